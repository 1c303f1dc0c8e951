/-! ===== A METHOD'S RUN over ids: what is fixed, what moves, what it owes; a row an instruction ===== -/
/-- launch, numbers of the classes and their slots, numbers of the array classes, the heap's size when the law began -/
abbrev pw_E : Type := Launch × va_G × (Nat → ClassId) × Nat
/-- own class, name, bytes, locals, answer's type -/
abbrev pw_Y : Type := String × String × ByteArray × Nat × Option FieldType
/-- addresses of the first ids, how many, what is owed of an answer, of a throw -/
abbrev pw_K : Type := (Nat → Nat) × Nat × (Option Value → pz_H → Nat → Prop) × (String → pz_H → Nat → Prop)
def pw_A (E : pw_E) : Nat → Prop := fun q => E.2.2.2 ≤ q
def pw_tys (E : pw_E) : List (ClassId × FieldType) := (List.range pw_T.length).map (fun t => (E.2.2.1 t, pw_T.getD t .int))
theorem pw_tys_get {E : pw_E} {t : Nat} {ty : FieldType} (h : pw_T[t]? = some ty) : (pw_tys E)[t]? = some (E.2.2.1 t, ty) := by
  have hl := (List.getElem?_eq_some_iff.mp h).1
  unfold pw_tys
  rw [List.getElem?_map, List.getElem?_range hl]
  show some (E.2.2.1 t, pw_T.getD t .int) = _
  rw [List.getD_eq_getElem?_getD, h]
  rfl
/-- classes that arrays are made of -/
abbrev pw_O : List String := ["PaneHouse$Pane", "PaneHouse$Part"]
/-- what every method finds: sizes, tables, statics and strings that a throw reads -/
def pw_U (E : pw_E) (U : State) : Prop := E.2.2.2 ≤ U.heap.size ∧ va_K E.2.1 pw_cl (pw_tys E) U ∧ vx_Zq Bundle.tN "UNASSIGNED_STACK" Bundle.steD (pw_A E) U U.heap ∧ vx_Zq Bundle.tN "SUPPRESSED_SENTINEL" Bundle.listD (pw_A E) U U.heap ∧ (∀ w ∈ pw_N, va_Nw w U) ∧ (∀ z ∈ pw_S, ∃ sa, vk_R z.1 z.2.1 z.2.2 sa U) ∧ ∀ C ∈ pw_O, va_AO C U
def pw_F (E : pw_E) (Y : pw_Y) (p : Program) (s : State) (m : MethodId) (args : Array Value) (meth : Method) (c : Code) : Prop :=
  p.tables.exec = Jvm.exec ∧ c.code = Y.2.2.1 ∧ c.maxLocals = Y.2.2.2.1 ∧ meth.sig.returnType = Y.2.2.2.2 ∧ meth.locks = false ∧ meth.name = Y.2.1 ∧ s.vm.findClass Y.1 = some m.cls ∧ (∀ w ∈ pw_G, w.before args s = true) ∧ pw_U E s ∧ E.1.stackTraces = false ∧ ∀ x ∈ c.exceptionTable.toList, False
def pw_D (E : pw_E) (Y : pw_Y) (K : pw_K) (s : State) (H : Heap) (locs : List Loc) (L : Nat → Nat) (ls : Array Slot) (lv : List (Option Value)) (h : pz_H) (n : Nat) : Prop :=
  K.2.1 ≤ n ∧ pz_ag K.2.1 K.1 L ∧ pz_R E.2.1 pw_cl E.2.2.1 (pw_A E) L n h H ∧ va_S (pw_A E) s.heap H locs ∧ pz_lv L n Y.2.2.2.1 ls lv
def pw_Q (E : pw_E) (L0 : Nat → Nat) (n0 : Nat) (Q : Option Value → pz_H → Nat → Prop) : Array Value → State → Outcome → State → Prop := fun _ st o t =>
  ∃ (L : Nat → Nat) (r : Option Value) (h : pz_H) (n : Nat), o = .returned (r.map (pz_v L)) ∧ n0 ≤ n ∧ pz_ag n0 L0 L ∧ pz_ks n r.toList ∧ pz_R E.2.1 pw_cl E.2.2.1 (pw_A E) L n h t.heap ∧ Q r h n ∧ va_F (pw_A E) st t
def pw_X (E : pw_E) (L0 : Nat → Nat) (n0 : Nat) (X : String → pz_H → Nat → Prop) : String → State → State → Prop := fun C st t =>
  ∃ (L : Nat → Nat) (h : pz_H) (n : Nat), n0 ≤ n ∧ pz_ag n0 L0 L ∧ pz_R E.2.1 pw_cl E.2.2.1 (pw_A E) L n h t.heap ∧ X C h n ∧ va_F (pw_A E) st t
/-- the run, from here on: locals lv, stack st, cells h with n ids; uc cells of us slots are made since the method began -/
def pw (E : pw_E) (Y : pw_Y) (R : Room) (K : pw_K) (uc us pc : Nat) (lv : List (Option Value)) (st : List Value) (h : pz_H) (n : Nat) : Prop :=
  ∀ (p : Program) (e : Env) (s : State) (m : MethodId) (args : Array Value) (below : List Frame) (meth : Method) (c : Code) (H : Heap) (locs : List Loc) (L : Nat → Nat) (ls : Array Slot),
    pw_F E Y p s m args meth c → pw_D E Y K s H locs L ls lv h n → pz_ks n st →
    W p E.1 e R s m args below meth c H locs uc us (vx_MQ below (pw_Q E K.1 K.2.1 K.2.2.1) (pw_X E K.1 K.2.1 K.2.2.2) args s R.cells R.slots (pw_A E)) (F0 m pc ls (st.map (pz_v L)))
section PW
variable {E : pw_E} {Y : pw_Y} {R : Room} {K : pw_K} {uc us pc : Nat} {lv : List (Option Value)} {st : List Value} {h : pz_H} {n : Nat}
theorem pw_iconst {k : Int} {v : Int32} (hd : decode Y.2.2.1 pc = .ok (.iconst k, 1)) (hv : Int32.ofInt k = v) (kk : pw E Y R K uc us (pc + 1) lv (.int v :: st) h n) : pw E Y R K uc us pc lv st h n :=
  fun p e s m args below meth c H locs L ls F d ks => lv_iconst F.1 F.2.1 hd hv (kk p e s m args below meth c H locs L ls F d ⟨trivial, ks⟩)
theorem pw_bipush {k : Int} {v : Int32} (hd : decode Y.2.2.1 pc = .ok (.bipush k, 2)) (hv : (Int8.ofInt k).toInt32 = v) (kk : pw E Y R K uc us (pc + 2) lv (.int v :: st) h n) : pw E Y R K uc us pc lv st h n :=
  fun p e s m args below meth c H locs L ls F d ks => lv_bipush F.1 F.2.1 hd hv (kk p e s m args below meth c H locs L ls F d ⟨trivial, ks⟩)
theorem pw_sipush {k : Int} {v : Int32} (hd : decode Y.2.2.1 pc = .ok (.sipush k, 3)) (hv : (Int16.ofInt k).toInt32 = v) (kk : pw E Y R K uc us (pc + 3) lv (.int v :: st) h n) : pw E Y R K uc us pc lv st h n :=
  fun p e s m args below meth c H locs L ls F d ks => lv_sipush F.1 F.2.1 hd hv (kk p e s m args below meth c H locs L ls F d ⟨trivial, ks⟩)
theorem pw_null (hd : decode Y.2.2.1 pc = .ok (.aconst_null, 1)) (kk : pw E Y R K uc us (pc + 1) lv (.null :: st) h n) : pw E Y R K uc us pc lv st h n :=
  fun p e s m args below meth c H locs L ls F d ks => lv_null F.1 F.2.1 hd (kk p e s m args below meth c H locs L ls F d ⟨trivial, ks⟩)
theorem pw_iload_n {k : Fin 4} {x : Int32} (hd : decode Y.2.2.1 pc = .ok (.iload_n k, 1)) (hv : lv[(k : Nat)]? = some (some (.int x))) (kk : pw E Y R K uc us (pc + 1) lv (.int x :: st) h n) : pw E Y R K uc us pc lv st h n :=
  fun p e s m args below meth c H locs L ls F d ks => lv_iload_n F.1 F.2.1 hd rfl (pz_lv_at d.2.2.2.2 hv) (kk p e s m args below meth c H locs L ls F d ⟨trivial, ks⟩)
theorem pw_iload {i : Nat} {x : Int32} (hd : decode Y.2.2.1 pc = .ok (.iload i, 2)) (hv : lv[i]? = some (some (.int x))) (kk : pw E Y R K uc us (pc + 2) lv (.int x :: st) h n) : pw E Y R K uc us pc lv st h n :=
  fun p e s m args below meth c H locs L ls F d ks => lv_iload F.1 F.2.1 hd (pz_lv_at d.2.2.2.2 hv) (kk p e s m args below meth c H locs L ls F d ⟨trivial, ks⟩)
theorem pw_lload_n {k : Fin 4} {x : Int64} (hd : decode Y.2.2.1 pc = .ok (.lload_n k, 1)) (hv : lv[(k : Nat)]? = some (some (.long x))) (kk : pw E Y R K uc us (pc + 1) lv (.long x :: st) h n) : pw E Y R K uc us pc lv st h n :=
  fun p e s m args below meth c H locs L ls F d ks => lv_lload_n F.1 F.2.1 hd rfl (pz_lv_at d.2.2.2.2 hv) (kk p e s m args below meth c H locs L ls F d ⟨trivial, ks⟩)
theorem pw_aload_n {k : Fin 4} {x : Nat} (hd : decode Y.2.2.1 pc = .ok (.aload_n k, 1)) (hv : lv[(k : Nat)]? = some (some (.ref x))) (kk : pw E Y R K uc us (pc + 1) lv (.ref x :: st) h n) : pw E Y R K uc us pc lv st h n :=
  fun p e s m args below meth c H locs L ls F d ks => lv_aload_n F.1 F.2.1 hd rfl (pz_lv_at d.2.2.2.2 hv) (kk p e s m args below meth c H locs L ls F d ⟨d.2.2.2.2.2 _ _ hv, ks⟩)
theorem pw_aload {i : Nat} {x : Nat} (hd : decode Y.2.2.1 pc = .ok (.aload i, 2)) (hv : lv[i]? = some (some (.ref x))) (kk : pw E Y R K uc us (pc + 2) lv (.ref x :: st) h n) : pw E Y R K uc us pc lv st h n :=
  fun p e s m args below meth c H locs L ls F d ks => lv_aload F.1 F.2.1 hd (pz_lv_at d.2.2.2.2 hv) (kk p e s m args below meth c H locs L ls F d ⟨d.2.2.2.2.2 _ _ hv, ks⟩)
theorem pw_aload_nN {k : Fin 4} (hd : decode Y.2.2.1 pc = .ok (.aload_n k, 1)) (hv : lv[(k : Nat)]? = some (some .null)) (kk : pw E Y R K uc us (pc + 1) lv (.null :: st) h n) : pw E Y R K uc us pc lv st h n :=
  fun p e s m args below meth c H locs L ls F d ks => lv_aload_nN F.1 F.2.1 hd rfl (pz_lv_at d.2.2.2.2 hv) (kk p e s m args below meth c H locs L ls F d ⟨trivial, ks⟩)
theorem pw_aloadN {i : Nat} (hd : decode Y.2.2.1 pc = .ok (.aload i, 2)) (hv : lv[i]? = some (some .null)) (kk : pw E Y R K uc us (pc + 2) lv (.null :: st) h n) : pw E Y R K uc us pc lv st h n :=
  fun p e s m args below meth c H locs L ls F d ks => lv_aloadN F.1 F.2.1 hd (pz_lv_at d.2.2.2.2 hv) (kk p e s m args below meth c H locs L ls F d ⟨trivial, ks⟩)
theorem pw_d_set {s : State} {H : Heap} {locs : List Loc} {L : Nat → Nat} {ls ls' : Array Slot} {i : Nat} {v : Value} (d : pw_D E Y K s H locs L ls lv h n) (hc : pz_c1 lv i = true) (hv : pz_k n v) (h' : lv_has ls' Y.2.2.2.1 ((i, pz_v L v) :: (pz_al L lv).filter (fun q => !(q.1 == i) && !(q.1 + 1 == i && q.2.category == 2)))) : pw_D E Y K s H locs L ls' (lv.set i (some v)) h n :=
  ⟨d.1, d.2.1, d.2.2.1, d.2.2.2.1, pz_lv_set d.2.2.2.2 hc hv h'⟩
theorem pw_istore_n {k : Fin 4} {x : Int32} {lv' : List (Option Value)} (hd : decode Y.2.2.1 pc = .ok (.istore_n k, 1)) (hi : (k : Nat) < Y.2.2.2.1) (hc : pz_c1 lv k = true) (hl : lv.set k (some (.int x)) = lv') (kk : pw E Y R K uc us (pc + 1) lv' st h n) : pw E Y R K uc us pc lv (.int x :: st) h n :=
  fun p e s m args below meth c H locs L ls F d ks => lv_istore_n F.1 F.2.1 hd rfl d.2.2.2.2.1 hi rfl (fun ls' h' => kk p e s m args below meth c H locs L ls' F (hl ▸ pw_d_set (v := .int x) d hc trivial h') ks.2)
theorem pw_istore {i : Nat} {x : Int32} {lv' : List (Option Value)} (hd : decode Y.2.2.1 pc = .ok (.istore i, 2)) (hi : i < Y.2.2.2.1) (hc : pz_c1 lv i = true) (hl : lv.set i (some (.int x)) = lv') (kk : pw E Y R K uc us (pc + 2) lv' st h n) : pw E Y R K uc us pc lv (.int x :: st) h n :=
  fun p e s m args below meth c H locs L ls F d ks => lv_istore F.1 F.2.1 hd d.2.2.2.2.1 hi rfl (fun ls' h' => kk p e s m args below meth c H locs L ls' F (hl ▸ pw_d_set (v := .int x) d hc trivial h') ks.2)
theorem pw_astore_n {k : Fin 4} {x : Nat} {lv' : List (Option Value)} (hd : decode Y.2.2.1 pc = .ok (.astore_n k, 1)) (hi : (k : Nat) < Y.2.2.2.1) (hc : pz_c1 lv k = true) (hl : lv.set k (some (.ref x)) = lv') (kk : pw E Y R K uc us (pc + 1) lv' st h n) : pw E Y R K uc us pc lv (.ref x :: st) h n :=
  fun p e s m args below meth c H locs L ls F d ks => lv_astore_n F.1 F.2.1 hd rfl d.2.2.2.2.1 hi rfl (fun ls' h' => kk p e s m args below meth c H locs L ls' F (hl ▸ pw_d_set (v := .ref x) d hc ks.1 h') ks.2)
theorem pw_astore {i : Nat} {x : Nat} {lv' : List (Option Value)} (hd : decode Y.2.2.1 pc = .ok (.astore i, 2)) (hi : i < Y.2.2.2.1) (hc : pz_c1 lv i = true) (hl : lv.set i (some (.ref x)) = lv') (kk : pw E Y R K uc us (pc + 2) lv' st h n) : pw E Y R K uc us pc lv (.ref x :: st) h n :=
  fun p e s m args below meth c H locs L ls F d ks => lv_astore F.1 F.2.1 hd d.2.2.2.2.1 hi rfl (fun ls' h' => kk p e s m args below meth c H locs L ls' F (hl ▸ pw_d_set (v := .ref x) d hc ks.1 h') ks.2)
theorem pw_astore_nN {k : Fin 4} {lv' : List (Option Value)} (hd : decode Y.2.2.1 pc = .ok (.astore_n k, 1)) (hi : (k : Nat) < Y.2.2.2.1) (hc : pz_c1 lv k = true) (hl : lv.set k (some .null) = lv') (kk : pw E Y R K uc us (pc + 1) lv' st h n) : pw E Y R K uc us pc lv (.null :: st) h n :=
  fun p e s m args below meth c H locs L ls F d ks => lv_astore_nN F.1 F.2.1 hd rfl d.2.2.2.2.1 hi rfl (fun ls' h' => kk p e s m args below meth c H locs L ls' F (hl ▸ pw_d_set (v := .null) d hc trivial h') ks.2)
theorem pw_astoreN {i : Nat} {lv' : List (Option Value)} (hd : decode Y.2.2.1 pc = .ok (.astore i, 2)) (hi : i < Y.2.2.2.1) (hc : pz_c1 lv i = true) (hl : lv.set i (some .null) = lv') (kk : pw E Y R K uc us (pc + 2) lv' st h n) : pw E Y R K uc us pc lv (.null :: st) h n :=
  fun p e s m args below meth c H locs L ls F d ks => lv_astoreN F.1 F.2.1 hd d.2.2.2.2.1 hi rfl (fun ls' h' => kk p e s m args below meth c H locs L ls' F (hl ▸ pw_d_set (v := .null) d hc trivial h') ks.2)
theorem pw_iinc {i : Nat} {k : Int} {x v : Int32} {lv' : List (Option Value)} (hd : decode Y.2.2.1 pc = .ok (.iinc i k, 3)) (hx : lv[i]? = some (some (.int x))) (hv : x + Int32.ofInt k = v) (hi : i < Y.2.2.2.1) (hc : pz_c1 lv i = true) (hl : lv.set i (some (.int v)) = lv') (kk : pw E Y R K uc us (pc + 3) lv' st h n) : pw E Y R K uc us pc lv st h n :=
  fun p e s m args below meth c H locs L ls F d ks => by
    obtain ⟨j, hj⟩ := List.getElem?_of_mem (pz_al_mem (L := L) (q := (i, .int x)) |>.mpr ⟨_, hx, rfl⟩)
    exact lv_iinc (k := j) F.1 F.2.1 hd d.2.2.2.2.1 hj hv hi rfl (fun ls' h' => kk p e s m args below meth c H locs L ls' F (hl ▸ pw_d_set (v := .int v) d hc trivial h') ks)
theorem pw_iadd {x y : Int32} (hd : decode Y.2.2.1 pc = .ok (.iadd, 1)) (kk : pw E Y R K uc us (pc + 1) lv (.int (x + y) :: st) h n) : pw E Y R K uc us pc lv (.int y :: .int x :: st) h n :=
  fun p e s m args below meth c H locs L ls F d ks => lv_iadd F.1 F.2.1 hd (kk p e s m args below meth c H locs L ls F d ⟨trivial, ks.2.2⟩)
theorem pw_isub {x y : Int32} (hd : decode Y.2.2.1 pc = .ok (.isub, 1)) (kk : pw E Y R K uc us (pc + 1) lv (.int (x - y) :: st) h n) : pw E Y R K uc us pc lv (.int y :: .int x :: st) h n :=
  fun p e s m args below meth c H locs L ls F d ks => lv_isub F.1 F.2.1 hd (kk p e s m args below meth c H locs L ls F d ⟨trivial, ks.2.2⟩)
theorem pw_imul {x y : Int32} (hd : decode Y.2.2.1 pc = .ok (.imul, 1)) (kk : pw E Y R K uc us (pc + 1) lv (.int (x * y) :: st) h n) : pw E Y R K uc us pc lv (.int y :: .int x :: st) h n :=
  fun p e s m args below meth c H locs L ls F d ks => lv_imul F.1 F.2.1 hd (kk p e s m args below meth c H locs L ls F d ⟨trivial, ks.2.2⟩)
theorem pw_iand {x y : Int32} (hd : decode Y.2.2.1 pc = .ok (.iand, 1)) (kk : pw E Y R K uc us (pc + 1) lv (.int (x &&& y) :: st) h n) : pw E Y R K uc us pc lv (.int y :: .int x :: st) h n :=
  fun p e s m args below meth c H locs L ls F d ks => lv_iand F.1 F.2.1 hd (kk p e s m args below meth c H locs L ls F d ⟨trivial, ks.2.2⟩)
theorem pw_ior {x y : Int32} (hd : decode Y.2.2.1 pc = .ok (.ior, 1)) (kk : pw E Y R K uc us (pc + 1) lv (.int (x ||| y) :: st) h n) : pw E Y R K uc us pc lv (.int y :: .int x :: st) h n :=
  fun p e s m args below meth c H locs L ls F d ks => lv_ior F.1 F.2.1 hd (kk p e s m args below meth c H locs L ls F d ⟨trivial, ks.2.2⟩)
theorem pw_ixor {x y : Int32} (hd : decode Y.2.2.1 pc = .ok (.ixor, 1)) (kk : pw E Y R K uc us (pc + 1) lv (.int (x ^^^ y) :: st) h n) : pw E Y R K uc us pc lv (.int y :: .int x :: st) h n :=
  fun p e s m args below meth c H locs L ls F d ks => lv_ixor F.1 F.2.1 hd (kk p e s m args below meth c H locs L ls F d ⟨trivial, ks.2.2⟩)
theorem pw_ishl {x y : Int32} (hd : decode Y.2.2.1 pc = .ok (.ishl, 1)) (kk : pw E Y R K uc us (pc + 1) lv (.int (x <<< (y &&& 31)) :: st) h n) : pw E Y R K uc us pc lv (.int y :: .int x :: st) h n :=
  fun p e s m args below meth c H locs L ls F d ks => lv_ishl F.1 F.2.1 hd (kk p e s m args below meth c H locs L ls F d ⟨trivial, ks.2.2⟩)
theorem pw_ishr {x y : Int32} (hd : decode Y.2.2.1 pc = .ok (.ishr, 1)) (kk : pw E Y R K uc us (pc + 1) lv (.int (x >>> (y &&& 31)) :: st) h n) : pw E Y R K uc us pc lv (.int y :: .int x :: st) h n :=
  fun p e s m args below meth c H locs L ls F d ks => lv_ishr F.1 F.2.1 hd (kk p e s m args below meth c H locs L ls F d ⟨trivial, ks.2.2⟩)
theorem pw_idiv {x y : Int32} (hd : decode Y.2.2.1 pc = .ok (.idiv, 1)) (hne : ¬ y = 0) (kk : pw E Y R K uc us (pc + 1) lv (.int (x / y) :: st) h n) : pw E Y R K uc us pc lv (.int y :: .int x :: st) h n :=
  fun p e s m args below meth c H locs L ls F d ks => lv_idiv F.1 F.2.1 hd hne (kk p e s m args below meth c H locs L ls F d ⟨trivial, ks.2.2⟩)
theorem pw_irem {x y : Int32} (hd : decode Y.2.2.1 pc = .ok (.irem, 1)) (hne : ¬ y = 0) (kk : pw E Y R K uc us (pc + 1) lv (.int (x - x / y * y) :: st) h n) : pw E Y R K uc us pc lv (.int y :: .int x :: st) h n :=
  fun p e s m args below meth c H locs L ls F d ks => lv_irem F.1 F.2.1 hd hne (kk p e s m args below meth c H locs L ls F d ⟨trivial, ks.2.2⟩)
theorem pw_ineg {x : Int32} (hd : decode Y.2.2.1 pc = .ok (.ineg, 1)) (kk : pw E Y R K uc us (pc + 1) lv (.int (-x) :: st) h n) : pw E Y R K uc us pc lv (.int x :: st) h n :=
  fun p e s m args below meth c H locs L ls F d ks => lv_ineg F.1 F.2.1 hd (kk p e s m args below meth c H locs L ls F d ⟨trivial, ks.2⟩)
theorem pw_l2i {x : Int64} (hd : decode Y.2.2.1 pc = .ok (.l2i, 1)) (kk : pw E Y R K uc us (pc + 1) lv (.int x.toInt32 :: st) h n) : pw E Y R K uc us pc lv (.long x :: st) h n :=
  fun p e s m args below meth c H locs L ls F d ks => lv_l2i F.1 F.2.1 hd rfl (kk p e s m args below meth c H locs L ls F d ⟨trivial, ks.2⟩)
theorem pw_i2l {x : Int32} (hd : decode Y.2.2.1 pc = .ok (.i2l, 1)) (kk : pw E Y R K uc us (pc + 1) lv (.long x.toInt64 :: st) h n) : pw E Y R K uc us pc lv (.int x :: st) h n :=
  fun p e s m args below meth c H locs L ls F d ks => lv_i2l F.1 F.2.1 hd rfl (kk p e s m args below meth c H locs L ls F d ⟨trivial, ks.2⟩)
theorem pw_lshr {x : Int64} {y : Int32} (hd : decode Y.2.2.1 pc = .ok (.lshr, 1)) (kk : pw E Y R K uc us (pc + 1) lv (.long (x >>> (y.toInt64 &&& 63)) :: st) h n) : pw E Y R K uc us pc lv (.int y :: .long x :: st) h n :=
  fun p e s m args below meth c H locs L ls F d ks => lv_lshr F.1 F.2.1 hd rfl (kk p e s m args below meth c H locs L ls F d ⟨trivial, ks.2.2⟩)
theorem pw_lcmp {x y : Int64} (hd : decode Y.2.2.1 pc = .ok (.lcmp, 1)) (kk : pw E Y R K uc us (pc + 1) lv (.int (lg_cmp x y) :: st) h n) : pw E Y R K uc us pc lv (.long y :: .long x :: st) h n :=
  fun p e s m args below meth c H locs L ls F d ks => W.lcmp F.1 F.2.1 hd (kk p e s m args below meth c H locs L ls F d ⟨trivial, ks.2.2⟩)
theorem pz_cat (L : Nat → Nat) (v : Value) : (pz_v L v).category = v.category := by cases v <;> rfl
theorem pw_dup {v : Value} (hd : decode Y.2.2.1 pc = .ok (.dup, 1)) (hv : v.category = 1) (kk : pw E Y R K uc us (pc + 1) lv (v :: v :: st) h n) : pw E Y R K uc us pc lv (v :: st) h n :=
  fun p e s m args below meth c H locs L ls F d ks => lv_dup F.1 F.2.1 hd ((pz_cat L v).trans hv) (kk p e s m args below meth c H locs L ls F d ⟨ks.1, ks.1, ks.2⟩)
theorem pw_pop {v : Value} (hd : decode Y.2.2.1 pc = .ok (.pop, 1)) (hv : v.category = 1) (kk : pw E Y R K uc us (pc + 1) lv st h n) : pw E Y R K uc us pc lv (v :: st) h n :=
  fun p e s m args below meth c H locs L ls F d ks => lv_pop F.1 F.2.1 hd ((pz_cat L v).trans hv) (kk p e s m args below meth c H locs L ls F d ks.2)
theorem pw_dup_x1 {v w : Value} (hd : decode Y.2.2.1 pc = .ok (.dup_x1, 1)) (hv : v.category = 1) (hw : w.category = 1) (kk : pw E Y R K uc us (pc + 1) lv (v :: w :: v :: st) h n) : pw E Y R K uc us pc lv (v :: w :: st) h n :=
  fun p e s m args below meth c H locs L ls F d ks => lv_dup_x1 F.1 F.2.1 hd ((pz_cat L v).trans hv) ((pz_cat L w).trans hw) (kk p e s m args below meth c H locs L ls F d ⟨ks.1, ks.2.1, ks.1, ks.2.2⟩)
theorem pw_dup2 {v w : Value} (hd : decode Y.2.2.1 pc = .ok (.dup2, 1)) (hv : v.category = 1) (hw : w.category = 1) (kk : pw E Y R K uc us (pc + 1) lv (v :: w :: v :: w :: st) h n) : pw E Y R K uc us pc lv (v :: w :: st) h n :=
  fun p e s m args below meth c H locs L ls F d ks => lv_dup2_11 F.1 F.2.1 hd ((pz_cat L v).trans hv) ((pz_cat L w).trans hw) (kk p e s m args below meth c H locs L ls F d ⟨ks.1, ks.2.1, ks.1, ks.2.1, ks.2.2⟩)
theorem pw_ziadd {a b : Int} (hd : decode Y.2.2.1 pc = .ok (.iadd, 1)) (kk : pw E Y R K uc us (pc + 1) lv (.int (zI (a + b)) :: st) h n) : pw E Y R K uc us pc lv (.int (zI b) :: .int (zI a) :: st) h n :=
  pw_iadd hd (by rw [zI_add]; exact kk)
theorem pw_zisub {a b : Int} (hd : decode Y.2.2.1 pc = .ok (.isub, 1)) (kk : pw E Y R K uc us (pc + 1) lv (.int (zI (a - b)) :: st) h n) : pw E Y R K uc us pc lv (.int (zI b) :: .int (zI a) :: st) h n :=
  pw_isub hd (by rw [zI_sub]; exact kk)
theorem pw_zimul {a b : Int} (hd : decode Y.2.2.1 pc = .ok (.imul, 1)) (kk : pw E Y R K uc us (pc + 1) lv (.int (zI (a * b)) :: st) h n) : pw E Y R K uc us pc lv (.int (zI b) :: .int (zI a) :: st) h n :=
  pw_imul hd (by rw [zI_mul]; exact kk)
theorem pw_zineg {a : Int} (hd : decode Y.2.2.1 pc = .ok (.ineg, 1)) (kk : pw E Y R K uc us (pc + 1) lv (.int (zI (-a)) :: st) h n) : pw E Y R K uc us pc lv (.int (zI a) :: st) h n :=
  pw_ineg hd (by rw [zI_neg]; exact kk)
theorem pw_zidiv {a b : Int} (hd : decode Y.2.2.1 pc = .ok (.idiv, 1)) (ha : 0 ≤ a ∧ a < 2147483648) (hb : 0 < b ∧ b < 2147483648) (kk : pw E Y R K uc us (pc + 1) lv (.int (zI (a / b)) :: st) h n) : pw E Y R K uc us pc lv (.int (zI b) :: .int (zI a) :: st) h n :=
  pw_idiv hd (fun z => by rw [zI_0, zI_eq (by omega) (by omega)] at z; omega) (by rw [zI_div ha.1 ha.2 hb.1 hb.2]; exact kk)
theorem pw_zirem {a b : Int} (hd : decode Y.2.2.1 pc = .ok (.irem, 1)) (ha : 0 ≤ a ∧ a < 2147483648) (hb : 0 < b ∧ b < 2147483648) (kk : pw E Y R K uc us (pc + 1) lv (.int (zI (a % b)) :: st) h n) : pw E Y R K uc us pc lv (.int (zI b) :: .int (zI a) :: st) h n :=
  pw_irem hd (fun z => by rw [zI_0, zI_eq (by omega) (by omega)] at z; omega) (by rw [zI_rem ha.1 ha.2 hb.1 hb.2]; exact kk)
theorem pw_ziinc {i : Nat} {k a : Int} {lv' : List (Option Value)} (hd : decode Y.2.2.1 pc = .ok (.iinc i k, 3)) (hx : lv[i]? = some (some (.int (zI a)))) (hi : i < Y.2.2.2.1) (hc : pz_c1 lv i = true) (hl : lv.set i (some (.int (zI (a + k)))) = lv') (kk : pw E Y R K uc us (pc + 3) lv' st h n) : pw E Y R K uc us pc lv st h n :=
  pw_iinc hd hx (zI_add a k) hi hc hl kk
theorem pw_icmp_eq {a b off : Int} {tgt : Nat} (hd : decode Y.2.2.1 pc = .ok (.if_icmp .eq off, 3)) (ht : (pc : Int) + off = (tgt : Int)) (ha : -2147483648 ≤ a ∧ a < 2147483648) (hb : -2147483648 ≤ b ∧ b < 2147483648) (kt : a = b → pw E Y R K uc us tgt lv st h n) (kf : ¬ a = b → pw E Y R K uc us (pc + 3) lv st h n) : pw E Y R K uc us pc lv (.int (zI b) :: .int (zI a) :: st) h n :=
  fun p e s m args below meth c H locs L ls F d ks => lv_icmp_eq F.1 F.2.1 hd ht (fun z => kt ((zI_eq ha hb).mp z) p e s m args below meth c H locs L ls F d ks.2.2) (fun z => kf (fun q => z ((zI_eq ha hb).mpr q)) p e s m args below meth c H locs L ls F d ks.2.2)
theorem pw_if_eq {a off : Int} {tgt : Nat} (hd : decode Y.2.2.1 pc = .ok (.ifCond .eq off, 3)) (ht : (pc : Int) + off = (tgt : Int)) (ha : -2147483648 ≤ a ∧ a < 2147483648) (kt : a = 0 → pw E Y R K uc us tgt lv st h n) (kf : ¬ a = 0 → pw E Y R K uc us (pc + 3) lv st h n) : pw E Y R K uc us pc lv (.int (zI a) :: st) h n :=
  fun p e s m args below meth c H locs L ls F d ks => by
    have hb : -2147483648 ≤ (0 : Int) ∧ (0 : Int) < 2147483648 := by omega
    exact lv_if_eq F.1 F.2.1 hd ht (fun z => kt ((zI_eq ha hb).mp z) p e s m args below meth c H locs L ls F d ks.2) (fun z => kf (fun q => z ((zI_eq ha hb).mpr q)) p e s m args below meth c H locs L ls F d ks.2)
theorem pw_icmp_ne {a b off : Int} {tgt : Nat} (hd : decode Y.2.2.1 pc = .ok (.if_icmp .ne off, 3)) (ht : (pc : Int) + off = (tgt : Int)) (ha : -2147483648 ≤ a ∧ a < 2147483648) (hb : -2147483648 ≤ b ∧ b < 2147483648) (kt : ¬ a = b → pw E Y R K uc us tgt lv st h n) (kf : a = b → pw E Y R K uc us (pc + 3) lv st h n) : pw E Y R K uc us pc lv (.int (zI b) :: .int (zI a) :: st) h n :=
  fun p e s m args below meth c H locs L ls F d ks => lv_icmp_ne F.1 F.2.1 hd ht (fun z => kt (fun q => z ((zI_eq ha hb).mpr q)) p e s m args below meth c H locs L ls F d ks.2.2) (fun z => kf ((zI_eq ha hb).mp z) p e s m args below meth c H locs L ls F d ks.2.2)
theorem pw_if_ne {a off : Int} {tgt : Nat} (hd : decode Y.2.2.1 pc = .ok (.ifCond .ne off, 3)) (ht : (pc : Int) + off = (tgt : Int)) (ha : -2147483648 ≤ a ∧ a < 2147483648) (kt : ¬ a = 0 → pw E Y R K uc us tgt lv st h n) (kf : a = 0 → pw E Y R K uc us (pc + 3) lv st h n) : pw E Y R K uc us pc lv (.int (zI a) :: st) h n :=
  fun p e s m args below meth c H locs L ls F d ks => by
    have hb : -2147483648 ≤ (0 : Int) ∧ (0 : Int) < 2147483648 := by omega
    exact lv_if_ne F.1 F.2.1 hd ht (fun z => kt (fun q => z ((zI_eq ha hb).mpr q)) p e s m args below meth c H locs L ls F d ks.2) (fun z => kf ((zI_eq ha hb).mp z) p e s m args below meth c H locs L ls F d ks.2)
theorem pw_icmp_lt {a b off : Int} {tgt : Nat} (hd : decode Y.2.2.1 pc = .ok (.if_icmp .lt off, 3)) (ht : (pc : Int) + off = (tgt : Int)) (ha : -2147483648 ≤ a ∧ a < 2147483648) (hb : -2147483648 ≤ b ∧ b < 2147483648) (kt : a < b → pw E Y R K uc us tgt lv st h n) (kf : b ≤ a → pw E Y R K uc us (pc + 3) lv st h n) : pw E Y R K uc us pc lv (.int (zI b) :: .int (zI a) :: st) h n :=
  fun p e s m args below meth c H locs L ls F d ks => lv_icmp_lt F.1 F.2.1 hd ht (fun z => kt ((zI_lt ha hb).mp z) p e s m args below meth c H locs L ls F d ks.2.2) (fun z => kf (Int.not_lt.mp (fun q => z ((zI_lt ha hb).mpr q))) p e s m args below meth c H locs L ls F d ks.2.2)
theorem pw_if_lt {a off : Int} {tgt : Nat} (hd : decode Y.2.2.1 pc = .ok (.ifCond .lt off, 3)) (ht : (pc : Int) + off = (tgt : Int)) (ha : -2147483648 ≤ a ∧ a < 2147483648) (kt : a < 0 → pw E Y R K uc us tgt lv st h n) (kf : 0 ≤ a → pw E Y R K uc us (pc + 3) lv st h n) : pw E Y R K uc us pc lv (.int (zI a) :: st) h n :=
  fun p e s m args below meth c H locs L ls F d ks => by
    have hb : -2147483648 ≤ (0 : Int) ∧ (0 : Int) < 2147483648 := by omega
    exact lv_if_lt F.1 F.2.1 hd ht (fun z => kt ((zI_lt ha hb).mp z) p e s m args below meth c H locs L ls F d ks.2) (fun z => kf (Int.not_lt.mp (fun q => z ((zI_lt ha hb).mpr q))) p e s m args below meth c H locs L ls F d ks.2)
theorem pw_icmp_ge {a b off : Int} {tgt : Nat} (hd : decode Y.2.2.1 pc = .ok (.if_icmp .ge off, 3)) (ht : (pc : Int) + off = (tgt : Int)) (ha : -2147483648 ≤ a ∧ a < 2147483648) (hb : -2147483648 ≤ b ∧ b < 2147483648) (kt : b ≤ a → pw E Y R K uc us tgt lv st h n) (kf : a < b → pw E Y R K uc us (pc + 3) lv st h n) : pw E Y R K uc us pc lv (.int (zI b) :: .int (zI a) :: st) h n :=
  fun p e s m args below meth c H locs L ls F d ks => lv_icmp_ge F.1 F.2.1 hd ht (fun z => kt ((zI_le hb ha).mp z) p e s m args below meth c H locs L ls F d ks.2.2) (fun z => kf (Int.not_le.mp (fun q => z ((zI_le hb ha).mpr q))) p e s m args below meth c H locs L ls F d ks.2.2)
theorem pw_if_ge {a off : Int} {tgt : Nat} (hd : decode Y.2.2.1 pc = .ok (.ifCond .ge off, 3)) (ht : (pc : Int) + off = (tgt : Int)) (ha : -2147483648 ≤ a ∧ a < 2147483648) (kt : 0 ≤ a → pw E Y R K uc us tgt lv st h n) (kf : a < 0 → pw E Y R K uc us (pc + 3) lv st h n) : pw E Y R K uc us pc lv (.int (zI a) :: st) h n :=
  fun p e s m args below meth c H locs L ls F d ks => by
    have hb : -2147483648 ≤ (0 : Int) ∧ (0 : Int) < 2147483648 := by omega
    exact lv_if_ge F.1 F.2.1 hd ht (fun z => kt ((zI_le hb ha).mp z) p e s m args below meth c H locs L ls F d ks.2) (fun z => kf (Int.not_le.mp (fun q => z ((zI_le hb ha).mpr q))) p e s m args below meth c H locs L ls F d ks.2)
theorem pw_icmp_gt {a b off : Int} {tgt : Nat} (hd : decode Y.2.2.1 pc = .ok (.if_icmp .gt off, 3)) (ht : (pc : Int) + off = (tgt : Int)) (ha : -2147483648 ≤ a ∧ a < 2147483648) (hb : -2147483648 ≤ b ∧ b < 2147483648) (kt : b < a → pw E Y R K uc us tgt lv st h n) (kf : a ≤ b → pw E Y R K uc us (pc + 3) lv st h n) : pw E Y R K uc us pc lv (.int (zI b) :: .int (zI a) :: st) h n :=
  fun p e s m args below meth c H locs L ls F d ks => lv_icmp_gt F.1 F.2.1 hd ht (fun z => kt ((zI_lt hb ha).mp z) p e s m args below meth c H locs L ls F d ks.2.2) (fun z => kf (Int.not_lt.mp (fun q => z ((zI_lt hb ha).mpr q))) p e s m args below meth c H locs L ls F d ks.2.2)
theorem pw_if_gt {a off : Int} {tgt : Nat} (hd : decode Y.2.2.1 pc = .ok (.ifCond .gt off, 3)) (ht : (pc : Int) + off = (tgt : Int)) (ha : -2147483648 ≤ a ∧ a < 2147483648) (kt : 0 < a → pw E Y R K uc us tgt lv st h n) (kf : a ≤ 0 → pw E Y R K uc us (pc + 3) lv st h n) : pw E Y R K uc us pc lv (.int (zI a) :: st) h n :=
  fun p e s m args below meth c H locs L ls F d ks => by
    have hb : -2147483648 ≤ (0 : Int) ∧ (0 : Int) < 2147483648 := by omega
    exact lv_if_gt F.1 F.2.1 hd ht (fun z => kt ((zI_lt hb ha).mp z) p e s m args below meth c H locs L ls F d ks.2) (fun z => kf (Int.not_lt.mp (fun q => z ((zI_lt hb ha).mpr q))) p e s m args below meth c H locs L ls F d ks.2)
theorem pw_icmp_le {a b off : Int} {tgt : Nat} (hd : decode Y.2.2.1 pc = .ok (.if_icmp .le off, 3)) (ht : (pc : Int) + off = (tgt : Int)) (ha : -2147483648 ≤ a ∧ a < 2147483648) (hb : -2147483648 ≤ b ∧ b < 2147483648) (kt : a ≤ b → pw E Y R K uc us tgt lv st h n) (kf : b < a → pw E Y R K uc us (pc + 3) lv st h n) : pw E Y R K uc us pc lv (.int (zI b) :: .int (zI a) :: st) h n :=
  fun p e s m args below meth c H locs L ls F d ks => lv_icmp_le F.1 F.2.1 hd ht (fun z => kt ((zI_le ha hb).mp z) p e s m args below meth c H locs L ls F d ks.2.2) (fun z => kf (Int.not_le.mp (fun q => z ((zI_le ha hb).mpr q))) p e s m args below meth c H locs L ls F d ks.2.2)
theorem pw_if_le {a off : Int} {tgt : Nat} (hd : decode Y.2.2.1 pc = .ok (.ifCond .le off, 3)) (ht : (pc : Int) + off = (tgt : Int)) (ha : -2147483648 ≤ a ∧ a < 2147483648) (kt : a ≤ 0 → pw E Y R K uc us tgt lv st h n) (kf : 0 < a → pw E Y R K uc us (pc + 3) lv st h n) : pw E Y R K uc us pc lv (.int (zI a) :: st) h n :=
  fun p e s m args below meth c H locs L ls F d ks => by
    have hb : -2147483648 ≤ (0 : Int) ∧ (0 : Int) < 2147483648 := by omega
    exact lv_if_le F.1 F.2.1 hd ht (fun z => kt ((zI_le ha hb).mp z) p e s m args below meth c H locs L ls F d ks.2) (fun z => kf (Int.not_le.mp (fun q => z ((zI_le ha hb).mpr q))) p e s m args below meth c H locs L ls F d ks.2)
theorem pw_goto {off : Int} {tgt : Nat} (hd : decode Y.2.2.1 pc = .ok (.goto off, 3)) (ht : (pc : Int) + off = (tgt : Int)) (kk : pw E Y R K uc us tgt lv st h n) : pw E Y R K uc us pc lv st h n :=
  fun p e s m args below meth c H locs L ls F d ks => lv_goto F.1 F.2.1 hd ht (kk p e s m args below meth c H locs L ls F d ks)
theorem pw_ifnonnull {x : Nat} {off : Int} {tgt : Nat} (hd : decode Y.2.2.1 pc = .ok (.ifnonnull off, 3)) (ht : (pc : Int) + off = (tgt : Int)) (kk : pw E Y R K uc us tgt lv st h n) : pw E Y R K uc us pc lv (.ref x :: st) h n :=
  fun p e s m args below meth c H locs L ls F d ks => lv_ifnonnull F.1 F.2.1 hd ht (kk p e s m args below meth c H locs L ls F d ks.2)
theorem pw_ifnonnullN {off : Int} (hd : decode Y.2.2.1 pc = .ok (.ifnonnull off, 3)) (kk : pw E Y R K uc us (pc + 3) lv st h n) : pw E Y R K uc us pc lv (.null :: st) h n :=
  fun p e s m args below meth c H locs L ls F d ks => lv_ifnonnullN F.1 F.2.1 hd (kk p e s m args below meth c H locs L ls F d ks.2)
theorem pw_ifnull {x : Nat} {off : Int} (hd : decode Y.2.2.1 pc = .ok (.ifnull off, 3)) (kk : pw E Y R K uc us (pc + 3) lv st h n) : pw E Y R K uc us pc lv (.ref x :: st) h n :=
  fun p e s m args below meth c H locs L ls F d ks => lv_ifnull F.1 F.2.1 hd (kk p e s m args below meth c H locs L ls F d ks.2)
theorem pw_ifnullN {off : Int} {tgt : Nat} (hd : decode Y.2.2.1 pc = .ok (.ifnull off, 3)) (ht : (pc : Int) + off = (tgt : Int)) (kk : pw E Y R K uc us tgt lv st h n) : pw E Y R K uc us pc lv (.null :: st) h n :=
  fun p e s m args below meth c H locs L ls F d ks => lv_ifnullN F.1 F.2.1 hd ht (kk p e s m args below meth c H locs L ls F d ks.2)
theorem pw_acmp_eq {x y : Nat} {off : Int} {tgt : Nat} (hd : decode Y.2.2.1 pc = .ok (.if_acmp .eq off, 3)) (ht : (pc : Int) + off = (tgt : Int)) (kt : x = y → pw E Y R K uc us tgt lv st h n) (kf : ¬ x = y → pw E Y R K uc us (pc + 3) lv st h n) : pw E Y R K uc us pc lv (.ref y :: .ref x :: st) h n :=
  fun p e s m args below meth c H locs L ls F d ks => lv_acmp_eq (rx := some (L x)) (ry := some (L y)) F.1 F.2.1 hd ht (fun z => kt (pz_inj d.2.2.1.2.1 ks.2.1 ks.1 (Option.some.inj z)) p e s m args below meth c H locs L ls F d ks.2.2) (fun z => kf (fun q => z (by rw [q])) p e s m args below meth c H locs L ls F d ks.2.2)
theorem pw_acmp_ne {x y : Nat} {off : Int} {tgt : Nat} (hd : decode Y.2.2.1 pc = .ok (.if_acmp .ne off, 3)) (ht : (pc : Int) + off = (tgt : Int)) (kt : ¬ x = y → pw E Y R K uc us tgt lv st h n) (kf : x = y → pw E Y R K uc us (pc + 3) lv st h n) : pw E Y R K uc us pc lv (.ref y :: .ref x :: st) h n :=
  fun p e s m args below meth c H locs L ls F d ks => lv_acmp_ne (rx := some (L x)) (ry := some (L y)) F.1 F.2.1 hd ht (fun z => kt (fun q => z (by rw [q])) p e s m args below meth c H locs L ls F d ks.2.2) (fun z => kf (pz_inj d.2.2.1.2.1 ks.2.1 ks.1 (Option.some.inj z)) p e s m args below meth c H locs L ls F d ks.2.2)
theorem pw_lookup {dflt : Int} {ps : Array (Int × Int)} {len : Nat} {a off : Int} {tgt : Nat} (hd : decode Y.2.2.1 pc = .ok (.lookupswitch dflt ps, len)) (hp : (ps.toList.zip (ps.toList.drop 1)).all (fun (a, next) => a.1 < next.1) = true) (ha : -2147483648 ≤ a ∧ a < 2147483648) (ho : Op.lookupswitch.offset ps.toList dflt a = off) (ht : (pc : Int) + off = (tgt : Int)) (kk : pw E Y R K uc us tgt lv st h n) : pw E Y R K uc us pc lv (.int (zI a) :: st) h n :=
  fun p e s m args below meth c H locs L ls F d ks => lv_lookup F.1 F.2.1 hd hp (by rw [zI_toInt ha.1 ha.2]; exact ho) ht (kk p e s m args below meth c H locs L ls F d ks.2)
theorem pw_tableOut {dflt lo hi : Int} {offs : Array Int} {len : Nat} {a : Int} {tgt : Nat} (hd : decode Y.2.2.1 pc = .ok (.tableswitch dflt lo hi offs, len)) (ha : -2147483648 ≤ a ∧ a < 2147483648) (hx : a < lo ∨ hi < a) (ht : (pc : Int) + dflt = (tgt : Int)) (kk : pw E Y R K uc us tgt lv st h n) : pw E Y R K uc us pc lv (.int (zI a) :: st) h n :=
  fun p e s m args below meth c H locs L ls F d ks => lv_tableOut F.1 F.2.1 hd (by rw [zI_toInt ha.1 ha.2]; exact hx) ht (kk p e s m args below meth c H locs L ls F d ks.2)
theorem pw_tableIn {dflt lo hi : Int} {offs : Array Int} {len : Nat} {a off : Int} {tgt : Nat} (hd : decode Y.2.2.1 pc = .ok (.tableswitch dflt lo hi offs, len)) (ha : -2147483648 ≤ a ∧ a < 2147483648) (h1 : lo ≤ a) (h2 : a ≤ hi) (ho : offs[(a - lo).toNat]? = some off) (ht : (pc : Int) + off = (tgt : Int)) (kk : pw E Y R K uc us tgt lv st h n) : pw E Y R K uc us pc lv (.int (zI a) :: st) h n :=
  fun p e s m args below meth c H locs L ls F d ks => lv_tableIn F.1 F.2.1 hd (by rw [zI_toInt ha.1 ha.2]; omega) (by rw [zI_toInt ha.1 ha.2]; omega) (by rw [zI_toInt ha.1 ha.2]; exact ho) ht (kk p e s m args below meth c H locs L ls F d ks.2)
theorem pwF_own {p : Program} {s : State} {m : MethodId} {args : Array Value} {meth : Method} {c : Code} (F : pw_F E Y p s m args meth c) : s.vm.findClass Y.1 = some m.cls := F.2.2.2.2.2.2.1
theorem pwF_w {p : Program} {s : State} {m : MethodId} {args : Array Value} {meth : Method} {c : Code} (F : pw_F E Y p s m args meth c) : ∀ w ∈ pw_G, w.before args s = true := F.2.2.2.2.2.2.2.1
theorem pwF_U {p : Program} {s : State} {m : MethodId} {args : Array Value} {meth : Method} {c : Code} (F : pw_F E Y p s m args meth c) : pw_U E s := F.2.2.2.2.2.2.2.2.1
theorem pwF_K {p : Program} {s : State} {m : MethodId} {args : Array Value} {meth : Method} {c : Code} (F : pw_F E Y p s m args meth c) : va_K E.2.1 pw_cl (pw_tys E) s := (pwF_U F).2.1
theorem pwF_N {p : Program} {s : State} {m : MethodId} {args : Array Value} {meth : Method} {c : Code} (F : pw_F E Y p s m args meth c) : ∀ w ∈ pw_N, va_Nw w s := (pwF_U F).2.2.2.2.1
theorem pwF_A {p : Program} {s : State} {m : MethodId} {args : Array Value} {meth : Method} {c : Code} (F : pw_F E Y p s m args meth c) : ∀ q : Nat, s.heap.size ≤ q → pw_A E q := fun _ hq => Nat.le_trans (pwF_U F).1 hq
/-- a class of the worlds: its number, name, fields, how many, their types -/
def pw_ok (ci : Nat) (C : String) (T : u_T) (N : Nat) (ty : Nat → FieldType) : Prop := pw_cl[ci]? = some (C, T, N) ∧ (∀ w ∈ u_ws C T N, w ∈ pw_G) ∧ (∀ k, k < N → parseFieldDescriptor (T k).2.2.1 = some (ty k)) ∧ ∀ a, a < N → ∀ b, b < N → a ≠ b → (T a).2.1 ≠ (T b).2.1
theorem pz_ks_set {n k : Nat} {v : Value} : ∀ {fs : List Value}, pz_ks n fs → pz_k n v → ∀ k, pz_ks n (fs.set k v)
  | [], _, _, _ => trivial
  | _ :: _, h, hv, 0 => ⟨hv, h.2⟩
  | _ :: _, h, hv, k + 1 => ⟨h.1, pz_ks_set (k := 0) (v := v) h.2 hv k⟩
theorem pz_nar {ty : FieldType} {v : Value} {L : Nat → Nat} (h : narrow ty v = v) : narrow ty (pz_v L v) = pz_v L v := by
  cases v <;> first | exact h | (cases ty <;> rfl)
theorem pz_fit {ty : FieldType} {v : Value} {L : Nat → Nat} (h : fits ty v = true) : fits ty (pz_v L v) = true := by
  cases v <;> first | exact h | (cases ty <;> first | rfl | cases h)
theorem pz_obj {cA : Nat → ClassId} {L : Nat → Nat} {a ci : Nat} {fs : List Value} (ha : a < n) (ho : h a = pz_o ci fs) : (pz_w cA L n h)[a]? = some (L a, .inr (ci, fs.map (pz_v L))) := by
  rw [pz_w_get ha, ho]; rfl
theorem pz_ints {cA : Nat → ClassId} {L : Nat → Nat} {a t N : Nat} {f : Nat → Int32} (ha : a < n) (ho : h a = pz_i t N f) : (pz_w cA L n h)[a]? = some (L a, .inl (cA t, N, .inl f)) := by
  rw [pz_w_get ha, ho]; rfl
theorem pz_longs {cA : Nat → ClassId} {L : Nat → Nat} {a t N : Nat} {f : Nat → Int64} (ha : a < n) (ho : h a = pz_j t N f) : (pz_w cA L n h)[a]? = some (L a, .inl (cA t, N, .inr (.inl f))) := by
  rw [pz_w_get ha, ho]; rfl
theorem pz_refs {cA : Nat → ClassId} {L : Nat → Nat} {a t N : Nat} {g : Nat → Option Nat} (ha : a < n) (ho : h a = pz_r t N g) : (pz_w cA L n h)[a]? = some (L a, .inl (cA t, N, .inr (.inr (.inr (.inr (fun j => (g j).map L)))))) := by
  rw [pz_w_get ha, ho]; rfl
theorem pz_of_obj {a ci : Nat} {fs : List Value} (hh : pz_kh n h) (ha : a < n) (ho : h a = pz_o ci fs) : pz_ks n fs := by
  have := hh a ha
  rw [ho] at this
  exact this
theorem pw_get {ci N k index a : Nat} {C : String} {T : u_T} {ty : Nat → FieldType} {fs : List Value} {v : Value} (hc : pw_ok ci C T N ty) (hk : k < N) (hlink : Cond.fieldLink Y.1 index (T k).1 (T k).2.1 (T k).2.2.1 ∈ pw_G) (ho : h a = pz_o ci fs) (hv : fs[k]? = some v) (hd : decode Y.2.2.1 pc = .ok (.getfield index, 3)) (kk : pw E Y R K uc us (pc + 3) lv (v :: st) h n) : pw E Y R K uc us pc lv (.ref a :: st) h n :=
  fun p e s m args below meth c H locs L ls F d ks => va_get (D := E.2.1) (v := pz_v L v) F.1 F.2.1 (pwF_w F) hc.2.1 (pwF_own F) (pwF_K F) d.2.2.1.1 a (pz_obj ks.1 ho) hc.1 k hk (pwF_w F _ hlink) (fun _ z => z) (by rw [List.getElem?_map, hv]; rfl) hd (kk p e s m args below meth c H locs L ls F d ⟨pz_ks_mem (pz_of_obj d.2.2.1.2.2 ks.1 ho) v (List.mem_of_getElem? hv), ks.2⟩)
theorem pw_getN {ci N k index a : Nat} {C host : String} {T : u_T} {ty : Nat → FieldType} {fs : List Value} {v : Value} (hc : pw_ok ci C T N ty) (hk : k < N) (hlink : Cond.fieldLinkNest Y.1 index (T k).1 (T k).2.1 (T k).2.2.1 host ∈ pw_N) (ho : h a = pz_o ci fs) (hv : fs[k]? = some v) (hd : decode Y.2.2.1 pc = .ok (.getfield index, 3)) (kk : pw E Y R K uc us (pc + 3) lv (v :: st) h n) : pw E Y R K uc us pc lv (.ref a :: st) h n :=
  fun p e s m args below meth c H locs L ls F d ks => va_getN (D := E.2.1) (v := pz_v L v) F.1 F.2.1 (pwF_w F) hc.2.1 (pwF_own F) (pwF_K F) d.2.2.1.1 a (pz_obj ks.1 ho) hc.1 k hk (va_Nw.use rfl (pwF_N F _ hlink)) (fun _ z => z) (by rw [List.getElem?_map, hv]; rfl) hd (kk p e s m args below meth c H locs L ls F d ⟨pz_ks_mem (pz_of_obj d.2.2.1.2.2 ks.1 ho) v (List.mem_of_getElem? hv), ks.2⟩)
theorem pw_d_up {s : State} {H H1 : Heap} {locs locs1 : List Loc} {L : Nat → Nat} {ls : Array Slot} {a : Nat} {x : pz_C} {e : va_E} (d : pw_D E Y K s H locs L ls lv h n) (ha : a < n) (he : pz_e E.2.2.1 L x = e) (hx : pz_kc n x) (hP : va_P E.2.1 pw_cl ((pz_w E.2.2.1 L n h).set a (L a, e)) H1) (hD : va_D (pw_A E) ((pz_w E.2.2.1 L n h).set a (L a, e))) (hS : va_S (pw_A E) s.heap H1 locs1) : pw_D E Y K s H1 locs1 L ls lv (va_up h a x) n := by
  rw [← he, pz_w_set ha] at hP hD
  exact ⟨d.1, d.2.1, ⟨hP, hD, pz_kh_up d.2.2.1.2.2 hx⟩, hS, d.2.2.2.2⟩
theorem pz_e_obj {cA : Nat → ClassId} {L : Nat → Nat} {ci k : Nat} {fs : List Value} {v : Value} : pz_e cA L (pz_o ci (fs.set k v)) = .inr (ci, (fs.map (pz_v L)).set k (pz_v L v)) := by
  show Sum.inr (ci, (fs.set k v).map (pz_v L)) = _
  rw [List.map_set]
theorem pw_put {ci N k index a : Nat} {C : String} {T : u_T} {ty : Nat → FieldType} {fs fs' : List Value} {v : Value} (hc : pw_ok ci C T N ty) (hk : k < N) (hlink : Cond.fieldLink Y.1 index (T k).1 (T k).2.1 (T k).2.2.1 ∈ pw_G) (hfin : (T k).2.2.2 = false) (hn : narrow (ty k) v = v) (hfit : fits (ty k) v = true) (ho : h a = pz_o ci fs) (hl : k < fs.length) (hf : fs.set k v = fs') (hd : decode Y.2.2.1 pc = .ok (.putfield index, 3)) (kk : pw E Y R K uc us (pc + 3) lv st (va_up h a (pz_o ci fs')) n) : pw E Y R K uc us pc lv (v :: .ref a :: st) h n := by
  subst hf
  intro p e s m args below meth c H locs L ls F d ks
  exact va_put (D := E.2.1) (v := pz_v L v) F.1 F.2.1 (pwF_w F) hc.2.1 ty hc.2.2.1 hc.2.2.2 (pwF_own F) (pwF_K F) d.2.2.1.1 d.2.2.1.2.1 d.2.2.2.1 a (pz_obj ks.2.1 ho) hc.1 k hk (pwF_w F _ hlink) (fun _ z => z) hfin (hc.2.2.1 k hk) (pz_nar hn) (pz_fit hfit) (by rw [List.length_map]; exact hl) hd
    (fun H1 locs1 hP hD hS => kk p e s m args below meth c H1 locs1 L ls F (pw_d_up d ks.2.1 pz_e_obj (pz_ks_set (k := 0) (v := v) (pz_of_obj d.2.2.1.2.2 ks.2.1 ho) ks.1 k) hP hD hS) ks.2.2)
theorem pw_putN {ci N k index a : Nat} {C host : String} {T : u_T} {ty : Nat → FieldType} {fs fs' : List Value} {v : Value} (hc : pw_ok ci C T N ty) (hk : k < N) (hlink : Cond.fieldLinkNest Y.1 index (T k).1 (T k).2.1 (T k).2.2.1 host ∈ pw_N) (hfin : (T k).2.2.2 = false) (hn : narrow (ty k) v = v) (hfit : fits (ty k) v = true) (ho : h a = pz_o ci fs) (hl : k < fs.length) (hf : fs.set k v = fs') (hd : decode Y.2.2.1 pc = .ok (.putfield index, 3)) (kk : pw E Y R K uc us (pc + 3) lv st (va_up h a (pz_o ci fs')) n) : pw E Y R K uc us pc lv (v :: .ref a :: st) h n := by
  subst hf
  intro p e s m args below meth c H locs L ls F d ks
  exact va_putN (D := E.2.1) (v := pz_v L v) F.1 F.2.1 (pwF_w F) hc.2.1 ty hc.2.2.1 hc.2.2.2 (pwF_own F) (pwF_K F) d.2.2.1.1 d.2.2.1.2.1 d.2.2.2.1 a (pz_obj ks.2.1 ho) hc.1 k hk (va_Nw.use rfl (pwF_N F _ hlink)) (fun _ z => z) hfin (hc.2.2.1 k hk) (pz_nar hn) (pz_fit hfit) (by rw [List.length_map]; exact hl) hd
    (fun H1 locs1 hP hD hS => kk p e s m args below meth c H1 locs1 L ls F (pw_d_up d ks.2.1 pz_e_obj (pz_ks_set (k := 0) (v := v) (pz_of_obj d.2.2.1.2.2 ks.2.1 ho) ks.1 k) hP hD hS) ks.2.2)
/-- a final field, in its own constructor -/
theorem pw_putF {ci N k index a : Nat} {C : String} {T : u_T} {ty : Nat → FieldType} {fs fs' : List Value} {v : Value} (hc : pw_ok ci C T N ty) (hk : k < N) (hlink : Cond.fieldLink Y.1 index (T k).1 (T k).2.1 (T k).2.2.1 ∈ pw_G) (hfin : (T k).2.2.2 = true) (hi : Y.2.1 = "<init>") (hdecl : (T k).1 = Y.1) (hn : narrow (ty k) v = v) (hfit : fits (ty k) v = true) (ho : h a = pz_o ci fs) (hl : k < fs.length) (hf : fs.set k v = fs') (hd : decode Y.2.2.1 pc = .ok (.putfield index, 3)) (kk : pw E Y R K uc us (pc + 3) lv st (va_up h a (pz_o ci fs')) n) : pw E Y R K uc us pc lv (v :: .ref a :: st) h n := by
  subst hf
  intro p e s m args below meth c H locs L ls F d ks
  exact va_putF (D := E.2.1) (v := pz_v L v) F.1 F.2.1 (pwF_w F) hc.2.1 ty hc.2.2.1 hc.2.2.2 (pwF_own F) (pwF_K F) d.2.2.1.1 d.2.2.1.2.1 d.2.2.2.1 a (pz_obj ks.2.1 ho) hc.1 k hk (pwF_w F _ hlink) (fun _ z => z) hfin (F.2.2.2.2.2.1.trans hi) hdecl (hc.2.2.1 k hk) (pz_nar hn) (pz_fit hfit) (by rw [List.length_map]; exact hl) hd
    (fun H1 locs1 hP hD hS => kk p e s m args below meth c H1 locs1 L ls F (pw_d_up d ks.2.1 pz_e_obj (pz_ks_set (k := 0) (v := v) (pz_of_obj d.2.2.1.2.2 ks.2.1 ho) ks.1 k) hP hD hS) ks.2.2)
/-- an array of ints, all zI -/
abbrev pz_z (t N : Nat) (g : Nat → Int) : pz_C := pz_i t N (fun j => zI (g j))
theorem pw_iald {t N a : Nat} {i : Int} {g : Nat → Int} (ht : pw_T[t]? = some .int) (ho : h a = pz_z t N g) (hi : 0 ≤ i ∧ i < N) (hN : N < 2147483648) (hd : decode Y.2.2.1 pc = .ok (.iaload, 1)) (kk : pw E Y R K uc us (pc + 1) lv (.int (zI (g i.toNat)) :: st) h n) : pw E Y R K uc us pc lv (.int (zI i) :: .ref a :: st) h n :=
  fun p e s m args below meth c H locs L ls F d ks => va_iald (D := E.2.1) F.1 F.2.1 (pwF_K F) d.2.2.1.1 a t (pz_ints ks.2.1 ho) (pw_tys_get ht) (zI_in hi.1 hi.2 hN) hd (by
    rw [zI_cl hi.1 (by omega)]
    exact kk p e s m args below meth c H locs L ls F d ⟨trivial, ks.2.2⟩)
theorem pw_iast {t N a : Nat} {i v : Int} {g : Nat → Int} (ht : pw_T[t]? = some .int) (ho : h a = pz_z t N g) (hi : 0 ≤ i ∧ i < N) (hN : N < 2147483648) (hd : decode Y.2.2.1 pc = .ok (.iastore, 1)) (kk : pw E Y R K uc us (pc + 1) lv st (va_up h a (pz_z t N (va_up g i.toNat v))) n) : pw E Y R K uc us pc lv (.int (zI v) :: .int (zI i) :: .ref a :: st) h n :=
  fun p e s m args below meth c H locs L ls F d ks => va_iast (D := E.2.1) F.1 F.2.1 (pwF_K F) d.2.2.1.1 d.2.2.1.2.1 d.2.2.2.1 a t (pz_ints ks.2.2.1 ho) (pw_tys_get ht) (zI_in hi.1 hi.2 hN) hd (fun H1 locs1 hP hD hS => by
    rw [zI_cl hi.1 (by omega), zI_upd] at hP hD
    exact kk p e s m args below meth c H1 locs1 L ls F (pw_d_up d ks.2.2.1 rfl trivial hP hD hS) ks.2.2.2)
theorem pw_lald {t N a : Nat} {i : Int} {f : Nat → Int64} (ht : pw_T[t]? = some .long) (ho : h a = pz_j t N f) (hi : 0 ≤ i ∧ i < N) (hN : N < 2147483648) (hd : decode Y.2.2.1 pc = .ok (.laload, 1)) (kk : pw E Y R K uc us (pc + 1) lv (.long (f i.toNat) :: st) h n) : pw E Y R K uc us pc lv (.int (zI i) :: .ref a :: st) h n :=
  fun p e s m args below meth c H locs L ls F d ks => va_lald (D := E.2.1) F.1 F.2.1 (pwF_K F) d.2.2.1.1 a t (pz_longs ks.2.1 ho) (pw_tys_get ht) (zI_in hi.1 hi.2 hN) hd (by
    rw [zI_cl hi.1 (by omega)]
    exact kk p e s m args below meth c H locs L ls F d ⟨trivial, ks.2.2⟩)
theorem pw_last {t N a : Nat} {i : Int} {v : Int64} {f : Nat → Int64} (ht : pw_T[t]? = some .long) (ho : h a = pz_j t N f) (hi : 0 ≤ i ∧ i < N) (hN : N < 2147483648) (hd : decode Y.2.2.1 pc = .ok (.lastore, 1)) (kk : pw E Y R K uc us (pc + 1) lv st (va_up h a (pz_j t N (vp_updL f i.toNat v))) n) : pw E Y R K uc us pc lv (.long v :: .int (zI i) :: .ref a :: st) h n :=
  fun p e s m args below meth c H locs L ls F d ks => va_last (D := E.2.1) F.1 F.2.1 (pwF_K F) d.2.2.1.1 d.2.2.1.2.1 d.2.2.2.1 a t (pz_longs ks.2.2.1 ho) (pw_tys_get ht) (zI_in hi.1 hi.2 hN) hd (fun H1 locs1 hP hD hS => by
    rw [zI_cl hi.1 (by omega)] at hP hD
    exact kk p e s m args below meth c H1 locs1 L ls F (pw_d_up d ks.2.2.1 rfl trivial hP hD hS) ks.2.2.2)
theorem pw_aald {t N a b : Nat} {C : String} {i : Int} {g : Nat → Option Nat} (ht : pw_T[t]? = some (.object C)) (ho : h a = pz_r t N g) (hi : 0 ≤ i ∧ i < N) (hN : N < 2147483648) (hb : g i.toNat = some b) (hd : decode Y.2.2.1 pc = .ok (.aaload, 1)) (kk : pw E Y R K uc us (pc + 1) lv (.ref b :: st) h n) : pw E Y R K uc us pc lv (.int (zI i) :: .ref a :: st) h n :=
  fun p e s m args below meth c H locs L ls F d ks => va_aldq (D := E.2.1) F.1 F.2.1 (pwF_K F) d.2.2.1.1 a t (pz_refs ks.2.1 ho) (pw_tys_get ht) (zI_in hi.1 hi.2 hN) hd (by
    have hk : pz_k n (.ref b) := by
      have h2 := d.2.2.1.2.2 a ks.2.1
      rw [ho] at h2
      exact h2 _ b hb
    rw [zI_cl hi.1 (by omega), hb]
    exact kk p e s m args below meth c H locs L ls F d ⟨hk, ks.2.2⟩)
theorem pw_aaldN {t N a : Nat} {C : String} {i : Int} {g : Nat → Option Nat} (ht : pw_T[t]? = some (.object C)) (ho : h a = pz_r t N g) (hi : 0 ≤ i ∧ i < N) (hN : N < 2147483648) (hb : g i.toNat = none) (hd : decode Y.2.2.1 pc = .ok (.aaload, 1)) (kk : pw E Y R K uc us (pc + 1) lv (.null :: st) h n) : pw E Y R K uc us pc lv (.int (zI i) :: .ref a :: st) h n :=
  fun p e s m args below meth c H locs L ls F d ks => va_aldq (D := E.2.1) F.1 F.2.1 (pwF_K F) d.2.2.1.1 a t (pz_refs ks.2.1 ho) (pw_tys_get ht) (zI_in hi.1 hi.2 hN) hd (by
    rw [zI_cl hi.1 (by omega), hb]
    exact kk p e s m args below meth c H locs L ls F d ⟨trivial, ks.2.2⟩)
theorem pz_e_ref {cA : Nat → ClassId} {L : Nat → Nat} {t N k : Nat} {g : Nat → Option Nat} {o : Option Nat} : pz_e cA L (pz_r t N (va_up g k o)) = .inl (cA t, N, .inr (.inr (.inr (.inr (va_up (fun j => (g j).map L) k (o.map L)))))) := by
  show Sum.inl (cA t, N, Sum.inr (Sum.inr (Sum.inr (Sum.inr (fun j => (va_up g k o j).map L))))) = _
  have e : (fun j => (va_up g k o j).map L) = va_up (fun j => (g j).map L) k (o.map L) := by
    funext j
    by_cases e : j = k
    · subst e; rw [va_up_self, va_up_self]
    · rw [va_up_ne _ _ e, va_up_ne _ _ e]
  rw [e]
theorem pz_kr {n t N k : Nat} {g : Nat → Option Nat} {o : Option Nat} (hg : pz_kc n (pz_r t N g)) (ho : ∀ b, o = some b → b < n) : pz_kc n (pz_r t N (va_up g k o)) := fun j b e => by
  by_cases ej : j = k
  · subst ej
    have e : va_up g j o j = some b := e
    rw [va_up_self] at e
    exact ho b e
  · have e : va_up g k o j = some b := e
    rw [va_up_ne _ _ ej] at e
    exact hg j b e
theorem pw_aast {t N a b ci : Nat} {r : vw_C} {vs : List Value} {i : Int} {g : Nat → Option Nat} (ht : pw_T[t]? = some (.object r.1)) (ho : h a = pz_r t N g) (hi : 0 ≤ i ∧ i < N) (hN : N < 2147483648) (hb : h b = pz_o ci vs) (hr : pw_cl[ci]? = some r) (hd : decode Y.2.2.1 pc = .ok (.aastore, 1)) (kk : pw E Y R K uc us (pc + 1) lv st (va_up h a (pz_r t N (va_up g i.toNat (some b)))) n) : pw E Y R K uc us pc lv (.ref b :: .int (zI i) :: .ref a :: st) h n :=
  fun p e s m args below meth c H locs L ls F d ks => va_astq (D := E.2.1) F.1 F.2.1 (pwF_K F) d.2.2.1.1 d.2.2.1.2.1 d.2.2.2.1 a t b ci (pz_refs ks.2.2.1 ho) (pw_tys_get ht) (pz_obj ks.1 hb) hr (zI_in hi.1 hi.2 hN) hd (fun H1 locs1 hP hD hS => by
    rw [zI_cl hi.1 (by omega)] at hP hD
    have h2 := d.2.2.1.2.2 a ks.2.2.1
    rw [ho] at h2
    exact kk p e s m args below meth c H1 locs1 L ls F (pw_d_up d ks.2.2.1 (pz_e_ref (o := some b)) (pz_kr h2 (fun x e => by cases e; exact ks.1)) hP hD hS) ks.2.2.2)
theorem pw_aastN {t N a : Nat} {C : String} {i : Int} {g : Nat → Option Nat} (ht : pw_T[t]? = some (.object C)) (ho : h a = pz_r t N g) (hi : 0 ≤ i ∧ i < N) (hN : N < 2147483648) (hd : decode Y.2.2.1 pc = .ok (.aastore, 1)) (kk : pw E Y R K uc us (pc + 1) lv st (va_up h a (pz_r t N (va_up g i.toNat none))) n) : pw E Y R K uc us pc lv (.null :: .int (zI i) :: .ref a :: st) h n :=
  fun p e s m args below meth c H locs L ls F d ks => va_astqN (D := E.2.1) F.1 F.2.1 (pwF_K F) d.2.2.1.1 d.2.2.1.2.1 d.2.2.2.1 a t (pz_refs ks.2.2.1 ho) (pw_tys_get ht) (zI_in hi.1 hi.2 hN) hd (fun H1 locs1 hP hD hS => by
    rw [zI_cl hi.1 (by omega)] at hP hD
    have h2 := d.2.2.1.2.2 a ks.2.2.1
    rw [ho] at h2
    exact kk p e s m args below meth c H1 locs1 L ls F (pw_d_up d ks.2.2.1 (pz_e_ref (o := none)) (pz_kr h2 (fun x e => by cases e)) hP hD hS) ks.2.2.2)
theorem pw_alenI {t N a : Nat} {f : Nat → Int32} (ht : pw_T[t]? = some .int) (ho : h a = pz_i t N f) (hd : decode Y.2.2.1 pc = .ok (.arraylength, 1)) (kk : pw E Y R K uc us (pc + 1) lv (.int (zI N) :: st) h n) : pw E Y R K uc us pc lv (.ref a :: st) h n :=
  fun p e s m args below meth c H locs L ls F d ks => va_alen (D := E.2.1) F.1 F.2.1 (pwF_K F) d.2.2.1.1 a t (pz_ints ks.1 ho) (pw_tys_get ht) rfl hd (kk p e s m args below meth c H locs L ls F d ⟨trivial, ks.2⟩)
/-- one id more -/
theorem pw_d_push {s : State} {H H1 : Heap} {locs : List Loc} {L : Nat → Nat} {ls : Array Slot} {q : Nat} {x : pz_C} {e : va_E} (d : pw_D E Y K s H locs L ls lv h n) (he : pz_e E.2.2.1 (va_up L n q) x = e) (hx : pz_kc (n + 1) x) (hP : va_P E.2.1 pw_cl (pz_w E.2.2.1 L n h ++ [(q, e)]) H1) (hD : va_D (pw_A E) (pz_w E.2.2.1 L n h ++ [(q, e)])) (hS : va_S (pw_A E) s.heap H1 locs) : pw_D E Y K s H1 locs (va_up L n q) ls lv (va_up h n x) (n + 1) := by
  rw [← he, pz_w_push d.2.2.1.2.2] at hP hD
  exact ⟨Nat.le_succ_of_le d.1, pz_ag_tr d.2.1 pz_ag_up d.1, ⟨hP, hD, pz_kh_push d.2.2.1.2.2 hx⟩, hS, pz_lv_ag d.2.2.2.2 pz_ag_up (Nat.le_succ n)⟩
theorem pz_ks0 {L : Nat → Nat} : ∀ {fs : List Value}, pz_ks 0 fs → fs.map (pz_v L) = fs
  | [], _ => rfl
  | v :: r, hk => by
    show pz_v L v :: r.map (pz_v L) = v :: r
    rw [pz_ks0 hk.2]
    cases v <;> first | rfl | exact absurd hk.1 (Nat.not_lt_zero _)
theorem pz_st_push {q : Nat} {L : Nat → Nat} (ks : pz_ks n st) : (Value.ref n :: st).map (pz_v (va_up L n q)) = .ref q :: st.map (pz_v L) := by
  show Value.ref (va_up L n q n) :: st.map (pz_v (va_up L n q)) = _
  rw [va_up_self, pz_vs_ag pz_ag_up ks]
theorem pw_new {ci N index : Nat} {C : String} {T : u_T} {ty : Nat → FieldType} {fs : List Value} (hc : pw_ok ci C T N ty) (hcl : Cond.classLink Y.1 index C ∈ pw_G) (hin : Cond.instantiable C N ∈ pw_G) (hini : Cond.initialized C ∈ pw_G) (hfs : ∀ j, j < N → defaultValue (ty j) = vp_V fs j) (hk0 : pz_ks 0 fs) (hcs : uc + 1 ≤ R.cells) (hss : us + N ≤ R.slots) (hd : decode Y.2.2.1 pc = .ok (.new index, 3)) (kk : pw E Y R K (uc + 1) (us + N) (pc + 3) lv (.ref n :: st) (va_up h n (pz_o ci fs)) (n + 1)) : pw E Y R K uc us pc lv st h n :=
  fun p e s m args below meth c H locs L ls F d ks => va_new (D := E.2.1) (fs := fs) F.1 F.2.1 (pwF_w F) hc.2.1 ty hc.2.2.1 (pwF_own F) (pwF_w F _ hcl) (pwF_w F _ hin) (pwF_w F _ hini) (pwF_K F) d.2.2.1.1 d.2.2.1.2.1 d.2.2.2.1 (pwF_A F) hc.1 hfs hcs hss hd (fun q H1 hP hD hS => by
    have d1 := pw_d_push (q := q) (x := pz_o ci fs) d (show pz_e E.2.2.1 (va_up L n q) (pz_o ci fs) = .inr (ci, fs) by show Sum.inr (ci, fs.map (pz_v (va_up L n q))) = _; rw [pz_ks0 hk0]) (pz_ks_le (Nat.zero_le _) hk0) hP hD hS
    have k1 := kk p e s m args below meth c H1 locs (va_up L n q) ls F d1 ⟨Nat.lt_succ_self n, pz_ks_le (Nat.le_succ n) ks⟩
    rw [pz_st_push ks] at k1
    exact k1)
theorem pw_newi {t : Nat} {a : Int} (ht : pw_T[t]? = some .int) (harr : Cond.arrayClass .int ∈ pw_G) (ha : 0 ≤ a ∧ a ≤ 100000000) (hcs : uc + 1 ≤ R.cells) (hss : us + a.toNat ≤ R.slots) (hd : decode Y.2.2.1 pc = .ok (.newarray .int, 2)) (kk : pw E Y R K (uc + 1) (us + a.toNat) (pc + 2) lv (.ref n :: st) (va_up h n (pz_z t a.toNat (fun _ => 0))) (n + 1)) : pw E Y R K uc us pc lv (.int (zI a) :: st) h n :=
  fun p e s m args below meth c H locs L ls F d ks => va_newa (D := E.2.1) (atype := .int) (a0 := (a.toNat, .inl (fun _ => zI 0))) (N' := a.toNat) (ty := .int) F.1 F.2.1 (pwF_w F _ harr) rfl (pwF_K F) d.2.2.1.1 d.2.2.1.2.1 d.2.2.2.1 (pwF_A F) (fun _ => rfl) (fun z => by rw [zI_0, zI_lt (by omega) (by omega)] at z; omega) (zI_cl ha.1 (by omega)) (by show a.toNat * 4 ≤ 536870912; omega) hcs hss hd (fun q cA H1 hK hP hD hS => by
    have e1 : s.vm.findClass ("[" ++ FieldType.int.toString) = some (E.2.2.1 t) := ((pwF_K F).2 t _ (pw_tys_get ht)).2
    have e2 : s.vm.findClass ("[" ++ FieldType.int.toString) = some cA := (hK.2 (pw_tys E).length (cA, .int) (by rw [List.getElem?_append_right (Nat.le_refl _), Nat.sub_self]; rfl)).2
    have e3 : E.2.2.1 t = cA := Option.some.inj (e1.symm.trans e2)
    subst e3
    have d1 := pw_d_push (q := q) (x := pz_z t a.toNat (fun _ => 0)) d rfl trivial hP hD hS
    have k1 := kk p e s m args below meth c H1 locs (va_up L n q) ls F d1 ⟨Nat.lt_succ_self n, pz_ks_le (Nat.le_succ n) ks.2⟩
    rw [pz_st_push ks.2] at k1
    exact k1)
theorem pw_newl {t : Nat} {a : Int} (ht : pw_T[t]? = some .long) (harr : Cond.arrayClass .long ∈ pw_G) (ha : 0 ≤ a ∧ a ≤ 10000000) (hcs : uc + 1 ≤ R.cells) (hss : us + a.toNat ≤ R.slots) (hd : decode Y.2.2.1 pc = .ok (.newarray .long, 2)) (kk : pw E Y R K (uc + 1) (us + a.toNat) (pc + 2) lv (.ref n :: st) (va_up h n (pz_j t a.toNat (fun _ => 0))) (n + 1)) : pw E Y R K uc us pc lv (.int (zI a) :: st) h n :=
  fun p e s m args below meth c H locs L ls F d ks => va_newa (D := E.2.1) (atype := .long) (a0 := (a.toNat, .inr (.inl (fun _ => 0)))) (N' := a.toNat) (ty := .long) F.1 F.2.1 (pwF_w F _ harr) rfl (pwF_K F) d.2.2.1.1 d.2.2.1.2.1 d.2.2.2.1 (pwF_A F) (fun _ => rfl) (fun z => by rw [zI_0, zI_lt (by omega) (by omega)] at z; omega) (zI_cl ha.1 (by omega)) (by show a.toNat * 8 ≤ 536870912; omega) hcs hss hd (fun q cA H1 hK hP hD hS => by
    have e1 : s.vm.findClass ("[" ++ FieldType.long.toString) = some (E.2.2.1 t) := ((pwF_K F).2 t _ (pw_tys_get ht)).2
    have e2 : s.vm.findClass ("[" ++ FieldType.long.toString) = some cA := (hK.2 (pw_tys E).length (cA, .long) (by rw [List.getElem?_append_right (Nat.le_refl _), Nat.sub_self]; rfl)).2
    have e3 : E.2.2.1 t = cA := Option.some.inj (e1.symm.trans e2)
    subst e3
    have d1 := pw_d_push (q := q) (x := pz_j t a.toNat (fun _ => 0)) d rfl trivial hP hD hS
    have k1 := kk p e s m args below meth c H1 locs (va_up L n q) ls F d1 ⟨Nat.lt_succ_self n, pz_ks_le (Nat.le_succ n) ks.2⟩
    rw [pz_st_push ks.2] at k1
    exact k1)
theorem pw_newr {t index : Nat} {C : String} {a : Int} (ht : pw_T[t]? = some (.object C)) (hcl : Cond.classLink Y.1 index C ∈ pw_G) (hover : C ∈ pw_O) (ha : 0 ≤ a ∧ a ≤ 100000000) (hcs : uc + 1 ≤ R.cells) (hss : us + a.toNat ≤ R.slots) (hd : decode Y.2.2.1 pc = .ok (.anewarray index, 3)) (kk : pw E Y R K (uc + 1) (us + a.toNat) (pc + 3) lv (.ref n :: st) (va_up h n (pz_r t a.toNat (fun _ => none))) (n + 1)) : pw E Y R K uc us pc lv (.int (zI a) :: st) h n :=
  fun p e s m args below meth c H locs L ls F d ks => va_newq (D := E.2.1) (C := C) (N' := a.toNat) F.1 F.2.1 (pwF_own F) (pwF_w F _ hcl) ((pwF_U F).2.2.2.2.2.2 C hover) (pwF_K F) d.2.2.1.1 d.2.2.1.2.1 d.2.2.2.1 (pwF_A F) (fun z => by rw [zI_0, zI_lt (by omega) (by omega)] at z; omega) (zI_cl ha.1 (by omega)) (by omega) hcs hss hd (fun q cA H1 hK hP hD hS => by
    obtain ⟨_, _, _, _, _, e1⟩ := ((pwF_K F).2 t _ (pw_tys_get ht)).2
    obtain ⟨_, _, _, _, _, e2⟩ := (hK.2 (pw_tys E).length (cA, .object C) (by rw [List.getElem?_append_right (Nat.le_refl _), Nat.sub_self]; rfl)).2
    have e3 : E.2.2.1 t = cA := Option.some.inj (e1.symm.trans e2)
    subst e3
    have d1 := pw_d_push (q := q) (x := pz_r t a.toNat (fun _ => none)) d rfl (fun j b e => by cases e) hP hD hS
    have k1 := kk p e s m args below meth c H1 locs (va_up L n q) ls F d1 ⟨Nat.lt_succ_self n, pz_ks_le (Nat.le_succ n) ks.2⟩
    rw [pz_st_push ks.2] at k1
    exact k1)
end PW
