def R_law : String := "PaneHouseLaw"
def lw_P (b : Addr) (xs : List Int32) (args : Array Value) (s : State) : Prop := args = #[.ref b] ∧ s.IntsAt b xs ∧ xs.length ≤ 3074 ∧ (Jvm.Cond.and given_1 narrow_1).before args s = true
def lw_Q (_ : Array Value) (s : State) (o : Outcome) (t : State) : Prop := o = .returned (some (.int 1)) ∧ Framed s o t [] 601024 7293000
def lw_Z (below : List Frame) (a : Array Value) (s : State) : State → Prop := fun t => ∃ o, t.status = .running ∧ Ended t below o ∧ lw_Q a s o t
/-- the law's own end, with 1 on the stack, nothing written that was there before, its room as the claim has it -/
theorem lw_ret {p : Program} {l : Launch} {e : Env} {s : State} {m : MethodId} {below : List Frame} {meth : Method} {c : Code} {b : Nat} (hx : p.tables.exec = Jvm.exec) (hb : c.code = code) (hr : meth.sig.returnType = ret) (hlocks : meth.locks = false) {pc : Nat} {H : Heap} {ls : Array Slot} (hdg : decode code pc = .ok (.ireturn, 1)) : W p l e room_1 s m #[Value.ref b] below meth c H [] 601024 7293000 (lw_Z below #[Value.ref b] s) (F0 m pc ls [.int 1]) := by
  intro T hT X
  obtain ⟨fs, hret, hrun, hended, hW, hframe⟩ := X.leave (v := some (.int 1)) (hlocks := hlocks) (fun h => by rw [hr] at h; cases h)
  have hmeth' : T.vm.method? m = some meth := X.method'
  refine ⟨T.setFrames fs, ?_, .returned (some (.int 1)), hrun, hended, rfl, ⟨_, rfl⟩, hW, hframe⟩
  jvm_step X.here [X.here.top, hx, hb, hdg, hmeth', hr, ret, narrow_b1]
  (try refine ⟨rfl, ?_⟩); (try refine ⟨rfl, ?_⟩)
  first | (intro acts; rw [hret _ acts rfl rfl rfl]) | rw [hret _ _ rfl rfl rfl]
  exact Steps.refl _
/-- what holds at the law's entry: the machine, the code, the tables' words (any of lw_tbl by 'hts w (by decide +kernel)'), the script of L ints xs at the cell b, what the Statement gives of the start (any of its parts by flat_of_before) -/
def lw_At (p : Program) (s : State) (m : MethodId) (meth : Method) (c : Code) (b L : Nat) (xs : Nat → Int32) : Prop :=
  p.tables.exec = Jvm.exec ∧ c.code = code ∧ meth.sig.returnType = ret ∧ c.maxLocals = 7 ∧ s.vm.findClass R_law = some m.cls ∧ (∀ w ∈ lw_tbl, w.before #[Value.ref b] s = true) ∧ va_X b L xs s s.heap ∧ b < s.heap.size ∧ meth.locks = false ∧ (Jvm.Cond.and given_1 narrow_1).before #[Value.ref b] s = true

/-! ===== THE LAW'S RUN: as a method's over ids, its script beside them ===== -/
/-- the script: its cell, its length, its ints -/
abbrev pl_B : Type := Nat × Nat × (Nat → Int32)
def pl_F (E : pw_E) (Y : pw_Y) (X : pl_B) (p : Program) (s : State) (m : MethodId) (args : Array Value) (meth : Method) (c : Code) : Prop :=
  p.tables.exec = Jvm.exec ∧ c.code = Y.2.2.1 ∧ c.maxLocals = Y.2.2.2.1 ∧ meth.sig.returnType = Y.2.2.2.2 ∧ meth.locks = false ∧ args = #[Value.ref X.1] ∧ s.vm.findClass Y.1 = some m.cls ∧ (∀ w ∈ pw_G, w.before args s = true) ∧ pw_U E s ∧ (E.1.stackTraces = false ∧ E.2.2.2 = s.heap.size) ∧ (va_X X.1 X.2.1 X.2.2 s s.heap ∧ X.1 < s.heap.size) ∧ pwN s
def pl (E : pw_E) (Y : pw_Y) (X : pl_B) (R : Room) (K : pw_K) (uc us pc : Nat) (lv : List (Option Value)) (st : List Value) (h : pz_H) (n : Nat) : Prop :=
  ∀ (p : Program) (e : Env) (s : State) (m : MethodId) (args : Array Value) (below : List Frame) (meth : Method) (c : Code) (H : Heap) (locs : List Loc) (L : Nat → Nat) (ls : Array Slot),
    pl_F E Y X p s m args meth c → pw_D E Y K s H locs L ls lv h n → pz_ks n st → ls[0]? = some (.val (.ref X.1)) →
    W p E.1 e R s m args below meth c H locs uc us (lw_Z below args s) (F0 m pc ls (st.map (pz_v L)))
section PL
variable {E : pw_E} {Y : pw_Y} {X : pl_B} {R : Room} {K : pw_K} {uc us pc : Nat} {lv : List (Option Value)} {st : List Value} {h : pz_H} {n : Nat}
theorem plF_own {p : Program} {s : State} {m : MethodId} {args : Array Value} {meth : Method} {c : Code} (F : pl_F E Y X p s m args meth c) : s.vm.findClass Y.1 = some m.cls := F.2.2.2.2.2.2.1
theorem plF_w {p : Program} {s : State} {m : MethodId} {args : Array Value} {meth : Method} {c : Code} (F : pl_F E Y X p s m args meth c) : ∀ w ∈ pw_G, w.before args s = true := F.2.2.2.2.2.2.2.1
theorem plF_U {p : Program} {s : State} {m : MethodId} {args : Array Value} {meth : Method} {c : Code} (F : pl_F E Y X p s m args meth c) : pw_U E s := F.2.2.2.2.2.2.2.2.1
theorem plF_K {p : Program} {s : State} {m : MethodId} {args : Array Value} {meth : Method} {c : Code} (F : pl_F E Y X p s m args meth c) : va_K E.2.1 pw_cl (pw_tys E) s := (plF_U F).2.1
theorem plF_A {p : Program} {s : State} {m : MethodId} {args : Array Value} {meth : Method} {c : Code} (F : pl_F E Y X p s m args meth c) : ∀ q : Nat, s.heap.size ≤ q → pw_A E q := fun _ hq => Nat.le_trans (plF_U F).1 hq
theorem plF_b {p : Program} {s : State} {m : MethodId} {args : Array Value} {meth : Method} {c : Code} (F : pl_F E Y X p s m args meth c) : ¬ pw_A E X.1 := fun z => Nat.not_le.mpr F.2.2.2.2.2.2.2.2.2.2.1.2 (F.2.2.2.2.2.2.2.2.2.1.2 ▸ z)
theorem pl_iconst {k : Int} {v : Int32} (hd : decode Y.2.2.1 pc = .ok (.iconst k, 1)) (hv : Int32.ofInt k = v) (kk : pl E Y X R K uc us (pc + 1) lv (.int v :: st) h n) : pl E Y X R K uc us pc lv st h n :=
  fun p e s m args below meth c H locs L ls F d ks zz => lv_iconst F.1 F.2.1 hd hv (kk p e s m args below meth c H locs L ls F d ⟨trivial, ks⟩ zz)
theorem pl_bipush {k : Int} {v : Int32} (hd : decode Y.2.2.1 pc = .ok (.bipush k, 2)) (hv : (Int8.ofInt k).toInt32 = v) (kk : pl E Y X R K uc us (pc + 2) lv (.int v :: st) h n) : pl E Y X R K uc us pc lv st h n :=
  fun p e s m args below meth c H locs L ls F d ks zz => lv_bipush F.1 F.2.1 hd hv (kk p e s m args below meth c H locs L ls F d ⟨trivial, ks⟩ zz)
theorem pl_iload {i : Nat} {x : Int32} (hd : decode Y.2.2.1 pc = .ok (.iload i, 2)) (hv : lv[i]? = some (some (.int x))) (kk : pl E Y X R K uc us (pc + 2) lv (.int x :: st) h n) : pl E Y X R K uc us pc lv st h n :=
  fun p e s m args below meth c H locs L ls F d ks zz => lv_iload F.1 F.2.1 hd (pz_lv_at d.2.2.2.2 hv) (kk p e s m args below meth c H locs L ls F d ⟨trivial, ks⟩ zz)
theorem pl_aload_n {k : Fin 4} {x : Nat} (hd : decode Y.2.2.1 pc = .ok (.aload_n k, 1)) (hv : lv[(k : Nat)]? = some (some (.ref x))) (kk : pl E Y X R K uc us (pc + 1) lv (.ref x :: st) h n) : pl E Y X R K uc us pc lv st h n :=
  fun p e s m args below meth c H locs L ls F d ks zz => lv_aload_n F.1 F.2.1 hd rfl (pz_lv_at d.2.2.2.2 hv) (kk p e s m args below meth c H locs L ls F d ⟨d.2.2.2.2.2 _ _ hv, ks⟩ zz)
theorem pl_isub {x y : Int32} (hd : decode Y.2.2.1 pc = .ok (.isub, 1)) (kk : pl E Y X R K uc us (pc + 1) lv (.int (x - y) :: st) h n) : pl E Y X R K uc us pc lv (.int y :: .int x :: st) h n :=
  fun p e s m args below meth c H locs L ls F d ks zz => lv_isub F.1 F.2.1 hd (kk p e s m args below meth c H locs L ls F d ⟨trivial, ks.2.2⟩ zz)
theorem pl_iand {x y : Int32} (hd : decode Y.2.2.1 pc = .ok (.iand, 1)) (kk : pl E Y X R K uc us (pc + 1) lv (.int (x &&& y) :: st) h n) : pl E Y X R K uc us pc lv (.int y :: .int x :: st) h n :=
  fun p e s m args below meth c H locs L ls F d ks zz => lv_iand F.1 F.2.1 hd (kk p e s m args below meth c H locs L ls F d ⟨trivial, ks.2.2⟩ zz)
theorem pl_i2l {x : Int32} (hd : decode Y.2.2.1 pc = .ok (.i2l, 1)) (kk : pl E Y X R K uc us (pc + 1) lv (.long x.toInt64 :: st) h n) : pl E Y X R K uc us pc lv (.int x :: st) h n :=
  fun p e s m args below meth c H locs L ls F d ks zz => lv_i2l F.1 F.2.1 hd rfl (kk p e s m args below meth c H locs L ls F d ⟨trivial, ks.2⟩ zz)
theorem pl_dup {v : Value} (hd : decode Y.2.2.1 pc = .ok (.dup, 1)) (hv : v.category = 1) (kk : pl E Y X R K uc us (pc + 1) lv (v :: v :: st) h n) : pl E Y X R K uc us pc lv (v :: st) h n :=
  fun p e s m args below meth c H locs L ls F d ks zz => lv_dup F.1 F.2.1 hd ((pz_cat L v).trans hv) (kk p e s m args below meth c H locs L ls F d ⟨ks.1, ks.1, ks.2⟩ zz)
theorem pl_zisub {a b : Int} (hd : decode Y.2.2.1 pc = .ok (.isub, 1)) (kk : pl E Y X R K uc us (pc + 1) lv (.int (zI (a - b)) :: st) h n) : pl E Y X R K uc us pc lv (.int (zI b) :: .int (zI a) :: st) h n :=
  pl_isub hd (by rw [zI_sub]; exact kk)
theorem pl_icmp_eq {a b off : Int} {tgt : Nat} (hd : decode Y.2.2.1 pc = .ok (.if_icmp .eq off, 3)) (ht : (pc : Int) + off = (tgt : Int)) (ha : -2147483648 ≤ a ∧ a < 2147483648) (hb : -2147483648 ≤ b ∧ b < 2147483648) (kt : a = b → pl E Y X R K uc us tgt lv st h n) (kf : ¬ a = b → pl E Y X R K uc us (pc + 3) lv st h n) : pl E Y X R K uc us pc lv (.int (zI b) :: .int (zI a) :: st) h n :=
  fun p e s m args below meth c H locs L ls F d ks zz => lv_icmp_eq F.1 F.2.1 hd ht (fun z => kt ((zI_eq ha hb).mp z) p e s m args below meth c H locs L ls F d ks.2.2 zz) (fun z => kf (fun q => z ((zI_eq ha hb).mpr q)) p e s m args below meth c H locs L ls F d ks.2.2 zz)
theorem pl_icmp_gt {a b off : Int} {tgt : Nat} (hd : decode Y.2.2.1 pc = .ok (.if_icmp .gt off, 3)) (ht : (pc : Int) + off = (tgt : Int)) (ha : -2147483648 ≤ a ∧ a < 2147483648) (hb : -2147483648 ≤ b ∧ b < 2147483648) (kt : b < a → pl E Y X R K uc us tgt lv st h n) (kf : a ≤ b → pl E Y X R K uc us (pc + 3) lv st h n) : pl E Y X R K uc us pc lv (.int (zI b) :: .int (zI a) :: st) h n :=
  fun p e s m args below meth c H locs L ls F d ks zz => lv_icmp_gt F.1 F.2.1 hd ht (fun z => kt ((zI_lt hb ha).mp z) p e s m args below meth c H locs L ls F d ks.2.2 zz) (fun z => kf (Int.not_lt.mp (fun q => z ((zI_lt hb ha).mpr q))) p e s m args below meth c H locs L ls F d ks.2.2 zz)
theorem pl_if_eq {a off : Int} {tgt : Nat} (hd : decode Y.2.2.1 pc = .ok (.ifCond .eq off, 3)) (ht : (pc : Int) + off = (tgt : Int)) (ha : -2147483648 ≤ a ∧ a < 2147483648) (kt : a = 0 → pl E Y X R K uc us tgt lv st h n) (kf : ¬ a = 0 → pl E Y X R K uc us (pc + 3) lv st h n) : pl E Y X R K uc us pc lv (.int (zI a) :: st) h n :=
  fun p e s m args below meth c H locs L ls F d ks zz => by
    have hb : -2147483648 ≤ (0 : Int) ∧ (0 : Int) < 2147483648 := by omega
    exact lv_if_eq F.1 F.2.1 hd ht (fun z => kt ((zI_eq ha hb).mp z) p e s m args below meth c H locs L ls F d ks.2 zz) (fun z => kf (fun q => z ((zI_eq ha hb).mpr q)) p e s m args below meth c H locs L ls F d ks.2 zz)
theorem pl_goto {off : Int} {tgt : Nat} (hd : decode Y.2.2.1 pc = .ok (.goto off, 3)) (ht : (pc : Int) + off = (tgt : Int)) (kk : pl E Y X R K uc us tgt lv st h n) : pl E Y X R K uc us pc lv st h n :=
  fun p e s m args below meth c H locs L ls F d ks zz => lv_goto F.1 F.2.1 hd ht (kk p e s m args below meth c H locs L ls F d ks zz)
theorem pl_tableOut {dflt lo hi : Int} {offs : Array Int} {len : Nat} {a : Int} {tgt : Nat} (hd : decode Y.2.2.1 pc = .ok (.tableswitch dflt lo hi offs, len)) (ha : -2147483648 ≤ a ∧ a < 2147483648) (hx : a < lo ∨ hi < a) (ht : (pc : Int) + dflt = (tgt : Int)) (kk : pl E Y X R K uc us tgt lv st h n) : pl E Y X R K uc us pc lv (.int (zI a) :: st) h n :=
  fun p e s m args below meth c H locs L ls F d ks zz => lv_tableOut F.1 F.2.1 hd (by rw [zI_toInt ha.1 ha.2]; exact hx) ht (kk p e s m args below meth c H locs L ls F d ks.2 zz)
theorem pl_tableIn {dflt lo hi : Int} {offs : Array Int} {len : Nat} {a off : Int} {tgt : Nat} (hd : decode Y.2.2.1 pc = .ok (.tableswitch dflt lo hi offs, len)) (ha : -2147483648 ≤ a ∧ a < 2147483648) (h1 : lo ≤ a) (h2 : a ≤ hi) (ho : offs[(a - lo).toNat]? = some off) (ht : (pc : Int) + off = (tgt : Int)) (kk : pl E Y X R K uc us tgt lv st h n) : pl E Y X R K uc us pc lv (.int (zI a) :: st) h n :=
  fun p e s m args below meth c H locs L ls F d ks zz => lv_tableIn F.1 F.2.1 hd (by rw [zI_toInt ha.1 ha.2]; omega) (by rw [zI_toInt ha.1 ha.2]; omega) (by rw [zI_toInt ha.1 ha.2]; exact ho) ht (kk p e s m args below meth c H locs L ls F d ks.2 zz)
theorem pl_new {ci N index : Nat} {C : String} {T : u_T} {ty : Nat → FieldType} {fs : List Value} (hc : pw_ok ci C T N ty) (hcl : Cond.classLink Y.1 index C ∈ pw_G) (hin : Cond.instantiable C N ∈ pw_G) (hini : Cond.initialized C ∈ pw_G) (hfs : ∀ j, j < N → defaultValue (ty j) = vp_V fs j) (hk0 : pz_ks 0 fs) (hcs : uc + 1 ≤ R.cells) (hss : us + N ≤ R.slots) (hd : decode Y.2.2.1 pc = .ok (.new index, 3)) (kk : pl E Y X R K (uc + 1) (us + N) (pc + 3) lv (.ref n :: st) (va_up h n (pz_o ci fs)) (n + 1)) : pl E Y X R K uc us pc lv st h n :=
  fun p e s m args below meth c H locs L ls F d ks zz => va_new (D := E.2.1) (fs := fs) F.1 F.2.1 (plF_w F) hc.2.1 ty hc.2.2.1 (plF_own F) (plF_w F _ hcl) (plF_w F _ hin) (plF_w F _ hini) (plF_K F) d.2.2.1.1 d.2.2.1.2.1 d.2.2.2.1 (plF_A F) hc.1 hfs hcs hss hd (fun q H1 hP hD hS => by
    have d1 := pw_d_push (q := q) (x := pz_o ci fs) d (show pz_e E.2.2.1 (va_up L n q) (pz_o ci fs) = .inr (ci, fs) by show Sum.inr (ci, fs.map (pz_v (va_up L n q))) = _; rw [pz_ks0 hk0]) (pz_ks_le (Nat.zero_le _) hk0) hP hD hS
    have k1 := kk p e s m args below meth c H1 locs (va_up L n q) ls F d1 ⟨Nat.lt_succ_self n, pz_ks_le (Nat.le_succ n) ks⟩ zz
    rw [pz_st_push ks] at k1
    exact k1)
theorem pl_newl {t : Nat} {a : Int} (ht : pw_T[t]? = some .long) (harr : Cond.arrayClass .long ∈ pw_G) (ha : 0 ≤ a ∧ a ≤ 10000000) (hcs : uc + 1 ≤ R.cells) (hss : us + a.toNat ≤ R.slots) (hd : decode Y.2.2.1 pc = .ok (.newarray .long, 2)) (kk : pl E Y X R K (uc + 1) (us + a.toNat) (pc + 2) lv (.ref n :: st) (va_up h n (pz_j t a.toNat (fun _ => 0))) (n + 1)) : pl E Y X R K uc us pc lv (.int (zI a) :: st) h n :=
  fun p e s m args below meth c H locs L ls F d ks zz => va_newa (D := E.2.1) (atype := .long) (a0 := (a.toNat, .inr (.inl (fun _ => 0)))) (N' := a.toNat) (ty := .long) F.1 F.2.1 (plF_w F _ harr) rfl (plF_K F) d.2.2.1.1 d.2.2.1.2.1 d.2.2.2.1 (plF_A F) (fun _ => rfl) (fun z => by rw [zI_0, zI_lt (by omega) (by omega)] at z; omega) (zI_cl ha.1 (by omega)) (by show a.toNat * 8 ≤ 536870912; omega) hcs hss hd (fun q cA H1 hK hP hD hS => by
    have e1 : s.vm.findClass ("[" ++ FieldType.long.toString) = some (E.2.2.1 t) := ((plF_K F).2 t _ (pw_tys_get ht)).2
    have e2 : s.vm.findClass ("[" ++ FieldType.long.toString) = some cA := (hK.2 (pw_tys E).length (cA, .long) (by rw [List.getElem?_append_right (Nat.le_refl _), Nat.sub_self]; rfl)).2
    have e3 : E.2.2.1 t = cA := Option.some.inj (e1.symm.trans e2)
    subst e3
    have d1 := pw_d_push (q := q) (x := pz_j t a.toNat (fun _ => 0)) d rfl trivial hP hD hS
    have k1 := kk p e s m args below meth c H1 locs (va_up L n q) ls F d1 ⟨Nat.lt_succ_self n, pz_ks_le (Nat.le_succ n) ks.2⟩ zz
    rw [pz_st_push ks.2] at k1
    exact k1)
theorem pl_lshl {x : Int64} {y : Int32} (hd : decode Y.2.2.1 pc = .ok (.lshl, 1)) (kk : pl E Y X R K uc us (pc + 1) lv (.long (x <<< (y.toInt64 &&& 63)) :: st) h n) : pl E Y X R K uc us pc lv (.int y :: .long x :: st) h n :=
  fun p e s m args below meth c H locs L ls F d ks zz => lv_lshl F.1 F.2.1 hd rfl (kk p e s m args below meth c H locs L ls F d ⟨trivial, ks.2.2⟩ zz)
theorem pl_land {x y : Int64} (hd : decode Y.2.2.1 pc = .ok (.land, 1)) (kk : pl E Y X R K uc us (pc + 1) lv (.long (x &&& y) :: st) h n) : pl E Y X R K uc us pc lv (.long y :: .long x :: st) h n :=
  fun p e s m args below meth c H locs L ls F d ks zz => lv_land F.1 F.2.1 hd (kk p e s m args below meth c H locs L ls F d ⟨trivial, ks.2.2⟩ zz)
theorem pl_lor {x y : Int64} (hd : decode Y.2.2.1 pc = .ok (.lor, 1)) (kk : pl E Y X R K uc us (pc + 1) lv (.long (x ||| y) :: st) h n) : pl E Y X R K uc us pc lv (.long y :: .long x :: st) h n :=
  fun p e s m args below meth c H locs L ls F d ks zz => lv_lor F.1 F.2.1 hd (kk p e s m args below meth c H locs L ls F d ⟨trivial, ks.2.2⟩ zz)
theorem pl_ldc2 {index : Nat} {v : Int64} (hw : Cond.constantLong Y.1 index v ∈ pw_G) (hd : decode Y.2.2.1 pc = .ok (.ldc2_w index, 3)) (kk : pl E Y X R K uc us (pc + 3) lv (.long v :: st) h n) : pl E Y X R K uc us pc lv st h n :=
  fun p e s m args below meth c H locs L ls F d ks zz => lv_ldc2 F.1 F.2.1 (plF_own F) (plF_w F _ hw) hd (kk p e s m args below meth c H locs L ls F d ⟨trivial, ks⟩ zz)
/-- a store beside the script -/
theorem pl_st0 {L : Nat → Nat} {nL i : Nat} {ls ls' : Array Slot} {v : Value} {b : Nat} (hl : lv_has ls nL (pz_al L lv)) (zz : ls[0]? = some (.val (.ref b))) (hi : 0 < i) (h' : lv_has ls' nL ((i, v) :: ((0, Value.ref b) :: pz_al L lv).filter (fun q => !(q.1 == i) && !(q.1 + 1 == i && q.2.category == 2)))) : lv_has ls' nL ((i, v) :: (pz_al L lv).filter (fun q => !(q.1 == i) && !(q.1 + 1 == i && q.2.category == 2))) ∧ ls'[0]? = some (.val (.ref b)) := by
  have e0 : ((0, Value.ref b) :: pz_al L lv).filter (fun q => !(q.1 == i) && !(q.1 + 1 == i && q.2.category == 2)) = (0, Value.ref b) :: (pz_al L lv).filter (fun q => !(q.1 == i) && !(q.1 + 1 == i && q.2.category == 2)) := by
    rw [List.filter_cons_of_pos]
    have h1 : ((0 : Nat) == i) = false := by simp; omega
    show (!((0 : Nat) == i) && !((0 : Nat) + 1 == i && (Value.ref b).category == 2)) = true
    rw [h1]
    show (true && !((0 : Nat) + 1 == i && (1 == 2))) = true
    simp
  rw [e0] at h'
  refine ⟨⟨h'.1, h'.2.1, fun q hq => h'.2.2 q ?_⟩, h'.2.2 (0, .ref b) (List.mem_cons_of_mem _ List.mem_cons_self)⟩
  rcases List.mem_cons.mp hq with e | e
  · rw [e]; exact List.mem_cons_self
  · exact List.mem_cons_of_mem _ (List.mem_cons_of_mem _ e)
theorem pl_has0 {L : Nat → Nat} {nL : Nat} {ls : Array Slot} {b : Nat} (hl : lv_has ls nL (pz_al L lv)) (zz : ls[0]? = some (.val (.ref b))) : lv_has ls nL ((0, Value.ref b) :: pz_al L lv) := ⟨hl.1, hl.2.1, fun q hq => by
  rcases List.mem_cons.mp hq with e | e
  · rw [e]; exact zz
  · exact hl.2.2 q e⟩
theorem pl_istore {i : Nat} {x : Int32} {lv' : List (Option Value)} (hd : decode Y.2.2.1 pc = .ok (.istore i, 2)) (hi : i < Y.2.2.2.1) (hi0 : 0 < i) (hc : pz_c1 lv i = true) (hl : lv.set i (some (.int x)) = lv') (kk : pl E Y X R K uc us (pc + 2) lv' st h n) : pl E Y X R K uc us pc lv (.int x :: st) h n :=
  fun p e s m args below meth c H locs L ls F d ks zz => lv_istore F.1 F.2.1 hd (pl_has0 d.2.2.2.2.1 zz) hi rfl (fun ls' h' => kk p e s m args below meth c H locs L ls' F (hl ▸ pw_d_set (v := .int x) d hc trivial (pl_st0 d.2.2.2.2.1 zz hi0 h').1) ks.2 (pl_st0 (v := Value.int x) d.2.2.2.2.1 zz hi0 h').2)
theorem pl_astore_n {k : Fin 4} {x : Nat} {lv' : List (Option Value)} (hd : decode Y.2.2.1 pc = .ok (.astore_n k, 1)) (hi : (k : Nat) < Y.2.2.2.1) (hi0 : 0 < (k : Nat)) (hc : pz_c1 lv (k : Nat) = true) (hl : lv.set (k : Nat) (some (.ref x)) = lv') (kk : pl E Y X R K uc us (pc + 1) lv' st h n) : pl E Y X R K uc us pc lv (.ref x :: st) h n :=
  fun p e s m args below meth c H locs L ls F d ks zz => lv_astore_n F.1 F.2.1 hd rfl (pl_has0 d.2.2.2.2.1 zz) hi rfl (fun ls' h' => kk p e s m args below meth c H locs L ls' F (hl ▸ pw_d_set (v := .ref x) d hc ks.1 (pl_st0 d.2.2.2.2.1 zz hi0 h').1) ks.2 (pl_st0 (v := Value.ref (L x)) d.2.2.2.2.1 zz hi0 h').2)
/-- iinc of a place that isn't the script's -/
theorem pl_ziinc {i : Nat} {k a : Int} {lv' : List (Option Value)} (hd : decode Y.2.2.1 pc = .ok (.iinc i k, 3)) (hx : lv[i]? = some (some (.int (zI a)))) (hi : i < Y.2.2.2.1) (hi0 : 0 < i) (hc : pz_c1 lv i = true) (hl : lv.set i (some (.int (zI (a + k)))) = lv') (kk : pl E Y X R K uc us (pc + 3) lv' st h n) : pl E Y X R K uc us pc lv st h n :=
  fun p e s m args below meth c H locs L ls F d ks zz => by
    obtain ⟨j, hj⟩ := List.getElem?_of_mem (pz_al_mem (L := L) (q := (i, .int (zI a))) |>.mpr ⟨_, hx, rfl⟩)
    exact lv_iinc (k := j + 1) (v := zI (a + k)) F.1 F.2.1 hd (pl_has0 d.2.2.2.2.1 zz) hj (zI_add a k) hi rfl (fun ls' h' => kk p e s m args below meth c H locs L ls' F (hl ▸ pw_d_set (v := .int (zI (a + k))) d hc trivial (pl_st0 d.2.2.2.2.1 zz hi0 h').1) ks (pl_st0 (v := Value.int (zI (a + k))) d.2.2.2.2.1 zz hi0 h').2)
/-! the script -/
theorem pl_slen {N : Nat} (hN : X.2.1 = N) (hd0 : decode Y.2.2.1 pc = .ok (.aload_n 0, 1)) (hd1 : decode Y.2.2.1 (pc + 1) = .ok (.arraylength, 1)) (kk : pl E Y X R K uc us (pc + 1 + 1) lv (.int (zI (N : Int)) :: st) h n) : pl E Y X R K uc us pc lv st h n :=
  fun p e s m args below meth c H locs L ls F d ks zz => lv_aload_n (x := X.1) F.1 F.2.1 hd0 rfl zz (va_slen F.1 F.2.1 F.2.2.2.2.2.2.2.2.2.2.1.1 F.2.2.2.2.2.2.2.2.2.2.1.2 (plF_b F) d.2.2.2.1 hd1 (by subst hN; exact kk p e s m args below meth c H locs L ls F d ⟨trivial, ks⟩ zz))
/-- the script's int at the place that lies in local 4, and k more -/
theorem pl_sld {i k : Int} {a0 a1 a2 a3 a4 : Nat} (h1 : a1 = pc + 1) (h2 : a2 = pc + 3) (h3 : a3 = pc + 4) (h4 : a4 = pc + 5) (hi : lv[4]? = some (some (.int (zI i)))) (hik : 0 ≤ i + k ∧ i + k < X.2.1) (hN : X.2.1 < 2147483648) (hd0 : decode Y.2.2.1 pc = .ok (.aload_n 0, 1)) (hd1 : decode Y.2.2.1 a1 = .ok (.iload 4, 2)) (hd2 : decode Y.2.2.1 a2 = .ok (.iconst k, 1)) (hd3 : decode Y.2.2.1 a3 = .ok (.iadd, 1)) (hd4 : decode Y.2.2.1 a4 = .ok (.iaload, 1)) (kk : pl E Y X R K uc us (pc + 6) lv (.int (zI (X.2.2 (i + k).toNat).toInt) :: st) h n) : pl E Y X R K uc us pc lv st h n :=
  fun p e s m args below meth c H locs L ls F d ks zz => by
    subst h1 h2 h3 h4
    refine lv_aload_n (x := X.1) F.1 F.2.1 hd0 rfl zz (lv_iload F.1 F.2.1 hd1 (pz_lv_at d.2.2.2.2 hi) (lv_iconst F.1 F.2.1 hd2 rfl (lv_iadd F.1 F.2.1 hd3 ?_)))
    rw [show zI i + Int32.ofInt k = zI (i + k) from zI_add i k]
    refine va_sld F.1 F.2.1 F.2.2.2.2.2.2.2.2.2.2.1.1 F.2.2.2.2.2.2.2.2.2.2.1.2 (plF_b F) d.2.2.2.1 (zI_in hik.1 hik.2 hN) hd4 ?_
    rw [zI_cl hik.1 (by omega)]
    have k1 := kk p e s m args below meth c H locs L ls F d ⟨trivial, ks⟩ zz
    rw [← zI_of] at k1
    exact k1
theorem pl_sld0 {i : Int} (hi : lv[4]? = some (some (.int (zI i)))) (hik : 0 ≤ i ∧ i < X.2.1) (hN : X.2.1 < 2147483648) (hd0 : decode Y.2.2.1 pc = .ok (.aload_n 0, 1)) (hd1 : decode Y.2.2.1 (pc + 1) = .ok (.iload 4, 2)) (hd4 : decode Y.2.2.1 (pc + 3) = .ok (.iaload, 1)) (kk : pl E Y X R K uc us (pc + 4) lv (.int (zI (X.2.2 i.toNat).toInt) :: st) h n) : pl E Y X R K uc us pc lv st h n :=
  fun p e s m args below meth c H locs L ls F d ks zz => by
    refine lv_aload_n (x := X.1) F.1 F.2.1 hd0 rfl zz (lv_iload F.1 F.2.1 hd1 (pz_lv_at d.2.2.2.2 hi) ?_)
    refine va_sld F.1 F.2.1 F.2.2.2.2.2.2.2.2.2.2.1.1 F.2.2.2.2.2.2.2.2.2.2.1.2 (plF_b F) d.2.2.2.1 (zI_in hik.1 hik.2 hN) hd4 ?_
    rw [zI_cl hik.1 (by omega)]
    have k1 := kk p e s m args below meth c H locs L ls F d ⟨trivial, ks⟩ zz
    rw [← zI_of] at k1
    exact k1
/-- the law's end -/
theorem pl_ret (hY : Y.2.2.1 = code ∧ Y.2.2.2.2 = ret) (hR : R = room_1) (hc : uc ≤ 601024) (hs : us ≤ 7293000) (hd : decode code pc = .ok (.ireturn, 1)) : pl E Y X R K uc us pc lv [.int (zI 1)] h n :=
  fun p e s m args below meth c H locs L ls F d ks zz => by
    subst hR
    rw [F.2.2.2.2.2.1]
    refine va_forget (fun q hq => by have h9 := d.2.2.2.1.2.2 q hq; exact (F.2.2.2.2.2.2.2.2.2.1.2 ▸ h9)) (W.widen hc hs ?_)
    exact lw_ret F.1 (F.2.1.trans hY.1) (F.2.2.2.1.trans hY.2) F.2.2.2.2.1 hd

theorem pl_runM {rm : Room} {Q : Option Value → pz_H → Nat → Prop} {p : Program} {e : Env} {s : State} {m : MethodId} {args a : Array Value} {below : List Frame} {meth : Method} {c : Code} {H : Heap} {locs : List Loc} {L : Nat → Nat} {ls : Array Slot} {st0 : List Value} (F : pl_F E Y X p s m args meth c) (d : pw_D E Y K s H locs L ls lv h n) (ks : pz_ks n st) (zz : ls[0]? = some (.val (.ref X.1)))
    (hr : va_Run p E.1 e R s m args below meth c H locs uc us rm.cells rm.slots (F0 m pc ls st0) (st.map (pz_v L)) (pw_Q E L n Q a) (pw_A E))
    (kk : ∀ (r : Option Value) (h' : pz_H) (n' : Nat), Q r h' n' → n ≤ n' → pl E Y X R K (uc + rm.cells) (us + rm.slots) (pc + 3) lv (r.toList ++ st) h' n') :
    W p E.1 e R s m args below meth c H locs uc us (lw_Z below args s) (F0 m pc ls st0) := by
  intro T hT X0
  obtain ⟨v, st₀, t, T', Ls, h0, X', hL, e1, e2, ⟨L', r, h', n', ho, hn, hag, hks, hR, hQ, hF⟩, go⟩ := hr T hT X0
  obtain ⟨k1, k2, k3⟩ := vx_keep h0 e1 d.2.2.2.1 (fun _ _ z => z) (fun _ z => z) hL hF
  have ev : v = r.map (pz_v L') := by cases ho; rfl
  subst ev
  have d' : pw_D E Y K s T'.heap (locs ++ Ls) L' ls lv h' n' := ⟨Nat.le_trans d.1 hn, pz_ag_tr d.2.1 hag d.1, by rw [e1]; exact hR, k3, pz_lv_ag d.2.2.2.2 hag hn⟩
  have ks' : pz_ks n' (r.toList ++ st) := by
    cases r with
    | none => exact pz_ks_le hn ks
    | some w => exact ⟨hks.1, pz_ks_le hn ks⟩
  obtain ⟨t2, a1, b1⟩ := kk r h' n' hQ hn p e s m args below meth c T'.heap (locs ++ Ls) L' ls F d' ks' zz T' rfl X'
  refine ⟨t2, go t2 ?_, b1⟩
  have es : (r.toList ++ st).map (pz_v L') = (r.map (pz_v L')).toList ++ st.map (pz_v L) := by
    rw [List.map_append, pz_vs_ag hag ks]
    cases r <;> rfl
  rw [es] at a1
  exact a1

theorem pl_pre {p : Program} {s : State} {m : MethodId} {args : Array Value} {meth : Method} {c : Code} {H : Heap} {locs : List Loc} {L : Nat → Nat} {ls : Array Slot} {av : List Value} (F : pl_F E Y X p s m args meth c) (d : pw_D E Y K s H locs L ls lv h n) (ka : pz_ks n av) : ∀ U : State, U.heap = H → s.WarmedH U.vm → pw_P E L av h n (av.map (pz_v L)).toArray U :=
  fun U hU hW => ⟨rfl, pw_U_at (plF_U F) d.2.2.2.1 hU hW, by rw [hU]; exact d.2.2.1, ka⟩

theorem pl_callI {y : MethodName} {Yc : pw_Y} {rm : Room} {index k b : Nat} {As st0 : List Value} {Q : Option Value → pz_H → Nat → Prop} (hM : pw_M E y Yc rm (.ref b :: As) h n Q (fun _ _ _ => False)) (hst : st0 = As.reverse ++ .ref b :: st) (hy : pw_y y Yc k) (hk : As.length = k) (hi : y.name = "<init>" ∧ Yc.2.2.2.2 = none)
    (hw : Cond.methodLink Y.1 index y ∈ pw_G ∧ Cond.instanceMethod y ∈ pw_G) (hR : rm.frames + 1 ≤ R.frames ∧ 8 + (Yc.2.2.2.1 + 11) + rm.locals ≤ R.locals) (hcat : (st.map fun v => v.category).sum ≤ 8) (hcs : uc + rm.cells ≤ R.cells ∧ us + rm.slots ≤ R.slots) (hd : decode Y.2.2.1 pc = .ok (.invokespecial index, 3))
    (kk : ∀ (r : Option Value) (h' : pz_H) (n' : Nat), Q r h' n' → n ≤ n' → pl E Y X R K (uc + rm.cells) (us + rm.slots) (pc + 3) lv (r.toList ++ st) h' n') : pl E Y X R K uc us pc lv st0 h n := by
  intro p e s m args below meth c H locs L ls F d ks zz
  subst hst
  have ks2 := pz_ks_app ks
  have es : (As.reverse ++ Value.ref b :: st).map (pz_v L) = (As.map (pz_v L)).reverse ++ .ref (L b) :: st.map (pz_v L) := by
    rw [List.map_append, List.map_reverse]; rfl
  rw [es]
  refine pl_runM (rm := rm) (Q := Q) (a := (Value.ref (L b) :: As.map (pz_v L)).toArray) F d ks2.2.2 zz ?_ kk
  have hG := pw_good_ws hy
  have hMet := pw_Met hM L
  unfold pw_ws at hG hMet
  rw [hi.2] at hG hMet
  exact va_runI (As := As.map (pz_v L)) (n := k) ⟨F.1, F.2.1, F.2.2.1, plF_own F, plF_w F⟩ hMet ⟨callB_of k (plF_w F) hG rfl rfl rfl (plF_w F _ hy.2.2.2.2) (plF_w F _ hw.1) ⟨hy.1, hy.2.1, hy.2.2.1⟩ hR, hi.1, plF_w F _ hw.2⟩ ⟨pw_blind, pl_pre (av := .ref b :: As) F d ⟨ks2.2.1, pz_ks_rev ks2.1⟩⟩ rfl (by rw [List.length_map]; exact hk) d.2.2.2.2.1.1 rfl (lv_room (pw_cats hcat)) hd hcs

theorem pl_callV {y : MethodName} {Yc : pw_Y} {rm : Room} {index k b ci : Nat} {r : vw_C} {fs As st0 : List Value} {Q : Option Value → pz_H → Nat → Prop} (hM : pw_M E y Yc rm (.ref b :: As) h n Q (fun _ _ _ => False)) (hst : st0 = As.reverse ++ .ref b :: st) (hb : h b = pz_o ci fs) (hr : pw_cl[ci]? = some r) (hC : y.cls = r.1) (hy : pw_y y Yc k) (hk : As.length = k)
    (hw : Cond.methodLink Y.1 index y ∈ pw_G ∧ Cond.instanceMethod y ∈ pw_G ∧ Cond.selects r.1 y y ∈ pw_G) (hR : rm.frames + 1 ≤ R.frames ∧ 8 + (Yc.2.2.2.1 + 11) + rm.locals ≤ R.locals) (hcat : (st.map fun v => v.category).sum ≤ 8) (hcs : uc + rm.cells ≤ R.cells ∧ us + rm.slots ≤ R.slots) (hd : decode Y.2.2.1 pc = .ok (.invokevirtual index, 3))
    (kk : ∀ (r : Option Value) (h' : pz_H) (n' : Nat), Q r h' n' → n ≤ n' → pl E Y X R K (uc + rm.cells) (us + rm.slots) (pc + 3) lv (r.toList ++ st) h' n') : pl E Y X R K uc us pc lv st0 h n := by
  intro p e s m args below meth c H locs L ls F d ks zz
  subst hst
  have ks2 := pz_ks_app ks
  have es : (As.reverse ++ Value.ref b :: st).map (pz_v L) = (As.map (pz_v L)).reverse ++ .ref (L b) :: st.map (pz_v L) := by
    rw [List.map_append, List.map_reverse]; rfl
  rw [es]
  have hG : GoodIn pw_G (wsV Y.1 index r.1 y (pw_ws y Yc)) := goodIn_app (fun w hw9 => by
    have hm : w ∈ pw_G := by
      rcases List.mem_cons.mp hw9 with e1 | e1
      · rw [e1]; exact hw.1
      · rcases List.mem_cons.mp e1 with e1 | e1
        · rw [e1]; exact hw.2.1
        · rcases List.mem_cons.mp e1 with e1 | e1
          · rw [e1]; exact hw.2.2
          · rcases List.mem_cons.mp e1 with e1 | e1
            · rw [e1, ← hC]; exact hy.2.2.2.2
            · cases e1
    exact ⟨hm, good_of_word (pw_good w hm)⟩) (pw_good_ws hy)
  refine pl_runM (rm := rm) (Q := Q) (a := (Value.ref (L b) :: As.map (pz_v L)).toArray) F d ks2.2.2 zz ?_ kk
  exact va_runV (As := As.map (pz_v L)) (n := k) ⟨F.1, F.2.1, F.2.2.1, plF_own F, plF_w F⟩ (pw_Met hM L) (cwV k (plF_w F) hG rfl rfl rfl ⟨hC, hy.1, hy.2.1, hy.2.2.1⟩ hR) ⟨pw_blind, va_recv (plF_K F) d.2.2.1.1 hr (pz_obj ks2.2.1 hb), pl_pre (av := .ref b :: As) F d ⟨ks2.2.1, pz_ks_rev ks2.1⟩⟩ rfl (by rw [List.length_map]; exact hk) d.2.2.2.2.1.1 rfl (lv_room (pw_cats hcat)) hd hcs

theorem pw_MetH {y : MethodName} {Yc : pw_Y} {hh : List (Nat × Nat × Nat × Nat)} {rm : Room} {av : List Value} {Q : Option Value → pz_H → Nat → Prop} (hM : pw_MH E y Yc hh rm av h n Q (fun _ _ _ => False)) (L : Nat → Nat) : Met E.1 y (pw_wsH y Yc hh) rm (pwT_P E L av h n) (pw_Q E L n Q) rm.cells rm.slots (pw_A E) :=
  Jvm.Free.MetFree.mono (hM L) (fun _ _ z => z) (fun _ _ _ _ _ _ => trivial) (fun a s o t _ hq => by
    rcases hq with hq | ⟨q, -, C, ce, Ls, ⟨L', h', n', -, -, -, hx, -⟩, -⟩
    · exact hq
    · exact hx.elim)
theorem pwT_blind {L : Nat → Nat} {av : List Value} : FrameBlind (pwT_P E L av h n) := fun a U g mk q => ⟨q.1, ⟨pw_U_same (U := U) (T := U.calling g mk a) rfl rfl q.2.1.1, q.2.1.2⟩, q.2.2.1, q.2.2.2⟩
theorem pl_preH {p : Program} {s : State} {m : MethodId} {args : Array Value} {meth : Method} {c : Code} {H : Heap} {locs : List Loc} {L : Nat → Nat} {ls : Array Slot} {av : List Value} (F : pl_F E Y X p s m args meth c) (d : pw_D E Y K s H locs L ls lv h n) (ka : pz_ks n av) : ∀ U : State, U.heap = H → s.WarmedH U.vm → pwT_P E L av h n (av.map (pz_v L)).toArray U :=
  fun U hU hW => ⟨rfl, ⟨pw_U_at (plF_U F) d.2.2.2.1 hU hW, va_Nc.moved hW.alike F.2.2.2.2.2.2.2.2.2.2.2.1, va_Nc.moved hW.alike F.2.2.2.2.2.2.2.2.2.2.2.2⟩, by rw [hU]; exact d.2.2.1, ka⟩
/-- invokestatic of a wrapper -/
theorem pl_callSH {y : MethodName} {Yc : pw_Y} {hh : List (Nat × Nat × Nat × Nat)} {rm : Room} {index k : Nat} {As st0 : List Value} {Q : Option Value → pz_H → Nat → Prop} (hM : pw_MH E y Yc hh rm As h n Q (fun _ _ _ => False)) (hst : st0 = As.reverse ++ st) (hk : As.length = k) (hwc : Cond.codeWith y Yc.2.2.1 Yc.2.2.2.1 Yc.2.2.2.2 hh ∈ pw_G)
    (hy : y.cls ≠ "java/lang/invoke/MethodHandle" ∧ y.cls ≠ "java/lang/invoke/VarHandle" ∧ (parseMethodDescriptor y.desc).map (fun d => d.parameters.length) = some k) (hw : Cond.methodLink Y.1 index y ∈ pw_G ∧ Cond.static y ∈ pw_G ∧ Cond.initialized y.cls ∈ pw_G) (hR : rm.frames + 1 ≤ R.frames ∧ 8 + (Yc.2.2.2.1 + 11) + rm.locals ≤ R.locals) (hcat : (st.map fun v => v.category).sum ≤ 8) (hcs : uc + rm.cells ≤ R.cells ∧ us + rm.slots ≤ R.slots) (hd : decode Y.2.2.1 pc = .ok (.invokestatic index, 3))
    (kk : ∀ (r : Option Value) (h' : pz_H) (n' : Nat), Q r h' n' → n ≤ n' → pl E Y X R K (uc + rm.cells) (us + rm.slots) (pc + 3) lv (r.toList ++ st) h' n') : pl E Y X R K uc us pc lv st0 h n := by
  intro p e s m args below meth c H locs L ls F d ks zz
  subst hst
  have ks2 := pz_ks_app ks
  have es : (As.reverse ++ st).map (pz_v L) = (As.map (pz_v L)).reverse ++ st.map (pz_v L) := by
    rw [List.map_append, List.map_reverse]
  rw [es]
  have hG : GoodIn pw_G (va_wsS Y.1 index y (pw_wsH y Yc hh)) := fun w hw9 => by
    have hm : w ∈ pw_G := by
      rcases List.mem_append.mp hw9 with e1 | e1
      · rcases List.mem_cons.mp e1 with e2 | e2
        · rw [e2]; exact hw.1
        · rcases List.mem_cons.mp e2 with e2 | e2
          · rw [e2]; exact hw.2.1
          · rcases List.mem_cons.mp e2 with e2 | e2
            · rw [e2]; exact hw.2.2
            · cases e2
      · rcases List.mem_cons.mp e1 with e2 | e2
        · rw [e2]; exact hwc
        · exact e2
    exact ⟨hm, good_of_word (pw_good w hm)⟩
  refine pl_runM (rm := rm) (Q := Q) (a := (As.map (pz_v L)).toArray) F d ks2.2 zz ?_ kk
  exact vx_runSW (As := As.map (pz_v L)) (n := k) ⟨F.1, F.2.1, F.2.2.1, plF_own F, plF_w F⟩ (pw_MetH hM L) (vx_cwSW k (plF_w F) hG rfl rfl rfl hy hR) ⟨pwT_blind, pl_preH (av := As) F d (pz_ks_rev ks2.1)⟩ rfl (by rw [List.length_map]; exact hk) d.2.2.2.2.1.1 rfl (lv_room (pw_cats hcat)) hd hcs
end PL
