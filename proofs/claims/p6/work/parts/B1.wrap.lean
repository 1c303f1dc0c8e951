/-! ===== wrappers: methods with a table of rows that catch ===== -/
def pwN (U : State) : Prop := va_Nc "java/lang/IllegalArgumentException" "java/lang/IndexOutOfBoundsException" U ∧ va_Nc "java/lang/IllegalStateException" "java/lang/IndexOutOfBoundsException" U
def pwT_F (E : pw_E) (Y : pw_Y) (T : List ExceptionTableEntry) (p : Program) (s : State) (m : MethodId) (args : Array Value) (meth : Method) (c : Code) : Prop :=
  p.tables.exec = Jvm.exec ∧ c.code = Y.2.2.1 ∧ c.maxLocals = Y.2.2.2.1 ∧ meth.sig.returnType = Y.2.2.2.2 ∧ meth.locks = false ∧ meth.name = Y.2.1 ∧ s.vm.findClass Y.1 = some m.cls ∧ (∀ w ∈ pw_G, w.before args s = true) ∧ pw_U E s ∧ E.1.stackTraces = false ∧ c.exceptionTable.toList = T ∧ pwN s
def pwT (E : pw_E) (Y : pw_Y) (T : List ExceptionTableEntry) (R : Room) (K : pw_K) (uc us pc : Nat) (lv : List (Option Value)) (st : List Value) (h : pz_H) (n : Nat) : Prop :=
  ∀ (p : Program) (e : Env) (s : State) (m : MethodId) (args : Array Value) (below : List Frame) (meth : Method) (c : Code) (H : Heap) (locs : List Loc) (L : Nat → Nat) (ls : Array Slot),
    pwT_F E Y T p s m args meth c → pw_D E Y K s H locs L ls lv h n → pz_ks n st →
    W p E.1 e R s m args below meth c H locs uc us (vx_MQ below (pw_Q E K.1 K.2.1 K.2.2.1) (pw_X E K.1 K.2.1 K.2.2.2) args s R.cells R.slots (pw_A E)) (F0 m pc ls (st.map (pz_v L)))
section PWT
variable {E : pw_E} {Y : pw_Y} {T : List ExceptionTableEntry} {R : Room} {K : pw_K} {uc us pc : Nat} {lv : List (Option Value)} {st : List Value} {h : pz_H} {n : Nat}
theorem pwTF_own {p : Program} {s : State} {m : MethodId} {args : Array Value} {meth : Method} {c : Code} (F : pwT_F E Y T p s m args meth c) : s.vm.findClass Y.1 = some m.cls := F.2.2.2.2.2.2.1
theorem pwTF_w {p : Program} {s : State} {m : MethodId} {args : Array Value} {meth : Method} {c : Code} (F : pwT_F E Y T p s m args meth c) : ∀ w ∈ pw_G, w.before args s = true := F.2.2.2.2.2.2.2.1
theorem pwTF_U {p : Program} {s : State} {m : MethodId} {args : Array Value} {meth : Method} {c : Code} (F : pwT_F E Y T p s m args meth c) : pw_U E s := F.2.2.2.2.2.2.2.2.1
theorem pwTF_K {p : Program} {s : State} {m : MethodId} {args : Array Value} {meth : Method} {c : Code} (F : pwT_F E Y T p s m args meth c) : va_K E.2.1 pw_cl (pw_tys E) s := (pwTF_U F).2.1
theorem pwT_iconst {k : Int} {v : Int32} (hd : decode Y.2.2.1 pc = .ok (.iconst k, 1)) (hv : Int32.ofInt k = v) (kk : pwT E Y T R K uc us (pc + 1) lv (.int v :: st) h n) : pwT E Y T R K uc us pc lv st h n :=
  fun p e s m args below meth c H locs L ls F d ks => lv_iconst F.1 F.2.1 hd hv (kk p e s m args below meth c H locs L ls F d ⟨trivial, ks⟩)
theorem pwT_iload_n {k : Fin 4} {x : Int32} (hd : decode Y.2.2.1 pc = .ok (.iload_n k, 1)) (hv : lv[(k : Nat)]? = some (some (.int x))) (kk : pwT E Y T R K uc us (pc + 1) lv (.int x :: st) h n) : pwT E Y T R K uc us pc lv st h n :=
  fun p e s m args below meth c H locs L ls F d ks => lv_iload_n F.1 F.2.1 hd rfl (pz_lv_at d.2.2.2.2 hv) (kk p e s m args below meth c H locs L ls F d ⟨trivial, ks⟩)
theorem pwT_iload {i : Nat} {x : Int32} (hd : decode Y.2.2.1 pc = .ok (.iload i, 2)) (hv : lv[i]? = some (some (.int x))) (kk : pwT E Y T R K uc us (pc + 2) lv (.int x :: st) h n) : pwT E Y T R K uc us pc lv st h n :=
  fun p e s m args below meth c H locs L ls F d ks => lv_iload F.1 F.2.1 hd (pz_lv_at d.2.2.2.2 hv) (kk p e s m args below meth c H locs L ls F d ⟨trivial, ks⟩)
theorem pwT_lload_n {k : Fin 4} {x : Int64} (hd : decode Y.2.2.1 pc = .ok (.lload_n k, 1)) (hv : lv[(k : Nat)]? = some (some (.long x))) (kk : pwT E Y T R K uc us (pc + 1) lv (.long x :: st) h n) : pwT E Y T R K uc us pc lv st h n :=
  fun p e s m args below meth c H locs L ls F d ks => lv_lload_n F.1 F.2.1 hd rfl (pz_lv_at d.2.2.2.2 hv) (kk p e s m args below meth c H locs L ls F d ⟨trivial, ks⟩)
theorem pwT_aload_n {k : Fin 4} {x : Nat} (hd : decode Y.2.2.1 pc = .ok (.aload_n k, 1)) (hv : lv[(k : Nat)]? = some (some (.ref x))) (kk : pwT E Y T R K uc us (pc + 1) lv (.ref x :: st) h n) : pwT E Y T R K uc us pc lv st h n :=
  fun p e s m args below meth c H locs L ls F d ks => lv_aload_n F.1 F.2.1 hd rfl (pz_lv_at d.2.2.2.2 hv) (kk p e s m args below meth c H locs L ls F d ⟨d.2.2.2.2.2 _ _ hv, ks⟩)
theorem pwT_aload {i : Nat} {x : Nat} (hd : decode Y.2.2.1 pc = .ok (.aload i, 2)) (hv : lv[i]? = some (some (.ref x))) (kk : pwT E Y T R K uc us (pc + 2) lv (.ref x :: st) h n) : pwT E Y T R K uc us pc lv st h n :=
  fun p e s m args below meth c H locs L ls F d ks => lv_aload F.1 F.2.1 hd (pz_lv_at d.2.2.2.2 hv) (kk p e s m args below meth c H locs L ls F d ⟨d.2.2.2.2.2 _ _ hv, ks⟩)
theorem pwT_i2l {x : Int32} (hd : decode Y.2.2.1 pc = .ok (.i2l, 1)) (kk : pwT E Y T R K uc us (pc + 1) lv (.long x.toInt64 :: st) h n) : pwT E Y T R K uc us pc lv (.int x :: st) h n :=
  fun p e s m args below meth c H locs L ls F d ks => lv_i2l F.1 F.2.1 hd rfl (kk p e s m args below meth c H locs L ls F d ⟨trivial, ks.2⟩)
theorem pwT_goto {off : Int} {tgt : Nat} (hd : decode Y.2.2.1 pc = .ok (.goto off, 3)) (ht : (pc : Int) + off = (tgt : Int)) (kk : pwT E Y T R K uc us tgt lv st h n) : pwT E Y T R K uc us pc lv st h n :=
  fun p e s m args below meth c H locs L ls F d ks => lv_goto F.1 F.2.1 hd ht (kk p e s m args below meth c H locs L ls F d ks)
theorem pwT_last {t N a : Nat} {i : Int} {v : Int64} {f : Nat → Int64} (ht : pw_T[t]? = some .long) (ho : h a = pz_j t N f) (hi : 0 ≤ i ∧ i < N) (hN : N < 2147483648) (hd : decode Y.2.2.1 pc = .ok (.lastore, 1)) (kk : pwT E Y T R K uc us (pc + 1) lv st (va_up h a (pz_j t N (vp_updL f i.toNat v))) n) : pwT E Y T R K uc us pc lv (.long v :: .int (zI i) :: .ref a :: st) h n :=
  fun p e s m args below meth c H locs L ls F d ks => va_last (D := E.2.1) F.1 F.2.1 (pwTF_K F) d.2.2.1.1 d.2.2.1.2.1 d.2.2.2.1 a t (pz_longs ks.2.2.1 ho) (pw_tys_get ht) (zI_in hi.1 hi.2 hN) hd (fun H1 locs1 hP hD hS => by
    rw [zI_cl hi.1 (by omega)] at hP hD
    exact kk p e s m args below meth c H1 locs1 L ls F (pw_d_up d ks.2.2.1 rfl trivial hP hD hS) ks.2.2.2)
theorem pwT_iret {v : Int32} (hd : decode Y.2.2.1 pc = .ok (.ireturn, 1)) (hr : Y.2.2.2.2 = some .int) (hc : uc ≤ R.cells) (hs : us ≤ R.slots) (hq : K.2.2.1 (some (.int v)) h n) : pwT E Y T R K uc us pc lv [.int v] h n :=
  fun p e s m args below meth c H locs L ls F d ks => W.widen hc hs (vx_ret (W.iret F.1 F.2.1 (F.2.2.2.1.trans hr) (fun t ht hW => ⟨L, some (.int v), h, n, rfl, d.1, d.2.1, ⟨trivial, trivial⟩, by rw [ht]; exact d.2.2.1, hq, d.2.2.2.1.F ht⟩) d.2.2.2.1.2.2 hd F.2.2.2.2.1))
theorem pwT_zi2l {a : Int} (hd : decode Y.2.2.1 pc = .ok (.i2l, 1)) (ha : -2147483648 ≤ a ∧ a < 2147483648) (kk : pwT E Y T R K uc us (pc + 1) lv (.long (zL a) :: st) h n) : pwT E Y T R K uc us pc lv (.int (zI a) :: st) h n :=
  pwT_i2l hd (by rw [zL_of ha]; exact kk)
/-- a throw of class C at the place pc -/
def pwT_X (E : pw_E) (Y : pw_Y) (T : List ExceptionTableEntry) (R : Room) (K : pw_K) (uc us pc : Nat) (lv : List (Option Value)) (st : List Value) (C : String) (h : pz_H) (n : Nat) : Prop :=
  ∀ (p : Program) (e : Env) (s : State) (m : MethodId) (args : Array Value) (below : List Frame) (meth : Method) (c : Code) (H : Heap) (locs : List Loc) (L : Nat → Nat) (ls : Array Slot),
    pwT_F E Y T p s m args meth c → pw_D E Y K s H locs L ls lv h n → ∀ (q : Addr) (ce : Cell), H[q]? = some ce → ce.vm = .none → s.vm.findClass C = some ce.cls →
    vx_W p E.1 e R s m args below meth c H locs uc us (vx_MQ below (pw_Q E K.1 K.2.1 K.2.2.1) (pw_X E K.1 K.2.1 K.2.2.2) args s R.cells R.slots (pw_A E)) (F0 m pc ls (st.map (pz_v L))) q
theorem pwT_run {rm : Room} {Q : Option Value → pz_H → Nat → Prop} {X : String → pz_H → Nat → Prop} {p : Program} {e : Env} {s : State} {m : MethodId} {args a : Array Value} {below : List Frame} {meth : Method} {c : Code} {H : Heap} {locs : List Loc} {L : Nat → Nat} {ls : Array Slot} {st0 : List Value} (F : pwT_F E Y T p s m args meth c) (d : pw_D E Y K s H locs L ls lv h n) (ks : pz_ks n st)
    (hr : vx_Run p E.1 e R s m args below meth c H locs uc us rm.cells rm.slots (F0 m pc ls st0) (st.map (pz_v L)) (pw_Q E L n Q a) (pw_X E L n X) (pw_A E)) (hcs : uc + rm.cells ≤ R.cells) (hss : us + rm.slots ≤ R.slots)
    (kk : ∀ (r : Option Value) (h' : pz_H) (n' : Nat), Q r h' n' → n ≤ n' → pwT E Y T R K (uc + rm.cells) (us + rm.slots) (pc + 3) lv (r.toList ++ st) h' n') (kx : ∀ (C : String) (h' : pz_H) (n' : Nat), X C h' n' → n ≤ n' → pwT_X E Y T R K (uc + rm.cells) (us + rm.slots) pc lv st C h' n') :
    W p E.1 e R s m args below meth c H locs uc us (vx_MQ below (pw_Q E K.1 K.2.1 K.2.2.1) (pw_X E K.1 K.2.1 K.2.2.2) args s R.cells R.slots (pw_A E)) (F0 m pc ls st0) := by
  intro T9 hT X0
  rcases hr T9 hT X0 with ⟨v, st₀, t, T', Ls, h0, X', hL, e1, e2, ⟨L', r, h', n', ho, hn, hag, hks, hR, hQ, hF⟩, go⟩ | ⟨q, st₀, t, T', Ls, Cx, ce, h0, X', hL, e1, e2, ⟨L', h', n', hn, hag, hR, hX, hF⟩, hce, hcv, hcl, go⟩
  · obtain ⟨k1, k2, k3⟩ := vx_keep h0 e1 d.2.2.2.1 (fun _ _ z => z) (fun _ z => z) hL hF
    have ev : v = r.map (pz_v L') := by cases ho; rfl
    subst ev
    have d' : pw_D E Y K s T'.heap (locs ++ Ls) L' ls lv h' n' := ⟨Nat.le_trans d.1 hn, pz_ag_tr d.2.1 hag d.1, by rw [e1]; exact hR, k3, pz_lv_ag d.2.2.2.2 hag hn⟩
    have ks' : pz_ks n' (r.toList ++ st) := by
      cases r with
      | none => exact pz_ks_le hn ks
      | some w => exact ⟨hks.1, pz_ks_le hn ks⟩
    obtain ⟨t2, a1, b1⟩ := kk r h' n' hQ hn p e s m args below meth c T'.heap (locs ++ Ls) L' ls F d' ks' T' rfl X'
    refine ⟨t2, go t2 ?_, b1⟩
    have es : (r.toList ++ st).map (pz_v L') = (r.map (pz_v L')).toList ++ st.map (pz_v L) := by
      rw [List.map_append, pz_vs_ag hag ks]
      cases r <;> rfl
    rw [es] at a1
    exact a1
  · obtain ⟨k1, k2, k3⟩ := vx_keep h0 e1 d.2.2.2.1 (fun _ _ z => z) (fun _ z => z) hL hF
    have d' : pw_D E Y K s T'.heap (locs ++ Ls) L' ls lv h' n' := ⟨Nat.le_trans d.1 hn, pz_ag_tr d.2.1 hag d.1, by rw [e1]; exact hR, k3, pz_lv_ag d.2.2.2.2 hag hn⟩
    have ho := kx Cx h' n' hX hn p e s m args below meth c T'.heap (locs ++ Ls) L' ls F d' q ce (by rw [e1]; exact hce) hcv hcl
    obtain ⟨t2, a1, b1⟩ := ho T' rfl X'
    refine ⟨t2, go.trans ?_, b1⟩
    rw [pz_vs_ag hag ks] at a1
    exact a1

theorem pwT_pre {p : Program} {s : State} {m : MethodId} {args : Array Value} {meth : Method} {c : Code} {H : Heap} {locs : List Loc} {L : Nat → Nat} {ls : Array Slot} {av : List Value} (F : pwT_F E Y T p s m args meth c) (d : pw_D E Y K s H locs L ls lv h n) (ka : pz_ks n av) : ∀ U : State, U.heap = H → s.WarmedH U.vm → pw_P E L av h n (av.map (pz_v L)).toArray U :=
  fun U hU hW => ⟨rfl, pw_U_at (pwTF_U F) d.2.2.2.1 hU hW, by rw [hU]; exact d.2.2.1, ka⟩

theorem pwT_callV {y : MethodName} {Yc : pw_Y} {rm : Room} {index k b ci : Nat} {r : vw_C} {fs As st0 : List Value} {Q : Option Value → pz_H → Nat → Prop} {X : String → pz_H → Nat → Prop} (hM : pw_M E y Yc rm (.ref b :: As) h n Q X) (hst : st0 = As.reverse ++ .ref b :: st) (hb : h b = pz_o ci fs) (hr : pw_cl[ci]? = some r) (hC : y.cls = r.1) (hy : pw_y y Yc k) (hk : As.length = k)
    (hw : Cond.methodLink Y.1 index y ∈ pw_G ∧ Cond.instanceMethod y ∈ pw_G ∧ Cond.selects r.1 y y ∈ pw_G) (hR : rm.frames + 1 ≤ R.frames ∧ 8 + (Yc.2.2.2.1 + 11) + rm.locals ≤ R.locals) (hcat : (st.map fun v => v.category).sum ≤ 8) (hcs : uc + rm.cells ≤ R.cells ∧ us + rm.slots ≤ R.slots) (hd : decode Y.2.2.1 pc = .ok (.invokevirtual index, 3))
    (kk : ∀ (r : Option Value) (h' : pz_H) (n' : Nat), Q r h' n' → n ≤ n' → pwT E Y T R K (uc + rm.cells) (us + rm.slots) (pc + 3) lv (r.toList ++ st) h' n') (kx : ∀ (C : String) (h' : pz_H) (n' : Nat), X C h' n' → n ≤ n' → pwT_X E Y T R K (uc + rm.cells) (us + rm.slots) pc lv st C h' n') : pwT E Y T R K uc us pc lv st0 h n := by
  intro p e s m args below meth c H locs L ls F d ks
  subst hst
  have ks2 := pz_ks_app ks
  have es : (As.reverse ++ Value.ref b :: st).map (pz_v L) = (As.map (pz_v L)).reverse ++ .ref (L b) :: st.map (pz_v L) := by
    rw [List.map_append, List.map_reverse]; rfl
  rw [es]
  have hG : GoodIn pw_G (wsV Y.1 index r.1 y (pw_ws y Yc)) := goodIn_app (fun w hw9 => by
    have hm : w ∈ pw_G := by
      rcases List.mem_cons.mp hw9 with e1 | e1
      · rw [e1]; exact hw.1
      · rcases List.mem_cons.mp e1 with e1 | e1
        · rw [e1]; exact hw.2.1
        · rcases List.mem_cons.mp e1 with e1 | e1
          · rw [e1]; exact hw.2.2
          · rcases List.mem_cons.mp e1 with e1 | e1
            · rw [e1, ← hC]; exact hy.2.2.2.2
            · cases e1
    exact ⟨hm, good_of_word (pw_good w hm)⟩) (pw_good_ws hy)
  refine pwT_run (rm := rm) (Q := Q) (X := X) (a := (Value.ref (L b) :: As.map (pz_v L)).toArray) F d ks2.2.2 ?_ hcs.1 hcs.2 kk kx
  exact vx_runV (As := As.map (pz_v L)) (n := k) ⟨F.1, F.2.1, F.2.2.1, pwTF_own F, pwTF_w F⟩ (hM L) (cwV k (pwTF_w F) hG rfl rfl rfl ⟨hC, hy.1, hy.2.1, hy.2.2.1⟩ hR) ⟨pw_blind, va_recv (pwTF_K F) d.2.2.1.1 hr (pz_obj ks2.2.1 hb), pwT_pre (av := .ref b :: As) F d ⟨ks2.2.1, pz_ks_rev ks2.1⟩⟩ rfl (by rw [List.length_map]; exact hk) d.2.2.2.2.1.1 rfl (lv_room (pw_cats hcat)) hd hcs

theorem cx_hndn {ki : Fin 4} {k : Int} {hp : Nat} (hd1 : decode Y.2.2.1 hp = .ok (.astore_n ki, 1)) (hd2 : decode Y.2.2.1 (hp + 1) = .ok (.iconst k, 1)) (hd3 : decode Y.2.2.1 (hp + 1 + 1) = .ok (.ireturn, 1)) (hki : (ki : Nat) < Y.2.2.2.1) (hr : Y.2.2.2.2 = some .int) (hc : uc ≤ R.cells) (hs : us ≤ R.slots) (hq : K.2.2.1 (some (.int (Int32.ofInt k))) h n)
    {p : Program} {e : Env} {s : State} {m : MethodId} {args : Array Value} {below : List Frame} {meth : Method} {c : Code} {H : Heap} {locs : List Loc} {L : Nat → Nat} {ls : Array Slot} {q : Addr} (F : pwT_F E Y T p s m args meth c) (d : pw_D E Y K s H locs L ls lv h n) :
    W p E.1 e R s m args below meth c H locs uc us (vx_MQ below (pw_Q E K.1 K.2.1 K.2.2.1) (pw_X E K.1 K.2.1 K.2.2.2) args s R.cells R.slots (pw_A E)) (F0 m hp ls [.ref q]) :=
  lv_astore_n F.1 F.2.1 hd1 rfl d.2.2.2.2.1 hki rfl (fun ls2 h2 => lv_iconst F.1 F.2.1 hd2 rfl (W.widen hc hs (vx_ret (W.iret F.1 F.2.1 (F.2.2.2.1.trans hr) (fun t ht hW => ⟨L, some (.int (Int32.ofInt k)), h, n, rfl, d.1, d.2.1, ⟨trivial, trivial⟩, by rw [ht]; exact d.2.2.1, hq, d.2.2.2.1.F ht⟩) d.2.2.2.1.2.2 hd3 F.2.2.2.2.1))))
theorem cx_hnd {ki : Nat} {k : Int} {hp : Nat} (hd1 : decode Y.2.2.1 hp = .ok (.astore ki, 2)) (hd2 : decode Y.2.2.1 (hp + 2) = .ok (.iconst k, 1)) (hd3 : decode Y.2.2.1 (hp + 2 + 1) = .ok (.ireturn, 1)) (hki : ki < Y.2.2.2.1) (hr : Y.2.2.2.2 = some .int) (hc : uc ≤ R.cells) (hs : us ≤ R.slots) (hq : K.2.2.1 (some (.int (Int32.ofInt k))) h n)
    {p : Program} {e : Env} {s : State} {m : MethodId} {args : Array Value} {below : List Frame} {meth : Method} {c : Code} {H : Heap} {locs : List Loc} {L : Nat → Nat} {ls : Array Slot} {q : Addr} (F : pwT_F E Y T p s m args meth c) (d : pw_D E Y K s H locs L ls lv h n) :
    W p E.1 e R s m args below meth c H locs uc us (vx_MQ below (pw_Q E K.1 K.2.1 K.2.2.1) (pw_X E K.1 K.2.1 K.2.2.2) args s R.cells R.slots (pw_A E)) (F0 m hp ls [.ref q]) :=
  lv_astore F.1 F.2.1 hd1 d.2.2.2.2.1 hki rfl (fun ls2 h2 => lv_iconst F.1 F.2.1 hd2 rfl (W.widen hc hs (vx_ret (W.iret F.1 F.2.1 (F.2.2.2.1.trans hr) (fun t ht hW => ⟨L, some (.int (Int32.ofInt k)), h, n, rfl, d.1, d.2.1, ⟨trivial, trivial⟩, by rw [ht]; exact d.2.2.1, hq, d.2.2.2.1.F ht⟩) d.2.2.2.1.2.2 hd3 F.2.2.2.2.1))))
end PWT
def pw_wsH (y : MethodName) (Y : pw_Y) (hh : List (Nat × Nat × Nat × Nat)) : List Cond := Cond.codeWith y Y.2.2.1 Y.2.2.2.1 Y.2.2.2.2 hh :: pw_G
def pwT_P (E : pw_E) (L : Nat → Nat) (av : List Value) (h : pz_H) (n : Nat) : Array Value → State → Prop := va_Pc (av.map (pz_v L)) (fun U => (pw_U E U ∧ pwN U) ∧ pz_R E.2.1 pw_cl E.2.2.1 (pw_A E) L n h U.heap ∧ pz_ks n av)
def pw_MH (E : pw_E) (y : MethodName) (Y : pw_Y) (hh : List (Nat × Nat × Nat × Nat)) (rm : Room) (av : List Value) (h : pz_H) (n : Nat) (Q : Option Value → pz_H → Nat → Prop) (X : String → pz_H → Nat → Prop) : Prop :=
  ∀ L : Nat → Nat, vx_Met E.1 y (pw_wsH y Y hh) rm (pwT_P E L av h n) (pw_Q E L n Q) (pw_X E L n X) rm.cells rm.slots (pw_A E)
theorem pw_MH_of {E : pw_E} {y : MethodName} {Y : pw_Y} {hh : List (Nat × Nat × Nat × Nat)} {rm : Room} {av : List Value} {h : pz_H} {n : Nat} {Q : Option Value → pz_H → Nat → Prop} {X : String → pz_H → Nat → Prop} {lv : List (Option Value)} (hy : plainName y.cls = true) (h1 : Y.1 = y.cls) (h2 : Y.2.1 = y.name) (htr : E.1.stackTraces = false) (hlen : (pz_ent av).length ≤ Y.2.2.2.1) (hlv : pz_ent av ++ List.replicate (Y.2.2.2.1 - (pz_ent av).length) none = lv)
    (body : ∀ L : Nat → Nat, pwT E Y (tableOf hh) rm (L, n, Q, X) 0 0 0 lv [] h n) : pw_MH E y Y hh rm av h n Q X := by
  intro L
  refine vx_ofWH (cc := Y.2.2.1) (maxL := Y.2.2.2.1) (ret := Y.2.2.2.2) (hh := hh) hy rfl ?_
  intro p e s m args below meth c s₁ B hml hP
  obtain ⟨rfl, ⟨hU, hN⟩, hR, hk⟩ := hP
  have hts := atoms_spec (ws := pw_wsH y Y hh) B.pre
  have hown : s.vm.findClass y.cls = some m.cls := findClass_of_methodNamed B.named
  have hnm : meth.name = y.name := (name_of_methodNamed B.named B.method).1
  have htab : c.exceptionTable.toList = tableOf hh := vx_table (x := y) B (hts _ List.mem_cons_self)
  have hl := lv_entry (av.map (pz_v L)) (n := Y.2.2.2.1) (by rw [pz_sl_len]; exact hlen)
  rw [lg_entry_eq]
  generalize (lg_sl (av.map (pz_v L)) ++ List.replicate (Y.2.2.2.1 - (lg_sl (av.map (pz_v L))).length) Slot.unset).toArray = ls at hl ⊢
  have hlv2 : pz_lv L n Y.2.2.2.1 ls lv := by
    subst hlv
    refine ⟨⟨hl.1, hl.2.1, fun q hq => hl.2.2 q ?_⟩, fun i v hv => pz_ent_k av hk i v (pz_ent_pad hv)⟩
    obtain ⟨v, hv, e⟩ := pz_al_mem.mp hq
    have h3 := pz_ent_at (L := L) av 0 q.1 v (pz_ent_pad hv)
    rw [Nat.zero_add, ← e] at h3
    exact h3
  exact body L p e s m _ below meth c s.heap [] L ls ⟨B.exec, B.bytes, hml, B.returns, B.notSynchronized, hnm.trans h2.symm, by rw [h1]; exact hown, fun w hw => hts w (List.mem_cons_of_mem _ hw), hU, htr, htab, hN⟩ ⟨Nat.le_refl _, pz_ag_rf, hR, va_S.rf, hlv2⟩ trivial
