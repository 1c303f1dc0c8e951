/-! ===== more rows: answers, Math, arraycopy, constructors, calls to a nest mate, throws ===== -/
section PW2
variable {E : pw_E} {Y : pw_Y} {R : Room} {K : pw_K} {uc us pc : Nat} {lv : List (Option Value)} {st : List Value} {h : pz_H} {n : Nat}
theorem pw_iret {v : Int32} (hd : decode Y.2.2.1 pc = .ok (.ireturn, 1)) (hr : Y.2.2.2.2 = some .int) (hc : uc ≤ R.cells) (hs : us ≤ R.slots) (hq : K.2.2.1 (some (.int v)) h n) : pw E Y R K uc us pc lv [.int v] h n :=
  fun p e s m args below meth c H locs L ls F d ks => W.widen hc hs (vx_ret (W.iret F.1 F.2.1 (F.2.2.2.1.trans hr) (fun t ht hW => ⟨L, some (.int v), h, n, rfl, d.1, d.2.1, ⟨trivial, trivial⟩, by rw [ht]; exact d.2.2.1, hq, d.2.2.2.1.F ht⟩) d.2.2.2.1.2.2 hd F.2.2.2.2.1))
theorem pw_zret {v : Int32} (hd : decode Y.2.2.1 pc = .ok (.ireturn, 1)) (hr : Y.2.2.2.2 = some .boolean) (hn : narrow .boolean (.int v) = .int v) (hc : uc ≤ R.cells) (hs : us ≤ R.slots) (hq : K.2.2.1 (some (.int v)) h n) : pw E Y R K uc us pc lv [.int v] h n :=
  fun p e s m args below meth c H locs L ls F d ks => W.widen hc hs (vx_ret (W.zret F.1 F.2.1 (F.2.2.2.1.trans hr) hn (fun t ht hW => ⟨L, some (.int v), h, n, rfl, d.1, d.2.1, ⟨trivial, trivial⟩, by rw [ht]; exact d.2.2.1, hq, d.2.2.2.1.F ht⟩) d.2.2.2.1.2.2 hd F.2.2.2.2.1))
theorem pw_vret (hd : decode Y.2.2.1 pc = .ok (.return_, 1)) (hr : Y.2.2.2.2 = none) (hc : uc ≤ R.cells) (hs : us ≤ R.slots) (hq : K.2.2.1 none h n) : pw E Y R K uc us pc lv [] h n :=
  fun p e s m args below meth c H locs L ls F d ks => W.widen hc hs (vx_ret (W.vret F.1 F.2.1 (F.2.2.2.1.trans hr) (fun t ht hW => ⟨L, none, h, n, rfl, d.1, d.2.1, trivial, by rw [ht]; exact d.2.2.1, hq, d.2.2.2.1.F ht⟩) d.2.2.2.1.2.2 hd F.2.2.2.2.1))
theorem pw_aret {a : Nat} {rt : FieldType} (hd : decode Y.2.2.1 pc = .ok (.areturn, 1)) (hr : Y.2.2.2.2 = some rt) (hrt : (∃ C, rt = .object C) ∨ ∃ t, rt = .array t) (hc : uc ≤ R.cells) (hs : us ≤ R.slots) (hq : K.2.2.1 (some (.ref a)) h n) : pw E Y R K uc us pc lv [.ref a] h n :=
  fun p e s m args below meth c H locs L ls F d ks => W.widen hc hs (vx_ret (W.aret (v := .ref (L a)) F.1 F.2.1 (F.2.2.2.1.trans hr) hrt (Or.inr ⟨L a, rfl⟩) (fun t ht hW => ⟨L, some (.ref a), h, n, rfl, d.1, d.2.1, ⟨ks.1, trivial⟩, by rw [ht]; exact d.2.2.1, hq, d.2.2.2.1.F ht⟩) d.2.2.2.1.2.2 hd F.2.2.2.2.1))
theorem zI_max {a b : Int} (ha : -2147483648 ≤ a ∧ a < 2147483648) (hb : -2147483648 ≤ b ∧ b < 2147483648) : (if zI a < zI b then zI b else zI a) = zI (max a b) := by
  by_cases hc : a < b
  · rw [if_pos ((zI_lt ha hb).mpr hc)]
    rw [show max a b = b by omega]
  · rw [if_neg (fun z => hc ((zI_lt ha hb).mp z))]
    rw [show max a b = a by omega]
theorem pw_cats2 {L : Nat → Nat} : ((st.map (pz_v L)).map fun v => v.category).sum = (st.map fun v => v.category).sum := by
  rw [List.map_map]
  have e : ((fun v : Value => v.category) ∘ pz_v L) = fun v => v.category := by
    funext v; exact pz_cat L v
  rw [e]
theorem pw_max {a b : Int} {index : Nat} (hw : Cond.methodLink Y.1 index Lib.Math.max.name ∈ pw_G) (hd : decode Y.2.2.1 pc = .ok (.invokestatic index, 3)) (ha : -2147483648 ≤ a ∧ a < 2147483648) (hb : -2147483648 ≤ b ∧ b < 2147483648) (hR : 1 ≤ R.frames ∧ (st.map fun v => v.category).sum + 13 ≤ R.locals) (hcs : uc ≤ R.cells ∧ us ≤ R.slots) (kk : pw E Y R K uc us (pc + 3) lv (.int (zI (max a b)) :: st) h n) : pw E Y R K uc us pc lv (.int (zI b) :: .int (zI a) :: st) h n :=
  fun p e s m args below meth c H locs L ls F d ks => va_mmax F.1 F.2.1 (F.2.2.1.trans d.2.2.2.2.1.1.symm) (pwF_own F) (pwF_w F _ hw) (pwF_w F _ pw_maxw.1) (pwF_w F _ pw_maxw.2.1) (pwF_w F _ pw_maxw.2.2) hR.1 (by rw [pw_cats2]; exact hR.2) hcs.1 hcs.2 hd (by
    rw [zI_max ha hb]
    exact kk p e s m args below meth c H locs L ls F d ⟨trivial, ks.2.2⟩)
theorem zI_min {a b : Int} (ha : -2147483648 ≤ a ∧ a < 2147483648) (hb : -2147483648 ≤ b ∧ b < 2147483648) : (if zI b < zI a then zI b else zI a) = zI (min a b) := by
  by_cases hc : b < a
  · rw [if_pos ((zI_lt hb ha).mpr hc)]
    rw [show min a b = b by omega]
  · rw [if_neg (fun z => hc ((zI_lt hb ha).mp z))]
    rw [show min a b = a by omega]
theorem pw_min {a b : Int} {index : Nat} (hw : Cond.methodLink Y.1 index Lib.Math.min.name ∈ pw_G) (hd : decode Y.2.2.1 pc = .ok (.invokestatic index, 3)) (ha : -2147483648 ≤ a ∧ a < 2147483648) (hb : -2147483648 ≤ b ∧ b < 2147483648) (hR : 1 ≤ R.frames ∧ (st.map fun v => v.category).sum + 13 ≤ R.locals) (hcs : uc ≤ R.cells ∧ us ≤ R.slots) (kk : pw E Y R K uc us (pc + 3) lv (.int (zI (min a b)) :: st) h n) : pw E Y R K uc us pc lv (.int (zI b) :: .int (zI a) :: st) h n :=
  fun p e s m args below meth c H locs L ls F d ks => va_mmin F.1 F.2.1 (F.2.2.1.trans d.2.2.2.2.1.1.symm) (pwF_own F) (pwF_w F _ hw) (pwF_w F _ pw_minw.1) (pwF_w F _ pw_minw.2.1) (pwF_w F _ pw_minw.2.2) hR.1 (by rw [pw_cats2]; exact hR.2) hcs.1 hcs.2 hd (by
    rw [zI_min ha hb]
    exact kk p e s m args below meth c H locs L ls F d ⟨trivial, ks.2.2⟩)
theorem pw_copyi {a0 a1 n0 n1 index : Nat} {f g : Nat → Int} {sp dp k : Int} (hw : Cond.methodLink Y.1 index arraycopyName ∈ pw_G) (h0 : h a0 = pz_z 0 n0 f) (h1 : h a1 = pz_z 0 n1 g) (hsp : 0 ≤ sp ∧ sp < 2147483648) (hdp : 0 ≤ dp ∧ dp < 2147483648) (hk : 0 ≤ k ∧ k < 2147483648) (hs : sp + k ≤ n0) (hdd : dp + k ≤ n1) (hR : 1 ≤ R.frames ∧ (st.map fun v => v.category).sum + 18 ≤ R.locals) (hd : decode Y.2.2.1 pc = .ok (.invokestatic index, 3))
    (kk : pw E Y R K uc us (pc + 3) lv st (va_up h a1 (pz_z 0 n1 (va_cpy f g sp.toNat dp.toNat k.toNat))) n) : pw E Y R K uc us pc lv (.int (zI k) :: .int (zI dp) :: .ref a1 :: .int (zI sp) :: .ref a0 :: st) h n :=
  fun p e s m args below meth c H locs L ls F d ks => va_copyi (D := E.2.1) (ty := .int) F.1 F.2.1 (F.2.2.1.trans d.2.2.2.2.1.1.symm) (pwF_own F) (pwF_w F _ hw) (pwF_w F _ pw_cpyw.1) (pwF_w F _ pw_cpyw.2.1) (pwF_w F _ pw_cpyw.2.2) (pwF_K F) d.2.2.1.1 d.2.2.1.2.1 d.2.2.2.1 a0 a1 0 0 (pz_ints ks.2.2.2.2.1 h0) (pz_ints ks.2.2.1 h1) (pw_tys_get rfl) (pw_tys_get rfl) rfl
    (fun z => by rw [zI_0, zI_lt (by omega) (by omega)] at z; omega) (fun z => by rw [zI_0, zI_lt (by omega) (by omega)] at z; omega) (fun z => by rw [zI_0, zI_lt (by omega) (by omega)] at z; omega) (by rw [zI_cl hsp.1 hsp.2, zI_cl hk.1 hk.2]; omega) (by rw [zI_cl hdp.1 hdp.2, zI_cl hk.1 hk.2]; omega) (fun _ _ => rfl) hR.1 (by rw [pw_cats2]; exact hR.2) hd (fun H1 locs1 hP hD hS => by
      rw [zI_cl hsp.1 hsp.2, zI_cl hdp.1 hdp.2, zI_cl hk.1 hk.2, zI_cpy] at hP hD
      exact kk p e s m args below meth c H1 locs1 L ls F (pw_d_up d ks.2.2.1 rfl trivial hP hD hS) ks.2.2.2.2.2)
theorem pw_objInit {a index : Nat} (hw : Cond.methodLink Y.1 index objectInit ∈ pw_G) (hd : decode Y.2.2.1 pc = .ok (.invokespecial index, 3)) (hR : 1 ≤ R.frames ∧ (st.map fun v => v.category).sum + 12 ≤ R.locals) (kk : pw E Y R K uc us (pc + 3) lv st h n) : pw E Y R K uc us pc lv (.ref a :: st) h n :=
  fun p e s m args below meth c H locs L ls F d ks => W.objInit (g := F0 m pc ls (.ref (L a) :: st.map (pz_v L))) F.1 F.2.1 (pwF_own F) (pwF_w F _ hw) (pwF_w F _ pw_objw.1) (pwF_w F _ pw_objw.2) rfl (d.2.2.2.2.1.1.trans F.2.2.1.symm) rfl hd hR.1 (by
    show 2 * 0 + ((st.map (pz_v L)).map fun v => v.category).sum + 12 ≤ R.locals
    rw [pw_cats2, Nat.mul_zero, Nat.zero_add]; exact hR.2) (kk p e s m args below meth c H locs L ls F d ks.2)
/-- a contract that never throws -/
theorem pw_Met {y : MethodName} {Yc : pw_Y} {rm : Room} {av : List Value} {Q : Option Value → pz_H → Nat → Prop} (hM : pw_M E y Yc rm av h n Q (fun _ _ _ => False)) (L : Nat → Nat) : Met E.1 y (pw_ws y Yc) rm (pw_P E L av h n) (pw_Q E L n Q) rm.cells rm.slots (pw_A E) :=
  Jvm.Free.MetFree.mono (hM L) (fun _ _ z => z) (fun _ _ _ _ _ _ => trivial) (fun a s o t _ hq => by
    rcases hq with hq | ⟨q, -, C, ce, Ls, ⟨L', h', n', -, -, -, hx, -⟩, -⟩
    · exact hq
    · exact hx.elim)
theorem pw_runM {rm : Room} {Q : Option Value → pz_H → Nat → Prop} {p : Program} {e : Env} {s : State} {m : MethodId} {args a : Array Value} {below : List Frame} {meth : Method} {c : Code} {H : Heap} {locs : List Loc} {L : Nat → Nat} {ls : Array Slot} {st0 : List Value} (F : pw_F E Y p s m args meth c) (d : pw_D E Y K s H locs L ls lv h n) (ks : pz_ks n st)
    (hr : va_Run p E.1 e R s m args below meth c H locs uc us rm.cells rm.slots (F0 m pc ls st0) (st.map (pz_v L)) (pw_Q E L n Q a) (pw_A E))
    (kk : ∀ (r : Option Value) (h' : pz_H) (n' : Nat), Q r h' n' → n ≤ n' → pw E Y R K (uc + rm.cells) (us + rm.slots) (pc + 3) lv (r.toList ++ st) h' n') :
    W p E.1 e R s m args below meth c H locs uc us (vx_MQ below (pw_Q E K.1 K.2.1 K.2.2.1) (pw_X E K.1 K.2.1 K.2.2.2) args s R.cells R.slots (pw_A E)) (F0 m pc ls st0) := by
  intro T hT X0
  obtain ⟨v, st₀, t, T', Ls, h0, X', hL, e1, e2, ⟨L', r, h', n', ho, hn, hag, hks, hR, hQ, hF⟩, go⟩ := hr T hT X0
  obtain ⟨k1, k2, k3⟩ := vx_keep h0 e1 d.2.2.2.1 (fun _ _ z => z) (fun _ z => z) hL hF
  have ev : v = r.map (pz_v L') := by cases ho; rfl
  subst ev
  have d' : pw_D E Y K s T'.heap (locs ++ Ls) L' ls lv h' n' := ⟨Nat.le_trans d.1 hn, pz_ag_tr d.2.1 hag d.1, by rw [e1]; exact hR, k3, pz_lv_ag d.2.2.2.2 hag hn⟩
  have ks' : pz_ks n' (r.toList ++ st) := by
    cases r with
    | none => exact pz_ks_le hn ks
    | some w => exact ⟨hks.1, pz_ks_le hn ks⟩
  obtain ⟨t2, a1, b1⟩ := kk r h' n' hQ hn p e s m args below meth c T'.heap (locs ++ Ls) L' ls F d' ks' T' rfl X'
  refine ⟨t2, go t2 ?_, b1⟩
  have es : (r.toList ++ st).map (pz_v L') = (r.map (pz_v L')).toList ++ st.map (pz_v L) := by
    rw [List.map_append, pz_vs_ag hag ks]
    cases r <;> rfl
  rw [es] at a1
  exact a1
/-- invokespecial of a constructor -/
theorem pw_callI {y : MethodName} {Yc : pw_Y} {rm : Room} {index k b : Nat} {As st0 : List Value} {Q : Option Value → pz_H → Nat → Prop} (hM : pw_M E y Yc rm (.ref b :: As) h n Q (fun _ _ _ => False)) (hst : st0 = As.reverse ++ .ref b :: st) (hy : pw_y y Yc k) (hk : As.length = k) (hi : y.name = "<init>" ∧ Yc.2.2.2.2 = none)
    (hw : Cond.methodLink Y.1 index y ∈ pw_G ∧ Cond.instanceMethod y ∈ pw_G) (hR : rm.frames + 1 ≤ R.frames ∧ 8 + (Yc.2.2.2.1 + 11) + rm.locals ≤ R.locals) (hcat : (st.map fun v => v.category).sum ≤ 8) (hcs : uc + rm.cells ≤ R.cells ∧ us + rm.slots ≤ R.slots) (hd : decode Y.2.2.1 pc = .ok (.invokespecial index, 3))
    (kk : ∀ (r : Option Value) (h' : pz_H) (n' : Nat), Q r h' n' → n ≤ n' → pw E Y R K (uc + rm.cells) (us + rm.slots) (pc + 3) lv (r.toList ++ st) h' n') : pw E Y R K uc us pc lv st0 h n := by
  intro p e s m args below meth c H locs L ls F d ks
  subst hst
  have ks2 := pz_ks_app ks
  have es : (As.reverse ++ Value.ref b :: st).map (pz_v L) = (As.map (pz_v L)).reverse ++ .ref (L b) :: st.map (pz_v L) := by
    rw [List.map_append, List.map_reverse]; rfl
  rw [es]
  refine pw_runM (rm := rm) (Q := Q) (a := (Value.ref (L b) :: As.map (pz_v L)).toArray) F d ks2.2.2 ?_ kk
  have hG := pw_good_ws hy
  have hMet := pw_Met hM L
  unfold pw_ws at hG hMet
  rw [hi.2] at hG hMet
  exact va_runI (As := As.map (pz_v L)) (n := k) ⟨F.1, F.2.1, F.2.2.1, pwF_own F, pwF_w F⟩ hMet ⟨callB_of k (pwF_w F) hG rfl rfl rfl (pwF_w F _ hy.2.2.2.2) (pwF_w F _ hw.1) ⟨hy.1, hy.2.1, hy.2.2.1⟩ hR, hi.1, pwF_w F _ hw.2⟩ ⟨pw_blind, pw_pre (av := .ref b :: As) F d ⟨ks2.2.1, pz_ks_rev ks2.1⟩⟩ rfl (by rw [List.length_map]; exact hk) d.2.2.2.2.1.1 rfl (lv_room (pw_cats hcat)) hd hcs
/-- invokestatic of a nest mate's private method -/
theorem pw_callSN {y : MethodName} {Yc : pw_Y} {rm : Room} {index k : Nat} {host : String} {As st0 : List Value} {Q : Option Value → pz_H → Nat → Prop} (hM : pw_M E y Yc rm As h n Q (fun _ _ _ => False)) (hst : st0 = As.reverse ++ st) (hy : pw_y y Yc k) (hk : As.length = k)
    (hw : Cond.methodLinkNest Y.1 index y host ∈ pw_N ∧ Cond.static y ∈ pw_G) (hR : rm.frames + 1 ≤ R.frames ∧ 8 + (Yc.2.2.2.1 + 11) + rm.locals ≤ R.locals) (hcat : (st.map fun v => v.category).sum ≤ 8) (hcs : uc + rm.cells ≤ R.cells ∧ us + rm.slots ≤ R.slots) (hd : decode Y.2.2.1 pc = .ok (.invokestatic index, 3))
    (kk : ∀ (r : Option Value) (h' : pz_H) (n' : Nat), Q r h' n' → n ≤ n' → pw E Y R K (uc + rm.cells) (us + rm.slots) (pc + 3) lv (r.toList ++ st) h' n') : pw E Y R K uc us pc lv st0 h n := by
  intro p e s m args below meth c H locs L ls F d ks
  subst hst
  have ks2 := pz_ks_app ks
  have es : (As.reverse ++ st).map (pz_v L) = (As.map (pz_v L)).reverse ++ st.map (pz_v L) := by
    rw [List.map_append, List.map_reverse]
  rw [es]
  refine pw_runM (rm := rm) (Q := Q) (a := (As.map (pz_v L)).toArray) F d ks2.2 ?_ kk
  exact va_runSN (As := As.map (pz_v L)) (n := k) ⟨F.1, F.2.1, F.2.2.1, pwF_own F, pwF_w F⟩ (pw_Met hM L) ⟨va_cnB k (pwF_w F) (pw_good_ws hy) rfl rfl rfl (pwF_N F _ hw.1) (pwF_w F _ hy.2.2.2.2) ⟨hy.1, hy.2.1, hy.2.2.1⟩ hR, pwF_w F _ hw.2, trivial⟩ ⟨pw_blind, pw_pre (av := As) F d (pz_ks_rev ks2.1)⟩ rfl (by rw [List.length_map]; exact hk) d.2.2.2.2.1.1 rfl (lv_room (pw_cats hcat)) hd hcs
/-- invokespecial of a nest mate's private constructor -/
theorem pw_callIN {y : MethodName} {Yc : pw_Y} {rm : Room} {index k b : Nat} {host : String} {As st0 : List Value} {Q : Option Value → pz_H → Nat → Prop} (hM : pw_M E y Yc rm (.ref b :: As) h n Q (fun _ _ _ => False)) (hst : st0 = As.reverse ++ .ref b :: st) (hy : pw_y y Yc k) (hk : As.length = k) (hi : y.name = "<init>" ∧ Yc.2.2.2.2 = none)
    (hw : Cond.methodLinkNest Y.1 index y host ∈ pw_N ∧ Cond.instanceMethod y ∈ pw_G) (hR : rm.frames + 1 ≤ R.frames ∧ 8 + (Yc.2.2.2.1 + 11) + rm.locals ≤ R.locals) (hcat : (st.map fun v => v.category).sum ≤ 8) (hcs : uc + rm.cells ≤ R.cells ∧ us + rm.slots ≤ R.slots) (hd : decode Y.2.2.1 pc = .ok (.invokespecial index, 3))
    (kk : ∀ (r : Option Value) (h' : pz_H) (n' : Nat), Q r h' n' → n ≤ n' → pw E Y R K (uc + rm.cells) (us + rm.slots) (pc + 3) lv (r.toList ++ st) h' n') : pw E Y R K uc us pc lv st0 h n := by
  intro p e s m args below meth c H locs L ls F d ks
  subst hst
  have ks2 := pz_ks_app ks
  have es : (As.reverse ++ Value.ref b :: st).map (pz_v L) = (As.map (pz_v L)).reverse ++ .ref (L b) :: st.map (pz_v L) := by
    rw [List.map_append, List.map_reverse]; rfl
  rw [es]
  refine pw_runM (rm := rm) (Q := Q) (a := (Value.ref (L b) :: As.map (pz_v L)).toArray) F d ks2.2.2 ?_ kk
  have hG := pw_good_ws hy
  have hMet := pw_Met hM L
  unfold pw_ws at hG hMet
  rw [hi.2] at hG hMet
  exact va_runIN (As := As.map (pz_v L)) (n := k) ⟨F.1, F.2.1, F.2.2.1, pwF_own F, pwF_w F⟩ hMet ⟨va_cnB k (pwF_w F) hG rfl rfl rfl (pwF_N F _ hw.1) (pwF_w F _ hy.2.2.2.2) ⟨hy.1, hy.2.1, hy.2.2.1⟩ hR, hi.1, pwF_w F _ hw.2⟩ ⟨pw_blind, pw_pre (av := .ref b :: As) F d ⟨ks2.2.1, pz_ks_rev ks2.1⟩⟩ rfl (by rw [List.length_map]; exact hk) d.2.2.2.2.1.1 rfl (lv_room (pw_cats hcat)) hd hcs
end PW2
