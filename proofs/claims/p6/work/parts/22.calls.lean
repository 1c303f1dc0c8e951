/-! ===== CONTRACTS over ids, and calls ===== -/
def pw_P (E : pw_E) (L : Nat → Nat) (av : List Value) (h : pz_H) (n : Nat) : Array Value → State → Prop := va_Pc (av.map (pz_v L)) (fun U => pw_U E U ∧ pz_R E.2.1 pw_cl E.2.2.1 (pw_A E) L n h U.heap ∧ pz_ks n av)
def pw_ws (y : MethodName) (Y : pw_Y) : List Cond := Cond.code y Y.2.2.1 Y.2.2.2.1 Y.2.2.2.2 :: pw_G
/-- method y, from the arguments av and the cells h with n ids: it returns with Q, or throws with X -/
def pw_M (E : pw_E) (y : MethodName) (Y : pw_Y) (rm : Room) (av : List Value) (h : pz_H) (n : Nat) (Q : Option Value → pz_H → Nat → Prop) (X : String → pz_H → Nat → Prop) : Prop :=
  ∀ L : Nat → Nat, vx_Met E.1 y (pw_ws y Y) rm (pw_P E L av h n) (pw_Q E L n Q) (pw_X E L n X) rm.cells rm.slots (pw_A E)
theorem pw_U_same {E : pw_E} {U T : State} (hh : T.heap = U.heap) (hv : T.vm = U.vm) (h : pw_U E U) : pw_U E T := by
  have ha : U.vm.Alike T.vm := by rw [hv]; exact Vm.Alike.refl U.vm
  refine ⟨by rw [hh]; exact h.1, va_K.moved ha h.2.1, by rw [hh]; exact vx_Zq.moved ha h.2.2.1, by rw [hh]; exact vx_Zq.moved ha h.2.2.2.1, fun w hw => ?_, fun z hz => ?_, fun C hC => va_AO.moved ha (h.2.2.2.2.2.2 C hC)⟩
  · exact va_Nw.same (pw_N_tab w hw) hv.symm (h.2.2.2.2.1 w hw)
  · obtain ⟨sa, hs⟩ := h.2.2.2.2.2.1 z hz
    exact ⟨sa, vk_R.same hv hs⟩
theorem pw_U_at {E : pw_E} {s U : State} {H : Heap} {locs : List Loc} (hU : pw_U E s) (hS : va_S (pw_A E) s.heap H locs) (hu : U.heap = H) (hW : s.WarmedH U.vm) : pw_U E U := by
  refine ⟨by rw [hu]; exact Nat.le_trans hU.1 hS.1, va_K.moved hW.alike hU.2.1, by rw [hu]; exact vx_Zq.moved hW.alike (hU.2.2.1.kept hS.2.1), by rw [hu]; exact vx_Zq.moved hW.alike (hU.2.2.2.1.kept hS.2.1), fun w hw => ?_, fun z hz => ?_, fun C hC => va_AO.moved hW.alike (hU.2.2.2.2.2.2 C hC)⟩
  · exact pw_N_warm hW (pw_N_ok w hw) (hU.2.2.2.2.1 w hw)
  · obtain ⟨sa, hs⟩ := hU.2.2.2.2.2.1 z hz
    exact ⟨sa, vk_R.warm hW hs⟩
theorem pw_blind {E : pw_E} {L : Nat → Nat} {av : List Value} {h : pz_H} {n : Nat} : FrameBlind (pw_P E L av h n) := fun a U g mk q => ⟨q.1, pw_U_same (U := U) (T := U.calling g mk a) rfl rfl q.2.1, q.2.2.1, q.2.2.2⟩
/-- a method's locals at its start -/
def pz_ent : List Value → List (Option Value)
  | [] => []
  | v :: r => if v.category = 2 then some v :: none :: pz_ent r else some v :: pz_ent r
theorem pz_ent_at {L : Nat → Nat} : ∀ (av : List Value) (i j : Nat) (v : Value), (pz_ent av)[j]? = some (some v) → (i + j, pz_v L v) ∈ lv_args i (av.map (pz_v L))
  | [], i, j, v, hv => by cases hv
  | a :: r, i, j, v, hv => by
    show (i + j, pz_v L v) ∈ (i, pz_v L a) :: lv_args (if (pz_v L a).category = 2 then i + 2 else i + 1) (r.map (pz_v L))
    rw [pz_cat]
    unfold pz_ent at hv
    by_cases hc : a.category = 2
    · rw [if_pos hc] at hv ⊢
      match j, hv with
      | 0, hv =>
        have e : a = v := Option.some.inj (Option.some.inj hv)
        rw [e]; exact List.mem_cons_self
      | 1, hv => cases hv
      | j + 2, hv =>
        have h2 := pz_ent_at (L := L) r (i + 2) j v hv
        rw [show i + (j + 2) = i + 2 + j by omega]
        exact List.mem_cons_of_mem _ h2
    · rw [if_neg hc] at hv ⊢
      match j, hv with
      | 0, hv =>
        have e : a = v := Option.some.inj (Option.some.inj hv)
        rw [e]; exact List.mem_cons_self
      | j + 1, hv =>
        have h2 := pz_ent_at (L := L) r (i + 1) j v hv
        rw [show i + (j + 1) = i + 1 + j by omega]
        exact List.mem_cons_of_mem _ h2
theorem pz_ent_k {n : Nat} : ∀ (av : List Value), pz_ks n av → ∀ (j : Nat) (v : Value), (pz_ent av)[j]? = some (some v) → pz_k n v
  | [], _, j, v, hv => by cases hv
  | a :: r, hk, j, v, hv => by
    unfold pz_ent at hv
    by_cases hc : a.category = 2
    · rw [if_pos hc] at hv
      match j, hv with
      | 0, hv =>
        have e : a = v := Option.some.inj (Option.some.inj hv)
        rw [← e]; exact hk.1
      | 1, hv => cases hv
      | j + 2, hv => exact pz_ent_k r hk.2 j v hv
    · rw [if_neg hc] at hv
      match j, hv with
      | 0, hv =>
        have e : a = v := Option.some.inj (Option.some.inj hv)
        rw [← e]; exact hk.1
      | j + 1, hv => exact pz_ent_k r hk.2 j v hv
theorem pz_sl_len {L : Nat → Nat} : ∀ av : List Value, (lg_sl (av.map (pz_v L))).length = (pz_ent av).length
  | [] => rfl
  | a :: r => by
    show ((if (pz_v L a).category = 2 then [Slot.val (pz_v L a), .second] else [.val (pz_v L a)]) ++ lg_sl (r.map (pz_v L))).length = (if a.category = 2 then some a :: none :: pz_ent r else some a :: pz_ent r).length
    rw [List.length_append, pz_sl_len r, pz_cat]
    by_cases hc : a.category = 2
    · rw [if_pos hc, if_pos hc]; simp; omega
    · rw [if_neg hc, if_neg hc]; simp; omega
theorem pz_ent_pad {l : List (Option Value)} {k j : Nat} {v : Value} (hv : (l ++ List.replicate k none)[j]? = some (some v)) : l[j]? = some (some v) := by
  by_cases hj : j < l.length
  · rw [List.getElem?_append_left hj] at hv; exact hv
  · rw [List.getElem?_append_right (by omega), List.getElem?_replicate] at hv
    split at hv <;> cases hv
theorem pw_M_of {E : pw_E} {y : MethodName} {Y : pw_Y} {rm : Room} {av : List Value} {h : pz_H} {n : Nat} {Q : Option Value → pz_H → Nat → Prop} {X : String → pz_H → Nat → Prop} {lv : List (Option Value)} (hy : plainName y.cls = true) (h1 : Y.1 = y.cls) (h2 : Y.2.1 = y.name) (htr : E.1.stackTraces = false) (hlen : (pz_ent av).length ≤ Y.2.2.2.1) (hlv : pz_ent av ++ List.replicate (Y.2.2.2.1 - (pz_ent av).length) none = lv)
    (body : ∀ L : Nat → Nat, pw E Y rm (L, n, Q, X) 0 0 0 lv [] h n) : pw_M E y Y rm av h n Q X := by
  intro L
  refine vx_ofW (cc := Y.2.2.1) (maxL := Y.2.2.2.1) (ret := Y.2.2.2.2) hy rfl ?_
  intro p e s m args below meth c s₁ B hml hxt hP
  obtain ⟨rfl, hU, hR, hk⟩ := hP
  have hts := atoms_spec (ws := pw_ws y Y) B.pre
  have hown : s.vm.findClass y.cls = some m.cls := findClass_of_methodNamed B.named
  have hnm : meth.name = y.name := (name_of_methodNamed B.named B.method).1
  have hl := lv_entry (av.map (pz_v L)) (n := Y.2.2.2.1) (by rw [pz_sl_len]; exact hlen)
  rw [lg_entry_eq]
  generalize (lg_sl (av.map (pz_v L)) ++ List.replicate (Y.2.2.2.1 - (lg_sl (av.map (pz_v L))).length) Slot.unset).toArray = ls at hl ⊢
  have hlv2 : pz_lv L n Y.2.2.2.1 ls lv := by
    subst hlv
    refine ⟨⟨hl.1, hl.2.1, fun q hq => hl.2.2 q ?_⟩, fun i v hv => pz_ent_k av hk i v (pz_ent_pad hv)⟩
    obtain ⟨v, hv, e⟩ := pz_al_mem.mp hq
    have h3 := pz_ent_at (L := L) av 0 q.1 v (pz_ent_pad hv)
    rw [Nat.zero_add, ← e] at h3
    exact h3
  exact body L p e s m _ below meth c s.heap [] L ls ⟨B.exec, B.bytes, hml, B.returns, B.notSynchronized, hnm.trans h2.symm, by rw [h1]; exact hown, fun w hw => hts w (List.mem_cons_of_mem _ hw), hU, htr, hxt⟩ ⟨Nat.le_refl _, pz_ag_rf, hR, va_S.rf, hlv2⟩ trivial
section PWC
variable {E : pw_E} {Y : pw_Y} {R : Room} {K : pw_K} {uc us pc : Nat} {lv : List (Option Value)} {st : List Value} {h : pz_H} {n : Nat}
theorem pw_run {rm : Room} {Q : Option Value → pz_H → Nat → Prop} {X : String → pz_H → Nat → Prop} {p : Program} {e : Env} {s : State} {m : MethodId} {args a : Array Value} {below : List Frame} {meth : Method} {c : Code} {H : Heap} {locs : List Loc} {L : Nat → Nat} {ls : Array Slot} {st0 : List Value} (F : pw_F E Y p s m args meth c) (d : pw_D E Y K s H locs L ls lv h n) (ks : pz_ks n st)
    (hr : vx_Run p E.1 e R s m args below meth c H locs uc us rm.cells rm.slots (F0 m pc ls st0) (st.map (pz_v L)) (pw_Q E L n Q a) (pw_X E L n X) (pw_A E)) (hcs : uc + rm.cells ≤ R.cells) (hss : us + rm.slots ≤ R.slots)
    (kk : ∀ (r : Option Value) (h' : pz_H) (n' : Nat), Q r h' n' → n ≤ n' → pw E Y R K (uc + rm.cells) (us + rm.slots) (pc + 3) lv (r.toList ++ st) h' n') (kx : ∀ (C : String) (h' : pz_H) (n' : Nat), X C h' n' → K.2.2.2 C h' n') :
    W p E.1 e R s m args below meth c H locs uc us (vx_MQ below (pw_Q E K.1 K.2.1 K.2.2.1) (pw_X E K.1 K.2.1 K.2.2.2) args s R.cells R.slots (pw_A E)) (F0 m pc ls st0) := by
  intro T hT X0
  rcases hr T hT X0 with ⟨v, st₀, t, T', Ls, h0, X', hL, e1, e2, ⟨L', r, h', n', ho, hn, hag, hks, hR, hQ, hF⟩, go⟩ | ⟨q, st₀, t, T', Ls, Cx, ce, h0, X', hL, e1, e2, ⟨L', h', n', hn, hag, hR, hX, hF⟩, hce, hcv, hcl, go⟩
  · obtain ⟨k1, k2, k3⟩ := vx_keep h0 e1 d.2.2.2.1 (fun _ _ z => z) (fun _ z => z) hL hF
    have ev : v = r.map (pz_v L') := by cases ho; rfl
    subst ev
    have d' : pw_D E Y K s T'.heap (locs ++ Ls) L' ls lv h' n' := ⟨Nat.le_trans d.1 hn, pz_ag_tr d.2.1 hag d.1, by rw [e1]; exact hR, k3, pz_lv_ag d.2.2.2.2 hag hn⟩
    have ks' : pz_ks n' (r.toList ++ st) := by
      cases r with
      | none => exact pz_ks_le hn ks
      | some w => exact ⟨hks.1, pz_ks_le hn ks⟩
    obtain ⟨t2, a1, b1⟩ := kk r h' n' hQ hn p e s m args below meth c T'.heap (locs ++ Ls) L' ls F d' ks' T' rfl X'
    refine ⟨t2, go t2 ?_, b1⟩
    have es : (r.toList ++ st).map (pz_v L') = (r.map (pz_v L')).toList ++ st.map (pz_v L) := by
      rw [List.map_append, pz_vs_ag hag ks]
      cases r <;> rfl
    rw [es] at a1
    exact a1
  · obtain ⟨k1, k2, k3⟩ := vx_keep h0 e1 d.2.2.2.1 (fun _ _ z => z) (fun _ z => z) hL hF
    have ho : vx_W p E.1 e R s m args below meth c T'.heap (locs ++ Ls) (uc + rm.cells) (us + rm.slots) (vx_MQ below (pw_Q E K.1 K.2.1 K.2.2.1) (pw_X E K.1 K.2.1 K.2.2.2) args s R.cells R.slots (pw_A E)) (F0 m pc ls (st.map (pz_v L))) q :=
      vx_out (fun x hx => (F.2.2.2.2.2.2.2.2.2.2 x hx).elim) F.2.2.2.2.1 (by rw [e1]; exact hce) hcv hcl (fun t3 ht3 _ => ⟨L', h', n', Nat.le_trans d.1 hn, pz_ag_tr d.2.1 hag d.1, by rw [ht3, e1]; exact hR, kx Cx h' n' hX, k3.F ht3⟩) k3.2.2 hcs hss
    obtain ⟨t2, a1, b1⟩ := ho T' rfl X'
    exact ⟨t2, go.trans a1, b1⟩
/-- a callee's words and its descriptor -/
def pw_y (y : MethodName) (Yc : pw_Y) (k : Nat) : Prop := y.cls ≠ "java/lang/invoke/MethodHandle" ∧ y.cls ≠ "java/lang/invoke/VarHandle" ∧ (parseMethodDescriptor y.desc).map (fun d => d.parameters.length) = some k ∧ Cond.code y Yc.2.2.1 Yc.2.2.2.1 Yc.2.2.2.2 ∈ pw_G ∧ Cond.initialized y.cls ∈ pw_G
theorem pw_good_ws {y : MethodName} {Yc : pw_Y} {k : Nat} (hy : pw_y y Yc k) : GoodIn pw_G (pw_ws y Yc) := fun w hw => by
  have hm : w ∈ pw_G := by
    rcases List.mem_cons.mp hw with e | e
    · rw [e]; exact hy.2.2.2.1
    · exact e
  exact ⟨hm, good_of_word (pw_good w hm)⟩
theorem pw_cats {L : Nat → Nat} (hc : (st.map fun v => v.category).sum ≤ 8) : ((st.map (pz_v L)).map fun v => v.category).sum ≤ 8 := by
  rw [List.map_map]
  have e : ((fun v : Value => v.category) ∘ pz_v L) = fun v => v.category := by
    funext v; exact pz_cat L v
  rw [e]; exact hc
theorem pw_pre {p : Program} {s : State} {m : MethodId} {args : Array Value} {meth : Method} {c : Code} {H : Heap} {locs : List Loc} {L : Nat → Nat} {ls : Array Slot} {av : List Value} (F : pw_F E Y p s m args meth c) (d : pw_D E Y K s H locs L ls lv h n) (ka : pz_ks n av) : ∀ U : State, U.heap = H → s.WarmedH U.vm → pw_P E L av h n (av.map (pz_v L)).toArray U :=
  fun U hU hW => ⟨rfl, pw_U_at (pwF_U F) d.2.2.2.1 hU hW, by rw [hU]; exact d.2.2.1, ka⟩
theorem pz_ks_app {k : Nat} : ∀ {a b : List Value}, pz_ks k (a ++ b) → pz_ks k a ∧ pz_ks k b
  | [], _, hk => ⟨trivial, hk⟩
  | _ :: _, _, hk => ⟨⟨hk.1, (pz_ks_app hk.2).1⟩, (pz_ks_app hk.2).2⟩
theorem pz_ks_rev {k : Nat} {a : List Value} (hk : pz_ks k a.reverse) : pz_ks k a := pz_ks_of (fun v hv => pz_ks_mem hk v (List.mem_reverse.mpr hv))
/-- invokevirtual on an object of class ci -/
theorem pw_callV {y : MethodName} {Yc : pw_Y} {rm : Room} {index k b ci : Nat} {r : vw_C} {fs As st0 : List Value} {Q : Option Value → pz_H → Nat → Prop} {X : String → pz_H → Nat → Prop} (hM : pw_M E y Yc rm (.ref b :: As) h n Q X) (hst : st0 = As.reverse ++ .ref b :: st) (hb : h b = pz_o ci fs) (hr : pw_cl[ci]? = some r) (hC : y.cls = r.1) (hy : pw_y y Yc k) (hk : As.length = k)
    (hw : Cond.methodLink Y.1 index y ∈ pw_G ∧ Cond.instanceMethod y ∈ pw_G ∧ Cond.selects r.1 y y ∈ pw_G) (hR : rm.frames + 1 ≤ R.frames ∧ 8 + (Yc.2.2.2.1 + 11) + rm.locals ≤ R.locals) (hcat : (st.map fun v => v.category).sum ≤ 8) (hcs : uc + rm.cells ≤ R.cells ∧ us + rm.slots ≤ R.slots) (hd : decode Y.2.2.1 pc = .ok (.invokevirtual index, 3))
    (kk : ∀ (r : Option Value) (h' : pz_H) (n' : Nat), Q r h' n' → n ≤ n' → pw E Y R K (uc + rm.cells) (us + rm.slots) (pc + 3) lv (r.toList ++ st) h' n') (kx : ∀ (C : String) (h' : pz_H) (n' : Nat), X C h' n' → K.2.2.2 C h' n') : pw E Y R K uc us pc lv st0 h n := by
  intro p e s m args below meth c H locs L ls F d ks
  subst hst
  have ks2 := pz_ks_app ks
  have es : (As.reverse ++ Value.ref b :: st).map (pz_v L) = (As.map (pz_v L)).reverse ++ .ref (L b) :: st.map (pz_v L) := by
    rw [List.map_append, List.map_reverse]; rfl
  rw [es]
  have hG : GoodIn pw_G (wsV Y.1 index r.1 y (pw_ws y Yc)) := goodIn_app (fun w hw9 => by
    have hm : w ∈ pw_G := by
      rcases List.mem_cons.mp hw9 with e1 | e1
      · rw [e1]; exact hw.1
      · rcases List.mem_cons.mp e1 with e1 | e1
        · rw [e1]; exact hw.2.1
        · rcases List.mem_cons.mp e1 with e1 | e1
          · rw [e1]; exact hw.2.2
          · rcases List.mem_cons.mp e1 with e1 | e1
            · rw [e1, ← hC]; exact hy.2.2.2.2
            · cases e1
    exact ⟨hm, good_of_word (pw_good w hm)⟩) (pw_good_ws hy)
  refine pw_run (rm := rm) (Q := Q) (X := X) (a := (Value.ref (L b) :: As.map (pz_v L)).toArray) F d ks2.2.2 ?_ hcs.1 hcs.2 kk kx
  exact vx_runV (As := As.map (pz_v L)) (n := k) ⟨F.1, F.2.1, F.2.2.1, pwF_own F, pwF_w F⟩ (hM L) (cwV k (pwF_w F) hG rfl rfl rfl ⟨hC, hy.1, hy.2.1, hy.2.2.1⟩ hR) ⟨pw_blind, va_recv (pwF_K F) d.2.2.1.1 hr (pz_obj ks2.2.1 hb), pw_pre (av := .ref b :: As) F d ⟨ks2.2.1, pz_ks_rev ks2.1⟩⟩ rfl (by rw [List.length_map]; exact hk) d.2.2.2.2.1.1 rfl (lv_room (pw_cats hcat)) hd hcs
/-- invokestatic of a method of the own class -/
theorem pw_callS {y : MethodName} {Yc : pw_Y} {rm : Room} {index k : Nat} {As st0 : List Value} {Q : Option Value → pz_H → Nat → Prop} {X : String → pz_H → Nat → Prop} (hM : pw_M E y Yc rm As h n Q X) (hst : st0 = As.reverse ++ st) (hy : pw_y y Yc k) (hk : As.length = k)
    (hw : Cond.methodLink Y.1 index y ∈ pw_G ∧ Cond.static y ∈ pw_G) (hR : rm.frames + 1 ≤ R.frames ∧ 8 + (Yc.2.2.2.1 + 11) + rm.locals ≤ R.locals) (hcat : (st.map fun v => v.category).sum ≤ 8) (hcs : uc + rm.cells ≤ R.cells ∧ us + rm.slots ≤ R.slots) (hd : decode Y.2.2.1 pc = .ok (.invokestatic index, 3))
    (kk : ∀ (r : Option Value) (h' : pz_H) (n' : Nat), Q r h' n' → n ≤ n' → pw E Y R K (uc + rm.cells) (us + rm.slots) (pc + 3) lv (r.toList ++ st) h' n') (kx : ∀ (C : String) (h' : pz_H) (n' : Nat), X C h' n' → K.2.2.2 C h' n') : pw E Y R K uc us pc lv st0 h n := by
  intro p e s m args below meth c H locs L ls F d ks
  subst hst
  have ks2 := pz_ks_app ks
  have es : (As.reverse ++ st).map (pz_v L) = (As.map (pz_v L)).reverse ++ st.map (pz_v L) := by
    rw [List.map_append, List.map_reverse]
  rw [es]
  refine pw_run (rm := rm) (Q := Q) (X := X) (a := (As.map (pz_v L)).toArray) F d ks2.2 ?_ hcs.1 hcs.2 kk kx
  exact vx_runS (As := As.map (pz_v L)) (n := k) ⟨F.1, F.2.1, F.2.2.1, pwF_own F, pwF_w F⟩ (hM L) ⟨callB_of k (pwF_w F) (pw_good_ws hy) rfl rfl rfl (pwF_w F _ hy.2.2.2.2) (pwF_w F _ hw.1) ⟨hy.1, hy.2.1, hy.2.2.1⟩ hR, pwF_w F _ hw.2⟩ ⟨pw_blind, pw_pre (av := As) F d (pz_ks_rev ks2.1)⟩ rfl (by rw [List.length_map]; exact hk) d.2.2.2.2.1.1 rfl (lv_room (pw_cats hcat)) hd hcs
end PWC
