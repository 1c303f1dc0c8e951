
theorem mPk_c {s s1 : mS} {p : Nat} (hk : mPk s p) (e : ∀ k, 18 ≤ k → k ≤ 42 → s1.2 k = s.2 k) (h43 : 0 ≤ s1.2 43 p ∧ s1.2 43 p ≤ 1) (h44 : 0 ≤ s1.2 44 p ∧ s1.2 44 p ≤ 30) (h45 : 0 ≤ s1.2 45 p ∧ s1.2 45 p ≤ 900000000) : mPk s1 p := by
  obtain ⟨kw, kh, kr, kc, ksr, ksc, kt, ko, kwa, kin, kwr, khi, krd, knu, kgi, kas, kfr, kra, kco, kof, kip⟩ := hk
  unfold mPk
  rw [e 18 (by decide) (by decide), e 19 (by decide) (by decide), e 22 (by decide) (by decide), e 23 (by decide) (by decide), e 24 (by decide) (by decide), e 26 (by decide) (by decide), e 27 (by decide) (by decide), e 29 (by decide) (by decide), e 30 (by decide) (by decide), e 31 (by decide) (by decide), e 32 (by decide) (by decide), e 33 (by decide) (by decide), e 34 (by decide) (by decide), e 35 (by decide) (by decide), e 37 (by decide) (by decide), e 38 (by decide) (by decide), e 39 (by decide) (by decide), e 42 (by decide) (by decide), e 36 (by decide) (by decide)]
  exact ⟨kw, kh, kr, kc, ksr, ksc, kt, ko, kwa, kin, kwr, khi, krd, knu, kgi, kas, kfr, kra, h43, h44, h45⟩
theorem mPu_c {s s1 : mS} {p : Nat} (hk : mPu s p) (e : ∀ k, 18 ≤ k → k ≤ 42 → s1.2 k = s.2 k) : mPu s1 p := by
  unfold mPu
  rw [e 22 (by decide) (by decide), e 31 (by decide) (by decide), e 32 (by decide) (by decide), e 33 (by decide) (by decide), e 34 (by decide) (by decide), e 35 (by decide) (by decide), e 36 (by decide) (by decide), e 37 (by decide) (by decide), e 38 (by decide) (by decide), e 39 (by decide) (by decide), e 42 (by decide) (by decide)]
  exact hk
/-- COPY mode, OFFSET, what has come in of one pane have changed -/
theorem rH_c {W H M M' : Int} {t : aT} {s s' : mS} {p : Nat} (hH : rH W H M t s) (e1 : s'.1 = s.1) (e : ∀ k, k < 43 → s'.2 k = s.2 k) (eo : ∀ i, i ≠ p → s'.2 43 i = s.2 43 i ∧ s'.2 44 i = s.2 44 i ∧ s'.2 45 i = s.2 45 i) (h43 : 0 ≤ s'.2 43 p ∧ s'.2 43 p ≤ 1) (h44 : 0 ≤ s'.2 44 p ∧ s'.2 44 p ≤ 30) (h45 : 0 ≤ s'.2 45 p ∧ s'.2 45 p ≤ M') (hMM : M ≤ M') (hM : M' ≤ 900000000) : rH W H M' t s' := by
  obtain ⟨hG, ⟨i1, i2, i3, i4, i5, i6⟩, hV, hM0, hm⟩ := hH
  refine ⟨hG, ⟨rK_of 8 t _ i1 (fun i _ => ⟨by rw [e 4 (by decide)], by rw [e 5 (by decide)], by rw [e 6 (by decide)], by rw [e 7 (by decide)], by rw [e 8 (by decide)]⟩) (fun p _ => by rw [e 17 (by decide)]), rA_of 8 t _ _ i2 (fun i _ j h1 h2 => by rw [e j (by omega)]) (fun i _ => ⟨by rw [e 18 (by decide)], by rw [e 19 (by decide)]⟩), by rw [e 3 (by decide)]; exact i3, by rw [e 16 (by decide)]; exact i4, fun i hi => ?_, fun i hi => mPu_c (i6 i hi) (fun k _ h2 => e k (by omega))⟩, rV_of hV e1, by omega, fun i hi => ?_⟩
  · by_cases ei : i = p
    · rw [ei]; exact mPk_c (ei ▸ i5 i hi) (fun k _ h2 => e k (by omega)) h43 h44 ⟨h45.1, by omega⟩
    · obtain ⟨kw, kh, kr, kc, ksr, ksc, kt, ko, kwa, kin, kwr, khi, krd, knu, kgi, kas, kfr, kra, kco, kof, kip⟩ := id (i5 i hi)
      obtain ⟨o3, o4, o5⟩ := eo i ei
      exact mPk_c (i5 i hi) (fun k _ h2 => e k (by omega)) (by rw [o3]; exact kco) (by rw [o4]; exact kof) (by rw [o5]; exact kip)
  · by_cases ei : i = p
    · rw [ei]; exact h45.2
    · rw [(eo i ei).2.2]; have := hm i hi; omega
theorem mOf_le {s : mS} {p : Int} (h42 : 0 ≤ s.2 42 p.toNat ∧ s.2 42 p.toNat ≤ 30) : mOf s p ≤ s.2 42 p.toNat := by
  unfold mOf
  split <;> omega
/-- the layout, FOCUS and PREFIX are as they were -/
def rN (W H M : Int) (t : aT) (B : Nat) (s : mS) (h h' : pz_H) (n n' : Nat) : Prop := ∃ s', mAt B s' h' ∧ rH W H M t s' ∧ (s'.1 47 = s.1 47 ∧ s'.1 48 = s.1 48) ∧ mFr B h h' ∧ n' = n
set_option maxHeartbeats 1000000 in
set_option maxRecDepth 100000 in
/-- out(i) -/
theorem nG_out {E : pw_E} (htr : E.1.stackTraces = false) {h : pz_H} {n : Nat} {B : Nat} {s : mS} (hA : mAt B s h) {i : Int}  {W H M : Int} {t : aT} (hW : 8 ≤ W ∧ W ≤ 40) (hHH : 4 ≤ H ∧ H ≤ 16) (hM : M ≤ 800000000) (hH : rH W H M t s) (h_i : -2147483648 ≤ i ∧ i < 2147483648) : pw_M E yX10_out YX10_out (rmD 0 0 0) [.ref B, .int (zI (i))] h n (fun r0 h' n' => (∃ v, r0 = some (.int (zI v))) ∧ rN W H M t B s h h' n n') (fun _ _ _ => False) := by
  obtain ⟨hG, hI, ⟨⟨v1, v2⟩, ⟨v47, m47⟩, v48, v49, v53, v54, v55, v56, v57⟩, hM0, h45⟩ := id hH
  have hu := rI_us hI
  refine pw_M_of (lv := [some (.ref B), some (.int (zI (i)))]) (by decide) rfl rfl htr (nle rfl) rfl (fun L => ?_)
  refine pw_aload_n dX10_out_0 rfl ?_
  refine pw_iload_n dX10_out_1 rfl ?_
  refine pw_if_lt (tgt := 13) dX10_out_2 rfl (by omega) (fun c2 => ?_) (fun c2 => ?_)
  ·
    refine pw_iconst (v := zI (1)) dX10_out_13 (by decide) ?_
    refine pw_goto (tgt := 18) dX10_out_14 rfl ?_
    refine pw_put (fs' := (moL B (va_up s.1 0 (1)))) okX10 (k := 0) (by decide) lkX10_173 rfl rfl rfl hA.1 (nlt rfl) rfl dX10_out_18 ?_
    have hA1 : mAt B (mV 0 (1) s) (va_up h B (pz_o 13 (moL B (va_up s.1 0 (1))))) := mAt_V hA
    have hF1 : mFr B h (va_up h B (pz_o 13 (moL B (va_up s.1 0 (1))))) := mFr_tr mFr_rf (mFr_up (k := 0) (by decide))
    revert hA1 hF1
    generalize (va_up h B (pz_o 13 (moL B (va_up s.1 0 (1))))) = h1
    intro hA1 hF1
    refine pw_aload_n dX10_out_21 rfl ?_
    refine pw_get (v := .int (zI (1))) okX10 (k := 0) (by decide) lkX10_173 hA1.1 rfl dX10_out_22 ?_
    refine pw_if_le (tgt := 32) dX10_out_25 rfl (by omega) (fun c25 => ?_) (fun c25 => ?_)
    · exfalso; omega
    ·
      refine pw_iconst (v := zI (0)) dX10_out_28 (by decide) ?_
      refine pw_goto (tgt := 38) dX10_out_29 rfl ?_
      exact pw_iret dX10_out_38 rfl (nle rfl) (nle rfl) ⟨⟨_, rfl⟩, (mV 0 (1) s), hA1, rH_0 hH, ⟨rfl, rfl⟩, hF1, rfl⟩
  ·
    refine pw_iload_n dX10_out_5 rfl ?_
    refine pw_aload_n dX10_out_6 rfl ?_
    refine pw_get (v := .int (zI (s.1 57))) okX10 (k := 57) (by decide) lkX10_334 hA.1 rfl dX10_out_7 ?_
    refine pw_icmp_lt (tgt := 17) dX10_out_10 rfl (by omega) (by omega) (fun c10 => ?_) (fun c10 => ?_)
    ·
      refine pw_iconst (v := zI (0)) dX10_out_17 (by decide) ?_
      refine pw_put (fs' := (moL B (va_up s.1 0 (0)))) okX10 (k := 0) (by decide) lkX10_173 rfl rfl rfl hA.1 (nlt rfl) rfl dX10_out_18 ?_
      have hA2 : mAt B (mV 0 (0) s) (va_up h B (pz_o 13 (moL B (va_up s.1 0 (0))))) := mAt_V hA
      have hF2 : mFr B h (va_up h B (pz_o 13 (moL B (va_up s.1 0 (0))))) := mFr_tr mFr_rf (mFr_up (k := 0) (by decide))
      revert hA2 hF2
      generalize (va_up h B (pz_o 13 (moL B (va_up s.1 0 (0))))) = h2
      intro hA2 hF2
      refine pw_aload_n dX10_out_21 rfl ?_
      refine pw_get (v := .int (zI (0))) okX10 (k := 0) (by decide) lkX10_173 hA2.1 rfl dX10_out_22 ?_
      refine pw_if_le (tgt := 32) dX10_out_25 rfl (by omega) (fun c25 => ?_) (fun c25 => ?_)
      ·
        refine pw_aload_n dX10_out_32 rfl ?_
        refine pw_get (v := .ref (B + 47)) okX10 (k := 58) (by decide) lkX10_153 hA2.1 rfl dX10_out_33 ?_
        refine pw_iload_n dX10_out_36 rfl ?_
        refine pw_iald (g := (s.2 58)) (t := 0) rfl (mF58 (s := (mV 0 (0) s)) hA2) (by omega) (by decide) dX10_out_37 ?_
        exact pw_iret dX10_out_38 rfl (nle rfl) (nle rfl) ⟨⟨_, rfl⟩, (mV 0 (0) s), hA2, rH_0 hH, ⟨rfl, rfl⟩, hF2, rfl⟩
      · exfalso; omega
    ·
      refine pw_iconst (v := zI (1)) dX10_out_13 (by decide) ?_
      refine pw_goto (tgt := 18) dX10_out_14 rfl ?_
      refine pw_put (fs' := (moL B (va_up s.1 0 (1)))) okX10 (k := 0) (by decide) lkX10_173 rfl rfl rfl hA.1 (nlt rfl) rfl dX10_out_18 ?_
      have hA3 : mAt B (mV 0 (1) s) (va_up h B (pz_o 13 (moL B (va_up s.1 0 (1))))) := mAt_V hA
      have hF3 : mFr B h (va_up h B (pz_o 13 (moL B (va_up s.1 0 (1))))) := mFr_tr mFr_rf (mFr_up (k := 0) (by decide))
      revert hA3 hF3
      generalize (va_up h B (pz_o 13 (moL B (va_up s.1 0 (1))))) = h3
      intro hA3 hF3
      refine pw_aload_n dX10_out_21 rfl ?_
      refine pw_get (v := .int (zI (1))) okX10 (k := 0) (by decide) lkX10_173 hA3.1 rfl dX10_out_22 ?_
      refine pw_if_le (tgt := 32) dX10_out_25 rfl (by omega) (fun c25 => ?_) (fun c25 => ?_)
      · exfalso; omega
      ·
        refine pw_iconst (v := zI (0)) dX10_out_28 (by decide) ?_
        refine pw_goto (tgt := 38) dX10_out_29 rfl ?_
        exact pw_iret dX10_out_38 rfl (nle rfl) (nle rfl) ⟨⟨_, rfl⟩, (mV 0 (1) s), hA3, rH_0 hH, ⟨rfl, rfl⟩, hF3, rfl⟩
set_option maxHeartbeats 1000000 in
set_option maxRecDepth 100000 in
/-- copied(i) -/
theorem nG_copied {E : pw_E} (htr : E.1.stackTraces = false) {h : pz_H} {n : Nat} {B : Nat} {s : mS} (hA : mAt B s h) {i : Int}  {W H M : Int} {t : aT} (hW : 8 ≤ W ∧ W ≤ 40) (hHH : 4 ≤ H ∧ H ≤ 16) (hM : M ≤ 800000000) (hH : rH W H M t s) (h_i : -2147483648 ≤ i ∧ i < 2147483648) : pw_M E yX10_copied YX10_copied (rmD 0 0 0) [.ref B, .int (zI (i))] h n (fun r0 h' n' => (∃ v, r0 = some (.int (zI v))) ∧ rN W H M t B s h h' n n') (fun _ _ _ => False) := by
  obtain ⟨hG, hI, ⟨⟨v1, v2⟩, ⟨v47, m47⟩, v48, v49, v53, v54, v55, v56, v57⟩, hM0, h45⟩ := id hH
  have hu := rI_us hI
  refine pw_M_of (lv := [some (.ref B), some (.int (zI (i)))]) (by decide) rfl rfl htr (nle rfl) rfl (fun L => ?_)
  refine pw_aload_n dX10_copied_0 rfl ?_
  refine pw_iload_n dX10_copied_1 rfl ?_
  refine pw_if_lt (tgt := 13) dX10_copied_2 rfl (by omega) (fun c2 => ?_) (fun c2 => ?_)
  ·
    refine pw_iconst (v := zI (1)) dX10_copied_13 (by decide) ?_
    refine pw_goto (tgt := 18) dX10_copied_14 rfl ?_
    refine pw_put (fs' := (moL B (va_up s.1 0 (1)))) okX10 (k := 0) (by decide) lkX10_173 rfl rfl rfl hA.1 (nlt rfl) rfl dX10_copied_18 ?_
    have hA1 : mAt B (mV 0 (1) s) (va_up h B (pz_o 13 (moL B (va_up s.1 0 (1))))) := mAt_V hA
    have hF1 : mFr B h (va_up h B (pz_o 13 (moL B (va_up s.1 0 (1))))) := mFr_tr mFr_rf (mFr_up (k := 0) (by decide))
    revert hA1 hF1
    generalize (va_up h B (pz_o 13 (moL B (va_up s.1 0 (1))))) = h1
    intro hA1 hF1
    refine pw_aload_n dX10_copied_21 rfl ?_
    refine pw_get (v := .int (zI (1))) okX10 (k := 0) (by decide) lkX10_173 hA1.1 rfl dX10_copied_22 ?_
    refine pw_if_le (tgt := 32) dX10_copied_25 rfl (by omega) (fun c25 => ?_) (fun c25 => ?_)
    · exfalso; omega
    ·
      refine pw_iconst (v := zI (0)) dX10_copied_28 (by decide) ?_
      refine pw_goto (tgt := 38) dX10_copied_29 rfl ?_
      exact pw_iret dX10_copied_38 rfl (nle rfl) (nle rfl) ⟨⟨_, rfl⟩, (mV 0 (1) s), hA1, rH_0 hH, ⟨rfl, rfl⟩, hF1, rfl⟩
  ·
    refine pw_iload_n dX10_copied_5 rfl ?_
    refine pw_aload_n dX10_copied_6 rfl ?_
    refine pw_get (v := .int (zI (s.1 49))) okX10 (k := 49) (by decide) lkX10_308 hA.1 rfl dX10_copied_7 ?_
    refine pw_icmp_lt (tgt := 17) dX10_copied_10 rfl (by omega) (by omega) (fun c10 => ?_) (fun c10 => ?_)
    ·
      refine pw_iconst (v := zI (0)) dX10_copied_17 (by decide) ?_
      refine pw_put (fs' := (moL B (va_up s.1 0 (0)))) okX10 (k := 0) (by decide) lkX10_173 rfl rfl rfl hA.1 (nlt rfl) rfl dX10_copied_18 ?_
      have hA2 : mAt B (mV 0 (0) s) (va_up h B (pz_o 13 (moL B (va_up s.1 0 (0))))) := mAt_V hA
      have hF2 : mFr B h (va_up h B (pz_o 13 (moL B (va_up s.1 0 (0))))) := mFr_tr mFr_rf (mFr_up (k := 0) (by decide))
      revert hA2 hF2
      generalize (va_up h B (pz_o 13 (moL B (va_up s.1 0 (0))))) = h2
      intro hA2 hF2
      refine pw_aload_n dX10_copied_21 rfl ?_
      refine pw_get (v := .int (zI (0))) okX10 (k := 0) (by decide) lkX10_173 hA2.1 rfl dX10_copied_22 ?_
      refine pw_if_le (tgt := 32) dX10_copied_25 rfl (by omega) (fun c25 => ?_) (fun c25 => ?_)
      ·
        refine pw_aload_n dX10_copied_32 rfl ?_
        refine pw_get (v := .ref (B + 44)) okX10 (k := 50) (by decide) lkX10_140 hA2.1 rfl dX10_copied_33 ?_
        refine pw_iload_n dX10_copied_36 rfl ?_
        refine pw_iald (g := (s.2 50)) (t := 0) rfl (mF50 (s := (mV 0 (0) s)) hA2) (by omega) (by decide) dX10_copied_37 ?_
        exact pw_iret dX10_copied_38 rfl (nle rfl) (nle rfl) ⟨⟨_, rfl⟩, (mV 0 (0) s), hA2, rH_0 hH, ⟨rfl, rfl⟩, hF2, rfl⟩
      · exfalso; omega
    ·
      refine pw_iconst (v := zI (1)) dX10_copied_13 (by decide) ?_
      refine pw_goto (tgt := 18) dX10_copied_14 rfl ?_
      refine pw_put (fs' := (moL B (va_up s.1 0 (1)))) okX10 (k := 0) (by decide) lkX10_173 rfl rfl rfl hA.1 (nlt rfl) rfl dX10_copied_18 ?_
      have hA3 : mAt B (mV 0 (1) s) (va_up h B (pz_o 13 (moL B (va_up s.1 0 (1))))) := mAt_V hA
      have hF3 : mFr B h (va_up h B (pz_o 13 (moL B (va_up s.1 0 (1))))) := mFr_tr mFr_rf (mFr_up (k := 0) (by decide))
      revert hA3 hF3
      generalize (va_up h B (pz_o 13 (moL B (va_up s.1 0 (1))))) = h3
      intro hA3 hF3
      refine pw_aload_n dX10_copied_21 rfl ?_
      refine pw_get (v := .int (zI (1))) okX10 (k := 0) (by decide) lkX10_173 hA3.1 rfl dX10_copied_22 ?_
      refine pw_if_le (tgt := 32) dX10_copied_25 rfl (by omega) (fun c25 => ?_) (fun c25 => ?_)
      · exfalso; omega
      ·
        refine pw_iconst (v := zI (0)) dX10_copied_28 (by decide) ?_
        refine pw_goto (tgt := 38) dX10_copied_29 rfl ?_
        exact pw_iret dX10_copied_38 rfl (nle rfl) (nle rfl) ⟨⟨_, rfl⟩, (mV 0 (1) s), hA3, rH_0 hH, ⟨rfl, rfl⟩, hF3, rfl⟩
set_option maxHeartbeats 1000000 in
set_option maxRecDepth 100000 in
/-- input(p, i) -/
theorem nG_input {E : pw_E} (htr : E.1.stackTraces = false) {h : pz_H} {n : Nat} {B : Nat} {s : mS} (hA : mAt B s h) {p i : Int}  {W H M : Int} {t : aT} (hW : 8 ≤ W ∧ W ≤ 40) (hHH : 4 ≤ H ∧ H ≤ 16) (hM : M ≤ 800000000) (hH : rH W H M t s) (h_p : -2147483648 ≤ p ∧ p < 2147483648) (h_i : -2147483648 ≤ i ∧ i < 2147483648) : pw_M E yX10_input YX10_input (rmD 1 0 0) [.ref B, .int (zI (p)), .int (zI (i))] h n (fun r0 h' n' => (∃ v, r0 = some (.int (zI v))) ∧ rN W H M t B s h h' n n') (fun _ _ _ => False) := by
  obtain ⟨hG, hI, ⟨⟨v1, v2⟩, ⟨v47, m47⟩, v48, v49, v53, v54, v55, v56, v57⟩, hM0, h45⟩ := id hH
  have hu := rI_us hI
  have hnb : 0 ≤ mNo s p ∧ mNo s p ≤ 1 := mNo_b
  refine pw_M_of (lv := [some (.ref B), some (.int (zI (p))), some (.int (zI (i))), none]) (by decide) rfl rfl htr (nle rfl) rfl (fun L => ?_)
  refine pw_aload_n dX10_input_0 rfl ?_
  refine pw_iload_n dX10_input_1 rfl ?_
  refine pw_callV (As := [.int (zI (p))]) (b := B) (rm := rmD 0 0 0) (nR_noPane htr hA hu (by omega)) rfl hA.1 rfl rfl ywX10_noPane rfl cwX10_213 ⟨nle rfl, nle rfl⟩ (nle rfl) ⟨nle rfl, nle rfl⟩ dX10_input_2 ?_ (fun _ _ _ z => z.elim)
  intro r_9 h_9 n_9 hq _
  rw [hq.1, hq.2.1, hq.2.2]
  show pw E YX10_input _ _ 0 0 5 [some (.ref B), some (.int (zI (p))), some (.int (zI (i))), none] [.int (zI (mNo s (p)))] h n
  refine pw_if_ne (tgt := 19) dX10_input_5 rfl (by omega) (fun c5 => ?_) (fun c5 => ?_)
  ·
    refine pw_iconst (v := zI (0)) dX10_input_19 (by decide) ?_
    refine pw_goto (tgt := 32) dX10_input_20 rfl ?_
    refine pw_istore_n (lv' := [some (.ref B), some (.int (zI (p))), some (.int (zI (i))), some (.int (zI (0)))]) dX10_input_32 (by decide) rfl rfl ?_
    refine pw_aload_n dX10_input_33 rfl ?_
    refine pw_aload_n dX10_input_34 rfl ?_
    refine pw_iload_n dX10_input_35 rfl ?_
    refine pw_callV (As := [.int (zI (p))]) (b := B) (rm := rmD 0 0 0) (nR_noPane htr hA hu (by omega)) rfl hA.1 rfl rfl ywX10_noPane rfl cwX10_213 ⟨nle rfl, nle rfl⟩ (nle rfl) ⟨nle rfl, nle rfl⟩ dX10_input_36 ?_ (fun _ _ _ z => z.elim)
    intro r_9 h_9 n_9 hq _
    rw [hq.1, hq.2.1, hq.2.2]
    show pw E YX10_input _ _ 0 0 39 [some (.ref B), some (.int (zI (p))), some (.int (zI (i))), some (.int (zI (0)))] [.int (zI (mNo s (p))), .ref B] h n
    refine pw_if_ne (tgt := 58) dX10_input_39 rfl (by omega) (fun c39 => ?_) (fun c39 => ?_)
    ·
      refine pw_iconst (v := zI (1)) dX10_input_58 (by decide) ?_
      refine pw_goto (tgt := 63) dX10_input_59 rfl ?_
      refine pw_put (fs' := (moL B (va_up s.1 0 (1)))) okX10 (k := 0) (by decide) lkX10_173 rfl rfl rfl hA.1 (nlt rfl) rfl dX10_input_63 ?_
      have hA1 : mAt B (mV 0 (1) s) (va_up h B (pz_o 13 (moL B (va_up s.1 0 (1))))) := mAt_V hA
      have hF1 : mFr B h (va_up h B (pz_o 13 (moL B (va_up s.1 0 (1))))) := mFr_tr mFr_rf (mFr_up (k := 0) (by decide))
      revert hA1 hF1
      generalize (va_up h B (pz_o 13 (moL B (va_up s.1 0 (1))))) = h1
      intro hA1 hF1
      refine pw_aload_n dX10_input_66 rfl ?_
      refine pw_get (v := .int (zI (1))) okX10 (k := 0) (by decide) lkX10_173 hA1.1 rfl dX10_input_67 ?_
      refine pw_if_le (tgt := 77) dX10_input_70 rfl (by omega) (fun c70 => ?_) (fun c70 => ?_)
      · exfalso; omega
      ·
        refine pw_iconst (v := zI (0)) dX10_input_73 (by decide) ?_
        refine pw_goto (tgt := 93) dX10_input_74 rfl ?_
        exact pw_iret dX10_input_93 rfl (nle rfl) (nle rfl) ⟨⟨_, rfl⟩, (mV 0 (1) s), hA1, rH_0 hH, ⟨rfl, rfl⟩, hF1, rfl⟩
    · exfalso; omega
  ·
    have hp1 := (rI_no hI).mp (show mNo s p = 0 by omega)
    have hp0 := hp1.1
    have hpm := hp1.2
    obtain ⟨p8, hpk, m, e17, nd, ew, eh⟩ := rI_leaf hG hI hpm
    obtain ⟨kw, kh, kr, kc, ksr, ksc, kt, ko, kwa, kin, kwr, khi, krd, knu, kgi, kas, kfr, kra, kco, kof, kip⟩ := id hpk
    obtain ⟨nd0, nd1, nd2⟩ := id nd
    have h17 : 0 ≤ s.2 17 p.toNat ∧ s.2 17 p.toNat < 16 := by rw [e17]; omega
    refine pw_aload_n dX10_input_8 rfl ?_
    refine pw_get (v := .ref (B + 42)) okX10 (k := 45) (by decide) lkX10_134 hA.1 rfl dX10_input_9 ?_
    refine pw_iload_n dX10_input_12 rfl ?_
    refine pw_iald (g := (s.2 45)) (t := 0) rfl (mF45 (s := s) hA) (by omega) (by decide) dX10_input_13 ?_
    refine pw_bipush (v := zI (64)) dX10_input_14 (by decide) ?_
    refine pw_icmp_ge (tgt := 23) dX10_input_16 rfl (by omega) (by omega) (fun c16 => ?_) (fun c16 => ?_)
    ·
      refine pw_aload_n dX10_input_23 rfl ?_
      refine pw_get (v := .ref (B + 42)) okX10 (k := 45) (by decide) lkX10_134 hA.1 rfl dX10_input_24 ?_
      refine pw_iload_n dX10_input_27 rfl ?_
      refine pw_iald (g := (s.2 45)) (t := 0) rfl (mF45 (s := s) hA) (by omega) (by decide) dX10_input_28 ?_
      refine pw_bipush (v := zI (64)) dX10_input_29 (by decide) ?_
      refine pw_zisub dX10_input_31 ?_
      refine pw_istore_n (lv' := [some (.ref B), some (.int (zI (p))), some (.int (zI (i))), some (.int (zI (((s.2 45) (p).toNat) - (64))))]) dX10_input_32 (by decide) rfl rfl ?_
      refine pw_aload_n dX10_input_33 rfl ?_
      refine pw_aload_n dX10_input_34 rfl ?_
      refine pw_iload_n dX10_input_35 rfl ?_
      refine pw_callV (As := [.int (zI (p))]) (b := B) (rm := rmD 0 0 0) (nR_noPane htr hA hu (by omega)) rfl hA.1 rfl rfl ywX10_noPane rfl cwX10_213 ⟨nle rfl, nle rfl⟩ (nle rfl) ⟨nle rfl, nle rfl⟩ dX10_input_36 ?_ (fun _ _ _ z => z.elim)
      intro r_9 h_9 n_9 hq _
      rw [hq.1, hq.2.1, hq.2.2]
      show pw E YX10_input _ _ 0 0 39 [some (.ref B), some (.int (zI (p))), some (.int (zI (i))), some (.int (zI (((s.2 45) (p).toNat) - (64))))] [.int (zI (mNo s (p))), .ref B] h n
      refine pw_if_ne (tgt := 58) dX10_input_39 rfl (by omega) (fun c39 => ?_) (fun c39 => ?_)
      · exfalso; omega
      ·
        refine pw_iload_n dX10_input_42 rfl ?_
        refine pw_if_lt (tgt := 58) dX10_input_43 rfl (by omega) (fun c43 => ?_) (fun c43 => ?_)
        ·
          refine pw_iconst (v := zI (1)) dX10_input_58 (by decide) ?_
          refine pw_goto (tgt := 63) dX10_input_59 rfl ?_
          refine pw_put (fs' := (moL B (va_up s.1 0 (1)))) okX10 (k := 0) (by decide) lkX10_173 rfl rfl rfl hA.1 (nlt rfl) rfl dX10_input_63 ?_
          have hA2 : mAt B (mV 0 (1) s) (va_up h B (pz_o 13 (moL B (va_up s.1 0 (1))))) := mAt_V hA
          have hF2 : mFr B h (va_up h B (pz_o 13 (moL B (va_up s.1 0 (1))))) := mFr_tr mFr_rf (mFr_up (k := 0) (by decide))
          revert hA2 hF2
          generalize (va_up h B (pz_o 13 (moL B (va_up s.1 0 (1))))) = h2
          intro hA2 hF2
          refine pw_aload_n dX10_input_66 rfl ?_
          refine pw_get (v := .int (zI (1))) okX10 (k := 0) (by decide) lkX10_173 hA2.1 rfl dX10_input_67 ?_
          refine pw_if_le (tgt := 77) dX10_input_70 rfl (by omega) (fun c70 => ?_) (fun c70 => ?_)
          · exfalso; omega
          ·
            refine pw_iconst (v := zI (0)) dX10_input_73 (by decide) ?_
            refine pw_goto (tgt := 93) dX10_input_74 rfl ?_
            exact pw_iret dX10_input_93 rfl (nle rfl) (nle rfl) ⟨⟨_, rfl⟩, (mV 0 (1) s), hA2, rH_0 hH, ⟨rfl, rfl⟩, hF2, rfl⟩
        ·
          refine pw_iload_n dX10_input_46 rfl ?_
          refine pw_aload_n dX10_input_47 rfl ?_
          refine pw_get (v := .ref (B + 42)) okX10 (k := 45) (by decide) lkX10_134 hA.1 rfl dX10_input_48 ?_
          refine pw_iload_n dX10_input_51 rfl ?_
          refine pw_iald (g := (s.2 45)) (t := 0) rfl (mF45 (s := s) hA) (by omega) (by decide) dX10_input_52 ?_
          refine pw_iload_n dX10_input_53 rfl ?_
          refine pw_zisub dX10_input_54 ?_
          refine pw_icmp_lt (tgt := 62) dX10_input_55 rfl (by omega) (by omega) (fun c55 => ?_) (fun c55 => ?_)
          ·
            refine pw_iconst (v := zI (0)) dX10_input_62 (by decide) ?_
            refine pw_put (fs' := (moL B (va_up s.1 0 (0)))) okX10 (k := 0) (by decide) lkX10_173 rfl rfl rfl hA.1 (nlt rfl) rfl dX10_input_63 ?_
            have hA3 : mAt B (mV 0 (0) s) (va_up h B (pz_o 13 (moL B (va_up s.1 0 (0))))) := mAt_V hA
            have hF3 : mFr B h (va_up h B (pz_o 13 (moL B (va_up s.1 0 (0))))) := mFr_tr mFr_rf (mFr_up (k := 0) (by decide))
            revert hA3 hF3
            generalize (va_up h B (pz_o 13 (moL B (va_up s.1 0 (0))))) = h3
            intro hA3 hF3
            refine pw_aload_n dX10_input_66 rfl ?_
            refine pw_get (v := .int (zI (0))) okX10 (k := 0) (by decide) lkX10_173 hA3.1 rfl dX10_input_67 ?_
            refine pw_if_le (tgt := 77) dX10_input_70 rfl (by omega) (fun c70 => ?_) (fun c70 => ?_)
            ·
              refine pw_aload_n dX10_input_77 rfl ?_
              refine pw_get (v := .ref (B + 43)) okX10 (k := 46) (by decide) lkX10_137 hA3.1 rfl dX10_input_78 ?_
              refine pw_bipush (v := zI (64)) dX10_input_81 (by decide) ?_
              refine pw_iload_n dX10_input_83 rfl ?_
              refine pw_zimul dX10_input_84 ?_
              refine pw_iload_n dX10_input_85 rfl ?_
              refine pw_iload_n dX10_input_86 rfl ?_
              refine pw_ziadd dX10_input_87 ?_
              refine pw_bipush (v := zI (64)) dX10_input_88 (by decide) ?_
              refine pw_zirem dX10_input_90 (by omega) (by omega) ?_
              refine pw_ziadd dX10_input_91 ?_
              refine pw_iald (g := (s.2 46)) (t := 0) rfl (mF46 (s := (mV 0 (0) s)) hA3) (by omega) (by decide) dX10_input_92 ?_
              exact pw_iret dX10_input_93 rfl (nle rfl) (nle rfl) ⟨⟨_, rfl⟩, (mV 0 (0) s), hA3, rH_0 hH, ⟨rfl, rfl⟩, hF3, rfl⟩
            · exfalso; omega
          ·
            refine pw_iconst (v := zI (1)) dX10_input_58 (by decide) ?_
            refine pw_goto (tgt := 63) dX10_input_59 rfl ?_
            refine pw_put (fs' := (moL B (va_up s.1 0 (1)))) okX10 (k := 0) (by decide) lkX10_173 rfl rfl rfl hA.1 (nlt rfl) rfl dX10_input_63 ?_
            have hA4 : mAt B (mV 0 (1) s) (va_up h B (pz_o 13 (moL B (va_up s.1 0 (1))))) := mAt_V hA
            have hF4 : mFr B h (va_up h B (pz_o 13 (moL B (va_up s.1 0 (1))))) := mFr_tr mFr_rf (mFr_up (k := 0) (by decide))
            revert hA4 hF4
            generalize (va_up h B (pz_o 13 (moL B (va_up s.1 0 (1))))) = h4
            intro hA4 hF4
            refine pw_aload_n dX10_input_66 rfl ?_
            refine pw_get (v := .int (zI (1))) okX10 (k := 0) (by decide) lkX10_173 hA4.1 rfl dX10_input_67 ?_
            refine pw_if_le (tgt := 77) dX10_input_70 rfl (by omega) (fun c70 => ?_) (fun c70 => ?_)
            · exfalso; omega
            ·
              refine pw_iconst (v := zI (0)) dX10_input_73 (by decide) ?_
              refine pw_goto (tgt := 93) dX10_input_74 rfl ?_
              exact pw_iret dX10_input_93 rfl (nle rfl) (nle rfl) ⟨⟨_, rfl⟩, (mV 0 (1) s), hA4, rH_0 hH, ⟨rfl, rfl⟩, hF4, rfl⟩
    ·
      refine pw_iconst (v := zI (0)) dX10_input_19 (by decide) ?_
      refine pw_goto (tgt := 32) dX10_input_20 rfl ?_
      refine pw_istore_n (lv' := [some (.ref B), some (.int (zI (p))), some (.int (zI (i))), some (.int (zI (0)))]) dX10_input_32 (by decide) rfl rfl ?_
      refine pw_aload_n dX10_input_33 rfl ?_
      refine pw_aload_n dX10_input_34 rfl ?_
      refine pw_iload_n dX10_input_35 rfl ?_
      refine pw_callV (As := [.int (zI (p))]) (b := B) (rm := rmD 0 0 0) (nR_noPane htr hA hu (by omega)) rfl hA.1 rfl rfl ywX10_noPane rfl cwX10_213 ⟨nle rfl, nle rfl⟩ (nle rfl) ⟨nle rfl, nle rfl⟩ dX10_input_36 ?_ (fun _ _ _ z => z.elim)
      intro r_9 h_9 n_9 hq _
      rw [hq.1, hq.2.1, hq.2.2]
      show pw E YX10_input _ _ 0 0 39 [some (.ref B), some (.int (zI (p))), some (.int (zI (i))), some (.int (zI (0)))] [.int (zI (mNo s (p))), .ref B] h n
      refine pw_if_ne (tgt := 58) dX10_input_39 rfl (by omega) (fun c39 => ?_) (fun c39 => ?_)
      · exfalso; omega
      ·
        refine pw_iload_n dX10_input_42 rfl ?_
        refine pw_if_lt (tgt := 58) dX10_input_43 rfl (by omega) (fun c43 => ?_) (fun c43 => ?_)
        ·
          refine pw_iconst (v := zI (1)) dX10_input_58 (by decide) ?_
          refine pw_goto (tgt := 63) dX10_input_59 rfl ?_
          refine pw_put (fs' := (moL B (va_up s.1 0 (1)))) okX10 (k := 0) (by decide) lkX10_173 rfl rfl rfl hA.1 (nlt rfl) rfl dX10_input_63 ?_
          have hA5 : mAt B (mV 0 (1) s) (va_up h B (pz_o 13 (moL B (va_up s.1 0 (1))))) := mAt_V hA
          have hF5 : mFr B h (va_up h B (pz_o 13 (moL B (va_up s.1 0 (1))))) := mFr_tr mFr_rf (mFr_up (k := 0) (by decide))
          revert hA5 hF5
          generalize (va_up h B (pz_o 13 (moL B (va_up s.1 0 (1))))) = h5
          intro hA5 hF5
          refine pw_aload_n dX10_input_66 rfl ?_
          refine pw_get (v := .int (zI (1))) okX10 (k := 0) (by decide) lkX10_173 hA5.1 rfl dX10_input_67 ?_
          refine pw_if_le (tgt := 77) dX10_input_70 rfl (by omega) (fun c70 => ?_) (fun c70 => ?_)
          · exfalso; omega
          ·
            refine pw_iconst (v := zI (0)) dX10_input_73 (by decide) ?_
            refine pw_goto (tgt := 93) dX10_input_74 rfl ?_
            exact pw_iret dX10_input_93 rfl (nle rfl) (nle rfl) ⟨⟨_, rfl⟩, (mV 0 (1) s), hA5, rH_0 hH, ⟨rfl, rfl⟩, hF5, rfl⟩
        ·
          refine pw_iload_n dX10_input_46 rfl ?_
          refine pw_aload_n dX10_input_47 rfl ?_
          refine pw_get (v := .ref (B + 42)) okX10 (k := 45) (by decide) lkX10_134 hA.1 rfl dX10_input_48 ?_
          refine pw_iload_n dX10_input_51 rfl ?_
          refine pw_iald (g := (s.2 45)) (t := 0) rfl (mF45 (s := s) hA) (by omega) (by decide) dX10_input_52 ?_
          refine pw_iload_n dX10_input_53 rfl ?_
          refine pw_zisub dX10_input_54 ?_
          refine pw_icmp_lt (tgt := 62) dX10_input_55 rfl (by omega) (by omega) (fun c55 => ?_) (fun c55 => ?_)
          ·
            refine pw_iconst (v := zI (0)) dX10_input_62 (by decide) ?_
            refine pw_put (fs' := (moL B (va_up s.1 0 (0)))) okX10 (k := 0) (by decide) lkX10_173 rfl rfl rfl hA.1 (nlt rfl) rfl dX10_input_63 ?_
            have hA6 : mAt B (mV 0 (0) s) (va_up h B (pz_o 13 (moL B (va_up s.1 0 (0))))) := mAt_V hA
            have hF6 : mFr B h (va_up h B (pz_o 13 (moL B (va_up s.1 0 (0))))) := mFr_tr mFr_rf (mFr_up (k := 0) (by decide))
            revert hA6 hF6
            generalize (va_up h B (pz_o 13 (moL B (va_up s.1 0 (0))))) = h6
            intro hA6 hF6
            refine pw_aload_n dX10_input_66 rfl ?_
            refine pw_get (v := .int (zI (0))) okX10 (k := 0) (by decide) lkX10_173 hA6.1 rfl dX10_input_67 ?_
            refine pw_if_le (tgt := 77) dX10_input_70 rfl (by omega) (fun c70 => ?_) (fun c70 => ?_)
            ·
              refine pw_aload_n dX10_input_77 rfl ?_
              refine pw_get (v := .ref (B + 43)) okX10 (k := 46) (by decide) lkX10_137 hA6.1 rfl dX10_input_78 ?_
              refine pw_bipush (v := zI (64)) dX10_input_81 (by decide) ?_
              refine pw_iload_n dX10_input_83 rfl ?_
              refine pw_zimul dX10_input_84 ?_
              refine pw_iload_n dX10_input_85 rfl ?_
              refine pw_iload_n dX10_input_86 rfl ?_
              refine pw_ziadd dX10_input_87 ?_
              refine pw_bipush (v := zI (64)) dX10_input_88 (by decide) ?_
              refine pw_zirem dX10_input_90 (by omega) (by omega) ?_
              refine pw_ziadd dX10_input_91 ?_
              refine pw_iald (g := (s.2 46)) (t := 0) rfl (mF46 (s := (mV 0 (0) s)) hA6) (by omega) (by decide) dX10_input_92 ?_
              exact pw_iret dX10_input_93 rfl (nle rfl) (nle rfl) ⟨⟨_, rfl⟩, (mV 0 (0) s), hA6, rH_0 hH, ⟨rfl, rfl⟩, hF6, rfl⟩
            · exfalso; omega
          ·
            refine pw_iconst (v := zI (1)) dX10_input_58 (by decide) ?_
            refine pw_goto (tgt := 63) dX10_input_59 rfl ?_
            refine pw_put (fs' := (moL B (va_up s.1 0 (1)))) okX10 (k := 0) (by decide) lkX10_173 rfl rfl rfl hA.1 (nlt rfl) rfl dX10_input_63 ?_
            have hA7 : mAt B (mV 0 (1) s) (va_up h B (pz_o 13 (moL B (va_up s.1 0 (1))))) := mAt_V hA
            have hF7 : mFr B h (va_up h B (pz_o 13 (moL B (va_up s.1 0 (1))))) := mFr_tr mFr_rf (mFr_up (k := 0) (by decide))
            revert hA7 hF7
            generalize (va_up h B (pz_o 13 (moL B (va_up s.1 0 (1))))) = h7
            intro hA7 hF7
            refine pw_aload_n dX10_input_66 rfl ?_
            refine pw_get (v := .int (zI (1))) okX10 (k := 0) (by decide) lkX10_173 hA7.1 rfl dX10_input_67 ?_
            refine pw_if_le (tgt := 77) dX10_input_70 rfl (by omega) (fun c70 => ?_) (fun c70 => ?_)
            · exfalso; omega
            ·
              refine pw_iconst (v := zI (0)) dX10_input_73 (by decide) ?_
              refine pw_goto (tgt := 93) dX10_input_74 rfl ?_
              exact pw_iret dX10_input_93 rfl (nle rfl) (nle rfl) ⟨⟨_, rfl⟩, (mV 0 (1) s), hA7, rH_0 hH, ⟨rfl, rfl⟩, hF7, rfl⟩
set_option maxHeartbeats 1000000 in
set_option maxRecDepth 100000 in
/-- about(p, k) -/
theorem nG_about {E : pw_E} (htr : E.1.stackTraces = false) {h : pz_H} {n : Nat} {B : Nat} {s : mS} (hA : mAt B s h) {p k : Int}  {W H M : Int} {t : aT} (hW : 8 ≤ W ∧ W ≤ 40) (hHH : 4 ≤ H ∧ H ≤ 16) (hM : M ≤ 800000000) (hH : rH W H M t s) (h_p : -2147483648 ≤ p ∧ p < 2147483648) (h_k : -2147483648 ≤ k ∧ k < 2147483648) : pw_M E yX10_about YX10_about (rmD 1 0 0) [.ref B, .int (zI (p)), .int (zI (k))] h n (fun r0 h' n' => (∃ v, r0 = some (.int (zI v))) ∧ rN W H M t B s h h' n n') (fun _ _ _ => False) := by
  obtain ⟨hG, hI, ⟨⟨v1, v2⟩, ⟨v47, m47⟩, v48, v49, v53, v54, v55, v56, v57⟩, hM0, h45⟩ := id hH
  have hu := rI_us hI
  have hnb : 0 ≤ mNo s p ∧ mNo s p ≤ 1 := mNo_b
  refine pw_M_of (lv := [some (.ref B), some (.int (zI (p))), some (.int (zI (k))), none]) (by decide) rfl rfl htr (nle rfl) rfl (fun L => ?_)
  refine pw_aload_n dX10_about_0 rfl ?_
  refine pw_aload_n dX10_about_1 rfl ?_
  refine pw_iload_n dX10_about_2 rfl ?_
  refine pw_callV (As := [.int (zI (p))]) (b := B) (rm := rmD 0 0 0) (nR_noPane htr hA hu (by omega)) rfl hA.1 rfl rfl ywX10_noPane rfl cwX10_213 ⟨nle rfl, nle rfl⟩ (nle rfl) ⟨nle rfl, nle rfl⟩ dX10_about_3 ?_ (fun _ _ _ z => z.elim)
  intro r_9 h_9 n_9 hq _
  rw [hq.1, hq.2.1, hq.2.2]
  show pw E YX10_about _ _ 0 0 6 [some (.ref B), some (.int (zI (p))), some (.int (zI (k))), none] [.int (zI (mNo s (p))), .ref B] h n
  refine pw_if_eq (tgt := 13) dX10_about_6 rfl (by omega) (fun c6 => ?_) (fun c6 => ?_)
  ·
    have hp1 := (rI_no hI).mp (show mNo s p = 0 by omega)
    have hp0 := hp1.1
    have hpm := hp1.2
    obtain ⟨p8, hpk, m, e17, nd, ew, eh⟩ := rI_leaf hG hI hpm
    obtain ⟨kw, kh, kr, kc, ksr, ksc, kt, ko, kwa, kin, kwr, khi, krd, knu, kgi, kas, kfr, kra, kco, kof, kip⟩ := id hpk
    obtain ⟨nd0, nd1, nd2⟩ := id nd
    have h17 : 0 ≤ s.2 17 p.toNat ∧ s.2 17 p.toNat < 16 := by rw [e17]; omega
    refine pw_iload_n dX10_about_13 rfl ?_
    refine pw_if_lt (tgt := 23) dX10_about_14 rfl (by omega) (fun c14 => ?_) (fun c14 => ?_)
    ·
      refine pw_iconst (v := zI (2)) dX10_about_23 (by decide) ?_
      refine pw_goto (tgt := 28) dX10_about_24 rfl ?_
      refine pw_put (fs' := (moL B (va_up s.1 0 (2)))) okX10 (k := 0) (by decide) lkX10_173 rfl rfl rfl hA.1 (nlt rfl) rfl dX10_about_28 ?_
      have hA1 : mAt B (mV 0 (2) s) (va_up h B (pz_o 13 (moL B (va_up s.1 0 (2))))) := mAt_V hA
      have hF1 : mFr B h (va_up h B (pz_o 13 (moL B (va_up s.1 0 (2))))) := mFr_tr mFr_rf (mFr_up (k := 0) (by decide))
      revert hA1 hF1
      generalize (va_up h B (pz_o 13 (moL B (va_up s.1 0 (2))))) = h1
      intro hA1 hF1
      refine pw_aload_n dX10_about_31 rfl ?_
      refine pw_get (v := .int (zI (2))) okX10 (k := 0) (by decide) lkX10_173 hA1.1 rfl dX10_about_32 ?_
      refine pw_if_le (tgt := 40) dX10_about_35 rfl (by omega) (fun c35 => ?_) (fun c35 => ?_)
      · exfalso; omega
      ·
        refine pw_iconst (v := zI (0)) dX10_about_38 (by decide) ?_
        exact pw_iret dX10_about_39 rfl (nle rfl) (nle rfl) ⟨⟨_, rfl⟩, (mV 0 (2) s), hA1, rH_0 hH, ⟨rfl, rfl⟩, hF1, rfl⟩
    ·
      refine pw_iload_n dX10_about_17 rfl ?_
      refine pw_bipush (v := zI (10)) dX10_about_18 (by decide) ?_
      refine pw_icmp_le (tgt := 27) dX10_about_20 rfl (by omega) (by omega) (fun c20 => ?_) (fun c20 => ?_)
      ·
        refine pw_iconst (v := zI (0)) dX10_about_27 (by decide) ?_
        refine pw_put (fs' := (moL B (va_up s.1 0 (0)))) okX10 (k := 0) (by decide) lkX10_173 rfl rfl rfl hA.1 (nlt rfl) rfl dX10_about_28 ?_
        have hA2 : mAt B (mV 0 (0) s) (va_up h B (pz_o 13 (moL B (va_up s.1 0 (0))))) := mAt_V hA
        have hF2 : mFr B h (va_up h B (pz_o 13 (moL B (va_up s.1 0 (0))))) := mFr_tr mFr_rf (mFr_up (k := 0) (by decide))
        revert hA2 hF2
        generalize (va_up h B (pz_o 13 (moL B (va_up s.1 0 (0))))) = h2
        intro hA2 hF2
        refine pw_aload_n dX10_about_31 rfl ?_
        refine pw_get (v := .int (zI (0))) okX10 (k := 0) (by decide) lkX10_173 hA2.1 rfl dX10_about_32 ?_
        refine pw_if_le (tgt := 40) dX10_about_35 rfl (by omega) (fun c35 => ?_) (fun c35 => ?_)
        ·
          refine pw_aload_n dX10_about_40 rfl ?_
          refine pw_get (v := .ref (B + 14)) okX10 (k := 17) (by decide) lkX10_50 hA2.1 rfl dX10_about_41 ?_
          refine pw_iload_n dX10_about_44 rfl ?_
          refine pw_iald (g := (s.2 17)) (t := 0) rfl (mF17 (s := (mV 0 (0) s)) hA2) (by omega) (by decide) dX10_about_45 ?_
          refine pw_istore_n (lv' := [some (.ref B), some (.int (zI (p))), some (.int (zI (k))), some (.int (zI ((s.2 17) (p).toNat)))]) dX10_about_46 (by decide) rfl rfl ?_
          refine pw_iload_n dX10_about_47 rfl ?_
          refine pw_iconst (v := zI (4)) dX10_about_48 (by decide) ?_
          refine pw_icmp_ge (tgt := 100) dX10_about_49 rfl (by omega) (by omega) (fun c49 => ?_) (fun c49 => ?_)
          ·
            refine pw_iload_n dX10_about_100 rfl ?_
            refine pw_bipush (v := zI (8)) dX10_about_101 (by decide) ?_
            refine pw_icmp_ge (tgt := 164) dX10_about_103 rfl (by omega) (by omega) (fun c103 => ?_) (fun c103 => ?_)
            ·
              refine pw_iload_n dX10_about_164 rfl ?_
              refine pw_bipush (v := zI (8)) dX10_about_165 (by decide) ?_
              refine pw_icmp_ne (tgt := 179) dX10_about_167 rfl (by omega) (by omega) (fun c167 => ?_) (fun c167 => ?_)
              ·
                refine pw_iload_n dX10_about_179 rfl ?_
                refine pw_bipush (v := zI (9)) dX10_about_180 (by decide) ?_
                refine pw_icmp_ne (tgt := 202) dX10_about_182 rfl (by omega) (by omega) (fun c182 => ?_) (fun c182 => ?_)
                ·
                  refine pw_aload_n dX10_about_202 rfl ?_
                  refine pw_get (v := .ref (B + 42)) okX10 (k := 45) (by decide) lkX10_134 hA2.1 rfl dX10_about_203 ?_
                  refine pw_iload_n dX10_about_206 rfl ?_
                  refine pw_iald (g := (s.2 45)) (t := 0) rfl (mF45 (s := (mV 0 (0) s)) hA2) (by omega) (by decide) dX10_about_207 ?_
                  exact pw_iret dX10_about_208 rfl (nle rfl) (nle rfl) ⟨⟨_, rfl⟩, (mV 0 (0) s), hA2, rH_0 hH, ⟨rfl, rfl⟩, hF2, rfl⟩
                ·
                  refine pw_aload_n dX10_about_185 rfl ?_
                  refine pw_get (v := .ref (B + 40)) okX10 (k := 43) (by decide) lkX10_128 hA2.1 rfl dX10_about_186 ?_
                  refine pw_iload_n dX10_about_189 rfl ?_
                  refine pw_zald (g := (s.2 43)) (t := 1) rfl (mF43 (s := (mV 0 (0) s)) hA2) (by omega) (by decide) dX10_about_190 ?_
                  refine pw_if_eq (tgt := 198) dX10_about_191 rfl (by omega) (fun c191 => ?_) (fun c191 => ?_)
                  ·
                    refine pw_iconst (v := zI (0)) dX10_about_198 (by decide) ?_
                    refine pw_goto (tgt := 208) dX10_about_199 rfl ?_
                    exact pw_iret dX10_about_208 rfl (nle rfl) (nle rfl) ⟨⟨_, rfl⟩, (mV 0 (0) s), hA2, rH_0 hH, ⟨rfl, rfl⟩, hF2, rfl⟩
                  ·
                    refine pw_iconst (v := zI (1)) dX10_about_194 (by decide) ?_
                    refine pw_goto (tgt := 208) dX10_about_195 rfl ?_
                    exact pw_iret dX10_about_208 rfl (nle rfl) (nle rfl) ⟨⟨_, rfl⟩, (mV 0 (0) s), hA2, rH_0 hH, ⟨rfl, rfl⟩, hF2, rfl⟩
              ·
                refine pw_aload_n dX10_about_170 rfl ?_
                refine pw_get (v := .ref (B + 22)) okX10 (k := 25) (by decide) lkX10_74 hA2.1 rfl dX10_about_171 ?_
                refine pw_iload_n dX10_about_174 rfl ?_
                refine pw_iald (g := (s.2 25)) (t := 0) rfl (mF25 (s := (mV 0 (0) s)) hA2) (by omega) (by decide) dX10_about_175 ?_
                refine pw_goto (tgt := 208) dX10_about_176 rfl ?_
                exact pw_iret dX10_about_208 rfl (nle rfl) (nle rfl) ⟨⟨_, rfl⟩, (mV 0 (0) s), hA2, rH_0 hH, ⟨rfl, rfl⟩, hF2, rfl⟩
            ·
              refine pw_iload_n dX10_about_106 rfl ?_
              refine pw_iconst (v := zI (4)) dX10_about_107 (by decide) ?_
              refine pw_icmp_ne (tgt := 120) dX10_about_108 rfl (by omega) (by omega) (fun c108 => ?_) (fun c108 => ?_)
              ·
                refine pw_iload_n dX10_about_120 rfl ?_
                refine pw_iconst (v := zI (5)) dX10_about_121 (by decide) ?_
                refine pw_icmp_ne (tgt := 134) dX10_about_122 rfl (by omega) (by omega) (fun c122 => ?_) (fun c122 => ?_)
                ·
                  refine pw_iload_n dX10_about_134 rfl ?_
                  refine pw_bipush (v := zI (6)) dX10_about_135 (by decide) ?_
                  refine pw_icmp_ne (tgt := 157) dX10_about_137 rfl (by omega) (by omega) (fun c137 => ?_) (fun c137 => ?_)
                  ·
                    refine pw_aload_n dX10_about_157 rfl ?_
                    refine pw_get (v := .ref (B + 39)) okX10 (k := 42) (by decide) lkX10_125 hA2.1 rfl dX10_about_158 ?_
                    refine pw_iload_n dX10_about_161 rfl ?_
                    refine pw_iald (g := (s.2 42)) (t := 0) rfl (mF42 (s := (mV 0 (0) s)) hA2) (by omega) (by decide) dX10_about_162 ?_
                    exact pw_iret dX10_about_163 rfl (nle rfl) (nle rfl) ⟨⟨_, rfl⟩, (mV 0 (0) s), hA2, rH_0 hH, ⟨rfl, rfl⟩, hF2, rfl⟩
                  ·
                    refine pw_aload_n dX10_about_140 rfl ?_
                    refine pw_get (v := .ref (B + 28)) okX10 (k := 31) (by decide) lkX10_92 hA2.1 rfl dX10_about_141 ?_
                    refine pw_iload_n dX10_about_144 rfl ?_
                    refine pw_zald (g := (s.2 31)) (t := 1) rfl (mF31 (s := (mV 0 (0) s)) hA2) (by omega) (by decide) dX10_about_145 ?_
                    refine pw_if_eq (tgt := 153) dX10_about_146 rfl (by omega) (fun c146 => ?_) (fun c146 => ?_)
                    ·
                      refine pw_iconst (v := zI (0)) dX10_about_153 (by decide) ?_
                      refine pw_goto (tgt := 163) dX10_about_154 rfl ?_
                      exact pw_iret dX10_about_163 rfl (nle rfl) (nle rfl) ⟨⟨_, rfl⟩, (mV 0 (0) s), hA2, rH_0 hH, ⟨rfl, rfl⟩, hF2, rfl⟩
                    ·
                      refine pw_iconst (v := zI (1)) dX10_about_149 (by decide) ?_
                      refine pw_goto (tgt := 163) dX10_about_150 rfl ?_
                      exact pw_iret dX10_about_163 rfl (nle rfl) (nle rfl) ⟨⟨_, rfl⟩, (mV 0 (0) s), hA2, rH_0 hH, ⟨rfl, rfl⟩, hF2, rfl⟩
                ·
                  refine pw_aload_n dX10_about_125 rfl ?_
                  refine pw_get (v := .ref (B + 20)) okX10 (k := 23) (by decide) lkX10_68 hA2.1 rfl dX10_about_126 ?_
                  refine pw_iload_n dX10_about_129 rfl ?_
                  refine pw_iald (g := (s.2 23)) (t := 0) rfl (mF23 (s := (mV 0 (0) s)) hA2) (by omega) (by decide) dX10_about_130 ?_
                  refine pw_goto (tgt := 163) dX10_about_131 rfl ?_
                  exact pw_iret dX10_about_163 rfl (nle rfl) (nle rfl) ⟨⟨_, rfl⟩, (mV 0 (0) s), hA2, rH_0 hH, ⟨rfl, rfl⟩, hF2, rfl⟩
              ·
                refine pw_aload_n dX10_about_111 rfl ?_
                refine pw_get (v := .ref (B + 21)) okX10 (k := 24) (by decide) lkX10_71 hA2.1 rfl dX10_about_112 ?_
                refine pw_iload_n dX10_about_115 rfl ?_
                refine pw_iald (g := (s.2 24)) (t := 0) rfl (mF24 (s := (mV 0 (0) s)) hA2) (by omega) (by decide) dX10_about_116 ?_
                refine pw_goto (tgt := 163) dX10_about_117 rfl ?_
                exact pw_iret dX10_about_163 rfl (nle rfl) (nle rfl) ⟨⟨_, rfl⟩, (mV 0 (0) s), hA2, rH_0 hH, ⟨rfl, rfl⟩, hF2, rfl⟩
          ·
            refine pw_iload_n dX10_about_52 rfl ?_
            refine pw_if_ne (tgt := 65) dX10_about_53 rfl (by omega) (fun c53 => ?_) (fun c53 => ?_)
            ·
              refine pw_iload_n dX10_about_65 rfl ?_
              refine pw_iconst (v := zI (1)) dX10_about_66 (by decide) ?_
              refine pw_icmp_ne (tgt := 79) dX10_about_67 rfl (by omega) (by omega) (fun c67 => ?_) (fun c67 => ?_)
              ·
                refine pw_iload_n dX10_about_79 rfl ?_
                refine pw_iconst (v := zI (2)) dX10_about_80 (by decide) ?_
                refine pw_icmp_ne (tgt := 93) dX10_about_81 rfl (by omega) (by omega) (fun c81 => ?_) (fun c81 => ?_)
                ·
                  refine pw_aload_n dX10_about_93 rfl ?_
                  refine pw_get (v := .ref (B + 16)) okX10 (k := 19) (by decide) lkX10_56 hA2.1 rfl dX10_about_94 ?_
                  refine pw_iload_n dX10_about_97 rfl ?_
                  refine pw_iald (g := (s.2 19)) (t := 0) rfl (mF19 (s := (mV 0 (0) s)) hA2) (by omega) (by decide) dX10_about_98 ?_
                  exact pw_iret dX10_about_99 rfl (nle rfl) (nle rfl) ⟨⟨_, rfl⟩, (mV 0 (0) s), hA2, rH_0 hH, ⟨rfl, rfl⟩, hF2, rfl⟩
                ·
                  refine pw_aload_n dX10_about_84 rfl ?_
                  refine pw_get (v := .ref (B + 15)) okX10 (k := 18) (by decide) lkX10_53 hA2.1 rfl dX10_about_85 ?_
                  refine pw_iload_n dX10_about_88 rfl ?_
                  refine pw_iald (g := (s.2 18)) (t := 0) rfl (mF18 (s := (mV 0 (0) s)) hA2) (by omega) (by decide) dX10_about_89 ?_
                  refine pw_goto (tgt := 99) dX10_about_90 rfl ?_
                  exact pw_iret dX10_about_99 rfl (nle rfl) (nle rfl) ⟨⟨_, rfl⟩, (mV 0 (0) s), hA2, rH_0 hH, ⟨rfl, rfl⟩, hF2, rfl⟩
              ·
                refine pw_aload_n dX10_about_70 rfl ?_
                refine pw_get (v := .ref (B + 9)) okX10 (k := 11) (by decide) lkX10_35 hA2.1 rfl dX10_about_71 ?_
                refine pw_iload_n dX10_about_74 rfl ?_
                refine pw_iald (g := (s.2 11)) (t := 0) rfl (mF11 (s := (mV 0 (0) s)) hA2) (by omega) (by decide) dX10_about_75 ?_
                refine pw_goto (tgt := 99) dX10_about_76 rfl ?_
                exact pw_iret dX10_about_99 rfl (nle rfl) (nle rfl) ⟨⟨_, rfl⟩, (mV 0 (0) s), hA2, rH_0 hH, ⟨rfl, rfl⟩, hF2, rfl⟩
            ·
              refine pw_aload_n dX10_about_56 rfl ?_
              refine pw_get (v := .ref (B + 8)) okX10 (k := 10) (by decide) lkX10_32 hA2.1 rfl dX10_about_57 ?_
              refine pw_iload_n dX10_about_60 rfl ?_
              refine pw_iald (g := (s.2 10)) (t := 0) rfl (mF10 (s := (mV 0 (0) s)) hA2) (by omega) (by decide) dX10_about_61 ?_
              refine pw_goto (tgt := 99) dX10_about_62 rfl ?_
              exact pw_iret dX10_about_99 rfl (nle rfl) (nle rfl) ⟨⟨_, rfl⟩, (mV 0 (0) s), hA2, rH_0 hH, ⟨rfl, rfl⟩, hF2, rfl⟩
        · exfalso; omega
      ·
        refine pw_iconst (v := zI (2)) dX10_about_23 (by decide) ?_
        refine pw_goto (tgt := 28) dX10_about_24 rfl ?_
        refine pw_put (fs' := (moL B (va_up s.1 0 (2)))) okX10 (k := 0) (by decide) lkX10_173 rfl rfl rfl hA.1 (nlt rfl) rfl dX10_about_28 ?_
        have hA3 : mAt B (mV 0 (2) s) (va_up h B (pz_o 13 (moL B (va_up s.1 0 (2))))) := mAt_V hA
        have hF3 : mFr B h (va_up h B (pz_o 13 (moL B (va_up s.1 0 (2))))) := mFr_tr mFr_rf (mFr_up (k := 0) (by decide))
        revert hA3 hF3
        generalize (va_up h B (pz_o 13 (moL B (va_up s.1 0 (2))))) = h3
        intro hA3 hF3
        refine pw_aload_n dX10_about_31 rfl ?_
        refine pw_get (v := .int (zI (2))) okX10 (k := 0) (by decide) lkX10_173 hA3.1 rfl dX10_about_32 ?_
        refine pw_if_le (tgt := 40) dX10_about_35 rfl (by omega) (fun c35 => ?_) (fun c35 => ?_)
        · exfalso; omega
        ·
          refine pw_iconst (v := zI (0)) dX10_about_38 (by decide) ?_
          exact pw_iret dX10_about_39 rfl (nle rfl) (nle rfl) ⟨⟨_, rfl⟩, (mV 0 (2) s), hA3, rH_0 hH, ⟨rfl, rfl⟩, hF3, rfl⟩
  ·
    refine pw_iconst (v := zI (1)) dX10_about_9 (by decide) ?_
    refine pw_goto (tgt := 28) dX10_about_10 rfl ?_
    refine pw_put (fs' := (moL B (va_up s.1 0 (1)))) okX10 (k := 0) (by decide) lkX10_173 rfl rfl rfl hA.1 (nlt rfl) rfl dX10_about_28 ?_
    have hA4 : mAt B (mV 0 (1) s) (va_up h B (pz_o 13 (moL B (va_up s.1 0 (1))))) := mAt_V hA
    have hF4 : mFr B h (va_up h B (pz_o 13 (moL B (va_up s.1 0 (1))))) := mFr_tr mFr_rf (mFr_up (k := 0) (by decide))
    revert hA4 hF4
    generalize (va_up h B (pz_o 13 (moL B (va_up s.1 0 (1))))) = h4
    intro hA4 hF4
    refine pw_aload_n dX10_about_31 rfl ?_
    refine pw_get (v := .int (zI (1))) okX10 (k := 0) (by decide) lkX10_173 hA4.1 rfl dX10_about_32 ?_
    refine pw_if_le (tgt := 40) dX10_about_35 rfl (by omega) (fun c35 => ?_) (fun c35 => ?_)
    · exfalso; omega
    ·
      refine pw_iconst (v := zI (0)) dX10_about_38 (by decide) ?_
      exact pw_iret dX10_about_39 rfl (nle rfl) (nle rfl) ⟨⟨_, rfl⟩, (mV 0 (1) s), hA4, rH_0 hH, ⟨rfl, rfl⟩, hF4, rfl⟩
set_option maxHeartbeats 1000000 in
set_option maxRecDepth 100000 in
/-- count(k) -/
theorem nG_count {E : pw_E} (htr : E.1.stackTraces = false) {h : pz_H} {n : Nat} {B : Nat} {s : mS} (hA : mAt B s h) {k : Int}  {W H M : Int} {t : aT} (hW : 8 ≤ W ∧ W ≤ 40) (hHH : 4 ≤ H ∧ H ≤ 16) (hM : M ≤ 800000000) (hH : rH W H M t s) (h_k : -2147483648 ≤ k ∧ k < 2147483648) : pw_M E yX10_count YX10_count (rmD 1 0 0) [.ref B, .int (zI (k))] h n (fun r0 h' n' => (∃ v, r0 = some (.int (zI v))) ∧ rN W H M t B s h h' n n') (fun _ _ _ => False) := by
  obtain ⟨hG, hI, ⟨⟨v1, v2⟩, ⟨v47, m47⟩, v48, v49, v53, v54, v55, v56, v57⟩, hM0, h45⟩ := id hH
  have hu := rI_us hI
  have hsb := @mSee_b s
  refine pw_M_of (lv := [some (.ref B), some (.int (zI (k))), none]) (by decide) rfl rfl htr (nle rfl) rfl (fun L => ?_)
  refine pw_aload_n dX10_count_0 rfl ?_
  refine pw_iload_n dX10_count_1 rfl ?_
  refine pw_if_lt (tgt := 10) dX10_count_2 rfl (by omega) (fun c2 => ?_) (fun c2 => ?_)
  ·
    refine pw_iconst (v := zI (1)) dX10_count_10 (by decide) ?_
    refine pw_goto (tgt := 15) dX10_count_11 rfl ?_
    refine pw_put (fs' := (moL B (va_up s.1 0 (1)))) okX10 (k := 0) (by decide) lkX10_173 rfl rfl rfl hA.1 (nlt rfl) rfl dX10_count_15 ?_
    have hA1 : mAt B (mV 0 (1) s) (va_up h B (pz_o 13 (moL B (va_up s.1 0 (1))))) := mAt_V hA
    have hF1 : mFr B h (va_up h B (pz_o 13 (moL B (va_up s.1 0 (1))))) := mFr_tr mFr_rf (mFr_up (k := 0) (by decide))
    revert hA1 hF1
    generalize (va_up h B (pz_o 13 (moL B (va_up s.1 0 (1))))) = h1
    intro hA1 hF1
    refine pw_aload_n dX10_count_18 rfl ?_
    refine pw_get (v := .int (zI (1))) okX10 (k := 0) (by decide) lkX10_173 hA1.1 rfl dX10_count_19 ?_
    refine pw_if_le (tgt := 27) dX10_count_22 rfl (by omega) (fun c22 => ?_) (fun c22 => ?_)
    · exfalso; omega
    ·
      refine pw_iconst (v := zI (0)) dX10_count_25 (by decide) ?_
      exact pw_iret dX10_count_26 rfl (nle rfl) (nle rfl) ⟨⟨_, rfl⟩, (mV 0 (1) s), hA1, rH_0 hH, ⟨rfl, rfl⟩, hF1, rfl⟩
  ·
    refine pw_iload_n dX10_count_5 rfl ?_
    refine pw_iconst (v := zI (5)) dX10_count_6 (by decide) ?_
    refine pw_icmp_le (tgt := 14) dX10_count_7 rfl (by omega) (by omega) (fun c7 => ?_) (fun c7 => ?_)
    ·
      refine pw_iconst (v := zI (0)) dX10_count_14 (by decide) ?_
      refine pw_put (fs' := (moL B (va_up s.1 0 (0)))) okX10 (k := 0) (by decide) lkX10_173 rfl rfl rfl hA.1 (nlt rfl) rfl dX10_count_15 ?_
      have hA2 : mAt B (mV 0 (0) s) (va_up h B (pz_o 13 (moL B (va_up s.1 0 (0))))) := mAt_V hA
      have hF2 : mFr B h (va_up h B (pz_o 13 (moL B (va_up s.1 0 (0))))) := mFr_tr mFr_rf (mFr_up (k := 0) (by decide))
      revert hA2 hF2
      generalize (va_up h B (pz_o 13 (moL B (va_up s.1 0 (0))))) = h2
      intro hA2 hF2
      refine pw_aload_n dX10_count_18 rfl ?_
      refine pw_get (v := .int (zI (0))) okX10 (k := 0) (by decide) lkX10_173 hA2.1 rfl dX10_count_19 ?_
      refine pw_if_le (tgt := 27) dX10_count_22 rfl (by omega) (fun c22 => ?_) (fun c22 => ?_)
      ·
        have hpm := m47
        obtain ⟨p8, hpk, m, e17, nd, ew, eh⟩ := rI_leaf hG hI hpm
        obtain ⟨kw, kh, kr, kc, ksr, ksc, kt, ko, kwa, kin, kwr, khi, krd, knu, kgi, kas, kfr, kra, kco, kof, kip⟩ := id hpk
        obtain ⟨nd0, nd1, nd2⟩ := id nd
        have h17 : 0 ≤ s.2 17 (s.1 47).toNat ∧ s.2 17 (s.1 47).toNat < 16 := by rw [e17]; omega
        refine pw_aload_n dX10_count_27 rfl ?_
        refine pw_get (v := .ref (B + 14)) okX10 (k := 17) (by decide) lkX10_50 hA2.1 rfl dX10_count_28 ?_
        refine pw_aload_n dX10_count_31 rfl ?_
        refine pw_get (v := .int (zI (s.1 47))) okX10 (k := 47) (by decide) lkX10_207 hA2.1 rfl dX10_count_32 ?_
        refine pw_iald (g := (s.2 17)) (t := 0) rfl (mF17 (s := (mV 0 (0) s)) hA2) (by omega) (by decide) dX10_count_35 ?_
        refine pw_istore_n (lv' := [some (.ref B), some (.int (zI (k))), some (.int (zI ((s.2 17) (s.1 47).toNat)))]) dX10_count_36 (by decide) rfl rfl ?_
        refine pw_iload_n dX10_count_37 rfl ?_
        refine pw_if_ne (tgt := 48) dX10_count_38 rfl (by omega) (fun c38 => ?_) (fun c38 => ?_)
        ·
          refine pw_iload_n dX10_count_48 rfl ?_
          refine pw_iconst (v := zI (1)) dX10_count_49 (by decide) ?_
          refine pw_icmp_ne (tgt := 60) dX10_count_50 rfl (by omega) (by omega) (fun c50 => ?_) (fun c50 => ?_)
          ·
            refine pw_iload_n dX10_count_60 rfl ?_
            refine pw_iconst (v := zI (2)) dX10_count_61 (by decide) ?_
            refine pw_icmp_ne (tgt := 84) dX10_count_62 rfl (by omega) (by omega) (fun c62 => ?_) (fun c62 => ?_)
            ·
              refine pw_iload_n dX10_count_84 rfl ?_
              refine pw_iconst (v := zI (3)) dX10_count_85 (by decide) ?_
              refine pw_icmp_ne (tgt := 108) dX10_count_86 rfl (by omega) (by omega) (fun c86 => ?_) (fun c86 => ?_)
              ·
                refine pw_iload_n dX10_count_108 rfl ?_
                refine pw_iconst (v := zI (4)) dX10_count_109 (by decide) ?_
                refine pw_icmp_ne (tgt := 128) dX10_count_110 rfl (by omega) (by omega) (fun c110 => ?_) (fun c110 => ?_)
                ·
                  refine pw_aload_n dX10_count_128 rfl ?_
                  refine pw_get (v := .int (zI (s.1 49))) okX10 (k := 49) (by decide) lkX10_308 hA2.1 rfl dX10_count_129 ?_
                  exact pw_iret dX10_count_132 rfl (nle rfl) (nle rfl) ⟨⟨_, rfl⟩, (mV 0 (0) s), hA2, rH_0 hH, ⟨rfl, rfl⟩, hF2, rfl⟩
                ·
                  refine pw_aload_n dX10_count_113 rfl ?_
                  refine pw_callV (As := []) (b := B) (rm := rmD 0 0 0) (nR_isSeen htr hA2 v47 khi kco) rfl hA2.1 rfl rfl ywX10_isSeen rfl cwX10_362 ⟨nle rfl, nle rfl⟩ (nle rfl) ⟨nle rfl, nle rfl⟩ dX10_count_114 ?_ (fun _ _ _ z => z.elim)
                  intro r_9 h_9 n_9 hq _
                  rw [hq.1, hq.2.1, hq.2.2]
                  show pw E YX10_count _ _ 0 0 117 [some (.ref B), some (.int (zI (k))), some (.int (zI ((s.2 17) (s.1 47).toNat)))] [.int (zI (mSee s))] h2 n
                  refine pw_if_eq (tgt := 124) dX10_count_117 rfl (by omega) (fun c117 => ?_) (fun c117 => ?_)
                  ·
                    refine pw_iconst (v := zI (0)) dX10_count_124 (by decide) ?_
                    refine pw_goto (tgt := 132) dX10_count_125 rfl ?_
                    exact pw_iret dX10_count_132 rfl (nle rfl) (nle rfl) ⟨⟨_, rfl⟩, (mV 0 (0) s), hA2, rH_0 hH, ⟨rfl, rfl⟩, hF2, rfl⟩
                  ·
                    refine pw_iconst (v := zI (1)) dX10_count_120 (by decide) ?_
                    refine pw_goto (tgt := 132) dX10_count_121 rfl ?_
                    exact pw_iret dX10_count_132 rfl (nle rfl) (nle rfl) ⟨⟨_, rfl⟩, (mV 0 (0) s), hA2, rH_0 hH, ⟨rfl, rfl⟩, hF2, rfl⟩
              ·
                refine pw_aload_n dX10_count_89 rfl ?_
                refine pw_get (v := .ref (B + 9)) okX10 (k := 11) (by decide) lkX10_35 hA2.1 rfl dX10_count_90 ?_
                refine pw_iload_n dX10_count_93 rfl ?_
                refine pw_iald (g := (s.2 11)) (t := 0) rfl (mF11 (s := (mV 0 (0) s)) hA2) (by omega) (by decide) dX10_count_94 ?_
                refine pw_aload_n dX10_count_95 rfl ?_
                refine pw_get (v := .ref (B + 20)) okX10 (k := 23) (by decide) lkX10_68 hA2.1 rfl dX10_count_96 ?_
                refine pw_aload_n dX10_count_99 rfl ?_
                refine pw_get (v := .int (zI (s.1 47))) okX10 (k := 47) (by decide) lkX10_207 hA2.1 rfl dX10_count_100 ?_
                refine pw_iald (g := (s.2 23)) (t := 0) rfl (mF23 (s := (mV 0 (0) s)) hA2) (by omega) (by decide) dX10_count_103 ?_
                refine pw_ziadd dX10_count_104 ?_
                refine pw_goto (tgt := 132) dX10_count_105 rfl ?_
                exact pw_iret dX10_count_132 rfl (nle rfl) (nle rfl) ⟨⟨_, rfl⟩, (mV 0 (0) s), hA2, rH_0 hH, ⟨rfl, rfl⟩, hF2, rfl⟩
            ·
              refine pw_aload_n dX10_count_65 rfl ?_
              refine pw_get (v := .ref (B + 8)) okX10 (k := 10) (by decide) lkX10_32 hA2.1 rfl dX10_count_66 ?_
              refine pw_iload_n dX10_count_69 rfl ?_
              refine pw_iald (g := (s.2 10)) (t := 0) rfl (mF10 (s := (mV 0 (0) s)) hA2) (by omega) (by decide) dX10_count_70 ?_
              refine pw_aload_n dX10_count_71 rfl ?_
              refine pw_get (v := .ref (B + 21)) okX10 (k := 24) (by decide) lkX10_71 hA2.1 rfl dX10_count_72 ?_
              refine pw_aload_n dX10_count_75 rfl ?_
              refine pw_get (v := .int (zI (s.1 47))) okX10 (k := 47) (by decide) lkX10_207 hA2.1 rfl dX10_count_76 ?_
              refine pw_iald (g := (s.2 24)) (t := 0) rfl (mF24 (s := (mV 0 (0) s)) hA2) (by omega) (by decide) dX10_count_79 ?_
              refine pw_ziadd dX10_count_80 ?_
              refine pw_goto (tgt := 132) dX10_count_81 rfl ?_
              exact pw_iret dX10_count_132 rfl (nle rfl) (nle rfl) ⟨⟨_, rfl⟩, (mV 0 (0) s), hA2, rH_0 hH, ⟨rfl, rfl⟩, hF2, rfl⟩
          ·
            refine pw_aload_n dX10_count_53 rfl ?_
            refine pw_get (v := .int (zI (s.1 47))) okX10 (k := 47) (by decide) lkX10_207 hA2.1 rfl dX10_count_54 ?_
            refine pw_goto (tgt := 132) dX10_count_57 rfl ?_
            exact pw_iret dX10_count_132 rfl (nle rfl) (nle rfl) ⟨⟨_, rfl⟩, (mV 0 (0) s), hA2, rH_0 hH, ⟨rfl, rfl⟩, hF2, rfl⟩
        ·
          refine pw_aload_n dX10_count_41 rfl ?_
          refine pw_callV (As := []) (b := B) (rm := rmD 0 0 0) (nR_panes htr hA2 hu) rfl hA2.1 rfl rfl ywX10_panes rfl cwX10_225 ⟨nle rfl, nle rfl⟩ (nle rfl) ⟨nle rfl, nle rfl⟩ dX10_count_42 ?_ (fun _ _ _ z => z.elim)
          intro r_9 h_9 n_9 hq _
          rw [hq.1, hq.2.1, hq.2.2]
          show pw E YX10_count _ _ 0 0 45 [some (.ref B), some (.int (zI (k))), some (.int (zI ((s.2 17) (s.1 47).toNat)))] [.int (zI (mCt (s.2 16) 8 0 0))] h2 n
          refine pw_goto (tgt := 132) dX10_count_45 rfl ?_
          exact pw_iret dX10_count_132 rfl (nle rfl) (nle rfl) ⟨⟨_, rfl⟩, (mV 0 (0) s), hA2, rH_0 hH, ⟨rfl, rfl⟩, hF2, rfl⟩
      · exfalso; omega
    ·
      refine pw_iconst (v := zI (1)) dX10_count_10 (by decide) ?_
      refine pw_goto (tgt := 15) dX10_count_11 rfl ?_
      refine pw_put (fs' := (moL B (va_up s.1 0 (1)))) okX10 (k := 0) (by decide) lkX10_173 rfl rfl rfl hA.1 (nlt rfl) rfl dX10_count_15 ?_
      have hA3 : mAt B (mV 0 (1) s) (va_up h B (pz_o 13 (moL B (va_up s.1 0 (1))))) := mAt_V hA
      have hF3 : mFr B h (va_up h B (pz_o 13 (moL B (va_up s.1 0 (1))))) := mFr_tr mFr_rf (mFr_up (k := 0) (by decide))
      revert hA3 hF3
      generalize (va_up h B (pz_o 13 (moL B (va_up s.1 0 (1))))) = h3
      intro hA3 hF3
      refine pw_aload_n dX10_count_18 rfl ?_
      refine pw_get (v := .int (zI (1))) okX10 (k := 0) (by decide) lkX10_173 hA3.1 rfl dX10_count_19 ?_
      refine pw_if_le (tgt := 27) dX10_count_22 rfl (by omega) (fun c22 => ?_) (fun c22 => ?_)
      · exfalso; omega
      ·
        refine pw_iconst (v := zI (0)) dX10_count_25 (by decide) ?_
        exact pw_iret dX10_count_26 rfl (nle rfl) (nle rfl) ⟨⟨_, rfl⟩, (mV 0 (1) s), hA3, rH_0 hH, ⟨rfl, rfl⟩, hF3, rfl⟩
set_option maxHeartbeats 1000000 in
set_option maxRecDepth 100000 in
/-- shows(p, r, c, ta) -/
theorem nG_shows {E : pw_E} (htr : E.1.stackTraces = false) {h : pz_H} {n : Nat} {B : Nat} {s : mS} (hA : mAt B s h) {p r c ta : Int}  (hp : 0 ≤ p ∧ p < 8) (hk : mPk s p.toNat) (hr : 0 ≤ r ∧ r < s.2 19 p.toNat) (hc : 0 ≤ c ∧ c < s.2 18 p.toNat) (hta : 0 ≤ ta ∧ ta ≤ 1) : pw_M E yX10_shows YX10_shows (rmD 2 0 0) [.ref B, .int (zI (p)), .int (zI (r)), .int (zI (c)), .int (zI (ta))] h n (fun r0 h' n' => (∃ v, (-2147483648 ≤ v ∧ v < 2147483648) ∧ r0 = some (.int (zI v))) ∧ h' = h ∧ n' = n) (fun _ _ _ => False) := by
  obtain ⟨kw, kh, kr, kc, ksr, ksc, kt, ko, kwa, kin, kwr, khi, krd, knu, kgi, kas, kfr, kra, kco, kof, kip⟩ := id hk
  have ob1 := mOf_b kof kra
  have ob2 := mOf_le kra
  refine pw_M_of (lv := [some (.ref B), some (.int (zI (p))), some (.int (zI (r))), some (.int (zI (c))), some (.int (zI (ta))), none, none]) (by decide) rfl rfl htr (nle rfl) rfl (fun L => ?_)
  refine pw_iload_n dX10_shows_0 rfl ?_
  refine pw_aload_n dX10_shows_1 rfl ?_
  refine pw_iload_n dX10_shows_2 rfl ?_
  refine pw_callV (As := [.int (zI (p))]) (b := B) (rm := rmD 1 0 0) (nR_offsetOf htr hA hp kco kof kra) rfl hA.1 rfl rfl ywX10_offsetOf rfl cwX10_305 ⟨nle rfl, nle rfl⟩ (nle rfl) ⟨nle rfl, nle rfl⟩ dX10_shows_3 ?_ (fun _ _ _ z => z.elim)
  intro r_9 h_9 n_9 hq _
  rw [hq.1, hq.2.1, hq.2.2]
  show pw E YX10_shows _ _ 0 0 6 [some (.ref B), some (.int (zI (p))), some (.int (zI (r))), some (.int (zI (c))), some (.int (zI (ta))), none, none] [.int (zI (mOf s (p))), .int (zI (r))] h n
  refine pw_zisub dX10_shows_6 ?_
  refine pw_istore (lv' := [some (.ref B), some (.int (zI (p))), some (.int (zI (r))), some (.int (zI (c))), some (.int (zI (ta))), some (.int (zI ((r) - (mOf s (p))))), none]) dX10_shows_7 (by decide) rfl rfl ?_
  refine pw_iload dX10_shows_9 rfl ?_
  refine pw_if_ge (tgt := 53) dX10_shows_11 rfl (by omega) (fun c11 => ?_) (fun c11 => ?_)
  ·
    refine pw_iload dX10_shows_53 rfl ?_
    refine pw_if_eq (tgt := 74) dX10_shows_55 rfl (by omega) (fun c55 => ?_) (fun c55 => ?_)
    ·
      refine pw_aload_n dX10_shows_74 rfl ?_
      refine pw_get (v := .ref (B + 17)) okX10 (k := 20) (by decide) lkX10_59 hA.1 rfl dX10_shows_75 ?_
      refine pw_aload_n dX10_shows_78 rfl ?_
      refine pw_iload_n dX10_shows_79 rfl ?_
      refine pw_iload dX10_shows_80 rfl ?_
      refine pw_iload_n dX10_shows_82 rfl ?_
      refine pw_callV (As := [.int (zI (p)), .int (zI ((r) - (mOf s (p)))), .int (zI (c))]) (b := B) (rm := rmD 1 0 0) (mR_at htr hA (p := p) hp hk) rfl hA.1 rfl rfl ywX10_at rfl cwX10_231 ⟨nle rfl, nle rfl⟩ (nle rfl) ⟨nle rfl, nle rfl⟩ dX10_shows_83 ?_ (fun _ _ _ z => z.elim)
      intro r_9 h_9 n_9 hq _
      rw [hq.1, hq.2.1, hq.2.2]
      show pw E YX10_shows _ _ 0 0 86 [some (.ref B), some (.int (zI (p))), some (.int (zI (r))), some (.int (zI (c))), some (.int (zI (ta))), some (.int (zI ((r) - (mOf s (p))))), none] [.int (zI (mCell (p) (s.2 22 p.toNat) ((r) - (mOf s (p))) (c))), .ref (B + 17)] h n
      refine pw_iald (g := (s.2 20)) (t := 0) rfl (mF20 (s := s) hA) (mCell_b hp ko (by omega) (by omega)) (by decide) dX10_shows_86 ?_
      obtain ⟨v, hv, ev⟩ := zI_ex ((s.2 20) (mCell (p) (s.2 22 p.toNat) ((r) - (mOf s (p))) (c)).toNat)
      exact pw_iret dX10_shows_87 rfl (nle rfl) (nle rfl) ⟨⟨v, hv, by rw [ev]⟩, rfl, rfl⟩
    ·
      refine pw_aload_n dX10_shows_58 rfl ?_
      refine pw_get (v := .ref (B + 18)) okX10 (k := 21) (by decide) lkX10_62 hA.1 rfl dX10_shows_59 ?_
      refine pw_aload_n dX10_shows_62 rfl ?_
      refine pw_iload_n dX10_shows_63 rfl ?_
      refine pw_iload dX10_shows_64 rfl ?_
      refine pw_iload_n dX10_shows_66 rfl ?_
      refine pw_callV (As := [.int (zI (p)), .int (zI ((r) - (mOf s (p)))), .int (zI (c))]) (b := B) (rm := rmD 1 0 0) (mR_at htr hA (p := p) hp hk) rfl hA.1 rfl rfl ywX10_at rfl cwX10_231 ⟨nle rfl, nle rfl⟩ (nle rfl) ⟨nle rfl, nle rfl⟩ dX10_shows_67 ?_ (fun _ _ _ z => z.elim)
      intro r_9 h_9 n_9 hq _
      rw [hq.1, hq.2.1, hq.2.2]
      show pw E YX10_shows _ _ 0 0 70 [some (.ref B), some (.int (zI (p))), some (.int (zI (r))), some (.int (zI (c))), some (.int (zI (ta))), some (.int (zI ((r) - (mOf s (p))))), none] [.int (zI (mCell (p) (s.2 22 p.toNat) ((r) - (mOf s (p))) (c))), .ref (B + 18)] h n
      refine pw_iald (g := (s.2 21)) (t := 0) rfl (mF21 (s := s) hA) (mCell_b hp ko (by omega) (by omega)) (by decide) dX10_shows_70 ?_
      refine pw_goto (tgt := 87) dX10_shows_71 rfl ?_
      obtain ⟨v, hv, ev⟩ := zI_ex ((s.2 21) (mCell (p) (s.2 22 p.toNat) ((r) - (mOf s (p))) (c)).toNat)
      exact pw_iret dX10_shows_87 rfl (nle rfl) (nle rfl) ⟨⟨v, hv, by rw [ev]⟩, rfl, rfl⟩
  ·
    refine pw_iload_n dX10_shows_14 rfl ?_
    refine pw_aload_n dX10_shows_15 rfl ?_
    refine pw_get (v := .ref (B + 39)) okX10 (k := 42) (by decide) lkX10_125 hA.1 rfl dX10_shows_16 ?_
    refine pw_iload_n dX10_shows_19 rfl ?_
    refine pw_iald (g := (s.2 42)) (t := 0) rfl (mF42 (s := s) hA) (by omega) (by decide) dX10_shows_20 ?_
    refine pw_iload dX10_shows_21 rfl ?_
    refine pw_ziadd dX10_shows_23 ?_
    refine pw_iload_n dX10_shows_24 rfl ?_
    refine pw_callS (As := [.int (zI (p)), .int (zI (((s.2 42) (p).toNat) + ((r) - (mOf s (p))))), .int (zI (c))]) (rm := rmD 0 0 0) (mR_historyAt htr) rfl ywX10_historyAt rfl cwX10_235 ⟨nle rfl, nle rfl⟩ (nle rfl) ⟨nle rfl, nle rfl⟩ dX10_shows_25 ?_ (fun _ _ _ z => z.elim)
    intro r_9 h_9 n_9 hq _
    rw [hq.1, hq.2.1, hq.2.2]
    show pw E YX10_shows _ _ 0 0 28 [some (.ref B), some (.int (zI (p))), some (.int (zI (r))), some (.int (zI (c))), some (.int (zI (ta))), some (.int (zI ((r) - (mOf s (p))))), none] [.int (zI (mHis (p) (((s.2 42) (p).toNat) + ((r) - (mOf s (p)))) (c)))] h n
    refine pw_istore (lv' := [some (.ref B), some (.int (zI (p))), some (.int (zI (r))), some (.int (zI (c))), some (.int (zI (ta))), some (.int (zI ((r) - (mOf s (p))))), some (.int (zI (mHis (p) (((s.2 42) (p).toNat) + ((r) - (mOf s (p)))) (c))))]) dX10_shows_28 (by decide) rfl rfl ?_
    refine pw_iload dX10_shows_30 rfl ?_
    refine pw_if_eq (tgt := 45) dX10_shows_32 rfl (by omega) (fun c32 => ?_) (fun c32 => ?_)
    ·
      refine pw_aload_n dX10_shows_45 rfl ?_
      refine pw_get (v := .ref (B + 37)) okX10 (k := 40) (by decide) lkX10_119 hA.1 rfl dX10_shows_46 ?_
      refine pw_iload dX10_shows_49 rfl ?_
      refine pw_iald (g := (s.2 40)) (t := 0) rfl (mF40 (s := s) hA) (mHis_b hp (by omega) (by omega)) (by decide) dX10_shows_51 ?_
      obtain ⟨v, hv, ev⟩ := zI_ex ((s.2 40) (mHis (p) (((s.2 42) (p).toNat) + ((r) - (mOf s (p)))) (c)).toNat)
      exact pw_iret dX10_shows_52 rfl (nle rfl) (nle rfl) ⟨⟨v, hv, by rw [ev]⟩, rfl, rfl⟩
    ·
      refine pw_aload_n dX10_shows_35 rfl ?_
      refine pw_get (v := .ref (B + 38)) okX10 (k := 41) (by decide) lkX10_122 hA.1 rfl dX10_shows_36 ?_
      refine pw_iload dX10_shows_39 rfl ?_
      refine pw_iald (g := (s.2 41)) (t := 0) rfl (mF41 (s := s) hA) (mHis_b hp (by omega) (by omega)) (by decide) dX10_shows_41 ?_
      refine pw_goto (tgt := 52) dX10_shows_42 rfl ?_
      obtain ⟨v, hv, ev⟩ := zI_ex ((s.2 41) (mHis (p) (((s.2 42) (p).toNat) + ((r) - (mOf s (p)))) (c)).toNat)
      exact pw_iret dX10_shows_52 rfl (nle rfl) (nle rfl) ⟨⟨v, hv, by rw [ev]⟩, rfl, rfl⟩
set_option maxHeartbeats 1000000 in
set_option maxRecDepth 100000 in
theorem lG_pic {E : pw_E} (htr : E.1.stackTraces = false) {Kk : pw_K} {h : pz_H} {n : Nat} {B : Nat} {s : mS} (hA : mAt B s h) {x y ta : Int} {W H : Int} {t : aT} (hW : 8 ≤ W ∧ W ≤ 40) (hHH : 4 ≤ H ∧ H ≤ 16) (hG : aG 8 t W H) (hI : rI t s) (hx : 0 ≤ x ∧ x < W) (hy : 0 ≤ y ∧ y < H) (hta : 0 ≤ ta ∧ ta ≤ 1) (hQ : ∀ v, (-2147483648 ≤ v ∧ v < 2147483648) → Kk.2.2.1 (some (.int (zI v))) h n) : ∀ (j : Nat) (i : Int) (q5 : Option Value), (16 - i).toNat = j → 0 ≤ i → i ≤ 16 → pw E YX10_picture (rmD 3 0 0) Kk 0 0 3 [some (.ref B), some (.int (zI x)), some (.int (zI y)), some (.int (zI ta)), some (.int (zI i)), q5] [] h n := by
  intro j
  induction j with
  | zero =>
    intro i q5 hj h1 h2
    refine pw_iload dX10_picture_3 rfl ?_
    refine pw_bipush (v := zI (16)) dX10_picture_5 (by decide) ?_
    refine pw_icmp_ge (tgt := 222) dX10_picture_7 rfl (by omega) (by omega) (fun c7 => ?_) (fun c7 => ?_)
    ·
      refine pw_iconst (v := zI (-1)) dX10_picture_222 (by decide) ?_
      exact pw_iret dX10_picture_223 rfl (nle rfl) (nle rfl) (hQ _ (by omega))
    · exfalso; omega
  | succ j ih =>
    intro i q5 hj h1 h2
    refine pw_iload dX10_picture_3 rfl ?_
    refine pw_bipush (v := zI (16)) dX10_picture_5 (by decide) ?_
    refine pw_icmp_ge (tgt := 222) dX10_picture_7 rfl (by omega) (by omega) (fun c7 => ?_) (fun c7 => ?_)
    · exfalso; omega
    ·
      have h3b : 0 ≤ s.2 3 i.toNat ∧ s.2 3 i.toNat ≤ 1 := by rw [hI.2.2.1 i.toNat (by omega)]; split <;> omega
      refine pw_aload_n dX10_picture_10 rfl ?_
      refine pw_get (v := .ref (B + 1)) okX10 (k := 3) (by decide) lkX10_7 hA.1 rfl dX10_picture_11 ?_
      refine pw_iload dX10_picture_14 rfl ?_
      refine pw_zald (g := (s.2 3)) (t := 1) rfl (mF3 (s := s) hA) (by omega) (by decide) dX10_picture_16 ?_
      refine pw_if_eq (tgt := 84) dX10_picture_17 rfl (by omega) (fun c17 => ?_) (fun c17 => ?_)
      ·
        refine pw_iconst (v := zI (0)) dX10_picture_84 (by decide) ?_
        refine pw_istore (lv' := [some (.ref B), some (.int (zI (x))), some (.int (zI (y))), some (.int (zI (ta))), some (.int (zI (i))), some (.int (zI (0)))]) dX10_picture_85 (by decide) rfl rfl ?_
        refine pw_iload dX10_picture_87 rfl ?_
        refine pw_if_eq (tgt := 134) dX10_picture_89 rfl (by omega) (fun c89 => ?_) (fun c89 => ?_)
        ·
          refine pw_iload dX10_picture_134 rfl ?_
          refine pw_if_eq (tgt := 216) dX10_picture_136 rfl (by omega) (fun c136 => ?_) (fun c136 => ?_)
          ·
            refine pw_ziinc (lv' := [some (.ref B), some (.int (zI (x))), some (.int (zI (y))), some (.int (zI (ta))), some (.int (zI (i + 1))), some (.int (zI (0)))]) dX10_picture_216 rfl (by decide) rfl rfl ?_
            refine pw_goto (tgt := 3) dX10_picture_219 rfl ?_
            exact ih (i + 1) _ (by omega) (by omega) (by omega)
          · exfalso; omega
        · exfalso; omega
      ·
        obtain ⟨nd, hnd⟩ := rI_node hG hI (i := i.toNat) (by omega) (by omega)
        obtain ⟨nd0, nd1, nd2⟩ := nd
        have h4r : -1 ≤ s.2 4 i.toNat ∧ s.2 4 i.toNat < 8 := by rcases hnd with z | z <;> omega
        refine pw_iload_n dX10_picture_20 rfl ?_
        refine pw_aload_n dX10_picture_21 rfl ?_
        refine pw_get (v := .ref (B + 8)) okX10 (k := 10) (by decide) lkX10_32 hA.1 rfl dX10_picture_22 ?_
        refine pw_iload dX10_picture_25 rfl ?_
        refine pw_iald (g := (s.2 10)) (t := 0) rfl (mF10 (s := s) hA) (by omega) (by decide) dX10_picture_27 ?_
        refine pw_icmp_lt (tgt := 84) dX10_picture_28 rfl (by omega) (by omega) (fun c28 => ?_) (fun c28 => ?_)
        ·
          refine pw_iconst (v := zI (0)) dX10_picture_84 (by decide) ?_
          refine pw_istore (lv' := [some (.ref B), some (.int (zI (x))), some (.int (zI (y))), some (.int (zI (ta))), some (.int (zI (i))), some (.int (zI (0)))]) dX10_picture_85 (by decide) rfl rfl ?_
          refine pw_iload dX10_picture_87 rfl ?_
          refine pw_if_eq (tgt := 134) dX10_picture_89 rfl (by omega) (fun c89 => ?_) (fun c89 => ?_)
          ·
            refine pw_iload dX10_picture_134 rfl ?_
            refine pw_if_eq (tgt := 216) dX10_picture_136 rfl (by omega) (fun c136 => ?_) (fun c136 => ?_)
            ·
              refine pw_ziinc (lv' := [some (.ref B), some (.int (zI (x))), some (.int (zI (y))), some (.int (zI (ta))), some (.int (zI (i + 1))), some (.int (zI (0)))]) dX10_picture_216 rfl (by decide) rfl rfl ?_
              refine pw_goto (tgt := 3) dX10_picture_219 rfl ?_
              exact ih (i + 1) _ (by omega) (by omega) (by omega)
            · exfalso; omega
          · exfalso; omega
        ·
          refine pw_iload_n dX10_picture_31 rfl ?_
          refine pw_aload_n dX10_picture_32 rfl ?_
          refine pw_get (v := .ref (B + 8)) okX10 (k := 10) (by decide) lkX10_32 hA.1 rfl dX10_picture_33 ?_
          refine pw_iload dX10_picture_36 rfl ?_
          refine pw_iald (g := (s.2 10)) (t := 0) rfl (mF10 (s := s) hA) (by omega) (by decide) dX10_picture_38 ?_
          refine pw_aload_n dX10_picture_39 rfl ?_
          refine pw_get (v := .ref (B + 10)) okX10 (k := 12) (by decide) lkX10_38 hA.1 rfl dX10_picture_40 ?_
          refine pw_iload dX10_picture_43 rfl ?_
          refine pw_iald (g := (s.2 12)) (t := 0) rfl (mF12 (s := s) hA) (by omega) (by decide) dX10_picture_45 ?_
          refine pw_ziadd dX10_picture_46 ?_
          refine pw_icmp_ge (tgt := 84) dX10_picture_47 rfl (by omega) (by omega) (fun c47 => ?_) (fun c47 => ?_)
          ·
            refine pw_iconst (v := zI (0)) dX10_picture_84 (by decide) ?_
            refine pw_istore (lv' := [some (.ref B), some (.int (zI (x))), some (.int (zI (y))), some (.int (zI (ta))), some (.int (zI (i))), some (.int (zI (0)))]) dX10_picture_85 (by decide) rfl rfl ?_
            refine pw_iload dX10_picture_87 rfl ?_
            refine pw_if_eq (tgt := 134) dX10_picture_89 rfl (by omega) (fun c89 => ?_) (fun c89 => ?_)
            ·
              refine pw_iload dX10_picture_134 rfl ?_
              refine pw_if_eq (tgt := 216) dX10_picture_136 rfl (by omega) (fun c136 => ?_) (fun c136 => ?_)
              ·
                refine pw_ziinc (lv' := [some (.ref B), some (.int (zI (x))), some (.int (zI (y))), some (.int (zI (ta))), some (.int (zI (i + 1))), some (.int (zI (0)))]) dX10_picture_216 rfl (by decide) rfl rfl ?_
                refine pw_goto (tgt := 3) dX10_picture_219 rfl ?_
                exact ih (i + 1) _ (by omega) (by omega) (by omega)
              · exfalso; omega
            · exfalso; omega
          ·
            refine pw_iload_n dX10_picture_50 rfl ?_
            refine pw_aload_n dX10_picture_51 rfl ?_
            refine pw_get (v := .ref (B + 9)) okX10 (k := 11) (by decide) lkX10_35 hA.1 rfl dX10_picture_52 ?_
            refine pw_iload dX10_picture_55 rfl ?_
            refine pw_iald (g := (s.2 11)) (t := 0) rfl (mF11 (s := s) hA) (by omega) (by decide) dX10_picture_57 ?_
            refine pw_icmp_lt (tgt := 84) dX10_picture_58 rfl (by omega) (by omega) (fun c58 => ?_) (fun c58 => ?_)
            ·
              refine pw_iconst (v := zI (0)) dX10_picture_84 (by decide) ?_
              refine pw_istore (lv' := [some (.ref B), some (.int (zI (x))), some (.int (zI (y))), some (.int (zI (ta))), some (.int (zI (i))), some (.int (zI (0)))]) dX10_picture_85 (by decide) rfl rfl ?_
              refine pw_iload dX10_picture_87 rfl ?_
              refine pw_if_eq (tgt := 134) dX10_picture_89 rfl (by omega) (fun c89 => ?_) (fun c89 => ?_)
              ·
                refine pw_iload dX10_picture_134 rfl ?_
                refine pw_if_eq (tgt := 216) dX10_picture_136 rfl (by omega) (fun c136 => ?_) (fun c136 => ?_)
                ·
                  refine pw_ziinc (lv' := [some (.ref B), some (.int (zI (x))), some (.int (zI (y))), some (.int (zI (ta))), some (.int (zI (i + 1))), some (.int (zI (0)))]) dX10_picture_216 rfl (by decide) rfl rfl ?_
                  refine pw_goto (tgt := 3) dX10_picture_219 rfl ?_
                  exact ih (i + 1) _ (by omega) (by omega) (by omega)
                · exfalso; omega
              · exfalso; omega
            ·
              refine pw_iload_n dX10_picture_61 rfl ?_
              refine pw_aload_n dX10_picture_62 rfl ?_
              refine pw_get (v := .ref (B + 9)) okX10 (k := 11) (by decide) lkX10_35 hA.1 rfl dX10_picture_63 ?_
              refine pw_iload dX10_picture_66 rfl ?_
              refine pw_iald (g := (s.2 11)) (t := 0) rfl (mF11 (s := s) hA) (by omega) (by decide) dX10_picture_68 ?_
              refine pw_aload_n dX10_picture_69 rfl ?_
              refine pw_get (v := .ref (B + 11)) okX10 (k := 13) (by decide) lkX10_41 hA.1 rfl dX10_picture_70 ?_
              refine pw_iload dX10_picture_73 rfl ?_
              refine pw_iald (g := (s.2 13)) (t := 0) rfl (mF13 (s := s) hA) (by omega) (by decide) dX10_picture_75 ?_
              refine pw_ziadd dX10_picture_76 ?_
              refine pw_icmp_ge (tgt := 84) dX10_picture_77 rfl (by omega) (by omega) (fun c77 => ?_) (fun c77 => ?_)
              ·
                refine pw_iconst (v := zI (0)) dX10_picture_84 (by decide) ?_
                refine pw_istore (lv' := [some (.ref B), some (.int (zI (x))), some (.int (zI (y))), some (.int (zI (ta))), some (.int (zI (i))), some (.int (zI (0)))]) dX10_picture_85 (by decide) rfl rfl ?_
                refine pw_iload dX10_picture_87 rfl ?_
                refine pw_if_eq (tgt := 134) dX10_picture_89 rfl (by omega) (fun c89 => ?_) (fun c89 => ?_)
                ·
                  refine pw_iload dX10_picture_134 rfl ?_
                  refine pw_if_eq (tgt := 216) dX10_picture_136 rfl (by omega) (fun c136 => ?_) (fun c136 => ?_)
                  ·
                    refine pw_ziinc (lv' := [some (.ref B), some (.int (zI (x))), some (.int (zI (y))), some (.int (zI (ta))), some (.int (zI (i + 1))), some (.int (zI (0)))]) dX10_picture_216 rfl (by decide) rfl rfl ?_
                    refine pw_goto (tgt := 3) dX10_picture_219 rfl ?_
                    exact ih (i + 1) _ (by omega) (by omega) (by omega)
                  · exfalso; omega
                · exfalso; omega
              ·
                refine pw_iconst (v := zI (1)) dX10_picture_80 (by decide) ?_
                refine pw_goto (tgt := 85) dX10_picture_81 rfl ?_
                refine pw_istore (lv' := [some (.ref B), some (.int (zI (x))), some (.int (zI (y))), some (.int (zI (ta))), some (.int (zI (i))), some (.int (zI (1)))]) dX10_picture_85 (by decide) rfl rfl ?_
                refine pw_iload dX10_picture_87 rfl ?_
                refine pw_if_eq (tgt := 134) dX10_picture_89 rfl (by omega) (fun c89 => ?_) (fun c89 => ?_)
                · exfalso; omega
                ·
                  refine pw_aload_n dX10_picture_92 rfl ?_
                  refine pw_get (v := .ref (B + 2)) okX10 (k := 4) (by decide) lkX10_13 hA.1 rfl dX10_picture_93 ?_
                  refine pw_iload dX10_picture_96 rfl ?_
                  refine pw_iald (g := (s.2 4)) (t := 0) rfl (mF4 (s := s) hA) (by omega) (by decide) dX10_picture_98 ?_
                  refine pw_iconst (v := zI (-1)) dX10_picture_99 (by decide) ?_
                  refine pw_icmp_eq (tgt := 134) dX10_picture_100 rfl (by omega) (by omega) (fun c100 => ?_) (fun c100 => ?_)
                  ·
                    refine pw_iload dX10_picture_134 rfl ?_
                    refine pw_if_eq (tgt := 216) dX10_picture_136 rfl (by omega) (fun c136 => ?_) (fun c136 => ?_)
                    · exfalso; omega
                    ·
                      obtain ⟨-, h8, h9⟩ := hnd.resolve_right (fun z => by omega)
                      refine pw_aload_n dX10_picture_139 rfl ?_
                      refine pw_get (v := .ref (B + 6)) okX10 (k := 8) (by decide) lkX10_26 hA.1 rfl dX10_picture_140 ?_
                      refine pw_iload dX10_picture_143 rfl ?_
                      refine pw_zald (g := (s.2 8)) (t := 1) rfl (mF8 (s := s) hA) (by omega) (by decide) dX10_picture_145 ?_
                      refine pw_if_eq (tgt := 171) dX10_picture_146 rfl (by omega) (fun c146 => ?_) (fun c146 => ?_)
                      ·
                        refine pw_iload_n dX10_picture_171 rfl ?_
                        refine pw_aload_n dX10_picture_172 rfl ?_
                        refine pw_get (v := .ref (B + 8)) okX10 (k := 10) (by decide) lkX10_32 hA.1 rfl dX10_picture_173 ?_
                        refine pw_iload dX10_picture_176 rfl ?_
                        refine pw_iald (g := (s.2 10)) (t := 0) rfl (mF10 (s := s) hA) (by omega) (by decide) dX10_picture_178 ?_
                        refine pw_aload_n dX10_picture_179 rfl ?_
                        refine pw_get (v := .ref (B + 7)) okX10 (k := 9) (by decide) lkX10_29 hA.1 rfl dX10_picture_180 ?_
                        refine pw_iload dX10_picture_183 rfl ?_
                        refine pw_iald (g := (s.2 9)) (t := 0) rfl (mF9 (s := s) hA) (by omega) (by decide) dX10_picture_185 ?_
                        refine pw_ziadd dX10_picture_186 ?_
                        refine pw_icmp_ne (tgt := 216) dX10_picture_187 rfl (by omega) (by omega) (fun c187 => ?_) (fun c187 => ?_)
                        ·
                          refine pw_ziinc (lv' := [some (.ref B), some (.int (zI (x))), some (.int (zI (y))), some (.int (zI (ta))), some (.int (zI (i + 1))), some (.int (zI (1)))]) dX10_picture_216 rfl (by decide) rfl rfl ?_
                          refine pw_goto (tgt := 3) dX10_picture_219 rfl ?_
                          exact ih (i + 1) _ (by omega) (by omega) (by omega)
                        ·
                          refine pw_iload_n dX10_picture_190 rfl ?_
                          refine pw_if_eq (tgt := 198) dX10_picture_191 rfl (by omega) (fun c191 => ?_) (fun c191 => ?_)
                          ·
                            refine pw_aload_n dX10_picture_198 rfl ?_
                            refine pw_get (v := .ref (B + 6)) okX10 (k := 8) (by decide) lkX10_26 hA.1 rfl dX10_picture_199 ?_
                            refine pw_iload dX10_picture_202 rfl ?_
                            refine pw_zald (g := (s.2 8)) (t := 1) rfl (mF8 (s := s) hA) (by omega) (by decide) dX10_picture_204 ?_
                            refine pw_if_eq (tgt := 213) dX10_picture_205 rfl (by omega) (fun c205 => ?_) (fun c205 => ?_)
                            ·
                              refine pw_bipush (v := zI (124)) dX10_picture_213 (by decide) ?_
                              exact pw_iret dX10_picture_215 rfl (nle rfl) (nle rfl) (hQ _ (by omega))
                            ·
                              refine pw_bipush (v := zI (45)) dX10_picture_208 (by decide) ?_
                              refine pw_goto (tgt := 215) dX10_picture_210 rfl ?_
                              exact pw_iret dX10_picture_215 rfl (nle rfl) (nle rfl) (hQ _ (by omega))
                          ·
                            refine pw_iconst (v := zI (0)) dX10_picture_194 (by decide) ?_
                            refine pw_goto (tgt := 215) dX10_picture_195 rfl ?_
                            exact pw_iret dX10_picture_215 rfl (nle rfl) (nle rfl) (hQ _ (by omega))
                      ·
                        refine pw_iload_n dX10_picture_149 rfl ?_
                        refine pw_aload_n dX10_picture_150 rfl ?_
                        refine pw_get (v := .ref (B + 9)) okX10 (k := 11) (by decide) lkX10_35 hA.1 rfl dX10_picture_151 ?_
                        refine pw_iload dX10_picture_154 rfl ?_
                        refine pw_iald (g := (s.2 11)) (t := 0) rfl (mF11 (s := s) hA) (by omega) (by decide) dX10_picture_156 ?_
                        refine pw_aload_n dX10_picture_157 rfl ?_
                        refine pw_get (v := .ref (B + 7)) okX10 (k := 9) (by decide) lkX10_29 hA.1 rfl dX10_picture_158 ?_
                        refine pw_iload dX10_picture_161 rfl ?_
                        refine pw_iald (g := (s.2 9)) (t := 0) rfl (mF9 (s := s) hA) (by omega) (by decide) dX10_picture_163 ?_
                        refine pw_ziadd dX10_picture_164 ?_
                        refine pw_icmp_ne (tgt := 216) dX10_picture_165 rfl (by omega) (by omega) (fun c165 => ?_) (fun c165 => ?_)
                        ·
                          refine pw_ziinc (lv' := [some (.ref B), some (.int (zI (x))), some (.int (zI (y))), some (.int (zI (ta))), some (.int (zI (i + 1))), some (.int (zI (1)))]) dX10_picture_216 rfl (by decide) rfl rfl ?_
                          refine pw_goto (tgt := 3) dX10_picture_219 rfl ?_
                          exact ih (i + 1) _ (by omega) (by omega) (by omega)
                        ·
                          refine pw_goto (tgt := 190) dX10_picture_168 rfl ?_
                          refine pw_iload_n dX10_picture_190 rfl ?_
                          refine pw_if_eq (tgt := 198) dX10_picture_191 rfl (by omega) (fun c191 => ?_) (fun c191 => ?_)
                          ·
                            refine pw_aload_n dX10_picture_198 rfl ?_
                            refine pw_get (v := .ref (B + 6)) okX10 (k := 8) (by decide) lkX10_26 hA.1 rfl dX10_picture_199 ?_
                            refine pw_iload dX10_picture_202 rfl ?_
                            refine pw_zald (g := (s.2 8)) (t := 1) rfl (mF8 (s := s) hA) (by omega) (by decide) dX10_picture_204 ?_
                            refine pw_if_eq (tgt := 213) dX10_picture_205 rfl (by omega) (fun c205 => ?_) (fun c205 => ?_)
                            ·
                              refine pw_bipush (v := zI (124)) dX10_picture_213 (by decide) ?_
                              exact pw_iret dX10_picture_215 rfl (nle rfl) (nle rfl) (hQ _ (by omega))
                            ·
                              refine pw_bipush (v := zI (45)) dX10_picture_208 (by decide) ?_
                              refine pw_goto (tgt := 215) dX10_picture_210 rfl ?_
                              exact pw_iret dX10_picture_215 rfl (nle rfl) (nle rfl) (hQ _ (by omega))
                          ·
                            refine pw_iconst (v := zI (0)) dX10_picture_194 (by decide) ?_
                            refine pw_goto (tgt := 215) dX10_picture_195 rfl ?_
                            exact pw_iret dX10_picture_215 rfl (nle rfl) (nle rfl) (hQ _ (by omega))
                  ·
                    obtain ⟨h4, hpk, w18, h19⟩ := hnd.resolve_left (fun z => by omega)
                    refine pw_aload_n dX10_picture_103 rfl ?_
                    refine pw_aload_n dX10_picture_104 rfl ?_
                    refine pw_get (v := .ref (B + 2)) okX10 (k := 4) (by decide) lkX10_13 hA.1 rfl dX10_picture_105 ?_
                    refine pw_iload dX10_picture_108 rfl ?_
                    refine pw_iald (g := (s.2 4)) (t := 0) rfl (mF4 (s := s) hA) (by omega) (by decide) dX10_picture_110 ?_
                    refine pw_iload_n dX10_picture_111 rfl ?_
                    refine pw_aload_n dX10_picture_112 rfl ?_
                    refine pw_get (v := .ref (B + 9)) okX10 (k := 11) (by decide) lkX10_35 hA.1 rfl dX10_picture_113 ?_
                    refine pw_iload dX10_picture_116 rfl ?_
                    refine pw_iald (g := (s.2 11)) (t := 0) rfl (mF11 (s := s) hA) (by omega) (by decide) dX10_picture_118 ?_
                    refine pw_zisub dX10_picture_119 ?_
                    refine pw_iload_n dX10_picture_120 rfl ?_
                    refine pw_aload_n dX10_picture_121 rfl ?_
                    refine pw_get (v := .ref (B + 8)) okX10 (k := 10) (by decide) lkX10_32 hA.1 rfl dX10_picture_122 ?_
                    refine pw_iload dX10_picture_125 rfl ?_
                    refine pw_iald (g := (s.2 10)) (t := 0) rfl (mF10 (s := s) hA) (by omega) (by decide) dX10_picture_127 ?_
                    refine pw_zisub dX10_picture_128 ?_
                    refine pw_iload_n dX10_picture_129 rfl ?_
                    refine pw_callV (As := [.int (zI ((s.2 4) (i).toNat)), .int (zI ((y) - ((s.2 11) (i).toNat))), .int (zI ((x) - ((s.2 10) (i).toNat))), .int (zI (ta))]) (b := B) (rm := rmD 2 0 0) (nG_shows htr hA h4 hpk (by rw [h19]; omega) (by rw [w18]; omega) hta) rfl hA.1 rfl rfl ywX10_shows rfl cwX10_327 ⟨nle rfl, nle rfl⟩ (nle rfl) ⟨nle rfl, nle rfl⟩ dX10_picture_130 ?_ (fun _ _ _ z => z.elim)
                    intro r_9 h_9 n_9 hq9 _
                    obtain ⟨⟨v1_, hv1_, e1_⟩, e2_, e4_⟩ := hq9
                    rw [e1_, e2_, e4_]
                    show pw E YX10_picture _ _ 0 0 133 [some (.ref B), some (.int (zI (x))), some (.int (zI (y))), some (.int (zI (ta))), some (.int (zI (i))), some (.int (zI (1)))] [.int (zI (v1_))] h n
                    clear e1_ e2_ e4_
                    exact pw_iret dX10_picture_133 rfl (nle rfl) (nle rfl) (hQ _ (by omega))
set_option maxHeartbeats 1000000 in
set_option maxRecDepth 100000 in
/-- picture(x, y, ta) -/
theorem nG_picture {E : pw_E} (htr : E.1.stackTraces = false) {h : pz_H} {n : Nat} {B : Nat} {s : mS} (hA : mAt B s h) {x y ta : Int}  {W H : Int} {t : aT} (hW : 8 ≤ W ∧ W ≤ 40) (hHH : 4 ≤ H ∧ H ≤ 16) (hG : aG 8 t W H) (hI : rI t s) (hx : 0 ≤ x ∧ x < W) (hy : 0 ≤ y ∧ y < H) (hta : 0 ≤ ta ∧ ta ≤ 1) : pw_M E yX10_picture YX10_picture (rmD 3 0 0) [.ref B, .int (zI (x)), .int (zI (y)), .int (zI (ta))] h n (fun r0 h' n' => (∃ v, (-2147483648 ≤ v ∧ v < 2147483648) ∧ r0 = some (.int (zI v))) ∧ h' = h ∧ n' = n) (fun _ _ _ => False) := by
  refine pw_M_of (lv := [some (.ref B), some (.int (zI (x))), some (.int (zI (y))), some (.int (zI (ta))), none, none]) (by decide) rfl rfl htr (nle rfl) rfl (fun L => ?_)
  refine pw_iconst (v := zI (0)) dX10_picture_0 (by decide) ?_
  refine pw_istore (lv' := [some (.ref B), some (.int (zI (x))), some (.int (zI (y))), some (.int (zI (ta))), some (.int (zI (0))), none]) dX10_picture_1 (by decide) rfl rfl ?_
  exact lG_pic htr hA hW hHH hG hI hx hy hta (fun v hv => by exact ⟨⟨v, hv, rfl⟩, rfl, rfl⟩) _ 0 _ rfl (by omega) (by omega)
set_option maxHeartbeats 1000000 in
set_option maxRecDepth 100000 in
/-- cell(x, y, ta) -/
theorem nG_cell {E : pw_E} (htr : E.1.stackTraces = false) {h : pz_H} {n : Nat} {B : Nat} {s : mS} (hA : mAt B s h) {x y ta : Int}  {W H M : Int} {t : aT} (hW : 8 ≤ W ∧ W ≤ 40) (hHH : 4 ≤ H ∧ H ≤ 16) (hM : M ≤ 800000000) (hH : rH W H M t s) (h_x : -2147483648 ≤ x ∧ x < 2147483648) (h_y : -2147483648 ≤ y ∧ y < 2147483648) (h_ta : -2147483648 ≤ ta ∧ ta < 2147483648) (hta : 0 ≤ ta ∧ ta ≤ 1) : pw_M E yX10_cell YX10_cell (rmD 4 0 0) [.ref B, .int (zI (x)), .int (zI (y)), .int (zI (ta))] h n (fun r0 h' n' => (∃ v, r0 = some (.int (zI v))) ∧ rN W H M t B s h h' n n') (fun _ _ _ => False) := by
  obtain ⟨hG, hI, ⟨⟨v1, v2⟩, ⟨v47, m47⟩, v48, v49, v53, v54, v55, v56, v57⟩, hM0, h45⟩ := id hH
  have hu := rI_us hI
  refine pw_M_of (lv := [some (.ref B), some (.int (zI (x))), some (.int (zI (y))), some (.int (zI (ta)))]) (by decide) rfl rfl htr (nle rfl) rfl (fun L => ?_)
  refine pw_aload_n dX10_cell_0 rfl ?_
  refine pw_iload_n dX10_cell_1 rfl ?_
  refine pw_if_lt (tgt := 25) dX10_cell_2 rfl (by omega) (fun c2 => ?_) (fun c2 => ?_)
  ·
    refine pw_iconst (v := zI (1)) dX10_cell_25 (by decide) ?_
    refine pw_goto (tgt := 30) dX10_cell_26 rfl ?_
    refine pw_put (fs' := (moL B (va_up s.1 0 (1)))) okX10 (k := 0) (by decide) lkX10_173 rfl rfl rfl hA.1 (nlt rfl) rfl dX10_cell_30 ?_
    have hA1 : mAt B (mV 0 (1) s) (va_up h B (pz_o 13 (moL B (va_up s.1 0 (1))))) := mAt_V hA
    have hF1 : mFr B h (va_up h B (pz_o 13 (moL B (va_up s.1 0 (1))))) := mFr_tr mFr_rf (mFr_up (k := 0) (by decide))
    revert hA1 hF1
    generalize (va_up h B (pz_o 13 (moL B (va_up s.1 0 (1))))) = h1
    intro hA1 hF1
    refine pw_aload_n dX10_cell_33 rfl ?_
    refine pw_get (v := .int (zI (1))) okX10 (k := 0) (by decide) lkX10_173 hA1.1 rfl dX10_cell_34 ?_
    refine pw_if_le (tgt := 44) dX10_cell_37 rfl (by omega) (fun c37 => ?_) (fun c37 => ?_)
    · exfalso; omega
    ·
      refine pw_iconst (v := zI (0)) dX10_cell_40 (by decide) ?_
      refine pw_goto (tgt := 51) dX10_cell_41 rfl ?_
      exact pw_iret dX10_cell_51 rfl (nle rfl) (nle rfl) ⟨⟨_, rfl⟩, (mV 0 (1) s), hA1, rH_0 hH, ⟨rfl, rfl⟩, hF1, rfl⟩
  ·
    refine pw_iload_n dX10_cell_5 rfl ?_
    refine pw_aload_n dX10_cell_6 rfl ?_
    refine pw_get (v := .int (zI (s.1 1))) okX10 (k := 1) (by decide) lkX10_162 hA.1 rfl dX10_cell_7 ?_
    refine pw_icmp_ge (tgt := 25) dX10_cell_10 rfl (by omega) (by omega) (fun c10 => ?_) (fun c10 => ?_)
    ·
      refine pw_iconst (v := zI (1)) dX10_cell_25 (by decide) ?_
      refine pw_goto (tgt := 30) dX10_cell_26 rfl ?_
      refine pw_put (fs' := (moL B (va_up s.1 0 (1)))) okX10 (k := 0) (by decide) lkX10_173 rfl rfl rfl hA.1 (nlt rfl) rfl dX10_cell_30 ?_
      have hA2 : mAt B (mV 0 (1) s) (va_up h B (pz_o 13 (moL B (va_up s.1 0 (1))))) := mAt_V hA
      have hF2 : mFr B h (va_up h B (pz_o 13 (moL B (va_up s.1 0 (1))))) := mFr_tr mFr_rf (mFr_up (k := 0) (by decide))
      revert hA2 hF2
      generalize (va_up h B (pz_o 13 (moL B (va_up s.1 0 (1))))) = h2
      intro hA2 hF2
      refine pw_aload_n dX10_cell_33 rfl ?_
      refine pw_get (v := .int (zI (1))) okX10 (k := 0) (by decide) lkX10_173 hA2.1 rfl dX10_cell_34 ?_
      refine pw_if_le (tgt := 44) dX10_cell_37 rfl (by omega) (fun c37 => ?_) (fun c37 => ?_)
      · exfalso; omega
      ·
        refine pw_iconst (v := zI (0)) dX10_cell_40 (by decide) ?_
        refine pw_goto (tgt := 51) dX10_cell_41 rfl ?_
        exact pw_iret dX10_cell_51 rfl (nle rfl) (nle rfl) ⟨⟨_, rfl⟩, (mV 0 (1) s), hA2, rH_0 hH, ⟨rfl, rfl⟩, hF2, rfl⟩
    ·
      refine pw_iload_n dX10_cell_13 rfl ?_
      refine pw_if_lt (tgt := 25) dX10_cell_14 rfl (by omega) (fun c14 => ?_) (fun c14 => ?_)
      ·
        refine pw_iconst (v := zI (1)) dX10_cell_25 (by decide) ?_
        refine pw_goto (tgt := 30) dX10_cell_26 rfl ?_
        refine pw_put (fs' := (moL B (va_up s.1 0 (1)))) okX10 (k := 0) (by decide) lkX10_173 rfl rfl rfl hA.1 (nlt rfl) rfl dX10_cell_30 ?_
        have hA3 : mAt B (mV 0 (1) s) (va_up h B (pz_o 13 (moL B (va_up s.1 0 (1))))) := mAt_V hA
        have hF3 : mFr B h (va_up h B (pz_o 13 (moL B (va_up s.1 0 (1))))) := mFr_tr mFr_rf (mFr_up (k := 0) (by decide))
        revert hA3 hF3
        generalize (va_up h B (pz_o 13 (moL B (va_up s.1 0 (1))))) = h3
        intro hA3 hF3
        refine pw_aload_n dX10_cell_33 rfl ?_
        refine pw_get (v := .int (zI (1))) okX10 (k := 0) (by decide) lkX10_173 hA3.1 rfl dX10_cell_34 ?_
        refine pw_if_le (tgt := 44) dX10_cell_37 rfl (by omega) (fun c37 => ?_) (fun c37 => ?_)
        · exfalso; omega
        ·
          refine pw_iconst (v := zI (0)) dX10_cell_40 (by decide) ?_
          refine pw_goto (tgt := 51) dX10_cell_41 rfl ?_
          exact pw_iret dX10_cell_51 rfl (nle rfl) (nle rfl) ⟨⟨_, rfl⟩, (mV 0 (1) s), hA3, rH_0 hH, ⟨rfl, rfl⟩, hF3, rfl⟩
      ·
        refine pw_iload_n dX10_cell_17 rfl ?_
        refine pw_aload_n dX10_cell_18 rfl ?_
        refine pw_get (v := .int (zI (s.1 2))) okX10 (k := 2) (by decide) lkX10_166 hA.1 rfl dX10_cell_19 ?_
        refine pw_icmp_lt (tgt := 29) dX10_cell_22 rfl (by omega) (by omega) (fun c22 => ?_) (fun c22 => ?_)
        ·
          refine pw_iconst (v := zI (0)) dX10_cell_29 (by decide) ?_
          refine pw_put (fs' := (moL B (va_up s.1 0 (0)))) okX10 (k := 0) (by decide) lkX10_173 rfl rfl rfl hA.1 (nlt rfl) rfl dX10_cell_30 ?_
          have hA4 : mAt B (mV 0 (0) s) (va_up h B (pz_o 13 (moL B (va_up s.1 0 (0))))) := mAt_V hA
          have hF4 : mFr B h (va_up h B (pz_o 13 (moL B (va_up s.1 0 (0))))) := mFr_tr mFr_rf (mFr_up (k := 0) (by decide))
          revert hA4 hF4
          generalize (va_up h B (pz_o 13 (moL B (va_up s.1 0 (0))))) = h4
          intro hA4 hF4
          refine pw_aload_n dX10_cell_33 rfl ?_
          refine pw_get (v := .int (zI (0))) okX10 (k := 0) (by decide) lkX10_173 hA4.1 rfl dX10_cell_34 ?_
          refine pw_if_le (tgt := 44) dX10_cell_37 rfl (by omega) (fun c37 => ?_) (fun c37 => ?_)
          ·
            refine pw_aload_n dX10_cell_44 rfl ?_
            refine pw_iload_n dX10_cell_45 rfl ?_
            refine pw_iload_n dX10_cell_46 rfl ?_
            refine pw_iload_n dX10_cell_47 rfl ?_
            refine pw_callV (As := [.int (zI (x)), .int (zI (y)), .int (zI (ta))]) (b := B) (rm := rmD 3 0 0) (nG_picture htr hA4 hW hHH hG (rH_0 hH).2.1 (by omega) (by omega) (by omega)) rfl hA4.1 rfl rfl ywX10_picture rfl cwX10_352 ⟨nle rfl, nle rfl⟩ (nle rfl) ⟨nle rfl, nle rfl⟩ dX10_cell_48 ?_ (fun _ _ _ z => z.elim)
            intro r_9 h_9 n_9 hq9 _
            obtain ⟨⟨v5_, hv5_, e1_⟩, e2_, e4_⟩ := hq9
            rw [e1_, e2_, e4_]
            show pw E YX10_cell _ _ 0 0 51 [some (.ref B), some (.int (zI (x))), some (.int (zI (y))), some (.int (zI (ta)))] [.int (zI (v5_))] h4 n
            clear e1_ e2_ e4_
            exact pw_iret dX10_cell_51 rfl (nle rfl) (nle rfl) ⟨⟨_, rfl⟩, (mV 0 (0) s), hA4, rH_0 hH, ⟨rfl, rfl⟩, hF4, rfl⟩
          · exfalso; omega
        ·
          refine pw_iconst (v := zI (1)) dX10_cell_25 (by decide) ?_
          refine pw_goto (tgt := 30) dX10_cell_26 rfl ?_
          refine pw_put (fs' := (moL B (va_up s.1 0 (1)))) okX10 (k := 0) (by decide) lkX10_173 rfl rfl rfl hA.1 (nlt rfl) rfl dX10_cell_30 ?_
          have hA6 : mAt B (mV 0 (1) s) (va_up h B (pz_o 13 (moL B (va_up s.1 0 (1))))) := mAt_V hA
          have hF6 : mFr B h (va_up h B (pz_o 13 (moL B (va_up s.1 0 (1))))) := mFr_tr mFr_rf (mFr_up (k := 0) (by decide))
          revert hA6 hF6
          generalize (va_up h B (pz_o 13 (moL B (va_up s.1 0 (1))))) = h6
          intro hA6 hF6
          refine pw_aload_n dX10_cell_33 rfl ?_
          refine pw_get (v := .int (zI (1))) okX10 (k := 0) (by decide) lkX10_173 hA6.1 rfl dX10_cell_34 ?_
          refine pw_if_le (tgt := 44) dX10_cell_37 rfl (by omega) (fun c37 => ?_) (fun c37 => ?_)
          · exfalso; omega
          ·
            refine pw_iconst (v := zI (0)) dX10_cell_40 (by decide) ?_
            refine pw_goto (tgt := 51) dX10_cell_41 rfl ?_
            exact pw_iret dX10_cell_51 rfl (nle rfl) (nle rfl) ⟨⟨_, rfl⟩, (mV 0 (1) s), hA6, rH_0 hH, ⟨rfl, rfl⟩, hF6, rfl⟩
set_option maxHeartbeats 1000000 in
set_option maxRecDepth 100000 in
/-- copy(p, on, up) -/
theorem nG_copy {E : pw_E} (htr : E.1.stackTraces = false) {h : pz_H} {n : Nat} {B : Nat} {s : mS} (hA : mAt B s h) {p on up : Int}  {W H M : Int} {t : aT} (hW : 8 ≤ W ∧ W ≤ 40) (hHH : 4 ≤ H ∧ H ≤ 16) (hM : M ≤ 800000000) (hH : rH W H M t s) (h_p : -2147483648 ≤ p ∧ p < 2147483648) (h_on : -2147483648 ≤ on ∧ on < 2147483648) (h_up : -2147483648 ≤ up ∧ up < 2147483648) (hon : 0 ≤ on ∧ on ≤ 1) : pw_M E yX10_copy YX10_copy (rmD 3 0 0) [.ref B, .int (zI (p)), .int (zI (on)), .int (zI (up))] h n (fun r0 h' n' => (∃ v, r0 = some (.int (zI v))) ∧ rN W H M t B s h h' n n') (fun _ _ _ => False) := by
  obtain ⟨hG, hI, ⟨⟨v1, v2⟩, ⟨v47, m47⟩, v48, v49, v53, v54, v55, v56, v57⟩, hM0, h45⟩ := id hH
  have hu := rI_us hI
  have hnb : 0 ≤ mNo s p ∧ mNo s p ≤ 1 := mNo_b
  refine pw_M_of (lv := [some (.ref B), some (.int (zI (p))), some (.int (zI (on))), some (.int (zI (up)))]) (by decide) rfl rfl htr (nle rfl) rfl (fun L => ?_)
  refine pw_aload_n dX10_copy_0 rfl ?_
  refine pw_aload_n dX10_copy_1 rfl ?_
  refine pw_iload_n dX10_copy_2 rfl ?_
  refine pw_callV (As := [.int (zI (p))]) (b := B) (rm := rmD 0 0 0) (nR_noPane htr hA hu (by omega)) rfl hA.1 rfl rfl ywX10_noPane rfl cwX10_213 ⟨nle rfl, nle rfl⟩ (nle rfl) ⟨nle rfl, nle rfl⟩ dX10_copy_3 ?_ (fun _ _ _ z => z.elim)
  intro r_9 h_9 n_9 hq _
  rw [hq.1, hq.2.1, hq.2.2]
  show pw E YX10_copy _ _ 0 0 6 [some (.ref B), some (.int (zI (p))), some (.int (zI (on))), some (.int (zI (up)))] [.int (zI (mNo s (p))), .ref B] h n
  refine pw_if_eq (tgt := 13) dX10_copy_6 rfl (by omega) (fun c6 => ?_) (fun c6 => ?_)
  ·
    have hp1 := (rI_no hI).mp (show mNo s p = 0 by omega)
    have hp0 := hp1.1
    have hpm := hp1.2
    obtain ⟨p8, hpk, m, e17, nd, ew, eh⟩ := rI_leaf hG hI hpm
    obtain ⟨kw, kh, kr, kc, ksr, ksc, kt, ko, kwa, kin, kwr, khi, krd, knu, kgi, kas, kfr, kra, kco, kof, kip⟩ := id hpk
    obtain ⟨nd0, nd1, nd2⟩ := id nd
    have h17 : 0 ≤ s.2 17 p.toNat ∧ s.2 17 p.toNat < 16 := by rw [e17]; omega
    refine pw_iconst (v := zI (0)) dX10_copy_13 (by decide) ?_
    refine pw_put (fs' := (moL B (va_up s.1 0 (0)))) okX10 (k := 0) (by decide) lkX10_173 rfl rfl rfl hA.1 (nlt rfl) rfl dX10_copy_14 ?_
    have hA1 : mAt B (mV 0 (0) s) (va_up h B (pz_o 13 (moL B (va_up s.1 0 (0))))) := mAt_V hA
    have hF1 : mFr B h (va_up h B (pz_o 13 (moL B (va_up s.1 0 (0))))) := mFr_tr mFr_rf (mFr_up (k := 0) (by decide))
    revert hA1 hF1
    generalize (va_up h B (pz_o 13 (moL B (va_up s.1 0 (0))))) = h1
    intro hA1 hF1
    refine pw_aload_n dX10_copy_17 rfl ?_
    refine pw_get (v := .int (zI (0))) okX10 (k := 0) (by decide) lkX10_173 hA1.1 rfl dX10_copy_18 ?_
    refine pw_if_le (tgt := 26) dX10_copy_21 rfl (by omega) (fun c21 => ?_) (fun c21 => ?_)
    ·
      refine pw_aload_n dX10_copy_26 rfl ?_
      refine pw_get (v := .ref (B + 41)) okX10 (k := 44) (by decide) lkX10_131 hA1.1 rfl dX10_copy_27 ?_
      refine pw_iload_n dX10_copy_30 rfl ?_
      refine pw_iload_n dX10_copy_31 rfl ?_
      refine pw_if_eq (tgt := 53) dX10_copy_32 rfl (by omega) (fun c32 => ?_) (fun c32 => ?_)
      ·
        refine pw_iconst (v := zI (0)) dX10_copy_53 (by decide) ?_
        refine pw_iast (g := (s.2 44)) (t := 0) rfl (mF44 (s := (mV 0 (0) s)) hA1) (by omega) (by decide) dX10_copy_54 ?_
        have hA2 : mAt B (mA 44 (va_up (s.2 44) (p).toNat (0)) (mV 0 (0) s)) (va_up h1 (B + 41) (pz_z 0 8 (va_up (s.2 44) (p).toNat (0)))) := mU44 hA1
        have hF2 : mFr B h (va_up h1 (B + 41) (pz_z 0 8 (va_up (s.2 44) (p).toNat (0)))) := mFr_tr hF1 (mFr_up (by decide))
        revert hA2 hF2
        generalize (va_up h1 (B + 41) (pz_z 0 8 (va_up (s.2 44) (p).toNat (0)))) = h2
        intro hA2 hF2
        refine pw_aload_n dX10_copy_55 rfl ?_
        refine pw_get (v := .ref (B + 40)) okX10 (k := 43) (by decide) lkX10_128 hA2.1 rfl dX10_copy_56 ?_
        refine pw_iload_n dX10_copy_59 rfl ?_
        refine pw_iload_n dX10_copy_60 rfl ?_
        refine pw_zast (g := (s.2 43)) (t := 1) rfl (mF43 (s := (mA 44 (va_up (s.2 44) (p).toNat (0)) (mV 0 (0) s))) hA2) (by omega) (by decide) (by omega) dX10_copy_61 ?_
        have hA3 : mAt B (mA 43 (va_up (s.2 43) (p).toNat (on)) (mA 44 (va_up (s.2 44) (p).toNat (0)) (mV 0 (0) s))) (va_up h2 (B + 40) (pz_z 1 8 (va_up (s.2 43) (p).toNat (on)))) := mU43 hA2
        have hF3 : mFr B h (va_up h2 (B + 40) (pz_z 1 8 (va_up (s.2 43) (p).toNat (on)))) := mFr_tr hF2 (mFr_up (by decide))
        revert hA3 hF3
        generalize (va_up h2 (B + 40) (pz_z 1 8 (va_up (s.2 43) (p).toNat (on)))) = h3
        intro hA3 hF3
        refine pw_iload_n dX10_copy_62 rfl ?_
        refine pw_if_eq (tgt := 72) dX10_copy_63 rfl (by omega) (fun c63 => ?_) (fun c63 => ?_)
        ·
          refine pw_aload_n dX10_copy_72 rfl ?_
          refine pw_iload_n dX10_copy_73 rfl ?_
          have g43 : 0 ≤ (va_up (s.2 43) (p).toNat (on)) (p).toNat ∧ (va_up (s.2 43) (p).toNat (on)) (p).toNat ≤ 1 := by rw [va_up_self]; omega
          have g44 : 0 ≤ (va_up (s.2 44) (p).toNat (0)) (p).toNat ∧ (va_up (s.2 44) (p).toNat (0)) (p).toNat ≤ 30 := by rw [va_up_self]; first | omega | exact mUp_b (show 0 ≤ s.2 42 p.toNat ∧ s.2 42 p.toNat ≤ 30 from kra)
          refine pw_callV (As := [.int (zI (p))]) (b := B) (rm := rmD 1 0 0) (nR_offsetOf htr hA3 hp0 g43 g44 kra) rfl hA3.1 rfl rfl ywX10_offsetOf rfl cwX10_305 ⟨nle rfl, nle rfl⟩ (nle rfl) ⟨nle rfl, nle rfl⟩ dX10_copy_74 ?_ (fun _ _ _ z => z.elim)
          intro r_9 h_9 n_9 hq _
          rw [hq.1, hq.2.1, hq.2.2]
          show pw E YX10_copy _ _ 0 0 77 [some (.ref B), some (.int (zI (p))), some (.int (zI (on))), some (.int (zI (up)))] [.int (zI (mOf (mA 43 (va_up (s.2 43) (p).toNat (on)) (mA 44 (va_up (s.2 44) (p).toNat (0)) (mV 0 (0) s))) (p)))] h3 n
          exact pw_iret dX10_copy_77 rfl (nle rfl) (nle rfl) ⟨⟨_, rfl⟩, (mA 43 (va_up (s.2 43) (p).toNat (on)) (mA 44 (va_up (s.2 44) (p).toNat (0)) (mV 0 (0) s))), hA3, rH_c (M' := M) (p := p.toNat) (rH_0 hH) rfl (fun k hk => (mA_ne (by omega)).trans ((mA_ne (by omega)))) (fun i hi => ⟨va_up_ne _ _ hi, (va_up_ne _ _ hi), rfl⟩) g43 g44 ⟨kip.1, h45 p.toNat (by omega)⟩ (Int.le_refl M) (by omega), ⟨rfl, rfl⟩, hF3, rfl⟩
        ·
          refine pw_aload_n dX10_copy_66 rfl ?_
          refine pw_iload_n dX10_copy_67 rfl ?_
          refine pw_iload_n dX10_copy_68 rfl ?_
          have h43 : 0 ≤ (va_up (s.2 43) (p).toNat (on)) (p).toNat ∧ (va_up (s.2 43) (p).toNat (on)) (p).toNat ≤ 1 := by rw [va_up_self]; omega
          have h44 : 0 ≤ (va_up (s.2 44) (p).toNat (0)) (p).toNat ∧ (va_up (s.2 44) (p).toNat (0)) (p).toNat ≤ 30 := by rw [va_up_self]; omega
          refine pw_callV (As := [.int (zI (p)), .int (zI (up))]) (b := B) (rm := rmD 2 0 0) (nR_goUp htr hA3 hp0 h43 h44 kra (by omega)) rfl hA3.1 rfl rfl ywX10_goUp rfl cwX10_320 ⟨nle rfl, nle rfl⟩ (nle rfl) ⟨nle rfl, nle rfl⟩ dX10_copy_69 ?_ (fun _ _ _ z => z.elim)
          intro r_9 h4 n_9 hq _
          obtain ⟨e1, hA40, hF40, e4⟩ := hq
          rw [e1, e4]
          show pw E YX10_copy _ _ 0 0 72 [some (.ref B), some (.int (zI (p))), some (.int (zI (on))), some (.int (zI (up)))] [] h4 n
          have hA4 : mAt B (mA 44 (va_up (va_up (s.2 44) (p).toNat (0)) (p).toNat (mUp (mA 43 (va_up (s.2 43) (p).toNat (on)) (mA 44 (va_up (s.2 44) (p).toNat (0)) (mV 0 (0) s))) (p) (up))) (mA 43 (va_up (s.2 43) (p).toNat (on)) (mA 44 (va_up (s.2 44) (p).toNat (0)) (mV 0 (0) s)))) h4 := hA40
          have hF4 := mFr_tr hF3 hF40
          clear e1 e4
          refine pw_aload_n dX10_copy_72 rfl ?_
          refine pw_iload_n dX10_copy_73 rfl ?_
          have g43 : 0 ≤ (va_up (s.2 43) (p).toNat (on)) (p).toNat ∧ (va_up (s.2 43) (p).toNat (on)) (p).toNat ≤ 1 := by rw [va_up_self]; omega
          have g44 : 0 ≤ (va_up (va_up (s.2 44) (p).toNat (0)) (p).toNat (mUp (mA 43 (va_up (s.2 43) (p).toNat (on)) (mA 44 (va_up (s.2 44) (p).toNat (0)) (mV 0 (0) s))) (p) (up))) (p).toNat ∧ (va_up (va_up (s.2 44) (p).toNat (0)) (p).toNat (mUp (mA 43 (va_up (s.2 43) (p).toNat (on)) (mA 44 (va_up (s.2 44) (p).toNat (0)) (mV 0 (0) s))) (p) (up))) (p).toNat ≤ 30 := by rw [va_up_self]; first | omega | exact mUp_b (show 0 ≤ s.2 42 p.toNat ∧ s.2 42 p.toNat ≤ 30 from kra)
          refine pw_callV (As := [.int (zI (p))]) (b := B) (rm := rmD 1 0 0) (nR_offsetOf htr hA4 hp0 g43 g44 kra) rfl hA4.1 rfl rfl ywX10_offsetOf rfl cwX10_305 ⟨nle rfl, nle rfl⟩ (nle rfl) ⟨nle rfl, nle rfl⟩ dX10_copy_74 ?_ (fun _ _ _ z => z.elim)
          intro r_9 h_9 n_9 hq _
          rw [hq.1, hq.2.1, hq.2.2]
          show pw E YX10_copy _ _ 0 0 77 [some (.ref B), some (.int (zI (p))), some (.int (zI (on))), some (.int (zI (up)))] [.int (zI (mOf (mA 44 (va_up (va_up (s.2 44) (p).toNat (0)) (p).toNat (mUp (mA 43 (va_up (s.2 43) (p).toNat (on)) (mA 44 (va_up (s.2 44) (p).toNat (0)) (mV 0 (0) s))) (p) (up))) (mA 43 (va_up (s.2 43) (p).toNat (on)) (mA 44 (va_up (s.2 44) (p).toNat (0)) (mV 0 (0) s)))) (p)))] h4 n
          exact pw_iret dX10_copy_77 rfl (nle rfl) (nle rfl) ⟨⟨_, rfl⟩, (mA 44 (va_up (va_up (s.2 44) (p).toNat (0)) (p).toNat (mUp (mA 43 (va_up (s.2 43) (p).toNat (on)) (mA 44 (va_up (s.2 44) (p).toNat (0)) (mV 0 (0) s))) (p) (up))) (mA 43 (va_up (s.2 43) (p).toNat (on)) (mA 44 (va_up (s.2 44) (p).toNat (0)) (mV 0 (0) s)))), hA4, rH_c (M' := M) (p := p.toNat) (rH_0 hH) rfl (fun k hk => (mA_ne (by omega)).trans ((mA_ne (by omega)).trans (mA_ne (by omega)))) (fun i hi => ⟨va_up_ne _ _ hi, ((va_up_ne _ _ hi).trans (va_up_ne _ _ hi)), rfl⟩) g43 g44 ⟨kip.1, h45 p.toNat (by omega)⟩ (Int.le_refl M) (by omega), ⟨rfl, rfl⟩, hF4, rfl⟩
      ·
        refine pw_aload_n dX10_copy_35 rfl ?_
        refine pw_get (v := .ref (B + 40)) okX10 (k := 43) (by decide) lkX10_128 hA1.1 rfl dX10_copy_36 ?_
        refine pw_iload_n dX10_copy_39 rfl ?_
        refine pw_zald (g := (s.2 43)) (t := 1) rfl (mF43 (s := (mV 0 (0) s)) hA1) (by omega) (by decide) dX10_copy_40 ?_
        refine pw_if_eq (tgt := 53) dX10_copy_41 rfl (by omega) (fun c41 => ?_) (fun c41 => ?_)
        ·
          refine pw_iconst (v := zI (0)) dX10_copy_53 (by decide) ?_
          refine pw_iast (g := (s.2 44)) (t := 0) rfl (mF44 (s := (mV 0 (0) s)) hA1) (by omega) (by decide) dX10_copy_54 ?_
          have hA5 : mAt B (mA 44 (va_up (s.2 44) (p).toNat (0)) (mV 0 (0) s)) (va_up h1 (B + 41) (pz_z 0 8 (va_up (s.2 44) (p).toNat (0)))) := mU44 hA1
          have hF5 : mFr B h (va_up h1 (B + 41) (pz_z 0 8 (va_up (s.2 44) (p).toNat (0)))) := mFr_tr hF1 (mFr_up (by decide))
          revert hA5 hF5
          generalize (va_up h1 (B + 41) (pz_z 0 8 (va_up (s.2 44) (p).toNat (0)))) = h5
          intro hA5 hF5
          refine pw_aload_n dX10_copy_55 rfl ?_
          refine pw_get (v := .ref (B + 40)) okX10 (k := 43) (by decide) lkX10_128 hA5.1 rfl dX10_copy_56 ?_
          refine pw_iload_n dX10_copy_59 rfl ?_
          refine pw_iload_n dX10_copy_60 rfl ?_
          refine pw_zast (g := (s.2 43)) (t := 1) rfl (mF43 (s := (mA 44 (va_up (s.2 44) (p).toNat (0)) (mV 0 (0) s))) hA5) (by omega) (by decide) (by omega) dX10_copy_61 ?_
          have hA6 : mAt B (mA 43 (va_up (s.2 43) (p).toNat (on)) (mA 44 (va_up (s.2 44) (p).toNat (0)) (mV 0 (0) s))) (va_up h5 (B + 40) (pz_z 1 8 (va_up (s.2 43) (p).toNat (on)))) := mU43 hA5
          have hF6 : mFr B h (va_up h5 (B + 40) (pz_z 1 8 (va_up (s.2 43) (p).toNat (on)))) := mFr_tr hF5 (mFr_up (by decide))
          revert hA6 hF6
          generalize (va_up h5 (B + 40) (pz_z 1 8 (va_up (s.2 43) (p).toNat (on)))) = h6
          intro hA6 hF6
          refine pw_iload_n dX10_copy_62 rfl ?_
          refine pw_if_eq (tgt := 72) dX10_copy_63 rfl (by omega) (fun c63 => ?_) (fun c63 => ?_)
          ·
            refine pw_aload_n dX10_copy_72 rfl ?_
            refine pw_iload_n dX10_copy_73 rfl ?_
            have g43 : 0 ≤ (va_up (s.2 43) (p).toNat (on)) (p).toNat ∧ (va_up (s.2 43) (p).toNat (on)) (p).toNat ≤ 1 := by rw [va_up_self]; omega
            have g44 : 0 ≤ (va_up (s.2 44) (p).toNat (0)) (p).toNat ∧ (va_up (s.2 44) (p).toNat (0)) (p).toNat ≤ 30 := by rw [va_up_self]; first | omega | exact mUp_b (show 0 ≤ s.2 42 p.toNat ∧ s.2 42 p.toNat ≤ 30 from kra)
            refine pw_callV (As := [.int (zI (p))]) (b := B) (rm := rmD 1 0 0) (nR_offsetOf htr hA6 hp0 g43 g44 kra) rfl hA6.1 rfl rfl ywX10_offsetOf rfl cwX10_305 ⟨nle rfl, nle rfl⟩ (nle rfl) ⟨nle rfl, nle rfl⟩ dX10_copy_74 ?_ (fun _ _ _ z => z.elim)
            intro r_9 h_9 n_9 hq _
            rw [hq.1, hq.2.1, hq.2.2]
            show pw E YX10_copy _ _ 0 0 77 [some (.ref B), some (.int (zI (p))), some (.int (zI (on))), some (.int (zI (up)))] [.int (zI (mOf (mA 43 (va_up (s.2 43) (p).toNat (on)) (mA 44 (va_up (s.2 44) (p).toNat (0)) (mV 0 (0) s))) (p)))] h6 n
            exact pw_iret dX10_copy_77 rfl (nle rfl) (nle rfl) ⟨⟨_, rfl⟩, (mA 43 (va_up (s.2 43) (p).toNat (on)) (mA 44 (va_up (s.2 44) (p).toNat (0)) (mV 0 (0) s))), hA6, rH_c (M' := M) (p := p.toNat) (rH_0 hH) rfl (fun k hk => (mA_ne (by omega)).trans ((mA_ne (by omega)))) (fun i hi => ⟨va_up_ne _ _ hi, (va_up_ne _ _ hi), rfl⟩) g43 g44 ⟨kip.1, h45 p.toNat (by omega)⟩ (Int.le_refl M) (by omega), ⟨rfl, rfl⟩, hF6, rfl⟩
          ·
            refine pw_aload_n dX10_copy_66 rfl ?_
            refine pw_iload_n dX10_copy_67 rfl ?_
            refine pw_iload_n dX10_copy_68 rfl ?_
            have h43 : 0 ≤ (va_up (s.2 43) (p).toNat (on)) (p).toNat ∧ (va_up (s.2 43) (p).toNat (on)) (p).toNat ≤ 1 := by rw [va_up_self]; omega
            have h44 : 0 ≤ (va_up (s.2 44) (p).toNat (0)) (p).toNat ∧ (va_up (s.2 44) (p).toNat (0)) (p).toNat ≤ 30 := by rw [va_up_self]; omega
            refine pw_callV (As := [.int (zI (p)), .int (zI (up))]) (b := B) (rm := rmD 2 0 0) (nR_goUp htr hA6 hp0 h43 h44 kra (by omega)) rfl hA6.1 rfl rfl ywX10_goUp rfl cwX10_320 ⟨nle rfl, nle rfl⟩ (nle rfl) ⟨nle rfl, nle rfl⟩ dX10_copy_69 ?_ (fun _ _ _ z => z.elim)
            intro r_9 h7 n_9 hq _
            obtain ⟨e1, hA70, hF70, e4⟩ := hq
            rw [e1, e4]
            show pw E YX10_copy _ _ 0 0 72 [some (.ref B), some (.int (zI (p))), some (.int (zI (on))), some (.int (zI (up)))] [] h7 n
            have hA7 : mAt B (mA 44 (va_up (va_up (s.2 44) (p).toNat (0)) (p).toNat (mUp (mA 43 (va_up (s.2 43) (p).toNat (on)) (mA 44 (va_up (s.2 44) (p).toNat (0)) (mV 0 (0) s))) (p) (up))) (mA 43 (va_up (s.2 43) (p).toNat (on)) (mA 44 (va_up (s.2 44) (p).toNat (0)) (mV 0 (0) s)))) h7 := hA70
            have hF7 := mFr_tr hF6 hF70
            clear e1 e4
            refine pw_aload_n dX10_copy_72 rfl ?_
            refine pw_iload_n dX10_copy_73 rfl ?_
            have g43 : 0 ≤ (va_up (s.2 43) (p).toNat (on)) (p).toNat ∧ (va_up (s.2 43) (p).toNat (on)) (p).toNat ≤ 1 := by rw [va_up_self]; omega
            have g44 : 0 ≤ (va_up (va_up (s.2 44) (p).toNat (0)) (p).toNat (mUp (mA 43 (va_up (s.2 43) (p).toNat (on)) (mA 44 (va_up (s.2 44) (p).toNat (0)) (mV 0 (0) s))) (p) (up))) (p).toNat ∧ (va_up (va_up (s.2 44) (p).toNat (0)) (p).toNat (mUp (mA 43 (va_up (s.2 43) (p).toNat (on)) (mA 44 (va_up (s.2 44) (p).toNat (0)) (mV 0 (0) s))) (p) (up))) (p).toNat ≤ 30 := by rw [va_up_self]; first | omega | exact mUp_b (show 0 ≤ s.2 42 p.toNat ∧ s.2 42 p.toNat ≤ 30 from kra)
            refine pw_callV (As := [.int (zI (p))]) (b := B) (rm := rmD 1 0 0) (nR_offsetOf htr hA7 hp0 g43 g44 kra) rfl hA7.1 rfl rfl ywX10_offsetOf rfl cwX10_305 ⟨nle rfl, nle rfl⟩ (nle rfl) ⟨nle rfl, nle rfl⟩ dX10_copy_74 ?_ (fun _ _ _ z => z.elim)
            intro r_9 h_9 n_9 hq _
            rw [hq.1, hq.2.1, hq.2.2]
            show pw E YX10_copy _ _ 0 0 77 [some (.ref B), some (.int (zI (p))), some (.int (zI (on))), some (.int (zI (up)))] [.int (zI (mOf (mA 44 (va_up (va_up (s.2 44) (p).toNat (0)) (p).toNat (mUp (mA 43 (va_up (s.2 43) (p).toNat (on)) (mA 44 (va_up (s.2 44) (p).toNat (0)) (mV 0 (0) s))) (p) (up))) (mA 43 (va_up (s.2 43) (p).toNat (on)) (mA 44 (va_up (s.2 44) (p).toNat (0)) (mV 0 (0) s)))) (p)))] h7 n
            exact pw_iret dX10_copy_77 rfl (nle rfl) (nle rfl) ⟨⟨_, rfl⟩, (mA 44 (va_up (va_up (s.2 44) (p).toNat (0)) (p).toNat (mUp (mA 43 (va_up (s.2 43) (p).toNat (on)) (mA 44 (va_up (s.2 44) (p).toNat (0)) (mV 0 (0) s))) (p) (up))) (mA 43 (va_up (s.2 43) (p).toNat (on)) (mA 44 (va_up (s.2 44) (p).toNat (0)) (mV 0 (0) s)))), hA7, rH_c (M' := M) (p := p.toNat) (rH_0 hH) rfl (fun k hk => (mA_ne (by omega)).trans ((mA_ne (by omega)).trans (mA_ne (by omega)))) (fun i hi => ⟨va_up_ne _ _ hi, ((va_up_ne _ _ hi).trans (va_up_ne _ _ hi)), rfl⟩) g43 g44 ⟨kip.1, h45 p.toNat (by omega)⟩ (Int.le_refl M) (by omega), ⟨rfl, rfl⟩, hF7, rfl⟩
        ·
          refine pw_aload_n dX10_copy_44 rfl ?_
          refine pw_get (v := .ref (B + 41)) okX10 (k := 44) (by decide) lkX10_131 hA1.1 rfl dX10_copy_45 ?_
          refine pw_iload_n dX10_copy_48 rfl ?_
          refine pw_iald (g := (s.2 44)) (t := 0) rfl (mF44 (s := (mV 0 (0) s)) hA1) (by omega) (by decide) dX10_copy_49 ?_
          refine pw_goto (tgt := 54) dX10_copy_50 rfl ?_
          refine pw_iast (g := (s.2 44)) (t := 0) rfl (mF44 (s := (mV 0 (0) s)) hA1) (by omega) (by decide) dX10_copy_54 ?_
          have hA8 : mAt B (mA 44 (va_up (s.2 44) (p).toNat ((s.2 44) (p).toNat)) (mV 0 (0) s)) (va_up h1 (B + 41) (pz_z 0 8 (va_up (s.2 44) (p).toNat ((s.2 44) (p).toNat)))) := mU44 hA1
          have hF8 : mFr B h (va_up h1 (B + 41) (pz_z 0 8 (va_up (s.2 44) (p).toNat ((s.2 44) (p).toNat)))) := mFr_tr hF1 (mFr_up (by decide))
          revert hA8 hF8
          generalize (va_up h1 (B + 41) (pz_z 0 8 (va_up (s.2 44) (p).toNat ((s.2 44) (p).toNat)))) = h8
          intro hA8 hF8
          refine pw_aload_n dX10_copy_55 rfl ?_
          refine pw_get (v := .ref (B + 40)) okX10 (k := 43) (by decide) lkX10_128 hA8.1 rfl dX10_copy_56 ?_
          refine pw_iload_n dX10_copy_59 rfl ?_
          refine pw_iload_n dX10_copy_60 rfl ?_
          refine pw_zast (g := (s.2 43)) (t := 1) rfl (mF43 (s := (mA 44 (va_up (s.2 44) (p).toNat ((s.2 44) (p).toNat)) (mV 0 (0) s))) hA8) (by omega) (by decide) (by omega) dX10_copy_61 ?_
          have hA9 : mAt B (mA 43 (va_up (s.2 43) (p).toNat (on)) (mA 44 (va_up (s.2 44) (p).toNat ((s.2 44) (p).toNat)) (mV 0 (0) s))) (va_up h8 (B + 40) (pz_z 1 8 (va_up (s.2 43) (p).toNat (on)))) := mU43 hA8
          have hF9 : mFr B h (va_up h8 (B + 40) (pz_z 1 8 (va_up (s.2 43) (p).toNat (on)))) := mFr_tr hF8 (mFr_up (by decide))
          revert hA9 hF9
          generalize (va_up h8 (B + 40) (pz_z 1 8 (va_up (s.2 43) (p).toNat (on)))) = h9
          intro hA9 hF9
          refine pw_iload_n dX10_copy_62 rfl ?_
          refine pw_if_eq (tgt := 72) dX10_copy_63 rfl (by omega) (fun c63 => ?_) (fun c63 => ?_)
          ·
            refine pw_aload_n dX10_copy_72 rfl ?_
            refine pw_iload_n dX10_copy_73 rfl ?_
            have g43 : 0 ≤ (va_up (s.2 43) (p).toNat (on)) (p).toNat ∧ (va_up (s.2 43) (p).toNat (on)) (p).toNat ≤ 1 := by rw [va_up_self]; omega
            have g44 : 0 ≤ (va_up (s.2 44) (p).toNat ((s.2 44) (p).toNat)) (p).toNat ∧ (va_up (s.2 44) (p).toNat ((s.2 44) (p).toNat)) (p).toNat ≤ 30 := by rw [va_up_self]; first | omega | exact mUp_b (show 0 ≤ s.2 42 p.toNat ∧ s.2 42 p.toNat ≤ 30 from kra)
            refine pw_callV (As := [.int (zI (p))]) (b := B) (rm := rmD 1 0 0) (nR_offsetOf htr hA9 hp0 g43 g44 kra) rfl hA9.1 rfl rfl ywX10_offsetOf rfl cwX10_305 ⟨nle rfl, nle rfl⟩ (nle rfl) ⟨nle rfl, nle rfl⟩ dX10_copy_74 ?_ (fun _ _ _ z => z.elim)
            intro r_9 h_9 n_9 hq _
            rw [hq.1, hq.2.1, hq.2.2]
            show pw E YX10_copy _ _ 0 0 77 [some (.ref B), some (.int (zI (p))), some (.int (zI (on))), some (.int (zI (up)))] [.int (zI (mOf (mA 43 (va_up (s.2 43) (p).toNat (on)) (mA 44 (va_up (s.2 44) (p).toNat ((s.2 44) (p).toNat)) (mV 0 (0) s))) (p)))] h9 n
            exact pw_iret dX10_copy_77 rfl (nle rfl) (nle rfl) ⟨⟨_, rfl⟩, (mA 43 (va_up (s.2 43) (p).toNat (on)) (mA 44 (va_up (s.2 44) (p).toNat ((s.2 44) (p).toNat)) (mV 0 (0) s))), hA9, rH_c (M' := M) (p := p.toNat) (rH_0 hH) rfl (fun k hk => (mA_ne (by omega)).trans ((mA_ne (by omega)))) (fun i hi => ⟨va_up_ne _ _ hi, (va_up_ne _ _ hi), rfl⟩) g43 g44 ⟨kip.1, h45 p.toNat (by omega)⟩ (Int.le_refl M) (by omega), ⟨rfl, rfl⟩, hF9, rfl⟩
          ·
            refine pw_aload_n dX10_copy_66 rfl ?_
            refine pw_iload_n dX10_copy_67 rfl ?_
            refine pw_iload_n dX10_copy_68 rfl ?_
            have h43 : 0 ≤ (va_up (s.2 43) (p).toNat (on)) (p).toNat ∧ (va_up (s.2 43) (p).toNat (on)) (p).toNat ≤ 1 := by rw [va_up_self]; omega
            have h44 : 0 ≤ (va_up (s.2 44) (p).toNat ((s.2 44) (p).toNat)) (p).toNat ∧ (va_up (s.2 44) (p).toNat ((s.2 44) (p).toNat)) (p).toNat ≤ 30 := by rw [va_up_self]; omega
            refine pw_callV (As := [.int (zI (p)), .int (zI (up))]) (b := B) (rm := rmD 2 0 0) (nR_goUp htr hA9 hp0 h43 h44 kra (by omega)) rfl hA9.1 rfl rfl ywX10_goUp rfl cwX10_320 ⟨nle rfl, nle rfl⟩ (nle rfl) ⟨nle rfl, nle rfl⟩ dX10_copy_69 ?_ (fun _ _ _ z => z.elim)
            intro r_9 h10 n_9 hq _
            obtain ⟨e1, hA100, hF100, e4⟩ := hq
            rw [e1, e4]
            show pw E YX10_copy _ _ 0 0 72 [some (.ref B), some (.int (zI (p))), some (.int (zI (on))), some (.int (zI (up)))] [] h10 n
            have hA10 : mAt B (mA 44 (va_up (va_up (s.2 44) (p).toNat ((s.2 44) (p).toNat)) (p).toNat (mUp (mA 43 (va_up (s.2 43) (p).toNat (on)) (mA 44 (va_up (s.2 44) (p).toNat ((s.2 44) (p).toNat)) (mV 0 (0) s))) (p) (up))) (mA 43 (va_up (s.2 43) (p).toNat (on)) (mA 44 (va_up (s.2 44) (p).toNat ((s.2 44) (p).toNat)) (mV 0 (0) s)))) h10 := hA100
            have hF10 := mFr_tr hF9 hF100
            clear e1 e4
            refine pw_aload_n dX10_copy_72 rfl ?_
            refine pw_iload_n dX10_copy_73 rfl ?_
            have g43 : 0 ≤ (va_up (s.2 43) (p).toNat (on)) (p).toNat ∧ (va_up (s.2 43) (p).toNat (on)) (p).toNat ≤ 1 := by rw [va_up_self]; omega
            have g44 : 0 ≤ (va_up (va_up (s.2 44) (p).toNat ((s.2 44) (p).toNat)) (p).toNat (mUp (mA 43 (va_up (s.2 43) (p).toNat (on)) (mA 44 (va_up (s.2 44) (p).toNat ((s.2 44) (p).toNat)) (mV 0 (0) s))) (p) (up))) (p).toNat ∧ (va_up (va_up (s.2 44) (p).toNat ((s.2 44) (p).toNat)) (p).toNat (mUp (mA 43 (va_up (s.2 43) (p).toNat (on)) (mA 44 (va_up (s.2 44) (p).toNat ((s.2 44) (p).toNat)) (mV 0 (0) s))) (p) (up))) (p).toNat ≤ 30 := by rw [va_up_self]; first | omega | exact mUp_b (show 0 ≤ s.2 42 p.toNat ∧ s.2 42 p.toNat ≤ 30 from kra)
            refine pw_callV (As := [.int (zI (p))]) (b := B) (rm := rmD 1 0 0) (nR_offsetOf htr hA10 hp0 g43 g44 kra) rfl hA10.1 rfl rfl ywX10_offsetOf rfl cwX10_305 ⟨nle rfl, nle rfl⟩ (nle rfl) ⟨nle rfl, nle rfl⟩ dX10_copy_74 ?_ (fun _ _ _ z => z.elim)
            intro r_9 h_9 n_9 hq _
            rw [hq.1, hq.2.1, hq.2.2]
            show pw E YX10_copy _ _ 0 0 77 [some (.ref B), some (.int (zI (p))), some (.int (zI (on))), some (.int (zI (up)))] [.int (zI (mOf (mA 44 (va_up (va_up (s.2 44) (p).toNat ((s.2 44) (p).toNat)) (p).toNat (mUp (mA 43 (va_up (s.2 43) (p).toNat (on)) (mA 44 (va_up (s.2 44) (p).toNat ((s.2 44) (p).toNat)) (mV 0 (0) s))) (p) (up))) (mA 43 (va_up (s.2 43) (p).toNat (on)) (mA 44 (va_up (s.2 44) (p).toNat ((s.2 44) (p).toNat)) (mV 0 (0) s)))) (p)))] h10 n
            exact pw_iret dX10_copy_77 rfl (nle rfl) (nle rfl) ⟨⟨_, rfl⟩, (mA 44 (va_up (va_up (s.2 44) (p).toNat ((s.2 44) (p).toNat)) (p).toNat (mUp (mA 43 (va_up (s.2 43) (p).toNat (on)) (mA 44 (va_up (s.2 44) (p).toNat ((s.2 44) (p).toNat)) (mV 0 (0) s))) (p) (up))) (mA 43 (va_up (s.2 43) (p).toNat (on)) (mA 44 (va_up (s.2 44) (p).toNat ((s.2 44) (p).toNat)) (mV 0 (0) s)))), hA10, rH_c (M' := M) (p := p.toNat) (rH_0 hH) rfl (fun k hk => (mA_ne (by omega)).trans ((mA_ne (by omega)).trans (mA_ne (by omega)))) (fun i hi => ⟨va_up_ne _ _ hi, ((va_up_ne _ _ hi).trans (va_up_ne _ _ hi)), rfl⟩) g43 g44 ⟨kip.1, h45 p.toNat (by omega)⟩ (Int.le_refl M) (by omega), ⟨rfl, rfl⟩, hF10, rfl⟩
    · exfalso; omega
  ·
    refine pw_iconst (v := zI (1)) dX10_copy_9 (by decide) ?_
    refine pw_goto (tgt := 14) dX10_copy_10 rfl ?_
    refine pw_put (fs' := (moL B (va_up s.1 0 (1)))) okX10 (k := 0) (by decide) lkX10_173 rfl rfl rfl hA.1 (nlt rfl) rfl dX10_copy_14 ?_
    have hA11 : mAt B (mV 0 (1) s) (va_up h B (pz_o 13 (moL B (va_up s.1 0 (1))))) := mAt_V hA
    have hF11 : mFr B h (va_up h B (pz_o 13 (moL B (va_up s.1 0 (1))))) := mFr_tr mFr_rf (mFr_up (k := 0) (by decide))
    revert hA11 hF11
    generalize (va_up h B (pz_o 13 (moL B (va_up s.1 0 (1))))) = h11
    intro hA11 hF11
    refine pw_aload_n dX10_copy_17 rfl ?_
    refine pw_get (v := .int (zI (1))) okX10 (k := 0) (by decide) lkX10_173 hA11.1 rfl dX10_copy_18 ?_
    refine pw_if_le (tgt := 26) dX10_copy_21 rfl (by omega) (fun c21 => ?_) (fun c21 => ?_)
    · exfalso; omega
    ·
      refine pw_iconst (v := zI (0)) dX10_copy_24 (by decide) ?_
      exact pw_iret dX10_copy_25 rfl (nle rfl) (nle rfl) ⟨⟨_, rfl⟩, (mV 0 (1) s), hA11, rH_0 hH, ⟨rfl, rfl⟩, hF11, rfl⟩
