def YX10_command : pw_Y := (RX10, "command", cX10_command, 4, none)
theorem ywX10_command : pw_y yX10_command YX10_command 1 := ⟨by decide +kernel, by decide +kernel, by decide +kernel, pw_in 1671 (by decide +kernel) (by decide +kernel), pw_in 106 (by decide +kernel) (by decide +kernel)⟩
theorem cwX10_317 : Cond.methodLink RX10 317 yX10_command ∈ pw_G ∧ Cond.instanceMethod yX10_command ∈ pw_G ∧ Cond.selects RX10 yX10_command yX10_command ∈ pw_G := ⟨pw_in 1668 (by decide +kernel) (by decide +kernel), pw_in 1670 (by decide +kernel) (by decide +kernel), pw_in 65 (by decide +kernel) (by decide +kernel)⟩
/-! ===== the reference's command and key ===== -/
/-- i bytes have come in at pane fo -/
def mCi (fo : Nat) (i : Int) (s s1 : mS) : Prop := s1.1 = s.1 ∧ (∀ k, k ≠ 45 → k ≠ 46 → s1.2 k = s.2 k) ∧ (∀ j, j ≠ fo → s1.2 45 j = s.2 45 j) ∧ s1.2 45 fo = s.2 45 fo + i
theorem mCi_rf {fo : Nat} {s : mS} : mCi fo 0 s s := ⟨rfl, fun _ _ _ => rfl, fun _ _ => rfl, by omega⟩
theorem mCi_1 {fo b i : Int} {s s1 : mS} (x : mCi fo.toNat i s s1) : mCi fo.toNat (i + 1) s (mA 45 (va_up (s1.2 45) (fo).toNat (s1.2 45 (fo).toNat + 1)) (mA 46 (va_up (s1.2 46) (64 * (fo) + s1.2 45 (fo).toNat % 64).toNat (b)) s1)) := by
  refine ⟨x.1, fun k h1 h2 => (mA_ne h1).trans ((mA_ne h2).trans (x.2.1 k h1 h2)), fun j hj => ?_, ?_⟩
  · show va_up (s1.2 45) fo.toNat (s1.2 45 fo.toNat + 1) j = s.2 45 j
    rw [va_up_ne _ _ hj]
    exact x.2.2.1 j hj
  · show va_up (s1.2 45) fo.toNat (s1.2 45 fo.toNat + 1) fo.toNat = s.2 45 fo.toNat + (i + 1)
    rw [va_up_self, x.2.2.2]
    omega
theorem mCi_rH {W H M i : Int} {t : aT} {fo : Nat} {s s1 : mS} (x : mCi fo i s s1) (hH : rH W H M t s) (hf : fo ∈ aX fp 8 t) (hi : 0 ≤ i ∧ i ≤ 400) (hM : M + 400 ≤ 900000000) : rH W H (M + 400) t s1 := by
  have f8 := hH.1.2.2.2.2 fo hf
  obtain ⟨kw, kh, kr, kc, ksr, ksc, kt, ko, kwa, kin, kwr, khi, krd, knu, kgi, kas, kfr, kra, kco, kof, kip⟩ := hH.2.1.2.2.2.2.1 fo hf
  have h45 := hH.2.2.2.2 fo f8
  refine rH_c (p := fo) hH x.1 (fun k hk => x.2.1 k (by omega) (by omega)) (fun j hj => ⟨by rw [x.2.1 43 (by decide) (by decide)], by rw [x.2.1 44 (by decide) (by decide)], x.2.2.1 j hj⟩) (by rw [x.2.1 43 (by decide) (by decide)]; exact kco) (by rw [x.2.1 44 (by decide) (by decide)]; exact kof) ?_ (by omega) hM
  rw [x.2.2.2]
  omega
/-- the next pane -/
def mNx (f : Nat → Int) (p : Int) : Nat → Int → Int
  | 0, c => c
  | d + 1, c => mNx f p d (if f ((p + ((d + 1 : Nat) : Int)) % 8).toNat = 0 then c else (p + ((d + 1 : Nat) : Int)) % 8)
theorem mNx_in {f : Nat → Int} {p : Int} {l : List Nat} (hf : ∀ i, i < 8 → ¬ f i = 0 → i ∈ l) : ∀ (d : Nat) (c : Int), ((0 ≤ c ∧ c < 8) ∧ c.toNat ∈ l) → (0 ≤ mNx f p d c ∧ mNx f p d c < 8) ∧ (mNx f p d c).toNat ∈ l
  | 0, _, h => h
  | d + 1, c, h => by
    refine mNx_in hf d _ ?_
    split
    · exact h
    · next e => exact ⟨by omega, hf _ (by omega) e⟩
set_option maxHeartbeats 1000000 in
set_option maxRecDepth 100000 in
/-- command(34), refused -/
theorem nK_34n {E : pw_E} (htr : E.1.stackTraces = false) {h : pz_H} {n : Nat} {B : Nat} {s : mS} (hA : mAt B s h)  {W H M : Int} {t : aT} (hW : 8 ≤ W ∧ W ≤ 40) (hHH : 4 ≤ H ∧ H ≤ 16) (hM : M ≤ 800000000) (hH : rH W H M t s) (hmy : mMay s (s.1 47) 1 = 0) : pw_M E yX10_command YX10_command (rmD 4 0 0) [.ref B, .int (zI (34))] h n (fun r0 h' n' => r0 = none ∧ rD W H M t B (s.1 0) (s.1 47) (s.1 48) h h' n n') (fun _ _ _ => False) := by
  obtain ⟨hG, hI, ⟨⟨v1, v2⟩, ⟨v47, m47⟩, v48, v49, v53, v54, v55, v56, v57⟩, hM0, h45⟩ := id hH
  have hu := rI_us hI
  have hpm := m47
  obtain ⟨p8, hpk, m, e17, nd, ew, eh⟩ := rI_leaf hG hI hpm
  obtain ⟨kw, kh, kr, kc, ksr, ksc, kt, ko, kwa, kin, kwr, khi, krd, knu, kgi, kas, kfr, kra, kco, kof, kip⟩ := id hpk
  obtain ⟨nd0, nd1, nd2⟩ := id nd
  have h17 : 0 ≤ s.2 17 (s.1 47).toNat ∧ s.2 17 (s.1 47).toNat < 16 := by rw [e17]; omega
  refine pw_M_of (lv := [some (.ref B), some (.int (zI (34))), none, none]) (by decide) rfl rfl htr (nle rfl) rfl (fun L => ?_)
  refine pw_iload_n dX10_command_0 rfl ?_
  refine pw_bipush (v := zI (34)) dX10_command_1 (by decide) ?_
  refine pw_icmp_eq (tgt := 12) dX10_command_3 rfl (by omega) (by omega) (fun c3 => ?_) (fun c3 => ?_)
  ·
    refine pw_aload_n dX10_command_12 rfl ?_
    refine pw_aload_n dX10_command_13 rfl ?_
    refine pw_get (v := .int (zI (s.1 47))) okX10 (k := 47) (by decide) lkX10_207 hA.1 rfl dX10_command_14 ?_
    refine pw_iload_n dX10_command_17 rfl ?_
    refine pw_bipush (v := zI (34)) dX10_command_18 (by decide) ?_
    refine pw_icmp_ne (tgt := 27) dX10_command_20 rfl (by omega) (by omega) (fun c20 => ?_) (fun c20 => ?_)
    · exfalso; omega
    ·
      refine pw_iconst (v := zI (1)) dX10_command_23 (by decide) ?_
      refine pw_goto (tgt := 28) dX10_command_24 rfl ?_
      refine pw_callV (As := [.int (zI (s.1 47)), .int (zI (1))]) (b := B) (rm := rmD 0 0 0) (nG_maySplit htr hA hu v47 (by omega) hpk) rfl hA.1 rfl rfl ywX10_maySplit rfl cwX10_217 ⟨nle rfl, nle rfl⟩ (nle rfl) ⟨nle rfl, nle rfl⟩ dX10_command_28 ?_ (fun _ _ _ z => z.elim)
      intro r_9 h_9 n_9 hq _
      rw [hq.1, hq.2.1, hq.2.2]
      show pw E YX10_command _ _ 0 0 31 [some (.ref B), some (.int (zI (34))), none, none] [.int (zI (mMay s (s.1 47) 1))] h n
      refine pw_if_eq (tgt := 243) dX10_command_31 rfl (by omega) (fun c31 => ?_) (fun c31 => ?_)
      ·
        exact pw_vret dX10_command_243 rfl (nle rfl) (nle rfl) ⟨rfl, s, hA, hH, ⟨rfl, rfl, rfl⟩, mFr_rf, rfl⟩
      · exfalso; omega
  · exfalso; omega
set_option maxHeartbeats 1000000 in
set_option maxRecDepth 100000 in
/-- command(34) -/
theorem nK_34y {E : pw_E} (htr : E.1.stackTraces = false) {h : pz_H} {n : Nat} {B : Nat} {s : mS} (hA : mAt B s h)  {W H M : Int} {t : aT} (hW : 8 ≤ W ∧ W ≤ 40) (hHH : 4 ≤ H ∧ H ≤ 16) (hM : M ≤ 800000000) (hH : rH W H M t s) {v : aT} {nc f g p q : Nat} (ef : s.1 47 = (p : Int)) (hmy : mMay s (s.1 47) 1 = 1) (hv : aIn v 8 t) (hp : tp v = some p) (hnc : ∀ b, b ∈ aX fc 8 t → b < nc) (hFr : frN s f g) (hfm : f ∉ aX fm 8 t) (hgm : g ∉ aX fm 8 t) (eq : mLs (s.2 16) 8 0 = (q : Int)) : pw_M E yX10_command YX10_command (rmD 4 0 0) [.ref B, .int (zI (34))] h n (fun r0 h' n' => r0 = none ∧ rD W H M (aRep (tc v) (aDv nc f g (1 : Int) (((if (1 : Int) = 0 then tw v else th v) - 1) / 2) v p q) 8 t) B (s.1 0) q (s.1 48) h h' n n') (fun _ _ _ => False) := by
  obtain ⟨hG, hI, ⟨⟨v1, v2⟩, ⟨v47, m47⟩, v48, v49, v53, v54, v55, v56, v57⟩, hM0, h45⟩ := id hH
  have hu := rI_us hI
  have hpm := m47
  obtain ⟨p8, hpk, m_, e17, nd, ew, eh⟩ := rI_leaf hG hI hpm
  obtain ⟨kw, kh, kr, kc, ksr, ksc, kt, ko, kwa, kin, kwr, khi, krd, knu, kgi, kas, kfr, kra, kco, kof, kip⟩ := id hpk
  obtain ⟨nd0, nd1, nd2⟩ := id nd
  have h17 : 0 ≤ s.2 17 (s.1 47).toNat ∧ s.2 17 (s.1 47).toNat < 16 := by rw [e17]; omega
  refine pw_M_of (lv := [some (.ref B), some (.int (zI (34))), none, none]) (by decide) rfl rfl htr (nle rfl) rfl (fun L => ?_)
  refine pw_iload_n dX10_command_0 rfl ?_
  refine pw_bipush (v := zI (34)) dX10_command_1 (by decide) ?_
  refine pw_icmp_eq (tgt := 12) dX10_command_3 rfl (by omega) (by omega) (fun c3 => ?_) (fun c3 => ?_)
  ·
    refine pw_aload_n dX10_command_12 rfl ?_
    refine pw_aload_n dX10_command_13 rfl ?_
    refine pw_get (v := .int (zI (s.1 47))) okX10 (k := 47) (by decide) lkX10_207 hA.1 rfl dX10_command_14 ?_
    refine pw_iload_n dX10_command_17 rfl ?_
    refine pw_bipush (v := zI (34)) dX10_command_18 (by decide) ?_
    refine pw_icmp_ne (tgt := 27) dX10_command_20 rfl (by omega) (by omega) (fun c20 => ?_) (fun c20 => ?_)
    · exfalso; omega
    ·
      refine pw_iconst (v := zI (1)) dX10_command_23 (by decide) ?_
      refine pw_goto (tgt := 28) dX10_command_24 rfl ?_
      refine pw_callV (As := [.int (zI (s.1 47)), .int (zI (1))]) (b := B) (rm := rmD 0 0 0) (nG_maySplit htr hA hu v47 (by omega) hpk) rfl hA.1 rfl rfl ywX10_maySplit rfl cwX10_217 ⟨nle rfl, nle rfl⟩ (nle rfl) ⟨nle rfl, nle rfl⟩ dX10_command_28 ?_ (fun _ _ _ z => z.elim)
      intro r_9 h_9 n_9 hq _
      rw [hq.1, hq.2.1, hq.2.2]
      show pw E YX10_command _ _ 0 0 31 [some (.ref B), some (.int (zI (34))), none, none] [.int (zI (mMay s (s.1 47) 1))] h n
      refine pw_if_eq (tgt := 243) dX10_command_31 rfl (by omega) (fun c31 => ?_) (fun c31 => ?_)
      · exfalso; omega
      ·
        refine pw_aload_n dX10_command_34 rfl ?_
        refine pw_aload_n dX10_command_35 rfl ?_
        refine pw_get (v := .int (zI (s.1 47))) okX10 (k := 47) (by decide) lkX10_207 hA.1 rfl dX10_command_36 ?_
        refine pw_iload_n dX10_command_39 rfl ?_
        refine pw_bipush (v := zI (34)) dX10_command_40 (by decide) ?_
        refine pw_icmp_ne (tgt := 49) dX10_command_42 rfl (by omega) (by omega) (fun c42 => ?_) (fun c42 => ?_)
        · exfalso; omega
        ·
          refine pw_iconst (v := zI (1)) dX10_command_45 (by decide) ?_
          refine pw_goto (tgt := 50) dX10_command_46 rfl ?_
          rw [ef]
          refine pw_callV (As := [.int (zI ((p : Int))), .int (zI (1))]) (b := B) (rm := rmD 3 0 0) (nG_splitNow (q := q) (nc := nc) (dn := 1) htr hA hW hHH hH hv hp (by decide) (by rw [← ef]; exact hmy) hnc hFr hfm hgm eq) rfl hA.1 rfl rfl ywX10_splitNow rfl cwX10_221 ⟨nle rfl, nle rfl⟩ (nle rfl) ⟨nle rfl, nle rfl⟩ dX10_command_50 ?_ (fun _ _ _ z => z.elim)
          intro r_9 h9 n_9 hq9 _
          obtain ⟨e1_, s9, hA9, hH9, hv9, hF90, e4_⟩ := hq9
          rw [e1_, e4_]
          show pw E YX10_command _ _ 0 0 53 [some (.ref B), some (.int (zI (34))), none, none] [.int (zI ((q : Int)))] h9 n
          clear e1_ e4_
          have hF9 := mFr_tr mFr_rf hF90
          refine pw_pop dX10_command_53 rfl ?_
          refine pw_goto (tgt := 243) dX10_command_54 rfl ?_
          exact pw_vret dX10_command_243 rfl (nle rfl) (nle rfl) ⟨rfl, s9, hA9, hH9, hv9, hF9, rfl⟩
  · exfalso; omega
set_option maxHeartbeats 1000000 in
set_option maxRecDepth 100000 in
/-- command(37), refused -/
theorem nK_37n {E : pw_E} (htr : E.1.stackTraces = false) {h : pz_H} {n : Nat} {B : Nat} {s : mS} (hA : mAt B s h)  {W H M : Int} {t : aT} (hW : 8 ≤ W ∧ W ≤ 40) (hHH : 4 ≤ H ∧ H ≤ 16) (hM : M ≤ 800000000) (hH : rH W H M t s) (hmy : mMay s (s.1 47) 0 = 0) : pw_M E yX10_command YX10_command (rmD 4 0 0) [.ref B, .int (zI (37))] h n (fun r0 h' n' => r0 = none ∧ rD W H M t B (s.1 0) (s.1 47) (s.1 48) h h' n n') (fun _ _ _ => False) := by
  obtain ⟨hG, hI, ⟨⟨v1, v2⟩, ⟨v47, m47⟩, v48, v49, v53, v54, v55, v56, v57⟩, hM0, h45⟩ := id hH
  have hu := rI_us hI
  have hpm := m47
  obtain ⟨p8, hpk, m, e17, nd, ew, eh⟩ := rI_leaf hG hI hpm
  obtain ⟨kw, kh, kr, kc, ksr, ksc, kt, ko, kwa, kin, kwr, khi, krd, knu, kgi, kas, kfr, kra, kco, kof, kip⟩ := id hpk
  obtain ⟨nd0, nd1, nd2⟩ := id nd
  have h17 : 0 ≤ s.2 17 (s.1 47).toNat ∧ s.2 17 (s.1 47).toNat < 16 := by rw [e17]; omega
  refine pw_M_of (lv := [some (.ref B), some (.int (zI (37))), none, none]) (by decide) rfl rfl htr (nle rfl) rfl (fun L => ?_)
  refine pw_iload_n dX10_command_0 rfl ?_
  refine pw_bipush (v := zI (34)) dX10_command_1 (by decide) ?_
  refine pw_icmp_eq (tgt := 12) dX10_command_3 rfl (by omega) (by omega) (fun c3 => ?_) (fun c3 => ?_)
  · exfalso; omega
  ·
    refine pw_iload_n dX10_command_6 rfl ?_
    refine pw_bipush (v := zI (37)) dX10_command_7 (by decide) ?_
    refine pw_icmp_ne (tgt := 57) dX10_command_9 rfl (by omega) (by omega) (fun c9 => ?_) (fun c9 => ?_)
    · exfalso; omega
    ·
      refine pw_aload_n dX10_command_12 rfl ?_
      refine pw_aload_n dX10_command_13 rfl ?_
      refine pw_get (v := .int (zI (s.1 47))) okX10 (k := 47) (by decide) lkX10_207 hA.1 rfl dX10_command_14 ?_
      refine pw_iload_n dX10_command_17 rfl ?_
      refine pw_bipush (v := zI (34)) dX10_command_18 (by decide) ?_
      refine pw_icmp_ne (tgt := 27) dX10_command_20 rfl (by omega) (by omega) (fun c20 => ?_) (fun c20 => ?_)
      ·
        refine pw_iconst (v := zI (0)) dX10_command_27 (by decide) ?_
        refine pw_callV (As := [.int (zI (s.1 47)), .int (zI (0))]) (b := B) (rm := rmD 0 0 0) (nG_maySplit htr hA hu v47 (by omega) hpk) rfl hA.1 rfl rfl ywX10_maySplit rfl cwX10_217 ⟨nle rfl, nle rfl⟩ (nle rfl) ⟨nle rfl, nle rfl⟩ dX10_command_28 ?_ (fun _ _ _ z => z.elim)
        intro r_9 h_9 n_9 hq _
        rw [hq.1, hq.2.1, hq.2.2]
        show pw E YX10_command _ _ 0 0 31 [some (.ref B), some (.int (zI (37))), none, none] [.int (zI (mMay s (s.1 47) 0))] h n
        refine pw_if_eq (tgt := 243) dX10_command_31 rfl (by omega) (fun c31 => ?_) (fun c31 => ?_)
        ·
          exact pw_vret dX10_command_243 rfl (nle rfl) (nle rfl) ⟨rfl, s, hA, hH, ⟨rfl, rfl, rfl⟩, mFr_rf, rfl⟩
        · exfalso; omega
      · exfalso; omega
set_option maxHeartbeats 1000000 in
set_option maxRecDepth 100000 in
/-- command(37) -/
theorem nK_37y {E : pw_E} (htr : E.1.stackTraces = false) {h : pz_H} {n : Nat} {B : Nat} {s : mS} (hA : mAt B s h)  {W H M : Int} {t : aT} (hW : 8 ≤ W ∧ W ≤ 40) (hHH : 4 ≤ H ∧ H ≤ 16) (hM : M ≤ 800000000) (hH : rH W H M t s) {v : aT} {nc f g p q : Nat} (ef : s.1 47 = (p : Int)) (hmy : mMay s (s.1 47) 0 = 1) (hv : aIn v 8 t) (hp : tp v = some p) (hnc : ∀ b, b ∈ aX fc 8 t → b < nc) (hFr : frN s f g) (hfm : f ∉ aX fm 8 t) (hgm : g ∉ aX fm 8 t) (eq : mLs (s.2 16) 8 0 = (q : Int)) : pw_M E yX10_command YX10_command (rmD 4 0 0) [.ref B, .int (zI (37))] h n (fun r0 h' n' => r0 = none ∧ rD W H M (aRep (tc v) (aDv nc f g (0 : Int) (((if (0 : Int) = 0 then tw v else th v) - 1) / 2) v p q) 8 t) B (s.1 0) q (s.1 48) h h' n n') (fun _ _ _ => False) := by
  obtain ⟨hG, hI, ⟨⟨v1, v2⟩, ⟨v47, m47⟩, v48, v49, v53, v54, v55, v56, v57⟩, hM0, h45⟩ := id hH
  have hu := rI_us hI
  have hpm := m47
  obtain ⟨p8, hpk, m_, e17, nd, ew, eh⟩ := rI_leaf hG hI hpm
  obtain ⟨kw, kh, kr, kc, ksr, ksc, kt, ko, kwa, kin, kwr, khi, krd, knu, kgi, kas, kfr, kra, kco, kof, kip⟩ := id hpk
  obtain ⟨nd0, nd1, nd2⟩ := id nd
  have h17 : 0 ≤ s.2 17 (s.1 47).toNat ∧ s.2 17 (s.1 47).toNat < 16 := by rw [e17]; omega
  refine pw_M_of (lv := [some (.ref B), some (.int (zI (37))), none, none]) (by decide) rfl rfl htr (nle rfl) rfl (fun L => ?_)
  refine pw_iload_n dX10_command_0 rfl ?_
  refine pw_bipush (v := zI (34)) dX10_command_1 (by decide) ?_
  refine pw_icmp_eq (tgt := 12) dX10_command_3 rfl (by omega) (by omega) (fun c3 => ?_) (fun c3 => ?_)
  · exfalso; omega
  ·
    refine pw_iload_n dX10_command_6 rfl ?_
    refine pw_bipush (v := zI (37)) dX10_command_7 (by decide) ?_
    refine pw_icmp_ne (tgt := 57) dX10_command_9 rfl (by omega) (by omega) (fun c9 => ?_) (fun c9 => ?_)
    · exfalso; omega
    ·
      refine pw_aload_n dX10_command_12 rfl ?_
      refine pw_aload_n dX10_command_13 rfl ?_
      refine pw_get (v := .int (zI (s.1 47))) okX10 (k := 47) (by decide) lkX10_207 hA.1 rfl dX10_command_14 ?_
      refine pw_iload_n dX10_command_17 rfl ?_
      refine pw_bipush (v := zI (34)) dX10_command_18 (by decide) ?_
      refine pw_icmp_ne (tgt := 27) dX10_command_20 rfl (by omega) (by omega) (fun c20 => ?_) (fun c20 => ?_)
      ·
        refine pw_iconst (v := zI (0)) dX10_command_27 (by decide) ?_
        refine pw_callV (As := [.int (zI (s.1 47)), .int (zI (0))]) (b := B) (rm := rmD 0 0 0) (nG_maySplit htr hA hu v47 (by omega) hpk) rfl hA.1 rfl rfl ywX10_maySplit rfl cwX10_217 ⟨nle rfl, nle rfl⟩ (nle rfl) ⟨nle rfl, nle rfl⟩ dX10_command_28 ?_ (fun _ _ _ z => z.elim)
        intro r_9 h_9 n_9 hq _
        rw [hq.1, hq.2.1, hq.2.2]
        show pw E YX10_command _ _ 0 0 31 [some (.ref B), some (.int (zI (37))), none, none] [.int (zI (mMay s (s.1 47) 0))] h n
        refine pw_if_eq (tgt := 243) dX10_command_31 rfl (by omega) (fun c31 => ?_) (fun c31 => ?_)
        · exfalso; omega
        ·
          refine pw_aload_n dX10_command_34 rfl ?_
          refine pw_aload_n dX10_command_35 rfl ?_
          refine pw_get (v := .int (zI (s.1 47))) okX10 (k := 47) (by decide) lkX10_207 hA.1 rfl dX10_command_36 ?_
          refine pw_iload_n dX10_command_39 rfl ?_
          refine pw_bipush (v := zI (34)) dX10_command_40 (by decide) ?_
          refine pw_icmp_ne (tgt := 49) dX10_command_42 rfl (by omega) (by omega) (fun c42 => ?_) (fun c42 => ?_)
          ·
            refine pw_iconst (v := zI (0)) dX10_command_49 (by decide) ?_
            rw [ef]
            refine pw_callV (As := [.int (zI ((p : Int))), .int (zI (0))]) (b := B) (rm := rmD 3 0 0) (nG_splitNow (q := q) (nc := nc) (dn := 0) htr hA hW hHH hH hv hp (by decide) (by rw [← ef]; exact hmy) hnc hFr hfm hgm eq) rfl hA.1 rfl rfl ywX10_splitNow rfl cwX10_221 ⟨nle rfl, nle rfl⟩ (nle rfl) ⟨nle rfl, nle rfl⟩ dX10_command_50 ?_ (fun _ _ _ z => z.elim)
            intro r_9 h9 n_9 hq9 _
            obtain ⟨e1_, s9, hA9, hH9, hv9, hF90, e4_⟩ := hq9
            rw [e1_, e4_]
            show pw E YX10_command _ _ 0 0 53 [some (.ref B), some (.int (zI (37))), none, none] [.int (zI ((q : Int)))] h9 n
            clear e1_ e4_
            have hF9 := mFr_tr mFr_rf hF90
            refine pw_pop dX10_command_53 rfl ?_
            refine pw_goto (tgt := 243) dX10_command_54 rfl ?_
            exact pw_vret dX10_command_243 rfl (nle rfl) (nle rfl) ⟨rfl, s9, hA9, hH9, hv9, hF9, rfl⟩
          · exfalso; omega
      · exfalso; omega
set_option maxHeartbeats 1000000 in
set_option maxRecDepth 100000 in
theorem lG_next {E : pw_E} (htr : E.1.stackTraces = false) {Kk : pw_K} {h : pz_H} {n : Nat} {B : Nat} {s : mS} (hA : mAt B s h) (hu : mUs s) (v47 : 0 ≤ s.1 47 ∧ s.1 47 < 8) : ∀ (d : Nat) (c : Int), pw E YX10_command (rmD 4 0 0) Kk 0 0 112 [some (.ref B), some (.int (zI (111))), some (.int (zI (mNx (s.2 16) (s.1 47) d c))), some (.int (zI ((0 : Nat) : Int)))] [] h n → d ≤ 8 → pw E YX10_command (rmD 4 0 0) Kk 0 0 71 [some (.ref B), some (.int (zI (111))), some (.int (zI c)), some (.int (zI ((d : Nat) : Int)))] [] h n := by
  intro d
  induction d with
  | zero =>
    intro c kk hd
    refine pw_iload_n dX10_command_71 rfl ?_
    refine pw_if_le (tgt := 112) dX10_command_72 rfl (by omega) (fun c72 => ?_) (fun c72 => ?_)
    ·
      exact kk
    · exfalso; omega
  | succ d ih =>
    intro c kk hd
    replace ih := fun c kk => ih c kk (by omega)
    refine pw_iload_n dX10_command_71 rfl ?_
    refine pw_if_le (tgt := 112) dX10_command_72 rfl (by omega) (fun c72 => ?_) (fun c72 => ?_)
    · exfalso; omega
    ·
      refine pw_aload_n dX10_command_75 rfl ?_
      refine pw_get (v := .ref (B + 13)) okX10 (k := 16) (by decide) lkX10_47 hA.1 rfl dX10_command_76 ?_
      refine pw_aload_n dX10_command_79 rfl ?_
      refine pw_get (v := .int (zI (s.1 47))) okX10 (k := 47) (by decide) lkX10_207 hA.1 rfl dX10_command_80 ?_
      refine pw_iload_n dX10_command_83 rfl ?_
      refine pw_ziadd dX10_command_84 ?_
      refine pw_bipush (v := zI (8)) dX10_command_85 (by decide) ?_
      refine pw_zirem dX10_command_87 (by omega) (by omega) ?_
      have hub := hu ((s.1 47 + ((d + 1 : Nat) : Int)) % 8).toNat (by omega)
      refine pw_zald (g := (s.2 16)) (t := 1) rfl (mF16 (s := s) hA) (by omega) (by decide) dX10_command_88 ?_
      refine pw_if_eq (tgt := 104) dX10_command_89 rfl (by omega) (fun c89 => ?_) (fun c89 => ?_)
      ·
        refine pw_iload_n dX10_command_104 rfl ?_
        refine pw_istore_n (lv' := [some (.ref B), some (.int (zI (111))), some (.int (zI (c))), some (.int (zI (((d + 1 : Nat) : Int))))]) dX10_command_105 (by decide) rfl rfl ?_
        refine pw_ziinc (lv' := [some (.ref B), some (.int (zI (111))), some (.int (zI (c))), some (.int (zI (((d + 1 : Nat) : Int) + (-1))))]) dX10_command_106 rfl (by decide) rfl rfl ?_
        refine pw_goto (tgt := 71) dX10_command_109 rfl ?_
        rw [show ((d + 1 : Nat) : Int) + (-1) = ((d : Nat) : Int) by omega]
        exact ih (c) (by rw [show mNx (s.2 16) (s.1 47) (d + 1) c = mNx (s.2 16) (s.1 47) d (if s.2 16 ((s.1 47 + ((d + 1 : Nat) : Int)) % 8).toNat = 0 then c else (s.1 47 + ((d + 1 : Nat) : Int)) % 8) from rfl] at kk; first | (rw [if_pos (by omega)] at kk; exact kk) | (rw [if_neg (by omega)] at kk; exact kk))
      ·
        refine pw_aload_n dX10_command_92 rfl ?_
        refine pw_get (v := .int (zI (s.1 47))) okX10 (k := 47) (by decide) lkX10_207 hA.1 rfl dX10_command_93 ?_
        refine pw_iload_n dX10_command_96 rfl ?_
        refine pw_ziadd dX10_command_97 ?_
        refine pw_bipush (v := zI (8)) dX10_command_98 (by decide) ?_
        refine pw_zirem dX10_command_100 (by omega) (by omega) ?_
        refine pw_goto (tgt := 105) dX10_command_101 rfl ?_
        refine pw_istore_n (lv' := [some (.ref B), some (.int (zI (111))), some (.int (zI (((s.1 47) + (((d + 1 : Nat) : Int))) % (8)))), some (.int (zI (((d + 1 : Nat) : Int))))]) dX10_command_105 (by decide) rfl rfl ?_
        refine pw_ziinc (lv' := [some (.ref B), some (.int (zI (111))), some (.int (zI (((s.1 47) + (((d + 1 : Nat) : Int))) % (8)))), some (.int (zI (((d + 1 : Nat) : Int) + (-1))))]) dX10_command_106 rfl (by decide) rfl rfl ?_
        refine pw_goto (tgt := 71) dX10_command_109 rfl ?_
        rw [show ((d + 1 : Nat) : Int) + (-1) = ((d : Nat) : Int) by omega]
        exact ih (((s.1 47) + (((d + 1 : Nat) : Int))) % (8)) (by rw [show mNx (s.2 16) (s.1 47) (d + 1) c = mNx (s.2 16) (s.1 47) d (if s.2 16 ((s.1 47 + ((d + 1 : Nat) : Int)) % 8).toNat = 0 then c else (s.1 47 + ((d + 1 : Nat) : Int)) % 8) from rfl] at kk; first | (rw [if_pos (by omega)] at kk; exact kk) | (rw [if_neg (by omega)] at kk; exact kk))
set_option maxHeartbeats 1000000 in
set_option maxRecDepth 100000 in
/-- command(111) -/
theorem nK_111 {E : pw_E} (htr : E.1.stackTraces = false) {h : pz_H} {n : Nat} {B : Nat} {s : mS} (hA : mAt B s h)  {W H M : Int} {t : aT} (hW : 8 ≤ W ∧ W ≤ 40) (hHH : 4 ≤ H ∧ H ≤ 16) (hM : M ≤ 800000000) (hH : rH W H M t s) : pw_M E yX10_command YX10_command (rmD 4 0 0) [.ref B, .int (zI (111))] h n (fun r0 h' n' => r0 = none ∧ rD W H M t B (s.1 0) (mNx (s.2 16) (s.1 47) 8 (s.1 47)) (s.1 48) h h' n n') (fun _ _ _ => False) := by
  obtain ⟨hG, hI, ⟨⟨v1, v2⟩, ⟨v47, m47⟩, v48, v49, v53, v54, v55, v56, v57⟩, hM0, h45⟩ := id hH
  have hu := rI_us hI
  have hnx : pIn t (mNx (s.2 16) (s.1 47) 8 (s.1 47)) := mNx_in (fun i hi hne => (rI_used hI hi).mp (by have := hu i hi; omega)) 8 _ ⟨v47, m47⟩
  refine pw_M_of (lv := [some (.ref B), some (.int (zI (111))), none, none]) (by decide) rfl rfl htr (nle rfl) rfl (fun L => ?_)
  refine pw_iload_n dX10_command_0 rfl ?_
  refine pw_bipush (v := zI (34)) dX10_command_1 (by decide) ?_
  refine pw_icmp_eq (tgt := 12) dX10_command_3 rfl (by omega) (by omega) (fun c3 => ?_) (fun c3 => ?_)
  · exfalso; omega
  ·
    refine pw_iload_n dX10_command_6 rfl ?_
    refine pw_bipush (v := zI (37)) dX10_command_7 (by decide) ?_
    refine pw_icmp_ne (tgt := 57) dX10_command_9 rfl (by omega) (by omega) (fun c9 => ?_) (fun c9 => ?_)
    ·
      refine pw_iload_n dX10_command_57 rfl ?_
      refine pw_bipush (v := zI (111)) dX10_command_58 (by decide) ?_
      refine pw_icmp_ne (tgt := 120) dX10_command_60 rfl (by omega) (by omega) (fun c60 => ?_) (fun c60 => ?_)
      · exfalso; omega
      ·
        refine pw_aload_n dX10_command_63 rfl ?_
        refine pw_get (v := .int (zI (s.1 47))) okX10 (k := 47) (by decide) lkX10_207 hA.1 rfl dX10_command_64 ?_
        refine pw_istore_n (lv' := [some (.ref B), some (.int (zI (111))), some (.int (zI (s.1 47))), none]) dX10_command_67 (by decide) rfl rfl ?_
        refine pw_bipush (v := zI (8)) dX10_command_68 (by decide) ?_
        refine pw_istore_n (lv' := [some (.ref B), some (.int (zI (111))), some (.int (zI (s.1 47))), some (.int (zI (8)))]) dX10_command_70 (by decide) rfl rfl ?_
        refine lG_next (d := 8) htr hA hu v47 (s.1 47) ?_ (by omega)
        refine pw_aload_n dX10_command_112 rfl ?_
        refine pw_iload_n dX10_command_113 rfl ?_
        refine pw_put (fs' := (moL B (va_up s.1 47 (mNx (s.2 16) (s.1 47) 8 (s.1 47))))) okX10 (k := 47) (by decide) lkX10_207 rfl rfl rfl hA.1 (nlt rfl) rfl dX10_command_114 ?_
        have hA1 : mAt B (mV 47 (mNx (s.2 16) (s.1 47) 8 (s.1 47)) s) (va_up h B (pz_o 13 (moL B (va_up s.1 47 (mNx (s.2 16) (s.1 47) 8 (s.1 47)))))) := mAt_V hA
        have hF1 : mFr B h (va_up h B (pz_o 13 (moL B (va_up s.1 47 (mNx (s.2 16) (s.1 47) 8 (s.1 47)))))) := mFr_tr mFr_rf (mFr_up (k := 0) (by decide))
        revert hA1 hF1
        generalize (va_up h B (pz_o 13 (moL B (va_up s.1 47 (mNx (s.2 16) (s.1 47) 8 (s.1 47)))))) = h1
        intro hA1 hF1
        refine pw_goto (tgt := 243) dX10_command_117 rfl ?_
        exact pw_vret dX10_command_243 rfl (nle rfl) (nle rfl) ⟨rfl, (mV 47 (mNx (s.2 16) (s.1 47) 8 (s.1 47)) s), hA1, rH_47 hH hnx, ⟨rfl, rfl, rfl⟩, hF1, rfl⟩
    · exfalso; omega
set_option maxHeartbeats 1000000 in
set_option maxRecDepth 100000 in
/-- command(120), the last pane -/
theorem nK_120n {E : pw_E} (htr : E.1.stackTraces = false) {h : pz_H} {n : Nat} {B : Nat} {s : mS} (hA : mAt B s h)  {W H M : Int} {t : aT} (hW : 8 ≤ W ∧ W ≤ 40) (hHH : 4 ≤ H ∧ H ≤ 16) (hM : M ≤ 800000000) (hH : rH W H M t s) (hone : ¬ tp t = none) : pw_M E yX10_command YX10_command (rmD 4 0 0) [.ref B, .int (zI (120))] h n (fun r0 h' n' => r0 = none ∧ rD W H M t B (s.1 0) (s.1 47) (s.1 48) h h' n n') (fun _ _ _ => False) := by
  obtain ⟨hG, hI, ⟨⟨v1, v2⟩, ⟨v47, m47⟩, v48, v49, v53, v54, v55, v56, v57⟩, hM0, h45⟩ := id hH
  have hu := rI_us hI
  have hct := rI_ct hG hI
  have hcs := mCt_s hu
  have u0 := hu 0 (by decide)
  have u1 := hu 1 (by decide)
  have u2 := hu 2 (by decide)
  have u3 := hu 3 (by decide)
  have u4 := hu 4 (by decide)
  have u5 := hu 5 (by decide)
  have u6 := hu 6 (by decide)
  have u7 := hu 7 (by decide)
  have hc2 : ¬ 1 < mCt (s.2 16) 8 0 0 := fun z => hone (hct.mp z)
  refine pw_M_of (lv := [some (.ref B), some (.int (zI (120))), none, none]) (by decide) rfl rfl htr (nle rfl) rfl (fun L => ?_)
  refine pw_iload_n dX10_command_0 rfl ?_
  refine pw_bipush (v := zI (34)) dX10_command_1 (by decide) ?_
  refine pw_icmp_eq (tgt := 12) dX10_command_3 rfl (by omega) (by omega) (fun c3 => ?_) (fun c3 => ?_)
  · exfalso; omega
  ·
    refine pw_iload_n dX10_command_6 rfl ?_
    refine pw_bipush (v := zI (37)) dX10_command_7 (by decide) ?_
    refine pw_icmp_ne (tgt := 57) dX10_command_9 rfl (by omega) (by omega) (fun c9 => ?_) (fun c9 => ?_)
    ·
      refine pw_iload_n dX10_command_57 rfl ?_
      refine pw_bipush (v := zI (111)) dX10_command_58 (by decide) ?_
      refine pw_icmp_ne (tgt := 120) dX10_command_60 rfl (by omega) (by omega) (fun c60 => ?_) (fun c60 => ?_)
      ·
        refine pw_iload_n dX10_command_120 rfl ?_
        refine pw_bipush (v := zI (120)) dX10_command_121 (by decide) ?_
        refine pw_icmp_ne (tgt := 145) dX10_command_123 rfl (by omega) (by omega) (fun c123 => ?_) (fun c123 => ?_)
        · exfalso; omega
        ·
          refine pw_aload_n dX10_command_126 rfl ?_
          refine pw_callV (As := []) (b := B) (rm := rmD 0 0 0) (nR_panes htr hA hu) rfl hA.1 rfl rfl ywX10_panes rfl cwX10_225 ⟨nle rfl, nle rfl⟩ (nle rfl) ⟨nle rfl, nle rfl⟩ dX10_command_127 ?_ (fun _ _ _ z => z.elim)
          intro r_9 h_9 n_9 hq _
          rw [hq.1, hq.2.1, hq.2.2]
          show pw E YX10_command _ _ 0 0 130 [some (.ref B), some (.int (zI (120))), none, none] [.int (zI (mCt (s.2 16) 8 0 0))] h n
          refine pw_iconst (v := zI (1)) dX10_command_130 (by decide) ?_
          refine pw_icmp_le (tgt := 243) dX10_command_131 rfl (by omega) (by omega) (fun c131 => ?_) (fun c131 => ?_)
          ·
            exact pw_vret dX10_command_243 rfl (nle rfl) (nle rfl) ⟨rfl, s, hA, hH, ⟨rfl, rfl, rfl⟩, mFr_rf, rfl⟩
          · exfalso; omega
      · exfalso; omega
    · exfalso; omega
set_option maxHeartbeats 1000000 in
set_option maxRecDepth 100000 in
/-- command(120) -/
theorem nK_120y {E : pw_E} (htr : E.1.stackTraces = false) {h : pz_H} {n : Nat} {B : Nat} {s : mS} (hA : mAt B s h)  {W H M : Int} {t : aT} (hW : 8 ≤ W ∧ W ≤ 40) (hHH : 4 ≤ H ∧ H ≤ 16) (hM : M ≤ 800000000) (hH : rH W H M t s) {u v z : aT} {p r : Nat} (hu2 : aIn u 8 t) (e : tp u = none) (hs : aSib u v z) (hp : tp v = some p) (hr8 : r < 8) (hr0 : ∀ i, i < r → va_up (s.2 16) p 0 i = 0) (hr1 : va_up (s.2 16) p 0 r = 1) (ef : s.1 47 = (p : Int)) : pw_M E yX10_command YX10_command (rmD 4 0 0) [.ref B, .int (zI (120))] h n (fun r0 h' n' => r0 = none ∧ rD W H M (aRep (tc u) (aUpT 8 u z) 8 t) B (s.1 0) (r : Int) (s.1 48) h h' n n') (fun _ _ _ => False) := by
  obtain ⟨hG, hI, ⟨⟨v1, v2⟩, ⟨v47, m47⟩, v48, v49, v53, v54, v55, v56, v57⟩, hM0, h45⟩ := id hH
  have hu := rI_us hI
  have hvv : aIn v 8 t := by
    obtain ⟨il, ir⟩ := aIn_lr 8 t W H hG.1 hu2 e
    rcases hs with ⟨h2, -⟩ | ⟨h2, -⟩
    · exact h2 ▸ il
    · exact h2 ▸ ir
  have p8 : p < 8 := hG.2.2.2.2 p (aIn_p hG.1 hvv hp)
  have hpin : pIn t (p : Int) := ⟨by omega, by rw [Int.toNat_natCast]; exact aIn_p hG.1 hvv hp⟩
  have hn1 := (rI_no hI).mpr hpin
  have htn : tp t = none := by
    cases e2 : tp t with
    | none => rfl
    | some p2 =>
      have en : ¬ tp t = none := by rw [e2]; exact fun y => by cases y
      rcases hu2 with y | ⟨y, -⟩
      · rw [y] at e; exact absurd e en
      · exact absurd y en
  have hct := rI_ct hG hI
  have hcs := mCt_s hu
  have u0 := hu 0 (by decide)
  have u1 := hu 1 (by decide)
  have u2 := hu 2 (by decide)
  have u3 := hu 3 (by decide)
  have u4 := hu 4 (by decide)
  have u5 := hu 5 (by decide)
  have u6 := hu 6 (by decide)
  have u7 := hu 7 (by decide)
  have hc2 := hct.mpr htn
  refine pw_M_of (lv := [some (.ref B), some (.int (zI (120))), none, none]) (by decide) rfl rfl htr (nle rfl) rfl (fun L => ?_)
  refine pw_iload_n dX10_command_0 rfl ?_
  refine pw_bipush (v := zI (34)) dX10_command_1 (by decide) ?_
  refine pw_icmp_eq (tgt := 12) dX10_command_3 rfl (by omega) (by omega) (fun c3 => ?_) (fun c3 => ?_)
  · exfalso; omega
  ·
    refine pw_iload_n dX10_command_6 rfl ?_
    refine pw_bipush (v := zI (37)) dX10_command_7 (by decide) ?_
    refine pw_icmp_ne (tgt := 57) dX10_command_9 rfl (by omega) (by omega) (fun c9 => ?_) (fun c9 => ?_)
    ·
      refine pw_iload_n dX10_command_57 rfl ?_
      refine pw_bipush (v := zI (111)) dX10_command_58 (by decide) ?_
      refine pw_icmp_ne (tgt := 120) dX10_command_60 rfl (by omega) (by omega) (fun c60 => ?_) (fun c60 => ?_)
      ·
        refine pw_iload_n dX10_command_120 rfl ?_
        refine pw_bipush (v := zI (120)) dX10_command_121 (by decide) ?_
        refine pw_icmp_ne (tgt := 145) dX10_command_123 rfl (by omega) (by omega) (fun c123 => ?_) (fun c123 => ?_)
        · exfalso; omega
        ·
          refine pw_aload_n dX10_command_126 rfl ?_
          refine pw_callV (As := []) (b := B) (rm := rmD 0 0 0) (nR_panes htr hA hu) rfl hA.1 rfl rfl ywX10_panes rfl cwX10_225 ⟨nle rfl, nle rfl⟩ (nle rfl) ⟨nle rfl, nle rfl⟩ dX10_command_127 ?_ (fun _ _ _ z => z.elim)
          intro r_9 h_9 n_9 hq _
          rw [hq.1, hq.2.1, hq.2.2]
          show pw E YX10_command _ _ 0 0 130 [some (.ref B), some (.int (zI (120))), none, none] [.int (zI (mCt (s.2 16) 8 0 0))] h n
          refine pw_iconst (v := zI (1)) dX10_command_130 (by decide) ?_
          refine pw_icmp_le (tgt := 243) dX10_command_131 rfl (by omega) (by omega) (fun c131 => ?_) (fun c131 => ?_)
          · exfalso; omega
          ·
            refine pw_aload_n dX10_command_134 rfl ?_
            refine pw_aload_n dX10_command_135 rfl ?_
            refine pw_get (v := .int (zI (s.1 47))) okX10 (k := 47) (by decide) lkX10_207 hA.1 rfl dX10_command_136 ?_
            rw [ef]
            refine pw_callV (As := [.int (zI ((p : Int)))]) (b := B) (rm := rmD 3 0 0) (nG_closeNow (r := r) htr hA hW hHH (hH) hu2 e hs hp hr8 hr0 hr1) rfl hA.1 rfl rfl ywX10_closeNow rfl cwX10_228 ⟨nle rfl, nle rfl⟩ (nle rfl) ⟨nle rfl, nle rfl⟩ dX10_command_139 ?_ (fun _ _ _ z => z.elim)
            intro r_9 h9 n_9 hq9 _
            obtain ⟨e1_, s9, hA9, hH9, hv9, hF90, e4_⟩ := hq9
            rw [e1_, e4_]
            show pw E YX10_command _ _ 0 0 142 [some (.ref B), some (.int (zI (120))), none, none] [] h9 n
            clear e1_ e4_
            have hF9 := mFr_tr mFr_rf hF90
            refine pw_goto (tgt := 243) dX10_command_142 rfl ?_
            exact pw_vret dX10_command_243 rfl (nle rfl) (nle rfl) ⟨rfl, s9, hA9, hH9, ⟨hv9.1, hv9.2.1.trans (if_pos ef), hv9.2.2⟩, hF9, rfl⟩
      · exfalso; omega
    · exfalso; omega
set_option maxHeartbeats 1000000 in
set_option maxRecDepth 100000 in
/-- command(91) -/
theorem nK_91 {E : pw_E} (htr : E.1.stackTraces = false) {h : pz_H} {n : Nat} {B : Nat} {s : mS} (hA : mAt B s h)  {W H M : Int} {t : aT} (hW : 8 ≤ W ∧ W ≤ 40) (hHH : 4 ≤ H ∧ H ≤ 16) (hM : M ≤ 800000000) (hH : rH W H M t s) : pw_M E yX10_command YX10_command (rmD 4 0 0) [.ref B, .int (zI (91))] h n (fun r0 h' n' => r0 = none ∧ rD W H M t B (s.1 0) (s.1 47) (s.1 48) h h' n n') (fun _ _ _ => False) := by
  obtain ⟨hG, hI, ⟨⟨v1, v2⟩, ⟨v47, m47⟩, v48, v49, v53, v54, v55, v56, v57⟩, hM0, h45⟩ := id hH
  have hu := rI_us hI
  have hpm := m47
  obtain ⟨p8, hpk, m, e17, nd, ew, eh⟩ := rI_leaf hG hI hpm
  obtain ⟨kw, kh, kr, kc, ksr, ksc, kt, ko, kwa, kin, kwr, khi, krd, knu, kgi, kas, kfr, kra, kco, kof, kip⟩ := id hpk
  obtain ⟨nd0, nd1, nd2⟩ := id nd
  have h17 : 0 ≤ s.2 17 (s.1 47).toNat ∧ s.2 17 (s.1 47).toNat < 16 := by rw [e17]; omega
  refine pw_M_of (lv := [some (.ref B), some (.int (zI (91))), none, none]) (by decide) rfl rfl htr (nle rfl) rfl (fun L => ?_)
  refine pw_iload_n dX10_command_0 rfl ?_
  refine pw_bipush (v := zI (34)) dX10_command_1 (by decide) ?_
  refine pw_icmp_eq (tgt := 12) dX10_command_3 rfl (by omega) (by omega) (fun c3 => ?_) (fun c3 => ?_)
  · exfalso; omega
  ·
    refine pw_iload_n dX10_command_6 rfl ?_
    refine pw_bipush (v := zI (37)) dX10_command_7 (by decide) ?_
    refine pw_icmp_ne (tgt := 57) dX10_command_9 rfl (by omega) (by omega) (fun c9 => ?_) (fun c9 => ?_)
    ·
      refine pw_iload_n dX10_command_57 rfl ?_
      refine pw_bipush (v := zI (111)) dX10_command_58 (by decide) ?_
      refine pw_icmp_ne (tgt := 120) dX10_command_60 rfl (by omega) (by omega) (fun c60 => ?_) (fun c60 => ?_)
      ·
        refine pw_iload_n dX10_command_120 rfl ?_
        refine pw_bipush (v := zI (120)) dX10_command_121 (by decide) ?_
        refine pw_icmp_ne (tgt := 145) dX10_command_123 rfl (by omega) (by omega) (fun c123 => ?_) (fun c123 => ?_)
        ·
          refine pw_iload_n dX10_command_145 rfl ?_
          refine pw_bipush (v := zI (91)) dX10_command_146 (by decide) ?_
          refine pw_icmp_ne (tgt := 190) dX10_command_148 rfl (by omega) (by omega) (fun c148 => ?_) (fun c148 => ?_)
          · exfalso; omega
          ·
            refine pw_aload_n dX10_command_151 rfl ?_
            refine pw_get (v := .ref (B + 40)) okX10 (k := 43) (by decide) lkX10_128 hA.1 rfl dX10_command_152 ?_
            refine pw_aload_n dX10_command_155 rfl ?_
            refine pw_get (v := .int (zI (s.1 47))) okX10 (k := 47) (by decide) lkX10_207 hA.1 rfl dX10_command_156 ?_
            refine pw_aload_n dX10_command_159 rfl ?_
            refine pw_get (v := .ref (B + 40)) okX10 (k := 43) (by decide) lkX10_128 hA.1 rfl dX10_command_160 ?_
            refine pw_aload_n dX10_command_163 rfl ?_
            refine pw_get (v := .int (zI (s.1 47))) okX10 (k := 47) (by decide) lkX10_207 hA.1 rfl dX10_command_164 ?_
            refine pw_zald (g := (s.2 43)) (t := 1) rfl (mF43 (s := s) hA) (by omega) (by decide) dX10_command_167 ?_
            refine pw_if_ne (tgt := 175) dX10_command_168 rfl (by omega) (fun c168 => ?_) (fun c168 => ?_)
            ·
              refine pw_iconst (v := zI (0)) dX10_command_175 (by decide) ?_
              refine pw_zast (g := (s.2 43)) (t := 1) rfl (mF43 (s := s) hA) (by omega) (by decide) (by omega) dX10_command_176 ?_
              have hA1 : mAt B (mA 43 (va_up (s.2 43) (s.1 47).toNat (0)) s) (va_up h (B + 40) (pz_z 1 8 (va_up (s.2 43) (s.1 47).toNat (0)))) := mU43 hA
              have hF1 : mFr B h (va_up h (B + 40) (pz_z 1 8 (va_up (s.2 43) (s.1 47).toNat (0)))) := mFr_tr mFr_rf (mFr_up (by decide))
              revert hA1 hF1
              generalize (va_up h (B + 40) (pz_z 1 8 (va_up (s.2 43) (s.1 47).toNat (0)))) = h1
              intro hA1 hF1
              refine pw_aload_n dX10_command_177 rfl ?_
              refine pw_get (v := .ref (B + 41)) okX10 (k := 44) (by decide) lkX10_131 hA1.1 rfl dX10_command_178 ?_
              refine pw_aload_n dX10_command_181 rfl ?_
              refine pw_get (v := .int (zI (s.1 47))) okX10 (k := 47) (by decide) lkX10_207 hA1.1 rfl dX10_command_182 ?_
              refine pw_iconst (v := zI (0)) dX10_command_185 (by decide) ?_
              refine pw_iast (g := (s.2 44)) (t := 0) rfl (mF44 (s := (mA 43 (va_up (s.2 43) (s.1 47).toNat (0)) s)) hA1) (by omega) (by decide) dX10_command_186 ?_
              have hA2 : mAt B (mA 44 (va_up (s.2 44) (s.1 47).toNat (0)) (mA 43 (va_up (s.2 43) (s.1 47).toNat (0)) s)) (va_up h1 (B + 41) (pz_z 0 8 (va_up (s.2 44) (s.1 47).toNat (0)))) := mU44 hA1
              have hF2 : mFr B h (va_up h1 (B + 41) (pz_z 0 8 (va_up (s.2 44) (s.1 47).toNat (0)))) := mFr_tr hF1 (mFr_up (by decide))
              revert hA2 hF2
              generalize (va_up h1 (B + 41) (pz_z 0 8 (va_up (s.2 44) (s.1 47).toNat (0)))) = h2
              intro hA2 hF2
              refine pw_goto (tgt := 243) dX10_command_187 rfl ?_
              exact pw_vret dX10_command_243 rfl (nle rfl) (nle rfl) ⟨rfl, (mA 44 (va_up (s.2 44) (s.1 47).toNat (0)) (mA 43 (va_up (s.2 43) (s.1 47).toNat (0)) s)), hA2, rH_c (M' := M) (p := (s.1 47).toNat) hH rfl (fun k hk => (mA_ne (by omega)).trans (mA_ne (by omega))) (fun i hi => ⟨va_up_ne _ _ hi, va_up_ne _ _ hi, rfl⟩) (by show 0 ≤ va_up (s.2 43) (s.1 47).toNat (0) (s.1 47).toNat ∧ va_up (s.2 43) (s.1 47).toNat (0) (s.1 47).toNat ≤ 1; rw [va_up_self]; omega) (by show 0 ≤ va_up (s.2 44) (s.1 47).toNat (0) (s.1 47).toNat ∧ va_up (s.2 44) (s.1 47).toNat (0) (s.1 47).toNat ≤ 30; rw [va_up_self]; omega) ⟨kip.1, h45 _ (by omega)⟩ (Int.le_refl M) (by omega), ⟨rfl, rfl, rfl⟩, hF2, rfl⟩
            ·
              refine pw_iconst (v := zI (1)) dX10_command_171 (by decide) ?_
              refine pw_goto (tgt := 176) dX10_command_172 rfl ?_
              refine pw_zast (g := (s.2 43)) (t := 1) rfl (mF43 (s := s) hA) (by omega) (by decide) (by omega) dX10_command_176 ?_
              have hA3 : mAt B (mA 43 (va_up (s.2 43) (s.1 47).toNat (1)) s) (va_up h (B + 40) (pz_z 1 8 (va_up (s.2 43) (s.1 47).toNat (1)))) := mU43 hA
              have hF3 : mFr B h (va_up h (B + 40) (pz_z 1 8 (va_up (s.2 43) (s.1 47).toNat (1)))) := mFr_tr mFr_rf (mFr_up (by decide))
              revert hA3 hF3
              generalize (va_up h (B + 40) (pz_z 1 8 (va_up (s.2 43) (s.1 47).toNat (1)))) = h3
              intro hA3 hF3
              refine pw_aload_n dX10_command_177 rfl ?_
              refine pw_get (v := .ref (B + 41)) okX10 (k := 44) (by decide) lkX10_131 hA3.1 rfl dX10_command_178 ?_
              refine pw_aload_n dX10_command_181 rfl ?_
              refine pw_get (v := .int (zI (s.1 47))) okX10 (k := 47) (by decide) lkX10_207 hA3.1 rfl dX10_command_182 ?_
              refine pw_iconst (v := zI (0)) dX10_command_185 (by decide) ?_
              refine pw_iast (g := (s.2 44)) (t := 0) rfl (mF44 (s := (mA 43 (va_up (s.2 43) (s.1 47).toNat (1)) s)) hA3) (by omega) (by decide) dX10_command_186 ?_
              have hA4 : mAt B (mA 44 (va_up (s.2 44) (s.1 47).toNat (0)) (mA 43 (va_up (s.2 43) (s.1 47).toNat (1)) s)) (va_up h3 (B + 41) (pz_z 0 8 (va_up (s.2 44) (s.1 47).toNat (0)))) := mU44 hA3
              have hF4 : mFr B h (va_up h3 (B + 41) (pz_z 0 8 (va_up (s.2 44) (s.1 47).toNat (0)))) := mFr_tr hF3 (mFr_up (by decide))
              revert hA4 hF4
              generalize (va_up h3 (B + 41) (pz_z 0 8 (va_up (s.2 44) (s.1 47).toNat (0)))) = h4
              intro hA4 hF4
              refine pw_goto (tgt := 243) dX10_command_187 rfl ?_
              exact pw_vret dX10_command_243 rfl (nle rfl) (nle rfl) ⟨rfl, (mA 44 (va_up (s.2 44) (s.1 47).toNat (0)) (mA 43 (va_up (s.2 43) (s.1 47).toNat (1)) s)), hA4, rH_c (M' := M) (p := (s.1 47).toNat) hH rfl (fun k hk => (mA_ne (by omega)).trans (mA_ne (by omega))) (fun i hi => ⟨va_up_ne _ _ hi, va_up_ne _ _ hi, rfl⟩) (by show 0 ≤ va_up (s.2 43) (s.1 47).toNat (1) (s.1 47).toNat ∧ va_up (s.2 43) (s.1 47).toNat (1) (s.1 47).toNat ≤ 1; rw [va_up_self]; omega) (by show 0 ≤ va_up (s.2 44) (s.1 47).toNat (0) (s.1 47).toNat ∧ va_up (s.2 44) (s.1 47).toNat (0) (s.1 47).toNat ≤ 30; rw [va_up_self]; omega) ⟨kip.1, h45 _ (by omega)⟩ (Int.le_refl M) (by omega), ⟨rfl, rfl, rfl⟩, hF4, rfl⟩
        · exfalso; omega
      · exfalso; omega
    · exfalso; omega
set_option maxHeartbeats 1000000 in
set_option maxRecDepth 100000 in
theorem lG_paste {E : pw_E} (htr : E.1.stackTraces = false) {Kk : pw_K} {h : pz_H} {n B : Nat} {s : mS} {q3 : Option Value} (v47 : 0 ≤ s.1 47 ∧ s.1 47 < 8) (v49 : 0 ≤ s.1 49 ∧ s.1 49 ≤ 400) (w45 : 0 ≤ s.2 45 (s.1 47).toNat ∧ s.2 45 (s.1 47).toNat ≤ 800000000) : ∀ (j : Nat) (i : Int) (s1 : mS) (h1 : pz_H), (s.1 49 - i).toNat = j → 0 ≤ i → i ≤ s.1 49 → mAt B s1 h1 → mCi (s.1 47).toNat i s s1 → mFr B h h1 → (∀ (i : Int) (s2 : mS) (h2 : pz_H), (0 ≤ i ∧ i ≤ 400) → mAt B s2 h2 → mCi (s.1 47).toNat i s s2 → mFr B h h2 → Kk.2.2.1 none h2 n) → pw E YX10_command (rmD 4 0 0) Kk 0 0 198 [some (.ref B), some (.int (zI (93))), some (.int (zI i)), q3] [] h1 n := by
  intro j
  induction j with
  | zero =>
    intro i s1 h1 hj i1 i2 hA hC hF hQ
    have e49 : s1.1 49 = s.1 49 := congrFun hC.1 49
    have e47b : s1.1 47 = s.1 47 := congrFun hC.1 47
    refine pw_iload_n dX10_command_198 rfl ?_
    refine pw_aload_n dX10_command_199 rfl ?_
    refine pw_get (v := .int (zI (s1.1 49))) okX10 (k := 49) (by decide) lkX10_308 hA.1 rfl dX10_command_200 ?_
    refine pw_icmp_ge (tgt := 226) dX10_command_203 rfl (by omega) (by omega) (fun c203 => ?_) (fun c203 => ?_)
    ·
      refine pw_goto (tgt := 243) dX10_command_226 rfl ?_
      exact pw_vret dX10_command_243 rfl (nle rfl) (nle rfl) (hQ i s1 h1 (by omega) hA hC hF)
    · exfalso; omega
  | succ j ih =>
    intro i s1 h1 hj i1 i2 hA hC hF hQ
    have e49 : s1.1 49 = s.1 49 := congrFun hC.1 49
    have e47b : s1.1 47 = s.1 47 := congrFun hC.1 47
    refine pw_iload_n dX10_command_198 rfl ?_
    refine pw_aload_n dX10_command_199 rfl ?_
    refine pw_get (v := .int (zI (s1.1 49))) okX10 (k := 49) (by decide) lkX10_308 hA.1 rfl dX10_command_200 ?_
    refine pw_icmp_ge (tgt := 226) dX10_command_203 rfl (by omega) (by omega) (fun c203 => ?_) (fun c203 => ?_)
    · exfalso; omega
    ·
      refine pw_aload_n dX10_command_206 rfl ?_
      refine pw_aload_n dX10_command_207 rfl ?_
      refine pw_get (v := .int (zI (s1.1 47))) okX10 (k := 47) (by decide) lkX10_207 hA.1 rfl dX10_command_208 ?_
      refine pw_aload_n dX10_command_211 rfl ?_
      refine pw_get (v := .ref (B + 44)) okX10 (k := 50) (by decide) lkX10_140 hA.1 rfl dX10_command_212 ?_
      refine pw_iload_n dX10_command_215 rfl ?_
      refine pw_iald (g := (s1.2 50)) (t := 0) rfl (mF50 (s := s1) hA) (by omega) (by decide) dX10_command_216 ?_
      have hw45 : 0 ≤ s1.2 45 (s1.1 47).toNat ∧ s1.2 45 (s1.1 47).toNat ≤ 900000000 := by rw [congrFun hC.1 47, hC.2.2.2]; omega
      have e47 : s1.1 47 = s.1 47 := congrFun hC.1 47
      refine pw_callV (As := [.int (zI (s1.1 47)), .int (zI ((s1.2 50) (i).toNat))]) (b := B) (rm := rmD 0 0 0) (nR_comesIn htr hA (by omega) hw45) rfl hA.1 rfl rfl ywX10_comesIn rfl cwX10_311 ⟨nle rfl, nle rfl⟩ (nle rfl) ⟨nle rfl, nle rfl⟩ dX10_command_217 ?_ (fun _ _ _ z => z.elim)
      intro r_9 h2 n_9 hq9 _
      obtain ⟨e1_, hA2, hF20, e4_⟩ := hq9
      rw [e1_, e4_]
      show pw E YX10_command _ _ 0 0 220 [some (.ref B), some (.int (zI (93))), some (.int (zI (i))), q3] [] h2 n
      clear e1_ e4_
      have hF2 := mFr_tr hF hF20
      rw [e47] at hA2
      have hC2 := mCi_1 (fo := s.1 47) (b := (s1.2 50) (i).toNat) hC
      revert hA2 hC2
      generalize (mA 45 (va_up (s1.2 45) (s.1 47).toNat (s1.2 45 (s.1 47).toNat + 1)) (mA 46 (va_up (s1.2 46) (64 * (s.1 47) + s1.2 45 (s.1 47).toNat % 64).toNat ((s1.2 50) (i).toNat)) s1)) = s2
      intro hA2 hC2
      refine pw_ziinc (lv' := [some (.ref B), some (.int (zI (93))), some (.int (zI (i + 1))), q3]) dX10_command_220 rfl (by decide) rfl rfl ?_
      refine pw_goto (tgt := 198) dX10_command_223 rfl ?_
      exact ih (i + 1) s2 h2 (by omega) (by omega) (by omega) hA2 hC2 hF2 hQ
set_option maxHeartbeats 1000000 in
set_option maxRecDepth 100000 in
/-- command(93) -/
theorem nK_93 {E : pw_E} (htr : E.1.stackTraces = false) {h : pz_H} {n : Nat} {B : Nat} {s : mS} (hA : mAt B s h)  {W H M : Int} {t : aT} (hW : 8 ≤ W ∧ W ≤ 40) (hHH : 4 ≤ H ∧ H ≤ 16) (hM : M ≤ 800000000) (hH : rH W H M t s) : pw_M E yX10_command YX10_command (rmD 4 0 0) [.ref B, .int (zI (93))] h n (fun r0 h' n' => r0 = none ∧ rD W H (M + 400) t B (s.1 0) (s.1 47) (s.1 48) h h' n n') (fun _ _ _ => False) := by
  obtain ⟨hG, hI, ⟨⟨v1, v2⟩, ⟨v47, m47⟩, v48, v49, v53, v54, v55, v56, v57⟩, hM0, h45⟩ := id hH
  have hu := rI_us hI
  have hpm := m47
  obtain ⟨p8, hpk, m, e17, nd, ew, eh⟩ := rI_leaf hG hI hpm
  obtain ⟨kw, kh, kr, kc, ksr, ksc, kt, ko, kwa, kin, kwr, khi, krd, knu, kgi, kas, kfr, kra, kco, kof, kip⟩ := id hpk
  obtain ⟨nd0, nd1, nd2⟩ := id nd
  have h17 : 0 ≤ s.2 17 (s.1 47).toNat ∧ s.2 17 (s.1 47).toNat < 16 := by rw [e17]; omega
  have hw45 : 0 ≤ s.2 45 (s.1 47).toNat ∧ s.2 45 (s.1 47).toNat ≤ 800000000 := ⟨kip.1, by have := h45 (s.1 47).toNat (by omega); omega⟩
  refine pw_M_of (lv := [some (.ref B), some (.int (zI (93))), none, none]) (by decide) rfl rfl htr (nle rfl) rfl (fun L => ?_)
  refine pw_iload_n dX10_command_0 rfl ?_
  refine pw_bipush (v := zI (34)) dX10_command_1 (by decide) ?_
  refine pw_icmp_eq (tgt := 12) dX10_command_3 rfl (by omega) (by omega) (fun c3 => ?_) (fun c3 => ?_)
  · exfalso; omega
  ·
    refine pw_iload_n dX10_command_6 rfl ?_
    refine pw_bipush (v := zI (37)) dX10_command_7 (by decide) ?_
    refine pw_icmp_ne (tgt := 57) dX10_command_9 rfl (by omega) (by omega) (fun c9 => ?_) (fun c9 => ?_)
    ·
      refine pw_iload_n dX10_command_57 rfl ?_
      refine pw_bipush (v := zI (111)) dX10_command_58 (by decide) ?_
      refine pw_icmp_ne (tgt := 120) dX10_command_60 rfl (by omega) (by omega) (fun c60 => ?_) (fun c60 => ?_)
      ·
        refine pw_iload_n dX10_command_120 rfl ?_
        refine pw_bipush (v := zI (120)) dX10_command_121 (by decide) ?_
        refine pw_icmp_ne (tgt := 145) dX10_command_123 rfl (by omega) (by omega) (fun c123 => ?_) (fun c123 => ?_)
        ·
          refine pw_iload_n dX10_command_145 rfl ?_
          refine pw_bipush (v := zI (91)) dX10_command_146 (by decide) ?_
          refine pw_icmp_ne (tgt := 190) dX10_command_148 rfl (by omega) (by omega) (fun c148 => ?_) (fun c148 => ?_)
          ·
            refine pw_iload_n dX10_command_190 rfl ?_
            refine pw_bipush (v := zI (93)) dX10_command_191 (by decide) ?_
            refine pw_icmp_ne (tgt := 229) dX10_command_193 rfl (by omega) (by omega) (fun c193 => ?_) (fun c193 => ?_)
            · exfalso; omega
            ·
              refine pw_iconst (v := zI (0)) dX10_command_196 (by decide) ?_
              refine pw_istore_n (lv' := [some (.ref B), some (.int (zI (93))), some (.int (zI (0))), none]) dX10_command_197 (by decide) rfl rfl ?_
              exact lG_paste htr v47 v49 hw45 _ 0 s h rfl (by omega) v49.1 hA mCi_rf mFr_rf (fun i s2 h2 hi z1 z2 z3 => ⟨rfl, s2, z1, mCi_rH z2 hH m47 hi (by omega), ⟨congrFun z2.1 0, congrFun z2.1 47, congrFun z2.1 48⟩, z3, rfl⟩)
          · exfalso; omega
        · exfalso; omega
      · exfalso; omega
    · exfalso; omega
set_option maxHeartbeats 1000000 in
set_option maxRecDepth 100000 in
/-- command(2) -/
theorem nK_2 {E : pw_E} (htr : E.1.stackTraces = false) {h : pz_H} {n : Nat} {B : Nat} {s : mS} (hA : mAt B s h)  {W H M : Int} {t : aT} (hW : 8 ≤ W ∧ W ≤ 40) (hHH : 4 ≤ H ∧ H ≤ 16) (hM : M ≤ 800000000) (hH : rH W H M t s) : pw_M E yX10_command YX10_command (rmD 4 0 0) [.ref B, .int (zI (2))] h n (fun r0 h' n' => r0 = none ∧ rD W H (M + 400) t B (s.1 0) (s.1 47) (s.1 48) h h' n n') (fun _ _ _ => False) := by
  obtain ⟨hG, hI, ⟨⟨v1, v2⟩, ⟨v47, m47⟩, v48, v49, v53, v54, v55, v56, v57⟩, hM0, h45⟩ := id hH
  have hu := rI_us hI
  have hpm := m47
  obtain ⟨p8, hpk, m, e17, nd, ew, eh⟩ := rI_leaf hG hI hpm
  obtain ⟨kw, kh, kr, kc, ksr, ksc, kt, ko, kwa, kin, kwr, khi, krd, knu, kgi, kas, kfr, kra, kco, kof, kip⟩ := id hpk
  obtain ⟨nd0, nd1, nd2⟩ := id nd
  have h17 : 0 ≤ s.2 17 (s.1 47).toNat ∧ s.2 17 (s.1 47).toNat < 16 := by rw [e17]; omega
  have hw45 : 0 ≤ s.2 45 (s.1 47).toNat ∧ s.2 45 (s.1 47).toNat ≤ 800000000 := ⟨kip.1, by have := h45 (s.1 47).toNat (by omega); omega⟩
  refine pw_M_of (lv := [some (.ref B), some (.int (zI (2))), none, none]) (by decide) rfl rfl htr (nle rfl) rfl (fun L => ?_)
  refine pw_iload_n dX10_command_0 rfl ?_
  refine pw_bipush (v := zI (34)) dX10_command_1 (by decide) ?_
  refine pw_icmp_eq (tgt := 12) dX10_command_3 rfl (by omega) (by omega) (fun c3 => ?_) (fun c3 => ?_)
  · exfalso; omega
  ·
    refine pw_iload_n dX10_command_6 rfl ?_
    refine pw_bipush (v := zI (37)) dX10_command_7 (by decide) ?_
    refine pw_icmp_ne (tgt := 57) dX10_command_9 rfl (by omega) (by omega) (fun c9 => ?_) (fun c9 => ?_)
    ·
      refine pw_iload_n dX10_command_57 rfl ?_
      refine pw_bipush (v := zI (111)) dX10_command_58 (by decide) ?_
      refine pw_icmp_ne (tgt := 120) dX10_command_60 rfl (by omega) (by omega) (fun c60 => ?_) (fun c60 => ?_)
      ·
        refine pw_iload_n dX10_command_120 rfl ?_
        refine pw_bipush (v := zI (120)) dX10_command_121 (by decide) ?_
        refine pw_icmp_ne (tgt := 145) dX10_command_123 rfl (by omega) (by omega) (fun c123 => ?_) (fun c123 => ?_)
        ·
          refine pw_iload_n dX10_command_145 rfl ?_
          refine pw_bipush (v := zI (91)) dX10_command_146 (by decide) ?_
          refine pw_icmp_ne (tgt := 190) dX10_command_148 rfl (by omega) (by omega) (fun c148 => ?_) (fun c148 => ?_)
          ·
            refine pw_iload_n dX10_command_190 rfl ?_
            refine pw_bipush (v := zI (93)) dX10_command_191 (by decide) ?_
            refine pw_icmp_ne (tgt := 229) dX10_command_193 rfl (by omega) (by omega) (fun c193 => ?_) (fun c193 => ?_)
            ·
              refine pw_iload_n dX10_command_229 rfl ?_
              refine pw_iconst (v := zI (2)) dX10_command_230 (by decide) ?_
              refine pw_icmp_ne (tgt := 243) dX10_command_231 rfl (by omega) (by omega) (fun c231 => ?_) (fun c231 => ?_)
              · exfalso; omega
              ·
                refine pw_aload_n dX10_command_234 rfl ?_
                refine pw_aload_n dX10_command_235 rfl ?_
                refine pw_get (v := .int (zI (s.1 47))) okX10 (k := 47) (by decide) lkX10_207 hA.1 rfl dX10_command_236 ?_
                refine pw_iconst (v := zI (2)) dX10_command_239 (by decide) ?_
                have hw45 : 0 ≤ s.2 45 (s.1 47).toNat ∧ s.2 45 (s.1 47).toNat ≤ 900000000 := by rw [congrFun (mCi_rf (fo := (s.1 47).toNat) (s := s)).1 47, (mCi_rf (fo := (s.1 47).toNat) (s := s)).2.2.2]; omega
                have e47 : s.1 47 = s.1 47 := congrFun (mCi_rf (fo := (s.1 47).toNat) (s := s)).1 47
                refine pw_callV (As := [.int (zI (s.1 47)), .int (zI (2))]) (b := B) (rm := rmD 0 0 0) (nR_comesIn htr hA (by omega) hw45) rfl hA.1 rfl rfl ywX10_comesIn rfl cwX10_311 ⟨nle rfl, nle rfl⟩ (nle rfl) ⟨nle rfl, nle rfl⟩ dX10_command_240 ?_ (fun _ _ _ z => z.elim)
                intro r_9 h1 n_9 hq9 _
                obtain ⟨e1_, hA1, hF10, e4_⟩ := hq9
                rw [e1_, e4_]
                show pw E YX10_command _ _ 0 0 243 [some (.ref B), some (.int (zI (2))), none, none] [] h1 n
                clear e1_ e4_
                have hF1 := mFr_tr mFr_rf hF10
                rw [e47] at hA1
                have hC1 := mCi_1 (fo := s.1 47) (b := 2) (mCi_rf (fo := (s.1 47).toNat) (s := s))
                revert hA1 hC1
                generalize (mA 45 (va_up (s.2 45) (s.1 47).toNat (s.2 45 (s.1 47).toNat + 1)) (mA 46 (va_up (s.2 46) (64 * (s.1 47) + s.2 45 (s.1 47).toNat % 64).toNat (2)) s)) = s1
                intro hA1 hC1
                exact pw_vret dX10_command_243 rfl (nle rfl) (nle rfl) ⟨rfl, s1, hA1, mCi_rH hC1 hH m47 (by omega) (by omega), ⟨congrFun hC1.1 0, congrFun hC1.1 47, congrFun hC1.1 48⟩, hF1, rfl⟩
            · exfalso; omega
          · exfalso; omega
        · exfalso; omega
      · exfalso; omega
    · exfalso; omega
set_option maxHeartbeats 1000000 in
set_option maxRecDepth 100000 in
/-- command(k), any other -/
theorem nK_o {E : pw_E} (htr : E.1.stackTraces = false) {h : pz_H} {n : Nat} {B : Nat} {s : mS} (hA : mAt B s h) {k : Int}  {W H M : Int} {t : aT} (hW : 8 ≤ W ∧ W ≤ 40) (hHH : 4 ≤ H ∧ H ≤ 16) (hM : M ≤ 800000000) (hH : rH W H M t s) (h_k : -2147483648 ≤ k ∧ k < 2147483648) (hko : ¬ k = 34 ∧ ¬ k = 37 ∧ ¬ k = 111 ∧ ¬ k = 120 ∧ ¬ k = 91 ∧ ¬ k = 93 ∧ ¬ k = 2) : pw_M E yX10_command YX10_command (rmD 4 0 0) [.ref B, .int (zI (k))] h n (fun r0 h' n' => r0 = none ∧ rD W H M t B (s.1 0) (s.1 47) (s.1 48) h h' n n') (fun _ _ _ => False) := by
  obtain ⟨hG, hI, ⟨⟨v1, v2⟩, ⟨v47, m47⟩, v48, v49, v53, v54, v55, v56, v57⟩, hM0, h45⟩ := id hH
  have hu := rI_us hI
  refine pw_M_of (lv := [some (.ref B), some (.int (zI (k))), none, none]) (by decide) rfl rfl htr (nle rfl) rfl (fun L => ?_)
  refine pw_iload_n dX10_command_0 rfl ?_
  refine pw_bipush (v := zI (34)) dX10_command_1 (by decide) ?_
  refine pw_icmp_eq (tgt := 12) dX10_command_3 rfl (by omega) (by omega) (fun c3 => ?_) (fun c3 => ?_)
  · exfalso; omega
  ·
    refine pw_iload_n dX10_command_6 rfl ?_
    refine pw_bipush (v := zI (37)) dX10_command_7 (by decide) ?_
    refine pw_icmp_ne (tgt := 57) dX10_command_9 rfl (by omega) (by omega) (fun c9 => ?_) (fun c9 => ?_)
    ·
      refine pw_iload_n dX10_command_57 rfl ?_
      refine pw_bipush (v := zI (111)) dX10_command_58 (by decide) ?_
      refine pw_icmp_ne (tgt := 120) dX10_command_60 rfl (by omega) (by omega) (fun c60 => ?_) (fun c60 => ?_)
      ·
        refine pw_iload_n dX10_command_120 rfl ?_
        refine pw_bipush (v := zI (120)) dX10_command_121 (by decide) ?_
        refine pw_icmp_ne (tgt := 145) dX10_command_123 rfl (by omega) (by omega) (fun c123 => ?_) (fun c123 => ?_)
        ·
          refine pw_iload_n dX10_command_145 rfl ?_
          refine pw_bipush (v := zI (91)) dX10_command_146 (by decide) ?_
          refine pw_icmp_ne (tgt := 190) dX10_command_148 rfl (by omega) (by omega) (fun c148 => ?_) (fun c148 => ?_)
          ·
            refine pw_iload_n dX10_command_190 rfl ?_
            refine pw_bipush (v := zI (93)) dX10_command_191 (by decide) ?_
            refine pw_icmp_ne (tgt := 229) dX10_command_193 rfl (by omega) (by omega) (fun c193 => ?_) (fun c193 => ?_)
            ·
              refine pw_iload_n dX10_command_229 rfl ?_
              refine pw_iconst (v := zI (2)) dX10_command_230 (by decide) ?_
              refine pw_icmp_ne (tgt := 243) dX10_command_231 rfl (by omega) (by omega) (fun c231 => ?_) (fun c231 => ?_)
              ·
                exact pw_vret dX10_command_243 rfl (nle rfl) (nle rfl) ⟨rfl, s, hA, hH, ⟨rfl, rfl, rfl⟩, mFr_rf, rfl⟩
              · exfalso; omega
            · exfalso; omega
          · exfalso; omega
        · exfalso; omega
      · exfalso; omega
    · exfalso; omega
set_option maxHeartbeats 1000000 in
set_option maxRecDepth 100000 in
/-- key(k), no byte -/
theorem nJ_key1 {E : pw_E} (htr : E.1.stackTraces = false) {h : pz_H} {n : Nat} {B : Nat} {s : mS} (hA : mAt B s h) {k : Int}  {W H M : Int} {t : aT} (hW : 8 ≤ W ∧ W ≤ 40) (hHH : 4 ≤ H ∧ H ≤ 16) (hM : M ≤ 800000000) (hH : rH W H M t s) (h_k : -2147483648 ≤ k ∧ k < 2147483648) (hk : ¬ (0 ≤ k ∧ k ≤ 255)) : pw_M E yX10_key YX10_key (rmD 5 0 0) [.ref B, .int (zI (k))] h n (fun r0 h' n' => r0 = some (.int (zI 0)) ∧ rD W H M t B 1 (s.1 47) (s.1 48) h h' n n') (fun _ _ _ => False) := by
  obtain ⟨hG, hI, ⟨⟨v1, v2⟩, ⟨v47, m47⟩, v48, v49, v53, v54, v55, v56, v57⟩, hM0, h45⟩ := id hH
  have hu := rI_us hI
  refine pw_M_of (lv := [some (.ref B), some (.int (zI (k)))]) (by decide) rfl rfl htr (nle rfl) rfl (fun L => ?_)
  refine pw_aload_n dX10_key_0 rfl ?_
  refine pw_iload_n dX10_key_1 rfl ?_
  refine pw_if_lt (tgt := 12) dX10_key_2 rfl (by omega) (fun c2 => ?_) (fun c2 => ?_)
  ·
    refine pw_iconst (v := zI (1)) dX10_key_12 (by decide) ?_
    refine pw_goto (tgt := 17) dX10_key_13 rfl ?_
    refine pw_put (fs' := (moL B (va_up s.1 0 (1)))) okX10 (k := 0) (by decide) lkX10_173 rfl rfl rfl hA.1 (nlt rfl) rfl dX10_key_17 ?_
    have hA1 : mAt B (mV 0 (1) s) (va_up h B (pz_o 13 (moL B (va_up s.1 0 (1))))) := mAt_V hA
    have hF1 : mFr B h (va_up h B (pz_o 13 (moL B (va_up s.1 0 (1))))) := mFr_tr mFr_rf (mFr_up (k := 0) (by decide))
    revert hA1 hF1
    generalize (va_up h B (pz_o 13 (moL B (va_up s.1 0 (1))))) = h1
    intro hA1 hF1
    refine pw_aload_n dX10_key_20 rfl ?_
    refine pw_get (v := .int (zI (1))) okX10 (k := 0) (by decide) lkX10_173 hA1.1 rfl dX10_key_21 ?_
    refine pw_if_le (tgt := 29) dX10_key_24 rfl (by omega) (fun c24 => ?_) (fun c24 => ?_)
    · exfalso; omega
    ·
      refine pw_iconst (v := zI (0)) dX10_key_27 (by decide) ?_
      exact pw_iret dX10_key_28 rfl (nle rfl) (nle rfl) ⟨rfl, (mV 0 (1) s), hA1, rH_0 hH, ⟨rfl, rfl, rfl⟩, hF1, rfl⟩
  ·
    refine pw_iload_n dX10_key_5 rfl ?_
    refine pw_sipush (v := zI (255)) dX10_key_6 (by decide) ?_
    refine pw_icmp_le (tgt := 16) dX10_key_9 rfl (by omega) (by omega) (fun c9 => ?_) (fun c9 => ?_)
    ·
      refine pw_iconst (v := zI (0)) dX10_key_16 (by decide) ?_
      refine pw_put (fs' := (moL B (va_up s.1 0 (0)))) okX10 (k := 0) (by decide) lkX10_173 rfl rfl rfl hA.1 (nlt rfl) rfl dX10_key_17 ?_
      have hA2 : mAt B (mV 0 (0) s) (va_up h B (pz_o 13 (moL B (va_up s.1 0 (0))))) := mAt_V hA
      have hF2 : mFr B h (va_up h B (pz_o 13 (moL B (va_up s.1 0 (0))))) := mFr_tr mFr_rf (mFr_up (k := 0) (by decide))
      revert hA2 hF2
      generalize (va_up h B (pz_o 13 (moL B (va_up s.1 0 (0))))) = h2
      intro hA2 hF2
      refine pw_aload_n dX10_key_20 rfl ?_
      refine pw_get (v := .int (zI (0))) okX10 (k := 0) (by decide) lkX10_173 hA2.1 rfl dX10_key_21 ?_
      refine pw_if_le (tgt := 29) dX10_key_24 rfl (by omega) (fun c24 => ?_) (fun c24 => ?_)
      ·
        exfalso
        omega
      · exfalso; omega
    ·
      refine pw_iconst (v := zI (1)) dX10_key_12 (by decide) ?_
      refine pw_goto (tgt := 17) dX10_key_13 rfl ?_
      refine pw_put (fs' := (moL B (va_up s.1 0 (1)))) okX10 (k := 0) (by decide) lkX10_173 rfl rfl rfl hA.1 (nlt rfl) rfl dX10_key_17 ?_
      have hA3 : mAt B (mV 0 (1) s) (va_up h B (pz_o 13 (moL B (va_up s.1 0 (1))))) := mAt_V hA
      have hF3 : mFr B h (va_up h B (pz_o 13 (moL B (va_up s.1 0 (1))))) := mFr_tr mFr_rf (mFr_up (k := 0) (by decide))
      revert hA3 hF3
      generalize (va_up h B (pz_o 13 (moL B (va_up s.1 0 (1))))) = h3
      intro hA3 hF3
      refine pw_aload_n dX10_key_20 rfl ?_
      refine pw_get (v := .int (zI (1))) okX10 (k := 0) (by decide) lkX10_173 hA3.1 rfl dX10_key_21 ?_
      refine pw_if_le (tgt := 29) dX10_key_24 rfl (by omega) (fun c24 => ?_) (fun c24 => ?_)
      · exfalso; omega
      ·
        refine pw_iconst (v := zI (0)) dX10_key_27 (by decide) ?_
        exact pw_iret dX10_key_28 rfl (nle rfl) (nle rfl) ⟨rfl, (mV 0 (1) s), hA3, rH_0 hH, ⟨rfl, rfl, rfl⟩, hF3, rfl⟩
set_option maxHeartbeats 1000000 in
set_option maxRecDepth 100000 in
/-- key(k) behind the prefix -/
theorem nJ_key2 {E : pw_E} (htr : E.1.stackTraces = false) {h : pz_H} {n : Nat} {B : Nat} {s : mS} (hA : mAt B s h) {k : Int}  {W H M : Int} {t : aT} (hW : 8 ≤ W ∧ W ≤ 40) (hHH : 4 ≤ H ∧ H ≤ 16) (hM : M ≤ 800000000) (hH : rH W H M t s) (h_k : -2147483648 ≤ k ∧ k < 2147483648) (hk : 0 ≤ k ∧ k ≤ 255) (hpre : s.1 48 = 1) {t' : aT} {M' fo : Int} (hcmd : ∀ h1, mAt B (mV 48 (0) (mV 0 (0) s)) h1 → pw_M E yX10_command YX10_command (rmD 4 0 0) [.ref B, .int (zI (k))] h1 n (fun r0 h' n' => r0 = none ∧ rD W H M' t' B 0 fo 0 h1 h' n n') (fun _ _ _ => False)) : pw_M E yX10_key YX10_key (rmD 5 0 0) [.ref B, .int (zI (k))] h n (fun r0 h' n' => r0 = some (.int (zI fo)) ∧ rD W H M' t' B 0 fo 0 h h' n n') (fun _ _ _ => False) := by
  obtain ⟨hG, hI, ⟨⟨v1, v2⟩, ⟨v47, m47⟩, v48, v49, v53, v54, v55, v56, v57⟩, hM0, h45⟩ := id hH
  have hu := rI_us hI
  refine pw_M_of (lv := [some (.ref B), some (.int (zI (k)))]) (by decide) rfl rfl htr (nle rfl) rfl (fun L => ?_)
  refine pw_aload_n dX10_key_0 rfl ?_
  refine pw_iload_n dX10_key_1 rfl ?_
  refine pw_if_lt (tgt := 12) dX10_key_2 rfl (by omega) (fun c2 => ?_) (fun c2 => ?_)
  · exfalso; omega
  ·
    refine pw_iload_n dX10_key_5 rfl ?_
    refine pw_sipush (v := zI (255)) dX10_key_6 (by decide) ?_
    refine pw_icmp_le (tgt := 16) dX10_key_9 rfl (by omega) (by omega) (fun c9 => ?_) (fun c9 => ?_)
    ·
      refine pw_iconst (v := zI (0)) dX10_key_16 (by decide) ?_
      refine pw_put (fs' := (moL B (va_up s.1 0 (0)))) okX10 (k := 0) (by decide) lkX10_173 rfl rfl rfl hA.1 (nlt rfl) rfl dX10_key_17 ?_
      have hA1 : mAt B (mV 0 (0) s) (va_up h B (pz_o 13 (moL B (va_up s.1 0 (0))))) := mAt_V hA
      have hF1 : mFr B h (va_up h B (pz_o 13 (moL B (va_up s.1 0 (0))))) := mFr_tr mFr_rf (mFr_up (k := 0) (by decide))
      revert hA1 hF1
      generalize (va_up h B (pz_o 13 (moL B (va_up s.1 0 (0))))) = h1
      intro hA1 hF1
      refine pw_aload_n dX10_key_20 rfl ?_
      refine pw_get (v := .int (zI (0))) okX10 (k := 0) (by decide) lkX10_173 hA1.1 rfl dX10_key_21 ?_
      refine pw_if_le (tgt := 29) dX10_key_24 rfl (by omega) (fun c24 => ?_) (fun c24 => ?_)
      ·
        refine pw_aload_n dX10_key_29 rfl ?_
        refine pw_get (v := .int (zI (s.1 48))) okX10 (k := 48) (by decide) lkX10_314 hA1.1 rfl dX10_key_30 ?_
        refine pw_if_eq (tgt := 49) dX10_key_33 rfl (by omega) (fun c33 => ?_) (fun c33 => ?_)
        · exfalso; omega
        ·
          refine pw_aload_n dX10_key_36 rfl ?_
          refine pw_iconst (v := zI (0)) dX10_key_37 (by decide) ?_
          refine pw_put (fs' := (moL B (va_up (mV 0 (0) s).1 48 (0)))) okX10 (k := 48) (by decide) lkX10_314 rfl (by decide) (by decide) hA1.1 (nlt rfl) rfl dX10_key_38 ?_
          have hA2 : mAt B (mV 48 (0) (mV 0 (0) s)) (va_up h1 B (pz_o 13 (moL B (va_up (mV 0 (0) s).1 48 (0))))) := mAt_V hA1
          have hF2 : mFr B h (va_up h1 B (pz_o 13 (moL B (va_up (mV 0 (0) s).1 48 (0))))) := mFr_tr hF1 (mFr_up (k := 0) (by decide))
          revert hA2 hF2
          generalize (va_up h1 B (pz_o 13 (moL B (va_up (mV 0 (0) s).1 48 (0))))) = h2
          intro hA2 hF2
          refine pw_aload_n dX10_key_41 rfl ?_
          refine pw_iload_n dX10_key_42 rfl ?_
          refine pw_callV (As := [.int (zI (k))]) (b := B) (rm := rmD 4 0 0) (hcmd h2 hA2) rfl hA2.1 rfl rfl ywX10_command rfl cwX10_317 ⟨nle rfl, nle rfl⟩ (nle rfl) ⟨nle rfl, nle rfl⟩ dX10_key_43 ?_ (fun _ _ _ z => z.elim)
          intro r_9 h9 n_9 hq9 _
          obtain ⟨e1_, s9, hA9, hH9, hv9, hF90, e4_⟩ := hq9
          rw [e1_, e4_]
          show pw E YX10_key _ _ 0 0 46 [some (.ref B), some (.int (zI (k)))] [] h9 n
          clear e1_ e4_
          have hF9 := mFr_tr hF2 hF90
          refine pw_goto (tgt := 146) dX10_key_46 rfl ?_
          refine pw_aload_n dX10_key_146 rfl ?_
          refine pw_get (v := .int (zI (s9.1 47))) okX10 (k := 47) (by decide) lkX10_207 hA9.1 rfl dX10_key_147 ?_
          exact pw_iret dX10_key_150 rfl (nle rfl) (nle rfl) ⟨by rw [hv9.2.1], s9, hA9, hH9, hv9, hF9, rfl⟩
      · exfalso; omega
    · exfalso; omega
set_option maxHeartbeats 1000000 in
set_option maxRecDepth 100000 in
/-- key(2) -/
theorem nJ_key3 {E : pw_E} (htr : E.1.stackTraces = false) {h : pz_H} {n : Nat} {B : Nat} {s : mS} (hA : mAt B s h)  {W H M : Int} {t : aT} (hW : 8 ≤ W ∧ W ≤ 40) (hHH : 4 ≤ H ∧ H ≤ 16) (hM : M ≤ 800000000) (hH : rH W H M t s) (hpre : s.1 48 = 0) : pw_M E yX10_key YX10_key (rmD 5 0 0) [.ref B, .int (zI (2))] h n (fun r0 h' n' => r0 = some (.int (zI (s.1 47))) ∧ rD W H M t B 0 (s.1 47) 1 h h' n n') (fun _ _ _ => False) := by
  obtain ⟨hG, hI, ⟨⟨v1, v2⟩, ⟨v47, m47⟩, v48, v49, v53, v54, v55, v56, v57⟩, hM0, h45⟩ := id hH
  have hu := rI_us hI
  refine pw_M_of (lv := [some (.ref B), some (.int (zI (2)))]) (by decide) rfl rfl htr (nle rfl) rfl (fun L => ?_)
  refine pw_aload_n dX10_key_0 rfl ?_
  refine pw_iload_n dX10_key_1 rfl ?_
  refine pw_if_lt (tgt := 12) dX10_key_2 rfl (by omega) (fun c2 => ?_) (fun c2 => ?_)
  · exfalso; omega
  ·
    refine pw_iload_n dX10_key_5 rfl ?_
    refine pw_sipush (v := zI (255)) dX10_key_6 (by decide) ?_
    refine pw_icmp_le (tgt := 16) dX10_key_9 rfl (by omega) (by omega) (fun c9 => ?_) (fun c9 => ?_)
    ·
      refine pw_iconst (v := zI (0)) dX10_key_16 (by decide) ?_
      refine pw_put (fs' := (moL B (va_up s.1 0 (0)))) okX10 (k := 0) (by decide) lkX10_173 rfl rfl rfl hA.1 (nlt rfl) rfl dX10_key_17 ?_
      have hA1 : mAt B (mV 0 (0) s) (va_up h B (pz_o 13 (moL B (va_up s.1 0 (0))))) := mAt_V hA
      have hF1 : mFr B h (va_up h B (pz_o 13 (moL B (va_up s.1 0 (0))))) := mFr_tr mFr_rf (mFr_up (k := 0) (by decide))
      revert hA1 hF1
      generalize (va_up h B (pz_o 13 (moL B (va_up s.1 0 (0))))) = h1
      intro hA1 hF1
      refine pw_aload_n dX10_key_20 rfl ?_
      refine pw_get (v := .int (zI (0))) okX10 (k := 0) (by decide) lkX10_173 hA1.1 rfl dX10_key_21 ?_
      refine pw_if_le (tgt := 29) dX10_key_24 rfl (by omega) (fun c24 => ?_) (fun c24 => ?_)
      ·
        refine pw_aload_n dX10_key_29 rfl ?_
        refine pw_get (v := .int (zI (s.1 48))) okX10 (k := 48) (by decide) lkX10_314 hA1.1 rfl dX10_key_30 ?_
        refine pw_if_eq (tgt := 49) dX10_key_33 rfl (by omega) (fun c33 => ?_) (fun c33 => ?_)
        ·
          refine pw_iload_n dX10_key_49 rfl ?_
          refine pw_iconst (v := zI (2)) dX10_key_50 (by decide) ?_
          refine pw_icmp_ne (tgt := 62) dX10_key_51 rfl (by omega) (by omega) (fun c51 => ?_) (fun c51 => ?_)
          · exfalso; omega
          ·
            refine pw_aload_n dX10_key_54 rfl ?_
            refine pw_iconst (v := zI (1)) dX10_key_55 (by decide) ?_
            refine pw_put (fs' := (moL B (va_up (mV 0 (0) s).1 48 (1)))) okX10 (k := 48) (by decide) lkX10_314 rfl (by decide) (by decide) hA1.1 (nlt rfl) rfl dX10_key_56 ?_
            have hA2 : mAt B (mV 48 (1) (mV 0 (0) s)) (va_up h1 B (pz_o 13 (moL B (va_up (mV 0 (0) s).1 48 (1))))) := mAt_V hA1
            have hF2 : mFr B h (va_up h1 B (pz_o 13 (moL B (va_up (mV 0 (0) s).1 48 (1))))) := mFr_tr hF1 (mFr_up (k := 0) (by decide))
            revert hA2 hF2
            generalize (va_up h1 B (pz_o 13 (moL B (va_up (mV 0 (0) s).1 48 (1))))) = h2
            intro hA2 hF2
            refine pw_goto (tgt := 146) dX10_key_59 rfl ?_
            refine pw_aload_n dX10_key_146 rfl ?_
            refine pw_get (v := .int (zI (s.1 47))) okX10 (k := 47) (by decide) lkX10_207 hA2.1 rfl dX10_key_147 ?_
            exact pw_iret dX10_key_150 rfl (nle rfl) (nle rfl) ⟨rfl, (mV 48 (1) (mV 0 (0) s)), hA2, rH_48 (rH_0 hH) (by omega), ⟨rfl, rfl, rfl⟩, hF2, rfl⟩
        · exfalso; omega
      · exfalso; omega
    · exfalso; omega
set_option maxHeartbeats 1000000 in
set_option maxRecDepth 100000 in
/-- key(k), any other -/
theorem nJ_key4 {E : pw_E} (htr : E.1.stackTraces = false) {h : pz_H} {n : Nat} {B : Nat} {s : mS} (hA : mAt B s h) {k : Int}  {W H M : Int} {t : aT} (hW : 8 ≤ W ∧ W ≤ 40) (hHH : 4 ≤ H ∧ H ≤ 16) (hM : M ≤ 800000000) (hH : rH W H M t s) (h_k : -2147483648 ≤ k ∧ k < 2147483648) (hk : 0 ≤ k ∧ k ≤ 255) (hk2 : ¬ k = 2) (hpre : s.1 48 = 0) : pw_M E yX10_key YX10_key (rmD 5 0 0) [.ref B, .int (zI (k))] h n (fun r0 h' n' => r0 = some (.int (zI (s.1 47))) ∧ rD W H (M + 400) t B 0 (s.1 47) 0 h h' n n') (fun _ _ _ => False) := by
  obtain ⟨hG, hI, ⟨⟨v1, v2⟩, ⟨v47, m47⟩, v48, v49, v53, v54, v55, v56, v57⟩, hM0, h45⟩ := id hH
  have hu := rI_us hI
  have hpm := m47
  obtain ⟨p8, hpk, m, e17, nd, ew, eh⟩ := rI_leaf hG hI hpm
  obtain ⟨kw, kh, kr, kc, ksr, ksc, kt, ko, kwa, kin, kwr, khi, krd, knu, kgi, kas, kfr, kra, kco, kof, kip⟩ := id hpk
  obtain ⟨nd0, nd1, nd2⟩ := id nd
  have h17 : 0 ≤ s.2 17 (s.1 47).toNat ∧ s.2 17 (s.1 47).toNat < 16 := by rw [e17]; omega
  have hw45 : 0 ≤ s.2 45 (s.1 47).toNat ∧ s.2 45 (s.1 47).toNat ≤ 800000000 := ⟨kip.1, by have := h45 (s.1 47).toNat (by omega); omega⟩
  refine pw_M_of (lv := [some (.ref B), some (.int (zI (k)))]) (by decide) rfl rfl htr (nle rfl) rfl (fun L => ?_)
  refine pw_aload_n dX10_key_0 rfl ?_
  refine pw_iload_n dX10_key_1 rfl ?_
  refine pw_if_lt (tgt := 12) dX10_key_2 rfl (by omega) (fun c2 => ?_) (fun c2 => ?_)
  · exfalso; omega
  ·
    refine pw_iload_n dX10_key_5 rfl ?_
    refine pw_sipush (v := zI (255)) dX10_key_6 (by decide) ?_
    refine pw_icmp_le (tgt := 16) dX10_key_9 rfl (by omega) (by omega) (fun c9 => ?_) (fun c9 => ?_)
    ·
      refine pw_iconst (v := zI (0)) dX10_key_16 (by decide) ?_
      refine pw_put (fs' := (moL B (va_up s.1 0 (0)))) okX10 (k := 0) (by decide) lkX10_173 rfl rfl rfl hA.1 (nlt rfl) rfl dX10_key_17 ?_
      have hA1 : mAt B (mV 0 (0) s) (va_up h B (pz_o 13 (moL B (va_up s.1 0 (0))))) := mAt_V hA
      have hF1 : mFr B h (va_up h B (pz_o 13 (moL B (va_up s.1 0 (0))))) := mFr_tr mFr_rf (mFr_up (k := 0) (by decide))
      revert hA1 hF1
      generalize (va_up h B (pz_o 13 (moL B (va_up s.1 0 (0))))) = h1
      intro hA1 hF1
      refine pw_aload_n dX10_key_20 rfl ?_
      refine pw_get (v := .int (zI (0))) okX10 (k := 0) (by decide) lkX10_173 hA1.1 rfl dX10_key_21 ?_
      refine pw_if_le (tgt := 29) dX10_key_24 rfl (by omega) (fun c24 => ?_) (fun c24 => ?_)
      ·
        refine pw_aload_n dX10_key_29 rfl ?_
        refine pw_get (v := .int (zI (s.1 48))) okX10 (k := 48) (by decide) lkX10_314 hA1.1 rfl dX10_key_30 ?_
        refine pw_if_eq (tgt := 49) dX10_key_33 rfl (by omega) (fun c33 => ?_) (fun c33 => ?_)
        ·
          refine pw_iload_n dX10_key_49 rfl ?_
          refine pw_iconst (v := zI (2)) dX10_key_50 (by decide) ?_
          refine pw_icmp_ne (tgt := 62) dX10_key_51 rfl (by omega) (by omega) (fun c51 => ?_) (fun c51 => ?_)
          ·
            refine pw_aload_n dX10_key_62 rfl ?_
            refine pw_get (v := .ref (B + 40)) okX10 (k := 43) (by decide) lkX10_128 hA1.1 rfl dX10_key_63 ?_
            refine pw_aload_n dX10_key_66 rfl ?_
            refine pw_get (v := .int (zI (s.1 47))) okX10 (k := 47) (by decide) lkX10_207 hA1.1 rfl dX10_key_67 ?_
            refine pw_zald (g := (s.2 43)) (t := 1) rfl (mF43 (s := (mV 0 (0) s)) hA1) (by omega) (by decide) dX10_key_70 ?_
            refine pw_if_ne (tgt := 86) dX10_key_71 rfl (by omega) (fun c71 => ?_) (fun c71 => ?_)
            ·
              refine pw_iload_n dX10_key_86 rfl ?_
              refine pw_bipush (v := zI (107)) dX10_key_87 (by decide) ?_
              refine pw_icmp_eq (tgt := 98) dX10_key_89 rfl (by omega) (by omega) (fun c89 => ?_) (fun c89 => ?_)
              ·
                refine pw_aload_n dX10_key_98 rfl ?_
                refine pw_aload_n dX10_key_99 rfl ?_
                refine pw_get (v := .int (zI (s.1 47))) okX10 (k := 47) (by decide) lkX10_207 hA1.1 rfl dX10_key_100 ?_
                refine pw_iload_n dX10_key_103 rfl ?_
                refine pw_bipush (v := zI (107)) dX10_key_104 (by decide) ?_
                refine pw_icmp_ne (tgt := 113) dX10_key_106 rfl (by omega) (by omega) (fun c106 => ?_) (fun c106 => ?_)
                ·
                  refine pw_iconst (v := zI (-1)) dX10_key_113 (by decide) ?_
                  refine pw_callV (As := [.int (zI (s.1 47)), .int (zI (-1))]) (b := B) (rm := rmD 2 0 0) (nR_goUp htr hA1 (by omega) (show 0 ≤ s.2 43 (s.1 47).toNat ∧ s.2 43 (s.1 47).toNat ≤ 1 from kco) (show 0 ≤ s.2 44 (s.1 47).toNat ∧ s.2 44 (s.1 47).toNat ≤ 30 from kof) (show 0 ≤ s.2 42 (s.1 47).toNat ∧ s.2 42 (s.1 47).toNat ≤ 30 from kra) (by omega)) rfl hA1.1 rfl rfl ywX10_goUp rfl cwX10_320 ⟨nle rfl, nle rfl⟩ (nle rfl) ⟨nle rfl, nle rfl⟩ dX10_key_114 ?_ (fun _ _ _ z => z.elim)
                  intro r_9 h2 n_9 hq _
                  obtain ⟨e1, hA20, hF20, e4⟩ := hq
                  rw [e1, e4]
                  show pw E YX10_key _ _ 0 0 117 [some (.ref B), some (.int (zI (k)))] [] h2 n
                  have hA2 : mAt B (mA 44 (va_up (s.2 44) (s.1 47).toNat (mUp (mV 0 (0) s) (s.1 47) (-1))) (mV 0 (0) s)) h2 := hA20
                  have hF2 := mFr_tr hF1 hF20
                  clear e1 e4
                  refine pw_goto (tgt := 146) dX10_key_117 rfl ?_
                  refine pw_aload_n dX10_key_146 rfl ?_
                  refine pw_get (v := .int (zI (s.1 47))) okX10 (k := 47) (by decide) lkX10_207 hA2.1 rfl dX10_key_147 ?_
                  exact pw_iret dX10_key_150 rfl (nle rfl) (nle rfl) ⟨rfl, (mA 44 (va_up (s.2 44) (s.1 47).toNat (mUp (mV 0 (0) s) (s.1 47) (-1))) (mV 0 (0) s)), hA2, rH_mo (rH_c (M' := M) (p := (s.1 47).toNat) (rH_0 hH) rfl (fun k hk => mA_ne (by omega)) (fun i hi => ⟨rfl, va_up_ne _ _ hi, rfl⟩) kco (by show 0 ≤ (va_up (s.2 44) (s.1 47).toNat (mUp (mV 0 (0) s) (s.1 47) (-1))) (s.1 47).toNat ∧ (va_up (s.2 44) (s.1 47).toNat (mUp (mV 0 (0) s) (s.1 47) (-1))) (s.1 47).toNat ≤ 30; rw [va_up_self]; first | omega | exact mUp_b (show 0 ≤ s.2 42 (s.1 47).toNat ∧ s.2 42 (s.1 47).toNat ≤ 30 from kra)) ⟨kip.1, h45 _ (by omega)⟩ (Int.le_refl M) (by omega)) (by omega), ⟨rfl, rfl, hpre⟩, hF2, rfl⟩
                ·
                  refine pw_iconst (v := zI (1)) dX10_key_109 (by decide) ?_
                  refine pw_goto (tgt := 114) dX10_key_110 rfl ?_
                  refine pw_callV (As := [.int (zI (s.1 47)), .int (zI (1))]) (b := B) (rm := rmD 2 0 0) (nR_goUp htr hA1 (by omega) (show 0 ≤ s.2 43 (s.1 47).toNat ∧ s.2 43 (s.1 47).toNat ≤ 1 from kco) (show 0 ≤ s.2 44 (s.1 47).toNat ∧ s.2 44 (s.1 47).toNat ≤ 30 from kof) (show 0 ≤ s.2 42 (s.1 47).toNat ∧ s.2 42 (s.1 47).toNat ≤ 30 from kra) (by omega)) rfl hA1.1 rfl rfl ywX10_goUp rfl cwX10_320 ⟨nle rfl, nle rfl⟩ (nle rfl) ⟨nle rfl, nle rfl⟩ dX10_key_114 ?_ (fun _ _ _ z => z.elim)
                  intro r_9 h3 n_9 hq _
                  obtain ⟨e1, hA30, hF30, e4⟩ := hq
                  rw [e1, e4]
                  show pw E YX10_key _ _ 0 0 117 [some (.ref B), some (.int (zI (k)))] [] h3 n
                  have hA3 : mAt B (mA 44 (va_up (s.2 44) (s.1 47).toNat (mUp (mV 0 (0) s) (s.1 47) (1))) (mV 0 (0) s)) h3 := hA30
                  have hF3 := mFr_tr hF1 hF30
                  clear e1 e4
                  refine pw_goto (tgt := 146) dX10_key_117 rfl ?_
                  refine pw_aload_n dX10_key_146 rfl ?_
                  refine pw_get (v := .int (zI (s.1 47))) okX10 (k := 47) (by decide) lkX10_207 hA3.1 rfl dX10_key_147 ?_
                  exact pw_iret dX10_key_150 rfl (nle rfl) (nle rfl) ⟨rfl, (mA 44 (va_up (s.2 44) (s.1 47).toNat (mUp (mV 0 (0) s) (s.1 47) (1))) (mV 0 (0) s)), hA3, rH_mo (rH_c (M' := M) (p := (s.1 47).toNat) (rH_0 hH) rfl (fun k hk => mA_ne (by omega)) (fun i hi => ⟨rfl, va_up_ne _ _ hi, rfl⟩) kco (by show 0 ≤ (va_up (s.2 44) (s.1 47).toNat (mUp (mV 0 (0) s) (s.1 47) (1))) (s.1 47).toNat ∧ (va_up (s.2 44) (s.1 47).toNat (mUp (mV 0 (0) s) (s.1 47) (1))) (s.1 47).toNat ≤ 30; rw [va_up_self]; first | omega | exact mUp_b (show 0 ≤ s.2 42 (s.1 47).toNat ∧ s.2 42 (s.1 47).toNat ≤ 30 from kra)) ⟨kip.1, h45 _ (by omega)⟩ (Int.le_refl M) (by omega)) (by omega), ⟨rfl, rfl, hpre⟩, hF3, rfl⟩
              ·
                refine pw_iload_n dX10_key_92 rfl ?_
                refine pw_bipush (v := zI (106)) dX10_key_93 (by decide) ?_
                refine pw_icmp_ne (tgt := 120) dX10_key_95 rfl (by omega) (by omega) (fun c95 => ?_) (fun c95 => ?_)
                ·
                  refine pw_iload_n dX10_key_120 rfl ?_
                  refine pw_bipush (v := zI (113)) dX10_key_121 (by decide) ?_
                  refine pw_icmp_ne (tgt := 146) dX10_key_123 rfl (by omega) (by omega) (fun c123 => ?_) (fun c123 => ?_)
                  ·
                    refine pw_aload_n dX10_key_146 rfl ?_
                    refine pw_get (v := .int (zI (s.1 47))) okX10 (k := 47) (by decide) lkX10_207 hA1.1 rfl dX10_key_147 ?_
                    exact pw_iret dX10_key_150 rfl (nle rfl) (nle rfl) ⟨rfl, (mV 0 (0) s), hA1, rH_mo (rH_0 hH) (by omega), ⟨rfl, rfl, hpre⟩, hF1, rfl⟩
                  ·
                    refine pw_aload_n dX10_key_126 rfl ?_
                    refine pw_get (v := .ref (B + 40)) okX10 (k := 43) (by decide) lkX10_128 hA1.1 rfl dX10_key_127 ?_
                    refine pw_aload_n dX10_key_130 rfl ?_
                    refine pw_get (v := .int (zI (s.1 47))) okX10 (k := 47) (by decide) lkX10_207 hA1.1 rfl dX10_key_131 ?_
                    refine pw_iconst (v := zI (0)) dX10_key_134 (by decide) ?_
                    refine pw_zast (g := (s.2 43)) (t := 1) rfl (mF43 (s := (mV 0 (0) s)) hA1) (by omega) (by decide) (by omega) dX10_key_135 ?_
                    have hA4 : mAt B (mA 43 (va_up (s.2 43) (s.1 47).toNat (0)) (mV 0 (0) s)) (va_up h1 (B + 40) (pz_z 1 8 (va_up (s.2 43) (s.1 47).toNat (0)))) := mU43 hA1
                    have hF4 : mFr B h (va_up h1 (B + 40) (pz_z 1 8 (va_up (s.2 43) (s.1 47).toNat (0)))) := mFr_tr hF1 (mFr_up (by decide))
                    revert hA4 hF4
                    generalize (va_up h1 (B + 40) (pz_z 1 8 (va_up (s.2 43) (s.1 47).toNat (0)))) = h4
                    intro hA4 hF4
                    refine pw_aload_n dX10_key_136 rfl ?_
                    refine pw_get (v := .ref (B + 41)) okX10 (k := 44) (by decide) lkX10_131 hA4.1 rfl dX10_key_137 ?_
                    refine pw_aload_n dX10_key_140 rfl ?_
                    refine pw_get (v := .int (zI (s.1 47))) okX10 (k := 47) (by decide) lkX10_207 hA4.1 rfl dX10_key_141 ?_
                    refine pw_iconst (v := zI (0)) dX10_key_144 (by decide) ?_
                    refine pw_iast (g := (s.2 44)) (t := 0) rfl (mF44 (s := (mA 43 (va_up (s.2 43) (s.1 47).toNat (0)) (mV 0 (0) s))) hA4) (by omega) (by decide) dX10_key_145 ?_
                    have hA5 : mAt B (mA 44 (va_up (s.2 44) (s.1 47).toNat (0)) (mA 43 (va_up (s.2 43) (s.1 47).toNat (0)) (mV 0 (0) s))) (va_up h4 (B + 41) (pz_z 0 8 (va_up (s.2 44) (s.1 47).toNat (0)))) := mU44 hA4
                    have hF5 : mFr B h (va_up h4 (B + 41) (pz_z 0 8 (va_up (s.2 44) (s.1 47).toNat (0)))) := mFr_tr hF4 (mFr_up (by decide))
                    revert hA5 hF5
                    generalize (va_up h4 (B + 41) (pz_z 0 8 (va_up (s.2 44) (s.1 47).toNat (0)))) = h5
                    intro hA5 hF5
                    refine pw_aload_n dX10_key_146 rfl ?_
                    refine pw_get (v := .int (zI (s.1 47))) okX10 (k := 47) (by decide) lkX10_207 hA5.1 rfl dX10_key_147 ?_
                    exact pw_iret dX10_key_150 rfl (nle rfl) (nle rfl) ⟨rfl, (mA 44 (va_up (s.2 44) (s.1 47).toNat (0)) (mA 43 (va_up (s.2 43) (s.1 47).toNat (0)) (mV 0 (0) s))), hA5, rH_mo (rH_c (M' := M) (p := (s.1 47).toNat) (rH_0 hH) rfl (fun k hk => (mA_ne (by omega)).trans (mA_ne (by omega))) (fun i hi => ⟨va_up_ne _ _ hi, va_up_ne _ _ hi, rfl⟩) (by show 0 ≤ (va_up (s.2 43) (s.1 47).toNat (0)) (s.1 47).toNat ∧ (va_up (s.2 43) (s.1 47).toNat (0)) (s.1 47).toNat ≤ 1; rw [va_up_self]; omega) (by show 0 ≤ (va_up (s.2 44) (s.1 47).toNat (0)) (s.1 47).toNat ∧ (va_up (s.2 44) (s.1 47).toNat (0)) (s.1 47).toNat ≤ 30; rw [va_up_self]; first | omega | exact mUp_b (show 0 ≤ s.2 42 (s.1 47).toNat ∧ s.2 42 (s.1 47).toNat ≤ 30 from kra)) ⟨kip.1, h45 _ (by omega)⟩ (Int.le_refl M) (by omega)) (by omega), ⟨rfl, rfl, hpre⟩, hF5, rfl⟩
                ·
                  refine pw_aload_n dX10_key_98 rfl ?_
                  refine pw_aload_n dX10_key_99 rfl ?_
                  refine pw_get (v := .int (zI (s.1 47))) okX10 (k := 47) (by decide) lkX10_207 hA1.1 rfl dX10_key_100 ?_
                  refine pw_iload_n dX10_key_103 rfl ?_
                  refine pw_bipush (v := zI (107)) dX10_key_104 (by decide) ?_
                  refine pw_icmp_ne (tgt := 113) dX10_key_106 rfl (by omega) (by omega) (fun c106 => ?_) (fun c106 => ?_)
                  ·
                    refine pw_iconst (v := zI (-1)) dX10_key_113 (by decide) ?_
                    refine pw_callV (As := [.int (zI (s.1 47)), .int (zI (-1))]) (b := B) (rm := rmD 2 0 0) (nR_goUp htr hA1 (by omega) (show 0 ≤ s.2 43 (s.1 47).toNat ∧ s.2 43 (s.1 47).toNat ≤ 1 from kco) (show 0 ≤ s.2 44 (s.1 47).toNat ∧ s.2 44 (s.1 47).toNat ≤ 30 from kof) (show 0 ≤ s.2 42 (s.1 47).toNat ∧ s.2 42 (s.1 47).toNat ≤ 30 from kra) (by omega)) rfl hA1.1 rfl rfl ywX10_goUp rfl cwX10_320 ⟨nle rfl, nle rfl⟩ (nle rfl) ⟨nle rfl, nle rfl⟩ dX10_key_114 ?_ (fun _ _ _ z => z.elim)
                    intro r_9 h6 n_9 hq _
                    obtain ⟨e1, hA60, hF60, e4⟩ := hq
                    rw [e1, e4]
                    show pw E YX10_key _ _ 0 0 117 [some (.ref B), some (.int (zI (k)))] [] h6 n
                    have hA6 : mAt B (mA 44 (va_up (s.2 44) (s.1 47).toNat (mUp (mV 0 (0) s) (s.1 47) (-1))) (mV 0 (0) s)) h6 := hA60
                    have hF6 := mFr_tr hF1 hF60
                    clear e1 e4
                    refine pw_goto (tgt := 146) dX10_key_117 rfl ?_
                    refine pw_aload_n dX10_key_146 rfl ?_
                    refine pw_get (v := .int (zI (s.1 47))) okX10 (k := 47) (by decide) lkX10_207 hA6.1 rfl dX10_key_147 ?_
                    exact pw_iret dX10_key_150 rfl (nle rfl) (nle rfl) ⟨rfl, (mA 44 (va_up (s.2 44) (s.1 47).toNat (mUp (mV 0 (0) s) (s.1 47) (-1))) (mV 0 (0) s)), hA6, rH_mo (rH_c (M' := M) (p := (s.1 47).toNat) (rH_0 hH) rfl (fun k hk => mA_ne (by omega)) (fun i hi => ⟨rfl, va_up_ne _ _ hi, rfl⟩) kco (by show 0 ≤ (va_up (s.2 44) (s.1 47).toNat (mUp (mV 0 (0) s) (s.1 47) (-1))) (s.1 47).toNat ∧ (va_up (s.2 44) (s.1 47).toNat (mUp (mV 0 (0) s) (s.1 47) (-1))) (s.1 47).toNat ≤ 30; rw [va_up_self]; first | omega | exact mUp_b (show 0 ≤ s.2 42 (s.1 47).toNat ∧ s.2 42 (s.1 47).toNat ≤ 30 from kra)) ⟨kip.1, h45 _ (by omega)⟩ (Int.le_refl M) (by omega)) (by omega), ⟨rfl, rfl, hpre⟩, hF6, rfl⟩
                  ·
                    refine pw_iconst (v := zI (1)) dX10_key_109 (by decide) ?_
                    refine pw_goto (tgt := 114) dX10_key_110 rfl ?_
                    refine pw_callV (As := [.int (zI (s.1 47)), .int (zI (1))]) (b := B) (rm := rmD 2 0 0) (nR_goUp htr hA1 (by omega) (show 0 ≤ s.2 43 (s.1 47).toNat ∧ s.2 43 (s.1 47).toNat ≤ 1 from kco) (show 0 ≤ s.2 44 (s.1 47).toNat ∧ s.2 44 (s.1 47).toNat ≤ 30 from kof) (show 0 ≤ s.2 42 (s.1 47).toNat ∧ s.2 42 (s.1 47).toNat ≤ 30 from kra) (by omega)) rfl hA1.1 rfl rfl ywX10_goUp rfl cwX10_320 ⟨nle rfl, nle rfl⟩ (nle rfl) ⟨nle rfl, nle rfl⟩ dX10_key_114 ?_ (fun _ _ _ z => z.elim)
                    intro r_9 h7 n_9 hq _
                    obtain ⟨e1, hA70, hF70, e4⟩ := hq
                    rw [e1, e4]
                    show pw E YX10_key _ _ 0 0 117 [some (.ref B), some (.int (zI (k)))] [] h7 n
                    have hA7 : mAt B (mA 44 (va_up (s.2 44) (s.1 47).toNat (mUp (mV 0 (0) s) (s.1 47) (1))) (mV 0 (0) s)) h7 := hA70
                    have hF7 := mFr_tr hF1 hF70
                    clear e1 e4
                    refine pw_goto (tgt := 146) dX10_key_117 rfl ?_
                    refine pw_aload_n dX10_key_146 rfl ?_
                    refine pw_get (v := .int (zI (s.1 47))) okX10 (k := 47) (by decide) lkX10_207 hA7.1 rfl dX10_key_147 ?_
                    exact pw_iret dX10_key_150 rfl (nle rfl) (nle rfl) ⟨rfl, (mA 44 (va_up (s.2 44) (s.1 47).toNat (mUp (mV 0 (0) s) (s.1 47) (1))) (mV 0 (0) s)), hA7, rH_mo (rH_c (M' := M) (p := (s.1 47).toNat) (rH_0 hH) rfl (fun k hk => mA_ne (by omega)) (fun i hi => ⟨rfl, va_up_ne _ _ hi, rfl⟩) kco (by show 0 ≤ (va_up (s.2 44) (s.1 47).toNat (mUp (mV 0 (0) s) (s.1 47) (1))) (s.1 47).toNat ∧ (va_up (s.2 44) (s.1 47).toNat (mUp (mV 0 (0) s) (s.1 47) (1))) (s.1 47).toNat ≤ 30; rw [va_up_self]; first | omega | exact mUp_b (show 0 ≤ s.2 42 (s.1 47).toNat ∧ s.2 42 (s.1 47).toNat ≤ 30 from kra)) ⟨kip.1, h45 _ (by omega)⟩ (Int.le_refl M) (by omega)) (by omega), ⟨rfl, rfl, hpre⟩, hF7, rfl⟩
            ·
              refine pw_aload_n dX10_key_74 rfl ?_
              refine pw_aload_n dX10_key_75 rfl ?_
              refine pw_get (v := .int (zI (s.1 47))) okX10 (k := 47) (by decide) lkX10_207 hA1.1 rfl dX10_key_76 ?_
              refine pw_iload_n dX10_key_79 rfl ?_
              refine pw_callV (As := [.int (zI (s.1 47)), .int (zI (k))]) (b := B) (rm := rmD 0 0 0) (nR_comesIn htr hA1 (by omega) (show 0 ≤ s.2 45 (s.1 47).toNat ∧ s.2 45 (s.1 47).toNat ≤ 900000000 by omega)) rfl hA1.1 rfl rfl ywX10_comesIn rfl cwX10_311 ⟨nle rfl, nle rfl⟩ (nle rfl) ⟨nle rfl, nle rfl⟩ dX10_key_80 ?_ (fun _ _ _ z => z.elim)
              intro r_9 h7 n_9 hq9 _
              obtain ⟨e1_, hA7, hF70, e4_⟩ := hq9
              rw [e1_, e4_]
              show pw E YX10_key _ _ 0 0 83 [some (.ref B), some (.int (zI (k)))] [] h7 n
              clear e1_ e4_
              have hF7 := mFr_tr hF1 hF70
              have hC7 := mCi_1 (fo := s.1 47) (b := k) (mCi_rf (fo := (s.1 47).toNat) (s := (mV 0 (0) s)))
              have hH7 : rH W H (M + 400) t _ := mCi_rH hC7 (rH_0 hH) m47 (by omega) (by omega)
              have hk7 : (mA 45 (va_up ((mV 0 (0) s).2 45) (s.1 47).toNat ((mV 0 (0) s).2 45 (s.1 47).toNat + 1)) (mA 46 (va_up ((mV 0 (0) s).2 46) (64 * (s.1 47) + (mV 0 (0) s).2 45 (s.1 47).toNat % 64).toNat (k)) (mV 0 (0) s))).1 = (mV 0 (0) s).1 := rfl
              revert hA7 hH7 hk7
              generalize (mA 45 (va_up ((mV 0 (0) s).2 45) (s.1 47).toNat ((mV 0 (0) s).2 45 (s.1 47).toNat + 1)) (mA 46 (va_up ((mV 0 (0) s).2 46) (64 * (s.1 47) + (mV 0 (0) s).2 45 (s.1 47).toNat % 64).toNat (k)) (mV 0 (0) s))) = s7
              intro hA7 hH7 hk7
              have h747 : s7.1 47 = s.1 47 := congrFun hk7 47
              refine pw_goto (tgt := 146) dX10_key_83 rfl ?_
              refine pw_aload_n dX10_key_146 rfl ?_
              refine pw_get (v := .int (zI (s7.1 47))) okX10 (k := 47) (by decide) lkX10_207 hA7.1 rfl dX10_key_147 ?_
              exact pw_iret dX10_key_150 rfl (nle rfl) (nle rfl) ⟨by rw [h747], s7, hA7, hH7, ⟨congrFun hk7 0, h747, (congrFun hk7 48).trans hpre⟩, hF7, rfl⟩
          · exfalso; omega
        · exfalso; omega
      · exfalso; omega
    · exfalso; omega
