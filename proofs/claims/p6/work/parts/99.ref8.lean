def YX10_shortSequence : pw_Y := (RX10, "shortSequence", cX10_shortSequence, 4, none)
theorem ywX10_shortSequence : pw_y yX10_shortSequence YX10_shortSequence 2 := ⟨by decide +kernel, by decide +kernel, by decide +kernel, pw_in 1624 (by decide +kernel) (by decide +kernel), pw_in 106 (by decide +kernel) (by decide +kernel)⟩
theorem cwX10_188 : Cond.methodLink RX10 188 yX10_reset ∈ pw_G ∧ Cond.instanceMethod yX10_reset ∈ pw_G ∧ Cond.selects RX10 yX10_reset yX10_reset ∈ pw_G := ⟨pw_in 1319 (by decide +kernel) (by decide +kernel), pw_in 1321 (by decide +kernel) (by decide +kernel), pw_in 33 (by decide +kernel) (by decide +kernel)⟩
theorem cwX10_277 : Cond.methodLink RX10 277 yX10_up ∈ pw_G ∧ Cond.instanceMethod yX10_up ∈ pw_G ∧ Cond.selects RX10 yX10_up yX10_up ∈ pw_G := ⟨pw_in 1625 (by decide +kernel) (by decide +kernel), pw_in 1627 (by decide +kernel) (by decide +kernel), pw_in 56 (by decide +kernel) (by decide +kernel)⟩
def YX10_take : pw_Y := (RX10, "take", cX10_take, 3, none)
theorem ywX10_take : pw_y yX10_take YX10_take 2 := ⟨by decide +kernel, by decide +kernel, by decide +kernel, pw_in 1573 (by decide +kernel) (by decide +kernel), pw_in 106 (by decide +kernel) (by decide +kernel)⟩
theorem cwX10_264 : Cond.methodLink RX10 264 yX10_isPlain ∈ pw_G ∧ Cond.instanceMethod yX10_isPlain ∈ pw_G ∧ Cond.selects RX10 yX10_isPlain yX10_isPlain ∈ pw_G := ⟨pw_in 1574 (by decide +kernel) (by decide +kernel), pw_in 1576 (by decide +kernel) (by decide +kernel), pw_in 44 (by decide +kernel) (by decide +kernel)⟩
theorem cwX10_274 : Cond.methodLink RX10 274 yX10_longSequence ∈ pw_G ∧ Cond.instanceMethod yX10_longSequence ∈ pw_G ∧ Cond.selects RX10 yX10_longSequence yX10_longSequence ∈ pw_G := ⟨pw_in 1633 (by decide +kernel) (by decide +kernel), pw_in 1635 (by decide +kernel) (by decide +kernel), pw_in 58 (by decide +kernel) (by decide +kernel)⟩
theorem cwX10_271 : Cond.methodLink RX10 271 yX10_shortSequence ∈ pw_G ∧ Cond.instanceMethod yX10_shortSequence ∈ pw_G ∧ Cond.selects RX10 yX10_shortSequence yX10_shortSequence ∈ pw_G := ⟨pw_in 1621 (by decide +kernel) (by decide +kernel), pw_in 1623 (by decide +kernel) (by decide +kernel), pw_in 55 (by decide +kernel) (by decide +kernel)⟩
theorem cwX10_268 : Cond.methodLink RX10 268 yX10_write ∈ pw_G ∧ Cond.instanceMethod yX10_write ∈ pw_G ∧ Cond.selects RX10 yX10_write yX10_write ∈ pw_G := ⟨pw_in 1613 (by decide +kernel) (by decide +kernel), pw_in 1615 (by decide +kernel) (by decide +kernel), pw_in 53 (by decide +kernel) (by decide +kernel)⟩
set_option maxHeartbeats 2000000 in
set_option maxRecDepth 100000 in
theorem lR_short {E : pw_E} (htr : E.1.stackTraces = false) {Kk : pw_K} {n : Nat} {B : Nat} {s : mS} {h : pz_H} {p : Int} (hp : 0 ≤ p ∧ p < 8) {b : Int} (kk : ∀ (k9 : Int) (s2 : mS) (h2 : pz_H), mAt B s2 h2 → mPk s2 p.toNat → mPr p.toNat s s2 → mFr B h h2 → Kk.2.2.1 none h2 n) : ∀ (j : Nat) (k : Int) (s1 : mS) (h1 : pz_H), (4 - k).toNat = j → 0 ≤ k → k ≤ 4 → mAt B s1 h1 → mPk s1 p.toNat → mPr p.toNat s s1 → mFr B h h1 → pw E YX10_shortSequence (rmD 5 0 0) Kk 0 0 168 [some (.ref B), some (.int (zI (p))), some (.int (zI (b))), some (.int (zI (k)))] [] h1 n := by
  intro j
  induction j with
  | zero =>
    intro k s1 h1 hj i0 i1 hA hk hr hF
    have e18 := congrFun (hr.2.1 18 (by decide)) p.toNat
    have e19 := congrFun (hr.2.1 19 (by decide)) p.toNat
    obtain ⟨kw, kh, kr, kc, ksr, ksc, kt, ko, kwa, kin, kwr, khi, krd, knu, kgi, kas, kfr, kra, kco, kof, kip⟩ := id hk
    refine pw_iload_n dX10_shortSequence_168 rfl ?_
    refine pw_iconst (v := zI (4)) dX10_shortSequence_169 (by decide) ?_
    refine pw_icmp_ge (tgt := 190) dX10_shortSequence_170 rfl (by omega) (by omega) (fun c170 => ?_) (fun c170 => ?_)
    ·
      exact pw_vret dX10_shortSequence_190 rfl (nle rfl) (nle rfl) (kk 0 s1 h1  hA hk hr hF)
    · exfalso; omega
  | succ j ih =>
    intro k s1 h1 hj i0 i1 hA hk hr hF
    have e18 := congrFun (hr.2.1 18 (by decide)) p.toNat
    have e19 := congrFun (hr.2.1 19 (by decide)) p.toNat
    obtain ⟨kw, kh, kr, kc, ksr, ksc, kt, ko, kwa, kin, kwr, khi, krd, knu, kgi, kas, kfr, kra, kco, kof, kip⟩ := id hk
    refine pw_iload_n dX10_shortSequence_168 rfl ?_
    refine pw_iconst (v := zI (4)) dX10_shortSequence_169 (by decide) ?_
    refine pw_icmp_ge (tgt := 190) dX10_shortSequence_170 rfl (by omega) (by omega) (fun c170 => ?_) (fun c170 => ?_)
    ·
      exact pw_vret dX10_shortSequence_190 rfl (nle rfl) (nle rfl) (kk 0 s1 h1  hA hk hr hF)
    ·
      refine pw_aload_n dX10_shortSequence_173 rfl ?_
      refine pw_get (v := .ref (B + 33)) okX10 (k := 36) (by decide) lkX10_107 hA.1 rfl dX10_shortSequence_174 ?_
      refine pw_iconst (v := zI (4)) dX10_shortSequence_177 (by decide) ?_
      refine pw_iload_n dX10_shortSequence_178 rfl ?_
      refine pw_zimul dX10_shortSequence_179 ?_
      refine pw_iload_n dX10_shortSequence_180 rfl ?_
      refine pw_ziadd dX10_shortSequence_181 ?_
      refine pw_iconst (v := zI (0)) dX10_shortSequence_182 (by decide) ?_
      refine pw_iast (t := 0) rfl (mF36 hA) (by first | omega | exact mCell_b hp ko (by omega) (by omega) | exact mHis_b hp (by omega) (by omega)) (by decide) dX10_shortSequence_183 ?_
      have hA2 : mAt B (mA 36 (va_up (s1.2 36) ((4 * p) + (k)).toNat (0)) s1) (va_up h1 (B + 33) (pz_z 0 32 (va_up (s1.2 36) ((4 * p) + (k)).toNat (0)))) := mU36 hA
      have hk2 : mPk (mA 36 (va_up (s1.2 36) ((4 * p) + (k)).toNat (0)) s1) p.toNat := mP36 hk (by omega) (by omega)
      have hr2 : mPr p.toNat s (mA 36 (va_up (s1.2 36) ((4 * p) + (k)).toNat (0)) s1) := mPr_tr hr (mPr_N (by omega))
      have hF2 : mFr B h (va_up h1 (B + 33) (pz_z 0 32 (va_up (s1.2 36) ((4 * p) + (k)).toNat (0)))) := mFr_tr hF (mFr_up (by decide))
      revert hA2 hk2 hr2 hF2 
      generalize (mA 36 (va_up (s1.2 36) ((4 * p) + (k)).toNat (0)) s1) = s2
      generalize (va_up h1 (B + 33) (pz_z 0 32 (va_up (s1.2 36) ((4 * p) + (k)).toNat (0)))) = h2
      intro hA2 hk2 hr2 hF2 
      obtain ⟨kw, kh, kr, kc, ksr, ksc, kt, ko, kwa, kin, kwr, khi, krd, knu, kgi, kas, kfr, kra, kco, kof, kip⟩ := id hk2
      have e18 := congrFun (hr2.2.1 18 (by decide)) p.toNat
      have e19 := congrFun (hr2.2.1 19 (by decide)) p.toNat
      refine pw_ziinc (lv' := [some (.ref B), some (.int (zI (p))), some (.int (zI (b))), some (.int (zI (k + 1)))]) dX10_shortSequence_184 rfl (by decide) rfl rfl ?_
      refine pw_goto (tgt := 168) dX10_shortSequence_187 rfl ?_
      exact ih (k + 1) s2 h2 (by omega) (by omega) (by omega)  hA2 hk2 hr2 hF2
set_option maxHeartbeats 2000000 in
set_option maxRecDepth 100000 in
/-- shortSequence(p, b) -/
theorem mR_shortSequence {E : pw_E} (htr : E.1.stackTraces = false) {h : pz_H} {n : Nat} {B : Nat} {s : mS} (hA : mAt B s h) {p b : Int} (hp : 0 ≤ p ∧ p < 8) (hk : mPk s p.toNat) (h_b : -2147483648 ≤ b ∧ b < 2147483648) : pw_M E yX10_shortSequence YX10_shortSequence (rmD 5 0 0) [.ref B, .int (zI (p)), .int (zI (b))] h n (fun r0 h' n' => r0 = none ∧ ∃ s', mAt B s' h' ∧ mPk s' p.toNat ∧ mPr p.toNat s s' ∧ mFr B h h' ∧ n' = n) (fun _ _ _ => False) := by
  obtain ⟨kw, kh, kr, kc, ksr, ksc, kt, ko, kwa, kin, kwr, khi, krd, knu, kgi, kas, kfr, kra, kco, kof, kip⟩ := id hk
  have e18 : s.2 18 p.toNat = s.2 18 p.toNat := rfl
  refine pw_M_of (lv := [some (.ref B), some (.int (zI (p))), some (.int (zI (b))), none]) (by decide) rfl rfl htr (nle rfl) rfl (fun L => ?_)
  refine pw_aload_n dX10_shortSequence_0 rfl ?_
  refine pw_get (v := .ref (B + 32)) okX10 (k := 35) (by decide) lkX10_104 hA.1 rfl dX10_shortSequence_1 ?_
  refine pw_iload_n dX10_shortSequence_4 rfl ?_
  refine pw_iconst (v := zI (0)) dX10_shortSequence_5 (by decide) ?_
  refine pw_iast (t := 0) rfl (mF35 hA) (by first | omega | exact mCell_b hp ko (by omega) (by omega) | exact mHis_b hp (by omega) (by omega)) (by decide) dX10_shortSequence_6 ?_
  have hA1 : mAt B (mA 35 (va_up (s.2 35) (p).toNat (0)) s) (va_up h (B + 32) (pz_z 0 8 (va_up (s.2 35) (p).toNat (0)))) := mU35 hA
  have hk1 : mPk (mA 35 (va_up (s.2 35) (p).toNat (0)) s) p.toNat := mP35 hk (by omega)
  have hr1 : mPr p.toNat s (mA 35 (va_up (s.2 35) (p).toNat (0)) s) := mPr_tr mPr_rf (mPr_W (by decide) (by decide) (by decide))
  have hF1 : mFr B h (va_up h (B + 32) (pz_z 0 8 (va_up (s.2 35) (p).toNat (0)))) := mFr_tr mFr_rf (mFr_up (by decide))
  revert hA1 hk1 hr1 hF1 
  generalize (mA 35 (va_up (s.2 35) (p).toNat (0)) s) = s1
  generalize (va_up h (B + 32) (pz_z 0 8 (va_up (s.2 35) (p).toNat (0)))) = h1
  intro hA1 hk1 hr1 hF1 
  obtain ⟨kw, kh, kr, kc, ksr, ksc, kt, ko, kwa, kin, kwr, khi, krd, knu, kgi, kas, kfr, kra, kco, kof, kip⟩ := id hk1
  have e18 := congrFun (hr1.2.1 18 (by decide)) p.toNat
  have e19 := congrFun (hr1.2.1 19 (by decide)) p.toNat
  refine pw_iload_n dX10_shortSequence_7 rfl ?_
  refine pw_bipush (v := zI (55)) dX10_shortSequence_8 (by decide) ?_
  refine pw_icmp_ne (tgt := 52) dX10_shortSequence_10 rfl (by omega) (by omega) (fun c10 => ?_) (fun c10 => ?_)
  ·
    refine pw_iload_n dX10_shortSequence_52 rfl ?_
    refine pw_bipush (v := zI (56)) dX10_shortSequence_53 (by decide) ?_
    refine pw_icmp_ne (tgt := 90) dX10_shortSequence_55 rfl (by omega) (by omega) (fun c55 => ?_) (fun c55 => ?_)
    ·
      refine pw_iload_n dX10_shortSequence_90 rfl ?_
      refine pw_bipush (v := zI (68)) dX10_shortSequence_91 (by decide) ?_
      refine pw_icmp_ne (tgt := 104) dX10_shortSequence_93 rfl (by omega) (by omega) (fun c93 => ?_) (fun c93 => ?_)
      ·
        refine pw_iload_n dX10_shortSequence_104 rfl ?_
        refine pw_bipush (v := zI (77)) dX10_shortSequence_105 (by decide) ?_
        refine pw_icmp_ne (tgt := 118) dX10_shortSequence_107 rfl (by omega) (by omega) (fun c107 => ?_) (fun c107 => ?_)
        ·
          refine pw_iload_n dX10_shortSequence_118 rfl ?_
          refine pw_bipush (v := zI (99)) dX10_shortSequence_119 (by decide) ?_
          refine pw_icmp_ne (tgt := 132) dX10_shortSequence_121 rfl (by omega) (by omega) (fun c121 => ?_) (fun c121 => ?_)
          ·
            refine pw_iload_n dX10_shortSequence_132 rfl ?_
            refine pw_bipush (v := zI (91)) dX10_shortSequence_133 (by decide) ?_
            refine pw_icmp_ne (tgt := 190) dX10_shortSequence_135 rfl (by omega) (by omega) (fun c135 => ?_) (fun c135 => ?_)
            ·
              exact pw_vret dX10_shortSequence_190 rfl (nle rfl) (nle rfl) ⟨rfl, s1, hA1, hk1, hr1, hF1, rfl⟩
            ·
              refine pw_aload_n dX10_shortSequence_138 rfl ?_
              refine pw_get (v := .ref (B + 32)) okX10 (k := 35) (by decide) lkX10_104 hA1.1 rfl dX10_shortSequence_139 ?_
              refine pw_iload_n dX10_shortSequence_142 rfl ?_
              refine pw_iconst (v := zI (2)) dX10_shortSequence_143 (by decide) ?_
              refine pw_iast (t := 0) rfl (mF35 hA1) (by first | omega | exact mCell_b hp ko (by omega) (by omega) | exact mHis_b hp (by omega) (by omega)) (by decide) dX10_shortSequence_144 ?_
              have hA2 : mAt B (mA 35 (va_up (s1.2 35) (p).toNat (2)) s1) (va_up h1 (B + 32) (pz_z 0 8 (va_up (s1.2 35) (p).toNat (2)))) := mU35 hA1
              have hk2 : mPk (mA 35 (va_up (s1.2 35) (p).toNat (2)) s1) p.toNat := mP35 hk1 (by omega)
              have hr2 : mPr p.toNat s (mA 35 (va_up (s1.2 35) (p).toNat (2)) s1) := mPr_tr hr1 (mPr_W (by decide) (by decide) (by decide))
              have hF2 : mFr B h (va_up h1 (B + 32) (pz_z 0 8 (va_up (s1.2 35) (p).toNat (2)))) := mFr_tr hF1 (mFr_up (by decide))
              revert hA2 hk2 hr2 hF2 
              generalize (mA 35 (va_up (s1.2 35) (p).toNat (2)) s1) = s2
              generalize (va_up h1 (B + 32) (pz_z 0 8 (va_up (s1.2 35) (p).toNat (2)))) = h2
              intro hA2 hk2 hr2 hF2 
              obtain ⟨kw, kh, kr, kc, ksr, ksc, kt, ko, kwa, kin, kwr, khi, krd, knu, kgi, kas, kfr, kra, kco, kof, kip⟩ := id hk2
              have e18 := congrFun (hr2.2.1 18 (by decide)) p.toNat
              have e19 := congrFun (hr2.2.1 19 (by decide)) p.toNat
              refine pw_aload_n dX10_shortSequence_145 rfl ?_
              refine pw_get (v := .ref (B + 34)) okX10 (k := 37) (by decide) lkX10_110 hA2.1 rfl dX10_shortSequence_146 ?_
              refine pw_iload_n dX10_shortSequence_149 rfl ?_
              refine pw_iconst (v := zI (0)) dX10_shortSequence_150 (by decide) ?_
              refine pw_iast (t := 0) rfl (mF37 hA2) (by first | omega | exact mCell_b hp ko (by omega) (by omega) | exact mHis_b hp (by omega) (by omega)) (by decide) dX10_shortSequence_151 ?_
              have hA3 : mAt B (mA 37 (va_up (s2.2 37) (p).toNat (0)) s2) (va_up h2 (B + 34) (pz_z 0 8 (va_up (s2.2 37) (p).toNat (0)))) := mU37 hA2
              have hk3 : mPk (mA 37 (va_up (s2.2 37) (p).toNat (0)) s2) p.toNat := mP37 hk2 (by omega)
              have hr3 : mPr p.toNat s (mA 37 (va_up (s2.2 37) (p).toNat (0)) s2) := mPr_tr hr2 (mPr_W (by decide) (by decide) (by decide))
              have hF3 : mFr B h (va_up h2 (B + 34) (pz_z 0 8 (va_up (s2.2 37) (p).toNat (0)))) := mFr_tr hF2 (mFr_up (by decide))
              revert hA3 hk3 hr3 hF3 
              generalize (mA 37 (va_up (s2.2 37) (p).toNat (0)) s2) = s3
              generalize (va_up h2 (B + 34) (pz_z 0 8 (va_up (s2.2 37) (p).toNat (0)))) = h3
              intro hA3 hk3 hr3 hF3 
              obtain ⟨kw, kh, kr, kc, ksr, ksc, kt, ko, kwa, kin, kwr, khi, krd, knu, kgi, kas, kfr, kra, kco, kof, kip⟩ := id hk3
              have e18 := congrFun (hr3.2.1 18 (by decide)) p.toNat
              have e19 := congrFun (hr3.2.1 19 (by decide)) p.toNat
              refine pw_aload_n dX10_shortSequence_152 rfl ?_
              refine pw_get (v := .ref (B + 35)) okX10 (k := 38) (by decide) lkX10_113 hA3.1 rfl dX10_shortSequence_153 ?_
              refine pw_iload_n dX10_shortSequence_156 rfl ?_
              refine pw_iconst (v := zI (0)) dX10_shortSequence_157 (by decide) ?_
              refine pw_zast (t := 1) rfl (mF38 hA3) (by first | omega | exact mCell_b hp ko (by omega) (by omega) | exact mHis_b hp (by omega) (by omega)) (by decide) (by omega) dX10_shortSequence_158 ?_
              have hA4 : mAt B (mA 38 (va_up (s3.2 38) (p).toNat (0)) s3) (va_up h3 (B + 35) (pz_z 1 8 (va_up (s3.2 38) (p).toNat (0)))) := mU38 hA3
              have hk4 : mPk (mA 38 (va_up (s3.2 38) (p).toNat (0)) s3) p.toNat := mP38 hk3 (by omega)
              have hr4 : mPr p.toNat s (mA 38 (va_up (s3.2 38) (p).toNat (0)) s3) := mPr_tr hr3 (mPr_W (by decide) (by decide) (by decide))
              have hF4 : mFr B h (va_up h3 (B + 35) (pz_z 1 8 (va_up (s3.2 38) (p).toNat (0)))) := mFr_tr hF3 (mFr_up (by decide))
              revert hA4 hk4 hr4 hF4 
              generalize (mA 38 (va_up (s3.2 38) (p).toNat (0)) s3) = s4
              generalize (va_up h3 (B + 35) (pz_z 1 8 (va_up (s3.2 38) (p).toNat (0)))) = h4
              intro hA4 hk4 hr4 hF4 
              obtain ⟨kw, kh, kr, kc, ksr, ksc, kt, ko, kwa, kin, kwr, khi, krd, knu, kgi, kas, kfr, kra, kco, kof, kip⟩ := id hk4
              have e18 := congrFun (hr4.2.1 18 (by decide)) p.toNat
              have e19 := congrFun (hr4.2.1 19 (by decide)) p.toNat
              refine pw_aload_n dX10_shortSequence_159 rfl ?_
              refine pw_get (v := .ref (B + 36)) okX10 (k := 39) (by decide) lkX10_116 hA4.1 rfl dX10_shortSequence_160 ?_
              refine pw_iload_n dX10_shortSequence_163 rfl ?_
              refine pw_iconst (v := zI (1)) dX10_shortSequence_164 (by decide) ?_
              refine pw_zast (t := 1) rfl (mF39 hA4) (by first | omega | exact mCell_b hp ko (by omega) (by omega) | exact mHis_b hp (by omega) (by omega)) (by decide) (by omega) dX10_shortSequence_165 ?_
              have hA5 : mAt B (mA 39 (va_up (s4.2 39) (p).toNat (1)) s4) (va_up h4 (B + 36) (pz_z 1 8 (va_up (s4.2 39) (p).toNat (1)))) := mU39 hA4
              have hk5 : mPk (mA 39 (va_up (s4.2 39) (p).toNat (1)) s4) p.toNat := mP39 hk4 (by omega)
              have hr5 : mPr p.toNat s (mA 39 (va_up (s4.2 39) (p).toNat (1)) s4) := mPr_tr hr4 (mPr_W (by decide) (by decide) (by decide))
              have hF5 : mFr B h (va_up h4 (B + 36) (pz_z 1 8 (va_up (s4.2 39) (p).toNat (1)))) := mFr_tr hF4 (mFr_up (by decide))
              revert hA5 hk5 hr5 hF5 
              generalize (mA 39 (va_up (s4.2 39) (p).toNat (1)) s4) = s5
              generalize (va_up h4 (B + 36) (pz_z 1 8 (va_up (s4.2 39) (p).toNat (1)))) = h5
              intro hA5 hk5 hr5 hF5 
              obtain ⟨kw, kh, kr, kc, ksr, ksc, kt, ko, kwa, kin, kwr, khi, krd, knu, kgi, kas, kfr, kra, kco, kof, kip⟩ := id hk5
              have e18 := congrFun (hr5.2.1 18 (by decide)) p.toNat
              have e19 := congrFun (hr5.2.1 19 (by decide)) p.toNat
              refine pw_iconst (v := zI (0)) dX10_shortSequence_166 (by decide) ?_
              refine pw_istore_n (lv' := [some (.ref B), some (.int (zI (p))), some (.int (zI (b))), some (.int (zI (0)))]) dX10_shortSequence_167 (by decide) rfl rfl ?_
              refine lR_short htr hp  ?_ _ 0 s5 h5 rfl (by omega) (by omega) hA5 hk5 hr5 hF5
              intro _ s2 h2 z1 z2 z3 z4
              exact ⟨rfl, s2, z1, z2, z3, z4, rfl⟩
          ·
            refine pw_aload_n dX10_shortSequence_124 rfl ?_
            refine pw_iload_n dX10_shortSequence_125 rfl ?_
            refine pw_callV (As := [.int (zI (p))]) (b := B) (rm := rmD 1 0 0) (mR_reset htr hA1 hp (mPw_of hk1)) rfl hA1.1 rfl rfl ywX10_reset rfl cwX10_188 ⟨nle rfl, nle rfl⟩ (nle rfl) ⟨nle rfl, nle rfl⟩ dX10_shortSequence_126 ?_ (fun _ _ _ z => z.elim)
            intro r_9 h6 n_9 hq _
            obtain ⟨e1, s6, hA6, hk6, hr60, hF60, e4⟩ := hq
            rw [e1, e4]
            show pw E YX10_shortSequence _ _ 0 0 129 [some (.ref B), some (.int (zI (p))), some (.int (zI (b))), none] [] h6 n
            have hr6 := mPr_tr hr1 hr60
            have hF6 := mFr_tr hF1 hF60
            obtain ⟨kw, kh, kr, kc, ksr, ksc, kt, ko, kwa, kin, kwr, khi, krd, knu, kgi, kas, kfr, kra, kco, kof, kip⟩ := id hk6
            have e18 := congrFun (hr6.2.1 18 (by decide)) p.toNat
            have e19 := congrFun (hr6.2.1 19 (by decide)) p.toNat
            refine pw_goto (tgt := 190) dX10_shortSequence_129 rfl ?_
            exact pw_vret dX10_shortSequence_190 rfl (nle rfl) (nle rfl) ⟨rfl, s6, hA6, hk6, hr6, hF6, rfl⟩
        ·
          refine pw_aload_n dX10_shortSequence_110 rfl ?_
          refine pw_iload_n dX10_shortSequence_111 rfl ?_
          refine pw_callV (As := [.int (zI (p))]) (b := B) (rm := rmD 4 0 0) (mR_up htr hA1 hp hk1) rfl hA1.1 rfl rfl ywX10_up rfl cwX10_277 ⟨nle rfl, nle rfl⟩ (nle rfl) ⟨nle rfl, nle rfl⟩ dX10_shortSequence_112 ?_ (fun _ _ _ z => z.elim)
          intro r_9 h7 n_9 hq _
          obtain ⟨e1, s7, hA7, hk7, hr70, hF70, e4⟩ := hq
          rw [e1, e4]
          show pw E YX10_shortSequence _ _ 0 0 115 [some (.ref B), some (.int (zI (p))), some (.int (zI (b))), none] [] h7 n
          have hr7 := mPr_tr hr1 hr70
          have hF7 := mFr_tr hF1 hF70
          obtain ⟨kw, kh, kr, kc, ksr, ksc, kt, ko, kwa, kin, kwr, khi, krd, knu, kgi, kas, kfr, kra, kco, kof, kip⟩ := id hk7
          have e18 := congrFun (hr7.2.1 18 (by decide)) p.toNat
          have e19 := congrFun (hr7.2.1 19 (by decide)) p.toNat
          refine pw_goto (tgt := 190) dX10_shortSequence_115 rfl ?_
          exact pw_vret dX10_shortSequence_190 rfl (nle rfl) (nle rfl) ⟨rfl, s7, hA7, hk7, hr7, hF7, rfl⟩
      ·
        refine pw_aload_n dX10_shortSequence_96 rfl ?_
        refine pw_iload_n dX10_shortSequence_97 rfl ?_
        refine pw_callV (As := [.int (zI (p))]) (b := B) (rm := rmD 4 0 0) (mR_down htr hA1 hp hk1) rfl hA1.1 rfl rfl ywX10_down rfl cwX10_255 ⟨nle rfl, nle rfl⟩ (nle rfl) ⟨nle rfl, nle rfl⟩ dX10_shortSequence_98 ?_ (fun _ _ _ z => z.elim)
        intro r_9 h8 n_9 hq _
        obtain ⟨e1, s8, hA8, hk8, hr80, hF80, e4⟩ := hq
        rw [e1, e4]
        show pw E YX10_shortSequence _ _ 0 0 101 [some (.ref B), some (.int (zI (p))), some (.int (zI (b))), none] [] h8 n
        have hr8 := mPr_tr hr1 hr80
        have hF8 := mFr_tr hF1 hF80
        obtain ⟨kw, kh, kr, kc, ksr, ksc, kt, ko, kwa, kin, kwr, khi, krd, knu, kgi, kas, kfr, kra, kco, kof, kip⟩ := id hk8
        have e18 := congrFun (hr8.2.1 18 (by decide)) p.toNat
        have e19 := congrFun (hr8.2.1 19 (by decide)) p.toNat
        refine pw_goto (tgt := 190) dX10_shortSequence_101 rfl ?_
        exact pw_vret dX10_shortSequence_190 rfl (nle rfl) (nle rfl) ⟨rfl, s8, hA8, hk8, hr8, hF8, rfl⟩
    ·
      refine pw_aload_n dX10_shortSequence_58 rfl ?_
      refine pw_iload_n dX10_shortSequence_59 rfl ?_
      refine pw_aload_n dX10_shortSequence_60 rfl ?_
      refine pw_get (v := .ref (B + 23)) okX10 (k := 26) (by decide) lkX10_77 hA1.1 rfl dX10_shortSequence_61 ?_
      refine pw_iload_n dX10_shortSequence_64 rfl ?_
      refine pw_iald (t := 0) rfl (mF26 hA1) (by first | omega | exact mCell_b hp ko (by omega) (by omega) | exact mHis_b hp (by omega) (by omega)) (by decide) dX10_shortSequence_65 ?_
      refine pw_aload_n dX10_shortSequence_66 rfl ?_
      refine pw_get (v := .ref (B + 24)) okX10 (k := 27) (by decide) lkX10_80 hA1.1 rfl dX10_shortSequence_67 ?_
      refine pw_iload_n dX10_shortSequence_70 rfl ?_
      refine pw_iald (t := 0) rfl (mF27 hA1) (by first | omega | exact mCell_b hp ko (by omega) (by omega) | exact mHis_b hp (by omega) (by omega)) (by decide) dX10_shortSequence_71 ?_
      refine pw_callV (As := [.int (zI (p)), .int (zI ((s1.2 26) (p).toNat)), .int (zI ((s1.2 27) (p).toNat))]) (b := B) (rm := rmD 1 0 0) (mR_moveTo htr hA1 hp hk1 (by omega) (by omega)) rfl hA1.1 rfl rfl ywX10_moveTo rfl cwX10_261 ⟨nle rfl, nle rfl⟩ (nle rfl) ⟨nle rfl, nle rfl⟩ dX10_shortSequence_72 ?_ (fun _ _ _ z => z.elim)
      intro r_9 h9 n_9 hq _
      obtain ⟨e1, s9, hA9, hk9, hr90, hF90, e4⟩ := hq
      rw [e1, e4]
      show pw E YX10_shortSequence _ _ 0 0 75 [some (.ref B), some (.int (zI (p))), some (.int (zI (b))), none] [] h9 n
      have hr9 := mPr_tr hr1 hr90
      have hF9 := mFr_tr hF1 hF90
      obtain ⟨kw, kh, kr, kc, ksr, ksc, kt, ko, kwa, kin, kwr, khi, krd, knu, kgi, kas, kfr, kra, kco, kof, kip⟩ := id hk9
      have e18 := congrFun (hr9.2.1 18 (by decide)) p.toNat
      have e19 := congrFun (hr9.2.1 19 (by decide)) p.toNat
      refine pw_aload_n dX10_shortSequence_75 rfl ?_
      refine pw_get (v := .ref (B + 22)) okX10 (k := 25) (by decide) lkX10_74 hA9.1 rfl dX10_shortSequence_76 ?_
      refine pw_iload_n dX10_shortSequence_79 rfl ?_
      refine pw_aload_n dX10_shortSequence_80 rfl ?_
      refine pw_get (v := .ref (B + 25)) okX10 (k := 28) (by decide) lkX10_83 hA9.1 rfl dX10_shortSequence_81 ?_
      refine pw_iload_n dX10_shortSequence_84 rfl ?_
      refine pw_iald (t := 0) rfl (mF28 hA9) (by first | omega | exact mCell_b hp ko (by omega) (by omega) | exact mHis_b hp (by omega) (by omega)) (by decide) dX10_shortSequence_85 ?_
      refine pw_iast (t := 0) rfl (mF25 hA9) (by first | omega | exact mCell_b hp ko (by omega) (by omega) | exact mHis_b hp (by omega) (by omega)) (by decide) dX10_shortSequence_86 ?_
      have hA10 : mAt B (mA 25 (va_up (s9.2 25) (p).toNat ((s9.2 28) (p).toNat)) s9) (va_up h9 (B + 22) (pz_z 0 8 (va_up (s9.2 25) (p).toNat ((s9.2 28) (p).toNat)))) := mU25 hA9
      have hk10 : mPk (mA 25 (va_up (s9.2 25) (p).toNat ((s9.2 28) (p).toNat)) s9) p.toNat := mPc hk9 (by decide)
      have hr10 : mPr p.toNat s (mA 25 (va_up (s9.2 25) (p).toNat ((s9.2 28) (p).toNat)) s9) := mPr_tr hr9 (mPr_W (by decide) (by decide) (by decide))
      have hF10 : mFr B h (va_up h9 (B + 22) (pz_z 0 8 (va_up (s9.2 25) (p).toNat ((s9.2 28) (p).toNat)))) := mFr_tr hF9 (mFr_up (by decide))
      revert hA10 hk10 hr10 hF10 
      generalize (mA 25 (va_up (s9.2 25) (p).toNat ((s9.2 28) (p).toNat)) s9) = s10
      generalize (va_up h9 (B + 22) (pz_z 0 8 (va_up (s9.2 25) (p).toNat ((s9.2 28) (p).toNat)))) = h10
      intro hA10 hk10 hr10 hF10 
      obtain ⟨kw, kh, kr, kc, ksr, ksc, kt, ko, kwa, kin, kwr, khi, krd, knu, kgi, kas, kfr, kra, kco, kof, kip⟩ := id hk10
      have e18 := congrFun (hr10.2.1 18 (by decide)) p.toNat
      have e19 := congrFun (hr10.2.1 19 (by decide)) p.toNat
      refine pw_goto (tgt := 190) dX10_shortSequence_87 rfl ?_
      exact pw_vret dX10_shortSequence_190 rfl (nle rfl) (nle rfl) ⟨rfl, s10, hA10, hk10, hr10, hF10, rfl⟩
  ·
    refine pw_aload_n dX10_shortSequence_13 rfl ?_
    refine pw_get (v := .ref (B + 23)) okX10 (k := 26) (by decide) lkX10_77 hA1.1 rfl dX10_shortSequence_14 ?_
    refine pw_iload_n dX10_shortSequence_17 rfl ?_
    refine pw_aload_n dX10_shortSequence_18 rfl ?_
    refine pw_get (v := .ref (B + 20)) okX10 (k := 23) (by decide) lkX10_68 hA1.1 rfl dX10_shortSequence_19 ?_
    refine pw_iload_n dX10_shortSequence_22 rfl ?_
    refine pw_iald (t := 0) rfl (mF23 hA1) (by first | omega | exact mCell_b hp ko (by omega) (by omega) | exact mHis_b hp (by omega) (by omega)) (by decide) dX10_shortSequence_23 ?_
    refine pw_iast (t := 0) rfl (mF26 hA1) (by first | omega | exact mCell_b hp ko (by omega) (by omega) | exact mHis_b hp (by omega) (by omega)) (by decide) dX10_shortSequence_24 ?_
    have hA11 : mAt B (mA 26 (va_up (s1.2 26) (p).toNat ((s1.2 23) (p).toNat)) s1) (va_up h1 (B + 23) (pz_z 0 8 (va_up (s1.2 26) (p).toNat ((s1.2 23) (p).toNat)))) := mU26 hA1
    have hk11 : mPk (mA 26 (va_up (s1.2 26) (p).toNat ((s1.2 23) (p).toNat)) s1) p.toNat := mP26 hk1 (by omega)
    have hr11 : mPr p.toNat s (mA 26 (va_up (s1.2 26) (p).toNat ((s1.2 23) (p).toNat)) s1) := mPr_tr hr1 (mPr_W (by decide) (by decide) (by decide))
    have hF11 : mFr B h (va_up h1 (B + 23) (pz_z 0 8 (va_up (s1.2 26) (p).toNat ((s1.2 23) (p).toNat)))) := mFr_tr hF1 (mFr_up (by decide))
    revert hA11 hk11 hr11 hF11 
    generalize (mA 26 (va_up (s1.2 26) (p).toNat ((s1.2 23) (p).toNat)) s1) = s11
    generalize (va_up h1 (B + 23) (pz_z 0 8 (va_up (s1.2 26) (p).toNat ((s1.2 23) (p).toNat)))) = h11
    intro hA11 hk11 hr11 hF11 
    obtain ⟨kw, kh, kr, kc, ksr, ksc, kt, ko, kwa, kin, kwr, khi, krd, knu, kgi, kas, kfr, kra, kco, kof, kip⟩ := id hk11
    have e18 := congrFun (hr11.2.1 18 (by decide)) p.toNat
    have e19 := congrFun (hr11.2.1 19 (by decide)) p.toNat
    refine pw_aload_n dX10_shortSequence_25 rfl ?_
    refine pw_get (v := .ref (B + 24)) okX10 (k := 27) (by decide) lkX10_80 hA11.1 rfl dX10_shortSequence_26 ?_
    refine pw_iload_n dX10_shortSequence_29 rfl ?_
    refine pw_aload_n dX10_shortSequence_30 rfl ?_
    refine pw_get (v := .ref (B + 21)) okX10 (k := 24) (by decide) lkX10_71 hA11.1 rfl dX10_shortSequence_31 ?_
    refine pw_iload_n dX10_shortSequence_34 rfl ?_
    refine pw_iald (t := 0) rfl (mF24 hA11) (by first | omega | exact mCell_b hp ko (by omega) (by omega) | exact mHis_b hp (by omega) (by omega)) (by decide) dX10_shortSequence_35 ?_
    refine pw_iast (t := 0) rfl (mF27 hA11) (by first | omega | exact mCell_b hp ko (by omega) (by omega) | exact mHis_b hp (by omega) (by omega)) (by decide) dX10_shortSequence_36 ?_
    have hA12 : mAt B (mA 27 (va_up (s11.2 27) (p).toNat ((s11.2 24) (p).toNat)) s11) (va_up h11 (B + 24) (pz_z 0 8 (va_up (s11.2 27) (p).toNat ((s11.2 24) (p).toNat)))) := mU27 hA11
    have hk12 : mPk (mA 27 (va_up (s11.2 27) (p).toNat ((s11.2 24) (p).toNat)) s11) p.toNat := mP27 hk11 (by omega)
    have hr12 : mPr p.toNat s (mA 27 (va_up (s11.2 27) (p).toNat ((s11.2 24) (p).toNat)) s11) := mPr_tr hr11 (mPr_W (by decide) (by decide) (by decide))
    have hF12 : mFr B h (va_up h11 (B + 24) (pz_z 0 8 (va_up (s11.2 27) (p).toNat ((s11.2 24) (p).toNat)))) := mFr_tr hF11 (mFr_up (by decide))
    revert hA12 hk12 hr12 hF12 
    generalize (mA 27 (va_up (s11.2 27) (p).toNat ((s11.2 24) (p).toNat)) s11) = s12
    generalize (va_up h11 (B + 24) (pz_z 0 8 (va_up (s11.2 27) (p).toNat ((s11.2 24) (p).toNat)))) = h12
    intro hA12 hk12 hr12 hF12 
    obtain ⟨kw, kh, kr, kc, ksr, ksc, kt, ko, kwa, kin, kwr, khi, krd, knu, kgi, kas, kfr, kra, kco, kof, kip⟩ := id hk12
    have e18 := congrFun (hr12.2.1 18 (by decide)) p.toNat
    have e19 := congrFun (hr12.2.1 19 (by decide)) p.toNat
    refine pw_aload_n dX10_shortSequence_37 rfl ?_
    refine pw_get (v := .ref (B + 25)) okX10 (k := 28) (by decide) lkX10_83 hA12.1 rfl dX10_shortSequence_38 ?_
    refine pw_iload_n dX10_shortSequence_41 rfl ?_
    refine pw_aload_n dX10_shortSequence_42 rfl ?_
    refine pw_get (v := .ref (B + 22)) okX10 (k := 25) (by decide) lkX10_74 hA12.1 rfl dX10_shortSequence_43 ?_
    refine pw_iload_n dX10_shortSequence_46 rfl ?_
    refine pw_iald (t := 0) rfl (mF25 hA12) (by first | omega | exact mCell_b hp ko (by omega) (by omega) | exact mHis_b hp (by omega) (by omega)) (by decide) dX10_shortSequence_47 ?_
    refine pw_iast (t := 0) rfl (mF28 hA12) (by first | omega | exact mCell_b hp ko (by omega) (by omega) | exact mHis_b hp (by omega) (by omega)) (by decide) dX10_shortSequence_48 ?_
    have hA13 : mAt B (mA 28 (va_up (s12.2 28) (p).toNat ((s12.2 25) (p).toNat)) s12) (va_up h12 (B + 25) (pz_z 0 8 (va_up (s12.2 28) (p).toNat ((s12.2 25) (p).toNat)))) := mU28 hA12
    have hk13 : mPk (mA 28 (va_up (s12.2 28) (p).toNat ((s12.2 25) (p).toNat)) s12) p.toNat := mPc hk12 (by decide)
    have hr13 : mPr p.toNat s (mA 28 (va_up (s12.2 28) (p).toNat ((s12.2 25) (p).toNat)) s12) := mPr_tr hr12 (mPr_W (by decide) (by decide) (by decide))
    have hF13 : mFr B h (va_up h12 (B + 25) (pz_z 0 8 (va_up (s12.2 28) (p).toNat ((s12.2 25) (p).toNat)))) := mFr_tr hF12 (mFr_up (by decide))
    revert hA13 hk13 hr13 hF13 
    generalize (mA 28 (va_up (s12.2 28) (p).toNat ((s12.2 25) (p).toNat)) s12) = s13
    generalize (va_up h12 (B + 25) (pz_z 0 8 (va_up (s12.2 28) (p).toNat ((s12.2 25) (p).toNat)))) = h13
    intro hA13 hk13 hr13 hF13 
    obtain ⟨kw, kh, kr, kc, ksr, ksc, kt, ko, kwa, kin, kwr, khi, krd, knu, kgi, kas, kfr, kra, kco, kof, kip⟩ := id hk13
    have e18 := congrFun (hr13.2.1 18 (by decide)) p.toNat
    have e19 := congrFun (hr13.2.1 19 (by decide)) p.toNat
    refine pw_goto (tgt := 190) dX10_shortSequence_49 rfl ?_
    exact pw_vret dX10_shortSequence_190 rfl (nle rfl) (nle rfl) ⟨rfl, s13, hA13, hk13, hr13, hF13, rfl⟩
set_option maxHeartbeats 2000000 in
set_option maxRecDepth 100000 in
/-- take(p, b) -/
theorem mR_take {E : pw_E} (htr : E.1.stackTraces = false) {h : pz_H} {n : Nat} {B : Nat} {s : mS} (hA : mAt B s h) {p b : Int} (hp : 0 ≤ p ∧ p < 8) (hk : mPk s p.toNat) (h_b : -2147483648 ≤ b ∧ b < 2147483648) : pw_M E yX10_take YX10_take (rmD 7 0 0) [.ref B, .int (zI (p)), .int (zI (b))] h n (fun r0 h' n' => r0 = none ∧ ∃ s', mAt B s' h' ∧ mPk s' p.toNat ∧ mPr p.toNat s s' ∧ mFr B h h' ∧ n' = n) (fun _ _ _ => False) := by
  obtain ⟨kw, kh, kr, kc, ksr, ksc, kt, ko, kwa, kin, kwr, khi, krd, knu, kgi, kas, kfr, kra, kco, kof, kip⟩ := id hk
  have e18 : s.2 18 p.toNat = s.2 18 p.toNat := rfl
  refine pw_M_of (lv := [some (.ref B), some (.int (zI (p))), some (.int (zI (b)))]) (by decide) rfl rfl htr (nle rfl) rfl (fun L => ?_)
  refine pw_aload_n dX10_take_0 rfl ?_
  refine pw_iload_n dX10_take_1 rfl ?_
  refine pw_iload_n dX10_take_2 rfl ?_
  refine pw_callV (As := [.int (zI (p)), .int (zI (b))]) (b := B) (rm := rmD 5 0 0) (mR_isPlain htr hA hp hk (by omega)) rfl hA.1 rfl rfl ywX10_isPlain rfl cwX10_264 ⟨nle rfl, nle rfl⟩ (nle rfl) ⟨nle rfl, nle rfl⟩ dX10_take_3 ?_ (fun _ _ _ z => z.elim)
  intro r_9 h1 n_9 hq _
  obtain ⟨ve, hve, e1, s1, hA1, hk1, hr10, hF10, e4⟩ := hq
  rw [e1, e4]
  show pw E YX10_take _ _ 0 0 6 [some (.ref B), some (.int (zI (p))), some (.int (zI (b)))] [.int (zI ve)] h1 n
  have hr1 := mPr_tr mPr_rf hr10
  have hF1 := mFr_tr mFr_rf hF10
  obtain ⟨kw, kh, kr, kc, ksr, ksc, kt, ko, kwa, kin, kwr, khi, krd, knu, kgi, kas, kfr, kra, kco, kof, kip⟩ := id hk1
  refine pw_if_eq (tgt := 10) dX10_take_6 rfl (by omega) (fun c6 => ?_) (fun c6 => ?_)
  ·
    refine pw_aload_n dX10_take_10 rfl ?_
    refine pw_get (v := .ref (B + 32)) okX10 (k := 35) (by decide) lkX10_104 hA1.1 rfl dX10_take_11 ?_
    refine pw_iload_n dX10_take_14 rfl ?_
    refine pw_iald (t := 0) rfl (mF35 hA1) (by first | omega | exact mCell_b hp ko (by omega) (by omega) | exact mHis_b hp (by omega) (by omega)) (by decide) dX10_take_15 ?_
    refine pw_if_ne (tgt := 40) dX10_take_16 rfl (by omega) (fun c16 => ?_) (fun c16 => ?_)
    ·
      refine pw_aload_n dX10_take_40 rfl ?_
      refine pw_get (v := .ref (B + 32)) okX10 (k := 35) (by decide) lkX10_104 hA1.1 rfl dX10_take_41 ?_
      refine pw_iload_n dX10_take_44 rfl ?_
      refine pw_iald (t := 0) rfl (mF35 hA1) (by first | omega | exact mCell_b hp ko (by omega) (by omega) | exact mHis_b hp (by omega) (by omega)) (by decide) dX10_take_45 ?_
      refine pw_iconst (v := zI (1)) dX10_take_46 (by decide) ?_
      refine pw_icmp_ne (tgt := 59) dX10_take_47 rfl (by omega) (by omega) (fun c47 => ?_) (fun c47 => ?_)
      ·
        refine pw_aload_n dX10_take_59 rfl ?_
        refine pw_iload_n dX10_take_60 rfl ?_
        refine pw_iload_n dX10_take_61 rfl ?_
        refine pw_callV (As := [.int (zI (p)), .int (zI (b))]) (b := B) (rm := rmD 6 0 0) (mR_longSequence htr hA1 hp hk1 (by omega)) rfl hA1.1 rfl rfl ywX10_longSequence rfl cwX10_274 ⟨nle rfl, nle rfl⟩ (nle rfl) ⟨nle rfl, nle rfl⟩ dX10_take_62 ?_ (fun _ _ _ z => z.elim)
        intro r_9 h2 n_9 hq _
        obtain ⟨e1, s2, hA2, hk2, hr20, hF20, e4⟩ := hq
        rw [e1, e4]
        show pw E YX10_take _ _ 0 0 65 [some (.ref B), some (.int (zI (p))), some (.int (zI (b)))] [] h2 n
        have hr2 := mPr_tr hr1 hr20
        have hF2 := mFr_tr hF1 hF20
        obtain ⟨kw, kh, kr, kc, ksr, ksc, kt, ko, kwa, kin, kwr, khi, krd, knu, kgi, kas, kfr, kra, kco, kof, kip⟩ := id hk2
        have e18 := congrFun (hr2.2.1 18 (by decide)) p.toNat
        have e19 := congrFun (hr2.2.1 19 (by decide)) p.toNat
        exact pw_vret dX10_take_65 rfl (nle rfl) (nle rfl) ⟨rfl, s2, hA2, hk2, hr2, hF2, rfl⟩
      ·
        refine pw_aload_n dX10_take_50 rfl ?_
        refine pw_iload_n dX10_take_51 rfl ?_
        refine pw_iload_n dX10_take_52 rfl ?_
        refine pw_callV (As := [.int (zI (p)), .int (zI (b))]) (b := B) (rm := rmD 5 0 0) (mR_shortSequence htr hA1 hp hk1 (by omega)) rfl hA1.1 rfl rfl ywX10_shortSequence rfl cwX10_271 ⟨nle rfl, nle rfl⟩ (nle rfl) ⟨nle rfl, nle rfl⟩ dX10_take_53 ?_ (fun _ _ _ z => z.elim)
        intro r_9 h3 n_9 hq _
        obtain ⟨e1, s3, hA3, hk3, hr30, hF30, e4⟩ := hq
        rw [e1, e4]
        show pw E YX10_take _ _ 0 0 56 [some (.ref B), some (.int (zI (p))), some (.int (zI (b)))] [] h3 n
        have hr3 := mPr_tr hr1 hr30
        have hF3 := mFr_tr hF1 hF30
        obtain ⟨kw, kh, kr, kc, ksr, ksc, kt, ko, kwa, kin, kwr, khi, krd, knu, kgi, kas, kfr, kra, kco, kof, kip⟩ := id hk3
        have e18 := congrFun (hr3.2.1 18 (by decide)) p.toNat
        have e19 := congrFun (hr3.2.1 19 (by decide)) p.toNat
        refine pw_goto (tgt := 65) dX10_take_56 rfl ?_
        exact pw_vret dX10_take_65 rfl (nle rfl) (nle rfl) ⟨rfl, s3, hA3, hk3, hr3, hF3, rfl⟩
    ·
      refine pw_iload_n dX10_take_19 rfl ?_
      refine pw_bipush (v := zI (32)) dX10_take_20 (by decide) ?_
      refine pw_icmp_lt (tgt := 65) dX10_take_22 rfl (by omega) (by omega) (fun c22 => ?_) (fun c22 => ?_)
      ·
        exact pw_vret dX10_take_65 rfl (nle rfl) (nle rfl) ⟨rfl, s1, hA1, hk1, hr1, hF1, rfl⟩
      ·
        refine pw_iload_n dX10_take_25 rfl ?_
        refine pw_bipush (v := zI (126)) dX10_take_26 (by decide) ?_
        refine pw_icmp_gt (tgt := 65) dX10_take_28 rfl (by omega) (by omega) (fun c28 => ?_) (fun c28 => ?_)
        ·
          exact pw_vret dX10_take_65 rfl (nle rfl) (nle rfl) ⟨rfl, s1, hA1, hk1, hr1, hF1, rfl⟩
        ·
          refine pw_aload_n dX10_take_31 rfl ?_
          refine pw_iload_n dX10_take_32 rfl ?_
          refine pw_iload_n dX10_take_33 rfl ?_
          refine pw_callV (As := [.int (zI (p)), .int (zI (b))]) (b := B) (rm := rmD 5 0 0) (mR_write htr hA1 hp hk1 (by omega)) rfl hA1.1 rfl rfl ywX10_write rfl cwX10_268 ⟨nle rfl, nle rfl⟩ (nle rfl) ⟨nle rfl, nle rfl⟩ dX10_take_34 ?_ (fun _ _ _ z => z.elim)
          intro r_9 h4 n_9 hq _
          obtain ⟨e1, s4, hA4, hk4, hr40, hF40, e4⟩ := hq
          rw [e1, e4]
          show pw E YX10_take _ _ 0 0 37 [some (.ref B), some (.int (zI (p))), some (.int (zI (b)))] [] h4 n
          have hr4 := mPr_tr hr1 hr40
          have hF4 := mFr_tr hF1 hF40
          obtain ⟨kw, kh, kr, kc, ksr, ksc, kt, ko, kwa, kin, kwr, khi, krd, knu, kgi, kas, kfr, kra, kco, kof, kip⟩ := id hk4
          have e18 := congrFun (hr4.2.1 18 (by decide)) p.toNat
          have e19 := congrFun (hr4.2.1 19 (by decide)) p.toNat
          refine pw_goto (tgt := 65) dX10_take_37 rfl ?_
          exact pw_vret dX10_take_65 rfl (nle rfl) (nle rfl) ⟨rfl, s4, hA4, hk4, hr4, hF4, rfl⟩
  ·
    exact pw_vret dX10_take_9 rfl (nle rfl) (nle rfl) ⟨rfl, s1, hA1, hk1, hr1, hF1, rfl⟩
