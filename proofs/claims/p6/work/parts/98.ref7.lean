def YX10_reset : pw_Y := (RX10, "reset", cX10_reset, 4, none)
theorem ywX10_reset : pw_y yX10_reset YX10_reset 1 := ⟨by decide +kernel, by decide +kernel, by decide +kernel, pw_in 1322 (by decide +kernel) (by decide +kernel), pw_in 106 (by decide +kernel) (by decide +kernel)⟩
theorem lkX10_77 : Cond.fieldLink RX10 77 (TX10 26).1 (TX10 26).2.1 (TX10 26).2.2.1 ∈ pw_G := pw_in 1356 (by decide +kernel) (by decide +kernel)
theorem lkX10_80 : Cond.fieldLink RX10 80 (TX10 27).1 (TX10 27).2.1 (TX10 27).2.2.1 ∈ pw_G := pw_in 1357 (by decide +kernel) (by decide +kernel)
theorem lkX10_83 : Cond.fieldLink RX10 83 (TX10 28).1 (TX10 28).2.1 (TX10 28).2.2.1 ∈ pw_G := pw_in 1358 (by decide +kernel) (by decide +kernel)
/-- what is true of a pane's numbers also where its size is new -/
def mPw (s : mS) (p : Nat) : Prop := (1 ≤ s.2 18 p ∧ s.2 18 p ≤ 40) ∧ (1 ≤ s.2 19 p ∧ s.2 19 p ≤ 16) ∧ (0 ≤ s.2 22 p ∧ s.2 22 p ≤ 1) ∧ (0 ≤ s.2 31 p ∧ s.2 31 p ≤ 1) ∧ (0 ≤ s.2 32 p ∧ s.2 32 p ≤ 1) ∧ (0 ≤ s.2 33 p ∧ s.2 33 p ≤ 1) ∧ (0 ≤ s.2 34 p ∧ s.2 34 p ≤ 1) ∧ (0 ≤ s.2 35 p ∧ s.2 35 p ≤ 2) ∧ (∀ j, j < 4 → 0 ≤ s.2 36 (4 * p + j) ∧ s.2 36 (4 * p + j) ≤ 999) ∧ (0 ≤ s.2 37 p ∧ s.2 37 p ≤ 5) ∧ (0 ≤ s.2 38 p ∧ s.2 38 p ≤ 1) ∧ (0 ≤ s.2 39 p ∧ s.2 39 p ≤ 1) ∧ (0 ≤ s.2 42 p ∧ s.2 42 p ≤ 30) ∧ (0 ≤ s.2 43 p ∧ s.2 43 p ≤ 1) ∧ (0 ≤ s.2 44 p ∧ s.2 44 p ≤ 30) ∧ (0 ≤ s.2 45 p ∧ s.2 45 p ≤ 900000000)
theorem mPw_of {s : mS} {p : Nat} (hk : mPk s p) : mPw s p := by
  obtain ⟨kw, kh, kr, kc, ksr, ksc, kt, ko, kwa, kin, kwr, khi, krd, knu, kgi, kas, kfr, kra, kco, kof, kip⟩ := hk
  exact ⟨kw, kh, ko, kwa, kin, kwr, khi, krd, knu, kgi, kas, kfr, kra, kco, kof, kip⟩
theorem mPwc {s : mS} {p j : Nat} {g : Nat → Int} (hk : mPw s p) (hj : j = 20 ∨ j = 21) : mPw (mA j g s) p := by
  rcases hj with rfl | rfl <;> exact hk
set_option maxHeartbeats 2000000 in
set_option maxRecDepth 100000 in
/-- blank(i, a) -/
theorem mR_blankW {E : pw_E} (htr : E.1.stackTraces = false) {h : pz_H} {n : Nat} {B : Nat} {s : mS} (hA : mAt B s h) {i a : Int} {p : Int} (hp : 0 ≤ p ∧ p < 8) (hk : mPw s p.toNat) (hi : 0 ≤ i ∧ i < 10240) : pw_M E yX10_blank YX10_blank (rmD 0 0 0) [.ref B, .int (zI (i)), .int (zI (a))] h n (fun r h' n' => r = none ∧ ∃ s', mAt B s' h' ∧ mPw s' p.toNat ∧ mPr p.toNat s s' ∧ mFr B h h' ∧ n' = n) (fun _ _ _ => False) := by
  obtain ⟨kw, kh, ko, kwa, kin, kwr, khi, krd, knu, kgi, kas, kfr, kra, kco, kof, kip⟩ := id hk
  refine pw_M_of (lv := [some (.ref B), some (.int (zI (i))), some (.int (zI (a)))]) (by decide) rfl rfl htr (nle rfl) rfl (fun L => ?_)
  refine pw_aload_n dX10_blank_0 rfl ?_
  refine pw_get (v := .ref (B + 17)) okX10 (k := 20) (by decide) lkX10_59 hA.1 rfl dX10_blank_1 ?_
  refine pw_iload_n dX10_blank_4 rfl ?_
  refine pw_bipush (v := zI (32)) dX10_blank_5 (by decide) ?_
  refine pw_iast (t := 0) rfl (mF20 hA) (by omega) (by decide) dX10_blank_7 ?_
  have hA1 : mAt B (mA 20 (va_up (s.2 20) (i).toNat (32)) s) (va_up h (B + 17) (pz_z 0 10240 (va_up (s.2 20) (i).toNat (32)))) := mU20 hA
  have hk1 : mPw (mA 20 (va_up (s.2 20) (i).toNat (32)) s) p.toNat := mPwc hk (by decide)
  have hr1 : mPr p.toNat s (mA 20 (va_up (s.2 20) (i).toNat (32)) s) := mPr_tr mPr_rf (mPr_C (by decide))
  have hF1 : mFr B h (va_up h (B + 17) (pz_z 0 10240 (va_up (s.2 20) (i).toNat (32)))) := mFr_tr mFr_rf (mFr_up (by decide))
  revert hA1 hk1 hr1 hF1
  generalize (mA 20 (va_up (s.2 20) (i).toNat (32)) s) = s1
  generalize (va_up h (B + 17) (pz_z 0 10240 (va_up (s.2 20) (i).toNat (32)))) = h1
  intro hA1 hk1 hr1 hF1
  obtain ⟨kw, kh, ko, kwa, kin, kwr, khi, krd, knu, kgi, kas, kfr, kra, kco, kof, kip⟩ := id hk1
  refine pw_aload_n dX10_blank_8 rfl ?_
  refine pw_get (v := .ref (B + 18)) okX10 (k := 21) (by decide) lkX10_62 hA1.1 rfl dX10_blank_9 ?_
  refine pw_iload_n dX10_blank_12 rfl ?_
  refine pw_iload_n dX10_blank_13 rfl ?_
  refine pw_iast (t := 0) rfl (mF21 hA1) (by omega) (by decide) dX10_blank_14 ?_
  have hA2 : mAt B (mA 21 (va_up (s1.2 21) (i).toNat (a)) s1) (va_up h1 (B + 18) (pz_z 0 10240 (va_up (s1.2 21) (i).toNat (a)))) := mU21 hA1
  have hk2 : mPw (mA 21 (va_up (s1.2 21) (i).toNat (a)) s1) p.toNat := mPwc hk1 (by decide)
  have hr2 : mPr p.toNat s (mA 21 (va_up (s1.2 21) (i).toNat (a)) s1) := mPr_tr hr1 (mPr_C (by decide))
  have hF2 : mFr B h (va_up h1 (B + 18) (pz_z 0 10240 (va_up (s1.2 21) (i).toNat (a)))) := mFr_tr hF1 (mFr_up (by decide))
  revert hA2 hk2 hr2 hF2
  generalize (mA 21 (va_up (s1.2 21) (i).toNat (a)) s1) = s2
  generalize (va_up h1 (B + 18) (pz_z 0 10240 (va_up (s1.2 21) (i).toNat (a)))) = h2
  intro hA2 hk2 hr2 hF2
  obtain ⟨kw, kh, ko, kwa, kin, kwr, khi, krd, knu, kgi, kas, kfr, kra, kco, kof, kip⟩ := id hk2
  exact pw_vret dX10_blank_15 rfl (nle rfl) (nle rfl) ⟨rfl, s2, hA2, hk2, hr2, hF2, rfl⟩
set_option maxHeartbeats 2000000 in
set_option maxRecDepth 100000 in
theorem lR_res1 {E : pw_E} (htr : E.1.stackTraces = false) {Kk : pw_K} {n : Nat} {B : Nat} {s : mS} {h : pz_H} {p : Int} (hp : 0 ≤ p ∧ p < 8) {wh : Int} (hwh : 0 ≤ wh ∧ wh ≤ 1) (kk : ∀ (k9 : Int) (s2 : mS) (h2 : pz_H), mAt B s2 h2 → mPw s2 p.toNat → mPr p.toNat s s2 → mFr B h h2 → pw E YX10_reset (rmD 1 0 0) Kk 0 0 36 [some (.ref B), some (.int (zI (p))), some (.int (zI (wh))), some (.int (zI (k9)))] [] h2 n) : ∀ (j : Nat) (k : Int) (s1 : mS) (h1 : pz_H), (640 - k).toNat = j → 0 ≤ k → k ≤ 640 → mAt B s1 h1 → mPw s1 p.toNat → mPr p.toNat s s1 → mFr B h h1 → pw E YX10_reset (rmD 1 0 0) Kk 0 0 9 [some (.ref B), some (.int (zI (p))), some (.int (zI (wh))), some (.int (zI (k)))] [] h1 n := by
  intro j
  induction j with
  | zero =>
    intro k s1 h1 hj i0 i1 hA hk hr hF
    obtain ⟨kw, kh, ko, kwa, kin, kwr, khi, krd, knu, kgi, kas, kfr, kra, kco, kof, kip⟩ := id hk
    refine pw_iload_n dX10_reset_9 rfl ?_
    refine pw_sipush (v := zI (640)) dX10_reset_10 (by decide) ?_
    refine pw_icmp_ge (tgt := 36) dX10_reset_13 rfl (by omega) (by omega) (fun c13 => ?_) (fun c13 => ?_)
    ·
      exact kk _ s1 h1 hA hk hr hF
    · exfalso; omega
  | succ j ih =>
    intro k s1 h1 hj i0 i1 hA hk hr hF
    obtain ⟨kw, kh, ko, kwa, kin, kwr, khi, krd, knu, kgi, kas, kfr, kra, kco, kof, kip⟩ := id hk
    refine pw_iload_n dX10_reset_9 rfl ?_
    refine pw_sipush (v := zI (640)) dX10_reset_10 (by decide) ?_
    refine pw_icmp_ge (tgt := 36) dX10_reset_13 rfl (by omega) (by omega) (fun c13 => ?_) (fun c13 => ?_)
    ·
      exact kk _ s1 h1 hA hk hr hF
    ·
      refine pw_aload_n dX10_reset_16 rfl ?_
      refine pw_iload_n dX10_reset_17 rfl ?_
      refine pw_iload_n dX10_reset_18 rfl ?_
      refine pw_iconst (v := zI (0)) dX10_reset_19 (by decide) ?_
      refine pw_iconst (v := zI (0)) dX10_reset_20 (by decide) ?_
      refine pw_callS (As := [.int (zI (p)), .int (zI (wh)), .int (zI (0)), .int (zI (0))]) (rm := rmD 0 0 0) (mR_cellOf htr) rfl ywX10_cellOf rfl cwX10_180 ⟨nle rfl, nle rfl⟩ (nle rfl) ⟨nle rfl, nle rfl⟩ dX10_reset_21 ?_ (fun _ _ _ z => z.elim)
      intro r_9 h_9 n_9 hq _
      rw [hq.1, hq.2.1, hq.2.2]
      show pw E YX10_reset _ _ 0 0 24 [some (.ref B), some (.int (zI (p))), some (.int (zI (wh))), some (.int (zI (k)))] [.int (zI (mCell (p) (wh) (0) (0))), .ref B] h1 n
      refine pw_iload_n dX10_reset_24 rfl ?_
      refine pw_ziadd dX10_reset_25 ?_
      refine pw_iconst (v := zI (0)) dX10_reset_26 (by decide) ?_
      refine pw_callV (As := [.int (zI ((mCell (p) (wh) (0) (0)) + (k))), .int (zI (0))]) (b := B) (rm := rmD 0 0 0) (mR_blankW htr hA hp hk (by unfold mCell; omega)) rfl hA.1 rfl rfl ywX10_blank rfl cwX10_184 ⟨nle rfl, nle rfl⟩ (nle rfl) ⟨nle rfl, nle rfl⟩ dX10_reset_27 ?_ (fun _ _ _ z => z.elim)
      intro r_9 h2 n_9 hq _
      obtain ⟨e1, s2, hA2, hk2, hr20, hF20, e4⟩ := hq
      rw [e1, e4]
      show pw E YX10_reset _ _ 0 0 30 [some (.ref B), some (.int (zI (p))), some (.int (zI (wh))), some (.int (zI (k)))] [] h2 n
      have hr2 := mPr_tr hr hr20
      have hF2 := mFr_tr hF hF20
      obtain ⟨kw, kh, ko, kwa, kin, kwr, khi, krd, knu, kgi, kas, kfr, kra, kco, kof, kip⟩ := id hk2
      refine pw_ziinc (lv' := [some (.ref B), some (.int (zI (p))), some (.int (zI (wh))), some (.int (zI (k + 1)))]) dX10_reset_30 rfl (by decide) rfl rfl ?_
      refine pw_goto (tgt := 9) dX10_reset_33 rfl ?_
      exact ih (k + 1) s2 h2 (by omega) (by omega) (by omega) hA2 hk2 hr2 hF2
set_option maxHeartbeats 2000000 in
set_option maxRecDepth 100000 in
theorem lR_res2 {E : pw_E} (htr : E.1.stackTraces = false) {Kk : pw_K} {n : Nat} {B : Nat} {s : mS} {h : pz_H} {p : Int} (hp : 0 ≤ p ∧ p < 8)  (kk : ∀ (wh9 : Int) (q : Option Value) (s2 : mS) (h2 : pz_H), mAt B s2 h2 → mPw s2 p.toNat → mPr p.toNat s s2 → mFr B h h2 → pw E YX10_reset (rmD 1 0 0) Kk 0 0 42 [some (.ref B), some (.int (zI (p))), some (.int (zI (wh9))), q] [] h2 n) : ∀ (j : Nat) (wh : Int) (q : Option Value) (s1 : mS) (h1 : pz_H), (2 - wh).toNat = j → 0 ≤ wh → wh ≤ 2 → mAt B s1 h1 → mPw s1 p.toNat → mPr p.toNat s s1 → mFr B h h1 → pw E YX10_reset (rmD 1 0 0) Kk 0 0 2 [some (.ref B), some (.int (zI (p))), some (.int (zI (wh))), q] [] h1 n := by
  intro j
  induction j with
  | zero =>
    intro wh q s1 h1 hj i0 i1 hA hk hr hF
    obtain ⟨kw, kh, ko, kwa, kin, kwr, khi, krd, knu, kgi, kas, kfr, kra, kco, kof, kip⟩ := id hk
    refine pw_iload_n dX10_reset_2 rfl ?_
    refine pw_iconst (v := zI (2)) dX10_reset_3 (by decide) ?_
    refine pw_icmp_ge (tgt := 42) dX10_reset_4 rfl (by omega) (by omega) (fun c4 => ?_) (fun c4 => ?_)
    ·
      exact kk _ _ s1 h1 hA hk hr hF
    · exfalso; omega
  | succ j ih =>
    intro wh q s1 h1 hj i0 i1 hA hk hr hF
    obtain ⟨kw, kh, ko, kwa, kin, kwr, khi, krd, knu, kgi, kas, kfr, kra, kco, kof, kip⟩ := id hk
    refine pw_iload_n dX10_reset_2 rfl ?_
    refine pw_iconst (v := zI (2)) dX10_reset_3 (by decide) ?_
    refine pw_icmp_ge (tgt := 42) dX10_reset_4 rfl (by omega) (by omega) (fun c4 => ?_) (fun c4 => ?_)
    ·
      exact kk _ _ s1 h1 hA hk hr hF
    ·
      refine pw_iconst (v := zI (0)) dX10_reset_7 (by decide) ?_
      refine pw_istore_n (lv' := [some (.ref B), some (.int (zI (p))), some (.int (zI (wh))), some (.int (zI (0)))]) dX10_reset_8 (by decide) rfl rfl ?_
      refine lR_res1 htr hp (by omega) ?_ _ 0 s1 h1 rfl (by omega) (by omega) hA hk hr hF
      intro k2 s2 h2 hA2 hk2 hr2 hF2
      obtain ⟨kw, kh, ko, kwa, kin, kwr, khi, krd, knu, kgi, kas, kfr, kra, kco, kof, kip⟩ := id hk2
      refine pw_ziinc (lv' := [some (.ref B), some (.int (zI (p))), some (.int (zI (wh + 1))), some (.int (zI (k2)))]) dX10_reset_36 rfl (by decide) rfl rfl ?_
      refine pw_goto (tgt := 2) dX10_reset_39 rfl ?_
      exact ih (wh + 1) _ s2 h2 (by omega) (by omega) (by omega) hA2 hk2 hr2 hF2
set_option maxHeartbeats 2000000 in
set_option maxRecDepth 100000 in
/-- reset(p) -/
theorem mR_reset {E : pw_E} (htr : E.1.stackTraces = false) {h : pz_H} {n : Nat} {B : Nat} {s : mS} (hA : mAt B s h) {p : Int} (hp : 0 ≤ p ∧ p < 8) (hk : mPw s p.toNat) : pw_M E yX10_reset YX10_reset (rmD 1 0 0) [.ref B, .int (zI p)] h n (fun r0 h' n' => r0 = none ∧ ∃ s', mAt B s' h' ∧ mPk s' p.toNat ∧ mPr p.toNat s s' ∧ mFr B h h' ∧ n' = n) (fun _ _ _ => False) := by
  obtain ⟨kw, kh, ko, kwa, kin, kwr, khi, krd, knu, kgi, kas, kfr, kra, kco, kof, kip⟩ := id hk
  refine pw_M_of (lv := [some (.ref B), some (.int (zI (p))), none, none]) (by decide) rfl rfl htr (nle rfl) rfl (fun L => ?_)
  refine pw_iconst (v := zI (0)) dX10_reset_0 (by decide) ?_
  refine pw_istore_n (lv' := [some (.ref B), some (.int (zI (p))), some (.int (zI (0))), none]) dX10_reset_1 (by decide) rfl rfl ?_
  refine lR_res2 htr hp ?_ _ 0 _ s h rfl (by omega) (by omega) hA hk mPr_rf mFr_rf
  intro wh9 q9 s9 h9 hA9 hk9 hr9 hF9
  obtain ⟨kw, kh, ko, kwa, kin, kwr, khi, krd, knu, kgi, kas, kfr, kra, kco, kof, kip⟩ := id hk9
  refine pw_aload_n dX10_reset_42 rfl ?_
  refine pw_get (v := .ref (B + 19)) okX10 (k := 22) (by decide) lkX10_65 hA9.1 rfl dX10_reset_43 ?_
  refine pw_iload_n dX10_reset_46 rfl ?_
  refine pw_iconst (v := zI (0)) dX10_reset_47 (by decide) ?_
  refine pw_zast (t := 1) rfl (mF22 hA9) (by first | omega | exact mCell_b hp ko (by omega) (by omega) | exact mHis_b hp (by omega) (by omega)) (by decide) (by omega) dX10_reset_48 ?_
  have hA11 : mAt B (mA 22 (va_up (s9.2 22) (p).toNat (0)) s9) (va_up h9 (B + 19) (pz_z 1 8 (va_up (s9.2 22) (p).toNat (0)))) := mU22 hA9
  have hr11 : mPr p.toNat s (mA 22 (va_up (s9.2 22) (p).toNat (0)) s9) := mPr_tr hr9 (mPr_W (by decide) (by decide) (by decide))
  have hF11 : mFr B h (va_up h9 (B + 19) (pz_z 1 8 (va_up (s9.2 22) (p).toNat (0)))) := mFr_tr hF9 (mFr_up (by decide))
  refine pw_aload_n dX10_reset_49 rfl ?_
  refine pw_get (v := .ref (B + 20)) okX10 (k := 23) (by decide) lkX10_68 hA11.1 rfl dX10_reset_50 ?_
  refine pw_iload_n dX10_reset_53 rfl ?_
  refine pw_iconst (v := zI (0)) dX10_reset_54 (by decide) ?_
  refine pw_iast (t := 0) rfl (mF23 hA11) (by first | omega | exact mCell_b hp ko (by omega) (by omega) | exact mHis_b hp (by omega) (by omega)) (by decide) dX10_reset_55 ?_
  have hA12 : mAt B (mA 23 (va_up (s9.2 23) (p).toNat (0)) (mA 22 (va_up (s9.2 22) (p).toNat (0)) s9)) (va_up (va_up h9 (B + 19) (pz_z 1 8 (va_up (s9.2 22) (p).toNat (0)))) (B + 20) (pz_z 0 8 (va_up (s9.2 23) (p).toNat (0)))) := mU23 hA11
  have hr12 : mPr p.toNat s (mA 23 (va_up (s9.2 23) (p).toNat (0)) (mA 22 (va_up (s9.2 22) (p).toNat (0)) s9)) := mPr_tr hr11 (mPr_W (by decide) (by decide) (by decide))
  have hF12 : mFr B h (va_up (va_up h9 (B + 19) (pz_z 1 8 (va_up (s9.2 22) (p).toNat (0)))) (B + 20) (pz_z 0 8 (va_up (s9.2 23) (p).toNat (0)))) := mFr_tr hF11 (mFr_up (by decide))
  refine pw_aload_n dX10_reset_56 rfl ?_
  refine pw_get (v := .ref (B + 21)) okX10 (k := 24) (by decide) lkX10_71 hA12.1 rfl dX10_reset_57 ?_
  refine pw_iload_n dX10_reset_60 rfl ?_
  refine pw_iconst (v := zI (0)) dX10_reset_61 (by decide) ?_
  refine pw_iast (t := 0) rfl (mF24 hA12) (by first | omega | exact mCell_b hp ko (by omega) (by omega) | exact mHis_b hp (by omega) (by omega)) (by decide) dX10_reset_62 ?_
  have hA13 : mAt B (mA 24 (va_up (s9.2 24) (p).toNat (0)) (mA 23 (va_up (s9.2 23) (p).toNat (0)) (mA 22 (va_up (s9.2 22) (p).toNat (0)) s9))) (va_up (va_up (va_up h9 (B + 19) (pz_z 1 8 (va_up (s9.2 22) (p).toNat (0)))) (B + 20) (pz_z 0 8 (va_up (s9.2 23) (p).toNat (0)))) (B + 21) (pz_z 0 8 (va_up (s9.2 24) (p).toNat (0)))) := mU24 hA12
  have hr13 : mPr p.toNat s (mA 24 (va_up (s9.2 24) (p).toNat (0)) (mA 23 (va_up (s9.2 23) (p).toNat (0)) (mA 22 (va_up (s9.2 22) (p).toNat (0)) s9))) := mPr_tr hr12 (mPr_W (by decide) (by decide) (by decide))
  have hF13 : mFr B h (va_up (va_up (va_up h9 (B + 19) (pz_z 1 8 (va_up (s9.2 22) (p).toNat (0)))) (B + 20) (pz_z 0 8 (va_up (s9.2 23) (p).toNat (0)))) (B + 21) (pz_z 0 8 (va_up (s9.2 24) (p).toNat (0)))) := mFr_tr hF12 (mFr_up (by decide))
  refine pw_aload_n dX10_reset_63 rfl ?_
  refine pw_get (v := .ref (B + 22)) okX10 (k := 25) (by decide) lkX10_74 hA13.1 rfl dX10_reset_64 ?_
  refine pw_iload_n dX10_reset_67 rfl ?_
  refine pw_iconst (v := zI (0)) dX10_reset_68 (by decide) ?_
  refine pw_iast (t := 0) rfl (mF25 hA13) (by first | omega | exact mCell_b hp ko (by omega) (by omega) | exact mHis_b hp (by omega) (by omega)) (by decide) dX10_reset_69 ?_
  have hA14 : mAt B (mA 25 (va_up (s9.2 25) (p).toNat (0)) (mA 24 (va_up (s9.2 24) (p).toNat (0)) (mA 23 (va_up (s9.2 23) (p).toNat (0)) (mA 22 (va_up (s9.2 22) (p).toNat (0)) s9)))) (va_up (va_up (va_up (va_up h9 (B + 19) (pz_z 1 8 (va_up (s9.2 22) (p).toNat (0)))) (B + 20) (pz_z 0 8 (va_up (s9.2 23) (p).toNat (0)))) (B + 21) (pz_z 0 8 (va_up (s9.2 24) (p).toNat (0)))) (B + 22) (pz_z 0 8 (va_up (s9.2 25) (p).toNat (0)))) := mU25 hA13
  have hr14 : mPr p.toNat s (mA 25 (va_up (s9.2 25) (p).toNat (0)) (mA 24 (va_up (s9.2 24) (p).toNat (0)) (mA 23 (va_up (s9.2 23) (p).toNat (0)) (mA 22 (va_up (s9.2 22) (p).toNat (0)) s9)))) := mPr_tr hr13 (mPr_W (by decide) (by decide) (by decide))
  have hF14 : mFr B h (va_up (va_up (va_up (va_up h9 (B + 19) (pz_z 1 8 (va_up (s9.2 22) (p).toNat (0)))) (B + 20) (pz_z 0 8 (va_up (s9.2 23) (p).toNat (0)))) (B + 21) (pz_z 0 8 (va_up (s9.2 24) (p).toNat (0)))) (B + 22) (pz_z 0 8 (va_up (s9.2 25) (p).toNat (0)))) := mFr_tr hF13 (mFr_up (by decide))
  refine pw_aload_n dX10_reset_70 rfl ?_
  refine pw_get (v := .ref (B + 23)) okX10 (k := 26) (by decide) lkX10_77 hA14.1 rfl dX10_reset_71 ?_
  refine pw_iload_n dX10_reset_74 rfl ?_
  refine pw_iconst (v := zI (0)) dX10_reset_75 (by decide) ?_
  refine pw_iast (t := 0) rfl (mF26 hA14) (by first | omega | exact mCell_b hp ko (by omega) (by omega) | exact mHis_b hp (by omega) (by omega)) (by decide) dX10_reset_76 ?_
  have hA15 : mAt B (mA 26 (va_up (s9.2 26) (p).toNat (0)) (mA 25 (va_up (s9.2 25) (p).toNat (0)) (mA 24 (va_up (s9.2 24) (p).toNat (0)) (mA 23 (va_up (s9.2 23) (p).toNat (0)) (mA 22 (va_up (s9.2 22) (p).toNat (0)) s9))))) (va_up (va_up (va_up (va_up (va_up h9 (B + 19) (pz_z 1 8 (va_up (s9.2 22) (p).toNat (0)))) (B + 20) (pz_z 0 8 (va_up (s9.2 23) (p).toNat (0)))) (B + 21) (pz_z 0 8 (va_up (s9.2 24) (p).toNat (0)))) (B + 22) (pz_z 0 8 (va_up (s9.2 25) (p).toNat (0)))) (B + 23) (pz_z 0 8 (va_up (s9.2 26) (p).toNat (0)))) := mU26 hA14
  have hr15 : mPr p.toNat s (mA 26 (va_up (s9.2 26) (p).toNat (0)) (mA 25 (va_up (s9.2 25) (p).toNat (0)) (mA 24 (va_up (s9.2 24) (p).toNat (0)) (mA 23 (va_up (s9.2 23) (p).toNat (0)) (mA 22 (va_up (s9.2 22) (p).toNat (0)) s9))))) := mPr_tr hr14 (mPr_W (by decide) (by decide) (by decide))
  have hF15 : mFr B h (va_up (va_up (va_up (va_up (va_up h9 (B + 19) (pz_z 1 8 (va_up (s9.2 22) (p).toNat (0)))) (B + 20) (pz_z 0 8 (va_up (s9.2 23) (p).toNat (0)))) (B + 21) (pz_z 0 8 (va_up (s9.2 24) (p).toNat (0)))) (B + 22) (pz_z 0 8 (va_up (s9.2 25) (p).toNat (0)))) (B + 23) (pz_z 0 8 (va_up (s9.2 26) (p).toNat (0)))) := mFr_tr hF14 (mFr_up (by decide))
  refine pw_aload_n dX10_reset_77 rfl ?_
  refine pw_get (v := .ref (B + 24)) okX10 (k := 27) (by decide) lkX10_80 hA15.1 rfl dX10_reset_78 ?_
  refine pw_iload_n dX10_reset_81 rfl ?_
  refine pw_iconst (v := zI (0)) dX10_reset_82 (by decide) ?_
  refine pw_iast (t := 0) rfl (mF27 hA15) (by first | omega | exact mCell_b hp ko (by omega) (by omega) | exact mHis_b hp (by omega) (by omega)) (by decide) dX10_reset_83 ?_
  have hA16 : mAt B (mA 27 (va_up (s9.2 27) (p).toNat (0)) (mA 26 (va_up (s9.2 26) (p).toNat (0)) (mA 25 (va_up (s9.2 25) (p).toNat (0)) (mA 24 (va_up (s9.2 24) (p).toNat (0)) (mA 23 (va_up (s9.2 23) (p).toNat (0)) (mA 22 (va_up (s9.2 22) (p).toNat (0)) s9)))))) (va_up (va_up (va_up (va_up (va_up (va_up h9 (B + 19) (pz_z 1 8 (va_up (s9.2 22) (p).toNat (0)))) (B + 20) (pz_z 0 8 (va_up (s9.2 23) (p).toNat (0)))) (B + 21) (pz_z 0 8 (va_up (s9.2 24) (p).toNat (0)))) (B + 22) (pz_z 0 8 (va_up (s9.2 25) (p).toNat (0)))) (B + 23) (pz_z 0 8 (va_up (s9.2 26) (p).toNat (0)))) (B + 24) (pz_z 0 8 (va_up (s9.2 27) (p).toNat (0)))) := mU27 hA15
  have hr16 : mPr p.toNat s (mA 27 (va_up (s9.2 27) (p).toNat (0)) (mA 26 (va_up (s9.2 26) (p).toNat (0)) (mA 25 (va_up (s9.2 25) (p).toNat (0)) (mA 24 (va_up (s9.2 24) (p).toNat (0)) (mA 23 (va_up (s9.2 23) (p).toNat (0)) (mA 22 (va_up (s9.2 22) (p).toNat (0)) s9)))))) := mPr_tr hr15 (mPr_W (by decide) (by decide) (by decide))
  have hF16 : mFr B h (va_up (va_up (va_up (va_up (va_up (va_up h9 (B + 19) (pz_z 1 8 (va_up (s9.2 22) (p).toNat (0)))) (B + 20) (pz_z 0 8 (va_up (s9.2 23) (p).toNat (0)))) (B + 21) (pz_z 0 8 (va_up (s9.2 24) (p).toNat (0)))) (B + 22) (pz_z 0 8 (va_up (s9.2 25) (p).toNat (0)))) (B + 23) (pz_z 0 8 (va_up (s9.2 26) (p).toNat (0)))) (B + 24) (pz_z 0 8 (va_up (s9.2 27) (p).toNat (0)))) := mFr_tr hF15 (mFr_up (by decide))
  refine pw_aload_n dX10_reset_84 rfl ?_
  refine pw_get (v := .ref (B + 25)) okX10 (k := 28) (by decide) lkX10_83 hA16.1 rfl dX10_reset_85 ?_
  refine pw_iload_n dX10_reset_88 rfl ?_
  refine pw_iconst (v := zI (0)) dX10_reset_89 (by decide) ?_
  refine pw_iast (t := 0) rfl (mF28 hA16) (by first | omega | exact mCell_b hp ko (by omega) (by omega) | exact mHis_b hp (by omega) (by omega)) (by decide) dX10_reset_90 ?_
  have hA17 : mAt B (mA 28 (va_up (s9.2 28) (p).toNat (0)) (mA 27 (va_up (s9.2 27) (p).toNat (0)) (mA 26 (va_up (s9.2 26) (p).toNat (0)) (mA 25 (va_up (s9.2 25) (p).toNat (0)) (mA 24 (va_up (s9.2 24) (p).toNat (0)) (mA 23 (va_up (s9.2 23) (p).toNat (0)) (mA 22 (va_up (s9.2 22) (p).toNat (0)) s9))))))) (va_up (va_up (va_up (va_up (va_up (va_up (va_up h9 (B + 19) (pz_z 1 8 (va_up (s9.2 22) (p).toNat (0)))) (B + 20) (pz_z 0 8 (va_up (s9.2 23) (p).toNat (0)))) (B + 21) (pz_z 0 8 (va_up (s9.2 24) (p).toNat (0)))) (B + 22) (pz_z 0 8 (va_up (s9.2 25) (p).toNat (0)))) (B + 23) (pz_z 0 8 (va_up (s9.2 26) (p).toNat (0)))) (B + 24) (pz_z 0 8 (va_up (s9.2 27) (p).toNat (0)))) (B + 25) (pz_z 0 8 (va_up (s9.2 28) (p).toNat (0)))) := mU28 hA16
  have hr17 : mPr p.toNat s (mA 28 (va_up (s9.2 28) (p).toNat (0)) (mA 27 (va_up (s9.2 27) (p).toNat (0)) (mA 26 (va_up (s9.2 26) (p).toNat (0)) (mA 25 (va_up (s9.2 25) (p).toNat (0)) (mA 24 (va_up (s9.2 24) (p).toNat (0)) (mA 23 (va_up (s9.2 23) (p).toNat (0)) (mA 22 (va_up (s9.2 22) (p).toNat (0)) s9))))))) := mPr_tr hr16 (mPr_W (by decide) (by decide) (by decide))
  have hF17 : mFr B h (va_up (va_up (va_up (va_up (va_up (va_up (va_up h9 (B + 19) (pz_z 1 8 (va_up (s9.2 22) (p).toNat (0)))) (B + 20) (pz_z 0 8 (va_up (s9.2 23) (p).toNat (0)))) (B + 21) (pz_z 0 8 (va_up (s9.2 24) (p).toNat (0)))) (B + 22) (pz_z 0 8 (va_up (s9.2 25) (p).toNat (0)))) (B + 23) (pz_z 0 8 (va_up (s9.2 26) (p).toNat (0)))) (B + 24) (pz_z 0 8 (va_up (s9.2 27) (p).toNat (0)))) (B + 25) (pz_z 0 8 (va_up (s9.2 28) (p).toNat (0)))) := mFr_tr hF16 (mFr_up (by decide))
  refine pw_aload_n dX10_reset_91 rfl ?_
  refine pw_get (v := .ref (B + 26)) okX10 (k := 29) (by decide) lkX10_86 hA17.1 rfl dX10_reset_92 ?_
  refine pw_iload_n dX10_reset_95 rfl ?_
  refine pw_iconst (v := zI (0)) dX10_reset_96 (by decide) ?_
  refine pw_iast (t := 0) rfl (mF29 hA17) (by first | omega | exact mCell_b hp ko (by omega) (by omega) | exact mHis_b hp (by omega) (by omega)) (by decide) dX10_reset_97 ?_
  have hA18 : mAt B (mA 29 (va_up (s9.2 29) (p).toNat (0)) (mA 28 (va_up (s9.2 28) (p).toNat (0)) (mA 27 (va_up (s9.2 27) (p).toNat (0)) (mA 26 (va_up (s9.2 26) (p).toNat (0)) (mA 25 (va_up (s9.2 25) (p).toNat (0)) (mA 24 (va_up (s9.2 24) (p).toNat (0)) (mA 23 (va_up (s9.2 23) (p).toNat (0)) (mA 22 (va_up (s9.2 22) (p).toNat (0)) s9)))))))) (va_up (va_up (va_up (va_up (va_up (va_up (va_up (va_up h9 (B + 19) (pz_z 1 8 (va_up (s9.2 22) (p).toNat (0)))) (B + 20) (pz_z 0 8 (va_up (s9.2 23) (p).toNat (0)))) (B + 21) (pz_z 0 8 (va_up (s9.2 24) (p).toNat (0)))) (B + 22) (pz_z 0 8 (va_up (s9.2 25) (p).toNat (0)))) (B + 23) (pz_z 0 8 (va_up (s9.2 26) (p).toNat (0)))) (B + 24) (pz_z 0 8 (va_up (s9.2 27) (p).toNat (0)))) (B + 25) (pz_z 0 8 (va_up (s9.2 28) (p).toNat (0)))) (B + 26) (pz_z 0 8 (va_up (s9.2 29) (p).toNat (0)))) := mU29 hA17
  have hr18 : mPr p.toNat s (mA 29 (va_up (s9.2 29) (p).toNat (0)) (mA 28 (va_up (s9.2 28) (p).toNat (0)) (mA 27 (va_up (s9.2 27) (p).toNat (0)) (mA 26 (va_up (s9.2 26) (p).toNat (0)) (mA 25 (va_up (s9.2 25) (p).toNat (0)) (mA 24 (va_up (s9.2 24) (p).toNat (0)) (mA 23 (va_up (s9.2 23) (p).toNat (0)) (mA 22 (va_up (s9.2 22) (p).toNat (0)) s9)))))))) := mPr_tr hr17 (mPr_W (by decide) (by decide) (by decide))
  have hF18 : mFr B h (va_up (va_up (va_up (va_up (va_up (va_up (va_up (va_up h9 (B + 19) (pz_z 1 8 (va_up (s9.2 22) (p).toNat (0)))) (B + 20) (pz_z 0 8 (va_up (s9.2 23) (p).toNat (0)))) (B + 21) (pz_z 0 8 (va_up (s9.2 24) (p).toNat (0)))) (B + 22) (pz_z 0 8 (va_up (s9.2 25) (p).toNat (0)))) (B + 23) (pz_z 0 8 (va_up (s9.2 26) (p).toNat (0)))) (B + 24) (pz_z 0 8 (va_up (s9.2 27) (p).toNat (0)))) (B + 25) (pz_z 0 8 (va_up (s9.2 28) (p).toNat (0)))) (B + 26) (pz_z 0 8 (va_up (s9.2 29) (p).toNat (0)))) := mFr_tr hF17 (mFr_up (by decide))
  refine pw_aload_n dX10_reset_98 rfl ?_
  refine pw_get (v := .ref (B + 27)) okX10 (k := 30) (by decide) lkX10_89 hA18.1 rfl dX10_reset_99 ?_
  refine pw_iload_n dX10_reset_102 rfl ?_
  refine pw_aload_n dX10_reset_103 rfl ?_
  refine pw_get (v := .ref (B + 16)) okX10 (k := 19) (by decide) lkX10_56 hA18.1 rfl dX10_reset_104 ?_
  refine pw_iload_n dX10_reset_107 rfl ?_
  refine pw_iald (t := 0) rfl (mF19 hA18) (by first | omega | exact mCell_b hp ko (by omega) (by omega) | exact mHis_b hp (by omega) (by omega)) (by decide) dX10_reset_108 ?_
  refine pw_iconst (v := zI (1)) dX10_reset_109 (by decide) ?_
  refine pw_zisub dX10_reset_110 ?_
  refine pw_iast (t := 0) rfl (mF30 hA18) (by first | omega | exact mCell_b hp ko (by omega) (by omega) | exact mHis_b hp (by omega) (by omega)) (by decide) dX10_reset_111 ?_
  have hA19 : mAt B (mA 30 (va_up (s9.2 30) (p).toNat (((s9.2 19) (p).toNat) - (1))) (mA 29 (va_up (s9.2 29) (p).toNat (0)) (mA 28 (va_up (s9.2 28) (p).toNat (0)) (mA 27 (va_up (s9.2 27) (p).toNat (0)) (mA 26 (va_up (s9.2 26) (p).toNat (0)) (mA 25 (va_up (s9.2 25) (p).toNat (0)) (mA 24 (va_up (s9.2 24) (p).toNat (0)) (mA 23 (va_up (s9.2 23) (p).toNat (0)) (mA 22 (va_up (s9.2 22) (p).toNat (0)) s9))))))))) (va_up (va_up (va_up (va_up (va_up (va_up (va_up (va_up (va_up h9 (B + 19) (pz_z 1 8 (va_up (s9.2 22) (p).toNat (0)))) (B + 20) (pz_z 0 8 (va_up (s9.2 23) (p).toNat (0)))) (B + 21) (pz_z 0 8 (va_up (s9.2 24) (p).toNat (0)))) (B + 22) (pz_z 0 8 (va_up (s9.2 25) (p).toNat (0)))) (B + 23) (pz_z 0 8 (va_up (s9.2 26) (p).toNat (0)))) (B + 24) (pz_z 0 8 (va_up (s9.2 27) (p).toNat (0)))) (B + 25) (pz_z 0 8 (va_up (s9.2 28) (p).toNat (0)))) (B + 26) (pz_z 0 8 (va_up (s9.2 29) (p).toNat (0)))) (B + 27) (pz_z 0 8 (va_up (s9.2 30) (p).toNat (((s9.2 19) (p).toNat) - (1))))) := mU30 hA18
  have hr19 : mPr p.toNat s (mA 30 (va_up (s9.2 30) (p).toNat (((s9.2 19) (p).toNat) - (1))) (mA 29 (va_up (s9.2 29) (p).toNat (0)) (mA 28 (va_up (s9.2 28) (p).toNat (0)) (mA 27 (va_up (s9.2 27) (p).toNat (0)) (mA 26 (va_up (s9.2 26) (p).toNat (0)) (mA 25 (va_up (s9.2 25) (p).toNat (0)) (mA 24 (va_up (s9.2 24) (p).toNat (0)) (mA 23 (va_up (s9.2 23) (p).toNat (0)) (mA 22 (va_up (s9.2 22) (p).toNat (0)) s9))))))))) := mPr_tr hr18 (mPr_W (by decide) (by decide) (by decide))
  have hF19 : mFr B h (va_up (va_up (va_up (va_up (va_up (va_up (va_up (va_up (va_up h9 (B + 19) (pz_z 1 8 (va_up (s9.2 22) (p).toNat (0)))) (B + 20) (pz_z 0 8 (va_up (s9.2 23) (p).toNat (0)))) (B + 21) (pz_z 0 8 (va_up (s9.2 24) (p).toNat (0)))) (B + 22) (pz_z 0 8 (va_up (s9.2 25) (p).toNat (0)))) (B + 23) (pz_z 0 8 (va_up (s9.2 26) (p).toNat (0)))) (B + 24) (pz_z 0 8 (va_up (s9.2 27) (p).toNat (0)))) (B + 25) (pz_z 0 8 (va_up (s9.2 28) (p).toNat (0)))) (B + 26) (pz_z 0 8 (va_up (s9.2 29) (p).toNat (0)))) (B + 27) (pz_z 0 8 (va_up (s9.2 30) (p).toNat (((s9.2 19) (p).toNat) - (1))))) := mFr_tr hF18 (mFr_up (by decide))
  refine pw_aload_n dX10_reset_112 rfl ?_
  refine pw_get (v := .ref (B + 28)) okX10 (k := 31) (by decide) lkX10_92 hA19.1 rfl dX10_reset_113 ?_
  refine pw_iload_n dX10_reset_116 rfl ?_
  refine pw_iconst (v := zI (0)) dX10_reset_117 (by decide) ?_
  refine pw_zast (t := 1) rfl (mF31 hA19) (by first | omega | exact mCell_b hp ko (by omega) (by omega) | exact mHis_b hp (by omega) (by omega)) (by decide) (by omega) dX10_reset_118 ?_
  have hA20 : mAt B (mA 31 (va_up (s9.2 31) (p).toNat (0)) (mA 30 (va_up (s9.2 30) (p).toNat (((s9.2 19) (p).toNat) - (1))) (mA 29 (va_up (s9.2 29) (p).toNat (0)) (mA 28 (va_up (s9.2 28) (p).toNat (0)) (mA 27 (va_up (s9.2 27) (p).toNat (0)) (mA 26 (va_up (s9.2 26) (p).toNat (0)) (mA 25 (va_up (s9.2 25) (p).toNat (0)) (mA 24 (va_up (s9.2 24) (p).toNat (0)) (mA 23 (va_up (s9.2 23) (p).toNat (0)) (mA 22 (va_up (s9.2 22) (p).toNat (0)) s9)))))))))) (va_up (va_up (va_up (va_up (va_up (va_up (va_up (va_up (va_up (va_up h9 (B + 19) (pz_z 1 8 (va_up (s9.2 22) (p).toNat (0)))) (B + 20) (pz_z 0 8 (va_up (s9.2 23) (p).toNat (0)))) (B + 21) (pz_z 0 8 (va_up (s9.2 24) (p).toNat (0)))) (B + 22) (pz_z 0 8 (va_up (s9.2 25) (p).toNat (0)))) (B + 23) (pz_z 0 8 (va_up (s9.2 26) (p).toNat (0)))) (B + 24) (pz_z 0 8 (va_up (s9.2 27) (p).toNat (0)))) (B + 25) (pz_z 0 8 (va_up (s9.2 28) (p).toNat (0)))) (B + 26) (pz_z 0 8 (va_up (s9.2 29) (p).toNat (0)))) (B + 27) (pz_z 0 8 (va_up (s9.2 30) (p).toNat (((s9.2 19) (p).toNat) - (1))))) (B + 28) (pz_z 1 8 (va_up (s9.2 31) (p).toNat (0)))) := mU31 hA19
  have hr20 : mPr p.toNat s (mA 31 (va_up (s9.2 31) (p).toNat (0)) (mA 30 (va_up (s9.2 30) (p).toNat (((s9.2 19) (p).toNat) - (1))) (mA 29 (va_up (s9.2 29) (p).toNat (0)) (mA 28 (va_up (s9.2 28) (p).toNat (0)) (mA 27 (va_up (s9.2 27) (p).toNat (0)) (mA 26 (va_up (s9.2 26) (p).toNat (0)) (mA 25 (va_up (s9.2 25) (p).toNat (0)) (mA 24 (va_up (s9.2 24) (p).toNat (0)) (mA 23 (va_up (s9.2 23) (p).toNat (0)) (mA 22 (va_up (s9.2 22) (p).toNat (0)) s9)))))))))) := mPr_tr hr19 (mPr_W (by decide) (by decide) (by decide))
  have hF20 : mFr B h (va_up (va_up (va_up (va_up (va_up (va_up (va_up (va_up (va_up (va_up h9 (B + 19) (pz_z 1 8 (va_up (s9.2 22) (p).toNat (0)))) (B + 20) (pz_z 0 8 (va_up (s9.2 23) (p).toNat (0)))) (B + 21) (pz_z 0 8 (va_up (s9.2 24) (p).toNat (0)))) (B + 22) (pz_z 0 8 (va_up (s9.2 25) (p).toNat (0)))) (B + 23) (pz_z 0 8 (va_up (s9.2 26) (p).toNat (0)))) (B + 24) (pz_z 0 8 (va_up (s9.2 27) (p).toNat (0)))) (B + 25) (pz_z 0 8 (va_up (s9.2 28) (p).toNat (0)))) (B + 26) (pz_z 0 8 (va_up (s9.2 29) (p).toNat (0)))) (B + 27) (pz_z 0 8 (va_up (s9.2 30) (p).toNat (((s9.2 19) (p).toNat) - (1))))) (B + 28) (pz_z 1 8 (va_up (s9.2 31) (p).toNat (0)))) := mFr_tr hF19 (mFr_up (by decide))
  refine pw_aload_n dX10_reset_119 rfl ?_
  refine pw_get (v := .ref (B + 29)) okX10 (k := 32) (by decide) lkX10_95 hA20.1 rfl dX10_reset_120 ?_
  refine pw_iload_n dX10_reset_123 rfl ?_
  refine pw_iconst (v := zI (0)) dX10_reset_124 (by decide) ?_
  refine pw_zast (t := 1) rfl (mF32 hA20) (by first | omega | exact mCell_b hp ko (by omega) (by omega) | exact mHis_b hp (by omega) (by omega)) (by decide) (by omega) dX10_reset_125 ?_
  have hA21 : mAt B (mA 32 (va_up (s9.2 32) (p).toNat (0)) (mA 31 (va_up (s9.2 31) (p).toNat (0)) (mA 30 (va_up (s9.2 30) (p).toNat (((s9.2 19) (p).toNat) - (1))) (mA 29 (va_up (s9.2 29) (p).toNat (0)) (mA 28 (va_up (s9.2 28) (p).toNat (0)) (mA 27 (va_up (s9.2 27) (p).toNat (0)) (mA 26 (va_up (s9.2 26) (p).toNat (0)) (mA 25 (va_up (s9.2 25) (p).toNat (0)) (mA 24 (va_up (s9.2 24) (p).toNat (0)) (mA 23 (va_up (s9.2 23) (p).toNat (0)) (mA 22 (va_up (s9.2 22) (p).toNat (0)) s9))))))))))) (va_up (va_up (va_up (va_up (va_up (va_up (va_up (va_up (va_up (va_up (va_up h9 (B + 19) (pz_z 1 8 (va_up (s9.2 22) (p).toNat (0)))) (B + 20) (pz_z 0 8 (va_up (s9.2 23) (p).toNat (0)))) (B + 21) (pz_z 0 8 (va_up (s9.2 24) (p).toNat (0)))) (B + 22) (pz_z 0 8 (va_up (s9.2 25) (p).toNat (0)))) (B + 23) (pz_z 0 8 (va_up (s9.2 26) (p).toNat (0)))) (B + 24) (pz_z 0 8 (va_up (s9.2 27) (p).toNat (0)))) (B + 25) (pz_z 0 8 (va_up (s9.2 28) (p).toNat (0)))) (B + 26) (pz_z 0 8 (va_up (s9.2 29) (p).toNat (0)))) (B + 27) (pz_z 0 8 (va_up (s9.2 30) (p).toNat (((s9.2 19) (p).toNat) - (1))))) (B + 28) (pz_z 1 8 (va_up (s9.2 31) (p).toNat (0)))) (B + 29) (pz_z 1 8 (va_up (s9.2 32) (p).toNat (0)))) := mU32 hA20
  have hr21 : mPr p.toNat s (mA 32 (va_up (s9.2 32) (p).toNat (0)) (mA 31 (va_up (s9.2 31) (p).toNat (0)) (mA 30 (va_up (s9.2 30) (p).toNat (((s9.2 19) (p).toNat) - (1))) (mA 29 (va_up (s9.2 29) (p).toNat (0)) (mA 28 (va_up (s9.2 28) (p).toNat (0)) (mA 27 (va_up (s9.2 27) (p).toNat (0)) (mA 26 (va_up (s9.2 26) (p).toNat (0)) (mA 25 (va_up (s9.2 25) (p).toNat (0)) (mA 24 (va_up (s9.2 24) (p).toNat (0)) (mA 23 (va_up (s9.2 23) (p).toNat (0)) (mA 22 (va_up (s9.2 22) (p).toNat (0)) s9))))))))))) := mPr_tr hr20 (mPr_W (by decide) (by decide) (by decide))
  have hF21 : mFr B h (va_up (va_up (va_up (va_up (va_up (va_up (va_up (va_up (va_up (va_up (va_up h9 (B + 19) (pz_z 1 8 (va_up (s9.2 22) (p).toNat (0)))) (B + 20) (pz_z 0 8 (va_up (s9.2 23) (p).toNat (0)))) (B + 21) (pz_z 0 8 (va_up (s9.2 24) (p).toNat (0)))) (B + 22) (pz_z 0 8 (va_up (s9.2 25) (p).toNat (0)))) (B + 23) (pz_z 0 8 (va_up (s9.2 26) (p).toNat (0)))) (B + 24) (pz_z 0 8 (va_up (s9.2 27) (p).toNat (0)))) (B + 25) (pz_z 0 8 (va_up (s9.2 28) (p).toNat (0)))) (B + 26) (pz_z 0 8 (va_up (s9.2 29) (p).toNat (0)))) (B + 27) (pz_z 0 8 (va_up (s9.2 30) (p).toNat (((s9.2 19) (p).toNat) - (1))))) (B + 28) (pz_z 1 8 (va_up (s9.2 31) (p).toNat (0)))) (B + 29) (pz_z 1 8 (va_up (s9.2 32) (p).toNat (0)))) := mFr_tr hF20 (mFr_up (by decide))
  refine pw_aload_n dX10_reset_126 rfl ?_
  refine pw_get (v := .ref (B + 30)) okX10 (k := 33) (by decide) lkX10_98 hA21.1 rfl dX10_reset_127 ?_
  refine pw_iload_n dX10_reset_130 rfl ?_
  refine pw_iconst (v := zI (1)) dX10_reset_131 (by decide) ?_
  refine pw_zast (t := 1) rfl (mF33 hA21) (by first | omega | exact mCell_b hp ko (by omega) (by omega) | exact mHis_b hp (by omega) (by omega)) (by decide) (by omega) dX10_reset_132 ?_
  have hA22 : mAt B (mA 33 (va_up (s9.2 33) (p).toNat (1)) (mA 32 (va_up (s9.2 32) (p).toNat (0)) (mA 31 (va_up (s9.2 31) (p).toNat (0)) (mA 30 (va_up (s9.2 30) (p).toNat (((s9.2 19) (p).toNat) - (1))) (mA 29 (va_up (s9.2 29) (p).toNat (0)) (mA 28 (va_up (s9.2 28) (p).toNat (0)) (mA 27 (va_up (s9.2 27) (p).toNat (0)) (mA 26 (va_up (s9.2 26) (p).toNat (0)) (mA 25 (va_up (s9.2 25) (p).toNat (0)) (mA 24 (va_up (s9.2 24) (p).toNat (0)) (mA 23 (va_up (s9.2 23) (p).toNat (0)) (mA 22 (va_up (s9.2 22) (p).toNat (0)) s9)))))))))))) (va_up (va_up (va_up (va_up (va_up (va_up (va_up (va_up (va_up (va_up (va_up (va_up h9 (B + 19) (pz_z 1 8 (va_up (s9.2 22) (p).toNat (0)))) (B + 20) (pz_z 0 8 (va_up (s9.2 23) (p).toNat (0)))) (B + 21) (pz_z 0 8 (va_up (s9.2 24) (p).toNat (0)))) (B + 22) (pz_z 0 8 (va_up (s9.2 25) (p).toNat (0)))) (B + 23) (pz_z 0 8 (va_up (s9.2 26) (p).toNat (0)))) (B + 24) (pz_z 0 8 (va_up (s9.2 27) (p).toNat (0)))) (B + 25) (pz_z 0 8 (va_up (s9.2 28) (p).toNat (0)))) (B + 26) (pz_z 0 8 (va_up (s9.2 29) (p).toNat (0)))) (B + 27) (pz_z 0 8 (va_up (s9.2 30) (p).toNat (((s9.2 19) (p).toNat) - (1))))) (B + 28) (pz_z 1 8 (va_up (s9.2 31) (p).toNat (0)))) (B + 29) (pz_z 1 8 (va_up (s9.2 32) (p).toNat (0)))) (B + 30) (pz_z 1 8 (va_up (s9.2 33) (p).toNat (1)))) := mU33 hA21
  have hr22 : mPr p.toNat s (mA 33 (va_up (s9.2 33) (p).toNat (1)) (mA 32 (va_up (s9.2 32) (p).toNat (0)) (mA 31 (va_up (s9.2 31) (p).toNat (0)) (mA 30 (va_up (s9.2 30) (p).toNat (((s9.2 19) (p).toNat) - (1))) (mA 29 (va_up (s9.2 29) (p).toNat (0)) (mA 28 (va_up (s9.2 28) (p).toNat (0)) (mA 27 (va_up (s9.2 27) (p).toNat (0)) (mA 26 (va_up (s9.2 26) (p).toNat (0)) (mA 25 (va_up (s9.2 25) (p).toNat (0)) (mA 24 (va_up (s9.2 24) (p).toNat (0)) (mA 23 (va_up (s9.2 23) (p).toNat (0)) (mA 22 (va_up (s9.2 22) (p).toNat (0)) s9)))))))))))) := mPr_tr hr21 (mPr_W (by decide) (by decide) (by decide))
  have hF22 : mFr B h (va_up (va_up (va_up (va_up (va_up (va_up (va_up (va_up (va_up (va_up (va_up (va_up h9 (B + 19) (pz_z 1 8 (va_up (s9.2 22) (p).toNat (0)))) (B + 20) (pz_z 0 8 (va_up (s9.2 23) (p).toNat (0)))) (B + 21) (pz_z 0 8 (va_up (s9.2 24) (p).toNat (0)))) (B + 22) (pz_z 0 8 (va_up (s9.2 25) (p).toNat (0)))) (B + 23) (pz_z 0 8 (va_up (s9.2 26) (p).toNat (0)))) (B + 24) (pz_z 0 8 (va_up (s9.2 27) (p).toNat (0)))) (B + 25) (pz_z 0 8 (va_up (s9.2 28) (p).toNat (0)))) (B + 26) (pz_z 0 8 (va_up (s9.2 29) (p).toNat (0)))) (B + 27) (pz_z 0 8 (va_up (s9.2 30) (p).toNat (((s9.2 19) (p).toNat) - (1))))) (B + 28) (pz_z 1 8 (va_up (s9.2 31) (p).toNat (0)))) (B + 29) (pz_z 1 8 (va_up (s9.2 32) (p).toNat (0)))) (B + 30) (pz_z 1 8 (va_up (s9.2 33) (p).toNat (1)))) := mFr_tr hF21 (mFr_up (by decide))
  refine pw_aload_n dX10_reset_133 rfl ?_
  refine pw_get (v := .ref (B + 31)) okX10 (k := 34) (by decide) lkX10_101 hA22.1 rfl dX10_reset_134 ?_
  refine pw_iload_n dX10_reset_137 rfl ?_
  refine pw_iconst (v := zI (0)) dX10_reset_138 (by decide) ?_
  refine pw_zast (t := 1) rfl (mF34 hA22) (by first | omega | exact mCell_b hp ko (by omega) (by omega) | exact mHis_b hp (by omega) (by omega)) (by decide) (by omega) dX10_reset_139 ?_
  have hA23 : mAt B (mA 34 (va_up (s9.2 34) (p).toNat (0)) (mA 33 (va_up (s9.2 33) (p).toNat (1)) (mA 32 (va_up (s9.2 32) (p).toNat (0)) (mA 31 (va_up (s9.2 31) (p).toNat (0)) (mA 30 (va_up (s9.2 30) (p).toNat (((s9.2 19) (p).toNat) - (1))) (mA 29 (va_up (s9.2 29) (p).toNat (0)) (mA 28 (va_up (s9.2 28) (p).toNat (0)) (mA 27 (va_up (s9.2 27) (p).toNat (0)) (mA 26 (va_up (s9.2 26) (p).toNat (0)) (mA 25 (va_up (s9.2 25) (p).toNat (0)) (mA 24 (va_up (s9.2 24) (p).toNat (0)) (mA 23 (va_up (s9.2 23) (p).toNat (0)) (mA 22 (va_up (s9.2 22) (p).toNat (0)) s9))))))))))))) (va_up (va_up (va_up (va_up (va_up (va_up (va_up (va_up (va_up (va_up (va_up (va_up (va_up h9 (B + 19) (pz_z 1 8 (va_up (s9.2 22) (p).toNat (0)))) (B + 20) (pz_z 0 8 (va_up (s9.2 23) (p).toNat (0)))) (B + 21) (pz_z 0 8 (va_up (s9.2 24) (p).toNat (0)))) (B + 22) (pz_z 0 8 (va_up (s9.2 25) (p).toNat (0)))) (B + 23) (pz_z 0 8 (va_up (s9.2 26) (p).toNat (0)))) (B + 24) (pz_z 0 8 (va_up (s9.2 27) (p).toNat (0)))) (B + 25) (pz_z 0 8 (va_up (s9.2 28) (p).toNat (0)))) (B + 26) (pz_z 0 8 (va_up (s9.2 29) (p).toNat (0)))) (B + 27) (pz_z 0 8 (va_up (s9.2 30) (p).toNat (((s9.2 19) (p).toNat) - (1))))) (B + 28) (pz_z 1 8 (va_up (s9.2 31) (p).toNat (0)))) (B + 29) (pz_z 1 8 (va_up (s9.2 32) (p).toNat (0)))) (B + 30) (pz_z 1 8 (va_up (s9.2 33) (p).toNat (1)))) (B + 31) (pz_z 1 8 (va_up (s9.2 34) (p).toNat (0)))) := mU34 hA22
  have hr23 : mPr p.toNat s (mA 34 (va_up (s9.2 34) (p).toNat (0)) (mA 33 (va_up (s9.2 33) (p).toNat (1)) (mA 32 (va_up (s9.2 32) (p).toNat (0)) (mA 31 (va_up (s9.2 31) (p).toNat (0)) (mA 30 (va_up (s9.2 30) (p).toNat (((s9.2 19) (p).toNat) - (1))) (mA 29 (va_up (s9.2 29) (p).toNat (0)) (mA 28 (va_up (s9.2 28) (p).toNat (0)) (mA 27 (va_up (s9.2 27) (p).toNat (0)) (mA 26 (va_up (s9.2 26) (p).toNat (0)) (mA 25 (va_up (s9.2 25) (p).toNat (0)) (mA 24 (va_up (s9.2 24) (p).toNat (0)) (mA 23 (va_up (s9.2 23) (p).toNat (0)) (mA 22 (va_up (s9.2 22) (p).toNat (0)) s9))))))))))))) := mPr_tr hr22 (mPr_W (by decide) (by decide) (by decide))
  have hF23 : mFr B h (va_up (va_up (va_up (va_up (va_up (va_up (va_up (va_up (va_up (va_up (va_up (va_up (va_up h9 (B + 19) (pz_z 1 8 (va_up (s9.2 22) (p).toNat (0)))) (B + 20) (pz_z 0 8 (va_up (s9.2 23) (p).toNat (0)))) (B + 21) (pz_z 0 8 (va_up (s9.2 24) (p).toNat (0)))) (B + 22) (pz_z 0 8 (va_up (s9.2 25) (p).toNat (0)))) (B + 23) (pz_z 0 8 (va_up (s9.2 26) (p).toNat (0)))) (B + 24) (pz_z 0 8 (va_up (s9.2 27) (p).toNat (0)))) (B + 25) (pz_z 0 8 (va_up (s9.2 28) (p).toNat (0)))) (B + 26) (pz_z 0 8 (va_up (s9.2 29) (p).toNat (0)))) (B + 27) (pz_z 0 8 (va_up (s9.2 30) (p).toNat (((s9.2 19) (p).toNat) - (1))))) (B + 28) (pz_z 1 8 (va_up (s9.2 31) (p).toNat (0)))) (B + 29) (pz_z 1 8 (va_up (s9.2 32) (p).toNat (0)))) (B + 30) (pz_z 1 8 (va_up (s9.2 33) (p).toNat (1)))) (B + 31) (pz_z 1 8 (va_up (s9.2 34) (p).toNat (0)))) := mFr_tr hF22 (mFr_up (by decide))
  refine pw_aload_n dX10_reset_140 rfl ?_
  refine pw_get (v := .ref (B + 32)) okX10 (k := 35) (by decide) lkX10_104 hA23.1 rfl dX10_reset_141 ?_
  refine pw_iload_n dX10_reset_144 rfl ?_
  refine pw_iconst (v := zI (0)) dX10_reset_145 (by decide) ?_
  refine pw_iast (t := 0) rfl (mF35 hA23) (by first | omega | exact mCell_b hp ko (by omega) (by omega) | exact mHis_b hp (by omega) (by omega)) (by decide) dX10_reset_146 ?_
  have hA24 : mAt B (mA 35 (va_up (s9.2 35) (p).toNat (0)) (mA 34 (va_up (s9.2 34) (p).toNat (0)) (mA 33 (va_up (s9.2 33) (p).toNat (1)) (mA 32 (va_up (s9.2 32) (p).toNat (0)) (mA 31 (va_up (s9.2 31) (p).toNat (0)) (mA 30 (va_up (s9.2 30) (p).toNat (((s9.2 19) (p).toNat) - (1))) (mA 29 (va_up (s9.2 29) (p).toNat (0)) (mA 28 (va_up (s9.2 28) (p).toNat (0)) (mA 27 (va_up (s9.2 27) (p).toNat (0)) (mA 26 (va_up (s9.2 26) (p).toNat (0)) (mA 25 (va_up (s9.2 25) (p).toNat (0)) (mA 24 (va_up (s9.2 24) (p).toNat (0)) (mA 23 (va_up (s9.2 23) (p).toNat (0)) (mA 22 (va_up (s9.2 22) (p).toNat (0)) s9)))))))))))))) (va_up (va_up (va_up (va_up (va_up (va_up (va_up (va_up (va_up (va_up (va_up (va_up (va_up (va_up h9 (B + 19) (pz_z 1 8 (va_up (s9.2 22) (p).toNat (0)))) (B + 20) (pz_z 0 8 (va_up (s9.2 23) (p).toNat (0)))) (B + 21) (pz_z 0 8 (va_up (s9.2 24) (p).toNat (0)))) (B + 22) (pz_z 0 8 (va_up (s9.2 25) (p).toNat (0)))) (B + 23) (pz_z 0 8 (va_up (s9.2 26) (p).toNat (0)))) (B + 24) (pz_z 0 8 (va_up (s9.2 27) (p).toNat (0)))) (B + 25) (pz_z 0 8 (va_up (s9.2 28) (p).toNat (0)))) (B + 26) (pz_z 0 8 (va_up (s9.2 29) (p).toNat (0)))) (B + 27) (pz_z 0 8 (va_up (s9.2 30) (p).toNat (((s9.2 19) (p).toNat) - (1))))) (B + 28) (pz_z 1 8 (va_up (s9.2 31) (p).toNat (0)))) (B + 29) (pz_z 1 8 (va_up (s9.2 32) (p).toNat (0)))) (B + 30) (pz_z 1 8 (va_up (s9.2 33) (p).toNat (1)))) (B + 31) (pz_z 1 8 (va_up (s9.2 34) (p).toNat (0)))) (B + 32) (pz_z 0 8 (va_up (s9.2 35) (p).toNat (0)))) := mU35 hA23
  have hr24 : mPr p.toNat s (mA 35 (va_up (s9.2 35) (p).toNat (0)) (mA 34 (va_up (s9.2 34) (p).toNat (0)) (mA 33 (va_up (s9.2 33) (p).toNat (1)) (mA 32 (va_up (s9.2 32) (p).toNat (0)) (mA 31 (va_up (s9.2 31) (p).toNat (0)) (mA 30 (va_up (s9.2 30) (p).toNat (((s9.2 19) (p).toNat) - (1))) (mA 29 (va_up (s9.2 29) (p).toNat (0)) (mA 28 (va_up (s9.2 28) (p).toNat (0)) (mA 27 (va_up (s9.2 27) (p).toNat (0)) (mA 26 (va_up (s9.2 26) (p).toNat (0)) (mA 25 (va_up (s9.2 25) (p).toNat (0)) (mA 24 (va_up (s9.2 24) (p).toNat (0)) (mA 23 (va_up (s9.2 23) (p).toNat (0)) (mA 22 (va_up (s9.2 22) (p).toNat (0)) s9)))))))))))))) := mPr_tr hr23 (mPr_W (by decide) (by decide) (by decide))
  have hF24 : mFr B h (va_up (va_up (va_up (va_up (va_up (va_up (va_up (va_up (va_up (va_up (va_up (va_up (va_up (va_up h9 (B + 19) (pz_z 1 8 (va_up (s9.2 22) (p).toNat (0)))) (B + 20) (pz_z 0 8 (va_up (s9.2 23) (p).toNat (0)))) (B + 21) (pz_z 0 8 (va_up (s9.2 24) (p).toNat (0)))) (B + 22) (pz_z 0 8 (va_up (s9.2 25) (p).toNat (0)))) (B + 23) (pz_z 0 8 (va_up (s9.2 26) (p).toNat (0)))) (B + 24) (pz_z 0 8 (va_up (s9.2 27) (p).toNat (0)))) (B + 25) (pz_z 0 8 (va_up (s9.2 28) (p).toNat (0)))) (B + 26) (pz_z 0 8 (va_up (s9.2 29) (p).toNat (0)))) (B + 27) (pz_z 0 8 (va_up (s9.2 30) (p).toNat (((s9.2 19) (p).toNat) - (1))))) (B + 28) (pz_z 1 8 (va_up (s9.2 31) (p).toNat (0)))) (B + 29) (pz_z 1 8 (va_up (s9.2 32) (p).toNat (0)))) (B + 30) (pz_z 1 8 (va_up (s9.2 33) (p).toNat (1)))) (B + 31) (pz_z 1 8 (va_up (s9.2 34) (p).toNat (0)))) (B + 32) (pz_z 0 8 (va_up (s9.2 35) (p).toNat (0)))) := mFr_tr hF23 (mFr_up (by decide))
  refine pw_aload_n dX10_reset_147 rfl ?_
  refine pw_get (v := .ref (B + 39)) okX10 (k := 42) (by decide) lkX10_125 hA24.1 rfl dX10_reset_148 ?_
  refine pw_iload_n dX10_reset_151 rfl ?_
  refine pw_iconst (v := zI (0)) dX10_reset_152 (by decide) ?_
  refine pw_iast (t := 0) rfl (mF42 hA24) (by first | omega | exact mCell_b hp ko (by omega) (by omega) | exact mHis_b hp (by omega) (by omega)) (by decide) dX10_reset_153 ?_
  have hA25 : mAt B (mA 42 (va_up (s9.2 42) (p).toNat (0)) (mA 35 (va_up (s9.2 35) (p).toNat (0)) (mA 34 (va_up (s9.2 34) (p).toNat (0)) (mA 33 (va_up (s9.2 33) (p).toNat (1)) (mA 32 (va_up (s9.2 32) (p).toNat (0)) (mA 31 (va_up (s9.2 31) (p).toNat (0)) (mA 30 (va_up (s9.2 30) (p).toNat (((s9.2 19) (p).toNat) - (1))) (mA 29 (va_up (s9.2 29) (p).toNat (0)) (mA 28 (va_up (s9.2 28) (p).toNat (0)) (mA 27 (va_up (s9.2 27) (p).toNat (0)) (mA 26 (va_up (s9.2 26) (p).toNat (0)) (mA 25 (va_up (s9.2 25) (p).toNat (0)) (mA 24 (va_up (s9.2 24) (p).toNat (0)) (mA 23 (va_up (s9.2 23) (p).toNat (0)) (mA 22 (va_up (s9.2 22) (p).toNat (0)) s9))))))))))))))) (va_up (va_up (va_up (va_up (va_up (va_up (va_up (va_up (va_up (va_up (va_up (va_up (va_up (va_up (va_up h9 (B + 19) (pz_z 1 8 (va_up (s9.2 22) (p).toNat (0)))) (B + 20) (pz_z 0 8 (va_up (s9.2 23) (p).toNat (0)))) (B + 21) (pz_z 0 8 (va_up (s9.2 24) (p).toNat (0)))) (B + 22) (pz_z 0 8 (va_up (s9.2 25) (p).toNat (0)))) (B + 23) (pz_z 0 8 (va_up (s9.2 26) (p).toNat (0)))) (B + 24) (pz_z 0 8 (va_up (s9.2 27) (p).toNat (0)))) (B + 25) (pz_z 0 8 (va_up (s9.2 28) (p).toNat (0)))) (B + 26) (pz_z 0 8 (va_up (s9.2 29) (p).toNat (0)))) (B + 27) (pz_z 0 8 (va_up (s9.2 30) (p).toNat (((s9.2 19) (p).toNat) - (1))))) (B + 28) (pz_z 1 8 (va_up (s9.2 31) (p).toNat (0)))) (B + 29) (pz_z 1 8 (va_up (s9.2 32) (p).toNat (0)))) (B + 30) (pz_z 1 8 (va_up (s9.2 33) (p).toNat (1)))) (B + 31) (pz_z 1 8 (va_up (s9.2 34) (p).toNat (0)))) (B + 32) (pz_z 0 8 (va_up (s9.2 35) (p).toNat (0)))) (B + 39) (pz_z 0 8 (va_up (s9.2 42) (p).toNat (0)))) := mU42 hA24
  have hr25 : mPr p.toNat s (mA 42 (va_up (s9.2 42) (p).toNat (0)) (mA 35 (va_up (s9.2 35) (p).toNat (0)) (mA 34 (va_up (s9.2 34) (p).toNat (0)) (mA 33 (va_up (s9.2 33) (p).toNat (1)) (mA 32 (va_up (s9.2 32) (p).toNat (0)) (mA 31 (va_up (s9.2 31) (p).toNat (0)) (mA 30 (va_up (s9.2 30) (p).toNat (((s9.2 19) (p).toNat) - (1))) (mA 29 (va_up (s9.2 29) (p).toNat (0)) (mA 28 (va_up (s9.2 28) (p).toNat (0)) (mA 27 (va_up (s9.2 27) (p).toNat (0)) (mA 26 (va_up (s9.2 26) (p).toNat (0)) (mA 25 (va_up (s9.2 25) (p).toNat (0)) (mA 24 (va_up (s9.2 24) (p).toNat (0)) (mA 23 (va_up (s9.2 23) (p).toNat (0)) (mA 22 (va_up (s9.2 22) (p).toNat (0)) s9))))))))))))))) := mPr_tr hr24 (mPr_W (by decide) (by decide) (by decide))
  have hF25 : mFr B h (va_up (va_up (va_up (va_up (va_up (va_up (va_up (va_up (va_up (va_up (va_up (va_up (va_up (va_up (va_up h9 (B + 19) (pz_z 1 8 (va_up (s9.2 22) (p).toNat (0)))) (B + 20) (pz_z 0 8 (va_up (s9.2 23) (p).toNat (0)))) (B + 21) (pz_z 0 8 (va_up (s9.2 24) (p).toNat (0)))) (B + 22) (pz_z 0 8 (va_up (s9.2 25) (p).toNat (0)))) (B + 23) (pz_z 0 8 (va_up (s9.2 26) (p).toNat (0)))) (B + 24) (pz_z 0 8 (va_up (s9.2 27) (p).toNat (0)))) (B + 25) (pz_z 0 8 (va_up (s9.2 28) (p).toNat (0)))) (B + 26) (pz_z 0 8 (va_up (s9.2 29) (p).toNat (0)))) (B + 27) (pz_z 0 8 (va_up (s9.2 30) (p).toNat (((s9.2 19) (p).toNat) - (1))))) (B + 28) (pz_z 1 8 (va_up (s9.2 31) (p).toNat (0)))) (B + 29) (pz_z 1 8 (va_up (s9.2 32) (p).toNat (0)))) (B + 30) (pz_z 1 8 (va_up (s9.2 33) (p).toNat (1)))) (B + 31) (pz_z 1 8 (va_up (s9.2 34) (p).toNat (0)))) (B + 32) (pz_z 0 8 (va_up (s9.2 35) (p).toNat (0)))) (B + 39) (pz_z 0 8 (va_up (s9.2 42) (p).toNat (0)))) := mFr_tr hF24 (mFr_up (by decide))
  have hkz : mPk (mA 42 (va_up (s9.2 42) (p).toNat (0)) (mA 35 (va_up (s9.2 35) (p).toNat (0)) (mA 34 (va_up (s9.2 34) (p).toNat (0)) (mA 33 (va_up (s9.2 33) (p).toNat (1)) (mA 32 (va_up (s9.2 32) (p).toNat (0)) (mA 31 (va_up (s9.2 31) (p).toNat (0)) (mA 30 (va_up (s9.2 30) (p).toNat (((s9.2 19) (p).toNat) - (1))) (mA 29 (va_up (s9.2 29) (p).toNat (0)) (mA 28 (va_up (s9.2 28) (p).toNat (0)) (mA 27 (va_up (s9.2 27) (p).toNat (0)) (mA 26 (va_up (s9.2 26) (p).toNat (0)) (mA 25 (va_up (s9.2 25) (p).toNat (0)) (mA 24 (va_up (s9.2 24) (p).toNat (0)) (mA 23 (va_up (s9.2 23) (p).toNat (0)) (mA 22 (va_up (s9.2 22) (p).toNat (0)) s9))))))))))))))) p.toNat := by
    refine ⟨?_, ?_, ?_, ?_, ?_, ?_, ?_, ?_, ?_, ?_, ?_, ?_, ?_, ?_, ?_, ?_, ?_, ?_, ?_, ?_, ?_⟩
    all_goals (simp only [mA, va_up]; simp [va_up_self]; first | done | omega | exact knu)
  exact pw_vret dX10_reset_154 rfl (nle rfl) (nle rfl) ⟨rfl, (mA 42 (va_up (s9.2 42) (p).toNat (0)) (mA 35 (va_up (s9.2 35) (p).toNat (0)) (mA 34 (va_up (s9.2 34) (p).toNat (0)) (mA 33 (va_up (s9.2 33) (p).toNat (1)) (mA 32 (va_up (s9.2 32) (p).toNat (0)) (mA 31 (va_up (s9.2 31) (p).toNat (0)) (mA 30 (va_up (s9.2 30) (p).toNat (((s9.2 19) (p).toNat) - (1))) (mA 29 (va_up (s9.2 29) (p).toNat (0)) (mA 28 (va_up (s9.2 28) (p).toNat (0)) (mA 27 (va_up (s9.2 27) (p).toNat (0)) (mA 26 (va_up (s9.2 26) (p).toNat (0)) (mA 25 (va_up (s9.2 25) (p).toNat (0)) (mA 24 (va_up (s9.2 24) (p).toNat (0)) (mA 23 (va_up (s9.2 23) (p).toNat (0)) (mA 22 (va_up (s9.2 22) (p).toNat (0)) s9))))))))))))))), hA25, hkz, hr25, hF25, rfl⟩
