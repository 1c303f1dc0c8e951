def YX10_resize : pw_Y := (RX10, "resize", cX10_resize, 7, none)
theorem ywX10_resize : pw_y yX10_resize YX10_resize 3 := ⟨by decide +kernel, by decide +kernel, by decide +kernel, pw_in 1546 (by decide +kernel) (by decide +kernel), pw_in 106 (by decide +kernel) (by decide +kernel)⟩
def YX10_freeNode : pw_Y := (RX10, "freeNode", cX10_freeNode, 2, (some .int))
theorem ywX10_freeNode : pw_y yX10_freeNode YX10_freeNode 0 := ⟨by decide +kernel, by decide +kernel, by decide +kernel, pw_in 1538 (by decide +kernel) (by decide +kernel), pw_in 106 (by decide +kernel) (by decide +kernel)⟩
/-! ===== the reference: begin, resize, lay, split ===== -/
/-- the same state, but for the panes' arrays -/
def mG (s : mS) (g : Nat → Nat → Int) : mS := (s.1, fun k => if k < 18 ∨ 45 < k then s.2 k else g k)
theorem mG_of {s s1 : mS} (h1 : s1.1 = s.1) (h2 : ∀ k, (k < 18 ∨ 45 < k) → s1.2 k = s.2 k) : mG s s1.2 = s1 := by
  refine Prod.ext h1.symm (funext fun k => ?_)
  show (if k < 18 ∨ 45 < k then s.2 k else s1.2 k) = s1.2 k
  split
  · next c => exact (h2 k c).symm
  · rfl
def mRg (s : mS) (p : Nat) : Prop := (-2147483648 ≤ s.2 18 p ∧ s.2 18 p < 2147483648) ∧ (-2147483648 ≤ s.2 19 p ∧ s.2 19 p < 2147483648) ∧ (-2147483648 ≤ s.2 23 p ∧ s.2 23 p < 2147483648) ∧ (-2147483648 ≤ s.2 24 p ∧ s.2 24 p < 2147483648) ∧ (-2147483648 ≤ s.2 26 p ∧ s.2 26 p < 2147483648) ∧ (-2147483648 ≤ s.2 27 p ∧ s.2 27 p < 2147483648)
def mRo (p : Nat) (s s1 : mS) : Prop := ∀ i, i ≠ p → s1.2 18 i = s.2 18 i ∧ s1.2 19 i = s.2 19 i ∧ s1.2 23 i = s.2 23 i ∧ s1.2 24 i = s.2 24 i ∧ s1.2 26 i = s.2 26 i ∧ s1.2 27 i = s.2 27 i
theorem mRo_tr {p : Nat} {s s1 s2 : mS} (a : mRo p s s1) (b : mRo p s1 s2) : mRo p s s2 := fun i hi => by
  obtain ⟨a1, a2, a3, a4, a5, a6⟩ := a i hi
  obtain ⟨b1, b2, b3, b4, b5, b6⟩ := b i hi
  exact ⟨b1.trans a1, b2.trans a2, b3.trans a3, b4.trans a4, b5.trans a5, b6.trans a6⟩
theorem mRg_o {p i : Nat} {s s1 : mS} (h : mRg s i) (a : mRo p s s1) (hi : i ≠ p) : mRg s1 i := by
  obtain ⟨a1, a2, a3, a4, a5, a6⟩ := a i hi
  obtain ⟨b1, b2, b3, b4, b5, b6⟩ := h
  exact ⟨by omega, by omega, by omega, by omega, by omega, by omega⟩
theorem mRg_pk {s : mS} {p : Nat} (hk : mPk s p) : mRg s p := by
  obtain ⟨kw, kh, kr, kc, ksr, ksc, kt, ko, kwa, kin, kwr, khi, krd, knu, kgi, kas, kfr, kra, kco, kof, kip⟩ := hk
  exact ⟨by omega, by omega, by omega, by omega, by omega, by omega⟩
/-- only cells have been blanked -/
def mEq (s s1 : mS) : Prop := s1.1 = s.1 ∧ ∀ k, k ≠ 20 → k ≠ 21 → s1.2 k = s.2 k
def mPu (s : mS) (p : Nat) : Prop := (0 ≤ s.2 22 p ∧ s.2 22 p ≤ 1) ∧ (0 ≤ s.2 31 p ∧ s.2 31 p ≤ 1) ∧ (0 ≤ s.2 32 p ∧ s.2 32 p ≤ 1) ∧ (0 ≤ s.2 33 p ∧ s.2 33 p ≤ 1) ∧ (0 ≤ s.2 34 p ∧ s.2 34 p ≤ 1) ∧ (0 ≤ s.2 35 p ∧ s.2 35 p ≤ 2) ∧ (∀ j, j < 4 → 0 ≤ s.2 36 (4 * p + j) ∧ s.2 36 (4 * p + j) ≤ 999) ∧ (0 ≤ s.2 37 p ∧ s.2 37 p ≤ 5) ∧ (0 ≤ s.2 38 p ∧ s.2 38 p ≤ 1) ∧ (0 ≤ s.2 39 p ∧ s.2 39 p ≤ 1) ∧ (0 ≤ s.2 42 p ∧ s.2 42 p ≤ 30)
set_option maxHeartbeats 1000000 in
set_option maxRecDepth 100000 in
/-- begin(p, ww, hh) -/
theorem nR_begin {E : pw_E} (htr : E.1.stackTraces = false) {h : pz_H} {n : Nat} {B : Nat} {s : mS} (hA : mAt B s h) {p ww hh : Int}  (hp : 0 ≤ p ∧ p < 8) (hu : mPu s p.toNat) (hww : 1 ≤ ww ∧ ww ≤ 40) (hhh : 1 ≤ hh ∧ hh ≤ 16) : pw_M E yX10_begin YX10_begin (rmD 2 0 0) [.ref B, .int (zI (p)), .int (zI (ww)), .int (zI (hh))] h n (fun r0 h' n' => r0 = none ∧ ∃ g, mAt B (mG s g) h' ∧ mRo p.toNat s (mG s g) ∧ mRg (mG s g) p.toNat ∧ mFr B h h' ∧ n' = n) (fun _ _ _ => False) := by
  obtain ⟨ko, kwa, kin, kwr, khi, krd, knu, kgi, kas, kfr, kra⟩ := hu
  refine pw_M_of (lv := [some (.ref B), some (.int (zI (p))), some (.int (zI (ww))), some (.int (zI (hh)))]) (by decide) rfl rfl htr (nle rfl) rfl (fun L => ?_)
  refine pw_aload_n dX10_begin_0 rfl ?_
  refine pw_get (v := .ref (B + 15)) okX10 (k := 18) (by decide) lkX10_53 hA.1 rfl dX10_begin_1 ?_
  refine pw_iload_n dX10_begin_4 rfl ?_
  refine pw_iload_n dX10_begin_5 rfl ?_
  refine pw_iast (g := (s.2 18)) (t := 0) rfl (mF18 (s := s) hA) (by omega) (by decide) dX10_begin_6 ?_
  have hA1 : mAt B (mA 18 (va_up (s.2 18) (p).toNat (ww)) s) (va_up h (B + 15) (pz_z 0 8 (va_up (s.2 18) (p).toNat (ww)))) := mU18 hA
  have hF1 : mFr B h (va_up h (B + 15) (pz_z 0 8 (va_up (s.2 18) (p).toNat (ww)))) := mFr_tr mFr_rf (mFr_up (by decide))
  revert hA1 hF1
  generalize (va_up h (B + 15) (pz_z 0 8 (va_up (s.2 18) (p).toNat (ww)))) = h1
  intro hA1 hF1
  refine pw_aload_n dX10_begin_7 rfl ?_
  refine pw_get (v := .ref (B + 16)) okX10 (k := 19) (by decide) lkX10_56 hA1.1 rfl dX10_begin_8 ?_
  refine pw_iload_n dX10_begin_11 rfl ?_
  refine pw_iload_n dX10_begin_12 rfl ?_
  refine pw_iast (g := (s.2 19)) (t := 0) rfl (mF19 (s := (mA 18 (va_up (s.2 18) (p).toNat (ww)) s)) hA1) (by omega) (by decide) dX10_begin_13 ?_
  have hA2 : mAt B (mA 19 (va_up (s.2 19) (p).toNat (hh)) (mA 18 (va_up (s.2 18) (p).toNat (ww)) s)) (va_up h1 (B + 16) (pz_z 0 8 (va_up (s.2 19) (p).toNat (hh)))) := mU19 hA1
  have hF2 : mFr B h (va_up h1 (B + 16) (pz_z 0 8 (va_up (s.2 19) (p).toNat (hh)))) := mFr_tr hF1 (mFr_up (by decide))
  revert hA2 hF2
  generalize (va_up h1 (B + 16) (pz_z 0 8 (va_up (s.2 19) (p).toNat (hh)))) = h2
  intro hA2 hF2
  refine pw_aload_n dX10_begin_14 rfl ?_
  refine pw_get (v := .ref (B + 40)) okX10 (k := 43) (by decide) lkX10_128 hA2.1 rfl dX10_begin_15 ?_
  refine pw_iload_n dX10_begin_18 rfl ?_
  refine pw_iconst (v := zI (0)) dX10_begin_19 (by decide) ?_
  refine pw_zast (g := (s.2 43)) (t := 1) rfl (mF43 (s := (mA 19 (va_up (s.2 19) (p).toNat (hh)) (mA 18 (va_up (s.2 18) (p).toNat (ww)) s))) hA2) (by omega) (by decide) (by omega) dX10_begin_20 ?_
  have hA3 : mAt B (mA 43 (va_up (s.2 43) (p).toNat (0)) (mA 19 (va_up (s.2 19) (p).toNat (hh)) (mA 18 (va_up (s.2 18) (p).toNat (ww)) s))) (va_up h2 (B + 40) (pz_z 1 8 (va_up (s.2 43) (p).toNat (0)))) := mU43 hA2
  have hF3 : mFr B h (va_up h2 (B + 40) (pz_z 1 8 (va_up (s.2 43) (p).toNat (0)))) := mFr_tr hF2 (mFr_up (by decide))
  revert hA3 hF3
  generalize (va_up h2 (B + 40) (pz_z 1 8 (va_up (s.2 43) (p).toNat (0)))) = h3
  intro hA3 hF3
  refine pw_aload_n dX10_begin_21 rfl ?_
  refine pw_get (v := .ref (B + 41)) okX10 (k := 44) (by decide) lkX10_131 hA3.1 rfl dX10_begin_22 ?_
  refine pw_iload_n dX10_begin_25 rfl ?_
  refine pw_iconst (v := zI (0)) dX10_begin_26 (by decide) ?_
  refine pw_iast (g := (s.2 44)) (t := 0) rfl (mF44 (s := (mA 43 (va_up (s.2 43) (p).toNat (0)) (mA 19 (va_up (s.2 19) (p).toNat (hh)) (mA 18 (va_up (s.2 18) (p).toNat (ww)) s)))) hA3) (by omega) (by decide) dX10_begin_27 ?_
  have hA4 : mAt B (mA 44 (va_up (s.2 44) (p).toNat (0)) (mA 43 (va_up (s.2 43) (p).toNat (0)) (mA 19 (va_up (s.2 19) (p).toNat (hh)) (mA 18 (va_up (s.2 18) (p).toNat (ww)) s)))) (va_up h3 (B + 41) (pz_z 0 8 (va_up (s.2 44) (p).toNat (0)))) := mU44 hA3
  have hF4 : mFr B h (va_up h3 (B + 41) (pz_z 0 8 (va_up (s.2 44) (p).toNat (0)))) := mFr_tr hF3 (mFr_up (by decide))
  revert hA4 hF4
  generalize (va_up h3 (B + 41) (pz_z 0 8 (va_up (s.2 44) (p).toNat (0)))) = h4
  intro hA4 hF4
  refine pw_aload_n dX10_begin_28 rfl ?_
  refine pw_get (v := .ref (B + 42)) okX10 (k := 45) (by decide) lkX10_134 hA4.1 rfl dX10_begin_29 ?_
  refine pw_iload_n dX10_begin_32 rfl ?_
  refine pw_iconst (v := zI (0)) dX10_begin_33 (by decide) ?_
  refine pw_iast (g := (s.2 45)) (t := 0) rfl (mF45 (s := (mA 44 (va_up (s.2 44) (p).toNat (0)) (mA 43 (va_up (s.2 43) (p).toNat (0)) (mA 19 (va_up (s.2 19) (p).toNat (hh)) (mA 18 (va_up (s.2 18) (p).toNat (ww)) s))))) hA4) (by omega) (by decide) dX10_begin_34 ?_
  have hA5 : mAt B (mA 45 (va_up (s.2 45) (p).toNat (0)) (mA 44 (va_up (s.2 44) (p).toNat (0)) (mA 43 (va_up (s.2 43) (p).toNat (0)) (mA 19 (va_up (s.2 19) (p).toNat (hh)) (mA 18 (va_up (s.2 18) (p).toNat (ww)) s))))) (va_up h4 (B + 42) (pz_z 0 8 (va_up (s.2 45) (p).toNat (0)))) := mU45 hA4
  have hF5 : mFr B h (va_up h4 (B + 42) (pz_z 0 8 (va_up (s.2 45) (p).toNat (0)))) := mFr_tr hF4 (mFr_up (by decide))
  revert hA5 hF5
  generalize (va_up h4 (B + 42) (pz_z 0 8 (va_up (s.2 45) (p).toNat (0)))) = h5
  intro hA5 hF5
  refine pw_aload_n dX10_begin_35 rfl ?_
  refine pw_iload_n dX10_begin_36 rfl ?_
  have hpw : mPw (mA 45 (va_up (s.2 45) (p).toNat (0)) (mA 44 (va_up (s.2 44) (p).toNat (0)) (mA 43 (va_up (s.2 43) (p).toNat (0)) (mA 19 (va_up (s.2 19) (p).toNat (hh)) (mA 18 (va_up (s.2 18) (p).toNat (ww)) s))))) p.toNat := by
    refine ⟨?_, ?_, ko, kwa, kin, kwr, khi, krd, knu, kgi, kas, kfr, kra, ?_, ?_, ?_⟩
    · show (1 ≤ (va_up (s.2 18) (p).toNat (ww)) p.toNat ∧ (va_up (s.2 18) (p).toNat (ww)) p.toNat ≤ 40); rw [va_up_self]; omega
    · show (1 ≤ (va_up (s.2 19) (p).toNat (hh)) p.toNat ∧ (va_up (s.2 19) (p).toNat (hh)) p.toNat ≤ 16); rw [va_up_self]; omega
    · show (0 ≤ (va_up (s.2 43) (p).toNat (0)) p.toNat ∧ (va_up (s.2 43) (p).toNat (0)) p.toNat ≤ 1); rw [va_up_self]; omega
    · show (0 ≤ (va_up (s.2 44) (p).toNat (0)) p.toNat ∧ (va_up (s.2 44) (p).toNat (0)) p.toNat ≤ 30); rw [va_up_self]; omega
    · show (0 ≤ (va_up (s.2 45) (p).toNat (0)) p.toNat ∧ (va_up (s.2 45) (p).toNat (0)) p.toNat ≤ 900000000); rw [va_up_self]; omega
  refine pw_callV (As := [.int (zI (p))]) (b := B) (rm := rmD 1 0 0) (mR_reset htr hA5 hp hpw) rfl hA5.1 rfl rfl ywX10_reset rfl cwX10_188 ⟨nle rfl, nle rfl⟩ (nle rfl) ⟨nle rfl, nle rfl⟩ dX10_begin_37 ?_ (fun _ _ _ z => z.elim)
  intro r_9 h6 n_9 hq _
  obtain ⟨e1, s6, hA6, hk6, hr6, hF60, e4⟩ := hq
  rw [e1, e4]
  show pw E YX10_begin _ _ 0 0 40 [some (.ref B), some (.int (zI (p))), some (.int (zI (ww))), some (.int (zI (hh)))] [] h6 n
  have hF6 := mFr_tr hF5 hF60
  have eG : mG s s6.2 = s6 := mG_of (by rw [hr6.1]; rfl) (fun k hk => by
    rw [hr6.2.1 k (by omega)]
    show va_up (va_up (va_up (va_up (va_up s.2 18 _) 19 _) 43 _) 44 _) 45 _ k = s.2 k
    rw [va_up_ne _ _ (by omega), va_up_ne _ _ (by omega), va_up_ne _ _ (by omega), va_up_ne _ _ (by omega), va_up_ne _ _ (by omega)])
  have hRo : mRo p.toNat s s6 := fun i hi => ⟨by rw [hr6.2.1 18 (by decide)]; exact va_up_ne _ _ hi, by rw [hr6.2.1 19 (by decide)]; exact va_up_ne _ _ hi, hr6.2.2.1 23 (by decide) (by decide) (by decide) (by decide) (by decide) i hi, hr6.2.2.1 24 (by decide) (by decide) (by decide) (by decide) (by decide) i hi, hr6.2.2.1 26 (by decide) (by decide) (by decide) (by decide) (by decide) i hi, hr6.2.2.1 27 (by decide) (by decide) (by decide) (by decide) (by decide) i hi⟩
  exact pw_vret dX10_begin_40 rfl (nle rfl) (nle rfl) ⟨rfl, s6.2, by rw [eG]; exact hA6, by rw [eG]; exact hRo, by rw [eG]; exact mRg_pk hk6, hF6, rfl⟩
set_option maxHeartbeats 1000000 in
set_option maxRecDepth 100000 in
theorem lN_rz1 {E : pw_E} (htr : E.1.stackTraces = false) {Kk : pw_K} {h : pz_H} {n B : Nat} {s : mS} {p ww hh wh r : Int} (hp : 0 ≤ p ∧ p < 8) (hww : 1 ≤ ww ∧ ww ≤ 40) (hhh : 1 ≤ hh ∧ hh ≤ 16) (hwh : 0 ≤ wh ∧ wh < 2) (hr : 0 ≤ r ∧ r < 16) : ∀ (j : Nat) (c : Int) (s1 : mS) (h1 : pz_H), (40 - c).toNat = j → 0 ≤ c → c ≤ 40 → mAt B s1 h1 → mEq s s1 → mFr B h h1 → (∀ (c9 : Int) (s2 : mS) (h2 : pz_H), mAt B s2 h2 → mEq s s2 → mFr B h h2 → pw E YX10_resize (rmD 1 0 0) Kk 0 0 97 [some (.ref B), some (.int (zI (p))), some (.int (zI (ww))), some (.int (zI (hh))), some (.int (zI (wh))), some (.int (zI (r))), some (.int (zI (c9)))] [] h2 n) → pw E YX10_resize (rmD 1 0 0) Kk 0 0 57 [some (.ref B), some (.int (zI (p))), some (.int (zI (ww))), some (.int (zI (hh))), some (.int (zI (wh))), some (.int (zI (r))), some (.int (zI (c)))] [] h1 n := by
  intro j
  induction j with
  | zero =>
    intro c  s1 h1 hj i1 i2 hA hE hF kk
    refine pw_iload dX10_resize_57 rfl ?_
    refine pw_bipush (v := zI (40)) dX10_resize_59 (by decide) ?_
    refine pw_icmp_ge (tgt := 97) dX10_resize_61 rfl (by omega) (by omega) (fun c61 => ?_) (fun c61 => ?_)
    ·
      exact kk c  s1 h1 hA hE hF
    · exfalso; omega
  | succ j ih =>
    intro c  s1 h1 hj i1 i2 hA hE hF kk
    refine pw_iload dX10_resize_57 rfl ?_
    refine pw_bipush (v := zI (40)) dX10_resize_59 (by decide) ?_
    refine pw_icmp_ge (tgt := 97) dX10_resize_61 rfl (by omega) (by omega) (fun c61 => ?_) (fun c61 => ?_)
    · exfalso; omega
    ·
      refine pw_iload dX10_resize_64 rfl ?_
      refine pw_iload_n dX10_resize_66 rfl ?_
      refine pw_icmp_ge (tgt := 76) dX10_resize_67 rfl (by omega) (by omega) (fun c67 => ?_) (fun c67 => ?_)
      ·
        refine pw_aload_n dX10_resize_76 rfl ?_
        refine pw_iload_n dX10_resize_77 rfl ?_
        refine pw_iload dX10_resize_78 rfl ?_
        refine pw_iload dX10_resize_80 rfl ?_
        refine pw_iload dX10_resize_82 rfl ?_
        refine pw_callS (As := [.int (zI (p)), .int (zI (wh)), .int (zI (r)), .int (zI (c))]) (rm := rmD 0 0 0) (mR_cellOf htr) rfl ywX10_cellOf rfl cwX10_180 ⟨nle rfl, nle rfl⟩ (nle rfl) ⟨nle rfl, nle rfl⟩ dX10_resize_84 ?_ (fun _ _ _ z => z.elim)
        intro r_9 h_9 n_9 hq _
        rw [hq.1, hq.2.1, hq.2.2]
        show pw E YX10_resize _ _ 0 0 87 [some (.ref B), some (.int (zI (p))), some (.int (zI (ww))), some (.int (zI (hh))), some (.int (zI (wh))), some (.int (zI (r))), some (.int (zI (c)))] [.int (zI (mCell (p) (wh) (r) (c))), .ref B] h1 n
        refine pw_iconst (v := zI (0)) dX10_resize_87 (by decide) ?_
        refine pw_callV (As := [.int (zI (mCell (p) (wh) (r) (c))), .int (zI (0))]) (b := B) (rm := rmD 0 0 0) (nR_blank htr hA (by unfold mCell; omega)) rfl hA.1 rfl rfl ywX10_blank rfl cwX10_184 ⟨nle rfl, nle rfl⟩ (nle rfl) ⟨nle rfl, nle rfl⟩ dX10_resize_88 ?_ (fun _ _ _ z => z.elim)
        intro r_9 h2 n_9 hq _
        obtain ⟨e1, hA2, hF20, e4⟩ := hq
        rw [e1, e4]
        show pw E YX10_resize _ _ 0 0 91 [some (.ref B), some (.int (zI (p))), some (.int (zI (ww))), some (.int (zI (hh))), some (.int (zI (wh))), some (.int (zI (r))), some (.int (zI (c)))] [] h2 n
        have hF2 := mFr_tr hF hF20
        have hE2 : mEq s (mA 21 (va_up (s1.2 21) (mCell (p) (wh) (r) (c)).toNat 0) (mA 20 (va_up (s1.2 20) (mCell (p) (wh) (r) (c)).toNat 32) s1)) := ⟨hE.1, fun k h1 h2 => ((va_up_ne _ _ h2).trans (va_up_ne _ _ h1)).trans (hE.2 k h1 h2)⟩
        refine pw_ziinc (lv' := [some (.ref B), some (.int (zI (p))), some (.int (zI (ww))), some (.int (zI (hh))), some (.int (zI (wh))), some (.int (zI (r))), some (.int (zI (c + 1)))]) dX10_resize_91 rfl (by decide) rfl rfl ?_
        refine pw_goto (tgt := 57) dX10_resize_94 rfl ?_
        exact ih (c + 1) (mA 21 (va_up (s1.2 21) (mCell (p) (wh) (r) (c)).toNat 0) (mA 20 (va_up (s1.2 20) (mCell (p) (wh) (r) (c)).toNat 32) s1)) h2 (by omega) (by omega) (by omega) hA2 hE2 hF2 kk
      ·
        refine pw_iload dX10_resize_70 rfl ?_
        refine pw_iload_n dX10_resize_72 rfl ?_
        refine pw_icmp_lt (tgt := 91) dX10_resize_73 rfl (by omega) (by omega) (fun c73 => ?_) (fun c73 => ?_)
        ·
          refine pw_ziinc (lv' := [some (.ref B), some (.int (zI (p))), some (.int (zI (ww))), some (.int (zI (hh))), some (.int (zI (wh))), some (.int (zI (r))), some (.int (zI (c + 1)))]) dX10_resize_91 rfl (by decide) rfl rfl ?_
          refine pw_goto (tgt := 57) dX10_resize_94 rfl ?_
          exact ih (c + 1) s1 h1 (by omega) (by omega) (by omega) hA hE hF kk
        ·
          refine pw_aload_n dX10_resize_76 rfl ?_
          refine pw_iload_n dX10_resize_77 rfl ?_
          refine pw_iload dX10_resize_78 rfl ?_
          refine pw_iload dX10_resize_80 rfl ?_
          refine pw_iload dX10_resize_82 rfl ?_
          refine pw_callS (As := [.int (zI (p)), .int (zI (wh)), .int (zI (r)), .int (zI (c))]) (rm := rmD 0 0 0) (mR_cellOf htr) rfl ywX10_cellOf rfl cwX10_180 ⟨nle rfl, nle rfl⟩ (nle rfl) ⟨nle rfl, nle rfl⟩ dX10_resize_84 ?_ (fun _ _ _ z => z.elim)
          intro r_9 h_9 n_9 hq _
          rw [hq.1, hq.2.1, hq.2.2]
          show pw E YX10_resize _ _ 0 0 87 [some (.ref B), some (.int (zI (p))), some (.int (zI (ww))), some (.int (zI (hh))), some (.int (zI (wh))), some (.int (zI (r))), some (.int (zI (c)))] [.int (zI (mCell (p) (wh) (r) (c))), .ref B] h1 n
          refine pw_iconst (v := zI (0)) dX10_resize_87 (by decide) ?_
          refine pw_callV (As := [.int (zI (mCell (p) (wh) (r) (c))), .int (zI (0))]) (b := B) (rm := rmD 0 0 0) (nR_blank htr hA (by unfold mCell; omega)) rfl hA.1 rfl rfl ywX10_blank rfl cwX10_184 ⟨nle rfl, nle rfl⟩ (nle rfl) ⟨nle rfl, nle rfl⟩ dX10_resize_88 ?_ (fun _ _ _ z => z.elim)
          intro r_9 h3 n_9 hq _
          obtain ⟨e1, hA3, hF30, e4⟩ := hq
          rw [e1, e4]
          show pw E YX10_resize _ _ 0 0 91 [some (.ref B), some (.int (zI (p))), some (.int (zI (ww))), some (.int (zI (hh))), some (.int (zI (wh))), some (.int (zI (r))), some (.int (zI (c)))] [] h3 n
          have hF3 := mFr_tr hF hF30
          have hE3 : mEq s (mA 21 (va_up (s1.2 21) (mCell (p) (wh) (r) (c)).toNat 0) (mA 20 (va_up (s1.2 20) (mCell (p) (wh) (r) (c)).toNat 32) s1)) := ⟨hE.1, fun k h1 h2 => ((va_up_ne _ _ h2).trans (va_up_ne _ _ h1)).trans (hE.2 k h1 h2)⟩
          refine pw_ziinc (lv' := [some (.ref B), some (.int (zI (p))), some (.int (zI (ww))), some (.int (zI (hh))), some (.int (zI (wh))), some (.int (zI (r))), some (.int (zI (c + 1)))]) dX10_resize_91 rfl (by decide) rfl rfl ?_
          refine pw_goto (tgt := 57) dX10_resize_94 rfl ?_
          exact ih (c + 1) (mA 21 (va_up (s1.2 21) (mCell (p) (wh) (r) (c)).toNat 0) (mA 20 (va_up (s1.2 20) (mCell (p) (wh) (r) (c)).toNat 32) s1)) h3 (by omega) (by omega) (by omega) hA3 hE3 hF3 kk
set_option maxHeartbeats 1000000 in
set_option maxRecDepth 100000 in
theorem lN_rz2 {E : pw_E} (htr : E.1.stackTraces = false) {Kk : pw_K} {h : pz_H} {n B : Nat} {s : mS} {p ww hh wh : Int} (hp : 0 ≤ p ∧ p < 8) (hww : 1 ≤ ww ∧ ww ≤ 40) (hhh : 1 ≤ hh ∧ hh ≤ 16) (hwh : 0 ≤ wh ∧ wh < 2) : ∀ (j : Nat) (r : Int) (q6 : Option Value) (s1 : mS) (h1 : pz_H), (16 - r).toNat = j → 0 ≤ r → r ≤ 16 → mAt B s1 h1 → mEq s s1 → mFr B h h1 → (∀ (r9 : Int) (q6 : Option Value) (s2 : mS) (h2 : pz_H), mAt B s2 h2 → mEq s s2 → mFr B h h2 → pw E YX10_resize (rmD 1 0 0) Kk 0 0 103 [some (.ref B), some (.int (zI (p))), some (.int (zI (ww))), some (.int (zI (hh))), some (.int (zI (wh))), some (.int (zI (r9))), q6] [] h2 n) → pw E YX10_resize (rmD 1 0 0) Kk 0 0 47 [some (.ref B), some (.int (zI (p))), some (.int (zI (ww))), some (.int (zI (hh))), some (.int (zI (wh))), some (.int (zI (r))), q6] [] h1 n := by
  intro j
  induction j with
  | zero =>
    intro r q6 s1 h1 hj i1 i2 hA hE hF kk
    refine pw_iload dX10_resize_47 rfl ?_
    refine pw_bipush (v := zI (16)) dX10_resize_49 (by decide) ?_
    refine pw_icmp_ge (tgt := 103) dX10_resize_51 rfl (by omega) (by omega) (fun c51 => ?_) (fun c51 => ?_)
    ·
      exact kk r q6 s1 h1 hA hE hF
    · exfalso; omega
  | succ j ih =>
    intro r q6 s1 h1 hj i1 i2 hA hE hF kk
    refine pw_iload dX10_resize_47 rfl ?_
    refine pw_bipush (v := zI (16)) dX10_resize_49 (by decide) ?_
    refine pw_icmp_ge (tgt := 103) dX10_resize_51 rfl (by omega) (by omega) (fun c51 => ?_) (fun c51 => ?_)
    · exfalso; omega
    ·
      refine pw_iconst (v := zI (0)) dX10_resize_54 (by decide) ?_
      refine pw_istore (lv' := [some (.ref B), some (.int (zI (p))), some (.int (zI (ww))), some (.int (zI (hh))), some (.int (zI (wh))), some (.int (zI (r))), some (.int (zI (0)))]) dX10_resize_55 (by decide) rfl rfl ?_
      refine lN_rz1 htr hp hww hhh hwh (by omega) _ 0 s1 h1 rfl (by omega) (by omega) hA hE hF (fun v9  s9 h9 hA9 hE9 hF9 => ?_)
      refine pw_ziinc (lv' := [some (.ref B), some (.int (zI (p))), some (.int (zI (ww))), some (.int (zI (hh))), some (.int (zI (wh))), some (.int (zI (r + 1))), some (.int (zI (v9)))]) dX10_resize_97 rfl (by decide) rfl rfl ?_
      refine pw_goto (tgt := 47) dX10_resize_100 rfl ?_
      exact ih (r + 1) _ s9 h9 (by omega) (by omega) (by omega) hA9 hE9 hF9 kk
set_option maxHeartbeats 1000000 in
set_option maxRecDepth 100000 in
theorem lN_rz3 {E : pw_E} (htr : E.1.stackTraces = false) {Kk : pw_K} {h : pz_H} {n B : Nat} {s : mS} {p ww hh  : Int} (hp : 0 ≤ p ∧ p < 8) (hww : 1 ≤ ww ∧ ww ≤ 40) (hhh : 1 ≤ hh ∧ hh ≤ 16)  : ∀ (j : Nat) (wh : Int) (q5 : Option Value) (q6 : Option Value) (s1 : mS) (h1 : pz_H), (2 - wh).toNat = j → 0 ≤ wh → wh ≤ 2 → mAt B s1 h1 → mEq s s1 → mFr B h h1 → (∀ (wh9 : Int) (q5 : Option Value) (q6 : Option Value) (s2 : mS) (h2 : pz_H), mAt B s2 h2 → mEq s s2 → mFr B h h2 → pw E YX10_resize (rmD 1 0 0) Kk 0 0 109 [some (.ref B), some (.int (zI (p))), some (.int (zI (ww))), some (.int (zI (hh))), some (.int (zI (wh9))), q5, q6] [] h2 n) → pw E YX10_resize (rmD 1 0 0) Kk 0 0 38 [some (.ref B), some (.int (zI (p))), some (.int (zI (ww))), some (.int (zI (hh))), some (.int (zI (wh))), q5, q6] [] h1 n := by
  intro j
  induction j with
  | zero =>
    intro wh q5 q6 s1 h1 hj i1 i2 hA hE hF kk
    refine pw_iload dX10_resize_38 rfl ?_
    refine pw_iconst (v := zI (2)) dX10_resize_40 (by decide) ?_
    refine pw_icmp_ge (tgt := 109) dX10_resize_41 rfl (by omega) (by omega) (fun c41 => ?_) (fun c41 => ?_)
    ·
      exact kk wh q5 q6 s1 h1 hA hE hF
    · exfalso; omega
  | succ j ih =>
    intro wh q5 q6 s1 h1 hj i1 i2 hA hE hF kk
    refine pw_iload dX10_resize_38 rfl ?_
    refine pw_iconst (v := zI (2)) dX10_resize_40 (by decide) ?_
    refine pw_icmp_ge (tgt := 109) dX10_resize_41 rfl (by omega) (by omega) (fun c41 => ?_) (fun c41 => ?_)
    · exfalso; omega
    ·
      refine pw_iconst (v := zI (0)) dX10_resize_44 (by decide) ?_
      refine pw_istore (lv' := [some (.ref B), some (.int (zI (p))), some (.int (zI (ww))), some (.int (zI (hh))), some (.int (zI (wh))), some (.int (zI (0))), q6]) dX10_resize_45 (by decide) rfl rfl ?_
      refine lN_rz2 htr hp hww hhh (by omega) _ 0 _ s1 h1 rfl (by omega) (by omega) hA hE hF (fun v9 q68 s9 h9 hA9 hE9 hF9 => ?_)
      refine pw_ziinc (lv' := [some (.ref B), some (.int (zI (p))), some (.int (zI (ww))), some (.int (zI (hh))), some (.int (zI (wh + 1))), some (.int (zI (v9))), q68]) dX10_resize_103 rfl (by decide) rfl rfl ?_
      refine pw_goto (tgt := 38) dX10_resize_106 rfl ?_
      exact ih (wh + 1) _ _ s9 h9 (by omega) (by omega) (by omega) hA9 hE9 hF9 kk
set_option maxHeartbeats 1000000 in
set_option maxRecDepth 100000 in
/-- resize(p, ww, hh) -/
theorem nR_resize {E : pw_E} (htr : E.1.stackTraces = false) {h : pz_H} {n : Nat} {B : Nat} {s : mS} (hA : mAt B s h) {p ww hh : Int}  (hp : 0 ≤ p ∧ p < 8) (hRg : mRg s p.toNat) (hww : 1 ≤ ww ∧ ww ≤ 40) (hhh : 1 ≤ hh ∧ hh ≤ 16) : pw_M E yX10_resize YX10_resize (rmD 1 0 0) [.ref B, .int (zI (p)), .int (zI (ww)), .int (zI (hh))] h n (fun r0 h' n' => r0 = none ∧ ∃ g, mAt B (mG s g) h' ∧ mRo p.toNat s (mG s g) ∧ mRg (mG s g) p.toNat ∧ mFr B h h' ∧ n' = n) (fun _ _ _ => False) := by
  obtain ⟨g18, g19, g23, g24, g26, g27⟩ := id hRg
  refine pw_M_of (lv := [some (.ref B), some (.int (zI (p))), some (.int (zI (ww))), some (.int (zI (hh))), none, none, none]) (by decide) rfl rfl htr (nle rfl) rfl (fun L => ?_)
  refine pw_aload_n dX10_resize_0 rfl ?_
  refine pw_get (v := .ref (B + 15)) okX10 (k := 18) (by decide) lkX10_53 hA.1 rfl dX10_resize_1 ?_
  refine pw_iload_n dX10_resize_4 rfl ?_
  refine pw_iald (g := (s.2 18)) (t := 0) rfl (mF18 (s := s) hA) (by omega) (by decide) dX10_resize_5 ?_
  refine pw_iload_n dX10_resize_6 rfl ?_
  refine pw_icmp_ne (tgt := 21) dX10_resize_7 rfl (by omega) (by omega) (fun c7 => ?_) (fun c7 => ?_)
  ·
    refine pw_aload_n dX10_resize_21 rfl ?_
    refine pw_get (v := .ref (B + 15)) okX10 (k := 18) (by decide) lkX10_53 hA.1 rfl dX10_resize_22 ?_
    refine pw_iload_n dX10_resize_25 rfl ?_
    refine pw_iload_n dX10_resize_26 rfl ?_
    refine pw_iast (g := (s.2 18)) (t := 0) rfl (mF18 (s := s) hA) (by omega) (by decide) dX10_resize_27 ?_
    have hA1 : mAt B (mA 18 (va_up (s.2 18) (p).toNat (ww)) s) (va_up h (B + 15) (pz_z 0 8 (va_up (s.2 18) (p).toNat (ww)))) := mU18 hA
    have hF1 : mFr B h (va_up h (B + 15) (pz_z 0 8 (va_up (s.2 18) (p).toNat (ww)))) := mFr_tr mFr_rf (mFr_up (by decide))
    revert hA1 hF1
    generalize (va_up h (B + 15) (pz_z 0 8 (va_up (s.2 18) (p).toNat (ww)))) = h1
    intro hA1 hF1
    refine pw_aload_n dX10_resize_28 rfl ?_
    refine pw_get (v := .ref (B + 16)) okX10 (k := 19) (by decide) lkX10_56 hA1.1 rfl dX10_resize_29 ?_
    refine pw_iload_n dX10_resize_32 rfl ?_
    refine pw_iload_n dX10_resize_33 rfl ?_
    refine pw_iast (g := (s.2 19)) (t := 0) rfl (mF19 (s := (mA 18 (va_up (s.2 18) (p).toNat (ww)) s)) hA1) (by omega) (by decide) dX10_resize_34 ?_
    have hA2 : mAt B (mA 19 (va_up (s.2 19) (p).toNat (hh)) (mA 18 (va_up (s.2 18) (p).toNat (ww)) s)) (va_up h1 (B + 16) (pz_z 0 8 (va_up (s.2 19) (p).toNat (hh)))) := mU19 hA1
    have hF2 : mFr B h (va_up h1 (B + 16) (pz_z 0 8 (va_up (s.2 19) (p).toNat (hh)))) := mFr_tr hF1 (mFr_up (by decide))
    revert hA2 hF2
    generalize (va_up h1 (B + 16) (pz_z 0 8 (va_up (s.2 19) (p).toNat (hh)))) = h2
    intro hA2 hF2
    refine pw_iconst (v := zI (0)) dX10_resize_35 (by decide) ?_
    refine pw_istore (lv' := [some (.ref B), some (.int (zI (p))), some (.int (zI (ww))), some (.int (zI (hh))), some (.int (zI (0))), none, none]) dX10_resize_36 (by decide) rfl rfl ?_
    refine lN_rz3 (s := (mA 19 (va_up (s.2 19) (p).toNat (hh)) (mA 18 (va_up (s.2 18) (p).toNat (ww)) s))) htr hp hww hhh _ 0 _ _ (mA 19 (va_up (s.2 19) (p).toNat (hh)) (mA 18 (va_up (s.2 18) (p).toNat (ww)) s)) h2 rfl (by omega) (by omega) hA2 ⟨rfl, fun _ _ _ => rfl⟩ hF2 (fun v9 q5 q6 s9 h9 hA9 hE9 hF9 => ?_)
    have f23 : s9.2 23 = s.2 23 := hE9.2 23 (by decide) (by decide)
    have x23 := congrFun f23 p.toNat
    have f24 : s9.2 24 = s.2 24 := hE9.2 24 (by decide) (by decide)
    have x24 := congrFun f24 p.toNat
    have f26 : s9.2 26 = s.2 26 := hE9.2 26 (by decide) (by decide)
    have x26 := congrFun f26 p.toNat
    have f27 : s9.2 27 = s.2 27 := hE9.2 27 (by decide) (by decide)
    have x27 := congrFun f27 p.toNat
    refine pw_aload_n dX10_resize_109 rfl ?_
    refine pw_get (v := .ref (B + 20)) okX10 (k := 23) (by decide) lkX10_68 hA9.1 rfl dX10_resize_110 ?_
    refine pw_iload_n dX10_resize_113 rfl ?_
    refine pw_aload_n dX10_resize_114 rfl ?_
    refine pw_get (v := .ref (B + 20)) okX10 (k := 23) (by decide) lkX10_68 hA9.1 rfl dX10_resize_115 ?_
    refine pw_iload_n dX10_resize_118 rfl ?_
    refine pw_iald (g := (s9.2 23)) (t := 0) rfl (mF23 (s := s9) hA9) (by omega) (by decide) dX10_resize_119 ?_
    refine pw_iload_n dX10_resize_120 rfl ?_
    refine pw_iconst (v := zI (1)) dX10_resize_121 (by decide) ?_
    refine pw_zisub dX10_resize_122 ?_
    refine pw_callS (As := [.int (zI ((s9.2 23) (p).toNat)), .int (zI (hh - 1))]) (rm := rmD 0 0 0) (mR_least htr (by omega) (by omega)) rfl ywX10_least rfl cwX10_192 ⟨nle rfl, nle rfl⟩ (nle rfl) ⟨nle rfl, nle rfl⟩ dX10_resize_123 ?_ (fun _ _ _ z => z.elim)
    intro r_9 h_9 n_9 hq _
    rw [hq.1, hq.2.1, hq.2.2]
    show pw E YX10_resize _ _ 0 0 126 [some (.ref B), some (.int (zI (p))), some (.int (zI (ww))), some (.int (zI (hh))), some (.int (zI (v9))), q5, q6] [.int (zI (min ((s9.2 23) (p).toNat) (hh - 1))), .int (zI (p)), .ref (B + 20)] h9 n
    refine pw_iast (g := (s9.2 23)) (t := 0) rfl (mF23 (s := s9) hA9) (by omega) (by decide) dX10_resize_126 ?_
    have hA21 : mAt B (mA 23 (va_up (s9.2 23) (p).toNat (min ((s9.2 23) (p).toNat) (hh - 1))) s9) (va_up h9 (B + 20) (pz_z 0 8 (va_up (s9.2 23) (p).toNat (min ((s9.2 23) (p).toNat) (hh - 1))))) := mU23 hA9
    have hF21 : mFr B h (va_up h9 (B + 20) (pz_z 0 8 (va_up (s9.2 23) (p).toNat (min ((s9.2 23) (p).toNat) (hh - 1))))) := mFr_tr hF9 (mFr_up (by decide))
    revert hA21 hF21
    generalize (va_up h9 (B + 20) (pz_z 0 8 (va_up (s9.2 23) (p).toNat (min ((s9.2 23) (p).toNat) (hh - 1))))) = h21
    intro hA21 hF21
    refine pw_aload_n dX10_resize_127 rfl ?_
    refine pw_get (v := .ref (B + 21)) okX10 (k := 24) (by decide) lkX10_71 hA21.1 rfl dX10_resize_128 ?_
    refine pw_iload_n dX10_resize_131 rfl ?_
    refine pw_aload_n dX10_resize_132 rfl ?_
    refine pw_get (v := .ref (B + 21)) okX10 (k := 24) (by decide) lkX10_71 hA21.1 rfl dX10_resize_133 ?_
    refine pw_iload_n dX10_resize_136 rfl ?_
    refine pw_iald (g := (s9.2 24)) (t := 0) rfl (mF24 (s := (mA 23 (va_up (s9.2 23) (p).toNat (min ((s9.2 23) (p).toNat) (hh - 1))) s9)) hA21) (by omega) (by decide) dX10_resize_137 ?_
    refine pw_iload_n dX10_resize_138 rfl ?_
    refine pw_iconst (v := zI (1)) dX10_resize_139 (by decide) ?_
    refine pw_zisub dX10_resize_140 ?_
    refine pw_callS (As := [.int (zI ((s9.2 24) (p).toNat)), .int (zI (ww - 1))]) (rm := rmD 0 0 0) (mR_least htr (by omega) (by omega)) rfl ywX10_least rfl cwX10_192 ⟨nle rfl, nle rfl⟩ (nle rfl) ⟨nle rfl, nle rfl⟩ dX10_resize_141 ?_ (fun _ _ _ z => z.elim)
    intro r_9 h_9 n_9 hq _
    rw [hq.1, hq.2.1, hq.2.2]
    show pw E YX10_resize _ _ 0 0 144 [some (.ref B), some (.int (zI (p))), some (.int (zI (ww))), some (.int (zI (hh))), some (.int (zI (v9))), q5, q6] [.int (zI (min ((s9.2 24) (p).toNat) (ww - 1))), .int (zI (p)), .ref (B + 21)] h21 n
    refine pw_iast (g := (s9.2 24)) (t := 0) rfl (mF24 (s := (mA 23 (va_up (s9.2 23) (p).toNat (min ((s9.2 23) (p).toNat) (hh - 1))) s9)) hA21) (by omega) (by decide) dX10_resize_144 ?_
    have hA22 : mAt B (mA 24 (va_up (s9.2 24) (p).toNat (min ((s9.2 24) (p).toNat) (ww - 1))) (mA 23 (va_up (s9.2 23) (p).toNat (min ((s9.2 23) (p).toNat) (hh - 1))) s9)) (va_up h21 (B + 21) (pz_z 0 8 (va_up (s9.2 24) (p).toNat (min ((s9.2 24) (p).toNat) (ww - 1))))) := mU24 hA21
    have hF22 : mFr B h (va_up h21 (B + 21) (pz_z 0 8 (va_up (s9.2 24) (p).toNat (min ((s9.2 24) (p).toNat) (ww - 1))))) := mFr_tr hF21 (mFr_up (by decide))
    revert hA22 hF22
    generalize (va_up h21 (B + 21) (pz_z 0 8 (va_up (s9.2 24) (p).toNat (min ((s9.2 24) (p).toNat) (ww - 1))))) = h22
    intro hA22 hF22
    refine pw_aload_n dX10_resize_145 rfl ?_
    refine pw_get (v := .ref (B + 23)) okX10 (k := 26) (by decide) lkX10_77 hA22.1 rfl dX10_resize_146 ?_
    refine pw_iload_n dX10_resize_149 rfl ?_
    refine pw_aload_n dX10_resize_150 rfl ?_
    refine pw_get (v := .ref (B + 23)) okX10 (k := 26) (by decide) lkX10_77 hA22.1 rfl dX10_resize_151 ?_
    refine pw_iload_n dX10_resize_154 rfl ?_
    refine pw_iald (g := (s9.2 26)) (t := 0) rfl (mF26 (s := (mA 24 (va_up (s9.2 24) (p).toNat (min ((s9.2 24) (p).toNat) (ww - 1))) (mA 23 (va_up (s9.2 23) (p).toNat (min ((s9.2 23) (p).toNat) (hh - 1))) s9))) hA22) (by omega) (by decide) dX10_resize_155 ?_
    refine pw_iload_n dX10_resize_156 rfl ?_
    refine pw_iconst (v := zI (1)) dX10_resize_157 (by decide) ?_
    refine pw_zisub dX10_resize_158 ?_
    refine pw_callS (As := [.int (zI ((s9.2 26) (p).toNat)), .int (zI (hh - 1))]) (rm := rmD 0 0 0) (mR_least htr (by omega) (by omega)) rfl ywX10_least rfl cwX10_192 ⟨nle rfl, nle rfl⟩ (nle rfl) ⟨nle rfl, nle rfl⟩ dX10_resize_159 ?_ (fun _ _ _ z => z.elim)
    intro r_9 h_9 n_9 hq _
    rw [hq.1, hq.2.1, hq.2.2]
    show pw E YX10_resize _ _ 0 0 162 [some (.ref B), some (.int (zI (p))), some (.int (zI (ww))), some (.int (zI (hh))), some (.int (zI (v9))), q5, q6] [.int (zI (min ((s9.2 26) (p).toNat) (hh - 1))), .int (zI (p)), .ref (B + 23)] h22 n
    refine pw_iast (g := (s9.2 26)) (t := 0) rfl (mF26 (s := (mA 24 (va_up (s9.2 24) (p).toNat (min ((s9.2 24) (p).toNat) (ww - 1))) (mA 23 (va_up (s9.2 23) (p).toNat (min ((s9.2 23) (p).toNat) (hh - 1))) s9))) hA22) (by omega) (by decide) dX10_resize_162 ?_
    have hA23 : mAt B (mA 26 (va_up (s9.2 26) (p).toNat (min ((s9.2 26) (p).toNat) (hh - 1))) (mA 24 (va_up (s9.2 24) (p).toNat (min ((s9.2 24) (p).toNat) (ww - 1))) (mA 23 (va_up (s9.2 23) (p).toNat (min ((s9.2 23) (p).toNat) (hh - 1))) s9))) (va_up h22 (B + 23) (pz_z 0 8 (va_up (s9.2 26) (p).toNat (min ((s9.2 26) (p).toNat) (hh - 1))))) := mU26 hA22
    have hF23 : mFr B h (va_up h22 (B + 23) (pz_z 0 8 (va_up (s9.2 26) (p).toNat (min ((s9.2 26) (p).toNat) (hh - 1))))) := mFr_tr hF22 (mFr_up (by decide))
    revert hA23 hF23
    generalize (va_up h22 (B + 23) (pz_z 0 8 (va_up (s9.2 26) (p).toNat (min ((s9.2 26) (p).toNat) (hh - 1))))) = h23
    intro hA23 hF23
    refine pw_aload_n dX10_resize_163 rfl ?_
    refine pw_get (v := .ref (B + 24)) okX10 (k := 27) (by decide) lkX10_80 hA23.1 rfl dX10_resize_164 ?_
    refine pw_iload_n dX10_resize_167 rfl ?_
    refine pw_aload_n dX10_resize_168 rfl ?_
    refine pw_get (v := .ref (B + 24)) okX10 (k := 27) (by decide) lkX10_80 hA23.1 rfl dX10_resize_169 ?_
    refine pw_iload_n dX10_resize_172 rfl ?_
    refine pw_iald (g := (s9.2 27)) (t := 0) rfl (mF27 (s := (mA 26 (va_up (s9.2 26) (p).toNat (min ((s9.2 26) (p).toNat) (hh - 1))) (mA 24 (va_up (s9.2 24) (p).toNat (min ((s9.2 24) (p).toNat) (ww - 1))) (mA 23 (va_up (s9.2 23) (p).toNat (min ((s9.2 23) (p).toNat) (hh - 1))) s9)))) hA23) (by omega) (by decide) dX10_resize_173 ?_
    refine pw_iload_n dX10_resize_174 rfl ?_
    refine pw_iconst (v := zI (1)) dX10_resize_175 (by decide) ?_
    refine pw_zisub dX10_resize_176 ?_
    refine pw_callS (As := [.int (zI ((s9.2 27) (p).toNat)), .int (zI (ww - 1))]) (rm := rmD 0 0 0) (mR_least htr (by omega) (by omega)) rfl ywX10_least rfl cwX10_192 ⟨nle rfl, nle rfl⟩ (nle rfl) ⟨nle rfl, nle rfl⟩ dX10_resize_177 ?_ (fun _ _ _ z => z.elim)
    intro r_9 h_9 n_9 hq _
    rw [hq.1, hq.2.1, hq.2.2]
    show pw E YX10_resize _ _ 0 0 180 [some (.ref B), some (.int (zI (p))), some (.int (zI (ww))), some (.int (zI (hh))), some (.int (zI (v9))), q5, q6] [.int (zI (min ((s9.2 27) (p).toNat) (ww - 1))), .int (zI (p)), .ref (B + 24)] h23 n
    refine pw_iast (g := (s9.2 27)) (t := 0) rfl (mF27 (s := (mA 26 (va_up (s9.2 26) (p).toNat (min ((s9.2 26) (p).toNat) (hh - 1))) (mA 24 (va_up (s9.2 24) (p).toNat (min ((s9.2 24) (p).toNat) (ww - 1))) (mA 23 (va_up (s9.2 23) (p).toNat (min ((s9.2 23) (p).toNat) (hh - 1))) s9)))) hA23) (by omega) (by decide) dX10_resize_180 ?_
    have hA24 : mAt B (mA 27 (va_up (s9.2 27) (p).toNat (min ((s9.2 27) (p).toNat) (ww - 1))) (mA 26 (va_up (s9.2 26) (p).toNat (min ((s9.2 26) (p).toNat) (hh - 1))) (mA 24 (va_up (s9.2 24) (p).toNat (min ((s9.2 24) (p).toNat) (ww - 1))) (mA 23 (va_up (s9.2 23) (p).toNat (min ((s9.2 23) (p).toNat) (hh - 1))) s9)))) (va_up h23 (B + 24) (pz_z 0 8 (va_up (s9.2 27) (p).toNat (min ((s9.2 27) (p).toNat) (ww - 1))))) := mU27 hA23
    have hF24 : mFr B h (va_up h23 (B + 24) (pz_z 0 8 (va_up (s9.2 27) (p).toNat (min ((s9.2 27) (p).toNat) (ww - 1))))) := mFr_tr hF23 (mFr_up (by decide))
    revert hA24 hF24
    generalize (va_up h23 (B + 24) (pz_z 0 8 (va_up (s9.2 27) (p).toNat (min ((s9.2 27) (p).toNat) (ww - 1))))) = h24
    intro hA24 hF24
    refine pw_aload_n dX10_resize_181 rfl ?_
    refine pw_get (v := .ref (B + 26)) okX10 (k := 29) (by decide) lkX10_86 hA24.1 rfl dX10_resize_182 ?_
    refine pw_iload_n dX10_resize_185 rfl ?_
    refine pw_iconst (v := zI (0)) dX10_resize_186 (by decide) ?_
    refine pw_iast (g := (s9.2 29)) (t := 0) rfl (mF29 (s := (mA 27 (va_up (s9.2 27) (p).toNat (min ((s9.2 27) (p).toNat) (ww - 1))) (mA 26 (va_up (s9.2 26) (p).toNat (min ((s9.2 26) (p).toNat) (hh - 1))) (mA 24 (va_up (s9.2 24) (p).toNat (min ((s9.2 24) (p).toNat) (ww - 1))) (mA 23 (va_up (s9.2 23) (p).toNat (min ((s9.2 23) (p).toNat) (hh - 1))) s9))))) hA24) (by omega) (by decide) dX10_resize_187 ?_
    have hA25 : mAt B (mA 29 (va_up (s9.2 29) (p).toNat (0)) (mA 27 (va_up (s9.2 27) (p).toNat (min ((s9.2 27) (p).toNat) (ww - 1))) (mA 26 (va_up (s9.2 26) (p).toNat (min ((s9.2 26) (p).toNat) (hh - 1))) (mA 24 (va_up (s9.2 24) (p).toNat (min ((s9.2 24) (p).toNat) (ww - 1))) (mA 23 (va_up (s9.2 23) (p).toNat (min ((s9.2 23) (p).toNat) (hh - 1))) s9))))) (va_up h24 (B + 26) (pz_z 0 8 (va_up (s9.2 29) (p).toNat (0)))) := mU29 hA24
    have hF25 : mFr B h (va_up h24 (B + 26) (pz_z 0 8 (va_up (s9.2 29) (p).toNat (0)))) := mFr_tr hF24 (mFr_up (by decide))
    revert hA25 hF25
    generalize (va_up h24 (B + 26) (pz_z 0 8 (va_up (s9.2 29) (p).toNat (0)))) = h25
    intro hA25 hF25
    refine pw_aload_n dX10_resize_188 rfl ?_
    refine pw_get (v := .ref (B + 27)) okX10 (k := 30) (by decide) lkX10_89 hA25.1 rfl dX10_resize_189 ?_
    refine pw_iload_n dX10_resize_192 rfl ?_
    refine pw_iload_n dX10_resize_193 rfl ?_
    refine pw_iconst (v := zI (1)) dX10_resize_194 (by decide) ?_
    refine pw_zisub dX10_resize_195 ?_
    refine pw_iast (g := (s9.2 30)) (t := 0) rfl (mF30 (s := (mA 29 (va_up (s9.2 29) (p).toNat (0)) (mA 27 (va_up (s9.2 27) (p).toNat (min ((s9.2 27) (p).toNat) (ww - 1))) (mA 26 (va_up (s9.2 26) (p).toNat (min ((s9.2 26) (p).toNat) (hh - 1))) (mA 24 (va_up (s9.2 24) (p).toNat (min ((s9.2 24) (p).toNat) (ww - 1))) (mA 23 (va_up (s9.2 23) (p).toNat (min ((s9.2 23) (p).toNat) (hh - 1))) s9)))))) hA25) (by omega) (by decide) dX10_resize_196 ?_
    have hA26 : mAt B (mA 30 (va_up (s9.2 30) (p).toNat (hh - 1)) (mA 29 (va_up (s9.2 29) (p).toNat (0)) (mA 27 (va_up (s9.2 27) (p).toNat (min ((s9.2 27) (p).toNat) (ww - 1))) (mA 26 (va_up (s9.2 26) (p).toNat (min ((s9.2 26) (p).toNat) (hh - 1))) (mA 24 (va_up (s9.2 24) (p).toNat (min ((s9.2 24) (p).toNat) (ww - 1))) (mA 23 (va_up (s9.2 23) (p).toNat (min ((s9.2 23) (p).toNat) (hh - 1))) s9)))))) (va_up h25 (B + 27) (pz_z 0 8 (va_up (s9.2 30) (p).toNat (hh - 1)))) := mU30 hA25
    have hF26 : mFr B h (va_up h25 (B + 27) (pz_z 0 8 (va_up (s9.2 30) (p).toNat (hh - 1)))) := mFr_tr hF25 (mFr_up (by decide))
    revert hA26 hF26
    generalize (va_up h25 (B + 27) (pz_z 0 8 (va_up (s9.2 30) (p).toNat (hh - 1)))) = h26
    intro hA26 hF26
    refine pw_aload_n dX10_resize_197 rfl ?_
    refine pw_get (v := .ref (B + 28)) okX10 (k := 31) (by decide) lkX10_92 hA26.1 rfl dX10_resize_198 ?_
    refine pw_iload_n dX10_resize_201 rfl ?_
    refine pw_iconst (v := zI (0)) dX10_resize_202 (by decide) ?_
    refine pw_zast (g := (s9.2 31)) (t := 1) rfl (mF31 (s := (mA 30 (va_up (s9.2 30) (p).toNat (hh - 1)) (mA 29 (va_up (s9.2 29) (p).toNat (0)) (mA 27 (va_up (s9.2 27) (p).toNat (min ((s9.2 27) (p).toNat) (ww - 1))) (mA 26 (va_up (s9.2 26) (p).toNat (min ((s9.2 26) (p).toNat) (hh - 1))) (mA 24 (va_up (s9.2 24) (p).toNat (min ((s9.2 24) (p).toNat) (ww - 1))) (mA 23 (va_up (s9.2 23) (p).toNat (min ((s9.2 23) (p).toNat) (hh - 1))) s9))))))) hA26) (by omega) (by decide) (by omega) dX10_resize_203 ?_
    have hA27 : mAt B (mA 31 (va_up (s9.2 31) (p).toNat (0)) (mA 30 (va_up (s9.2 30) (p).toNat (hh - 1)) (mA 29 (va_up (s9.2 29) (p).toNat (0)) (mA 27 (va_up (s9.2 27) (p).toNat (min ((s9.2 27) (p).toNat) (ww - 1))) (mA 26 (va_up (s9.2 26) (p).toNat (min ((s9.2 26) (p).toNat) (hh - 1))) (mA 24 (va_up (s9.2 24) (p).toNat (min ((s9.2 24) (p).toNat) (ww - 1))) (mA 23 (va_up (s9.2 23) (p).toNat (min ((s9.2 23) (p).toNat) (hh - 1))) s9))))))) (va_up h26 (B + 28) (pz_z 1 8 (va_up (s9.2 31) (p).toNat (0)))) := mU31 hA26
    have hF27 : mFr B h (va_up h26 (B + 28) (pz_z 1 8 (va_up (s9.2 31) (p).toNat (0)))) := mFr_tr hF26 (mFr_up (by decide))
    revert hA27 hF27
    generalize (va_up h26 (B + 28) (pz_z 1 8 (va_up (s9.2 31) (p).toNat (0)))) = h27
    intro hA27 hF27
    have eG : mG s (mA 31 (va_up (s9.2 31) (p).toNat (0)) (mA 30 (va_up (s9.2 30) (p).toNat (hh - 1)) (mA 29 (va_up (s9.2 29) (p).toNat (0)) (mA 27 (va_up (s9.2 27) (p).toNat (min ((s9.2 27) (p).toNat) (ww - 1))) (mA 26 (va_up (s9.2 26) (p).toNat (min ((s9.2 26) (p).toNat) (hh - 1))) (mA 24 (va_up (s9.2 24) (p).toNat (min ((s9.2 24) (p).toNat) (ww - 1))) (mA 23 (va_up (s9.2 23) (p).toNat (min ((s9.2 23) (p).toNat) (hh - 1))) s9))))))).2 = (mA 31 (va_up (s9.2 31) (p).toNat (0)) (mA 30 (va_up (s9.2 30) (p).toNat (hh - 1)) (mA 29 (va_up (s9.2 29) (p).toNat (0)) (mA 27 (va_up (s9.2 27) (p).toNat (min ((s9.2 27) (p).toNat) (ww - 1))) (mA 26 (va_up (s9.2 26) (p).toNat (min ((s9.2 26) (p).toNat) (hh - 1))) (mA 24 (va_up (s9.2 24) (p).toNat (min ((s9.2 24) (p).toNat) (ww - 1))) (mA 23 (va_up (s9.2 23) (p).toNat (min ((s9.2 23) (p).toNat) (hh - 1))) s9))))))) := mG_of hE9.1 (fun k hk => by
      show va_up (va_up (va_up (va_up (va_up (va_up (va_up s9.2 23 _) 24 _) 26 _) 27 _) 29 _) 30 _) 31 _ k = s.2 k
      rw [va_up_ne _ _ (by omega), va_up_ne _ _ (by omega), va_up_ne _ _ (by omega), va_up_ne _ _ (by omega), va_up_ne _ _ (by omega), va_up_ne _ _ (by omega), va_up_ne _ _ (by omega), hE9.2 k (by omega) (by omega)]
      show va_up (va_up s.2 18 _) 19 _ k = s.2 k
      rw [va_up_ne _ _ (by omega), va_up_ne _ _ (by omega)])
    have hRo : mRo p.toNat s (mA 31 (va_up (s9.2 31) (p).toNat (0)) (mA 30 (va_up (s9.2 30) (p).toNat (hh - 1)) (mA 29 (va_up (s9.2 29) (p).toNat (0)) (mA 27 (va_up (s9.2 27) (p).toNat (min ((s9.2 27) (p).toNat) (ww - 1))) (mA 26 (va_up (s9.2 26) (p).toNat (min ((s9.2 26) (p).toNat) (hh - 1))) (mA 24 (va_up (s9.2 24) (p).toNat (min ((s9.2 24) (p).toNat) (ww - 1))) (mA 23 (va_up (s9.2 23) (p).toNat (min ((s9.2 23) (p).toNat) (hh - 1))) s9))))))) := by
      intro i hi
      refine ⟨?_, ?_, ?_, ?_, ?_, ?_⟩
      · show s9.2 18 i = s.2 18 i; rw [hE9.2 18 (by decide) (by decide)]; exact va_up_ne _ _ hi
      · show s9.2 19 i = s.2 19 i; rw [hE9.2 19 (by decide) (by decide)]; exact va_up_ne _ _ hi
      · show (va_up (s9.2 23) (p).toNat (min ((s9.2 23) (p).toNat) (hh - 1))) i = s.2 23 i; rw [va_up_ne _ _ hi, f23]
      · show (va_up (s9.2 24) (p).toNat (min ((s9.2 24) (p).toNat) (ww - 1))) i = s.2 24 i; rw [va_up_ne _ _ hi, f24]
      · show (va_up (s9.2 26) (p).toNat (min ((s9.2 26) (p).toNat) (hh - 1))) i = s.2 26 i; rw [va_up_ne _ _ hi, f26]
      · show (va_up (s9.2 27) (p).toNat (min ((s9.2 27) (p).toNat) (ww - 1))) i = s.2 27 i; rw [va_up_ne _ _ hi, f27]
    have hRp : mRg (mA 31 (va_up (s9.2 31) (p).toNat (0)) (mA 30 (va_up (s9.2 30) (p).toNat (hh - 1)) (mA 29 (va_up (s9.2 29) (p).toNat (0)) (mA 27 (va_up (s9.2 27) (p).toNat (min ((s9.2 27) (p).toNat) (ww - 1))) (mA 26 (va_up (s9.2 26) (p).toNat (min ((s9.2 26) (p).toNat) (hh - 1))) (mA 24 (va_up (s9.2 24) (p).toNat (min ((s9.2 24) (p).toNat) (ww - 1))) (mA 23 (va_up (s9.2 23) (p).toNat (min ((s9.2 23) (p).toNat) (hh - 1))) s9))))))) p.toNat := by
      refine ⟨?_, ?_, ?_, ?_, ?_, ?_⟩
      · show -2147483648 ≤ s9.2 18 p.toNat ∧ s9.2 18 p.toNat < 2147483648; rw [hE9.2 18 (by decide) (by decide)]; show -2147483648 ≤ va_up (s.2 18) p.toNat ww p.toNat ∧ va_up (s.2 18) p.toNat ww p.toNat < 2147483648; rw [va_up_self]; omega
      · show -2147483648 ≤ s9.2 19 p.toNat ∧ s9.2 19 p.toNat < 2147483648; rw [hE9.2 19 (by decide) (by decide)]; show -2147483648 ≤ va_up (s.2 19) p.toNat hh p.toNat ∧ va_up (s.2 19) p.toNat hh p.toNat < 2147483648; rw [va_up_self]; omega
      · show -2147483648 ≤ (va_up (s9.2 23) (p).toNat (min ((s9.2 23) (p).toNat) (hh - 1))) p.toNat ∧ (va_up (s9.2 23) (p).toNat (min ((s9.2 23) (p).toNat) (hh - 1))) p.toNat < 2147483648; rw [va_up_self]; omega
      · show -2147483648 ≤ (va_up (s9.2 24) (p).toNat (min ((s9.2 24) (p).toNat) (ww - 1))) p.toNat ∧ (va_up (s9.2 24) (p).toNat (min ((s9.2 24) (p).toNat) (ww - 1))) p.toNat < 2147483648; rw [va_up_self]; omega
      · show -2147483648 ≤ (va_up (s9.2 26) (p).toNat (min ((s9.2 26) (p).toNat) (hh - 1))) p.toNat ∧ (va_up (s9.2 26) (p).toNat (min ((s9.2 26) (p).toNat) (hh - 1))) p.toNat < 2147483648; rw [va_up_self]; omega
      · show -2147483648 ≤ (va_up (s9.2 27) (p).toNat (min ((s9.2 27) (p).toNat) (ww - 1))) p.toNat ∧ (va_up (s9.2 27) (p).toNat (min ((s9.2 27) (p).toNat) (ww - 1))) p.toNat < 2147483648; rw [va_up_self]; omega
    exact pw_vret dX10_resize_204 rfl (nle rfl) (nle rfl) ⟨rfl, (mA 31 (va_up (s9.2 31) (p).toNat (0)) (mA 30 (va_up (s9.2 30) (p).toNat (hh - 1)) (mA 29 (va_up (s9.2 29) (p).toNat (0)) (mA 27 (va_up (s9.2 27) (p).toNat (min ((s9.2 27) (p).toNat) (ww - 1))) (mA 26 (va_up (s9.2 26) (p).toNat (min ((s9.2 26) (p).toNat) (hh - 1))) (mA 24 (va_up (s9.2 24) (p).toNat (min ((s9.2 24) (p).toNat) (ww - 1))) (mA 23 (va_up (s9.2 23) (p).toNat (min ((s9.2 23) (p).toNat) (hh - 1))) s9))))))).2, by rw [eG]; exact hA27, by rw [eG]; exact hRo, by rw [eG]; exact hRp, hF27, rfl⟩
  ·
    refine pw_aload_n dX10_resize_10 rfl ?_
    refine pw_get (v := .ref (B + 16)) okX10 (k := 19) (by decide) lkX10_56 hA.1 rfl dX10_resize_11 ?_
    refine pw_iload_n dX10_resize_14 rfl ?_
    refine pw_iald (g := (s.2 19)) (t := 0) rfl (mF19 (s := s) hA) (by omega) (by decide) dX10_resize_15 ?_
    refine pw_iload_n dX10_resize_16 rfl ?_
    refine pw_icmp_ne (tgt := 21) dX10_resize_17 rfl (by omega) (by omega) (fun c17 => ?_) (fun c17 => ?_)
    ·
      refine pw_aload_n dX10_resize_21 rfl ?_
      refine pw_get (v := .ref (B + 15)) okX10 (k := 18) (by decide) lkX10_53 hA.1 rfl dX10_resize_22 ?_
      refine pw_iload_n dX10_resize_25 rfl ?_
      refine pw_iload_n dX10_resize_26 rfl ?_
      refine pw_iast (g := (s.2 18)) (t := 0) rfl (mF18 (s := s) hA) (by omega) (by decide) dX10_resize_27 ?_
      have hA28 : mAt B (mA 18 (va_up (s.2 18) (p).toNat (ww)) s) (va_up h (B + 15) (pz_z 0 8 (va_up (s.2 18) (p).toNat (ww)))) := mU18 hA
      have hF28 : mFr B h (va_up h (B + 15) (pz_z 0 8 (va_up (s.2 18) (p).toNat (ww)))) := mFr_tr mFr_rf (mFr_up (by decide))
      revert hA28 hF28
      generalize (va_up h (B + 15) (pz_z 0 8 (va_up (s.2 18) (p).toNat (ww)))) = h28
      intro hA28 hF28
      refine pw_aload_n dX10_resize_28 rfl ?_
      refine pw_get (v := .ref (B + 16)) okX10 (k := 19) (by decide) lkX10_56 hA28.1 rfl dX10_resize_29 ?_
      refine pw_iload_n dX10_resize_32 rfl ?_
      refine pw_iload_n dX10_resize_33 rfl ?_
      refine pw_iast (g := (s.2 19)) (t := 0) rfl (mF19 (s := (mA 18 (va_up (s.2 18) (p).toNat (ww)) s)) hA28) (by omega) (by decide) dX10_resize_34 ?_
      have hA29 : mAt B (mA 19 (va_up (s.2 19) (p).toNat (hh)) (mA 18 (va_up (s.2 18) (p).toNat (ww)) s)) (va_up h28 (B + 16) (pz_z 0 8 (va_up (s.2 19) (p).toNat (hh)))) := mU19 hA28
      have hF29 : mFr B h (va_up h28 (B + 16) (pz_z 0 8 (va_up (s.2 19) (p).toNat (hh)))) := mFr_tr hF28 (mFr_up (by decide))
      revert hA29 hF29
      generalize (va_up h28 (B + 16) (pz_z 0 8 (va_up (s.2 19) (p).toNat (hh)))) = h29
      intro hA29 hF29
      refine pw_iconst (v := zI (0)) dX10_resize_35 (by decide) ?_
      refine pw_istore (lv' := [some (.ref B), some (.int (zI (p))), some (.int (zI (ww))), some (.int (zI (hh))), some (.int (zI (0))), none, none]) dX10_resize_36 (by decide) rfl rfl ?_
      refine lN_rz3 (s := (mA 19 (va_up (s.2 19) (p).toNat (hh)) (mA 18 (va_up (s.2 18) (p).toNat (ww)) s))) htr hp hww hhh _ 0 _ _ (mA 19 (va_up (s.2 19) (p).toNat (hh)) (mA 18 (va_up (s.2 18) (p).toNat (ww)) s)) h29 rfl (by omega) (by omega) hA29 ⟨rfl, fun _ _ _ => rfl⟩ hF29 (fun v9 q5 q6 s9 h9 hA9 hE9 hF9 => ?_)
      have f23 : s9.2 23 = s.2 23 := hE9.2 23 (by decide) (by decide)
      have x23 := congrFun f23 p.toNat
      have f24 : s9.2 24 = s.2 24 := hE9.2 24 (by decide) (by decide)
      have x24 := congrFun f24 p.toNat
      have f26 : s9.2 26 = s.2 26 := hE9.2 26 (by decide) (by decide)
      have x26 := congrFun f26 p.toNat
      have f27 : s9.2 27 = s.2 27 := hE9.2 27 (by decide) (by decide)
      have x27 := congrFun f27 p.toNat
      refine pw_aload_n dX10_resize_109 rfl ?_
      refine pw_get (v := .ref (B + 20)) okX10 (k := 23) (by decide) lkX10_68 hA9.1 rfl dX10_resize_110 ?_
      refine pw_iload_n dX10_resize_113 rfl ?_
      refine pw_aload_n dX10_resize_114 rfl ?_
      refine pw_get (v := .ref (B + 20)) okX10 (k := 23) (by decide) lkX10_68 hA9.1 rfl dX10_resize_115 ?_
      refine pw_iload_n dX10_resize_118 rfl ?_
      refine pw_iald (g := (s9.2 23)) (t := 0) rfl (mF23 (s := s9) hA9) (by omega) (by decide) dX10_resize_119 ?_
      refine pw_iload_n dX10_resize_120 rfl ?_
      refine pw_iconst (v := zI (1)) dX10_resize_121 (by decide) ?_
      refine pw_zisub dX10_resize_122 ?_
      refine pw_callS (As := [.int (zI ((s9.2 23) (p).toNat)), .int (zI (hh - 1))]) (rm := rmD 0 0 0) (mR_least htr (by omega) (by omega)) rfl ywX10_least rfl cwX10_192 ⟨nle rfl, nle rfl⟩ (nle rfl) ⟨nle rfl, nle rfl⟩ dX10_resize_123 ?_ (fun _ _ _ z => z.elim)
      intro r_9 h_9 n_9 hq _
      rw [hq.1, hq.2.1, hq.2.2]
      show pw E YX10_resize _ _ 0 0 126 [some (.ref B), some (.int (zI (p))), some (.int (zI (ww))), some (.int (zI (hh))), some (.int (zI (v9))), q5, q6] [.int (zI (min ((s9.2 23) (p).toNat) (hh - 1))), .int (zI (p)), .ref (B + 20)] h9 n
      refine pw_iast (g := (s9.2 23)) (t := 0) rfl (mF23 (s := s9) hA9) (by omega) (by decide) dX10_resize_126 ?_
      have hA21 : mAt B (mA 23 (va_up (s9.2 23) (p).toNat (min ((s9.2 23) (p).toNat) (hh - 1))) s9) (va_up h9 (B + 20) (pz_z 0 8 (va_up (s9.2 23) (p).toNat (min ((s9.2 23) (p).toNat) (hh - 1))))) := mU23 hA9
      have hF21 : mFr B h (va_up h9 (B + 20) (pz_z 0 8 (va_up (s9.2 23) (p).toNat (min ((s9.2 23) (p).toNat) (hh - 1))))) := mFr_tr hF9 (mFr_up (by decide))
      revert hA21 hF21
      generalize (va_up h9 (B + 20) (pz_z 0 8 (va_up (s9.2 23) (p).toNat (min ((s9.2 23) (p).toNat) (hh - 1))))) = h21
      intro hA21 hF21
      refine pw_aload_n dX10_resize_127 rfl ?_
      refine pw_get (v := .ref (B + 21)) okX10 (k := 24) (by decide) lkX10_71 hA21.1 rfl dX10_resize_128 ?_
      refine pw_iload_n dX10_resize_131 rfl ?_
      refine pw_aload_n dX10_resize_132 rfl ?_
      refine pw_get (v := .ref (B + 21)) okX10 (k := 24) (by decide) lkX10_71 hA21.1 rfl dX10_resize_133 ?_
      refine pw_iload_n dX10_resize_136 rfl ?_
      refine pw_iald (g := (s9.2 24)) (t := 0) rfl (mF24 (s := (mA 23 (va_up (s9.2 23) (p).toNat (min ((s9.2 23) (p).toNat) (hh - 1))) s9)) hA21) (by omega) (by decide) dX10_resize_137 ?_
      refine pw_iload_n dX10_resize_138 rfl ?_
      refine pw_iconst (v := zI (1)) dX10_resize_139 (by decide) ?_
      refine pw_zisub dX10_resize_140 ?_
      refine pw_callS (As := [.int (zI ((s9.2 24) (p).toNat)), .int (zI (ww - 1))]) (rm := rmD 0 0 0) (mR_least htr (by omega) (by omega)) rfl ywX10_least rfl cwX10_192 ⟨nle rfl, nle rfl⟩ (nle rfl) ⟨nle rfl, nle rfl⟩ dX10_resize_141 ?_ (fun _ _ _ z => z.elim)
      intro r_9 h_9 n_9 hq _
      rw [hq.1, hq.2.1, hq.2.2]
      show pw E YX10_resize _ _ 0 0 144 [some (.ref B), some (.int (zI (p))), some (.int (zI (ww))), some (.int (zI (hh))), some (.int (zI (v9))), q5, q6] [.int (zI (min ((s9.2 24) (p).toNat) (ww - 1))), .int (zI (p)), .ref (B + 21)] h21 n
      refine pw_iast (g := (s9.2 24)) (t := 0) rfl (mF24 (s := (mA 23 (va_up (s9.2 23) (p).toNat (min ((s9.2 23) (p).toNat) (hh - 1))) s9)) hA21) (by omega) (by decide) dX10_resize_144 ?_
      have hA22 : mAt B (mA 24 (va_up (s9.2 24) (p).toNat (min ((s9.2 24) (p).toNat) (ww - 1))) (mA 23 (va_up (s9.2 23) (p).toNat (min ((s9.2 23) (p).toNat) (hh - 1))) s9)) (va_up h21 (B + 21) (pz_z 0 8 (va_up (s9.2 24) (p).toNat (min ((s9.2 24) (p).toNat) (ww - 1))))) := mU24 hA21
      have hF22 : mFr B h (va_up h21 (B + 21) (pz_z 0 8 (va_up (s9.2 24) (p).toNat (min ((s9.2 24) (p).toNat) (ww - 1))))) := mFr_tr hF21 (mFr_up (by decide))
      revert hA22 hF22
      generalize (va_up h21 (B + 21) (pz_z 0 8 (va_up (s9.2 24) (p).toNat (min ((s9.2 24) (p).toNat) (ww - 1))))) = h22
      intro hA22 hF22
      refine pw_aload_n dX10_resize_145 rfl ?_
      refine pw_get (v := .ref (B + 23)) okX10 (k := 26) (by decide) lkX10_77 hA22.1 rfl dX10_resize_146 ?_
      refine pw_iload_n dX10_resize_149 rfl ?_
      refine pw_aload_n dX10_resize_150 rfl ?_
      refine pw_get (v := .ref (B + 23)) okX10 (k := 26) (by decide) lkX10_77 hA22.1 rfl dX10_resize_151 ?_
      refine pw_iload_n dX10_resize_154 rfl ?_
      refine pw_iald (g := (s9.2 26)) (t := 0) rfl (mF26 (s := (mA 24 (va_up (s9.2 24) (p).toNat (min ((s9.2 24) (p).toNat) (ww - 1))) (mA 23 (va_up (s9.2 23) (p).toNat (min ((s9.2 23) (p).toNat) (hh - 1))) s9))) hA22) (by omega) (by decide) dX10_resize_155 ?_
      refine pw_iload_n dX10_resize_156 rfl ?_
      refine pw_iconst (v := zI (1)) dX10_resize_157 (by decide) ?_
      refine pw_zisub dX10_resize_158 ?_
      refine pw_callS (As := [.int (zI ((s9.2 26) (p).toNat)), .int (zI (hh - 1))]) (rm := rmD 0 0 0) (mR_least htr (by omega) (by omega)) rfl ywX10_least rfl cwX10_192 ⟨nle rfl, nle rfl⟩ (nle rfl) ⟨nle rfl, nle rfl⟩ dX10_resize_159 ?_ (fun _ _ _ z => z.elim)
      intro r_9 h_9 n_9 hq _
      rw [hq.1, hq.2.1, hq.2.2]
      show pw E YX10_resize _ _ 0 0 162 [some (.ref B), some (.int (zI (p))), some (.int (zI (ww))), some (.int (zI (hh))), some (.int (zI (v9))), q5, q6] [.int (zI (min ((s9.2 26) (p).toNat) (hh - 1))), .int (zI (p)), .ref (B + 23)] h22 n
      refine pw_iast (g := (s9.2 26)) (t := 0) rfl (mF26 (s := (mA 24 (va_up (s9.2 24) (p).toNat (min ((s9.2 24) (p).toNat) (ww - 1))) (mA 23 (va_up (s9.2 23) (p).toNat (min ((s9.2 23) (p).toNat) (hh - 1))) s9))) hA22) (by omega) (by decide) dX10_resize_162 ?_
      have hA23 : mAt B (mA 26 (va_up (s9.2 26) (p).toNat (min ((s9.2 26) (p).toNat) (hh - 1))) (mA 24 (va_up (s9.2 24) (p).toNat (min ((s9.2 24) (p).toNat) (ww - 1))) (mA 23 (va_up (s9.2 23) (p).toNat (min ((s9.2 23) (p).toNat) (hh - 1))) s9))) (va_up h22 (B + 23) (pz_z 0 8 (va_up (s9.2 26) (p).toNat (min ((s9.2 26) (p).toNat) (hh - 1))))) := mU26 hA22
      have hF23 : mFr B h (va_up h22 (B + 23) (pz_z 0 8 (va_up (s9.2 26) (p).toNat (min ((s9.2 26) (p).toNat) (hh - 1))))) := mFr_tr hF22 (mFr_up (by decide))
      revert hA23 hF23
      generalize (va_up h22 (B + 23) (pz_z 0 8 (va_up (s9.2 26) (p).toNat (min ((s9.2 26) (p).toNat) (hh - 1))))) = h23
      intro hA23 hF23
      refine pw_aload_n dX10_resize_163 rfl ?_
      refine pw_get (v := .ref (B + 24)) okX10 (k := 27) (by decide) lkX10_80 hA23.1 rfl dX10_resize_164 ?_
      refine pw_iload_n dX10_resize_167 rfl ?_
      refine pw_aload_n dX10_resize_168 rfl ?_
      refine pw_get (v := .ref (B + 24)) okX10 (k := 27) (by decide) lkX10_80 hA23.1 rfl dX10_resize_169 ?_
      refine pw_iload_n dX10_resize_172 rfl ?_
      refine pw_iald (g := (s9.2 27)) (t := 0) rfl (mF27 (s := (mA 26 (va_up (s9.2 26) (p).toNat (min ((s9.2 26) (p).toNat) (hh - 1))) (mA 24 (va_up (s9.2 24) (p).toNat (min ((s9.2 24) (p).toNat) (ww - 1))) (mA 23 (va_up (s9.2 23) (p).toNat (min ((s9.2 23) (p).toNat) (hh - 1))) s9)))) hA23) (by omega) (by decide) dX10_resize_173 ?_
      refine pw_iload_n dX10_resize_174 rfl ?_
      refine pw_iconst (v := zI (1)) dX10_resize_175 (by decide) ?_
      refine pw_zisub dX10_resize_176 ?_
      refine pw_callS (As := [.int (zI ((s9.2 27) (p).toNat)), .int (zI (ww - 1))]) (rm := rmD 0 0 0) (mR_least htr (by omega) (by omega)) rfl ywX10_least rfl cwX10_192 ⟨nle rfl, nle rfl⟩ (nle rfl) ⟨nle rfl, nle rfl⟩ dX10_resize_177 ?_ (fun _ _ _ z => z.elim)
      intro r_9 h_9 n_9 hq _
      rw [hq.1, hq.2.1, hq.2.2]
      show pw E YX10_resize _ _ 0 0 180 [some (.ref B), some (.int (zI (p))), some (.int (zI (ww))), some (.int (zI (hh))), some (.int (zI (v9))), q5, q6] [.int (zI (min ((s9.2 27) (p).toNat) (ww - 1))), .int (zI (p)), .ref (B + 24)] h23 n
      refine pw_iast (g := (s9.2 27)) (t := 0) rfl (mF27 (s := (mA 26 (va_up (s9.2 26) (p).toNat (min ((s9.2 26) (p).toNat) (hh - 1))) (mA 24 (va_up (s9.2 24) (p).toNat (min ((s9.2 24) (p).toNat) (ww - 1))) (mA 23 (va_up (s9.2 23) (p).toNat (min ((s9.2 23) (p).toNat) (hh - 1))) s9)))) hA23) (by omega) (by decide) dX10_resize_180 ?_
      have hA24 : mAt B (mA 27 (va_up (s9.2 27) (p).toNat (min ((s9.2 27) (p).toNat) (ww - 1))) (mA 26 (va_up (s9.2 26) (p).toNat (min ((s9.2 26) (p).toNat) (hh - 1))) (mA 24 (va_up (s9.2 24) (p).toNat (min ((s9.2 24) (p).toNat) (ww - 1))) (mA 23 (va_up (s9.2 23) (p).toNat (min ((s9.2 23) (p).toNat) (hh - 1))) s9)))) (va_up h23 (B + 24) (pz_z 0 8 (va_up (s9.2 27) (p).toNat (min ((s9.2 27) (p).toNat) (ww - 1))))) := mU27 hA23
      have hF24 : mFr B h (va_up h23 (B + 24) (pz_z 0 8 (va_up (s9.2 27) (p).toNat (min ((s9.2 27) (p).toNat) (ww - 1))))) := mFr_tr hF23 (mFr_up (by decide))
      revert hA24 hF24
      generalize (va_up h23 (B + 24) (pz_z 0 8 (va_up (s9.2 27) (p).toNat (min ((s9.2 27) (p).toNat) (ww - 1))))) = h24
      intro hA24 hF24
      refine pw_aload_n dX10_resize_181 rfl ?_
      refine pw_get (v := .ref (B + 26)) okX10 (k := 29) (by decide) lkX10_86 hA24.1 rfl dX10_resize_182 ?_
      refine pw_iload_n dX10_resize_185 rfl ?_
      refine pw_iconst (v := zI (0)) dX10_resize_186 (by decide) ?_
      refine pw_iast (g := (s9.2 29)) (t := 0) rfl (mF29 (s := (mA 27 (va_up (s9.2 27) (p).toNat (min ((s9.2 27) (p).toNat) (ww - 1))) (mA 26 (va_up (s9.2 26) (p).toNat (min ((s9.2 26) (p).toNat) (hh - 1))) (mA 24 (va_up (s9.2 24) (p).toNat (min ((s9.2 24) (p).toNat) (ww - 1))) (mA 23 (va_up (s9.2 23) (p).toNat (min ((s9.2 23) (p).toNat) (hh - 1))) s9))))) hA24) (by omega) (by decide) dX10_resize_187 ?_
      have hA25 : mAt B (mA 29 (va_up (s9.2 29) (p).toNat (0)) (mA 27 (va_up (s9.2 27) (p).toNat (min ((s9.2 27) (p).toNat) (ww - 1))) (mA 26 (va_up (s9.2 26) (p).toNat (min ((s9.2 26) (p).toNat) (hh - 1))) (mA 24 (va_up (s9.2 24) (p).toNat (min ((s9.2 24) (p).toNat) (ww - 1))) (mA 23 (va_up (s9.2 23) (p).toNat (min ((s9.2 23) (p).toNat) (hh - 1))) s9))))) (va_up h24 (B + 26) (pz_z 0 8 (va_up (s9.2 29) (p).toNat (0)))) := mU29 hA24
      have hF25 : mFr B h (va_up h24 (B + 26) (pz_z 0 8 (va_up (s9.2 29) (p).toNat (0)))) := mFr_tr hF24 (mFr_up (by decide))
      revert hA25 hF25
      generalize (va_up h24 (B + 26) (pz_z 0 8 (va_up (s9.2 29) (p).toNat (0)))) = h25
      intro hA25 hF25
      refine pw_aload_n dX10_resize_188 rfl ?_
      refine pw_get (v := .ref (B + 27)) okX10 (k := 30) (by decide) lkX10_89 hA25.1 rfl dX10_resize_189 ?_
      refine pw_iload_n dX10_resize_192 rfl ?_
      refine pw_iload_n dX10_resize_193 rfl ?_
      refine pw_iconst (v := zI (1)) dX10_resize_194 (by decide) ?_
      refine pw_zisub dX10_resize_195 ?_
      refine pw_iast (g := (s9.2 30)) (t := 0) rfl (mF30 (s := (mA 29 (va_up (s9.2 29) (p).toNat (0)) (mA 27 (va_up (s9.2 27) (p).toNat (min ((s9.2 27) (p).toNat) (ww - 1))) (mA 26 (va_up (s9.2 26) (p).toNat (min ((s9.2 26) (p).toNat) (hh - 1))) (mA 24 (va_up (s9.2 24) (p).toNat (min ((s9.2 24) (p).toNat) (ww - 1))) (mA 23 (va_up (s9.2 23) (p).toNat (min ((s9.2 23) (p).toNat) (hh - 1))) s9)))))) hA25) (by omega) (by decide) dX10_resize_196 ?_
      have hA26 : mAt B (mA 30 (va_up (s9.2 30) (p).toNat (hh - 1)) (mA 29 (va_up (s9.2 29) (p).toNat (0)) (mA 27 (va_up (s9.2 27) (p).toNat (min ((s9.2 27) (p).toNat) (ww - 1))) (mA 26 (va_up (s9.2 26) (p).toNat (min ((s9.2 26) (p).toNat) (hh - 1))) (mA 24 (va_up (s9.2 24) (p).toNat (min ((s9.2 24) (p).toNat) (ww - 1))) (mA 23 (va_up (s9.2 23) (p).toNat (min ((s9.2 23) (p).toNat) (hh - 1))) s9)))))) (va_up h25 (B + 27) (pz_z 0 8 (va_up (s9.2 30) (p).toNat (hh - 1)))) := mU30 hA25
      have hF26 : mFr B h (va_up h25 (B + 27) (pz_z 0 8 (va_up (s9.2 30) (p).toNat (hh - 1)))) := mFr_tr hF25 (mFr_up (by decide))
      revert hA26 hF26
      generalize (va_up h25 (B + 27) (pz_z 0 8 (va_up (s9.2 30) (p).toNat (hh - 1)))) = h26
      intro hA26 hF26
      refine pw_aload_n dX10_resize_197 rfl ?_
      refine pw_get (v := .ref (B + 28)) okX10 (k := 31) (by decide) lkX10_92 hA26.1 rfl dX10_resize_198 ?_
      refine pw_iload_n dX10_resize_201 rfl ?_
      refine pw_iconst (v := zI (0)) dX10_resize_202 (by decide) ?_
      refine pw_zast (g := (s9.2 31)) (t := 1) rfl (mF31 (s := (mA 30 (va_up (s9.2 30) (p).toNat (hh - 1)) (mA 29 (va_up (s9.2 29) (p).toNat (0)) (mA 27 (va_up (s9.2 27) (p).toNat (min ((s9.2 27) (p).toNat) (ww - 1))) (mA 26 (va_up (s9.2 26) (p).toNat (min ((s9.2 26) (p).toNat) (hh - 1))) (mA 24 (va_up (s9.2 24) (p).toNat (min ((s9.2 24) (p).toNat) (ww - 1))) (mA 23 (va_up (s9.2 23) (p).toNat (min ((s9.2 23) (p).toNat) (hh - 1))) s9))))))) hA26) (by omega) (by decide) (by omega) dX10_resize_203 ?_
      have hA27 : mAt B (mA 31 (va_up (s9.2 31) (p).toNat (0)) (mA 30 (va_up (s9.2 30) (p).toNat (hh - 1)) (mA 29 (va_up (s9.2 29) (p).toNat (0)) (mA 27 (va_up (s9.2 27) (p).toNat (min ((s9.2 27) (p).toNat) (ww - 1))) (mA 26 (va_up (s9.2 26) (p).toNat (min ((s9.2 26) (p).toNat) (hh - 1))) (mA 24 (va_up (s9.2 24) (p).toNat (min ((s9.2 24) (p).toNat) (ww - 1))) (mA 23 (va_up (s9.2 23) (p).toNat (min ((s9.2 23) (p).toNat) (hh - 1))) s9))))))) (va_up h26 (B + 28) (pz_z 1 8 (va_up (s9.2 31) (p).toNat (0)))) := mU31 hA26
      have hF27 : mFr B h (va_up h26 (B + 28) (pz_z 1 8 (va_up (s9.2 31) (p).toNat (0)))) := mFr_tr hF26 (mFr_up (by decide))
      revert hA27 hF27
      generalize (va_up h26 (B + 28) (pz_z 1 8 (va_up (s9.2 31) (p).toNat (0)))) = h27
      intro hA27 hF27
      have eG : mG s (mA 31 (va_up (s9.2 31) (p).toNat (0)) (mA 30 (va_up (s9.2 30) (p).toNat (hh - 1)) (mA 29 (va_up (s9.2 29) (p).toNat (0)) (mA 27 (va_up (s9.2 27) (p).toNat (min ((s9.2 27) (p).toNat) (ww - 1))) (mA 26 (va_up (s9.2 26) (p).toNat (min ((s9.2 26) (p).toNat) (hh - 1))) (mA 24 (va_up (s9.2 24) (p).toNat (min ((s9.2 24) (p).toNat) (ww - 1))) (mA 23 (va_up (s9.2 23) (p).toNat (min ((s9.2 23) (p).toNat) (hh - 1))) s9))))))).2 = (mA 31 (va_up (s9.2 31) (p).toNat (0)) (mA 30 (va_up (s9.2 30) (p).toNat (hh - 1)) (mA 29 (va_up (s9.2 29) (p).toNat (0)) (mA 27 (va_up (s9.2 27) (p).toNat (min ((s9.2 27) (p).toNat) (ww - 1))) (mA 26 (va_up (s9.2 26) (p).toNat (min ((s9.2 26) (p).toNat) (hh - 1))) (mA 24 (va_up (s9.2 24) (p).toNat (min ((s9.2 24) (p).toNat) (ww - 1))) (mA 23 (va_up (s9.2 23) (p).toNat (min ((s9.2 23) (p).toNat) (hh - 1))) s9))))))) := mG_of hE9.1 (fun k hk => by
        show va_up (va_up (va_up (va_up (va_up (va_up (va_up s9.2 23 _) 24 _) 26 _) 27 _) 29 _) 30 _) 31 _ k = s.2 k
        rw [va_up_ne _ _ (by omega), va_up_ne _ _ (by omega), va_up_ne _ _ (by omega), va_up_ne _ _ (by omega), va_up_ne _ _ (by omega), va_up_ne _ _ (by omega), va_up_ne _ _ (by omega), hE9.2 k (by omega) (by omega)]
        show va_up (va_up s.2 18 _) 19 _ k = s.2 k
        rw [va_up_ne _ _ (by omega), va_up_ne _ _ (by omega)])
      have hRo : mRo p.toNat s (mA 31 (va_up (s9.2 31) (p).toNat (0)) (mA 30 (va_up (s9.2 30) (p).toNat (hh - 1)) (mA 29 (va_up (s9.2 29) (p).toNat (0)) (mA 27 (va_up (s9.2 27) (p).toNat (min ((s9.2 27) (p).toNat) (ww - 1))) (mA 26 (va_up (s9.2 26) (p).toNat (min ((s9.2 26) (p).toNat) (hh - 1))) (mA 24 (va_up (s9.2 24) (p).toNat (min ((s9.2 24) (p).toNat) (ww - 1))) (mA 23 (va_up (s9.2 23) (p).toNat (min ((s9.2 23) (p).toNat) (hh - 1))) s9))))))) := by
        intro i hi
        refine ⟨?_, ?_, ?_, ?_, ?_, ?_⟩
        · show s9.2 18 i = s.2 18 i; rw [hE9.2 18 (by decide) (by decide)]; exact va_up_ne _ _ hi
        · show s9.2 19 i = s.2 19 i; rw [hE9.2 19 (by decide) (by decide)]; exact va_up_ne _ _ hi
        · show (va_up (s9.2 23) (p).toNat (min ((s9.2 23) (p).toNat) (hh - 1))) i = s.2 23 i; rw [va_up_ne _ _ hi, f23]
        · show (va_up (s9.2 24) (p).toNat (min ((s9.2 24) (p).toNat) (ww - 1))) i = s.2 24 i; rw [va_up_ne _ _ hi, f24]
        · show (va_up (s9.2 26) (p).toNat (min ((s9.2 26) (p).toNat) (hh - 1))) i = s.2 26 i; rw [va_up_ne _ _ hi, f26]
        · show (va_up (s9.2 27) (p).toNat (min ((s9.2 27) (p).toNat) (ww - 1))) i = s.2 27 i; rw [va_up_ne _ _ hi, f27]
      have hRp : mRg (mA 31 (va_up (s9.2 31) (p).toNat (0)) (mA 30 (va_up (s9.2 30) (p).toNat (hh - 1)) (mA 29 (va_up (s9.2 29) (p).toNat (0)) (mA 27 (va_up (s9.2 27) (p).toNat (min ((s9.2 27) (p).toNat) (ww - 1))) (mA 26 (va_up (s9.2 26) (p).toNat (min ((s9.2 26) (p).toNat) (hh - 1))) (mA 24 (va_up (s9.2 24) (p).toNat (min ((s9.2 24) (p).toNat) (ww - 1))) (mA 23 (va_up (s9.2 23) (p).toNat (min ((s9.2 23) (p).toNat) (hh - 1))) s9))))))) p.toNat := by
        refine ⟨?_, ?_, ?_, ?_, ?_, ?_⟩
        · show -2147483648 ≤ s9.2 18 p.toNat ∧ s9.2 18 p.toNat < 2147483648; rw [hE9.2 18 (by decide) (by decide)]; show -2147483648 ≤ va_up (s.2 18) p.toNat ww p.toNat ∧ va_up (s.2 18) p.toNat ww p.toNat < 2147483648; rw [va_up_self]; omega
        · show -2147483648 ≤ s9.2 19 p.toNat ∧ s9.2 19 p.toNat < 2147483648; rw [hE9.2 19 (by decide) (by decide)]; show -2147483648 ≤ va_up (s.2 19) p.toNat hh p.toNat ∧ va_up (s.2 19) p.toNat hh p.toNat < 2147483648; rw [va_up_self]; omega
        · show -2147483648 ≤ (va_up (s9.2 23) (p).toNat (min ((s9.2 23) (p).toNat) (hh - 1))) p.toNat ∧ (va_up (s9.2 23) (p).toNat (min ((s9.2 23) (p).toNat) (hh - 1))) p.toNat < 2147483648; rw [va_up_self]; omega
        · show -2147483648 ≤ (va_up (s9.2 24) (p).toNat (min ((s9.2 24) (p).toNat) (ww - 1))) p.toNat ∧ (va_up (s9.2 24) (p).toNat (min ((s9.2 24) (p).toNat) (ww - 1))) p.toNat < 2147483648; rw [va_up_self]; omega
        · show -2147483648 ≤ (va_up (s9.2 26) (p).toNat (min ((s9.2 26) (p).toNat) (hh - 1))) p.toNat ∧ (va_up (s9.2 26) (p).toNat (min ((s9.2 26) (p).toNat) (hh - 1))) p.toNat < 2147483648; rw [va_up_self]; omega
        · show -2147483648 ≤ (va_up (s9.2 27) (p).toNat (min ((s9.2 27) (p).toNat) (ww - 1))) p.toNat ∧ (va_up (s9.2 27) (p).toNat (min ((s9.2 27) (p).toNat) (ww - 1))) p.toNat < 2147483648; rw [va_up_self]; omega
      exact pw_vret dX10_resize_204 rfl (nle rfl) (nle rfl) ⟨rfl, (mA 31 (va_up (s9.2 31) (p).toNat (0)) (mA 30 (va_up (s9.2 30) (p).toNat (hh - 1)) (mA 29 (va_up (s9.2 29) (p).toNat (0)) (mA 27 (va_up (s9.2 27) (p).toNat (min ((s9.2 27) (p).toNat) (ww - 1))) (mA 26 (va_up (s9.2 26) (p).toNat (min ((s9.2 26) (p).toNat) (hh - 1))) (mA 24 (va_up (s9.2 24) (p).toNat (min ((s9.2 24) (p).toNat) (ww - 1))) (mA 23 (va_up (s9.2 23) (p).toNat (min ((s9.2 23) (p).toNat) (hh - 1))) s9))))))).2, by rw [eG]; exact hA27, by rw [eG]; exact hRo, by rw [eG]; exact hRp, hF27, rfl⟩
    ·
      have eG : mG s s.2 = s := mG_of rfl (fun _ _ => rfl)
      exact pw_vret dX10_resize_20 rfl (nle rfl) (nle rfl) ⟨rfl, s.2, by rw [eG]; exact hA, by rw [eG]; exact fun _ _ => ⟨rfl, rfl, rfl, rfl, rfl, rfl⟩, by rw [eG]; exact hRg, mFr_rf, rfl⟩
set_option maxHeartbeats 1000000 in
set_option maxRecDepth 100000 in
theorem lN_free {E : pw_E} (htr : E.1.stackTraces = false) {Kk : pw_K} {h : pz_H} {n : Nat} {B : Nat} {s : mS} (hA : mAt B s h) {m : Int} (hm : 0 ≤ m ∧ m < 16) (h1 : ∀ i, i < m.toNat → s.2 3 i = 1) (h0 : s.2 3 m.toNat = 0) (hQ : ∀ h', mAt B (mA 3 (va_up (s.2 3) m.toNat 1) s) h' → mFr B h h' → Kk.2.2.1 (some (.int (zI m))) h' n) : ∀ (j : Nat) (i : Int), (m - i).toNat = j → 0 ≤ i → i ≤ m → pw E YX10_freeNode (rmD 0 0 0) Kk 0 0 2 [some (.ref B), some (.int (zI i))] [] h n := by
  intro j
  induction j with
  | zero =>
    intro i hj i1 i2
    have hz : s.2 3 i.toNat = 0 := by rw [show i = m by omega]; exact h0
    refine pw_aload_n dX10_freeNode_2 rfl ?_
    refine pw_get (v := .ref (B + 1)) okX10 (k := 3) (by decide) lkX10_7 hA.1 rfl dX10_freeNode_3 ?_
    refine pw_iload_n dX10_freeNode_6 rfl ?_
    refine pw_zald (g := (s.2 3)) (t := 1) rfl (mF3 (s := s) hA) (by omega) (by decide) dX10_freeNode_7 ?_
    refine pw_if_eq (tgt := 17) dX10_freeNode_8 rfl (by omega) (fun c8 => ?_) (fun c8 => ?_)
    ·
      refine pw_aload_n dX10_freeNode_17 rfl ?_
      refine pw_get (v := .ref (B + 1)) okX10 (k := 3) (by decide) lkX10_7 hA.1 rfl dX10_freeNode_18 ?_
      refine pw_iload_n dX10_freeNode_21 rfl ?_
      refine pw_iconst (v := zI (1)) dX10_freeNode_22 (by decide) ?_
      refine pw_zast (g := (s.2 3)) (t := 1) rfl (mF3 (s := s) hA) (by omega) (by decide) (by omega) dX10_freeNode_23 ?_
      have hA1 : mAt B (mA 3 (va_up (s.2 3) (i).toNat (1)) s) (va_up h (B + 1) (pz_z 1 16 (va_up (s.2 3) (i).toNat (1)))) := mU3 hA
      have hF1 : mFr B h (va_up h (B + 1) (pz_z 1 16 (va_up (s.2 3) (i).toNat (1)))) := mFr_tr mFr_rf (mFr_up (by decide))
      revert hA1 hF1
      generalize (va_up h (B + 1) (pz_z 1 16 (va_up (s.2 3) (i).toNat (1)))) = h1
      intro hA1 hF1
      refine pw_iload_n dX10_freeNode_24 rfl ?_
      have em : i = m := by omega
      subst em
      exact pw_iret dX10_freeNode_25 rfl (nle rfl) (nle rfl) (hQ _ hA1 hF1)
    · exfalso; omega
  | succ j ih =>
    intro i hj i1 i2
    have hz : s.2 3 i.toNat = 1 := h1 i.toNat (by omega)
    refine pw_aload_n dX10_freeNode_2 rfl ?_
    refine pw_get (v := .ref (B + 1)) okX10 (k := 3) (by decide) lkX10_7 hA.1 rfl dX10_freeNode_3 ?_
    refine pw_iload_n dX10_freeNode_6 rfl ?_
    refine pw_zald (g := (s.2 3)) (t := 1) rfl (mF3 (s := s) hA) (by omega) (by decide) dX10_freeNode_7 ?_
    refine pw_if_eq (tgt := 17) dX10_freeNode_8 rfl (by omega) (fun c8 => ?_) (fun c8 => ?_)
    · exfalso; omega
    ·
      refine pw_ziinc (lv' := [some (.ref B), some (.int (zI (i + 1)))]) dX10_freeNode_11 rfl (by decide) rfl rfl ?_
      refine pw_goto (tgt := 2) dX10_freeNode_14 rfl ?_
      exact ih (i + 1) (by omega) (by omega) (by omega)
set_option maxHeartbeats 1000000 in
set_option maxRecDepth 100000 in
/-- freeNode() -/
theorem nR_freeNode {E : pw_E} (htr : E.1.stackTraces = false) {h : pz_H} {n : Nat} {B : Nat} {s : mS} (hA : mAt B s h)  {m : Int} (hm : 0 ≤ m ∧ m < 16) (h1 : ∀ i, i < m.toNat → s.2 3 i = 1) (h0 : s.2 3 m.toNat = 0) : pw_M E yX10_freeNode YX10_freeNode (rmD 0 0 0) [.ref B] h n (fun r0 h' n' => r0 = some (.int (zI m)) ∧ mAt B (mA 3 (va_up (s.2 3) m.toNat 1) s) h' ∧ mFr B h h' ∧ n' = n) (fun _ _ _ => False) := by
  refine pw_M_of (lv := [some (.ref B), none]) (by decide) rfl rfl htr (nle rfl) rfl (fun L => ?_)
  refine pw_iconst (v := zI (0)) dX10_freeNode_0 (by decide) ?_
  refine pw_istore_n (lv' := [some (.ref B), some (.int (zI (0)))]) dX10_freeNode_1 (by decide) rfl rfl ?_
  exact lN_free htr hA hm h1 h0 (fun h' z1 z2 => by exact ⟨rfl, z1, z2, rfl⟩) _ 0 rfl (by omega) (by omega)
