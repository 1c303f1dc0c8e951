
/-! ===== the reference in general ===== -/
/-- what has come in stays, or begins anew -/
def m45 (s s1 : mS) : Prop := ∀ i, s1.2 45 i = s.2 45 i ∨ s1.2 45 i = 0
theorem m45_e {s s1 : mS} (h : s1.2 45 = s.2 45) : m45 s s1 := fun i => Or.inl (congrFun h i)
theorem m45_tr {s s1 s2 : mS} (a : m45 s s1) (b : m45 s1 s2) : m45 s s2 := fun i => by
  rcases b i with z | z
  · rw [z]; exact a i
  · exact Or.inr z
/-- from s to s1 pane p alone has changed -/
def mPq (p : Nat) (s s1 : mS) : Prop := s1.1 = s.1 ∧ (∀ k, (k < 18 ∨ 45 < k) → s1.2 k = s.2 k) ∧ (∀ k, 18 ≤ k → k ≤ 45 → k ≠ 20 → k ≠ 21 → k ≠ 36 → k ≠ 40 → k ≠ 41 → ∀ i, i ≠ p → s1.2 k i = s.2 k i) ∧ (∀ i, (i < 4 * p ∨ 4 * p + 4 ≤ i) → s1.2 36 i = s.2 36 i) ∧ m45 s s1
theorem mPq_rf {p : Nat} {s : mS} : mPq p s s := ⟨rfl, fun _ _ => rfl, fun _ _ _ _ _ _ _ _ _ _ => rfl, fun _ _ => rfl, m45_e rfl⟩
theorem mPq_tr {p : Nat} {s s1 s2 : mS} (a : mPq p s s1) (b : mPq p s1 s2) : mPq p s s2 := ⟨b.1.trans a.1, fun k hk => (b.2.1 k hk).trans (a.2.1 k hk), fun k h1 h2 h3 h4 h5 h6 h7 i hi => (b.2.2.1 k h1 h2 h3 h4 h5 h6 h7 i hi).trans (a.2.2.1 k h1 h2 h3 h4 h5 h6 h7 i hi), fun i hi => (b.2.2.2.1 i hi).trans (a.2.2.2.1 i hi), m45_tr a.2.2.2.2 b.2.2.2.2⟩
theorem mPq_W {p j : Nat} {s : mS} {v : Int} (h1 : 18 ≤ j) (h2 : j ≤ 45) (h3 : j ≠ 36) (h4 : j = 45 → v = 0) : mPq p s (mA j (va_up (s.2 j) p v) s) := by
  refine ⟨rfl, fun k hk => ?_, fun k a1 a2 a3 a4 a5 a6 a7 i hi => ?_, fun i hi => ?_, fun i => ?_⟩
  · show va_up s.2 j _ k = s.2 k
    rw [va_up_ne _ _ (by omega)]
  · show va_up s.2 j (va_up (s.2 j) p v) k i = s.2 k i
    by_cases e : k = j
    · subst e; rw [va_up_self, va_up_ne _ _ hi]
    · rw [va_up_ne _ _ e]
  · show va_up s.2 j _ 36 i = s.2 36 i
    rw [va_up_ne _ _ (Ne.symm h3)]
  · show va_up s.2 j (va_up (s.2 j) p v) 45 i = s.2 45 i ∨ va_up s.2 j (va_up (s.2 j) p v) 45 i = 0
    by_cases e : 45 = j
    · subst e
      rw [va_up_self]
      by_cases ei : i = p
      · rw [ei, va_up_self]; exact Or.inr (h4 rfl)
      · rw [va_up_ne _ _ ei]; exact Or.inl rfl
    · rw [va_up_ne _ _ e]; exact Or.inl rfl
theorem mPq_E {p : Nat} {s s1 : mS} (h : mEq s s1) : mPq p s s1 := ⟨h.1, fun k hk => h.2 k (by omega) (by omega), fun k _ _ a3 a4 _ _ _ i _ => by rw [h.2 k a3 a4], fun i _ => by rw [h.2 36 (by decide) (by decide)], m45_e (h.2 45 (by decide) (by decide))⟩
theorem mPq_r {p : Nat} {s s1 : mS} (h : mPr p s s1) : mPq p s s1 := ⟨h.1, fun k hk => h.2.1 k (by omega), fun k a1 a2 a3 a4 a5 a6 a7 i hi => by
  by_cases e : k < 20 ∨ 42 < k
  · rw [h.2.1 k e]
  · exact h.2.2.1 k (by omega) (by omega) a5 a6 a7 i hi, h.2.2.2, m45_e (h.2.1 45 (by decide))⟩
theorem mPk_eq {s s1 : mS} {p : Nat} (hk : mPk s p) (e18 : s1.2 18 p = s.2 18 p) (e19 : s1.2 19 p = s.2 19 p) (e22 : s1.2 22 p = s.2 22 p) (e23 : s1.2 23 p = s.2 23 p) (e24 : s1.2 24 p = s.2 24 p) (e26 : s1.2 26 p = s.2 26 p) (e27 : s1.2 27 p = s.2 27 p) (e29 : s1.2 29 p = s.2 29 p) (e30 : s1.2 30 p = s.2 30 p) (e31 : s1.2 31 p = s.2 31 p) (e32 : s1.2 32 p = s.2 32 p) (e33 : s1.2 33 p = s.2 33 p) (e34 : s1.2 34 p = s.2 34 p) (e35 : s1.2 35 p = s.2 35 p) (e37 : s1.2 37 p = s.2 37 p) (e38 : s1.2 38 p = s.2 38 p) (e39 : s1.2 39 p = s.2 39 p) (e42 : s1.2 42 p = s.2 42 p) (e43 : s1.2 43 p = s.2 43 p) (e44 : s1.2 44 p = s.2 44 p) (e45 : s1.2 45 p = s.2 45 p) (e36 : ∀ j, j < 4 → s1.2 36 (4 * p + j) = s.2 36 (4 * p + j)) : mPk s1 p := by
  obtain ⟨kw, kh, kr, kc, ksr, ksc, kt, ko, kwa, kin, kwr, khi, krd, knu, kgi, kas, kfr, kra, kco, kof, kip⟩ := hk
  unfold mPk
  rw [e18, e19, e22, e23, e24, e26, e27, e29, e30, e31, e32, e33, e34, e35, e37, e38, e39, e42, e43, e44, e45]
  exact ⟨kw, kh, kr, kc, ksr, ksc, kt, ko, kwa, kin, kwr, khi, krd, fun j hj => by rw [e36 j hj]; exact knu j hj, kgi, kas, kfr, kra, kco, kof, kip⟩
/-- the others keep their ranges -/
theorem mPk_o {s s1 : mS} {p i : Nat} (hk : mPk s i) (h : mPq p s s1) (hi : i ≠ p) : mPk s1 i := by
  have e : ∀ k, 18 ≤ k → k ≤ 45 → k ≠ 20 → k ≠ 21 → k ≠ 36 → k ≠ 40 → k ≠ 41 → s1.2 k i = s.2 k i := fun k h1 h2 h3 h4 h5 h6 h7 => h.2.2.1 k h1 h2 h3 h4 h5 h6 h7 i hi
  exact mPk_eq hk (e 18 (by decide) (by decide) (by decide) (by decide) (by decide) (by decide) (by decide)) (e 19 (by decide) (by decide) (by decide) (by decide) (by decide) (by decide) (by decide)) (e 22 (by decide) (by decide) (by decide) (by decide) (by decide) (by decide) (by decide)) (e 23 (by decide) (by decide) (by decide) (by decide) (by decide) (by decide) (by decide)) (e 24 (by decide) (by decide) (by decide) (by decide) (by decide) (by decide) (by decide)) (e 26 (by decide) (by decide) (by decide) (by decide) (by decide) (by decide) (by decide)) (e 27 (by decide) (by decide) (by decide) (by decide) (by decide) (by decide) (by decide)) (e 29 (by decide) (by decide) (by decide) (by decide) (by decide) (by decide) (by decide)) (e 30 (by decide) (by decide) (by decide) (by decide) (by decide) (by decide) (by decide)) (e 31 (by decide) (by decide) (by decide) (by decide) (by decide) (by decide) (by decide)) (e 32 (by decide) (by decide) (by decide) (by decide) (by decide) (by decide) (by decide)) (e 33 (by decide) (by decide) (by decide) (by decide) (by decide) (by decide) (by decide)) (e 34 (by decide) (by decide) (by decide) (by decide) (by decide) (by decide) (by decide)) (e 35 (by decide) (by decide) (by decide) (by decide) (by decide) (by decide) (by decide)) (e 37 (by decide) (by decide) (by decide) (by decide) (by decide) (by decide) (by decide)) (e 38 (by decide) (by decide) (by decide) (by decide) (by decide) (by decide) (by decide)) (e 39 (by decide) (by decide) (by decide) (by decide) (by decide) (by decide) (by decide)) (e 42 (by decide) (by decide) (by decide) (by decide) (by decide) (by decide) (by decide)) (e 43 (by decide) (by decide) (by decide) (by decide) (by decide) (by decide) (by decide)) (e 44 (by decide) (by decide) (by decide) (by decide) (by decide) (by decide) (by decide)) (e 45 (by decide) (by decide) (by decide) (by decide) (by decide) (by decide) (by decide)) (fun j hj => h.2.2.2.1 _ (by omega))
theorem mPu_o {s s1 : mS} {p i : Nat} (hk : mPu s i) (h : mPq p s s1) (hi : i ≠ p) : mPu s1 i := by
  have e : ∀ k, 18 ≤ k → k ≤ 45 → k ≠ 20 → k ≠ 21 → k ≠ 36 → k ≠ 40 → k ≠ 41 → s1.2 k i = s.2 k i := fun k h1 h2 h3 h4 h5 h6 h7 => h.2.2.1 k h1 h2 h3 h4 h5 h6 h7 i hi
  obtain ⟨ko, kwa, kin, kwr, khi, krd, knu, kgi, kas, kfr, kra⟩ := hk
  unfold mPu
  rw [e 22 (by decide) (by decide) (by decide) (by decide) (by decide) (by decide) (by decide), e 31 (by decide) (by decide) (by decide) (by decide) (by decide) (by decide) (by decide), e 32 (by decide) (by decide) (by decide) (by decide) (by decide) (by decide) (by decide), e 33 (by decide) (by decide) (by decide) (by decide) (by decide) (by decide) (by decide), e 34 (by decide) (by decide) (by decide) (by decide) (by decide) (by decide) (by decide), e 35 (by decide) (by decide) (by decide) (by decide) (by decide) (by decide) (by decide), e 37 (by decide) (by decide) (by decide) (by decide) (by decide) (by decide) (by decide), e 38 (by decide) (by decide) (by decide) (by decide) (by decide) (by decide) (by decide), e 39 (by decide) (by decide) (by decide) (by decide) (by decide) (by decide) (by decide), e 42 (by decide) (by decide) (by decide) (by decide) (by decide) (by decide) (by decide)]
  exact ⟨ko, kwa, kin, kwr, khi, krd, fun j hj => by rw [h.2.2.2.1 _ (by omega)]; exact knu j hj, kgi, kas, kfr, kra⟩
theorem mPu_pk {s : mS} {p : Nat} (hk : mPk s p) : mPu s p := by
  obtain ⟨kw, kh, kr, kc, ksr, ksc, kt, ko, kwa, kin, kwr, khi, krd, knu, kgi, kas, kfr, kra, kco, kof, kip⟩ := hk
  exact ⟨ko, kwa, kin, kwr, khi, krd, knu, kgi, kas, kfr, kra⟩
set_option maxHeartbeats 1000000 in
set_option maxRecDepth 100000 in
/-- begin(p, ww, hh) -/
theorem nR_begin2 {E : pw_E} (htr : E.1.stackTraces = false) {h : pz_H} {n : Nat} {B : Nat} {s : mS} (hA : mAt B s h) {p ww hh : Int}  (hp : 0 ≤ p ∧ p < 8) (hu : mPu s p.toNat) (hww : 1 ≤ ww ∧ ww ≤ 40) (hhh : 1 ≤ hh ∧ hh ≤ 16) : pw_M E yX10_begin YX10_begin (rmD 2 0 0) [.ref B, .int (zI (p)), .int (zI (ww)), .int (zI (hh))] h n (fun r0 h' n' => r0 = none ∧ ∃ s', mAt B s' h' ∧ mPq p.toNat s s' ∧ mPk s' p.toNat ∧ (s'.2 18 p.toNat = ww ∧ s'.2 19 p.toNat = hh) ∧ mFr B h h' ∧ n' = n) (fun _ _ _ => False) := by
  obtain ⟨ko, kwa, kin, kwr, khi, krd, knu, kgi, kas, kfr, kra⟩ := hu
  refine pw_M_of (lv := [some (.ref B), some (.int (zI (p))), some (.int (zI (ww))), some (.int (zI (hh)))]) (by decide) rfl rfl htr (nle rfl) rfl (fun L => ?_)
  refine pw_aload_n dX10_begin_0 rfl ?_
  refine pw_get (v := .ref (B + 15)) okX10 (k := 18) (by decide) lkX10_53 hA.1 rfl dX10_begin_1 ?_
  refine pw_iload_n dX10_begin_4 rfl ?_
  refine pw_iload_n dX10_begin_5 rfl ?_
  refine pw_iast (g := (s.2 18)) (t := 0) rfl (mF18 (s := s) hA) (by omega) (by decide) dX10_begin_6 ?_
  have hA1 : mAt B (mA 18 (va_up (s.2 18) (p).toNat (ww)) s) (va_up h (B + 15) (pz_z 0 8 (va_up (s.2 18) (p).toNat (ww)))) := mU18 hA
  have hF1 : mFr B h (va_up h (B + 15) (pz_z 0 8 (va_up (s.2 18) (p).toNat (ww)))) := mFr_tr mFr_rf (mFr_up (by decide))
  revert hA1 hF1
  generalize (va_up h (B + 15) (pz_z 0 8 (va_up (s.2 18) (p).toNat (ww)))) = h1
  intro hA1 hF1
  refine pw_aload_n dX10_begin_7 rfl ?_
  refine pw_get (v := .ref (B + 16)) okX10 (k := 19) (by decide) lkX10_56 hA1.1 rfl dX10_begin_8 ?_
  refine pw_iload_n dX10_begin_11 rfl ?_
  refine pw_iload_n dX10_begin_12 rfl ?_
  refine pw_iast (g := (s.2 19)) (t := 0) rfl (mF19 (s := (mA 18 (va_up (s.2 18) (p).toNat (ww)) s)) hA1) (by omega) (by decide) dX10_begin_13 ?_
  have hA2 : mAt B (mA 19 (va_up (s.2 19) (p).toNat (hh)) (mA 18 (va_up (s.2 18) (p).toNat (ww)) s)) (va_up h1 (B + 16) (pz_z 0 8 (va_up (s.2 19) (p).toNat (hh)))) := mU19 hA1
  have hF2 : mFr B h (va_up h1 (B + 16) (pz_z 0 8 (va_up (s.2 19) (p).toNat (hh)))) := mFr_tr hF1 (mFr_up (by decide))
  revert hA2 hF2
  generalize (va_up h1 (B + 16) (pz_z 0 8 (va_up (s.2 19) (p).toNat (hh)))) = h2
  intro hA2 hF2
  refine pw_aload_n dX10_begin_14 rfl ?_
  refine pw_get (v := .ref (B + 40)) okX10 (k := 43) (by decide) lkX10_128 hA2.1 rfl dX10_begin_15 ?_
  refine pw_iload_n dX10_begin_18 rfl ?_
  refine pw_iconst (v := zI (0)) dX10_begin_19 (by decide) ?_
  refine pw_zast (g := (s.2 43)) (t := 1) rfl (mF43 (s := (mA 19 (va_up (s.2 19) (p).toNat (hh)) (mA 18 (va_up (s.2 18) (p).toNat (ww)) s))) hA2) (by omega) (by decide) (by omega) dX10_begin_20 ?_
  have hA3 : mAt B (mA 43 (va_up (s.2 43) (p).toNat (0)) (mA 19 (va_up (s.2 19) (p).toNat (hh)) (mA 18 (va_up (s.2 18) (p).toNat (ww)) s))) (va_up h2 (B + 40) (pz_z 1 8 (va_up (s.2 43) (p).toNat (0)))) := mU43 hA2
  have hF3 : mFr B h (va_up h2 (B + 40) (pz_z 1 8 (va_up (s.2 43) (p).toNat (0)))) := mFr_tr hF2 (mFr_up (by decide))
  revert hA3 hF3
  generalize (va_up h2 (B + 40) (pz_z 1 8 (va_up (s.2 43) (p).toNat (0)))) = h3
  intro hA3 hF3
  refine pw_aload_n dX10_begin_21 rfl ?_
  refine pw_get (v := .ref (B + 41)) okX10 (k := 44) (by decide) lkX10_131 hA3.1 rfl dX10_begin_22 ?_
  refine pw_iload_n dX10_begin_25 rfl ?_
  refine pw_iconst (v := zI (0)) dX10_begin_26 (by decide) ?_
  refine pw_iast (g := (s.2 44)) (t := 0) rfl (mF44 (s := (mA 43 (va_up (s.2 43) (p).toNat (0)) (mA 19 (va_up (s.2 19) (p).toNat (hh)) (mA 18 (va_up (s.2 18) (p).toNat (ww)) s)))) hA3) (by omega) (by decide) dX10_begin_27 ?_
  have hA4 : mAt B (mA 44 (va_up (s.2 44) (p).toNat (0)) (mA 43 (va_up (s.2 43) (p).toNat (0)) (mA 19 (va_up (s.2 19) (p).toNat (hh)) (mA 18 (va_up (s.2 18) (p).toNat (ww)) s)))) (va_up h3 (B + 41) (pz_z 0 8 (va_up (s.2 44) (p).toNat (0)))) := mU44 hA3
  have hF4 : mFr B h (va_up h3 (B + 41) (pz_z 0 8 (va_up (s.2 44) (p).toNat (0)))) := mFr_tr hF3 (mFr_up (by decide))
  revert hA4 hF4
  generalize (va_up h3 (B + 41) (pz_z 0 8 (va_up (s.2 44) (p).toNat (0)))) = h4
  intro hA4 hF4
  refine pw_aload_n dX10_begin_28 rfl ?_
  refine pw_get (v := .ref (B + 42)) okX10 (k := 45) (by decide) lkX10_134 hA4.1 rfl dX10_begin_29 ?_
  refine pw_iload_n dX10_begin_32 rfl ?_
  refine pw_iconst (v := zI (0)) dX10_begin_33 (by decide) ?_
  refine pw_iast (g := (s.2 45)) (t := 0) rfl (mF45 (s := (mA 44 (va_up (s.2 44) (p).toNat (0)) (mA 43 (va_up (s.2 43) (p).toNat (0)) (mA 19 (va_up (s.2 19) (p).toNat (hh)) (mA 18 (va_up (s.2 18) (p).toNat (ww)) s))))) hA4) (by omega) (by decide) dX10_begin_34 ?_
  have hA5 : mAt B (mA 45 (va_up (s.2 45) (p).toNat (0)) (mA 44 (va_up (s.2 44) (p).toNat (0)) (mA 43 (va_up (s.2 43) (p).toNat (0)) (mA 19 (va_up (s.2 19) (p).toNat (hh)) (mA 18 (va_up (s.2 18) (p).toNat (ww)) s))))) (va_up h4 (B + 42) (pz_z 0 8 (va_up (s.2 45) (p).toNat (0)))) := mU45 hA4
  have hF5 : mFr B h (va_up h4 (B + 42) (pz_z 0 8 (va_up (s.2 45) (p).toNat (0)))) := mFr_tr hF4 (mFr_up (by decide))
  revert hA5 hF5
  generalize (va_up h4 (B + 42) (pz_z 0 8 (va_up (s.2 45) (p).toNat (0)))) = h5
  intro hA5 hF5
  refine pw_aload_n dX10_begin_35 rfl ?_
  refine pw_iload_n dX10_begin_36 rfl ?_
  have hpw : mPw (mA 45 (va_up (s.2 45) (p).toNat (0)) (mA 44 (va_up (s.2 44) (p).toNat (0)) (mA 43 (va_up (s.2 43) (p).toNat (0)) (mA 19 (va_up (s.2 19) (p).toNat (hh)) (mA 18 (va_up (s.2 18) (p).toNat (ww)) s))))) p.toNat := by
    refine ⟨?_, ?_, ko, kwa, kin, kwr, khi, krd, knu, kgi, kas, kfr, kra, ?_, ?_, ?_⟩
    · show (1 ≤ (va_up (s.2 18) (p).toNat (ww)) p.toNat ∧ (va_up (s.2 18) (p).toNat (ww)) p.toNat ≤ 40); rw [va_up_self]; omega
    · show (1 ≤ (va_up (s.2 19) (p).toNat (hh)) p.toNat ∧ (va_up (s.2 19) (p).toNat (hh)) p.toNat ≤ 16); rw [va_up_self]; omega
    · show (0 ≤ (va_up (s.2 43) (p).toNat (0)) p.toNat ∧ (va_up (s.2 43) (p).toNat (0)) p.toNat ≤ 1); rw [va_up_self]; omega
    · show (0 ≤ (va_up (s.2 44) (p).toNat (0)) p.toNat ∧ (va_up (s.2 44) (p).toNat (0)) p.toNat ≤ 30); rw [va_up_self]; omega
    · show (0 ≤ (va_up (s.2 45) (p).toNat (0)) p.toNat ∧ (va_up (s.2 45) (p).toNat (0)) p.toNat ≤ 900000000); rw [va_up_self]; omega
  refine pw_callV (As := [.int (zI (p))]) (b := B) (rm := rmD 1 0 0) (mR_reset htr hA5 hp hpw) rfl hA5.1 rfl rfl ywX10_reset rfl cwX10_188 ⟨nle rfl, nle rfl⟩ (nle rfl) ⟨nle rfl, nle rfl⟩ dX10_begin_37 ?_ (fun _ _ _ z => z.elim)
  intro r_9 h6 n_9 hq _
  obtain ⟨e1, s6, hA6, hk6, hr6, hF60, e4⟩ := hq
  rw [e1, e4]
  show pw E YX10_begin _ _ 0 0 40 [some (.ref B), some (.int (zI (p))), some (.int (zI (ww))), some (.int (zI (hh)))] [] h6 n
  have hF6 := mFr_tr hF5 hF60
  have eG : mG s s6.2 = s6 := mG_of (by rw [hr6.1]; rfl) (fun k hk => by
    rw [hr6.2.1 k (by omega)]
    show va_up (va_up (va_up (va_up (va_up s.2 18 _) 19 _) 43 _) 44 _) 45 _ k = s.2 k
    rw [va_up_ne _ _ (by omega), va_up_ne _ _ (by omega), va_up_ne _ _ (by omega), va_up_ne _ _ (by omega), va_up_ne _ _ (by omega)])
  have hRo : mRo p.toNat s s6 := fun i hi => ⟨by rw [hr6.2.1 18 (by decide)]; exact va_up_ne _ _ hi, by rw [hr6.2.1 19 (by decide)]; exact va_up_ne _ _ hi, hr6.2.2.1 23 (by decide) (by decide) (by decide) (by decide) (by decide) i hi, hr6.2.2.1 24 (by decide) (by decide) (by decide) (by decide) (by decide) i hi, hr6.2.2.1 26 (by decide) (by decide) (by decide) (by decide) (by decide) i hi, hr6.2.2.1 27 (by decide) (by decide) (by decide) (by decide) (by decide) i hi⟩
  have hq6 : mPq p.toNat s s6 := mPq_tr (mPq_tr (mPq_tr (mPq_tr (mPq_tr (mPq_W (j := 18) (v := ww) (by decide) (by decide) (by decide) (fun z => absurd z (by decide))) (mPq_W (j := 19) (v := hh) (by decide) (by decide) (by decide) (fun z => absurd z (by decide)))) (mPq_W (j := 43) (v := 0) (by decide) (by decide) (by decide) (fun z => absurd z (by decide)))) (mPq_W (j := 44) (v := 0) (by decide) (by decide) (by decide) (fun z => absurd z (by decide)))) (mPq_W (j := 45) (v := 0) (by decide) (by decide) (by decide) (fun _ => rfl))) (mPq_r hr6)
  have v18 : s6.2 18 p.toNat = ww := by rw [hr6.2.1 18 (by decide)]; exact va_up_self _ _ _
  have v19 : s6.2 19 p.toNat = hh := by rw [hr6.2.1 19 (by decide)]; exact va_up_self _ _ _
  exact pw_vret dX10_begin_40 rfl (nle rfl) (nle rfl) ⟨rfl, s6, hA6, hq6, hk6, ⟨v18, v19⟩, hF6, rfl⟩
set_option maxHeartbeats 1000000 in
set_option maxRecDepth 100000 in
/-- resize(p, ww, hh) -/
theorem nR_resize2 {E : pw_E} (htr : E.1.stackTraces = false) {h : pz_H} {n : Nat} {B : Nat} {s : mS} (hA : mAt B s h) {p ww hh : Int}  (hp : 0 ≤ p ∧ p < 8) (hk : mPk s p.toNat) (hww : 1 ≤ ww ∧ ww ≤ 40) (hhh : 1 ≤ hh ∧ hh ≤ 16) : pw_M E yX10_resize YX10_resize (rmD 1 0 0) [.ref B, .int (zI (p)), .int (zI (ww)), .int (zI (hh))] h n (fun r0 h' n' => r0 = none ∧ ∃ s', mAt B s' h' ∧ mPq p.toNat s s' ∧ mPk s' p.toNat ∧ (s'.2 18 p.toNat = ww ∧ s'.2 19 p.toNat = hh) ∧ mFr B h h' ∧ n' = n) (fun _ _ _ => False) := by
  obtain ⟨kw, kh, kr, kc, ksr, ksc, kt, ko, kwa, kin, kwr, khi, krd, knu, kgi, kas, kfr, kra, kco, kof, kip⟩ := id hk
  refine pw_M_of (lv := [some (.ref B), some (.int (zI (p))), some (.int (zI (ww))), some (.int (zI (hh))), none, none, none]) (by decide) rfl rfl htr (nle rfl) rfl (fun L => ?_)
  refine pw_aload_n dX10_resize_0 rfl ?_
  refine pw_get (v := .ref (B + 15)) okX10 (k := 18) (by decide) lkX10_53 hA.1 rfl dX10_resize_1 ?_
  refine pw_iload_n dX10_resize_4 rfl ?_
  refine pw_iald (g := (s.2 18)) (t := 0) rfl (mF18 (s := s) hA) (by omega) (by decide) dX10_resize_5 ?_
  refine pw_iload_n dX10_resize_6 rfl ?_
  refine pw_icmp_ne (tgt := 21) dX10_resize_7 rfl (by omega) (by omega) (fun c7 => ?_) (fun c7 => ?_)
  ·
    refine pw_aload_n dX10_resize_21 rfl ?_
    refine pw_get (v := .ref (B + 15)) okX10 (k := 18) (by decide) lkX10_53 hA.1 rfl dX10_resize_22 ?_
    refine pw_iload_n dX10_resize_25 rfl ?_
    refine pw_iload_n dX10_resize_26 rfl ?_
    refine pw_iast (g := (s.2 18)) (t := 0) rfl (mF18 (s := s) hA) (by omega) (by decide) dX10_resize_27 ?_
    have hA1 : mAt B (mA 18 (va_up (s.2 18) (p).toNat (ww)) s) (va_up h (B + 15) (pz_z 0 8 (va_up (s.2 18) (p).toNat (ww)))) := mU18 hA
    have hF1 : mFr B h (va_up h (B + 15) (pz_z 0 8 (va_up (s.2 18) (p).toNat (ww)))) := mFr_tr mFr_rf (mFr_up (by decide))
    revert hA1 hF1
    generalize (va_up h (B + 15) (pz_z 0 8 (va_up (s.2 18) (p).toNat (ww)))) = h1
    intro hA1 hF1
    refine pw_aload_n dX10_resize_28 rfl ?_
    refine pw_get (v := .ref (B + 16)) okX10 (k := 19) (by decide) lkX10_56 hA1.1 rfl dX10_resize_29 ?_
    refine pw_iload_n dX10_resize_32 rfl ?_
    refine pw_iload_n dX10_resize_33 rfl ?_
    refine pw_iast (g := (s.2 19)) (t := 0) rfl (mF19 (s := (mA 18 (va_up (s.2 18) (p).toNat (ww)) s)) hA1) (by omega) (by decide) dX10_resize_34 ?_
    have hA2 : mAt B (mA 19 (va_up (s.2 19) (p).toNat (hh)) (mA 18 (va_up (s.2 18) (p).toNat (ww)) s)) (va_up h1 (B + 16) (pz_z 0 8 (va_up (s.2 19) (p).toNat (hh)))) := mU19 hA1
    have hF2 : mFr B h (va_up h1 (B + 16) (pz_z 0 8 (va_up (s.2 19) (p).toNat (hh)))) := mFr_tr hF1 (mFr_up (by decide))
    revert hA2 hF2
    generalize (va_up h1 (B + 16) (pz_z 0 8 (va_up (s.2 19) (p).toNat (hh)))) = h2
    intro hA2 hF2
    refine pw_iconst (v := zI (0)) dX10_resize_35 (by decide) ?_
    refine pw_istore (lv' := [some (.ref B), some (.int (zI (p))), some (.int (zI (ww))), some (.int (zI (hh))), some (.int (zI (0))), none, none]) dX10_resize_36 (by decide) rfl rfl ?_
    refine lN_rz3 (s := (mA 19 (va_up (s.2 19) (p).toNat (hh)) (mA 18 (va_up (s.2 18) (p).toNat (ww)) s))) htr hp hww hhh _ 0 _ _ (mA 19 (va_up (s.2 19) (p).toNat (hh)) (mA 18 (va_up (s.2 18) (p).toNat (ww)) s)) h2 rfl (by omega) (by omega) hA2 ⟨rfl, fun _ _ _ => rfl⟩ hF2 (fun v9 q5 q6 s9 h9 hA9 hE9 hF9 => ?_)
    have f23 : s9.2 23 = s.2 23 := hE9.2 23 (by decide) (by decide)
    have x23 := congrFun f23 p.toNat
    have f24 : s9.2 24 = s.2 24 := hE9.2 24 (by decide) (by decide)
    have x24 := congrFun f24 p.toNat
    have f26 : s9.2 26 = s.2 26 := hE9.2 26 (by decide) (by decide)
    have x26 := congrFun f26 p.toNat
    have f27 : s9.2 27 = s.2 27 := hE9.2 27 (by decide) (by decide)
    have x27 := congrFun f27 p.toNat
    refine pw_aload_n dX10_resize_109 rfl ?_
    refine pw_get (v := .ref (B + 20)) okX10 (k := 23) (by decide) lkX10_68 hA9.1 rfl dX10_resize_110 ?_
    refine pw_iload_n dX10_resize_113 rfl ?_
    refine pw_aload_n dX10_resize_114 rfl ?_
    refine pw_get (v := .ref (B + 20)) okX10 (k := 23) (by decide) lkX10_68 hA9.1 rfl dX10_resize_115 ?_
    refine pw_iload_n dX10_resize_118 rfl ?_
    refine pw_iald (g := (s9.2 23)) (t := 0) rfl (mF23 (s := s9) hA9) (by omega) (by decide) dX10_resize_119 ?_
    refine pw_iload_n dX10_resize_120 rfl ?_
    refine pw_iconst (v := zI (1)) dX10_resize_121 (by decide) ?_
    refine pw_zisub dX10_resize_122 ?_
    refine pw_callS (As := [.int (zI ((s9.2 23) (p).toNat)), .int (zI (hh - 1))]) (rm := rmD 0 0 0) (mR_least htr (by omega) (by omega)) rfl ywX10_least rfl cwX10_192 ⟨nle rfl, nle rfl⟩ (nle rfl) ⟨nle rfl, nle rfl⟩ dX10_resize_123 ?_ (fun _ _ _ z => z.elim)
    intro r_9 h_9 n_9 hq _
    rw [hq.1, hq.2.1, hq.2.2]
    show pw E YX10_resize _ _ 0 0 126 [some (.ref B), some (.int (zI (p))), some (.int (zI (ww))), some (.int (zI (hh))), some (.int (zI (v9))), q5, q6] [.int (zI (min ((s9.2 23) (p).toNat) (hh - 1))), .int (zI (p)), .ref (B + 20)] h9 n
    refine pw_iast (g := (s9.2 23)) (t := 0) rfl (mF23 (s := s9) hA9) (by omega) (by decide) dX10_resize_126 ?_
    have hA21 : mAt B (mA 23 (va_up (s9.2 23) (p).toNat (min ((s9.2 23) (p).toNat) (hh - 1))) s9) (va_up h9 (B + 20) (pz_z 0 8 (va_up (s9.2 23) (p).toNat (min ((s9.2 23) (p).toNat) (hh - 1))))) := mU23 hA9
    have hF21 : mFr B h (va_up h9 (B + 20) (pz_z 0 8 (va_up (s9.2 23) (p).toNat (min ((s9.2 23) (p).toNat) (hh - 1))))) := mFr_tr hF9 (mFr_up (by decide))
    revert hA21 hF21
    generalize (va_up h9 (B + 20) (pz_z 0 8 (va_up (s9.2 23) (p).toNat (min ((s9.2 23) (p).toNat) (hh - 1))))) = h21
    intro hA21 hF21
    refine pw_aload_n dX10_resize_127 rfl ?_
    refine pw_get (v := .ref (B + 21)) okX10 (k := 24) (by decide) lkX10_71 hA21.1 rfl dX10_resize_128 ?_
    refine pw_iload_n dX10_resize_131 rfl ?_
    refine pw_aload_n dX10_resize_132 rfl ?_
    refine pw_get (v := .ref (B + 21)) okX10 (k := 24) (by decide) lkX10_71 hA21.1 rfl dX10_resize_133 ?_
    refine pw_iload_n dX10_resize_136 rfl ?_
    refine pw_iald (g := (s9.2 24)) (t := 0) rfl (mF24 (s := (mA 23 (va_up (s9.2 23) (p).toNat (min ((s9.2 23) (p).toNat) (hh - 1))) s9)) hA21) (by omega) (by decide) dX10_resize_137 ?_
    refine pw_iload_n dX10_resize_138 rfl ?_
    refine pw_iconst (v := zI (1)) dX10_resize_139 (by decide) ?_
    refine pw_zisub dX10_resize_140 ?_
    refine pw_callS (As := [.int (zI ((s9.2 24) (p).toNat)), .int (zI (ww - 1))]) (rm := rmD 0 0 0) (mR_least htr (by omega) (by omega)) rfl ywX10_least rfl cwX10_192 ⟨nle rfl, nle rfl⟩ (nle rfl) ⟨nle rfl, nle rfl⟩ dX10_resize_141 ?_ (fun _ _ _ z => z.elim)
    intro r_9 h_9 n_9 hq _
    rw [hq.1, hq.2.1, hq.2.2]
    show pw E YX10_resize _ _ 0 0 144 [some (.ref B), some (.int (zI (p))), some (.int (zI (ww))), some (.int (zI (hh))), some (.int (zI (v9))), q5, q6] [.int (zI (min ((s9.2 24) (p).toNat) (ww - 1))), .int (zI (p)), .ref (B + 21)] h21 n
    refine pw_iast (g := (s9.2 24)) (t := 0) rfl (mF24 (s := (mA 23 (va_up (s9.2 23) (p).toNat (min ((s9.2 23) (p).toNat) (hh - 1))) s9)) hA21) (by omega) (by decide) dX10_resize_144 ?_
    have hA22 : mAt B (mA 24 (va_up (s9.2 24) (p).toNat (min ((s9.2 24) (p).toNat) (ww - 1))) (mA 23 (va_up (s9.2 23) (p).toNat (min ((s9.2 23) (p).toNat) (hh - 1))) s9)) (va_up h21 (B + 21) (pz_z 0 8 (va_up (s9.2 24) (p).toNat (min ((s9.2 24) (p).toNat) (ww - 1))))) := mU24 hA21
    have hF22 : mFr B h (va_up h21 (B + 21) (pz_z 0 8 (va_up (s9.2 24) (p).toNat (min ((s9.2 24) (p).toNat) (ww - 1))))) := mFr_tr hF21 (mFr_up (by decide))
    revert hA22 hF22
    generalize (va_up h21 (B + 21) (pz_z 0 8 (va_up (s9.2 24) (p).toNat (min ((s9.2 24) (p).toNat) (ww - 1))))) = h22
    intro hA22 hF22
    refine pw_aload_n dX10_resize_145 rfl ?_
    refine pw_get (v := .ref (B + 23)) okX10 (k := 26) (by decide) lkX10_77 hA22.1 rfl dX10_resize_146 ?_
    refine pw_iload_n dX10_resize_149 rfl ?_
    refine pw_aload_n dX10_resize_150 rfl ?_
    refine pw_get (v := .ref (B + 23)) okX10 (k := 26) (by decide) lkX10_77 hA22.1 rfl dX10_resize_151 ?_
    refine pw_iload_n dX10_resize_154 rfl ?_
    refine pw_iald (g := (s9.2 26)) (t := 0) rfl (mF26 (s := (mA 24 (va_up (s9.2 24) (p).toNat (min ((s9.2 24) (p).toNat) (ww - 1))) (mA 23 (va_up (s9.2 23) (p).toNat (min ((s9.2 23) (p).toNat) (hh - 1))) s9))) hA22) (by omega) (by decide) dX10_resize_155 ?_
    refine pw_iload_n dX10_resize_156 rfl ?_
    refine pw_iconst (v := zI (1)) dX10_resize_157 (by decide) ?_
    refine pw_zisub dX10_resize_158 ?_
    refine pw_callS (As := [.int (zI ((s9.2 26) (p).toNat)), .int (zI (hh - 1))]) (rm := rmD 0 0 0) (mR_least htr (by omega) (by omega)) rfl ywX10_least rfl cwX10_192 ⟨nle rfl, nle rfl⟩ (nle rfl) ⟨nle rfl, nle rfl⟩ dX10_resize_159 ?_ (fun _ _ _ z => z.elim)
    intro r_9 h_9 n_9 hq _
    rw [hq.1, hq.2.1, hq.2.2]
    show pw E YX10_resize _ _ 0 0 162 [some (.ref B), some (.int (zI (p))), some (.int (zI (ww))), some (.int (zI (hh))), some (.int (zI (v9))), q5, q6] [.int (zI (min ((s9.2 26) (p).toNat) (hh - 1))), .int (zI (p)), .ref (B + 23)] h22 n
    refine pw_iast (g := (s9.2 26)) (t := 0) rfl (mF26 (s := (mA 24 (va_up (s9.2 24) (p).toNat (min ((s9.2 24) (p).toNat) (ww - 1))) (mA 23 (va_up (s9.2 23) (p).toNat (min ((s9.2 23) (p).toNat) (hh - 1))) s9))) hA22) (by omega) (by decide) dX10_resize_162 ?_
    have hA23 : mAt B (mA 26 (va_up (s9.2 26) (p).toNat (min ((s9.2 26) (p).toNat) (hh - 1))) (mA 24 (va_up (s9.2 24) (p).toNat (min ((s9.2 24) (p).toNat) (ww - 1))) (mA 23 (va_up (s9.2 23) (p).toNat (min ((s9.2 23) (p).toNat) (hh - 1))) s9))) (va_up h22 (B + 23) (pz_z 0 8 (va_up (s9.2 26) (p).toNat (min ((s9.2 26) (p).toNat) (hh - 1))))) := mU26 hA22
    have hF23 : mFr B h (va_up h22 (B + 23) (pz_z 0 8 (va_up (s9.2 26) (p).toNat (min ((s9.2 26) (p).toNat) (hh - 1))))) := mFr_tr hF22 (mFr_up (by decide))
    revert hA23 hF23
    generalize (va_up h22 (B + 23) (pz_z 0 8 (va_up (s9.2 26) (p).toNat (min ((s9.2 26) (p).toNat) (hh - 1))))) = h23
    intro hA23 hF23
    refine pw_aload_n dX10_resize_163 rfl ?_
    refine pw_get (v := .ref (B + 24)) okX10 (k := 27) (by decide) lkX10_80 hA23.1 rfl dX10_resize_164 ?_
    refine pw_iload_n dX10_resize_167 rfl ?_
    refine pw_aload_n dX10_resize_168 rfl ?_
    refine pw_get (v := .ref (B + 24)) okX10 (k := 27) (by decide) lkX10_80 hA23.1 rfl dX10_resize_169 ?_
    refine pw_iload_n dX10_resize_172 rfl ?_
    refine pw_iald (g := (s9.2 27)) (t := 0) rfl (mF27 (s := (mA 26 (va_up (s9.2 26) (p).toNat (min ((s9.2 26) (p).toNat) (hh - 1))) (mA 24 (va_up (s9.2 24) (p).toNat (min ((s9.2 24) (p).toNat) (ww - 1))) (mA 23 (va_up (s9.2 23) (p).toNat (min ((s9.2 23) (p).toNat) (hh - 1))) s9)))) hA23) (by omega) (by decide) dX10_resize_173 ?_
    refine pw_iload_n dX10_resize_174 rfl ?_
    refine pw_iconst (v := zI (1)) dX10_resize_175 (by decide) ?_
    refine pw_zisub dX10_resize_176 ?_
    refine pw_callS (As := [.int (zI ((s9.2 27) (p).toNat)), .int (zI (ww - 1))]) (rm := rmD 0 0 0) (mR_least htr (by omega) (by omega)) rfl ywX10_least rfl cwX10_192 ⟨nle rfl, nle rfl⟩ (nle rfl) ⟨nle rfl, nle rfl⟩ dX10_resize_177 ?_ (fun _ _ _ z => z.elim)
    intro r_9 h_9 n_9 hq _
    rw [hq.1, hq.2.1, hq.2.2]
    show pw E YX10_resize _ _ 0 0 180 [some (.ref B), some (.int (zI (p))), some (.int (zI (ww))), some (.int (zI (hh))), some (.int (zI (v9))), q5, q6] [.int (zI (min ((s9.2 27) (p).toNat) (ww - 1))), .int (zI (p)), .ref (B + 24)] h23 n
    refine pw_iast (g := (s9.2 27)) (t := 0) rfl (mF27 (s := (mA 26 (va_up (s9.2 26) (p).toNat (min ((s9.2 26) (p).toNat) (hh - 1))) (mA 24 (va_up (s9.2 24) (p).toNat (min ((s9.2 24) (p).toNat) (ww - 1))) (mA 23 (va_up (s9.2 23) (p).toNat (min ((s9.2 23) (p).toNat) (hh - 1))) s9)))) hA23) (by omega) (by decide) dX10_resize_180 ?_
    have hA24 : mAt B (mA 27 (va_up (s9.2 27) (p).toNat (min ((s9.2 27) (p).toNat) (ww - 1))) (mA 26 (va_up (s9.2 26) (p).toNat (min ((s9.2 26) (p).toNat) (hh - 1))) (mA 24 (va_up (s9.2 24) (p).toNat (min ((s9.2 24) (p).toNat) (ww - 1))) (mA 23 (va_up (s9.2 23) (p).toNat (min ((s9.2 23) (p).toNat) (hh - 1))) s9)))) (va_up h23 (B + 24) (pz_z 0 8 (va_up (s9.2 27) (p).toNat (min ((s9.2 27) (p).toNat) (ww - 1))))) := mU27 hA23
    have hF24 : mFr B h (va_up h23 (B + 24) (pz_z 0 8 (va_up (s9.2 27) (p).toNat (min ((s9.2 27) (p).toNat) (ww - 1))))) := mFr_tr hF23 (mFr_up (by decide))
    revert hA24 hF24
    generalize (va_up h23 (B + 24) (pz_z 0 8 (va_up (s9.2 27) (p).toNat (min ((s9.2 27) (p).toNat) (ww - 1))))) = h24
    intro hA24 hF24
    refine pw_aload_n dX10_resize_181 rfl ?_
    refine pw_get (v := .ref (B + 26)) okX10 (k := 29) (by decide) lkX10_86 hA24.1 rfl dX10_resize_182 ?_
    refine pw_iload_n dX10_resize_185 rfl ?_
    refine pw_iconst (v := zI (0)) dX10_resize_186 (by decide) ?_
    refine pw_iast (g := (s9.2 29)) (t := 0) rfl (mF29 (s := (mA 27 (va_up (s9.2 27) (p).toNat (min ((s9.2 27) (p).toNat) (ww - 1))) (mA 26 (va_up (s9.2 26) (p).toNat (min ((s9.2 26) (p).toNat) (hh - 1))) (mA 24 (va_up (s9.2 24) (p).toNat (min ((s9.2 24) (p).toNat) (ww - 1))) (mA 23 (va_up (s9.2 23) (p).toNat (min ((s9.2 23) (p).toNat) (hh - 1))) s9))))) hA24) (by omega) (by decide) dX10_resize_187 ?_
    have hA25 : mAt B (mA 29 (va_up (s9.2 29) (p).toNat (0)) (mA 27 (va_up (s9.2 27) (p).toNat (min ((s9.2 27) (p).toNat) (ww - 1))) (mA 26 (va_up (s9.2 26) (p).toNat (min ((s9.2 26) (p).toNat) (hh - 1))) (mA 24 (va_up (s9.2 24) (p).toNat (min ((s9.2 24) (p).toNat) (ww - 1))) (mA 23 (va_up (s9.2 23) (p).toNat (min ((s9.2 23) (p).toNat) (hh - 1))) s9))))) (va_up h24 (B + 26) (pz_z 0 8 (va_up (s9.2 29) (p).toNat (0)))) := mU29 hA24
    have hF25 : mFr B h (va_up h24 (B + 26) (pz_z 0 8 (va_up (s9.2 29) (p).toNat (0)))) := mFr_tr hF24 (mFr_up (by decide))
    revert hA25 hF25
    generalize (va_up h24 (B + 26) (pz_z 0 8 (va_up (s9.2 29) (p).toNat (0)))) = h25
    intro hA25 hF25
    refine pw_aload_n dX10_resize_188 rfl ?_
    refine pw_get (v := .ref (B + 27)) okX10 (k := 30) (by decide) lkX10_89 hA25.1 rfl dX10_resize_189 ?_
    refine pw_iload_n dX10_resize_192 rfl ?_
    refine pw_iload_n dX10_resize_193 rfl ?_
    refine pw_iconst (v := zI (1)) dX10_resize_194 (by decide) ?_
    refine pw_zisub dX10_resize_195 ?_
    refine pw_iast (g := (s9.2 30)) (t := 0) rfl (mF30 (s := (mA 29 (va_up (s9.2 29) (p).toNat (0)) (mA 27 (va_up (s9.2 27) (p).toNat (min ((s9.2 27) (p).toNat) (ww - 1))) (mA 26 (va_up (s9.2 26) (p).toNat (min ((s9.2 26) (p).toNat) (hh - 1))) (mA 24 (va_up (s9.2 24) (p).toNat (min ((s9.2 24) (p).toNat) (ww - 1))) (mA 23 (va_up (s9.2 23) (p).toNat (min ((s9.2 23) (p).toNat) (hh - 1))) s9)))))) hA25) (by omega) (by decide) dX10_resize_196 ?_
    have hA26 : mAt B (mA 30 (va_up (s9.2 30) (p).toNat (hh - 1)) (mA 29 (va_up (s9.2 29) (p).toNat (0)) (mA 27 (va_up (s9.2 27) (p).toNat (min ((s9.2 27) (p).toNat) (ww - 1))) (mA 26 (va_up (s9.2 26) (p).toNat (min ((s9.2 26) (p).toNat) (hh - 1))) (mA 24 (va_up (s9.2 24) (p).toNat (min ((s9.2 24) (p).toNat) (ww - 1))) (mA 23 (va_up (s9.2 23) (p).toNat (min ((s9.2 23) (p).toNat) (hh - 1))) s9)))))) (va_up h25 (B + 27) (pz_z 0 8 (va_up (s9.2 30) (p).toNat (hh - 1)))) := mU30 hA25
    have hF26 : mFr B h (va_up h25 (B + 27) (pz_z 0 8 (va_up (s9.2 30) (p).toNat (hh - 1)))) := mFr_tr hF25 (mFr_up (by decide))
    revert hA26 hF26
    generalize (va_up h25 (B + 27) (pz_z 0 8 (va_up (s9.2 30) (p).toNat (hh - 1)))) = h26
    intro hA26 hF26
    refine pw_aload_n dX10_resize_197 rfl ?_
    refine pw_get (v := .ref (B + 28)) okX10 (k := 31) (by decide) lkX10_92 hA26.1 rfl dX10_resize_198 ?_
    refine pw_iload_n dX10_resize_201 rfl ?_
    refine pw_iconst (v := zI (0)) dX10_resize_202 (by decide) ?_
    refine pw_zast (g := (s9.2 31)) (t := 1) rfl (mF31 (s := (mA 30 (va_up (s9.2 30) (p).toNat (hh - 1)) (mA 29 (va_up (s9.2 29) (p).toNat (0)) (mA 27 (va_up (s9.2 27) (p).toNat (min ((s9.2 27) (p).toNat) (ww - 1))) (mA 26 (va_up (s9.2 26) (p).toNat (min ((s9.2 26) (p).toNat) (hh - 1))) (mA 24 (va_up (s9.2 24) (p).toNat (min ((s9.2 24) (p).toNat) (ww - 1))) (mA 23 (va_up (s9.2 23) (p).toNat (min ((s9.2 23) (p).toNat) (hh - 1))) s9))))))) hA26) (by omega) (by decide) (by omega) dX10_resize_203 ?_
    have hA27 : mAt B (mA 31 (va_up (s9.2 31) (p).toNat (0)) (mA 30 (va_up (s9.2 30) (p).toNat (hh - 1)) (mA 29 (va_up (s9.2 29) (p).toNat (0)) (mA 27 (va_up (s9.2 27) (p).toNat (min ((s9.2 27) (p).toNat) (ww - 1))) (mA 26 (va_up (s9.2 26) (p).toNat (min ((s9.2 26) (p).toNat) (hh - 1))) (mA 24 (va_up (s9.2 24) (p).toNat (min ((s9.2 24) (p).toNat) (ww - 1))) (mA 23 (va_up (s9.2 23) (p).toNat (min ((s9.2 23) (p).toNat) (hh - 1))) s9))))))) (va_up h26 (B + 28) (pz_z 1 8 (va_up (s9.2 31) (p).toNat (0)))) := mU31 hA26
    have hF27 : mFr B h (va_up h26 (B + 28) (pz_z 1 8 (va_up (s9.2 31) (p).toNat (0)))) := mFr_tr hF26 (mFr_up (by decide))
    revert hA27 hF27
    generalize (va_up h26 (B + 28) (pz_z 1 8 (va_up (s9.2 31) (p).toNat (0)))) = h27
    intro hA27 hF27
    have hq9 : mPq p.toNat s s9 := mPq_tr (mPq_tr (mPq_W (j := 18) (v := ww) (by decide) (by decide) (by decide) (fun z => absurd z (by decide))) (mPq_W (j := 19) (v := hh) (by decide) (by decide) (by decide) (fun z => absurd z (by decide)))) (mPq_E hE9)
    have hq8 : mPq p.toNat s (mA 31 (va_up (s9.2 31) (p).toNat (0)) (mA 30 (va_up (s9.2 30) (p).toNat (hh - 1)) (mA 29 (va_up (s9.2 29) (p).toNat (0)) (mA 27 (va_up (s9.2 27) (p).toNat (min ((s9.2 27) (p).toNat) (ww - 1))) (mA 26 (va_up (s9.2 26) (p).toNat (min ((s9.2 26) (p).toNat) (hh - 1))) (mA 24 (va_up (s9.2 24) (p).toNat (min ((s9.2 24) (p).toNat) (ww - 1))) (mA 23 (va_up (s9.2 23) (p).toNat (min ((s9.2 23) (p).toNat) (hh - 1))) s9))))))) := mPq_tr hq9 (mPq_tr (mPq_tr (mPq_tr (mPq_tr (mPq_tr (mPq_tr (mPq_W (j := 23) (by decide) (by decide) (by decide) (fun z => absurd z (by decide))) (mPq_W (j := 24) (by decide) (by decide) (by decide) (fun z => absurd z (by decide)))) (mPq_W (j := 26) (by decide) (by decide) (by decide) (fun z => absurd z (by decide)))) (mPq_W (j := 27) (by decide) (by decide) (by decide) (fun z => absurd z (by decide)))) (mPq_W (j := 29) (by decide) (by decide) (by decide) (fun z => absurd z (by decide)))) (mPq_W (j := 30) (by decide) (by decide) (by decide) (fun z => absurd z (by decide)))) (mPq_W (j := 31) (by decide) (by decide) (by decide) (fun z => absurd z (by decide))))
    have v18 : s9.2 18 p.toNat = ww := by rw [hE9.2 18 (by decide) (by decide)]; exact va_up_self _ _ _
    have v19 : s9.2 19 p.toNat = hh := by rw [hE9.2 19 (by decide) (by decide)]; exact va_up_self _ _ _
    have v22 : (mA 31 (va_up (s9.2 31) (p).toNat (0)) (mA 30 (va_up (s9.2 30) (p).toNat (hh - 1)) (mA 29 (va_up (s9.2 29) (p).toNat (0)) (mA 27 (va_up (s9.2 27) (p).toNat (min ((s9.2 27) (p).toNat) (ww - 1))) (mA 26 (va_up (s9.2 26) (p).toNat (min ((s9.2 26) (p).toNat) (hh - 1))) (mA 24 (va_up (s9.2 24) (p).toNat (min ((s9.2 24) (p).toNat) (ww - 1))) (mA 23 (va_up (s9.2 23) (p).toNat (min ((s9.2 23) (p).toNat) (hh - 1))) s9))))))).2 22 p.toNat = s.2 22 p.toNat := congrFun (hE9.2 22 (by decide) (by decide)) _
    have v23 : (mA 31 (va_up (s9.2 31) (p).toNat (0)) (mA 30 (va_up (s9.2 30) (p).toNat (hh - 1)) (mA 29 (va_up (s9.2 29) (p).toNat (0)) (mA 27 (va_up (s9.2 27) (p).toNat (min ((s9.2 27) (p).toNat) (ww - 1))) (mA 26 (va_up (s9.2 26) (p).toNat (min ((s9.2 26) (p).toNat) (hh - 1))) (mA 24 (va_up (s9.2 24) (p).toNat (min ((s9.2 24) (p).toNat) (ww - 1))) (mA 23 (va_up (s9.2 23) (p).toNat (min ((s9.2 23) (p).toNat) (hh - 1))) s9))))))).2 23 p.toNat = _ := (show (va_up (s9.2 23) (p).toNat (min ((s9.2 23) (p).toNat) (hh - 1))) p.toNat = _ from va_up_self _ _ _)
    have v24 : (mA 31 (va_up (s9.2 31) (p).toNat (0)) (mA 30 (va_up (s9.2 30) (p).toNat (hh - 1)) (mA 29 (va_up (s9.2 29) (p).toNat (0)) (mA 27 (va_up (s9.2 27) (p).toNat (min ((s9.2 27) (p).toNat) (ww - 1))) (mA 26 (va_up (s9.2 26) (p).toNat (min ((s9.2 26) (p).toNat) (hh - 1))) (mA 24 (va_up (s9.2 24) (p).toNat (min ((s9.2 24) (p).toNat) (ww - 1))) (mA 23 (va_up (s9.2 23) (p).toNat (min ((s9.2 23) (p).toNat) (hh - 1))) s9))))))).2 24 p.toNat = _ := (show (va_up (s9.2 24) (p).toNat (min ((s9.2 24) (p).toNat) (ww - 1))) p.toNat = _ from va_up_self _ _ _)
    have v26 : (mA 31 (va_up (s9.2 31) (p).toNat (0)) (mA 30 (va_up (s9.2 30) (p).toNat (hh - 1)) (mA 29 (va_up (s9.2 29) (p).toNat (0)) (mA 27 (va_up (s9.2 27) (p).toNat (min ((s9.2 27) (p).toNat) (ww - 1))) (mA 26 (va_up (s9.2 26) (p).toNat (min ((s9.2 26) (p).toNat) (hh - 1))) (mA 24 (va_up (s9.2 24) (p).toNat (min ((s9.2 24) (p).toNat) (ww - 1))) (mA 23 (va_up (s9.2 23) (p).toNat (min ((s9.2 23) (p).toNat) (hh - 1))) s9))))))).2 26 p.toNat = _ := (show (va_up (s9.2 26) (p).toNat (min ((s9.2 26) (p).toNat) (hh - 1))) p.toNat = _ from va_up_self _ _ _)
    have v27 : (mA 31 (va_up (s9.2 31) (p).toNat (0)) (mA 30 (va_up (s9.2 30) (p).toNat (hh - 1)) (mA 29 (va_up (s9.2 29) (p).toNat (0)) (mA 27 (va_up (s9.2 27) (p).toNat (min ((s9.2 27) (p).toNat) (ww - 1))) (mA 26 (va_up (s9.2 26) (p).toNat (min ((s9.2 26) (p).toNat) (hh - 1))) (mA 24 (va_up (s9.2 24) (p).toNat (min ((s9.2 24) (p).toNat) (ww - 1))) (mA 23 (va_up (s9.2 23) (p).toNat (min ((s9.2 23) (p).toNat) (hh - 1))) s9))))))).2 27 p.toNat = _ := (show (va_up (s9.2 27) (p).toNat (min ((s9.2 27) (p).toNat) (ww - 1))) p.toNat = _ from va_up_self _ _ _)
    have v29 : (mA 31 (va_up (s9.2 31) (p).toNat (0)) (mA 30 (va_up (s9.2 30) (p).toNat (hh - 1)) (mA 29 (va_up (s9.2 29) (p).toNat (0)) (mA 27 (va_up (s9.2 27) (p).toNat (min ((s9.2 27) (p).toNat) (ww - 1))) (mA 26 (va_up (s9.2 26) (p).toNat (min ((s9.2 26) (p).toNat) (hh - 1))) (mA 24 (va_up (s9.2 24) (p).toNat (min ((s9.2 24) (p).toNat) (ww - 1))) (mA 23 (va_up (s9.2 23) (p).toNat (min ((s9.2 23) (p).toNat) (hh - 1))) s9))))))).2 29 p.toNat = _ := (show (va_up (s9.2 29) (p).toNat (0)) p.toNat = _ from va_up_self _ _ _)
    have v30 : (mA 31 (va_up (s9.2 31) (p).toNat (0)) (mA 30 (va_up (s9.2 30) (p).toNat (hh - 1)) (mA 29 (va_up (s9.2 29) (p).toNat (0)) (mA 27 (va_up (s9.2 27) (p).toNat (min ((s9.2 27) (p).toNat) (ww - 1))) (mA 26 (va_up (s9.2 26) (p).toNat (min ((s9.2 26) (p).toNat) (hh - 1))) (mA 24 (va_up (s9.2 24) (p).toNat (min ((s9.2 24) (p).toNat) (ww - 1))) (mA 23 (va_up (s9.2 23) (p).toNat (min ((s9.2 23) (p).toNat) (hh - 1))) s9))))))).2 30 p.toNat = _ := (show (va_up (s9.2 30) (p).toNat (hh - 1)) p.toNat = _ from va_up_self _ _ _)
    have v31 : (mA 31 (va_up (s9.2 31) (p).toNat (0)) (mA 30 (va_up (s9.2 30) (p).toNat (hh - 1)) (mA 29 (va_up (s9.2 29) (p).toNat (0)) (mA 27 (va_up (s9.2 27) (p).toNat (min ((s9.2 27) (p).toNat) (ww - 1))) (mA 26 (va_up (s9.2 26) (p).toNat (min ((s9.2 26) (p).toNat) (hh - 1))) (mA 24 (va_up (s9.2 24) (p).toNat (min ((s9.2 24) (p).toNat) (ww - 1))) (mA 23 (va_up (s9.2 23) (p).toNat (min ((s9.2 23) (p).toNat) (hh - 1))) s9))))))).2 31 p.toNat = _ := (show (va_up (s9.2 31) (p).toNat (0)) p.toNat = _ from va_up_self _ _ _)
    have v32 : (mA 31 (va_up (s9.2 31) (p).toNat (0)) (mA 30 (va_up (s9.2 30) (p).toNat (hh - 1)) (mA 29 (va_up (s9.2 29) (p).toNat (0)) (mA 27 (va_up (s9.2 27) (p).toNat (min ((s9.2 27) (p).toNat) (ww - 1))) (mA 26 (va_up (s9.2 26) (p).toNat (min ((s9.2 26) (p).toNat) (hh - 1))) (mA 24 (va_up (s9.2 24) (p).toNat (min ((s9.2 24) (p).toNat) (ww - 1))) (mA 23 (va_up (s9.2 23) (p).toNat (min ((s9.2 23) (p).toNat) (hh - 1))) s9))))))).2 32 p.toNat = s.2 32 p.toNat := congrFun (hE9.2 32 (by decide) (by decide)) _
    have v33 : (mA 31 (va_up (s9.2 31) (p).toNat (0)) (mA 30 (va_up (s9.2 30) (p).toNat (hh - 1)) (mA 29 (va_up (s9.2 29) (p).toNat (0)) (mA 27 (va_up (s9.2 27) (p).toNat (min ((s9.2 27) (p).toNat) (ww - 1))) (mA 26 (va_up (s9.2 26) (p).toNat (min ((s9.2 26) (p).toNat) (hh - 1))) (mA 24 (va_up (s9.2 24) (p).toNat (min ((s9.2 24) (p).toNat) (ww - 1))) (mA 23 (va_up (s9.2 23) (p).toNat (min ((s9.2 23) (p).toNat) (hh - 1))) s9))))))).2 33 p.toNat = s.2 33 p.toNat := congrFun (hE9.2 33 (by decide) (by decide)) _
    have v34 : (mA 31 (va_up (s9.2 31) (p).toNat (0)) (mA 30 (va_up (s9.2 30) (p).toNat (hh - 1)) (mA 29 (va_up (s9.2 29) (p).toNat (0)) (mA 27 (va_up (s9.2 27) (p).toNat (min ((s9.2 27) (p).toNat) (ww - 1))) (mA 26 (va_up (s9.2 26) (p).toNat (min ((s9.2 26) (p).toNat) (hh - 1))) (mA 24 (va_up (s9.2 24) (p).toNat (min ((s9.2 24) (p).toNat) (ww - 1))) (mA 23 (va_up (s9.2 23) (p).toNat (min ((s9.2 23) (p).toNat) (hh - 1))) s9))))))).2 34 p.toNat = s.2 34 p.toNat := congrFun (hE9.2 34 (by decide) (by decide)) _
    have v35 : (mA 31 (va_up (s9.2 31) (p).toNat (0)) (mA 30 (va_up (s9.2 30) (p).toNat (hh - 1)) (mA 29 (va_up (s9.2 29) (p).toNat (0)) (mA 27 (va_up (s9.2 27) (p).toNat (min ((s9.2 27) (p).toNat) (ww - 1))) (mA 26 (va_up (s9.2 26) (p).toNat (min ((s9.2 26) (p).toNat) (hh - 1))) (mA 24 (va_up (s9.2 24) (p).toNat (min ((s9.2 24) (p).toNat) (ww - 1))) (mA 23 (va_up (s9.2 23) (p).toNat (min ((s9.2 23) (p).toNat) (hh - 1))) s9))))))).2 35 p.toNat = s.2 35 p.toNat := congrFun (hE9.2 35 (by decide) (by decide)) _
    have v37 : (mA 31 (va_up (s9.2 31) (p).toNat (0)) (mA 30 (va_up (s9.2 30) (p).toNat (hh - 1)) (mA 29 (va_up (s9.2 29) (p).toNat (0)) (mA 27 (va_up (s9.2 27) (p).toNat (min ((s9.2 27) (p).toNat) (ww - 1))) (mA 26 (va_up (s9.2 26) (p).toNat (min ((s9.2 26) (p).toNat) (hh - 1))) (mA 24 (va_up (s9.2 24) (p).toNat (min ((s9.2 24) (p).toNat) (ww - 1))) (mA 23 (va_up (s9.2 23) (p).toNat (min ((s9.2 23) (p).toNat) (hh - 1))) s9))))))).2 37 p.toNat = s.2 37 p.toNat := congrFun (hE9.2 37 (by decide) (by decide)) _
    have v38 : (mA 31 (va_up (s9.2 31) (p).toNat (0)) (mA 30 (va_up (s9.2 30) (p).toNat (hh - 1)) (mA 29 (va_up (s9.2 29) (p).toNat (0)) (mA 27 (va_up (s9.2 27) (p).toNat (min ((s9.2 27) (p).toNat) (ww - 1))) (mA 26 (va_up (s9.2 26) (p).toNat (min ((s9.2 26) (p).toNat) (hh - 1))) (mA 24 (va_up (s9.2 24) (p).toNat (min ((s9.2 24) (p).toNat) (ww - 1))) (mA 23 (va_up (s9.2 23) (p).toNat (min ((s9.2 23) (p).toNat) (hh - 1))) s9))))))).2 38 p.toNat = s.2 38 p.toNat := congrFun (hE9.2 38 (by decide) (by decide)) _
    have v39 : (mA 31 (va_up (s9.2 31) (p).toNat (0)) (mA 30 (va_up (s9.2 30) (p).toNat (hh - 1)) (mA 29 (va_up (s9.2 29) (p).toNat (0)) (mA 27 (va_up (s9.2 27) (p).toNat (min ((s9.2 27) (p).toNat) (ww - 1))) (mA 26 (va_up (s9.2 26) (p).toNat (min ((s9.2 26) (p).toNat) (hh - 1))) (mA 24 (va_up (s9.2 24) (p).toNat (min ((s9.2 24) (p).toNat) (ww - 1))) (mA 23 (va_up (s9.2 23) (p).toNat (min ((s9.2 23) (p).toNat) (hh - 1))) s9))))))).2 39 p.toNat = s.2 39 p.toNat := congrFun (hE9.2 39 (by decide) (by decide)) _
    have v42 : (mA 31 (va_up (s9.2 31) (p).toNat (0)) (mA 30 (va_up (s9.2 30) (p).toNat (hh - 1)) (mA 29 (va_up (s9.2 29) (p).toNat (0)) (mA 27 (va_up (s9.2 27) (p).toNat (min ((s9.2 27) (p).toNat) (ww - 1))) (mA 26 (va_up (s9.2 26) (p).toNat (min ((s9.2 26) (p).toNat) (hh - 1))) (mA 24 (va_up (s9.2 24) (p).toNat (min ((s9.2 24) (p).toNat) (ww - 1))) (mA 23 (va_up (s9.2 23) (p).toNat (min ((s9.2 23) (p).toNat) (hh - 1))) s9))))))).2 42 p.toNat = s.2 42 p.toNat := congrFun (hE9.2 42 (by decide) (by decide)) _
    have v43 : (mA 31 (va_up (s9.2 31) (p).toNat (0)) (mA 30 (va_up (s9.2 30) (p).toNat (hh - 1)) (mA 29 (va_up (s9.2 29) (p).toNat (0)) (mA 27 (va_up (s9.2 27) (p).toNat (min ((s9.2 27) (p).toNat) (ww - 1))) (mA 26 (va_up (s9.2 26) (p).toNat (min ((s9.2 26) (p).toNat) (hh - 1))) (mA 24 (va_up (s9.2 24) (p).toNat (min ((s9.2 24) (p).toNat) (ww - 1))) (mA 23 (va_up (s9.2 23) (p).toNat (min ((s9.2 23) (p).toNat) (hh - 1))) s9))))))).2 43 p.toNat = s.2 43 p.toNat := congrFun (hE9.2 43 (by decide) (by decide)) _
    have v44 : (mA 31 (va_up (s9.2 31) (p).toNat (0)) (mA 30 (va_up (s9.2 30) (p).toNat (hh - 1)) (mA 29 (va_up (s9.2 29) (p).toNat (0)) (mA 27 (va_up (s9.2 27) (p).toNat (min ((s9.2 27) (p).toNat) (ww - 1))) (mA 26 (va_up (s9.2 26) (p).toNat (min ((s9.2 26) (p).toNat) (hh - 1))) (mA 24 (va_up (s9.2 24) (p).toNat (min ((s9.2 24) (p).toNat) (ww - 1))) (mA 23 (va_up (s9.2 23) (p).toNat (min ((s9.2 23) (p).toNat) (hh - 1))) s9))))))).2 44 p.toNat = s.2 44 p.toNat := congrFun (hE9.2 44 (by decide) (by decide)) _
    have v45 : (mA 31 (va_up (s9.2 31) (p).toNat (0)) (mA 30 (va_up (s9.2 30) (p).toNat (hh - 1)) (mA 29 (va_up (s9.2 29) (p).toNat (0)) (mA 27 (va_up (s9.2 27) (p).toNat (min ((s9.2 27) (p).toNat) (ww - 1))) (mA 26 (va_up (s9.2 26) (p).toNat (min ((s9.2 26) (p).toNat) (hh - 1))) (mA 24 (va_up (s9.2 24) (p).toNat (min ((s9.2 24) (p).toNat) (ww - 1))) (mA 23 (va_up (s9.2 23) (p).toNat (min ((s9.2 23) (p).toNat) (hh - 1))) s9))))))).2 45 p.toNat = s.2 45 p.toNat := congrFun (hE9.2 45 (by decide) (by decide)) _
    have hk8 : mPk (mA 31 (va_up (s9.2 31) (p).toNat (0)) (mA 30 (va_up (s9.2 30) (p).toNat (hh - 1)) (mA 29 (va_up (s9.2 29) (p).toNat (0)) (mA 27 (va_up (s9.2 27) (p).toNat (min ((s9.2 27) (p).toNat) (ww - 1))) (mA 26 (va_up (s9.2 26) (p).toNat (min ((s9.2 26) (p).toNat) (hh - 1))) (mA 24 (va_up (s9.2 24) (p).toNat (min ((s9.2 24) (p).toNat) (ww - 1))) (mA 23 (va_up (s9.2 23) (p).toNat (min ((s9.2 23) (p).toNat) (hh - 1))) s9))))))) p.toNat := by
      unfold mPk
      rw [(show (mA 31 (va_up (s9.2 31) (p).toNat (0)) (mA 30 (va_up (s9.2 30) (p).toNat (hh - 1)) (mA 29 (va_up (s9.2 29) (p).toNat (0)) (mA 27 (va_up (s9.2 27) (p).toNat (min ((s9.2 27) (p).toNat) (ww - 1))) (mA 26 (va_up (s9.2 26) (p).toNat (min ((s9.2 26) (p).toNat) (hh - 1))) (mA 24 (va_up (s9.2 24) (p).toNat (min ((s9.2 24) (p).toNat) (ww - 1))) (mA 23 (va_up (s9.2 23) (p).toNat (min ((s9.2 23) (p).toNat) (hh - 1))) s9))))))).2 18 p.toNat = _ from v18), (show (mA 31 (va_up (s9.2 31) (p).toNat (0)) (mA 30 (va_up (s9.2 30) (p).toNat (hh - 1)) (mA 29 (va_up (s9.2 29) (p).toNat (0)) (mA 27 (va_up (s9.2 27) (p).toNat (min ((s9.2 27) (p).toNat) (ww - 1))) (mA 26 (va_up (s9.2 26) (p).toNat (min ((s9.2 26) (p).toNat) (hh - 1))) (mA 24 (va_up (s9.2 24) (p).toNat (min ((s9.2 24) (p).toNat) (ww - 1))) (mA 23 (va_up (s9.2 23) (p).toNat (min ((s9.2 23) (p).toNat) (hh - 1))) s9))))))).2 19 p.toNat = _ from v19), v22, v23, v24, v26, v27, v29, v30, v31, v32, v33, v34, v35, v37, v38, v39, v42, v43, v44, v45]
      exact ⟨by omega, by omega, by omega, by omega, by omega, by omega, by omega, by omega, by omega, by omega, by omega, by omega, by omega, (fun j hj => by rw [show (mA 31 (va_up (s9.2 31) (p).toNat (0)) (mA 30 (va_up (s9.2 30) (p).toNat (hh - 1)) (mA 29 (va_up (s9.2 29) (p).toNat (0)) (mA 27 (va_up (s9.2 27) (p).toNat (min ((s9.2 27) (p).toNat) (ww - 1))) (mA 26 (va_up (s9.2 26) (p).toNat (min ((s9.2 26) (p).toNat) (hh - 1))) (mA 24 (va_up (s9.2 24) (p).toNat (min ((s9.2 24) (p).toNat) (ww - 1))) (mA 23 (va_up (s9.2 23) (p).toNat (min ((s9.2 23) (p).toNat) (hh - 1))) s9))))))).2 36 (4 * p.toNat + j) = s.2 36 (4 * p.toNat + j) from congrFun (hE9.2 36 (by decide) (by decide)) _]; exact knu j hj), by omega, by omega, by omega, by omega, by omega, by omega, by omega⟩
    exact pw_vret dX10_resize_204 rfl (nle rfl) (nle rfl) ⟨rfl, (mA 31 (va_up (s9.2 31) (p).toNat (0)) (mA 30 (va_up (s9.2 30) (p).toNat (hh - 1)) (mA 29 (va_up (s9.2 29) (p).toNat (0)) (mA 27 (va_up (s9.2 27) (p).toNat (min ((s9.2 27) (p).toNat) (ww - 1))) (mA 26 (va_up (s9.2 26) (p).toNat (min ((s9.2 26) (p).toNat) (hh - 1))) (mA 24 (va_up (s9.2 24) (p).toNat (min ((s9.2 24) (p).toNat) (ww - 1))) (mA 23 (va_up (s9.2 23) (p).toNat (min ((s9.2 23) (p).toNat) (hh - 1))) s9))))))), hA27, hq8, hk8, ⟨v18, v19⟩, hF27, rfl⟩
  ·
    refine pw_aload_n dX10_resize_10 rfl ?_
    refine pw_get (v := .ref (B + 16)) okX10 (k := 19) (by decide) lkX10_56 hA.1 rfl dX10_resize_11 ?_
    refine pw_iload_n dX10_resize_14 rfl ?_
    refine pw_iald (g := (s.2 19)) (t := 0) rfl (mF19 (s := s) hA) (by omega) (by decide) dX10_resize_15 ?_
    refine pw_iload_n dX10_resize_16 rfl ?_
    refine pw_icmp_ne (tgt := 21) dX10_resize_17 rfl (by omega) (by omega) (fun c17 => ?_) (fun c17 => ?_)
    ·
      refine pw_aload_n dX10_resize_21 rfl ?_
      refine pw_get (v := .ref (B + 15)) okX10 (k := 18) (by decide) lkX10_53 hA.1 rfl dX10_resize_22 ?_
      refine pw_iload_n dX10_resize_25 rfl ?_
      refine pw_iload_n dX10_resize_26 rfl ?_
      refine pw_iast (g := (s.2 18)) (t := 0) rfl (mF18 (s := s) hA) (by omega) (by decide) dX10_resize_27 ?_
      have hA28 : mAt B (mA 18 (va_up (s.2 18) (p).toNat (ww)) s) (va_up h (B + 15) (pz_z 0 8 (va_up (s.2 18) (p).toNat (ww)))) := mU18 hA
      have hF28 : mFr B h (va_up h (B + 15) (pz_z 0 8 (va_up (s.2 18) (p).toNat (ww)))) := mFr_tr mFr_rf (mFr_up (by decide))
      revert hA28 hF28
      generalize (va_up h (B + 15) (pz_z 0 8 (va_up (s.2 18) (p).toNat (ww)))) = h28
      intro hA28 hF28
      refine pw_aload_n dX10_resize_28 rfl ?_
      refine pw_get (v := .ref (B + 16)) okX10 (k := 19) (by decide) lkX10_56 hA28.1 rfl dX10_resize_29 ?_
      refine pw_iload_n dX10_resize_32 rfl ?_
      refine pw_iload_n dX10_resize_33 rfl ?_
      refine pw_iast (g := (s.2 19)) (t := 0) rfl (mF19 (s := (mA 18 (va_up (s.2 18) (p).toNat (ww)) s)) hA28) (by omega) (by decide) dX10_resize_34 ?_
      have hA29 : mAt B (mA 19 (va_up (s.2 19) (p).toNat (hh)) (mA 18 (va_up (s.2 18) (p).toNat (ww)) s)) (va_up h28 (B + 16) (pz_z 0 8 (va_up (s.2 19) (p).toNat (hh)))) := mU19 hA28
      have hF29 : mFr B h (va_up h28 (B + 16) (pz_z 0 8 (va_up (s.2 19) (p).toNat (hh)))) := mFr_tr hF28 (mFr_up (by decide))
      revert hA29 hF29
      generalize (va_up h28 (B + 16) (pz_z 0 8 (va_up (s.2 19) (p).toNat (hh)))) = h29
      intro hA29 hF29
      refine pw_iconst (v := zI (0)) dX10_resize_35 (by decide) ?_
      refine pw_istore (lv' := [some (.ref B), some (.int (zI (p))), some (.int (zI (ww))), some (.int (zI (hh))), some (.int (zI (0))), none, none]) dX10_resize_36 (by decide) rfl rfl ?_
      refine lN_rz3 (s := (mA 19 (va_up (s.2 19) (p).toNat (hh)) (mA 18 (va_up (s.2 18) (p).toNat (ww)) s))) htr hp hww hhh _ 0 _ _ (mA 19 (va_up (s.2 19) (p).toNat (hh)) (mA 18 (va_up (s.2 18) (p).toNat (ww)) s)) h29 rfl (by omega) (by omega) hA29 ⟨rfl, fun _ _ _ => rfl⟩ hF29 (fun v9 q5 q6 s9 h9 hA9 hE9 hF9 => ?_)
      have f23 : s9.2 23 = s.2 23 := hE9.2 23 (by decide) (by decide)
      have x23 := congrFun f23 p.toNat
      have f24 : s9.2 24 = s.2 24 := hE9.2 24 (by decide) (by decide)
      have x24 := congrFun f24 p.toNat
      have f26 : s9.2 26 = s.2 26 := hE9.2 26 (by decide) (by decide)
      have x26 := congrFun f26 p.toNat
      have f27 : s9.2 27 = s.2 27 := hE9.2 27 (by decide) (by decide)
      have x27 := congrFun f27 p.toNat
      refine pw_aload_n dX10_resize_109 rfl ?_
      refine pw_get (v := .ref (B + 20)) okX10 (k := 23) (by decide) lkX10_68 hA9.1 rfl dX10_resize_110 ?_
      refine pw_iload_n dX10_resize_113 rfl ?_
      refine pw_aload_n dX10_resize_114 rfl ?_
      refine pw_get (v := .ref (B + 20)) okX10 (k := 23) (by decide) lkX10_68 hA9.1 rfl dX10_resize_115 ?_
      refine pw_iload_n dX10_resize_118 rfl ?_
      refine pw_iald (g := (s9.2 23)) (t := 0) rfl (mF23 (s := s9) hA9) (by omega) (by decide) dX10_resize_119 ?_
      refine pw_iload_n dX10_resize_120 rfl ?_
      refine pw_iconst (v := zI (1)) dX10_resize_121 (by decide) ?_
      refine pw_zisub dX10_resize_122 ?_
      refine pw_callS (As := [.int (zI ((s9.2 23) (p).toNat)), .int (zI (hh - 1))]) (rm := rmD 0 0 0) (mR_least htr (by omega) (by omega)) rfl ywX10_least rfl cwX10_192 ⟨nle rfl, nle rfl⟩ (nle rfl) ⟨nle rfl, nle rfl⟩ dX10_resize_123 ?_ (fun _ _ _ z => z.elim)
      intro r_9 h_9 n_9 hq _
      rw [hq.1, hq.2.1, hq.2.2]
      show pw E YX10_resize _ _ 0 0 126 [some (.ref B), some (.int (zI (p))), some (.int (zI (ww))), some (.int (zI (hh))), some (.int (zI (v9))), q5, q6] [.int (zI (min ((s9.2 23) (p).toNat) (hh - 1))), .int (zI (p)), .ref (B + 20)] h9 n
      refine pw_iast (g := (s9.2 23)) (t := 0) rfl (mF23 (s := s9) hA9) (by omega) (by decide) dX10_resize_126 ?_
      have hA21 : mAt B (mA 23 (va_up (s9.2 23) (p).toNat (min ((s9.2 23) (p).toNat) (hh - 1))) s9) (va_up h9 (B + 20) (pz_z 0 8 (va_up (s9.2 23) (p).toNat (min ((s9.2 23) (p).toNat) (hh - 1))))) := mU23 hA9
      have hF21 : mFr B h (va_up h9 (B + 20) (pz_z 0 8 (va_up (s9.2 23) (p).toNat (min ((s9.2 23) (p).toNat) (hh - 1))))) := mFr_tr hF9 (mFr_up (by decide))
      revert hA21 hF21
      generalize (va_up h9 (B + 20) (pz_z 0 8 (va_up (s9.2 23) (p).toNat (min ((s9.2 23) (p).toNat) (hh - 1))))) = h21
      intro hA21 hF21
      refine pw_aload_n dX10_resize_127 rfl ?_
      refine pw_get (v := .ref (B + 21)) okX10 (k := 24) (by decide) lkX10_71 hA21.1 rfl dX10_resize_128 ?_
      refine pw_iload_n dX10_resize_131 rfl ?_
      refine pw_aload_n dX10_resize_132 rfl ?_
      refine pw_get (v := .ref (B + 21)) okX10 (k := 24) (by decide) lkX10_71 hA21.1 rfl dX10_resize_133 ?_
      refine pw_iload_n dX10_resize_136 rfl ?_
      refine pw_iald (g := (s9.2 24)) (t := 0) rfl (mF24 (s := (mA 23 (va_up (s9.2 23) (p).toNat (min ((s9.2 23) (p).toNat) (hh - 1))) s9)) hA21) (by omega) (by decide) dX10_resize_137 ?_
      refine pw_iload_n dX10_resize_138 rfl ?_
      refine pw_iconst (v := zI (1)) dX10_resize_139 (by decide) ?_
      refine pw_zisub dX10_resize_140 ?_
      refine pw_callS (As := [.int (zI ((s9.2 24) (p).toNat)), .int (zI (ww - 1))]) (rm := rmD 0 0 0) (mR_least htr (by omega) (by omega)) rfl ywX10_least rfl cwX10_192 ⟨nle rfl, nle rfl⟩ (nle rfl) ⟨nle rfl, nle rfl⟩ dX10_resize_141 ?_ (fun _ _ _ z => z.elim)
      intro r_9 h_9 n_9 hq _
      rw [hq.1, hq.2.1, hq.2.2]
      show pw E YX10_resize _ _ 0 0 144 [some (.ref B), some (.int (zI (p))), some (.int (zI (ww))), some (.int (zI (hh))), some (.int (zI (v9))), q5, q6] [.int (zI (min ((s9.2 24) (p).toNat) (ww - 1))), .int (zI (p)), .ref (B + 21)] h21 n
      refine pw_iast (g := (s9.2 24)) (t := 0) rfl (mF24 (s := (mA 23 (va_up (s9.2 23) (p).toNat (min ((s9.2 23) (p).toNat) (hh - 1))) s9)) hA21) (by omega) (by decide) dX10_resize_144 ?_
      have hA22 : mAt B (mA 24 (va_up (s9.2 24) (p).toNat (min ((s9.2 24) (p).toNat) (ww - 1))) (mA 23 (va_up (s9.2 23) (p).toNat (min ((s9.2 23) (p).toNat) (hh - 1))) s9)) (va_up h21 (B + 21) (pz_z 0 8 (va_up (s9.2 24) (p).toNat (min ((s9.2 24) (p).toNat) (ww - 1))))) := mU24 hA21
      have hF22 : mFr B h (va_up h21 (B + 21) (pz_z 0 8 (va_up (s9.2 24) (p).toNat (min ((s9.2 24) (p).toNat) (ww - 1))))) := mFr_tr hF21 (mFr_up (by decide))
      revert hA22 hF22
      generalize (va_up h21 (B + 21) (pz_z 0 8 (va_up (s9.2 24) (p).toNat (min ((s9.2 24) (p).toNat) (ww - 1))))) = h22
      intro hA22 hF22
      refine pw_aload_n dX10_resize_145 rfl ?_
      refine pw_get (v := .ref (B + 23)) okX10 (k := 26) (by decide) lkX10_77 hA22.1 rfl dX10_resize_146 ?_
      refine pw_iload_n dX10_resize_149 rfl ?_
      refine pw_aload_n dX10_resize_150 rfl ?_
      refine pw_get (v := .ref (B + 23)) okX10 (k := 26) (by decide) lkX10_77 hA22.1 rfl dX10_resize_151 ?_
      refine pw_iload_n dX10_resize_154 rfl ?_
      refine pw_iald (g := (s9.2 26)) (t := 0) rfl (mF26 (s := (mA 24 (va_up (s9.2 24) (p).toNat (min ((s9.2 24) (p).toNat) (ww - 1))) (mA 23 (va_up (s9.2 23) (p).toNat (min ((s9.2 23) (p).toNat) (hh - 1))) s9))) hA22) (by omega) (by decide) dX10_resize_155 ?_
      refine pw_iload_n dX10_resize_156 rfl ?_
      refine pw_iconst (v := zI (1)) dX10_resize_157 (by decide) ?_
      refine pw_zisub dX10_resize_158 ?_
      refine pw_callS (As := [.int (zI ((s9.2 26) (p).toNat)), .int (zI (hh - 1))]) (rm := rmD 0 0 0) (mR_least htr (by omega) (by omega)) rfl ywX10_least rfl cwX10_192 ⟨nle rfl, nle rfl⟩ (nle rfl) ⟨nle rfl, nle rfl⟩ dX10_resize_159 ?_ (fun _ _ _ z => z.elim)
      intro r_9 h_9 n_9 hq _
      rw [hq.1, hq.2.1, hq.2.2]
      show pw E YX10_resize _ _ 0 0 162 [some (.ref B), some (.int (zI (p))), some (.int (zI (ww))), some (.int (zI (hh))), some (.int (zI (v9))), q5, q6] [.int (zI (min ((s9.2 26) (p).toNat) (hh - 1))), .int (zI (p)), .ref (B + 23)] h22 n
      refine pw_iast (g := (s9.2 26)) (t := 0) rfl (mF26 (s := (mA 24 (va_up (s9.2 24) (p).toNat (min ((s9.2 24) (p).toNat) (ww - 1))) (mA 23 (va_up (s9.2 23) (p).toNat (min ((s9.2 23) (p).toNat) (hh - 1))) s9))) hA22) (by omega) (by decide) dX10_resize_162 ?_
      have hA23 : mAt B (mA 26 (va_up (s9.2 26) (p).toNat (min ((s9.2 26) (p).toNat) (hh - 1))) (mA 24 (va_up (s9.2 24) (p).toNat (min ((s9.2 24) (p).toNat) (ww - 1))) (mA 23 (va_up (s9.2 23) (p).toNat (min ((s9.2 23) (p).toNat) (hh - 1))) s9))) (va_up h22 (B + 23) (pz_z 0 8 (va_up (s9.2 26) (p).toNat (min ((s9.2 26) (p).toNat) (hh - 1))))) := mU26 hA22
      have hF23 : mFr B h (va_up h22 (B + 23) (pz_z 0 8 (va_up (s9.2 26) (p).toNat (min ((s9.2 26) (p).toNat) (hh - 1))))) := mFr_tr hF22 (mFr_up (by decide))
      revert hA23 hF23
      generalize (va_up h22 (B + 23) (pz_z 0 8 (va_up (s9.2 26) (p).toNat (min ((s9.2 26) (p).toNat) (hh - 1))))) = h23
      intro hA23 hF23
      refine pw_aload_n dX10_resize_163 rfl ?_
      refine pw_get (v := .ref (B + 24)) okX10 (k := 27) (by decide) lkX10_80 hA23.1 rfl dX10_resize_164 ?_
      refine pw_iload_n dX10_resize_167 rfl ?_
      refine pw_aload_n dX10_resize_168 rfl ?_
      refine pw_get (v := .ref (B + 24)) okX10 (k := 27) (by decide) lkX10_80 hA23.1 rfl dX10_resize_169 ?_
      refine pw_iload_n dX10_resize_172 rfl ?_
      refine pw_iald (g := (s9.2 27)) (t := 0) rfl (mF27 (s := (mA 26 (va_up (s9.2 26) (p).toNat (min ((s9.2 26) (p).toNat) (hh - 1))) (mA 24 (va_up (s9.2 24) (p).toNat (min ((s9.2 24) (p).toNat) (ww - 1))) (mA 23 (va_up (s9.2 23) (p).toNat (min ((s9.2 23) (p).toNat) (hh - 1))) s9)))) hA23) (by omega) (by decide) dX10_resize_173 ?_
      refine pw_iload_n dX10_resize_174 rfl ?_
      refine pw_iconst (v := zI (1)) dX10_resize_175 (by decide) ?_
      refine pw_zisub dX10_resize_176 ?_
      refine pw_callS (As := [.int (zI ((s9.2 27) (p).toNat)), .int (zI (ww - 1))]) (rm := rmD 0 0 0) (mR_least htr (by omega) (by omega)) rfl ywX10_least rfl cwX10_192 ⟨nle rfl, nle rfl⟩ (nle rfl) ⟨nle rfl, nle rfl⟩ dX10_resize_177 ?_ (fun _ _ _ z => z.elim)
      intro r_9 h_9 n_9 hq _
      rw [hq.1, hq.2.1, hq.2.2]
      show pw E YX10_resize _ _ 0 0 180 [some (.ref B), some (.int (zI (p))), some (.int (zI (ww))), some (.int (zI (hh))), some (.int (zI (v9))), q5, q6] [.int (zI (min ((s9.2 27) (p).toNat) (ww - 1))), .int (zI (p)), .ref (B + 24)] h23 n
      refine pw_iast (g := (s9.2 27)) (t := 0) rfl (mF27 (s := (mA 26 (va_up (s9.2 26) (p).toNat (min ((s9.2 26) (p).toNat) (hh - 1))) (mA 24 (va_up (s9.2 24) (p).toNat (min ((s9.2 24) (p).toNat) (ww - 1))) (mA 23 (va_up (s9.2 23) (p).toNat (min ((s9.2 23) (p).toNat) (hh - 1))) s9)))) hA23) (by omega) (by decide) dX10_resize_180 ?_
      have hA24 : mAt B (mA 27 (va_up (s9.2 27) (p).toNat (min ((s9.2 27) (p).toNat) (ww - 1))) (mA 26 (va_up (s9.2 26) (p).toNat (min ((s9.2 26) (p).toNat) (hh - 1))) (mA 24 (va_up (s9.2 24) (p).toNat (min ((s9.2 24) (p).toNat) (ww - 1))) (mA 23 (va_up (s9.2 23) (p).toNat (min ((s9.2 23) (p).toNat) (hh - 1))) s9)))) (va_up h23 (B + 24) (pz_z 0 8 (va_up (s9.2 27) (p).toNat (min ((s9.2 27) (p).toNat) (ww - 1))))) := mU27 hA23
      have hF24 : mFr B h (va_up h23 (B + 24) (pz_z 0 8 (va_up (s9.2 27) (p).toNat (min ((s9.2 27) (p).toNat) (ww - 1))))) := mFr_tr hF23 (mFr_up (by decide))
      revert hA24 hF24
      generalize (va_up h23 (B + 24) (pz_z 0 8 (va_up (s9.2 27) (p).toNat (min ((s9.2 27) (p).toNat) (ww - 1))))) = h24
      intro hA24 hF24
      refine pw_aload_n dX10_resize_181 rfl ?_
      refine pw_get (v := .ref (B + 26)) okX10 (k := 29) (by decide) lkX10_86 hA24.1 rfl dX10_resize_182 ?_
      refine pw_iload_n dX10_resize_185 rfl ?_
      refine pw_iconst (v := zI (0)) dX10_resize_186 (by decide) ?_
      refine pw_iast (g := (s9.2 29)) (t := 0) rfl (mF29 (s := (mA 27 (va_up (s9.2 27) (p).toNat (min ((s9.2 27) (p).toNat) (ww - 1))) (mA 26 (va_up (s9.2 26) (p).toNat (min ((s9.2 26) (p).toNat) (hh - 1))) (mA 24 (va_up (s9.2 24) (p).toNat (min ((s9.2 24) (p).toNat) (ww - 1))) (mA 23 (va_up (s9.2 23) (p).toNat (min ((s9.2 23) (p).toNat) (hh - 1))) s9))))) hA24) (by omega) (by decide) dX10_resize_187 ?_
      have hA25 : mAt B (mA 29 (va_up (s9.2 29) (p).toNat (0)) (mA 27 (va_up (s9.2 27) (p).toNat (min ((s9.2 27) (p).toNat) (ww - 1))) (mA 26 (va_up (s9.2 26) (p).toNat (min ((s9.2 26) (p).toNat) (hh - 1))) (mA 24 (va_up (s9.2 24) (p).toNat (min ((s9.2 24) (p).toNat) (ww - 1))) (mA 23 (va_up (s9.2 23) (p).toNat (min ((s9.2 23) (p).toNat) (hh - 1))) s9))))) (va_up h24 (B + 26) (pz_z 0 8 (va_up (s9.2 29) (p).toNat (0)))) := mU29 hA24
      have hF25 : mFr B h (va_up h24 (B + 26) (pz_z 0 8 (va_up (s9.2 29) (p).toNat (0)))) := mFr_tr hF24 (mFr_up (by decide))
      revert hA25 hF25
      generalize (va_up h24 (B + 26) (pz_z 0 8 (va_up (s9.2 29) (p).toNat (0)))) = h25
      intro hA25 hF25
      refine pw_aload_n dX10_resize_188 rfl ?_
      refine pw_get (v := .ref (B + 27)) okX10 (k := 30) (by decide) lkX10_89 hA25.1 rfl dX10_resize_189 ?_
      refine pw_iload_n dX10_resize_192 rfl ?_
      refine pw_iload_n dX10_resize_193 rfl ?_
      refine pw_iconst (v := zI (1)) dX10_resize_194 (by decide) ?_
      refine pw_zisub dX10_resize_195 ?_
      refine pw_iast (g := (s9.2 30)) (t := 0) rfl (mF30 (s := (mA 29 (va_up (s9.2 29) (p).toNat (0)) (mA 27 (va_up (s9.2 27) (p).toNat (min ((s9.2 27) (p).toNat) (ww - 1))) (mA 26 (va_up (s9.2 26) (p).toNat (min ((s9.2 26) (p).toNat) (hh - 1))) (mA 24 (va_up (s9.2 24) (p).toNat (min ((s9.2 24) (p).toNat) (ww - 1))) (mA 23 (va_up (s9.2 23) (p).toNat (min ((s9.2 23) (p).toNat) (hh - 1))) s9)))))) hA25) (by omega) (by decide) dX10_resize_196 ?_
      have hA26 : mAt B (mA 30 (va_up (s9.2 30) (p).toNat (hh - 1)) (mA 29 (va_up (s9.2 29) (p).toNat (0)) (mA 27 (va_up (s9.2 27) (p).toNat (min ((s9.2 27) (p).toNat) (ww - 1))) (mA 26 (va_up (s9.2 26) (p).toNat (min ((s9.2 26) (p).toNat) (hh - 1))) (mA 24 (va_up (s9.2 24) (p).toNat (min ((s9.2 24) (p).toNat) (ww - 1))) (mA 23 (va_up (s9.2 23) (p).toNat (min ((s9.2 23) (p).toNat) (hh - 1))) s9)))))) (va_up h25 (B + 27) (pz_z 0 8 (va_up (s9.2 30) (p).toNat (hh - 1)))) := mU30 hA25
      have hF26 : mFr B h (va_up h25 (B + 27) (pz_z 0 8 (va_up (s9.2 30) (p).toNat (hh - 1)))) := mFr_tr hF25 (mFr_up (by decide))
      revert hA26 hF26
      generalize (va_up h25 (B + 27) (pz_z 0 8 (va_up (s9.2 30) (p).toNat (hh - 1)))) = h26
      intro hA26 hF26
      refine pw_aload_n dX10_resize_197 rfl ?_
      refine pw_get (v := .ref (B + 28)) okX10 (k := 31) (by decide) lkX10_92 hA26.1 rfl dX10_resize_198 ?_
      refine pw_iload_n dX10_resize_201 rfl ?_
      refine pw_iconst (v := zI (0)) dX10_resize_202 (by decide) ?_
      refine pw_zast (g := (s9.2 31)) (t := 1) rfl (mF31 (s := (mA 30 (va_up (s9.2 30) (p).toNat (hh - 1)) (mA 29 (va_up (s9.2 29) (p).toNat (0)) (mA 27 (va_up (s9.2 27) (p).toNat (min ((s9.2 27) (p).toNat) (ww - 1))) (mA 26 (va_up (s9.2 26) (p).toNat (min ((s9.2 26) (p).toNat) (hh - 1))) (mA 24 (va_up (s9.2 24) (p).toNat (min ((s9.2 24) (p).toNat) (ww - 1))) (mA 23 (va_up (s9.2 23) (p).toNat (min ((s9.2 23) (p).toNat) (hh - 1))) s9))))))) hA26) (by omega) (by decide) (by omega) dX10_resize_203 ?_
      have hA27 : mAt B (mA 31 (va_up (s9.2 31) (p).toNat (0)) (mA 30 (va_up (s9.2 30) (p).toNat (hh - 1)) (mA 29 (va_up (s9.2 29) (p).toNat (0)) (mA 27 (va_up (s9.2 27) (p).toNat (min ((s9.2 27) (p).toNat) (ww - 1))) (mA 26 (va_up (s9.2 26) (p).toNat (min ((s9.2 26) (p).toNat) (hh - 1))) (mA 24 (va_up (s9.2 24) (p).toNat (min ((s9.2 24) (p).toNat) (ww - 1))) (mA 23 (va_up (s9.2 23) (p).toNat (min ((s9.2 23) (p).toNat) (hh - 1))) s9))))))) (va_up h26 (B + 28) (pz_z 1 8 (va_up (s9.2 31) (p).toNat (0)))) := mU31 hA26
      have hF27 : mFr B h (va_up h26 (B + 28) (pz_z 1 8 (va_up (s9.2 31) (p).toNat (0)))) := mFr_tr hF26 (mFr_up (by decide))
      revert hA27 hF27
      generalize (va_up h26 (B + 28) (pz_z 1 8 (va_up (s9.2 31) (p).toNat (0)))) = h27
      intro hA27 hF27
      have hq9 : mPq p.toNat s s9 := mPq_tr (mPq_tr (mPq_W (j := 18) (v := ww) (by decide) (by decide) (by decide) (fun z => absurd z (by decide))) (mPq_W (j := 19) (v := hh) (by decide) (by decide) (by decide) (fun z => absurd z (by decide)))) (mPq_E hE9)
      have hq8 : mPq p.toNat s (mA 31 (va_up (s9.2 31) (p).toNat (0)) (mA 30 (va_up (s9.2 30) (p).toNat (hh - 1)) (mA 29 (va_up (s9.2 29) (p).toNat (0)) (mA 27 (va_up (s9.2 27) (p).toNat (min ((s9.2 27) (p).toNat) (ww - 1))) (mA 26 (va_up (s9.2 26) (p).toNat (min ((s9.2 26) (p).toNat) (hh - 1))) (mA 24 (va_up (s9.2 24) (p).toNat (min ((s9.2 24) (p).toNat) (ww - 1))) (mA 23 (va_up (s9.2 23) (p).toNat (min ((s9.2 23) (p).toNat) (hh - 1))) s9))))))) := mPq_tr hq9 (mPq_tr (mPq_tr (mPq_tr (mPq_tr (mPq_tr (mPq_tr (mPq_W (j := 23) (by decide) (by decide) (by decide) (fun z => absurd z (by decide))) (mPq_W (j := 24) (by decide) (by decide) (by decide) (fun z => absurd z (by decide)))) (mPq_W (j := 26) (by decide) (by decide) (by decide) (fun z => absurd z (by decide)))) (mPq_W (j := 27) (by decide) (by decide) (by decide) (fun z => absurd z (by decide)))) (mPq_W (j := 29) (by decide) (by decide) (by decide) (fun z => absurd z (by decide)))) (mPq_W (j := 30) (by decide) (by decide) (by decide) (fun z => absurd z (by decide)))) (mPq_W (j := 31) (by decide) (by decide) (by decide) (fun z => absurd z (by decide))))
      have v18 : s9.2 18 p.toNat = ww := by rw [hE9.2 18 (by decide) (by decide)]; exact va_up_self _ _ _
      have v19 : s9.2 19 p.toNat = hh := by rw [hE9.2 19 (by decide) (by decide)]; exact va_up_self _ _ _
      have v22 : (mA 31 (va_up (s9.2 31) (p).toNat (0)) (mA 30 (va_up (s9.2 30) (p).toNat (hh - 1)) (mA 29 (va_up (s9.2 29) (p).toNat (0)) (mA 27 (va_up (s9.2 27) (p).toNat (min ((s9.2 27) (p).toNat) (ww - 1))) (mA 26 (va_up (s9.2 26) (p).toNat (min ((s9.2 26) (p).toNat) (hh - 1))) (mA 24 (va_up (s9.2 24) (p).toNat (min ((s9.2 24) (p).toNat) (ww - 1))) (mA 23 (va_up (s9.2 23) (p).toNat (min ((s9.2 23) (p).toNat) (hh - 1))) s9))))))).2 22 p.toNat = s.2 22 p.toNat := congrFun (hE9.2 22 (by decide) (by decide)) _
      have v23 : (mA 31 (va_up (s9.2 31) (p).toNat (0)) (mA 30 (va_up (s9.2 30) (p).toNat (hh - 1)) (mA 29 (va_up (s9.2 29) (p).toNat (0)) (mA 27 (va_up (s9.2 27) (p).toNat (min ((s9.2 27) (p).toNat) (ww - 1))) (mA 26 (va_up (s9.2 26) (p).toNat (min ((s9.2 26) (p).toNat) (hh - 1))) (mA 24 (va_up (s9.2 24) (p).toNat (min ((s9.2 24) (p).toNat) (ww - 1))) (mA 23 (va_up (s9.2 23) (p).toNat (min ((s9.2 23) (p).toNat) (hh - 1))) s9))))))).2 23 p.toNat = _ := (show (va_up (s9.2 23) (p).toNat (min ((s9.2 23) (p).toNat) (hh - 1))) p.toNat = _ from va_up_self _ _ _)
      have v24 : (mA 31 (va_up (s9.2 31) (p).toNat (0)) (mA 30 (va_up (s9.2 30) (p).toNat (hh - 1)) (mA 29 (va_up (s9.2 29) (p).toNat (0)) (mA 27 (va_up (s9.2 27) (p).toNat (min ((s9.2 27) (p).toNat) (ww - 1))) (mA 26 (va_up (s9.2 26) (p).toNat (min ((s9.2 26) (p).toNat) (hh - 1))) (mA 24 (va_up (s9.2 24) (p).toNat (min ((s9.2 24) (p).toNat) (ww - 1))) (mA 23 (va_up (s9.2 23) (p).toNat (min ((s9.2 23) (p).toNat) (hh - 1))) s9))))))).2 24 p.toNat = _ := (show (va_up (s9.2 24) (p).toNat (min ((s9.2 24) (p).toNat) (ww - 1))) p.toNat = _ from va_up_self _ _ _)
      have v26 : (mA 31 (va_up (s9.2 31) (p).toNat (0)) (mA 30 (va_up (s9.2 30) (p).toNat (hh - 1)) (mA 29 (va_up (s9.2 29) (p).toNat (0)) (mA 27 (va_up (s9.2 27) (p).toNat (min ((s9.2 27) (p).toNat) (ww - 1))) (mA 26 (va_up (s9.2 26) (p).toNat (min ((s9.2 26) (p).toNat) (hh - 1))) (mA 24 (va_up (s9.2 24) (p).toNat (min ((s9.2 24) (p).toNat) (ww - 1))) (mA 23 (va_up (s9.2 23) (p).toNat (min ((s9.2 23) (p).toNat) (hh - 1))) s9))))))).2 26 p.toNat = _ := (show (va_up (s9.2 26) (p).toNat (min ((s9.2 26) (p).toNat) (hh - 1))) p.toNat = _ from va_up_self _ _ _)
      have v27 : (mA 31 (va_up (s9.2 31) (p).toNat (0)) (mA 30 (va_up (s9.2 30) (p).toNat (hh - 1)) (mA 29 (va_up (s9.2 29) (p).toNat (0)) (mA 27 (va_up (s9.2 27) (p).toNat (min ((s9.2 27) (p).toNat) (ww - 1))) (mA 26 (va_up (s9.2 26) (p).toNat (min ((s9.2 26) (p).toNat) (hh - 1))) (mA 24 (va_up (s9.2 24) (p).toNat (min ((s9.2 24) (p).toNat) (ww - 1))) (mA 23 (va_up (s9.2 23) (p).toNat (min ((s9.2 23) (p).toNat) (hh - 1))) s9))))))).2 27 p.toNat = _ := (show (va_up (s9.2 27) (p).toNat (min ((s9.2 27) (p).toNat) (ww - 1))) p.toNat = _ from va_up_self _ _ _)
      have v29 : (mA 31 (va_up (s9.2 31) (p).toNat (0)) (mA 30 (va_up (s9.2 30) (p).toNat (hh - 1)) (mA 29 (va_up (s9.2 29) (p).toNat (0)) (mA 27 (va_up (s9.2 27) (p).toNat (min ((s9.2 27) (p).toNat) (ww - 1))) (mA 26 (va_up (s9.2 26) (p).toNat (min ((s9.2 26) (p).toNat) (hh - 1))) (mA 24 (va_up (s9.2 24) (p).toNat (min ((s9.2 24) (p).toNat) (ww - 1))) (mA 23 (va_up (s9.2 23) (p).toNat (min ((s9.2 23) (p).toNat) (hh - 1))) s9))))))).2 29 p.toNat = _ := (show (va_up (s9.2 29) (p).toNat (0)) p.toNat = _ from va_up_self _ _ _)
      have v30 : (mA 31 (va_up (s9.2 31) (p).toNat (0)) (mA 30 (va_up (s9.2 30) (p).toNat (hh - 1)) (mA 29 (va_up (s9.2 29) (p).toNat (0)) (mA 27 (va_up (s9.2 27) (p).toNat (min ((s9.2 27) (p).toNat) (ww - 1))) (mA 26 (va_up (s9.2 26) (p).toNat (min ((s9.2 26) (p).toNat) (hh - 1))) (mA 24 (va_up (s9.2 24) (p).toNat (min ((s9.2 24) (p).toNat) (ww - 1))) (mA 23 (va_up (s9.2 23) (p).toNat (min ((s9.2 23) (p).toNat) (hh - 1))) s9))))))).2 30 p.toNat = _ := (show (va_up (s9.2 30) (p).toNat (hh - 1)) p.toNat = _ from va_up_self _ _ _)
      have v31 : (mA 31 (va_up (s9.2 31) (p).toNat (0)) (mA 30 (va_up (s9.2 30) (p).toNat (hh - 1)) (mA 29 (va_up (s9.2 29) (p).toNat (0)) (mA 27 (va_up (s9.2 27) (p).toNat (min ((s9.2 27) (p).toNat) (ww - 1))) (mA 26 (va_up (s9.2 26) (p).toNat (min ((s9.2 26) (p).toNat) (hh - 1))) (mA 24 (va_up (s9.2 24) (p).toNat (min ((s9.2 24) (p).toNat) (ww - 1))) (mA 23 (va_up (s9.2 23) (p).toNat (min ((s9.2 23) (p).toNat) (hh - 1))) s9))))))).2 31 p.toNat = _ := (show (va_up (s9.2 31) (p).toNat (0)) p.toNat = _ from va_up_self _ _ _)
      have v32 : (mA 31 (va_up (s9.2 31) (p).toNat (0)) (mA 30 (va_up (s9.2 30) (p).toNat (hh - 1)) (mA 29 (va_up (s9.2 29) (p).toNat (0)) (mA 27 (va_up (s9.2 27) (p).toNat (min ((s9.2 27) (p).toNat) (ww - 1))) (mA 26 (va_up (s9.2 26) (p).toNat (min ((s9.2 26) (p).toNat) (hh - 1))) (mA 24 (va_up (s9.2 24) (p).toNat (min ((s9.2 24) (p).toNat) (ww - 1))) (mA 23 (va_up (s9.2 23) (p).toNat (min ((s9.2 23) (p).toNat) (hh - 1))) s9))))))).2 32 p.toNat = s.2 32 p.toNat := congrFun (hE9.2 32 (by decide) (by decide)) _
      have v33 : (mA 31 (va_up (s9.2 31) (p).toNat (0)) (mA 30 (va_up (s9.2 30) (p).toNat (hh - 1)) (mA 29 (va_up (s9.2 29) (p).toNat (0)) (mA 27 (va_up (s9.2 27) (p).toNat (min ((s9.2 27) (p).toNat) (ww - 1))) (mA 26 (va_up (s9.2 26) (p).toNat (min ((s9.2 26) (p).toNat) (hh - 1))) (mA 24 (va_up (s9.2 24) (p).toNat (min ((s9.2 24) (p).toNat) (ww - 1))) (mA 23 (va_up (s9.2 23) (p).toNat (min ((s9.2 23) (p).toNat) (hh - 1))) s9))))))).2 33 p.toNat = s.2 33 p.toNat := congrFun (hE9.2 33 (by decide) (by decide)) _
      have v34 : (mA 31 (va_up (s9.2 31) (p).toNat (0)) (mA 30 (va_up (s9.2 30) (p).toNat (hh - 1)) (mA 29 (va_up (s9.2 29) (p).toNat (0)) (mA 27 (va_up (s9.2 27) (p).toNat (min ((s9.2 27) (p).toNat) (ww - 1))) (mA 26 (va_up (s9.2 26) (p).toNat (min ((s9.2 26) (p).toNat) (hh - 1))) (mA 24 (va_up (s9.2 24) (p).toNat (min ((s9.2 24) (p).toNat) (ww - 1))) (mA 23 (va_up (s9.2 23) (p).toNat (min ((s9.2 23) (p).toNat) (hh - 1))) s9))))))).2 34 p.toNat = s.2 34 p.toNat := congrFun (hE9.2 34 (by decide) (by decide)) _
      have v35 : (mA 31 (va_up (s9.2 31) (p).toNat (0)) (mA 30 (va_up (s9.2 30) (p).toNat (hh - 1)) (mA 29 (va_up (s9.2 29) (p).toNat (0)) (mA 27 (va_up (s9.2 27) (p).toNat (min ((s9.2 27) (p).toNat) (ww - 1))) (mA 26 (va_up (s9.2 26) (p).toNat (min ((s9.2 26) (p).toNat) (hh - 1))) (mA 24 (va_up (s9.2 24) (p).toNat (min ((s9.2 24) (p).toNat) (ww - 1))) (mA 23 (va_up (s9.2 23) (p).toNat (min ((s9.2 23) (p).toNat) (hh - 1))) s9))))))).2 35 p.toNat = s.2 35 p.toNat := congrFun (hE9.2 35 (by decide) (by decide)) _
      have v37 : (mA 31 (va_up (s9.2 31) (p).toNat (0)) (mA 30 (va_up (s9.2 30) (p).toNat (hh - 1)) (mA 29 (va_up (s9.2 29) (p).toNat (0)) (mA 27 (va_up (s9.2 27) (p).toNat (min ((s9.2 27) (p).toNat) (ww - 1))) (mA 26 (va_up (s9.2 26) (p).toNat (min ((s9.2 26) (p).toNat) (hh - 1))) (mA 24 (va_up (s9.2 24) (p).toNat (min ((s9.2 24) (p).toNat) (ww - 1))) (mA 23 (va_up (s9.2 23) (p).toNat (min ((s9.2 23) (p).toNat) (hh - 1))) s9))))))).2 37 p.toNat = s.2 37 p.toNat := congrFun (hE9.2 37 (by decide) (by decide)) _
      have v38 : (mA 31 (va_up (s9.2 31) (p).toNat (0)) (mA 30 (va_up (s9.2 30) (p).toNat (hh - 1)) (mA 29 (va_up (s9.2 29) (p).toNat (0)) (mA 27 (va_up (s9.2 27) (p).toNat (min ((s9.2 27) (p).toNat) (ww - 1))) (mA 26 (va_up (s9.2 26) (p).toNat (min ((s9.2 26) (p).toNat) (hh - 1))) (mA 24 (va_up (s9.2 24) (p).toNat (min ((s9.2 24) (p).toNat) (ww - 1))) (mA 23 (va_up (s9.2 23) (p).toNat (min ((s9.2 23) (p).toNat) (hh - 1))) s9))))))).2 38 p.toNat = s.2 38 p.toNat := congrFun (hE9.2 38 (by decide) (by decide)) _
      have v39 : (mA 31 (va_up (s9.2 31) (p).toNat (0)) (mA 30 (va_up (s9.2 30) (p).toNat (hh - 1)) (mA 29 (va_up (s9.2 29) (p).toNat (0)) (mA 27 (va_up (s9.2 27) (p).toNat (min ((s9.2 27) (p).toNat) (ww - 1))) (mA 26 (va_up (s9.2 26) (p).toNat (min ((s9.2 26) (p).toNat) (hh - 1))) (mA 24 (va_up (s9.2 24) (p).toNat (min ((s9.2 24) (p).toNat) (ww - 1))) (mA 23 (va_up (s9.2 23) (p).toNat (min ((s9.2 23) (p).toNat) (hh - 1))) s9))))))).2 39 p.toNat = s.2 39 p.toNat := congrFun (hE9.2 39 (by decide) (by decide)) _
      have v42 : (mA 31 (va_up (s9.2 31) (p).toNat (0)) (mA 30 (va_up (s9.2 30) (p).toNat (hh - 1)) (mA 29 (va_up (s9.2 29) (p).toNat (0)) (mA 27 (va_up (s9.2 27) (p).toNat (min ((s9.2 27) (p).toNat) (ww - 1))) (mA 26 (va_up (s9.2 26) (p).toNat (min ((s9.2 26) (p).toNat) (hh - 1))) (mA 24 (va_up (s9.2 24) (p).toNat (min ((s9.2 24) (p).toNat) (ww - 1))) (mA 23 (va_up (s9.2 23) (p).toNat (min ((s9.2 23) (p).toNat) (hh - 1))) s9))))))).2 42 p.toNat = s.2 42 p.toNat := congrFun (hE9.2 42 (by decide) (by decide)) _
      have v43 : (mA 31 (va_up (s9.2 31) (p).toNat (0)) (mA 30 (va_up (s9.2 30) (p).toNat (hh - 1)) (mA 29 (va_up (s9.2 29) (p).toNat (0)) (mA 27 (va_up (s9.2 27) (p).toNat (min ((s9.2 27) (p).toNat) (ww - 1))) (mA 26 (va_up (s9.2 26) (p).toNat (min ((s9.2 26) (p).toNat) (hh - 1))) (mA 24 (va_up (s9.2 24) (p).toNat (min ((s9.2 24) (p).toNat) (ww - 1))) (mA 23 (va_up (s9.2 23) (p).toNat (min ((s9.2 23) (p).toNat) (hh - 1))) s9))))))).2 43 p.toNat = s.2 43 p.toNat := congrFun (hE9.2 43 (by decide) (by decide)) _
      have v44 : (mA 31 (va_up (s9.2 31) (p).toNat (0)) (mA 30 (va_up (s9.2 30) (p).toNat (hh - 1)) (mA 29 (va_up (s9.2 29) (p).toNat (0)) (mA 27 (va_up (s9.2 27) (p).toNat (min ((s9.2 27) (p).toNat) (ww - 1))) (mA 26 (va_up (s9.2 26) (p).toNat (min ((s9.2 26) (p).toNat) (hh - 1))) (mA 24 (va_up (s9.2 24) (p).toNat (min ((s9.2 24) (p).toNat) (ww - 1))) (mA 23 (va_up (s9.2 23) (p).toNat (min ((s9.2 23) (p).toNat) (hh - 1))) s9))))))).2 44 p.toNat = s.2 44 p.toNat := congrFun (hE9.2 44 (by decide) (by decide)) _
      have v45 : (mA 31 (va_up (s9.2 31) (p).toNat (0)) (mA 30 (va_up (s9.2 30) (p).toNat (hh - 1)) (mA 29 (va_up (s9.2 29) (p).toNat (0)) (mA 27 (va_up (s9.2 27) (p).toNat (min ((s9.2 27) (p).toNat) (ww - 1))) (mA 26 (va_up (s9.2 26) (p).toNat (min ((s9.2 26) (p).toNat) (hh - 1))) (mA 24 (va_up (s9.2 24) (p).toNat (min ((s9.2 24) (p).toNat) (ww - 1))) (mA 23 (va_up (s9.2 23) (p).toNat (min ((s9.2 23) (p).toNat) (hh - 1))) s9))))))).2 45 p.toNat = s.2 45 p.toNat := congrFun (hE9.2 45 (by decide) (by decide)) _
      have hk8 : mPk (mA 31 (va_up (s9.2 31) (p).toNat (0)) (mA 30 (va_up (s9.2 30) (p).toNat (hh - 1)) (mA 29 (va_up (s9.2 29) (p).toNat (0)) (mA 27 (va_up (s9.2 27) (p).toNat (min ((s9.2 27) (p).toNat) (ww - 1))) (mA 26 (va_up (s9.2 26) (p).toNat (min ((s9.2 26) (p).toNat) (hh - 1))) (mA 24 (va_up (s9.2 24) (p).toNat (min ((s9.2 24) (p).toNat) (ww - 1))) (mA 23 (va_up (s9.2 23) (p).toNat (min ((s9.2 23) (p).toNat) (hh - 1))) s9))))))) p.toNat := by
        unfold mPk
        rw [(show (mA 31 (va_up (s9.2 31) (p).toNat (0)) (mA 30 (va_up (s9.2 30) (p).toNat (hh - 1)) (mA 29 (va_up (s9.2 29) (p).toNat (0)) (mA 27 (va_up (s9.2 27) (p).toNat (min ((s9.2 27) (p).toNat) (ww - 1))) (mA 26 (va_up (s9.2 26) (p).toNat (min ((s9.2 26) (p).toNat) (hh - 1))) (mA 24 (va_up (s9.2 24) (p).toNat (min ((s9.2 24) (p).toNat) (ww - 1))) (mA 23 (va_up (s9.2 23) (p).toNat (min ((s9.2 23) (p).toNat) (hh - 1))) s9))))))).2 18 p.toNat = _ from v18), (show (mA 31 (va_up (s9.2 31) (p).toNat (0)) (mA 30 (va_up (s9.2 30) (p).toNat (hh - 1)) (mA 29 (va_up (s9.2 29) (p).toNat (0)) (mA 27 (va_up (s9.2 27) (p).toNat (min ((s9.2 27) (p).toNat) (ww - 1))) (mA 26 (va_up (s9.2 26) (p).toNat (min ((s9.2 26) (p).toNat) (hh - 1))) (mA 24 (va_up (s9.2 24) (p).toNat (min ((s9.2 24) (p).toNat) (ww - 1))) (mA 23 (va_up (s9.2 23) (p).toNat (min ((s9.2 23) (p).toNat) (hh - 1))) s9))))))).2 19 p.toNat = _ from v19), v22, v23, v24, v26, v27, v29, v30, v31, v32, v33, v34, v35, v37, v38, v39, v42, v43, v44, v45]
        exact ⟨by omega, by omega, by omega, by omega, by omega, by omega, by omega, by omega, by omega, by omega, by omega, by omega, by omega, (fun j hj => by rw [show (mA 31 (va_up (s9.2 31) (p).toNat (0)) (mA 30 (va_up (s9.2 30) (p).toNat (hh - 1)) (mA 29 (va_up (s9.2 29) (p).toNat (0)) (mA 27 (va_up (s9.2 27) (p).toNat (min ((s9.2 27) (p).toNat) (ww - 1))) (mA 26 (va_up (s9.2 26) (p).toNat (min ((s9.2 26) (p).toNat) (hh - 1))) (mA 24 (va_up (s9.2 24) (p).toNat (min ((s9.2 24) (p).toNat) (ww - 1))) (mA 23 (va_up (s9.2 23) (p).toNat (min ((s9.2 23) (p).toNat) (hh - 1))) s9))))))).2 36 (4 * p.toNat + j) = s.2 36 (4 * p.toNat + j) from congrFun (hE9.2 36 (by decide) (by decide)) _]; exact knu j hj), by omega, by omega, by omega, by omega, by omega, by omega, by omega⟩
      exact pw_vret dX10_resize_204 rfl (nle rfl) (nle rfl) ⟨rfl, (mA 31 (va_up (s9.2 31) (p).toNat (0)) (mA 30 (va_up (s9.2 30) (p).toNat (hh - 1)) (mA 29 (va_up (s9.2 29) (p).toNat (0)) (mA 27 (va_up (s9.2 27) (p).toNat (min ((s9.2 27) (p).toNat) (ww - 1))) (mA 26 (va_up (s9.2 26) (p).toNat (min ((s9.2 26) (p).toNat) (hh - 1))) (mA 24 (va_up (s9.2 24) (p).toNat (min ((s9.2 24) (p).toNat) (ww - 1))) (mA 23 (va_up (s9.2 23) (p).toNat (min ((s9.2 23) (p).toNat) (hh - 1))) s9))))))), hA27, hq8, hk8, ⟨v18, v19⟩, hF27, rfl⟩
    ·
      exact pw_vret dX10_resize_20 rfl (nle rfl) (nle rfl) ⟨rfl, s, hA, mPq_rf, hk, ⟨by omega, by omega⟩, mFr_rf, rfl⟩
