def YX10_put : pw_Y := (RX10, "put", cX10_put, 2, none)
theorem ywX10_put : pw_y yX10_put YX10_put 1 := ⟨by decide +kernel, by decide +kernel, by decide +kernel, pw_in 1719 (by decide +kernel) (by decide +kernel), pw_in 106 (by decide +kernel) (by decide +kernel)⟩
def YX10_number : pw_Y := (RX10, "number", cX10_number, 2, none)
theorem ywX10_number : pw_y yX10_number YX10_number 1 := ⟨by decide +kernel, by decide +kernel, by decide +kernel, pw_in 1723 (by decide +kernel) (by decide +kernel), pw_in 106 (by decide +kernel) (by decide +kernel)⟩
theorem cwX10_337 : Cond.methodLink RX10 337 yX10_put ∈ pw_G ∧ Cond.instanceMethod yX10_put ∈ pw_G ∧ Cond.selects RX10 yX10_put yX10_put ∈ pw_G := ⟨pw_in 1716 (by decide +kernel) (by decide +kernel), pw_in 1718 (by decide +kernel) (by decide +kernel), pw_in 74 (by decide +kernel) (by decide +kernel)⟩
theorem cwX10_346 : Cond.methodLink RX10 346 yX10_number ∈ pw_G ∧ Cond.instanceMethod yX10_number ∈ pw_G ∧ Cond.selects RX10 yX10_number yX10_number ∈ pw_G := ⟨pw_in 1720 (by decide +kernel) (by decide +kernel), pw_in 1722 (by decide +kernel) (by decide +kernel), pw_in 75 (by decide +kernel) (by decide +kernel)⟩
def YX10_usePen : pw_Y := (RX10, "usePen", cX10_usePen, 4, none)
theorem ywX10_usePen : pw_y yX10_usePen YX10_usePen 1 := ⟨by decide +kernel, by decide +kernel, by decide +kernel, pw_in 1727 (by decide +kernel) (by decide +kernel), pw_in 106 (by decide +kernel) (by decide +kernel)⟩
theorem lkX10_349 : Cond.fieldLink RX10 349 (TX10 56).1 (TX10 56).2.1 (TX10 56).2.2.1 ∈ pw_G := pw_in 1386 (by decide +kernel) (by decide +kernel)
/-! ===== the reference's redraw and select in general ===== -/
/-- at most d bytes have gone out -/
def mOu (d : Int) (s s1 : mS) : Prop := (∀ k, k ≠ 58 → s1.2 k = s.2 k) ∧ (∀ k, k ≠ 57 → s1.1 k = s.1 k) ∧ s.1 57 ≤ s1.1 57 ∧ s1.1 57 ≤ s.1 57 + d
theorem mOu_rf {s : mS} : mOu 0 s s := ⟨fun _ _ => rfl, fun _ _ => rfl, Int.le_refl _, by omega⟩
theorem mOu_tr {a b : Int} {s s1 s2 : mS} (x : mOu a s s1) (y : mOu b s1 s2) : mOu (a + b) s s2 := ⟨fun k hk => (y.1 k hk).trans (x.1 k hk), fun k hk => (y.2.1 k hk).trans (x.2.1 k hk), Int.le_trans x.2.2.1 y.2.2.1, by have := x.2.2.2; have := y.2.2.2; omega⟩
theorem mOu_mo {a b : Int} {s s1 : mS} (x : mOu a s s1) (h : a ≤ b) : mOu b s s1 := ⟨x.1, x.2.1, x.2.2.1, by have := x.2.2.2; omega⟩
/-- the outer screen alone has changed; at most d bytes have gone out -/
def mRd (d : Int) (s s1 : mS) : Prop := (∀ k, k ≠ 51 → k ≠ 52 → k ≠ 58 → s1.2 k = s.2 k) ∧ (∀ k, k < 53 ∨ 57 < k → s1.1 k = s.1 k) ∧ (-1 ≤ s1.1 53 ∧ s1.1 53 ≤ 100) ∧ (0 ≤ s1.1 54 ∧ s1.1 54 ≤ 100) ∧ (0 ≤ s1.1 55 ∧ s1.1 55 ≤ 1) ∧ (-2147483648 ≤ s1.1 56 ∧ s1.1 56 < 2147483648) ∧ s.1 57 ≤ s1.1 57 ∧ s1.1 57 ≤ s.1 57 + d
theorem mRd_tr {a b : Int} {s s1 s2 : mS} (x : mRd a s s1) (y : mRd b s1 s2) : mRd (a + b) s s2 := ⟨fun k h1 h2 h3 => (y.1 k h1 h2 h3).trans (x.1 k h1 h2 h3), fun k hk => (y.2.1 k hk).trans (x.2.1 k hk), y.2.2.1, y.2.2.2.1, y.2.2.2.2.1, y.2.2.2.2.2.1, Int.le_trans x.2.2.2.2.2.2.1 y.2.2.2.2.2.2.1, by have := x.2.2.2.2.2.2.2; have := y.2.2.2.2.2.2.2; omega⟩
theorem mRd_mo {a b : Int} {s s1 : mS} (x : mRd a s s1) (h : a ≤ b) : mRd b s s1 := ⟨x.1, x.2.1, x.2.2.1, x.2.2.2.1, x.2.2.2.2.1, x.2.2.2.2.2.1, x.2.2.2.2.2.2.1, by have := x.2.2.2.2.2.2.2; omega⟩
theorem mRd_ou {a b : Int} {s s1 s2 : mS} (x : mRd a s s1) (y : mOu b s1 s2) : mRd (a + b) s s2 := by
  refine mRd_tr x ⟨fun k _ _ h3 => y.1 k h3, fun k hk => y.2.1 k (by omega), ?_, ?_, ?_, ?_, y.2.2.1, y.2.2.2⟩
  · rw [y.2.1 53 (by decide)]; exact x.2.2.1
  · rw [y.2.1 54 (by decide)]; exact x.2.2.2.1
  · rw [y.2.1 55 (by decide)]; exact x.2.2.2.2.1
  · rw [y.2.1 56 (by decide)]; exact x.2.2.2.2.2.1
theorem mRd_rV {W H d : Int} {t : aT} {s s1 : mS} (x : mRd d s s1) (hV : rV W H t s) (hd : s1.1 57 ≤ 24000) : rV W H t s1 := by
  obtain ⟨⟨v1, v2⟩, ⟨v47, m47⟩, v48, v49, v53, v54, v55, v56, v57⟩ := hV
  unfold rV
  rw [x.2.1 1 (by decide), x.2.1 2 (by decide), x.2.1 47 (by decide), x.2.1 48 (by decide), x.2.1 49 (by decide)]
  have := x.2.2.2.2.2.2.1
  exact ⟨⟨v1, v2⟩, ⟨v47, m47⟩, v48, v49, x.2.2.1, x.2.2.2.1, x.2.2.2.2.1, x.2.2.2.2.2.1, by omega, hd⟩
theorem mRd_rH {W H M d : Int} {t : aT} {s s1 : mS} (x : mRd d s s1) (hH : rH W H M t s) (hd : s1.1 57 ≤ 24000) : rH W H M t s1 :=
  rH_same hH (fun k hk => x.1 k (by omega) (by omega) (by omega)) (mRd_rV x hH.2.2.1 hd)
theorem mRd_rf {W H M : Int} {t : aT} {s : mS} (hH : rH W H M t s) : mRd 0 s s := by
  obtain ⟨v1, v2, v48, v49, v53, v54, v55, v56, v57⟩ := hH.2.2.1
  exact ⟨fun _ _ _ _ => rfl, fun _ _ => rfl, v53, v54, v55, v56, Int.le_refl _, by omega⟩
/-- what is copied alone has changed -/
def mCp (s s1 : mS) : Prop := (∀ k, k ≠ 50 → s1.2 k = s.2 k) ∧ (∀ k, k ≠ 49 → s1.1 k = s.1 k) ∧ (0 ≤ s1.1 49 ∧ s1.1 49 ≤ 400)
theorem mCp_1 {s s1 : mS} {b : Int} (x : mCp s s1) : mCp s (mC1 b s1) := by
  unfold mC1
  split
  · next c =>
    refine ⟨fun k hk => (show va_up s1.2 50 _ k = s.2 k by rw [va_up_ne _ _ hk]; exact x.1 k hk), fun k hk => (show va_up s1.1 49 _ k = s.1 k by rw [va_up_ne _ _ hk]; exact x.2.1 k hk), ?_⟩
    show 0 ≤ s1.1 49 + 1 ∧ s1.1 49 + 1 ≤ 400
    have := x.2.2
    omega
  · exact x
theorem mCp_rH {W H M : Int} {t : aT} {s s1 : mS} (x : mCp s s1) (hH : rH W H M t s) : rH W H M t s1 := by
  refine rH_same hH (fun k hk => x.1 k (by omega)) ?_
  obtain ⟨⟨v1, v2⟩, ⟨v47, m47⟩, v48, v49, v53, v54, v55, v56, v57⟩ := hH.2.2.1
  unfold rV
  rw [x.2.1 1 (by decide), x.2.1 2 (by decide), x.2.1 47 (by decide), x.2.1 48 (by decide), x.2.1 53 (by decide), x.2.1 54 (by decide), x.2.1 55 (by decide), x.2.1 56 (by decide), x.2.1 57 (by decide)]
  exact ⟨⟨v1, v2⟩, ⟨v47, m47⟩, v48, x.2.2, v53, v54, v55, v56, v57⟩
set_option maxHeartbeats 1000000 in
set_option maxRecDepth 100000 in
/-- put(b) -/
theorem nG_put {E : pw_E} (htr : E.1.stackTraces = false) {h : pz_H} {n : Nat} {B : Nat} {s : mS} (hA : mAt B s h) {b : Int}  (ho : 0 ≤ s.1 57 ∧ s.1 57 < 24000) : pw_M E yX10_put YX10_put (rmD 0 0 0) [.ref B, .int (zI (b))] h n (fun r0 h' n' => r0 = none ∧ ∃ s', mAt B s' h' ∧ mOu 1 s s' ∧ mFr B h h' ∧ n' = n) (fun _ _ _ => False) := by
  refine pw_M_of (lv := [some (.ref B), some (.int (zI (b)))]) (by decide) rfl rfl htr (nle rfl) rfl (fun L => ?_)
  refine pw_aload_n dX10_put_0 rfl ?_
  refine pw_get (v := .ref (B + 47)) okX10 (k := 58) (by decide) lkX10_153 hA.1 rfl dX10_put_1 ?_
  refine pw_aload_n dX10_put_4 rfl ?_
  refine pw_get (v := .int (zI (s.1 57))) okX10 (k := 57) (by decide) lkX10_334 hA.1 rfl dX10_put_5 ?_
  refine pw_iload_n dX10_put_8 rfl ?_
  refine pw_iast (g := (s.2 58)) (t := 0) rfl (mF58 (s := s) hA) (by omega) (by decide) dX10_put_9 ?_
  have hA1 : mAt B (mA 58 (va_up (s.2 58) (s.1 57).toNat (b)) s) (va_up h (B + 47) (pz_z 0 24000 (va_up (s.2 58) (s.1 57).toNat (b)))) := mU58 hA
  have hF1 : mFr B h (va_up h (B + 47) (pz_z 0 24000 (va_up (s.2 58) (s.1 57).toNat (b)))) := mFr_tr mFr_rf (mFr_up (by decide))
  revert hA1 hF1
  generalize (va_up h (B + 47) (pz_z 0 24000 (va_up (s.2 58) (s.1 57).toNat (b)))) = h1
  intro hA1 hF1
  refine pw_aload_n dX10_put_10 rfl ?_
  refine pw_dup dX10_put_11 rfl ?_
  refine pw_get (v := .int (zI (s.1 57))) okX10 (k := 57) (by decide) lkX10_334 hA1.1 rfl dX10_put_12 ?_
  refine pw_iconst (v := zI (1)) dX10_put_15 (by decide) ?_
  refine pw_ziadd dX10_put_16 ?_
  refine pw_put (fs' := (moL B (va_up (mA 58 (va_up (s.2 58) (s.1 57).toNat (b)) s).1 57 ((s.1 57) + (1))))) okX10 (k := 57) (by decide) lkX10_334 rfl rfl rfl hA1.1 (nlt rfl) rfl dX10_put_17 ?_
  have hA2 : mAt B (mV 57 ((s.1 57) + (1)) (mA 58 (va_up (s.2 58) (s.1 57).toNat (b)) s)) (va_up h1 B (pz_o 13 (moL B (va_up (mA 58 (va_up (s.2 58) (s.1 57).toNat (b)) s).1 57 ((s.1 57) + (1)))))) := mAt_V hA1
  have hF2 : mFr B h (va_up h1 B (pz_o 13 (moL B (va_up (mA 58 (va_up (s.2 58) (s.1 57).toNat (b)) s).1 57 ((s.1 57) + (1)))))) := mFr_tr hF1 (mFr_up (k := 0) (by decide))
  revert hA2 hF2
  generalize (va_up h1 B (pz_o 13 (moL B (va_up (mA 58 (va_up (s.2 58) (s.1 57).toNat (b)) s).1 57 ((s.1 57) + (1)))))) = h2
  intro hA2 hF2
  exact pw_vret dX10_put_20 rfl (nle rfl) (nle rfl) ⟨rfl, (mV 57 ((s.1 57) + (1)) (mA 58 (va_up (s.2 58) (s.1 57).toNat (b)) s)), hA2, ⟨fun k hk => va_up_ne _ _ hk, fun k hk => va_up_ne _ _ hk, (show s.1 57 ≤ s.1 57 + 1 by omega), (show s.1 57 + 1 ≤ s.1 57 + 1 by omega)⟩, hF2, rfl⟩
set_option maxHeartbeats 1000000 in
set_option maxRecDepth 100000 in
/-- number(v) -/
theorem nG_number {E : pw_E} (htr : E.1.stackTraces = false) {h : pz_H} {n : Nat} {B : Nat} {s : mS} (hA : mAt B s h) {v : Int}  (ho : 0 ≤ s.1 57 ∧ s.1 57 < 23990) (hv : 0 ≤ v ∧ v ≤ 1000) : pw_M E yX10_number YX10_number (rmD 1 0 0) [.ref B, .int (zI (v))] h n (fun r0 h' n' => r0 = none ∧ ∃ s', mAt B s' h' ∧ mOu 2 s s' ∧ mFr B h h' ∧ n' = n) (fun _ _ _ => False) := by
  refine pw_M_of (lv := [some (.ref B), some (.int (zI (v)))]) (by decide) rfl rfl htr (nle rfl) rfl (fun L => ?_)
  refine pw_iload_n dX10_number_0 rfl ?_
  refine pw_bipush (v := zI (9)) dX10_number_1 (by decide) ?_
  refine pw_icmp_le (tgt := 17) dX10_number_3 rfl (by omega) (by omega) (fun c3 => ?_) (fun c3 => ?_)
  ·
    refine pw_aload_n dX10_number_17 rfl ?_
    refine pw_bipush (v := zI (48)) dX10_number_18 (by decide) ?_
    refine pw_iload_n dX10_number_20 rfl ?_
    refine pw_bipush (v := zI (10)) dX10_number_21 (by decide) ?_
    refine pw_zirem dX10_number_23 (by omega) (by omega) ?_
    refine pw_ziadd dX10_number_24 ?_
    refine pw_callV (As := [.int (zI ((48) + ((v) % (10))))]) (b := B) (rm := rmD 0 0 0) (nG_put htr hA (by omega)) rfl hA.1 rfl rfl ywX10_put rfl cwX10_337 ⟨nle rfl, nle rfl⟩ (nle rfl) ⟨nle rfl, nle rfl⟩ dX10_number_25 ?_ (fun _ _ _ z => z.elim)
    intro r_9 h1 n_9 hq9 _
    obtain ⟨e1_, s1, hA1, hO1_, hF10, e4_⟩ := hq9
    rw [e1_, e4_]
    show pw E YX10_number _ _ 0 0 28 [some (.ref B), some (.int (zI (v)))] [] h1 n
    clear e1_ e4_
    have hF1 := mFr_tr mFr_rf hF10
    have hO1 := mOu_tr mOu_rf hO1_
    have hB1 := hO1.2.2
    clear hO1_ hF10
    exact pw_vret dX10_number_28 rfl (nle rfl) (nle rfl) ⟨rfl, s1, hA1, mOu_mo hO1 (by omega), hF1, rfl⟩
  ·
    refine pw_aload_n dX10_number_6 rfl ?_
    refine pw_bipush (v := zI (48)) dX10_number_7 (by decide) ?_
    refine pw_iload_n dX10_number_9 rfl ?_
    refine pw_bipush (v := zI (10)) dX10_number_10 (by decide) ?_
    refine pw_zidiv dX10_number_12 (by omega) (by omega) ?_
    refine pw_ziadd dX10_number_13 ?_
    refine pw_callV (As := [.int (zI ((48) + ((v) / (10))))]) (b := B) (rm := rmD 0 0 0) (nG_put htr hA (by omega)) rfl hA.1 rfl rfl ywX10_put rfl cwX10_337 ⟨nle rfl, nle rfl⟩ (nle rfl) ⟨nle rfl, nle rfl⟩ dX10_number_14 ?_ (fun _ _ _ z => z.elim)
    intro r_9 h2 n_9 hq9 _
    obtain ⟨e1_, s2, hA2, hO2_, hF20, e4_⟩ := hq9
    rw [e1_, e4_]
    show pw E YX10_number _ _ 0 0 17 [some (.ref B), some (.int (zI (v)))] [] h2 n
    clear e1_ e4_
    have hF2 := mFr_tr mFr_rf hF20
    have hO2 := mOu_tr mOu_rf hO2_
    have hB2 := hO2.2.2
    clear hO2_ hF20
    refine pw_aload_n dX10_number_17 rfl ?_
    refine pw_bipush (v := zI (48)) dX10_number_18 (by decide) ?_
    refine pw_iload_n dX10_number_20 rfl ?_
    refine pw_bipush (v := zI (10)) dX10_number_21 (by decide) ?_
    refine pw_zirem dX10_number_23 (by omega) (by omega) ?_
    refine pw_ziadd dX10_number_24 ?_
    refine pw_callV (As := [.int (zI ((48) + ((v) % (10))))]) (b := B) (rm := rmD 0 0 0) (nG_put htr hA2 (by omega)) rfl hA2.1 rfl rfl ywX10_put rfl cwX10_337 ⟨nle rfl, nle rfl⟩ (nle rfl) ⟨nle rfl, nle rfl⟩ dX10_number_25 ?_ (fun _ _ _ z => z.elim)
    intro r_9 h3 n_9 hq9 _
    obtain ⟨e1_, s3, hA3, hO3_, hF30, e4_⟩ := hq9
    rw [e1_, e4_]
    show pw E YX10_number _ _ 0 0 28 [some (.ref B), some (.int (zI (v)))] [] h3 n
    clear e1_ e4_
    have hF3 := mFr_tr hF2 hF30
    have hO3 := mOu_tr hO2 hO3_
    have hB3 := hO3.2.2
    clear hO3_ hF30
    exact pw_vret dX10_number_28 rfl (nle rfl) (nle rfl) ⟨rfl, s3, hA3, mOu_mo hO3 (by omega), hF3, rfl⟩
set_option maxHeartbeats 1000000 in
set_option maxRecDepth 100000 in
/-- goTo(x, y) -/
theorem nG_goTo {E : pw_E} (htr : E.1.stackTraces = false) {h : pz_H} {n : Nat} {B : Nat} {s : mS} (hA : mAt B s h) {x y : Int}  (hR : mRd 0 s s) (ho : 0 ≤ s.1 57 ∧ s.1 57 < 23900) (hx : 0 ≤ x ∧ x ≤ 100) (hy : 0 ≤ y ∧ y ≤ 100) : pw_M E yX10_goTo YX10_goTo (rmD 2 0 0) [.ref B, .int (zI (x)), .int (zI (y))] h n (fun r0 h' n' => r0 = none ∧ ∃ s', mAt B s' h' ∧ mRd 8 s s' ∧ mFr B h h' ∧ n' = n) (fun _ _ _ => False) := by
  obtain ⟨-, -, v53, v54, v55, v56, -, -⟩ := id hR
  refine pw_M_of (lv := [some (.ref B), some (.int (zI (x))), some (.int (zI (y)))]) (by decide) rfl rfl htr (nle rfl) rfl (fun L => ?_)
  refine pw_aload_n dX10_goTo_0 rfl ?_
  refine pw_get (v := .int (zI (s.1 53))) okX10 (k := 53) (by decide) lkX10_340 hA.1 rfl dX10_goTo_1 ?_
  refine pw_iload_n dX10_goTo_4 rfl ?_
  refine pw_icmp_ne (tgt := 16) dX10_goTo_5 rfl (by omega) (by omega) (fun c5 => ?_) (fun c5 => ?_)
  ·
    refine pw_aload_n dX10_goTo_16 rfl ?_
    refine pw_bipush (v := zI (27)) dX10_goTo_17 (by decide) ?_
    refine pw_callV (As := [.int (zI (27))]) (b := B) (rm := rmD 0 0 0) (nG_put htr hA (by omega)) rfl hA.1 rfl rfl ywX10_put rfl cwX10_337 ⟨nle rfl, nle rfl⟩ (nle rfl) ⟨nle rfl, nle rfl⟩ dX10_goTo_19 ?_ (fun _ _ _ z => z.elim)
    intro r_9 h1 n_9 hq9 _
    obtain ⟨e1_, s1, hA1, hO1_, hF10, e4_⟩ := hq9
    rw [e1_, e4_]
    show pw E YX10_goTo _ _ 0 0 22 [some (.ref B), some (.int (zI (x))), some (.int (zI (y)))] [] h1 n
    clear e1_ e4_
    have hF1 := mFr_tr mFr_rf hF10
    have hO1 := mOu_tr mOu_rf hO1_
    have hB1 := hO1.2.2
    clear hO1_ hF10
    refine pw_aload_n dX10_goTo_22 rfl ?_
    refine pw_bipush (v := zI (91)) dX10_goTo_23 (by decide) ?_
    refine pw_callV (As := [.int (zI (91))]) (b := B) (rm := rmD 0 0 0) (nG_put htr hA1 (by omega)) rfl hA1.1 rfl rfl ywX10_put rfl cwX10_337 ⟨nle rfl, nle rfl⟩ (nle rfl) ⟨nle rfl, nle rfl⟩ dX10_goTo_25 ?_ (fun _ _ _ z => z.elim)
    intro r_9 h2 n_9 hq9 _
    obtain ⟨e1_, s2, hA2, hO2_, hF20, e4_⟩ := hq9
    rw [e1_, e4_]
    show pw E YX10_goTo _ _ 0 0 28 [some (.ref B), some (.int (zI (x))), some (.int (zI (y)))] [] h2 n
    clear e1_ e4_
    have hF2 := mFr_tr hF1 hF20
    have hO2 := mOu_tr hO1 hO2_
    have hB2 := hO2.2.2
    clear hO2_ hF20
    refine pw_aload_n dX10_goTo_28 rfl ?_
    refine pw_iload_n dX10_goTo_29 rfl ?_
    refine pw_iconst (v := zI (1)) dX10_goTo_30 (by decide) ?_
    refine pw_ziadd dX10_goTo_31 ?_
    refine pw_callV (As := [.int (zI (y + 1))]) (b := B) (rm := rmD 1 0 0) (nG_number htr hA2 (by omega) (by omega)) rfl hA2.1 rfl rfl ywX10_number rfl cwX10_346 ⟨nle rfl, nle rfl⟩ (nle rfl) ⟨nle rfl, nle rfl⟩ dX10_goTo_32 ?_ (fun _ _ _ z => z.elim)
    intro r_9 h3 n_9 hq9 _
    obtain ⟨e1_, s3, hA3, hO3_, hF30, e4_⟩ := hq9
    rw [e1_, e4_]
    show pw E YX10_goTo _ _ 0 0 35 [some (.ref B), some (.int (zI (x))), some (.int (zI (y)))] [] h3 n
    clear e1_ e4_
    have hF3 := mFr_tr hF2 hF30
    have hO3 := mOu_tr hO2 hO3_
    have hB3 := hO3.2.2
    clear hO3_ hF30
    refine pw_aload_n dX10_goTo_35 rfl ?_
    refine pw_bipush (v := zI (59)) dX10_goTo_36 (by decide) ?_
    refine pw_callV (As := [.int (zI (59))]) (b := B) (rm := rmD 0 0 0) (nG_put htr hA3 (by omega)) rfl hA3.1 rfl rfl ywX10_put rfl cwX10_337 ⟨nle rfl, nle rfl⟩ (nle rfl) ⟨nle rfl, nle rfl⟩ dX10_goTo_38 ?_ (fun _ _ _ z => z.elim)
    intro r_9 h4 n_9 hq9 _
    obtain ⟨e1_, s4, hA4, hO4_, hF40, e4_⟩ := hq9
    rw [e1_, e4_]
    show pw E YX10_goTo _ _ 0 0 41 [some (.ref B), some (.int (zI (x))), some (.int (zI (y)))] [] h4 n
    clear e1_ e4_
    have hF4 := mFr_tr hF3 hF40
    have hO4 := mOu_tr hO3 hO4_
    have hB4 := hO4.2.2
    clear hO4_ hF40
    refine pw_aload_n dX10_goTo_41 rfl ?_
    refine pw_iload_n dX10_goTo_42 rfl ?_
    refine pw_iconst (v := zI (1)) dX10_goTo_43 (by decide) ?_
    refine pw_ziadd dX10_goTo_44 ?_
    refine pw_callV (As := [.int (zI (x + 1))]) (b := B) (rm := rmD 1 0 0) (nG_number htr hA4 (by omega) (by omega)) rfl hA4.1 rfl rfl ywX10_number rfl cwX10_346 ⟨nle rfl, nle rfl⟩ (nle rfl) ⟨nle rfl, nle rfl⟩ dX10_goTo_45 ?_ (fun _ _ _ z => z.elim)
    intro r_9 h5 n_9 hq9 _
    obtain ⟨e1_, s5, hA5, hO5_, hF50, e4_⟩ := hq9
    rw [e1_, e4_]
    show pw E YX10_goTo _ _ 0 0 48 [some (.ref B), some (.int (zI (x))), some (.int (zI (y)))] [] h5 n
    clear e1_ e4_
    have hF5 := mFr_tr hF4 hF50
    have hO5 := mOu_tr hO4 hO5_
    have hB5 := hO5.2.2
    clear hO5_ hF50
    refine pw_aload_n dX10_goTo_48 rfl ?_
    refine pw_bipush (v := zI (72)) dX10_goTo_49 (by decide) ?_
    refine pw_callV (As := [.int (zI (72))]) (b := B) (rm := rmD 0 0 0) (nG_put htr hA5 (by omega)) rfl hA5.1 rfl rfl ywX10_put rfl cwX10_337 ⟨nle rfl, nle rfl⟩ (nle rfl) ⟨nle rfl, nle rfl⟩ dX10_goTo_51 ?_ (fun _ _ _ z => z.elim)
    intro r_9 h6 n_9 hq9 _
    obtain ⟨e1_, s6, hA6, hO6_, hF60, e4_⟩ := hq9
    rw [e1_, e4_]
    show pw E YX10_goTo _ _ 0 0 54 [some (.ref B), some (.int (zI (x))), some (.int (zI (y)))] [] h6 n
    clear e1_ e4_
    have hF6 := mFr_tr hF5 hF60
    have hO6 := mOu_tr hO5 hO6_
    have hB6 := hO6.2.2
    clear hO6_ hF60
    refine pw_aload_n dX10_goTo_54 rfl ?_
    refine pw_iload_n dX10_goTo_55 rfl ?_
    refine pw_put (fs' := (moL B (va_up s6.1 53 (x)))) okX10 (k := 53) (by decide) lkX10_340 rfl rfl rfl hA6.1 (nlt rfl) rfl dX10_goTo_56 ?_
    have hA7 : mAt B (mV 53 (x) s6) (va_up h6 B (pz_o 13 (moL B (va_up s6.1 53 (x))))) := mAt_V hA6
    have hF7 : mFr B h (va_up h6 B (pz_o 13 (moL B (va_up s6.1 53 (x))))) := mFr_tr hF6 (mFr_up (k := 0) (by decide))
    revert hA7 hF7
    generalize (va_up h6 B (pz_o 13 (moL B (va_up s6.1 53 (x))))) = h7
    intro hA7 hF7
    refine pw_aload_n dX10_goTo_59 rfl ?_
    refine pw_iload_n dX10_goTo_60 rfl ?_
    refine pw_put (fs' := (moL B (va_up (mV 53 (x) s6).1 54 (y)))) okX10 (k := 54) (by decide) lkX10_343 rfl rfl rfl hA7.1 (nlt rfl) rfl dX10_goTo_61 ?_
    have hA8 : mAt B (mV 54 (y) (mV 53 (x) s6)) (va_up h7 B (pz_o 13 (moL B (va_up (mV 53 (x) s6).1 54 (y))))) := mAt_V hA7
    have hF8 : mFr B h (va_up h7 B (pz_o 13 (moL B (va_up (mV 53 (x) s6).1 54 (y))))) := mFr_tr hF7 (mFr_up (k := 0) (by decide))
    revert hA8 hF8
    generalize (va_up h7 B (pz_o 13 (moL B (va_up (mV 53 (x) s6).1 54 (y))))) = h8
    intro hA8 hF8
    have hR2 := mRd_ou hR hO6
    exact pw_vret dX10_goTo_64 rfl (nle rfl) (nle rfl) ⟨rfl, (mV 54 (y) (mV 53 (x) s6)), hA8, ⟨hR2.1, fun k hk => (va_up_ne _ _ (by omega)).trans ((va_up_ne _ _ (by omega)).trans (hR2.2.1 k hk)), (show -1 ≤ x ∧ x ≤ 100 by omega), (show 0 ≤ y ∧ y ≤ 100 by omega), hR2.2.2.2.2.1, hR2.2.2.2.2.2.1, hR2.2.2.2.2.2.2.1, Int.le_trans hR2.2.2.2.2.2.2.2 (by omega)⟩, hF8, rfl⟩
  ·
    refine pw_aload_n dX10_goTo_8 rfl ?_
    refine pw_get (v := .int (zI (s.1 54))) okX10 (k := 54) (by decide) lkX10_343 hA.1 rfl dX10_goTo_9 ?_
    refine pw_iload_n dX10_goTo_12 rfl ?_
    refine pw_icmp_eq (tgt := 64) dX10_goTo_13 rfl (by omega) (by omega) (fun c13 => ?_) (fun c13 => ?_)
    ·
      exact pw_vret dX10_goTo_64 rfl (nle rfl) (nle rfl) ⟨rfl, s, hA, mRd_mo hR (by omega), mFr_rf, rfl⟩
    ·
      refine pw_aload_n dX10_goTo_16 rfl ?_
      refine pw_bipush (v := zI (27)) dX10_goTo_17 (by decide) ?_
      refine pw_callV (As := [.int (zI (27))]) (b := B) (rm := rmD 0 0 0) (nG_put htr hA (by omega)) rfl hA.1 rfl rfl ywX10_put rfl cwX10_337 ⟨nle rfl, nle rfl⟩ (nle rfl) ⟨nle rfl, nle rfl⟩ dX10_goTo_19 ?_ (fun _ _ _ z => z.elim)
      intro r_9 h9 n_9 hq9 _
      obtain ⟨e1_, s9, hA9, hO9_, hF90, e4_⟩ := hq9
      rw [e1_, e4_]
      show pw E YX10_goTo _ _ 0 0 22 [some (.ref B), some (.int (zI (x))), some (.int (zI (y)))] [] h9 n
      clear e1_ e4_
      have hF9 := mFr_tr mFr_rf hF90
      have hO9 := mOu_tr mOu_rf hO9_
      have hB9 := hO9.2.2
      clear hO9_ hF90
      refine pw_aload_n dX10_goTo_22 rfl ?_
      refine pw_bipush (v := zI (91)) dX10_goTo_23 (by decide) ?_
      refine pw_callV (As := [.int (zI (91))]) (b := B) (rm := rmD 0 0 0) (nG_put htr hA9 (by omega)) rfl hA9.1 rfl rfl ywX10_put rfl cwX10_337 ⟨nle rfl, nle rfl⟩ (nle rfl) ⟨nle rfl, nle rfl⟩ dX10_goTo_25 ?_ (fun _ _ _ z => z.elim)
      intro r_9 h10 n_9 hq9 _
      obtain ⟨e1_, s10, hA10, hO10_, hF100, e4_⟩ := hq9
      rw [e1_, e4_]
      show pw E YX10_goTo _ _ 0 0 28 [some (.ref B), some (.int (zI (x))), some (.int (zI (y)))] [] h10 n
      clear e1_ e4_
      have hF10 := mFr_tr hF9 hF100
      have hO10 := mOu_tr hO9 hO10_
      have hB10 := hO10.2.2
      clear hO10_ hF100
      refine pw_aload_n dX10_goTo_28 rfl ?_
      refine pw_iload_n dX10_goTo_29 rfl ?_
      refine pw_iconst (v := zI (1)) dX10_goTo_30 (by decide) ?_
      refine pw_ziadd dX10_goTo_31 ?_
      refine pw_callV (As := [.int (zI (y + 1))]) (b := B) (rm := rmD 1 0 0) (nG_number htr hA10 (by omega) (by omega)) rfl hA10.1 rfl rfl ywX10_number rfl cwX10_346 ⟨nle rfl, nle rfl⟩ (nle rfl) ⟨nle rfl, nle rfl⟩ dX10_goTo_32 ?_ (fun _ _ _ z => z.elim)
      intro r_9 h11 n_9 hq9 _
      obtain ⟨e1_, s11, hA11, hO11_, hF110, e4_⟩ := hq9
      rw [e1_, e4_]
      show pw E YX10_goTo _ _ 0 0 35 [some (.ref B), some (.int (zI (x))), some (.int (zI (y)))] [] h11 n
      clear e1_ e4_
      have hF11 := mFr_tr hF10 hF110
      have hO11 := mOu_tr hO10 hO11_
      have hB11 := hO11.2.2
      clear hO11_ hF110
      refine pw_aload_n dX10_goTo_35 rfl ?_
      refine pw_bipush (v := zI (59)) dX10_goTo_36 (by decide) ?_
      refine pw_callV (As := [.int (zI (59))]) (b := B) (rm := rmD 0 0 0) (nG_put htr hA11 (by omega)) rfl hA11.1 rfl rfl ywX10_put rfl cwX10_337 ⟨nle rfl, nle rfl⟩ (nle rfl) ⟨nle rfl, nle rfl⟩ dX10_goTo_38 ?_ (fun _ _ _ z => z.elim)
      intro r_9 h12 n_9 hq9 _
      obtain ⟨e1_, s12, hA12, hO12_, hF120, e4_⟩ := hq9
      rw [e1_, e4_]
      show pw E YX10_goTo _ _ 0 0 41 [some (.ref B), some (.int (zI (x))), some (.int (zI (y)))] [] h12 n
      clear e1_ e4_
      have hF12 := mFr_tr hF11 hF120
      have hO12 := mOu_tr hO11 hO12_
      have hB12 := hO12.2.2
      clear hO12_ hF120
      refine pw_aload_n dX10_goTo_41 rfl ?_
      refine pw_iload_n dX10_goTo_42 rfl ?_
      refine pw_iconst (v := zI (1)) dX10_goTo_43 (by decide) ?_
      refine pw_ziadd dX10_goTo_44 ?_
      refine pw_callV (As := [.int (zI (x + 1))]) (b := B) (rm := rmD 1 0 0) (nG_number htr hA12 (by omega) (by omega)) rfl hA12.1 rfl rfl ywX10_number rfl cwX10_346 ⟨nle rfl, nle rfl⟩ (nle rfl) ⟨nle rfl, nle rfl⟩ dX10_goTo_45 ?_ (fun _ _ _ z => z.elim)
      intro r_9 h13 n_9 hq9 _
      obtain ⟨e1_, s13, hA13, hO13_, hF130, e4_⟩ := hq9
      rw [e1_, e4_]
      show pw E YX10_goTo _ _ 0 0 48 [some (.ref B), some (.int (zI (x))), some (.int (zI (y)))] [] h13 n
      clear e1_ e4_
      have hF13 := mFr_tr hF12 hF130
      have hO13 := mOu_tr hO12 hO13_
      have hB13 := hO13.2.2
      clear hO13_ hF130
      refine pw_aload_n dX10_goTo_48 rfl ?_
      refine pw_bipush (v := zI (72)) dX10_goTo_49 (by decide) ?_
      refine pw_callV (As := [.int (zI (72))]) (b := B) (rm := rmD 0 0 0) (nG_put htr hA13 (by omega)) rfl hA13.1 rfl rfl ywX10_put rfl cwX10_337 ⟨nle rfl, nle rfl⟩ (nle rfl) ⟨nle rfl, nle rfl⟩ dX10_goTo_51 ?_ (fun _ _ _ z => z.elim)
      intro r_9 h14 n_9 hq9 _
      obtain ⟨e1_, s14, hA14, hO14_, hF140, e4_⟩ := hq9
      rw [e1_, e4_]
      show pw E YX10_goTo _ _ 0 0 54 [some (.ref B), some (.int (zI (x))), some (.int (zI (y)))] [] h14 n
      clear e1_ e4_
      have hF14 := mFr_tr hF13 hF140
      have hO14 := mOu_tr hO13 hO14_
      have hB14 := hO14.2.2
      clear hO14_ hF140
      refine pw_aload_n dX10_goTo_54 rfl ?_
      refine pw_iload_n dX10_goTo_55 rfl ?_
      refine pw_put (fs' := (moL B (va_up s14.1 53 (x)))) okX10 (k := 53) (by decide) lkX10_340 rfl rfl rfl hA14.1 (nlt rfl) rfl dX10_goTo_56 ?_
      have hA15 : mAt B (mV 53 (x) s14) (va_up h14 B (pz_o 13 (moL B (va_up s14.1 53 (x))))) := mAt_V hA14
      have hF15 : mFr B h (va_up h14 B (pz_o 13 (moL B (va_up s14.1 53 (x))))) := mFr_tr hF14 (mFr_up (k := 0) (by decide))
      revert hA15 hF15
      generalize (va_up h14 B (pz_o 13 (moL B (va_up s14.1 53 (x))))) = h15
      intro hA15 hF15
      refine pw_aload_n dX10_goTo_59 rfl ?_
      refine pw_iload_n dX10_goTo_60 rfl ?_
      refine pw_put (fs' := (moL B (va_up (mV 53 (x) s14).1 54 (y)))) okX10 (k := 54) (by decide) lkX10_343 rfl rfl rfl hA15.1 (nlt rfl) rfl dX10_goTo_61 ?_
      have hA16 : mAt B (mV 54 (y) (mV 53 (x) s14)) (va_up h15 B (pz_o 13 (moL B (va_up (mV 53 (x) s14).1 54 (y))))) := mAt_V hA15
      have hF16 : mFr B h (va_up h15 B (pz_o 13 (moL B (va_up (mV 53 (x) s14).1 54 (y))))) := mFr_tr hF15 (mFr_up (k := 0) (by decide))
      revert hA16 hF16
      generalize (va_up h15 B (pz_o 13 (moL B (va_up (mV 53 (x) s14).1 54 (y))))) = h16
      intro hA16 hF16
      have hR2 := mRd_ou hR hO14
      exact pw_vret dX10_goTo_64 rfl (nle rfl) (nle rfl) ⟨rfl, (mV 54 (y) (mV 53 (x) s14)), hA16, ⟨hR2.1, fun k hk => (va_up_ne _ _ (by omega)).trans ((va_up_ne _ _ (by omega)).trans (hR2.2.1 k hk)), (show -1 ≤ x ∧ x ≤ 100 by omega), (show 0 ≤ y ∧ y ≤ 100 by omega), hR2.2.2.2.2.1, hR2.2.2.2.2.2.1, hR2.2.2.2.2.2.2.1, Int.le_trans hR2.2.2.2.2.2.2.2 (by omega)⟩, hF16, rfl⟩
set_option maxHeartbeats 1000000 in
set_option maxRecDepth 100000 in
theorem lG_pen1 {E : pw_E} (htr : E.1.stackTraces = false) {Kk : pw_K} {h : pz_H} {n B : Nat} {s : mS} {a : Int} {q3 : Option Value} (ho : 0 ≤ s.1 57 ∧ s.1 57 < 23900) : ∀ (j : Nat) (k : Int) (s1 : mS) (h1 : pz_H), (3 - k).toNat = j → 0 ≤ k → k ≤ 3 → mAt B s1 h1 → mOu (3 + 2 * k) s s1 → mFr B h h1 → (∀ (k : Int) (s2 : mS) (h2 : pz_H), mAt B s2 h2 → mOu 9 s s2 → mFr B h h2 → pw E YX10_usePen (rmD 1 0 0) Kk 0 0 80 [some (.ref B), some (.int (zI a)), some (.int (zI k)), q3] [] h2 n) → pw E YX10_usePen (rmD 1 0 0) Kk 0 0 29 [some (.ref B), some (.int (zI a)), some (.int (zI k)), q3] [] h1 n := by
  intro j
  induction j with
  | zero =>
    intro k s1 h1 hj i1 i2 hA hO hF kk
    have hB := hO.2.2
    refine pw_iload_n dX10_usePen_29 rfl ?_
    refine pw_iconst (v := zI (3)) dX10_usePen_30 (by decide) ?_
    refine pw_icmp_ge (tgt := 80) dX10_usePen_31 rfl (by omega) (by omega) (fun c31 => ?_) (fun c31 => ?_)
    ·
      exact kk k s1 h1 hA (mOu_mo hO (by omega)) hF
    · exfalso; omega
  | succ j ih =>
    intro k s1 h1 hj i1 i2 hA hO hF kk
    have hB := hO.2.2
    refine pw_iload_n dX10_usePen_29 rfl ?_
    refine pw_iconst (v := zI (3)) dX10_usePen_30 (by decide) ?_
    refine pw_icmp_ge (tgt := 80) dX10_usePen_31 rfl (by omega) (by omega) (fun c31 => ?_) (fun c31 => ?_)
    · exfalso; omega
    ·
      refine pw_iload_n dX10_usePen_34 rfl ?_
      refine pw_iload_n dX10_usePen_35 rfl ?_
      refine pw_ishr dX10_usePen_36 ?_
      refine pw_iconst (v := zI (1)) dX10_usePen_37 (by decide) ?_
      refine pw_iand dX10_usePen_38 ?_
      refine pw_freshX (fun u2 hu2 => ?_)
      refine pw_iconst (v := zI (1)) dX10_usePen_39 (by decide) ?_
      refine pw_icmp_ne (tgt := 74) dX10_usePen_40 rfl (by omega) (by omega) (fun c40 => ?_) (fun c40 => ?_)
      ·
        refine pw_ziinc (lv' := [some (.ref B), some (.int (zI (a))), some (.int (zI (k + 1))), q3]) dX10_usePen_74 rfl (by decide) rfl rfl ?_
        refine pw_goto (tgt := 29) dX10_usePen_77 rfl ?_
        exact ih (k + 1) s1 h1 (by omega) (by omega) (by omega) hA (mOu_mo hO (by omega)) hF kk
      ·
        refine pw_aload_n dX10_usePen_43 rfl ?_
        refine pw_bipush (v := zI (59)) dX10_usePen_44 (by decide) ?_
        refine pw_callV (As := [.int (zI (59))]) (b := B) (rm := rmD 0 0 0) (nG_put htr hA (by omega)) rfl hA.1 rfl rfl ywX10_put rfl cwX10_337 ⟨nle rfl, nle rfl⟩ (nle rfl) ⟨nle rfl, nle rfl⟩ dX10_usePen_46 ?_ (fun _ _ _ z => z.elim)
        intro r_9 h3 n_9 hq9 _
        obtain ⟨e1_, s3, hA3, hO3_, hF30, e4_⟩ := hq9
        rw [e1_, e4_]
        show pw E YX10_usePen _ _ 0 0 49 [some (.ref B), some (.int (zI (a))), some (.int (zI (k))), q3] [] h3 n
        clear e1_ e4_
        have hF3 := mFr_tr hF hF30
        have hO3 := mOu_tr hO hO3_
        have hB3 := hO3.2.2
        clear hO3_ hF30
        refine pw_aload_n dX10_usePen_49 rfl ?_
        refine pw_iload_n dX10_usePen_50 rfl ?_
        refine pw_if_ne (tgt := 59) dX10_usePen_51 rfl (by omega) (fun c51 => ?_) (fun c51 => ?_)
        ·
          refine pw_iload_n dX10_usePen_59 rfl ?_
          refine pw_iconst (v := zI (1)) dX10_usePen_60 (by decide) ?_
          refine pw_icmp_ne (tgt := 69) dX10_usePen_61 rfl (by omega) (by omega) (fun c61 => ?_) (fun c61 => ?_)
          ·
            refine pw_bipush (v := zI (55)) dX10_usePen_69 (by decide) ?_
            refine pw_callV (As := [.int (zI (55))]) (b := B) (rm := rmD 0 0 0) (nG_put htr hA3 (by omega)) rfl hA3.1 rfl rfl ywX10_put rfl cwX10_337 ⟨nle rfl, nle rfl⟩ (nle rfl) ⟨nle rfl, nle rfl⟩ dX10_usePen_71 ?_ (fun _ _ _ z => z.elim)
            intro r_9 h4 n_9 hq9 _
            obtain ⟨e1_, s4, hA4, hO4_, hF40, e4_⟩ := hq9
            rw [e1_, e4_]
            show pw E YX10_usePen _ _ 0 0 74 [some (.ref B), some (.int (zI (a))), some (.int (zI (k))), q3] [] h4 n
            clear e1_ e4_
            have hF4 := mFr_tr hF3 hF40
            have hO4 := mOu_tr hO3 hO4_
            have hB4 := hO4.2.2
            clear hO4_ hF40
            refine pw_ziinc (lv' := [some (.ref B), some (.int (zI (a))), some (.int (zI (k + 1))), q3]) dX10_usePen_74 rfl (by decide) rfl rfl ?_
            refine pw_goto (tgt := 29) dX10_usePen_77 rfl ?_
            exact ih (k + 1) s4 h4 (by omega) (by omega) (by omega) hA4 (mOu_mo hO4 (by omega)) hF4 kk
          ·
            refine pw_bipush (v := zI (52)) dX10_usePen_64 (by decide) ?_
            refine pw_goto (tgt := 71) dX10_usePen_66 rfl ?_
            refine pw_callV (As := [.int (zI (52))]) (b := B) (rm := rmD 0 0 0) (nG_put htr hA3 (by omega)) rfl hA3.1 rfl rfl ywX10_put rfl cwX10_337 ⟨nle rfl, nle rfl⟩ (nle rfl) ⟨nle rfl, nle rfl⟩ dX10_usePen_71 ?_ (fun _ _ _ z => z.elim)
            intro r_9 h5 n_9 hq9 _
            obtain ⟨e1_, s5, hA5, hO5_, hF50, e4_⟩ := hq9
            rw [e1_, e4_]
            show pw E YX10_usePen _ _ 0 0 74 [some (.ref B), some (.int (zI (a))), some (.int (zI (k))), q3] [] h5 n
            clear e1_ e4_
            have hF5 := mFr_tr hF3 hF50
            have hO5 := mOu_tr hO3 hO5_
            have hB5 := hO5.2.2
            clear hO5_ hF50
            refine pw_ziinc (lv' := [some (.ref B), some (.int (zI (a))), some (.int (zI (k + 1))), q3]) dX10_usePen_74 rfl (by decide) rfl rfl ?_
            refine pw_goto (tgt := 29) dX10_usePen_77 rfl ?_
            exact ih (k + 1) s5 h5 (by omega) (by omega) (by omega) hA5 (mOu_mo hO5 (by omega)) hF5 kk
        ·
          refine pw_bipush (v := zI (49)) dX10_usePen_54 (by decide) ?_
          refine pw_goto (tgt := 71) dX10_usePen_56 rfl ?_
          refine pw_callV (As := [.int (zI (49))]) (b := B) (rm := rmD 0 0 0) (nG_put htr hA3 (by omega)) rfl hA3.1 rfl rfl ywX10_put rfl cwX10_337 ⟨nle rfl, nle rfl⟩ (nle rfl) ⟨nle rfl, nle rfl⟩ dX10_usePen_71 ?_ (fun _ _ _ z => z.elim)
          intro r_9 h6 n_9 hq9 _
          obtain ⟨e1_, s6, hA6, hO6_, hF60, e4_⟩ := hq9
          rw [e1_, e4_]
          show pw E YX10_usePen _ _ 0 0 74 [some (.ref B), some (.int (zI (a))), some (.int (zI (k))), q3] [] h6 n
          clear e1_ e4_
          have hF6 := mFr_tr hF3 hF60
          have hO6 := mOu_tr hO3 hO6_
          have hB6 := hO6.2.2
          clear hO6_ hF60
          refine pw_ziinc (lv' := [some (.ref B), some (.int (zI (a))), some (.int (zI (k + 1))), q3]) dX10_usePen_74 rfl (by decide) rfl rfl ?_
          refine pw_goto (tgt := 29) dX10_usePen_77 rfl ?_
          exact ih (k + 1) s6 h6 (by omega) (by omega) (by omega) hA6 (mOu_mo hO6 (by omega)) hF6 kk
set_option maxHeartbeats 1000000 in
set_option maxRecDepth 100000 in
theorem lG_pen2 {E : pw_E} (htr : E.1.stackTraces = false) {Kk : pw_K} {h : pz_H} {n B : Nat} {s : mS} {a : Int} (ho : 0 ≤ s.1 57 ∧ s.1 57 < 23900) : ∀ (j : Nat) (k : Int) (q3 : Option Value) (s1 : mS) (h1 : pz_H), (2 - k).toNat = j → 0 ≤ k → k ≤ 2 → mAt B s1 h1 → mOu (9 + 3 * k) s s1 → mFr B h h1 → (∀ (k : Int) (q3 : Option Value) (s2 : mS) (h2 : pz_H), mAt B s2 h2 → mOu 15 s s2 → mFr B h h2 → pw E YX10_usePen (rmD 1 0 0) Kk 0 0 130 [some (.ref B), some (.int (zI a)), some (.int (zI k)), q3] [] h2 n) → pw E YX10_usePen (rmD 1 0 0) Kk 0 0 82 [some (.ref B), some (.int (zI a)), some (.int (zI k)), q3] [] h1 n := by
  intro j
  induction j with
  | zero =>
    intro k q3 s1 h1 hj i1 i2 hA hO hF kk
    have hB := hO.2.2
    refine pw_iload_n dX10_usePen_82 rfl ?_
    refine pw_iconst (v := zI (2)) dX10_usePen_83 (by decide) ?_
    refine pw_icmp_ge (tgt := 130) dX10_usePen_84 rfl (by omega) (by omega) (fun c84 => ?_) (fun c84 => ?_)
    ·
      exact kk k q3 s1 h1 hA (mOu_mo hO (by omega)) hF
    · exfalso; omega
  | succ j ih =>
    intro k q3 s1 h1 hj i1 i2 hA hO hF kk
    have hB := hO.2.2
    refine pw_iload_n dX10_usePen_82 rfl ?_
    refine pw_iconst (v := zI (2)) dX10_usePen_83 (by decide) ?_
    refine pw_icmp_ge (tgt := 130) dX10_usePen_84 rfl (by omega) (by omega) (fun c84 => ?_) (fun c84 => ?_)
    · exfalso; omega
    ·
      refine pw_iload_n dX10_usePen_87 rfl ?_
      refine pw_iconst (v := zI (4)) dX10_usePen_88 (by decide) ?_
      refine pw_iconst (v := zI (4)) dX10_usePen_89 (by decide) ?_
      refine pw_iload_n dX10_usePen_90 rfl ?_
      refine pw_zimul dX10_usePen_91 ?_
      refine pw_ziadd dX10_usePen_92 ?_
      refine pw_ishr dX10_usePen_93 ?_
      refine pw_bipush (v := zI (15)) dX10_usePen_94 (by decide) ?_
      refine pw_iand dX10_usePen_96 ?_
      refine pw_freshX (fun u2 hu2 => ?_)
      refine pw_istore_n (lv' := [some (.ref B), some (.int (zI (a))), some (.int (zI (k))), some (.int (zI (u2)))]) dX10_usePen_97 (by decide) rfl rfl ?_
      refine pw_iload_n dX10_usePen_98 rfl ?_
      refine pw_if_le (tgt := 124) dX10_usePen_99 rfl (by omega) (fun c99 => ?_) (fun c99 => ?_)
      ·
        refine pw_ziinc (lv' := [some (.ref B), some (.int (zI (a))), some (.int (zI (k + 1))), some (.int (zI (u2)))]) dX10_usePen_124 rfl (by decide) rfl rfl ?_
        refine pw_goto (tgt := 82) dX10_usePen_127 rfl ?_
        exact ih (k + 1) _ s1 h1 (by omega) (by omega) (by omega) hA (mOu_mo hO (by omega)) hF kk
      ·
        refine pw_aload_n dX10_usePen_102 rfl ?_
        refine pw_bipush (v := zI (59)) dX10_usePen_103 (by decide) ?_
        refine pw_callV (As := [.int (zI (59))]) (b := B) (rm := rmD 0 0 0) (nG_put htr hA (by omega)) rfl hA.1 rfl rfl ywX10_put rfl cwX10_337 ⟨nle rfl, nle rfl⟩ (nle rfl) ⟨nle rfl, nle rfl⟩ dX10_usePen_105 ?_ (fun _ _ _ z => z.elim)
        intro r_9 h3 n_9 hq9 _
        obtain ⟨e1_, s3, hA3, hO3_, hF30, e4_⟩ := hq9
        rw [e1_, e4_]
        show pw E YX10_usePen _ _ 0 0 108 [some (.ref B), some (.int (zI (a))), some (.int (zI (k))), some (.int (zI (u2)))] [] h3 n
        clear e1_ e4_
        have hF3 := mFr_tr hF hF30
        have hO3 := mOu_tr hO hO3_
        have hB3 := hO3.2.2
        clear hO3_ hF30
        refine pw_aload_n dX10_usePen_108 rfl ?_
        refine pw_bipush (v := zI (51)) dX10_usePen_109 (by decide) ?_
        refine pw_iload_n dX10_usePen_111 rfl ?_
        refine pw_ziadd dX10_usePen_112 ?_
        refine pw_callV (As := [.int (zI (51 + k))]) (b := B) (rm := rmD 0 0 0) (nG_put htr hA3 (by omega)) rfl hA3.1 rfl rfl ywX10_put rfl cwX10_337 ⟨nle rfl, nle rfl⟩ (nle rfl) ⟨nle rfl, nle rfl⟩ dX10_usePen_113 ?_ (fun _ _ _ z => z.elim)
        intro r_9 h4 n_9 hq9 _
        obtain ⟨e1_, s4, hA4, hO4_, hF40, e4_⟩ := hq9
        rw [e1_, e4_]
        show pw E YX10_usePen _ _ 0 0 116 [some (.ref B), some (.int (zI (a))), some (.int (zI (k))), some (.int (zI (u2)))] [] h4 n
        clear e1_ e4_
        have hF4 := mFr_tr hF3 hF40
        have hO4 := mOu_tr hO3 hO4_
        have hB4 := hO4.2.2
        clear hO4_ hF40
        refine pw_aload_n dX10_usePen_116 rfl ?_
        refine pw_bipush (v := zI (47)) dX10_usePen_117 (by decide) ?_
        refine pw_iload_n dX10_usePen_119 rfl ?_
        refine pw_ziadd dX10_usePen_120 ?_
        refine pw_callV (As := [.int (zI (47 + u2))]) (b := B) (rm := rmD 0 0 0) (nG_put htr hA4 (by omega)) rfl hA4.1 rfl rfl ywX10_put rfl cwX10_337 ⟨nle rfl, nle rfl⟩ (nle rfl) ⟨nle rfl, nle rfl⟩ dX10_usePen_121 ?_ (fun _ _ _ z => z.elim)
        intro r_9 h5 n_9 hq9 _
        obtain ⟨e1_, s5, hA5, hO5_, hF50, e4_⟩ := hq9
        rw [e1_, e4_]
        show pw E YX10_usePen _ _ 0 0 124 [some (.ref B), some (.int (zI (a))), some (.int (zI (k))), some (.int (zI (u2)))] [] h5 n
        clear e1_ e4_
        have hF5 := mFr_tr hF4 hF50
        have hO5 := mOu_tr hO4 hO5_
        have hB5 := hO5.2.2
        clear hO5_ hF50
        refine pw_ziinc (lv' := [some (.ref B), some (.int (zI (a))), some (.int (zI (k + 1))), some (.int (zI (u2)))]) dX10_usePen_124 rfl (by decide) rfl rfl ?_
        refine pw_goto (tgt := 82) dX10_usePen_127 rfl ?_
        exact ih (k + 1) _ s5 h5 (by omega) (by omega) (by omega) hA5 (mOu_mo hO5 (by omega)) hF5 kk
set_option maxHeartbeats 1000000 in
set_option maxRecDepth 100000 in
/-- usePen(a) -/
theorem nG_usePen {E : pw_E} (htr : E.1.stackTraces = false) {h : pz_H} {n : Nat} {B : Nat} {s : mS} (hA : mAt B s h) {a : Int}  (h_a : -2147483648 ≤ a ∧ a < 2147483648) (hR : mRd 0 s s) (ho : 0 ≤ s.1 57 ∧ s.1 57 < 23900) : pw_M E yX10_usePen YX10_usePen (rmD 1 0 0) [.ref B, .int (zI (a))] h n (fun r0 h' n' => r0 = none ∧ ∃ s', mAt B s' h' ∧ mRd 16 s s' ∧ mFr B h h' ∧ n' = n) (fun _ _ _ => False) := by
  obtain ⟨-, -, v53, v54, v55, v56, -, -⟩ := id hR
  refine pw_M_of (lv := [some (.ref B), some (.int (zI (a))), none, none]) (by decide) rfl rfl htr (nle rfl) rfl (fun L => ?_)
  refine pw_iload_n dX10_usePen_0 rfl ?_
  refine pw_aload_n dX10_usePen_1 rfl ?_
  refine pw_get (v := .int (zI (s.1 56))) okX10 (k := 56) (by decide) lkX10_349 hA.1 rfl dX10_usePen_2 ?_
  refine pw_icmp_ne (tgt := 9) dX10_usePen_5 rfl (by omega) (by omega) (fun c5 => ?_) (fun c5 => ?_)
  ·
    refine pw_aload_n dX10_usePen_9 rfl ?_
    refine pw_bipush (v := zI (27)) dX10_usePen_10 (by decide) ?_
    refine pw_callV (As := [.int (zI (27))]) (b := B) (rm := rmD 0 0 0) (nG_put htr hA (by omega)) rfl hA.1 rfl rfl ywX10_put rfl cwX10_337 ⟨nle rfl, nle rfl⟩ (nle rfl) ⟨nle rfl, nle rfl⟩ dX10_usePen_12 ?_ (fun _ _ _ z => z.elim)
    intro r_9 h1 n_9 hq9 _
    obtain ⟨e1_, s1, hA1, hO1_, hF10, e4_⟩ := hq9
    rw [e1_, e4_]
    show pw E YX10_usePen _ _ 0 0 15 [some (.ref B), some (.int (zI (a))), none, none] [] h1 n
    clear e1_ e4_
    have hF1 := mFr_tr mFr_rf hF10
    have hO1 := mOu_tr mOu_rf hO1_
    have hB1 := hO1.2.2
    clear hO1_ hF10
    refine pw_aload_n dX10_usePen_15 rfl ?_
    refine pw_bipush (v := zI (91)) dX10_usePen_16 (by decide) ?_
    refine pw_callV (As := [.int (zI (91))]) (b := B) (rm := rmD 0 0 0) (nG_put htr hA1 (by omega)) rfl hA1.1 rfl rfl ywX10_put rfl cwX10_337 ⟨nle rfl, nle rfl⟩ (nle rfl) ⟨nle rfl, nle rfl⟩ dX10_usePen_18 ?_ (fun _ _ _ z => z.elim)
    intro r_9 h2 n_9 hq9 _
    obtain ⟨e1_, s2, hA2, hO2_, hF20, e4_⟩ := hq9
    rw [e1_, e4_]
    show pw E YX10_usePen _ _ 0 0 21 [some (.ref B), some (.int (zI (a))), none, none] [] h2 n
    clear e1_ e4_
    have hF2 := mFr_tr hF1 hF20
    have hO2 := mOu_tr hO1 hO2_
    have hB2 := hO2.2.2
    clear hO2_ hF20
    refine pw_aload_n dX10_usePen_21 rfl ?_
    refine pw_bipush (v := zI (48)) dX10_usePen_22 (by decide) ?_
    refine pw_callV (As := [.int (zI (48))]) (b := B) (rm := rmD 0 0 0) (nG_put htr hA2 (by omega)) rfl hA2.1 rfl rfl ywX10_put rfl cwX10_337 ⟨nle rfl, nle rfl⟩ (nle rfl) ⟨nle rfl, nle rfl⟩ dX10_usePen_24 ?_ (fun _ _ _ z => z.elim)
    intro r_9 h3 n_9 hq9 _
    obtain ⟨e1_, s3, hA3, hO3_, hF30, e4_⟩ := hq9
    rw [e1_, e4_]
    show pw E YX10_usePen _ _ 0 0 27 [some (.ref B), some (.int (zI (a))), none, none] [] h3 n
    clear e1_ e4_
    have hF3 := mFr_tr hF2 hF30
    have hO3 := mOu_tr hO2 hO3_
    have hB3 := hO3.2.2
    clear hO3_ hF30
    refine pw_iconst (v := zI (0)) dX10_usePen_27 (by decide) ?_
    refine pw_istore_n (lv' := [some (.ref B), some (.int (zI (a))), some (.int (zI (0))), none]) dX10_usePen_28 (by decide) rfl rfl ?_
    refine lG_pen1 (s := s) htr ho _ 0 s3 h3 rfl (by omega) (by omega) hA3 (mOu_mo hO3 (by omega)) hF3 (fun k8 s8 h8 hA8 hO8 hF8 => ?_)
    refine pw_iconst (v := zI (0)) dX10_usePen_80 (by decide) ?_
    refine pw_istore_n (lv' := [some (.ref B), some (.int (zI (a))), some (.int (zI (0))), none]) dX10_usePen_81 (by decide) rfl rfl ?_
    refine lG_pen2 (s := s) htr ho _ 0 _ s8 h8 rfl (by omega) (by omega) hA8 (mOu_mo hO8 (by omega)) hF8 (fun k9 q9 s9 h9 hA9 hO9 hF9 => ?_)
    have hB9 := hO9.2.2
    refine pw_aload_n dX10_usePen_130 rfl ?_
    refine pw_bipush (v := zI (109)) dX10_usePen_131 (by decide) ?_
    refine pw_callV (As := [.int (zI (109))]) (b := B) (rm := rmD 0 0 0) (nG_put htr hA9 (by omega)) rfl hA9.1 rfl rfl ywX10_put rfl cwX10_337 ⟨nle rfl, nle rfl⟩ (nle rfl) ⟨nle rfl, nle rfl⟩ dX10_usePen_133 ?_ (fun _ _ _ z => z.elim)
    intro r_9 h21 n_9 hq9 _
    obtain ⟨e1_, s21, hA21, hO21_, hF210, e4_⟩ := hq9
    rw [e1_, e4_]
    show pw E YX10_usePen _ _ 0 0 136 [some (.ref B), some (.int (zI (a))), some (.int (zI (k9))), q9] [] h21 n
    clear e1_ e4_
    have hF21 := mFr_tr hF9 hF210
    have hO21 := mOu_tr hO9 hO21_
    have hB21 := hO21.2.2
    clear hO21_ hF210
    refine pw_aload_n dX10_usePen_136 rfl ?_
    refine pw_iload_n dX10_usePen_137 rfl ?_
    refine pw_put (fs' := (moL B (va_up s21.1 56 (a)))) okX10 (k := 56) (by decide) lkX10_349 rfl rfl rfl hA21.1 (nlt rfl) rfl dX10_usePen_138 ?_
    have hA22 : mAt B (mV 56 (a) s21) (va_up h21 B (pz_o 13 (moL B (va_up s21.1 56 (a))))) := mAt_V hA21
    have hF22 : mFr B h (va_up h21 B (pz_o 13 (moL B (va_up s21.1 56 (a))))) := mFr_tr hF21 (mFr_up (k := 0) (by decide))
    revert hA22 hF22
    generalize (va_up h21 B (pz_o 13 (moL B (va_up s21.1 56 (a))))) = h22
    intro hA22 hF22
    have hR2 := mRd_ou hR hO21
    exact pw_vret dX10_usePen_141 rfl (nle rfl) (nle rfl) ⟨rfl, (mV 56 (a) s21), hA22, ⟨hR2.1, fun k hk => (va_up_ne _ _ (by omega)).trans (hR2.2.1 k hk), hR2.2.2.1, hR2.2.2.2.1, hR2.2.2.2.2.1, (show -2147483648 ≤ a ∧ a < 2147483648 from h_a), hR2.2.2.2.2.2.2.1, Int.le_trans hR2.2.2.2.2.2.2.2 (by omega)⟩, hF22, rfl⟩
  ·
    exact pw_vret dX10_usePen_8 rfl (nle rfl) (nle rfl) ⟨rfl, s, hA, mRd_mo hR (by omega), mFr_rf, rfl⟩
