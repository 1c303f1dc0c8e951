def YX10_moveRow : pw_Y := (RX10, "moveRow", cX10_moveRow, 5, none)
theorem ywX10_moveRow : pw_y yX10_moveRow YX10_moveRow 3 := ⟨by decide +kernel, by decide +kernel, by decide +kernel, pw_in 1608 (by decide +kernel) (by decide +kernel), pw_in 106 (by decide +kernel) (by decide +kernel)⟩
theorem cwX10_231 : Cond.methodLink RX10 231 yX10_at ∈ pw_G ∧ Cond.instanceMethod yX10_at ∈ pw_G ∧ Cond.selects RX10 yX10_at yX10_at ∈ pw_G := ⟨pw_in 1597 (by decide +kernel) (by decide +kernel), pw_in 1599 (by decide +kernel) (by decide +kernel), pw_in 49 (by decide +kernel) (by decide +kernel)⟩
def YX10_blankRow : pw_Y := (RX10, "blankRow", cX10_blankRow, 4, none)
theorem ywX10_blankRow : pw_y yX10_blankRow YX10_blankRow 2 := ⟨by decide +kernel, by decide +kernel, by decide +kernel, pw_in 1612 (by decide +kernel) (by decide +kernel), pw_in 106 (by decide +kernel) (by decide +kernel)⟩
theorem lkX10_74 : Cond.fieldLink RX10 74 (TX10 25).1 (TX10 25).2.1 (TX10 25).2.2.1 ∈ pw_G := pw_in 1355 (by decide +kernel) (by decide +kernel)
theorem cwX10_184 : Cond.methodLink RX10 184 yX10_blank ∈ pw_G ∧ Cond.instanceMethod yX10_blank ∈ pw_G ∧ Cond.selects RX10 yX10_blank yX10_blank ∈ pw_G := ⟨pw_in 1326 (by decide +kernel) (by decide +kernel), pw_in 1328 (by decide +kernel) (by decide +kernel), pw_in 34 (by decide +kernel) (by decide +kernel)⟩
def YX10_historyAt : pw_Y := (RX10, "historyAt", cX10_historyAt, 3, (some .int))
theorem ywX10_historyAt : pw_y yX10_historyAt YX10_historyAt 3 := ⟨by decide +kernel, by decide +kernel, by decide +kernel, pw_in 1596 (by decide +kernel) (by decide +kernel), pw_in 106 (by decide +kernel) (by decide +kernel)⟩
def YX10_keepRow : pw_Y := (RX10, "keepRow", cX10_keepRow, 4, none)
theorem ywX10_keepRow : pw_y yX10_keepRow YX10_keepRow 1 := ⟨by decide +kernel, by decide +kernel, by decide +kernel, pw_in 1593 (by decide +kernel) (by decide +kernel), pw_in 106 (by decide +kernel) (by decide +kernel)⟩
theorem lkX10_119 : Cond.fieldLink RX10 119 (TX10 40).1 (TX10 40).2.1 (TX10 40).2.2.1 ∈ pw_G := pw_in 1370 (by decide +kernel) (by decide +kernel)
theorem cwX10_235 : Cond.methodLink RX10 235 yX10_historyAt ∈ pw_G ∧ Cond.static yX10_historyAt ∈ pw_G := ⟨pw_in 1594 (by decide +kernel) (by decide +kernel), pw_in 1595 (by decide +kernel) (by decide +kernel)⟩
theorem lkX10_122 : Cond.fieldLink RX10 122 (TX10 41).1 (TX10 41).2.1 (TX10 41).2.2.1 ∈ pw_G := pw_in 1371 (by decide +kernel) (by decide +kernel)
theorem lkX10_125 : Cond.fieldLink RX10 125 (TX10 42).1 (TX10 42).2.1 (TX10 42).2.2.1 ∈ pw_G := pw_in 1372 (by decide +kernel) (by decide +kernel)
def mHis (p r c : Int) : Int := (30 * p + r) * 40 + c
theorem mHis_b {p r c : Int} (hp : 0 ≤ p ∧ p < 8) (hr : 0 ≤ r ∧ r < 30) (hc : 0 ≤ c ∧ r * 40 + c < 1200) : 0 ≤ mHis p r c ∧ mHis p r c < 9600 := by
  unfold mHis
  omega
set_option maxHeartbeats 2000000 in
set_option maxRecDepth 100000 in
theorem lR_moveRow {E : pw_E} (htr : E.1.stackTraces = false) {Kk : pw_K} {n : Nat} {B : Nat} {s : mS} {h : pz_H} {p : Int} (hp : 0 ≤ p ∧ p < 8) {a b : Int} (ha : 0 ≤ a ∧ a < 16) (hb : 0 ≤ b ∧ b < 16) (kk : ∀ (c9 : Int) (s2 : mS) (h2 : pz_H), mAt B s2 h2 → mPk s2 p.toNat → mPr p.toNat s s2 → mFr B h h2 → Kk.2.2.1 none h2 n) : ∀ (j : Nat) (c : Int) (s1 : mS) (h1 : pz_H), (s.2 18 p.toNat - c).toNat = j → 0 ≤ c → c ≤ 40 → mAt B s1 h1 → mPk s1 p.toNat → mPr p.toNat s s1 → mFr B h h1 → pw E YX10_moveRow (rmD 2 0 0) Kk 0 0 3 [some (.ref B), some (.int (zI (p))), some (.int (zI (a))), some (.int (zI (b))), some (.int (zI (c)))] [] h1 n := by
  intro j
  induction j with
  | zero =>
    intro c s1 h1 hj i0 i1 hA hk hr hF
    have e18 := congrFun (hr.2.1 18 (by decide)) p.toNat
    have e19 := congrFun (hr.2.1 19 (by decide)) p.toNat
    obtain ⟨kw, kh, kr, kc, ksr, ksc, kt, ko, kwa, kin, kwr, khi, krd, knu, kgi, kas, kfr, kra, kco, kof, kip⟩ := id hk
    refine pw_iload dX10_moveRow_3 rfl ?_
    refine pw_aload_n dX10_moveRow_5 rfl ?_
    refine pw_get (v := .ref (B + 15)) okX10 (k := 18) (by decide) lkX10_53 hA.1 rfl dX10_moveRow_6 ?_
    refine pw_iload_n dX10_moveRow_9 rfl ?_
    refine pw_iald (t := 0) rfl (mF18 hA) (by first | omega | exact mCell_b hp ko (by omega) (by omega) | exact mHis_b hp (by omega) (by omega)) (by decide) dX10_moveRow_10 ?_
    refine pw_icmp_ge (tgt := 72) dX10_moveRow_11 rfl (by omega) (by omega) (fun c11 => ?_) (fun c11 => ?_)
    ·
      exact pw_vret dX10_moveRow_72 rfl (nle rfl) (nle rfl) (kk 0 s1 h1  hA hk hr hF)
    · exfalso; omega
  | succ j ih =>
    intro c s1 h1 hj i0 i1 hA hk hr hF
    have e18 := congrFun (hr.2.1 18 (by decide)) p.toNat
    have e19 := congrFun (hr.2.1 19 (by decide)) p.toNat
    obtain ⟨kw, kh, kr, kc, ksr, ksc, kt, ko, kwa, kin, kwr, khi, krd, knu, kgi, kas, kfr, kra, kco, kof, kip⟩ := id hk
    refine pw_iload dX10_moveRow_3 rfl ?_
    refine pw_aload_n dX10_moveRow_5 rfl ?_
    refine pw_get (v := .ref (B + 15)) okX10 (k := 18) (by decide) lkX10_53 hA.1 rfl dX10_moveRow_6 ?_
    refine pw_iload_n dX10_moveRow_9 rfl ?_
    refine pw_iald (t := 0) rfl (mF18 hA) (by first | omega | exact mCell_b hp ko (by omega) (by omega) | exact mHis_b hp (by omega) (by omega)) (by decide) dX10_moveRow_10 ?_
    refine pw_icmp_ge (tgt := 72) dX10_moveRow_11 rfl (by omega) (by omega) (fun c11 => ?_) (fun c11 => ?_)
    ·
      exact pw_vret dX10_moveRow_72 rfl (nle rfl) (nle rfl) (kk 0 s1 h1  hA hk hr hF)
    ·
      refine pw_aload_n dX10_moveRow_14 rfl ?_
      refine pw_get (v := .ref (B + 17)) okX10 (k := 20) (by decide) lkX10_59 hA.1 rfl dX10_moveRow_15 ?_
      refine pw_aload_n dX10_moveRow_18 rfl ?_
      refine pw_iload_n dX10_moveRow_19 rfl ?_
      refine pw_iload_n dX10_moveRow_20 rfl ?_
      refine pw_iload dX10_moveRow_21 rfl ?_
      refine pw_callV (As := [.int (zI (p)), .int (zI (b)), .int (zI (c))]) (b := B) (rm := rmD 1 0 0) (mR_at htr hA hp hk) rfl hA.1 rfl rfl ywX10_at rfl cwX10_231 ⟨nle rfl, nle rfl⟩ (nle rfl) ⟨nle rfl, nle rfl⟩ dX10_moveRow_23 ?_ (fun _ _ _ z => z.elim)
      intro r_9 h_9 n_9 hq _
      rw [hq.1, hq.2.1, hq.2.2]
      show pw E YX10_moveRow _ _ 0 0 26 [some (.ref B), some (.int (zI (p))), some (.int (zI (a))), some (.int (zI (b))), some (.int (zI (c)))] [.int (zI (mCell (p) (s1.2 22 p.toNat) (b) (c))), .ref (B + 17)] h1 n
      refine pw_aload_n dX10_moveRow_26 rfl ?_
      refine pw_get (v := .ref (B + 17)) okX10 (k := 20) (by decide) lkX10_59 hA.1 rfl dX10_moveRow_27 ?_
      refine pw_aload_n dX10_moveRow_30 rfl ?_
      refine pw_iload_n dX10_moveRow_31 rfl ?_
      refine pw_iload_n dX10_moveRow_32 rfl ?_
      refine pw_iload dX10_moveRow_33 rfl ?_
      refine pw_callV (As := [.int (zI (p)), .int (zI (a)), .int (zI (c))]) (b := B) (rm := rmD 1 0 0) (mR_at htr hA hp hk) rfl hA.1 rfl rfl ywX10_at rfl cwX10_231 ⟨nle rfl, nle rfl⟩ (nle rfl) ⟨nle rfl, nle rfl⟩ dX10_moveRow_35 ?_ (fun _ _ _ z => z.elim)
      intro r_9 h_9 n_9 hq _
      rw [hq.1, hq.2.1, hq.2.2]
      show pw E YX10_moveRow _ _ 0 0 38 [some (.ref B), some (.int (zI (p))), some (.int (zI (a))), some (.int (zI (b))), some (.int (zI (c)))] [.int (zI (mCell (p) (s1.2 22 p.toNat) (a) (c))), .ref (B + 17), .int (zI (mCell (p) (s1.2 22 p.toNat) (b) (c))), .ref (B + 17)] h1 n
      refine pw_iald (t := 0) rfl (mF20 hA) (by first | omega | exact mCell_b hp ko (by omega) (by omega) | exact mHis_b hp (by omega) (by omega)) (by decide) dX10_moveRow_38 ?_
      refine pw_iast (t := 0) rfl (mF20 hA) (by first | omega | exact mCell_b hp ko (by omega) (by omega) | exact mHis_b hp (by omega) (by omega)) (by decide) dX10_moveRow_39 ?_
      have hA2 : mAt B (mA 20 (va_up (s1.2 20) (mCell (p) (s1.2 22 p.toNat) (b) (c)).toNat ((s1.2 20) (mCell (p) (s1.2 22 p.toNat) (a) (c)).toNat)) s1) (va_up h1 (B + 17) (pz_z 0 10240 (va_up (s1.2 20) (mCell (p) (s1.2 22 p.toNat) (b) (c)).toNat ((s1.2 20) (mCell (p) (s1.2 22 p.toNat) (a) (c)).toNat)))) := mU20 hA
      have hk2 : mPk (mA 20 (va_up (s1.2 20) (mCell (p) (s1.2 22 p.toNat) (b) (c)).toNat ((s1.2 20) (mCell (p) (s1.2 22 p.toNat) (a) (c)).toNat)) s1) p.toNat := mPc hk (by decide)
      have hr2 : mPr p.toNat s (mA 20 (va_up (s1.2 20) (mCell (p) (s1.2 22 p.toNat) (b) (c)).toNat ((s1.2 20) (mCell (p) (s1.2 22 p.toNat) (a) (c)).toNat)) s1) := mPr_tr hr (mPr_C (by decide))
      have hF2 : mFr B h (va_up h1 (B + 17) (pz_z 0 10240 (va_up (s1.2 20) (mCell (p) (s1.2 22 p.toNat) (b) (c)).toNat ((s1.2 20) (mCell (p) (s1.2 22 p.toNat) (a) (c)).toNat)))) := mFr_tr hF (mFr_up (by decide))
      revert hA2 hk2 hr2 hF2 
      generalize (mA 20 (va_up (s1.2 20) (mCell (p) (s1.2 22 p.toNat) (b) (c)).toNat ((s1.2 20) (mCell (p) (s1.2 22 p.toNat) (a) (c)).toNat)) s1) = s2
      generalize (va_up h1 (B + 17) (pz_z 0 10240 (va_up (s1.2 20) (mCell (p) (s1.2 22 p.toNat) (b) (c)).toNat ((s1.2 20) (mCell (p) (s1.2 22 p.toNat) (a) (c)).toNat)))) = h2
      intro hA2 hk2 hr2 hF2 
      obtain ⟨kw, kh, kr, kc, ksr, ksc, kt, ko, kwa, kin, kwr, khi, krd, knu, kgi, kas, kfr, kra, kco, kof, kip⟩ := id hk2
      have e18 := congrFun (hr2.2.1 18 (by decide)) p.toNat
      have e19 := congrFun (hr2.2.1 19 (by decide)) p.toNat
      refine pw_aload_n dX10_moveRow_40 rfl ?_
      refine pw_get (v := .ref (B + 18)) okX10 (k := 21) (by decide) lkX10_62 hA2.1 rfl dX10_moveRow_41 ?_
      refine pw_aload_n dX10_moveRow_44 rfl ?_
      refine pw_iload_n dX10_moveRow_45 rfl ?_
      refine pw_iload_n dX10_moveRow_46 rfl ?_
      refine pw_iload dX10_moveRow_47 rfl ?_
      refine pw_callV (As := [.int (zI (p)), .int (zI (b)), .int (zI (c))]) (b := B) (rm := rmD 1 0 0) (mR_at htr hA2 hp hk2) rfl hA2.1 rfl rfl ywX10_at rfl cwX10_231 ⟨nle rfl, nle rfl⟩ (nle rfl) ⟨nle rfl, nle rfl⟩ dX10_moveRow_49 ?_ (fun _ _ _ z => z.elim)
      intro r_9 h_9 n_9 hq _
      rw [hq.1, hq.2.1, hq.2.2]
      show pw E YX10_moveRow _ _ 0 0 52 [some (.ref B), some (.int (zI (p))), some (.int (zI (a))), some (.int (zI (b))), some (.int (zI (c)))] [.int (zI (mCell (p) (s2.2 22 p.toNat) (b) (c))), .ref (B + 18)] h2 n
      refine pw_aload_n dX10_moveRow_52 rfl ?_
      refine pw_get (v := .ref (B + 18)) okX10 (k := 21) (by decide) lkX10_62 hA2.1 rfl dX10_moveRow_53 ?_
      refine pw_aload_n dX10_moveRow_56 rfl ?_
      refine pw_iload_n dX10_moveRow_57 rfl ?_
      refine pw_iload_n dX10_moveRow_58 rfl ?_
      refine pw_iload dX10_moveRow_59 rfl ?_
      refine pw_callV (As := [.int (zI (p)), .int (zI (a)), .int (zI (c))]) (b := B) (rm := rmD 1 0 0) (mR_at htr hA2 hp hk2) rfl hA2.1 rfl rfl ywX10_at rfl cwX10_231 ⟨nle rfl, nle rfl⟩ (nle rfl) ⟨nle rfl, nle rfl⟩ dX10_moveRow_61 ?_ (fun _ _ _ z => z.elim)
      intro r_9 h_9 n_9 hq _
      rw [hq.1, hq.2.1, hq.2.2]
      show pw E YX10_moveRow _ _ 0 0 64 [some (.ref B), some (.int (zI (p))), some (.int (zI (a))), some (.int (zI (b))), some (.int (zI (c)))] [.int (zI (mCell (p) (s2.2 22 p.toNat) (a) (c))), .ref (B + 18), .int (zI (mCell (p) (s2.2 22 p.toNat) (b) (c))), .ref (B + 18)] h2 n
      refine pw_iald (t := 0) rfl (mF21 hA2) (by first | omega | exact mCell_b hp ko (by omega) (by omega) | exact mHis_b hp (by omega) (by omega)) (by decide) dX10_moveRow_64 ?_
      refine pw_iast (t := 0) rfl (mF21 hA2) (by first | omega | exact mCell_b hp ko (by omega) (by omega) | exact mHis_b hp (by omega) (by omega)) (by decide) dX10_moveRow_65 ?_
      have hA3 : mAt B (mA 21 (va_up (s2.2 21) (mCell (p) (s2.2 22 p.toNat) (b) (c)).toNat ((s2.2 21) (mCell (p) (s2.2 22 p.toNat) (a) (c)).toNat)) s2) (va_up h2 (B + 18) (pz_z 0 10240 (va_up (s2.2 21) (mCell (p) (s2.2 22 p.toNat) (b) (c)).toNat ((s2.2 21) (mCell (p) (s2.2 22 p.toNat) (a) (c)).toNat)))) := mU21 hA2
      have hk3 : mPk (mA 21 (va_up (s2.2 21) (mCell (p) (s2.2 22 p.toNat) (b) (c)).toNat ((s2.2 21) (mCell (p) (s2.2 22 p.toNat) (a) (c)).toNat)) s2) p.toNat := mPc hk2 (by decide)
      have hr3 : mPr p.toNat s (mA 21 (va_up (s2.2 21) (mCell (p) (s2.2 22 p.toNat) (b) (c)).toNat ((s2.2 21) (mCell (p) (s2.2 22 p.toNat) (a) (c)).toNat)) s2) := mPr_tr hr2 (mPr_C (by decide))
      have hF3 : mFr B h (va_up h2 (B + 18) (pz_z 0 10240 (va_up (s2.2 21) (mCell (p) (s2.2 22 p.toNat) (b) (c)).toNat ((s2.2 21) (mCell (p) (s2.2 22 p.toNat) (a) (c)).toNat)))) := mFr_tr hF2 (mFr_up (by decide))
      revert hA3 hk3 hr3 hF3 
      generalize (mA 21 (va_up (s2.2 21) (mCell (p) (s2.2 22 p.toNat) (b) (c)).toNat ((s2.2 21) (mCell (p) (s2.2 22 p.toNat) (a) (c)).toNat)) s2) = s3
      generalize (va_up h2 (B + 18) (pz_z 0 10240 (va_up (s2.2 21) (mCell (p) (s2.2 22 p.toNat) (b) (c)).toNat ((s2.2 21) (mCell (p) (s2.2 22 p.toNat) (a) (c)).toNat)))) = h3
      intro hA3 hk3 hr3 hF3 
      obtain ⟨kw, kh, kr, kc, ksr, ksc, kt, ko, kwa, kin, kwr, khi, krd, knu, kgi, kas, kfr, kra, kco, kof, kip⟩ := id hk3
      have e18 := congrFun (hr3.2.1 18 (by decide)) p.toNat
      have e19 := congrFun (hr3.2.1 19 (by decide)) p.toNat
      refine pw_ziinc (lv' := [some (.ref B), some (.int (zI (p))), some (.int (zI (a))), some (.int (zI (b))), some (.int (zI (c + 1)))]) dX10_moveRow_66 rfl (by decide) rfl rfl ?_
      refine pw_goto (tgt := 3) dX10_moveRow_69 rfl ?_
      exact ih (c + 1) s3 h3 (by omega) (by omega) (by omega)  hA3 hk3 hr3 hF3
set_option maxHeartbeats 2000000 in
set_option maxRecDepth 100000 in
/-- moveRow(p, a, b) -/
theorem mR_moveRow {E : pw_E} (htr : E.1.stackTraces = false) {h : pz_H} {n : Nat} {B : Nat} {s : mS} (hA : mAt B s h) {p a b : Int} (hp : 0 ≤ p ∧ p < 8) (hk : mPk s p.toNat) (ha : 0 ≤ a ∧ a < 16) (hb : 0 ≤ b ∧ b < 16) : pw_M E yX10_moveRow YX10_moveRow (rmD 2 0 0) [.ref B, .int (zI (p)), .int (zI (a)), .int (zI (b))] h n (fun r0 h' n' => r0 = none ∧ ∃ s', mAt B s' h' ∧ mPk s' p.toNat ∧ mPr p.toNat s s' ∧ mFr B h h' ∧ n' = n) (fun _ _ _ => False) := by
  obtain ⟨kw, kh, kr, kc, ksr, ksc, kt, ko, kwa, kin, kwr, khi, krd, knu, kgi, kas, kfr, kra, kco, kof, kip⟩ := id hk
  have e18 : s.2 18 p.toNat = s.2 18 p.toNat := rfl
  refine pw_M_of (lv := [some (.ref B), some (.int (zI (p))), some (.int (zI (a))), some (.int (zI (b))), none]) (by decide) rfl rfl htr (nle rfl) rfl (fun L => ?_)
  refine pw_iconst (v := zI (0)) dX10_moveRow_0 (by decide) ?_
  refine pw_istore (lv' := [some (.ref B), some (.int (zI (p))), some (.int (zI (a))), some (.int (zI (b))), some (.int (zI (0)))]) dX10_moveRow_1 (by decide) rfl rfl ?_
  refine lR_moveRow htr hp ha hb ?_ _ 0 s h rfl (by omega) (by omega) hA hk mPr_rf mFr_rf
  intro _ s2 h2 z1 z2 z3 z4
  exact ⟨rfl, s2, z1, z2, z3, z4, rfl⟩
set_option maxHeartbeats 2000000 in
set_option maxRecDepth 100000 in
theorem lR_blankRow {E : pw_E} (htr : E.1.stackTraces = false) {Kk : pw_K} {n : Nat} {B : Nat} {s : mS} {h : pz_H} {p : Int} (hp : 0 ≤ p ∧ p < 8) {a : Int} (ha : 0 ≤ a ∧ a < 16) (kk : ∀ (c9 : Int) (s2 : mS) (h2 : pz_H), mAt B s2 h2 → mPk s2 p.toNat → mPr p.toNat s s2 → mFr B h h2 → Kk.2.2.1 none h2 n) : ∀ (j : Nat) (c : Int) (s1 : mS) (h1 : pz_H), (s.2 18 p.toNat - c).toNat = j → 0 ≤ c → c ≤ 40 → mAt B s1 h1 → mPk s1 p.toNat → mPr p.toNat s s1 → mFr B h h1 → pw E YX10_blankRow (rmD 2 0 0) Kk 0 0 2 [some (.ref B), some (.int (zI (p))), some (.int (zI (a))), some (.int (zI (c)))] [] h1 n := by
  intro j
  induction j with
  | zero =>
    intro c s1 h1 hj i0 i1 hA hk hr hF
    have e18 := congrFun (hr.2.1 18 (by decide)) p.toNat
    have e19 := congrFun (hr.2.1 19 (by decide)) p.toNat
    obtain ⟨kw, kh, kr, kc, ksr, ksc, kt, ko, kwa, kin, kwr, khi, krd, knu, kgi, kas, kfr, kra, kco, kof, kip⟩ := id hk
    refine pw_iload_n dX10_blankRow_2 rfl ?_
    refine pw_aload_n dX10_blankRow_3 rfl ?_
    refine pw_get (v := .ref (B + 15)) okX10 (k := 18) (by decide) lkX10_53 hA.1 rfl dX10_blankRow_4 ?_
    refine pw_iload_n dX10_blankRow_7 rfl ?_
    refine pw_iald (t := 0) rfl (mF18 hA) (by first | omega | exact mCell_b hp ko (by omega) (by omega) | exact mHis_b hp (by omega) (by omega)) (by decide) dX10_blankRow_8 ?_
    refine pw_icmp_ge (tgt := 35) dX10_blankRow_9 rfl (by omega) (by omega) (fun c9 => ?_) (fun c9 => ?_)
    ·
      exact pw_vret dX10_blankRow_35 rfl (nle rfl) (nle rfl) (kk 0 s1 h1  hA hk hr hF)
    · exfalso; omega
  | succ j ih =>
    intro c s1 h1 hj i0 i1 hA hk hr hF
    have e18 := congrFun (hr.2.1 18 (by decide)) p.toNat
    have e19 := congrFun (hr.2.1 19 (by decide)) p.toNat
    obtain ⟨kw, kh, kr, kc, ksr, ksc, kt, ko, kwa, kin, kwr, khi, krd, knu, kgi, kas, kfr, kra, kco, kof, kip⟩ := id hk
    refine pw_iload_n dX10_blankRow_2 rfl ?_
    refine pw_aload_n dX10_blankRow_3 rfl ?_
    refine pw_get (v := .ref (B + 15)) okX10 (k := 18) (by decide) lkX10_53 hA.1 rfl dX10_blankRow_4 ?_
    refine pw_iload_n dX10_blankRow_7 rfl ?_
    refine pw_iald (t := 0) rfl (mF18 hA) (by first | omega | exact mCell_b hp ko (by omega) (by omega) | exact mHis_b hp (by omega) (by omega)) (by decide) dX10_blankRow_8 ?_
    refine pw_icmp_ge (tgt := 35) dX10_blankRow_9 rfl (by omega) (by omega) (fun c9 => ?_) (fun c9 => ?_)
    ·
      exact pw_vret dX10_blankRow_35 rfl (nle rfl) (nle rfl) (kk 0 s1 h1  hA hk hr hF)
    ·
      refine pw_aload_n dX10_blankRow_12 rfl ?_
      refine pw_aload_n dX10_blankRow_13 rfl ?_
      refine pw_iload_n dX10_blankRow_14 rfl ?_
      refine pw_iload_n dX10_blankRow_15 rfl ?_
      refine pw_iload_n dX10_blankRow_16 rfl ?_
      refine pw_callV (As := [.int (zI (p)), .int (zI (a)), .int (zI (c))]) (b := B) (rm := rmD 1 0 0) (mR_at htr hA hp hk) rfl hA.1 rfl rfl ywX10_at rfl cwX10_231 ⟨nle rfl, nle rfl⟩ (nle rfl) ⟨nle rfl, nle rfl⟩ dX10_blankRow_17 ?_ (fun _ _ _ z => z.elim)
      intro r_9 h_9 n_9 hq _
      rw [hq.1, hq.2.1, hq.2.2]
      show pw E YX10_blankRow _ _ 0 0 20 [some (.ref B), some (.int (zI (p))), some (.int (zI (a))), some (.int (zI (c)))] [.int (zI (mCell (p) (s1.2 22 p.toNat) (a) (c))), .ref B] h1 n
      refine pw_aload_n dX10_blankRow_20 rfl ?_
      refine pw_get (v := .ref (B + 22)) okX10 (k := 25) (by decide) lkX10_74 hA.1 rfl dX10_blankRow_21 ?_
      refine pw_iload_n dX10_blankRow_24 rfl ?_
      refine pw_iald (t := 0) rfl (mF25 hA) (by first | omega | exact mCell_b hp ko (by omega) (by omega) | exact mHis_b hp (by omega) (by omega)) (by decide) dX10_blankRow_25 ?_
      refine pw_callV (As := [.int (zI (mCell (p) (s1.2 22 p.toNat) (a) (c))), .int (zI ((s1.2 25) (p).toNat))]) (b := B) (rm := rmD 0 0 0) (mR_blank htr hA hp hk (by first | omega | exact mCell_b hp ko (by omega) (by omega))) rfl hA.1 rfl rfl ywX10_blank rfl cwX10_184 ⟨nle rfl, nle rfl⟩ (nle rfl) ⟨nle rfl, nle rfl⟩ dX10_blankRow_26 ?_ (fun _ _ _ z => z.elim)
      intro r_9 h2 n_9 hq _
      obtain ⟨e1, s2, hA2, hk2, hr20, hF20, e4⟩ := hq
      rw [e1, e4]
      show pw E YX10_blankRow _ _ 0 0 29 [some (.ref B), some (.int (zI (p))), some (.int (zI (a))), some (.int (zI (c)))] [] h2 n
      have hr2 := mPr_tr hr hr20
      have hF2 := mFr_tr hF hF20
      obtain ⟨kw, kh, kr, kc, ksr, ksc, kt, ko, kwa, kin, kwr, khi, krd, knu, kgi, kas, kfr, kra, kco, kof, kip⟩ := id hk2
      have e18 := congrFun (hr2.2.1 18 (by decide)) p.toNat
      have e19 := congrFun (hr2.2.1 19 (by decide)) p.toNat
      refine pw_ziinc (lv' := [some (.ref B), some (.int (zI (p))), some (.int (zI (a))), some (.int (zI (c + 1)))]) dX10_blankRow_29 rfl (by decide) rfl rfl ?_
      refine pw_goto (tgt := 2) dX10_blankRow_32 rfl ?_
      exact ih (c + 1) s2 h2 (by omega) (by omega) (by omega)  hA2 hk2 hr2 hF2
set_option maxHeartbeats 2000000 in
set_option maxRecDepth 100000 in
/-- blankRow(p, a) -/
theorem mR_blankRow {E : pw_E} (htr : E.1.stackTraces = false) {h : pz_H} {n : Nat} {B : Nat} {s : mS} (hA : mAt B s h) {p a : Int} (hp : 0 ≤ p ∧ p < 8) (hk : mPk s p.toNat) (ha : 0 ≤ a ∧ a < 16) : pw_M E yX10_blankRow YX10_blankRow (rmD 2 0 0) [.ref B, .int (zI (p)), .int (zI (a))] h n (fun r0 h' n' => r0 = none ∧ ∃ s', mAt B s' h' ∧ mPk s' p.toNat ∧ mPr p.toNat s s' ∧ mFr B h h' ∧ n' = n) (fun _ _ _ => False) := by
  obtain ⟨kw, kh, kr, kc, ksr, ksc, kt, ko, kwa, kin, kwr, khi, krd, knu, kgi, kas, kfr, kra, kco, kof, kip⟩ := id hk
  have e18 : s.2 18 p.toNat = s.2 18 p.toNat := rfl
  refine pw_M_of (lv := [some (.ref B), some (.int (zI (p))), some (.int (zI (a))), none]) (by decide) rfl rfl htr (nle rfl) rfl (fun L => ?_)
  refine pw_iconst (v := zI (0)) dX10_blankRow_0 (by decide) ?_
  refine pw_istore_n (lv' := [some (.ref B), some (.int (zI (p))), some (.int (zI (a))), some (.int (zI (0)))]) dX10_blankRow_1 (by decide) rfl rfl ?_
  refine lR_blankRow htr hp ha ?_ _ 0 s h rfl (by omega) (by omega) hA hk mPr_rf mFr_rf
  intro _ s2 h2 z1 z2 z3 z4
  exact ⟨rfl, s2, z1, z2, z3, z4, rfl⟩
set_option maxHeartbeats 4000000 in
set_option maxRecDepth 100000 in
/-- historyAt(p, r, c) -/
theorem mR_historyAt {E : pw_E} (htr : E.1.stackTraces = false) {h : pz_H} {n : Nat} {p r c : Int} : pw_M E yX10_historyAt YX10_historyAt (rmD 0 0 0) [.int (zI p), .int (zI r), .int (zI c)] h n (fun r0 h' n' => r0 = some (.int (zI (mHis p r c))) ∧ h' = h ∧ n' = n) (fun _ _ _ => False) := by
  refine pw_M_of (lv := [some (.int (zI (p))), some (.int (zI (r))), some (.int (zI (c)))]) (by decide) rfl rfl htr (nle rfl) rfl (fun L => ?_)
  refine pw_bipush (v := zI (30)) dX10_historyAt_0 (by decide) ?_
  refine pw_iload_n dX10_historyAt_2 rfl ?_
  refine pw_zimul dX10_historyAt_3 ?_
  refine pw_iload_n dX10_historyAt_4 rfl ?_
  refine pw_ziadd dX10_historyAt_5 ?_
  refine pw_bipush (v := zI (40)) dX10_historyAt_6 (by decide) ?_
  refine pw_zimul dX10_historyAt_8 ?_
  refine pw_iload_n dX10_historyAt_9 rfl ?_
  refine pw_ziadd dX10_historyAt_10 ?_
  exact pw_iret dX10_historyAt_11 rfl (nle rfl) (nle rfl) ⟨rfl, rfl, rfl⟩
set_option maxHeartbeats 2000000 in
set_option maxRecDepth 100000 in
theorem lR_keep1 {E : pw_E} (htr : E.1.stackTraces = false) {Kk : pw_K} {n : Nat} {B : Nat} {s : mS} {h : pz_H} {p : Int} (hp : 0 ≤ p ∧ p < 8) (kk : ∀ (c9 : Int) (q : Option Value) (s2 : mS) (h2 : pz_H), s2.2 42 p.toNat = 30 → mAt B s2 h2 → mPk s2 p.toNat → mPr p.toNat s s2 → mFr B h h2 → pw E YX10_keepRow (rmD 2 0 0) Kk 0 0 70 [some (.ref B), some (.int (zI (p))), some (.int (zI (c9))), q] [] h2 n) : ∀ (j : Nat) (c : Int) (q : Option Value) (s1 : mS) (h1 : pz_H), (1160 - c).toNat = j → 0 ≤ c → c ≤ 1160 → s1.2 42 p.toNat = 30 → mAt B s1 h1 → mPk s1 p.toNat → mPr p.toNat s s1 → mFr B h h1 → pw E YX10_keepRow (rmD 2 0 0) Kk 0 0 13 [some (.ref B), some (.int (zI (p))), some (.int (zI (c))), q] [] h1 n := by
  intro j
  induction j with
  | zero =>
    intro c q s1 h1 hj i0 i1 t42 hA hk hr hF
    have e18 := congrFun (hr.2.1 18 (by decide)) p.toNat
    have e19 := congrFun (hr.2.1 19 (by decide)) p.toNat
    obtain ⟨kw, kh, kr, kc, ksr, ksc, kt, ko, kwa, kin, kwr, khi, krd, knu, kgi, kas, kfr, kra, kco, kof, kip⟩ := id hk
    refine pw_iload_n dX10_keepRow_13 rfl ?_
    refine pw_sipush (v := zI (1160)) dX10_keepRow_14 (by decide) ?_
    refine pw_icmp_ge (tgt := 70) dX10_keepRow_17 rfl (by omega) (by omega) (fun c17 => ?_) (fun c17 => ?_)
    ·
      exact kk _ _ s1 h1 t42 hA hk hr hF
    · exfalso; omega
  | succ j ih =>
    intro c q s1 h1 hj i0 i1 t42 hA hk hr hF
    have e18 := congrFun (hr.2.1 18 (by decide)) p.toNat
    have e19 := congrFun (hr.2.1 19 (by decide)) p.toNat
    obtain ⟨kw, kh, kr, kc, ksr, ksc, kt, ko, kwa, kin, kwr, khi, krd, knu, kgi, kas, kfr, kra, kco, kof, kip⟩ := id hk
    refine pw_iload_n dX10_keepRow_13 rfl ?_
    refine pw_sipush (v := zI (1160)) dX10_keepRow_14 (by decide) ?_
    refine pw_icmp_ge (tgt := 70) dX10_keepRow_17 rfl (by omega) (by omega) (fun c17 => ?_) (fun c17 => ?_)
    ·
      exact kk _ _ s1 h1 t42 hA hk hr hF
    ·
      refine pw_aload_n dX10_keepRow_20 rfl ?_
      refine pw_get (v := .ref (B + 37)) okX10 (k := 40) (by decide) lkX10_119 hA.1 rfl dX10_keepRow_21 ?_
      refine pw_iload_n dX10_keepRow_24 rfl ?_
      refine pw_iconst (v := zI (0)) dX10_keepRow_25 (by decide) ?_
      refine pw_iload_n dX10_keepRow_26 rfl ?_
      refine pw_callS (As := [.int (zI (p)), .int (zI (0)), .int (zI (c))]) (rm := rmD 0 0 0) (mR_historyAt htr) rfl ywX10_historyAt rfl cwX10_235 ⟨nle rfl, nle rfl⟩ (nle rfl) ⟨nle rfl, nle rfl⟩ dX10_keepRow_27 ?_ (fun _ _ _ z => z.elim)
      intro r_9 h_9 n_9 hq _
      rw [hq.1, hq.2.1, hq.2.2]
      show pw E YX10_keepRow _ _ 0 0 30 [some (.ref B), some (.int (zI (p))), some (.int (zI (c))), q] [.int (zI (mHis (p) (0) (c))), .ref (B + 37)] h1 n
      refine pw_aload_n dX10_keepRow_30 rfl ?_
      refine pw_get (v := .ref (B + 37)) okX10 (k := 40) (by decide) lkX10_119 hA.1 rfl dX10_keepRow_31 ?_
      refine pw_iload_n dX10_keepRow_34 rfl ?_
      refine pw_iconst (v := zI (1)) dX10_keepRow_35 (by decide) ?_
      refine pw_iload_n dX10_keepRow_36 rfl ?_
      refine pw_callS (As := [.int (zI (p)), .int (zI (1)), .int (zI (c))]) (rm := rmD 0 0 0) (mR_historyAt htr) rfl ywX10_historyAt rfl cwX10_235 ⟨nle rfl, nle rfl⟩ (nle rfl) ⟨nle rfl, nle rfl⟩ dX10_keepRow_37 ?_ (fun _ _ _ z => z.elim)
      intro r_9 h_9 n_9 hq _
      rw [hq.1, hq.2.1, hq.2.2]
      show pw E YX10_keepRow _ _ 0 0 40 [some (.ref B), some (.int (zI (p))), some (.int (zI (c))), q] [.int (zI (mHis (p) (1) (c))), .ref (B + 37), .int (zI (mHis (p) (0) (c))), .ref (B + 37)] h1 n
      refine pw_iald (t := 0) rfl (mF40 hA) (by first | omega | exact mCell_b hp ko (by omega) (by omega) | exact mHis_b hp (by omega) (by omega)) (by decide) dX10_keepRow_40 ?_
      refine pw_iast (t := 0) rfl (mF40 hA) (by first | omega | exact mCell_b hp ko (by omega) (by omega) | exact mHis_b hp (by omega) (by omega)) (by decide) dX10_keepRow_41 ?_
      have hA2 : mAt B (mA 40 (va_up (s1.2 40) (mHis (p) (0) (c)).toNat ((s1.2 40) (mHis (p) (1) (c)).toNat)) s1) (va_up h1 (B + 37) (pz_z 0 9600 (va_up (s1.2 40) (mHis (p) (0) (c)).toNat ((s1.2 40) (mHis (p) (1) (c)).toNat)))) := mU40 hA
      have hk2 : mPk (mA 40 (va_up (s1.2 40) (mHis (p) (0) (c)).toNat ((s1.2 40) (mHis (p) (1) (c)).toNat)) s1) p.toNat := mPc hk (by decide)
      have hr2 : mPr p.toNat s (mA 40 (va_up (s1.2 40) (mHis (p) (0) (c)).toNat ((s1.2 40) (mHis (p) (1) (c)).toNat)) s1) := mPr_tr hr (mPr_C (by decide))
      have hF2 : mFr B h (va_up h1 (B + 37) (pz_z 0 9600 (va_up (s1.2 40) (mHis (p) (0) (c)).toNat ((s1.2 40) (mHis (p) (1) (c)).toNat)))) := mFr_tr hF (mFr_up (by decide))
      have t42_2 : (mA 40 (va_up (s1.2 40) (mHis (p) (0) (c)).toNat ((s1.2 40) (mHis (p) (1) (c)).toNat)) s1).2 42 p.toNat = 30 := t42
      revert hA2 hk2 hr2 hF2 t42_2
      generalize (mA 40 (va_up (s1.2 40) (mHis (p) (0) (c)).toNat ((s1.2 40) (mHis (p) (1) (c)).toNat)) s1) = s2
      generalize (va_up h1 (B + 37) (pz_z 0 9600 (va_up (s1.2 40) (mHis (p) (0) (c)).toNat ((s1.2 40) (mHis (p) (1) (c)).toNat)))) = h2
      intro hA2 hk2 hr2 hF2 t42_2
      obtain ⟨kw, kh, kr, kc, ksr, ksc, kt, ko, kwa, kin, kwr, khi, krd, knu, kgi, kas, kfr, kra, kco, kof, kip⟩ := id hk2
      have e18 := congrFun (hr2.2.1 18 (by decide)) p.toNat
      have e19 := congrFun (hr2.2.1 19 (by decide)) p.toNat
      refine pw_aload_n dX10_keepRow_42 rfl ?_
      refine pw_get (v := .ref (B + 38)) okX10 (k := 41) (by decide) lkX10_122 hA2.1 rfl dX10_keepRow_43 ?_
      refine pw_iload_n dX10_keepRow_46 rfl ?_
      refine pw_iconst (v := zI (0)) dX10_keepRow_47 (by decide) ?_
      refine pw_iload_n dX10_keepRow_48 rfl ?_
      refine pw_callS (As := [.int (zI (p)), .int (zI (0)), .int (zI (c))]) (rm := rmD 0 0 0) (mR_historyAt htr) rfl ywX10_historyAt rfl cwX10_235 ⟨nle rfl, nle rfl⟩ (nle rfl) ⟨nle rfl, nle rfl⟩ dX10_keepRow_49 ?_ (fun _ _ _ z => z.elim)
      intro r_9 h_9 n_9 hq _
      rw [hq.1, hq.2.1, hq.2.2]
      show pw E YX10_keepRow _ _ 0 0 52 [some (.ref B), some (.int (zI (p))), some (.int (zI (c))), q] [.int (zI (mHis (p) (0) (c))), .ref (B + 38)] h2 n
      refine pw_aload_n dX10_keepRow_52 rfl ?_
      refine pw_get (v := .ref (B + 38)) okX10 (k := 41) (by decide) lkX10_122 hA2.1 rfl dX10_keepRow_53 ?_
      refine pw_iload_n dX10_keepRow_56 rfl ?_
      refine pw_iconst (v := zI (1)) dX10_keepRow_57 (by decide) ?_
      refine pw_iload_n dX10_keepRow_58 rfl ?_
      refine pw_callS (As := [.int (zI (p)), .int (zI (1)), .int (zI (c))]) (rm := rmD 0 0 0) (mR_historyAt htr) rfl ywX10_historyAt rfl cwX10_235 ⟨nle rfl, nle rfl⟩ (nle rfl) ⟨nle rfl, nle rfl⟩ dX10_keepRow_59 ?_ (fun _ _ _ z => z.elim)
      intro r_9 h_9 n_9 hq _
      rw [hq.1, hq.2.1, hq.2.2]
      show pw E YX10_keepRow _ _ 0 0 62 [some (.ref B), some (.int (zI (p))), some (.int (zI (c))), q] [.int (zI (mHis (p) (1) (c))), .ref (B + 38), .int (zI (mHis (p) (0) (c))), .ref (B + 38)] h2 n
      refine pw_iald (t := 0) rfl (mF41 hA2) (by first | omega | exact mCell_b hp ko (by omega) (by omega) | exact mHis_b hp (by omega) (by omega)) (by decide) dX10_keepRow_62 ?_
      refine pw_iast (t := 0) rfl (mF41 hA2) (by first | omega | exact mCell_b hp ko (by omega) (by omega) | exact mHis_b hp (by omega) (by omega)) (by decide) dX10_keepRow_63 ?_
      have hA3 : mAt B (mA 41 (va_up (s2.2 41) (mHis (p) (0) (c)).toNat ((s2.2 41) (mHis (p) (1) (c)).toNat)) s2) (va_up h2 (B + 38) (pz_z 0 9600 (va_up (s2.2 41) (mHis (p) (0) (c)).toNat ((s2.2 41) (mHis (p) (1) (c)).toNat)))) := mU41 hA2
      have hk3 : mPk (mA 41 (va_up (s2.2 41) (mHis (p) (0) (c)).toNat ((s2.2 41) (mHis (p) (1) (c)).toNat)) s2) p.toNat := mPc hk2 (by decide)
      have hr3 : mPr p.toNat s (mA 41 (va_up (s2.2 41) (mHis (p) (0) (c)).toNat ((s2.2 41) (mHis (p) (1) (c)).toNat)) s2) := mPr_tr hr2 (mPr_C (by decide))
      have hF3 : mFr B h (va_up h2 (B + 38) (pz_z 0 9600 (va_up (s2.2 41) (mHis (p) (0) (c)).toNat ((s2.2 41) (mHis (p) (1) (c)).toNat)))) := mFr_tr hF2 (mFr_up (by decide))
      have t42_3 : (mA 41 (va_up (s2.2 41) (mHis (p) (0) (c)).toNat ((s2.2 41) (mHis (p) (1) (c)).toNat)) s2).2 42 p.toNat = 30 := t42_2
      revert hA3 hk3 hr3 hF3 t42_3
      generalize (mA 41 (va_up (s2.2 41) (mHis (p) (0) (c)).toNat ((s2.2 41) (mHis (p) (1) (c)).toNat)) s2) = s3
      generalize (va_up h2 (B + 38) (pz_z 0 9600 (va_up (s2.2 41) (mHis (p) (0) (c)).toNat ((s2.2 41) (mHis (p) (1) (c)).toNat)))) = h3
      intro hA3 hk3 hr3 hF3 t42_3
      obtain ⟨kw, kh, kr, kc, ksr, ksc, kt, ko, kwa, kin, kwr, khi, krd, knu, kgi, kas, kfr, kra, kco, kof, kip⟩ := id hk3
      have e18 := congrFun (hr3.2.1 18 (by decide)) p.toNat
      have e19 := congrFun (hr3.2.1 19 (by decide)) p.toNat
      refine pw_ziinc (lv' := [some (.ref B), some (.int (zI (p))), some (.int (zI (c + 1))), q]) dX10_keepRow_64 rfl (by decide) rfl rfl ?_
      refine pw_goto (tgt := 13) dX10_keepRow_67 rfl ?_
      exact ih (c + 1) _ s3 h3 (by omega) (by omega) (by omega) t42_3 hA3 hk3 hr3 hF3
set_option maxHeartbeats 2000000 in
set_option maxRecDepth 100000 in
theorem lR_keep2 {E : pw_E} (htr : E.1.stackTraces = false) {Kk : pw_K} {n : Nat} {B : Nat} {s : mS} {h : pz_H} {p : Int} (hp : 0 ≤ p ∧ p < 8) {ra : Int} (hra : 0 ≤ ra ∧ ra < 30) (kk : ∀ (c9 : Int) (q : Option Value) (s2 : mS) (h2 : pz_H), s2.2 42 p.toNat = ra → mAt B s2 h2 → mPk s2 p.toNat → mPr p.toNat s s2 → mFr B h h2 → pw E YX10_keepRow (rmD 2 0 0) Kk 0 0 183 [some (.ref B), some (.int (zI (p))), some (.int (zI (c9))), q] [] h2 n) : ∀ (j : Nat) (c : Int) (q : Option Value) (s1 : mS) (h1 : pz_H), (40 - c).toNat = j → 0 ≤ c → c ≤ 40 → s1.2 42 p.toNat = ra → mAt B s1 h1 → mPk s1 p.toNat → mPr p.toNat s s1 → mFr B h h1 → pw E YX10_keepRow (rmD 2 0 0) Kk 0 0 82 [some (.ref B), some (.int (zI (p))), some (.int (zI (c))), q] [] h1 n := by
  intro j
  induction j with
  | zero =>
    intro c q s1 h1 hj i0 i1 t42 hA hk hr hF
    have e18 := congrFun (hr.2.1 18 (by decide)) p.toNat
    have e19 := congrFun (hr.2.1 19 (by decide)) p.toNat
    obtain ⟨kw, kh, kr, kc, ksr, ksc, kt, ko, kwa, kin, kwr, khi, krd, knu, kgi, kas, kfr, kra, kco, kof, kip⟩ := id hk
    refine pw_iload_n dX10_keepRow_82 rfl ?_
    refine pw_bipush (v := zI (40)) dX10_keepRow_83 (by decide) ?_
    refine pw_icmp_ge (tgt := 183) dX10_keepRow_85 rfl (by omega) (by omega) (fun c85 => ?_) (fun c85 => ?_)
    ·
      exact kk _ _ s1 h1 t42 hA hk hr hF
    · exfalso; omega
  | succ j ih =>
    intro c q s1 h1 hj i0 i1 t42 hA hk hr hF
    have e18 := congrFun (hr.2.1 18 (by decide)) p.toNat
    have e19 := congrFun (hr.2.1 19 (by decide)) p.toNat
    obtain ⟨kw, kh, kr, kc, ksr, ksc, kt, ko, kwa, kin, kwr, khi, krd, knu, kgi, kas, kfr, kra, kco, kof, kip⟩ := id hk
    refine pw_iload_n dX10_keepRow_82 rfl ?_
    refine pw_bipush (v := zI (40)) dX10_keepRow_83 (by decide) ?_
    refine pw_icmp_ge (tgt := 183) dX10_keepRow_85 rfl (by omega) (by omega) (fun c85 => ?_) (fun c85 => ?_)
    ·
      exact kk _ _ s1 h1 t42 hA hk hr hF
    ·
      refine pw_iload_n dX10_keepRow_88 rfl ?_
      refine pw_aload_n dX10_keepRow_89 rfl ?_
      refine pw_get (v := .ref (B + 15)) okX10 (k := 18) (by decide) lkX10_53 hA.1 rfl dX10_keepRow_90 ?_
      refine pw_iload_n dX10_keepRow_93 rfl ?_
      refine pw_iald (t := 0) rfl (mF18 hA) (by first | omega | exact mCell_b hp ko (by omega) (by omega) | exact mHis_b hp (by omega) (by omega)) (by decide) dX10_keepRow_94 ?_
      refine pw_icmp_ge (tgt := 102) dX10_keepRow_95 rfl (by omega) (by omega) (fun c95 => ?_) (fun c95 => ?_)
      ·
        refine pw_iconst (v := zI (0)) dX10_keepRow_102 (by decide) ?_
        refine pw_istore_n (lv' := [some (.ref B), some (.int (zI (p))), some (.int (zI (c))), some (.int (zI (0)))]) dX10_keepRow_103 (by decide) rfl rfl ?_
        refine pw_aload_n dX10_keepRow_104 rfl ?_
        refine pw_get (v := .ref (B + 37)) okX10 (k := 40) (by decide) lkX10_119 hA.1 rfl dX10_keepRow_105 ?_
        refine pw_iload_n dX10_keepRow_108 rfl ?_
        refine pw_aload_n dX10_keepRow_109 rfl ?_
        refine pw_get (v := .ref (B + 39)) okX10 (k := 42) (by decide) lkX10_125 hA.1 rfl dX10_keepRow_110 ?_
        refine pw_iload_n dX10_keepRow_113 rfl ?_
        refine pw_iald (t := 0) rfl (mF42 hA) (by first | omega | exact mCell_b hp ko (by omega) (by omega) | exact mHis_b hp (by omega) (by omega)) (by decide) dX10_keepRow_114 ?_
        refine pw_iload_n dX10_keepRow_115 rfl ?_
        refine pw_callS (As := [.int (zI (p)), .int (zI ((s1.2 42) (p).toNat)), .int (zI (c))]) (rm := rmD 0 0 0) (mR_historyAt htr) rfl ywX10_historyAt rfl cwX10_235 ⟨nle rfl, nle rfl⟩ (nle rfl) ⟨nle rfl, nle rfl⟩ dX10_keepRow_116 ?_ (fun _ _ _ z => z.elim)
        intro r_9 h_9 n_9 hq _
        rw [hq.1, hq.2.1, hq.2.2]
        show pw E YX10_keepRow _ _ 0 0 119 [some (.ref B), some (.int (zI (p))), some (.int (zI (c))), some (.int (zI (0)))] [.int (zI (mHis (p) ((s1.2 42) (p).toNat) (c))), .ref (B + 37)] h1 n
        refine pw_iload_n dX10_keepRow_119 rfl ?_
        refine pw_if_eq (tgt := 138) dX10_keepRow_120 rfl (by omega) (fun c120 => ?_) (fun c120 => ?_)
        ·
          refine pw_bipush (v := zI (32)) dX10_keepRow_138 (by decide) ?_
          refine pw_iast (t := 0) rfl (mF40 hA) (by first | omega | exact mCell_b hp ko (by omega) (by omega) | exact mHis_b hp (by omega) (by omega)) (by decide) dX10_keepRow_140 ?_
          have hA2 : mAt B (mA 40 (va_up (s1.2 40) (mHis (p) ((s1.2 42) (p).toNat) (c)).toNat (32)) s1) (va_up h1 (B + 37) (pz_z 0 9600 (va_up (s1.2 40) (mHis (p) ((s1.2 42) (p).toNat) (c)).toNat (32)))) := mU40 hA
          have hk2 : mPk (mA 40 (va_up (s1.2 40) (mHis (p) ((s1.2 42) (p).toNat) (c)).toNat (32)) s1) p.toNat := mPc hk (by decide)
          have hr2 : mPr p.toNat s (mA 40 (va_up (s1.2 40) (mHis (p) ((s1.2 42) (p).toNat) (c)).toNat (32)) s1) := mPr_tr hr (mPr_C (by decide))
          have hF2 : mFr B h (va_up h1 (B + 37) (pz_z 0 9600 (va_up (s1.2 40) (mHis (p) ((s1.2 42) (p).toNat) (c)).toNat (32)))) := mFr_tr hF (mFr_up (by decide))
          have t42_2 : (mA 40 (va_up (s1.2 40) (mHis (p) ((s1.2 42) (p).toNat) (c)).toNat (32)) s1).2 42 p.toNat = ra := t42
          revert hA2 hk2 hr2 hF2 t42_2
          generalize (mA 40 (va_up (s1.2 40) (mHis (p) ((s1.2 42) (p).toNat) (c)).toNat (32)) s1) = s2
          generalize (va_up h1 (B + 37) (pz_z 0 9600 (va_up (s1.2 40) (mHis (p) ((s1.2 42) (p).toNat) (c)).toNat (32)))) = h2
          intro hA2 hk2 hr2 hF2 t42_2
          obtain ⟨kw, kh, kr, kc, ksr, ksc, kt, ko, kwa, kin, kwr, khi, krd, knu, kgi, kas, kfr, kra, kco, kof, kip⟩ := id hk2
          have e18 := congrFun (hr2.2.1 18 (by decide)) p.toNat
          have e19 := congrFun (hr2.2.1 19 (by decide)) p.toNat
          refine pw_aload_n dX10_keepRow_141 rfl ?_
          refine pw_get (v := .ref (B + 38)) okX10 (k := 41) (by decide) lkX10_122 hA2.1 rfl dX10_keepRow_142 ?_
          refine pw_iload_n dX10_keepRow_145 rfl ?_
          refine pw_aload_n dX10_keepRow_146 rfl ?_
          refine pw_get (v := .ref (B + 39)) okX10 (k := 42) (by decide) lkX10_125 hA2.1 rfl dX10_keepRow_147 ?_
          refine pw_iload_n dX10_keepRow_150 rfl ?_
          refine pw_iald (t := 0) rfl (mF42 hA2) (by first | omega | exact mCell_b hp ko (by omega) (by omega) | exact mHis_b hp (by omega) (by omega)) (by decide) dX10_keepRow_151 ?_
          refine pw_iload_n dX10_keepRow_152 rfl ?_
          refine pw_callS (As := [.int (zI (p)), .int (zI ((s2.2 42) (p).toNat)), .int (zI (c))]) (rm := rmD 0 0 0) (mR_historyAt htr) rfl ywX10_historyAt rfl cwX10_235 ⟨nle rfl, nle rfl⟩ (nle rfl) ⟨nle rfl, nle rfl⟩ dX10_keepRow_153 ?_ (fun _ _ _ z => z.elim)
          intro r_9 h_9 n_9 hq _
          rw [hq.1, hq.2.1, hq.2.2]
          show pw E YX10_keepRow _ _ 0 0 156 [some (.ref B), some (.int (zI (p))), some (.int (zI (c))), some (.int (zI (0)))] [.int (zI (mHis (p) ((s2.2 42) (p).toNat) (c))), .ref (B + 38)] h2 n
          refine pw_iload_n dX10_keepRow_156 rfl ?_
          refine pw_if_eq (tgt := 175) dX10_keepRow_157 rfl (by omega) (fun c157 => ?_) (fun c157 => ?_)
          ·
            refine pw_iconst (v := zI (0)) dX10_keepRow_175 (by decide) ?_
            refine pw_iast (t := 0) rfl (mF41 hA2) (by first | omega | exact mCell_b hp ko (by omega) (by omega) | exact mHis_b hp (by omega) (by omega)) (by decide) dX10_keepRow_176 ?_
            have hA3 : mAt B (mA 41 (va_up (s2.2 41) (mHis (p) ((s2.2 42) (p).toNat) (c)).toNat (0)) s2) (va_up h2 (B + 38) (pz_z 0 9600 (va_up (s2.2 41) (mHis (p) ((s2.2 42) (p).toNat) (c)).toNat (0)))) := mU41 hA2
            have hk3 : mPk (mA 41 (va_up (s2.2 41) (mHis (p) ((s2.2 42) (p).toNat) (c)).toNat (0)) s2) p.toNat := mPc hk2 (by decide)
            have hr3 : mPr p.toNat s (mA 41 (va_up (s2.2 41) (mHis (p) ((s2.2 42) (p).toNat) (c)).toNat (0)) s2) := mPr_tr hr2 (mPr_C (by decide))
            have hF3 : mFr B h (va_up h2 (B + 38) (pz_z 0 9600 (va_up (s2.2 41) (mHis (p) ((s2.2 42) (p).toNat) (c)).toNat (0)))) := mFr_tr hF2 (mFr_up (by decide))
            have t42_3 : (mA 41 (va_up (s2.2 41) (mHis (p) ((s2.2 42) (p).toNat) (c)).toNat (0)) s2).2 42 p.toNat = ra := t42_2
            revert hA3 hk3 hr3 hF3 t42_3
            generalize (mA 41 (va_up (s2.2 41) (mHis (p) ((s2.2 42) (p).toNat) (c)).toNat (0)) s2) = s3
            generalize (va_up h2 (B + 38) (pz_z 0 9600 (va_up (s2.2 41) (mHis (p) ((s2.2 42) (p).toNat) (c)).toNat (0)))) = h3
            intro hA3 hk3 hr3 hF3 t42_3
            obtain ⟨kw, kh, kr, kc, ksr, ksc, kt, ko, kwa, kin, kwr, khi, krd, knu, kgi, kas, kfr, kra, kco, kof, kip⟩ := id hk3
            have e18 := congrFun (hr3.2.1 18 (by decide)) p.toNat
            have e19 := congrFun (hr3.2.1 19 (by decide)) p.toNat
            refine pw_ziinc (lv' := [some (.ref B), some (.int (zI (p))), some (.int (zI (c + 1))), some (.int (zI (0)))]) dX10_keepRow_177 rfl (by decide) rfl rfl ?_
            refine pw_goto (tgt := 82) dX10_keepRow_180 rfl ?_
            exact ih (c + 1) _ s3 h3 (by omega) (by omega) (by omega) t42_3 hA3 hk3 hr3 hF3
          · exfalso; omega
        · exfalso; omega
      ·
        refine pw_iconst (v := zI (1)) dX10_keepRow_98 (by decide) ?_
        refine pw_goto (tgt := 103) dX10_keepRow_99 rfl ?_
        refine pw_istore_n (lv' := [some (.ref B), some (.int (zI (p))), some (.int (zI (c))), some (.int (zI (1)))]) dX10_keepRow_103 (by decide) rfl rfl ?_
        refine pw_aload_n dX10_keepRow_104 rfl ?_
        refine pw_get (v := .ref (B + 37)) okX10 (k := 40) (by decide) lkX10_119 hA.1 rfl dX10_keepRow_105 ?_
        refine pw_iload_n dX10_keepRow_108 rfl ?_
        refine pw_aload_n dX10_keepRow_109 rfl ?_
        refine pw_get (v := .ref (B + 39)) okX10 (k := 42) (by decide) lkX10_125 hA.1 rfl dX10_keepRow_110 ?_
        refine pw_iload_n dX10_keepRow_113 rfl ?_
        refine pw_iald (t := 0) rfl (mF42 hA) (by first | omega | exact mCell_b hp ko (by omega) (by omega) | exact mHis_b hp (by omega) (by omega)) (by decide) dX10_keepRow_114 ?_
        refine pw_iload_n dX10_keepRow_115 rfl ?_
        refine pw_callS (As := [.int (zI (p)), .int (zI ((s1.2 42) (p).toNat)), .int (zI (c))]) (rm := rmD 0 0 0) (mR_historyAt htr) rfl ywX10_historyAt rfl cwX10_235 ⟨nle rfl, nle rfl⟩ (nle rfl) ⟨nle rfl, nle rfl⟩ dX10_keepRow_116 ?_ (fun _ _ _ z => z.elim)
        intro r_9 h_9 n_9 hq _
        rw [hq.1, hq.2.1, hq.2.2]
        show pw E YX10_keepRow _ _ 0 0 119 [some (.ref B), some (.int (zI (p))), some (.int (zI (c))), some (.int (zI (1)))] [.int (zI (mHis (p) ((s1.2 42) (p).toNat) (c))), .ref (B + 37)] h1 n
        refine pw_iload_n dX10_keepRow_119 rfl ?_
        refine pw_if_eq (tgt := 138) dX10_keepRow_120 rfl (by omega) (fun c120 => ?_) (fun c120 => ?_)
        · exfalso; omega
        ·
          refine pw_aload_n dX10_keepRow_123 rfl ?_
          refine pw_get (v := .ref (B + 17)) okX10 (k := 20) (by decide) lkX10_59 hA.1 rfl dX10_keepRow_124 ?_
          refine pw_aload_n dX10_keepRow_127 rfl ?_
          refine pw_iload_n dX10_keepRow_128 rfl ?_
          refine pw_iconst (v := zI (0)) dX10_keepRow_129 (by decide) ?_
          refine pw_iload_n dX10_keepRow_130 rfl ?_
          refine pw_callV (As := [.int (zI (p)), .int (zI (0)), .int (zI (c))]) (b := B) (rm := rmD 1 0 0) (mR_at htr hA hp hk) rfl hA.1 rfl rfl ywX10_at rfl cwX10_231 ⟨nle rfl, nle rfl⟩ (nle rfl) ⟨nle rfl, nle rfl⟩ dX10_keepRow_131 ?_ (fun _ _ _ z => z.elim)
          intro r_9 h_9 n_9 hq _
          rw [hq.1, hq.2.1, hq.2.2]
          show pw E YX10_keepRow _ _ 0 0 134 [some (.ref B), some (.int (zI (p))), some (.int (zI (c))), some (.int (zI (1)))] [.int (zI (mCell (p) (s1.2 22 p.toNat) (0) (c))), .ref (B + 17), .int (zI (mHis (p) ((s1.2 42) (p).toNat) (c))), .ref (B + 37)] h1 n
          refine pw_iald (t := 0) rfl (mF20 hA) (by first | omega | exact mCell_b hp ko (by omega) (by omega) | exact mHis_b hp (by omega) (by omega)) (by decide) dX10_keepRow_134 ?_
          refine pw_goto (tgt := 140) dX10_keepRow_135 rfl ?_
          refine pw_iast (t := 0) rfl (mF40 hA) (by first | omega | exact mCell_b hp ko (by omega) (by omega) | exact mHis_b hp (by omega) (by omega)) (by decide) dX10_keepRow_140 ?_
          have hA4 : mAt B (mA 40 (va_up (s1.2 40) (mHis (p) ((s1.2 42) (p).toNat) (c)).toNat ((s1.2 20) (mCell (p) (s1.2 22 p.toNat) (0) (c)).toNat)) s1) (va_up h1 (B + 37) (pz_z 0 9600 (va_up (s1.2 40) (mHis (p) ((s1.2 42) (p).toNat) (c)).toNat ((s1.2 20) (mCell (p) (s1.2 22 p.toNat) (0) (c)).toNat)))) := mU40 hA
          have hk4 : mPk (mA 40 (va_up (s1.2 40) (mHis (p) ((s1.2 42) (p).toNat) (c)).toNat ((s1.2 20) (mCell (p) (s1.2 22 p.toNat) (0) (c)).toNat)) s1) p.toNat := mPc hk (by decide)
          have hr4 : mPr p.toNat s (mA 40 (va_up (s1.2 40) (mHis (p) ((s1.2 42) (p).toNat) (c)).toNat ((s1.2 20) (mCell (p) (s1.2 22 p.toNat) (0) (c)).toNat)) s1) := mPr_tr hr (mPr_C (by decide))
          have hF4 : mFr B h (va_up h1 (B + 37) (pz_z 0 9600 (va_up (s1.2 40) (mHis (p) ((s1.2 42) (p).toNat) (c)).toNat ((s1.2 20) (mCell (p) (s1.2 22 p.toNat) (0) (c)).toNat)))) := mFr_tr hF (mFr_up (by decide))
          have t42_4 : (mA 40 (va_up (s1.2 40) (mHis (p) ((s1.2 42) (p).toNat) (c)).toNat ((s1.2 20) (mCell (p) (s1.2 22 p.toNat) (0) (c)).toNat)) s1).2 42 p.toNat = ra := t42
          revert hA4 hk4 hr4 hF4 t42_4
          generalize (mA 40 (va_up (s1.2 40) (mHis (p) ((s1.2 42) (p).toNat) (c)).toNat ((s1.2 20) (mCell (p) (s1.2 22 p.toNat) (0) (c)).toNat)) s1) = s4
          generalize (va_up h1 (B + 37) (pz_z 0 9600 (va_up (s1.2 40) (mHis (p) ((s1.2 42) (p).toNat) (c)).toNat ((s1.2 20) (mCell (p) (s1.2 22 p.toNat) (0) (c)).toNat)))) = h4
          intro hA4 hk4 hr4 hF4 t42_4
          obtain ⟨kw, kh, kr, kc, ksr, ksc, kt, ko, kwa, kin, kwr, khi, krd, knu, kgi, kas, kfr, kra, kco, kof, kip⟩ := id hk4
          have e18 := congrFun (hr4.2.1 18 (by decide)) p.toNat
          have e19 := congrFun (hr4.2.1 19 (by decide)) p.toNat
          refine pw_aload_n dX10_keepRow_141 rfl ?_
          refine pw_get (v := .ref (B + 38)) okX10 (k := 41) (by decide) lkX10_122 hA4.1 rfl dX10_keepRow_142 ?_
          refine pw_iload_n dX10_keepRow_145 rfl ?_
          refine pw_aload_n dX10_keepRow_146 rfl ?_
          refine pw_get (v := .ref (B + 39)) okX10 (k := 42) (by decide) lkX10_125 hA4.1 rfl dX10_keepRow_147 ?_
          refine pw_iload_n dX10_keepRow_150 rfl ?_
          refine pw_iald (t := 0) rfl (mF42 hA4) (by first | omega | exact mCell_b hp ko (by omega) (by omega) | exact mHis_b hp (by omega) (by omega)) (by decide) dX10_keepRow_151 ?_
          refine pw_iload_n dX10_keepRow_152 rfl ?_
          refine pw_callS (As := [.int (zI (p)), .int (zI ((s4.2 42) (p).toNat)), .int (zI (c))]) (rm := rmD 0 0 0) (mR_historyAt htr) rfl ywX10_historyAt rfl cwX10_235 ⟨nle rfl, nle rfl⟩ (nle rfl) ⟨nle rfl, nle rfl⟩ dX10_keepRow_153 ?_ (fun _ _ _ z => z.elim)
          intro r_9 h_9 n_9 hq _
          rw [hq.1, hq.2.1, hq.2.2]
          show pw E YX10_keepRow _ _ 0 0 156 [some (.ref B), some (.int (zI (p))), some (.int (zI (c))), some (.int (zI (1)))] [.int (zI (mHis (p) ((s4.2 42) (p).toNat) (c))), .ref (B + 38)] h4 n
          refine pw_iload_n dX10_keepRow_156 rfl ?_
          refine pw_if_eq (tgt := 175) dX10_keepRow_157 rfl (by omega) (fun c157 => ?_) (fun c157 => ?_)
          · exfalso; omega
          ·
            refine pw_aload_n dX10_keepRow_160 rfl ?_
            refine pw_get (v := .ref (B + 18)) okX10 (k := 21) (by decide) lkX10_62 hA4.1 rfl dX10_keepRow_161 ?_
            refine pw_aload_n dX10_keepRow_164 rfl ?_
            refine pw_iload_n dX10_keepRow_165 rfl ?_
            refine pw_iconst (v := zI (0)) dX10_keepRow_166 (by decide) ?_
            refine pw_iload_n dX10_keepRow_167 rfl ?_
            refine pw_callV (As := [.int (zI (p)), .int (zI (0)), .int (zI (c))]) (b := B) (rm := rmD 1 0 0) (mR_at htr hA4 hp hk4) rfl hA4.1 rfl rfl ywX10_at rfl cwX10_231 ⟨nle rfl, nle rfl⟩ (nle rfl) ⟨nle rfl, nle rfl⟩ dX10_keepRow_168 ?_ (fun _ _ _ z => z.elim)
            intro r_9 h_9 n_9 hq _
            rw [hq.1, hq.2.1, hq.2.2]
            show pw E YX10_keepRow _ _ 0 0 171 [some (.ref B), some (.int (zI (p))), some (.int (zI (c))), some (.int (zI (1)))] [.int (zI (mCell (p) (s4.2 22 p.toNat) (0) (c))), .ref (B + 18), .int (zI (mHis (p) ((s4.2 42) (p).toNat) (c))), .ref (B + 38)] h4 n
            refine pw_iald (t := 0) rfl (mF21 hA4) (by first | omega | exact mCell_b hp ko (by omega) (by omega) | exact mHis_b hp (by omega) (by omega)) (by decide) dX10_keepRow_171 ?_
            refine pw_goto (tgt := 176) dX10_keepRow_172 rfl ?_
            refine pw_iast (t := 0) rfl (mF41 hA4) (by first | omega | exact mCell_b hp ko (by omega) (by omega) | exact mHis_b hp (by omega) (by omega)) (by decide) dX10_keepRow_176 ?_
            have hA5 : mAt B (mA 41 (va_up (s4.2 41) (mHis (p) ((s4.2 42) (p).toNat) (c)).toNat ((s4.2 21) (mCell (p) (s4.2 22 p.toNat) (0) (c)).toNat)) s4) (va_up h4 (B + 38) (pz_z 0 9600 (va_up (s4.2 41) (mHis (p) ((s4.2 42) (p).toNat) (c)).toNat ((s4.2 21) (mCell (p) (s4.2 22 p.toNat) (0) (c)).toNat)))) := mU41 hA4
            have hk5 : mPk (mA 41 (va_up (s4.2 41) (mHis (p) ((s4.2 42) (p).toNat) (c)).toNat ((s4.2 21) (mCell (p) (s4.2 22 p.toNat) (0) (c)).toNat)) s4) p.toNat := mPc hk4 (by decide)
            have hr5 : mPr p.toNat s (mA 41 (va_up (s4.2 41) (mHis (p) ((s4.2 42) (p).toNat) (c)).toNat ((s4.2 21) (mCell (p) (s4.2 22 p.toNat) (0) (c)).toNat)) s4) := mPr_tr hr4 (mPr_C (by decide))
            have hF5 : mFr B h (va_up h4 (B + 38) (pz_z 0 9600 (va_up (s4.2 41) (mHis (p) ((s4.2 42) (p).toNat) (c)).toNat ((s4.2 21) (mCell (p) (s4.2 22 p.toNat) (0) (c)).toNat)))) := mFr_tr hF4 (mFr_up (by decide))
            have t42_5 : (mA 41 (va_up (s4.2 41) (mHis (p) ((s4.2 42) (p).toNat) (c)).toNat ((s4.2 21) (mCell (p) (s4.2 22 p.toNat) (0) (c)).toNat)) s4).2 42 p.toNat = ra := t42_4
            revert hA5 hk5 hr5 hF5 t42_5
            generalize (mA 41 (va_up (s4.2 41) (mHis (p) ((s4.2 42) (p).toNat) (c)).toNat ((s4.2 21) (mCell (p) (s4.2 22 p.toNat) (0) (c)).toNat)) s4) = s5
            generalize (va_up h4 (B + 38) (pz_z 0 9600 (va_up (s4.2 41) (mHis (p) ((s4.2 42) (p).toNat) (c)).toNat ((s4.2 21) (mCell (p) (s4.2 22 p.toNat) (0) (c)).toNat)))) = h5
            intro hA5 hk5 hr5 hF5 t42_5
            obtain ⟨kw, kh, kr, kc, ksr, ksc, kt, ko, kwa, kin, kwr, khi, krd, knu, kgi, kas, kfr, kra, kco, kof, kip⟩ := id hk5
            have e18 := congrFun (hr5.2.1 18 (by decide)) p.toNat
            have e19 := congrFun (hr5.2.1 19 (by decide)) p.toNat
            refine pw_ziinc (lv' := [some (.ref B), some (.int (zI (p))), some (.int (zI (c + 1))), some (.int (zI (1)))]) dX10_keepRow_177 rfl (by decide) rfl rfl ?_
            refine pw_goto (tgt := 82) dX10_keepRow_180 rfl ?_
            exact ih (c + 1) _ s5 h5 (by omega) (by omega) (by omega) t42_5 hA5 hk5 hr5 hF5
set_option maxHeartbeats 2000000 in
set_option maxRecDepth 100000 in
/-- keepRow(p) -/
theorem mR_keepRow {E : pw_E} (htr : E.1.stackTraces = false) {h : pz_H} {n : Nat} {B : Nat} {s : mS} (hA : mAt B s h) {p : Int} (hp : 0 ≤ p ∧ p < 8) (hk : mPk s p.toNat)  : pw_M E yX10_keepRow YX10_keepRow (rmD 2 0 0) [.ref B, .int (zI (p))] h n (fun r0 h' n' => r0 = none ∧ ∃ s', mAt B s' h' ∧ mPk s' p.toNat ∧ mPr p.toNat s s' ∧ mFr B h h' ∧ n' = n) (fun _ _ _ => False) := by
  obtain ⟨kw, kh, kr, kc, ksr, ksc, kt, ko, kwa, kin, kwr, khi, krd, knu, kgi, kas, kfr, kra, kco, kof, kip⟩ := id hk
  have e18 : s.2 18 p.toNat = s.2 18 p.toNat := rfl
  refine pw_M_of (lv := [some (.ref B), some (.int (zI (p))), none, none]) (by decide) rfl rfl htr (nle rfl) rfl (fun L => ?_)
  refine pw_aload_n dX10_keepRow_0 rfl ?_
  refine pw_get (v := .ref (B + 39)) okX10 (k := 42) (by decide) lkX10_125 hA.1 rfl dX10_keepRow_1 ?_
  refine pw_iload_n dX10_keepRow_4 rfl ?_
  refine pw_iald (t := 0) rfl (mF42 hA) (by first | omega | exact mCell_b hp ko (by omega) (by omega) | exact mHis_b hp (by omega) (by omega)) (by decide) dX10_keepRow_5 ?_
  refine pw_bipush (v := zI (30)) dX10_keepRow_6 (by decide) ?_
  refine pw_icmp_ne (tgt := 80) dX10_keepRow_8 rfl (by omega) (by omega) (fun c8 => ?_) (fun c8 => ?_)
  ·
    refine pw_iconst (v := zI (0)) dX10_keepRow_80 (by decide) ?_
    refine pw_istore_n (lv' := [some (.ref B), some (.int (zI (p))), some (.int (zI (0))), none]) dX10_keepRow_81 (by decide) rfl rfl ?_
    refine lR_keep2 htr hp (ra := s.2 42 p.toNat) (by omega) ?_ _ 0 _ s h rfl (by omega) (by omega) rfl hA hk mPr_rf mFr_rf
    intro c9 q9 s9 h9 e9 z1 z2 z3 z4
    obtain ⟨kw, kh, kr, kc, ksr, ksc, kt, ko, kwa, kin, kwr, khi, krd, knu, kgi, kas, kfr, kra, kco, kof, kip⟩ := id z2
    refine pw_aload_n dX10_keepRow_183 rfl ?_
    refine pw_get (v := .ref (B + 39)) okX10 (k := 42) (by decide) lkX10_125 z1.1 rfl dX10_keepRow_184 ?_
    refine pw_iload_n dX10_keepRow_187 rfl ?_
    refine pw_dup2 dX10_keepRow_188 rfl rfl ?_
    refine pw_iald (t := 0) rfl (mF42 z1) (by first | omega | exact mCell_b hp ko (by omega) (by omega) | exact mHis_b hp (by omega) (by omega)) (by decide) dX10_keepRow_189 ?_
    refine pw_iconst (v := zI (1)) dX10_keepRow_190 (by decide) ?_
    refine pw_ziadd dX10_keepRow_191 ?_
    refine pw_iast (t := 0) rfl (mF42 z1) (by first | omega | exact mCell_b hp ko (by omega) (by omega) | exact mHis_b hp (by omega) (by omega)) (by decide) dX10_keepRow_192 ?_
    have hA21 : mAt B (mA 42 (va_up (s9.2 42) (p).toNat (((s9.2 42) (p).toNat) + (1))) s9) (va_up h9 (B + 39) (pz_z 0 8 (va_up (s9.2 42) (p).toNat (((s9.2 42) (p).toNat) + (1))))) := mU42 z1
    have hk21 : mPk (mA 42 (va_up (s9.2 42) (p).toNat (((s9.2 42) (p).toNat) + (1))) s9) p.toNat := mP42 z2 (by omega)
    have hr21 : mPr p.toNat s (mA 42 (va_up (s9.2 42) (p).toNat (((s9.2 42) (p).toNat) + (1))) s9) := mPr_tr z3 (mPr_W (by decide) (by decide) (by decide))
    have hF21 : mFr B h (va_up h9 (B + 39) (pz_z 0 8 (va_up (s9.2 42) (p).toNat (((s9.2 42) (p).toNat) + (1))))) := mFr_tr z4 (mFr_up (by decide))
    revert hA21 hk21 hr21 hF21 
    generalize (mA 42 (va_up (s9.2 42) (p).toNat (((s9.2 42) (p).toNat) + (1))) s9) = s21
    generalize (va_up h9 (B + 39) (pz_z 0 8 (va_up (s9.2 42) (p).toNat (((s9.2 42) (p).toNat) + (1))))) = h21
    intro hA21 hk21 hr21 hF21 
    obtain ⟨kw, kh, kr, kc, ksr, ksc, kt, ko, kwa, kin, kwr, khi, krd, knu, kgi, kas, kfr, kra, kco, kof, kip⟩ := id hk21
    have e18 := congrFun (hr21.2.1 18 (by decide)) p.toNat
    have e19 := congrFun (hr21.2.1 19 (by decide)) p.toNat
    exact pw_vret dX10_keepRow_193 rfl (nle rfl) (nle rfl) ⟨rfl, s21, hA21, hk21, hr21, hF21, rfl⟩
  ·
    refine pw_iconst (v := zI (0)) dX10_keepRow_11 (by decide) ?_
    refine pw_istore_n (lv' := [some (.ref B), some (.int (zI (p))), some (.int (zI (0))), none]) dX10_keepRow_12 (by decide) rfl rfl ?_
    refine lR_keep1 htr hp ?_ _ 0 _ s h rfl (by omega) (by omega) (by omega) hA hk mPr_rf mFr_rf
    intro c8 q8 s8 h8 e8 y1 y2 y3 y4
    obtain ⟨kw, kh, kr, kc, ksr, ksc, kt, ko, kwa, kin, kwr, khi, krd, knu, kgi, kas, kfr, kra, kco, kof, kip⟩ := id y2
    refine pw_aload_n dX10_keepRow_70 rfl ?_
    refine pw_get (v := .ref (B + 39)) okX10 (k := 42) (by decide) lkX10_125 y1.1 rfl dX10_keepRow_71 ?_
    refine pw_iload_n dX10_keepRow_74 rfl ?_
    refine pw_dup2 dX10_keepRow_75 rfl rfl ?_
    refine pw_iald (t := 0) rfl (mF42 y1) (by first | omega | exact mCell_b hp ko (by omega) (by omega) | exact mHis_b hp (by omega) (by omega)) (by decide) dX10_keepRow_76 ?_
    refine pw_iconst (v := zI (1)) dX10_keepRow_77 (by decide) ?_
    refine pw_zisub dX10_keepRow_78 ?_
    refine pw_iast (t := 0) rfl (mF42 y1) (by first | omega | exact mCell_b hp ko (by omega) (by omega) | exact mHis_b hp (by omega) (by omega)) (by decide) dX10_keepRow_79 ?_
    have hA22 : mAt B (mA 42 (va_up (s8.2 42) (p).toNat (((s8.2 42) (p).toNat) - (1))) s8) (va_up h8 (B + 39) (pz_z 0 8 (va_up (s8.2 42) (p).toNat (((s8.2 42) (p).toNat) - (1))))) := mU42 y1
    have hk22 : mPk (mA 42 (va_up (s8.2 42) (p).toNat (((s8.2 42) (p).toNat) - (1))) s8) p.toNat := mP42 y2 (by omega)
    have hr22 : mPr p.toNat s (mA 42 (va_up (s8.2 42) (p).toNat (((s8.2 42) (p).toNat) - (1))) s8) := mPr_tr y3 (mPr_W (by decide) (by decide) (by decide))
    have hF22 : mFr B h (va_up h8 (B + 39) (pz_z 0 8 (va_up (s8.2 42) (p).toNat (((s8.2 42) (p).toNat) - (1))))) := mFr_tr y4 (mFr_up (by decide))
    have hL22 : (mA 42 (va_up (s8.2 42) (p).toNat (((s8.2 42) (p).toNat) - (1))) s8).2 42 p.toNat < 30 := by show va_up (s8.2 42) p.toNat _ p.toNat < 30; rw [va_up_self]; omega
    revert hA22 hk22 hr22 hF22 hL22
    generalize (mA 42 (va_up (s8.2 42) (p).toNat (((s8.2 42) (p).toNat) - (1))) s8) = s22
    generalize (va_up h8 (B + 39) (pz_z 0 8 (va_up (s8.2 42) (p).toNat (((s8.2 42) (p).toNat) - (1))))) = h22
    intro hA22 hk22 hr22 hF22 hL22
    obtain ⟨kw, kh, kr, kc, ksr, ksc, kt, ko, kwa, kin, kwr, khi, krd, knu, kgi, kas, kfr, kra, kco, kof, kip⟩ := id hk22
    have e18 := congrFun (hr22.2.1 18 (by decide)) p.toNat
    have e19 := congrFun (hr22.2.1 19 (by decide)) p.toNat
    refine pw_iconst (v := zI (0)) dX10_keepRow_80 (by decide) ?_
    refine pw_istore_n (lv' := [some (.ref B), some (.int (zI (p))), some (.int (zI (0))), q8]) dX10_keepRow_81 (by decide) rfl rfl ?_
    refine lR_keep2 htr hp (ra := s22.2 42 p.toNat) (by omega) ?_ _ 0 _ s22 h22 rfl (by omega) (by omega) rfl hA22 hk22 hr22 hF22
    intro c9 q9 s9 h9 e9 z1 z2 z3 z4
    obtain ⟨kw, kh, kr, kc, ksr, ksc, kt, ko, kwa, kin, kwr, khi, krd, knu, kgi, kas, kfr, kra, kco, kof, kip⟩ := id z2
    refine pw_aload_n dX10_keepRow_183 rfl ?_
    refine pw_get (v := .ref (B + 39)) okX10 (k := 42) (by decide) lkX10_125 z1.1 rfl dX10_keepRow_184 ?_
    refine pw_iload_n dX10_keepRow_187 rfl ?_
    refine pw_dup2 dX10_keepRow_188 rfl rfl ?_
    refine pw_iald (t := 0) rfl (mF42 z1) (by first | omega | exact mCell_b hp ko (by omega) (by omega) | exact mHis_b hp (by omega) (by omega)) (by decide) dX10_keepRow_189 ?_
    refine pw_iconst (v := zI (1)) dX10_keepRow_190 (by decide) ?_
    refine pw_ziadd dX10_keepRow_191 ?_
    refine pw_iast (t := 0) rfl (mF42 z1) (by first | omega | exact mCell_b hp ko (by omega) (by omega) | exact mHis_b hp (by omega) (by omega)) (by decide) dX10_keepRow_192 ?_
    have hA23 : mAt B (mA 42 (va_up (s9.2 42) (p).toNat (((s9.2 42) (p).toNat) + (1))) s9) (va_up h9 (B + 39) (pz_z 0 8 (va_up (s9.2 42) (p).toNat (((s9.2 42) (p).toNat) + (1))))) := mU42 z1
    have hk23 : mPk (mA 42 (va_up (s9.2 42) (p).toNat (((s9.2 42) (p).toNat) + (1))) s9) p.toNat := mP42 z2 (by omega)
    have hr23 : mPr p.toNat s (mA 42 (va_up (s9.2 42) (p).toNat (((s9.2 42) (p).toNat) + (1))) s9) := mPr_tr z3 (mPr_W (by decide) (by decide) (by decide))
    have hF23 : mFr B h (va_up h9 (B + 39) (pz_z 0 8 (va_up (s9.2 42) (p).toNat (((s9.2 42) (p).toNat) + (1))))) := mFr_tr z4 (mFr_up (by decide))
    revert hA23 hk23 hr23 hF23 
    generalize (mA 42 (va_up (s9.2 42) (p).toNat (((s9.2 42) (p).toNat) + (1))) s9) = s23
    generalize (va_up h9 (B + 39) (pz_z 0 8 (va_up (s9.2 42) (p).toNat (((s9.2 42) (p).toNat) + (1))))) = h23
    intro hA23 hk23 hr23 hF23 
    obtain ⟨kw, kh, kr, kc, ksr, ksc, kt, ko, kwa, kin, kwr, khi, krd, knu, kgi, kas, kfr, kra, kco, kof, kip⟩ := id hk23
    have e18 := congrFun (hr23.2.1 18 (by decide)) p.toNat
    have e19 := congrFun (hr23.2.1 19 (by decide)) p.toNat
    exact pw_vret dX10_keepRow_193 rfl (nle rfl) (nle rfl) ⟨rfl, s23, hA23, hk23, hr23, hF23, rfl⟩
