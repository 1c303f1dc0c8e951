def YX10_write : pw_Y := (RX10, "write", cX10_write, 3, none)
theorem ywX10_write : pw_y yX10_write YX10_write 2 := ⟨by decide +kernel, by decide +kernel, by decide +kernel, pw_in 1616 (by decide +kernel) (by decide +kernel), pw_in 106 (by decide +kernel) (by decide +kernel)⟩
theorem lkX10_95 : Cond.fieldLink RX10 95 (TX10 32).1 (TX10 32).2.1 (TX10 32).2.2.1 ∈ pw_G := pw_in 1362 (by decide +kernel) (by decide +kernel)
theorem lkX10_98 : Cond.fieldLink RX10 98 (TX10 33).1 (TX10 33).2.1 (TX10 33).2.2.1 ∈ pw_G := pw_in 1363 (by decide +kernel) (by decide +kernel)
theorem cwX10_258 : Cond.methodLink RX10 258 yX10_push ∈ pw_G ∧ Cond.instanceMethod yX10_push ∈ pw_G ∧ Cond.selects RX10 yX10_push yX10_push ∈ pw_G := ⟨pw_in 1617 (by decide +kernel) (by decide +kernel), pw_in 1619 (by decide +kernel) (by decide +kernel), pw_in 54 (by decide +kernel) (by decide +kernel)⟩
theorem cwX10_255 : Cond.methodLink RX10 255 yX10_down ∈ pw_G ∧ Cond.instanceMethod yX10_down ∈ pw_G ∧ Cond.selects RX10 yX10_down yX10_down ∈ pw_G := ⟨pw_in 1582 (by decide +kernel) (by decide +kernel), pw_in 1584 (by decide +kernel) (by decide +kernel), pw_in 46 (by decide +kernel) (by decide +kernel)⟩
def YX10_isPlain : pw_Y := (RX10, "isPlain", cX10_isPlain, 3, (some .boolean))
theorem ywX10_isPlain : pw_y yX10_isPlain YX10_isPlain 2 := ⟨by decide +kernel, by decide +kernel, by decide +kernel, pw_in 1577 (by decide +kernel) (by decide +kernel), pw_in 106 (by decide +kernel) (by decide +kernel)⟩
theorem lkX10_104 : Cond.fieldLink RX10 104 (TX10 35).1 (TX10 35).2.1 (TX10 35).2.2.1 ∈ pw_G := pw_in 1365 (by decide +kernel) (by decide +kernel)
theorem cwX10_261 : Cond.methodLink RX10 261 yX10_moveTo ∈ pw_G ∧ Cond.instanceMethod yX10_moveTo ∈ pw_G ∧ Cond.selects RX10 yX10_moveTo yX10_moveTo ∈ pw_G := ⟨pw_in 1578 (by decide +kernel) (by decide +kernel), pw_in 1580 (by decide +kernel) (by decide +kernel), pw_in 45 (by decide +kernel) (by decide +kernel)⟩
def YX10_endsWait : pw_Y := (RX10, "endsWait", cX10_endsWait, 1, (some .boolean))
theorem ywX10_endsWait : pw_y yX10_endsWait YX10_endsWait 1 := ⟨by decide +kernel, by decide +kernel, by decide +kernel, pw_in 1647 (by decide +kernel) (by decide +kernel), pw_in 106 (by decide +kernel) (by decide +kernel)⟩
def YX10_lines : pw_Y := (RX10, "lines", cX10_lines, 4, none)
theorem ywX10_lines : pw_y yX10_lines YX10_lines 3 := ⟨by decide +kernel, by decide +kernel, by decide +kernel, pw_in 1655 (by decide +kernel) (by decide +kernel), pw_in 106 (by decide +kernel) (by decide +kernel)⟩
def YX10_erase : pw_Y := (RX10, "erase", cX10_erase, 8, none)
theorem ywX10_erase : pw_y yX10_erase YX10_erase 5 := ⟨by decide +kernel, by decide +kernel, by decide +kernel, pw_in 1651 (by decide +kernel) (by decide +kernel), pw_in 106 (by decide +kernel) (by decide +kernel)⟩
def YX10_region : pw_Y := (RX10, "region", cX10_region, 5, none)
theorem ywX10_region : pw_y yX10_region YX10_region 3 := ⟨by decide +kernel, by decide +kernel, by decide +kernel, pw_in 1659 (by decide +kernel) (by decide +kernel), pw_in 106 (by decide +kernel) (by decide +kernel)⟩
def YX10_pens : pw_Y := (RX10, "pens", cX10_pens, 5, none)
theorem ywX10_pens : pw_y yX10_pens YX10_pens 1 := ⟨by decide +kernel, by decide +kernel, by decide +kernel, pw_in 1663 (by decide +kernel) (by decide +kernel), pw_in 106 (by decide +kernel) (by decide +kernel)⟩
theorem lkX10_107 : Cond.fieldLink RX10 107 (TX10 36).1 (TX10 36).2.1 (TX10 36).2.2.1 ∈ pw_G := pw_in 1366 (by decide +kernel) (by decide +kernel)
theorem lkX10_110 : Cond.fieldLink RX10 110 (TX10 37).1 (TX10 37).2.1 (TX10 37).2.2.1 ∈ pw_G := pw_in 1367 (by decide +kernel) (by decide +kernel)
set_option maxHeartbeats 2000000 in
set_option maxRecDepth 100000 in
/-- write(p, b) -/
theorem mR_write {E : pw_E} (htr : E.1.stackTraces = false) {h : pz_H} {n : Nat} {B : Nat} {s : mS} (hA : mAt B s h) {p b : Int} (hp : 0 ≤ p ∧ p < 8) (hk : mPk s p.toNat) (h_b : -2147483648 ≤ b ∧ b < 2147483648) : pw_M E yX10_write YX10_write (rmD 5 0 0) [.ref B, .int (zI (p)), .int (zI (b))] h n (fun r0 h' n' => r0 = none ∧ ∃ s', mAt B s' h' ∧ mPk s' p.toNat ∧ mPr p.toNat s s' ∧ mFr B h h' ∧ n' = n) (fun _ _ _ => False) := by
  obtain ⟨kw, kh, kr, kc, ksr, ksc, kt, ko, kwa, kin, kwr, khi, krd, knu, kgi, kas, kfr, kra, kco, kof, kip⟩ := id hk
  have e18 : s.2 18 p.toNat = s.2 18 p.toNat := rfl
  refine pw_M_of (lv := [some (.ref B), some (.int (zI (p))), some (.int (zI (b)))]) (by decide) rfl rfl htr (nle rfl) rfl (fun L => ?_)
  refine pw_aload_n dX10_write_0 rfl ?_
  refine pw_get (v := .ref (B + 28)) okX10 (k := 31) (by decide) lkX10_92 hA.1 rfl dX10_write_1 ?_
  refine pw_iload_n dX10_write_4 rfl ?_
  refine pw_zald (t := 1) rfl (mF31 hA) (by first | omega | exact mCell_b hp ko (by omega) (by omega) | exact mHis_b hp (by omega) (by omega)) (by decide) dX10_write_5 ?_
  refine pw_if_eq (tgt := 21) dX10_write_6 rfl (by omega) (fun c6 => ?_) (fun c6 => ?_)
  ·
    refine pw_aload_n dX10_write_21 rfl ?_
    refine pw_get (v := .ref (B + 29)) okX10 (k := 32) (by decide) lkX10_95 hA.1 rfl dX10_write_22 ?_
    refine pw_iload_n dX10_write_25 rfl ?_
    refine pw_zald (t := 1) rfl (mF32 hA) (by first | omega | exact mCell_b hp ko (by omega) (by omega) | exact mHis_b hp (by omega) (by omega)) (by decide) dX10_write_26 ?_
    refine pw_if_eq (tgt := 48) dX10_write_27 rfl (by omega) (fun c27 => ?_) (fun c27 => ?_)
    ·
      refine pw_aload_n dX10_write_48 rfl ?_
      refine pw_get (v := .ref (B + 17)) okX10 (k := 20) (by decide) lkX10_59 hA.1 rfl dX10_write_49 ?_
      refine pw_aload_n dX10_write_52 rfl ?_
      refine pw_iload_n dX10_write_53 rfl ?_
      refine pw_aload_n dX10_write_54 rfl ?_
      refine pw_get (v := .ref (B + 20)) okX10 (k := 23) (by decide) lkX10_68 hA.1 rfl dX10_write_55 ?_
      refine pw_iload_n dX10_write_58 rfl ?_
      refine pw_iald (t := 0) rfl (mF23 hA) (by first | omega | exact mCell_b hp ko (by omega) (by omega) | exact mHis_b hp (by omega) (by omega)) (by decide) dX10_write_59 ?_
      refine pw_aload_n dX10_write_60 rfl ?_
      refine pw_get (v := .ref (B + 21)) okX10 (k := 24) (by decide) lkX10_71 hA.1 rfl dX10_write_61 ?_
      refine pw_iload_n dX10_write_64 rfl ?_
      refine pw_iald (t := 0) rfl (mF24 hA) (by first | omega | exact mCell_b hp ko (by omega) (by omega) | exact mHis_b hp (by omega) (by omega)) (by decide) dX10_write_65 ?_
      refine pw_callV (As := [.int (zI (p)), .int (zI ((s.2 23) (p).toNat)), .int (zI ((s.2 24) (p).toNat))]) (b := B) (rm := rmD 1 0 0) (mR_at htr hA hp hk) rfl hA.1 rfl rfl ywX10_at rfl cwX10_231 ⟨nle rfl, nle rfl⟩ (nle rfl) ⟨nle rfl, nle rfl⟩ dX10_write_66 ?_ (fun _ _ _ z => z.elim)
      intro r_9 h_9 n_9 hq _
      rw [hq.1, hq.2.1, hq.2.2]
      show pw E YX10_write _ _ 0 0 69 [some (.ref B), some (.int (zI (p))), some (.int (zI (b)))] [.int (zI (mCell (p) (s.2 22 p.toNat) ((s.2 23) (p).toNat) ((s.2 24) (p).toNat))), .ref (B + 17)] h n
      refine pw_iload_n dX10_write_69 rfl ?_
      refine pw_iast (t := 0) rfl (mF20 hA) (by first | omega | exact mCell_b hp ko (by omega) (by omega) | exact mHis_b hp (by omega) (by omega)) (by decide) dX10_write_70 ?_
      have hA1 : mAt B (mA 20 (va_up (s.2 20) (mCell (p) (s.2 22 p.toNat) ((s.2 23) (p).toNat) ((s.2 24) (p).toNat)).toNat (b)) s) (va_up h (B + 17) (pz_z 0 10240 (va_up (s.2 20) (mCell (p) (s.2 22 p.toNat) ((s.2 23) (p).toNat) ((s.2 24) (p).toNat)).toNat (b)))) := mU20 hA
      have hk1 : mPk (mA 20 (va_up (s.2 20) (mCell (p) (s.2 22 p.toNat) ((s.2 23) (p).toNat) ((s.2 24) (p).toNat)).toNat (b)) s) p.toNat := mPc hk (by decide)
      have hr1 : mPr p.toNat s (mA 20 (va_up (s.2 20) (mCell (p) (s.2 22 p.toNat) ((s.2 23) (p).toNat) ((s.2 24) (p).toNat)).toNat (b)) s) := mPr_tr mPr_rf (mPr_C (by decide))
      have hF1 : mFr B h (va_up h (B + 17) (pz_z 0 10240 (va_up (s.2 20) (mCell (p) (s.2 22 p.toNat) ((s.2 23) (p).toNat) ((s.2 24) (p).toNat)).toNat (b)))) := mFr_tr mFr_rf (mFr_up (by decide))
      revert hA1 hk1 hr1 hF1 
      generalize (mA 20 (va_up (s.2 20) (mCell (p) (s.2 22 p.toNat) ((s.2 23) (p).toNat) ((s.2 24) (p).toNat)).toNat (b)) s) = s1
      generalize (va_up h (B + 17) (pz_z 0 10240 (va_up (s.2 20) (mCell (p) (s.2 22 p.toNat) ((s.2 23) (p).toNat) ((s.2 24) (p).toNat)).toNat (b)))) = h1
      intro hA1 hk1 hr1 hF1 
      obtain ⟨kw, kh, kr, kc, ksr, ksc, kt, ko, kwa, kin, kwr, khi, krd, knu, kgi, kas, kfr, kra, kco, kof, kip⟩ := id hk1
      have e18 := congrFun (hr1.2.1 18 (by decide)) p.toNat
      have e19 := congrFun (hr1.2.1 19 (by decide)) p.toNat
      refine pw_aload_n dX10_write_71 rfl ?_
      refine pw_get (v := .ref (B + 18)) okX10 (k := 21) (by decide) lkX10_62 hA1.1 rfl dX10_write_72 ?_
      refine pw_aload_n dX10_write_75 rfl ?_
      refine pw_iload_n dX10_write_76 rfl ?_
      refine pw_aload_n dX10_write_77 rfl ?_
      refine pw_get (v := .ref (B + 20)) okX10 (k := 23) (by decide) lkX10_68 hA1.1 rfl dX10_write_78 ?_
      refine pw_iload_n dX10_write_81 rfl ?_
      refine pw_iald (t := 0) rfl (mF23 hA1) (by first | omega | exact mCell_b hp ko (by omega) (by omega) | exact mHis_b hp (by omega) (by omega)) (by decide) dX10_write_82 ?_
      refine pw_aload_n dX10_write_83 rfl ?_
      refine pw_get (v := .ref (B + 21)) okX10 (k := 24) (by decide) lkX10_71 hA1.1 rfl dX10_write_84 ?_
      refine pw_iload_n dX10_write_87 rfl ?_
      refine pw_iald (t := 0) rfl (mF24 hA1) (by first | omega | exact mCell_b hp ko (by omega) (by omega) | exact mHis_b hp (by omega) (by omega)) (by decide) dX10_write_88 ?_
      refine pw_callV (As := [.int (zI (p)), .int (zI ((s1.2 23) (p).toNat)), .int (zI ((s1.2 24) (p).toNat))]) (b := B) (rm := rmD 1 0 0) (mR_at htr hA1 hp hk1) rfl hA1.1 rfl rfl ywX10_at rfl cwX10_231 ⟨nle rfl, nle rfl⟩ (nle rfl) ⟨nle rfl, nle rfl⟩ dX10_write_89 ?_ (fun _ _ _ z => z.elim)
      intro r_9 h_9 n_9 hq _
      rw [hq.1, hq.2.1, hq.2.2]
      show pw E YX10_write _ _ 0 0 92 [some (.ref B), some (.int (zI (p))), some (.int (zI (b)))] [.int (zI (mCell (p) (s1.2 22 p.toNat) ((s1.2 23) (p).toNat) ((s1.2 24) (p).toNat))), .ref (B + 18)] h1 n
      refine pw_aload_n dX10_write_92 rfl ?_
      refine pw_get (v := .ref (B + 22)) okX10 (k := 25) (by decide) lkX10_74 hA1.1 rfl dX10_write_93 ?_
      refine pw_iload_n dX10_write_96 rfl ?_
      refine pw_iald (t := 0) rfl (mF25 hA1) (by first | omega | exact mCell_b hp ko (by omega) (by omega) | exact mHis_b hp (by omega) (by omega)) (by decide) dX10_write_97 ?_
      refine pw_iast (t := 0) rfl (mF21 hA1) (by first | omega | exact mCell_b hp ko (by omega) (by omega) | exact mHis_b hp (by omega) (by omega)) (by decide) dX10_write_98 ?_
      have hA2 : mAt B (mA 21 (va_up (s1.2 21) (mCell (p) (s1.2 22 p.toNat) ((s1.2 23) (p).toNat) ((s1.2 24) (p).toNat)).toNat ((s1.2 25) (p).toNat)) s1) (va_up h1 (B + 18) (pz_z 0 10240 (va_up (s1.2 21) (mCell (p) (s1.2 22 p.toNat) ((s1.2 23) (p).toNat) ((s1.2 24) (p).toNat)).toNat ((s1.2 25) (p).toNat)))) := mU21 hA1
      have hk2 : mPk (mA 21 (va_up (s1.2 21) (mCell (p) (s1.2 22 p.toNat) ((s1.2 23) (p).toNat) ((s1.2 24) (p).toNat)).toNat ((s1.2 25) (p).toNat)) s1) p.toNat := mPc hk1 (by decide)
      have hr2 : mPr p.toNat s (mA 21 (va_up (s1.2 21) (mCell (p) (s1.2 22 p.toNat) ((s1.2 23) (p).toNat) ((s1.2 24) (p).toNat)).toNat ((s1.2 25) (p).toNat)) s1) := mPr_tr hr1 (mPr_C (by decide))
      have hF2 : mFr B h (va_up h1 (B + 18) (pz_z 0 10240 (va_up (s1.2 21) (mCell (p) (s1.2 22 p.toNat) ((s1.2 23) (p).toNat) ((s1.2 24) (p).toNat)).toNat ((s1.2 25) (p).toNat)))) := mFr_tr hF1 (mFr_up (by decide))
      revert hA2 hk2 hr2 hF2 
      generalize (mA 21 (va_up (s1.2 21) (mCell (p) (s1.2 22 p.toNat) ((s1.2 23) (p).toNat) ((s1.2 24) (p).toNat)).toNat ((s1.2 25) (p).toNat)) s1) = s2
      generalize (va_up h1 (B + 18) (pz_z 0 10240 (va_up (s1.2 21) (mCell (p) (s1.2 22 p.toNat) ((s1.2 23) (p).toNat) ((s1.2 24) (p).toNat)).toNat ((s1.2 25) (p).toNat)))) = h2
      intro hA2 hk2 hr2 hF2 
      obtain ⟨kw, kh, kr, kc, ksr, ksc, kt, ko, kwa, kin, kwr, khi, krd, knu, kgi, kas, kfr, kra, kco, kof, kip⟩ := id hk2
      have e18 := congrFun (hr2.2.1 18 (by decide)) p.toNat
      have e19 := congrFun (hr2.2.1 19 (by decide)) p.toNat
      refine pw_aload_n dX10_write_99 rfl ?_
      refine pw_get (v := .ref (B + 21)) okX10 (k := 24) (by decide) lkX10_71 hA2.1 rfl dX10_write_100 ?_
      refine pw_iload_n dX10_write_103 rfl ?_
      refine pw_iald (t := 0) rfl (mF24 hA2) (by first | omega | exact mCell_b hp ko (by omega) (by omega) | exact mHis_b hp (by omega) (by omega)) (by decide) dX10_write_104 ?_
      refine pw_aload_n dX10_write_105 rfl ?_
      refine pw_get (v := .ref (B + 15)) okX10 (k := 18) (by decide) lkX10_53 hA2.1 rfl dX10_write_106 ?_
      refine pw_iload_n dX10_write_109 rfl ?_
      refine pw_iald (t := 0) rfl (mF18 hA2) (by first | omega | exact mCell_b hp ko (by omega) (by omega) | exact mHis_b hp (by omega) (by omega)) (by decide) dX10_write_110 ?_
      refine pw_iconst (v := zI (1)) dX10_write_111 (by decide) ?_
      refine pw_zisub dX10_write_112 ?_
      refine pw_icmp_ne (tgt := 131) dX10_write_113 rfl (by omega) (by omega) (fun c113 => ?_) (fun c113 => ?_)
      ·
        refine pw_aload_n dX10_write_131 rfl ?_
        refine pw_get (v := .ref (B + 21)) okX10 (k := 24) (by decide) lkX10_71 hA2.1 rfl dX10_write_132 ?_
        refine pw_iload_n dX10_write_135 rfl ?_
        refine pw_dup2 dX10_write_136 rfl rfl ?_
        refine pw_iald (t := 0) rfl (mF24 hA2) (by first | omega | exact mCell_b hp ko (by omega) (by omega) | exact mHis_b hp (by omega) (by omega)) (by decide) dX10_write_137 ?_
        refine pw_iconst (v := zI (1)) dX10_write_138 (by decide) ?_
        refine pw_ziadd dX10_write_139 ?_
        refine pw_iast (t := 0) rfl (mF24 hA2) (by first | omega | exact mCell_b hp ko (by omega) (by omega) | exact mHis_b hp (by omega) (by omega)) (by decide) dX10_write_140 ?_
        have hA3 : mAt B (mA 24 (va_up (s2.2 24) (p).toNat (((s2.2 24) (p).toNat) + (1))) s2) (va_up h2 (B + 21) (pz_z 0 8 (va_up (s2.2 24) (p).toNat (((s2.2 24) (p).toNat) + (1))))) := mU24 hA2
        have hk3 : mPk (mA 24 (va_up (s2.2 24) (p).toNat (((s2.2 24) (p).toNat) + (1))) s2) p.toNat := mP24 hk2 (by omega)
        have hr3 : mPr p.toNat s (mA 24 (va_up (s2.2 24) (p).toNat (((s2.2 24) (p).toNat) + (1))) s2) := mPr_tr hr2 (mPr_W (by decide) (by decide) (by decide))
        have hF3 : mFr B h (va_up h2 (B + 21) (pz_z 0 8 (va_up (s2.2 24) (p).toNat (((s2.2 24) (p).toNat) + (1))))) := mFr_tr hF2 (mFr_up (by decide))
        revert hA3 hk3 hr3 hF3 
        generalize (mA 24 (va_up (s2.2 24) (p).toNat (((s2.2 24) (p).toNat) + (1))) s2) = s3
        generalize (va_up h2 (B + 21) (pz_z 0 8 (va_up (s2.2 24) (p).toNat (((s2.2 24) (p).toNat) + (1))))) = h3
        intro hA3 hk3 hr3 hF3 
        obtain ⟨kw, kh, kr, kc, ksr, ksc, kt, ko, kwa, kin, kwr, khi, krd, knu, kgi, kas, kfr, kra, kco, kof, kip⟩ := id hk3
        have e18 := congrFun (hr3.2.1 18 (by decide)) p.toNat
        have e19 := congrFun (hr3.2.1 19 (by decide)) p.toNat
        exact pw_vret dX10_write_141 rfl (nle rfl) (nle rfl) ⟨rfl, s3, hA3, hk3, hr3, hF3, rfl⟩
      ·
        refine pw_aload_n dX10_write_116 rfl ?_
        refine pw_get (v := .ref (B + 28)) okX10 (k := 31) (by decide) lkX10_92 hA2.1 rfl dX10_write_117 ?_
        refine pw_iload_n dX10_write_120 rfl ?_
        refine pw_aload_n dX10_write_121 rfl ?_
        refine pw_get (v := .ref (B + 30)) okX10 (k := 33) (by decide) lkX10_98 hA2.1 rfl dX10_write_122 ?_
        refine pw_iload_n dX10_write_125 rfl ?_
        refine pw_zald (t := 1) rfl (mF33 hA2) (by first | omega | exact mCell_b hp ko (by omega) (by omega) | exact mHis_b hp (by omega) (by omega)) (by decide) dX10_write_126 ?_
        refine pw_zast (t := 1) rfl (mF31 hA2) (by first | omega | exact mCell_b hp ko (by omega) (by omega) | exact mHis_b hp (by omega) (by omega)) (by decide) (by omega) dX10_write_127 ?_
        have hA4 : mAt B (mA 31 (va_up (s2.2 31) (p).toNat ((s2.2 33) (p).toNat)) s2) (va_up h2 (B + 28) (pz_z 1 8 (va_up (s2.2 31) (p).toNat ((s2.2 33) (p).toNat)))) := mU31 hA2
        have hk4 : mPk (mA 31 (va_up (s2.2 31) (p).toNat ((s2.2 33) (p).toNat)) s2) p.toNat := mP31 hk2 (by omega)
        have hr4 : mPr p.toNat s (mA 31 (va_up (s2.2 31) (p).toNat ((s2.2 33) (p).toNat)) s2) := mPr_tr hr2 (mPr_W (by decide) (by decide) (by decide))
        have hF4 : mFr B h (va_up h2 (B + 28) (pz_z 1 8 (va_up (s2.2 31) (p).toNat ((s2.2 33) (p).toNat)))) := mFr_tr hF2 (mFr_up (by decide))
        revert hA4 hk4 hr4 hF4 
        generalize (mA 31 (va_up (s2.2 31) (p).toNat ((s2.2 33) (p).toNat)) s2) = s4
        generalize (va_up h2 (B + 28) (pz_z 1 8 (va_up (s2.2 31) (p).toNat ((s2.2 33) (p).toNat)))) = h4
        intro hA4 hk4 hr4 hF4 
        obtain ⟨kw, kh, kr, kc, ksr, ksc, kt, ko, kwa, kin, kwr, khi, krd, knu, kgi, kas, kfr, kra, kco, kof, kip⟩ := id hk4
        have e18 := congrFun (hr4.2.1 18 (by decide)) p.toNat
        have e19 := congrFun (hr4.2.1 19 (by decide)) p.toNat
        refine pw_goto (tgt := 141) dX10_write_128 rfl ?_
        exact pw_vret dX10_write_141 rfl (nle rfl) (nle rfl) ⟨rfl, s4, hA4, hk4, hr4, hF4, rfl⟩
    ·
      refine pw_aload_n dX10_write_30 rfl ?_
      refine pw_iload_n dX10_write_31 rfl ?_
      refine pw_aload_n dX10_write_32 rfl ?_
      refine pw_get (v := .ref (B + 20)) okX10 (k := 23) (by decide) lkX10_68 hA.1 rfl dX10_write_33 ?_
      refine pw_iload_n dX10_write_36 rfl ?_
      refine pw_iald (t := 0) rfl (mF23 hA) (by first | omega | exact mCell_b hp ko (by omega) (by omega) | exact mHis_b hp (by omega) (by omega)) (by decide) dX10_write_37 ?_
      refine pw_aload_n dX10_write_38 rfl ?_
      refine pw_get (v := .ref (B + 21)) okX10 (k := 24) (by decide) lkX10_71 hA.1 rfl dX10_write_39 ?_
      refine pw_iload_n dX10_write_42 rfl ?_
      refine pw_iald (t := 0) rfl (mF24 hA) (by first | omega | exact mCell_b hp ko (by omega) (by omega) | exact mHis_b hp (by omega) (by omega)) (by decide) dX10_write_43 ?_
      refine pw_iconst (v := zI (1)) dX10_write_44 (by decide) ?_
      refine pw_callV (As := [.int (zI (p)), .int (zI ((s.2 23) (p).toNat)), .int (zI ((s.2 24) (p).toNat)), .int (zI (1))]) (b := B) (rm := rmD 2 0 0) (mR_push htr hA hp hk (by omega) (by omega) (by omega)) rfl hA.1 rfl rfl ywX10_push rfl cwX10_258 ⟨nle rfl, nle rfl⟩ (nle rfl) ⟨nle rfl, nle rfl⟩ dX10_write_45 ?_ (fun _ _ _ z => z.elim)
      intro r_9 h5 n_9 hq _
      obtain ⟨e1, s5, hA5, hk5, hr50, hF50, e4⟩ := hq
      rw [e1, e4]
      show pw E YX10_write _ _ 0 0 48 [some (.ref B), some (.int (zI (p))), some (.int (zI (b)))] [] h5 n
      have hr5 := mPr_tr mPr_rf hr50
      have hF5 := mFr_tr mFr_rf hF50
      obtain ⟨kw, kh, kr, kc, ksr, ksc, kt, ko, kwa, kin, kwr, khi, krd, knu, kgi, kas, kfr, kra, kco, kof, kip⟩ := id hk5
      have e18 := congrFun (hr5.2.1 18 (by decide)) p.toNat
      have e19 := congrFun (hr5.2.1 19 (by decide)) p.toNat
      refine pw_aload_n dX10_write_48 rfl ?_
      refine pw_get (v := .ref (B + 17)) okX10 (k := 20) (by decide) lkX10_59 hA5.1 rfl dX10_write_49 ?_
      refine pw_aload_n dX10_write_52 rfl ?_
      refine pw_iload_n dX10_write_53 rfl ?_
      refine pw_aload_n dX10_write_54 rfl ?_
      refine pw_get (v := .ref (B + 20)) okX10 (k := 23) (by decide) lkX10_68 hA5.1 rfl dX10_write_55 ?_
      refine pw_iload_n dX10_write_58 rfl ?_
      refine pw_iald (t := 0) rfl (mF23 hA5) (by first | omega | exact mCell_b hp ko (by omega) (by omega) | exact mHis_b hp (by omega) (by omega)) (by decide) dX10_write_59 ?_
      refine pw_aload_n dX10_write_60 rfl ?_
      refine pw_get (v := .ref (B + 21)) okX10 (k := 24) (by decide) lkX10_71 hA5.1 rfl dX10_write_61 ?_
      refine pw_iload_n dX10_write_64 rfl ?_
      refine pw_iald (t := 0) rfl (mF24 hA5) (by first | omega | exact mCell_b hp ko (by omega) (by omega) | exact mHis_b hp (by omega) (by omega)) (by decide) dX10_write_65 ?_
      refine pw_callV (As := [.int (zI (p)), .int (zI ((s5.2 23) (p).toNat)), .int (zI ((s5.2 24) (p).toNat))]) (b := B) (rm := rmD 1 0 0) (mR_at htr hA5 hp hk5) rfl hA5.1 rfl rfl ywX10_at rfl cwX10_231 ⟨nle rfl, nle rfl⟩ (nle rfl) ⟨nle rfl, nle rfl⟩ dX10_write_66 ?_ (fun _ _ _ z => z.elim)
      intro r_9 h_9 n_9 hq _
      rw [hq.1, hq.2.1, hq.2.2]
      show pw E YX10_write _ _ 0 0 69 [some (.ref B), some (.int (zI (p))), some (.int (zI (b)))] [.int (zI (mCell (p) (s5.2 22 p.toNat) ((s5.2 23) (p).toNat) ((s5.2 24) (p).toNat))), .ref (B + 17)] h5 n
      refine pw_iload_n dX10_write_69 rfl ?_
      refine pw_iast (t := 0) rfl (mF20 hA5) (by first | omega | exact mCell_b hp ko (by omega) (by omega) | exact mHis_b hp (by omega) (by omega)) (by decide) dX10_write_70 ?_
      have hA6 : mAt B (mA 20 (va_up (s5.2 20) (mCell (p) (s5.2 22 p.toNat) ((s5.2 23) (p).toNat) ((s5.2 24) (p).toNat)).toNat (b)) s5) (va_up h5 (B + 17) (pz_z 0 10240 (va_up (s5.2 20) (mCell (p) (s5.2 22 p.toNat) ((s5.2 23) (p).toNat) ((s5.2 24) (p).toNat)).toNat (b)))) := mU20 hA5
      have hk6 : mPk (mA 20 (va_up (s5.2 20) (mCell (p) (s5.2 22 p.toNat) ((s5.2 23) (p).toNat) ((s5.2 24) (p).toNat)).toNat (b)) s5) p.toNat := mPc hk5 (by decide)
      have hr6 : mPr p.toNat s (mA 20 (va_up (s5.2 20) (mCell (p) (s5.2 22 p.toNat) ((s5.2 23) (p).toNat) ((s5.2 24) (p).toNat)).toNat (b)) s5) := mPr_tr hr5 (mPr_C (by decide))
      have hF6 : mFr B h (va_up h5 (B + 17) (pz_z 0 10240 (va_up (s5.2 20) (mCell (p) (s5.2 22 p.toNat) ((s5.2 23) (p).toNat) ((s5.2 24) (p).toNat)).toNat (b)))) := mFr_tr hF5 (mFr_up (by decide))
      revert hA6 hk6 hr6 hF6 
      generalize (mA 20 (va_up (s5.2 20) (mCell (p) (s5.2 22 p.toNat) ((s5.2 23) (p).toNat) ((s5.2 24) (p).toNat)).toNat (b)) s5) = s6
      generalize (va_up h5 (B + 17) (pz_z 0 10240 (va_up (s5.2 20) (mCell (p) (s5.2 22 p.toNat) ((s5.2 23) (p).toNat) ((s5.2 24) (p).toNat)).toNat (b)))) = h6
      intro hA6 hk6 hr6 hF6 
      obtain ⟨kw, kh, kr, kc, ksr, ksc, kt, ko, kwa, kin, kwr, khi, krd, knu, kgi, kas, kfr, kra, kco, kof, kip⟩ := id hk6
      have e18 := congrFun (hr6.2.1 18 (by decide)) p.toNat
      have e19 := congrFun (hr6.2.1 19 (by decide)) p.toNat
      refine pw_aload_n dX10_write_71 rfl ?_
      refine pw_get (v := .ref (B + 18)) okX10 (k := 21) (by decide) lkX10_62 hA6.1 rfl dX10_write_72 ?_
      refine pw_aload_n dX10_write_75 rfl ?_
      refine pw_iload_n dX10_write_76 rfl ?_
      refine pw_aload_n dX10_write_77 rfl ?_
      refine pw_get (v := .ref (B + 20)) okX10 (k := 23) (by decide) lkX10_68 hA6.1 rfl dX10_write_78 ?_
      refine pw_iload_n dX10_write_81 rfl ?_
      refine pw_iald (t := 0) rfl (mF23 hA6) (by first | omega | exact mCell_b hp ko (by omega) (by omega) | exact mHis_b hp (by omega) (by omega)) (by decide) dX10_write_82 ?_
      refine pw_aload_n dX10_write_83 rfl ?_
      refine pw_get (v := .ref (B + 21)) okX10 (k := 24) (by decide) lkX10_71 hA6.1 rfl dX10_write_84 ?_
      refine pw_iload_n dX10_write_87 rfl ?_
      refine pw_iald (t := 0) rfl (mF24 hA6) (by first | omega | exact mCell_b hp ko (by omega) (by omega) | exact mHis_b hp (by omega) (by omega)) (by decide) dX10_write_88 ?_
      refine pw_callV (As := [.int (zI (p)), .int (zI ((s6.2 23) (p).toNat)), .int (zI ((s6.2 24) (p).toNat))]) (b := B) (rm := rmD 1 0 0) (mR_at htr hA6 hp hk6) rfl hA6.1 rfl rfl ywX10_at rfl cwX10_231 ⟨nle rfl, nle rfl⟩ (nle rfl) ⟨nle rfl, nle rfl⟩ dX10_write_89 ?_ (fun _ _ _ z => z.elim)
      intro r_9 h_9 n_9 hq _
      rw [hq.1, hq.2.1, hq.2.2]
      show pw E YX10_write _ _ 0 0 92 [some (.ref B), some (.int (zI (p))), some (.int (zI (b)))] [.int (zI (mCell (p) (s6.2 22 p.toNat) ((s6.2 23) (p).toNat) ((s6.2 24) (p).toNat))), .ref (B + 18)] h6 n
      refine pw_aload_n dX10_write_92 rfl ?_
      refine pw_get (v := .ref (B + 22)) okX10 (k := 25) (by decide) lkX10_74 hA6.1 rfl dX10_write_93 ?_
      refine pw_iload_n dX10_write_96 rfl ?_
      refine pw_iald (t := 0) rfl (mF25 hA6) (by first | omega | exact mCell_b hp ko (by omega) (by omega) | exact mHis_b hp (by omega) (by omega)) (by decide) dX10_write_97 ?_
      refine pw_iast (t := 0) rfl (mF21 hA6) (by first | omega | exact mCell_b hp ko (by omega) (by omega) | exact mHis_b hp (by omega) (by omega)) (by decide) dX10_write_98 ?_
      have hA7 : mAt B (mA 21 (va_up (s6.2 21) (mCell (p) (s6.2 22 p.toNat) ((s6.2 23) (p).toNat) ((s6.2 24) (p).toNat)).toNat ((s6.2 25) (p).toNat)) s6) (va_up h6 (B + 18) (pz_z 0 10240 (va_up (s6.2 21) (mCell (p) (s6.2 22 p.toNat) ((s6.2 23) (p).toNat) ((s6.2 24) (p).toNat)).toNat ((s6.2 25) (p).toNat)))) := mU21 hA6
      have hk7 : mPk (mA 21 (va_up (s6.2 21) (mCell (p) (s6.2 22 p.toNat) ((s6.2 23) (p).toNat) ((s6.2 24) (p).toNat)).toNat ((s6.2 25) (p).toNat)) s6) p.toNat := mPc hk6 (by decide)
      have hr7 : mPr p.toNat s (mA 21 (va_up (s6.2 21) (mCell (p) (s6.2 22 p.toNat) ((s6.2 23) (p).toNat) ((s6.2 24) (p).toNat)).toNat ((s6.2 25) (p).toNat)) s6) := mPr_tr hr6 (mPr_C (by decide))
      have hF7 : mFr B h (va_up h6 (B + 18) (pz_z 0 10240 (va_up (s6.2 21) (mCell (p) (s6.2 22 p.toNat) ((s6.2 23) (p).toNat) ((s6.2 24) (p).toNat)).toNat ((s6.2 25) (p).toNat)))) := mFr_tr hF6 (mFr_up (by decide))
      revert hA7 hk7 hr7 hF7 
      generalize (mA 21 (va_up (s6.2 21) (mCell (p) (s6.2 22 p.toNat) ((s6.2 23) (p).toNat) ((s6.2 24) (p).toNat)).toNat ((s6.2 25) (p).toNat)) s6) = s7
      generalize (va_up h6 (B + 18) (pz_z 0 10240 (va_up (s6.2 21) (mCell (p) (s6.2 22 p.toNat) ((s6.2 23) (p).toNat) ((s6.2 24) (p).toNat)).toNat ((s6.2 25) (p).toNat)))) = h7
      intro hA7 hk7 hr7 hF7 
      obtain ⟨kw, kh, kr, kc, ksr, ksc, kt, ko, kwa, kin, kwr, khi, krd, knu, kgi, kas, kfr, kra, kco, kof, kip⟩ := id hk7
      have e18 := congrFun (hr7.2.1 18 (by decide)) p.toNat
      have e19 := congrFun (hr7.2.1 19 (by decide)) p.toNat
      refine pw_aload_n dX10_write_99 rfl ?_
      refine pw_get (v := .ref (B + 21)) okX10 (k := 24) (by decide) lkX10_71 hA7.1 rfl dX10_write_100 ?_
      refine pw_iload_n dX10_write_103 rfl ?_
      refine pw_iald (t := 0) rfl (mF24 hA7) (by first | omega | exact mCell_b hp ko (by omega) (by omega) | exact mHis_b hp (by omega) (by omega)) (by decide) dX10_write_104 ?_
      refine pw_aload_n dX10_write_105 rfl ?_
      refine pw_get (v := .ref (B + 15)) okX10 (k := 18) (by decide) lkX10_53 hA7.1 rfl dX10_write_106 ?_
      refine pw_iload_n dX10_write_109 rfl ?_
      refine pw_iald (t := 0) rfl (mF18 hA7) (by first | omega | exact mCell_b hp ko (by omega) (by omega) | exact mHis_b hp (by omega) (by omega)) (by decide) dX10_write_110 ?_
      refine pw_iconst (v := zI (1)) dX10_write_111 (by decide) ?_
      refine pw_zisub dX10_write_112 ?_
      refine pw_icmp_ne (tgt := 131) dX10_write_113 rfl (by omega) (by omega) (fun c113 => ?_) (fun c113 => ?_)
      ·
        refine pw_aload_n dX10_write_131 rfl ?_
        refine pw_get (v := .ref (B + 21)) okX10 (k := 24) (by decide) lkX10_71 hA7.1 rfl dX10_write_132 ?_
        refine pw_iload_n dX10_write_135 rfl ?_
        refine pw_dup2 dX10_write_136 rfl rfl ?_
        refine pw_iald (t := 0) rfl (mF24 hA7) (by first | omega | exact mCell_b hp ko (by omega) (by omega) | exact mHis_b hp (by omega) (by omega)) (by decide) dX10_write_137 ?_
        refine pw_iconst (v := zI (1)) dX10_write_138 (by decide) ?_
        refine pw_ziadd dX10_write_139 ?_
        refine pw_iast (t := 0) rfl (mF24 hA7) (by first | omega | exact mCell_b hp ko (by omega) (by omega) | exact mHis_b hp (by omega) (by omega)) (by decide) dX10_write_140 ?_
        have hA8 : mAt B (mA 24 (va_up (s7.2 24) (p).toNat (((s7.2 24) (p).toNat) + (1))) s7) (va_up h7 (B + 21) (pz_z 0 8 (va_up (s7.2 24) (p).toNat (((s7.2 24) (p).toNat) + (1))))) := mU24 hA7
        have hk8 : mPk (mA 24 (va_up (s7.2 24) (p).toNat (((s7.2 24) (p).toNat) + (1))) s7) p.toNat := mP24 hk7 (by omega)
        have hr8 : mPr p.toNat s (mA 24 (va_up (s7.2 24) (p).toNat (((s7.2 24) (p).toNat) + (1))) s7) := mPr_tr hr7 (mPr_W (by decide) (by decide) (by decide))
        have hF8 : mFr B h (va_up h7 (B + 21) (pz_z 0 8 (va_up (s7.2 24) (p).toNat (((s7.2 24) (p).toNat) + (1))))) := mFr_tr hF7 (mFr_up (by decide))
        revert hA8 hk8 hr8 hF8 
        generalize (mA 24 (va_up (s7.2 24) (p).toNat (((s7.2 24) (p).toNat) + (1))) s7) = s8
        generalize (va_up h7 (B + 21) (pz_z 0 8 (va_up (s7.2 24) (p).toNat (((s7.2 24) (p).toNat) + (1))))) = h8
        intro hA8 hk8 hr8 hF8 
        obtain ⟨kw, kh, kr, kc, ksr, ksc, kt, ko, kwa, kin, kwr, khi, krd, knu, kgi, kas, kfr, kra, kco, kof, kip⟩ := id hk8
        have e18 := congrFun (hr8.2.1 18 (by decide)) p.toNat
        have e19 := congrFun (hr8.2.1 19 (by decide)) p.toNat
        exact pw_vret dX10_write_141 rfl (nle rfl) (nle rfl) ⟨rfl, s8, hA8, hk8, hr8, hF8, rfl⟩
      ·
        refine pw_aload_n dX10_write_116 rfl ?_
        refine pw_get (v := .ref (B + 28)) okX10 (k := 31) (by decide) lkX10_92 hA7.1 rfl dX10_write_117 ?_
        refine pw_iload_n dX10_write_120 rfl ?_
        refine pw_aload_n dX10_write_121 rfl ?_
        refine pw_get (v := .ref (B + 30)) okX10 (k := 33) (by decide) lkX10_98 hA7.1 rfl dX10_write_122 ?_
        refine pw_iload_n dX10_write_125 rfl ?_
        refine pw_zald (t := 1) rfl (mF33 hA7) (by first | omega | exact mCell_b hp ko (by omega) (by omega) | exact mHis_b hp (by omega) (by omega)) (by decide) dX10_write_126 ?_
        refine pw_zast (t := 1) rfl (mF31 hA7) (by first | omega | exact mCell_b hp ko (by omega) (by omega) | exact mHis_b hp (by omega) (by omega)) (by decide) (by omega) dX10_write_127 ?_
        have hA9 : mAt B (mA 31 (va_up (s7.2 31) (p).toNat ((s7.2 33) (p).toNat)) s7) (va_up h7 (B + 28) (pz_z 1 8 (va_up (s7.2 31) (p).toNat ((s7.2 33) (p).toNat)))) := mU31 hA7
        have hk9 : mPk (mA 31 (va_up (s7.2 31) (p).toNat ((s7.2 33) (p).toNat)) s7) p.toNat := mP31 hk7 (by omega)
        have hr9 : mPr p.toNat s (mA 31 (va_up (s7.2 31) (p).toNat ((s7.2 33) (p).toNat)) s7) := mPr_tr hr7 (mPr_W (by decide) (by decide) (by decide))
        have hF9 : mFr B h (va_up h7 (B + 28) (pz_z 1 8 (va_up (s7.2 31) (p).toNat ((s7.2 33) (p).toNat)))) := mFr_tr hF7 (mFr_up (by decide))
        revert hA9 hk9 hr9 hF9 
        generalize (mA 31 (va_up (s7.2 31) (p).toNat ((s7.2 33) (p).toNat)) s7) = s9
        generalize (va_up h7 (B + 28) (pz_z 1 8 (va_up (s7.2 31) (p).toNat ((s7.2 33) (p).toNat)))) = h9
        intro hA9 hk9 hr9 hF9 
        obtain ⟨kw, kh, kr, kc, ksr, ksc, kt, ko, kwa, kin, kwr, khi, krd, knu, kgi, kas, kfr, kra, kco, kof, kip⟩ := id hk9
        have e18 := congrFun (hr9.2.1 18 (by decide)) p.toNat
        have e19 := congrFun (hr9.2.1 19 (by decide)) p.toNat
        refine pw_goto (tgt := 141) dX10_write_128 rfl ?_
        exact pw_vret dX10_write_141 rfl (nle rfl) (nle rfl) ⟨rfl, s9, hA9, hk9, hr9, hF9, rfl⟩
  ·
    refine pw_aload_n dX10_write_9 rfl ?_
    refine pw_get (v := .ref (B + 21)) okX10 (k := 24) (by decide) lkX10_71 hA.1 rfl dX10_write_10 ?_
    refine pw_iload_n dX10_write_13 rfl ?_
    refine pw_iconst (v := zI (0)) dX10_write_14 (by decide) ?_
    refine pw_iast (t := 0) rfl (mF24 hA) (by first | omega | exact mCell_b hp ko (by omega) (by omega) | exact mHis_b hp (by omega) (by omega)) (by decide) dX10_write_15 ?_
    have hA10 : mAt B (mA 24 (va_up (s.2 24) (p).toNat (0)) s) (va_up h (B + 21) (pz_z 0 8 (va_up (s.2 24) (p).toNat (0)))) := mU24 hA
    have hk10 : mPk (mA 24 (va_up (s.2 24) (p).toNat (0)) s) p.toNat := mP24 hk (by omega)
    have hr10 : mPr p.toNat s (mA 24 (va_up (s.2 24) (p).toNat (0)) s) := mPr_tr mPr_rf (mPr_W (by decide) (by decide) (by decide))
    have hF10 : mFr B h (va_up h (B + 21) (pz_z 0 8 (va_up (s.2 24) (p).toNat (0)))) := mFr_tr mFr_rf (mFr_up (by decide))
    revert hA10 hk10 hr10 hF10 
    generalize (mA 24 (va_up (s.2 24) (p).toNat (0)) s) = s10
    generalize (va_up h (B + 21) (pz_z 0 8 (va_up (s.2 24) (p).toNat (0)))) = h10
    intro hA10 hk10 hr10 hF10 
    obtain ⟨kw, kh, kr, kc, ksr, ksc, kt, ko, kwa, kin, kwr, khi, krd, knu, kgi, kas, kfr, kra, kco, kof, kip⟩ := id hk10
    have e18 := congrFun (hr10.2.1 18 (by decide)) p.toNat
    have e19 := congrFun (hr10.2.1 19 (by decide)) p.toNat
    refine pw_aload_n dX10_write_16 rfl ?_
    refine pw_iload_n dX10_write_17 rfl ?_
    refine pw_callV (As := [.int (zI (p))]) (b := B) (rm := rmD 4 0 0) (mR_down htr hA10 hp hk10) rfl hA10.1 rfl rfl ywX10_down rfl cwX10_255 ⟨nle rfl, nle rfl⟩ (nle rfl) ⟨nle rfl, nle rfl⟩ dX10_write_18 ?_ (fun _ _ _ z => z.elim)
    intro r_9 h11 n_9 hq _
    obtain ⟨e1, s11, hA11, hk11, hr110, hF110, e4⟩ := hq
    rw [e1, e4]
    show pw E YX10_write _ _ 0 0 21 [some (.ref B), some (.int (zI (p))), some (.int (zI (b)))] [] h11 n
    have hr11 := mPr_tr hr10 hr110
    have hF11 := mFr_tr hF10 hF110
    obtain ⟨kw, kh, kr, kc, ksr, ksc, kt, ko, kwa, kin, kwr, khi, krd, knu, kgi, kas, kfr, kra, kco, kof, kip⟩ := id hk11
    have e18 := congrFun (hr11.2.1 18 (by decide)) p.toNat
    have e19 := congrFun (hr11.2.1 19 (by decide)) p.toNat
    refine pw_aload_n dX10_write_21 rfl ?_
    refine pw_get (v := .ref (B + 29)) okX10 (k := 32) (by decide) lkX10_95 hA11.1 rfl dX10_write_22 ?_
    refine pw_iload_n dX10_write_25 rfl ?_
    refine pw_zald (t := 1) rfl (mF32 hA11) (by first | omega | exact mCell_b hp ko (by omega) (by omega) | exact mHis_b hp (by omega) (by omega)) (by decide) dX10_write_26 ?_
    refine pw_if_eq (tgt := 48) dX10_write_27 rfl (by omega) (fun c27 => ?_) (fun c27 => ?_)
    ·
      refine pw_aload_n dX10_write_48 rfl ?_
      refine pw_get (v := .ref (B + 17)) okX10 (k := 20) (by decide) lkX10_59 hA11.1 rfl dX10_write_49 ?_
      refine pw_aload_n dX10_write_52 rfl ?_
      refine pw_iload_n dX10_write_53 rfl ?_
      refine pw_aload_n dX10_write_54 rfl ?_
      refine pw_get (v := .ref (B + 20)) okX10 (k := 23) (by decide) lkX10_68 hA11.1 rfl dX10_write_55 ?_
      refine pw_iload_n dX10_write_58 rfl ?_
      refine pw_iald (t := 0) rfl (mF23 hA11) (by first | omega | exact mCell_b hp ko (by omega) (by omega) | exact mHis_b hp (by omega) (by omega)) (by decide) dX10_write_59 ?_
      refine pw_aload_n dX10_write_60 rfl ?_
      refine pw_get (v := .ref (B + 21)) okX10 (k := 24) (by decide) lkX10_71 hA11.1 rfl dX10_write_61 ?_
      refine pw_iload_n dX10_write_64 rfl ?_
      refine pw_iald (t := 0) rfl (mF24 hA11) (by first | omega | exact mCell_b hp ko (by omega) (by omega) | exact mHis_b hp (by omega) (by omega)) (by decide) dX10_write_65 ?_
      refine pw_callV (As := [.int (zI (p)), .int (zI ((s11.2 23) (p).toNat)), .int (zI ((s11.2 24) (p).toNat))]) (b := B) (rm := rmD 1 0 0) (mR_at htr hA11 hp hk11) rfl hA11.1 rfl rfl ywX10_at rfl cwX10_231 ⟨nle rfl, nle rfl⟩ (nle rfl) ⟨nle rfl, nle rfl⟩ dX10_write_66 ?_ (fun _ _ _ z => z.elim)
      intro r_9 h_9 n_9 hq _
      rw [hq.1, hq.2.1, hq.2.2]
      show pw E YX10_write _ _ 0 0 69 [some (.ref B), some (.int (zI (p))), some (.int (zI (b)))] [.int (zI (mCell (p) (s11.2 22 p.toNat) ((s11.2 23) (p).toNat) ((s11.2 24) (p).toNat))), .ref (B + 17)] h11 n
      refine pw_iload_n dX10_write_69 rfl ?_
      refine pw_iast (t := 0) rfl (mF20 hA11) (by first | omega | exact mCell_b hp ko (by omega) (by omega) | exact mHis_b hp (by omega) (by omega)) (by decide) dX10_write_70 ?_
      have hA12 : mAt B (mA 20 (va_up (s11.2 20) (mCell (p) (s11.2 22 p.toNat) ((s11.2 23) (p).toNat) ((s11.2 24) (p).toNat)).toNat (b)) s11) (va_up h11 (B + 17) (pz_z 0 10240 (va_up (s11.2 20) (mCell (p) (s11.2 22 p.toNat) ((s11.2 23) (p).toNat) ((s11.2 24) (p).toNat)).toNat (b)))) := mU20 hA11
      have hk12 : mPk (mA 20 (va_up (s11.2 20) (mCell (p) (s11.2 22 p.toNat) ((s11.2 23) (p).toNat) ((s11.2 24) (p).toNat)).toNat (b)) s11) p.toNat := mPc hk11 (by decide)
      have hr12 : mPr p.toNat s (mA 20 (va_up (s11.2 20) (mCell (p) (s11.2 22 p.toNat) ((s11.2 23) (p).toNat) ((s11.2 24) (p).toNat)).toNat (b)) s11) := mPr_tr hr11 (mPr_C (by decide))
      have hF12 : mFr B h (va_up h11 (B + 17) (pz_z 0 10240 (va_up (s11.2 20) (mCell (p) (s11.2 22 p.toNat) ((s11.2 23) (p).toNat) ((s11.2 24) (p).toNat)).toNat (b)))) := mFr_tr hF11 (mFr_up (by decide))
      revert hA12 hk12 hr12 hF12 
      generalize (mA 20 (va_up (s11.2 20) (mCell (p) (s11.2 22 p.toNat) ((s11.2 23) (p).toNat) ((s11.2 24) (p).toNat)).toNat (b)) s11) = s12
      generalize (va_up h11 (B + 17) (pz_z 0 10240 (va_up (s11.2 20) (mCell (p) (s11.2 22 p.toNat) ((s11.2 23) (p).toNat) ((s11.2 24) (p).toNat)).toNat (b)))) = h12
      intro hA12 hk12 hr12 hF12 
      obtain ⟨kw, kh, kr, kc, ksr, ksc, kt, ko, kwa, kin, kwr, khi, krd, knu, kgi, kas, kfr, kra, kco, kof, kip⟩ := id hk12
      have e18 := congrFun (hr12.2.1 18 (by decide)) p.toNat
      have e19 := congrFun (hr12.2.1 19 (by decide)) p.toNat
      refine pw_aload_n dX10_write_71 rfl ?_
      refine pw_get (v := .ref (B + 18)) okX10 (k := 21) (by decide) lkX10_62 hA12.1 rfl dX10_write_72 ?_
      refine pw_aload_n dX10_write_75 rfl ?_
      refine pw_iload_n dX10_write_76 rfl ?_
      refine pw_aload_n dX10_write_77 rfl ?_
      refine pw_get (v := .ref (B + 20)) okX10 (k := 23) (by decide) lkX10_68 hA12.1 rfl dX10_write_78 ?_
      refine pw_iload_n dX10_write_81 rfl ?_
      refine pw_iald (t := 0) rfl (mF23 hA12) (by first | omega | exact mCell_b hp ko (by omega) (by omega) | exact mHis_b hp (by omega) (by omega)) (by decide) dX10_write_82 ?_
      refine pw_aload_n dX10_write_83 rfl ?_
      refine pw_get (v := .ref (B + 21)) okX10 (k := 24) (by decide) lkX10_71 hA12.1 rfl dX10_write_84 ?_
      refine pw_iload_n dX10_write_87 rfl ?_
      refine pw_iald (t := 0) rfl (mF24 hA12) (by first | omega | exact mCell_b hp ko (by omega) (by omega) | exact mHis_b hp (by omega) (by omega)) (by decide) dX10_write_88 ?_
      refine pw_callV (As := [.int (zI (p)), .int (zI ((s12.2 23) (p).toNat)), .int (zI ((s12.2 24) (p).toNat))]) (b := B) (rm := rmD 1 0 0) (mR_at htr hA12 hp hk12) rfl hA12.1 rfl rfl ywX10_at rfl cwX10_231 ⟨nle rfl, nle rfl⟩ (nle rfl) ⟨nle rfl, nle rfl⟩ dX10_write_89 ?_ (fun _ _ _ z => z.elim)
      intro r_9 h_9 n_9 hq _
      rw [hq.1, hq.2.1, hq.2.2]
      show pw E YX10_write _ _ 0 0 92 [some (.ref B), some (.int (zI (p))), some (.int (zI (b)))] [.int (zI (mCell (p) (s12.2 22 p.toNat) ((s12.2 23) (p).toNat) ((s12.2 24) (p).toNat))), .ref (B + 18)] h12 n
      refine pw_aload_n dX10_write_92 rfl ?_
      refine pw_get (v := .ref (B + 22)) okX10 (k := 25) (by decide) lkX10_74 hA12.1 rfl dX10_write_93 ?_
      refine pw_iload_n dX10_write_96 rfl ?_
      refine pw_iald (t := 0) rfl (mF25 hA12) (by first | omega | exact mCell_b hp ko (by omega) (by omega) | exact mHis_b hp (by omega) (by omega)) (by decide) dX10_write_97 ?_
      refine pw_iast (t := 0) rfl (mF21 hA12) (by first | omega | exact mCell_b hp ko (by omega) (by omega) | exact mHis_b hp (by omega) (by omega)) (by decide) dX10_write_98 ?_
      have hA13 : mAt B (mA 21 (va_up (s12.2 21) (mCell (p) (s12.2 22 p.toNat) ((s12.2 23) (p).toNat) ((s12.2 24) (p).toNat)).toNat ((s12.2 25) (p).toNat)) s12) (va_up h12 (B + 18) (pz_z 0 10240 (va_up (s12.2 21) (mCell (p) (s12.2 22 p.toNat) ((s12.2 23) (p).toNat) ((s12.2 24) (p).toNat)).toNat ((s12.2 25) (p).toNat)))) := mU21 hA12
      have hk13 : mPk (mA 21 (va_up (s12.2 21) (mCell (p) (s12.2 22 p.toNat) ((s12.2 23) (p).toNat) ((s12.2 24) (p).toNat)).toNat ((s12.2 25) (p).toNat)) s12) p.toNat := mPc hk12 (by decide)
      have hr13 : mPr p.toNat s (mA 21 (va_up (s12.2 21) (mCell (p) (s12.2 22 p.toNat) ((s12.2 23) (p).toNat) ((s12.2 24) (p).toNat)).toNat ((s12.2 25) (p).toNat)) s12) := mPr_tr hr12 (mPr_C (by decide))
      have hF13 : mFr B h (va_up h12 (B + 18) (pz_z 0 10240 (va_up (s12.2 21) (mCell (p) (s12.2 22 p.toNat) ((s12.2 23) (p).toNat) ((s12.2 24) (p).toNat)).toNat ((s12.2 25) (p).toNat)))) := mFr_tr hF12 (mFr_up (by decide))
      revert hA13 hk13 hr13 hF13 
      generalize (mA 21 (va_up (s12.2 21) (mCell (p) (s12.2 22 p.toNat) ((s12.2 23) (p).toNat) ((s12.2 24) (p).toNat)).toNat ((s12.2 25) (p).toNat)) s12) = s13
      generalize (va_up h12 (B + 18) (pz_z 0 10240 (va_up (s12.2 21) (mCell (p) (s12.2 22 p.toNat) ((s12.2 23) (p).toNat) ((s12.2 24) (p).toNat)).toNat ((s12.2 25) (p).toNat)))) = h13
      intro hA13 hk13 hr13 hF13 
      obtain ⟨kw, kh, kr, kc, ksr, ksc, kt, ko, kwa, kin, kwr, khi, krd, knu, kgi, kas, kfr, kra, kco, kof, kip⟩ := id hk13
      have e18 := congrFun (hr13.2.1 18 (by decide)) p.toNat
      have e19 := congrFun (hr13.2.1 19 (by decide)) p.toNat
      refine pw_aload_n dX10_write_99 rfl ?_
      refine pw_get (v := .ref (B + 21)) okX10 (k := 24) (by decide) lkX10_71 hA13.1 rfl dX10_write_100 ?_
      refine pw_iload_n dX10_write_103 rfl ?_
      refine pw_iald (t := 0) rfl (mF24 hA13) (by first | omega | exact mCell_b hp ko (by omega) (by omega) | exact mHis_b hp (by omega) (by omega)) (by decide) dX10_write_104 ?_
      refine pw_aload_n dX10_write_105 rfl ?_
      refine pw_get (v := .ref (B + 15)) okX10 (k := 18) (by decide) lkX10_53 hA13.1 rfl dX10_write_106 ?_
      refine pw_iload_n dX10_write_109 rfl ?_
      refine pw_iald (t := 0) rfl (mF18 hA13) (by first | omega | exact mCell_b hp ko (by omega) (by omega) | exact mHis_b hp (by omega) (by omega)) (by decide) dX10_write_110 ?_
      refine pw_iconst (v := zI (1)) dX10_write_111 (by decide) ?_
      refine pw_zisub dX10_write_112 ?_
      refine pw_icmp_ne (tgt := 131) dX10_write_113 rfl (by omega) (by omega) (fun c113 => ?_) (fun c113 => ?_)
      ·
        refine pw_aload_n dX10_write_131 rfl ?_
        refine pw_get (v := .ref (B + 21)) okX10 (k := 24) (by decide) lkX10_71 hA13.1 rfl dX10_write_132 ?_
        refine pw_iload_n dX10_write_135 rfl ?_
        refine pw_dup2 dX10_write_136 rfl rfl ?_
        refine pw_iald (t := 0) rfl (mF24 hA13) (by first | omega | exact mCell_b hp ko (by omega) (by omega) | exact mHis_b hp (by omega) (by omega)) (by decide) dX10_write_137 ?_
        refine pw_iconst (v := zI (1)) dX10_write_138 (by decide) ?_
        refine pw_ziadd dX10_write_139 ?_
        refine pw_iast (t := 0) rfl (mF24 hA13) (by first | omega | exact mCell_b hp ko (by omega) (by omega) | exact mHis_b hp (by omega) (by omega)) (by decide) dX10_write_140 ?_
        have hA14 : mAt B (mA 24 (va_up (s13.2 24) (p).toNat (((s13.2 24) (p).toNat) + (1))) s13) (va_up h13 (B + 21) (pz_z 0 8 (va_up (s13.2 24) (p).toNat (((s13.2 24) (p).toNat) + (1))))) := mU24 hA13
        have hk14 : mPk (mA 24 (va_up (s13.2 24) (p).toNat (((s13.2 24) (p).toNat) + (1))) s13) p.toNat := mP24 hk13 (by omega)
        have hr14 : mPr p.toNat s (mA 24 (va_up (s13.2 24) (p).toNat (((s13.2 24) (p).toNat) + (1))) s13) := mPr_tr hr13 (mPr_W (by decide) (by decide) (by decide))
        have hF14 : mFr B h (va_up h13 (B + 21) (pz_z 0 8 (va_up (s13.2 24) (p).toNat (((s13.2 24) (p).toNat) + (1))))) := mFr_tr hF13 (mFr_up (by decide))
        revert hA14 hk14 hr14 hF14 
        generalize (mA 24 (va_up (s13.2 24) (p).toNat (((s13.2 24) (p).toNat) + (1))) s13) = s14
        generalize (va_up h13 (B + 21) (pz_z 0 8 (va_up (s13.2 24) (p).toNat (((s13.2 24) (p).toNat) + (1))))) = h14
        intro hA14 hk14 hr14 hF14 
        obtain ⟨kw, kh, kr, kc, ksr, ksc, kt, ko, kwa, kin, kwr, khi, krd, knu, kgi, kas, kfr, kra, kco, kof, kip⟩ := id hk14
        have e18 := congrFun (hr14.2.1 18 (by decide)) p.toNat
        have e19 := congrFun (hr14.2.1 19 (by decide)) p.toNat
        exact pw_vret dX10_write_141 rfl (nle rfl) (nle rfl) ⟨rfl, s14, hA14, hk14, hr14, hF14, rfl⟩
      ·
        refine pw_aload_n dX10_write_116 rfl ?_
        refine pw_get (v := .ref (B + 28)) okX10 (k := 31) (by decide) lkX10_92 hA13.1 rfl dX10_write_117 ?_
        refine pw_iload_n dX10_write_120 rfl ?_
        refine pw_aload_n dX10_write_121 rfl ?_
        refine pw_get (v := .ref (B + 30)) okX10 (k := 33) (by decide) lkX10_98 hA13.1 rfl dX10_write_122 ?_
        refine pw_iload_n dX10_write_125 rfl ?_
        refine pw_zald (t := 1) rfl (mF33 hA13) (by first | omega | exact mCell_b hp ko (by omega) (by omega) | exact mHis_b hp (by omega) (by omega)) (by decide) dX10_write_126 ?_
        refine pw_zast (t := 1) rfl (mF31 hA13) (by first | omega | exact mCell_b hp ko (by omega) (by omega) | exact mHis_b hp (by omega) (by omega)) (by decide) (by omega) dX10_write_127 ?_
        have hA15 : mAt B (mA 31 (va_up (s13.2 31) (p).toNat ((s13.2 33) (p).toNat)) s13) (va_up h13 (B + 28) (pz_z 1 8 (va_up (s13.2 31) (p).toNat ((s13.2 33) (p).toNat)))) := mU31 hA13
        have hk15 : mPk (mA 31 (va_up (s13.2 31) (p).toNat ((s13.2 33) (p).toNat)) s13) p.toNat := mP31 hk13 (by omega)
        have hr15 : mPr p.toNat s (mA 31 (va_up (s13.2 31) (p).toNat ((s13.2 33) (p).toNat)) s13) := mPr_tr hr13 (mPr_W (by decide) (by decide) (by decide))
        have hF15 : mFr B h (va_up h13 (B + 28) (pz_z 1 8 (va_up (s13.2 31) (p).toNat ((s13.2 33) (p).toNat)))) := mFr_tr hF13 (mFr_up (by decide))
        revert hA15 hk15 hr15 hF15 
        generalize (mA 31 (va_up (s13.2 31) (p).toNat ((s13.2 33) (p).toNat)) s13) = s15
        generalize (va_up h13 (B + 28) (pz_z 1 8 (va_up (s13.2 31) (p).toNat ((s13.2 33) (p).toNat)))) = h15
        intro hA15 hk15 hr15 hF15 
        obtain ⟨kw, kh, kr, kc, ksr, ksc, kt, ko, kwa, kin, kwr, khi, krd, knu, kgi, kas, kfr, kra, kco, kof, kip⟩ := id hk15
        have e18 := congrFun (hr15.2.1 18 (by decide)) p.toNat
        have e19 := congrFun (hr15.2.1 19 (by decide)) p.toNat
        refine pw_goto (tgt := 141) dX10_write_128 rfl ?_
        exact pw_vret dX10_write_141 rfl (nle rfl) (nle rfl) ⟨rfl, s15, hA15, hk15, hr15, hF15, rfl⟩
    ·
      refine pw_aload_n dX10_write_30 rfl ?_
      refine pw_iload_n dX10_write_31 rfl ?_
      refine pw_aload_n dX10_write_32 rfl ?_
      refine pw_get (v := .ref (B + 20)) okX10 (k := 23) (by decide) lkX10_68 hA11.1 rfl dX10_write_33 ?_
      refine pw_iload_n dX10_write_36 rfl ?_
      refine pw_iald (t := 0) rfl (mF23 hA11) (by first | omega | exact mCell_b hp ko (by omega) (by omega) | exact mHis_b hp (by omega) (by omega)) (by decide) dX10_write_37 ?_
      refine pw_aload_n dX10_write_38 rfl ?_
      refine pw_get (v := .ref (B + 21)) okX10 (k := 24) (by decide) lkX10_71 hA11.1 rfl dX10_write_39 ?_
      refine pw_iload_n dX10_write_42 rfl ?_
      refine pw_iald (t := 0) rfl (mF24 hA11) (by first | omega | exact mCell_b hp ko (by omega) (by omega) | exact mHis_b hp (by omega) (by omega)) (by decide) dX10_write_43 ?_
      refine pw_iconst (v := zI (1)) dX10_write_44 (by decide) ?_
      refine pw_callV (As := [.int (zI (p)), .int (zI ((s11.2 23) (p).toNat)), .int (zI ((s11.2 24) (p).toNat)), .int (zI (1))]) (b := B) (rm := rmD 2 0 0) (mR_push htr hA11 hp hk11 (by omega) (by omega) (by omega)) rfl hA11.1 rfl rfl ywX10_push rfl cwX10_258 ⟨nle rfl, nle rfl⟩ (nle rfl) ⟨nle rfl, nle rfl⟩ dX10_write_45 ?_ (fun _ _ _ z => z.elim)
      intro r_9 h16 n_9 hq _
      obtain ⟨e1, s16, hA16, hk16, hr160, hF160, e4⟩ := hq
      rw [e1, e4]
      show pw E YX10_write _ _ 0 0 48 [some (.ref B), some (.int (zI (p))), some (.int (zI (b)))] [] h16 n
      have hr16 := mPr_tr hr11 hr160
      have hF16 := mFr_tr hF11 hF160
      obtain ⟨kw, kh, kr, kc, ksr, ksc, kt, ko, kwa, kin, kwr, khi, krd, knu, kgi, kas, kfr, kra, kco, kof, kip⟩ := id hk16
      have e18 := congrFun (hr16.2.1 18 (by decide)) p.toNat
      have e19 := congrFun (hr16.2.1 19 (by decide)) p.toNat
      refine pw_aload_n dX10_write_48 rfl ?_
      refine pw_get (v := .ref (B + 17)) okX10 (k := 20) (by decide) lkX10_59 hA16.1 rfl dX10_write_49 ?_
      refine pw_aload_n dX10_write_52 rfl ?_
      refine pw_iload_n dX10_write_53 rfl ?_
      refine pw_aload_n dX10_write_54 rfl ?_
      refine pw_get (v := .ref (B + 20)) okX10 (k := 23) (by decide) lkX10_68 hA16.1 rfl dX10_write_55 ?_
      refine pw_iload_n dX10_write_58 rfl ?_
      refine pw_iald (t := 0) rfl (mF23 hA16) (by first | omega | exact mCell_b hp ko (by omega) (by omega) | exact mHis_b hp (by omega) (by omega)) (by decide) dX10_write_59 ?_
      refine pw_aload_n dX10_write_60 rfl ?_
      refine pw_get (v := .ref (B + 21)) okX10 (k := 24) (by decide) lkX10_71 hA16.1 rfl dX10_write_61 ?_
      refine pw_iload_n dX10_write_64 rfl ?_
      refine pw_iald (t := 0) rfl (mF24 hA16) (by first | omega | exact mCell_b hp ko (by omega) (by omega) | exact mHis_b hp (by omega) (by omega)) (by decide) dX10_write_65 ?_
      refine pw_callV (As := [.int (zI (p)), .int (zI ((s16.2 23) (p).toNat)), .int (zI ((s16.2 24) (p).toNat))]) (b := B) (rm := rmD 1 0 0) (mR_at htr hA16 hp hk16) rfl hA16.1 rfl rfl ywX10_at rfl cwX10_231 ⟨nle rfl, nle rfl⟩ (nle rfl) ⟨nle rfl, nle rfl⟩ dX10_write_66 ?_ (fun _ _ _ z => z.elim)
      intro r_9 h_9 n_9 hq _
      rw [hq.1, hq.2.1, hq.2.2]
      show pw E YX10_write _ _ 0 0 69 [some (.ref B), some (.int (zI (p))), some (.int (zI (b)))] [.int (zI (mCell (p) (s16.2 22 p.toNat) ((s16.2 23) (p).toNat) ((s16.2 24) (p).toNat))), .ref (B + 17)] h16 n
      refine pw_iload_n dX10_write_69 rfl ?_
      refine pw_iast (t := 0) rfl (mF20 hA16) (by first | omega | exact mCell_b hp ko (by omega) (by omega) | exact mHis_b hp (by omega) (by omega)) (by decide) dX10_write_70 ?_
      have hA17 : mAt B (mA 20 (va_up (s16.2 20) (mCell (p) (s16.2 22 p.toNat) ((s16.2 23) (p).toNat) ((s16.2 24) (p).toNat)).toNat (b)) s16) (va_up h16 (B + 17) (pz_z 0 10240 (va_up (s16.2 20) (mCell (p) (s16.2 22 p.toNat) ((s16.2 23) (p).toNat) ((s16.2 24) (p).toNat)).toNat (b)))) := mU20 hA16
      have hk17 : mPk (mA 20 (va_up (s16.2 20) (mCell (p) (s16.2 22 p.toNat) ((s16.2 23) (p).toNat) ((s16.2 24) (p).toNat)).toNat (b)) s16) p.toNat := mPc hk16 (by decide)
      have hr17 : mPr p.toNat s (mA 20 (va_up (s16.2 20) (mCell (p) (s16.2 22 p.toNat) ((s16.2 23) (p).toNat) ((s16.2 24) (p).toNat)).toNat (b)) s16) := mPr_tr hr16 (mPr_C (by decide))
      have hF17 : mFr B h (va_up h16 (B + 17) (pz_z 0 10240 (va_up (s16.2 20) (mCell (p) (s16.2 22 p.toNat) ((s16.2 23) (p).toNat) ((s16.2 24) (p).toNat)).toNat (b)))) := mFr_tr hF16 (mFr_up (by decide))
      revert hA17 hk17 hr17 hF17 
      generalize (mA 20 (va_up (s16.2 20) (mCell (p) (s16.2 22 p.toNat) ((s16.2 23) (p).toNat) ((s16.2 24) (p).toNat)).toNat (b)) s16) = s17
      generalize (va_up h16 (B + 17) (pz_z 0 10240 (va_up (s16.2 20) (mCell (p) (s16.2 22 p.toNat) ((s16.2 23) (p).toNat) ((s16.2 24) (p).toNat)).toNat (b)))) = h17
      intro hA17 hk17 hr17 hF17 
      obtain ⟨kw, kh, kr, kc, ksr, ksc, kt, ko, kwa, kin, kwr, khi, krd, knu, kgi, kas, kfr, kra, kco, kof, kip⟩ := id hk17
      have e18 := congrFun (hr17.2.1 18 (by decide)) p.toNat
      have e19 := congrFun (hr17.2.1 19 (by decide)) p.toNat
      refine pw_aload_n dX10_write_71 rfl ?_
      refine pw_get (v := .ref (B + 18)) okX10 (k := 21) (by decide) lkX10_62 hA17.1 rfl dX10_write_72 ?_
      refine pw_aload_n dX10_write_75 rfl ?_
      refine pw_iload_n dX10_write_76 rfl ?_
      refine pw_aload_n dX10_write_77 rfl ?_
      refine pw_get (v := .ref (B + 20)) okX10 (k := 23) (by decide) lkX10_68 hA17.1 rfl dX10_write_78 ?_
      refine pw_iload_n dX10_write_81 rfl ?_
      refine pw_iald (t := 0) rfl (mF23 hA17) (by first | omega | exact mCell_b hp ko (by omega) (by omega) | exact mHis_b hp (by omega) (by omega)) (by decide) dX10_write_82 ?_
      refine pw_aload_n dX10_write_83 rfl ?_
      refine pw_get (v := .ref (B + 21)) okX10 (k := 24) (by decide) lkX10_71 hA17.1 rfl dX10_write_84 ?_
      refine pw_iload_n dX10_write_87 rfl ?_
      refine pw_iald (t := 0) rfl (mF24 hA17) (by first | omega | exact mCell_b hp ko (by omega) (by omega) | exact mHis_b hp (by omega) (by omega)) (by decide) dX10_write_88 ?_
      refine pw_callV (As := [.int (zI (p)), .int (zI ((s17.2 23) (p).toNat)), .int (zI ((s17.2 24) (p).toNat))]) (b := B) (rm := rmD 1 0 0) (mR_at htr hA17 hp hk17) rfl hA17.1 rfl rfl ywX10_at rfl cwX10_231 ⟨nle rfl, nle rfl⟩ (nle rfl) ⟨nle rfl, nle rfl⟩ dX10_write_89 ?_ (fun _ _ _ z => z.elim)
      intro r_9 h_9 n_9 hq _
      rw [hq.1, hq.2.1, hq.2.2]
      show pw E YX10_write _ _ 0 0 92 [some (.ref B), some (.int (zI (p))), some (.int (zI (b)))] [.int (zI (mCell (p) (s17.2 22 p.toNat) ((s17.2 23) (p).toNat) ((s17.2 24) (p).toNat))), .ref (B + 18)] h17 n
      refine pw_aload_n dX10_write_92 rfl ?_
      refine pw_get (v := .ref (B + 22)) okX10 (k := 25) (by decide) lkX10_74 hA17.1 rfl dX10_write_93 ?_
      refine pw_iload_n dX10_write_96 rfl ?_
      refine pw_iald (t := 0) rfl (mF25 hA17) (by first | omega | exact mCell_b hp ko (by omega) (by omega) | exact mHis_b hp (by omega) (by omega)) (by decide) dX10_write_97 ?_
      refine pw_iast (t := 0) rfl (mF21 hA17) (by first | omega | exact mCell_b hp ko (by omega) (by omega) | exact mHis_b hp (by omega) (by omega)) (by decide) dX10_write_98 ?_
      have hA18 : mAt B (mA 21 (va_up (s17.2 21) (mCell (p) (s17.2 22 p.toNat) ((s17.2 23) (p).toNat) ((s17.2 24) (p).toNat)).toNat ((s17.2 25) (p).toNat)) s17) (va_up h17 (B + 18) (pz_z 0 10240 (va_up (s17.2 21) (mCell (p) (s17.2 22 p.toNat) ((s17.2 23) (p).toNat) ((s17.2 24) (p).toNat)).toNat ((s17.2 25) (p).toNat)))) := mU21 hA17
      have hk18 : mPk (mA 21 (va_up (s17.2 21) (mCell (p) (s17.2 22 p.toNat) ((s17.2 23) (p).toNat) ((s17.2 24) (p).toNat)).toNat ((s17.2 25) (p).toNat)) s17) p.toNat := mPc hk17 (by decide)
      have hr18 : mPr p.toNat s (mA 21 (va_up (s17.2 21) (mCell (p) (s17.2 22 p.toNat) ((s17.2 23) (p).toNat) ((s17.2 24) (p).toNat)).toNat ((s17.2 25) (p).toNat)) s17) := mPr_tr hr17 (mPr_C (by decide))
      have hF18 : mFr B h (va_up h17 (B + 18) (pz_z 0 10240 (va_up (s17.2 21) (mCell (p) (s17.2 22 p.toNat) ((s17.2 23) (p).toNat) ((s17.2 24) (p).toNat)).toNat ((s17.2 25) (p).toNat)))) := mFr_tr hF17 (mFr_up (by decide))
      revert hA18 hk18 hr18 hF18 
      generalize (mA 21 (va_up (s17.2 21) (mCell (p) (s17.2 22 p.toNat) ((s17.2 23) (p).toNat) ((s17.2 24) (p).toNat)).toNat ((s17.2 25) (p).toNat)) s17) = s18
      generalize (va_up h17 (B + 18) (pz_z 0 10240 (va_up (s17.2 21) (mCell (p) (s17.2 22 p.toNat) ((s17.2 23) (p).toNat) ((s17.2 24) (p).toNat)).toNat ((s17.2 25) (p).toNat)))) = h18
      intro hA18 hk18 hr18 hF18 
      obtain ⟨kw, kh, kr, kc, ksr, ksc, kt, ko, kwa, kin, kwr, khi, krd, knu, kgi, kas, kfr, kra, kco, kof, kip⟩ := id hk18
      have e18 := congrFun (hr18.2.1 18 (by decide)) p.toNat
      have e19 := congrFun (hr18.2.1 19 (by decide)) p.toNat
      refine pw_aload_n dX10_write_99 rfl ?_
      refine pw_get (v := .ref (B + 21)) okX10 (k := 24) (by decide) lkX10_71 hA18.1 rfl dX10_write_100 ?_
      refine pw_iload_n dX10_write_103 rfl ?_
      refine pw_iald (t := 0) rfl (mF24 hA18) (by first | omega | exact mCell_b hp ko (by omega) (by omega) | exact mHis_b hp (by omega) (by omega)) (by decide) dX10_write_104 ?_
      refine pw_aload_n dX10_write_105 rfl ?_
      refine pw_get (v := .ref (B + 15)) okX10 (k := 18) (by decide) lkX10_53 hA18.1 rfl dX10_write_106 ?_
      refine pw_iload_n dX10_write_109 rfl ?_
      refine pw_iald (t := 0) rfl (mF18 hA18) (by first | omega | exact mCell_b hp ko (by omega) (by omega) | exact mHis_b hp (by omega) (by omega)) (by decide) dX10_write_110 ?_
      refine pw_iconst (v := zI (1)) dX10_write_111 (by decide) ?_
      refine pw_zisub dX10_write_112 ?_
      refine pw_icmp_ne (tgt := 131) dX10_write_113 rfl (by omega) (by omega) (fun c113 => ?_) (fun c113 => ?_)
      ·
        refine pw_aload_n dX10_write_131 rfl ?_
        refine pw_get (v := .ref (B + 21)) okX10 (k := 24) (by decide) lkX10_71 hA18.1 rfl dX10_write_132 ?_
        refine pw_iload_n dX10_write_135 rfl ?_
        refine pw_dup2 dX10_write_136 rfl rfl ?_
        refine pw_iald (t := 0) rfl (mF24 hA18) (by first | omega | exact mCell_b hp ko (by omega) (by omega) | exact mHis_b hp (by omega) (by omega)) (by decide) dX10_write_137 ?_
        refine pw_iconst (v := zI (1)) dX10_write_138 (by decide) ?_
        refine pw_ziadd dX10_write_139 ?_
        refine pw_iast (t := 0) rfl (mF24 hA18) (by first | omega | exact mCell_b hp ko (by omega) (by omega) | exact mHis_b hp (by omega) (by omega)) (by decide) dX10_write_140 ?_
        have hA19 : mAt B (mA 24 (va_up (s18.2 24) (p).toNat (((s18.2 24) (p).toNat) + (1))) s18) (va_up h18 (B + 21) (pz_z 0 8 (va_up (s18.2 24) (p).toNat (((s18.2 24) (p).toNat) + (1))))) := mU24 hA18
        have hk19 : mPk (mA 24 (va_up (s18.2 24) (p).toNat (((s18.2 24) (p).toNat) + (1))) s18) p.toNat := mP24 hk18 (by omega)
        have hr19 : mPr p.toNat s (mA 24 (va_up (s18.2 24) (p).toNat (((s18.2 24) (p).toNat) + (1))) s18) := mPr_tr hr18 (mPr_W (by decide) (by decide) (by decide))
        have hF19 : mFr B h (va_up h18 (B + 21) (pz_z 0 8 (va_up (s18.2 24) (p).toNat (((s18.2 24) (p).toNat) + (1))))) := mFr_tr hF18 (mFr_up (by decide))
        revert hA19 hk19 hr19 hF19 
        generalize (mA 24 (va_up (s18.2 24) (p).toNat (((s18.2 24) (p).toNat) + (1))) s18) = s19
        generalize (va_up h18 (B + 21) (pz_z 0 8 (va_up (s18.2 24) (p).toNat (((s18.2 24) (p).toNat) + (1))))) = h19
        intro hA19 hk19 hr19 hF19 
        obtain ⟨kw, kh, kr, kc, ksr, ksc, kt, ko, kwa, kin, kwr, khi, krd, knu, kgi, kas, kfr, kra, kco, kof, kip⟩ := id hk19
        have e18 := congrFun (hr19.2.1 18 (by decide)) p.toNat
        have e19 := congrFun (hr19.2.1 19 (by decide)) p.toNat
        exact pw_vret dX10_write_141 rfl (nle rfl) (nle rfl) ⟨rfl, s19, hA19, hk19, hr19, hF19, rfl⟩
      ·
        refine pw_aload_n dX10_write_116 rfl ?_
        refine pw_get (v := .ref (B + 28)) okX10 (k := 31) (by decide) lkX10_92 hA18.1 rfl dX10_write_117 ?_
        refine pw_iload_n dX10_write_120 rfl ?_
        refine pw_aload_n dX10_write_121 rfl ?_
        refine pw_get (v := .ref (B + 30)) okX10 (k := 33) (by decide) lkX10_98 hA18.1 rfl dX10_write_122 ?_
        refine pw_iload_n dX10_write_125 rfl ?_
        refine pw_zald (t := 1) rfl (mF33 hA18) (by first | omega | exact mCell_b hp ko (by omega) (by omega) | exact mHis_b hp (by omega) (by omega)) (by decide) dX10_write_126 ?_
        refine pw_zast (t := 1) rfl (mF31 hA18) (by first | omega | exact mCell_b hp ko (by omega) (by omega) | exact mHis_b hp (by omega) (by omega)) (by decide) (by omega) dX10_write_127 ?_
        have hA20 : mAt B (mA 31 (va_up (s18.2 31) (p).toNat ((s18.2 33) (p).toNat)) s18) (va_up h18 (B + 28) (pz_z 1 8 (va_up (s18.2 31) (p).toNat ((s18.2 33) (p).toNat)))) := mU31 hA18
        have hk20 : mPk (mA 31 (va_up (s18.2 31) (p).toNat ((s18.2 33) (p).toNat)) s18) p.toNat := mP31 hk18 (by omega)
        have hr20 : mPr p.toNat s (mA 31 (va_up (s18.2 31) (p).toNat ((s18.2 33) (p).toNat)) s18) := mPr_tr hr18 (mPr_W (by decide) (by decide) (by decide))
        have hF20 : mFr B h (va_up h18 (B + 28) (pz_z 1 8 (va_up (s18.2 31) (p).toNat ((s18.2 33) (p).toNat)))) := mFr_tr hF18 (mFr_up (by decide))
        revert hA20 hk20 hr20 hF20 
        generalize (mA 31 (va_up (s18.2 31) (p).toNat ((s18.2 33) (p).toNat)) s18) = s20
        generalize (va_up h18 (B + 28) (pz_z 1 8 (va_up (s18.2 31) (p).toNat ((s18.2 33) (p).toNat)))) = h20
        intro hA20 hk20 hr20 hF20 
        obtain ⟨kw, kh, kr, kc, ksr, ksc, kt, ko, kwa, kin, kwr, khi, krd, knu, kgi, kas, kfr, kra, kco, kof, kip⟩ := id hk20
        have e18 := congrFun (hr20.2.1 18 (by decide)) p.toNat
        have e19 := congrFun (hr20.2.1 19 (by decide)) p.toNat
        refine pw_goto (tgt := 141) dX10_write_128 rfl ?_
        exact pw_vret dX10_write_141 rfl (nle rfl) (nle rfl) ⟨rfl, s20, hA20, hk20, hr20, hF20, rfl⟩
set_option maxHeartbeats 2000000 in
set_option maxRecDepth 100000 in
/-- isPlain(p, b) -/
theorem mR_isPlain {E : pw_E} (htr : E.1.stackTraces = false) {h : pz_H} {n : Nat} {B : Nat} {s : mS} (hA : mAt B s h) {p b : Int} (hp : 0 ≤ p ∧ p < 8) (hk : mPk s p.toNat) (h_b : -2147483648 ≤ b ∧ b < 2147483648) : pw_M E yX10_isPlain YX10_isPlain (rmD 5 0 0) [.ref B, .int (zI (p)), .int (zI (b))] h n (fun r0 h' n' => ∃ v : Int, (0 ≤ v ∧ v ≤ 1) ∧ r0 = some (.int (zI v)) ∧ ∃ s', mAt B s' h' ∧ mPk s' p.toNat ∧ mPr p.toNat s s' ∧ mFr B h h' ∧ n' = n) (fun _ _ _ => False) := by
  obtain ⟨kw, kh, kr, kc, ksr, ksc, kt, ko, kwa, kin, kwr, khi, krd, knu, kgi, kas, kfr, kra, kco, kof, kip⟩ := id hk
  have e18 : s.2 18 p.toNat = s.2 18 p.toNat := rfl
  refine pw_M_of (lv := [some (.ref B), some (.int (zI (p))), some (.int (zI (b)))]) (by decide) rfl rfl htr (nle rfl) rfl (fun L => ?_)
  refine pw_iload_n dX10_isPlain_0 rfl ?_
  refine pw_bipush (v := zI (8)) dX10_isPlain_1 (by decide) ?_
  refine pw_icmp_ne (tgt := 28) dX10_isPlain_3 rfl (by omega) (by omega) (fun c3 => ?_) (fun c3 => ?_)
  ·
    refine pw_iload_n dX10_isPlain_28 rfl ?_
    refine pw_bipush (v := zI (9)) dX10_isPlain_29 (by decide) ?_
    refine pw_icmp_ne (tgt := 62) dX10_isPlain_31 rfl (by omega) (by omega) (fun c31 => ?_) (fun c31 => ?_)
    ·
      refine pw_iload_n dX10_isPlain_62 rfl ?_
      refine pw_bipush (v := zI (13)) dX10_isPlain_63 (by decide) ?_
      refine pw_icmp_ne (tgt := 83) dX10_isPlain_65 rfl (by omega) (by omega) (fun c65 => ?_) (fun c65 => ?_)
      ·
        refine pw_iload_n dX10_isPlain_83 rfl ?_
        refine pw_bipush (v := zI (10)) dX10_isPlain_84 (by decide) ?_
        refine pw_icmp_ne (tgt := 97) dX10_isPlain_86 rfl (by omega) (by omega) (fun c86 => ?_) (fun c86 => ?_)
        ·
          refine pw_iload_n dX10_isPlain_97 rfl ?_
          refine pw_bipush (v := zI (27)) dX10_isPlain_98 (by decide) ?_
          refine pw_icmp_ne (tgt := 113) dX10_isPlain_100 rfl (by omega) (by omega) (fun c100 => ?_) (fun c100 => ?_)
          ·
            refine pw_iconst (v := zI (0)) dX10_isPlain_113 (by decide) ?_
            exact pw_zret dX10_isPlain_114 rfl (by decide) (nle rfl) (nle rfl) ⟨0, by omega, rfl, s, hA, hk, mPr_rf, mFr_rf, rfl⟩
          ·
            refine pw_aload_n dX10_isPlain_103 rfl ?_
            refine pw_get (v := .ref (B + 32)) okX10 (k := 35) (by decide) lkX10_104 hA.1 rfl dX10_isPlain_104 ?_
            refine pw_iload_n dX10_isPlain_107 rfl ?_
            refine pw_iconst (v := zI (1)) dX10_isPlain_108 (by decide) ?_
            refine pw_iast (t := 0) rfl (mF35 hA) (by first | omega | exact mCell_b hp ko (by omega) (by omega) | exact mHis_b hp (by omega) (by omega)) (by decide) dX10_isPlain_109 ?_
            have hA1 : mAt B (mA 35 (va_up (s.2 35) (p).toNat (1)) s) (va_up h (B + 32) (pz_z 0 8 (va_up (s.2 35) (p).toNat (1)))) := mU35 hA
            have hk1 : mPk (mA 35 (va_up (s.2 35) (p).toNat (1)) s) p.toNat := mP35 hk (by omega)
            have hr1 : mPr p.toNat s (mA 35 (va_up (s.2 35) (p).toNat (1)) s) := mPr_tr mPr_rf (mPr_W (by decide) (by decide) (by decide))
            have hF1 : mFr B h (va_up h (B + 32) (pz_z 0 8 (va_up (s.2 35) (p).toNat (1)))) := mFr_tr mFr_rf (mFr_up (by decide))
            revert hA1 hk1 hr1 hF1 
            generalize (mA 35 (va_up (s.2 35) (p).toNat (1)) s) = s1
            generalize (va_up h (B + 32) (pz_z 0 8 (va_up (s.2 35) (p).toNat (1)))) = h1
            intro hA1 hk1 hr1 hF1 
            obtain ⟨kw, kh, kr, kc, ksr, ksc, kt, ko, kwa, kin, kwr, khi, krd, knu, kgi, kas, kfr, kra, kco, kof, kip⟩ := id hk1
            have e18 := congrFun (hr1.2.1 18 (by decide)) p.toNat
            have e19 := congrFun (hr1.2.1 19 (by decide)) p.toNat
            refine pw_goto (tgt := 115) dX10_isPlain_110 rfl ?_
            refine pw_iconst (v := zI (1)) dX10_isPlain_115 (by decide) ?_
            exact pw_zret dX10_isPlain_116 rfl (by decide) (nle rfl) (nle rfl) ⟨1, by omega, rfl, s1, hA1, hk1, hr1, hF1, rfl⟩
        ·
          refine pw_aload_n dX10_isPlain_89 rfl ?_
          refine pw_iload_n dX10_isPlain_90 rfl ?_
          refine pw_callV (As := [.int (zI (p))]) (b := B) (rm := rmD 4 0 0) (mR_down htr hA hp hk) rfl hA.1 rfl rfl ywX10_down rfl cwX10_255 ⟨nle rfl, nle rfl⟩ (nle rfl) ⟨nle rfl, nle rfl⟩ dX10_isPlain_91 ?_ (fun _ _ _ z => z.elim)
          intro r_9 h2 n_9 hq _
          obtain ⟨e1, s2, hA2, hk2, hr20, hF20, e4⟩ := hq
          rw [e1, e4]
          show pw E YX10_isPlain _ _ 0 0 94 [some (.ref B), some (.int (zI (p))), some (.int (zI (b)))] [] h2 n
          have hr2 := mPr_tr mPr_rf hr20
          have hF2 := mFr_tr mFr_rf hF20
          obtain ⟨kw, kh, kr, kc, ksr, ksc, kt, ko, kwa, kin, kwr, khi, krd, knu, kgi, kas, kfr, kra, kco, kof, kip⟩ := id hk2
          have e18 := congrFun (hr2.2.1 18 (by decide)) p.toNat
          have e19 := congrFun (hr2.2.1 19 (by decide)) p.toNat
          refine pw_goto (tgt := 115) dX10_isPlain_94 rfl ?_
          refine pw_iconst (v := zI (1)) dX10_isPlain_115 (by decide) ?_
          exact pw_zret dX10_isPlain_116 rfl (by decide) (nle rfl) (nle rfl) ⟨1, by omega, rfl, s2, hA2, hk2, hr2, hF2, rfl⟩
      ·
        refine pw_aload_n dX10_isPlain_68 rfl ?_
        refine pw_iload_n dX10_isPlain_69 rfl ?_
        refine pw_aload_n dX10_isPlain_70 rfl ?_
        refine pw_get (v := .ref (B + 20)) okX10 (k := 23) (by decide) lkX10_68 hA.1 rfl dX10_isPlain_71 ?_
        refine pw_iload_n dX10_isPlain_74 rfl ?_
        refine pw_iald (t := 0) rfl (mF23 hA) (by first | omega | exact mCell_b hp ko (by omega) (by omega) | exact mHis_b hp (by omega) (by omega)) (by decide) dX10_isPlain_75 ?_
        refine pw_iconst (v := zI (0)) dX10_isPlain_76 (by decide) ?_
        refine pw_callV (As := [.int (zI (p)), .int (zI ((s.2 23) (p).toNat)), .int (zI (0))]) (b := B) (rm := rmD 1 0 0) (mR_moveTo htr hA hp hk (by omega) (by omega)) rfl hA.1 rfl rfl ywX10_moveTo rfl cwX10_261 ⟨nle rfl, nle rfl⟩ (nle rfl) ⟨nle rfl, nle rfl⟩ dX10_isPlain_77 ?_ (fun _ _ _ z => z.elim)
        intro r_9 h3 n_9 hq _
        obtain ⟨e1, s3, hA3, hk3, hr30, hF30, e4⟩ := hq
        rw [e1, e4]
        show pw E YX10_isPlain _ _ 0 0 80 [some (.ref B), some (.int (zI (p))), some (.int (zI (b)))] [] h3 n
        have hr3 := mPr_tr mPr_rf hr30
        have hF3 := mFr_tr mFr_rf hF30
        obtain ⟨kw, kh, kr, kc, ksr, ksc, kt, ko, kwa, kin, kwr, khi, krd, knu, kgi, kas, kfr, kra, kco, kof, kip⟩ := id hk3
        have e18 := congrFun (hr3.2.1 18 (by decide)) p.toNat
        have e19 := congrFun (hr3.2.1 19 (by decide)) p.toNat
        refine pw_goto (tgt := 115) dX10_isPlain_80 rfl ?_
        refine pw_iconst (v := zI (1)) dX10_isPlain_115 (by decide) ?_
        exact pw_zret dX10_isPlain_116 rfl (by decide) (nle rfl) (nle rfl) ⟨1, by omega, rfl, s3, hA3, hk3, hr3, hF3, rfl⟩
    ·
      refine pw_aload_n dX10_isPlain_34 rfl ?_
      refine pw_iload_n dX10_isPlain_35 rfl ?_
      refine pw_aload_n dX10_isPlain_36 rfl ?_
      refine pw_get (v := .ref (B + 20)) okX10 (k := 23) (by decide) lkX10_68 hA.1 rfl dX10_isPlain_37 ?_
      refine pw_iload_n dX10_isPlain_40 rfl ?_
      refine pw_iald (t := 0) rfl (mF23 hA) (by first | omega | exact mCell_b hp ko (by omega) (by omega) | exact mHis_b hp (by omega) (by omega)) (by decide) dX10_isPlain_41 ?_
      refine pw_aload_n dX10_isPlain_42 rfl ?_
      refine pw_get (v := .ref (B + 21)) okX10 (k := 24) (by decide) lkX10_71 hA.1 rfl dX10_isPlain_43 ?_
      refine pw_iload_n dX10_isPlain_46 rfl ?_
      refine pw_iald (t := 0) rfl (mF24 hA) (by first | omega | exact mCell_b hp ko (by omega) (by omega) | exact mHis_b hp (by omega) (by omega)) (by decide) dX10_isPlain_47 ?_
      refine pw_bipush (v := zI (8)) dX10_isPlain_48 (by decide) ?_
      refine pw_zidiv dX10_isPlain_50 (by omega) (by omega) ?_
      refine pw_iconst (v := zI (1)) dX10_isPlain_51 (by decide) ?_
      refine pw_ziadd dX10_isPlain_52 ?_
      refine pw_bipush (v := zI (8)) dX10_isPlain_53 (by decide) ?_
      refine pw_zimul dX10_isPlain_55 ?_
      refine pw_callV (As := [.int (zI (p)), .int (zI ((s.2 23) (p).toNat)), .int (zI (((((s.2 24) (p).toNat) / (8)) + (1)) * (8)))]) (b := B) (rm := rmD 1 0 0) (mR_moveTo htr hA hp hk (by omega) (by omega)) rfl hA.1 rfl rfl ywX10_moveTo rfl cwX10_261 ⟨nle rfl, nle rfl⟩ (nle rfl) ⟨nle rfl, nle rfl⟩ dX10_isPlain_56 ?_ (fun _ _ _ z => z.elim)
      intro r_9 h4 n_9 hq _
      obtain ⟨e1, s4, hA4, hk4, hr40, hF40, e4⟩ := hq
      rw [e1, e4]
      show pw E YX10_isPlain _ _ 0 0 59 [some (.ref B), some (.int (zI (p))), some (.int (zI (b)))] [] h4 n
      have hr4 := mPr_tr mPr_rf hr40
      have hF4 := mFr_tr mFr_rf hF40
      obtain ⟨kw, kh, kr, kc, ksr, ksc, kt, ko, kwa, kin, kwr, khi, krd, knu, kgi, kas, kfr, kra, kco, kof, kip⟩ := id hk4
      have e18 := congrFun (hr4.2.1 18 (by decide)) p.toNat
      have e19 := congrFun (hr4.2.1 19 (by decide)) p.toNat
      refine pw_goto (tgt := 115) dX10_isPlain_59 rfl ?_
      refine pw_iconst (v := zI (1)) dX10_isPlain_115 (by decide) ?_
      exact pw_zret dX10_isPlain_116 rfl (by decide) (nle rfl) (nle rfl) ⟨1, by omega, rfl, s4, hA4, hk4, hr4, hF4, rfl⟩
  ·
    refine pw_aload_n dX10_isPlain_6 rfl ?_
    refine pw_iload_n dX10_isPlain_7 rfl ?_
    refine pw_aload_n dX10_isPlain_8 rfl ?_
    refine pw_get (v := .ref (B + 20)) okX10 (k := 23) (by decide) lkX10_68 hA.1 rfl dX10_isPlain_9 ?_
    refine pw_iload_n dX10_isPlain_12 rfl ?_
    refine pw_iald (t := 0) rfl (mF23 hA) (by first | omega | exact mCell_b hp ko (by omega) (by omega) | exact mHis_b hp (by omega) (by omega)) (by decide) dX10_isPlain_13 ?_
    refine pw_aload_n dX10_isPlain_14 rfl ?_
    refine pw_get (v := .ref (B + 21)) okX10 (k := 24) (by decide) lkX10_71 hA.1 rfl dX10_isPlain_15 ?_
    refine pw_iload_n dX10_isPlain_18 rfl ?_
    refine pw_iald (t := 0) rfl (mF24 hA) (by first | omega | exact mCell_b hp ko (by omega) (by omega) | exact mHis_b hp (by omega) (by omega)) (by decide) dX10_isPlain_19 ?_
    refine pw_iconst (v := zI (1)) dX10_isPlain_20 (by decide) ?_
    refine pw_zisub dX10_isPlain_21 ?_
    refine pw_callV (As := [.int (zI (p)), .int (zI ((s.2 23) (p).toNat)), .int (zI (((s.2 24) (p).toNat) - (1)))]) (b := B) (rm := rmD 1 0 0) (mR_moveTo htr hA hp hk (by omega) (by omega)) rfl hA.1 rfl rfl ywX10_moveTo rfl cwX10_261 ⟨nle rfl, nle rfl⟩ (nle rfl) ⟨nle rfl, nle rfl⟩ dX10_isPlain_22 ?_ (fun _ _ _ z => z.elim)
    intro r_9 h5 n_9 hq _
    obtain ⟨e1, s5, hA5, hk5, hr50, hF50, e4⟩ := hq
    rw [e1, e4]
    show pw E YX10_isPlain _ _ 0 0 25 [some (.ref B), some (.int (zI (p))), some (.int (zI (b)))] [] h5 n
    have hr5 := mPr_tr mPr_rf hr50
    have hF5 := mFr_tr mFr_rf hF50
    obtain ⟨kw, kh, kr, kc, ksr, ksc, kt, ko, kwa, kin, kwr, khi, krd, knu, kgi, kas, kfr, kra, kco, kof, kip⟩ := id hk5
    have e18 := congrFun (hr5.2.1 18 (by decide)) p.toNat
    have e19 := congrFun (hr5.2.1 19 (by decide)) p.toNat
    refine pw_goto (tgt := 115) dX10_isPlain_25 rfl ?_
    refine pw_iconst (v := zI (1)) dX10_isPlain_115 (by decide) ?_
    exact pw_zret dX10_isPlain_116 rfl (by decide) (nle rfl) (nle rfl) ⟨1, by omega, rfl, s5, hA5, hk5, hr5, hF5, rfl⟩
set_option maxHeartbeats 4000000 in
set_option maxRecDepth 100000 in
/-- endsWait(b) -/
theorem mR_endsWait {E : pw_E} (htr : E.1.stackTraces = false) {h : pz_H} {n : Nat} {b : Int} (h_b : -2147483648 ≤ b ∧ b < 2147483648) : pw_M E yX10_endsWait YX10_endsWait (rmD 0 0 0) [.int (zI b)] h n (fun r h' n' => ∃ v : Int, (0 ≤ v ∧ v ≤ 1) ∧ r = some (.int (zI v)) ∧ h' = h ∧ n' = n) (fun _ _ _ => False) := by
  refine pw_M_of (lv := [some (.int (zI (b)))]) (by decide) rfl rfl htr (nle rfl) rfl (fun L => ?_)
  refine pw_iload_n dX10_endsWait_0 rfl ?_
  refine pw_bipush (v := zI (64)) dX10_endsWait_1 (by decide) ?_
  refine pw_icmp_lt (tgt := 12) dX10_endsWait_3 rfl (by omega) (by omega) (fun c3 => ?_) (fun c3 => ?_)
  ·
    refine pw_iload_n dX10_endsWait_12 rfl ?_
    refine pw_bipush (v := zI (71)) dX10_endsWait_13 (by decide) ?_
    refine pw_icmp_eq (tgt := 78) dX10_endsWait_15 rfl (by omega) (by omega) (fun c15 => ?_) (fun c15 => ?_)
    ·
      refine pw_iconst (v := zI (1)) dX10_endsWait_78 (by decide) ?_
      refine pw_goto (tgt := 83) dX10_endsWait_79 rfl ?_
      exact pw_zret dX10_endsWait_83 rfl (by decide) (nle rfl) (nle rfl) ⟨1, by omega, rfl, rfl, rfl⟩
    ·
      refine pw_iload_n dX10_endsWait_18 rfl ?_
      refine pw_bipush (v := zI (72)) dX10_endsWait_19 (by decide) ?_
      refine pw_icmp_eq (tgt := 78) dX10_endsWait_21 rfl (by omega) (by omega) (fun c21 => ?_) (fun c21 => ?_)
      ·
        refine pw_iconst (v := zI (1)) dX10_endsWait_78 (by decide) ?_
        refine pw_goto (tgt := 83) dX10_endsWait_79 rfl ?_
        exact pw_zret dX10_endsWait_83 rfl (by decide) (nle rfl) (nle rfl) ⟨1, by omega, rfl, rfl, rfl⟩
      ·
        refine pw_iload_n dX10_endsWait_24 rfl ?_
        refine pw_bipush (v := zI (74)) dX10_endsWait_25 (by decide) ?_
        refine pw_icmp_lt (tgt := 36) dX10_endsWait_27 rfl (by omega) (by omega) (fun c27 => ?_) (fun c27 => ?_)
        ·
          refine pw_iload_n dX10_endsWait_36 rfl ?_
          refine pw_bipush (v := zI (80)) dX10_endsWait_37 (by decide) ?_
          refine pw_icmp_eq (tgt := 78) dX10_endsWait_39 rfl (by omega) (by omega) (fun c39 => ?_) (fun c39 => ?_)
          ·
            refine pw_iconst (v := zI (1)) dX10_endsWait_78 (by decide) ?_
            refine pw_goto (tgt := 83) dX10_endsWait_79 rfl ?_
            exact pw_zret dX10_endsWait_83 rfl (by decide) (nle rfl) (nle rfl) ⟨1, by omega, rfl, rfl, rfl⟩
          ·
            refine pw_iload_n dX10_endsWait_42 rfl ?_
            refine pw_bipush (v := zI (83)) dX10_endsWait_43 (by decide) ?_
            refine pw_icmp_eq (tgt := 78) dX10_endsWait_45 rfl (by omega) (by omega) (fun c45 => ?_) (fun c45 => ?_)
            ·
              refine pw_iconst (v := zI (1)) dX10_endsWait_78 (by decide) ?_
              refine pw_goto (tgt := 83) dX10_endsWait_79 rfl ?_
              exact pw_zret dX10_endsWait_83 rfl (by decide) (nle rfl) (nle rfl) ⟨1, by omega, rfl, rfl, rfl⟩
            ·
              refine pw_iload_n dX10_endsWait_48 rfl ?_
              refine pw_bipush (v := zI (84)) dX10_endsWait_49 (by decide) ?_
              refine pw_icmp_eq (tgt := 78) dX10_endsWait_51 rfl (by omega) (by omega) (fun c51 => ?_) (fun c51 => ?_)
              ·
                refine pw_iconst (v := zI (1)) dX10_endsWait_78 (by decide) ?_
                refine pw_goto (tgt := 83) dX10_endsWait_79 rfl ?_
                exact pw_zret dX10_endsWait_83 rfl (by decide) (nle rfl) (nle rfl) ⟨1, by omega, rfl, rfl, rfl⟩
              ·
                refine pw_iload_n dX10_endsWait_54 rfl ?_
                refine pw_bipush (v := zI (88)) dX10_endsWait_55 (by decide) ?_
                refine pw_icmp_eq (tgt := 78) dX10_endsWait_57 rfl (by omega) (by omega) (fun c57 => ?_) (fun c57 => ?_)
                ·
                  refine pw_iconst (v := zI (1)) dX10_endsWait_78 (by decide) ?_
                  refine pw_goto (tgt := 83) dX10_endsWait_79 rfl ?_
                  exact pw_zret dX10_endsWait_83 rfl (by decide) (nle rfl) (nle rfl) ⟨1, by omega, rfl, rfl, rfl⟩
                ·
                  refine pw_iload_n dX10_endsWait_60 rfl ?_
                  refine pw_bipush (v := zI (100)) dX10_endsWait_61 (by decide) ?_
                  refine pw_icmp_eq (tgt := 78) dX10_endsWait_63 rfl (by omega) (by omega) (fun c63 => ?_) (fun c63 => ?_)
                  ·
                    refine pw_iconst (v := zI (1)) dX10_endsWait_78 (by decide) ?_
                    refine pw_goto (tgt := 83) dX10_endsWait_79 rfl ?_
                    exact pw_zret dX10_endsWait_83 rfl (by decide) (nle rfl) (nle rfl) ⟨1, by omega, rfl, rfl, rfl⟩
                  ·
                    refine pw_iload_n dX10_endsWait_66 rfl ?_
                    refine pw_bipush (v := zI (102)) dX10_endsWait_67 (by decide) ?_
                    refine pw_icmp_eq (tgt := 78) dX10_endsWait_69 rfl (by omega) (by omega) (fun c69 => ?_) (fun c69 => ?_)
                    ·
                      refine pw_iconst (v := zI (1)) dX10_endsWait_78 (by decide) ?_
                      refine pw_goto (tgt := 83) dX10_endsWait_79 rfl ?_
                      exact pw_zret dX10_endsWait_83 rfl (by decide) (nle rfl) (nle rfl) ⟨1, by omega, rfl, rfl, rfl⟩
                    ·
                      refine pw_iload_n dX10_endsWait_72 rfl ?_
                      refine pw_bipush (v := zI (114)) dX10_endsWait_73 (by decide) ?_
                      refine pw_icmp_ne (tgt := 82) dX10_endsWait_75 rfl (by omega) (by omega) (fun c75 => ?_) (fun c75 => ?_)
                      ·
                        refine pw_iconst (v := zI (0)) dX10_endsWait_82 (by decide) ?_
                        exact pw_zret dX10_endsWait_83 rfl (by decide) (nle rfl) (nle rfl) ⟨0, by omega, rfl, rfl, rfl⟩
                      ·
                        refine pw_iconst (v := zI (1)) dX10_endsWait_78 (by decide) ?_
                        refine pw_goto (tgt := 83) dX10_endsWait_79 rfl ?_
                        exact pw_zret dX10_endsWait_83 rfl (by decide) (nle rfl) (nle rfl) ⟨1, by omega, rfl, rfl, rfl⟩
        ·
          refine pw_iload_n dX10_endsWait_30 rfl ?_
          refine pw_bipush (v := zI (77)) dX10_endsWait_31 (by decide) ?_
          refine pw_icmp_le (tgt := 78) dX10_endsWait_33 rfl (by omega) (by omega) (fun c33 => ?_) (fun c33 => ?_)
          ·
            refine pw_iconst (v := zI (1)) dX10_endsWait_78 (by decide) ?_
            refine pw_goto (tgt := 83) dX10_endsWait_79 rfl ?_
            exact pw_zret dX10_endsWait_83 rfl (by decide) (nle rfl) (nle rfl) ⟨1, by omega, rfl, rfl, rfl⟩
          ·
            refine pw_iload_n dX10_endsWait_36 rfl ?_
            refine pw_bipush (v := zI (80)) dX10_endsWait_37 (by decide) ?_
            refine pw_icmp_eq (tgt := 78) dX10_endsWait_39 rfl (by omega) (by omega) (fun c39 => ?_) (fun c39 => ?_)
            ·
              refine pw_iconst (v := zI (1)) dX10_endsWait_78 (by decide) ?_
              refine pw_goto (tgt := 83) dX10_endsWait_79 rfl ?_
              exact pw_zret dX10_endsWait_83 rfl (by decide) (nle rfl) (nle rfl) ⟨1, by omega, rfl, rfl, rfl⟩
            ·
              refine pw_iload_n dX10_endsWait_42 rfl ?_
              refine pw_bipush (v := zI (83)) dX10_endsWait_43 (by decide) ?_
              refine pw_icmp_eq (tgt := 78) dX10_endsWait_45 rfl (by omega) (by omega) (fun c45 => ?_) (fun c45 => ?_)
              ·
                refine pw_iconst (v := zI (1)) dX10_endsWait_78 (by decide) ?_
                refine pw_goto (tgt := 83) dX10_endsWait_79 rfl ?_
                exact pw_zret dX10_endsWait_83 rfl (by decide) (nle rfl) (nle rfl) ⟨1, by omega, rfl, rfl, rfl⟩
              ·
                refine pw_iload_n dX10_endsWait_48 rfl ?_
                refine pw_bipush (v := zI (84)) dX10_endsWait_49 (by decide) ?_
                refine pw_icmp_eq (tgt := 78) dX10_endsWait_51 rfl (by omega) (by omega) (fun c51 => ?_) (fun c51 => ?_)
                ·
                  refine pw_iconst (v := zI (1)) dX10_endsWait_78 (by decide) ?_
                  refine pw_goto (tgt := 83) dX10_endsWait_79 rfl ?_
                  exact pw_zret dX10_endsWait_83 rfl (by decide) (nle rfl) (nle rfl) ⟨1, by omega, rfl, rfl, rfl⟩
                ·
                  refine pw_iload_n dX10_endsWait_54 rfl ?_
                  refine pw_bipush (v := zI (88)) dX10_endsWait_55 (by decide) ?_
                  refine pw_icmp_eq (tgt := 78) dX10_endsWait_57 rfl (by omega) (by omega) (fun c57 => ?_) (fun c57 => ?_)
                  ·
                    refine pw_iconst (v := zI (1)) dX10_endsWait_78 (by decide) ?_
                    refine pw_goto (tgt := 83) dX10_endsWait_79 rfl ?_
                    exact pw_zret dX10_endsWait_83 rfl (by decide) (nle rfl) (nle rfl) ⟨1, by omega, rfl, rfl, rfl⟩
                  ·
                    refine pw_iload_n dX10_endsWait_60 rfl ?_
                    refine pw_bipush (v := zI (100)) dX10_endsWait_61 (by decide) ?_
                    refine pw_icmp_eq (tgt := 78) dX10_endsWait_63 rfl (by omega) (by omega) (fun c63 => ?_) (fun c63 => ?_)
                    ·
                      refine pw_iconst (v := zI (1)) dX10_endsWait_78 (by decide) ?_
                      refine pw_goto (tgt := 83) dX10_endsWait_79 rfl ?_
                      exact pw_zret dX10_endsWait_83 rfl (by decide) (nle rfl) (nle rfl) ⟨1, by omega, rfl, rfl, rfl⟩
                    ·
                      refine pw_iload_n dX10_endsWait_66 rfl ?_
                      refine pw_bipush (v := zI (102)) dX10_endsWait_67 (by decide) ?_
                      refine pw_icmp_eq (tgt := 78) dX10_endsWait_69 rfl (by omega) (by omega) (fun c69 => ?_) (fun c69 => ?_)
                      ·
                        refine pw_iconst (v := zI (1)) dX10_endsWait_78 (by decide) ?_
                        refine pw_goto (tgt := 83) dX10_endsWait_79 rfl ?_
                        exact pw_zret dX10_endsWait_83 rfl (by decide) (nle rfl) (nle rfl) ⟨1, by omega, rfl, rfl, rfl⟩
                      ·
                        refine pw_iload_n dX10_endsWait_72 rfl ?_
                        refine pw_bipush (v := zI (114)) dX10_endsWait_73 (by decide) ?_
                        refine pw_icmp_ne (tgt := 82) dX10_endsWait_75 rfl (by omega) (by omega) (fun c75 => ?_) (fun c75 => ?_)
                        ·
                          refine pw_iconst (v := zI (0)) dX10_endsWait_82 (by decide) ?_
                          exact pw_zret dX10_endsWait_83 rfl (by decide) (nle rfl) (nle rfl) ⟨0, by omega, rfl, rfl, rfl⟩
                        ·
                          refine pw_iconst (v := zI (1)) dX10_endsWait_78 (by decide) ?_
                          refine pw_goto (tgt := 83) dX10_endsWait_79 rfl ?_
                          exact pw_zret dX10_endsWait_83 rfl (by decide) (nle rfl) (nle rfl) ⟨1, by omega, rfl, rfl, rfl⟩
  ·
    refine pw_iload_n dX10_endsWait_6 rfl ?_
    refine pw_bipush (v := zI (68)) dX10_endsWait_7 (by decide) ?_
    refine pw_icmp_le (tgt := 78) dX10_endsWait_9 rfl (by omega) (by omega) (fun c9 => ?_) (fun c9 => ?_)
    ·
      refine pw_iconst (v := zI (1)) dX10_endsWait_78 (by decide) ?_
      refine pw_goto (tgt := 83) dX10_endsWait_79 rfl ?_
      exact pw_zret dX10_endsWait_83 rfl (by decide) (nle rfl) (nle rfl) ⟨1, by omega, rfl, rfl, rfl⟩
    ·
      refine pw_iload_n dX10_endsWait_12 rfl ?_
      refine pw_bipush (v := zI (71)) dX10_endsWait_13 (by decide) ?_
      refine pw_icmp_eq (tgt := 78) dX10_endsWait_15 rfl (by omega) (by omega) (fun c15 => ?_) (fun c15 => ?_)
      ·
        refine pw_iconst (v := zI (1)) dX10_endsWait_78 (by decide) ?_
        refine pw_goto (tgt := 83) dX10_endsWait_79 rfl ?_
        exact pw_zret dX10_endsWait_83 rfl (by decide) (nle rfl) (nle rfl) ⟨1, by omega, rfl, rfl, rfl⟩
      ·
        refine pw_iload_n dX10_endsWait_18 rfl ?_
        refine pw_bipush (v := zI (72)) dX10_endsWait_19 (by decide) ?_
        refine pw_icmp_eq (tgt := 78) dX10_endsWait_21 rfl (by omega) (by omega) (fun c21 => ?_) (fun c21 => ?_)
        ·
          refine pw_iconst (v := zI (1)) dX10_endsWait_78 (by decide) ?_
          refine pw_goto (tgt := 83) dX10_endsWait_79 rfl ?_
          exact pw_zret dX10_endsWait_83 rfl (by decide) (nle rfl) (nle rfl) ⟨1, by omega, rfl, rfl, rfl⟩
        ·
          refine pw_iload_n dX10_endsWait_24 rfl ?_
          refine pw_bipush (v := zI (74)) dX10_endsWait_25 (by decide) ?_
          refine pw_icmp_lt (tgt := 36) dX10_endsWait_27 rfl (by omega) (by omega) (fun c27 => ?_) (fun c27 => ?_)
          ·
            refine pw_iload_n dX10_endsWait_36 rfl ?_
            refine pw_bipush (v := zI (80)) dX10_endsWait_37 (by decide) ?_
            refine pw_icmp_eq (tgt := 78) dX10_endsWait_39 rfl (by omega) (by omega) (fun c39 => ?_) (fun c39 => ?_)
            ·
              refine pw_iconst (v := zI (1)) dX10_endsWait_78 (by decide) ?_
              refine pw_goto (tgt := 83) dX10_endsWait_79 rfl ?_
              exact pw_zret dX10_endsWait_83 rfl (by decide) (nle rfl) (nle rfl) ⟨1, by omega, rfl, rfl, rfl⟩
            ·
              refine pw_iload_n dX10_endsWait_42 rfl ?_
              refine pw_bipush (v := zI (83)) dX10_endsWait_43 (by decide) ?_
              refine pw_icmp_eq (tgt := 78) dX10_endsWait_45 rfl (by omega) (by omega) (fun c45 => ?_) (fun c45 => ?_)
              ·
                refine pw_iconst (v := zI (1)) dX10_endsWait_78 (by decide) ?_
                refine pw_goto (tgt := 83) dX10_endsWait_79 rfl ?_
                exact pw_zret dX10_endsWait_83 rfl (by decide) (nle rfl) (nle rfl) ⟨1, by omega, rfl, rfl, rfl⟩
              ·
                refine pw_iload_n dX10_endsWait_48 rfl ?_
                refine pw_bipush (v := zI (84)) dX10_endsWait_49 (by decide) ?_
                refine pw_icmp_eq (tgt := 78) dX10_endsWait_51 rfl (by omega) (by omega) (fun c51 => ?_) (fun c51 => ?_)
                ·
                  refine pw_iconst (v := zI (1)) dX10_endsWait_78 (by decide) ?_
                  refine pw_goto (tgt := 83) dX10_endsWait_79 rfl ?_
                  exact pw_zret dX10_endsWait_83 rfl (by decide) (nle rfl) (nle rfl) ⟨1, by omega, rfl, rfl, rfl⟩
                ·
                  refine pw_iload_n dX10_endsWait_54 rfl ?_
                  refine pw_bipush (v := zI (88)) dX10_endsWait_55 (by decide) ?_
                  refine pw_icmp_eq (tgt := 78) dX10_endsWait_57 rfl (by omega) (by omega) (fun c57 => ?_) (fun c57 => ?_)
                  ·
                    refine pw_iconst (v := zI (1)) dX10_endsWait_78 (by decide) ?_
                    refine pw_goto (tgt := 83) dX10_endsWait_79 rfl ?_
                    exact pw_zret dX10_endsWait_83 rfl (by decide) (nle rfl) (nle rfl) ⟨1, by omega, rfl, rfl, rfl⟩
                  ·
                    refine pw_iload_n dX10_endsWait_60 rfl ?_
                    refine pw_bipush (v := zI (100)) dX10_endsWait_61 (by decide) ?_
                    refine pw_icmp_eq (tgt := 78) dX10_endsWait_63 rfl (by omega) (by omega) (fun c63 => ?_) (fun c63 => ?_)
                    ·
                      refine pw_iconst (v := zI (1)) dX10_endsWait_78 (by decide) ?_
                      refine pw_goto (tgt := 83) dX10_endsWait_79 rfl ?_
                      exact pw_zret dX10_endsWait_83 rfl (by decide) (nle rfl) (nle rfl) ⟨1, by omega, rfl, rfl, rfl⟩
                    ·
                      refine pw_iload_n dX10_endsWait_66 rfl ?_
                      refine pw_bipush (v := zI (102)) dX10_endsWait_67 (by decide) ?_
                      refine pw_icmp_eq (tgt := 78) dX10_endsWait_69 rfl (by omega) (by omega) (fun c69 => ?_) (fun c69 => ?_)
                      ·
                        refine pw_iconst (v := zI (1)) dX10_endsWait_78 (by decide) ?_
                        refine pw_goto (tgt := 83) dX10_endsWait_79 rfl ?_
                        exact pw_zret dX10_endsWait_83 rfl (by decide) (nle rfl) (nle rfl) ⟨1, by omega, rfl, rfl, rfl⟩
                      ·
                        refine pw_iload_n dX10_endsWait_72 rfl ?_
                        refine pw_bipush (v := zI (114)) dX10_endsWait_73 (by decide) ?_
                        refine pw_icmp_ne (tgt := 82) dX10_endsWait_75 rfl (by omega) (by omega) (fun c75 => ?_) (fun c75 => ?_)
                        ·
                          refine pw_iconst (v := zI (0)) dX10_endsWait_82 (by decide) ?_
                          exact pw_zret dX10_endsWait_83 rfl (by decide) (nle rfl) (nle rfl) ⟨0, by omega, rfl, rfl, rfl⟩
                        ·
                          refine pw_iconst (v := zI (1)) dX10_endsWait_78 (by decide) ?_
                          refine pw_goto (tgt := 83) dX10_endsWait_79 rfl ?_
                          exact pw_zret dX10_endsWait_83 rfl (by decide) (nle rfl) (nle rfl) ⟨1, by omega, rfl, rfl, rfl⟩
          ·
            refine pw_iload_n dX10_endsWait_30 rfl ?_
            refine pw_bipush (v := zI (77)) dX10_endsWait_31 (by decide) ?_
            refine pw_icmp_le (tgt := 78) dX10_endsWait_33 rfl (by omega) (by omega) (fun c33 => ?_) (fun c33 => ?_)
            ·
              refine pw_iconst (v := zI (1)) dX10_endsWait_78 (by decide) ?_
              refine pw_goto (tgt := 83) dX10_endsWait_79 rfl ?_
              exact pw_zret dX10_endsWait_83 rfl (by decide) (nle rfl) (nle rfl) ⟨1, by omega, rfl, rfl, rfl⟩
            ·
              refine pw_iload_n dX10_endsWait_36 rfl ?_
              refine pw_bipush (v := zI (80)) dX10_endsWait_37 (by decide) ?_
              refine pw_icmp_eq (tgt := 78) dX10_endsWait_39 rfl (by omega) (by omega) (fun c39 => ?_) (fun c39 => ?_)
              ·
                refine pw_iconst (v := zI (1)) dX10_endsWait_78 (by decide) ?_
                refine pw_goto (tgt := 83) dX10_endsWait_79 rfl ?_
                exact pw_zret dX10_endsWait_83 rfl (by decide) (nle rfl) (nle rfl) ⟨1, by omega, rfl, rfl, rfl⟩
              ·
                refine pw_iload_n dX10_endsWait_42 rfl ?_
                refine pw_bipush (v := zI (83)) dX10_endsWait_43 (by decide) ?_
                refine pw_icmp_eq (tgt := 78) dX10_endsWait_45 rfl (by omega) (by omega) (fun c45 => ?_) (fun c45 => ?_)
                ·
                  refine pw_iconst (v := zI (1)) dX10_endsWait_78 (by decide) ?_
                  refine pw_goto (tgt := 83) dX10_endsWait_79 rfl ?_
                  exact pw_zret dX10_endsWait_83 rfl (by decide) (nle rfl) (nle rfl) ⟨1, by omega, rfl, rfl, rfl⟩
                ·
                  refine pw_iload_n dX10_endsWait_48 rfl ?_
                  refine pw_bipush (v := zI (84)) dX10_endsWait_49 (by decide) ?_
                  refine pw_icmp_eq (tgt := 78) dX10_endsWait_51 rfl (by omega) (by omega) (fun c51 => ?_) (fun c51 => ?_)
                  ·
                    refine pw_iconst (v := zI (1)) dX10_endsWait_78 (by decide) ?_
                    refine pw_goto (tgt := 83) dX10_endsWait_79 rfl ?_
                    exact pw_zret dX10_endsWait_83 rfl (by decide) (nle rfl) (nle rfl) ⟨1, by omega, rfl, rfl, rfl⟩
                  ·
                    refine pw_iload_n dX10_endsWait_54 rfl ?_
                    refine pw_bipush (v := zI (88)) dX10_endsWait_55 (by decide) ?_
                    refine pw_icmp_eq (tgt := 78) dX10_endsWait_57 rfl (by omega) (by omega) (fun c57 => ?_) (fun c57 => ?_)
                    ·
                      refine pw_iconst (v := zI (1)) dX10_endsWait_78 (by decide) ?_
                      refine pw_goto (tgt := 83) dX10_endsWait_79 rfl ?_
                      exact pw_zret dX10_endsWait_83 rfl (by decide) (nle rfl) (nle rfl) ⟨1, by omega, rfl, rfl, rfl⟩
                    ·
                      refine pw_iload_n dX10_endsWait_60 rfl ?_
                      refine pw_bipush (v := zI (100)) dX10_endsWait_61 (by decide) ?_
                      refine pw_icmp_eq (tgt := 78) dX10_endsWait_63 rfl (by omega) (by omega) (fun c63 => ?_) (fun c63 => ?_)
                      ·
                        refine pw_iconst (v := zI (1)) dX10_endsWait_78 (by decide) ?_
                        refine pw_goto (tgt := 83) dX10_endsWait_79 rfl ?_
                        exact pw_zret dX10_endsWait_83 rfl (by decide) (nle rfl) (nle rfl) ⟨1, by omega, rfl, rfl, rfl⟩
                      ·
                        refine pw_iload_n dX10_endsWait_66 rfl ?_
                        refine pw_bipush (v := zI (102)) dX10_endsWait_67 (by decide) ?_
                        refine pw_icmp_eq (tgt := 78) dX10_endsWait_69 rfl (by omega) (by omega) (fun c69 => ?_) (fun c69 => ?_)
                        ·
                          refine pw_iconst (v := zI (1)) dX10_endsWait_78 (by decide) ?_
                          refine pw_goto (tgt := 83) dX10_endsWait_79 rfl ?_
                          exact pw_zret dX10_endsWait_83 rfl (by decide) (nle rfl) (nle rfl) ⟨1, by omega, rfl, rfl, rfl⟩
                        ·
                          refine pw_iload_n dX10_endsWait_72 rfl ?_
                          refine pw_bipush (v := zI (114)) dX10_endsWait_73 (by decide) ?_
                          refine pw_icmp_ne (tgt := 82) dX10_endsWait_75 rfl (by omega) (by omega) (fun c75 => ?_) (fun c75 => ?_)
                          ·
                            refine pw_iconst (v := zI (0)) dX10_endsWait_82 (by decide) ?_
                            exact pw_zret dX10_endsWait_83 rfl (by decide) (nle rfl) (nle rfl) ⟨0, by omega, rfl, rfl, rfl⟩
                          ·
                            refine pw_iconst (v := zI (1)) dX10_endsWait_78 (by decide) ?_
                            refine pw_goto (tgt := 83) dX10_endsWait_79 rfl ?_
                            exact pw_zret dX10_endsWait_83 rfl (by decide) (nle rfl) (nle rfl) ⟨1, by omega, rfl, rfl, rfl⟩
set_option maxHeartbeats 2000000 in
set_option maxRecDepth 100000 in
/-- lines(p, mo, nn) -/
theorem mR_lines {E : pw_E} (htr : E.1.stackTraces = false) {h : pz_H} {n : Nat} {B : Nat} {s : mS} (hA : mAt B s h) {p mo nn : Int} (hp : 0 ≤ p ∧ p < 8) (hk : mPk s p.toNat) (hmo : 0 ≤ mo ∧ mo ≤ 1) (h_nn : -2147483648 ≤ nn ∧ nn < 2147483648) : pw_M E yX10_lines YX10_lines (rmD 4 0 0) [.ref B, .int (zI (p)), .int (zI (mo)), .int (zI (nn))] h n (fun r0 h' n' => r0 = none ∧ ∃ s', mAt B s' h' ∧ mPk s' p.toNat ∧ mPr p.toNat s s' ∧ mFr B h h' ∧ n' = n) (fun _ _ _ => False) := by
  obtain ⟨kw, kh, kr, kc, ksr, ksc, kt, ko, kwa, kin, kwr, khi, krd, knu, kgi, kas, kfr, kra, kco, kof, kip⟩ := id hk
  have e18 : s.2 18 p.toNat = s.2 18 p.toNat := rfl
  refine pw_M_of (lv := [some (.ref B), some (.int (zI (p))), some (.int (zI (mo))), some (.int (zI (nn)))]) (by decide) rfl rfl htr (nle rfl) rfl (fun L => ?_)
  refine pw_aload_n dX10_lines_0 rfl ?_
  refine pw_get (v := .ref (B + 20)) okX10 (k := 23) (by decide) lkX10_68 hA.1 rfl dX10_lines_1 ?_
  refine pw_iload_n dX10_lines_4 rfl ?_
  refine pw_iald (t := 0) rfl (mF23 hA) (by first | omega | exact mCell_b hp ko (by omega) (by omega) | exact mHis_b hp (by omega) (by omega)) (by decide) dX10_lines_5 ?_
  refine pw_aload_n dX10_lines_6 rfl ?_
  refine pw_get (v := .ref (B + 26)) okX10 (k := 29) (by decide) lkX10_86 hA.1 rfl dX10_lines_7 ?_
  refine pw_iload_n dX10_lines_10 rfl ?_
  refine pw_iald (t := 0) rfl (mF29 hA) (by first | omega | exact mCell_b hp ko (by omega) (by omega) | exact mHis_b hp (by omega) (by omega)) (by decide) dX10_lines_11 ?_
  refine pw_icmp_lt (tgt := 30) dX10_lines_12 rfl (by omega) (by omega) (fun c12 => ?_) (fun c12 => ?_)
  ·
    exact pw_vret dX10_lines_30 rfl (nle rfl) (nle rfl) ⟨rfl, s, hA, hk, mPr_rf, mFr_rf, rfl⟩
  ·
    refine pw_aload_n dX10_lines_15 rfl ?_
    refine pw_get (v := .ref (B + 20)) okX10 (k := 23) (by decide) lkX10_68 hA.1 rfl dX10_lines_16 ?_
    refine pw_iload_n dX10_lines_19 rfl ?_
    refine pw_iald (t := 0) rfl (mF23 hA) (by first | omega | exact mCell_b hp ko (by omega) (by omega) | exact mHis_b hp (by omega) (by omega)) (by decide) dX10_lines_20 ?_
    refine pw_aload_n dX10_lines_21 rfl ?_
    refine pw_get (v := .ref (B + 27)) okX10 (k := 30) (by decide) lkX10_89 hA.1 rfl dX10_lines_22 ?_
    refine pw_iload_n dX10_lines_25 rfl ?_
    refine pw_iald (t := 0) rfl (mF30 hA) (by first | omega | exact mCell_b hp ko (by omega) (by omega) | exact mHis_b hp (by omega) (by omega)) (by decide) dX10_lines_26 ?_
    refine pw_icmp_le (tgt := 31) dX10_lines_27 rfl (by omega) (by omega) (fun c27 => ?_) (fun c27 => ?_)
    ·
      refine pw_iload_n dX10_lines_31 rfl ?_
      refine pw_if_eq (tgt := 56) dX10_lines_32 rfl (by omega) (fun c32 => ?_) (fun c32 => ?_)
      ·
        refine pw_aload_n dX10_lines_56 rfl ?_
        refine pw_iload_n dX10_lines_57 rfl ?_
        refine pw_aload_n dX10_lines_58 rfl ?_
        refine pw_get (v := .ref (B + 20)) okX10 (k := 23) (by decide) lkX10_68 hA.1 rfl dX10_lines_59 ?_
        refine pw_iload_n dX10_lines_62 rfl ?_
        refine pw_iald (t := 0) rfl (mF23 hA) (by first | omega | exact mCell_b hp ko (by omega) (by omega) | exact mHis_b hp (by omega) (by omega)) (by decide) dX10_lines_63 ?_
        refine pw_aload_n dX10_lines_64 rfl ?_
        refine pw_get (v := .ref (B + 27)) okX10 (k := 30) (by decide) lkX10_89 hA.1 rfl dX10_lines_65 ?_
        refine pw_iload_n dX10_lines_68 rfl ?_
        refine pw_iald (t := 0) rfl (mF30 hA) (by first | omega | exact mCell_b hp ko (by omega) (by omega) | exact mHis_b hp (by omega) (by omega)) (by decide) dX10_lines_69 ?_
        refine pw_iload_n dX10_lines_70 rfl ?_
        refine pw_iconst (v := zI (0)) dX10_lines_71 (by decide) ?_
        refine pw_callV (As := [.int (zI (p)), .int (zI ((s.2 23) (p).toNat)), .int (zI ((s.2 30) (p).toNat)), .int (zI (nn)), .int (zI (0))]) (b := B) (rm := rmD 3 0 0) (mR_scrollUp htr hA hp hk (by omega) (by omega) (by omega)) rfl hA.1 rfl rfl ywX10_scrollUp rfl cwX10_247 ⟨nle rfl, nle rfl⟩ (nle rfl) ⟨nle rfl, nle rfl⟩ dX10_lines_72 ?_ (fun _ _ _ z => z.elim)
        intro r_9 h1 n_9 hq _
        obtain ⟨e1, s1, hA1, hk1, hr10, hF10, e4⟩ := hq
        rw [e1, e4]
        show pw E YX10_lines _ _ 0 0 75 [some (.ref B), some (.int (zI (p))), some (.int (zI (mo))), some (.int (zI (nn)))] [] h1 n
        have hr1 := mPr_tr mPr_rf hr10
        have hF1 := mFr_tr mFr_rf hF10
        obtain ⟨kw, kh, kr, kc, ksr, ksc, kt, ko, kwa, kin, kwr, khi, krd, knu, kgi, kas, kfr, kra, kco, kof, kip⟩ := id hk1
        have e18 := congrFun (hr1.2.1 18 (by decide)) p.toNat
        have e19 := congrFun (hr1.2.1 19 (by decide)) p.toNat
        refine pw_aload_n dX10_lines_75 rfl ?_
        refine pw_iload_n dX10_lines_76 rfl ?_
        refine pw_aload_n dX10_lines_77 rfl ?_
        refine pw_get (v := .ref (B + 20)) okX10 (k := 23) (by decide) lkX10_68 hA1.1 rfl dX10_lines_78 ?_
        refine pw_iload_n dX10_lines_81 rfl ?_
        refine pw_iald (t := 0) rfl (mF23 hA1) (by first | omega | exact mCell_b hp ko (by omega) (by omega) | exact mHis_b hp (by omega) (by omega)) (by decide) dX10_lines_82 ?_
        refine pw_iconst (v := zI (0)) dX10_lines_83 (by decide) ?_
        refine pw_callV (As := [.int (zI (p)), .int (zI ((s1.2 23) (p).toNat)), .int (zI (0))]) (b := B) (rm := rmD 1 0 0) (mR_moveTo htr hA1 hp hk1 (by omega) (by omega)) rfl hA1.1 rfl rfl ywX10_moveTo rfl cwX10_261 ⟨nle rfl, nle rfl⟩ (nle rfl) ⟨nle rfl, nle rfl⟩ dX10_lines_84 ?_ (fun _ _ _ z => z.elim)
        intro r_9 h2 n_9 hq _
        obtain ⟨e1, s2, hA2, hk2, hr20, hF20, e4⟩ := hq
        rw [e1, e4]
        show pw E YX10_lines _ _ 0 0 87 [some (.ref B), some (.int (zI (p))), some (.int (zI (mo))), some (.int (zI (nn)))] [] h2 n
        have hr2 := mPr_tr hr1 hr20
        have hF2 := mFr_tr hF1 hF20
        obtain ⟨kw, kh, kr, kc, ksr, ksc, kt, ko, kwa, kin, kwr, khi, krd, knu, kgi, kas, kfr, kra, kco, kof, kip⟩ := id hk2
        have e18 := congrFun (hr2.2.1 18 (by decide)) p.toNat
        have e19 := congrFun (hr2.2.1 19 (by decide)) p.toNat
        exact pw_vret dX10_lines_87 rfl (nle rfl) (nle rfl) ⟨rfl, s2, hA2, hk2, hr2, hF2, rfl⟩
      ·
        refine pw_aload_n dX10_lines_35 rfl ?_
        refine pw_iload_n dX10_lines_36 rfl ?_
        refine pw_aload_n dX10_lines_37 rfl ?_
        refine pw_get (v := .ref (B + 20)) okX10 (k := 23) (by decide) lkX10_68 hA.1 rfl dX10_lines_38 ?_
        refine pw_iload_n dX10_lines_41 rfl ?_
        refine pw_iald (t := 0) rfl (mF23 hA) (by first | omega | exact mCell_b hp ko (by omega) (by omega) | exact mHis_b hp (by omega) (by omega)) (by decide) dX10_lines_42 ?_
        refine pw_aload_n dX10_lines_43 rfl ?_
        refine pw_get (v := .ref (B + 27)) okX10 (k := 30) (by decide) lkX10_89 hA.1 rfl dX10_lines_44 ?_
        refine pw_iload_n dX10_lines_47 rfl ?_
        refine pw_iald (t := 0) rfl (mF30 hA) (by first | omega | exact mCell_b hp ko (by omega) (by omega) | exact mHis_b hp (by omega) (by omega)) (by decide) dX10_lines_48 ?_
        refine pw_iload_n dX10_lines_49 rfl ?_
        refine pw_callV (As := [.int (zI (p)), .int (zI ((s.2 23) (p).toNat)), .int (zI ((s.2 30) (p).toNat)), .int (zI (nn))]) (b := B) (rm := rmD 3 0 0) (mR_scrollDown htr hA hp hk (by omega) (by omega)) rfl hA.1 rfl rfl ywX10_scrollDown rfl cwX10_251 ⟨nle rfl, nle rfl⟩ (nle rfl) ⟨nle rfl, nle rfl⟩ dX10_lines_50 ?_ (fun _ _ _ z => z.elim)
        intro r_9 h3 n_9 hq _
        obtain ⟨e1, s3, hA3, hk3, hr30, hF30, e4⟩ := hq
        rw [e1, e4]
        show pw E YX10_lines _ _ 0 0 53 [some (.ref B), some (.int (zI (p))), some (.int (zI (mo))), some (.int (zI (nn)))] [] h3 n
        have hr3 := mPr_tr mPr_rf hr30
        have hF3 := mFr_tr mFr_rf hF30
        obtain ⟨kw, kh, kr, kc, ksr, ksc, kt, ko, kwa, kin, kwr, khi, krd, knu, kgi, kas, kfr, kra, kco, kof, kip⟩ := id hk3
        have e18 := congrFun (hr3.2.1 18 (by decide)) p.toNat
        have e19 := congrFun (hr3.2.1 19 (by decide)) p.toNat
        refine pw_goto (tgt := 75) dX10_lines_53 rfl ?_
        refine pw_aload_n dX10_lines_75 rfl ?_
        refine pw_iload_n dX10_lines_76 rfl ?_
        refine pw_aload_n dX10_lines_77 rfl ?_
        refine pw_get (v := .ref (B + 20)) okX10 (k := 23) (by decide) lkX10_68 hA3.1 rfl dX10_lines_78 ?_
        refine pw_iload_n dX10_lines_81 rfl ?_
        refine pw_iald (t := 0) rfl (mF23 hA3) (by first | omega | exact mCell_b hp ko (by omega) (by omega) | exact mHis_b hp (by omega) (by omega)) (by decide) dX10_lines_82 ?_
        refine pw_iconst (v := zI (0)) dX10_lines_83 (by decide) ?_
        refine pw_callV (As := [.int (zI (p)), .int (zI ((s3.2 23) (p).toNat)), .int (zI (0))]) (b := B) (rm := rmD 1 0 0) (mR_moveTo htr hA3 hp hk3 (by omega) (by omega)) rfl hA3.1 rfl rfl ywX10_moveTo rfl cwX10_261 ⟨nle rfl, nle rfl⟩ (nle rfl) ⟨nle rfl, nle rfl⟩ dX10_lines_84 ?_ (fun _ _ _ z => z.elim)
        intro r_9 h4 n_9 hq _
        obtain ⟨e1, s4, hA4, hk4, hr40, hF40, e4⟩ := hq
        rw [e1, e4]
        show pw E YX10_lines _ _ 0 0 87 [some (.ref B), some (.int (zI (p))), some (.int (zI (mo))), some (.int (zI (nn)))] [] h4 n
        have hr4 := mPr_tr hr3 hr40
        have hF4 := mFr_tr hF3 hF40
        obtain ⟨kw, kh, kr, kc, ksr, ksc, kt, ko, kwa, kin, kwr, khi, krd, knu, kgi, kas, kfr, kra, kco, kof, kip⟩ := id hk4
        have e18 := congrFun (hr4.2.1 18 (by decide)) p.toNat
        have e19 := congrFun (hr4.2.1 19 (by decide)) p.toNat
        exact pw_vret dX10_lines_87 rfl (nle rfl) (nle rfl) ⟨rfl, s4, hA4, hk4, hr4, hF4, rfl⟩
    ·
      exact pw_vret dX10_lines_30 rfl (nle rfl) (nle rfl) ⟨rfl, s, hA, hk, mPr_rf, mFr_rf, rfl⟩
set_option maxHeartbeats 2000000 in
set_option maxRecDepth 100000 in
theorem lR_era1 {E : pw_E} (htr : E.1.stackTraces = false) {Kk : pw_K} {n : Nat} {B : Nat} {s : mS} {h : pz_H} {p : Int} (hp : 0 ≤ p ∧ p < 8) {a b c d : Int} (ha : 0 ≤ a ∧ a < 16) (hc : c < 16) (hcc : -1000 ≤ c) (hb : -1000000 ≤ b ∧ b ≤ 1000000) (hd : -1000000 ≤ d ∧ d ≤ 1000000) {r : Int} (hr0 : 0 ≤ r ∧ r < 16) (kk : ∀ (k9 : Int) (s2 : mS) (h2 : pz_H), mAt B s2 h2 → mPk s2 p.toNat → mPr p.toNat s s2 → mFr B h h2 → pw E YX10_erase (rmD 2 0 0) Kk 0 0 75 [some (.ref B), some (.int (zI (p))), some (.int (zI (a))), some (.int (zI (b))), some (.int (zI (c))), some (.int (zI (d))), some (.int (zI (r))), some (.int (zI (k9)))] [] h2 n) : ∀ (j : Nat) (k : Int) (s1 : mS) (h1 : pz_H), (s.2 18 p.toNat - k).toNat = j → 0 ≤ k → k ≤ 40 → mAt B s1 h1 → mPk s1 p.toNat → mPr p.toNat s s1 → mFr B h h1 → pw E YX10_erase (rmD 2 0 0) Kk 0 0 13 [some (.ref B), some (.int (zI (p))), some (.int (zI (a))), some (.int (zI (b))), some (.int (zI (c))), some (.int (zI (d))), some (.int (zI (r))), some (.int (zI (k)))] [] h1 n := by
  intro j
  induction j with
  | zero =>
    intro k s1 h1 hj i0 i1 hA hk hr hF
    have e18 := congrFun (hr.2.1 18 (by decide)) p.toNat
    have e19 := congrFun (hr.2.1 19 (by decide)) p.toNat
    obtain ⟨kw, kh, kr, kc, ksr, ksc, kt, ko, kwa, kin, kwr, khi, krd, knu, kgi, kas, kfr, kra, kco, kof, kip⟩ := id hk
    refine pw_iload dX10_erase_13 rfl ?_
    refine pw_aload_n dX10_erase_15 rfl ?_
    refine pw_get (v := .ref (B + 15)) okX10 (k := 18) (by decide) lkX10_53 hA.1 rfl dX10_erase_16 ?_
    refine pw_iload_n dX10_erase_19 rfl ?_
    refine pw_iald (t := 0) rfl (mF18 hA) (by first | omega | exact mCell_b hp ko (by omega) (by omega) | exact mHis_b hp (by omega) (by omega)) (by decide) dX10_erase_20 ?_
    refine pw_icmp_ge (tgt := 75) dX10_erase_21 rfl (by omega) (by omega) (fun c21 => ?_) (fun c21 => ?_)
    ·
      exact kk _ s1 h1  hA hk hr hF
    · exfalso; omega
  | succ j ih =>
    intro k s1 h1 hj i0 i1 hA hk hr hF
    have e18 := congrFun (hr.2.1 18 (by decide)) p.toNat
    have e19 := congrFun (hr.2.1 19 (by decide)) p.toNat
    obtain ⟨kw, kh, kr, kc, ksr, ksc, kt, ko, kwa, kin, kwr, khi, krd, knu, kgi, kas, kfr, kra, kco, kof, kip⟩ := id hk
    refine pw_iload dX10_erase_13 rfl ?_
    refine pw_aload_n dX10_erase_15 rfl ?_
    refine pw_get (v := .ref (B + 15)) okX10 (k := 18) (by decide) lkX10_53 hA.1 rfl dX10_erase_16 ?_
    refine pw_iload_n dX10_erase_19 rfl ?_
    refine pw_iald (t := 0) rfl (mF18 hA) (by first | omega | exact mCell_b hp ko (by omega) (by omega) | exact mHis_b hp (by omega) (by omega)) (by decide) dX10_erase_20 ?_
    refine pw_icmp_ge (tgt := 75) dX10_erase_21 rfl (by omega) (by omega) (fun c21 => ?_) (fun c21 => ?_)
    ·
      exact kk _ s1 h1  hA hk hr hF
    ·
      refine pw_iload dX10_erase_24 rfl ?_
      refine pw_iload_n dX10_erase_26 rfl ?_
      refine pw_icmp_gt (tgt := 36) dX10_erase_27 rfl (by omega) (by omega) (fun c27 => ?_) (fun c27 => ?_)
      ·
        refine pw_iload dX10_erase_36 rfl ?_
        refine pw_iload dX10_erase_38 rfl ?_
        refine pw_icmp_lt (tgt := 50) dX10_erase_40 rfl (by omega) (by omega) (fun c40 => ?_) (fun c40 => ?_)
        ·
          refine pw_aload_n dX10_erase_50 rfl ?_
          refine pw_aload_n dX10_erase_51 rfl ?_
          refine pw_iload_n dX10_erase_52 rfl ?_
          refine pw_iload dX10_erase_53 rfl ?_
          refine pw_iload dX10_erase_55 rfl ?_
          refine pw_callV (As := [.int (zI (p)), .int (zI (r)), .int (zI (k))]) (b := B) (rm := rmD 1 0 0) (mR_at htr hA hp hk) rfl hA.1 rfl rfl ywX10_at rfl cwX10_231 ⟨nle rfl, nle rfl⟩ (nle rfl) ⟨nle rfl, nle rfl⟩ dX10_erase_57 ?_ (fun _ _ _ z => z.elim)
          intro r_9 h_9 n_9 hq _
          rw [hq.1, hq.2.1, hq.2.2]
          show pw E YX10_erase _ _ 0 0 60 [some (.ref B), some (.int (zI (p))), some (.int (zI (a))), some (.int (zI (b))), some (.int (zI (c))), some (.int (zI (d))), some (.int (zI (r))), some (.int (zI (k)))] [.int (zI (mCell (p) (s1.2 22 p.toNat) (r) (k))), .ref B] h1 n
          refine pw_aload_n dX10_erase_60 rfl ?_
          refine pw_get (v := .ref (B + 22)) okX10 (k := 25) (by decide) lkX10_74 hA.1 rfl dX10_erase_61 ?_
          refine pw_iload_n dX10_erase_64 rfl ?_
          refine pw_iald (t := 0) rfl (mF25 hA) (by first | omega | exact mCell_b hp ko (by omega) (by omega) | exact mHis_b hp (by omega) (by omega)) (by decide) dX10_erase_65 ?_
          refine pw_callV (As := [.int (zI (mCell (p) (s1.2 22 p.toNat) (r) (k))), .int (zI ((s1.2 25) (p).toNat))]) (b := B) (rm := rmD 0 0 0) (mR_blank htr hA hp hk (by first | omega | exact mCell_b hp ko (by omega) (by omega))) rfl hA.1 rfl rfl ywX10_blank rfl cwX10_184 ⟨nle rfl, nle rfl⟩ (nle rfl) ⟨nle rfl, nle rfl⟩ dX10_erase_66 ?_ (fun _ _ _ z => z.elim)
          intro r_9 h2 n_9 hq _
          obtain ⟨e1, s2, hA2, hk2, hr20, hF20, e4⟩ := hq
          rw [e1, e4]
          show pw E YX10_erase _ _ 0 0 69 [some (.ref B), some (.int (zI (p))), some (.int (zI (a))), some (.int (zI (b))), some (.int (zI (c))), some (.int (zI (d))), some (.int (zI (r))), some (.int (zI (k)))] [] h2 n
          have hr2 := mPr_tr hr hr20
          have hF2 := mFr_tr hF hF20
          obtain ⟨kw, kh, kr, kc, ksr, ksc, kt, ko, kwa, kin, kwr, khi, krd, knu, kgi, kas, kfr, kra, kco, kof, kip⟩ := id hk2
          have e18 := congrFun (hr2.2.1 18 (by decide)) p.toNat
          have e19 := congrFun (hr2.2.1 19 (by decide)) p.toNat
          refine pw_ziinc (lv' := [some (.ref B), some (.int (zI (p))), some (.int (zI (a))), some (.int (zI (b))), some (.int (zI (c))), some (.int (zI (d))), some (.int (zI (r))), some (.int (zI (k + 1)))]) dX10_erase_69 rfl (by decide) rfl rfl ?_
          refine pw_goto (tgt := 13) dX10_erase_72 rfl ?_
          exact ih (k + 1) s2 h2 (by omega) (by omega) (by omega)  hA2 hk2 hr2 hF2
        ·
          refine pw_iload dX10_erase_43 rfl ?_
          refine pw_iload dX10_erase_45 rfl ?_
          refine pw_icmp_gt (tgt := 69) dX10_erase_47 rfl (by omega) (by omega) (fun c47 => ?_) (fun c47 => ?_)
          ·
            refine pw_ziinc (lv' := [some (.ref B), some (.int (zI (p))), some (.int (zI (a))), some (.int (zI (b))), some (.int (zI (c))), some (.int (zI (d))), some (.int (zI (r))), some (.int (zI (k + 1)))]) dX10_erase_69 rfl (by decide) rfl rfl ?_
            refine pw_goto (tgt := 13) dX10_erase_72 rfl ?_
            exact ih (k + 1) s1 h1 (by omega) (by omega) (by omega)  hA hk hr hF
          ·
            refine pw_aload_n dX10_erase_50 rfl ?_
            refine pw_aload_n dX10_erase_51 rfl ?_
            refine pw_iload_n dX10_erase_52 rfl ?_
            refine pw_iload dX10_erase_53 rfl ?_
            refine pw_iload dX10_erase_55 rfl ?_
            refine pw_callV (As := [.int (zI (p)), .int (zI (r)), .int (zI (k))]) (b := B) (rm := rmD 1 0 0) (mR_at htr hA hp hk) rfl hA.1 rfl rfl ywX10_at rfl cwX10_231 ⟨nle rfl, nle rfl⟩ (nle rfl) ⟨nle rfl, nle rfl⟩ dX10_erase_57 ?_ (fun _ _ _ z => z.elim)
            intro r_9 h_9 n_9 hq _
            rw [hq.1, hq.2.1, hq.2.2]
            show pw E YX10_erase _ _ 0 0 60 [some (.ref B), some (.int (zI (p))), some (.int (zI (a))), some (.int (zI (b))), some (.int (zI (c))), some (.int (zI (d))), some (.int (zI (r))), some (.int (zI (k)))] [.int (zI (mCell (p) (s1.2 22 p.toNat) (r) (k))), .ref B] h1 n
            refine pw_aload_n dX10_erase_60 rfl ?_
            refine pw_get (v := .ref (B + 22)) okX10 (k := 25) (by decide) lkX10_74 hA.1 rfl dX10_erase_61 ?_
            refine pw_iload_n dX10_erase_64 rfl ?_
            refine pw_iald (t := 0) rfl (mF25 hA) (by first | omega | exact mCell_b hp ko (by omega) (by omega) | exact mHis_b hp (by omega) (by omega)) (by decide) dX10_erase_65 ?_
            refine pw_callV (As := [.int (zI (mCell (p) (s1.2 22 p.toNat) (r) (k))), .int (zI ((s1.2 25) (p).toNat))]) (b := B) (rm := rmD 0 0 0) (mR_blank htr hA hp hk (by first | omega | exact mCell_b hp ko (by omega) (by omega))) rfl hA.1 rfl rfl ywX10_blank rfl cwX10_184 ⟨nle rfl, nle rfl⟩ (nle rfl) ⟨nle rfl, nle rfl⟩ dX10_erase_66 ?_ (fun _ _ _ z => z.elim)
            intro r_9 h3 n_9 hq _
            obtain ⟨e1, s3, hA3, hk3, hr30, hF30, e4⟩ := hq
            rw [e1, e4]
            show pw E YX10_erase _ _ 0 0 69 [some (.ref B), some (.int (zI (p))), some (.int (zI (a))), some (.int (zI (b))), some (.int (zI (c))), some (.int (zI (d))), some (.int (zI (r))), some (.int (zI (k)))] [] h3 n
            have hr3 := mPr_tr hr hr30
            have hF3 := mFr_tr hF hF30
            obtain ⟨kw, kh, kr, kc, ksr, ksc, kt, ko, kwa, kin, kwr, khi, krd, knu, kgi, kas, kfr, kra, kco, kof, kip⟩ := id hk3
            have e18 := congrFun (hr3.2.1 18 (by decide)) p.toNat
            have e19 := congrFun (hr3.2.1 19 (by decide)) p.toNat
            refine pw_ziinc (lv' := [some (.ref B), some (.int (zI (p))), some (.int (zI (a))), some (.int (zI (b))), some (.int (zI (c))), some (.int (zI (d))), some (.int (zI (r))), some (.int (zI (k + 1)))]) dX10_erase_69 rfl (by decide) rfl rfl ?_
            refine pw_goto (tgt := 13) dX10_erase_72 rfl ?_
            exact ih (k + 1) s3 h3 (by omega) (by omega) (by omega)  hA3 hk3 hr3 hF3
      ·
        refine pw_iload dX10_erase_30 rfl ?_
        refine pw_iload_n dX10_erase_32 rfl ?_
        refine pw_icmp_lt (tgt := 69) dX10_erase_33 rfl (by omega) (by omega) (fun c33 => ?_) (fun c33 => ?_)
        ·
          refine pw_ziinc (lv' := [some (.ref B), some (.int (zI (p))), some (.int (zI (a))), some (.int (zI (b))), some (.int (zI (c))), some (.int (zI (d))), some (.int (zI (r))), some (.int (zI (k + 1)))]) dX10_erase_69 rfl (by decide) rfl rfl ?_
          refine pw_goto (tgt := 13) dX10_erase_72 rfl ?_
          exact ih (k + 1) s1 h1 (by omega) (by omega) (by omega)  hA hk hr hF
        ·
          refine pw_iload dX10_erase_36 rfl ?_
          refine pw_iload dX10_erase_38 rfl ?_
          refine pw_icmp_lt (tgt := 50) dX10_erase_40 rfl (by omega) (by omega) (fun c40 => ?_) (fun c40 => ?_)
          ·
            refine pw_aload_n dX10_erase_50 rfl ?_
            refine pw_aload_n dX10_erase_51 rfl ?_
            refine pw_iload_n dX10_erase_52 rfl ?_
            refine pw_iload dX10_erase_53 rfl ?_
            refine pw_iload dX10_erase_55 rfl ?_
            refine pw_callV (As := [.int (zI (p)), .int (zI (r)), .int (zI (k))]) (b := B) (rm := rmD 1 0 0) (mR_at htr hA hp hk) rfl hA.1 rfl rfl ywX10_at rfl cwX10_231 ⟨nle rfl, nle rfl⟩ (nle rfl) ⟨nle rfl, nle rfl⟩ dX10_erase_57 ?_ (fun _ _ _ z => z.elim)
            intro r_9 h_9 n_9 hq _
            rw [hq.1, hq.2.1, hq.2.2]
            show pw E YX10_erase _ _ 0 0 60 [some (.ref B), some (.int (zI (p))), some (.int (zI (a))), some (.int (zI (b))), some (.int (zI (c))), some (.int (zI (d))), some (.int (zI (r))), some (.int (zI (k)))] [.int (zI (mCell (p) (s1.2 22 p.toNat) (r) (k))), .ref B] h1 n
            refine pw_aload_n dX10_erase_60 rfl ?_
            refine pw_get (v := .ref (B + 22)) okX10 (k := 25) (by decide) lkX10_74 hA.1 rfl dX10_erase_61 ?_
            refine pw_iload_n dX10_erase_64 rfl ?_
            refine pw_iald (t := 0) rfl (mF25 hA) (by first | omega | exact mCell_b hp ko (by omega) (by omega) | exact mHis_b hp (by omega) (by omega)) (by decide) dX10_erase_65 ?_
            refine pw_callV (As := [.int (zI (mCell (p) (s1.2 22 p.toNat) (r) (k))), .int (zI ((s1.2 25) (p).toNat))]) (b := B) (rm := rmD 0 0 0) (mR_blank htr hA hp hk (by first | omega | exact mCell_b hp ko (by omega) (by omega))) rfl hA.1 rfl rfl ywX10_blank rfl cwX10_184 ⟨nle rfl, nle rfl⟩ (nle rfl) ⟨nle rfl, nle rfl⟩ dX10_erase_66 ?_ (fun _ _ _ z => z.elim)
            intro r_9 h4 n_9 hq _
            obtain ⟨e1, s4, hA4, hk4, hr40, hF40, e4⟩ := hq
            rw [e1, e4]
            show pw E YX10_erase _ _ 0 0 69 [some (.ref B), some (.int (zI (p))), some (.int (zI (a))), some (.int (zI (b))), some (.int (zI (c))), some (.int (zI (d))), some (.int (zI (r))), some (.int (zI (k)))] [] h4 n
            have hr4 := mPr_tr hr hr40
            have hF4 := mFr_tr hF hF40
            obtain ⟨kw, kh, kr, kc, ksr, ksc, kt, ko, kwa, kin, kwr, khi, krd, knu, kgi, kas, kfr, kra, kco, kof, kip⟩ := id hk4
            have e18 := congrFun (hr4.2.1 18 (by decide)) p.toNat
            have e19 := congrFun (hr4.2.1 19 (by decide)) p.toNat
            refine pw_ziinc (lv' := [some (.ref B), some (.int (zI (p))), some (.int (zI (a))), some (.int (zI (b))), some (.int (zI (c))), some (.int (zI (d))), some (.int (zI (r))), some (.int (zI (k + 1)))]) dX10_erase_69 rfl (by decide) rfl rfl ?_
            refine pw_goto (tgt := 13) dX10_erase_72 rfl ?_
            exact ih (k + 1) s4 h4 (by omega) (by omega) (by omega)  hA4 hk4 hr4 hF4
          ·
            refine pw_iload dX10_erase_43 rfl ?_
            refine pw_iload dX10_erase_45 rfl ?_
            refine pw_icmp_gt (tgt := 69) dX10_erase_47 rfl (by omega) (by omega) (fun c47 => ?_) (fun c47 => ?_)
            ·
              refine pw_ziinc (lv' := [some (.ref B), some (.int (zI (p))), some (.int (zI (a))), some (.int (zI (b))), some (.int (zI (c))), some (.int (zI (d))), some (.int (zI (r))), some (.int (zI (k + 1)))]) dX10_erase_69 rfl (by decide) rfl rfl ?_
              refine pw_goto (tgt := 13) dX10_erase_72 rfl ?_
              exact ih (k + 1) s1 h1 (by omega) (by omega) (by omega)  hA hk hr hF
            ·
              refine pw_aload_n dX10_erase_50 rfl ?_
              refine pw_aload_n dX10_erase_51 rfl ?_
              refine pw_iload_n dX10_erase_52 rfl ?_
              refine pw_iload dX10_erase_53 rfl ?_
              refine pw_iload dX10_erase_55 rfl ?_
              refine pw_callV (As := [.int (zI (p)), .int (zI (r)), .int (zI (k))]) (b := B) (rm := rmD 1 0 0) (mR_at htr hA hp hk) rfl hA.1 rfl rfl ywX10_at rfl cwX10_231 ⟨nle rfl, nle rfl⟩ (nle rfl) ⟨nle rfl, nle rfl⟩ dX10_erase_57 ?_ (fun _ _ _ z => z.elim)
              intro r_9 h_9 n_9 hq _
              rw [hq.1, hq.2.1, hq.2.2]
              show pw E YX10_erase _ _ 0 0 60 [some (.ref B), some (.int (zI (p))), some (.int (zI (a))), some (.int (zI (b))), some (.int (zI (c))), some (.int (zI (d))), some (.int (zI (r))), some (.int (zI (k)))] [.int (zI (mCell (p) (s1.2 22 p.toNat) (r) (k))), .ref B] h1 n
              refine pw_aload_n dX10_erase_60 rfl ?_
              refine pw_get (v := .ref (B + 22)) okX10 (k := 25) (by decide) lkX10_74 hA.1 rfl dX10_erase_61 ?_
              refine pw_iload_n dX10_erase_64 rfl ?_
              refine pw_iald (t := 0) rfl (mF25 hA) (by first | omega | exact mCell_b hp ko (by omega) (by omega) | exact mHis_b hp (by omega) (by omega)) (by decide) dX10_erase_65 ?_
              refine pw_callV (As := [.int (zI (mCell (p) (s1.2 22 p.toNat) (r) (k))), .int (zI ((s1.2 25) (p).toNat))]) (b := B) (rm := rmD 0 0 0) (mR_blank htr hA hp hk (by first | omega | exact mCell_b hp ko (by omega) (by omega))) rfl hA.1 rfl rfl ywX10_blank rfl cwX10_184 ⟨nle rfl, nle rfl⟩ (nle rfl) ⟨nle rfl, nle rfl⟩ dX10_erase_66 ?_ (fun _ _ _ z => z.elim)
              intro r_9 h5 n_9 hq _
              obtain ⟨e1, s5, hA5, hk5, hr50, hF50, e4⟩ := hq
              rw [e1, e4]
              show pw E YX10_erase _ _ 0 0 69 [some (.ref B), some (.int (zI (p))), some (.int (zI (a))), some (.int (zI (b))), some (.int (zI (c))), some (.int (zI (d))), some (.int (zI (r))), some (.int (zI (k)))] [] h5 n
              have hr5 := mPr_tr hr hr50
              have hF5 := mFr_tr hF hF50
              obtain ⟨kw, kh, kr, kc, ksr, ksc, kt, ko, kwa, kin, kwr, khi, krd, knu, kgi, kas, kfr, kra, kco, kof, kip⟩ := id hk5
              have e18 := congrFun (hr5.2.1 18 (by decide)) p.toNat
              have e19 := congrFun (hr5.2.1 19 (by decide)) p.toNat
              refine pw_ziinc (lv' := [some (.ref B), some (.int (zI (p))), some (.int (zI (a))), some (.int (zI (b))), some (.int (zI (c))), some (.int (zI (d))), some (.int (zI (r))), some (.int (zI (k + 1)))]) dX10_erase_69 rfl (by decide) rfl rfl ?_
              refine pw_goto (tgt := 13) dX10_erase_72 rfl ?_
              exact ih (k + 1) s5 h5 (by omega) (by omega) (by omega)  hA5 hk5 hr5 hF5
set_option maxHeartbeats 2000000 in
set_option maxRecDepth 100000 in
theorem lR_era2 {E : pw_E} (htr : E.1.stackTraces = false) {Kk : pw_K} {n : Nat} {B : Nat} {s : mS} {h : pz_H} {p : Int} (hp : 0 ≤ p ∧ p < 8) {a b c d : Int} (ha : 0 ≤ a ∧ a < 16) (hc : c < 16) (hcc : -1000 ≤ c) (hb : -1000000 ≤ b ∧ b ≤ 1000000) (hd : -1000000 ≤ d ∧ d ≤ 1000000) (kk : ∀ (r9 : Int) (q : Option Value) (s2 : mS) (h2 : pz_H), mAt B s2 h2 → mPk s2 p.toNat → mPr p.toNat s s2 → mFr B h h2 → pw E YX10_erase (rmD 2 0 0) Kk 0 0 81 [some (.ref B), some (.int (zI (p))), some (.int (zI (a))), some (.int (zI (b))), some (.int (zI (c))), some (.int (zI (d))), some (.int (zI (r9))), q] [] h2 n) : ∀ (j : Nat) (r : Int) (q : Option Value) (s1 : mS) (h1 : pz_H), (16 - r).toNat = j → a ≤ r → r ≤ 16 → mAt B s1 h1 → mPk s1 p.toNat → mPr p.toNat s s1 → mFr B h h1 → pw E YX10_erase (rmD 2 0 0) Kk 0 0 3 [some (.ref B), some (.int (zI (p))), some (.int (zI (a))), some (.int (zI (b))), some (.int (zI (c))), some (.int (zI (d))), some (.int (zI (r))), q] [] h1 n := by
  intro j
  induction j with
  | zero =>
    intro r q s1 h1 hj i0 i1 hA hk hr hF
    have e18 := congrFun (hr.2.1 18 (by decide)) p.toNat
    have e19 := congrFun (hr.2.1 19 (by decide)) p.toNat
    obtain ⟨kw, kh, kr, kc, ksr, ksc, kt, ko, kwa, kin, kwr, khi, krd, knu, kgi, kas, kfr, kra, kco, kof, kip⟩ := id hk
    refine pw_iload dX10_erase_3 rfl ?_
    refine pw_iload dX10_erase_5 rfl ?_
    refine pw_icmp_gt (tgt := 81) dX10_erase_7 rfl (by omega) (by omega) (fun c7 => ?_) (fun c7 => ?_)
    ·
      exact kk _ _ s1 h1  hA hk hr hF
    · exfalso; omega
  | succ j ih =>
    intro r q s1 h1 hj i0 i1 hA hk hr hF
    have e18 := congrFun (hr.2.1 18 (by decide)) p.toNat
    have e19 := congrFun (hr.2.1 19 (by decide)) p.toNat
    obtain ⟨kw, kh, kr, kc, ksr, ksc, kt, ko, kwa, kin, kwr, khi, krd, knu, kgi, kas, kfr, kra, kco, kof, kip⟩ := id hk
    refine pw_iload dX10_erase_3 rfl ?_
    refine pw_iload dX10_erase_5 rfl ?_
    refine pw_icmp_gt (tgt := 81) dX10_erase_7 rfl (by omega) (by omega) (fun c7 => ?_) (fun c7 => ?_)
    ·
      exact kk _ _ s1 h1  hA hk hr hF
    ·
      refine pw_iconst (v := zI (0)) dX10_erase_10 (by decide) ?_
      refine pw_istore (lv' := [some (.ref B), some (.int (zI (p))), some (.int (zI (a))), some (.int (zI (b))), some (.int (zI (c))), some (.int (zI (d))), some (.int (zI (r))), some (.int (zI (0)))]) dX10_erase_11 (by decide) rfl rfl ?_
      refine lR_era1 htr hp ha hc hcc hb hd (by omega) ?_ _ (0) s1 h1 rfl (by omega) (by omega) hA hk hr hF
      intro k2  s2 h2 hA2 hk2 hr2 hF2
      obtain ⟨kw, kh, kr, kc, ksr, ksc, kt, ko, kwa, kin, kwr, khi, krd, knu, kgi, kas, kfr, kra, kco, kof, kip⟩ := id hk2
      have e18 := congrFun (hr2.2.1 18 (by decide)) p.toNat
      have e19 := congrFun (hr2.2.1 19 (by decide)) p.toNat
      refine pw_ziinc (lv' := [some (.ref B), some (.int (zI (p))), some (.int (zI (a))), some (.int (zI (b))), some (.int (zI (c))), some (.int (zI (d))), some (.int (zI (r + 1))), some (.int (zI (k2)))]) dX10_erase_75 rfl (by decide) rfl rfl ?_
      refine pw_goto (tgt := 3) dX10_erase_78 rfl ?_
      exact ih (r + 1) _ s2 h2 (by omega) (by omega) (by omega)  hA2 hk2 hr2 hF2
set_option maxHeartbeats 2000000 in
set_option maxRecDepth 100000 in
/-- erase(p, a, b, c, d) -/
theorem mR_erase {E : pw_E} (htr : E.1.stackTraces = false) {h : pz_H} {n : Nat} {B : Nat} {s : mS} (hA : mAt B s h) {p a b c d : Int} (hp : 0 ≤ p ∧ p < 8) (hk : mPk s p.toNat)  (ha : 0 ≤ a ∧ a < 16) (hc : c < 16) (hcc : -1000 ≤ c) (hb : -1000000 ≤ b ∧ b ≤ 1000000) (hd : -1000000 ≤ d ∧ d ≤ 1000000) : pw_M E yX10_erase YX10_erase (rmD 2 0 0) [.ref B, .int (zI (p)), .int (zI (a)), .int (zI (b)), .int (zI (c)), .int (zI (d))] h n (fun r0 h' n' => r0 = none ∧ ∃ s', mAt B s' h' ∧ mPk s' p.toNat ∧ mPr p.toNat s s' ∧ mFr B h h' ∧ n' = n) (fun _ _ _ => False) := by
  obtain ⟨kw, kh, kr, kc, ksr, ksc, kt, ko, kwa, kin, kwr, khi, krd, knu, kgi, kas, kfr, kra, kco, kof, kip⟩ := id hk
  have e18 : s.2 18 p.toNat = s.2 18 p.toNat := rfl
  refine pw_M_of (lv := [some (.ref B), some (.int (zI (p))), some (.int (zI (a))), some (.int (zI (b))), some (.int (zI (c))), some (.int (zI (d))), none, none]) (by decide) rfl rfl htr (nle rfl) rfl (fun L => ?_)
  refine pw_iload_n dX10_erase_0 rfl ?_
  refine pw_istore (lv' := [some (.ref B), some (.int (zI (p))), some (.int (zI (a))), some (.int (zI (b))), some (.int (zI (c))), some (.int (zI (d))), some (.int (zI (a))), none]) dX10_erase_1 (by decide) rfl rfl ?_
  refine lR_era2 htr hp ha hc hcc hb hd ?_ _ a _ s h rfl (by omega) (by omega) hA hk mPr_rf mFr_rf
  intro r9 q9 s1 h1 hA1 hk1 hr1 hF1
  obtain ⟨kw, kh, kr, kc, ksr, ksc, kt, ko, kwa, kin, kwr, khi, krd, knu, kgi, kas, kfr, kra, kco, kof, kip⟩ := id hk1
  refine pw_aload_n dX10_erase_81 rfl ?_
  refine pw_get (v := .ref (B + 28)) okX10 (k := 31) (by decide) lkX10_92 hA1.1 rfl dX10_erase_82 ?_
  refine pw_iload_n dX10_erase_85 rfl ?_
  refine pw_iconst (v := zI (0)) dX10_erase_86 (by decide) ?_
  refine pw_zast (t := 1) rfl (mF31 hA1) (by first | omega | exact mCell_b hp ko (by omega) (by omega) | exact mHis_b hp (by omega) (by omega)) (by decide) (by omega) dX10_erase_87 ?_
  have hA2 : mAt B (mA 31 (va_up (s1.2 31) (p).toNat (0)) s1) (va_up h1 (B + 28) (pz_z 1 8 (va_up (s1.2 31) (p).toNat (0)))) := mU31 hA1
  have hk2 : mPk (mA 31 (va_up (s1.2 31) (p).toNat (0)) s1) p.toNat := mP31 hk1 (by omega)
  have hr2 : mPr p.toNat s (mA 31 (va_up (s1.2 31) (p).toNat (0)) s1) := mPr_tr hr1 (mPr_W (by decide) (by decide) (by decide))
  have hF2 : mFr B h (va_up h1 (B + 28) (pz_z 1 8 (va_up (s1.2 31) (p).toNat (0)))) := mFr_tr hF1 (mFr_up (by decide))
  revert hA2 hk2 hr2 hF2 
  generalize (mA 31 (va_up (s1.2 31) (p).toNat (0)) s1) = s2
  generalize (va_up h1 (B + 28) (pz_z 1 8 (va_up (s1.2 31) (p).toNat (0)))) = h2
  intro hA2 hk2 hr2 hF2 
  obtain ⟨kw, kh, kr, kc, ksr, ksc, kt, ko, kwa, kin, kwr, khi, krd, knu, kgi, kas, kfr, kra, kco, kof, kip⟩ := id hk2
  have e18 := congrFun (hr2.2.1 18 (by decide)) p.toNat
  have e19 := congrFun (hr2.2.1 19 (by decide)) p.toNat
  exact pw_vret dX10_erase_88 rfl (nle rfl) (nle rfl) ⟨rfl, s2, hA2, hk2, hr2, hF2, rfl⟩
theorem mP2930 {s : mS} {p : Nat} {v1 v2 : Int} (hk : mPk s p) (hv : 0 ≤ v1 ∧ v1 ≤ v2 ∧ v2 < s.2 19 p) : mPk (mA 30 (va_up (s.2 30) p v2) (mA 29 (va_up (s.2 29) p v1) s)) p := by
  obtain ⟨kw, kh, kr, kc, ksr, ksc, kt, ko, kwa, kin, kwr, khi, krd, knu, kgi, kas, kfr, kra, kco, kof, kip⟩ := hk
  exact ⟨kw, kh, kr, kc, ksr, ksc, (show 0 ≤ va_up (s.2 29) p v1 p ∧ va_up (s.2 29) p v1 p ≤ va_up (s.2 30) p v2 p ∧ va_up (s.2 30) p v2 p < s.2 19 p by rw [va_up_self, va_up_self]; exact hv), ko, kwa, kin, kwr, khi, krd, knu, kgi, kas, kfr, kra, kco, kof, kip⟩
set_option maxHeartbeats 2000000 in
set_option maxRecDepth 100000 in
/-- region(p, nn, se) -/
theorem mR_region {E : pw_E} (htr : E.1.stackTraces = false) {h : pz_H} {n : Nat} {B : Nat} {s : mS} (hA : mAt B s h) {p nn se : Int} (hp : 0 ≤ p ∧ p < 8) (hk : mPk s p.toNat) (hnn : 1 ≤ nn ∧ nn ≤ 1000) (hse : 0 ≤ se ∧ se ≤ 1000) : pw_M E yX10_region YX10_region (rmD 2 0 0) [.ref B, .int (zI (p)), .int (zI (nn)), .int (zI (se))] h n (fun r0 h' n' => r0 = none ∧ ∃ s', mAt B s' h' ∧ mPk s' p.toNat ∧ mPr p.toNat s s' ∧ mFr B h h' ∧ n' = n) (fun _ _ _ => False) := by
  obtain ⟨kw, kh, kr, kc, ksr, ksc, kt, ko, kwa, kin, kwr, khi, krd, knu, kgi, kas, kfr, kra, kco, kof, kip⟩ := id hk
  have e18 : s.2 18 p.toNat = s.2 18 p.toNat := rfl
  refine pw_M_of (lv := [some (.ref B), some (.int (zI (p))), some (.int (zI (nn))), some (.int (zI (se))), none]) (by decide) rfl rfl htr (nle rfl) rfl (fun L => ?_)
  refine pw_iload_n dX10_region_0 rfl ?_
  refine pw_if_eq (tgt := 14) dX10_region_1 rfl (by omega) (fun c1 => ?_) (fun c1 => ?_)
  ·
    refine pw_aload_n dX10_region_14 rfl ?_
    refine pw_get (v := .ref (B + 16)) okX10 (k := 19) (by decide) lkX10_56 hA.1 rfl dX10_region_15 ?_
    refine pw_iload_n dX10_region_18 rfl ?_
    refine pw_iald (t := 0) rfl (mF19 hA) (by first | omega | exact mCell_b hp ko (by omega) (by omega) | exact mHis_b hp (by omega) (by omega)) (by decide) dX10_region_19 ?_
    refine pw_goto (tgt := 24) dX10_region_20 rfl ?_
    refine pw_istore (lv' := [some (.ref B), some (.int (zI (p))), some (.int (zI (nn))), some (.int (zI (se))), some (.int (zI ((s.2 19) (p).toNat)))]) dX10_region_24 (by decide) rfl rfl ?_
    refine pw_iload dX10_region_26 rfl ?_
    refine pw_iload_n dX10_region_28 rfl ?_
    refine pw_icmp_le (tgt := 58) dX10_region_29 rfl (by omega) (by omega) (fun c29 => ?_) (fun c29 => ?_)
    ·
      exact pw_vret dX10_region_58 rfl (nle rfl) (nle rfl) ⟨rfl, s, hA, hk, mPr_rf, mFr_rf, rfl⟩
    ·
      refine pw_aload_n dX10_region_32 rfl ?_
      refine pw_get (v := .ref (B + 26)) okX10 (k := 29) (by decide) lkX10_86 hA.1 rfl dX10_region_33 ?_
      refine pw_iload_n dX10_region_36 rfl ?_
      refine pw_iload_n dX10_region_37 rfl ?_
      refine pw_iconst (v := zI (1)) dX10_region_38 (by decide) ?_
      refine pw_zisub dX10_region_39 ?_
      refine pw_iast (t := 0) rfl (mF29 hA) (by first | omega | exact mCell_b hp ko (by omega) (by omega) | exact mHis_b hp (by omega) (by omega)) (by decide) dX10_region_40 ?_
      have hA1 : mAt B (mA 29 (va_up (s.2 29) (p).toNat (nn - 1)) s) (va_up h (B + 26) (pz_z 0 8 (va_up (s.2 29) (p).toNat (nn - 1)))) := mU29 hA
      have hF1 : mFr B h (va_up h (B + 26) (pz_z 0 8 (va_up (s.2 29) (p).toNat (nn - 1)))) := mFr_tr mFr_rf (mFr_up (by decide))
      have hr1 : mPr p.toNat s (mA 29 (va_up (s.2 29) (p).toNat (nn - 1)) s) := mPr_tr mPr_rf (mPr_W (by decide) (by decide) (by decide))
      refine pw_aload_n dX10_region_41 rfl ?_
      refine pw_get (v := .ref (B + 27)) okX10 (k := 30) (by decide) lkX10_89 hA1.1 rfl dX10_region_42 ?_
      refine pw_iload_n dX10_region_45 rfl ?_
      refine pw_iload dX10_region_46 rfl ?_
      refine pw_iconst (v := zI (1)) dX10_region_48 (by decide) ?_
      refine pw_zisub dX10_region_49 ?_
      refine pw_iast (t := 0) rfl (mF30 hA1) (by first | omega | exact mCell_b hp ko (by omega) (by omega) | exact mHis_b hp (by omega) (by omega)) (by decide) dX10_region_50 ?_
      have hA2 : mAt B (mA 30 (va_up ((mA 29 (va_up (s.2 29) (p).toNat (nn - 1)) s).2 30) (p).toNat (((s.2 19) (p).toNat) - (1))) (mA 29 (va_up (s.2 29) (p).toNat (nn - 1)) s)) (va_up (va_up h (B + 26) (pz_z 0 8 (va_up (s.2 29) (p).toNat (nn - 1)))) (B + 27) (pz_z 0 8 (va_up ((mA 29 (va_up (s.2 29) (p).toNat (nn - 1)) s).2 30) (p).toNat (((s.2 19) (p).toNat) - (1))))) := mU30 hA1
      have hk2 : mPk (mA 30 (va_up ((mA 29 (va_up (s.2 29) (p).toNat (nn - 1)) s).2 30) (p).toNat (((s.2 19) (p).toNat) - (1))) (mA 29 (va_up (s.2 29) (p).toNat (nn - 1)) s)) p.toNat := mP2930 hk (by omega)
      have hr2 : mPr p.toNat s (mA 30 (va_up ((mA 29 (va_up (s.2 29) (p).toNat (nn - 1)) s).2 30) (p).toNat (((s.2 19) (p).toNat) - (1))) (mA 29 (va_up (s.2 29) (p).toNat (nn - 1)) s)) := mPr_tr hr1 (mPr_W (by decide) (by decide) (by decide))
      have hF2 : mFr B h (va_up (va_up h (B + 26) (pz_z 0 8 (va_up (s.2 29) (p).toNat (nn - 1)))) (B + 27) (pz_z 0 8 (va_up ((mA 29 (va_up (s.2 29) (p).toNat (nn - 1)) s).2 30) (p).toNat (((s.2 19) (p).toNat) - (1))))) := mFr_tr hF1 (mFr_up (by decide))
      revert hA2 hk2 hr2 hF2 
      generalize (mA 30 (va_up ((mA 29 (va_up (s.2 29) (p).toNat (nn - 1)) s).2 30) (p).toNat (((s.2 19) (p).toNat) - (1))) (mA 29 (va_up (s.2 29) (p).toNat (nn - 1)) s)) = s2
      generalize (va_up (va_up h (B + 26) (pz_z 0 8 (va_up (s.2 29) (p).toNat (nn - 1)))) (B + 27) (pz_z 0 8 (va_up ((mA 29 (va_up (s.2 29) (p).toNat (nn - 1)) s).2 30) (p).toNat (((s.2 19) (p).toNat) - (1))))) = h2
      intro hA2 hk2 hr2 hF2 
      obtain ⟨kw, kh, kr, kc, ksr, ksc, kt, ko, kwa, kin, kwr, khi, krd, knu, kgi, kas, kfr, kra, kco, kof, kip⟩ := id hk2
      have e18 := congrFun (hr2.2.1 18 (by decide)) p.toNat
      have e19 := congrFun (hr2.2.1 19 (by decide)) p.toNat
      refine pw_aload_n dX10_region_51 rfl ?_
      refine pw_iload_n dX10_region_52 rfl ?_
      refine pw_iconst (v := zI (0)) dX10_region_53 (by decide) ?_
      refine pw_iconst (v := zI (0)) dX10_region_54 (by decide) ?_
      refine pw_callV (As := [.int (zI (p)), .int (zI (0)), .int (zI (0))]) (b := B) (rm := rmD 1 0 0) (mR_moveTo htr hA2 hp hk2 (by omega) (by omega)) rfl hA2.1 rfl rfl ywX10_moveTo rfl cwX10_261 ⟨nle rfl, nle rfl⟩ (nle rfl) ⟨nle rfl, nle rfl⟩ dX10_region_55 ?_ (fun _ _ _ z => z.elim)
      intro r_9 h3 n_9 hq _
      obtain ⟨e1, s3, hA3, hk3, hr30, hF30, e4⟩ := hq
      rw [e1, e4]
      show pw E YX10_region _ _ 0 0 58 [some (.ref B), some (.int (zI (p))), some (.int (zI (nn))), some (.int (zI (se))), some (.int (zI ((s.2 19) (p).toNat)))] [] h3 n
      have hr3 := mPr_tr hr2 hr30
      have hF3 := mFr_tr hF2 hF30
      obtain ⟨kw, kh, kr, kc, ksr, ksc, kt, ko, kwa, kin, kwr, khi, krd, knu, kgi, kas, kfr, kra, kco, kof, kip⟩ := id hk3
      have e18 := congrFun (hr3.2.1 18 (by decide)) p.toNat
      have e19 := congrFun (hr3.2.1 19 (by decide)) p.toNat
      exact pw_vret dX10_region_58 rfl (nle rfl) (nle rfl) ⟨rfl, s3, hA3, hk3, hr3, hF3, rfl⟩
  ·
    refine pw_iload_n dX10_region_4 rfl ?_
    refine pw_aload_n dX10_region_5 rfl ?_
    refine pw_get (v := .ref (B + 16)) okX10 (k := 19) (by decide) lkX10_56 hA.1 rfl dX10_region_6 ?_
    refine pw_iload_n dX10_region_9 rfl ?_
    refine pw_iald (t := 0) rfl (mF19 hA) (by first | omega | exact mCell_b hp ko (by omega) (by omega) | exact mHis_b hp (by omega) (by omega)) (by decide) dX10_region_10 ?_
    refine pw_icmp_le (tgt := 23) dX10_region_11 rfl (by omega) (by omega) (fun c11 => ?_) (fun c11 => ?_)
    ·
      refine pw_iload_n dX10_region_23 rfl ?_
      refine pw_istore (lv' := [some (.ref B), some (.int (zI (p))), some (.int (zI (nn))), some (.int (zI (se))), some (.int (zI (se)))]) dX10_region_24 (by decide) rfl rfl ?_
      refine pw_iload dX10_region_26 rfl ?_
      refine pw_iload_n dX10_region_28 rfl ?_
      refine pw_icmp_le (tgt := 58) dX10_region_29 rfl (by omega) (by omega) (fun c29 => ?_) (fun c29 => ?_)
      ·
        exact pw_vret dX10_region_58 rfl (nle rfl) (nle rfl) ⟨rfl, s, hA, hk, mPr_rf, mFr_rf, rfl⟩
      ·
        refine pw_aload_n dX10_region_32 rfl ?_
        refine pw_get (v := .ref (B + 26)) okX10 (k := 29) (by decide) lkX10_86 hA.1 rfl dX10_region_33 ?_
        refine pw_iload_n dX10_region_36 rfl ?_
        refine pw_iload_n dX10_region_37 rfl ?_
        refine pw_iconst (v := zI (1)) dX10_region_38 (by decide) ?_
        refine pw_zisub dX10_region_39 ?_
        refine pw_iast (t := 0) rfl (mF29 hA) (by first | omega | exact mCell_b hp ko (by omega) (by omega) | exact mHis_b hp (by omega) (by omega)) (by decide) dX10_region_40 ?_
        have hA4 : mAt B (mA 29 (va_up (s.2 29) (p).toNat (nn - 1)) s) (va_up h (B + 26) (pz_z 0 8 (va_up (s.2 29) (p).toNat (nn - 1)))) := mU29 hA
        have hF4 : mFr B h (va_up h (B + 26) (pz_z 0 8 (va_up (s.2 29) (p).toNat (nn - 1)))) := mFr_tr mFr_rf (mFr_up (by decide))
        have hr4 : mPr p.toNat s (mA 29 (va_up (s.2 29) (p).toNat (nn - 1)) s) := mPr_tr mPr_rf (mPr_W (by decide) (by decide) (by decide))
        refine pw_aload_n dX10_region_41 rfl ?_
        refine pw_get (v := .ref (B + 27)) okX10 (k := 30) (by decide) lkX10_89 hA4.1 rfl dX10_region_42 ?_
        refine pw_iload_n dX10_region_45 rfl ?_
        refine pw_iload dX10_region_46 rfl ?_
        refine pw_iconst (v := zI (1)) dX10_region_48 (by decide) ?_
        refine pw_zisub dX10_region_49 ?_
        refine pw_iast (t := 0) rfl (mF30 hA4) (by first | omega | exact mCell_b hp ko (by omega) (by omega) | exact mHis_b hp (by omega) (by omega)) (by decide) dX10_region_50 ?_
        have hA5 : mAt B (mA 30 (va_up ((mA 29 (va_up (s.2 29) (p).toNat (nn - 1)) s).2 30) (p).toNat (se - 1)) (mA 29 (va_up (s.2 29) (p).toNat (nn - 1)) s)) (va_up (va_up h (B + 26) (pz_z 0 8 (va_up (s.2 29) (p).toNat (nn - 1)))) (B + 27) (pz_z 0 8 (va_up ((mA 29 (va_up (s.2 29) (p).toNat (nn - 1)) s).2 30) (p).toNat (se - 1)))) := mU30 hA4
        have hk5 : mPk (mA 30 (va_up ((mA 29 (va_up (s.2 29) (p).toNat (nn - 1)) s).2 30) (p).toNat (se - 1)) (mA 29 (va_up (s.2 29) (p).toNat (nn - 1)) s)) p.toNat := mP2930 hk (by omega)
        have hr5 : mPr p.toNat s (mA 30 (va_up ((mA 29 (va_up (s.2 29) (p).toNat (nn - 1)) s).2 30) (p).toNat (se - 1)) (mA 29 (va_up (s.2 29) (p).toNat (nn - 1)) s)) := mPr_tr hr4 (mPr_W (by decide) (by decide) (by decide))
        have hF5 : mFr B h (va_up (va_up h (B + 26) (pz_z 0 8 (va_up (s.2 29) (p).toNat (nn - 1)))) (B + 27) (pz_z 0 8 (va_up ((mA 29 (va_up (s.2 29) (p).toNat (nn - 1)) s).2 30) (p).toNat (se - 1)))) := mFr_tr hF4 (mFr_up (by decide))
        revert hA5 hk5 hr5 hF5 
        generalize (mA 30 (va_up ((mA 29 (va_up (s.2 29) (p).toNat (nn - 1)) s).2 30) (p).toNat (se - 1)) (mA 29 (va_up (s.2 29) (p).toNat (nn - 1)) s)) = s5
        generalize (va_up (va_up h (B + 26) (pz_z 0 8 (va_up (s.2 29) (p).toNat (nn - 1)))) (B + 27) (pz_z 0 8 (va_up ((mA 29 (va_up (s.2 29) (p).toNat (nn - 1)) s).2 30) (p).toNat (se - 1)))) = h5
        intro hA5 hk5 hr5 hF5 
        obtain ⟨kw, kh, kr, kc, ksr, ksc, kt, ko, kwa, kin, kwr, khi, krd, knu, kgi, kas, kfr, kra, kco, kof, kip⟩ := id hk5
        have e18 := congrFun (hr5.2.1 18 (by decide)) p.toNat
        have e19 := congrFun (hr5.2.1 19 (by decide)) p.toNat
        refine pw_aload_n dX10_region_51 rfl ?_
        refine pw_iload_n dX10_region_52 rfl ?_
        refine pw_iconst (v := zI (0)) dX10_region_53 (by decide) ?_
        refine pw_iconst (v := zI (0)) dX10_region_54 (by decide) ?_
        refine pw_callV (As := [.int (zI (p)), .int (zI (0)), .int (zI (0))]) (b := B) (rm := rmD 1 0 0) (mR_moveTo htr hA5 hp hk5 (by omega) (by omega)) rfl hA5.1 rfl rfl ywX10_moveTo rfl cwX10_261 ⟨nle rfl, nle rfl⟩ (nle rfl) ⟨nle rfl, nle rfl⟩ dX10_region_55 ?_ (fun _ _ _ z => z.elim)
        intro r_9 h6 n_9 hq _
        obtain ⟨e1, s6, hA6, hk6, hr60, hF60, e4⟩ := hq
        rw [e1, e4]
        show pw E YX10_region _ _ 0 0 58 [some (.ref B), some (.int (zI (p))), some (.int (zI (nn))), some (.int (zI (se))), some (.int (zI (se)))] [] h6 n
        have hr6 := mPr_tr hr5 hr60
        have hF6 := mFr_tr hF5 hF60
        obtain ⟨kw, kh, kr, kc, ksr, ksc, kt, ko, kwa, kin, kwr, khi, krd, knu, kgi, kas, kfr, kra, kco, kof, kip⟩ := id hk6
        have e18 := congrFun (hr6.2.1 18 (by decide)) p.toNat
        have e19 := congrFun (hr6.2.1 19 (by decide)) p.toNat
        exact pw_vret dX10_region_58 rfl (nle rfl) (nle rfl) ⟨rfl, s6, hA6, hk6, hr6, hF6, rfl⟩
    ·
      refine pw_aload_n dX10_region_14 rfl ?_
      refine pw_get (v := .ref (B + 16)) okX10 (k := 19) (by decide) lkX10_56 hA.1 rfl dX10_region_15 ?_
      refine pw_iload_n dX10_region_18 rfl ?_
      refine pw_iald (t := 0) rfl (mF19 hA) (by first | omega | exact mCell_b hp ko (by omega) (by omega) | exact mHis_b hp (by omega) (by omega)) (by decide) dX10_region_19 ?_
      refine pw_goto (tgt := 24) dX10_region_20 rfl ?_
      refine pw_istore (lv' := [some (.ref B), some (.int (zI (p))), some (.int (zI (nn))), some (.int (zI (se))), some (.int (zI ((s.2 19) (p).toNat)))]) dX10_region_24 (by decide) rfl rfl ?_
      refine pw_iload dX10_region_26 rfl ?_
      refine pw_iload_n dX10_region_28 rfl ?_
      refine pw_icmp_le (tgt := 58) dX10_region_29 rfl (by omega) (by omega) (fun c29 => ?_) (fun c29 => ?_)
      ·
        exact pw_vret dX10_region_58 rfl (nle rfl) (nle rfl) ⟨rfl, s, hA, hk, mPr_rf, mFr_rf, rfl⟩
      ·
        refine pw_aload_n dX10_region_32 rfl ?_
        refine pw_get (v := .ref (B + 26)) okX10 (k := 29) (by decide) lkX10_86 hA.1 rfl dX10_region_33 ?_
        refine pw_iload_n dX10_region_36 rfl ?_
        refine pw_iload_n dX10_region_37 rfl ?_
        refine pw_iconst (v := zI (1)) dX10_region_38 (by decide) ?_
        refine pw_zisub dX10_region_39 ?_
        refine pw_iast (t := 0) rfl (mF29 hA) (by first | omega | exact mCell_b hp ko (by omega) (by omega) | exact mHis_b hp (by omega) (by omega)) (by decide) dX10_region_40 ?_
        have hA7 : mAt B (mA 29 (va_up (s.2 29) (p).toNat (nn - 1)) s) (va_up h (B + 26) (pz_z 0 8 (va_up (s.2 29) (p).toNat (nn - 1)))) := mU29 hA
        have hF7 : mFr B h (va_up h (B + 26) (pz_z 0 8 (va_up (s.2 29) (p).toNat (nn - 1)))) := mFr_tr mFr_rf (mFr_up (by decide))
        have hr7 : mPr p.toNat s (mA 29 (va_up (s.2 29) (p).toNat (nn - 1)) s) := mPr_tr mPr_rf (mPr_W (by decide) (by decide) (by decide))
        refine pw_aload_n dX10_region_41 rfl ?_
        refine pw_get (v := .ref (B + 27)) okX10 (k := 30) (by decide) lkX10_89 hA7.1 rfl dX10_region_42 ?_
        refine pw_iload_n dX10_region_45 rfl ?_
        refine pw_iload dX10_region_46 rfl ?_
        refine pw_iconst (v := zI (1)) dX10_region_48 (by decide) ?_
        refine pw_zisub dX10_region_49 ?_
        refine pw_iast (t := 0) rfl (mF30 hA7) (by first | omega | exact mCell_b hp ko (by omega) (by omega) | exact mHis_b hp (by omega) (by omega)) (by decide) dX10_region_50 ?_
        have hA8 : mAt B (mA 30 (va_up ((mA 29 (va_up (s.2 29) (p).toNat (nn - 1)) s).2 30) (p).toNat (((s.2 19) (p).toNat) - (1))) (mA 29 (va_up (s.2 29) (p).toNat (nn - 1)) s)) (va_up (va_up h (B + 26) (pz_z 0 8 (va_up (s.2 29) (p).toNat (nn - 1)))) (B + 27) (pz_z 0 8 (va_up ((mA 29 (va_up (s.2 29) (p).toNat (nn - 1)) s).2 30) (p).toNat (((s.2 19) (p).toNat) - (1))))) := mU30 hA7
        have hk8 : mPk (mA 30 (va_up ((mA 29 (va_up (s.2 29) (p).toNat (nn - 1)) s).2 30) (p).toNat (((s.2 19) (p).toNat) - (1))) (mA 29 (va_up (s.2 29) (p).toNat (nn - 1)) s)) p.toNat := mP2930 hk (by omega)
        have hr8 : mPr p.toNat s (mA 30 (va_up ((mA 29 (va_up (s.2 29) (p).toNat (nn - 1)) s).2 30) (p).toNat (((s.2 19) (p).toNat) - (1))) (mA 29 (va_up (s.2 29) (p).toNat (nn - 1)) s)) := mPr_tr hr7 (mPr_W (by decide) (by decide) (by decide))
        have hF8 : mFr B h (va_up (va_up h (B + 26) (pz_z 0 8 (va_up (s.2 29) (p).toNat (nn - 1)))) (B + 27) (pz_z 0 8 (va_up ((mA 29 (va_up (s.2 29) (p).toNat (nn - 1)) s).2 30) (p).toNat (((s.2 19) (p).toNat) - (1))))) := mFr_tr hF7 (mFr_up (by decide))
        revert hA8 hk8 hr8 hF8 
        generalize (mA 30 (va_up ((mA 29 (va_up (s.2 29) (p).toNat (nn - 1)) s).2 30) (p).toNat (((s.2 19) (p).toNat) - (1))) (mA 29 (va_up (s.2 29) (p).toNat (nn - 1)) s)) = s8
        generalize (va_up (va_up h (B + 26) (pz_z 0 8 (va_up (s.2 29) (p).toNat (nn - 1)))) (B + 27) (pz_z 0 8 (va_up ((mA 29 (va_up (s.2 29) (p).toNat (nn - 1)) s).2 30) (p).toNat (((s.2 19) (p).toNat) - (1))))) = h8
        intro hA8 hk8 hr8 hF8 
        obtain ⟨kw, kh, kr, kc, ksr, ksc, kt, ko, kwa, kin, kwr, khi, krd, knu, kgi, kas, kfr, kra, kco, kof, kip⟩ := id hk8
        have e18 := congrFun (hr8.2.1 18 (by decide)) p.toNat
        have e19 := congrFun (hr8.2.1 19 (by decide)) p.toNat
        refine pw_aload_n dX10_region_51 rfl ?_
        refine pw_iload_n dX10_region_52 rfl ?_
        refine pw_iconst (v := zI (0)) dX10_region_53 (by decide) ?_
        refine pw_iconst (v := zI (0)) dX10_region_54 (by decide) ?_
        refine pw_callV (As := [.int (zI (p)), .int (zI (0)), .int (zI (0))]) (b := B) (rm := rmD 1 0 0) (mR_moveTo htr hA8 hp hk8 (by omega) (by omega)) rfl hA8.1 rfl rfl ywX10_moveTo rfl cwX10_261 ⟨nle rfl, nle rfl⟩ (nle rfl) ⟨nle rfl, nle rfl⟩ dX10_region_55 ?_ (fun _ _ _ z => z.elim)
        intro r_9 h9 n_9 hq _
        obtain ⟨e1, s9, hA9, hk9, hr90, hF90, e4⟩ := hq
        rw [e1, e4]
        show pw E YX10_region _ _ 0 0 58 [some (.ref B), some (.int (zI (p))), some (.int (zI (nn))), some (.int (zI (se))), some (.int (zI ((s.2 19) (p).toNat)))] [] h9 n
        have hr9 := mPr_tr hr8 hr90
        have hF9 := mFr_tr hF8 hF90
        obtain ⟨kw, kh, kr, kc, ksr, ksc, kt, ko, kwa, kin, kwr, khi, krd, knu, kgi, kas, kfr, kra, kco, kof, kip⟩ := id hk9
        have e18 := congrFun (hr9.2.1 18 (by decide)) p.toNat
        have e19 := congrFun (hr9.2.1 19 (by decide)) p.toNat
        exact pw_vret dX10_region_58 rfl (nle rfl) (nle rfl) ⟨rfl, s9, hA9, hk9, hr9, hF9, rfl⟩
set_option maxHeartbeats 2000000 in
set_option maxRecDepth 100000 in
theorem lR_pens {E : pw_E} (htr : E.1.stackTraces = false) {Kk : pw_K} {n : Nat} {B : Nat} {s : mS} {h : pz_H} {p : Int} (hp : 0 ≤ p ∧ p < 8) {mn : Int} (hmn : 0 ≤ mn ∧ mn ≤ 4) (kk : ∀ (k9 : Int) (q : Option Value) (s2 : mS) (h2 : pz_H), mAt B s2 h2 → mPk s2 p.toNat → mPr p.toNat s s2 → mFr B h h2 → Kk.2.2.1 none h2 n) : ∀ (j : Nat) (k : Int) (q : Option Value) (s1 : mS) (h1 : pz_H), (mn - k).toNat = j → 0 ≤ k → k ≤ 4 → mAt B s1 h1 → mPk s1 p.toNat → mPr p.toNat s s1 → mFr B h h1 → pw E YX10_pens (rmD 1 0 0) Kk 0 0 26 [some (.ref B), some (.int (zI (p))), some (.int (zI (mn))), some (.int (zI (k))), q] [] h1 n := by
  intro j
  induction j with
  | zero =>
    intro k q s1 h1 hj i0 i1 hA hk hr hF
    have e18 := congrFun (hr.2.1 18 (by decide)) p.toNat
    have e19 := congrFun (hr.2.1 19 (by decide)) p.toNat
    obtain ⟨kw, kh, kr, kc, ksr, ksc, kt, ko, kwa, kin, kwr, khi, krd, knu, kgi, kas, kfr, kra, kco, kof, kip⟩ := id hk
    refine pw_iload_n dX10_pens_26 rfl ?_
    refine pw_iload_n dX10_pens_27 rfl ?_
    refine pw_icmp_ge (tgt := 300) dX10_pens_28 rfl (by omega) (by omega) (fun c28 => ?_) (fun c28 => ?_)
    ·
      exact pw_vret dX10_pens_300 rfl (nle rfl) (nle rfl) (kk 0 none s1 h1  hA hk hr hF)
    · exfalso; omega
  | succ j ih =>
    intro k q s1 h1 hj i0 i1 hA hk hr hF
    have e18 := congrFun (hr.2.1 18 (by decide)) p.toNat
    have e19 := congrFun (hr.2.1 19 (by decide)) p.toNat
    obtain ⟨kw, kh, kr, kc, ksr, ksc, kt, ko, kwa, kin, kwr, khi, krd, knu, kgi, kas, kfr, kra, kco, kof, kip⟩ := id hk
    refine pw_iload_n dX10_pens_26 rfl ?_
    refine pw_iload_n dX10_pens_27 rfl ?_
    refine pw_icmp_ge (tgt := 300) dX10_pens_28 rfl (by omega) (by omega) (fun c28 => ?_) (fun c28 => ?_)
    ·
      exact pw_vret dX10_pens_300 rfl (nle rfl) (nle rfl) (kk 0 none s1 h1  hA hk hr hF)
    ·
      refine pw_aload_n dX10_pens_31 rfl ?_
      refine pw_get (v := .ref (B + 33)) okX10 (k := 36) (by decide) lkX10_107 hA.1 rfl dX10_pens_32 ?_
      refine pw_iconst (v := zI (4)) dX10_pens_35 (by decide) ?_
      refine pw_iload_n dX10_pens_36 rfl ?_
      refine pw_zimul dX10_pens_37 ?_
      refine pw_iload_n dX10_pens_38 rfl ?_
      refine pw_ziadd dX10_pens_39 ?_
      refine pw_iald (t := 0) rfl (mF36 hA) (by first | omega | exact mCell_b hp ko (by omega) (by omega) | exact mHis_b hp (by omega) (by omega)) (by decide) dX10_pens_40 ?_
      have hn41 := mNu (e := (4 * p) + (k)) hk hp (by omega)
      refine pw_istore (lv' := [some (.ref B), some (.int (zI (p))), some (.int (zI (mn))), some (.int (zI (k))), some (.int (zI ((s1.2 36) ((4 * p) + (k)).toNat)))]) dX10_pens_41 (by decide) rfl rfl ?_
      refine pw_iload dX10_pens_43 rfl ?_
      refine pw_if_ne (tgt := 58) dX10_pens_45 rfl (by omega) (fun c45 => ?_) (fun c45 => ?_)
      ·
        refine pw_iload dX10_pens_58 rfl ?_
        refine pw_iconst (v := zI (1)) dX10_pens_60 (by decide) ?_
        refine pw_icmp_eq (tgt := 77) dX10_pens_61 rfl (by omega) (by omega) (fun c61 => ?_) (fun c61 => ?_)
        ·
          refine pw_aload_n dX10_pens_77 rfl ?_
          refine pw_get (v := .ref (B + 22)) okX10 (k := 25) (by decide) lkX10_74 hA.1 rfl dX10_pens_78 ?_
          refine pw_iload_n dX10_pens_81 rfl ?_
          refine pw_aload_n dX10_pens_82 rfl ?_
          refine pw_get (v := .ref (B + 22)) okX10 (k := 25) (by decide) lkX10_74 hA.1 rfl dX10_pens_83 ?_
          refine pw_iload_n dX10_pens_86 rfl ?_
          refine pw_iald (t := 0) rfl (mF25 hA) (by first | omega | exact mCell_b hp ko (by omega) (by omega) | exact mHis_b hp (by omega) (by omega)) (by decide) dX10_pens_87 ?_
          refine pw_iload dX10_pens_88 rfl ?_
          refine pw_iconst (v := zI (1)) dX10_pens_90 (by decide) ?_
          refine pw_icmp_ne (tgt := 98) dX10_pens_91 rfl (by omega) (by omega) (fun c91 => ?_) (fun c91 => ?_)
          ·
            refine pw_iload dX10_pens_98 rfl ?_
            refine pw_iconst (v := zI (4)) dX10_pens_100 (by decide) ?_
            refine pw_icmp_ne (tgt := 108) dX10_pens_101 rfl (by omega) (by omega) (fun c101 => ?_) (fun c101 => ?_)
            ·
              refine pw_iconst (v := zI (4)) dX10_pens_108 (by decide) ?_
              refine pw_ior dX10_pens_109 ?_
              rw [zI_of (zI ((s1.2 25) (p).toNat) ||| zI (4))]
              refine pw_iast (t := 0) rfl (mF25 hA) (by first | omega | exact mCell_b hp ko (by omega) (by omega) | exact mHis_b hp (by omega) (by omega)) (by decide) dX10_pens_110 ?_
              have hA2 : mAt B (mA 25 (va_up (s1.2 25) (p).toNat ((zI ((s1.2 25) (p).toNat) ||| zI (4)).toInt)) s1) (va_up h1 (B + 22) (pz_z 0 8 (va_up (s1.2 25) (p).toNat ((zI ((s1.2 25) (p).toNat) ||| zI (4)).toInt)))) := mU25 hA
              have hk2 : mPk (mA 25 (va_up (s1.2 25) (p).toNat ((zI ((s1.2 25) (p).toNat) ||| zI (4)).toInt)) s1) p.toNat := mPc hk (by decide)
              have hr2 : mPr p.toNat s (mA 25 (va_up (s1.2 25) (p).toNat ((zI ((s1.2 25) (p).toNat) ||| zI (4)).toInt)) s1) := mPr_tr hr (mPr_W (by decide) (by decide) (by decide))
              have hF2 : mFr B h (va_up h1 (B + 22) (pz_z 0 8 (va_up (s1.2 25) (p).toNat ((zI ((s1.2 25) (p).toNat) ||| zI (4)).toInt)))) := mFr_tr hF (mFr_up (by decide))
              revert hA2 hk2 hr2 hF2 
              generalize (mA 25 (va_up (s1.2 25) (p).toNat ((zI ((s1.2 25) (p).toNat) ||| zI (4)).toInt)) s1) = s2
              generalize (va_up h1 (B + 22) (pz_z 0 8 (va_up (s1.2 25) (p).toNat ((zI ((s1.2 25) (p).toNat) ||| zI (4)).toInt)))) = h2
              intro hA2 hk2 hr2 hF2 
              obtain ⟨kw, kh, kr, kc, ksr, ksc, kt, ko, kwa, kin, kwr, khi, krd, knu, kgi, kas, kfr, kra, kco, kof, kip⟩ := id hk2
              have e18 := congrFun (hr2.2.1 18 (by decide)) p.toNat
              have e19 := congrFun (hr2.2.1 19 (by decide)) p.toNat
              refine pw_goto (tgt := 294) dX10_pens_111 rfl ?_
              refine pw_ziinc (lv' := [some (.ref B), some (.int (zI (p))), some (.int (zI (mn))), some (.int (zI (k + 1))), some (.int (zI ((s1.2 36) ((4 * p) + (k)).toNat)))]) dX10_pens_294 rfl (by decide) rfl rfl ?_
              refine pw_goto (tgt := 26) dX10_pens_297 rfl ?_
              exact ih (k + 1) _ s2 h2 (by omega) (by omega) (by omega)  hA2 hk2 hr2 hF2
            ·
              refine pw_iconst (v := zI (2)) dX10_pens_104 (by decide) ?_
              refine pw_goto (tgt := 109) dX10_pens_105 rfl ?_
              refine pw_ior dX10_pens_109 ?_
              rw [zI_of (zI ((s1.2 25) (p).toNat) ||| zI (2))]
              refine pw_iast (t := 0) rfl (mF25 hA) (by first | omega | exact mCell_b hp ko (by omega) (by omega) | exact mHis_b hp (by omega) (by omega)) (by decide) dX10_pens_110 ?_
              have hA3 : mAt B (mA 25 (va_up (s1.2 25) (p).toNat ((zI ((s1.2 25) (p).toNat) ||| zI (2)).toInt)) s1) (va_up h1 (B + 22) (pz_z 0 8 (va_up (s1.2 25) (p).toNat ((zI ((s1.2 25) (p).toNat) ||| zI (2)).toInt)))) := mU25 hA
              have hk3 : mPk (mA 25 (va_up (s1.2 25) (p).toNat ((zI ((s1.2 25) (p).toNat) ||| zI (2)).toInt)) s1) p.toNat := mPc hk (by decide)
              have hr3 : mPr p.toNat s (mA 25 (va_up (s1.2 25) (p).toNat ((zI ((s1.2 25) (p).toNat) ||| zI (2)).toInt)) s1) := mPr_tr hr (mPr_W (by decide) (by decide) (by decide))
              have hF3 : mFr B h (va_up h1 (B + 22) (pz_z 0 8 (va_up (s1.2 25) (p).toNat ((zI ((s1.2 25) (p).toNat) ||| zI (2)).toInt)))) := mFr_tr hF (mFr_up (by decide))
              revert hA3 hk3 hr3 hF3 
              generalize (mA 25 (va_up (s1.2 25) (p).toNat ((zI ((s1.2 25) (p).toNat) ||| zI (2)).toInt)) s1) = s3
              generalize (va_up h1 (B + 22) (pz_z 0 8 (va_up (s1.2 25) (p).toNat ((zI ((s1.2 25) (p).toNat) ||| zI (2)).toInt)))) = h3
              intro hA3 hk3 hr3 hF3 
              obtain ⟨kw, kh, kr, kc, ksr, ksc, kt, ko, kwa, kin, kwr, khi, krd, knu, kgi, kas, kfr, kra, kco, kof, kip⟩ := id hk3
              have e18 := congrFun (hr3.2.1 18 (by decide)) p.toNat
              have e19 := congrFun (hr3.2.1 19 (by decide)) p.toNat
              refine pw_goto (tgt := 294) dX10_pens_111 rfl ?_
              refine pw_ziinc (lv' := [some (.ref B), some (.int (zI (p))), some (.int (zI (mn))), some (.int (zI (k + 1))), some (.int (zI ((s1.2 36) ((4 * p) + (k)).toNat)))]) dX10_pens_294 rfl (by decide) rfl rfl ?_
              refine pw_goto (tgt := 26) dX10_pens_297 rfl ?_
              exact ih (k + 1) _ s3 h3 (by omega) (by omega) (by omega)  hA3 hk3 hr3 hF3
          ·
            refine pw_iconst (v := zI (1)) dX10_pens_94 (by decide) ?_
            refine pw_goto (tgt := 109) dX10_pens_95 rfl ?_
            refine pw_ior dX10_pens_109 ?_
            rw [zI_of (zI ((s1.2 25) (p).toNat) ||| zI (1))]
            refine pw_iast (t := 0) rfl (mF25 hA) (by first | omega | exact mCell_b hp ko (by omega) (by omega) | exact mHis_b hp (by omega) (by omega)) (by decide) dX10_pens_110 ?_
            have hA4 : mAt B (mA 25 (va_up (s1.2 25) (p).toNat ((zI ((s1.2 25) (p).toNat) ||| zI (1)).toInt)) s1) (va_up h1 (B + 22) (pz_z 0 8 (va_up (s1.2 25) (p).toNat ((zI ((s1.2 25) (p).toNat) ||| zI (1)).toInt)))) := mU25 hA
            have hk4 : mPk (mA 25 (va_up (s1.2 25) (p).toNat ((zI ((s1.2 25) (p).toNat) ||| zI (1)).toInt)) s1) p.toNat := mPc hk (by decide)
            have hr4 : mPr p.toNat s (mA 25 (va_up (s1.2 25) (p).toNat ((zI ((s1.2 25) (p).toNat) ||| zI (1)).toInt)) s1) := mPr_tr hr (mPr_W (by decide) (by decide) (by decide))
            have hF4 : mFr B h (va_up h1 (B + 22) (pz_z 0 8 (va_up (s1.2 25) (p).toNat ((zI ((s1.2 25) (p).toNat) ||| zI (1)).toInt)))) := mFr_tr hF (mFr_up (by decide))
            revert hA4 hk4 hr4 hF4 
            generalize (mA 25 (va_up (s1.2 25) (p).toNat ((zI ((s1.2 25) (p).toNat) ||| zI (1)).toInt)) s1) = s4
            generalize (va_up h1 (B + 22) (pz_z 0 8 (va_up (s1.2 25) (p).toNat ((zI ((s1.2 25) (p).toNat) ||| zI (1)).toInt)))) = h4
            intro hA4 hk4 hr4 hF4 
            obtain ⟨kw, kh, kr, kc, ksr, ksc, kt, ko, kwa, kin, kwr, khi, krd, knu, kgi, kas, kfr, kra, kco, kof, kip⟩ := id hk4
            have e18 := congrFun (hr4.2.1 18 (by decide)) p.toNat
            have e19 := congrFun (hr4.2.1 19 (by decide)) p.toNat
            refine pw_goto (tgt := 294) dX10_pens_111 rfl ?_
            refine pw_ziinc (lv' := [some (.ref B), some (.int (zI (p))), some (.int (zI (mn))), some (.int (zI (k + 1))), some (.int (zI ((s1.2 36) ((4 * p) + (k)).toNat)))]) dX10_pens_294 rfl (by decide) rfl rfl ?_
            refine pw_goto (tgt := 26) dX10_pens_297 rfl ?_
            exact ih (k + 1) _ s4 h4 (by omega) (by omega) (by omega)  hA4 hk4 hr4 hF4
        ·
          refine pw_iload dX10_pens_64 rfl ?_
          refine pw_iconst (v := zI (4)) dX10_pens_66 (by decide) ?_
          refine pw_icmp_eq (tgt := 77) dX10_pens_67 rfl (by omega) (by omega) (fun c67 => ?_) (fun c67 => ?_)
          ·
            refine pw_aload_n dX10_pens_77 rfl ?_
            refine pw_get (v := .ref (B + 22)) okX10 (k := 25) (by decide) lkX10_74 hA.1 rfl dX10_pens_78 ?_
            refine pw_iload_n dX10_pens_81 rfl ?_
            refine pw_aload_n dX10_pens_82 rfl ?_
            refine pw_get (v := .ref (B + 22)) okX10 (k := 25) (by decide) lkX10_74 hA.1 rfl dX10_pens_83 ?_
            refine pw_iload_n dX10_pens_86 rfl ?_
            refine pw_iald (t := 0) rfl (mF25 hA) (by first | omega | exact mCell_b hp ko (by omega) (by omega) | exact mHis_b hp (by omega) (by omega)) (by decide) dX10_pens_87 ?_
            refine pw_iload dX10_pens_88 rfl ?_
            refine pw_iconst (v := zI (1)) dX10_pens_90 (by decide) ?_
            refine pw_icmp_ne (tgt := 98) dX10_pens_91 rfl (by omega) (by omega) (fun c91 => ?_) (fun c91 => ?_)
            ·
              refine pw_iload dX10_pens_98 rfl ?_
              refine pw_iconst (v := zI (4)) dX10_pens_100 (by decide) ?_
              refine pw_icmp_ne (tgt := 108) dX10_pens_101 rfl (by omega) (by omega) (fun c101 => ?_) (fun c101 => ?_)
              ·
                refine pw_iconst (v := zI (4)) dX10_pens_108 (by decide) ?_
                refine pw_ior dX10_pens_109 ?_
                rw [zI_of (zI ((s1.2 25) (p).toNat) ||| zI (4))]
                refine pw_iast (t := 0) rfl (mF25 hA) (by first | omega | exact mCell_b hp ko (by omega) (by omega) | exact mHis_b hp (by omega) (by omega)) (by decide) dX10_pens_110 ?_
                have hA5 : mAt B (mA 25 (va_up (s1.2 25) (p).toNat ((zI ((s1.2 25) (p).toNat) ||| zI (4)).toInt)) s1) (va_up h1 (B + 22) (pz_z 0 8 (va_up (s1.2 25) (p).toNat ((zI ((s1.2 25) (p).toNat) ||| zI (4)).toInt)))) := mU25 hA
                have hk5 : mPk (mA 25 (va_up (s1.2 25) (p).toNat ((zI ((s1.2 25) (p).toNat) ||| zI (4)).toInt)) s1) p.toNat := mPc hk (by decide)
                have hr5 : mPr p.toNat s (mA 25 (va_up (s1.2 25) (p).toNat ((zI ((s1.2 25) (p).toNat) ||| zI (4)).toInt)) s1) := mPr_tr hr (mPr_W (by decide) (by decide) (by decide))
                have hF5 : mFr B h (va_up h1 (B + 22) (pz_z 0 8 (va_up (s1.2 25) (p).toNat ((zI ((s1.2 25) (p).toNat) ||| zI (4)).toInt)))) := mFr_tr hF (mFr_up (by decide))
                revert hA5 hk5 hr5 hF5 
                generalize (mA 25 (va_up (s1.2 25) (p).toNat ((zI ((s1.2 25) (p).toNat) ||| zI (4)).toInt)) s1) = s5
                generalize (va_up h1 (B + 22) (pz_z 0 8 (va_up (s1.2 25) (p).toNat ((zI ((s1.2 25) (p).toNat) ||| zI (4)).toInt)))) = h5
                intro hA5 hk5 hr5 hF5 
                obtain ⟨kw, kh, kr, kc, ksr, ksc, kt, ko, kwa, kin, kwr, khi, krd, knu, kgi, kas, kfr, kra, kco, kof, kip⟩ := id hk5
                have e18 := congrFun (hr5.2.1 18 (by decide)) p.toNat
                have e19 := congrFun (hr5.2.1 19 (by decide)) p.toNat
                refine pw_goto (tgt := 294) dX10_pens_111 rfl ?_
                refine pw_ziinc (lv' := [some (.ref B), some (.int (zI (p))), some (.int (zI (mn))), some (.int (zI (k + 1))), some (.int (zI ((s1.2 36) ((4 * p) + (k)).toNat)))]) dX10_pens_294 rfl (by decide) rfl rfl ?_
                refine pw_goto (tgt := 26) dX10_pens_297 rfl ?_
                exact ih (k + 1) _ s5 h5 (by omega) (by omega) (by omega)  hA5 hk5 hr5 hF5
              ·
                refine pw_iconst (v := zI (2)) dX10_pens_104 (by decide) ?_
                refine pw_goto (tgt := 109) dX10_pens_105 rfl ?_
                refine pw_ior dX10_pens_109 ?_
                rw [zI_of (zI ((s1.2 25) (p).toNat) ||| zI (2))]
                refine pw_iast (t := 0) rfl (mF25 hA) (by first | omega | exact mCell_b hp ko (by omega) (by omega) | exact mHis_b hp (by omega) (by omega)) (by decide) dX10_pens_110 ?_
                have hA6 : mAt B (mA 25 (va_up (s1.2 25) (p).toNat ((zI ((s1.2 25) (p).toNat) ||| zI (2)).toInt)) s1) (va_up h1 (B + 22) (pz_z 0 8 (va_up (s1.2 25) (p).toNat ((zI ((s1.2 25) (p).toNat) ||| zI (2)).toInt)))) := mU25 hA
                have hk6 : mPk (mA 25 (va_up (s1.2 25) (p).toNat ((zI ((s1.2 25) (p).toNat) ||| zI (2)).toInt)) s1) p.toNat := mPc hk (by decide)
                have hr6 : mPr p.toNat s (mA 25 (va_up (s1.2 25) (p).toNat ((zI ((s1.2 25) (p).toNat) ||| zI (2)).toInt)) s1) := mPr_tr hr (mPr_W (by decide) (by decide) (by decide))
                have hF6 : mFr B h (va_up h1 (B + 22) (pz_z 0 8 (va_up (s1.2 25) (p).toNat ((zI ((s1.2 25) (p).toNat) ||| zI (2)).toInt)))) := mFr_tr hF (mFr_up (by decide))
                revert hA6 hk6 hr6 hF6 
                generalize (mA 25 (va_up (s1.2 25) (p).toNat ((zI ((s1.2 25) (p).toNat) ||| zI (2)).toInt)) s1) = s6
                generalize (va_up h1 (B + 22) (pz_z 0 8 (va_up (s1.2 25) (p).toNat ((zI ((s1.2 25) (p).toNat) ||| zI (2)).toInt)))) = h6
                intro hA6 hk6 hr6 hF6 
                obtain ⟨kw, kh, kr, kc, ksr, ksc, kt, ko, kwa, kin, kwr, khi, krd, knu, kgi, kas, kfr, kra, kco, kof, kip⟩ := id hk6
                have e18 := congrFun (hr6.2.1 18 (by decide)) p.toNat
                have e19 := congrFun (hr6.2.1 19 (by decide)) p.toNat
                refine pw_goto (tgt := 294) dX10_pens_111 rfl ?_
                refine pw_ziinc (lv' := [some (.ref B), some (.int (zI (p))), some (.int (zI (mn))), some (.int (zI (k + 1))), some (.int (zI ((s1.2 36) ((4 * p) + (k)).toNat)))]) dX10_pens_294 rfl (by decide) rfl rfl ?_
                refine pw_goto (tgt := 26) dX10_pens_297 rfl ?_
                exact ih (k + 1) _ s6 h6 (by omega) (by omega) (by omega)  hA6 hk6 hr6 hF6
            ·
              refine pw_iconst (v := zI (1)) dX10_pens_94 (by decide) ?_
              refine pw_goto (tgt := 109) dX10_pens_95 rfl ?_
              refine pw_ior dX10_pens_109 ?_
              rw [zI_of (zI ((s1.2 25) (p).toNat) ||| zI (1))]
              refine pw_iast (t := 0) rfl (mF25 hA) (by first | omega | exact mCell_b hp ko (by omega) (by omega) | exact mHis_b hp (by omega) (by omega)) (by decide) dX10_pens_110 ?_
              have hA7 : mAt B (mA 25 (va_up (s1.2 25) (p).toNat ((zI ((s1.2 25) (p).toNat) ||| zI (1)).toInt)) s1) (va_up h1 (B + 22) (pz_z 0 8 (va_up (s1.2 25) (p).toNat ((zI ((s1.2 25) (p).toNat) ||| zI (1)).toInt)))) := mU25 hA
              have hk7 : mPk (mA 25 (va_up (s1.2 25) (p).toNat ((zI ((s1.2 25) (p).toNat) ||| zI (1)).toInt)) s1) p.toNat := mPc hk (by decide)
              have hr7 : mPr p.toNat s (mA 25 (va_up (s1.2 25) (p).toNat ((zI ((s1.2 25) (p).toNat) ||| zI (1)).toInt)) s1) := mPr_tr hr (mPr_W (by decide) (by decide) (by decide))
              have hF7 : mFr B h (va_up h1 (B + 22) (pz_z 0 8 (va_up (s1.2 25) (p).toNat ((zI ((s1.2 25) (p).toNat) ||| zI (1)).toInt)))) := mFr_tr hF (mFr_up (by decide))
              revert hA7 hk7 hr7 hF7 
              generalize (mA 25 (va_up (s1.2 25) (p).toNat ((zI ((s1.2 25) (p).toNat) ||| zI (1)).toInt)) s1) = s7
              generalize (va_up h1 (B + 22) (pz_z 0 8 (va_up (s1.2 25) (p).toNat ((zI ((s1.2 25) (p).toNat) ||| zI (1)).toInt)))) = h7
              intro hA7 hk7 hr7 hF7 
              obtain ⟨kw, kh, kr, kc, ksr, ksc, kt, ko, kwa, kin, kwr, khi, krd, knu, kgi, kas, kfr, kra, kco, kof, kip⟩ := id hk7
              have e18 := congrFun (hr7.2.1 18 (by decide)) p.toNat
              have e19 := congrFun (hr7.2.1 19 (by decide)) p.toNat
              refine pw_goto (tgt := 294) dX10_pens_111 rfl ?_
              refine pw_ziinc (lv' := [some (.ref B), some (.int (zI (p))), some (.int (zI (mn))), some (.int (zI (k + 1))), some (.int (zI ((s1.2 36) ((4 * p) + (k)).toNat)))]) dX10_pens_294 rfl (by decide) rfl rfl ?_
              refine pw_goto (tgt := 26) dX10_pens_297 rfl ?_
              exact ih (k + 1) _ s7 h7 (by omega) (by omega) (by omega)  hA7 hk7 hr7 hF7
          ·
            refine pw_iload dX10_pens_70 rfl ?_
            refine pw_bipush (v := zI (7)) dX10_pens_72 (by decide) ?_
            refine pw_icmp_ne (tgt := 114) dX10_pens_74 rfl (by omega) (by omega) (fun c74 => ?_) (fun c74 => ?_)
            ·
              refine pw_iload dX10_pens_114 rfl ?_
              refine pw_bipush (v := zI (22)) dX10_pens_116 (by decide) ?_
              refine pw_icmp_eq (tgt := 135) dX10_pens_118 rfl (by omega) (by omega) (fun c118 => ?_) (fun c118 => ?_)
              ·
                refine pw_aload_n dX10_pens_135 rfl ?_
                refine pw_get (v := .ref (B + 22)) okX10 (k := 25) (by decide) lkX10_74 hA.1 rfl dX10_pens_136 ?_
                refine pw_iload_n dX10_pens_139 rfl ?_
                refine pw_aload_n dX10_pens_140 rfl ?_
                refine pw_get (v := .ref (B + 22)) okX10 (k := 25) (by decide) lkX10_74 hA.1 rfl dX10_pens_141 ?_
                refine pw_iload_n dX10_pens_144 rfl ?_
                refine pw_iald (t := 0) rfl (mF25 hA) (by first | omega | exact mCell_b hp ko (by omega) (by omega) | exact mHis_b hp (by omega) (by omega)) (by decide) dX10_pens_145 ?_
                refine pw_iload dX10_pens_146 rfl ?_
                refine pw_bipush (v := zI (22)) dX10_pens_148 (by decide) ?_
                refine pw_icmp_ne (tgt := 157) dX10_pens_150 rfl (by omega) (by omega) (fun c150 => ?_) (fun c150 => ?_)
                ·
                  refine pw_iload dX10_pens_157 rfl ?_
                  refine pw_bipush (v := zI (24)) dX10_pens_159 (by decide) ?_
                  refine pw_icmp_ne (tgt := 168) dX10_pens_161 rfl (by omega) (by omega) (fun c161 => ?_) (fun c161 => ?_)
                  ·
                    refine pw_iconst (v := zI (4)) dX10_pens_168 (by decide) ?_
                    refine pw_iconst (v := zI (-1)) dX10_pens_169 (by decide) ?_
                    refine pw_ixor dX10_pens_170 ?_
                    rw [zI_of (zI (4) ^^^ zI (-1))]
                    refine pw_iand dX10_pens_171 ?_
                    rw [zI_of (zI ((s1.2 25) (p).toNat) &&& zI ((zI (4) ^^^ zI (-1)).toInt))]
                    refine pw_iast (t := 0) rfl (mF25 hA) (by first | omega | exact mCell_b hp ko (by omega) (by omega) | exact mHis_b hp (by omega) (by omega)) (by decide) dX10_pens_172 ?_
                    have hA8 : mAt B (mA 25 (va_up (s1.2 25) (p).toNat ((zI ((s1.2 25) (p).toNat) &&& zI ((zI (4) ^^^ zI (-1)).toInt)).toInt)) s1) (va_up h1 (B + 22) (pz_z 0 8 (va_up (s1.2 25) (p).toNat ((zI ((s1.2 25) (p).toNat) &&& zI ((zI (4) ^^^ zI (-1)).toInt)).toInt)))) := mU25 hA
                    have hk8 : mPk (mA 25 (va_up (s1.2 25) (p).toNat ((zI ((s1.2 25) (p).toNat) &&& zI ((zI (4) ^^^ zI (-1)).toInt)).toInt)) s1) p.toNat := mPc hk (by decide)
                    have hr8 : mPr p.toNat s (mA 25 (va_up (s1.2 25) (p).toNat ((zI ((s1.2 25) (p).toNat) &&& zI ((zI (4) ^^^ zI (-1)).toInt)).toInt)) s1) := mPr_tr hr (mPr_W (by decide) (by decide) (by decide))
                    have hF8 : mFr B h (va_up h1 (B + 22) (pz_z 0 8 (va_up (s1.2 25) (p).toNat ((zI ((s1.2 25) (p).toNat) &&& zI ((zI (4) ^^^ zI (-1)).toInt)).toInt)))) := mFr_tr hF (mFr_up (by decide))
                    revert hA8 hk8 hr8 hF8 
                    generalize (mA 25 (va_up (s1.2 25) (p).toNat ((zI ((s1.2 25) (p).toNat) &&& zI ((zI (4) ^^^ zI (-1)).toInt)).toInt)) s1) = s8
                    generalize (va_up h1 (B + 22) (pz_z 0 8 (va_up (s1.2 25) (p).toNat ((zI ((s1.2 25) (p).toNat) &&& zI ((zI (4) ^^^ zI (-1)).toInt)).toInt)))) = h8
                    intro hA8 hk8 hr8 hF8 
                    obtain ⟨kw, kh, kr, kc, ksr, ksc, kt, ko, kwa, kin, kwr, khi, krd, knu, kgi, kas, kfr, kra, kco, kof, kip⟩ := id hk8
                    have e18 := congrFun (hr8.2.1 18 (by decide)) p.toNat
                    have e19 := congrFun (hr8.2.1 19 (by decide)) p.toNat
                    refine pw_goto (tgt := 294) dX10_pens_173 rfl ?_
                    refine pw_ziinc (lv' := [some (.ref B), some (.int (zI (p))), some (.int (zI (mn))), some (.int (zI (k + 1))), some (.int (zI ((s1.2 36) ((4 * p) + (k)).toNat)))]) dX10_pens_294 rfl (by decide) rfl rfl ?_
                    refine pw_goto (tgt := 26) dX10_pens_297 rfl ?_
                    exact ih (k + 1) _ s8 h8 (by omega) (by omega) (by omega)  hA8 hk8 hr8 hF8
                  ·
                    refine pw_iconst (v := zI (2)) dX10_pens_164 (by decide) ?_
                    refine pw_goto (tgt := 169) dX10_pens_165 rfl ?_
                    refine pw_iconst (v := zI (-1)) dX10_pens_169 (by decide) ?_
                    refine pw_ixor dX10_pens_170 ?_
                    rw [zI_of (zI (2) ^^^ zI (-1))]
                    refine pw_iand dX10_pens_171 ?_
                    rw [zI_of (zI ((s1.2 25) (p).toNat) &&& zI ((zI (2) ^^^ zI (-1)).toInt))]
                    refine pw_iast (t := 0) rfl (mF25 hA) (by first | omega | exact mCell_b hp ko (by omega) (by omega) | exact mHis_b hp (by omega) (by omega)) (by decide) dX10_pens_172 ?_
                    have hA9 : mAt B (mA 25 (va_up (s1.2 25) (p).toNat ((zI ((s1.2 25) (p).toNat) &&& zI ((zI (2) ^^^ zI (-1)).toInt)).toInt)) s1) (va_up h1 (B + 22) (pz_z 0 8 (va_up (s1.2 25) (p).toNat ((zI ((s1.2 25) (p).toNat) &&& zI ((zI (2) ^^^ zI (-1)).toInt)).toInt)))) := mU25 hA
                    have hk9 : mPk (mA 25 (va_up (s1.2 25) (p).toNat ((zI ((s1.2 25) (p).toNat) &&& zI ((zI (2) ^^^ zI (-1)).toInt)).toInt)) s1) p.toNat := mPc hk (by decide)
                    have hr9 : mPr p.toNat s (mA 25 (va_up (s1.2 25) (p).toNat ((zI ((s1.2 25) (p).toNat) &&& zI ((zI (2) ^^^ zI (-1)).toInt)).toInt)) s1) := mPr_tr hr (mPr_W (by decide) (by decide) (by decide))
                    have hF9 : mFr B h (va_up h1 (B + 22) (pz_z 0 8 (va_up (s1.2 25) (p).toNat ((zI ((s1.2 25) (p).toNat) &&& zI ((zI (2) ^^^ zI (-1)).toInt)).toInt)))) := mFr_tr hF (mFr_up (by decide))
                    revert hA9 hk9 hr9 hF9 
                    generalize (mA 25 (va_up (s1.2 25) (p).toNat ((zI ((s1.2 25) (p).toNat) &&& zI ((zI (2) ^^^ zI (-1)).toInt)).toInt)) s1) = s9
                    generalize (va_up h1 (B + 22) (pz_z 0 8 (va_up (s1.2 25) (p).toNat ((zI ((s1.2 25) (p).toNat) &&& zI ((zI (2) ^^^ zI (-1)).toInt)).toInt)))) = h9
                    intro hA9 hk9 hr9 hF9 
                    obtain ⟨kw, kh, kr, kc, ksr, ksc, kt, ko, kwa, kin, kwr, khi, krd, knu, kgi, kas, kfr, kra, kco, kof, kip⟩ := id hk9
                    have e18 := congrFun (hr9.2.1 18 (by decide)) p.toNat
                    have e19 := congrFun (hr9.2.1 19 (by decide)) p.toNat
                    refine pw_goto (tgt := 294) dX10_pens_173 rfl ?_
                    refine pw_ziinc (lv' := [some (.ref B), some (.int (zI (p))), some (.int (zI (mn))), some (.int (zI (k + 1))), some (.int (zI ((s1.2 36) ((4 * p) + (k)).toNat)))]) dX10_pens_294 rfl (by decide) rfl rfl ?_
                    refine pw_goto (tgt := 26) dX10_pens_297 rfl ?_
                    exact ih (k + 1) _ s9 h9 (by omega) (by omega) (by omega)  hA9 hk9 hr9 hF9
                ·
                  refine pw_iconst (v := zI (1)) dX10_pens_153 (by decide) ?_
                  refine pw_goto (tgt := 169) dX10_pens_154 rfl ?_
                  refine pw_iconst (v := zI (-1)) dX10_pens_169 (by decide) ?_
                  refine pw_ixor dX10_pens_170 ?_
                  rw [zI_of (zI (1) ^^^ zI (-1))]
                  refine pw_iand dX10_pens_171 ?_
                  rw [zI_of (zI ((s1.2 25) (p).toNat) &&& zI ((zI (1) ^^^ zI (-1)).toInt))]
                  refine pw_iast (t := 0) rfl (mF25 hA) (by first | omega | exact mCell_b hp ko (by omega) (by omega) | exact mHis_b hp (by omega) (by omega)) (by decide) dX10_pens_172 ?_
                  have hA10 : mAt B (mA 25 (va_up (s1.2 25) (p).toNat ((zI ((s1.2 25) (p).toNat) &&& zI ((zI (1) ^^^ zI (-1)).toInt)).toInt)) s1) (va_up h1 (B + 22) (pz_z 0 8 (va_up (s1.2 25) (p).toNat ((zI ((s1.2 25) (p).toNat) &&& zI ((zI (1) ^^^ zI (-1)).toInt)).toInt)))) := mU25 hA
                  have hk10 : mPk (mA 25 (va_up (s1.2 25) (p).toNat ((zI ((s1.2 25) (p).toNat) &&& zI ((zI (1) ^^^ zI (-1)).toInt)).toInt)) s1) p.toNat := mPc hk (by decide)
                  have hr10 : mPr p.toNat s (mA 25 (va_up (s1.2 25) (p).toNat ((zI ((s1.2 25) (p).toNat) &&& zI ((zI (1) ^^^ zI (-1)).toInt)).toInt)) s1) := mPr_tr hr (mPr_W (by decide) (by decide) (by decide))
                  have hF10 : mFr B h (va_up h1 (B + 22) (pz_z 0 8 (va_up (s1.2 25) (p).toNat ((zI ((s1.2 25) (p).toNat) &&& zI ((zI (1) ^^^ zI (-1)).toInt)).toInt)))) := mFr_tr hF (mFr_up (by decide))
                  revert hA10 hk10 hr10 hF10 
                  generalize (mA 25 (va_up (s1.2 25) (p).toNat ((zI ((s1.2 25) (p).toNat) &&& zI ((zI (1) ^^^ zI (-1)).toInt)).toInt)) s1) = s10
                  generalize (va_up h1 (B + 22) (pz_z 0 8 (va_up (s1.2 25) (p).toNat ((zI ((s1.2 25) (p).toNat) &&& zI ((zI (1) ^^^ zI (-1)).toInt)).toInt)))) = h10
                  intro hA10 hk10 hr10 hF10 
                  obtain ⟨kw, kh, kr, kc, ksr, ksc, kt, ko, kwa, kin, kwr, khi, krd, knu, kgi, kas, kfr, kra, kco, kof, kip⟩ := id hk10
                  have e18 := congrFun (hr10.2.1 18 (by decide)) p.toNat
                  have e19 := congrFun (hr10.2.1 19 (by decide)) p.toNat
                  refine pw_goto (tgt := 294) dX10_pens_173 rfl ?_
                  refine pw_ziinc (lv' := [some (.ref B), some (.int (zI (p))), some (.int (zI (mn))), some (.int (zI (k + 1))), some (.int (zI ((s1.2 36) ((4 * p) + (k)).toNat)))]) dX10_pens_294 rfl (by decide) rfl rfl ?_
                  refine pw_goto (tgt := 26) dX10_pens_297 rfl ?_
                  exact ih (k + 1) _ s10 h10 (by omega) (by omega) (by omega)  hA10 hk10 hr10 hF10
              ·
                refine pw_iload dX10_pens_121 rfl ?_
                refine pw_bipush (v := zI (24)) dX10_pens_123 (by decide) ?_
                refine pw_icmp_eq (tgt := 135) dX10_pens_125 rfl (by omega) (by omega) (fun c125 => ?_) (fun c125 => ?_)
                ·
                  refine pw_aload_n dX10_pens_135 rfl ?_
                  refine pw_get (v := .ref (B + 22)) okX10 (k := 25) (by decide) lkX10_74 hA.1 rfl dX10_pens_136 ?_
                  refine pw_iload_n dX10_pens_139 rfl ?_
                  refine pw_aload_n dX10_pens_140 rfl ?_
                  refine pw_get (v := .ref (B + 22)) okX10 (k := 25) (by decide) lkX10_74 hA.1 rfl dX10_pens_141 ?_
                  refine pw_iload_n dX10_pens_144 rfl ?_
                  refine pw_iald (t := 0) rfl (mF25 hA) (by first | omega | exact mCell_b hp ko (by omega) (by omega) | exact mHis_b hp (by omega) (by omega)) (by decide) dX10_pens_145 ?_
                  refine pw_iload dX10_pens_146 rfl ?_
                  refine pw_bipush (v := zI (22)) dX10_pens_148 (by decide) ?_
                  refine pw_icmp_ne (tgt := 157) dX10_pens_150 rfl (by omega) (by omega) (fun c150 => ?_) (fun c150 => ?_)
                  ·
                    refine pw_iload dX10_pens_157 rfl ?_
                    refine pw_bipush (v := zI (24)) dX10_pens_159 (by decide) ?_
                    refine pw_icmp_ne (tgt := 168) dX10_pens_161 rfl (by omega) (by omega) (fun c161 => ?_) (fun c161 => ?_)
                    ·
                      refine pw_iconst (v := zI (4)) dX10_pens_168 (by decide) ?_
                      refine pw_iconst (v := zI (-1)) dX10_pens_169 (by decide) ?_
                      refine pw_ixor dX10_pens_170 ?_
                      rw [zI_of (zI (4) ^^^ zI (-1))]
                      refine pw_iand dX10_pens_171 ?_
                      rw [zI_of (zI ((s1.2 25) (p).toNat) &&& zI ((zI (4) ^^^ zI (-1)).toInt))]
                      refine pw_iast (t := 0) rfl (mF25 hA) (by first | omega | exact mCell_b hp ko (by omega) (by omega) | exact mHis_b hp (by omega) (by omega)) (by decide) dX10_pens_172 ?_
                      have hA11 : mAt B (mA 25 (va_up (s1.2 25) (p).toNat ((zI ((s1.2 25) (p).toNat) &&& zI ((zI (4) ^^^ zI (-1)).toInt)).toInt)) s1) (va_up h1 (B + 22) (pz_z 0 8 (va_up (s1.2 25) (p).toNat ((zI ((s1.2 25) (p).toNat) &&& zI ((zI (4) ^^^ zI (-1)).toInt)).toInt)))) := mU25 hA
                      have hk11 : mPk (mA 25 (va_up (s1.2 25) (p).toNat ((zI ((s1.2 25) (p).toNat) &&& zI ((zI (4) ^^^ zI (-1)).toInt)).toInt)) s1) p.toNat := mPc hk (by decide)
                      have hr11 : mPr p.toNat s (mA 25 (va_up (s1.2 25) (p).toNat ((zI ((s1.2 25) (p).toNat) &&& zI ((zI (4) ^^^ zI (-1)).toInt)).toInt)) s1) := mPr_tr hr (mPr_W (by decide) (by decide) (by decide))
                      have hF11 : mFr B h (va_up h1 (B + 22) (pz_z 0 8 (va_up (s1.2 25) (p).toNat ((zI ((s1.2 25) (p).toNat) &&& zI ((zI (4) ^^^ zI (-1)).toInt)).toInt)))) := mFr_tr hF (mFr_up (by decide))
                      revert hA11 hk11 hr11 hF11 
                      generalize (mA 25 (va_up (s1.2 25) (p).toNat ((zI ((s1.2 25) (p).toNat) &&& zI ((zI (4) ^^^ zI (-1)).toInt)).toInt)) s1) = s11
                      generalize (va_up h1 (B + 22) (pz_z 0 8 (va_up (s1.2 25) (p).toNat ((zI ((s1.2 25) (p).toNat) &&& zI ((zI (4) ^^^ zI (-1)).toInt)).toInt)))) = h11
                      intro hA11 hk11 hr11 hF11 
                      obtain ⟨kw, kh, kr, kc, ksr, ksc, kt, ko, kwa, kin, kwr, khi, krd, knu, kgi, kas, kfr, kra, kco, kof, kip⟩ := id hk11
                      have e18 := congrFun (hr11.2.1 18 (by decide)) p.toNat
                      have e19 := congrFun (hr11.2.1 19 (by decide)) p.toNat
                      refine pw_goto (tgt := 294) dX10_pens_173 rfl ?_
                      refine pw_ziinc (lv' := [some (.ref B), some (.int (zI (p))), some (.int (zI (mn))), some (.int (zI (k + 1))), some (.int (zI ((s1.2 36) ((4 * p) + (k)).toNat)))]) dX10_pens_294 rfl (by decide) rfl rfl ?_
                      refine pw_goto (tgt := 26) dX10_pens_297 rfl ?_
                      exact ih (k + 1) _ s11 h11 (by omega) (by omega) (by omega)  hA11 hk11 hr11 hF11
                    ·
                      refine pw_iconst (v := zI (2)) dX10_pens_164 (by decide) ?_
                      refine pw_goto (tgt := 169) dX10_pens_165 rfl ?_
                      refine pw_iconst (v := zI (-1)) dX10_pens_169 (by decide) ?_
                      refine pw_ixor dX10_pens_170 ?_
                      rw [zI_of (zI (2) ^^^ zI (-1))]
                      refine pw_iand dX10_pens_171 ?_
                      rw [zI_of (zI ((s1.2 25) (p).toNat) &&& zI ((zI (2) ^^^ zI (-1)).toInt))]
                      refine pw_iast (t := 0) rfl (mF25 hA) (by first | omega | exact mCell_b hp ko (by omega) (by omega) | exact mHis_b hp (by omega) (by omega)) (by decide) dX10_pens_172 ?_
                      have hA12 : mAt B (mA 25 (va_up (s1.2 25) (p).toNat ((zI ((s1.2 25) (p).toNat) &&& zI ((zI (2) ^^^ zI (-1)).toInt)).toInt)) s1) (va_up h1 (B + 22) (pz_z 0 8 (va_up (s1.2 25) (p).toNat ((zI ((s1.2 25) (p).toNat) &&& zI ((zI (2) ^^^ zI (-1)).toInt)).toInt)))) := mU25 hA
                      have hk12 : mPk (mA 25 (va_up (s1.2 25) (p).toNat ((zI ((s1.2 25) (p).toNat) &&& zI ((zI (2) ^^^ zI (-1)).toInt)).toInt)) s1) p.toNat := mPc hk (by decide)
                      have hr12 : mPr p.toNat s (mA 25 (va_up (s1.2 25) (p).toNat ((zI ((s1.2 25) (p).toNat) &&& zI ((zI (2) ^^^ zI (-1)).toInt)).toInt)) s1) := mPr_tr hr (mPr_W (by decide) (by decide) (by decide))
                      have hF12 : mFr B h (va_up h1 (B + 22) (pz_z 0 8 (va_up (s1.2 25) (p).toNat ((zI ((s1.2 25) (p).toNat) &&& zI ((zI (2) ^^^ zI (-1)).toInt)).toInt)))) := mFr_tr hF (mFr_up (by decide))
                      revert hA12 hk12 hr12 hF12 
                      generalize (mA 25 (va_up (s1.2 25) (p).toNat ((zI ((s1.2 25) (p).toNat) &&& zI ((zI (2) ^^^ zI (-1)).toInt)).toInt)) s1) = s12
                      generalize (va_up h1 (B + 22) (pz_z 0 8 (va_up (s1.2 25) (p).toNat ((zI ((s1.2 25) (p).toNat) &&& zI ((zI (2) ^^^ zI (-1)).toInt)).toInt)))) = h12
                      intro hA12 hk12 hr12 hF12 
                      obtain ⟨kw, kh, kr, kc, ksr, ksc, kt, ko, kwa, kin, kwr, khi, krd, knu, kgi, kas, kfr, kra, kco, kof, kip⟩ := id hk12
                      have e18 := congrFun (hr12.2.1 18 (by decide)) p.toNat
                      have e19 := congrFun (hr12.2.1 19 (by decide)) p.toNat
                      refine pw_goto (tgt := 294) dX10_pens_173 rfl ?_
                      refine pw_ziinc (lv' := [some (.ref B), some (.int (zI (p))), some (.int (zI (mn))), some (.int (zI (k + 1))), some (.int (zI ((s1.2 36) ((4 * p) + (k)).toNat)))]) dX10_pens_294 rfl (by decide) rfl rfl ?_
                      refine pw_goto (tgt := 26) dX10_pens_297 rfl ?_
                      exact ih (k + 1) _ s12 h12 (by omega) (by omega) (by omega)  hA12 hk12 hr12 hF12
                  ·
                    refine pw_iconst (v := zI (1)) dX10_pens_153 (by decide) ?_
                    refine pw_goto (tgt := 169) dX10_pens_154 rfl ?_
                    refine pw_iconst (v := zI (-1)) dX10_pens_169 (by decide) ?_
                    refine pw_ixor dX10_pens_170 ?_
                    rw [zI_of (zI (1) ^^^ zI (-1))]
                    refine pw_iand dX10_pens_171 ?_
                    rw [zI_of (zI ((s1.2 25) (p).toNat) &&& zI ((zI (1) ^^^ zI (-1)).toInt))]
                    refine pw_iast (t := 0) rfl (mF25 hA) (by first | omega | exact mCell_b hp ko (by omega) (by omega) | exact mHis_b hp (by omega) (by omega)) (by decide) dX10_pens_172 ?_
                    have hA13 : mAt B (mA 25 (va_up (s1.2 25) (p).toNat ((zI ((s1.2 25) (p).toNat) &&& zI ((zI (1) ^^^ zI (-1)).toInt)).toInt)) s1) (va_up h1 (B + 22) (pz_z 0 8 (va_up (s1.2 25) (p).toNat ((zI ((s1.2 25) (p).toNat) &&& zI ((zI (1) ^^^ zI (-1)).toInt)).toInt)))) := mU25 hA
                    have hk13 : mPk (mA 25 (va_up (s1.2 25) (p).toNat ((zI ((s1.2 25) (p).toNat) &&& zI ((zI (1) ^^^ zI (-1)).toInt)).toInt)) s1) p.toNat := mPc hk (by decide)
                    have hr13 : mPr p.toNat s (mA 25 (va_up (s1.2 25) (p).toNat ((zI ((s1.2 25) (p).toNat) &&& zI ((zI (1) ^^^ zI (-1)).toInt)).toInt)) s1) := mPr_tr hr (mPr_W (by decide) (by decide) (by decide))
                    have hF13 : mFr B h (va_up h1 (B + 22) (pz_z 0 8 (va_up (s1.2 25) (p).toNat ((zI ((s1.2 25) (p).toNat) &&& zI ((zI (1) ^^^ zI (-1)).toInt)).toInt)))) := mFr_tr hF (mFr_up (by decide))
                    revert hA13 hk13 hr13 hF13 
                    generalize (mA 25 (va_up (s1.2 25) (p).toNat ((zI ((s1.2 25) (p).toNat) &&& zI ((zI (1) ^^^ zI (-1)).toInt)).toInt)) s1) = s13
                    generalize (va_up h1 (B + 22) (pz_z 0 8 (va_up (s1.2 25) (p).toNat ((zI ((s1.2 25) (p).toNat) &&& zI ((zI (1) ^^^ zI (-1)).toInt)).toInt)))) = h13
                    intro hA13 hk13 hr13 hF13 
                    obtain ⟨kw, kh, kr, kc, ksr, ksc, kt, ko, kwa, kin, kwr, khi, krd, knu, kgi, kas, kfr, kra, kco, kof, kip⟩ := id hk13
                    have e18 := congrFun (hr13.2.1 18 (by decide)) p.toNat
                    have e19 := congrFun (hr13.2.1 19 (by decide)) p.toNat
                    refine pw_goto (tgt := 294) dX10_pens_173 rfl ?_
                    refine pw_ziinc (lv' := [some (.ref B), some (.int (zI (p))), some (.int (zI (mn))), some (.int (zI (k + 1))), some (.int (zI ((s1.2 36) ((4 * p) + (k)).toNat)))]) dX10_pens_294 rfl (by decide) rfl rfl ?_
                    refine pw_goto (tgt := 26) dX10_pens_297 rfl ?_
                    exact ih (k + 1) _ s13 h13 (by omega) (by omega) (by omega)  hA13 hk13 hr13 hF13
                ·
                  refine pw_iload dX10_pens_128 rfl ?_
                  refine pw_bipush (v := zI (27)) dX10_pens_130 (by decide) ?_
                  refine pw_icmp_ne (tgt := 176) dX10_pens_132 rfl (by omega) (by omega) (fun c132 => ?_) (fun c132 => ?_)
                  ·
                    refine pw_iload dX10_pens_176 rfl ?_
                    refine pw_bipush (v := zI (30)) dX10_pens_178 (by decide) ?_
                    refine pw_icmp_lt (tgt := 190) dX10_pens_180 rfl (by omega) (by omega) (fun c180 => ?_) (fun c180 => ?_)
                    ·
                      refine pw_iload dX10_pens_190 rfl ?_
                      refine pw_bipush (v := zI (39)) dX10_pens_192 (by decide) ?_
                      refine pw_icmp_ne (tgt := 236) dX10_pens_194 rfl (by omega) (by omega) (fun c194 => ?_) (fun c194 => ?_)
                      ·
                        refine pw_iload dX10_pens_236 rfl ?_
                        refine pw_bipush (v := zI (40)) dX10_pens_238 (by decide) ?_
                        refine pw_icmp_lt (tgt := 250) dX10_pens_240 rfl (by omega) (by omega) (fun c240 => ?_) (fun c240 => ?_)
                        ·
                          refine pw_iload dX10_pens_250 rfl ?_
                          refine pw_bipush (v := zI (49)) dX10_pens_252 (by decide) ?_
                          refine pw_icmp_ne (tgt := 294) dX10_pens_254 rfl (by omega) (by omega) (fun c254 => ?_) (fun c254 => ?_)
                          ·
                            refine pw_ziinc (lv' := [some (.ref B), some (.int (zI (p))), some (.int (zI (mn))), some (.int (zI (k + 1))), some (.int (zI ((s1.2 36) ((4 * p) + (k)).toNat)))]) dX10_pens_294 rfl (by decide) rfl rfl ?_
                            refine pw_goto (tgt := 26) dX10_pens_297 rfl ?_
                            exact ih (k + 1) _ s1 h1 (by omega) (by omega) (by omega)  hA hk hr hF
                          ·
                            refine pw_aload_n dX10_pens_257 rfl ?_
                            refine pw_get (v := .ref (B + 22)) okX10 (k := 25) (by decide) lkX10_74 hA.1 rfl dX10_pens_258 ?_
                            refine pw_iload_n dX10_pens_261 rfl ?_
                            refine pw_aload_n dX10_pens_262 rfl ?_
                            refine pw_get (v := .ref (B + 22)) okX10 (k := 25) (by decide) lkX10_74 hA.1 rfl dX10_pens_263 ?_
                            refine pw_iload_n dX10_pens_266 rfl ?_
                            refine pw_iald (t := 0) rfl (mF25 hA) (by first | omega | exact mCell_b hp ko (by omega) (by omega) | exact mHis_b hp (by omega) (by omega)) (by decide) dX10_pens_267 ?_
                            refine pw_sipush (v := zI (-3841)) dX10_pens_268 (by decide) ?_
                            refine pw_iand dX10_pens_271 ?_
                            rw [zI_of (zI ((s1.2 25) (p).toNat) &&& zI (-3841))]
                            refine pw_iload dX10_pens_272 rfl ?_
                            refine pw_bipush (v := zI (49)) dX10_pens_274 (by decide) ?_
                            refine pw_icmp_ne (tgt := 283) dX10_pens_276 rfl (by omega) (by omega) (fun c276 => ?_) (fun c276 => ?_)
                            ·
                              refine pw_sipush (v := zI (256)) dX10_pens_283 (by decide) ?_
                              refine pw_iload dX10_pens_286 rfl ?_
                              refine pw_bipush (v := zI (39)) dX10_pens_288 (by decide) ?_
                              refine pw_zisub dX10_pens_290 ?_
                              refine pw_zimul dX10_pens_291 ?_
                              refine pw_ior dX10_pens_292 ?_
                              rw [zI_of (zI ((zI ((s1.2 25) (p).toNat) &&& zI (-3841)).toInt) ||| zI ((256) * (((s1.2 36) ((4 * p) + (k)).toNat) - (39))))]
                              refine pw_iast (t := 0) rfl (mF25 hA) (by first | omega | exact mCell_b hp ko (by omega) (by omega) | exact mHis_b hp (by omega) (by omega)) (by decide) dX10_pens_293 ?_
                              have hA14 : mAt B (mA 25 (va_up (s1.2 25) (p).toNat ((zI ((zI ((s1.2 25) (p).toNat) &&& zI (-3841)).toInt) ||| zI ((256) * (((s1.2 36) ((4 * p) + (k)).toNat) - (39)))).toInt)) s1) (va_up h1 (B + 22) (pz_z 0 8 (va_up (s1.2 25) (p).toNat ((zI ((zI ((s1.2 25) (p).toNat) &&& zI (-3841)).toInt) ||| zI ((256) * (((s1.2 36) ((4 * p) + (k)).toNat) - (39)))).toInt)))) := mU25 hA
                              have hk14 : mPk (mA 25 (va_up (s1.2 25) (p).toNat ((zI ((zI ((s1.2 25) (p).toNat) &&& zI (-3841)).toInt) ||| zI ((256) * (((s1.2 36) ((4 * p) + (k)).toNat) - (39)))).toInt)) s1) p.toNat := mPc hk (by decide)
                              have hr14 : mPr p.toNat s (mA 25 (va_up (s1.2 25) (p).toNat ((zI ((zI ((s1.2 25) (p).toNat) &&& zI (-3841)).toInt) ||| zI ((256) * (((s1.2 36) ((4 * p) + (k)).toNat) - (39)))).toInt)) s1) := mPr_tr hr (mPr_W (by decide) (by decide) (by decide))
                              have hF14 : mFr B h (va_up h1 (B + 22) (pz_z 0 8 (va_up (s1.2 25) (p).toNat ((zI ((zI ((s1.2 25) (p).toNat) &&& zI (-3841)).toInt) ||| zI ((256) * (((s1.2 36) ((4 * p) + (k)).toNat) - (39)))).toInt)))) := mFr_tr hF (mFr_up (by decide))
                              revert hA14 hk14 hr14 hF14 
                              generalize (mA 25 (va_up (s1.2 25) (p).toNat ((zI ((zI ((s1.2 25) (p).toNat) &&& zI (-3841)).toInt) ||| zI ((256) * (((s1.2 36) ((4 * p) + (k)).toNat) - (39)))).toInt)) s1) = s14
                              generalize (va_up h1 (B + 22) (pz_z 0 8 (va_up (s1.2 25) (p).toNat ((zI ((zI ((s1.2 25) (p).toNat) &&& zI (-3841)).toInt) ||| zI ((256) * (((s1.2 36) ((4 * p) + (k)).toNat) - (39)))).toInt)))) = h14
                              intro hA14 hk14 hr14 hF14 
                              obtain ⟨kw, kh, kr, kc, ksr, ksc, kt, ko, kwa, kin, kwr, khi, krd, knu, kgi, kas, kfr, kra, kco, kof, kip⟩ := id hk14
                              have e18 := congrFun (hr14.2.1 18 (by decide)) p.toNat
                              have e19 := congrFun (hr14.2.1 19 (by decide)) p.toNat
                              refine pw_ziinc (lv' := [some (.ref B), some (.int (zI (p))), some (.int (zI (mn))), some (.int (zI (k + 1))), some (.int (zI ((s1.2 36) ((4 * p) + (k)).toNat)))]) dX10_pens_294 rfl (by decide) rfl rfl ?_
                              refine pw_goto (tgt := 26) dX10_pens_297 rfl ?_
                              exact ih (k + 1) _ s14 h14 (by omega) (by omega) (by omega)  hA14 hk14 hr14 hF14
                            ·
                              refine pw_iconst (v := zI (0)) dX10_pens_279 (by decide) ?_
                              refine pw_goto (tgt := 292) dX10_pens_280 rfl ?_
                              refine pw_ior dX10_pens_292 ?_
                              rw [zI_of (zI ((zI ((s1.2 25) (p).toNat) &&& zI (-3841)).toInt) ||| zI (0))]
                              refine pw_iast (t := 0) rfl (mF25 hA) (by first | omega | exact mCell_b hp ko (by omega) (by omega) | exact mHis_b hp (by omega) (by omega)) (by decide) dX10_pens_293 ?_
                              have hA15 : mAt B (mA 25 (va_up (s1.2 25) (p).toNat ((zI ((zI ((s1.2 25) (p).toNat) &&& zI (-3841)).toInt) ||| zI (0)).toInt)) s1) (va_up h1 (B + 22) (pz_z 0 8 (va_up (s1.2 25) (p).toNat ((zI ((zI ((s1.2 25) (p).toNat) &&& zI (-3841)).toInt) ||| zI (0)).toInt)))) := mU25 hA
                              have hk15 : mPk (mA 25 (va_up (s1.2 25) (p).toNat ((zI ((zI ((s1.2 25) (p).toNat) &&& zI (-3841)).toInt) ||| zI (0)).toInt)) s1) p.toNat := mPc hk (by decide)
                              have hr15 : mPr p.toNat s (mA 25 (va_up (s1.2 25) (p).toNat ((zI ((zI ((s1.2 25) (p).toNat) &&& zI (-3841)).toInt) ||| zI (0)).toInt)) s1) := mPr_tr hr (mPr_W (by decide) (by decide) (by decide))
                              have hF15 : mFr B h (va_up h1 (B + 22) (pz_z 0 8 (va_up (s1.2 25) (p).toNat ((zI ((zI ((s1.2 25) (p).toNat) &&& zI (-3841)).toInt) ||| zI (0)).toInt)))) := mFr_tr hF (mFr_up (by decide))
                              revert hA15 hk15 hr15 hF15 
                              generalize (mA 25 (va_up (s1.2 25) (p).toNat ((zI ((zI ((s1.2 25) (p).toNat) &&& zI (-3841)).toInt) ||| zI (0)).toInt)) s1) = s15
                              generalize (va_up h1 (B + 22) (pz_z 0 8 (va_up (s1.2 25) (p).toNat ((zI ((zI ((s1.2 25) (p).toNat) &&& zI (-3841)).toInt) ||| zI (0)).toInt)))) = h15
                              intro hA15 hk15 hr15 hF15 
                              obtain ⟨kw, kh, kr, kc, ksr, ksc, kt, ko, kwa, kin, kwr, khi, krd, knu, kgi, kas, kfr, kra, kco, kof, kip⟩ := id hk15
                              have e18 := congrFun (hr15.2.1 18 (by decide)) p.toNat
                              have e19 := congrFun (hr15.2.1 19 (by decide)) p.toNat
                              refine pw_ziinc (lv' := [some (.ref B), some (.int (zI (p))), some (.int (zI (mn))), some (.int (zI (k + 1))), some (.int (zI ((s1.2 36) ((4 * p) + (k)).toNat)))]) dX10_pens_294 rfl (by decide) rfl rfl ?_
                              refine pw_goto (tgt := 26) dX10_pens_297 rfl ?_
                              exact ih (k + 1) _ s15 h15 (by omega) (by omega) (by omega)  hA15 hk15 hr15 hF15
                        ·
                          refine pw_iload dX10_pens_243 rfl ?_
                          refine pw_bipush (v := zI (47)) dX10_pens_245 (by decide) ?_
                          refine pw_icmp_le (tgt := 257) dX10_pens_247 rfl (by omega) (by omega) (fun c247 => ?_) (fun c247 => ?_)
                          ·
                            refine pw_aload_n dX10_pens_257 rfl ?_
                            refine pw_get (v := .ref (B + 22)) okX10 (k := 25) (by decide) lkX10_74 hA.1 rfl dX10_pens_258 ?_
                            refine pw_iload_n dX10_pens_261 rfl ?_
                            refine pw_aload_n dX10_pens_262 rfl ?_
                            refine pw_get (v := .ref (B + 22)) okX10 (k := 25) (by decide) lkX10_74 hA.1 rfl dX10_pens_263 ?_
                            refine pw_iload_n dX10_pens_266 rfl ?_
                            refine pw_iald (t := 0) rfl (mF25 hA) (by first | omega | exact mCell_b hp ko (by omega) (by omega) | exact mHis_b hp (by omega) (by omega)) (by decide) dX10_pens_267 ?_
                            refine pw_sipush (v := zI (-3841)) dX10_pens_268 (by decide) ?_
                            refine pw_iand dX10_pens_271 ?_
                            rw [zI_of (zI ((s1.2 25) (p).toNat) &&& zI (-3841))]
                            refine pw_iload dX10_pens_272 rfl ?_
                            refine pw_bipush (v := zI (49)) dX10_pens_274 (by decide) ?_
                            refine pw_icmp_ne (tgt := 283) dX10_pens_276 rfl (by omega) (by omega) (fun c276 => ?_) (fun c276 => ?_)
                            ·
                              refine pw_sipush (v := zI (256)) dX10_pens_283 (by decide) ?_
                              refine pw_iload dX10_pens_286 rfl ?_
                              refine pw_bipush (v := zI (39)) dX10_pens_288 (by decide) ?_
                              refine pw_zisub dX10_pens_290 ?_
                              refine pw_zimul dX10_pens_291 ?_
                              refine pw_ior dX10_pens_292 ?_
                              rw [zI_of (zI ((zI ((s1.2 25) (p).toNat) &&& zI (-3841)).toInt) ||| zI ((256) * (((s1.2 36) ((4 * p) + (k)).toNat) - (39))))]
                              refine pw_iast (t := 0) rfl (mF25 hA) (by first | omega | exact mCell_b hp ko (by omega) (by omega) | exact mHis_b hp (by omega) (by omega)) (by decide) dX10_pens_293 ?_
                              have hA16 : mAt B (mA 25 (va_up (s1.2 25) (p).toNat ((zI ((zI ((s1.2 25) (p).toNat) &&& zI (-3841)).toInt) ||| zI ((256) * (((s1.2 36) ((4 * p) + (k)).toNat) - (39)))).toInt)) s1) (va_up h1 (B + 22) (pz_z 0 8 (va_up (s1.2 25) (p).toNat ((zI ((zI ((s1.2 25) (p).toNat) &&& zI (-3841)).toInt) ||| zI ((256) * (((s1.2 36) ((4 * p) + (k)).toNat) - (39)))).toInt)))) := mU25 hA
                              have hk16 : mPk (mA 25 (va_up (s1.2 25) (p).toNat ((zI ((zI ((s1.2 25) (p).toNat) &&& zI (-3841)).toInt) ||| zI ((256) * (((s1.2 36) ((4 * p) + (k)).toNat) - (39)))).toInt)) s1) p.toNat := mPc hk (by decide)
                              have hr16 : mPr p.toNat s (mA 25 (va_up (s1.2 25) (p).toNat ((zI ((zI ((s1.2 25) (p).toNat) &&& zI (-3841)).toInt) ||| zI ((256) * (((s1.2 36) ((4 * p) + (k)).toNat) - (39)))).toInt)) s1) := mPr_tr hr (mPr_W (by decide) (by decide) (by decide))
                              have hF16 : mFr B h (va_up h1 (B + 22) (pz_z 0 8 (va_up (s1.2 25) (p).toNat ((zI ((zI ((s1.2 25) (p).toNat) &&& zI (-3841)).toInt) ||| zI ((256) * (((s1.2 36) ((4 * p) + (k)).toNat) - (39)))).toInt)))) := mFr_tr hF (mFr_up (by decide))
                              revert hA16 hk16 hr16 hF16 
                              generalize (mA 25 (va_up (s1.2 25) (p).toNat ((zI ((zI ((s1.2 25) (p).toNat) &&& zI (-3841)).toInt) ||| zI ((256) * (((s1.2 36) ((4 * p) + (k)).toNat) - (39)))).toInt)) s1) = s16
                              generalize (va_up h1 (B + 22) (pz_z 0 8 (va_up (s1.2 25) (p).toNat ((zI ((zI ((s1.2 25) (p).toNat) &&& zI (-3841)).toInt) ||| zI ((256) * (((s1.2 36) ((4 * p) + (k)).toNat) - (39)))).toInt)))) = h16
                              intro hA16 hk16 hr16 hF16 
                              obtain ⟨kw, kh, kr, kc, ksr, ksc, kt, ko, kwa, kin, kwr, khi, krd, knu, kgi, kas, kfr, kra, kco, kof, kip⟩ := id hk16
                              have e18 := congrFun (hr16.2.1 18 (by decide)) p.toNat
                              have e19 := congrFun (hr16.2.1 19 (by decide)) p.toNat
                              refine pw_ziinc (lv' := [some (.ref B), some (.int (zI (p))), some (.int (zI (mn))), some (.int (zI (k + 1))), some (.int (zI ((s1.2 36) ((4 * p) + (k)).toNat)))]) dX10_pens_294 rfl (by decide) rfl rfl ?_
                              refine pw_goto (tgt := 26) dX10_pens_297 rfl ?_
                              exact ih (k + 1) _ s16 h16 (by omega) (by omega) (by omega)  hA16 hk16 hr16 hF16
                            ·
                              refine pw_iconst (v := zI (0)) dX10_pens_279 (by decide) ?_
                              refine pw_goto (tgt := 292) dX10_pens_280 rfl ?_
                              refine pw_ior dX10_pens_292 ?_
                              rw [zI_of (zI ((zI ((s1.2 25) (p).toNat) &&& zI (-3841)).toInt) ||| zI (0))]
                              refine pw_iast (t := 0) rfl (mF25 hA) (by first | omega | exact mCell_b hp ko (by omega) (by omega) | exact mHis_b hp (by omega) (by omega)) (by decide) dX10_pens_293 ?_
                              have hA17 : mAt B (mA 25 (va_up (s1.2 25) (p).toNat ((zI ((zI ((s1.2 25) (p).toNat) &&& zI (-3841)).toInt) ||| zI (0)).toInt)) s1) (va_up h1 (B + 22) (pz_z 0 8 (va_up (s1.2 25) (p).toNat ((zI ((zI ((s1.2 25) (p).toNat) &&& zI (-3841)).toInt) ||| zI (0)).toInt)))) := mU25 hA
                              have hk17 : mPk (mA 25 (va_up (s1.2 25) (p).toNat ((zI ((zI ((s1.2 25) (p).toNat) &&& zI (-3841)).toInt) ||| zI (0)).toInt)) s1) p.toNat := mPc hk (by decide)
                              have hr17 : mPr p.toNat s (mA 25 (va_up (s1.2 25) (p).toNat ((zI ((zI ((s1.2 25) (p).toNat) &&& zI (-3841)).toInt) ||| zI (0)).toInt)) s1) := mPr_tr hr (mPr_W (by decide) (by decide) (by decide))
                              have hF17 : mFr B h (va_up h1 (B + 22) (pz_z 0 8 (va_up (s1.2 25) (p).toNat ((zI ((zI ((s1.2 25) (p).toNat) &&& zI (-3841)).toInt) ||| zI (0)).toInt)))) := mFr_tr hF (mFr_up (by decide))
                              revert hA17 hk17 hr17 hF17 
                              generalize (mA 25 (va_up (s1.2 25) (p).toNat ((zI ((zI ((s1.2 25) (p).toNat) &&& zI (-3841)).toInt) ||| zI (0)).toInt)) s1) = s17
                              generalize (va_up h1 (B + 22) (pz_z 0 8 (va_up (s1.2 25) (p).toNat ((zI ((zI ((s1.2 25) (p).toNat) &&& zI (-3841)).toInt) ||| zI (0)).toInt)))) = h17
                              intro hA17 hk17 hr17 hF17 
                              obtain ⟨kw, kh, kr, kc, ksr, ksc, kt, ko, kwa, kin, kwr, khi, krd, knu, kgi, kas, kfr, kra, kco, kof, kip⟩ := id hk17
                              have e18 := congrFun (hr17.2.1 18 (by decide)) p.toNat
                              have e19 := congrFun (hr17.2.1 19 (by decide)) p.toNat
                              refine pw_ziinc (lv' := [some (.ref B), some (.int (zI (p))), some (.int (zI (mn))), some (.int (zI (k + 1))), some (.int (zI ((s1.2 36) ((4 * p) + (k)).toNat)))]) dX10_pens_294 rfl (by decide) rfl rfl ?_
                              refine pw_goto (tgt := 26) dX10_pens_297 rfl ?_
                              exact ih (k + 1) _ s17 h17 (by omega) (by omega) (by omega)  hA17 hk17 hr17 hF17
                          ·
                            refine pw_iload dX10_pens_250 rfl ?_
                            refine pw_bipush (v := zI (49)) dX10_pens_252 (by decide) ?_
                            refine pw_icmp_ne (tgt := 294) dX10_pens_254 rfl (by omega) (by omega) (fun c254 => ?_) (fun c254 => ?_)
                            ·
                              refine pw_ziinc (lv' := [some (.ref B), some (.int (zI (p))), some (.int (zI (mn))), some (.int (zI (k + 1))), some (.int (zI ((s1.2 36) ((4 * p) + (k)).toNat)))]) dX10_pens_294 rfl (by decide) rfl rfl ?_
                              refine pw_goto (tgt := 26) dX10_pens_297 rfl ?_
                              exact ih (k + 1) _ s1 h1 (by omega) (by omega) (by omega)  hA hk hr hF
                            ·
                              refine pw_aload_n dX10_pens_257 rfl ?_
                              refine pw_get (v := .ref (B + 22)) okX10 (k := 25) (by decide) lkX10_74 hA.1 rfl dX10_pens_258 ?_
                              refine pw_iload_n dX10_pens_261 rfl ?_
                              refine pw_aload_n dX10_pens_262 rfl ?_
                              refine pw_get (v := .ref (B + 22)) okX10 (k := 25) (by decide) lkX10_74 hA.1 rfl dX10_pens_263 ?_
                              refine pw_iload_n dX10_pens_266 rfl ?_
                              refine pw_iald (t := 0) rfl (mF25 hA) (by first | omega | exact mCell_b hp ko (by omega) (by omega) | exact mHis_b hp (by omega) (by omega)) (by decide) dX10_pens_267 ?_
                              refine pw_sipush (v := zI (-3841)) dX10_pens_268 (by decide) ?_
                              refine pw_iand dX10_pens_271 ?_
                              rw [zI_of (zI ((s1.2 25) (p).toNat) &&& zI (-3841))]
                              refine pw_iload dX10_pens_272 rfl ?_
                              refine pw_bipush (v := zI (49)) dX10_pens_274 (by decide) ?_
                              refine pw_icmp_ne (tgt := 283) dX10_pens_276 rfl (by omega) (by omega) (fun c276 => ?_) (fun c276 => ?_)
                              ·
                                refine pw_sipush (v := zI (256)) dX10_pens_283 (by decide) ?_
                                refine pw_iload dX10_pens_286 rfl ?_
                                refine pw_bipush (v := zI (39)) dX10_pens_288 (by decide) ?_
                                refine pw_zisub dX10_pens_290 ?_
                                refine pw_zimul dX10_pens_291 ?_
                                refine pw_ior dX10_pens_292 ?_
                                rw [zI_of (zI ((zI ((s1.2 25) (p).toNat) &&& zI (-3841)).toInt) ||| zI ((256) * (((s1.2 36) ((4 * p) + (k)).toNat) - (39))))]
                                refine pw_iast (t := 0) rfl (mF25 hA) (by first | omega | exact mCell_b hp ko (by omega) (by omega) | exact mHis_b hp (by omega) (by omega)) (by decide) dX10_pens_293 ?_
                                have hA18 : mAt B (mA 25 (va_up (s1.2 25) (p).toNat ((zI ((zI ((s1.2 25) (p).toNat) &&& zI (-3841)).toInt) ||| zI ((256) * (((s1.2 36) ((4 * p) + (k)).toNat) - (39)))).toInt)) s1) (va_up h1 (B + 22) (pz_z 0 8 (va_up (s1.2 25) (p).toNat ((zI ((zI ((s1.2 25) (p).toNat) &&& zI (-3841)).toInt) ||| zI ((256) * (((s1.2 36) ((4 * p) + (k)).toNat) - (39)))).toInt)))) := mU25 hA
                                have hk18 : mPk (mA 25 (va_up (s1.2 25) (p).toNat ((zI ((zI ((s1.2 25) (p).toNat) &&& zI (-3841)).toInt) ||| zI ((256) * (((s1.2 36) ((4 * p) + (k)).toNat) - (39)))).toInt)) s1) p.toNat := mPc hk (by decide)
                                have hr18 : mPr p.toNat s (mA 25 (va_up (s1.2 25) (p).toNat ((zI ((zI ((s1.2 25) (p).toNat) &&& zI (-3841)).toInt) ||| zI ((256) * (((s1.2 36) ((4 * p) + (k)).toNat) - (39)))).toInt)) s1) := mPr_tr hr (mPr_W (by decide) (by decide) (by decide))
                                have hF18 : mFr B h (va_up h1 (B + 22) (pz_z 0 8 (va_up (s1.2 25) (p).toNat ((zI ((zI ((s1.2 25) (p).toNat) &&& zI (-3841)).toInt) ||| zI ((256) * (((s1.2 36) ((4 * p) + (k)).toNat) - (39)))).toInt)))) := mFr_tr hF (mFr_up (by decide))
                                revert hA18 hk18 hr18 hF18 
                                generalize (mA 25 (va_up (s1.2 25) (p).toNat ((zI ((zI ((s1.2 25) (p).toNat) &&& zI (-3841)).toInt) ||| zI ((256) * (((s1.2 36) ((4 * p) + (k)).toNat) - (39)))).toInt)) s1) = s18
                                generalize (va_up h1 (B + 22) (pz_z 0 8 (va_up (s1.2 25) (p).toNat ((zI ((zI ((s1.2 25) (p).toNat) &&& zI (-3841)).toInt) ||| zI ((256) * (((s1.2 36) ((4 * p) + (k)).toNat) - (39)))).toInt)))) = h18
                                intro hA18 hk18 hr18 hF18 
                                obtain ⟨kw, kh, kr, kc, ksr, ksc, kt, ko, kwa, kin, kwr, khi, krd, knu, kgi, kas, kfr, kra, kco, kof, kip⟩ := id hk18
                                have e18 := congrFun (hr18.2.1 18 (by decide)) p.toNat
                                have e19 := congrFun (hr18.2.1 19 (by decide)) p.toNat
                                refine pw_ziinc (lv' := [some (.ref B), some (.int (zI (p))), some (.int (zI (mn))), some (.int (zI (k + 1))), some (.int (zI ((s1.2 36) ((4 * p) + (k)).toNat)))]) dX10_pens_294 rfl (by decide) rfl rfl ?_
                                refine pw_goto (tgt := 26) dX10_pens_297 rfl ?_
                                exact ih (k + 1) _ s18 h18 (by omega) (by omega) (by omega)  hA18 hk18 hr18 hF18
                              ·
                                refine pw_iconst (v := zI (0)) dX10_pens_279 (by decide) ?_
                                refine pw_goto (tgt := 292) dX10_pens_280 rfl ?_
                                refine pw_ior dX10_pens_292 ?_
                                rw [zI_of (zI ((zI ((s1.2 25) (p).toNat) &&& zI (-3841)).toInt) ||| zI (0))]
                                refine pw_iast (t := 0) rfl (mF25 hA) (by first | omega | exact mCell_b hp ko (by omega) (by omega) | exact mHis_b hp (by omega) (by omega)) (by decide) dX10_pens_293 ?_
                                have hA19 : mAt B (mA 25 (va_up (s1.2 25) (p).toNat ((zI ((zI ((s1.2 25) (p).toNat) &&& zI (-3841)).toInt) ||| zI (0)).toInt)) s1) (va_up h1 (B + 22) (pz_z 0 8 (va_up (s1.2 25) (p).toNat ((zI ((zI ((s1.2 25) (p).toNat) &&& zI (-3841)).toInt) ||| zI (0)).toInt)))) := mU25 hA
                                have hk19 : mPk (mA 25 (va_up (s1.2 25) (p).toNat ((zI ((zI ((s1.2 25) (p).toNat) &&& zI (-3841)).toInt) ||| zI (0)).toInt)) s1) p.toNat := mPc hk (by decide)
                                have hr19 : mPr p.toNat s (mA 25 (va_up (s1.2 25) (p).toNat ((zI ((zI ((s1.2 25) (p).toNat) &&& zI (-3841)).toInt) ||| zI (0)).toInt)) s1) := mPr_tr hr (mPr_W (by decide) (by decide) (by decide))
                                have hF19 : mFr B h (va_up h1 (B + 22) (pz_z 0 8 (va_up (s1.2 25) (p).toNat ((zI ((zI ((s1.2 25) (p).toNat) &&& zI (-3841)).toInt) ||| zI (0)).toInt)))) := mFr_tr hF (mFr_up (by decide))
                                revert hA19 hk19 hr19 hF19 
                                generalize (mA 25 (va_up (s1.2 25) (p).toNat ((zI ((zI ((s1.2 25) (p).toNat) &&& zI (-3841)).toInt) ||| zI (0)).toInt)) s1) = s19
                                generalize (va_up h1 (B + 22) (pz_z 0 8 (va_up (s1.2 25) (p).toNat ((zI ((zI ((s1.2 25) (p).toNat) &&& zI (-3841)).toInt) ||| zI (0)).toInt)))) = h19
                                intro hA19 hk19 hr19 hF19 
                                obtain ⟨kw, kh, kr, kc, ksr, ksc, kt, ko, kwa, kin, kwr, khi, krd, knu, kgi, kas, kfr, kra, kco, kof, kip⟩ := id hk19
                                have e18 := congrFun (hr19.2.1 18 (by decide)) p.toNat
                                have e19 := congrFun (hr19.2.1 19 (by decide)) p.toNat
                                refine pw_ziinc (lv' := [some (.ref B), some (.int (zI (p))), some (.int (zI (mn))), some (.int (zI (k + 1))), some (.int (zI ((s1.2 36) ((4 * p) + (k)).toNat)))]) dX10_pens_294 rfl (by decide) rfl rfl ?_
                                refine pw_goto (tgt := 26) dX10_pens_297 rfl ?_
                                exact ih (k + 1) _ s19 h19 (by omega) (by omega) (by omega)  hA19 hk19 hr19 hF19
                      ·
                        refine pw_aload_n dX10_pens_197 rfl ?_
                        refine pw_get (v := .ref (B + 22)) okX10 (k := 25) (by decide) lkX10_74 hA.1 rfl dX10_pens_198 ?_
                        refine pw_iload_n dX10_pens_201 rfl ?_
                        refine pw_aload_n dX10_pens_202 rfl ?_
                        refine pw_get (v := .ref (B + 22)) okX10 (k := 25) (by decide) lkX10_74 hA.1 rfl dX10_pens_203 ?_
                        refine pw_iload_n dX10_pens_206 rfl ?_
                        refine pw_iald (t := 0) rfl (mF25 hA) (by first | omega | exact mCell_b hp ko (by omega) (by omega) | exact mHis_b hp (by omega) (by omega)) (by decide) dX10_pens_207 ?_
                        refine pw_sipush (v := zI (-241)) dX10_pens_208 (by decide) ?_
                        refine pw_iand dX10_pens_211 ?_
                        rw [zI_of (zI ((s1.2 25) (p).toNat) &&& zI (-241))]
                        refine pw_iload dX10_pens_212 rfl ?_
                        refine pw_bipush (v := zI (39)) dX10_pens_214 (by decide) ?_
                        refine pw_icmp_ne (tgt := 223) dX10_pens_216 rfl (by omega) (by omega) (fun c216 => ?_) (fun c216 => ?_)
                        ·
                          refine pw_bipush (v := zI (16)) dX10_pens_223 (by decide) ?_
                          refine pw_iload dX10_pens_225 rfl ?_
                          refine pw_bipush (v := zI (29)) dX10_pens_227 (by decide) ?_
                          refine pw_zisub dX10_pens_229 ?_
                          refine pw_zimul dX10_pens_230 ?_
                          refine pw_ior dX10_pens_231 ?_
                          rw [zI_of (zI ((zI ((s1.2 25) (p).toNat) &&& zI (-241)).toInt) ||| zI ((16) * (((s1.2 36) ((4 * p) + (k)).toNat) - (29))))]
                          refine pw_iast (t := 0) rfl (mF25 hA) (by first | omega | exact mCell_b hp ko (by omega) (by omega) | exact mHis_b hp (by omega) (by omega)) (by decide) dX10_pens_232 ?_
                          have hA20 : mAt B (mA 25 (va_up (s1.2 25) (p).toNat ((zI ((zI ((s1.2 25) (p).toNat) &&& zI (-241)).toInt) ||| zI ((16) * (((s1.2 36) ((4 * p) + (k)).toNat) - (29)))).toInt)) s1) (va_up h1 (B + 22) (pz_z 0 8 (va_up (s1.2 25) (p).toNat ((zI ((zI ((s1.2 25) (p).toNat) &&& zI (-241)).toInt) ||| zI ((16) * (((s1.2 36) ((4 * p) + (k)).toNat) - (29)))).toInt)))) := mU25 hA
                          have hk20 : mPk (mA 25 (va_up (s1.2 25) (p).toNat ((zI ((zI ((s1.2 25) (p).toNat) &&& zI (-241)).toInt) ||| zI ((16) * (((s1.2 36) ((4 * p) + (k)).toNat) - (29)))).toInt)) s1) p.toNat := mPc hk (by decide)
                          have hr20 : mPr p.toNat s (mA 25 (va_up (s1.2 25) (p).toNat ((zI ((zI ((s1.2 25) (p).toNat) &&& zI (-241)).toInt) ||| zI ((16) * (((s1.2 36) ((4 * p) + (k)).toNat) - (29)))).toInt)) s1) := mPr_tr hr (mPr_W (by decide) (by decide) (by decide))
                          have hF20 : mFr B h (va_up h1 (B + 22) (pz_z 0 8 (va_up (s1.2 25) (p).toNat ((zI ((zI ((s1.2 25) (p).toNat) &&& zI (-241)).toInt) ||| zI ((16) * (((s1.2 36) ((4 * p) + (k)).toNat) - (29)))).toInt)))) := mFr_tr hF (mFr_up (by decide))
                          revert hA20 hk20 hr20 hF20 
                          generalize (mA 25 (va_up (s1.2 25) (p).toNat ((zI ((zI ((s1.2 25) (p).toNat) &&& zI (-241)).toInt) ||| zI ((16) * (((s1.2 36) ((4 * p) + (k)).toNat) - (29)))).toInt)) s1) = s20
                          generalize (va_up h1 (B + 22) (pz_z 0 8 (va_up (s1.2 25) (p).toNat ((zI ((zI ((s1.2 25) (p).toNat) &&& zI (-241)).toInt) ||| zI ((16) * (((s1.2 36) ((4 * p) + (k)).toNat) - (29)))).toInt)))) = h20
                          intro hA20 hk20 hr20 hF20 
                          obtain ⟨kw, kh, kr, kc, ksr, ksc, kt, ko, kwa, kin, kwr, khi, krd, knu, kgi, kas, kfr, kra, kco, kof, kip⟩ := id hk20
                          have e18 := congrFun (hr20.2.1 18 (by decide)) p.toNat
                          have e19 := congrFun (hr20.2.1 19 (by decide)) p.toNat
                          refine pw_goto (tgt := 294) dX10_pens_233 rfl ?_
                          refine pw_ziinc (lv' := [some (.ref B), some (.int (zI (p))), some (.int (zI (mn))), some (.int (zI (k + 1))), some (.int (zI ((s1.2 36) ((4 * p) + (k)).toNat)))]) dX10_pens_294 rfl (by decide) rfl rfl ?_
                          refine pw_goto (tgt := 26) dX10_pens_297 rfl ?_
                          exact ih (k + 1) _ s20 h20 (by omega) (by omega) (by omega)  hA20 hk20 hr20 hF20
                        ·
                          refine pw_iconst (v := zI (0)) dX10_pens_219 (by decide) ?_
                          refine pw_goto (tgt := 231) dX10_pens_220 rfl ?_
                          refine pw_ior dX10_pens_231 ?_
                          rw [zI_of (zI ((zI ((s1.2 25) (p).toNat) &&& zI (-241)).toInt) ||| zI (0))]
                          refine pw_iast (t := 0) rfl (mF25 hA) (by first | omega | exact mCell_b hp ko (by omega) (by omega) | exact mHis_b hp (by omega) (by omega)) (by decide) dX10_pens_232 ?_
                          have hA21 : mAt B (mA 25 (va_up (s1.2 25) (p).toNat ((zI ((zI ((s1.2 25) (p).toNat) &&& zI (-241)).toInt) ||| zI (0)).toInt)) s1) (va_up h1 (B + 22) (pz_z 0 8 (va_up (s1.2 25) (p).toNat ((zI ((zI ((s1.2 25) (p).toNat) &&& zI (-241)).toInt) ||| zI (0)).toInt)))) := mU25 hA
                          have hk21 : mPk (mA 25 (va_up (s1.2 25) (p).toNat ((zI ((zI ((s1.2 25) (p).toNat) &&& zI (-241)).toInt) ||| zI (0)).toInt)) s1) p.toNat := mPc hk (by decide)
                          have hr21 : mPr p.toNat s (mA 25 (va_up (s1.2 25) (p).toNat ((zI ((zI ((s1.2 25) (p).toNat) &&& zI (-241)).toInt) ||| zI (0)).toInt)) s1) := mPr_tr hr (mPr_W (by decide) (by decide) (by decide))
                          have hF21 : mFr B h (va_up h1 (B + 22) (pz_z 0 8 (va_up (s1.2 25) (p).toNat ((zI ((zI ((s1.2 25) (p).toNat) &&& zI (-241)).toInt) ||| zI (0)).toInt)))) := mFr_tr hF (mFr_up (by decide))
                          revert hA21 hk21 hr21 hF21 
                          generalize (mA 25 (va_up (s1.2 25) (p).toNat ((zI ((zI ((s1.2 25) (p).toNat) &&& zI (-241)).toInt) ||| zI (0)).toInt)) s1) = s21
                          generalize (va_up h1 (B + 22) (pz_z 0 8 (va_up (s1.2 25) (p).toNat ((zI ((zI ((s1.2 25) (p).toNat) &&& zI (-241)).toInt) ||| zI (0)).toInt)))) = h21
                          intro hA21 hk21 hr21 hF21 
                          obtain ⟨kw, kh, kr, kc, ksr, ksc, kt, ko, kwa, kin, kwr, khi, krd, knu, kgi, kas, kfr, kra, kco, kof, kip⟩ := id hk21
                          have e18 := congrFun (hr21.2.1 18 (by decide)) p.toNat
                          have e19 := congrFun (hr21.2.1 19 (by decide)) p.toNat
                          refine pw_goto (tgt := 294) dX10_pens_233 rfl ?_
                          refine pw_ziinc (lv' := [some (.ref B), some (.int (zI (p))), some (.int (zI (mn))), some (.int (zI (k + 1))), some (.int (zI ((s1.2 36) ((4 * p) + (k)).toNat)))]) dX10_pens_294 rfl (by decide) rfl rfl ?_
                          refine pw_goto (tgt := 26) dX10_pens_297 rfl ?_
                          exact ih (k + 1) _ s21 h21 (by omega) (by omega) (by omega)  hA21 hk21 hr21 hF21
                    ·
                      refine pw_iload dX10_pens_183 rfl ?_
                      refine pw_bipush (v := zI (37)) dX10_pens_185 (by decide) ?_
                      refine pw_icmp_le (tgt := 197) dX10_pens_187 rfl (by omega) (by omega) (fun c187 => ?_) (fun c187 => ?_)
                      ·
                        refine pw_aload_n dX10_pens_197 rfl ?_
                        refine pw_get (v := .ref (B + 22)) okX10 (k := 25) (by decide) lkX10_74 hA.1 rfl dX10_pens_198 ?_
                        refine pw_iload_n dX10_pens_201 rfl ?_
                        refine pw_aload_n dX10_pens_202 rfl ?_
                        refine pw_get (v := .ref (B + 22)) okX10 (k := 25) (by decide) lkX10_74 hA.1 rfl dX10_pens_203 ?_
                        refine pw_iload_n dX10_pens_206 rfl ?_
                        refine pw_iald (t := 0) rfl (mF25 hA) (by first | omega | exact mCell_b hp ko (by omega) (by omega) | exact mHis_b hp (by omega) (by omega)) (by decide) dX10_pens_207 ?_
                        refine pw_sipush (v := zI (-241)) dX10_pens_208 (by decide) ?_
                        refine pw_iand dX10_pens_211 ?_
                        rw [zI_of (zI ((s1.2 25) (p).toNat) &&& zI (-241))]
                        refine pw_iload dX10_pens_212 rfl ?_
                        refine pw_bipush (v := zI (39)) dX10_pens_214 (by decide) ?_
                        refine pw_icmp_ne (tgt := 223) dX10_pens_216 rfl (by omega) (by omega) (fun c216 => ?_) (fun c216 => ?_)
                        ·
                          refine pw_bipush (v := zI (16)) dX10_pens_223 (by decide) ?_
                          refine pw_iload dX10_pens_225 rfl ?_
                          refine pw_bipush (v := zI (29)) dX10_pens_227 (by decide) ?_
                          refine pw_zisub dX10_pens_229 ?_
                          refine pw_zimul dX10_pens_230 ?_
                          refine pw_ior dX10_pens_231 ?_
                          rw [zI_of (zI ((zI ((s1.2 25) (p).toNat) &&& zI (-241)).toInt) ||| zI ((16) * (((s1.2 36) ((4 * p) + (k)).toNat) - (29))))]
                          refine pw_iast (t := 0) rfl (mF25 hA) (by first | omega | exact mCell_b hp ko (by omega) (by omega) | exact mHis_b hp (by omega) (by omega)) (by decide) dX10_pens_232 ?_
                          have hA22 : mAt B (mA 25 (va_up (s1.2 25) (p).toNat ((zI ((zI ((s1.2 25) (p).toNat) &&& zI (-241)).toInt) ||| zI ((16) * (((s1.2 36) ((4 * p) + (k)).toNat) - (29)))).toInt)) s1) (va_up h1 (B + 22) (pz_z 0 8 (va_up (s1.2 25) (p).toNat ((zI ((zI ((s1.2 25) (p).toNat) &&& zI (-241)).toInt) ||| zI ((16) * (((s1.2 36) ((4 * p) + (k)).toNat) - (29)))).toInt)))) := mU25 hA
                          have hk22 : mPk (mA 25 (va_up (s1.2 25) (p).toNat ((zI ((zI ((s1.2 25) (p).toNat) &&& zI (-241)).toInt) ||| zI ((16) * (((s1.2 36) ((4 * p) + (k)).toNat) - (29)))).toInt)) s1) p.toNat := mPc hk (by decide)
                          have hr22 : mPr p.toNat s (mA 25 (va_up (s1.2 25) (p).toNat ((zI ((zI ((s1.2 25) (p).toNat) &&& zI (-241)).toInt) ||| zI ((16) * (((s1.2 36) ((4 * p) + (k)).toNat) - (29)))).toInt)) s1) := mPr_tr hr (mPr_W (by decide) (by decide) (by decide))
                          have hF22 : mFr B h (va_up h1 (B + 22) (pz_z 0 8 (va_up (s1.2 25) (p).toNat ((zI ((zI ((s1.2 25) (p).toNat) &&& zI (-241)).toInt) ||| zI ((16) * (((s1.2 36) ((4 * p) + (k)).toNat) - (29)))).toInt)))) := mFr_tr hF (mFr_up (by decide))
                          revert hA22 hk22 hr22 hF22 
                          generalize (mA 25 (va_up (s1.2 25) (p).toNat ((zI ((zI ((s1.2 25) (p).toNat) &&& zI (-241)).toInt) ||| zI ((16) * (((s1.2 36) ((4 * p) + (k)).toNat) - (29)))).toInt)) s1) = s22
                          generalize (va_up h1 (B + 22) (pz_z 0 8 (va_up (s1.2 25) (p).toNat ((zI ((zI ((s1.2 25) (p).toNat) &&& zI (-241)).toInt) ||| zI ((16) * (((s1.2 36) ((4 * p) + (k)).toNat) - (29)))).toInt)))) = h22
                          intro hA22 hk22 hr22 hF22 
                          obtain ⟨kw, kh, kr, kc, ksr, ksc, kt, ko, kwa, kin, kwr, khi, krd, knu, kgi, kas, kfr, kra, kco, kof, kip⟩ := id hk22
                          have e18 := congrFun (hr22.2.1 18 (by decide)) p.toNat
                          have e19 := congrFun (hr22.2.1 19 (by decide)) p.toNat
                          refine pw_goto (tgt := 294) dX10_pens_233 rfl ?_
                          refine pw_ziinc (lv' := [some (.ref B), some (.int (zI (p))), some (.int (zI (mn))), some (.int (zI (k + 1))), some (.int (zI ((s1.2 36) ((4 * p) + (k)).toNat)))]) dX10_pens_294 rfl (by decide) rfl rfl ?_
                          refine pw_goto (tgt := 26) dX10_pens_297 rfl ?_
                          exact ih (k + 1) _ s22 h22 (by omega) (by omega) (by omega)  hA22 hk22 hr22 hF22
                        ·
                          refine pw_iconst (v := zI (0)) dX10_pens_219 (by decide) ?_
                          refine pw_goto (tgt := 231) dX10_pens_220 rfl ?_
                          refine pw_ior dX10_pens_231 ?_
                          rw [zI_of (zI ((zI ((s1.2 25) (p).toNat) &&& zI (-241)).toInt) ||| zI (0))]
                          refine pw_iast (t := 0) rfl (mF25 hA) (by first | omega | exact mCell_b hp ko (by omega) (by omega) | exact mHis_b hp (by omega) (by omega)) (by decide) dX10_pens_232 ?_
                          have hA23 : mAt B (mA 25 (va_up (s1.2 25) (p).toNat ((zI ((zI ((s1.2 25) (p).toNat) &&& zI (-241)).toInt) ||| zI (0)).toInt)) s1) (va_up h1 (B + 22) (pz_z 0 8 (va_up (s1.2 25) (p).toNat ((zI ((zI ((s1.2 25) (p).toNat) &&& zI (-241)).toInt) ||| zI (0)).toInt)))) := mU25 hA
                          have hk23 : mPk (mA 25 (va_up (s1.2 25) (p).toNat ((zI ((zI ((s1.2 25) (p).toNat) &&& zI (-241)).toInt) ||| zI (0)).toInt)) s1) p.toNat := mPc hk (by decide)
                          have hr23 : mPr p.toNat s (mA 25 (va_up (s1.2 25) (p).toNat ((zI ((zI ((s1.2 25) (p).toNat) &&& zI (-241)).toInt) ||| zI (0)).toInt)) s1) := mPr_tr hr (mPr_W (by decide) (by decide) (by decide))
                          have hF23 : mFr B h (va_up h1 (B + 22) (pz_z 0 8 (va_up (s1.2 25) (p).toNat ((zI ((zI ((s1.2 25) (p).toNat) &&& zI (-241)).toInt) ||| zI (0)).toInt)))) := mFr_tr hF (mFr_up (by decide))
                          revert hA23 hk23 hr23 hF23 
                          generalize (mA 25 (va_up (s1.2 25) (p).toNat ((zI ((zI ((s1.2 25) (p).toNat) &&& zI (-241)).toInt) ||| zI (0)).toInt)) s1) = s23
                          generalize (va_up h1 (B + 22) (pz_z 0 8 (va_up (s1.2 25) (p).toNat ((zI ((zI ((s1.2 25) (p).toNat) &&& zI (-241)).toInt) ||| zI (0)).toInt)))) = h23
                          intro hA23 hk23 hr23 hF23 
                          obtain ⟨kw, kh, kr, kc, ksr, ksc, kt, ko, kwa, kin, kwr, khi, krd, knu, kgi, kas, kfr, kra, kco, kof, kip⟩ := id hk23
                          have e18 := congrFun (hr23.2.1 18 (by decide)) p.toNat
                          have e19 := congrFun (hr23.2.1 19 (by decide)) p.toNat
                          refine pw_goto (tgt := 294) dX10_pens_233 rfl ?_
                          refine pw_ziinc (lv' := [some (.ref B), some (.int (zI (p))), some (.int (zI (mn))), some (.int (zI (k + 1))), some (.int (zI ((s1.2 36) ((4 * p) + (k)).toNat)))]) dX10_pens_294 rfl (by decide) rfl rfl ?_
                          refine pw_goto (tgt := 26) dX10_pens_297 rfl ?_
                          exact ih (k + 1) _ s23 h23 (by omega) (by omega) (by omega)  hA23 hk23 hr23 hF23
                      ·
                        refine pw_iload dX10_pens_190 rfl ?_
                        refine pw_bipush (v := zI (39)) dX10_pens_192 (by decide) ?_
                        refine pw_icmp_ne (tgt := 236) dX10_pens_194 rfl (by omega) (by omega) (fun c194 => ?_) (fun c194 => ?_)
                        ·
                          refine pw_iload dX10_pens_236 rfl ?_
                          refine pw_bipush (v := zI (40)) dX10_pens_238 (by decide) ?_
                          refine pw_icmp_lt (tgt := 250) dX10_pens_240 rfl (by omega) (by omega) (fun c240 => ?_) (fun c240 => ?_)
                          ·
                            refine pw_iload dX10_pens_250 rfl ?_
                            refine pw_bipush (v := zI (49)) dX10_pens_252 (by decide) ?_
                            refine pw_icmp_ne (tgt := 294) dX10_pens_254 rfl (by omega) (by omega) (fun c254 => ?_) (fun c254 => ?_)
                            ·
                              refine pw_ziinc (lv' := [some (.ref B), some (.int (zI (p))), some (.int (zI (mn))), some (.int (zI (k + 1))), some (.int (zI ((s1.2 36) ((4 * p) + (k)).toNat)))]) dX10_pens_294 rfl (by decide) rfl rfl ?_
                              refine pw_goto (tgt := 26) dX10_pens_297 rfl ?_
                              exact ih (k + 1) _ s1 h1 (by omega) (by omega) (by omega)  hA hk hr hF
                            ·
                              refine pw_aload_n dX10_pens_257 rfl ?_
                              refine pw_get (v := .ref (B + 22)) okX10 (k := 25) (by decide) lkX10_74 hA.1 rfl dX10_pens_258 ?_
                              refine pw_iload_n dX10_pens_261 rfl ?_
                              refine pw_aload_n dX10_pens_262 rfl ?_
                              refine pw_get (v := .ref (B + 22)) okX10 (k := 25) (by decide) lkX10_74 hA.1 rfl dX10_pens_263 ?_
                              refine pw_iload_n dX10_pens_266 rfl ?_
                              refine pw_iald (t := 0) rfl (mF25 hA) (by first | omega | exact mCell_b hp ko (by omega) (by omega) | exact mHis_b hp (by omega) (by omega)) (by decide) dX10_pens_267 ?_
                              refine pw_sipush (v := zI (-3841)) dX10_pens_268 (by decide) ?_
                              refine pw_iand dX10_pens_271 ?_
                              rw [zI_of (zI ((s1.2 25) (p).toNat) &&& zI (-3841))]
                              refine pw_iload dX10_pens_272 rfl ?_
                              refine pw_bipush (v := zI (49)) dX10_pens_274 (by decide) ?_
                              refine pw_icmp_ne (tgt := 283) dX10_pens_276 rfl (by omega) (by omega) (fun c276 => ?_) (fun c276 => ?_)
                              ·
                                refine pw_sipush (v := zI (256)) dX10_pens_283 (by decide) ?_
                                refine pw_iload dX10_pens_286 rfl ?_
                                refine pw_bipush (v := zI (39)) dX10_pens_288 (by decide) ?_
                                refine pw_zisub dX10_pens_290 ?_
                                refine pw_zimul dX10_pens_291 ?_
                                refine pw_ior dX10_pens_292 ?_
                                rw [zI_of (zI ((zI ((s1.2 25) (p).toNat) &&& zI (-3841)).toInt) ||| zI ((256) * (((s1.2 36) ((4 * p) + (k)).toNat) - (39))))]
                                refine pw_iast (t := 0) rfl (mF25 hA) (by first | omega | exact mCell_b hp ko (by omega) (by omega) | exact mHis_b hp (by omega) (by omega)) (by decide) dX10_pens_293 ?_
                                have hA24 : mAt B (mA 25 (va_up (s1.2 25) (p).toNat ((zI ((zI ((s1.2 25) (p).toNat) &&& zI (-3841)).toInt) ||| zI ((256) * (((s1.2 36) ((4 * p) + (k)).toNat) - (39)))).toInt)) s1) (va_up h1 (B + 22) (pz_z 0 8 (va_up (s1.2 25) (p).toNat ((zI ((zI ((s1.2 25) (p).toNat) &&& zI (-3841)).toInt) ||| zI ((256) * (((s1.2 36) ((4 * p) + (k)).toNat) - (39)))).toInt)))) := mU25 hA
                                have hk24 : mPk (mA 25 (va_up (s1.2 25) (p).toNat ((zI ((zI ((s1.2 25) (p).toNat) &&& zI (-3841)).toInt) ||| zI ((256) * (((s1.2 36) ((4 * p) + (k)).toNat) - (39)))).toInt)) s1) p.toNat := mPc hk (by decide)
                                have hr24 : mPr p.toNat s (mA 25 (va_up (s1.2 25) (p).toNat ((zI ((zI ((s1.2 25) (p).toNat) &&& zI (-3841)).toInt) ||| zI ((256) * (((s1.2 36) ((4 * p) + (k)).toNat) - (39)))).toInt)) s1) := mPr_tr hr (mPr_W (by decide) (by decide) (by decide))
                                have hF24 : mFr B h (va_up h1 (B + 22) (pz_z 0 8 (va_up (s1.2 25) (p).toNat ((zI ((zI ((s1.2 25) (p).toNat) &&& zI (-3841)).toInt) ||| zI ((256) * (((s1.2 36) ((4 * p) + (k)).toNat) - (39)))).toInt)))) := mFr_tr hF (mFr_up (by decide))
                                revert hA24 hk24 hr24 hF24 
                                generalize (mA 25 (va_up (s1.2 25) (p).toNat ((zI ((zI ((s1.2 25) (p).toNat) &&& zI (-3841)).toInt) ||| zI ((256) * (((s1.2 36) ((4 * p) + (k)).toNat) - (39)))).toInt)) s1) = s24
                                generalize (va_up h1 (B + 22) (pz_z 0 8 (va_up (s1.2 25) (p).toNat ((zI ((zI ((s1.2 25) (p).toNat) &&& zI (-3841)).toInt) ||| zI ((256) * (((s1.2 36) ((4 * p) + (k)).toNat) - (39)))).toInt)))) = h24
                                intro hA24 hk24 hr24 hF24 
                                obtain ⟨kw, kh, kr, kc, ksr, ksc, kt, ko, kwa, kin, kwr, khi, krd, knu, kgi, kas, kfr, kra, kco, kof, kip⟩ := id hk24
                                have e18 := congrFun (hr24.2.1 18 (by decide)) p.toNat
                                have e19 := congrFun (hr24.2.1 19 (by decide)) p.toNat
                                refine pw_ziinc (lv' := [some (.ref B), some (.int (zI (p))), some (.int (zI (mn))), some (.int (zI (k + 1))), some (.int (zI ((s1.2 36) ((4 * p) + (k)).toNat)))]) dX10_pens_294 rfl (by decide) rfl rfl ?_
                                refine pw_goto (tgt := 26) dX10_pens_297 rfl ?_
                                exact ih (k + 1) _ s24 h24 (by omega) (by omega) (by omega)  hA24 hk24 hr24 hF24
                              ·
                                refine pw_iconst (v := zI (0)) dX10_pens_279 (by decide) ?_
                                refine pw_goto (tgt := 292) dX10_pens_280 rfl ?_
                                refine pw_ior dX10_pens_292 ?_
                                rw [zI_of (zI ((zI ((s1.2 25) (p).toNat) &&& zI (-3841)).toInt) ||| zI (0))]
                                refine pw_iast (t := 0) rfl (mF25 hA) (by first | omega | exact mCell_b hp ko (by omega) (by omega) | exact mHis_b hp (by omega) (by omega)) (by decide) dX10_pens_293 ?_
                                have hA25 : mAt B (mA 25 (va_up (s1.2 25) (p).toNat ((zI ((zI ((s1.2 25) (p).toNat) &&& zI (-3841)).toInt) ||| zI (0)).toInt)) s1) (va_up h1 (B + 22) (pz_z 0 8 (va_up (s1.2 25) (p).toNat ((zI ((zI ((s1.2 25) (p).toNat) &&& zI (-3841)).toInt) ||| zI (0)).toInt)))) := mU25 hA
                                have hk25 : mPk (mA 25 (va_up (s1.2 25) (p).toNat ((zI ((zI ((s1.2 25) (p).toNat) &&& zI (-3841)).toInt) ||| zI (0)).toInt)) s1) p.toNat := mPc hk (by decide)
                                have hr25 : mPr p.toNat s (mA 25 (va_up (s1.2 25) (p).toNat ((zI ((zI ((s1.2 25) (p).toNat) &&& zI (-3841)).toInt) ||| zI (0)).toInt)) s1) := mPr_tr hr (mPr_W (by decide) (by decide) (by decide))
                                have hF25 : mFr B h (va_up h1 (B + 22) (pz_z 0 8 (va_up (s1.2 25) (p).toNat ((zI ((zI ((s1.2 25) (p).toNat) &&& zI (-3841)).toInt) ||| zI (0)).toInt)))) := mFr_tr hF (mFr_up (by decide))
                                revert hA25 hk25 hr25 hF25 
                                generalize (mA 25 (va_up (s1.2 25) (p).toNat ((zI ((zI ((s1.2 25) (p).toNat) &&& zI (-3841)).toInt) ||| zI (0)).toInt)) s1) = s25
                                generalize (va_up h1 (B + 22) (pz_z 0 8 (va_up (s1.2 25) (p).toNat ((zI ((zI ((s1.2 25) (p).toNat) &&& zI (-3841)).toInt) ||| zI (0)).toInt)))) = h25
                                intro hA25 hk25 hr25 hF25 
                                obtain ⟨kw, kh, kr, kc, ksr, ksc, kt, ko, kwa, kin, kwr, khi, krd, knu, kgi, kas, kfr, kra, kco, kof, kip⟩ := id hk25
                                have e18 := congrFun (hr25.2.1 18 (by decide)) p.toNat
                                have e19 := congrFun (hr25.2.1 19 (by decide)) p.toNat
                                refine pw_ziinc (lv' := [some (.ref B), some (.int (zI (p))), some (.int (zI (mn))), some (.int (zI (k + 1))), some (.int (zI ((s1.2 36) ((4 * p) + (k)).toNat)))]) dX10_pens_294 rfl (by decide) rfl rfl ?_
                                refine pw_goto (tgt := 26) dX10_pens_297 rfl ?_
                                exact ih (k + 1) _ s25 h25 (by omega) (by omega) (by omega)  hA25 hk25 hr25 hF25
                          ·
                            refine pw_iload dX10_pens_243 rfl ?_
                            refine pw_bipush (v := zI (47)) dX10_pens_245 (by decide) ?_
                            refine pw_icmp_le (tgt := 257) dX10_pens_247 rfl (by omega) (by omega) (fun c247 => ?_) (fun c247 => ?_)
                            ·
                              refine pw_aload_n dX10_pens_257 rfl ?_
                              refine pw_get (v := .ref (B + 22)) okX10 (k := 25) (by decide) lkX10_74 hA.1 rfl dX10_pens_258 ?_
                              refine pw_iload_n dX10_pens_261 rfl ?_
                              refine pw_aload_n dX10_pens_262 rfl ?_
                              refine pw_get (v := .ref (B + 22)) okX10 (k := 25) (by decide) lkX10_74 hA.1 rfl dX10_pens_263 ?_
                              refine pw_iload_n dX10_pens_266 rfl ?_
                              refine pw_iald (t := 0) rfl (mF25 hA) (by first | omega | exact mCell_b hp ko (by omega) (by omega) | exact mHis_b hp (by omega) (by omega)) (by decide) dX10_pens_267 ?_
                              refine pw_sipush (v := zI (-3841)) dX10_pens_268 (by decide) ?_
                              refine pw_iand dX10_pens_271 ?_
                              rw [zI_of (zI ((s1.2 25) (p).toNat) &&& zI (-3841))]
                              refine pw_iload dX10_pens_272 rfl ?_
                              refine pw_bipush (v := zI (49)) dX10_pens_274 (by decide) ?_
                              refine pw_icmp_ne (tgt := 283) dX10_pens_276 rfl (by omega) (by omega) (fun c276 => ?_) (fun c276 => ?_)
                              ·
                                refine pw_sipush (v := zI (256)) dX10_pens_283 (by decide) ?_
                                refine pw_iload dX10_pens_286 rfl ?_
                                refine pw_bipush (v := zI (39)) dX10_pens_288 (by decide) ?_
                                refine pw_zisub dX10_pens_290 ?_
                                refine pw_zimul dX10_pens_291 ?_
                                refine pw_ior dX10_pens_292 ?_
                                rw [zI_of (zI ((zI ((s1.2 25) (p).toNat) &&& zI (-3841)).toInt) ||| zI ((256) * (((s1.2 36) ((4 * p) + (k)).toNat) - (39))))]
                                refine pw_iast (t := 0) rfl (mF25 hA) (by first | omega | exact mCell_b hp ko (by omega) (by omega) | exact mHis_b hp (by omega) (by omega)) (by decide) dX10_pens_293 ?_
                                have hA26 : mAt B (mA 25 (va_up (s1.2 25) (p).toNat ((zI ((zI ((s1.2 25) (p).toNat) &&& zI (-3841)).toInt) ||| zI ((256) * (((s1.2 36) ((4 * p) + (k)).toNat) - (39)))).toInt)) s1) (va_up h1 (B + 22) (pz_z 0 8 (va_up (s1.2 25) (p).toNat ((zI ((zI ((s1.2 25) (p).toNat) &&& zI (-3841)).toInt) ||| zI ((256) * (((s1.2 36) ((4 * p) + (k)).toNat) - (39)))).toInt)))) := mU25 hA
                                have hk26 : mPk (mA 25 (va_up (s1.2 25) (p).toNat ((zI ((zI ((s1.2 25) (p).toNat) &&& zI (-3841)).toInt) ||| zI ((256) * (((s1.2 36) ((4 * p) + (k)).toNat) - (39)))).toInt)) s1) p.toNat := mPc hk (by decide)
                                have hr26 : mPr p.toNat s (mA 25 (va_up (s1.2 25) (p).toNat ((zI ((zI ((s1.2 25) (p).toNat) &&& zI (-3841)).toInt) ||| zI ((256) * (((s1.2 36) ((4 * p) + (k)).toNat) - (39)))).toInt)) s1) := mPr_tr hr (mPr_W (by decide) (by decide) (by decide))
                                have hF26 : mFr B h (va_up h1 (B + 22) (pz_z 0 8 (va_up (s1.2 25) (p).toNat ((zI ((zI ((s1.2 25) (p).toNat) &&& zI (-3841)).toInt) ||| zI ((256) * (((s1.2 36) ((4 * p) + (k)).toNat) - (39)))).toInt)))) := mFr_tr hF (mFr_up (by decide))
                                revert hA26 hk26 hr26 hF26 
                                generalize (mA 25 (va_up (s1.2 25) (p).toNat ((zI ((zI ((s1.2 25) (p).toNat) &&& zI (-3841)).toInt) ||| zI ((256) * (((s1.2 36) ((4 * p) + (k)).toNat) - (39)))).toInt)) s1) = s26
                                generalize (va_up h1 (B + 22) (pz_z 0 8 (va_up (s1.2 25) (p).toNat ((zI ((zI ((s1.2 25) (p).toNat) &&& zI (-3841)).toInt) ||| zI ((256) * (((s1.2 36) ((4 * p) + (k)).toNat) - (39)))).toInt)))) = h26
                                intro hA26 hk26 hr26 hF26 
                                obtain ⟨kw, kh, kr, kc, ksr, ksc, kt, ko, kwa, kin, kwr, khi, krd, knu, kgi, kas, kfr, kra, kco, kof, kip⟩ := id hk26
                                have e18 := congrFun (hr26.2.1 18 (by decide)) p.toNat
                                have e19 := congrFun (hr26.2.1 19 (by decide)) p.toNat
                                refine pw_ziinc (lv' := [some (.ref B), some (.int (zI (p))), some (.int (zI (mn))), some (.int (zI (k + 1))), some (.int (zI ((s1.2 36) ((4 * p) + (k)).toNat)))]) dX10_pens_294 rfl (by decide) rfl rfl ?_
                                refine pw_goto (tgt := 26) dX10_pens_297 rfl ?_
                                exact ih (k + 1) _ s26 h26 (by omega) (by omega) (by omega)  hA26 hk26 hr26 hF26
                              ·
                                refine pw_iconst (v := zI (0)) dX10_pens_279 (by decide) ?_
                                refine pw_goto (tgt := 292) dX10_pens_280 rfl ?_
                                refine pw_ior dX10_pens_292 ?_
                                rw [zI_of (zI ((zI ((s1.2 25) (p).toNat) &&& zI (-3841)).toInt) ||| zI (0))]
                                refine pw_iast (t := 0) rfl (mF25 hA) (by first | omega | exact mCell_b hp ko (by omega) (by omega) | exact mHis_b hp (by omega) (by omega)) (by decide) dX10_pens_293 ?_
                                have hA27 : mAt B (mA 25 (va_up (s1.2 25) (p).toNat ((zI ((zI ((s1.2 25) (p).toNat) &&& zI (-3841)).toInt) ||| zI (0)).toInt)) s1) (va_up h1 (B + 22) (pz_z 0 8 (va_up (s1.2 25) (p).toNat ((zI ((zI ((s1.2 25) (p).toNat) &&& zI (-3841)).toInt) ||| zI (0)).toInt)))) := mU25 hA
                                have hk27 : mPk (mA 25 (va_up (s1.2 25) (p).toNat ((zI ((zI ((s1.2 25) (p).toNat) &&& zI (-3841)).toInt) ||| zI (0)).toInt)) s1) p.toNat := mPc hk (by decide)
                                have hr27 : mPr p.toNat s (mA 25 (va_up (s1.2 25) (p).toNat ((zI ((zI ((s1.2 25) (p).toNat) &&& zI (-3841)).toInt) ||| zI (0)).toInt)) s1) := mPr_tr hr (mPr_W (by decide) (by decide) (by decide))
                                have hF27 : mFr B h (va_up h1 (B + 22) (pz_z 0 8 (va_up (s1.2 25) (p).toNat ((zI ((zI ((s1.2 25) (p).toNat) &&& zI (-3841)).toInt) ||| zI (0)).toInt)))) := mFr_tr hF (mFr_up (by decide))
                                revert hA27 hk27 hr27 hF27 
                                generalize (mA 25 (va_up (s1.2 25) (p).toNat ((zI ((zI ((s1.2 25) (p).toNat) &&& zI (-3841)).toInt) ||| zI (0)).toInt)) s1) = s27
                                generalize (va_up h1 (B + 22) (pz_z 0 8 (va_up (s1.2 25) (p).toNat ((zI ((zI ((s1.2 25) (p).toNat) &&& zI (-3841)).toInt) ||| zI (0)).toInt)))) = h27
                                intro hA27 hk27 hr27 hF27 
                                obtain ⟨kw, kh, kr, kc, ksr, ksc, kt, ko, kwa, kin, kwr, khi, krd, knu, kgi, kas, kfr, kra, kco, kof, kip⟩ := id hk27
                                have e18 := congrFun (hr27.2.1 18 (by decide)) p.toNat
                                have e19 := congrFun (hr27.2.1 19 (by decide)) p.toNat
                                refine pw_ziinc (lv' := [some (.ref B), some (.int (zI (p))), some (.int (zI (mn))), some (.int (zI (k + 1))), some (.int (zI ((s1.2 36) ((4 * p) + (k)).toNat)))]) dX10_pens_294 rfl (by decide) rfl rfl ?_
                                refine pw_goto (tgt := 26) dX10_pens_297 rfl ?_
                                exact ih (k + 1) _ s27 h27 (by omega) (by omega) (by omega)  hA27 hk27 hr27 hF27
                            ·
                              refine pw_iload dX10_pens_250 rfl ?_
                              refine pw_bipush (v := zI (49)) dX10_pens_252 (by decide) ?_
                              refine pw_icmp_ne (tgt := 294) dX10_pens_254 rfl (by omega) (by omega) (fun c254 => ?_) (fun c254 => ?_)
                              ·
                                refine pw_ziinc (lv' := [some (.ref B), some (.int (zI (p))), some (.int (zI (mn))), some (.int (zI (k + 1))), some (.int (zI ((s1.2 36) ((4 * p) + (k)).toNat)))]) dX10_pens_294 rfl (by decide) rfl rfl ?_
                                refine pw_goto (tgt := 26) dX10_pens_297 rfl ?_
                                exact ih (k + 1) _ s1 h1 (by omega) (by omega) (by omega)  hA hk hr hF
                              ·
                                refine pw_aload_n dX10_pens_257 rfl ?_
                                refine pw_get (v := .ref (B + 22)) okX10 (k := 25) (by decide) lkX10_74 hA.1 rfl dX10_pens_258 ?_
                                refine pw_iload_n dX10_pens_261 rfl ?_
                                refine pw_aload_n dX10_pens_262 rfl ?_
                                refine pw_get (v := .ref (B + 22)) okX10 (k := 25) (by decide) lkX10_74 hA.1 rfl dX10_pens_263 ?_
                                refine pw_iload_n dX10_pens_266 rfl ?_
                                refine pw_iald (t := 0) rfl (mF25 hA) (by first | omega | exact mCell_b hp ko (by omega) (by omega) | exact mHis_b hp (by omega) (by omega)) (by decide) dX10_pens_267 ?_
                                refine pw_sipush (v := zI (-3841)) dX10_pens_268 (by decide) ?_
                                refine pw_iand dX10_pens_271 ?_
                                rw [zI_of (zI ((s1.2 25) (p).toNat) &&& zI (-3841))]
                                refine pw_iload dX10_pens_272 rfl ?_
                                refine pw_bipush (v := zI (49)) dX10_pens_274 (by decide) ?_
                                refine pw_icmp_ne (tgt := 283) dX10_pens_276 rfl (by omega) (by omega) (fun c276 => ?_) (fun c276 => ?_)
                                ·
                                  refine pw_sipush (v := zI (256)) dX10_pens_283 (by decide) ?_
                                  refine pw_iload dX10_pens_286 rfl ?_
                                  refine pw_bipush (v := zI (39)) dX10_pens_288 (by decide) ?_
                                  refine pw_zisub dX10_pens_290 ?_
                                  refine pw_zimul dX10_pens_291 ?_
                                  refine pw_ior dX10_pens_292 ?_
                                  rw [zI_of (zI ((zI ((s1.2 25) (p).toNat) &&& zI (-3841)).toInt) ||| zI ((256) * (((s1.2 36) ((4 * p) + (k)).toNat) - (39))))]
                                  refine pw_iast (t := 0) rfl (mF25 hA) (by first | omega | exact mCell_b hp ko (by omega) (by omega) | exact mHis_b hp (by omega) (by omega)) (by decide) dX10_pens_293 ?_
                                  have hA28 : mAt B (mA 25 (va_up (s1.2 25) (p).toNat ((zI ((zI ((s1.2 25) (p).toNat) &&& zI (-3841)).toInt) ||| zI ((256) * (((s1.2 36) ((4 * p) + (k)).toNat) - (39)))).toInt)) s1) (va_up h1 (B + 22) (pz_z 0 8 (va_up (s1.2 25) (p).toNat ((zI ((zI ((s1.2 25) (p).toNat) &&& zI (-3841)).toInt) ||| zI ((256) * (((s1.2 36) ((4 * p) + (k)).toNat) - (39)))).toInt)))) := mU25 hA
                                  have hk28 : mPk (mA 25 (va_up (s1.2 25) (p).toNat ((zI ((zI ((s1.2 25) (p).toNat) &&& zI (-3841)).toInt) ||| zI ((256) * (((s1.2 36) ((4 * p) + (k)).toNat) - (39)))).toInt)) s1) p.toNat := mPc hk (by decide)
                                  have hr28 : mPr p.toNat s (mA 25 (va_up (s1.2 25) (p).toNat ((zI ((zI ((s1.2 25) (p).toNat) &&& zI (-3841)).toInt) ||| zI ((256) * (((s1.2 36) ((4 * p) + (k)).toNat) - (39)))).toInt)) s1) := mPr_tr hr (mPr_W (by decide) (by decide) (by decide))
                                  have hF28 : mFr B h (va_up h1 (B + 22) (pz_z 0 8 (va_up (s1.2 25) (p).toNat ((zI ((zI ((s1.2 25) (p).toNat) &&& zI (-3841)).toInt) ||| zI ((256) * (((s1.2 36) ((4 * p) + (k)).toNat) - (39)))).toInt)))) := mFr_tr hF (mFr_up (by decide))
                                  revert hA28 hk28 hr28 hF28 
                                  generalize (mA 25 (va_up (s1.2 25) (p).toNat ((zI ((zI ((s1.2 25) (p).toNat) &&& zI (-3841)).toInt) ||| zI ((256) * (((s1.2 36) ((4 * p) + (k)).toNat) - (39)))).toInt)) s1) = s28
                                  generalize (va_up h1 (B + 22) (pz_z 0 8 (va_up (s1.2 25) (p).toNat ((zI ((zI ((s1.2 25) (p).toNat) &&& zI (-3841)).toInt) ||| zI ((256) * (((s1.2 36) ((4 * p) + (k)).toNat) - (39)))).toInt)))) = h28
                                  intro hA28 hk28 hr28 hF28 
                                  obtain ⟨kw, kh, kr, kc, ksr, ksc, kt, ko, kwa, kin, kwr, khi, krd, knu, kgi, kas, kfr, kra, kco, kof, kip⟩ := id hk28
                                  have e18 := congrFun (hr28.2.1 18 (by decide)) p.toNat
                                  have e19 := congrFun (hr28.2.1 19 (by decide)) p.toNat
                                  refine pw_ziinc (lv' := [some (.ref B), some (.int (zI (p))), some (.int (zI (mn))), some (.int (zI (k + 1))), some (.int (zI ((s1.2 36) ((4 * p) + (k)).toNat)))]) dX10_pens_294 rfl (by decide) rfl rfl ?_
                                  refine pw_goto (tgt := 26) dX10_pens_297 rfl ?_
                                  exact ih (k + 1) _ s28 h28 (by omega) (by omega) (by omega)  hA28 hk28 hr28 hF28
                                ·
                                  refine pw_iconst (v := zI (0)) dX10_pens_279 (by decide) ?_
                                  refine pw_goto (tgt := 292) dX10_pens_280 rfl ?_
                                  refine pw_ior dX10_pens_292 ?_
                                  rw [zI_of (zI ((zI ((s1.2 25) (p).toNat) &&& zI (-3841)).toInt) ||| zI (0))]
                                  refine pw_iast (t := 0) rfl (mF25 hA) (by first | omega | exact mCell_b hp ko (by omega) (by omega) | exact mHis_b hp (by omega) (by omega)) (by decide) dX10_pens_293 ?_
                                  have hA29 : mAt B (mA 25 (va_up (s1.2 25) (p).toNat ((zI ((zI ((s1.2 25) (p).toNat) &&& zI (-3841)).toInt) ||| zI (0)).toInt)) s1) (va_up h1 (B + 22) (pz_z 0 8 (va_up (s1.2 25) (p).toNat ((zI ((zI ((s1.2 25) (p).toNat) &&& zI (-3841)).toInt) ||| zI (0)).toInt)))) := mU25 hA
                                  have hk29 : mPk (mA 25 (va_up (s1.2 25) (p).toNat ((zI ((zI ((s1.2 25) (p).toNat) &&& zI (-3841)).toInt) ||| zI (0)).toInt)) s1) p.toNat := mPc hk (by decide)
                                  have hr29 : mPr p.toNat s (mA 25 (va_up (s1.2 25) (p).toNat ((zI ((zI ((s1.2 25) (p).toNat) &&& zI (-3841)).toInt) ||| zI (0)).toInt)) s1) := mPr_tr hr (mPr_W (by decide) (by decide) (by decide))
                                  have hF29 : mFr B h (va_up h1 (B + 22) (pz_z 0 8 (va_up (s1.2 25) (p).toNat ((zI ((zI ((s1.2 25) (p).toNat) &&& zI (-3841)).toInt) ||| zI (0)).toInt)))) := mFr_tr hF (mFr_up (by decide))
                                  revert hA29 hk29 hr29 hF29 
                                  generalize (mA 25 (va_up (s1.2 25) (p).toNat ((zI ((zI ((s1.2 25) (p).toNat) &&& zI (-3841)).toInt) ||| zI (0)).toInt)) s1) = s29
                                  generalize (va_up h1 (B + 22) (pz_z 0 8 (va_up (s1.2 25) (p).toNat ((zI ((zI ((s1.2 25) (p).toNat) &&& zI (-3841)).toInt) ||| zI (0)).toInt)))) = h29
                                  intro hA29 hk29 hr29 hF29 
                                  obtain ⟨kw, kh, kr, kc, ksr, ksc, kt, ko, kwa, kin, kwr, khi, krd, knu, kgi, kas, kfr, kra, kco, kof, kip⟩ := id hk29
                                  have e18 := congrFun (hr29.2.1 18 (by decide)) p.toNat
                                  have e19 := congrFun (hr29.2.1 19 (by decide)) p.toNat
                                  refine pw_ziinc (lv' := [some (.ref B), some (.int (zI (p))), some (.int (zI (mn))), some (.int (zI (k + 1))), some (.int (zI ((s1.2 36) ((4 * p) + (k)).toNat)))]) dX10_pens_294 rfl (by decide) rfl rfl ?_
                                  refine pw_goto (tgt := 26) dX10_pens_297 rfl ?_
                                  exact ih (k + 1) _ s29 h29 (by omega) (by omega) (by omega)  hA29 hk29 hr29 hF29
                        ·
                          refine pw_aload_n dX10_pens_197 rfl ?_
                          refine pw_get (v := .ref (B + 22)) okX10 (k := 25) (by decide) lkX10_74 hA.1 rfl dX10_pens_198 ?_
                          refine pw_iload_n dX10_pens_201 rfl ?_
                          refine pw_aload_n dX10_pens_202 rfl ?_
                          refine pw_get (v := .ref (B + 22)) okX10 (k := 25) (by decide) lkX10_74 hA.1 rfl dX10_pens_203 ?_
                          refine pw_iload_n dX10_pens_206 rfl ?_
                          refine pw_iald (t := 0) rfl (mF25 hA) (by first | omega | exact mCell_b hp ko (by omega) (by omega) | exact mHis_b hp (by omega) (by omega)) (by decide) dX10_pens_207 ?_
                          refine pw_sipush (v := zI (-241)) dX10_pens_208 (by decide) ?_
                          refine pw_iand dX10_pens_211 ?_
                          rw [zI_of (zI ((s1.2 25) (p).toNat) &&& zI (-241))]
                          refine pw_iload dX10_pens_212 rfl ?_
                          refine pw_bipush (v := zI (39)) dX10_pens_214 (by decide) ?_
                          refine pw_icmp_ne (tgt := 223) dX10_pens_216 rfl (by omega) (by omega) (fun c216 => ?_) (fun c216 => ?_)
                          ·
                            refine pw_bipush (v := zI (16)) dX10_pens_223 (by decide) ?_
                            refine pw_iload dX10_pens_225 rfl ?_
                            refine pw_bipush (v := zI (29)) dX10_pens_227 (by decide) ?_
                            refine pw_zisub dX10_pens_229 ?_
                            refine pw_zimul dX10_pens_230 ?_
                            refine pw_ior dX10_pens_231 ?_
                            rw [zI_of (zI ((zI ((s1.2 25) (p).toNat) &&& zI (-241)).toInt) ||| zI ((16) * (((s1.2 36) ((4 * p) + (k)).toNat) - (29))))]
                            refine pw_iast (t := 0) rfl (mF25 hA) (by first | omega | exact mCell_b hp ko (by omega) (by omega) | exact mHis_b hp (by omega) (by omega)) (by decide) dX10_pens_232 ?_
                            have hA30 : mAt B (mA 25 (va_up (s1.2 25) (p).toNat ((zI ((zI ((s1.2 25) (p).toNat) &&& zI (-241)).toInt) ||| zI ((16) * (((s1.2 36) ((4 * p) + (k)).toNat) - (29)))).toInt)) s1) (va_up h1 (B + 22) (pz_z 0 8 (va_up (s1.2 25) (p).toNat ((zI ((zI ((s1.2 25) (p).toNat) &&& zI (-241)).toInt) ||| zI ((16) * (((s1.2 36) ((4 * p) + (k)).toNat) - (29)))).toInt)))) := mU25 hA
                            have hk30 : mPk (mA 25 (va_up (s1.2 25) (p).toNat ((zI ((zI ((s1.2 25) (p).toNat) &&& zI (-241)).toInt) ||| zI ((16) * (((s1.2 36) ((4 * p) + (k)).toNat) - (29)))).toInt)) s1) p.toNat := mPc hk (by decide)
                            have hr30 : mPr p.toNat s (mA 25 (va_up (s1.2 25) (p).toNat ((zI ((zI ((s1.2 25) (p).toNat) &&& zI (-241)).toInt) ||| zI ((16) * (((s1.2 36) ((4 * p) + (k)).toNat) - (29)))).toInt)) s1) := mPr_tr hr (mPr_W (by decide) (by decide) (by decide))
                            have hF30 : mFr B h (va_up h1 (B + 22) (pz_z 0 8 (va_up (s1.2 25) (p).toNat ((zI ((zI ((s1.2 25) (p).toNat) &&& zI (-241)).toInt) ||| zI ((16) * (((s1.2 36) ((4 * p) + (k)).toNat) - (29)))).toInt)))) := mFr_tr hF (mFr_up (by decide))
                            revert hA30 hk30 hr30 hF30 
                            generalize (mA 25 (va_up (s1.2 25) (p).toNat ((zI ((zI ((s1.2 25) (p).toNat) &&& zI (-241)).toInt) ||| zI ((16) * (((s1.2 36) ((4 * p) + (k)).toNat) - (29)))).toInt)) s1) = s30
                            generalize (va_up h1 (B + 22) (pz_z 0 8 (va_up (s1.2 25) (p).toNat ((zI ((zI ((s1.2 25) (p).toNat) &&& zI (-241)).toInt) ||| zI ((16) * (((s1.2 36) ((4 * p) + (k)).toNat) - (29)))).toInt)))) = h30
                            intro hA30 hk30 hr30 hF30 
                            obtain ⟨kw, kh, kr, kc, ksr, ksc, kt, ko, kwa, kin, kwr, khi, krd, knu, kgi, kas, kfr, kra, kco, kof, kip⟩ := id hk30
                            have e18 := congrFun (hr30.2.1 18 (by decide)) p.toNat
                            have e19 := congrFun (hr30.2.1 19 (by decide)) p.toNat
                            refine pw_goto (tgt := 294) dX10_pens_233 rfl ?_
                            refine pw_ziinc (lv' := [some (.ref B), some (.int (zI (p))), some (.int (zI (mn))), some (.int (zI (k + 1))), some (.int (zI ((s1.2 36) ((4 * p) + (k)).toNat)))]) dX10_pens_294 rfl (by decide) rfl rfl ?_
                            refine pw_goto (tgt := 26) dX10_pens_297 rfl ?_
                            exact ih (k + 1) _ s30 h30 (by omega) (by omega) (by omega)  hA30 hk30 hr30 hF30
                          ·
                            refine pw_iconst (v := zI (0)) dX10_pens_219 (by decide) ?_
                            refine pw_goto (tgt := 231) dX10_pens_220 rfl ?_
                            refine pw_ior dX10_pens_231 ?_
                            rw [zI_of (zI ((zI ((s1.2 25) (p).toNat) &&& zI (-241)).toInt) ||| zI (0))]
                            refine pw_iast (t := 0) rfl (mF25 hA) (by first | omega | exact mCell_b hp ko (by omega) (by omega) | exact mHis_b hp (by omega) (by omega)) (by decide) dX10_pens_232 ?_
                            have hA31 : mAt B (mA 25 (va_up (s1.2 25) (p).toNat ((zI ((zI ((s1.2 25) (p).toNat) &&& zI (-241)).toInt) ||| zI (0)).toInt)) s1) (va_up h1 (B + 22) (pz_z 0 8 (va_up (s1.2 25) (p).toNat ((zI ((zI ((s1.2 25) (p).toNat) &&& zI (-241)).toInt) ||| zI (0)).toInt)))) := mU25 hA
                            have hk31 : mPk (mA 25 (va_up (s1.2 25) (p).toNat ((zI ((zI ((s1.2 25) (p).toNat) &&& zI (-241)).toInt) ||| zI (0)).toInt)) s1) p.toNat := mPc hk (by decide)
                            have hr31 : mPr p.toNat s (mA 25 (va_up (s1.2 25) (p).toNat ((zI ((zI ((s1.2 25) (p).toNat) &&& zI (-241)).toInt) ||| zI (0)).toInt)) s1) := mPr_tr hr (mPr_W (by decide) (by decide) (by decide))
                            have hF31 : mFr B h (va_up h1 (B + 22) (pz_z 0 8 (va_up (s1.2 25) (p).toNat ((zI ((zI ((s1.2 25) (p).toNat) &&& zI (-241)).toInt) ||| zI (0)).toInt)))) := mFr_tr hF (mFr_up (by decide))
                            revert hA31 hk31 hr31 hF31 
                            generalize (mA 25 (va_up (s1.2 25) (p).toNat ((zI ((zI ((s1.2 25) (p).toNat) &&& zI (-241)).toInt) ||| zI (0)).toInt)) s1) = s31
                            generalize (va_up h1 (B + 22) (pz_z 0 8 (va_up (s1.2 25) (p).toNat ((zI ((zI ((s1.2 25) (p).toNat) &&& zI (-241)).toInt) ||| zI (0)).toInt)))) = h31
                            intro hA31 hk31 hr31 hF31 
                            obtain ⟨kw, kh, kr, kc, ksr, ksc, kt, ko, kwa, kin, kwr, khi, krd, knu, kgi, kas, kfr, kra, kco, kof, kip⟩ := id hk31
                            have e18 := congrFun (hr31.2.1 18 (by decide)) p.toNat
                            have e19 := congrFun (hr31.2.1 19 (by decide)) p.toNat
                            refine pw_goto (tgt := 294) dX10_pens_233 rfl ?_
                            refine pw_ziinc (lv' := [some (.ref B), some (.int (zI (p))), some (.int (zI (mn))), some (.int (zI (k + 1))), some (.int (zI ((s1.2 36) ((4 * p) + (k)).toNat)))]) dX10_pens_294 rfl (by decide) rfl rfl ?_
                            refine pw_goto (tgt := 26) dX10_pens_297 rfl ?_
                            exact ih (k + 1) _ s31 h31 (by omega) (by omega) (by omega)  hA31 hk31 hr31 hF31
                  ·
                    refine pw_aload_n dX10_pens_135 rfl ?_
                    refine pw_get (v := .ref (B + 22)) okX10 (k := 25) (by decide) lkX10_74 hA.1 rfl dX10_pens_136 ?_
                    refine pw_iload_n dX10_pens_139 rfl ?_
                    refine pw_aload_n dX10_pens_140 rfl ?_
                    refine pw_get (v := .ref (B + 22)) okX10 (k := 25) (by decide) lkX10_74 hA.1 rfl dX10_pens_141 ?_
                    refine pw_iload_n dX10_pens_144 rfl ?_
                    refine pw_iald (t := 0) rfl (mF25 hA) (by first | omega | exact mCell_b hp ko (by omega) (by omega) | exact mHis_b hp (by omega) (by omega)) (by decide) dX10_pens_145 ?_
                    refine pw_iload dX10_pens_146 rfl ?_
                    refine pw_bipush (v := zI (22)) dX10_pens_148 (by decide) ?_
                    refine pw_icmp_ne (tgt := 157) dX10_pens_150 rfl (by omega) (by omega) (fun c150 => ?_) (fun c150 => ?_)
                    ·
                      refine pw_iload dX10_pens_157 rfl ?_
                      refine pw_bipush (v := zI (24)) dX10_pens_159 (by decide) ?_
                      refine pw_icmp_ne (tgt := 168) dX10_pens_161 rfl (by omega) (by omega) (fun c161 => ?_) (fun c161 => ?_)
                      ·
                        refine pw_iconst (v := zI (4)) dX10_pens_168 (by decide) ?_
                        refine pw_iconst (v := zI (-1)) dX10_pens_169 (by decide) ?_
                        refine pw_ixor dX10_pens_170 ?_
                        rw [zI_of (zI (4) ^^^ zI (-1))]
                        refine pw_iand dX10_pens_171 ?_
                        rw [zI_of (zI ((s1.2 25) (p).toNat) &&& zI ((zI (4) ^^^ zI (-1)).toInt))]
                        refine pw_iast (t := 0) rfl (mF25 hA) (by first | omega | exact mCell_b hp ko (by omega) (by omega) | exact mHis_b hp (by omega) (by omega)) (by decide) dX10_pens_172 ?_
                        have hA32 : mAt B (mA 25 (va_up (s1.2 25) (p).toNat ((zI ((s1.2 25) (p).toNat) &&& zI ((zI (4) ^^^ zI (-1)).toInt)).toInt)) s1) (va_up h1 (B + 22) (pz_z 0 8 (va_up (s1.2 25) (p).toNat ((zI ((s1.2 25) (p).toNat) &&& zI ((zI (4) ^^^ zI (-1)).toInt)).toInt)))) := mU25 hA
                        have hk32 : mPk (mA 25 (va_up (s1.2 25) (p).toNat ((zI ((s1.2 25) (p).toNat) &&& zI ((zI (4) ^^^ zI (-1)).toInt)).toInt)) s1) p.toNat := mPc hk (by decide)
                        have hr32 : mPr p.toNat s (mA 25 (va_up (s1.2 25) (p).toNat ((zI ((s1.2 25) (p).toNat) &&& zI ((zI (4) ^^^ zI (-1)).toInt)).toInt)) s1) := mPr_tr hr (mPr_W (by decide) (by decide) (by decide))
                        have hF32 : mFr B h (va_up h1 (B + 22) (pz_z 0 8 (va_up (s1.2 25) (p).toNat ((zI ((s1.2 25) (p).toNat) &&& zI ((zI (4) ^^^ zI (-1)).toInt)).toInt)))) := mFr_tr hF (mFr_up (by decide))
                        revert hA32 hk32 hr32 hF32 
                        generalize (mA 25 (va_up (s1.2 25) (p).toNat ((zI ((s1.2 25) (p).toNat) &&& zI ((zI (4) ^^^ zI (-1)).toInt)).toInt)) s1) = s32
                        generalize (va_up h1 (B + 22) (pz_z 0 8 (va_up (s1.2 25) (p).toNat ((zI ((s1.2 25) (p).toNat) &&& zI ((zI (4) ^^^ zI (-1)).toInt)).toInt)))) = h32
                        intro hA32 hk32 hr32 hF32 
                        obtain ⟨kw, kh, kr, kc, ksr, ksc, kt, ko, kwa, kin, kwr, khi, krd, knu, kgi, kas, kfr, kra, kco, kof, kip⟩ := id hk32
                        have e18 := congrFun (hr32.2.1 18 (by decide)) p.toNat
                        have e19 := congrFun (hr32.2.1 19 (by decide)) p.toNat
                        refine pw_goto (tgt := 294) dX10_pens_173 rfl ?_
                        refine pw_ziinc (lv' := [some (.ref B), some (.int (zI (p))), some (.int (zI (mn))), some (.int (zI (k + 1))), some (.int (zI ((s1.2 36) ((4 * p) + (k)).toNat)))]) dX10_pens_294 rfl (by decide) rfl rfl ?_
                        refine pw_goto (tgt := 26) dX10_pens_297 rfl ?_
                        exact ih (k + 1) _ s32 h32 (by omega) (by omega) (by omega)  hA32 hk32 hr32 hF32
                      ·
                        refine pw_iconst (v := zI (2)) dX10_pens_164 (by decide) ?_
                        refine pw_goto (tgt := 169) dX10_pens_165 rfl ?_
                        refine pw_iconst (v := zI (-1)) dX10_pens_169 (by decide) ?_
                        refine pw_ixor dX10_pens_170 ?_
                        rw [zI_of (zI (2) ^^^ zI (-1))]
                        refine pw_iand dX10_pens_171 ?_
                        rw [zI_of (zI ((s1.2 25) (p).toNat) &&& zI ((zI (2) ^^^ zI (-1)).toInt))]
                        refine pw_iast (t := 0) rfl (mF25 hA) (by first | omega | exact mCell_b hp ko (by omega) (by omega) | exact mHis_b hp (by omega) (by omega)) (by decide) dX10_pens_172 ?_
                        have hA33 : mAt B (mA 25 (va_up (s1.2 25) (p).toNat ((zI ((s1.2 25) (p).toNat) &&& zI ((zI (2) ^^^ zI (-1)).toInt)).toInt)) s1) (va_up h1 (B + 22) (pz_z 0 8 (va_up (s1.2 25) (p).toNat ((zI ((s1.2 25) (p).toNat) &&& zI ((zI (2) ^^^ zI (-1)).toInt)).toInt)))) := mU25 hA
                        have hk33 : mPk (mA 25 (va_up (s1.2 25) (p).toNat ((zI ((s1.2 25) (p).toNat) &&& zI ((zI (2) ^^^ zI (-1)).toInt)).toInt)) s1) p.toNat := mPc hk (by decide)
                        have hr33 : mPr p.toNat s (mA 25 (va_up (s1.2 25) (p).toNat ((zI ((s1.2 25) (p).toNat) &&& zI ((zI (2) ^^^ zI (-1)).toInt)).toInt)) s1) := mPr_tr hr (mPr_W (by decide) (by decide) (by decide))
                        have hF33 : mFr B h (va_up h1 (B + 22) (pz_z 0 8 (va_up (s1.2 25) (p).toNat ((zI ((s1.2 25) (p).toNat) &&& zI ((zI (2) ^^^ zI (-1)).toInt)).toInt)))) := mFr_tr hF (mFr_up (by decide))
                        revert hA33 hk33 hr33 hF33 
                        generalize (mA 25 (va_up (s1.2 25) (p).toNat ((zI ((s1.2 25) (p).toNat) &&& zI ((zI (2) ^^^ zI (-1)).toInt)).toInt)) s1) = s33
                        generalize (va_up h1 (B + 22) (pz_z 0 8 (va_up (s1.2 25) (p).toNat ((zI ((s1.2 25) (p).toNat) &&& zI ((zI (2) ^^^ zI (-1)).toInt)).toInt)))) = h33
                        intro hA33 hk33 hr33 hF33 
                        obtain ⟨kw, kh, kr, kc, ksr, ksc, kt, ko, kwa, kin, kwr, khi, krd, knu, kgi, kas, kfr, kra, kco, kof, kip⟩ := id hk33
                        have e18 := congrFun (hr33.2.1 18 (by decide)) p.toNat
                        have e19 := congrFun (hr33.2.1 19 (by decide)) p.toNat
                        refine pw_goto (tgt := 294) dX10_pens_173 rfl ?_
                        refine pw_ziinc (lv' := [some (.ref B), some (.int (zI (p))), some (.int (zI (mn))), some (.int (zI (k + 1))), some (.int (zI ((s1.2 36) ((4 * p) + (k)).toNat)))]) dX10_pens_294 rfl (by decide) rfl rfl ?_
                        refine pw_goto (tgt := 26) dX10_pens_297 rfl ?_
                        exact ih (k + 1) _ s33 h33 (by omega) (by omega) (by omega)  hA33 hk33 hr33 hF33
                    ·
                      refine pw_iconst (v := zI (1)) dX10_pens_153 (by decide) ?_
                      refine pw_goto (tgt := 169) dX10_pens_154 rfl ?_
                      refine pw_iconst (v := zI (-1)) dX10_pens_169 (by decide) ?_
                      refine pw_ixor dX10_pens_170 ?_
                      rw [zI_of (zI (1) ^^^ zI (-1))]
                      refine pw_iand dX10_pens_171 ?_
                      rw [zI_of (zI ((s1.2 25) (p).toNat) &&& zI ((zI (1) ^^^ zI (-1)).toInt))]
                      refine pw_iast (t := 0) rfl (mF25 hA) (by first | omega | exact mCell_b hp ko (by omega) (by omega) | exact mHis_b hp (by omega) (by omega)) (by decide) dX10_pens_172 ?_
                      have hA34 : mAt B (mA 25 (va_up (s1.2 25) (p).toNat ((zI ((s1.2 25) (p).toNat) &&& zI ((zI (1) ^^^ zI (-1)).toInt)).toInt)) s1) (va_up h1 (B + 22) (pz_z 0 8 (va_up (s1.2 25) (p).toNat ((zI ((s1.2 25) (p).toNat) &&& zI ((zI (1) ^^^ zI (-1)).toInt)).toInt)))) := mU25 hA
                      have hk34 : mPk (mA 25 (va_up (s1.2 25) (p).toNat ((zI ((s1.2 25) (p).toNat) &&& zI ((zI (1) ^^^ zI (-1)).toInt)).toInt)) s1) p.toNat := mPc hk (by decide)
                      have hr34 : mPr p.toNat s (mA 25 (va_up (s1.2 25) (p).toNat ((zI ((s1.2 25) (p).toNat) &&& zI ((zI (1) ^^^ zI (-1)).toInt)).toInt)) s1) := mPr_tr hr (mPr_W (by decide) (by decide) (by decide))
                      have hF34 : mFr B h (va_up h1 (B + 22) (pz_z 0 8 (va_up (s1.2 25) (p).toNat ((zI ((s1.2 25) (p).toNat) &&& zI ((zI (1) ^^^ zI (-1)).toInt)).toInt)))) := mFr_tr hF (mFr_up (by decide))
                      revert hA34 hk34 hr34 hF34 
                      generalize (mA 25 (va_up (s1.2 25) (p).toNat ((zI ((s1.2 25) (p).toNat) &&& zI ((zI (1) ^^^ zI (-1)).toInt)).toInt)) s1) = s34
                      generalize (va_up h1 (B + 22) (pz_z 0 8 (va_up (s1.2 25) (p).toNat ((zI ((s1.2 25) (p).toNat) &&& zI ((zI (1) ^^^ zI (-1)).toInt)).toInt)))) = h34
                      intro hA34 hk34 hr34 hF34 
                      obtain ⟨kw, kh, kr, kc, ksr, ksc, kt, ko, kwa, kin, kwr, khi, krd, knu, kgi, kas, kfr, kra, kco, kof, kip⟩ := id hk34
                      have e18 := congrFun (hr34.2.1 18 (by decide)) p.toNat
                      have e19 := congrFun (hr34.2.1 19 (by decide)) p.toNat
                      refine pw_goto (tgt := 294) dX10_pens_173 rfl ?_
                      refine pw_ziinc (lv' := [some (.ref B), some (.int (zI (p))), some (.int (zI (mn))), some (.int (zI (k + 1))), some (.int (zI ((s1.2 36) ((4 * p) + (k)).toNat)))]) dX10_pens_294 rfl (by decide) rfl rfl ?_
                      refine pw_goto (tgt := 26) dX10_pens_297 rfl ?_
                      exact ih (k + 1) _ s34 h34 (by omega) (by omega) (by omega)  hA34 hk34 hr34 hF34
            ·
              refine pw_aload_n dX10_pens_77 rfl ?_
              refine pw_get (v := .ref (B + 22)) okX10 (k := 25) (by decide) lkX10_74 hA.1 rfl dX10_pens_78 ?_
              refine pw_iload_n dX10_pens_81 rfl ?_
              refine pw_aload_n dX10_pens_82 rfl ?_
              refine pw_get (v := .ref (B + 22)) okX10 (k := 25) (by decide) lkX10_74 hA.1 rfl dX10_pens_83 ?_
              refine pw_iload_n dX10_pens_86 rfl ?_
              refine pw_iald (t := 0) rfl (mF25 hA) (by first | omega | exact mCell_b hp ko (by omega) (by omega) | exact mHis_b hp (by omega) (by omega)) (by decide) dX10_pens_87 ?_
              refine pw_iload dX10_pens_88 rfl ?_
              refine pw_iconst (v := zI (1)) dX10_pens_90 (by decide) ?_
              refine pw_icmp_ne (tgt := 98) dX10_pens_91 rfl (by omega) (by omega) (fun c91 => ?_) (fun c91 => ?_)
              ·
                refine pw_iload dX10_pens_98 rfl ?_
                refine pw_iconst (v := zI (4)) dX10_pens_100 (by decide) ?_
                refine pw_icmp_ne (tgt := 108) dX10_pens_101 rfl (by omega) (by omega) (fun c101 => ?_) (fun c101 => ?_)
                ·
                  refine pw_iconst (v := zI (4)) dX10_pens_108 (by decide) ?_
                  refine pw_ior dX10_pens_109 ?_
                  rw [zI_of (zI ((s1.2 25) (p).toNat) ||| zI (4))]
                  refine pw_iast (t := 0) rfl (mF25 hA) (by first | omega | exact mCell_b hp ko (by omega) (by omega) | exact mHis_b hp (by omega) (by omega)) (by decide) dX10_pens_110 ?_
                  have hA35 : mAt B (mA 25 (va_up (s1.2 25) (p).toNat ((zI ((s1.2 25) (p).toNat) ||| zI (4)).toInt)) s1) (va_up h1 (B + 22) (pz_z 0 8 (va_up (s1.2 25) (p).toNat ((zI ((s1.2 25) (p).toNat) ||| zI (4)).toInt)))) := mU25 hA
                  have hk35 : mPk (mA 25 (va_up (s1.2 25) (p).toNat ((zI ((s1.2 25) (p).toNat) ||| zI (4)).toInt)) s1) p.toNat := mPc hk (by decide)
                  have hr35 : mPr p.toNat s (mA 25 (va_up (s1.2 25) (p).toNat ((zI ((s1.2 25) (p).toNat) ||| zI (4)).toInt)) s1) := mPr_tr hr (mPr_W (by decide) (by decide) (by decide))
                  have hF35 : mFr B h (va_up h1 (B + 22) (pz_z 0 8 (va_up (s1.2 25) (p).toNat ((zI ((s1.2 25) (p).toNat) ||| zI (4)).toInt)))) := mFr_tr hF (mFr_up (by decide))
                  revert hA35 hk35 hr35 hF35 
                  generalize (mA 25 (va_up (s1.2 25) (p).toNat ((zI ((s1.2 25) (p).toNat) ||| zI (4)).toInt)) s1) = s35
                  generalize (va_up h1 (B + 22) (pz_z 0 8 (va_up (s1.2 25) (p).toNat ((zI ((s1.2 25) (p).toNat) ||| zI (4)).toInt)))) = h35
                  intro hA35 hk35 hr35 hF35 
                  obtain ⟨kw, kh, kr, kc, ksr, ksc, kt, ko, kwa, kin, kwr, khi, krd, knu, kgi, kas, kfr, kra, kco, kof, kip⟩ := id hk35
                  have e18 := congrFun (hr35.2.1 18 (by decide)) p.toNat
                  have e19 := congrFun (hr35.2.1 19 (by decide)) p.toNat
                  refine pw_goto (tgt := 294) dX10_pens_111 rfl ?_
                  refine pw_ziinc (lv' := [some (.ref B), some (.int (zI (p))), some (.int (zI (mn))), some (.int (zI (k + 1))), some (.int (zI ((s1.2 36) ((4 * p) + (k)).toNat)))]) dX10_pens_294 rfl (by decide) rfl rfl ?_
                  refine pw_goto (tgt := 26) dX10_pens_297 rfl ?_
                  exact ih (k + 1) _ s35 h35 (by omega) (by omega) (by omega)  hA35 hk35 hr35 hF35
                ·
                  refine pw_iconst (v := zI (2)) dX10_pens_104 (by decide) ?_
                  refine pw_goto (tgt := 109) dX10_pens_105 rfl ?_
                  refine pw_ior dX10_pens_109 ?_
                  rw [zI_of (zI ((s1.2 25) (p).toNat) ||| zI (2))]
                  refine pw_iast (t := 0) rfl (mF25 hA) (by first | omega | exact mCell_b hp ko (by omega) (by omega) | exact mHis_b hp (by omega) (by omega)) (by decide) dX10_pens_110 ?_
                  have hA36 : mAt B (mA 25 (va_up (s1.2 25) (p).toNat ((zI ((s1.2 25) (p).toNat) ||| zI (2)).toInt)) s1) (va_up h1 (B + 22) (pz_z 0 8 (va_up (s1.2 25) (p).toNat ((zI ((s1.2 25) (p).toNat) ||| zI (2)).toInt)))) := mU25 hA
                  have hk36 : mPk (mA 25 (va_up (s1.2 25) (p).toNat ((zI ((s1.2 25) (p).toNat) ||| zI (2)).toInt)) s1) p.toNat := mPc hk (by decide)
                  have hr36 : mPr p.toNat s (mA 25 (va_up (s1.2 25) (p).toNat ((zI ((s1.2 25) (p).toNat) ||| zI (2)).toInt)) s1) := mPr_tr hr (mPr_W (by decide) (by decide) (by decide))
                  have hF36 : mFr B h (va_up h1 (B + 22) (pz_z 0 8 (va_up (s1.2 25) (p).toNat ((zI ((s1.2 25) (p).toNat) ||| zI (2)).toInt)))) := mFr_tr hF (mFr_up (by decide))
                  revert hA36 hk36 hr36 hF36 
                  generalize (mA 25 (va_up (s1.2 25) (p).toNat ((zI ((s1.2 25) (p).toNat) ||| zI (2)).toInt)) s1) = s36
                  generalize (va_up h1 (B + 22) (pz_z 0 8 (va_up (s1.2 25) (p).toNat ((zI ((s1.2 25) (p).toNat) ||| zI (2)).toInt)))) = h36
                  intro hA36 hk36 hr36 hF36 
                  obtain ⟨kw, kh, kr, kc, ksr, ksc, kt, ko, kwa, kin, kwr, khi, krd, knu, kgi, kas, kfr, kra, kco, kof, kip⟩ := id hk36
                  have e18 := congrFun (hr36.2.1 18 (by decide)) p.toNat
                  have e19 := congrFun (hr36.2.1 19 (by decide)) p.toNat
                  refine pw_goto (tgt := 294) dX10_pens_111 rfl ?_
                  refine pw_ziinc (lv' := [some (.ref B), some (.int (zI (p))), some (.int (zI (mn))), some (.int (zI (k + 1))), some (.int (zI ((s1.2 36) ((4 * p) + (k)).toNat)))]) dX10_pens_294 rfl (by decide) rfl rfl ?_
                  refine pw_goto (tgt := 26) dX10_pens_297 rfl ?_
                  exact ih (k + 1) _ s36 h36 (by omega) (by omega) (by omega)  hA36 hk36 hr36 hF36
              ·
                refine pw_iconst (v := zI (1)) dX10_pens_94 (by decide) ?_
                refine pw_goto (tgt := 109) dX10_pens_95 rfl ?_
                refine pw_ior dX10_pens_109 ?_
                rw [zI_of (zI ((s1.2 25) (p).toNat) ||| zI (1))]
                refine pw_iast (t := 0) rfl (mF25 hA) (by first | omega | exact mCell_b hp ko (by omega) (by omega) | exact mHis_b hp (by omega) (by omega)) (by decide) dX10_pens_110 ?_
                have hA37 : mAt B (mA 25 (va_up (s1.2 25) (p).toNat ((zI ((s1.2 25) (p).toNat) ||| zI (1)).toInt)) s1) (va_up h1 (B + 22) (pz_z 0 8 (va_up (s1.2 25) (p).toNat ((zI ((s1.2 25) (p).toNat) ||| zI (1)).toInt)))) := mU25 hA
                have hk37 : mPk (mA 25 (va_up (s1.2 25) (p).toNat ((zI ((s1.2 25) (p).toNat) ||| zI (1)).toInt)) s1) p.toNat := mPc hk (by decide)
                have hr37 : mPr p.toNat s (mA 25 (va_up (s1.2 25) (p).toNat ((zI ((s1.2 25) (p).toNat) ||| zI (1)).toInt)) s1) := mPr_tr hr (mPr_W (by decide) (by decide) (by decide))
                have hF37 : mFr B h (va_up h1 (B + 22) (pz_z 0 8 (va_up (s1.2 25) (p).toNat ((zI ((s1.2 25) (p).toNat) ||| zI (1)).toInt)))) := mFr_tr hF (mFr_up (by decide))
                revert hA37 hk37 hr37 hF37 
                generalize (mA 25 (va_up (s1.2 25) (p).toNat ((zI ((s1.2 25) (p).toNat) ||| zI (1)).toInt)) s1) = s37
                generalize (va_up h1 (B + 22) (pz_z 0 8 (va_up (s1.2 25) (p).toNat ((zI ((s1.2 25) (p).toNat) ||| zI (1)).toInt)))) = h37
                intro hA37 hk37 hr37 hF37 
                obtain ⟨kw, kh, kr, kc, ksr, ksc, kt, ko, kwa, kin, kwr, khi, krd, knu, kgi, kas, kfr, kra, kco, kof, kip⟩ := id hk37
                have e18 := congrFun (hr37.2.1 18 (by decide)) p.toNat
                have e19 := congrFun (hr37.2.1 19 (by decide)) p.toNat
                refine pw_goto (tgt := 294) dX10_pens_111 rfl ?_
                refine pw_ziinc (lv' := [some (.ref B), some (.int (zI (p))), some (.int (zI (mn))), some (.int (zI (k + 1))), some (.int (zI ((s1.2 36) ((4 * p) + (k)).toNat)))]) dX10_pens_294 rfl (by decide) rfl rfl ?_
                refine pw_goto (tgt := 26) dX10_pens_297 rfl ?_
                exact ih (k + 1) _ s37 h37 (by omega) (by omega) (by omega)  hA37 hk37 hr37 hF37
      ·
        refine pw_aload_n dX10_pens_48 rfl ?_
        refine pw_get (v := .ref (B + 22)) okX10 (k := 25) (by decide) lkX10_74 hA.1 rfl dX10_pens_49 ?_
        refine pw_iload_n dX10_pens_52 rfl ?_
        refine pw_iconst (v := zI (0)) dX10_pens_53 (by decide) ?_
        refine pw_iast (t := 0) rfl (mF25 hA) (by first | omega | exact mCell_b hp ko (by omega) (by omega) | exact mHis_b hp (by omega) (by omega)) (by decide) dX10_pens_54 ?_
        have hA38 : mAt B (mA 25 (va_up (s1.2 25) (p).toNat (0)) s1) (va_up h1 (B + 22) (pz_z 0 8 (va_up (s1.2 25) (p).toNat (0)))) := mU25 hA
        have hk38 : mPk (mA 25 (va_up (s1.2 25) (p).toNat (0)) s1) p.toNat := mPc hk (by decide)
        have hr38 : mPr p.toNat s (mA 25 (va_up (s1.2 25) (p).toNat (0)) s1) := mPr_tr hr (mPr_W (by decide) (by decide) (by decide))
        have hF38 : mFr B h (va_up h1 (B + 22) (pz_z 0 8 (va_up (s1.2 25) (p).toNat (0)))) := mFr_tr hF (mFr_up (by decide))
        revert hA38 hk38 hr38 hF38 
        generalize (mA 25 (va_up (s1.2 25) (p).toNat (0)) s1) = s38
        generalize (va_up h1 (B + 22) (pz_z 0 8 (va_up (s1.2 25) (p).toNat (0)))) = h38
        intro hA38 hk38 hr38 hF38 
        obtain ⟨kw, kh, kr, kc, ksr, ksc, kt, ko, kwa, kin, kwr, khi, krd, knu, kgi, kas, kfr, kra, kco, kof, kip⟩ := id hk38
        have e18 := congrFun (hr38.2.1 18 (by decide)) p.toNat
        have e19 := congrFun (hr38.2.1 19 (by decide)) p.toNat
        refine pw_goto (tgt := 294) dX10_pens_55 rfl ?_
        refine pw_ziinc (lv' := [some (.ref B), some (.int (zI (p))), some (.int (zI (mn))), some (.int (zI (k + 1))), some (.int (zI ((s1.2 36) ((4 * p) + (k)).toNat)))]) dX10_pens_294 rfl (by decide) rfl rfl ?_
        refine pw_goto (tgt := 26) dX10_pens_297 rfl ?_
        exact ih (k + 1) _ s38 h38 (by omega) (by omega) (by omega)  hA38 hk38 hr38 hF38
set_option maxHeartbeats 2000000 in
set_option maxRecDepth 100000 in
/-- pens(p) -/
theorem mR_pens {E : pw_E} (htr : E.1.stackTraces = false) {h : pz_H} {n : Nat} {B : Nat} {s : mS} (hA : mAt B s h) {p : Int} (hp : 0 ≤ p ∧ p < 8) (hk : mPk s p.toNat)  : pw_M E yX10_pens YX10_pens (rmD 1 0 0) [.ref B, .int (zI (p))] h n (fun r0 h' n' => r0 = none ∧ ∃ s', mAt B s' h' ∧ mPk s' p.toNat ∧ mPr p.toNat s s' ∧ mFr B h h' ∧ n' = n) (fun _ _ _ => False) := by
  obtain ⟨kw, kh, kr, kc, ksr, ksc, kt, ko, kwa, kin, kwr, khi, krd, knu, kgi, kas, kfr, kra, kco, kof, kip⟩ := id hk
  have e18 : s.2 18 p.toNat = s.2 18 p.toNat := rfl
  refine pw_M_of (lv := [some (.ref B), some (.int (zI (p))), none, none, none]) (by decide) rfl rfl htr (nle rfl) rfl (fun L => ?_)
  refine pw_aload_n dX10_pens_0 rfl ?_
  refine pw_get (v := .ref (B + 34)) okX10 (k := 37) (by decide) lkX10_110 hA.1 rfl dX10_pens_1 ?_
  refine pw_iload_n dX10_pens_4 rfl ?_
  refine pw_iald (t := 0) rfl (mF37 hA) (by first | omega | exact mCell_b hp ko (by omega) (by omega) | exact mHis_b hp (by omega) (by omega)) (by decide) dX10_pens_5 ?_
  refine pw_if_ne (tgt := 13) dX10_pens_6 rfl (by omega) (fun c6 => ?_) (fun c6 => ?_)
  ·
    refine pw_iconst (v := zI (4)) dX10_pens_13 (by decide) ?_
    refine pw_aload_n dX10_pens_14 rfl ?_
    refine pw_get (v := .ref (B + 34)) okX10 (k := 37) (by decide) lkX10_110 hA.1 rfl dX10_pens_15 ?_
    refine pw_iload_n dX10_pens_18 rfl ?_
    refine pw_iald (t := 0) rfl (mF37 hA) (by first | omega | exact mCell_b hp ko (by omega) (by omega) | exact mHis_b hp (by omega) (by omega)) (by decide) dX10_pens_19 ?_
    refine pw_callS (As := [.int (zI (4)), .int (zI ((s.2 37) (p).toNat))]) (rm := rmD 0 0 0) (mR_least htr (by omega) (by omega)) rfl ywX10_least rfl cwX10_192 ⟨nle rfl, nle rfl⟩ (nle rfl) ⟨nle rfl, nle rfl⟩ dX10_pens_20 ?_ (fun _ _ _ z => z.elim)
    intro r_9 h_9 n_9 hq _
    rw [hq.1, hq.2.1, hq.2.2]
    show pw E YX10_pens _ _ 0 0 23 [some (.ref B), some (.int (zI (p))), none, none, none] [.int (zI (min (4) ((s.2 37) (p).toNat)))] h n
    refine pw_istore_n (lv' := [some (.ref B), some (.int (zI (p))), some (.int (zI (min (4) ((s.2 37) (p).toNat)))), none, none]) dX10_pens_23 (by decide) rfl rfl ?_
    refine pw_iconst (v := zI (0)) dX10_pens_24 (by decide) ?_
    refine pw_istore_n (lv' := [some (.ref B), some (.int (zI (p))), some (.int (zI (min (4) ((s.2 37) (p).toNat)))), some (.int (zI (0))), none]) dX10_pens_25 (by decide) rfl rfl ?_
    refine lR_pens htr hp (mn := min (4) ((s.2 37) (p).toNat)) (by omega) ?_ _ 0 _ s h rfl (by omega) (by omega) hA hk mPr_rf mFr_rf
    intro _ _ s2 h2 z1 z2 z3 z4
    exact ⟨rfl, s2, z1, z2, z3, z4, rfl⟩
  ·
    refine pw_iconst (v := zI (1)) dX10_pens_9 (by decide) ?_
    refine pw_goto (tgt := 23) dX10_pens_10 rfl ?_
    refine pw_istore_n (lv' := [some (.ref B), some (.int (zI (p))), some (.int (zI (1))), none, none]) dX10_pens_23 (by decide) rfl rfl ?_
    refine pw_iconst (v := zI (0)) dX10_pens_24 (by decide) ?_
    refine pw_istore_n (lv' := [some (.ref B), some (.int (zI (p))), some (.int (zI (1))), some (.int (zI (0))), none]) dX10_pens_25 (by decide) rfl rfl ?_
    refine lR_pens htr hp (mn := 1) (by omega) ?_ _ 0 _ s h rfl (by omega) (by omega) hA hk mPr_rf mFr_rf
    intro _ _ s2 h2 z1 z2 z3 z4
    exact ⟨rfl, s2, z1, z2, z3, z4, rfl⟩
