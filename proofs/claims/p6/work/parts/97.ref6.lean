def YX10_question : pw_Y := (RX10, "question", cX10_question, 5, none)
theorem ywX10_question : pw_y yX10_question YX10_question 2 := ⟨by decide +kernel, by decide +kernel, by decide +kernel, pw_in 1640 (by decide +kernel) (by decide +kernel), pw_in 106 (by decide +kernel) (by decide +kernel)⟩
theorem lkX10_101 : Cond.fieldLink RX10 101 (TX10 34).1 (TX10 34).2.1 (TX10 34).2.2.1 ∈ pw_G := pw_in 1364 (by decide +kernel) (by decide +kernel)
def YX10_act : pw_Y := (RX10, "act", cX10_act, 8, none)
theorem ywX10_act : pw_y yX10_act YX10_act 2 := ⟨by decide +kernel, by decide +kernel, by decide +kernel, pw_in 1644 (by decide +kernel) (by decide +kernel), pw_in 106 (by decide +kernel) (by decide +kernel)⟩
theorem cwX10_292 : Cond.methodLink RX10 292 yX10_lines ∈ pw_G ∧ Cond.instanceMethod yX10_lines ∈ pw_G ∧ Cond.selects RX10 yX10_lines yX10_lines ∈ pw_G := ⟨pw_in 1652 (by decide +kernel) (by decide +kernel), pw_in 1654 (by decide +kernel) (by decide +kernel), pw_in 62 (by decide +kernel) (by decide +kernel)⟩
theorem cwX10_299 : Cond.methodLink RX10 299 yX10_pens ∈ pw_G ∧ Cond.instanceMethod yX10_pens ∈ pw_G ∧ Cond.selects RX10 yX10_pens yX10_pens ∈ pw_G := ⟨pw_in 1660 (by decide +kernel) (by decide +kernel), pw_in 1662 (by decide +kernel) (by decide +kernel), pw_in 64 (by decide +kernel) (by decide +kernel)⟩
theorem cwX10_296 : Cond.methodLink RX10 296 yX10_region ∈ pw_G ∧ Cond.instanceMethod yX10_region ∈ pw_G ∧ Cond.selects RX10 yX10_region yX10_region ∈ pw_G := ⟨pw_in 1656 (by decide +kernel) (by decide +kernel), pw_in 1658 (by decide +kernel) (by decide +kernel), pw_in 63 (by decide +kernel) (by decide +kernel)⟩
theorem cwX10_289 : Cond.methodLink RX10 289 yX10_erase ∈ pw_G ∧ Cond.instanceMethod yX10_erase ∈ pw_G ∧ Cond.selects RX10 yX10_erase yX10_erase ∈ pw_G := ⟨pw_in 1648 (by decide +kernel) (by decide +kernel), pw_in 1650 (by decide +kernel) (by decide +kernel), pw_in 61 (by decide +kernel) (by decide +kernel)⟩
theorem cwX10_286 : Cond.methodLink RX10 286 yX10_endsWait ∈ pw_G ∧ Cond.static yX10_endsWait ∈ pw_G := ⟨pw_in 1645 (by decide +kernel) (by decide +kernel), pw_in 1646 (by decide +kernel) (by decide +kernel)⟩
def YX10_longSequence : pw_Y := (RX10, "longSequence", cX10_longSequence, 4, none)
theorem ywX10_longSequence : pw_y yX10_longSequence YX10_longSequence 2 := ⟨by decide +kernel, by decide +kernel, by decide +kernel, pw_in 1636 (by decide +kernel) (by decide +kernel), pw_in 106 (by decide +kernel) (by decide +kernel)⟩
theorem lkX10_116 : Cond.fieldLink RX10 116 (TX10 39).1 (TX10 39).2.1 (TX10 39).2.2.1 ∈ pw_G := pw_in 1369 (by decide +kernel) (by decide +kernel)
theorem lkX10_113 : Cond.fieldLink RX10 113 (TX10 38).1 (TX10 38).2.1 (TX10 38).2.2.1 ∈ pw_G := pw_in 1368 (by decide +kernel) (by decide +kernel)
theorem cwX10_283 : Cond.methodLink RX10 283 yX10_act ∈ pw_G ∧ Cond.instanceMethod yX10_act ∈ pw_G ∧ Cond.selects RX10 yX10_act yX10_act ∈ pw_G := ⟨pw_in 1641 (by decide +kernel) (by decide +kernel), pw_in 1643 (by decide +kernel) (by decide +kernel), pw_in 60 (by decide +kernel) (by decide +kernel)⟩
theorem cwX10_280 : Cond.methodLink RX10 280 yX10_question ∈ pw_G ∧ Cond.instanceMethod yX10_question ∈ pw_G ∧ Cond.selects RX10 yX10_question yX10_question ∈ pw_G := ⟨pw_in 1637 (by decide +kernel) (by decide +kernel), pw_in 1639 (by decide +kernel) (by decide +kernel), pw_in 59 (by decide +kernel) (by decide +kernel)⟩
set_option maxHeartbeats 2000000 in
set_option maxRecDepth 100000 in
theorem lR_ques {E : pw_E} (htr : E.1.stackTraces = false) {Kk : pw_K} {n : Nat} {B : Nat} {s : mS} {h : pz_H} {p : Int} (hp : 0 ≤ p ∧ p < 8) {b z : Int} (kk : ∀ (k9 : Int) (s2 : mS) (h2 : pz_H), mAt B s2 h2 → mPk s2 p.toNat → mPr p.toNat s s2 → mFr B h h2 → Kk.2.2.1 none h2 n) : ∀ (j : Nat) (k : Int) (s1 : mS) (h1 : pz_H), (640 - k).toNat = j → 0 ≤ k → k ≤ 640 → mAt B s1 h1 → mPk s1 p.toNat → mPr p.toNat s s1 → mFr B h h1 → pw E YX10_question (rmD 1 0 0) Kk 0 0 120 [some (.ref B), some (.int (zI (p))), some (.int (zI (b))), some (.int (zI (z))), some (.int (zI (k)))] [] h1 n := by
  intro j
  induction j with
  | zero =>
    intro k s1 h1 hj i0 i1 hA hk hr hF
    have e18 := congrFun (hr.2.1 18 (by decide)) p.toNat
    have e19 := congrFun (hr.2.1 19 (by decide)) p.toNat
    obtain ⟨kw, kh, kr, kc, ksr, ksc, kt, ko, kwa, kin, kwr, khi, krd, knu, kgi, kas, kfr, kra, kco, kof, kip⟩ := id hk
    refine pw_iload dX10_question_120 rfl ?_
    refine pw_sipush (v := zI (640)) dX10_question_122 (by decide) ?_
    refine pw_icmp_ge (tgt := 158) dX10_question_125 rfl (by omega) (by omega) (fun c125 => ?_) (fun c125 => ?_)
    ·
      exact pw_vret dX10_question_158 rfl (nle rfl) (nle rfl) (kk 0 s1 h1  hA hk hr hF)
    · exfalso; omega
  | succ j ih =>
    intro k s1 h1 hj i0 i1 hA hk hr hF
    have e18 := congrFun (hr.2.1 18 (by decide)) p.toNat
    have e19 := congrFun (hr.2.1 19 (by decide)) p.toNat
    obtain ⟨kw, kh, kr, kc, ksr, ksc, kt, ko, kwa, kin, kwr, khi, krd, knu, kgi, kas, kfr, kra, kco, kof, kip⟩ := id hk
    refine pw_iload dX10_question_120 rfl ?_
    refine pw_sipush (v := zI (640)) dX10_question_122 (by decide) ?_
    refine pw_icmp_ge (tgt := 158) dX10_question_125 rfl (by omega) (by omega) (fun c125 => ?_) (fun c125 => ?_)
    ·
      exact pw_vret dX10_question_158 rfl (nle rfl) (nle rfl) (kk 0 s1 h1  hA hk hr hF)
    ·
      refine pw_aload_n dX10_question_128 rfl ?_
      refine pw_get (v := .ref (B + 19)) okX10 (k := 22) (by decide) lkX10_65 hA.1 rfl dX10_question_129 ?_
      refine pw_iload_n dX10_question_132 rfl ?_
      refine pw_zald (t := 1) rfl (mF22 hA) (by first | omega | exact mCell_b hp ko (by omega) (by omega) | exact mHis_b hp (by omega) (by omega)) (by decide) dX10_question_133 ?_
      refine pw_if_eq (tgt := 158) dX10_question_134 rfl (by omega) (fun c134 => ?_) (fun c134 => ?_)
      ·
        exact pw_vret dX10_question_158 rfl (nle rfl) (nle rfl) (kk 0 s1 h1  hA hk hr hF)
      ·
        refine pw_aload_n dX10_question_137 rfl ?_
        refine pw_iload_n dX10_question_138 rfl ?_
        refine pw_iconst (v := zI (1)) dX10_question_139 (by decide) ?_
        refine pw_iconst (v := zI (0)) dX10_question_140 (by decide) ?_
        refine pw_iconst (v := zI (0)) dX10_question_141 (by decide) ?_
        refine pw_callS (As := [.int (zI (p)), .int (zI (1)), .int (zI (0)), .int (zI (0))]) (rm := rmD 0 0 0) (mR_cellOf htr) rfl ywX10_cellOf rfl cwX10_180 ⟨nle rfl, nle rfl⟩ (nle rfl) ⟨nle rfl, nle rfl⟩ dX10_question_142 ?_ (fun _ _ _ z => z.elim)
        intro r_9 h_9 n_9 hq _
        rw [hq.1, hq.2.1, hq.2.2]
        show pw E YX10_question _ _ 0 0 145 [some (.ref B), some (.int (zI (p))), some (.int (zI (b))), some (.int (zI (z))), some (.int (zI (k)))] [.int (zI (mCell (p) (1) (0) (0))), .ref B] h1 n
        refine pw_iload dX10_question_145 rfl ?_
        refine pw_ziadd dX10_question_147 ?_
        refine pw_iconst (v := zI (0)) dX10_question_148 (by decide) ?_
        refine pw_callV (As := [.int (zI ((mCell (p) (1) (0) (0)) + (k))), .int (zI (0))]) (b := B) (rm := rmD 0 0 0) (mR_blank htr hA hp hk (by unfold mCell; omega)) rfl hA.1 rfl rfl ywX10_blank rfl cwX10_184 ⟨nle rfl, nle rfl⟩ (nle rfl) ⟨nle rfl, nle rfl⟩ dX10_question_149 ?_ (fun _ _ _ z => z.elim)
        intro r_9 h2 n_9 hq _
        obtain ⟨e1, s2, hA2, hk2, hr20, hF20, e4⟩ := hq
        rw [e1, e4]
        show pw E YX10_question _ _ 0 0 152 [some (.ref B), some (.int (zI (p))), some (.int (zI (b))), some (.int (zI (z))), some (.int (zI (k)))] [] h2 n
        have hr2 := mPr_tr hr hr20
        have hF2 := mFr_tr hF hF20
        obtain ⟨kw, kh, kr, kc, ksr, ksc, kt, ko, kwa, kin, kwr, khi, krd, knu, kgi, kas, kfr, kra, kco, kof, kip⟩ := id hk2
        have e18 := congrFun (hr2.2.1 18 (by decide)) p.toNat
        have e19 := congrFun (hr2.2.1 19 (by decide)) p.toNat
        refine pw_ziinc (lv' := [some (.ref B), some (.int (zI (p))), some (.int (zI (b))), some (.int (zI (z))), some (.int (zI (k + 1)))]) dX10_question_152 rfl (by decide) rfl rfl ?_
        refine pw_goto (tgt := 120) dX10_question_155 rfl ?_
        exact ih (k + 1) s2 h2 (by omega) (by omega) (by omega)  hA2 hk2 hr2 hF2
set_option maxHeartbeats 2000000 in
set_option maxRecDepth 100000 in
/-- question(p, b) -/
theorem mR_question {E : pw_E} (htr : E.1.stackTraces = false) {h : pz_H} {n : Nat} {B : Nat} {s : mS} (hA : mAt B s h) {p b : Int} (hp : 0 ≤ p ∧ p < 8) (hk : mPk s p.toNat) (h_b : -2147483648 ≤ b ∧ b < 2147483648) : pw_M E yX10_question YX10_question (rmD 1 0 0) [.ref B, .int (zI (p)), .int (zI (b))] h n (fun r0 h' n' => r0 = none ∧ ∃ s', mAt B s' h' ∧ mPk s' p.toNat ∧ mPr p.toNat s s' ∧ mFr B h h' ∧ n' = n) (fun _ _ _ => False) := by
  obtain ⟨kw, kh, kr, kc, ksr, ksc, kt, ko, kwa, kin, kwr, khi, krd, knu, kgi, kas, kfr, kra, kco, kof, kip⟩ := id hk
  have e18 : s.2 18 p.toNat = s.2 18 p.toNat := rfl
  refine pw_M_of (lv := [some (.ref B), some (.int (zI (p))), some (.int (zI (b))), none, none]) (by decide) rfl rfl htr (nle rfl) rfl (fun L => ?_)
  refine pw_aload_n dX10_question_0 rfl ?_
  refine pw_get (v := .ref (B + 33)) okX10 (k := 36) (by decide) lkX10_107 hA.1 rfl dX10_question_1 ?_
  refine pw_iconst (v := zI (4)) dX10_question_4 (by decide) ?_
  refine pw_iload_n dX10_question_5 rfl ?_
  refine pw_zimul dX10_question_6 ?_
  refine pw_iald (t := 0) rfl (mF36 hA) (by first | omega | exact mCell_b hp ko (by omega) (by omega) | exact mHis_b hp (by omega) (by omega)) (by decide) dX10_question_7 ?_
  have hn8 := mNu (e := 4 * p) hk hp (by omega)
  refine pw_istore_n (lv' := [some (.ref B), some (.int (zI (p))), some (.int (zI (b))), some (.int (zI ((s.2 36) (4 * p).toNat))), none]) dX10_question_8 (by decide) rfl rfl ?_
  refine pw_iload_n dX10_question_9 rfl ?_
  refine pw_bipush (v := zI (104)) dX10_question_10 (by decide) ?_
  refine pw_icmp_eq (tgt := 22) dX10_question_12 rfl (by omega) (by omega) (fun c12 => ?_) (fun c12 => ?_)
  ·
    refine pw_iload_n dX10_question_22 rfl ?_
    refine pw_bipush (v := zI (7)) dX10_question_23 (by decide) ?_
    refine pw_icmp_ne (tgt := 48) dX10_question_25 rfl (by omega) (by omega) (fun c25 => ?_) (fun c25 => ?_)
    ·
      refine pw_iload_n dX10_question_48 rfl ?_
      refine pw_bipush (v := zI (25)) dX10_question_49 (by decide) ?_
      refine pw_icmp_ne (tgt := 74) dX10_question_51 rfl (by omega) (by omega) (fun c51 => ?_) (fun c51 => ?_)
      ·
        refine pw_iload_n dX10_question_74 rfl ?_
        refine pw_bipush (v := zI (47)) dX10_question_75 (by decide) ?_
        refine pw_icmp_ne (tgt := 158) dX10_question_77 rfl (by omega) (by omega) (fun c77 => ?_) (fun c77 => ?_)
        ·
          exact pw_vret dX10_question_158 rfl (nle rfl) (nle rfl) ⟨rfl, s, hA, hk, mPr_rf, mFr_rf, rfl⟩
        ·
          refine pw_aload_n dX10_question_80 rfl ?_
          refine pw_get (v := .ref (B + 19)) okX10 (k := 22) (by decide) lkX10_65 hA.1 rfl dX10_question_81 ?_
          refine pw_iload_n dX10_question_84 rfl ?_
          refine pw_zald (t := 1) rfl (mF22 hA) (by first | omega | exact mCell_b hp ko (by omega) (by omega) | exact mHis_b hp (by omega) (by omega)) (by decide) dX10_question_85 ?_
          refine pw_iload_n dX10_question_86 rfl ?_
          refine pw_bipush (v := zI (104)) dX10_question_87 (by decide) ?_
          refine pw_icmp_ne (tgt := 96) dX10_question_89 rfl (by omega) (by omega) (fun c89 => ?_) (fun c89 => ?_)
          ·
            refine pw_iconst (v := zI (0)) dX10_question_96 (by decide) ?_
            refine pw_icmp_eq (tgt := 158) dX10_question_97 rfl (by omega) (by omega) (fun c97 => ?_) (fun c97 => ?_)
            ·
              exact pw_vret dX10_question_158 rfl (nle rfl) (nle rfl) ⟨rfl, s, hA, hk, mPr_rf, mFr_rf, rfl⟩
            ·
              refine pw_aload_n dX10_question_100 rfl ?_
              refine pw_get (v := .ref (B + 19)) okX10 (k := 22) (by decide) lkX10_65 hA.1 rfl dX10_question_101 ?_
              refine pw_iload_n dX10_question_104 rfl ?_
              refine pw_iload_n dX10_question_105 rfl ?_
              refine pw_bipush (v := zI (104)) dX10_question_106 (by decide) ?_
              refine pw_icmp_ne (tgt := 115) dX10_question_108 rfl (by omega) (by omega) (fun c108 => ?_) (fun c108 => ?_)
              ·
                refine pw_iconst (v := zI (0)) dX10_question_115 (by decide) ?_
                refine pw_zast (t := 1) rfl (mF22 hA) (by first | omega | exact mCell_b hp ko (by omega) (by omega) | exact mHis_b hp (by omega) (by omega)) (by decide) (by omega) dX10_question_116 ?_
                have hA1 : mAt B (mA 22 (va_up (s.2 22) (p).toNat (0)) s) (va_up h (B + 19) (pz_z 1 8 (va_up (s.2 22) (p).toNat (0)))) := mU22 hA
                have hk1 : mPk (mA 22 (va_up (s.2 22) (p).toNat (0)) s) p.toNat := mP22 hk (by omega)
                have hr1 : mPr p.toNat s (mA 22 (va_up (s.2 22) (p).toNat (0)) s) := mPr_tr mPr_rf (mPr_W (by decide) (by decide) (by decide))
                have hF1 : mFr B h (va_up h (B + 19) (pz_z 1 8 (va_up (s.2 22) (p).toNat (0)))) := mFr_tr mFr_rf (mFr_up (by decide))
                revert hA1 hk1 hr1 hF1 
                generalize (mA 22 (va_up (s.2 22) (p).toNat (0)) s) = s1
                generalize (va_up h (B + 19) (pz_z 1 8 (va_up (s.2 22) (p).toNat (0)))) = h1
                intro hA1 hk1 hr1 hF1 
                obtain ⟨kw, kh, kr, kc, ksr, ksc, kt, ko, kwa, kin, kwr, khi, krd, knu, kgi, kas, kfr, kra, kco, kof, kip⟩ := id hk1
                have e18 := congrFun (hr1.2.1 18 (by decide)) p.toNat
                have e19 := congrFun (hr1.2.1 19 (by decide)) p.toNat
                refine pw_iconst (v := zI (0)) dX10_question_117 (by decide) ?_
                refine pw_istore (lv' := [some (.ref B), some (.int (zI (p))), some (.int (zI (b))), some (.int (zI ((s.2 36) (4 * p).toNat))), some (.int (zI (0)))]) dX10_question_118 (by decide) rfl rfl ?_
                refine lR_ques htr hp  ?_ _ 0 s1 h1 rfl (by omega) (by omega) hA1 hk1 hr1 hF1
                intro _ s2 h2 z1 z2 z3 z4
                exact ⟨rfl, s2, z1, z2, z3, z4, rfl⟩
              ·
                refine pw_iconst (v := zI (1)) dX10_question_111 (by decide) ?_
                refine pw_goto (tgt := 116) dX10_question_112 rfl ?_
                refine pw_zast (t := 1) rfl (mF22 hA) (by first | omega | exact mCell_b hp ko (by omega) (by omega) | exact mHis_b hp (by omega) (by omega)) (by decide) (by omega) dX10_question_116 ?_
                have hA2 : mAt B (mA 22 (va_up (s.2 22) (p).toNat (1)) s) (va_up h (B + 19) (pz_z 1 8 (va_up (s.2 22) (p).toNat (1)))) := mU22 hA
                have hk2 : mPk (mA 22 (va_up (s.2 22) (p).toNat (1)) s) p.toNat := mP22 hk (by omega)
                have hr2 : mPr p.toNat s (mA 22 (va_up (s.2 22) (p).toNat (1)) s) := mPr_tr mPr_rf (mPr_W (by decide) (by decide) (by decide))
                have hF2 : mFr B h (va_up h (B + 19) (pz_z 1 8 (va_up (s.2 22) (p).toNat (1)))) := mFr_tr mFr_rf (mFr_up (by decide))
                revert hA2 hk2 hr2 hF2 
                generalize (mA 22 (va_up (s.2 22) (p).toNat (1)) s) = s2
                generalize (va_up h (B + 19) (pz_z 1 8 (va_up (s.2 22) (p).toNat (1)))) = h2
                intro hA2 hk2 hr2 hF2 
                obtain ⟨kw, kh, kr, kc, ksr, ksc, kt, ko, kwa, kin, kwr, khi, krd, knu, kgi, kas, kfr, kra, kco, kof, kip⟩ := id hk2
                have e18 := congrFun (hr2.2.1 18 (by decide)) p.toNat
                have e19 := congrFun (hr2.2.1 19 (by decide)) p.toNat
                refine pw_iconst (v := zI (0)) dX10_question_117 (by decide) ?_
                refine pw_istore (lv' := [some (.ref B), some (.int (zI (p))), some (.int (zI (b))), some (.int (zI ((s.2 36) (4 * p).toNat))), some (.int (zI (0)))]) dX10_question_118 (by decide) rfl rfl ?_
                refine lR_ques htr hp  ?_ _ 0 s2 h2 rfl (by omega) (by omega) hA2 hk2 hr2 hF2
                intro _ s2 h2 z1 z2 z3 z4
                exact ⟨rfl, s2, z1, z2, z3, z4, rfl⟩
          ·
            refine pw_iconst (v := zI (1)) dX10_question_92 (by decide) ?_
            refine pw_goto (tgt := 97) dX10_question_93 rfl ?_
            refine pw_icmp_eq (tgt := 158) dX10_question_97 rfl (by omega) (by omega) (fun c97 => ?_) (fun c97 => ?_)
            ·
              exact pw_vret dX10_question_158 rfl (nle rfl) (nle rfl) ⟨rfl, s, hA, hk, mPr_rf, mFr_rf, rfl⟩
            ·
              refine pw_aload_n dX10_question_100 rfl ?_
              refine pw_get (v := .ref (B + 19)) okX10 (k := 22) (by decide) lkX10_65 hA.1 rfl dX10_question_101 ?_
              refine pw_iload_n dX10_question_104 rfl ?_
              refine pw_iload_n dX10_question_105 rfl ?_
              refine pw_bipush (v := zI (104)) dX10_question_106 (by decide) ?_
              refine pw_icmp_ne (tgt := 115) dX10_question_108 rfl (by omega) (by omega) (fun c108 => ?_) (fun c108 => ?_)
              ·
                refine pw_iconst (v := zI (0)) dX10_question_115 (by decide) ?_
                refine pw_zast (t := 1) rfl (mF22 hA) (by first | omega | exact mCell_b hp ko (by omega) (by omega) | exact mHis_b hp (by omega) (by omega)) (by decide) (by omega) dX10_question_116 ?_
                have hA3 : mAt B (mA 22 (va_up (s.2 22) (p).toNat (0)) s) (va_up h (B + 19) (pz_z 1 8 (va_up (s.2 22) (p).toNat (0)))) := mU22 hA
                have hk3 : mPk (mA 22 (va_up (s.2 22) (p).toNat (0)) s) p.toNat := mP22 hk (by omega)
                have hr3 : mPr p.toNat s (mA 22 (va_up (s.2 22) (p).toNat (0)) s) := mPr_tr mPr_rf (mPr_W (by decide) (by decide) (by decide))
                have hF3 : mFr B h (va_up h (B + 19) (pz_z 1 8 (va_up (s.2 22) (p).toNat (0)))) := mFr_tr mFr_rf (mFr_up (by decide))
                revert hA3 hk3 hr3 hF3 
                generalize (mA 22 (va_up (s.2 22) (p).toNat (0)) s) = s3
                generalize (va_up h (B + 19) (pz_z 1 8 (va_up (s.2 22) (p).toNat (0)))) = h3
                intro hA3 hk3 hr3 hF3 
                obtain ⟨kw, kh, kr, kc, ksr, ksc, kt, ko, kwa, kin, kwr, khi, krd, knu, kgi, kas, kfr, kra, kco, kof, kip⟩ := id hk3
                have e18 := congrFun (hr3.2.1 18 (by decide)) p.toNat
                have e19 := congrFun (hr3.2.1 19 (by decide)) p.toNat
                refine pw_iconst (v := zI (0)) dX10_question_117 (by decide) ?_
                refine pw_istore (lv' := [some (.ref B), some (.int (zI (p))), some (.int (zI (b))), some (.int (zI ((s.2 36) (4 * p).toNat))), some (.int (zI (0)))]) dX10_question_118 (by decide) rfl rfl ?_
                refine lR_ques htr hp  ?_ _ 0 s3 h3 rfl (by omega) (by omega) hA3 hk3 hr3 hF3
                intro _ s2 h2 z1 z2 z3 z4
                exact ⟨rfl, s2, z1, z2, z3, z4, rfl⟩
              ·
                refine pw_iconst (v := zI (1)) dX10_question_111 (by decide) ?_
                refine pw_goto (tgt := 116) dX10_question_112 rfl ?_
                refine pw_zast (t := 1) rfl (mF22 hA) (by first | omega | exact mCell_b hp ko (by omega) (by omega) | exact mHis_b hp (by omega) (by omega)) (by decide) (by omega) dX10_question_116 ?_
                have hA4 : mAt B (mA 22 (va_up (s.2 22) (p).toNat (1)) s) (va_up h (B + 19) (pz_z 1 8 (va_up (s.2 22) (p).toNat (1)))) := mU22 hA
                have hk4 : mPk (mA 22 (va_up (s.2 22) (p).toNat (1)) s) p.toNat := mP22 hk (by omega)
                have hr4 : mPr p.toNat s (mA 22 (va_up (s.2 22) (p).toNat (1)) s) := mPr_tr mPr_rf (mPr_W (by decide) (by decide) (by decide))
                have hF4 : mFr B h (va_up h (B + 19) (pz_z 1 8 (va_up (s.2 22) (p).toNat (1)))) := mFr_tr mFr_rf (mFr_up (by decide))
                revert hA4 hk4 hr4 hF4 
                generalize (mA 22 (va_up (s.2 22) (p).toNat (1)) s) = s4
                generalize (va_up h (B + 19) (pz_z 1 8 (va_up (s.2 22) (p).toNat (1)))) = h4
                intro hA4 hk4 hr4 hF4 
                obtain ⟨kw, kh, kr, kc, ksr, ksc, kt, ko, kwa, kin, kwr, khi, krd, knu, kgi, kas, kfr, kra, kco, kof, kip⟩ := id hk4
                have e18 := congrFun (hr4.2.1 18 (by decide)) p.toNat
                have e19 := congrFun (hr4.2.1 19 (by decide)) p.toNat
                refine pw_iconst (v := zI (0)) dX10_question_117 (by decide) ?_
                refine pw_istore (lv' := [some (.ref B), some (.int (zI (p))), some (.int (zI (b))), some (.int (zI ((s.2 36) (4 * p).toNat))), some (.int (zI (0)))]) dX10_question_118 (by decide) rfl rfl ?_
                refine lR_ques htr hp  ?_ _ 0 s4 h4 rfl (by omega) (by omega) hA4 hk4 hr4 hF4
                intro _ s2 h2 z1 z2 z3 z4
                exact ⟨rfl, s2, z1, z2, z3, z4, rfl⟩
      ·
        refine pw_aload_n dX10_question_54 rfl ?_
        refine pw_get (v := .ref (B + 31)) okX10 (k := 34) (by decide) lkX10_101 hA.1 rfl dX10_question_55 ?_
        refine pw_iload_n dX10_question_58 rfl ?_
        refine pw_iload_n dX10_question_59 rfl ?_
        refine pw_bipush (v := zI (108)) dX10_question_60 (by decide) ?_
        refine pw_icmp_ne (tgt := 69) dX10_question_62 rfl (by omega) (by omega) (fun c62 => ?_) (fun c62 => ?_)
        ·
          refine pw_iconst (v := zI (0)) dX10_question_69 (by decide) ?_
          refine pw_zast (t := 1) rfl (mF34 hA) (by first | omega | exact mCell_b hp ko (by omega) (by omega) | exact mHis_b hp (by omega) (by omega)) (by decide) (by omega) dX10_question_70 ?_
          have hA5 : mAt B (mA 34 (va_up (s.2 34) (p).toNat (0)) s) (va_up h (B + 31) (pz_z 1 8 (va_up (s.2 34) (p).toNat (0)))) := mU34 hA
          have hk5 : mPk (mA 34 (va_up (s.2 34) (p).toNat (0)) s) p.toNat := mP34 hk (by omega)
          have hr5 : mPr p.toNat s (mA 34 (va_up (s.2 34) (p).toNat (0)) s) := mPr_tr mPr_rf (mPr_W (by decide) (by decide) (by decide))
          have hF5 : mFr B h (va_up h (B + 31) (pz_z 1 8 (va_up (s.2 34) (p).toNat (0)))) := mFr_tr mFr_rf (mFr_up (by decide))
          revert hA5 hk5 hr5 hF5 
          generalize (mA 34 (va_up (s.2 34) (p).toNat (0)) s) = s5
          generalize (va_up h (B + 31) (pz_z 1 8 (va_up (s.2 34) (p).toNat (0)))) = h5
          intro hA5 hk5 hr5 hF5 
          obtain ⟨kw, kh, kr, kc, ksr, ksc, kt, ko, kwa, kin, kwr, khi, krd, knu, kgi, kas, kfr, kra, kco, kof, kip⟩ := id hk5
          have e18 := congrFun (hr5.2.1 18 (by decide)) p.toNat
          have e19 := congrFun (hr5.2.1 19 (by decide)) p.toNat
          refine pw_goto (tgt := 158) dX10_question_71 rfl ?_
          exact pw_vret dX10_question_158 rfl (nle rfl) (nle rfl) ⟨rfl, s5, hA5, hk5, hr5, hF5, rfl⟩
        ·
          refine pw_iconst (v := zI (1)) dX10_question_65 (by decide) ?_
          refine pw_goto (tgt := 70) dX10_question_66 rfl ?_
          refine pw_zast (t := 1) rfl (mF34 hA) (by first | omega | exact mCell_b hp ko (by omega) (by omega) | exact mHis_b hp (by omega) (by omega)) (by decide) (by omega) dX10_question_70 ?_
          have hA6 : mAt B (mA 34 (va_up (s.2 34) (p).toNat (1)) s) (va_up h (B + 31) (pz_z 1 8 (va_up (s.2 34) (p).toNat (1)))) := mU34 hA
          have hk6 : mPk (mA 34 (va_up (s.2 34) (p).toNat (1)) s) p.toNat := mP34 hk (by omega)
          have hr6 : mPr p.toNat s (mA 34 (va_up (s.2 34) (p).toNat (1)) s) := mPr_tr mPr_rf (mPr_W (by decide) (by decide) (by decide))
          have hF6 : mFr B h (va_up h (B + 31) (pz_z 1 8 (va_up (s.2 34) (p).toNat (1)))) := mFr_tr mFr_rf (mFr_up (by decide))
          revert hA6 hk6 hr6 hF6 
          generalize (mA 34 (va_up (s.2 34) (p).toNat (1)) s) = s6
          generalize (va_up h (B + 31) (pz_z 1 8 (va_up (s.2 34) (p).toNat (1)))) = h6
          intro hA6 hk6 hr6 hF6 
          obtain ⟨kw, kh, kr, kc, ksr, ksc, kt, ko, kwa, kin, kwr, khi, krd, knu, kgi, kas, kfr, kra, kco, kof, kip⟩ := id hk6
          have e18 := congrFun (hr6.2.1 18 (by decide)) p.toNat
          have e19 := congrFun (hr6.2.1 19 (by decide)) p.toNat
          refine pw_goto (tgt := 158) dX10_question_71 rfl ?_
          exact pw_vret dX10_question_158 rfl (nle rfl) (nle rfl) ⟨rfl, s6, hA6, hk6, hr6, hF6, rfl⟩
    ·
      refine pw_aload_n dX10_question_28 rfl ?_
      refine pw_get (v := .ref (B + 30)) okX10 (k := 33) (by decide) lkX10_98 hA.1 rfl dX10_question_29 ?_
      refine pw_iload_n dX10_question_32 rfl ?_
      refine pw_iload_n dX10_question_33 rfl ?_
      refine pw_bipush (v := zI (104)) dX10_question_34 (by decide) ?_
      refine pw_icmp_ne (tgt := 43) dX10_question_36 rfl (by omega) (by omega) (fun c36 => ?_) (fun c36 => ?_)
      ·
        refine pw_iconst (v := zI (0)) dX10_question_43 (by decide) ?_
        refine pw_zast (t := 1) rfl (mF33 hA) (by first | omega | exact mCell_b hp ko (by omega) (by omega) | exact mHis_b hp (by omega) (by omega)) (by decide) (by omega) dX10_question_44 ?_
        have hA7 : mAt B (mA 33 (va_up (s.2 33) (p).toNat (0)) s) (va_up h (B + 30) (pz_z 1 8 (va_up (s.2 33) (p).toNat (0)))) := mU33 hA
        have hk7 : mPk (mA 33 (va_up (s.2 33) (p).toNat (0)) s) p.toNat := mP33 hk (by omega)
        have hr7 : mPr p.toNat s (mA 33 (va_up (s.2 33) (p).toNat (0)) s) := mPr_tr mPr_rf (mPr_W (by decide) (by decide) (by decide))
        have hF7 : mFr B h (va_up h (B + 30) (pz_z 1 8 (va_up (s.2 33) (p).toNat (0)))) := mFr_tr mFr_rf (mFr_up (by decide))
        revert hA7 hk7 hr7 hF7 
        generalize (mA 33 (va_up (s.2 33) (p).toNat (0)) s) = s7
        generalize (va_up h (B + 30) (pz_z 1 8 (va_up (s.2 33) (p).toNat (0)))) = h7
        intro hA7 hk7 hr7 hF7 
        obtain ⟨kw, kh, kr, kc, ksr, ksc, kt, ko, kwa, kin, kwr, khi, krd, knu, kgi, kas, kfr, kra, kco, kof, kip⟩ := id hk7
        have e18 := congrFun (hr7.2.1 18 (by decide)) p.toNat
        have e19 := congrFun (hr7.2.1 19 (by decide)) p.toNat
        refine pw_goto (tgt := 158) dX10_question_45 rfl ?_
        exact pw_vret dX10_question_158 rfl (nle rfl) (nle rfl) ⟨rfl, s7, hA7, hk7, hr7, hF7, rfl⟩
      ·
        refine pw_iconst (v := zI (1)) dX10_question_39 (by decide) ?_
        refine pw_goto (tgt := 44) dX10_question_40 rfl ?_
        refine pw_zast (t := 1) rfl (mF33 hA) (by first | omega | exact mCell_b hp ko (by omega) (by omega) | exact mHis_b hp (by omega) (by omega)) (by decide) (by omega) dX10_question_44 ?_
        have hA8 : mAt B (mA 33 (va_up (s.2 33) (p).toNat (1)) s) (va_up h (B + 30) (pz_z 1 8 (va_up (s.2 33) (p).toNat (1)))) := mU33 hA
        have hk8 : mPk (mA 33 (va_up (s.2 33) (p).toNat (1)) s) p.toNat := mP33 hk (by omega)
        have hr8 : mPr p.toNat s (mA 33 (va_up (s.2 33) (p).toNat (1)) s) := mPr_tr mPr_rf (mPr_W (by decide) (by decide) (by decide))
        have hF8 : mFr B h (va_up h (B + 30) (pz_z 1 8 (va_up (s.2 33) (p).toNat (1)))) := mFr_tr mFr_rf (mFr_up (by decide))
        revert hA8 hk8 hr8 hF8 
        generalize (mA 33 (va_up (s.2 33) (p).toNat (1)) s) = s8
        generalize (va_up h (B + 30) (pz_z 1 8 (va_up (s.2 33) (p).toNat (1)))) = h8
        intro hA8 hk8 hr8 hF8 
        obtain ⟨kw, kh, kr, kc, ksr, ksc, kt, ko, kwa, kin, kwr, khi, krd, knu, kgi, kas, kfr, kra, kco, kof, kip⟩ := id hk8
        have e18 := congrFun (hr8.2.1 18 (by decide)) p.toNat
        have e19 := congrFun (hr8.2.1 19 (by decide)) p.toNat
        refine pw_goto (tgt := 158) dX10_question_45 rfl ?_
        exact pw_vret dX10_question_158 rfl (nle rfl) (nle rfl) ⟨rfl, s8, hA8, hk8, hr8, hF8, rfl⟩
  ·
    refine pw_iload_n dX10_question_15 rfl ?_
    refine pw_bipush (v := zI (108)) dX10_question_16 (by decide) ?_
    refine pw_icmp_eq (tgt := 22) dX10_question_18 rfl (by omega) (by omega) (fun c18 => ?_) (fun c18 => ?_)
    ·
      refine pw_iload_n dX10_question_22 rfl ?_
      refine pw_bipush (v := zI (7)) dX10_question_23 (by decide) ?_
      refine pw_icmp_ne (tgt := 48) dX10_question_25 rfl (by omega) (by omega) (fun c25 => ?_) (fun c25 => ?_)
      ·
        refine pw_iload_n dX10_question_48 rfl ?_
        refine pw_bipush (v := zI (25)) dX10_question_49 (by decide) ?_
        refine pw_icmp_ne (tgt := 74) dX10_question_51 rfl (by omega) (by omega) (fun c51 => ?_) (fun c51 => ?_)
        ·
          refine pw_iload_n dX10_question_74 rfl ?_
          refine pw_bipush (v := zI (47)) dX10_question_75 (by decide) ?_
          refine pw_icmp_ne (tgt := 158) dX10_question_77 rfl (by omega) (by omega) (fun c77 => ?_) (fun c77 => ?_)
          ·
            exact pw_vret dX10_question_158 rfl (nle rfl) (nle rfl) ⟨rfl, s, hA, hk, mPr_rf, mFr_rf, rfl⟩
          ·
            refine pw_aload_n dX10_question_80 rfl ?_
            refine pw_get (v := .ref (B + 19)) okX10 (k := 22) (by decide) lkX10_65 hA.1 rfl dX10_question_81 ?_
            refine pw_iload_n dX10_question_84 rfl ?_
            refine pw_zald (t := 1) rfl (mF22 hA) (by first | omega | exact mCell_b hp ko (by omega) (by omega) | exact mHis_b hp (by omega) (by omega)) (by decide) dX10_question_85 ?_
            refine pw_iload_n dX10_question_86 rfl ?_
            refine pw_bipush (v := zI (104)) dX10_question_87 (by decide) ?_
            refine pw_icmp_ne (tgt := 96) dX10_question_89 rfl (by omega) (by omega) (fun c89 => ?_) (fun c89 => ?_)
            ·
              refine pw_iconst (v := zI (0)) dX10_question_96 (by decide) ?_
              refine pw_icmp_eq (tgt := 158) dX10_question_97 rfl (by omega) (by omega) (fun c97 => ?_) (fun c97 => ?_)
              ·
                exact pw_vret dX10_question_158 rfl (nle rfl) (nle rfl) ⟨rfl, s, hA, hk, mPr_rf, mFr_rf, rfl⟩
              ·
                refine pw_aload_n dX10_question_100 rfl ?_
                refine pw_get (v := .ref (B + 19)) okX10 (k := 22) (by decide) lkX10_65 hA.1 rfl dX10_question_101 ?_
                refine pw_iload_n dX10_question_104 rfl ?_
                refine pw_iload_n dX10_question_105 rfl ?_
                refine pw_bipush (v := zI (104)) dX10_question_106 (by decide) ?_
                refine pw_icmp_ne (tgt := 115) dX10_question_108 rfl (by omega) (by omega) (fun c108 => ?_) (fun c108 => ?_)
                ·
                  refine pw_iconst (v := zI (0)) dX10_question_115 (by decide) ?_
                  refine pw_zast (t := 1) rfl (mF22 hA) (by first | omega | exact mCell_b hp ko (by omega) (by omega) | exact mHis_b hp (by omega) (by omega)) (by decide) (by omega) dX10_question_116 ?_
                  have hA9 : mAt B (mA 22 (va_up (s.2 22) (p).toNat (0)) s) (va_up h (B + 19) (pz_z 1 8 (va_up (s.2 22) (p).toNat (0)))) := mU22 hA
                  have hk9 : mPk (mA 22 (va_up (s.2 22) (p).toNat (0)) s) p.toNat := mP22 hk (by omega)
                  have hr9 : mPr p.toNat s (mA 22 (va_up (s.2 22) (p).toNat (0)) s) := mPr_tr mPr_rf (mPr_W (by decide) (by decide) (by decide))
                  have hF9 : mFr B h (va_up h (B + 19) (pz_z 1 8 (va_up (s.2 22) (p).toNat (0)))) := mFr_tr mFr_rf (mFr_up (by decide))
                  revert hA9 hk9 hr9 hF9 
                  generalize (mA 22 (va_up (s.2 22) (p).toNat (0)) s) = s9
                  generalize (va_up h (B + 19) (pz_z 1 8 (va_up (s.2 22) (p).toNat (0)))) = h9
                  intro hA9 hk9 hr9 hF9 
                  obtain ⟨kw, kh, kr, kc, ksr, ksc, kt, ko, kwa, kin, kwr, khi, krd, knu, kgi, kas, kfr, kra, kco, kof, kip⟩ := id hk9
                  have e18 := congrFun (hr9.2.1 18 (by decide)) p.toNat
                  have e19 := congrFun (hr9.2.1 19 (by decide)) p.toNat
                  refine pw_iconst (v := zI (0)) dX10_question_117 (by decide) ?_
                  refine pw_istore (lv' := [some (.ref B), some (.int (zI (p))), some (.int (zI (b))), some (.int (zI ((s.2 36) (4 * p).toNat))), some (.int (zI (0)))]) dX10_question_118 (by decide) rfl rfl ?_
                  refine lR_ques htr hp  ?_ _ 0 s9 h9 rfl (by omega) (by omega) hA9 hk9 hr9 hF9
                  intro _ s2 h2 z1 z2 z3 z4
                  exact ⟨rfl, s2, z1, z2, z3, z4, rfl⟩
                ·
                  refine pw_iconst (v := zI (1)) dX10_question_111 (by decide) ?_
                  refine pw_goto (tgt := 116) dX10_question_112 rfl ?_
                  refine pw_zast (t := 1) rfl (mF22 hA) (by first | omega | exact mCell_b hp ko (by omega) (by omega) | exact mHis_b hp (by omega) (by omega)) (by decide) (by omega) dX10_question_116 ?_
                  have hA10 : mAt B (mA 22 (va_up (s.2 22) (p).toNat (1)) s) (va_up h (B + 19) (pz_z 1 8 (va_up (s.2 22) (p).toNat (1)))) := mU22 hA
                  have hk10 : mPk (mA 22 (va_up (s.2 22) (p).toNat (1)) s) p.toNat := mP22 hk (by omega)
                  have hr10 : mPr p.toNat s (mA 22 (va_up (s.2 22) (p).toNat (1)) s) := mPr_tr mPr_rf (mPr_W (by decide) (by decide) (by decide))
                  have hF10 : mFr B h (va_up h (B + 19) (pz_z 1 8 (va_up (s.2 22) (p).toNat (1)))) := mFr_tr mFr_rf (mFr_up (by decide))
                  revert hA10 hk10 hr10 hF10 
                  generalize (mA 22 (va_up (s.2 22) (p).toNat (1)) s) = s10
                  generalize (va_up h (B + 19) (pz_z 1 8 (va_up (s.2 22) (p).toNat (1)))) = h10
                  intro hA10 hk10 hr10 hF10 
                  obtain ⟨kw, kh, kr, kc, ksr, ksc, kt, ko, kwa, kin, kwr, khi, krd, knu, kgi, kas, kfr, kra, kco, kof, kip⟩ := id hk10
                  have e18 := congrFun (hr10.2.1 18 (by decide)) p.toNat
                  have e19 := congrFun (hr10.2.1 19 (by decide)) p.toNat
                  refine pw_iconst (v := zI (0)) dX10_question_117 (by decide) ?_
                  refine pw_istore (lv' := [some (.ref B), some (.int (zI (p))), some (.int (zI (b))), some (.int (zI ((s.2 36) (4 * p).toNat))), some (.int (zI (0)))]) dX10_question_118 (by decide) rfl rfl ?_
                  refine lR_ques htr hp  ?_ _ 0 s10 h10 rfl (by omega) (by omega) hA10 hk10 hr10 hF10
                  intro _ s2 h2 z1 z2 z3 z4
                  exact ⟨rfl, s2, z1, z2, z3, z4, rfl⟩
            ·
              refine pw_iconst (v := zI (1)) dX10_question_92 (by decide) ?_
              refine pw_goto (tgt := 97) dX10_question_93 rfl ?_
              refine pw_icmp_eq (tgt := 158) dX10_question_97 rfl (by omega) (by omega) (fun c97 => ?_) (fun c97 => ?_)
              ·
                exact pw_vret dX10_question_158 rfl (nle rfl) (nle rfl) ⟨rfl, s, hA, hk, mPr_rf, mFr_rf, rfl⟩
              ·
                refine pw_aload_n dX10_question_100 rfl ?_
                refine pw_get (v := .ref (B + 19)) okX10 (k := 22) (by decide) lkX10_65 hA.1 rfl dX10_question_101 ?_
                refine pw_iload_n dX10_question_104 rfl ?_
                refine pw_iload_n dX10_question_105 rfl ?_
                refine pw_bipush (v := zI (104)) dX10_question_106 (by decide) ?_
                refine pw_icmp_ne (tgt := 115) dX10_question_108 rfl (by omega) (by omega) (fun c108 => ?_) (fun c108 => ?_)
                ·
                  refine pw_iconst (v := zI (0)) dX10_question_115 (by decide) ?_
                  refine pw_zast (t := 1) rfl (mF22 hA) (by first | omega | exact mCell_b hp ko (by omega) (by omega) | exact mHis_b hp (by omega) (by omega)) (by decide) (by omega) dX10_question_116 ?_
                  have hA11 : mAt B (mA 22 (va_up (s.2 22) (p).toNat (0)) s) (va_up h (B + 19) (pz_z 1 8 (va_up (s.2 22) (p).toNat (0)))) := mU22 hA
                  have hk11 : mPk (mA 22 (va_up (s.2 22) (p).toNat (0)) s) p.toNat := mP22 hk (by omega)
                  have hr11 : mPr p.toNat s (mA 22 (va_up (s.2 22) (p).toNat (0)) s) := mPr_tr mPr_rf (mPr_W (by decide) (by decide) (by decide))
                  have hF11 : mFr B h (va_up h (B + 19) (pz_z 1 8 (va_up (s.2 22) (p).toNat (0)))) := mFr_tr mFr_rf (mFr_up (by decide))
                  revert hA11 hk11 hr11 hF11 
                  generalize (mA 22 (va_up (s.2 22) (p).toNat (0)) s) = s11
                  generalize (va_up h (B + 19) (pz_z 1 8 (va_up (s.2 22) (p).toNat (0)))) = h11
                  intro hA11 hk11 hr11 hF11 
                  obtain ⟨kw, kh, kr, kc, ksr, ksc, kt, ko, kwa, kin, kwr, khi, krd, knu, kgi, kas, kfr, kra, kco, kof, kip⟩ := id hk11
                  have e18 := congrFun (hr11.2.1 18 (by decide)) p.toNat
                  have e19 := congrFun (hr11.2.1 19 (by decide)) p.toNat
                  refine pw_iconst (v := zI (0)) dX10_question_117 (by decide) ?_
                  refine pw_istore (lv' := [some (.ref B), some (.int (zI (p))), some (.int (zI (b))), some (.int (zI ((s.2 36) (4 * p).toNat))), some (.int (zI (0)))]) dX10_question_118 (by decide) rfl rfl ?_
                  refine lR_ques htr hp  ?_ _ 0 s11 h11 rfl (by omega) (by omega) hA11 hk11 hr11 hF11
                  intro _ s2 h2 z1 z2 z3 z4
                  exact ⟨rfl, s2, z1, z2, z3, z4, rfl⟩
                ·
                  refine pw_iconst (v := zI (1)) dX10_question_111 (by decide) ?_
                  refine pw_goto (tgt := 116) dX10_question_112 rfl ?_
                  refine pw_zast (t := 1) rfl (mF22 hA) (by first | omega | exact mCell_b hp ko (by omega) (by omega) | exact mHis_b hp (by omega) (by omega)) (by decide) (by omega) dX10_question_116 ?_
                  have hA12 : mAt B (mA 22 (va_up (s.2 22) (p).toNat (1)) s) (va_up h (B + 19) (pz_z 1 8 (va_up (s.2 22) (p).toNat (1)))) := mU22 hA
                  have hk12 : mPk (mA 22 (va_up (s.2 22) (p).toNat (1)) s) p.toNat := mP22 hk (by omega)
                  have hr12 : mPr p.toNat s (mA 22 (va_up (s.2 22) (p).toNat (1)) s) := mPr_tr mPr_rf (mPr_W (by decide) (by decide) (by decide))
                  have hF12 : mFr B h (va_up h (B + 19) (pz_z 1 8 (va_up (s.2 22) (p).toNat (1)))) := mFr_tr mFr_rf (mFr_up (by decide))
                  revert hA12 hk12 hr12 hF12 
                  generalize (mA 22 (va_up (s.2 22) (p).toNat (1)) s) = s12
                  generalize (va_up h (B + 19) (pz_z 1 8 (va_up (s.2 22) (p).toNat (1)))) = h12
                  intro hA12 hk12 hr12 hF12 
                  obtain ⟨kw, kh, kr, kc, ksr, ksc, kt, ko, kwa, kin, kwr, khi, krd, knu, kgi, kas, kfr, kra, kco, kof, kip⟩ := id hk12
                  have e18 := congrFun (hr12.2.1 18 (by decide)) p.toNat
                  have e19 := congrFun (hr12.2.1 19 (by decide)) p.toNat
                  refine pw_iconst (v := zI (0)) dX10_question_117 (by decide) ?_
                  refine pw_istore (lv' := [some (.ref B), some (.int (zI (p))), some (.int (zI (b))), some (.int (zI ((s.2 36) (4 * p).toNat))), some (.int (zI (0)))]) dX10_question_118 (by decide) rfl rfl ?_
                  refine lR_ques htr hp  ?_ _ 0 s12 h12 rfl (by omega) (by omega) hA12 hk12 hr12 hF12
                  intro _ s2 h2 z1 z2 z3 z4
                  exact ⟨rfl, s2, z1, z2, z3, z4, rfl⟩
        ·
          refine pw_aload_n dX10_question_54 rfl ?_
          refine pw_get (v := .ref (B + 31)) okX10 (k := 34) (by decide) lkX10_101 hA.1 rfl dX10_question_55 ?_
          refine pw_iload_n dX10_question_58 rfl ?_
          refine pw_iload_n dX10_question_59 rfl ?_
          refine pw_bipush (v := zI (108)) dX10_question_60 (by decide) ?_
          refine pw_icmp_ne (tgt := 69) dX10_question_62 rfl (by omega) (by omega) (fun c62 => ?_) (fun c62 => ?_)
          ·
            refine pw_iconst (v := zI (0)) dX10_question_69 (by decide) ?_
            refine pw_zast (t := 1) rfl (mF34 hA) (by first | omega | exact mCell_b hp ko (by omega) (by omega) | exact mHis_b hp (by omega) (by omega)) (by decide) (by omega) dX10_question_70 ?_
            have hA13 : mAt B (mA 34 (va_up (s.2 34) (p).toNat (0)) s) (va_up h (B + 31) (pz_z 1 8 (va_up (s.2 34) (p).toNat (0)))) := mU34 hA
            have hk13 : mPk (mA 34 (va_up (s.2 34) (p).toNat (0)) s) p.toNat := mP34 hk (by omega)
            have hr13 : mPr p.toNat s (mA 34 (va_up (s.2 34) (p).toNat (0)) s) := mPr_tr mPr_rf (mPr_W (by decide) (by decide) (by decide))
            have hF13 : mFr B h (va_up h (B + 31) (pz_z 1 8 (va_up (s.2 34) (p).toNat (0)))) := mFr_tr mFr_rf (mFr_up (by decide))
            revert hA13 hk13 hr13 hF13 
            generalize (mA 34 (va_up (s.2 34) (p).toNat (0)) s) = s13
            generalize (va_up h (B + 31) (pz_z 1 8 (va_up (s.2 34) (p).toNat (0)))) = h13
            intro hA13 hk13 hr13 hF13 
            obtain ⟨kw, kh, kr, kc, ksr, ksc, kt, ko, kwa, kin, kwr, khi, krd, knu, kgi, kas, kfr, kra, kco, kof, kip⟩ := id hk13
            have e18 := congrFun (hr13.2.1 18 (by decide)) p.toNat
            have e19 := congrFun (hr13.2.1 19 (by decide)) p.toNat
            refine pw_goto (tgt := 158) dX10_question_71 rfl ?_
            exact pw_vret dX10_question_158 rfl (nle rfl) (nle rfl) ⟨rfl, s13, hA13, hk13, hr13, hF13, rfl⟩
          ·
            refine pw_iconst (v := zI (1)) dX10_question_65 (by decide) ?_
            refine pw_goto (tgt := 70) dX10_question_66 rfl ?_
            refine pw_zast (t := 1) rfl (mF34 hA) (by first | omega | exact mCell_b hp ko (by omega) (by omega) | exact mHis_b hp (by omega) (by omega)) (by decide) (by omega) dX10_question_70 ?_
            have hA14 : mAt B (mA 34 (va_up (s.2 34) (p).toNat (1)) s) (va_up h (B + 31) (pz_z 1 8 (va_up (s.2 34) (p).toNat (1)))) := mU34 hA
            have hk14 : mPk (mA 34 (va_up (s.2 34) (p).toNat (1)) s) p.toNat := mP34 hk (by omega)
            have hr14 : mPr p.toNat s (mA 34 (va_up (s.2 34) (p).toNat (1)) s) := mPr_tr mPr_rf (mPr_W (by decide) (by decide) (by decide))
            have hF14 : mFr B h (va_up h (B + 31) (pz_z 1 8 (va_up (s.2 34) (p).toNat (1)))) := mFr_tr mFr_rf (mFr_up (by decide))
            revert hA14 hk14 hr14 hF14 
            generalize (mA 34 (va_up (s.2 34) (p).toNat (1)) s) = s14
            generalize (va_up h (B + 31) (pz_z 1 8 (va_up (s.2 34) (p).toNat (1)))) = h14
            intro hA14 hk14 hr14 hF14 
            obtain ⟨kw, kh, kr, kc, ksr, ksc, kt, ko, kwa, kin, kwr, khi, krd, knu, kgi, kas, kfr, kra, kco, kof, kip⟩ := id hk14
            have e18 := congrFun (hr14.2.1 18 (by decide)) p.toNat
            have e19 := congrFun (hr14.2.1 19 (by decide)) p.toNat
            refine pw_goto (tgt := 158) dX10_question_71 rfl ?_
            exact pw_vret dX10_question_158 rfl (nle rfl) (nle rfl) ⟨rfl, s14, hA14, hk14, hr14, hF14, rfl⟩
      ·
        refine pw_aload_n dX10_question_28 rfl ?_
        refine pw_get (v := .ref (B + 30)) okX10 (k := 33) (by decide) lkX10_98 hA.1 rfl dX10_question_29 ?_
        refine pw_iload_n dX10_question_32 rfl ?_
        refine pw_iload_n dX10_question_33 rfl ?_
        refine pw_bipush (v := zI (104)) dX10_question_34 (by decide) ?_
        refine pw_icmp_ne (tgt := 43) dX10_question_36 rfl (by omega) (by omega) (fun c36 => ?_) (fun c36 => ?_)
        ·
          refine pw_iconst (v := zI (0)) dX10_question_43 (by decide) ?_
          refine pw_zast (t := 1) rfl (mF33 hA) (by first | omega | exact mCell_b hp ko (by omega) (by omega) | exact mHis_b hp (by omega) (by omega)) (by decide) (by omega) dX10_question_44 ?_
          have hA15 : mAt B (mA 33 (va_up (s.2 33) (p).toNat (0)) s) (va_up h (B + 30) (pz_z 1 8 (va_up (s.2 33) (p).toNat (0)))) := mU33 hA
          have hk15 : mPk (mA 33 (va_up (s.2 33) (p).toNat (0)) s) p.toNat := mP33 hk (by omega)
          have hr15 : mPr p.toNat s (mA 33 (va_up (s.2 33) (p).toNat (0)) s) := mPr_tr mPr_rf (mPr_W (by decide) (by decide) (by decide))
          have hF15 : mFr B h (va_up h (B + 30) (pz_z 1 8 (va_up (s.2 33) (p).toNat (0)))) := mFr_tr mFr_rf (mFr_up (by decide))
          revert hA15 hk15 hr15 hF15 
          generalize (mA 33 (va_up (s.2 33) (p).toNat (0)) s) = s15
          generalize (va_up h (B + 30) (pz_z 1 8 (va_up (s.2 33) (p).toNat (0)))) = h15
          intro hA15 hk15 hr15 hF15 
          obtain ⟨kw, kh, kr, kc, ksr, ksc, kt, ko, kwa, kin, kwr, khi, krd, knu, kgi, kas, kfr, kra, kco, kof, kip⟩ := id hk15
          have e18 := congrFun (hr15.2.1 18 (by decide)) p.toNat
          have e19 := congrFun (hr15.2.1 19 (by decide)) p.toNat
          refine pw_goto (tgt := 158) dX10_question_45 rfl ?_
          exact pw_vret dX10_question_158 rfl (nle rfl) (nle rfl) ⟨rfl, s15, hA15, hk15, hr15, hF15, rfl⟩
        ·
          refine pw_iconst (v := zI (1)) dX10_question_39 (by decide) ?_
          refine pw_goto (tgt := 44) dX10_question_40 rfl ?_
          refine pw_zast (t := 1) rfl (mF33 hA) (by first | omega | exact mCell_b hp ko (by omega) (by omega) | exact mHis_b hp (by omega) (by omega)) (by decide) (by omega) dX10_question_44 ?_
          have hA16 : mAt B (mA 33 (va_up (s.2 33) (p).toNat (1)) s) (va_up h (B + 30) (pz_z 1 8 (va_up (s.2 33) (p).toNat (1)))) := mU33 hA
          have hk16 : mPk (mA 33 (va_up (s.2 33) (p).toNat (1)) s) p.toNat := mP33 hk (by omega)
          have hr16 : mPr p.toNat s (mA 33 (va_up (s.2 33) (p).toNat (1)) s) := mPr_tr mPr_rf (mPr_W (by decide) (by decide) (by decide))
          have hF16 : mFr B h (va_up h (B + 30) (pz_z 1 8 (va_up (s.2 33) (p).toNat (1)))) := mFr_tr mFr_rf (mFr_up (by decide))
          revert hA16 hk16 hr16 hF16 
          generalize (mA 33 (va_up (s.2 33) (p).toNat (1)) s) = s16
          generalize (va_up h (B + 30) (pz_z 1 8 (va_up (s.2 33) (p).toNat (1)))) = h16
          intro hA16 hk16 hr16 hF16 
          obtain ⟨kw, kh, kr, kc, ksr, ksc, kt, ko, kwa, kin, kwr, khi, krd, knu, kgi, kas, kfr, kra, kco, kof, kip⟩ := id hk16
          have e18 := congrFun (hr16.2.1 18 (by decide)) p.toNat
          have e19 := congrFun (hr16.2.1 19 (by decide)) p.toNat
          refine pw_goto (tgt := 158) dX10_question_45 rfl ?_
          exact pw_vret dX10_question_158 rfl (nle rfl) (nle rfl) ⟨rfl, s16, hA16, hk16, hr16, hF16, rfl⟩
    ·
      exact pw_vret dX10_question_21 rfl (nle rfl) (nle rfl) ⟨rfl, s, hA, hk, mPr_rf, mFr_rf, rfl⟩
set_option maxHeartbeats 2000000 in
set_option maxRecDepth 100000 in
theorem lR_act2 {E : pw_E} (htr : E.1.stackTraces = false) {Kk : pw_K} {n : Nat} {B : Nat} {s : mS} {h : pz_H} {p : Int} (hp : 0 ≤ p ∧ p < 8) {b z nn : Int} (h_b : -2147483648 ≤ b ∧ b < 2147483648) (hz : 0 ≤ z ∧ z ≤ 999) (hnn : 1 ≤ nn ∧ nn ≤ 999) (kk : ∀ (s2 : mS) (h2 : pz_H), mAt B s2 h2 → mPk s2 p.toNat → mPr p.toNat s s2 → mFr B h h2 → Kk.2.2.1 none h2 n) (s1 : mS) (h1 : pz_H) (hA : mAt B s1 h1) (hk : mPk s1 p.toNat) (hr : mPr p.toNat s s1) (hF : mFr B h h1) : pw E YX10_act (rmD 5 0 0) Kk 0 0 47 [some (.ref B), some (.int (zI (p))), some (.int (zI (b))), some (.int (zI (z))), some (.int (zI (nn))), none, none, none] [] h1 n := by
  have e18 := congrFun (hr.2.1 18 (by decide)) p.toNat
  have e19 := congrFun (hr.2.1 19 (by decide)) p.toNat
  obtain ⟨kw, kh, kr, kc, ksr, ksc, kt, ko, kwa, kin, kwr, khi, krd, knu, kgi, kas, kfr, kra, kco, kof, kip⟩ := id hk
  refine pw_aload_n dX10_act_47 rfl ?_
  refine pw_get (v := .ref (B + 33)) okX10 (k := 36) (by decide) lkX10_107 hA.1 rfl dX10_act_48 ?_
  refine pw_iconst (v := zI (4)) dX10_act_51 (by decide) ?_
  refine pw_iload_n dX10_act_52 rfl ?_
  refine pw_zimul dX10_act_53 ?_
  refine pw_iconst (v := zI (1)) dX10_act_54 (by decide) ?_
  refine pw_ziadd dX10_act_55 ?_
  refine pw_iald (t := 0) rfl (mF36 hA) (by first | omega | exact mCell_b hp ko (by omega) (by omega) | exact mHis_b hp (by omega) (by omega)) (by decide) dX10_act_56 ?_
  have hn57 := mNu (e := (4 * p) + (1)) hk hp (by omega)
  refine pw_istore (lv' := [some (.ref B), some (.int (zI (p))), some (.int (zI (b))), some (.int (zI (z))), some (.int (zI (nn))), some (.int (zI ((s1.2 36) ((4 * p) + (1)).toNat))), none, none]) dX10_act_57 (by decide) rfl rfl ?_
  refine pw_aload_n dX10_act_59 rfl ?_
  refine pw_get (v := .ref (B + 20)) okX10 (k := 23) (by decide) lkX10_68 hA.1 rfl dX10_act_60 ?_
  refine pw_iload_n dX10_act_63 rfl ?_
  refine pw_iald (t := 0) rfl (mF23 hA) (by first | omega | exact mCell_b hp ko (by omega) (by omega) | exact mHis_b hp (by omega) (by omega)) (by decide) dX10_act_64 ?_
  refine pw_istore (lv' := [some (.ref B), some (.int (zI (p))), some (.int (zI (b))), some (.int (zI (z))), some (.int (zI (nn))), some (.int (zI ((s1.2 36) ((4 * p) + (1)).toNat))), some (.int (zI ((s1.2 23) (p).toNat))), none]) dX10_act_65 (by decide) rfl rfl ?_
  refine pw_aload_n dX10_act_67 rfl ?_
  refine pw_get (v := .ref (B + 21)) okX10 (k := 24) (by decide) lkX10_71 hA.1 rfl dX10_act_68 ?_
  refine pw_iload_n dX10_act_71 rfl ?_
  refine pw_iald (t := 0) rfl (mF24 hA) (by first | omega | exact mCell_b hp ko (by omega) (by omega) | exact mHis_b hp (by omega) (by omega)) (by decide) dX10_act_72 ?_
  refine pw_istore (lv' := [some (.ref B), some (.int (zI (p))), some (.int (zI (b))), some (.int (zI (z))), some (.int (zI (nn))), some (.int (zI ((s1.2 36) ((4 * p) + (1)).toNat))), some (.int (zI ((s1.2 23) (p).toNat))), some (.int (zI ((s1.2 24) (p).toNat)))]) dX10_act_73 (by decide) rfl rfl ?_
  refine pw_iload_n dX10_act_75 rfl ?_
  refine pw_bipush (v := zI (65)) dX10_act_76 (by decide) ?_
  refine pw_icmp_ne (tgt := 96) dX10_act_78 rfl (by omega) (by omega) (fun c78 => ?_) (fun c78 => ?_)
  ·
    refine pw_iload_n dX10_act_96 rfl ?_
    refine pw_bipush (v := zI (66)) dX10_act_97 (by decide) ?_
    refine pw_icmp_ne (tgt := 117) dX10_act_99 rfl (by omega) (by omega) (fun c99 => ?_) (fun c99 => ?_)
    ·
      refine pw_iload_n dX10_act_117 rfl ?_
      refine pw_bipush (v := zI (67)) dX10_act_118 (by decide) ?_
      refine pw_icmp_ne (tgt := 138) dX10_act_120 rfl (by omega) (by omega) (fun c120 => ?_) (fun c120 => ?_)
      ·
        refine pw_iload_n dX10_act_138 rfl ?_
        refine pw_bipush (v := zI (68)) dX10_act_139 (by decide) ?_
        refine pw_icmp_ne (tgt := 159) dX10_act_141 rfl (by omega) (by omega) (fun c141 => ?_) (fun c141 => ?_)
        ·
          refine pw_iload_n dX10_act_159 rfl ?_
          refine pw_bipush (v := zI (71)) dX10_act_160 (by decide) ?_
          refine pw_icmp_ne (tgt := 179) dX10_act_162 rfl (by omega) (by omega) (fun c162 => ?_) (fun c162 => ?_)
          ·
            refine pw_iload_n dX10_act_179 rfl ?_
            refine pw_bipush (v := zI (100)) dX10_act_180 (by decide) ?_
            refine pw_icmp_ne (tgt := 199) dX10_act_182 rfl (by omega) (by omega) (fun c182 => ?_) (fun c182 => ?_)
            ·
              refine pw_iload_n dX10_act_199 rfl ?_
              refine pw_bipush (v := zI (72)) dX10_act_200 (by decide) ?_
              refine pw_icmp_eq (tgt := 211) dX10_act_202 rfl (by omega) (by omega) (fun c202 => ?_) (fun c202 => ?_)
              ·
                refine pw_aload_n dX10_act_211 rfl ?_
                refine pw_iload_n dX10_act_212 rfl ?_
                refine pw_iload dX10_act_213 rfl ?_
                refine pw_iconst (v := zI (1)) dX10_act_215 (by decide) ?_
                refine pw_zisub dX10_act_216 ?_
                refine pw_iload dX10_act_217 rfl ?_
                refine pw_if_ne (tgt := 226) dX10_act_219 rfl (by omega) (fun c219 => ?_) (fun c219 => ?_)
                ·
                  refine pw_iload dX10_act_226 rfl ?_
                  refine pw_iconst (v := zI (1)) dX10_act_228 (by decide) ?_
                  refine pw_zisub dX10_act_229 ?_
                  refine pw_callV (As := [.int (zI (p)), .int (zI (nn - 1)), .int (zI (((s1.2 36) ((4 * p) + (1)).toNat) - (1)))]) (b := B) (rm := rmD 1 0 0) (mR_moveTo htr hA hp hk (by omega) (by omega)) rfl hA.1 rfl rfl ywX10_moveTo rfl cwX10_261 ⟨nle rfl, nle rfl⟩ (nle rfl) ⟨nle rfl, nle rfl⟩ dX10_act_230 ?_ (fun _ _ _ z => z.elim)
                  intro r_9 h2 n_9 hq _
                  obtain ⟨e1, s2, hA2, hk2, hr20, hF20, e4⟩ := hq
                  rw [e1, e4]
                  show pw E YX10_act _ _ 0 0 233 [some (.ref B), some (.int (zI (p))), some (.int (zI (b))), some (.int (zI (z))), some (.int (zI (nn))), some (.int (zI ((s1.2 36) ((4 * p) + (1)).toNat))), some (.int (zI ((s1.2 23) (p).toNat))), some (.int (zI ((s1.2 24) (p).toNat)))] [] h2 n
                  have hr2 := mPr_tr hr hr20
                  have hF2 := mFr_tr hF hF20
                  obtain ⟨kw, kh, kr, kc, ksr, ksc, kt, ko, kwa, kin, kwr, khi, krd, knu, kgi, kas, kfr, kra, kco, kof, kip⟩ := id hk2
                  have e18 := congrFun (hr2.2.1 18 (by decide)) p.toNat
                  have e19 := congrFun (hr2.2.1 19 (by decide)) p.toNat
                  refine pw_goto (tgt := 592) dX10_act_233 rfl ?_
                  exact pw_vret dX10_act_592 rfl (nle rfl) (nle rfl) (kk s2 h2 hA2 hk2 hr2 hF2)
                ·
                  refine pw_iconst (v := zI (0)) dX10_act_222 (by decide) ?_
                  refine pw_goto (tgt := 230) dX10_act_223 rfl ?_
                  refine pw_callV (As := [.int (zI (p)), .int (zI (nn - 1)), .int (zI (0))]) (b := B) (rm := rmD 1 0 0) (mR_moveTo htr hA hp hk (by omega) (by omega)) rfl hA.1 rfl rfl ywX10_moveTo rfl cwX10_261 ⟨nle rfl, nle rfl⟩ (nle rfl) ⟨nle rfl, nle rfl⟩ dX10_act_230 ?_ (fun _ _ _ z => z.elim)
                  intro r_9 h3 n_9 hq _
                  obtain ⟨e1, s3, hA3, hk3, hr30, hF30, e4⟩ := hq
                  rw [e1, e4]
                  show pw E YX10_act _ _ 0 0 233 [some (.ref B), some (.int (zI (p))), some (.int (zI (b))), some (.int (zI (z))), some (.int (zI (nn))), some (.int (zI ((s1.2 36) ((4 * p) + (1)).toNat))), some (.int (zI ((s1.2 23) (p).toNat))), some (.int (zI ((s1.2 24) (p).toNat)))] [] h3 n
                  have hr3 := mPr_tr hr hr30
                  have hF3 := mFr_tr hF hF30
                  obtain ⟨kw, kh, kr, kc, ksr, ksc, kt, ko, kwa, kin, kwr, khi, krd, knu, kgi, kas, kfr, kra, kco, kof, kip⟩ := id hk3
                  have e18 := congrFun (hr3.2.1 18 (by decide)) p.toNat
                  have e19 := congrFun (hr3.2.1 19 (by decide)) p.toNat
                  refine pw_goto (tgt := 592) dX10_act_233 rfl ?_
                  exact pw_vret dX10_act_592 rfl (nle rfl) (nle rfl) (kk s3 h3 hA3 hk3 hr3 hF3)
              ·
                refine pw_iload_n dX10_act_205 rfl ?_
                refine pw_bipush (v := zI (102)) dX10_act_206 (by decide) ?_
                refine pw_icmp_ne (tgt := 236) dX10_act_208 rfl (by omega) (by omega) (fun c208 => ?_) (fun c208 => ?_)
                ·
                  refine pw_iload_n dX10_act_236 rfl ?_
                  refine pw_bipush (v := zI (74)) dX10_act_237 (by decide) ?_
                  refine pw_icmp_ne (tgt := 305) dX10_act_239 rfl (by omega) (by omega) (fun c239 => ?_) (fun c239 => ?_)
                  ·
                    refine pw_iload_n dX10_act_305 rfl ?_
                    refine pw_bipush (v := zI (75)) dX10_act_306 (by decide) ?_
                    refine pw_icmp_ne (tgt := 350) dX10_act_308 rfl (by omega) (by omega) (fun c308 => ?_) (fun c308 => ?_)
                    ·
                      refine pw_iload_n dX10_act_350 rfl ?_
                      refine pw_bipush (v := zI (88)) dX10_act_351 (by decide) ?_
                      refine pw_icmp_ne (tgt := 377) dX10_act_353 rfl (by omega) (by omega) (fun c353 => ?_) (fun c353 => ?_)
                      ·
                        refine pw_iload_n dX10_act_377 rfl ?_
                        refine pw_bipush (v := zI (64)) dX10_act_378 (by decide) ?_
                        refine pw_icmp_eq (tgt := 389) dX10_act_380 rfl (by omega) (by omega) (fun c380 => ?_) (fun c380 => ?_)
                        ·
                          refine pw_aload_n dX10_act_389 rfl ?_
                          refine pw_iload_n dX10_act_390 rfl ?_
                          refine pw_iload dX10_act_391 rfl ?_
                          refine pw_iload dX10_act_393 rfl ?_
                          refine pw_iload_n dX10_act_395 rfl ?_
                          refine pw_bipush (v := zI (64)) dX10_act_396 (by decide) ?_
                          refine pw_icmp_ne (tgt := 406) dX10_act_398 rfl (by omega) (by omega) (fun c398 => ?_) (fun c398 => ?_)
                          ·
                            refine pw_iload dX10_act_406 rfl ?_
                            refine pw_zineg dX10_act_408 ?_
                            refine pw_callV (As := [.int (zI (p)), .int (zI ((s1.2 23) (p).toNat)), .int (zI ((s1.2 24) (p).toNat)), .int (zI (-(nn)))]) (b := B) (rm := rmD 2 0 0) (mR_push htr hA hp hk (by omega) (by omega) (by omega)) rfl hA.1 rfl rfl ywX10_push rfl cwX10_258 ⟨nle rfl, nle rfl⟩ (nle rfl) ⟨nle rfl, nle rfl⟩ dX10_act_409 ?_ (fun _ _ _ z => z.elim)
                            intro r_9 h4 n_9 hq _
                            obtain ⟨e1, s4, hA4, hk4, hr40, hF40, e4⟩ := hq
                            rw [e1, e4]
                            show pw E YX10_act _ _ 0 0 412 [some (.ref B), some (.int (zI (p))), some (.int (zI (b))), some (.int (zI (z))), some (.int (zI (nn))), some (.int (zI ((s1.2 36) ((4 * p) + (1)).toNat))), some (.int (zI ((s1.2 23) (p).toNat))), some (.int (zI ((s1.2 24) (p).toNat)))] [] h4 n
                            have hr4 := mPr_tr hr hr40
                            have hF4 := mFr_tr hF hF40
                            obtain ⟨kw, kh, kr, kc, ksr, ksc, kt, ko, kwa, kin, kwr, khi, krd, knu, kgi, kas, kfr, kra, kco, kof, kip⟩ := id hk4
                            have e18 := congrFun (hr4.2.1 18 (by decide)) p.toNat
                            have e19 := congrFun (hr4.2.1 19 (by decide)) p.toNat
                            refine pw_aload_n dX10_act_412 rfl ?_
                            refine pw_get (v := .ref (B + 28)) okX10 (k := 31) (by decide) lkX10_92 hA4.1 rfl dX10_act_413 ?_
                            refine pw_iload_n dX10_act_416 rfl ?_
                            refine pw_iconst (v := zI (0)) dX10_act_417 (by decide) ?_
                            refine pw_zast (t := 1) rfl (mF31 hA4) (by first | omega | exact mCell_b hp ko (by omega) (by omega) | exact mHis_b hp (by omega) (by omega)) (by decide) (by omega) dX10_act_418 ?_
                            have hA5 : mAt B (mA 31 (va_up (s4.2 31) (p).toNat (0)) s4) (va_up h4 (B + 28) (pz_z 1 8 (va_up (s4.2 31) (p).toNat (0)))) := mU31 hA4
                            have hk5 : mPk (mA 31 (va_up (s4.2 31) (p).toNat (0)) s4) p.toNat := mP31 hk4 (by omega)
                            have hr5 : mPr p.toNat s (mA 31 (va_up (s4.2 31) (p).toNat (0)) s4) := mPr_tr hr4 (mPr_W (by decide) (by decide) (by decide))
                            have hF5 : mFr B h (va_up h4 (B + 28) (pz_z 1 8 (va_up (s4.2 31) (p).toNat (0)))) := mFr_tr hF4 (mFr_up (by decide))
                            revert hA5 hk5 hr5 hF5 
                            generalize (mA 31 (va_up (s4.2 31) (p).toNat (0)) s4) = s5
                            generalize (va_up h4 (B + 28) (pz_z 1 8 (va_up (s4.2 31) (p).toNat (0)))) = h5
                            intro hA5 hk5 hr5 hF5 
                            obtain ⟨kw, kh, kr, kc, ksr, ksc, kt, ko, kwa, kin, kwr, khi, krd, knu, kgi, kas, kfr, kra, kco, kof, kip⟩ := id hk5
                            have e18 := congrFun (hr5.2.1 18 (by decide)) p.toNat
                            have e19 := congrFun (hr5.2.1 19 (by decide)) p.toNat
                            refine pw_goto (tgt := 592) dX10_act_419 rfl ?_
                            exact pw_vret dX10_act_592 rfl (nle rfl) (nle rfl) (kk s5 h5 hA5 hk5 hr5 hF5)
                          ·
                            refine pw_iload dX10_act_401 rfl ?_
                            refine pw_goto (tgt := 409) dX10_act_403 rfl ?_
                            refine pw_callV (As := [.int (zI (p)), .int (zI ((s1.2 23) (p).toNat)), .int (zI ((s1.2 24) (p).toNat)), .int (zI (nn))]) (b := B) (rm := rmD 2 0 0) (mR_push htr hA hp hk (by omega) (by omega) (by omega)) rfl hA.1 rfl rfl ywX10_push rfl cwX10_258 ⟨nle rfl, nle rfl⟩ (nle rfl) ⟨nle rfl, nle rfl⟩ dX10_act_409 ?_ (fun _ _ _ z => z.elim)
                            intro r_9 h6 n_9 hq _
                            obtain ⟨e1, s6, hA6, hk6, hr60, hF60, e4⟩ := hq
                            rw [e1, e4]
                            show pw E YX10_act _ _ 0 0 412 [some (.ref B), some (.int (zI (p))), some (.int (zI (b))), some (.int (zI (z))), some (.int (zI (nn))), some (.int (zI ((s1.2 36) ((4 * p) + (1)).toNat))), some (.int (zI ((s1.2 23) (p).toNat))), some (.int (zI ((s1.2 24) (p).toNat)))] [] h6 n
                            have hr6 := mPr_tr hr hr60
                            have hF6 := mFr_tr hF hF60
                            obtain ⟨kw, kh, kr, kc, ksr, ksc, kt, ko, kwa, kin, kwr, khi, krd, knu, kgi, kas, kfr, kra, kco, kof, kip⟩ := id hk6
                            have e18 := congrFun (hr6.2.1 18 (by decide)) p.toNat
                            have e19 := congrFun (hr6.2.1 19 (by decide)) p.toNat
                            refine pw_aload_n dX10_act_412 rfl ?_
                            refine pw_get (v := .ref (B + 28)) okX10 (k := 31) (by decide) lkX10_92 hA6.1 rfl dX10_act_413 ?_
                            refine pw_iload_n dX10_act_416 rfl ?_
                            refine pw_iconst (v := zI (0)) dX10_act_417 (by decide) ?_
                            refine pw_zast (t := 1) rfl (mF31 hA6) (by first | omega | exact mCell_b hp ko (by omega) (by omega) | exact mHis_b hp (by omega) (by omega)) (by decide) (by omega) dX10_act_418 ?_
                            have hA7 : mAt B (mA 31 (va_up (s6.2 31) (p).toNat (0)) s6) (va_up h6 (B + 28) (pz_z 1 8 (va_up (s6.2 31) (p).toNat (0)))) := mU31 hA6
                            have hk7 : mPk (mA 31 (va_up (s6.2 31) (p).toNat (0)) s6) p.toNat := mP31 hk6 (by omega)
                            have hr7 : mPr p.toNat s (mA 31 (va_up (s6.2 31) (p).toNat (0)) s6) := mPr_tr hr6 (mPr_W (by decide) (by decide) (by decide))
                            have hF7 : mFr B h (va_up h6 (B + 28) (pz_z 1 8 (va_up (s6.2 31) (p).toNat (0)))) := mFr_tr hF6 (mFr_up (by decide))
                            revert hA7 hk7 hr7 hF7 
                            generalize (mA 31 (va_up (s6.2 31) (p).toNat (0)) s6) = s7
                            generalize (va_up h6 (B + 28) (pz_z 1 8 (va_up (s6.2 31) (p).toNat (0)))) = h7
                            intro hA7 hk7 hr7 hF7 
                            obtain ⟨kw, kh, kr, kc, ksr, ksc, kt, ko, kwa, kin, kwr, khi, krd, knu, kgi, kas, kfr, kra, kco, kof, kip⟩ := id hk7
                            have e18 := congrFun (hr7.2.1 18 (by decide)) p.toNat
                            have e19 := congrFun (hr7.2.1 19 (by decide)) p.toNat
                            refine pw_goto (tgt := 592) dX10_act_419 rfl ?_
                            exact pw_vret dX10_act_592 rfl (nle rfl) (nle rfl) (kk s7 h7 hA7 hk7 hr7 hF7)
                        ·
                          refine pw_iload_n dX10_act_383 rfl ?_
                          refine pw_bipush (v := zI (80)) dX10_act_384 (by decide) ?_
                          refine pw_icmp_ne (tgt := 422) dX10_act_386 rfl (by omega) (by omega) (fun c386 => ?_) (fun c386 => ?_)
                          ·
                            refine pw_iload_n dX10_act_422 rfl ?_
                            refine pw_bipush (v := zI (76)) dX10_act_423 (by decide) ?_
                            refine pw_icmp_eq (tgt := 434) dX10_act_425 rfl (by omega) (by omega) (fun c425 => ?_) (fun c425 => ?_)
                            ·
                              refine pw_aload_n dX10_act_434 rfl ?_
                              refine pw_iload_n dX10_act_435 rfl ?_
                              refine pw_iload_n dX10_act_436 rfl ?_
                              refine pw_bipush (v := zI (76)) dX10_act_437 (by decide) ?_
                              refine pw_icmp_ne (tgt := 446) dX10_act_439 rfl (by omega) (by omega) (fun c439 => ?_) (fun c439 => ?_)
                              ·
                                refine pw_iconst (v := zI (0)) dX10_act_446 (by decide) ?_
                                refine pw_iload dX10_act_447 rfl ?_
                                refine pw_callV (As := [.int (zI (p)), .int (zI (0)), .int (zI (nn))]) (b := B) (rm := rmD 4 0 0) (mR_lines htr hA hp hk (by omega) (by omega)) rfl hA.1 rfl rfl ywX10_lines rfl cwX10_292 ⟨nle rfl, nle rfl⟩ (nle rfl) ⟨nle rfl, nle rfl⟩ dX10_act_449 ?_ (fun _ _ _ z => z.elim)
                                intro r_9 h8 n_9 hq _
                                obtain ⟨e1, s8, hA8, hk8, hr80, hF80, e4⟩ := hq
                                rw [e1, e4]
                                show pw E YX10_act _ _ 0 0 452 [some (.ref B), some (.int (zI (p))), some (.int (zI (b))), some (.int (zI (z))), some (.int (zI (nn))), some (.int (zI ((s1.2 36) ((4 * p) + (1)).toNat))), some (.int (zI ((s1.2 23) (p).toNat))), some (.int (zI ((s1.2 24) (p).toNat)))] [] h8 n
                                have hr8 := mPr_tr hr hr80
                                have hF8 := mFr_tr hF hF80
                                obtain ⟨kw, kh, kr, kc, ksr, ksc, kt, ko, kwa, kin, kwr, khi, krd, knu, kgi, kas, kfr, kra, kco, kof, kip⟩ := id hk8
                                have e18 := congrFun (hr8.2.1 18 (by decide)) p.toNat
                                have e19 := congrFun (hr8.2.1 19 (by decide)) p.toNat
                                refine pw_goto (tgt := 592) dX10_act_452 rfl ?_
                                exact pw_vret dX10_act_592 rfl (nle rfl) (nle rfl) (kk s8 h8 hA8 hk8 hr8 hF8)
                              ·
                                refine pw_iconst (v := zI (1)) dX10_act_442 (by decide) ?_
                                refine pw_goto (tgt := 447) dX10_act_443 rfl ?_
                                refine pw_iload dX10_act_447 rfl ?_
                                refine pw_callV (As := [.int (zI (p)), .int (zI (1)), .int (zI (nn))]) (b := B) (rm := rmD 4 0 0) (mR_lines htr hA hp hk (by omega) (by omega)) rfl hA.1 rfl rfl ywX10_lines rfl cwX10_292 ⟨nle rfl, nle rfl⟩ (nle rfl) ⟨nle rfl, nle rfl⟩ dX10_act_449 ?_ (fun _ _ _ z => z.elim)
                                intro r_9 h9 n_9 hq _
                                obtain ⟨e1, s9, hA9, hk9, hr90, hF90, e4⟩ := hq
                                rw [e1, e4]
                                show pw E YX10_act _ _ 0 0 452 [some (.ref B), some (.int (zI (p))), some (.int (zI (b))), some (.int (zI (z))), some (.int (zI (nn))), some (.int (zI ((s1.2 36) ((4 * p) + (1)).toNat))), some (.int (zI ((s1.2 23) (p).toNat))), some (.int (zI ((s1.2 24) (p).toNat)))] [] h9 n
                                have hr9 := mPr_tr hr hr90
                                have hF9 := mFr_tr hF hF90
                                obtain ⟨kw, kh, kr, kc, ksr, ksc, kt, ko, kwa, kin, kwr, khi, krd, knu, kgi, kas, kfr, kra, kco, kof, kip⟩ := id hk9
                                have e18 := congrFun (hr9.2.1 18 (by decide)) p.toNat
                                have e19 := congrFun (hr9.2.1 19 (by decide)) p.toNat
                                refine pw_goto (tgt := 592) dX10_act_452 rfl ?_
                                exact pw_vret dX10_act_592 rfl (nle rfl) (nle rfl) (kk s9 h9 hA9 hk9 hr9 hF9)
                            ·
                              refine pw_iload_n dX10_act_428 rfl ?_
                              refine pw_bipush (v := zI (77)) dX10_act_429 (by decide) ?_
                              refine pw_icmp_ne (tgt := 455) dX10_act_431 rfl (by omega) (by omega) (fun c431 => ?_) (fun c431 => ?_)
                              ·
                                refine pw_iload_n dX10_act_455 rfl ?_
                                refine pw_bipush (v := zI (83)) dX10_act_456 (by decide) ?_
                                refine pw_icmp_ne (tgt := 491) dX10_act_458 rfl (by omega) (by omega) (fun c458 => ?_) (fun c458 => ?_)
                                ·
                                  refine pw_iload_n dX10_act_491 rfl ?_
                                  refine pw_bipush (v := zI (84)) dX10_act_492 (by decide) ?_
                                  refine pw_icmp_ne (tgt := 526) dX10_act_494 rfl (by omega) (by omega) (fun c494 => ?_) (fun c494 => ?_)
                                  ·
                                    refine pw_iload_n dX10_act_526 rfl ?_
                                    refine pw_bipush (v := zI (114)) dX10_act_527 (by decide) ?_
                                    refine pw_icmp_ne (tgt := 544) dX10_act_529 rfl (by omega) (by omega) (fun c529 => ?_) (fun c529 => ?_)
                                    ·
                                      refine pw_iload_n dX10_act_544 rfl ?_
                                      refine pw_bipush (v := zI (109)) dX10_act_545 (by decide) ?_
                                      refine pw_icmp_ne (tgt := 558) dX10_act_547 rfl (by omega) (by omega) (fun c547 => ?_) (fun c547 => ?_)
                                      ·
                                        refine pw_iload_n dX10_act_558 rfl ?_
                                        refine pw_bipush (v := zI (104)) dX10_act_559 (by decide) ?_
                                        refine pw_icmp_eq (tgt := 570) dX10_act_561 rfl (by omega) (by omega) (fun c561 => ?_) (fun c561 => ?_)
                                        ·
                                          refine pw_iload_n dX10_act_570 rfl ?_
                                          refine pw_iconst (v := zI (4)) dX10_act_571 (by decide) ?_
                                          refine pw_icmp_ne (tgt := 592) dX10_act_572 rfl (by omega) (by omega) (fun c572 => ?_) (fun c572 => ?_)
                                          ·
                                            exact pw_vret dX10_act_592 rfl (nle rfl) (nle rfl) (kk s1 h1 hA hk hr hF)
                                          ·
                                            refine pw_aload_n dX10_act_575 rfl ?_
                                            refine pw_get (v := .ref (B + 29)) okX10 (k := 32) (by decide) lkX10_95 hA.1 rfl dX10_act_576 ?_
                                            refine pw_iload_n dX10_act_579 rfl ?_
                                            refine pw_iload_n dX10_act_580 rfl ?_
                                            refine pw_bipush (v := zI (104)) dX10_act_581 (by decide) ?_
                                            refine pw_icmp_ne (tgt := 590) dX10_act_583 rfl (by omega) (by omega) (fun c583 => ?_) (fun c583 => ?_)
                                            ·
                                              refine pw_iconst (v := zI (0)) dX10_act_590 (by decide) ?_
                                              refine pw_zast (t := 1) rfl (mF32 hA) (by first | omega | exact mCell_b hp ko (by omega) (by omega) | exact mHis_b hp (by omega) (by omega)) (by decide) (by omega) dX10_act_591 ?_
                                              have hA10 : mAt B (mA 32 (va_up (s1.2 32) (p).toNat (0)) s1) (va_up h1 (B + 29) (pz_z 1 8 (va_up (s1.2 32) (p).toNat (0)))) := mU32 hA
                                              have hk10 : mPk (mA 32 (va_up (s1.2 32) (p).toNat (0)) s1) p.toNat := mP32 hk (by omega)
                                              have hr10 : mPr p.toNat s (mA 32 (va_up (s1.2 32) (p).toNat (0)) s1) := mPr_tr hr (mPr_W (by decide) (by decide) (by decide))
                                              have hF10 : mFr B h (va_up h1 (B + 29) (pz_z 1 8 (va_up (s1.2 32) (p).toNat (0)))) := mFr_tr hF (mFr_up (by decide))
                                              revert hA10 hk10 hr10 hF10 
                                              generalize (mA 32 (va_up (s1.2 32) (p).toNat (0)) s1) = s10
                                              generalize (va_up h1 (B + 29) (pz_z 1 8 (va_up (s1.2 32) (p).toNat (0)))) = h10
                                              intro hA10 hk10 hr10 hF10 
                                              obtain ⟨kw, kh, kr, kc, ksr, ksc, kt, ko, kwa, kin, kwr, khi, krd, knu, kgi, kas, kfr, kra, kco, kof, kip⟩ := id hk10
                                              have e18 := congrFun (hr10.2.1 18 (by decide)) p.toNat
                                              have e19 := congrFun (hr10.2.1 19 (by decide)) p.toNat
                                              exact pw_vret dX10_act_592 rfl (nle rfl) (nle rfl) (kk s10 h10 hA10 hk10 hr10 hF10)
                                            ·
                                              refine pw_iconst (v := zI (1)) dX10_act_586 (by decide) ?_
                                              refine pw_goto (tgt := 591) dX10_act_587 rfl ?_
                                              refine pw_zast (t := 1) rfl (mF32 hA) (by first | omega | exact mCell_b hp ko (by omega) (by omega) | exact mHis_b hp (by omega) (by omega)) (by decide) (by omega) dX10_act_591 ?_
                                              have hA11 : mAt B (mA 32 (va_up (s1.2 32) (p).toNat (1)) s1) (va_up h1 (B + 29) (pz_z 1 8 (va_up (s1.2 32) (p).toNat (1)))) := mU32 hA
                                              have hk11 : mPk (mA 32 (va_up (s1.2 32) (p).toNat (1)) s1) p.toNat := mP32 hk (by omega)
                                              have hr11 : mPr p.toNat s (mA 32 (va_up (s1.2 32) (p).toNat (1)) s1) := mPr_tr hr (mPr_W (by decide) (by decide) (by decide))
                                              have hF11 : mFr B h (va_up h1 (B + 29) (pz_z 1 8 (va_up (s1.2 32) (p).toNat (1)))) := mFr_tr hF (mFr_up (by decide))
                                              revert hA11 hk11 hr11 hF11 
                                              generalize (mA 32 (va_up (s1.2 32) (p).toNat (1)) s1) = s11
                                              generalize (va_up h1 (B + 29) (pz_z 1 8 (va_up (s1.2 32) (p).toNat (1)))) = h11
                                              intro hA11 hk11 hr11 hF11 
                                              obtain ⟨kw, kh, kr, kc, ksr, ksc, kt, ko, kwa, kin, kwr, khi, krd, knu, kgi, kas, kfr, kra, kco, kof, kip⟩ := id hk11
                                              have e18 := congrFun (hr11.2.1 18 (by decide)) p.toNat
                                              have e19 := congrFun (hr11.2.1 19 (by decide)) p.toNat
                                              exact pw_vret dX10_act_592 rfl (nle rfl) (nle rfl) (kk s11 h11 hA11 hk11 hr11 hF11)
                                        ·
                                          refine pw_iload_n dX10_act_564 rfl ?_
                                          refine pw_bipush (v := zI (108)) dX10_act_565 (by decide) ?_
                                          refine pw_icmp_ne (tgt := 592) dX10_act_567 rfl (by omega) (by omega) (fun c567 => ?_) (fun c567 => ?_)
                                          ·
                                            exact pw_vret dX10_act_592 rfl (nle rfl) (nle rfl) (kk s1 h1 hA hk hr hF)
                                          ·
                                            refine pw_iload_n dX10_act_570 rfl ?_
                                            refine pw_iconst (v := zI (4)) dX10_act_571 (by decide) ?_
                                            refine pw_icmp_ne (tgt := 592) dX10_act_572 rfl (by omega) (by omega) (fun c572 => ?_) (fun c572 => ?_)
                                            ·
                                              exact pw_vret dX10_act_592 rfl (nle rfl) (nle rfl) (kk s1 h1 hA hk hr hF)
                                            ·
                                              refine pw_aload_n dX10_act_575 rfl ?_
                                              refine pw_get (v := .ref (B + 29)) okX10 (k := 32) (by decide) lkX10_95 hA.1 rfl dX10_act_576 ?_
                                              refine pw_iload_n dX10_act_579 rfl ?_
                                              refine pw_iload_n dX10_act_580 rfl ?_
                                              refine pw_bipush (v := zI (104)) dX10_act_581 (by decide) ?_
                                              refine pw_icmp_ne (tgt := 590) dX10_act_583 rfl (by omega) (by omega) (fun c583 => ?_) (fun c583 => ?_)
                                              ·
                                                refine pw_iconst (v := zI (0)) dX10_act_590 (by decide) ?_
                                                refine pw_zast (t := 1) rfl (mF32 hA) (by first | omega | exact mCell_b hp ko (by omega) (by omega) | exact mHis_b hp (by omega) (by omega)) (by decide) (by omega) dX10_act_591 ?_
                                                have hA12 : mAt B (mA 32 (va_up (s1.2 32) (p).toNat (0)) s1) (va_up h1 (B + 29) (pz_z 1 8 (va_up (s1.2 32) (p).toNat (0)))) := mU32 hA
                                                have hk12 : mPk (mA 32 (va_up (s1.2 32) (p).toNat (0)) s1) p.toNat := mP32 hk (by omega)
                                                have hr12 : mPr p.toNat s (mA 32 (va_up (s1.2 32) (p).toNat (0)) s1) := mPr_tr hr (mPr_W (by decide) (by decide) (by decide))
                                                have hF12 : mFr B h (va_up h1 (B + 29) (pz_z 1 8 (va_up (s1.2 32) (p).toNat (0)))) := mFr_tr hF (mFr_up (by decide))
                                                revert hA12 hk12 hr12 hF12 
                                                generalize (mA 32 (va_up (s1.2 32) (p).toNat (0)) s1) = s12
                                                generalize (va_up h1 (B + 29) (pz_z 1 8 (va_up (s1.2 32) (p).toNat (0)))) = h12
                                                intro hA12 hk12 hr12 hF12 
                                                obtain ⟨kw, kh, kr, kc, ksr, ksc, kt, ko, kwa, kin, kwr, khi, krd, knu, kgi, kas, kfr, kra, kco, kof, kip⟩ := id hk12
                                                have e18 := congrFun (hr12.2.1 18 (by decide)) p.toNat
                                                have e19 := congrFun (hr12.2.1 19 (by decide)) p.toNat
                                                exact pw_vret dX10_act_592 rfl (nle rfl) (nle rfl) (kk s12 h12 hA12 hk12 hr12 hF12)
                                              ·
                                                refine pw_iconst (v := zI (1)) dX10_act_586 (by decide) ?_
                                                refine pw_goto (tgt := 591) dX10_act_587 rfl ?_
                                                refine pw_zast (t := 1) rfl (mF32 hA) (by first | omega | exact mCell_b hp ko (by omega) (by omega) | exact mHis_b hp (by omega) (by omega)) (by decide) (by omega) dX10_act_591 ?_
                                                have hA13 : mAt B (mA 32 (va_up (s1.2 32) (p).toNat (1)) s1) (va_up h1 (B + 29) (pz_z 1 8 (va_up (s1.2 32) (p).toNat (1)))) := mU32 hA
                                                have hk13 : mPk (mA 32 (va_up (s1.2 32) (p).toNat (1)) s1) p.toNat := mP32 hk (by omega)
                                                have hr13 : mPr p.toNat s (mA 32 (va_up (s1.2 32) (p).toNat (1)) s1) := mPr_tr hr (mPr_W (by decide) (by decide) (by decide))
                                                have hF13 : mFr B h (va_up h1 (B + 29) (pz_z 1 8 (va_up (s1.2 32) (p).toNat (1)))) := mFr_tr hF (mFr_up (by decide))
                                                revert hA13 hk13 hr13 hF13 
                                                generalize (mA 32 (va_up (s1.2 32) (p).toNat (1)) s1) = s13
                                                generalize (va_up h1 (B + 29) (pz_z 1 8 (va_up (s1.2 32) (p).toNat (1)))) = h13
                                                intro hA13 hk13 hr13 hF13 
                                                obtain ⟨kw, kh, kr, kc, ksr, ksc, kt, ko, kwa, kin, kwr, khi, krd, knu, kgi, kas, kfr, kra, kco, kof, kip⟩ := id hk13
                                                have e18 := congrFun (hr13.2.1 18 (by decide)) p.toNat
                                                have e19 := congrFun (hr13.2.1 19 (by decide)) p.toNat
                                                exact pw_vret dX10_act_592 rfl (nle rfl) (nle rfl) (kk s13 h13 hA13 hk13 hr13 hF13)
                                      ·
                                        refine pw_aload_n dX10_act_550 rfl ?_
                                        refine pw_iload_n dX10_act_551 rfl ?_
                                        refine pw_callV (As := [.int (zI (p))]) (b := B) (rm := rmD 1 0 0) (mR_pens htr hA hp hk) rfl hA.1 rfl rfl ywX10_pens rfl cwX10_299 ⟨nle rfl, nle rfl⟩ (nle rfl) ⟨nle rfl, nle rfl⟩ dX10_act_552 ?_ (fun _ _ _ z => z.elim)
                                        intro r_9 h14 n_9 hq _
                                        obtain ⟨e1, s14, hA14, hk14, hr140, hF140, e4⟩ := hq
                                        rw [e1, e4]
                                        show pw E YX10_act _ _ 0 0 555 [some (.ref B), some (.int (zI (p))), some (.int (zI (b))), some (.int (zI (z))), some (.int (zI (nn))), some (.int (zI ((s1.2 36) ((4 * p) + (1)).toNat))), some (.int (zI ((s1.2 23) (p).toNat))), some (.int (zI ((s1.2 24) (p).toNat)))] [] h14 n
                                        have hr14 := mPr_tr hr hr140
                                        have hF14 := mFr_tr hF hF140
                                        obtain ⟨kw, kh, kr, kc, ksr, ksc, kt, ko, kwa, kin, kwr, khi, krd, knu, kgi, kas, kfr, kra, kco, kof, kip⟩ := id hk14
                                        have e18 := congrFun (hr14.2.1 18 (by decide)) p.toNat
                                        have e19 := congrFun (hr14.2.1 19 (by decide)) p.toNat
                                        refine pw_goto (tgt := 592) dX10_act_555 rfl ?_
                                        exact pw_vret dX10_act_592 rfl (nle rfl) (nle rfl) (kk s14 h14 hA14 hk14 hr14 hF14)
                                    ·
                                      refine pw_aload_n dX10_act_532 rfl ?_
                                      refine pw_iload_n dX10_act_533 rfl ?_
                                      refine pw_iload dX10_act_534 rfl ?_
                                      refine pw_iload dX10_act_536 rfl ?_
                                      refine pw_callV (As := [.int (zI (p)), .int (zI (nn)), .int (zI ((s1.2 36) ((4 * p) + (1)).toNat))]) (b := B) (rm := rmD 2 0 0) (mR_region htr hA hp hk (by omega) (by omega)) rfl hA.1 rfl rfl ywX10_region rfl cwX10_296 ⟨nle rfl, nle rfl⟩ (nle rfl) ⟨nle rfl, nle rfl⟩ dX10_act_538 ?_ (fun _ _ _ z => z.elim)
                                      intro r_9 h15 n_9 hq _
                                      obtain ⟨e1, s15, hA15, hk15, hr150, hF150, e4⟩ := hq
                                      rw [e1, e4]
                                      show pw E YX10_act _ _ 0 0 541 [some (.ref B), some (.int (zI (p))), some (.int (zI (b))), some (.int (zI (z))), some (.int (zI (nn))), some (.int (zI ((s1.2 36) ((4 * p) + (1)).toNat))), some (.int (zI ((s1.2 23) (p).toNat))), some (.int (zI ((s1.2 24) (p).toNat)))] [] h15 n
                                      have hr15 := mPr_tr hr hr150
                                      have hF15 := mFr_tr hF hF150
                                      obtain ⟨kw, kh, kr, kc, ksr, ksc, kt, ko, kwa, kin, kwr, khi, krd, knu, kgi, kas, kfr, kra, kco, kof, kip⟩ := id hk15
                                      have e18 := congrFun (hr15.2.1 18 (by decide)) p.toNat
                                      have e19 := congrFun (hr15.2.1 19 (by decide)) p.toNat
                                      refine pw_goto (tgt := 592) dX10_act_541 rfl ?_
                                      exact pw_vret dX10_act_592 rfl (nle rfl) (nle rfl) (kk s15 h15 hA15 hk15 hr15 hF15)
                                  ·
                                    refine pw_aload_n dX10_act_497 rfl ?_
                                    refine pw_iload_n dX10_act_498 rfl ?_
                                    refine pw_aload_n dX10_act_499 rfl ?_
                                    refine pw_get (v := .ref (B + 26)) okX10 (k := 29) (by decide) lkX10_86 hA.1 rfl dX10_act_500 ?_
                                    refine pw_iload_n dX10_act_503 rfl ?_
                                    refine pw_iald (t := 0) rfl (mF29 hA) (by first | omega | exact mCell_b hp ko (by omega) (by omega) | exact mHis_b hp (by omega) (by omega)) (by decide) dX10_act_504 ?_
                                    refine pw_aload_n dX10_act_505 rfl ?_
                                    refine pw_get (v := .ref (B + 27)) okX10 (k := 30) (by decide) lkX10_89 hA.1 rfl dX10_act_506 ?_
                                    refine pw_iload_n dX10_act_509 rfl ?_
                                    refine pw_iald (t := 0) rfl (mF30 hA) (by first | omega | exact mCell_b hp ko (by omega) (by omega) | exact mHis_b hp (by omega) (by omega)) (by decide) dX10_act_510 ?_
                                    refine pw_iload dX10_act_511 rfl ?_
                                    refine pw_callV (As := [.int (zI (p)), .int (zI ((s1.2 29) (p).toNat)), .int (zI ((s1.2 30) (p).toNat)), .int (zI (nn))]) (b := B) (rm := rmD 3 0 0) (mR_scrollDown htr hA hp hk (by omega) (by omega)) rfl hA.1 rfl rfl ywX10_scrollDown rfl cwX10_251 ⟨nle rfl, nle rfl⟩ (nle rfl) ⟨nle rfl, nle rfl⟩ dX10_act_513 ?_ (fun _ _ _ z => z.elim)
                                    intro r_9 h16 n_9 hq _
                                    obtain ⟨e1, s16, hA16, hk16, hr160, hF160, e4⟩ := hq
                                    rw [e1, e4]
                                    show pw E YX10_act _ _ 0 0 516 [some (.ref B), some (.int (zI (p))), some (.int (zI (b))), some (.int (zI (z))), some (.int (zI (nn))), some (.int (zI ((s1.2 36) ((4 * p) + (1)).toNat))), some (.int (zI ((s1.2 23) (p).toNat))), some (.int (zI ((s1.2 24) (p).toNat)))] [] h16 n
                                    have hr16 := mPr_tr hr hr160
                                    have hF16 := mFr_tr hF hF160
                                    obtain ⟨kw, kh, kr, kc, ksr, ksc, kt, ko, kwa, kin, kwr, khi, krd, knu, kgi, kas, kfr, kra, kco, kof, kip⟩ := id hk16
                                    have e18 := congrFun (hr16.2.1 18 (by decide)) p.toNat
                                    have e19 := congrFun (hr16.2.1 19 (by decide)) p.toNat
                                    refine pw_aload_n dX10_act_516 rfl ?_
                                    refine pw_get (v := .ref (B + 28)) okX10 (k := 31) (by decide) lkX10_92 hA16.1 rfl dX10_act_517 ?_
                                    refine pw_iload_n dX10_act_520 rfl ?_
                                    refine pw_iconst (v := zI (0)) dX10_act_521 (by decide) ?_
                                    refine pw_zast (t := 1) rfl (mF31 hA16) (by first | omega | exact mCell_b hp ko (by omega) (by omega) | exact mHis_b hp (by omega) (by omega)) (by decide) (by omega) dX10_act_522 ?_
                                    have hA17 : mAt B (mA 31 (va_up (s16.2 31) (p).toNat (0)) s16) (va_up h16 (B + 28) (pz_z 1 8 (va_up (s16.2 31) (p).toNat (0)))) := mU31 hA16
                                    have hk17 : mPk (mA 31 (va_up (s16.2 31) (p).toNat (0)) s16) p.toNat := mP31 hk16 (by omega)
                                    have hr17 : mPr p.toNat s (mA 31 (va_up (s16.2 31) (p).toNat (0)) s16) := mPr_tr hr16 (mPr_W (by decide) (by decide) (by decide))
                                    have hF17 : mFr B h (va_up h16 (B + 28) (pz_z 1 8 (va_up (s16.2 31) (p).toNat (0)))) := mFr_tr hF16 (mFr_up (by decide))
                                    revert hA17 hk17 hr17 hF17 
                                    generalize (mA 31 (va_up (s16.2 31) (p).toNat (0)) s16) = s17
                                    generalize (va_up h16 (B + 28) (pz_z 1 8 (va_up (s16.2 31) (p).toNat (0)))) = h17
                                    intro hA17 hk17 hr17 hF17 
                                    obtain ⟨kw, kh, kr, kc, ksr, ksc, kt, ko, kwa, kin, kwr, khi, krd, knu, kgi, kas, kfr, kra, kco, kof, kip⟩ := id hk17
                                    have e18 := congrFun (hr17.2.1 18 (by decide)) p.toNat
                                    have e19 := congrFun (hr17.2.1 19 (by decide)) p.toNat
                                    refine pw_goto (tgt := 592) dX10_act_523 rfl ?_
                                    exact pw_vret dX10_act_592 rfl (nle rfl) (nle rfl) (kk s17 h17 hA17 hk17 hr17 hF17)
                                ·
                                  refine pw_aload_n dX10_act_461 rfl ?_
                                  refine pw_iload_n dX10_act_462 rfl ?_
                                  refine pw_aload_n dX10_act_463 rfl ?_
                                  refine pw_get (v := .ref (B + 26)) okX10 (k := 29) (by decide) lkX10_86 hA.1 rfl dX10_act_464 ?_
                                  refine pw_iload_n dX10_act_467 rfl ?_
                                  refine pw_iald (t := 0) rfl (mF29 hA) (by first | omega | exact mCell_b hp ko (by omega) (by omega) | exact mHis_b hp (by omega) (by omega)) (by decide) dX10_act_468 ?_
                                  refine pw_aload_n dX10_act_469 rfl ?_
                                  refine pw_get (v := .ref (B + 27)) okX10 (k := 30) (by decide) lkX10_89 hA.1 rfl dX10_act_470 ?_
                                  refine pw_iload_n dX10_act_473 rfl ?_
                                  refine pw_iald (t := 0) rfl (mF30 hA) (by first | omega | exact mCell_b hp ko (by omega) (by omega) | exact mHis_b hp (by omega) (by omega)) (by decide) dX10_act_474 ?_
                                  refine pw_iload dX10_act_475 rfl ?_
                                  refine pw_iconst (v := zI (1)) dX10_act_477 (by decide) ?_
                                  refine pw_callV (As := [.int (zI (p)), .int (zI ((s1.2 29) (p).toNat)), .int (zI ((s1.2 30) (p).toNat)), .int (zI (nn)), .int (zI (1))]) (b := B) (rm := rmD 3 0 0) (mR_scrollUp htr hA hp hk (by omega) (by omega) (by omega)) rfl hA.1 rfl rfl ywX10_scrollUp rfl cwX10_247 ⟨nle rfl, nle rfl⟩ (nle rfl) ⟨nle rfl, nle rfl⟩ dX10_act_478 ?_ (fun _ _ _ z => z.elim)
                                  intro r_9 h18 n_9 hq _
                                  obtain ⟨e1, s18, hA18, hk18, hr180, hF180, e4⟩ := hq
                                  rw [e1, e4]
                                  show pw E YX10_act _ _ 0 0 481 [some (.ref B), some (.int (zI (p))), some (.int (zI (b))), some (.int (zI (z))), some (.int (zI (nn))), some (.int (zI ((s1.2 36) ((4 * p) + (1)).toNat))), some (.int (zI ((s1.2 23) (p).toNat))), some (.int (zI ((s1.2 24) (p).toNat)))] [] h18 n
                                  have hr18 := mPr_tr hr hr180
                                  have hF18 := mFr_tr hF hF180
                                  obtain ⟨kw, kh, kr, kc, ksr, ksc, kt, ko, kwa, kin, kwr, khi, krd, knu, kgi, kas, kfr, kra, kco, kof, kip⟩ := id hk18
                                  have e18 := congrFun (hr18.2.1 18 (by decide)) p.toNat
                                  have e19 := congrFun (hr18.2.1 19 (by decide)) p.toNat
                                  refine pw_aload_n dX10_act_481 rfl ?_
                                  refine pw_get (v := .ref (B + 28)) okX10 (k := 31) (by decide) lkX10_92 hA18.1 rfl dX10_act_482 ?_
                                  refine pw_iload_n dX10_act_485 rfl ?_
                                  refine pw_iconst (v := zI (0)) dX10_act_486 (by decide) ?_
                                  refine pw_zast (t := 1) rfl (mF31 hA18) (by first | omega | exact mCell_b hp ko (by omega) (by omega) | exact mHis_b hp (by omega) (by omega)) (by decide) (by omega) dX10_act_487 ?_
                                  have hA19 : mAt B (mA 31 (va_up (s18.2 31) (p).toNat (0)) s18) (va_up h18 (B + 28) (pz_z 1 8 (va_up (s18.2 31) (p).toNat (0)))) := mU31 hA18
                                  have hk19 : mPk (mA 31 (va_up (s18.2 31) (p).toNat (0)) s18) p.toNat := mP31 hk18 (by omega)
                                  have hr19 : mPr p.toNat s (mA 31 (va_up (s18.2 31) (p).toNat (0)) s18) := mPr_tr hr18 (mPr_W (by decide) (by decide) (by decide))
                                  have hF19 : mFr B h (va_up h18 (B + 28) (pz_z 1 8 (va_up (s18.2 31) (p).toNat (0)))) := mFr_tr hF18 (mFr_up (by decide))
                                  revert hA19 hk19 hr19 hF19 
                                  generalize (mA 31 (va_up (s18.2 31) (p).toNat (0)) s18) = s19
                                  generalize (va_up h18 (B + 28) (pz_z 1 8 (va_up (s18.2 31) (p).toNat (0)))) = h19
                                  intro hA19 hk19 hr19 hF19 
                                  obtain ⟨kw, kh, kr, kc, ksr, ksc, kt, ko, kwa, kin, kwr, khi, krd, knu, kgi, kas, kfr, kra, kco, kof, kip⟩ := id hk19
                                  have e18 := congrFun (hr19.2.1 18 (by decide)) p.toNat
                                  have e19 := congrFun (hr19.2.1 19 (by decide)) p.toNat
                                  refine pw_goto (tgt := 592) dX10_act_488 rfl ?_
                                  exact pw_vret dX10_act_592 rfl (nle rfl) (nle rfl) (kk s19 h19 hA19 hk19 hr19 hF19)
                              ·
                                refine pw_aload_n dX10_act_434 rfl ?_
                                refine pw_iload_n dX10_act_435 rfl ?_
                                refine pw_iload_n dX10_act_436 rfl ?_
                                refine pw_bipush (v := zI (76)) dX10_act_437 (by decide) ?_
                                refine pw_icmp_ne (tgt := 446) dX10_act_439 rfl (by omega) (by omega) (fun c439 => ?_) (fun c439 => ?_)
                                ·
                                  refine pw_iconst (v := zI (0)) dX10_act_446 (by decide) ?_
                                  refine pw_iload dX10_act_447 rfl ?_
                                  refine pw_callV (As := [.int (zI (p)), .int (zI (0)), .int (zI (nn))]) (b := B) (rm := rmD 4 0 0) (mR_lines htr hA hp hk (by omega) (by omega)) rfl hA.1 rfl rfl ywX10_lines rfl cwX10_292 ⟨nle rfl, nle rfl⟩ (nle rfl) ⟨nle rfl, nle rfl⟩ dX10_act_449 ?_ (fun _ _ _ z => z.elim)
                                  intro r_9 h20 n_9 hq _
                                  obtain ⟨e1, s20, hA20, hk20, hr200, hF200, e4⟩ := hq
                                  rw [e1, e4]
                                  show pw E YX10_act _ _ 0 0 452 [some (.ref B), some (.int (zI (p))), some (.int (zI (b))), some (.int (zI (z))), some (.int (zI (nn))), some (.int (zI ((s1.2 36) ((4 * p) + (1)).toNat))), some (.int (zI ((s1.2 23) (p).toNat))), some (.int (zI ((s1.2 24) (p).toNat)))] [] h20 n
                                  have hr20 := mPr_tr hr hr200
                                  have hF20 := mFr_tr hF hF200
                                  obtain ⟨kw, kh, kr, kc, ksr, ksc, kt, ko, kwa, kin, kwr, khi, krd, knu, kgi, kas, kfr, kra, kco, kof, kip⟩ := id hk20
                                  have e18 := congrFun (hr20.2.1 18 (by decide)) p.toNat
                                  have e19 := congrFun (hr20.2.1 19 (by decide)) p.toNat
                                  refine pw_goto (tgt := 592) dX10_act_452 rfl ?_
                                  exact pw_vret dX10_act_592 rfl (nle rfl) (nle rfl) (kk s20 h20 hA20 hk20 hr20 hF20)
                                ·
                                  refine pw_iconst (v := zI (1)) dX10_act_442 (by decide) ?_
                                  refine pw_goto (tgt := 447) dX10_act_443 rfl ?_
                                  refine pw_iload dX10_act_447 rfl ?_
                                  refine pw_callV (As := [.int (zI (p)), .int (zI (1)), .int (zI (nn))]) (b := B) (rm := rmD 4 0 0) (mR_lines htr hA hp hk (by omega) (by omega)) rfl hA.1 rfl rfl ywX10_lines rfl cwX10_292 ⟨nle rfl, nle rfl⟩ (nle rfl) ⟨nle rfl, nle rfl⟩ dX10_act_449 ?_ (fun _ _ _ z => z.elim)
                                  intro r_9 h21 n_9 hq _
                                  obtain ⟨e1, s21, hA21, hk21, hr210, hF210, e4⟩ := hq
                                  rw [e1, e4]
                                  show pw E YX10_act _ _ 0 0 452 [some (.ref B), some (.int (zI (p))), some (.int (zI (b))), some (.int (zI (z))), some (.int (zI (nn))), some (.int (zI ((s1.2 36) ((4 * p) + (1)).toNat))), some (.int (zI ((s1.2 23) (p).toNat))), some (.int (zI ((s1.2 24) (p).toNat)))] [] h21 n
                                  have hr21 := mPr_tr hr hr210
                                  have hF21 := mFr_tr hF hF210
                                  obtain ⟨kw, kh, kr, kc, ksr, ksc, kt, ko, kwa, kin, kwr, khi, krd, knu, kgi, kas, kfr, kra, kco, kof, kip⟩ := id hk21
                                  have e18 := congrFun (hr21.2.1 18 (by decide)) p.toNat
                                  have e19 := congrFun (hr21.2.1 19 (by decide)) p.toNat
                                  refine pw_goto (tgt := 592) dX10_act_452 rfl ?_
                                  exact pw_vret dX10_act_592 rfl (nle rfl) (nle rfl) (kk s21 h21 hA21 hk21 hr21 hF21)
                          ·
                            refine pw_aload_n dX10_act_389 rfl ?_
                            refine pw_iload_n dX10_act_390 rfl ?_
                            refine pw_iload dX10_act_391 rfl ?_
                            refine pw_iload dX10_act_393 rfl ?_
                            refine pw_iload_n dX10_act_395 rfl ?_
                            refine pw_bipush (v := zI (64)) dX10_act_396 (by decide) ?_
                            refine pw_icmp_ne (tgt := 406) dX10_act_398 rfl (by omega) (by omega) (fun c398 => ?_) (fun c398 => ?_)
                            ·
                              refine pw_iload dX10_act_406 rfl ?_
                              refine pw_zineg dX10_act_408 ?_
                              refine pw_callV (As := [.int (zI (p)), .int (zI ((s1.2 23) (p).toNat)), .int (zI ((s1.2 24) (p).toNat)), .int (zI (-(nn)))]) (b := B) (rm := rmD 2 0 0) (mR_push htr hA hp hk (by omega) (by omega) (by omega)) rfl hA.1 rfl rfl ywX10_push rfl cwX10_258 ⟨nle rfl, nle rfl⟩ (nle rfl) ⟨nle rfl, nle rfl⟩ dX10_act_409 ?_ (fun _ _ _ z => z.elim)
                              intro r_9 h22 n_9 hq _
                              obtain ⟨e1, s22, hA22, hk22, hr220, hF220, e4⟩ := hq
                              rw [e1, e4]
                              show pw E YX10_act _ _ 0 0 412 [some (.ref B), some (.int (zI (p))), some (.int (zI (b))), some (.int (zI (z))), some (.int (zI (nn))), some (.int (zI ((s1.2 36) ((4 * p) + (1)).toNat))), some (.int (zI ((s1.2 23) (p).toNat))), some (.int (zI ((s1.2 24) (p).toNat)))] [] h22 n
                              have hr22 := mPr_tr hr hr220
                              have hF22 := mFr_tr hF hF220
                              obtain ⟨kw, kh, kr, kc, ksr, ksc, kt, ko, kwa, kin, kwr, khi, krd, knu, kgi, kas, kfr, kra, kco, kof, kip⟩ := id hk22
                              have e18 := congrFun (hr22.2.1 18 (by decide)) p.toNat
                              have e19 := congrFun (hr22.2.1 19 (by decide)) p.toNat
                              refine pw_aload_n dX10_act_412 rfl ?_
                              refine pw_get (v := .ref (B + 28)) okX10 (k := 31) (by decide) lkX10_92 hA22.1 rfl dX10_act_413 ?_
                              refine pw_iload_n dX10_act_416 rfl ?_
                              refine pw_iconst (v := zI (0)) dX10_act_417 (by decide) ?_
                              refine pw_zast (t := 1) rfl (mF31 hA22) (by first | omega | exact mCell_b hp ko (by omega) (by omega) | exact mHis_b hp (by omega) (by omega)) (by decide) (by omega) dX10_act_418 ?_
                              have hA23 : mAt B (mA 31 (va_up (s22.2 31) (p).toNat (0)) s22) (va_up h22 (B + 28) (pz_z 1 8 (va_up (s22.2 31) (p).toNat (0)))) := mU31 hA22
                              have hk23 : mPk (mA 31 (va_up (s22.2 31) (p).toNat (0)) s22) p.toNat := mP31 hk22 (by omega)
                              have hr23 : mPr p.toNat s (mA 31 (va_up (s22.2 31) (p).toNat (0)) s22) := mPr_tr hr22 (mPr_W (by decide) (by decide) (by decide))
                              have hF23 : mFr B h (va_up h22 (B + 28) (pz_z 1 8 (va_up (s22.2 31) (p).toNat (0)))) := mFr_tr hF22 (mFr_up (by decide))
                              revert hA23 hk23 hr23 hF23 
                              generalize (mA 31 (va_up (s22.2 31) (p).toNat (0)) s22) = s23
                              generalize (va_up h22 (B + 28) (pz_z 1 8 (va_up (s22.2 31) (p).toNat (0)))) = h23
                              intro hA23 hk23 hr23 hF23 
                              obtain ⟨kw, kh, kr, kc, ksr, ksc, kt, ko, kwa, kin, kwr, khi, krd, knu, kgi, kas, kfr, kra, kco, kof, kip⟩ := id hk23
                              have e18 := congrFun (hr23.2.1 18 (by decide)) p.toNat
                              have e19 := congrFun (hr23.2.1 19 (by decide)) p.toNat
                              refine pw_goto (tgt := 592) dX10_act_419 rfl ?_
                              exact pw_vret dX10_act_592 rfl (nle rfl) (nle rfl) (kk s23 h23 hA23 hk23 hr23 hF23)
                            ·
                              refine pw_iload dX10_act_401 rfl ?_
                              refine pw_goto (tgt := 409) dX10_act_403 rfl ?_
                              refine pw_callV (As := [.int (zI (p)), .int (zI ((s1.2 23) (p).toNat)), .int (zI ((s1.2 24) (p).toNat)), .int (zI (nn))]) (b := B) (rm := rmD 2 0 0) (mR_push htr hA hp hk (by omega) (by omega) (by omega)) rfl hA.1 rfl rfl ywX10_push rfl cwX10_258 ⟨nle rfl, nle rfl⟩ (nle rfl) ⟨nle rfl, nle rfl⟩ dX10_act_409 ?_ (fun _ _ _ z => z.elim)
                              intro r_9 h24 n_9 hq _
                              obtain ⟨e1, s24, hA24, hk24, hr240, hF240, e4⟩ := hq
                              rw [e1, e4]
                              show pw E YX10_act _ _ 0 0 412 [some (.ref B), some (.int (zI (p))), some (.int (zI (b))), some (.int (zI (z))), some (.int (zI (nn))), some (.int (zI ((s1.2 36) ((4 * p) + (1)).toNat))), some (.int (zI ((s1.2 23) (p).toNat))), some (.int (zI ((s1.2 24) (p).toNat)))] [] h24 n
                              have hr24 := mPr_tr hr hr240
                              have hF24 := mFr_tr hF hF240
                              obtain ⟨kw, kh, kr, kc, ksr, ksc, kt, ko, kwa, kin, kwr, khi, krd, knu, kgi, kas, kfr, kra, kco, kof, kip⟩ := id hk24
                              have e18 := congrFun (hr24.2.1 18 (by decide)) p.toNat
                              have e19 := congrFun (hr24.2.1 19 (by decide)) p.toNat
                              refine pw_aload_n dX10_act_412 rfl ?_
                              refine pw_get (v := .ref (B + 28)) okX10 (k := 31) (by decide) lkX10_92 hA24.1 rfl dX10_act_413 ?_
                              refine pw_iload_n dX10_act_416 rfl ?_
                              refine pw_iconst (v := zI (0)) dX10_act_417 (by decide) ?_
                              refine pw_zast (t := 1) rfl (mF31 hA24) (by first | omega | exact mCell_b hp ko (by omega) (by omega) | exact mHis_b hp (by omega) (by omega)) (by decide) (by omega) dX10_act_418 ?_
                              have hA25 : mAt B (mA 31 (va_up (s24.2 31) (p).toNat (0)) s24) (va_up h24 (B + 28) (pz_z 1 8 (va_up (s24.2 31) (p).toNat (0)))) := mU31 hA24
                              have hk25 : mPk (mA 31 (va_up (s24.2 31) (p).toNat (0)) s24) p.toNat := mP31 hk24 (by omega)
                              have hr25 : mPr p.toNat s (mA 31 (va_up (s24.2 31) (p).toNat (0)) s24) := mPr_tr hr24 (mPr_W (by decide) (by decide) (by decide))
                              have hF25 : mFr B h (va_up h24 (B + 28) (pz_z 1 8 (va_up (s24.2 31) (p).toNat (0)))) := mFr_tr hF24 (mFr_up (by decide))
                              revert hA25 hk25 hr25 hF25 
                              generalize (mA 31 (va_up (s24.2 31) (p).toNat (0)) s24) = s25
                              generalize (va_up h24 (B + 28) (pz_z 1 8 (va_up (s24.2 31) (p).toNat (0)))) = h25
                              intro hA25 hk25 hr25 hF25 
                              obtain ⟨kw, kh, kr, kc, ksr, ksc, kt, ko, kwa, kin, kwr, khi, krd, knu, kgi, kas, kfr, kra, kco, kof, kip⟩ := id hk25
                              have e18 := congrFun (hr25.2.1 18 (by decide)) p.toNat
                              have e19 := congrFun (hr25.2.1 19 (by decide)) p.toNat
                              refine pw_goto (tgt := 592) dX10_act_419 rfl ?_
                              exact pw_vret dX10_act_592 rfl (nle rfl) (nle rfl) (kk s25 h25 hA25 hk25 hr25 hF25)
                      ·
                        refine pw_aload_n dX10_act_356 rfl ?_
                        refine pw_iload_n dX10_act_357 rfl ?_
                        refine pw_iload dX10_act_358 rfl ?_
                        refine pw_iload dX10_act_360 rfl ?_
                        refine pw_iload dX10_act_362 rfl ?_
                        refine pw_iload dX10_act_364 rfl ?_
                        refine pw_iload dX10_act_366 rfl ?_
                        refine pw_ziadd dX10_act_368 ?_
                        refine pw_iconst (v := zI (1)) dX10_act_369 (by decide) ?_
                        refine pw_zisub dX10_act_370 ?_
                        refine pw_callV (As := [.int (zI (p)), .int (zI ((s1.2 23) (p).toNat)), .int (zI ((s1.2 24) (p).toNat)), .int (zI ((s1.2 23) (p).toNat)), .int (zI ((((s1.2 24) (p).toNat) + (nn)) - (1)))]) (b := B) (rm := rmD 2 0 0) (mR_erase htr hA hp hk (by omega) (by omega) (by omega) (by omega) (by omega)) rfl hA.1 rfl rfl ywX10_erase rfl cwX10_289 ⟨nle rfl, nle rfl⟩ (nle rfl) ⟨nle rfl, nle rfl⟩ dX10_act_371 ?_ (fun _ _ _ z => z.elim)
                        intro r_9 h26 n_9 hq _
                        obtain ⟨e1, s26, hA26, hk26, hr260, hF260, e4⟩ := hq
                        rw [e1, e4]
                        show pw E YX10_act _ _ 0 0 374 [some (.ref B), some (.int (zI (p))), some (.int (zI (b))), some (.int (zI (z))), some (.int (zI (nn))), some (.int (zI ((s1.2 36) ((4 * p) + (1)).toNat))), some (.int (zI ((s1.2 23) (p).toNat))), some (.int (zI ((s1.2 24) (p).toNat)))] [] h26 n
                        have hr26 := mPr_tr hr hr260
                        have hF26 := mFr_tr hF hF260
                        obtain ⟨kw, kh, kr, kc, ksr, ksc, kt, ko, kwa, kin, kwr, khi, krd, knu, kgi, kas, kfr, kra, kco, kof, kip⟩ := id hk26
                        have e18 := congrFun (hr26.2.1 18 (by decide)) p.toNat
                        have e19 := congrFun (hr26.2.1 19 (by decide)) p.toNat
                        refine pw_goto (tgt := 592) dX10_act_374 rfl ?_
                        exact pw_vret dX10_act_592 rfl (nle rfl) (nle rfl) (kk s26 h26 hA26 hk26 hr26 hF26)
                    ·
                      refine pw_iload_n dX10_act_311 rfl ?_
                      refine pw_iconst (v := zI (3)) dX10_act_312 (by decide) ?_
                      refine pw_icmp_ge (tgt := 350) dX10_act_313 rfl (by omega) (by omega) (fun c313 => ?_) (fun c313 => ?_)
                      ·
                        refine pw_iload_n dX10_act_350 rfl ?_
                        refine pw_bipush (v := zI (88)) dX10_act_351 (by decide) ?_
                        refine pw_icmp_ne (tgt := 377) dX10_act_353 rfl (by omega) (by omega) (fun c353 => ?_) (fun c353 => ?_)
                        ·
                          refine pw_iload_n dX10_act_377 rfl ?_
                          refine pw_bipush (v := zI (64)) dX10_act_378 (by decide) ?_
                          refine pw_icmp_eq (tgt := 389) dX10_act_380 rfl (by omega) (by omega) (fun c380 => ?_) (fun c380 => ?_)
                          ·
                            refine pw_aload_n dX10_act_389 rfl ?_
                            refine pw_iload_n dX10_act_390 rfl ?_
                            refine pw_iload dX10_act_391 rfl ?_
                            refine pw_iload dX10_act_393 rfl ?_
                            refine pw_iload_n dX10_act_395 rfl ?_
                            refine pw_bipush (v := zI (64)) dX10_act_396 (by decide) ?_
                            refine pw_icmp_ne (tgt := 406) dX10_act_398 rfl (by omega) (by omega) (fun c398 => ?_) (fun c398 => ?_)
                            ·
                              refine pw_iload dX10_act_406 rfl ?_
                              refine pw_zineg dX10_act_408 ?_
                              refine pw_callV (As := [.int (zI (p)), .int (zI ((s1.2 23) (p).toNat)), .int (zI ((s1.2 24) (p).toNat)), .int (zI (-(nn)))]) (b := B) (rm := rmD 2 0 0) (mR_push htr hA hp hk (by omega) (by omega) (by omega)) rfl hA.1 rfl rfl ywX10_push rfl cwX10_258 ⟨nle rfl, nle rfl⟩ (nle rfl) ⟨nle rfl, nle rfl⟩ dX10_act_409 ?_ (fun _ _ _ z => z.elim)
                              intro r_9 h27 n_9 hq _
                              obtain ⟨e1, s27, hA27, hk27, hr270, hF270, e4⟩ := hq
                              rw [e1, e4]
                              show pw E YX10_act _ _ 0 0 412 [some (.ref B), some (.int (zI (p))), some (.int (zI (b))), some (.int (zI (z))), some (.int (zI (nn))), some (.int (zI ((s1.2 36) ((4 * p) + (1)).toNat))), some (.int (zI ((s1.2 23) (p).toNat))), some (.int (zI ((s1.2 24) (p).toNat)))] [] h27 n
                              have hr27 := mPr_tr hr hr270
                              have hF27 := mFr_tr hF hF270
                              obtain ⟨kw, kh, kr, kc, ksr, ksc, kt, ko, kwa, kin, kwr, khi, krd, knu, kgi, kas, kfr, kra, kco, kof, kip⟩ := id hk27
                              have e18 := congrFun (hr27.2.1 18 (by decide)) p.toNat
                              have e19 := congrFun (hr27.2.1 19 (by decide)) p.toNat
                              refine pw_aload_n dX10_act_412 rfl ?_
                              refine pw_get (v := .ref (B + 28)) okX10 (k := 31) (by decide) lkX10_92 hA27.1 rfl dX10_act_413 ?_
                              refine pw_iload_n dX10_act_416 rfl ?_
                              refine pw_iconst (v := zI (0)) dX10_act_417 (by decide) ?_
                              refine pw_zast (t := 1) rfl (mF31 hA27) (by first | omega | exact mCell_b hp ko (by omega) (by omega) | exact mHis_b hp (by omega) (by omega)) (by decide) (by omega) dX10_act_418 ?_
                              have hA28 : mAt B (mA 31 (va_up (s27.2 31) (p).toNat (0)) s27) (va_up h27 (B + 28) (pz_z 1 8 (va_up (s27.2 31) (p).toNat (0)))) := mU31 hA27
                              have hk28 : mPk (mA 31 (va_up (s27.2 31) (p).toNat (0)) s27) p.toNat := mP31 hk27 (by omega)
                              have hr28 : mPr p.toNat s (mA 31 (va_up (s27.2 31) (p).toNat (0)) s27) := mPr_tr hr27 (mPr_W (by decide) (by decide) (by decide))
                              have hF28 : mFr B h (va_up h27 (B + 28) (pz_z 1 8 (va_up (s27.2 31) (p).toNat (0)))) := mFr_tr hF27 (mFr_up (by decide))
                              revert hA28 hk28 hr28 hF28 
                              generalize (mA 31 (va_up (s27.2 31) (p).toNat (0)) s27) = s28
                              generalize (va_up h27 (B + 28) (pz_z 1 8 (va_up (s27.2 31) (p).toNat (0)))) = h28
                              intro hA28 hk28 hr28 hF28 
                              obtain ⟨kw, kh, kr, kc, ksr, ksc, kt, ko, kwa, kin, kwr, khi, krd, knu, kgi, kas, kfr, kra, kco, kof, kip⟩ := id hk28
                              have e18 := congrFun (hr28.2.1 18 (by decide)) p.toNat
                              have e19 := congrFun (hr28.2.1 19 (by decide)) p.toNat
                              refine pw_goto (tgt := 592) dX10_act_419 rfl ?_
                              exact pw_vret dX10_act_592 rfl (nle rfl) (nle rfl) (kk s28 h28 hA28 hk28 hr28 hF28)
                            ·
                              refine pw_iload dX10_act_401 rfl ?_
                              refine pw_goto (tgt := 409) dX10_act_403 rfl ?_
                              refine pw_callV (As := [.int (zI (p)), .int (zI ((s1.2 23) (p).toNat)), .int (zI ((s1.2 24) (p).toNat)), .int (zI (nn))]) (b := B) (rm := rmD 2 0 0) (mR_push htr hA hp hk (by omega) (by omega) (by omega)) rfl hA.1 rfl rfl ywX10_push rfl cwX10_258 ⟨nle rfl, nle rfl⟩ (nle rfl) ⟨nle rfl, nle rfl⟩ dX10_act_409 ?_ (fun _ _ _ z => z.elim)
                              intro r_9 h29 n_9 hq _
                              obtain ⟨e1, s29, hA29, hk29, hr290, hF290, e4⟩ := hq
                              rw [e1, e4]
                              show pw E YX10_act _ _ 0 0 412 [some (.ref B), some (.int (zI (p))), some (.int (zI (b))), some (.int (zI (z))), some (.int (zI (nn))), some (.int (zI ((s1.2 36) ((4 * p) + (1)).toNat))), some (.int (zI ((s1.2 23) (p).toNat))), some (.int (zI ((s1.2 24) (p).toNat)))] [] h29 n
                              have hr29 := mPr_tr hr hr290
                              have hF29 := mFr_tr hF hF290
                              obtain ⟨kw, kh, kr, kc, ksr, ksc, kt, ko, kwa, kin, kwr, khi, krd, knu, kgi, kas, kfr, kra, kco, kof, kip⟩ := id hk29
                              have e18 := congrFun (hr29.2.1 18 (by decide)) p.toNat
                              have e19 := congrFun (hr29.2.1 19 (by decide)) p.toNat
                              refine pw_aload_n dX10_act_412 rfl ?_
                              refine pw_get (v := .ref (B + 28)) okX10 (k := 31) (by decide) lkX10_92 hA29.1 rfl dX10_act_413 ?_
                              refine pw_iload_n dX10_act_416 rfl ?_
                              refine pw_iconst (v := zI (0)) dX10_act_417 (by decide) ?_
                              refine pw_zast (t := 1) rfl (mF31 hA29) (by first | omega | exact mCell_b hp ko (by omega) (by omega) | exact mHis_b hp (by omega) (by omega)) (by decide) (by omega) dX10_act_418 ?_
                              have hA30 : mAt B (mA 31 (va_up (s29.2 31) (p).toNat (0)) s29) (va_up h29 (B + 28) (pz_z 1 8 (va_up (s29.2 31) (p).toNat (0)))) := mU31 hA29
                              have hk30 : mPk (mA 31 (va_up (s29.2 31) (p).toNat (0)) s29) p.toNat := mP31 hk29 (by omega)
                              have hr30 : mPr p.toNat s (mA 31 (va_up (s29.2 31) (p).toNat (0)) s29) := mPr_tr hr29 (mPr_W (by decide) (by decide) (by decide))
                              have hF30 : mFr B h (va_up h29 (B + 28) (pz_z 1 8 (va_up (s29.2 31) (p).toNat (0)))) := mFr_tr hF29 (mFr_up (by decide))
                              revert hA30 hk30 hr30 hF30 
                              generalize (mA 31 (va_up (s29.2 31) (p).toNat (0)) s29) = s30
                              generalize (va_up h29 (B + 28) (pz_z 1 8 (va_up (s29.2 31) (p).toNat (0)))) = h30
                              intro hA30 hk30 hr30 hF30 
                              obtain ⟨kw, kh, kr, kc, ksr, ksc, kt, ko, kwa, kin, kwr, khi, krd, knu, kgi, kas, kfr, kra, kco, kof, kip⟩ := id hk30
                              have e18 := congrFun (hr30.2.1 18 (by decide)) p.toNat
                              have e19 := congrFun (hr30.2.1 19 (by decide)) p.toNat
                              refine pw_goto (tgt := 592) dX10_act_419 rfl ?_
                              exact pw_vret dX10_act_592 rfl (nle rfl) (nle rfl) (kk s30 h30 hA30 hk30 hr30 hF30)
                          ·
                            refine pw_iload_n dX10_act_383 rfl ?_
                            refine pw_bipush (v := zI (80)) dX10_act_384 (by decide) ?_
                            refine pw_icmp_ne (tgt := 422) dX10_act_386 rfl (by omega) (by omega) (fun c386 => ?_) (fun c386 => ?_)
                            ·
                              refine pw_iload_n dX10_act_422 rfl ?_
                              refine pw_bipush (v := zI (76)) dX10_act_423 (by decide) ?_
                              refine pw_icmp_eq (tgt := 434) dX10_act_425 rfl (by omega) (by omega) (fun c425 => ?_) (fun c425 => ?_)
                              ·
                                refine pw_aload_n dX10_act_434 rfl ?_
                                refine pw_iload_n dX10_act_435 rfl ?_
                                refine pw_iload_n dX10_act_436 rfl ?_
                                refine pw_bipush (v := zI (76)) dX10_act_437 (by decide) ?_
                                refine pw_icmp_ne (tgt := 446) dX10_act_439 rfl (by omega) (by omega) (fun c439 => ?_) (fun c439 => ?_)
                                ·
                                  refine pw_iconst (v := zI (0)) dX10_act_446 (by decide) ?_
                                  refine pw_iload dX10_act_447 rfl ?_
                                  refine pw_callV (As := [.int (zI (p)), .int (zI (0)), .int (zI (nn))]) (b := B) (rm := rmD 4 0 0) (mR_lines htr hA hp hk (by omega) (by omega)) rfl hA.1 rfl rfl ywX10_lines rfl cwX10_292 ⟨nle rfl, nle rfl⟩ (nle rfl) ⟨nle rfl, nle rfl⟩ dX10_act_449 ?_ (fun _ _ _ z => z.elim)
                                  intro r_9 h31 n_9 hq _
                                  obtain ⟨e1, s31, hA31, hk31, hr310, hF310, e4⟩ := hq
                                  rw [e1, e4]
                                  show pw E YX10_act _ _ 0 0 452 [some (.ref B), some (.int (zI (p))), some (.int (zI (b))), some (.int (zI (z))), some (.int (zI (nn))), some (.int (zI ((s1.2 36) ((4 * p) + (1)).toNat))), some (.int (zI ((s1.2 23) (p).toNat))), some (.int (zI ((s1.2 24) (p).toNat)))] [] h31 n
                                  have hr31 := mPr_tr hr hr310
                                  have hF31 := mFr_tr hF hF310
                                  obtain ⟨kw, kh, kr, kc, ksr, ksc, kt, ko, kwa, kin, kwr, khi, krd, knu, kgi, kas, kfr, kra, kco, kof, kip⟩ := id hk31
                                  have e18 := congrFun (hr31.2.1 18 (by decide)) p.toNat
                                  have e19 := congrFun (hr31.2.1 19 (by decide)) p.toNat
                                  refine pw_goto (tgt := 592) dX10_act_452 rfl ?_
                                  exact pw_vret dX10_act_592 rfl (nle rfl) (nle rfl) (kk s31 h31 hA31 hk31 hr31 hF31)
                                ·
                                  refine pw_iconst (v := zI (1)) dX10_act_442 (by decide) ?_
                                  refine pw_goto (tgt := 447) dX10_act_443 rfl ?_
                                  refine pw_iload dX10_act_447 rfl ?_
                                  refine pw_callV (As := [.int (zI (p)), .int (zI (1)), .int (zI (nn))]) (b := B) (rm := rmD 4 0 0) (mR_lines htr hA hp hk (by omega) (by omega)) rfl hA.1 rfl rfl ywX10_lines rfl cwX10_292 ⟨nle rfl, nle rfl⟩ (nle rfl) ⟨nle rfl, nle rfl⟩ dX10_act_449 ?_ (fun _ _ _ z => z.elim)
                                  intro r_9 h32 n_9 hq _
                                  obtain ⟨e1, s32, hA32, hk32, hr320, hF320, e4⟩ := hq
                                  rw [e1, e4]
                                  show pw E YX10_act _ _ 0 0 452 [some (.ref B), some (.int (zI (p))), some (.int (zI (b))), some (.int (zI (z))), some (.int (zI (nn))), some (.int (zI ((s1.2 36) ((4 * p) + (1)).toNat))), some (.int (zI ((s1.2 23) (p).toNat))), some (.int (zI ((s1.2 24) (p).toNat)))] [] h32 n
                                  have hr32 := mPr_tr hr hr320
                                  have hF32 := mFr_tr hF hF320
                                  obtain ⟨kw, kh, kr, kc, ksr, ksc, kt, ko, kwa, kin, kwr, khi, krd, knu, kgi, kas, kfr, kra, kco, kof, kip⟩ := id hk32
                                  have e18 := congrFun (hr32.2.1 18 (by decide)) p.toNat
                                  have e19 := congrFun (hr32.2.1 19 (by decide)) p.toNat
                                  refine pw_goto (tgt := 592) dX10_act_452 rfl ?_
                                  exact pw_vret dX10_act_592 rfl (nle rfl) (nle rfl) (kk s32 h32 hA32 hk32 hr32 hF32)
                              ·
                                refine pw_iload_n dX10_act_428 rfl ?_
                                refine pw_bipush (v := zI (77)) dX10_act_429 (by decide) ?_
                                refine pw_icmp_ne (tgt := 455) dX10_act_431 rfl (by omega) (by omega) (fun c431 => ?_) (fun c431 => ?_)
                                ·
                                  refine pw_iload_n dX10_act_455 rfl ?_
                                  refine pw_bipush (v := zI (83)) dX10_act_456 (by decide) ?_
                                  refine pw_icmp_ne (tgt := 491) dX10_act_458 rfl (by omega) (by omega) (fun c458 => ?_) (fun c458 => ?_)
                                  ·
                                    refine pw_iload_n dX10_act_491 rfl ?_
                                    refine pw_bipush (v := zI (84)) dX10_act_492 (by decide) ?_
                                    refine pw_icmp_ne (tgt := 526) dX10_act_494 rfl (by omega) (by omega) (fun c494 => ?_) (fun c494 => ?_)
                                    ·
                                      refine pw_iload_n dX10_act_526 rfl ?_
                                      refine pw_bipush (v := zI (114)) dX10_act_527 (by decide) ?_
                                      refine pw_icmp_ne (tgt := 544) dX10_act_529 rfl (by omega) (by omega) (fun c529 => ?_) (fun c529 => ?_)
                                      ·
                                        refine pw_iload_n dX10_act_544 rfl ?_
                                        refine pw_bipush (v := zI (109)) dX10_act_545 (by decide) ?_
                                        refine pw_icmp_ne (tgt := 558) dX10_act_547 rfl (by omega) (by omega) (fun c547 => ?_) (fun c547 => ?_)
                                        ·
                                          refine pw_iload_n dX10_act_558 rfl ?_
                                          refine pw_bipush (v := zI (104)) dX10_act_559 (by decide) ?_
                                          refine pw_icmp_eq (tgt := 570) dX10_act_561 rfl (by omega) (by omega) (fun c561 => ?_) (fun c561 => ?_)
                                          ·
                                            refine pw_iload_n dX10_act_570 rfl ?_
                                            refine pw_iconst (v := zI (4)) dX10_act_571 (by decide) ?_
                                            refine pw_icmp_ne (tgt := 592) dX10_act_572 rfl (by omega) (by omega) (fun c572 => ?_) (fun c572 => ?_)
                                            ·
                                              exact pw_vret dX10_act_592 rfl (nle rfl) (nle rfl) (kk s1 h1 hA hk hr hF)
                                            ·
                                              refine pw_aload_n dX10_act_575 rfl ?_
                                              refine pw_get (v := .ref (B + 29)) okX10 (k := 32) (by decide) lkX10_95 hA.1 rfl dX10_act_576 ?_
                                              refine pw_iload_n dX10_act_579 rfl ?_
                                              refine pw_iload_n dX10_act_580 rfl ?_
                                              refine pw_bipush (v := zI (104)) dX10_act_581 (by decide) ?_
                                              refine pw_icmp_ne (tgt := 590) dX10_act_583 rfl (by omega) (by omega) (fun c583 => ?_) (fun c583 => ?_)
                                              ·
                                                refine pw_iconst (v := zI (0)) dX10_act_590 (by decide) ?_
                                                refine pw_zast (t := 1) rfl (mF32 hA) (by first | omega | exact mCell_b hp ko (by omega) (by omega) | exact mHis_b hp (by omega) (by omega)) (by decide) (by omega) dX10_act_591 ?_
                                                have hA33 : mAt B (mA 32 (va_up (s1.2 32) (p).toNat (0)) s1) (va_up h1 (B + 29) (pz_z 1 8 (va_up (s1.2 32) (p).toNat (0)))) := mU32 hA
                                                have hk33 : mPk (mA 32 (va_up (s1.2 32) (p).toNat (0)) s1) p.toNat := mP32 hk (by omega)
                                                have hr33 : mPr p.toNat s (mA 32 (va_up (s1.2 32) (p).toNat (0)) s1) := mPr_tr hr (mPr_W (by decide) (by decide) (by decide))
                                                have hF33 : mFr B h (va_up h1 (B + 29) (pz_z 1 8 (va_up (s1.2 32) (p).toNat (0)))) := mFr_tr hF (mFr_up (by decide))
                                                revert hA33 hk33 hr33 hF33 
                                                generalize (mA 32 (va_up (s1.2 32) (p).toNat (0)) s1) = s33
                                                generalize (va_up h1 (B + 29) (pz_z 1 8 (va_up (s1.2 32) (p).toNat (0)))) = h33
                                                intro hA33 hk33 hr33 hF33 
                                                obtain ⟨kw, kh, kr, kc, ksr, ksc, kt, ko, kwa, kin, kwr, khi, krd, knu, kgi, kas, kfr, kra, kco, kof, kip⟩ := id hk33
                                                have e18 := congrFun (hr33.2.1 18 (by decide)) p.toNat
                                                have e19 := congrFun (hr33.2.1 19 (by decide)) p.toNat
                                                exact pw_vret dX10_act_592 rfl (nle rfl) (nle rfl) (kk s33 h33 hA33 hk33 hr33 hF33)
                                              ·
                                                refine pw_iconst (v := zI (1)) dX10_act_586 (by decide) ?_
                                                refine pw_goto (tgt := 591) dX10_act_587 rfl ?_
                                                refine pw_zast (t := 1) rfl (mF32 hA) (by first | omega | exact mCell_b hp ko (by omega) (by omega) | exact mHis_b hp (by omega) (by omega)) (by decide) (by omega) dX10_act_591 ?_
                                                have hA34 : mAt B (mA 32 (va_up (s1.2 32) (p).toNat (1)) s1) (va_up h1 (B + 29) (pz_z 1 8 (va_up (s1.2 32) (p).toNat (1)))) := mU32 hA
                                                have hk34 : mPk (mA 32 (va_up (s1.2 32) (p).toNat (1)) s1) p.toNat := mP32 hk (by omega)
                                                have hr34 : mPr p.toNat s (mA 32 (va_up (s1.2 32) (p).toNat (1)) s1) := mPr_tr hr (mPr_W (by decide) (by decide) (by decide))
                                                have hF34 : mFr B h (va_up h1 (B + 29) (pz_z 1 8 (va_up (s1.2 32) (p).toNat (1)))) := mFr_tr hF (mFr_up (by decide))
                                                revert hA34 hk34 hr34 hF34 
                                                generalize (mA 32 (va_up (s1.2 32) (p).toNat (1)) s1) = s34
                                                generalize (va_up h1 (B + 29) (pz_z 1 8 (va_up (s1.2 32) (p).toNat (1)))) = h34
                                                intro hA34 hk34 hr34 hF34 
                                                obtain ⟨kw, kh, kr, kc, ksr, ksc, kt, ko, kwa, kin, kwr, khi, krd, knu, kgi, kas, kfr, kra, kco, kof, kip⟩ := id hk34
                                                have e18 := congrFun (hr34.2.1 18 (by decide)) p.toNat
                                                have e19 := congrFun (hr34.2.1 19 (by decide)) p.toNat
                                                exact pw_vret dX10_act_592 rfl (nle rfl) (nle rfl) (kk s34 h34 hA34 hk34 hr34 hF34)
                                          ·
                                            refine pw_iload_n dX10_act_564 rfl ?_
                                            refine pw_bipush (v := zI (108)) dX10_act_565 (by decide) ?_
                                            refine pw_icmp_ne (tgt := 592) dX10_act_567 rfl (by omega) (by omega) (fun c567 => ?_) (fun c567 => ?_)
                                            ·
                                              exact pw_vret dX10_act_592 rfl (nle rfl) (nle rfl) (kk s1 h1 hA hk hr hF)
                                            ·
                                              refine pw_iload_n dX10_act_570 rfl ?_
                                              refine pw_iconst (v := zI (4)) dX10_act_571 (by decide) ?_
                                              refine pw_icmp_ne (tgt := 592) dX10_act_572 rfl (by omega) (by omega) (fun c572 => ?_) (fun c572 => ?_)
                                              ·
                                                exact pw_vret dX10_act_592 rfl (nle rfl) (nle rfl) (kk s1 h1 hA hk hr hF)
                                              ·
                                                refine pw_aload_n dX10_act_575 rfl ?_
                                                refine pw_get (v := .ref (B + 29)) okX10 (k := 32) (by decide) lkX10_95 hA.1 rfl dX10_act_576 ?_
                                                refine pw_iload_n dX10_act_579 rfl ?_
                                                refine pw_iload_n dX10_act_580 rfl ?_
                                                refine pw_bipush (v := zI (104)) dX10_act_581 (by decide) ?_
                                                refine pw_icmp_ne (tgt := 590) dX10_act_583 rfl (by omega) (by omega) (fun c583 => ?_) (fun c583 => ?_)
                                                ·
                                                  refine pw_iconst (v := zI (0)) dX10_act_590 (by decide) ?_
                                                  refine pw_zast (t := 1) rfl (mF32 hA) (by first | omega | exact mCell_b hp ko (by omega) (by omega) | exact mHis_b hp (by omega) (by omega)) (by decide) (by omega) dX10_act_591 ?_
                                                  have hA35 : mAt B (mA 32 (va_up (s1.2 32) (p).toNat (0)) s1) (va_up h1 (B + 29) (pz_z 1 8 (va_up (s1.2 32) (p).toNat (0)))) := mU32 hA
                                                  have hk35 : mPk (mA 32 (va_up (s1.2 32) (p).toNat (0)) s1) p.toNat := mP32 hk (by omega)
                                                  have hr35 : mPr p.toNat s (mA 32 (va_up (s1.2 32) (p).toNat (0)) s1) := mPr_tr hr (mPr_W (by decide) (by decide) (by decide))
                                                  have hF35 : mFr B h (va_up h1 (B + 29) (pz_z 1 8 (va_up (s1.2 32) (p).toNat (0)))) := mFr_tr hF (mFr_up (by decide))
                                                  revert hA35 hk35 hr35 hF35 
                                                  generalize (mA 32 (va_up (s1.2 32) (p).toNat (0)) s1) = s35
                                                  generalize (va_up h1 (B + 29) (pz_z 1 8 (va_up (s1.2 32) (p).toNat (0)))) = h35
                                                  intro hA35 hk35 hr35 hF35 
                                                  obtain ⟨kw, kh, kr, kc, ksr, ksc, kt, ko, kwa, kin, kwr, khi, krd, knu, kgi, kas, kfr, kra, kco, kof, kip⟩ := id hk35
                                                  have e18 := congrFun (hr35.2.1 18 (by decide)) p.toNat
                                                  have e19 := congrFun (hr35.2.1 19 (by decide)) p.toNat
                                                  exact pw_vret dX10_act_592 rfl (nle rfl) (nle rfl) (kk s35 h35 hA35 hk35 hr35 hF35)
                                                ·
                                                  refine pw_iconst (v := zI (1)) dX10_act_586 (by decide) ?_
                                                  refine pw_goto (tgt := 591) dX10_act_587 rfl ?_
                                                  refine pw_zast (t := 1) rfl (mF32 hA) (by first | omega | exact mCell_b hp ko (by omega) (by omega) | exact mHis_b hp (by omega) (by omega)) (by decide) (by omega) dX10_act_591 ?_
                                                  have hA36 : mAt B (mA 32 (va_up (s1.2 32) (p).toNat (1)) s1) (va_up h1 (B + 29) (pz_z 1 8 (va_up (s1.2 32) (p).toNat (1)))) := mU32 hA
                                                  have hk36 : mPk (mA 32 (va_up (s1.2 32) (p).toNat (1)) s1) p.toNat := mP32 hk (by omega)
                                                  have hr36 : mPr p.toNat s (mA 32 (va_up (s1.2 32) (p).toNat (1)) s1) := mPr_tr hr (mPr_W (by decide) (by decide) (by decide))
                                                  have hF36 : mFr B h (va_up h1 (B + 29) (pz_z 1 8 (va_up (s1.2 32) (p).toNat (1)))) := mFr_tr hF (mFr_up (by decide))
                                                  revert hA36 hk36 hr36 hF36 
                                                  generalize (mA 32 (va_up (s1.2 32) (p).toNat (1)) s1) = s36
                                                  generalize (va_up h1 (B + 29) (pz_z 1 8 (va_up (s1.2 32) (p).toNat (1)))) = h36
                                                  intro hA36 hk36 hr36 hF36 
                                                  obtain ⟨kw, kh, kr, kc, ksr, ksc, kt, ko, kwa, kin, kwr, khi, krd, knu, kgi, kas, kfr, kra, kco, kof, kip⟩ := id hk36
                                                  have e18 := congrFun (hr36.2.1 18 (by decide)) p.toNat
                                                  have e19 := congrFun (hr36.2.1 19 (by decide)) p.toNat
                                                  exact pw_vret dX10_act_592 rfl (nle rfl) (nle rfl) (kk s36 h36 hA36 hk36 hr36 hF36)
                                        ·
                                          refine pw_aload_n dX10_act_550 rfl ?_
                                          refine pw_iload_n dX10_act_551 rfl ?_
                                          refine pw_callV (As := [.int (zI (p))]) (b := B) (rm := rmD 1 0 0) (mR_pens htr hA hp hk) rfl hA.1 rfl rfl ywX10_pens rfl cwX10_299 ⟨nle rfl, nle rfl⟩ (nle rfl) ⟨nle rfl, nle rfl⟩ dX10_act_552 ?_ (fun _ _ _ z => z.elim)
                                          intro r_9 h37 n_9 hq _
                                          obtain ⟨e1, s37, hA37, hk37, hr370, hF370, e4⟩ := hq
                                          rw [e1, e4]
                                          show pw E YX10_act _ _ 0 0 555 [some (.ref B), some (.int (zI (p))), some (.int (zI (b))), some (.int (zI (z))), some (.int (zI (nn))), some (.int (zI ((s1.2 36) ((4 * p) + (1)).toNat))), some (.int (zI ((s1.2 23) (p).toNat))), some (.int (zI ((s1.2 24) (p).toNat)))] [] h37 n
                                          have hr37 := mPr_tr hr hr370
                                          have hF37 := mFr_tr hF hF370
                                          obtain ⟨kw, kh, kr, kc, ksr, ksc, kt, ko, kwa, kin, kwr, khi, krd, knu, kgi, kas, kfr, kra, kco, kof, kip⟩ := id hk37
                                          have e18 := congrFun (hr37.2.1 18 (by decide)) p.toNat
                                          have e19 := congrFun (hr37.2.1 19 (by decide)) p.toNat
                                          refine pw_goto (tgt := 592) dX10_act_555 rfl ?_
                                          exact pw_vret dX10_act_592 rfl (nle rfl) (nle rfl) (kk s37 h37 hA37 hk37 hr37 hF37)
                                      ·
                                        refine pw_aload_n dX10_act_532 rfl ?_
                                        refine pw_iload_n dX10_act_533 rfl ?_
                                        refine pw_iload dX10_act_534 rfl ?_
                                        refine pw_iload dX10_act_536 rfl ?_
                                        refine pw_callV (As := [.int (zI (p)), .int (zI (nn)), .int (zI ((s1.2 36) ((4 * p) + (1)).toNat))]) (b := B) (rm := rmD 2 0 0) (mR_region htr hA hp hk (by omega) (by omega)) rfl hA.1 rfl rfl ywX10_region rfl cwX10_296 ⟨nle rfl, nle rfl⟩ (nle rfl) ⟨nle rfl, nle rfl⟩ dX10_act_538 ?_ (fun _ _ _ z => z.elim)
                                        intro r_9 h38 n_9 hq _
                                        obtain ⟨e1, s38, hA38, hk38, hr380, hF380, e4⟩ := hq
                                        rw [e1, e4]
                                        show pw E YX10_act _ _ 0 0 541 [some (.ref B), some (.int (zI (p))), some (.int (zI (b))), some (.int (zI (z))), some (.int (zI (nn))), some (.int (zI ((s1.2 36) ((4 * p) + (1)).toNat))), some (.int (zI ((s1.2 23) (p).toNat))), some (.int (zI ((s1.2 24) (p).toNat)))] [] h38 n
                                        have hr38 := mPr_tr hr hr380
                                        have hF38 := mFr_tr hF hF380
                                        obtain ⟨kw, kh, kr, kc, ksr, ksc, kt, ko, kwa, kin, kwr, khi, krd, knu, kgi, kas, kfr, kra, kco, kof, kip⟩ := id hk38
                                        have e18 := congrFun (hr38.2.1 18 (by decide)) p.toNat
                                        have e19 := congrFun (hr38.2.1 19 (by decide)) p.toNat
                                        refine pw_goto (tgt := 592) dX10_act_541 rfl ?_
                                        exact pw_vret dX10_act_592 rfl (nle rfl) (nle rfl) (kk s38 h38 hA38 hk38 hr38 hF38)
                                    ·
                                      refine pw_aload_n dX10_act_497 rfl ?_
                                      refine pw_iload_n dX10_act_498 rfl ?_
                                      refine pw_aload_n dX10_act_499 rfl ?_
                                      refine pw_get (v := .ref (B + 26)) okX10 (k := 29) (by decide) lkX10_86 hA.1 rfl dX10_act_500 ?_
                                      refine pw_iload_n dX10_act_503 rfl ?_
                                      refine pw_iald (t := 0) rfl (mF29 hA) (by first | omega | exact mCell_b hp ko (by omega) (by omega) | exact mHis_b hp (by omega) (by omega)) (by decide) dX10_act_504 ?_
                                      refine pw_aload_n dX10_act_505 rfl ?_
                                      refine pw_get (v := .ref (B + 27)) okX10 (k := 30) (by decide) lkX10_89 hA.1 rfl dX10_act_506 ?_
                                      refine pw_iload_n dX10_act_509 rfl ?_
                                      refine pw_iald (t := 0) rfl (mF30 hA) (by first | omega | exact mCell_b hp ko (by omega) (by omega) | exact mHis_b hp (by omega) (by omega)) (by decide) dX10_act_510 ?_
                                      refine pw_iload dX10_act_511 rfl ?_
                                      refine pw_callV (As := [.int (zI (p)), .int (zI ((s1.2 29) (p).toNat)), .int (zI ((s1.2 30) (p).toNat)), .int (zI (nn))]) (b := B) (rm := rmD 3 0 0) (mR_scrollDown htr hA hp hk (by omega) (by omega)) rfl hA.1 rfl rfl ywX10_scrollDown rfl cwX10_251 ⟨nle rfl, nle rfl⟩ (nle rfl) ⟨nle rfl, nle rfl⟩ dX10_act_513 ?_ (fun _ _ _ z => z.elim)
                                      intro r_9 h39 n_9 hq _
                                      obtain ⟨e1, s39, hA39, hk39, hr390, hF390, e4⟩ := hq
                                      rw [e1, e4]
                                      show pw E YX10_act _ _ 0 0 516 [some (.ref B), some (.int (zI (p))), some (.int (zI (b))), some (.int (zI (z))), some (.int (zI (nn))), some (.int (zI ((s1.2 36) ((4 * p) + (1)).toNat))), some (.int (zI ((s1.2 23) (p).toNat))), some (.int (zI ((s1.2 24) (p).toNat)))] [] h39 n
                                      have hr39 := mPr_tr hr hr390
                                      have hF39 := mFr_tr hF hF390
                                      obtain ⟨kw, kh, kr, kc, ksr, ksc, kt, ko, kwa, kin, kwr, khi, krd, knu, kgi, kas, kfr, kra, kco, kof, kip⟩ := id hk39
                                      have e18 := congrFun (hr39.2.1 18 (by decide)) p.toNat
                                      have e19 := congrFun (hr39.2.1 19 (by decide)) p.toNat
                                      refine pw_aload_n dX10_act_516 rfl ?_
                                      refine pw_get (v := .ref (B + 28)) okX10 (k := 31) (by decide) lkX10_92 hA39.1 rfl dX10_act_517 ?_
                                      refine pw_iload_n dX10_act_520 rfl ?_
                                      refine pw_iconst (v := zI (0)) dX10_act_521 (by decide) ?_
                                      refine pw_zast (t := 1) rfl (mF31 hA39) (by first | omega | exact mCell_b hp ko (by omega) (by omega) | exact mHis_b hp (by omega) (by omega)) (by decide) (by omega) dX10_act_522 ?_
                                      have hA40 : mAt B (mA 31 (va_up (s39.2 31) (p).toNat (0)) s39) (va_up h39 (B + 28) (pz_z 1 8 (va_up (s39.2 31) (p).toNat (0)))) := mU31 hA39
                                      have hk40 : mPk (mA 31 (va_up (s39.2 31) (p).toNat (0)) s39) p.toNat := mP31 hk39 (by omega)
                                      have hr40 : mPr p.toNat s (mA 31 (va_up (s39.2 31) (p).toNat (0)) s39) := mPr_tr hr39 (mPr_W (by decide) (by decide) (by decide))
                                      have hF40 : mFr B h (va_up h39 (B + 28) (pz_z 1 8 (va_up (s39.2 31) (p).toNat (0)))) := mFr_tr hF39 (mFr_up (by decide))
                                      revert hA40 hk40 hr40 hF40 
                                      generalize (mA 31 (va_up (s39.2 31) (p).toNat (0)) s39) = s40
                                      generalize (va_up h39 (B + 28) (pz_z 1 8 (va_up (s39.2 31) (p).toNat (0)))) = h40
                                      intro hA40 hk40 hr40 hF40 
                                      obtain ⟨kw, kh, kr, kc, ksr, ksc, kt, ko, kwa, kin, kwr, khi, krd, knu, kgi, kas, kfr, kra, kco, kof, kip⟩ := id hk40
                                      have e18 := congrFun (hr40.2.1 18 (by decide)) p.toNat
                                      have e19 := congrFun (hr40.2.1 19 (by decide)) p.toNat
                                      refine pw_goto (tgt := 592) dX10_act_523 rfl ?_
                                      exact pw_vret dX10_act_592 rfl (nle rfl) (nle rfl) (kk s40 h40 hA40 hk40 hr40 hF40)
                                  ·
                                    refine pw_aload_n dX10_act_461 rfl ?_
                                    refine pw_iload_n dX10_act_462 rfl ?_
                                    refine pw_aload_n dX10_act_463 rfl ?_
                                    refine pw_get (v := .ref (B + 26)) okX10 (k := 29) (by decide) lkX10_86 hA.1 rfl dX10_act_464 ?_
                                    refine pw_iload_n dX10_act_467 rfl ?_
                                    refine pw_iald (t := 0) rfl (mF29 hA) (by first | omega | exact mCell_b hp ko (by omega) (by omega) | exact mHis_b hp (by omega) (by omega)) (by decide) dX10_act_468 ?_
                                    refine pw_aload_n dX10_act_469 rfl ?_
                                    refine pw_get (v := .ref (B + 27)) okX10 (k := 30) (by decide) lkX10_89 hA.1 rfl dX10_act_470 ?_
                                    refine pw_iload_n dX10_act_473 rfl ?_
                                    refine pw_iald (t := 0) rfl (mF30 hA) (by first | omega | exact mCell_b hp ko (by omega) (by omega) | exact mHis_b hp (by omega) (by omega)) (by decide) dX10_act_474 ?_
                                    refine pw_iload dX10_act_475 rfl ?_
                                    refine pw_iconst (v := zI (1)) dX10_act_477 (by decide) ?_
                                    refine pw_callV (As := [.int (zI (p)), .int (zI ((s1.2 29) (p).toNat)), .int (zI ((s1.2 30) (p).toNat)), .int (zI (nn)), .int (zI (1))]) (b := B) (rm := rmD 3 0 0) (mR_scrollUp htr hA hp hk (by omega) (by omega) (by omega)) rfl hA.1 rfl rfl ywX10_scrollUp rfl cwX10_247 ⟨nle rfl, nle rfl⟩ (nle rfl) ⟨nle rfl, nle rfl⟩ dX10_act_478 ?_ (fun _ _ _ z => z.elim)
                                    intro r_9 h41 n_9 hq _
                                    obtain ⟨e1, s41, hA41, hk41, hr410, hF410, e4⟩ := hq
                                    rw [e1, e4]
                                    show pw E YX10_act _ _ 0 0 481 [some (.ref B), some (.int (zI (p))), some (.int (zI (b))), some (.int (zI (z))), some (.int (zI (nn))), some (.int (zI ((s1.2 36) ((4 * p) + (1)).toNat))), some (.int (zI ((s1.2 23) (p).toNat))), some (.int (zI ((s1.2 24) (p).toNat)))] [] h41 n
                                    have hr41 := mPr_tr hr hr410
                                    have hF41 := mFr_tr hF hF410
                                    obtain ⟨kw, kh, kr, kc, ksr, ksc, kt, ko, kwa, kin, kwr, khi, krd, knu, kgi, kas, kfr, kra, kco, kof, kip⟩ := id hk41
                                    have e18 := congrFun (hr41.2.1 18 (by decide)) p.toNat
                                    have e19 := congrFun (hr41.2.1 19 (by decide)) p.toNat
                                    refine pw_aload_n dX10_act_481 rfl ?_
                                    refine pw_get (v := .ref (B + 28)) okX10 (k := 31) (by decide) lkX10_92 hA41.1 rfl dX10_act_482 ?_
                                    refine pw_iload_n dX10_act_485 rfl ?_
                                    refine pw_iconst (v := zI (0)) dX10_act_486 (by decide) ?_
                                    refine pw_zast (t := 1) rfl (mF31 hA41) (by first | omega | exact mCell_b hp ko (by omega) (by omega) | exact mHis_b hp (by omega) (by omega)) (by decide) (by omega) dX10_act_487 ?_
                                    have hA42 : mAt B (mA 31 (va_up (s41.2 31) (p).toNat (0)) s41) (va_up h41 (B + 28) (pz_z 1 8 (va_up (s41.2 31) (p).toNat (0)))) := mU31 hA41
                                    have hk42 : mPk (mA 31 (va_up (s41.2 31) (p).toNat (0)) s41) p.toNat := mP31 hk41 (by omega)
                                    have hr42 : mPr p.toNat s (mA 31 (va_up (s41.2 31) (p).toNat (0)) s41) := mPr_tr hr41 (mPr_W (by decide) (by decide) (by decide))
                                    have hF42 : mFr B h (va_up h41 (B + 28) (pz_z 1 8 (va_up (s41.2 31) (p).toNat (0)))) := mFr_tr hF41 (mFr_up (by decide))
                                    revert hA42 hk42 hr42 hF42 
                                    generalize (mA 31 (va_up (s41.2 31) (p).toNat (0)) s41) = s42
                                    generalize (va_up h41 (B + 28) (pz_z 1 8 (va_up (s41.2 31) (p).toNat (0)))) = h42
                                    intro hA42 hk42 hr42 hF42 
                                    obtain ⟨kw, kh, kr, kc, ksr, ksc, kt, ko, kwa, kin, kwr, khi, krd, knu, kgi, kas, kfr, kra, kco, kof, kip⟩ := id hk42
                                    have e18 := congrFun (hr42.2.1 18 (by decide)) p.toNat
                                    have e19 := congrFun (hr42.2.1 19 (by decide)) p.toNat
                                    refine pw_goto (tgt := 592) dX10_act_488 rfl ?_
                                    exact pw_vret dX10_act_592 rfl (nle rfl) (nle rfl) (kk s42 h42 hA42 hk42 hr42 hF42)
                                ·
                                  refine pw_aload_n dX10_act_434 rfl ?_
                                  refine pw_iload_n dX10_act_435 rfl ?_
                                  refine pw_iload_n dX10_act_436 rfl ?_
                                  refine pw_bipush (v := zI (76)) dX10_act_437 (by decide) ?_
                                  refine pw_icmp_ne (tgt := 446) dX10_act_439 rfl (by omega) (by omega) (fun c439 => ?_) (fun c439 => ?_)
                                  ·
                                    refine pw_iconst (v := zI (0)) dX10_act_446 (by decide) ?_
                                    refine pw_iload dX10_act_447 rfl ?_
                                    refine pw_callV (As := [.int (zI (p)), .int (zI (0)), .int (zI (nn))]) (b := B) (rm := rmD 4 0 0) (mR_lines htr hA hp hk (by omega) (by omega)) rfl hA.1 rfl rfl ywX10_lines rfl cwX10_292 ⟨nle rfl, nle rfl⟩ (nle rfl) ⟨nle rfl, nle rfl⟩ dX10_act_449 ?_ (fun _ _ _ z => z.elim)
                                    intro r_9 h43 n_9 hq _
                                    obtain ⟨e1, s43, hA43, hk43, hr430, hF430, e4⟩ := hq
                                    rw [e1, e4]
                                    show pw E YX10_act _ _ 0 0 452 [some (.ref B), some (.int (zI (p))), some (.int (zI (b))), some (.int (zI (z))), some (.int (zI (nn))), some (.int (zI ((s1.2 36) ((4 * p) + (1)).toNat))), some (.int (zI ((s1.2 23) (p).toNat))), some (.int (zI ((s1.2 24) (p).toNat)))] [] h43 n
                                    have hr43 := mPr_tr hr hr430
                                    have hF43 := mFr_tr hF hF430
                                    obtain ⟨kw, kh, kr, kc, ksr, ksc, kt, ko, kwa, kin, kwr, khi, krd, knu, kgi, kas, kfr, kra, kco, kof, kip⟩ := id hk43
                                    have e18 := congrFun (hr43.2.1 18 (by decide)) p.toNat
                                    have e19 := congrFun (hr43.2.1 19 (by decide)) p.toNat
                                    refine pw_goto (tgt := 592) dX10_act_452 rfl ?_
                                    exact pw_vret dX10_act_592 rfl (nle rfl) (nle rfl) (kk s43 h43 hA43 hk43 hr43 hF43)
                                  ·
                                    refine pw_iconst (v := zI (1)) dX10_act_442 (by decide) ?_
                                    refine pw_goto (tgt := 447) dX10_act_443 rfl ?_
                                    refine pw_iload dX10_act_447 rfl ?_
                                    refine pw_callV (As := [.int (zI (p)), .int (zI (1)), .int (zI (nn))]) (b := B) (rm := rmD 4 0 0) (mR_lines htr hA hp hk (by omega) (by omega)) rfl hA.1 rfl rfl ywX10_lines rfl cwX10_292 ⟨nle rfl, nle rfl⟩ (nle rfl) ⟨nle rfl, nle rfl⟩ dX10_act_449 ?_ (fun _ _ _ z => z.elim)
                                    intro r_9 h44 n_9 hq _
                                    obtain ⟨e1, s44, hA44, hk44, hr440, hF440, e4⟩ := hq
                                    rw [e1, e4]
                                    show pw E YX10_act _ _ 0 0 452 [some (.ref B), some (.int (zI (p))), some (.int (zI (b))), some (.int (zI (z))), some (.int (zI (nn))), some (.int (zI ((s1.2 36) ((4 * p) + (1)).toNat))), some (.int (zI ((s1.2 23) (p).toNat))), some (.int (zI ((s1.2 24) (p).toNat)))] [] h44 n
                                    have hr44 := mPr_tr hr hr440
                                    have hF44 := mFr_tr hF hF440
                                    obtain ⟨kw, kh, kr, kc, ksr, ksc, kt, ko, kwa, kin, kwr, khi, krd, knu, kgi, kas, kfr, kra, kco, kof, kip⟩ := id hk44
                                    have e18 := congrFun (hr44.2.1 18 (by decide)) p.toNat
                                    have e19 := congrFun (hr44.2.1 19 (by decide)) p.toNat
                                    refine pw_goto (tgt := 592) dX10_act_452 rfl ?_
                                    exact pw_vret dX10_act_592 rfl (nle rfl) (nle rfl) (kk s44 h44 hA44 hk44 hr44 hF44)
                            ·
                              refine pw_aload_n dX10_act_389 rfl ?_
                              refine pw_iload_n dX10_act_390 rfl ?_
                              refine pw_iload dX10_act_391 rfl ?_
                              refine pw_iload dX10_act_393 rfl ?_
                              refine pw_iload_n dX10_act_395 rfl ?_
                              refine pw_bipush (v := zI (64)) dX10_act_396 (by decide) ?_
                              refine pw_icmp_ne (tgt := 406) dX10_act_398 rfl (by omega) (by omega) (fun c398 => ?_) (fun c398 => ?_)
                              ·
                                refine pw_iload dX10_act_406 rfl ?_
                                refine pw_zineg dX10_act_408 ?_
                                refine pw_callV (As := [.int (zI (p)), .int (zI ((s1.2 23) (p).toNat)), .int (zI ((s1.2 24) (p).toNat)), .int (zI (-(nn)))]) (b := B) (rm := rmD 2 0 0) (mR_push htr hA hp hk (by omega) (by omega) (by omega)) rfl hA.1 rfl rfl ywX10_push rfl cwX10_258 ⟨nle rfl, nle rfl⟩ (nle rfl) ⟨nle rfl, nle rfl⟩ dX10_act_409 ?_ (fun _ _ _ z => z.elim)
                                intro r_9 h45 n_9 hq _
                                obtain ⟨e1, s45, hA45, hk45, hr450, hF450, e4⟩ := hq
                                rw [e1, e4]
                                show pw E YX10_act _ _ 0 0 412 [some (.ref B), some (.int (zI (p))), some (.int (zI (b))), some (.int (zI (z))), some (.int (zI (nn))), some (.int (zI ((s1.2 36) ((4 * p) + (1)).toNat))), some (.int (zI ((s1.2 23) (p).toNat))), some (.int (zI ((s1.2 24) (p).toNat)))] [] h45 n
                                have hr45 := mPr_tr hr hr450
                                have hF45 := mFr_tr hF hF450
                                obtain ⟨kw, kh, kr, kc, ksr, ksc, kt, ko, kwa, kin, kwr, khi, krd, knu, kgi, kas, kfr, kra, kco, kof, kip⟩ := id hk45
                                have e18 := congrFun (hr45.2.1 18 (by decide)) p.toNat
                                have e19 := congrFun (hr45.2.1 19 (by decide)) p.toNat
                                refine pw_aload_n dX10_act_412 rfl ?_
                                refine pw_get (v := .ref (B + 28)) okX10 (k := 31) (by decide) lkX10_92 hA45.1 rfl dX10_act_413 ?_
                                refine pw_iload_n dX10_act_416 rfl ?_
                                refine pw_iconst (v := zI (0)) dX10_act_417 (by decide) ?_
                                refine pw_zast (t := 1) rfl (mF31 hA45) (by first | omega | exact mCell_b hp ko (by omega) (by omega) | exact mHis_b hp (by omega) (by omega)) (by decide) (by omega) dX10_act_418 ?_
                                have hA46 : mAt B (mA 31 (va_up (s45.2 31) (p).toNat (0)) s45) (va_up h45 (B + 28) (pz_z 1 8 (va_up (s45.2 31) (p).toNat (0)))) := mU31 hA45
                                have hk46 : mPk (mA 31 (va_up (s45.2 31) (p).toNat (0)) s45) p.toNat := mP31 hk45 (by omega)
                                have hr46 : mPr p.toNat s (mA 31 (va_up (s45.2 31) (p).toNat (0)) s45) := mPr_tr hr45 (mPr_W (by decide) (by decide) (by decide))
                                have hF46 : mFr B h (va_up h45 (B + 28) (pz_z 1 8 (va_up (s45.2 31) (p).toNat (0)))) := mFr_tr hF45 (mFr_up (by decide))
                                revert hA46 hk46 hr46 hF46 
                                generalize (mA 31 (va_up (s45.2 31) (p).toNat (0)) s45) = s46
                                generalize (va_up h45 (B + 28) (pz_z 1 8 (va_up (s45.2 31) (p).toNat (0)))) = h46
                                intro hA46 hk46 hr46 hF46 
                                obtain ⟨kw, kh, kr, kc, ksr, ksc, kt, ko, kwa, kin, kwr, khi, krd, knu, kgi, kas, kfr, kra, kco, kof, kip⟩ := id hk46
                                have e18 := congrFun (hr46.2.1 18 (by decide)) p.toNat
                                have e19 := congrFun (hr46.2.1 19 (by decide)) p.toNat
                                refine pw_goto (tgt := 592) dX10_act_419 rfl ?_
                                exact pw_vret dX10_act_592 rfl (nle rfl) (nle rfl) (kk s46 h46 hA46 hk46 hr46 hF46)
                              ·
                                refine pw_iload dX10_act_401 rfl ?_
                                refine pw_goto (tgt := 409) dX10_act_403 rfl ?_
                                refine pw_callV (As := [.int (zI (p)), .int (zI ((s1.2 23) (p).toNat)), .int (zI ((s1.2 24) (p).toNat)), .int (zI (nn))]) (b := B) (rm := rmD 2 0 0) (mR_push htr hA hp hk (by omega) (by omega) (by omega)) rfl hA.1 rfl rfl ywX10_push rfl cwX10_258 ⟨nle rfl, nle rfl⟩ (nle rfl) ⟨nle rfl, nle rfl⟩ dX10_act_409 ?_ (fun _ _ _ z => z.elim)
                                intro r_9 h47 n_9 hq _
                                obtain ⟨e1, s47, hA47, hk47, hr470, hF470, e4⟩ := hq
                                rw [e1, e4]
                                show pw E YX10_act _ _ 0 0 412 [some (.ref B), some (.int (zI (p))), some (.int (zI (b))), some (.int (zI (z))), some (.int (zI (nn))), some (.int (zI ((s1.2 36) ((4 * p) + (1)).toNat))), some (.int (zI ((s1.2 23) (p).toNat))), some (.int (zI ((s1.2 24) (p).toNat)))] [] h47 n
                                have hr47 := mPr_tr hr hr470
                                have hF47 := mFr_tr hF hF470
                                obtain ⟨kw, kh, kr, kc, ksr, ksc, kt, ko, kwa, kin, kwr, khi, krd, knu, kgi, kas, kfr, kra, kco, kof, kip⟩ := id hk47
                                have e18 := congrFun (hr47.2.1 18 (by decide)) p.toNat
                                have e19 := congrFun (hr47.2.1 19 (by decide)) p.toNat
                                refine pw_aload_n dX10_act_412 rfl ?_
                                refine pw_get (v := .ref (B + 28)) okX10 (k := 31) (by decide) lkX10_92 hA47.1 rfl dX10_act_413 ?_
                                refine pw_iload_n dX10_act_416 rfl ?_
                                refine pw_iconst (v := zI (0)) dX10_act_417 (by decide) ?_
                                refine pw_zast (t := 1) rfl (mF31 hA47) (by first | omega | exact mCell_b hp ko (by omega) (by omega) | exact mHis_b hp (by omega) (by omega)) (by decide) (by omega) dX10_act_418 ?_
                                have hA48 : mAt B (mA 31 (va_up (s47.2 31) (p).toNat (0)) s47) (va_up h47 (B + 28) (pz_z 1 8 (va_up (s47.2 31) (p).toNat (0)))) := mU31 hA47
                                have hk48 : mPk (mA 31 (va_up (s47.2 31) (p).toNat (0)) s47) p.toNat := mP31 hk47 (by omega)
                                have hr48 : mPr p.toNat s (mA 31 (va_up (s47.2 31) (p).toNat (0)) s47) := mPr_tr hr47 (mPr_W (by decide) (by decide) (by decide))
                                have hF48 : mFr B h (va_up h47 (B + 28) (pz_z 1 8 (va_up (s47.2 31) (p).toNat (0)))) := mFr_tr hF47 (mFr_up (by decide))
                                revert hA48 hk48 hr48 hF48 
                                generalize (mA 31 (va_up (s47.2 31) (p).toNat (0)) s47) = s48
                                generalize (va_up h47 (B + 28) (pz_z 1 8 (va_up (s47.2 31) (p).toNat (0)))) = h48
                                intro hA48 hk48 hr48 hF48 
                                obtain ⟨kw, kh, kr, kc, ksr, ksc, kt, ko, kwa, kin, kwr, khi, krd, knu, kgi, kas, kfr, kra, kco, kof, kip⟩ := id hk48
                                have e18 := congrFun (hr48.2.1 18 (by decide)) p.toNat
                                have e19 := congrFun (hr48.2.1 19 (by decide)) p.toNat
                                refine pw_goto (tgt := 592) dX10_act_419 rfl ?_
                                exact pw_vret dX10_act_592 rfl (nle rfl) (nle rfl) (kk s48 h48 hA48 hk48 hr48 hF48)
                        ·
                          refine pw_aload_n dX10_act_356 rfl ?_
                          refine pw_iload_n dX10_act_357 rfl ?_
                          refine pw_iload dX10_act_358 rfl ?_
                          refine pw_iload dX10_act_360 rfl ?_
                          refine pw_iload dX10_act_362 rfl ?_
                          refine pw_iload dX10_act_364 rfl ?_
                          refine pw_iload dX10_act_366 rfl ?_
                          refine pw_ziadd dX10_act_368 ?_
                          refine pw_iconst (v := zI (1)) dX10_act_369 (by decide) ?_
                          refine pw_zisub dX10_act_370 ?_
                          refine pw_callV (As := [.int (zI (p)), .int (zI ((s1.2 23) (p).toNat)), .int (zI ((s1.2 24) (p).toNat)), .int (zI ((s1.2 23) (p).toNat)), .int (zI ((((s1.2 24) (p).toNat) + (nn)) - (1)))]) (b := B) (rm := rmD 2 0 0) (mR_erase htr hA hp hk (by omega) (by omega) (by omega) (by omega) (by omega)) rfl hA.1 rfl rfl ywX10_erase rfl cwX10_289 ⟨nle rfl, nle rfl⟩ (nle rfl) ⟨nle rfl, nle rfl⟩ dX10_act_371 ?_ (fun _ _ _ z => z.elim)
                          intro r_9 h49 n_9 hq _
                          obtain ⟨e1, s49, hA49, hk49, hr490, hF490, e4⟩ := hq
                          rw [e1, e4]
                          show pw E YX10_act _ _ 0 0 374 [some (.ref B), some (.int (zI (p))), some (.int (zI (b))), some (.int (zI (z))), some (.int (zI (nn))), some (.int (zI ((s1.2 36) ((4 * p) + (1)).toNat))), some (.int (zI ((s1.2 23) (p).toNat))), some (.int (zI ((s1.2 24) (p).toNat)))] [] h49 n
                          have hr49 := mPr_tr hr hr490
                          have hF49 := mFr_tr hF hF490
                          obtain ⟨kw, kh, kr, kc, ksr, ksc, kt, ko, kwa, kin, kwr, khi, krd, knu, kgi, kas, kfr, kra, kco, kof, kip⟩ := id hk49
                          have e18 := congrFun (hr49.2.1 18 (by decide)) p.toNat
                          have e19 := congrFun (hr49.2.1 19 (by decide)) p.toNat
                          refine pw_goto (tgt := 592) dX10_act_374 rfl ?_
                          exact pw_vret dX10_act_592 rfl (nle rfl) (nle rfl) (kk s49 h49 hA49 hk49 hr49 hF49)
                      ·
                        refine pw_aload_n dX10_act_316 rfl ?_
                        refine pw_iload_n dX10_act_317 rfl ?_
                        refine pw_iload dX10_act_318 rfl ?_
                        refine pw_iload_n dX10_act_320 rfl ?_
                        refine pw_if_ne (tgt := 329) dX10_act_321 rfl (by omega) (fun c321 => ?_) (fun c321 => ?_)
                        ·
                          refine pw_iconst (v := zI (0)) dX10_act_329 (by decide) ?_
                          refine pw_iload dX10_act_330 rfl ?_
                          refine pw_iload_n dX10_act_332 rfl ?_
                          refine pw_iconst (v := zI (1)) dX10_act_333 (by decide) ?_
                          refine pw_icmp_ne (tgt := 342) dX10_act_334 rfl (by omega) (by omega) (fun c334 => ?_) (fun c334 => ?_)
                          ·
                            refine pw_bipush (v := zI (40)) dX10_act_342 (by decide) ?_
                            refine pw_callV (As := [.int (zI (p)), .int (zI ((s1.2 23) (p).toNat)), .int (zI (0)), .int (zI ((s1.2 23) (p).toNat)), .int (zI (40))]) (b := B) (rm := rmD 2 0 0) (mR_erase htr hA hp hk (by omega) (by omega) (by omega) (by omega) (by omega)) rfl hA.1 rfl rfl ywX10_erase rfl cwX10_289 ⟨nle rfl, nle rfl⟩ (nle rfl) ⟨nle rfl, nle rfl⟩ dX10_act_344 ?_ (fun _ _ _ z => z.elim)
                            intro r_9 h50 n_9 hq _
                            obtain ⟨e1, s50, hA50, hk50, hr500, hF500, e4⟩ := hq
                            rw [e1, e4]
                            show pw E YX10_act _ _ 0 0 347 [some (.ref B), some (.int (zI (p))), some (.int (zI (b))), some (.int (zI (z))), some (.int (zI (nn))), some (.int (zI ((s1.2 36) ((4 * p) + (1)).toNat))), some (.int (zI ((s1.2 23) (p).toNat))), some (.int (zI ((s1.2 24) (p).toNat)))] [] h50 n
                            have hr50 := mPr_tr hr hr500
                            have hF50 := mFr_tr hF hF500
                            obtain ⟨kw, kh, kr, kc, ksr, ksc, kt, ko, kwa, kin, kwr, khi, krd, knu, kgi, kas, kfr, kra, kco, kof, kip⟩ := id hk50
                            have e18 := congrFun (hr50.2.1 18 (by decide)) p.toNat
                            have e19 := congrFun (hr50.2.1 19 (by decide)) p.toNat
                            refine pw_goto (tgt := 592) dX10_act_347 rfl ?_
                            exact pw_vret dX10_act_592 rfl (nle rfl) (nle rfl) (kk s50 h50 hA50 hk50 hr50 hF50)
                          ·
                            refine pw_iload dX10_act_337 rfl ?_
                            refine pw_goto (tgt := 344) dX10_act_339 rfl ?_
                            refine pw_callV (As := [.int (zI (p)), .int (zI ((s1.2 23) (p).toNat)), .int (zI (0)), .int (zI ((s1.2 23) (p).toNat)), .int (zI ((s1.2 24) (p).toNat))]) (b := B) (rm := rmD 2 0 0) (mR_erase htr hA hp hk (by omega) (by omega) (by omega) (by omega) (by omega)) rfl hA.1 rfl rfl ywX10_erase rfl cwX10_289 ⟨nle rfl, nle rfl⟩ (nle rfl) ⟨nle rfl, nle rfl⟩ dX10_act_344 ?_ (fun _ _ _ z => z.elim)
                            intro r_9 h51 n_9 hq _
                            obtain ⟨e1, s51, hA51, hk51, hr510, hF510, e4⟩ := hq
                            rw [e1, e4]
                            show pw E YX10_act _ _ 0 0 347 [some (.ref B), some (.int (zI (p))), some (.int (zI (b))), some (.int (zI (z))), some (.int (zI (nn))), some (.int (zI ((s1.2 36) ((4 * p) + (1)).toNat))), some (.int (zI ((s1.2 23) (p).toNat))), some (.int (zI ((s1.2 24) (p).toNat)))] [] h51 n
                            have hr51 := mPr_tr hr hr510
                            have hF51 := mFr_tr hF hF510
                            obtain ⟨kw, kh, kr, kc, ksr, ksc, kt, ko, kwa, kin, kwr, khi, krd, knu, kgi, kas, kfr, kra, kco, kof, kip⟩ := id hk51
                            have e18 := congrFun (hr51.2.1 18 (by decide)) p.toNat
                            have e19 := congrFun (hr51.2.1 19 (by decide)) p.toNat
                            refine pw_goto (tgt := 592) dX10_act_347 rfl ?_
                            exact pw_vret dX10_act_592 rfl (nle rfl) (nle rfl) (kk s51 h51 hA51 hk51 hr51 hF51)
                        ·
                          refine pw_iload dX10_act_324 rfl ?_
                          refine pw_goto (tgt := 330) dX10_act_326 rfl ?_
                          refine pw_iload dX10_act_330 rfl ?_
                          refine pw_iload_n dX10_act_332 rfl ?_
                          refine pw_iconst (v := zI (1)) dX10_act_333 (by decide) ?_
                          refine pw_icmp_ne (tgt := 342) dX10_act_334 rfl (by omega) (by omega) (fun c334 => ?_) (fun c334 => ?_)
                          ·
                            refine pw_bipush (v := zI (40)) dX10_act_342 (by decide) ?_
                            refine pw_callV (As := [.int (zI (p)), .int (zI ((s1.2 23) (p).toNat)), .int (zI ((s1.2 24) (p).toNat)), .int (zI ((s1.2 23) (p).toNat)), .int (zI (40))]) (b := B) (rm := rmD 2 0 0) (mR_erase htr hA hp hk (by omega) (by omega) (by omega) (by omega) (by omega)) rfl hA.1 rfl rfl ywX10_erase rfl cwX10_289 ⟨nle rfl, nle rfl⟩ (nle rfl) ⟨nle rfl, nle rfl⟩ dX10_act_344 ?_ (fun _ _ _ z => z.elim)
                            intro r_9 h52 n_9 hq _
                            obtain ⟨e1, s52, hA52, hk52, hr520, hF520, e4⟩ := hq
                            rw [e1, e4]
                            show pw E YX10_act _ _ 0 0 347 [some (.ref B), some (.int (zI (p))), some (.int (zI (b))), some (.int (zI (z))), some (.int (zI (nn))), some (.int (zI ((s1.2 36) ((4 * p) + (1)).toNat))), some (.int (zI ((s1.2 23) (p).toNat))), some (.int (zI ((s1.2 24) (p).toNat)))] [] h52 n
                            have hr52 := mPr_tr hr hr520
                            have hF52 := mFr_tr hF hF520
                            obtain ⟨kw, kh, kr, kc, ksr, ksc, kt, ko, kwa, kin, kwr, khi, krd, knu, kgi, kas, kfr, kra, kco, kof, kip⟩ := id hk52
                            have e18 := congrFun (hr52.2.1 18 (by decide)) p.toNat
                            have e19 := congrFun (hr52.2.1 19 (by decide)) p.toNat
                            refine pw_goto (tgt := 592) dX10_act_347 rfl ?_
                            exact pw_vret dX10_act_592 rfl (nle rfl) (nle rfl) (kk s52 h52 hA52 hk52 hr52 hF52)
                          ·
                            refine pw_iload dX10_act_337 rfl ?_
                            refine pw_goto (tgt := 344) dX10_act_339 rfl ?_
                            refine pw_callV (As := [.int (zI (p)), .int (zI ((s1.2 23) (p).toNat)), .int (zI ((s1.2 24) (p).toNat)), .int (zI ((s1.2 23) (p).toNat)), .int (zI ((s1.2 24) (p).toNat))]) (b := B) (rm := rmD 2 0 0) (mR_erase htr hA hp hk (by omega) (by omega) (by omega) (by omega) (by omega)) rfl hA.1 rfl rfl ywX10_erase rfl cwX10_289 ⟨nle rfl, nle rfl⟩ (nle rfl) ⟨nle rfl, nle rfl⟩ dX10_act_344 ?_ (fun _ _ _ z => z.elim)
                            intro r_9 h53 n_9 hq _
                            obtain ⟨e1, s53, hA53, hk53, hr530, hF530, e4⟩ := hq
                            rw [e1, e4]
                            show pw E YX10_act _ _ 0 0 347 [some (.ref B), some (.int (zI (p))), some (.int (zI (b))), some (.int (zI (z))), some (.int (zI (nn))), some (.int (zI ((s1.2 36) ((4 * p) + (1)).toNat))), some (.int (zI ((s1.2 23) (p).toNat))), some (.int (zI ((s1.2 24) (p).toNat)))] [] h53 n
                            have hr53 := mPr_tr hr hr530
                            have hF53 := mFr_tr hF hF530
                            obtain ⟨kw, kh, kr, kc, ksr, ksc, kt, ko, kwa, kin, kwr, khi, krd, knu, kgi, kas, kfr, kra, kco, kof, kip⟩ := id hk53
                            have e18 := congrFun (hr53.2.1 18 (by decide)) p.toNat
                            have e19 := congrFun (hr53.2.1 19 (by decide)) p.toNat
                            refine pw_goto (tgt := 592) dX10_act_347 rfl ?_
                            exact pw_vret dX10_act_592 rfl (nle rfl) (nle rfl) (kk s53 h53 hA53 hk53 hr53 hF53)
                  ·
                    refine pw_iload_n dX10_act_242 rfl ?_
                    refine pw_iconst (v := zI (3)) dX10_act_243 (by decide) ?_
                    refine pw_icmp_ge (tgt := 305) dX10_act_244 rfl (by omega) (by omega) (fun c244 => ?_) (fun c244 => ?_)
                    ·
                      refine pw_iload_n dX10_act_305 rfl ?_
                      refine pw_bipush (v := zI (75)) dX10_act_306 (by decide) ?_
                      refine pw_icmp_ne (tgt := 350) dX10_act_308 rfl (by omega) (by omega) (fun c308 => ?_) (fun c308 => ?_)
                      ·
                        refine pw_iload_n dX10_act_350 rfl ?_
                        refine pw_bipush (v := zI (88)) dX10_act_351 (by decide) ?_
                        refine pw_icmp_ne (tgt := 377) dX10_act_353 rfl (by omega) (by omega) (fun c353 => ?_) (fun c353 => ?_)
                        ·
                          refine pw_iload_n dX10_act_377 rfl ?_
                          refine pw_bipush (v := zI (64)) dX10_act_378 (by decide) ?_
                          refine pw_icmp_eq (tgt := 389) dX10_act_380 rfl (by omega) (by omega) (fun c380 => ?_) (fun c380 => ?_)
                          ·
                            refine pw_aload_n dX10_act_389 rfl ?_
                            refine pw_iload_n dX10_act_390 rfl ?_
                            refine pw_iload dX10_act_391 rfl ?_
                            refine pw_iload dX10_act_393 rfl ?_
                            refine pw_iload_n dX10_act_395 rfl ?_
                            refine pw_bipush (v := zI (64)) dX10_act_396 (by decide) ?_
                            refine pw_icmp_ne (tgt := 406) dX10_act_398 rfl (by omega) (by omega) (fun c398 => ?_) (fun c398 => ?_)
                            ·
                              refine pw_iload dX10_act_406 rfl ?_
                              refine pw_zineg dX10_act_408 ?_
                              refine pw_callV (As := [.int (zI (p)), .int (zI ((s1.2 23) (p).toNat)), .int (zI ((s1.2 24) (p).toNat)), .int (zI (-(nn)))]) (b := B) (rm := rmD 2 0 0) (mR_push htr hA hp hk (by omega) (by omega) (by omega)) rfl hA.1 rfl rfl ywX10_push rfl cwX10_258 ⟨nle rfl, nle rfl⟩ (nle rfl) ⟨nle rfl, nle rfl⟩ dX10_act_409 ?_ (fun _ _ _ z => z.elim)
                              intro r_9 h54 n_9 hq _
                              obtain ⟨e1, s54, hA54, hk54, hr540, hF540, e4⟩ := hq
                              rw [e1, e4]
                              show pw E YX10_act _ _ 0 0 412 [some (.ref B), some (.int (zI (p))), some (.int (zI (b))), some (.int (zI (z))), some (.int (zI (nn))), some (.int (zI ((s1.2 36) ((4 * p) + (1)).toNat))), some (.int (zI ((s1.2 23) (p).toNat))), some (.int (zI ((s1.2 24) (p).toNat)))] [] h54 n
                              have hr54 := mPr_tr hr hr540
                              have hF54 := mFr_tr hF hF540
                              obtain ⟨kw, kh, kr, kc, ksr, ksc, kt, ko, kwa, kin, kwr, khi, krd, knu, kgi, kas, kfr, kra, kco, kof, kip⟩ := id hk54
                              have e18 := congrFun (hr54.2.1 18 (by decide)) p.toNat
                              have e19 := congrFun (hr54.2.1 19 (by decide)) p.toNat
                              refine pw_aload_n dX10_act_412 rfl ?_
                              refine pw_get (v := .ref (B + 28)) okX10 (k := 31) (by decide) lkX10_92 hA54.1 rfl dX10_act_413 ?_
                              refine pw_iload_n dX10_act_416 rfl ?_
                              refine pw_iconst (v := zI (0)) dX10_act_417 (by decide) ?_
                              refine pw_zast (t := 1) rfl (mF31 hA54) (by first | omega | exact mCell_b hp ko (by omega) (by omega) | exact mHis_b hp (by omega) (by omega)) (by decide) (by omega) dX10_act_418 ?_
                              have hA55 : mAt B (mA 31 (va_up (s54.2 31) (p).toNat (0)) s54) (va_up h54 (B + 28) (pz_z 1 8 (va_up (s54.2 31) (p).toNat (0)))) := mU31 hA54
                              have hk55 : mPk (mA 31 (va_up (s54.2 31) (p).toNat (0)) s54) p.toNat := mP31 hk54 (by omega)
                              have hr55 : mPr p.toNat s (mA 31 (va_up (s54.2 31) (p).toNat (0)) s54) := mPr_tr hr54 (mPr_W (by decide) (by decide) (by decide))
                              have hF55 : mFr B h (va_up h54 (B + 28) (pz_z 1 8 (va_up (s54.2 31) (p).toNat (0)))) := mFr_tr hF54 (mFr_up (by decide))
                              revert hA55 hk55 hr55 hF55 
                              generalize (mA 31 (va_up (s54.2 31) (p).toNat (0)) s54) = s55
                              generalize (va_up h54 (B + 28) (pz_z 1 8 (va_up (s54.2 31) (p).toNat (0)))) = h55
                              intro hA55 hk55 hr55 hF55 
                              obtain ⟨kw, kh, kr, kc, ksr, ksc, kt, ko, kwa, kin, kwr, khi, krd, knu, kgi, kas, kfr, kra, kco, kof, kip⟩ := id hk55
                              have e18 := congrFun (hr55.2.1 18 (by decide)) p.toNat
                              have e19 := congrFun (hr55.2.1 19 (by decide)) p.toNat
                              refine pw_goto (tgt := 592) dX10_act_419 rfl ?_
                              exact pw_vret dX10_act_592 rfl (nle rfl) (nle rfl) (kk s55 h55 hA55 hk55 hr55 hF55)
                            ·
                              refine pw_iload dX10_act_401 rfl ?_
                              refine pw_goto (tgt := 409) dX10_act_403 rfl ?_
                              refine pw_callV (As := [.int (zI (p)), .int (zI ((s1.2 23) (p).toNat)), .int (zI ((s1.2 24) (p).toNat)), .int (zI (nn))]) (b := B) (rm := rmD 2 0 0) (mR_push htr hA hp hk (by omega) (by omega) (by omega)) rfl hA.1 rfl rfl ywX10_push rfl cwX10_258 ⟨nle rfl, nle rfl⟩ (nle rfl) ⟨nle rfl, nle rfl⟩ dX10_act_409 ?_ (fun _ _ _ z => z.elim)
                              intro r_9 h56 n_9 hq _
                              obtain ⟨e1, s56, hA56, hk56, hr560, hF560, e4⟩ := hq
                              rw [e1, e4]
                              show pw E YX10_act _ _ 0 0 412 [some (.ref B), some (.int (zI (p))), some (.int (zI (b))), some (.int (zI (z))), some (.int (zI (nn))), some (.int (zI ((s1.2 36) ((4 * p) + (1)).toNat))), some (.int (zI ((s1.2 23) (p).toNat))), some (.int (zI ((s1.2 24) (p).toNat)))] [] h56 n
                              have hr56 := mPr_tr hr hr560
                              have hF56 := mFr_tr hF hF560
                              obtain ⟨kw, kh, kr, kc, ksr, ksc, kt, ko, kwa, kin, kwr, khi, krd, knu, kgi, kas, kfr, kra, kco, kof, kip⟩ := id hk56
                              have e18 := congrFun (hr56.2.1 18 (by decide)) p.toNat
                              have e19 := congrFun (hr56.2.1 19 (by decide)) p.toNat
                              refine pw_aload_n dX10_act_412 rfl ?_
                              refine pw_get (v := .ref (B + 28)) okX10 (k := 31) (by decide) lkX10_92 hA56.1 rfl dX10_act_413 ?_
                              refine pw_iload_n dX10_act_416 rfl ?_
                              refine pw_iconst (v := zI (0)) dX10_act_417 (by decide) ?_
                              refine pw_zast (t := 1) rfl (mF31 hA56) (by first | omega | exact mCell_b hp ko (by omega) (by omega) | exact mHis_b hp (by omega) (by omega)) (by decide) (by omega) dX10_act_418 ?_
                              have hA57 : mAt B (mA 31 (va_up (s56.2 31) (p).toNat (0)) s56) (va_up h56 (B + 28) (pz_z 1 8 (va_up (s56.2 31) (p).toNat (0)))) := mU31 hA56
                              have hk57 : mPk (mA 31 (va_up (s56.2 31) (p).toNat (0)) s56) p.toNat := mP31 hk56 (by omega)
                              have hr57 : mPr p.toNat s (mA 31 (va_up (s56.2 31) (p).toNat (0)) s56) := mPr_tr hr56 (mPr_W (by decide) (by decide) (by decide))
                              have hF57 : mFr B h (va_up h56 (B + 28) (pz_z 1 8 (va_up (s56.2 31) (p).toNat (0)))) := mFr_tr hF56 (mFr_up (by decide))
                              revert hA57 hk57 hr57 hF57 
                              generalize (mA 31 (va_up (s56.2 31) (p).toNat (0)) s56) = s57
                              generalize (va_up h56 (B + 28) (pz_z 1 8 (va_up (s56.2 31) (p).toNat (0)))) = h57
                              intro hA57 hk57 hr57 hF57 
                              obtain ⟨kw, kh, kr, kc, ksr, ksc, kt, ko, kwa, kin, kwr, khi, krd, knu, kgi, kas, kfr, kra, kco, kof, kip⟩ := id hk57
                              have e18 := congrFun (hr57.2.1 18 (by decide)) p.toNat
                              have e19 := congrFun (hr57.2.1 19 (by decide)) p.toNat
                              refine pw_goto (tgt := 592) dX10_act_419 rfl ?_
                              exact pw_vret dX10_act_592 rfl (nle rfl) (nle rfl) (kk s57 h57 hA57 hk57 hr57 hF57)
                          ·
                            refine pw_iload_n dX10_act_383 rfl ?_
                            refine pw_bipush (v := zI (80)) dX10_act_384 (by decide) ?_
                            refine pw_icmp_ne (tgt := 422) dX10_act_386 rfl (by omega) (by omega) (fun c386 => ?_) (fun c386 => ?_)
                            ·
                              refine pw_iload_n dX10_act_422 rfl ?_
                              refine pw_bipush (v := zI (76)) dX10_act_423 (by decide) ?_
                              refine pw_icmp_eq (tgt := 434) dX10_act_425 rfl (by omega) (by omega) (fun c425 => ?_) (fun c425 => ?_)
                              ·
                                refine pw_aload_n dX10_act_434 rfl ?_
                                refine pw_iload_n dX10_act_435 rfl ?_
                                refine pw_iload_n dX10_act_436 rfl ?_
                                refine pw_bipush (v := zI (76)) dX10_act_437 (by decide) ?_
                                refine pw_icmp_ne (tgt := 446) dX10_act_439 rfl (by omega) (by omega) (fun c439 => ?_) (fun c439 => ?_)
                                ·
                                  refine pw_iconst (v := zI (0)) dX10_act_446 (by decide) ?_
                                  refine pw_iload dX10_act_447 rfl ?_
                                  refine pw_callV (As := [.int (zI (p)), .int (zI (0)), .int (zI (nn))]) (b := B) (rm := rmD 4 0 0) (mR_lines htr hA hp hk (by omega) (by omega)) rfl hA.1 rfl rfl ywX10_lines rfl cwX10_292 ⟨nle rfl, nle rfl⟩ (nle rfl) ⟨nle rfl, nle rfl⟩ dX10_act_449 ?_ (fun _ _ _ z => z.elim)
                                  intro r_9 h58 n_9 hq _
                                  obtain ⟨e1, s58, hA58, hk58, hr580, hF580, e4⟩ := hq
                                  rw [e1, e4]
                                  show pw E YX10_act _ _ 0 0 452 [some (.ref B), some (.int (zI (p))), some (.int (zI (b))), some (.int (zI (z))), some (.int (zI (nn))), some (.int (zI ((s1.2 36) ((4 * p) + (1)).toNat))), some (.int (zI ((s1.2 23) (p).toNat))), some (.int (zI ((s1.2 24) (p).toNat)))] [] h58 n
                                  have hr58 := mPr_tr hr hr580
                                  have hF58 := mFr_tr hF hF580
                                  obtain ⟨kw, kh, kr, kc, ksr, ksc, kt, ko, kwa, kin, kwr, khi, krd, knu, kgi, kas, kfr, kra, kco, kof, kip⟩ := id hk58
                                  have e18 := congrFun (hr58.2.1 18 (by decide)) p.toNat
                                  have e19 := congrFun (hr58.2.1 19 (by decide)) p.toNat
                                  refine pw_goto (tgt := 592) dX10_act_452 rfl ?_
                                  exact pw_vret dX10_act_592 rfl (nle rfl) (nle rfl) (kk s58 h58 hA58 hk58 hr58 hF58)
                                ·
                                  refine pw_iconst (v := zI (1)) dX10_act_442 (by decide) ?_
                                  refine pw_goto (tgt := 447) dX10_act_443 rfl ?_
                                  refine pw_iload dX10_act_447 rfl ?_
                                  refine pw_callV (As := [.int (zI (p)), .int (zI (1)), .int (zI (nn))]) (b := B) (rm := rmD 4 0 0) (mR_lines htr hA hp hk (by omega) (by omega)) rfl hA.1 rfl rfl ywX10_lines rfl cwX10_292 ⟨nle rfl, nle rfl⟩ (nle rfl) ⟨nle rfl, nle rfl⟩ dX10_act_449 ?_ (fun _ _ _ z => z.elim)
                                  intro r_9 h59 n_9 hq _
                                  obtain ⟨e1, s59, hA59, hk59, hr590, hF590, e4⟩ := hq
                                  rw [e1, e4]
                                  show pw E YX10_act _ _ 0 0 452 [some (.ref B), some (.int (zI (p))), some (.int (zI (b))), some (.int (zI (z))), some (.int (zI (nn))), some (.int (zI ((s1.2 36) ((4 * p) + (1)).toNat))), some (.int (zI ((s1.2 23) (p).toNat))), some (.int (zI ((s1.2 24) (p).toNat)))] [] h59 n
                                  have hr59 := mPr_tr hr hr590
                                  have hF59 := mFr_tr hF hF590
                                  obtain ⟨kw, kh, kr, kc, ksr, ksc, kt, ko, kwa, kin, kwr, khi, krd, knu, kgi, kas, kfr, kra, kco, kof, kip⟩ := id hk59
                                  have e18 := congrFun (hr59.2.1 18 (by decide)) p.toNat
                                  have e19 := congrFun (hr59.2.1 19 (by decide)) p.toNat
                                  refine pw_goto (tgt := 592) dX10_act_452 rfl ?_
                                  exact pw_vret dX10_act_592 rfl (nle rfl) (nle rfl) (kk s59 h59 hA59 hk59 hr59 hF59)
                              ·
                                refine pw_iload_n dX10_act_428 rfl ?_
                                refine pw_bipush (v := zI (77)) dX10_act_429 (by decide) ?_
                                refine pw_icmp_ne (tgt := 455) dX10_act_431 rfl (by omega) (by omega) (fun c431 => ?_) (fun c431 => ?_)
                                ·
                                  refine pw_iload_n dX10_act_455 rfl ?_
                                  refine pw_bipush (v := zI (83)) dX10_act_456 (by decide) ?_
                                  refine pw_icmp_ne (tgt := 491) dX10_act_458 rfl (by omega) (by omega) (fun c458 => ?_) (fun c458 => ?_)
                                  ·
                                    refine pw_iload_n dX10_act_491 rfl ?_
                                    refine pw_bipush (v := zI (84)) dX10_act_492 (by decide) ?_
                                    refine pw_icmp_ne (tgt := 526) dX10_act_494 rfl (by omega) (by omega) (fun c494 => ?_) (fun c494 => ?_)
                                    ·
                                      refine pw_iload_n dX10_act_526 rfl ?_
                                      refine pw_bipush (v := zI (114)) dX10_act_527 (by decide) ?_
                                      refine pw_icmp_ne (tgt := 544) dX10_act_529 rfl (by omega) (by omega) (fun c529 => ?_) (fun c529 => ?_)
                                      ·
                                        refine pw_iload_n dX10_act_544 rfl ?_
                                        refine pw_bipush (v := zI (109)) dX10_act_545 (by decide) ?_
                                        refine pw_icmp_ne (tgt := 558) dX10_act_547 rfl (by omega) (by omega) (fun c547 => ?_) (fun c547 => ?_)
                                        ·
                                          refine pw_iload_n dX10_act_558 rfl ?_
                                          refine pw_bipush (v := zI (104)) dX10_act_559 (by decide) ?_
                                          refine pw_icmp_eq (tgt := 570) dX10_act_561 rfl (by omega) (by omega) (fun c561 => ?_) (fun c561 => ?_)
                                          ·
                                            refine pw_iload_n dX10_act_570 rfl ?_
                                            refine pw_iconst (v := zI (4)) dX10_act_571 (by decide) ?_
                                            refine pw_icmp_ne (tgt := 592) dX10_act_572 rfl (by omega) (by omega) (fun c572 => ?_) (fun c572 => ?_)
                                            ·
                                              exact pw_vret dX10_act_592 rfl (nle rfl) (nle rfl) (kk s1 h1 hA hk hr hF)
                                            ·
                                              refine pw_aload_n dX10_act_575 rfl ?_
                                              refine pw_get (v := .ref (B + 29)) okX10 (k := 32) (by decide) lkX10_95 hA.1 rfl dX10_act_576 ?_
                                              refine pw_iload_n dX10_act_579 rfl ?_
                                              refine pw_iload_n dX10_act_580 rfl ?_
                                              refine pw_bipush (v := zI (104)) dX10_act_581 (by decide) ?_
                                              refine pw_icmp_ne (tgt := 590) dX10_act_583 rfl (by omega) (by omega) (fun c583 => ?_) (fun c583 => ?_)
                                              ·
                                                refine pw_iconst (v := zI (0)) dX10_act_590 (by decide) ?_
                                                refine pw_zast (t := 1) rfl (mF32 hA) (by first | omega | exact mCell_b hp ko (by omega) (by omega) | exact mHis_b hp (by omega) (by omega)) (by decide) (by omega) dX10_act_591 ?_
                                                have hA60 : mAt B (mA 32 (va_up (s1.2 32) (p).toNat (0)) s1) (va_up h1 (B + 29) (pz_z 1 8 (va_up (s1.2 32) (p).toNat (0)))) := mU32 hA
                                                have hk60 : mPk (mA 32 (va_up (s1.2 32) (p).toNat (0)) s1) p.toNat := mP32 hk (by omega)
                                                have hr60 : mPr p.toNat s (mA 32 (va_up (s1.2 32) (p).toNat (0)) s1) := mPr_tr hr (mPr_W (by decide) (by decide) (by decide))
                                                have hF60 : mFr B h (va_up h1 (B + 29) (pz_z 1 8 (va_up (s1.2 32) (p).toNat (0)))) := mFr_tr hF (mFr_up (by decide))
                                                revert hA60 hk60 hr60 hF60 
                                                generalize (mA 32 (va_up (s1.2 32) (p).toNat (0)) s1) = s60
                                                generalize (va_up h1 (B + 29) (pz_z 1 8 (va_up (s1.2 32) (p).toNat (0)))) = h60
                                                intro hA60 hk60 hr60 hF60 
                                                obtain ⟨kw, kh, kr, kc, ksr, ksc, kt, ko, kwa, kin, kwr, khi, krd, knu, kgi, kas, kfr, kra, kco, kof, kip⟩ := id hk60
                                                have e18 := congrFun (hr60.2.1 18 (by decide)) p.toNat
                                                have e19 := congrFun (hr60.2.1 19 (by decide)) p.toNat
                                                exact pw_vret dX10_act_592 rfl (nle rfl) (nle rfl) (kk s60 h60 hA60 hk60 hr60 hF60)
                                              ·
                                                refine pw_iconst (v := zI (1)) dX10_act_586 (by decide) ?_
                                                refine pw_goto (tgt := 591) dX10_act_587 rfl ?_
                                                refine pw_zast (t := 1) rfl (mF32 hA) (by first | omega | exact mCell_b hp ko (by omega) (by omega) | exact mHis_b hp (by omega) (by omega)) (by decide) (by omega) dX10_act_591 ?_
                                                have hA61 : mAt B (mA 32 (va_up (s1.2 32) (p).toNat (1)) s1) (va_up h1 (B + 29) (pz_z 1 8 (va_up (s1.2 32) (p).toNat (1)))) := mU32 hA
                                                have hk61 : mPk (mA 32 (va_up (s1.2 32) (p).toNat (1)) s1) p.toNat := mP32 hk (by omega)
                                                have hr61 : mPr p.toNat s (mA 32 (va_up (s1.2 32) (p).toNat (1)) s1) := mPr_tr hr (mPr_W (by decide) (by decide) (by decide))
                                                have hF61 : mFr B h (va_up h1 (B + 29) (pz_z 1 8 (va_up (s1.2 32) (p).toNat (1)))) := mFr_tr hF (mFr_up (by decide))
                                                revert hA61 hk61 hr61 hF61 
                                                generalize (mA 32 (va_up (s1.2 32) (p).toNat (1)) s1) = s61
                                                generalize (va_up h1 (B + 29) (pz_z 1 8 (va_up (s1.2 32) (p).toNat (1)))) = h61
                                                intro hA61 hk61 hr61 hF61 
                                                obtain ⟨kw, kh, kr, kc, ksr, ksc, kt, ko, kwa, kin, kwr, khi, krd, knu, kgi, kas, kfr, kra, kco, kof, kip⟩ := id hk61
                                                have e18 := congrFun (hr61.2.1 18 (by decide)) p.toNat
                                                have e19 := congrFun (hr61.2.1 19 (by decide)) p.toNat
                                                exact pw_vret dX10_act_592 rfl (nle rfl) (nle rfl) (kk s61 h61 hA61 hk61 hr61 hF61)
                                          ·
                                            refine pw_iload_n dX10_act_564 rfl ?_
                                            refine pw_bipush (v := zI (108)) dX10_act_565 (by decide) ?_
                                            refine pw_icmp_ne (tgt := 592) dX10_act_567 rfl (by omega) (by omega) (fun c567 => ?_) (fun c567 => ?_)
                                            ·
                                              exact pw_vret dX10_act_592 rfl (nle rfl) (nle rfl) (kk s1 h1 hA hk hr hF)
                                            ·
                                              refine pw_iload_n dX10_act_570 rfl ?_
                                              refine pw_iconst (v := zI (4)) dX10_act_571 (by decide) ?_
                                              refine pw_icmp_ne (tgt := 592) dX10_act_572 rfl (by omega) (by omega) (fun c572 => ?_) (fun c572 => ?_)
                                              ·
                                                exact pw_vret dX10_act_592 rfl (nle rfl) (nle rfl) (kk s1 h1 hA hk hr hF)
                                              ·
                                                refine pw_aload_n dX10_act_575 rfl ?_
                                                refine pw_get (v := .ref (B + 29)) okX10 (k := 32) (by decide) lkX10_95 hA.1 rfl dX10_act_576 ?_
                                                refine pw_iload_n dX10_act_579 rfl ?_
                                                refine pw_iload_n dX10_act_580 rfl ?_
                                                refine pw_bipush (v := zI (104)) dX10_act_581 (by decide) ?_
                                                refine pw_icmp_ne (tgt := 590) dX10_act_583 rfl (by omega) (by omega) (fun c583 => ?_) (fun c583 => ?_)
                                                ·
                                                  refine pw_iconst (v := zI (0)) dX10_act_590 (by decide) ?_
                                                  refine pw_zast (t := 1) rfl (mF32 hA) (by first | omega | exact mCell_b hp ko (by omega) (by omega) | exact mHis_b hp (by omega) (by omega)) (by decide) (by omega) dX10_act_591 ?_
                                                  have hA62 : mAt B (mA 32 (va_up (s1.2 32) (p).toNat (0)) s1) (va_up h1 (B + 29) (pz_z 1 8 (va_up (s1.2 32) (p).toNat (0)))) := mU32 hA
                                                  have hk62 : mPk (mA 32 (va_up (s1.2 32) (p).toNat (0)) s1) p.toNat := mP32 hk (by omega)
                                                  have hr62 : mPr p.toNat s (mA 32 (va_up (s1.2 32) (p).toNat (0)) s1) := mPr_tr hr (mPr_W (by decide) (by decide) (by decide))
                                                  have hF62 : mFr B h (va_up h1 (B + 29) (pz_z 1 8 (va_up (s1.2 32) (p).toNat (0)))) := mFr_tr hF (mFr_up (by decide))
                                                  revert hA62 hk62 hr62 hF62 
                                                  generalize (mA 32 (va_up (s1.2 32) (p).toNat (0)) s1) = s62
                                                  generalize (va_up h1 (B + 29) (pz_z 1 8 (va_up (s1.2 32) (p).toNat (0)))) = h62
                                                  intro hA62 hk62 hr62 hF62 
                                                  obtain ⟨kw, kh, kr, kc, ksr, ksc, kt, ko, kwa, kin, kwr, khi, krd, knu, kgi, kas, kfr, kra, kco, kof, kip⟩ := id hk62
                                                  have e18 := congrFun (hr62.2.1 18 (by decide)) p.toNat
                                                  have e19 := congrFun (hr62.2.1 19 (by decide)) p.toNat
                                                  exact pw_vret dX10_act_592 rfl (nle rfl) (nle rfl) (kk s62 h62 hA62 hk62 hr62 hF62)
                                                ·
                                                  refine pw_iconst (v := zI (1)) dX10_act_586 (by decide) ?_
                                                  refine pw_goto (tgt := 591) dX10_act_587 rfl ?_
                                                  refine pw_zast (t := 1) rfl (mF32 hA) (by first | omega | exact mCell_b hp ko (by omega) (by omega) | exact mHis_b hp (by omega) (by omega)) (by decide) (by omega) dX10_act_591 ?_
                                                  have hA63 : mAt B (mA 32 (va_up (s1.2 32) (p).toNat (1)) s1) (va_up h1 (B + 29) (pz_z 1 8 (va_up (s1.2 32) (p).toNat (1)))) := mU32 hA
                                                  have hk63 : mPk (mA 32 (va_up (s1.2 32) (p).toNat (1)) s1) p.toNat := mP32 hk (by omega)
                                                  have hr63 : mPr p.toNat s (mA 32 (va_up (s1.2 32) (p).toNat (1)) s1) := mPr_tr hr (mPr_W (by decide) (by decide) (by decide))
                                                  have hF63 : mFr B h (va_up h1 (B + 29) (pz_z 1 8 (va_up (s1.2 32) (p).toNat (1)))) := mFr_tr hF (mFr_up (by decide))
                                                  revert hA63 hk63 hr63 hF63 
                                                  generalize (mA 32 (va_up (s1.2 32) (p).toNat (1)) s1) = s63
                                                  generalize (va_up h1 (B + 29) (pz_z 1 8 (va_up (s1.2 32) (p).toNat (1)))) = h63
                                                  intro hA63 hk63 hr63 hF63 
                                                  obtain ⟨kw, kh, kr, kc, ksr, ksc, kt, ko, kwa, kin, kwr, khi, krd, knu, kgi, kas, kfr, kra, kco, kof, kip⟩ := id hk63
                                                  have e18 := congrFun (hr63.2.1 18 (by decide)) p.toNat
                                                  have e19 := congrFun (hr63.2.1 19 (by decide)) p.toNat
                                                  exact pw_vret dX10_act_592 rfl (nle rfl) (nle rfl) (kk s63 h63 hA63 hk63 hr63 hF63)
                                        ·
                                          refine pw_aload_n dX10_act_550 rfl ?_
                                          refine pw_iload_n dX10_act_551 rfl ?_
                                          refine pw_callV (As := [.int (zI (p))]) (b := B) (rm := rmD 1 0 0) (mR_pens htr hA hp hk) rfl hA.1 rfl rfl ywX10_pens rfl cwX10_299 ⟨nle rfl, nle rfl⟩ (nle rfl) ⟨nle rfl, nle rfl⟩ dX10_act_552 ?_ (fun _ _ _ z => z.elim)
                                          intro r_9 h64 n_9 hq _
                                          obtain ⟨e1, s64, hA64, hk64, hr640, hF640, e4⟩ := hq
                                          rw [e1, e4]
                                          show pw E YX10_act _ _ 0 0 555 [some (.ref B), some (.int (zI (p))), some (.int (zI (b))), some (.int (zI (z))), some (.int (zI (nn))), some (.int (zI ((s1.2 36) ((4 * p) + (1)).toNat))), some (.int (zI ((s1.2 23) (p).toNat))), some (.int (zI ((s1.2 24) (p).toNat)))] [] h64 n
                                          have hr64 := mPr_tr hr hr640
                                          have hF64 := mFr_tr hF hF640
                                          obtain ⟨kw, kh, kr, kc, ksr, ksc, kt, ko, kwa, kin, kwr, khi, krd, knu, kgi, kas, kfr, kra, kco, kof, kip⟩ := id hk64
                                          have e18 := congrFun (hr64.2.1 18 (by decide)) p.toNat
                                          have e19 := congrFun (hr64.2.1 19 (by decide)) p.toNat
                                          refine pw_goto (tgt := 592) dX10_act_555 rfl ?_
                                          exact pw_vret dX10_act_592 rfl (nle rfl) (nle rfl) (kk s64 h64 hA64 hk64 hr64 hF64)
                                      ·
                                        refine pw_aload_n dX10_act_532 rfl ?_
                                        refine pw_iload_n dX10_act_533 rfl ?_
                                        refine pw_iload dX10_act_534 rfl ?_
                                        refine pw_iload dX10_act_536 rfl ?_
                                        refine pw_callV (As := [.int (zI (p)), .int (zI (nn)), .int (zI ((s1.2 36) ((4 * p) + (1)).toNat))]) (b := B) (rm := rmD 2 0 0) (mR_region htr hA hp hk (by omega) (by omega)) rfl hA.1 rfl rfl ywX10_region rfl cwX10_296 ⟨nle rfl, nle rfl⟩ (nle rfl) ⟨nle rfl, nle rfl⟩ dX10_act_538 ?_ (fun _ _ _ z => z.elim)
                                        intro r_9 h65 n_9 hq _
                                        obtain ⟨e1, s65, hA65, hk65, hr650, hF650, e4⟩ := hq
                                        rw [e1, e4]
                                        show pw E YX10_act _ _ 0 0 541 [some (.ref B), some (.int (zI (p))), some (.int (zI (b))), some (.int (zI (z))), some (.int (zI (nn))), some (.int (zI ((s1.2 36) ((4 * p) + (1)).toNat))), some (.int (zI ((s1.2 23) (p).toNat))), some (.int (zI ((s1.2 24) (p).toNat)))] [] h65 n
                                        have hr65 := mPr_tr hr hr650
                                        have hF65 := mFr_tr hF hF650
                                        obtain ⟨kw, kh, kr, kc, ksr, ksc, kt, ko, kwa, kin, kwr, khi, krd, knu, kgi, kas, kfr, kra, kco, kof, kip⟩ := id hk65
                                        have e18 := congrFun (hr65.2.1 18 (by decide)) p.toNat
                                        have e19 := congrFun (hr65.2.1 19 (by decide)) p.toNat
                                        refine pw_goto (tgt := 592) dX10_act_541 rfl ?_
                                        exact pw_vret dX10_act_592 rfl (nle rfl) (nle rfl) (kk s65 h65 hA65 hk65 hr65 hF65)
                                    ·
                                      refine pw_aload_n dX10_act_497 rfl ?_
                                      refine pw_iload_n dX10_act_498 rfl ?_
                                      refine pw_aload_n dX10_act_499 rfl ?_
                                      refine pw_get (v := .ref (B + 26)) okX10 (k := 29) (by decide) lkX10_86 hA.1 rfl dX10_act_500 ?_
                                      refine pw_iload_n dX10_act_503 rfl ?_
                                      refine pw_iald (t := 0) rfl (mF29 hA) (by first | omega | exact mCell_b hp ko (by omega) (by omega) | exact mHis_b hp (by omega) (by omega)) (by decide) dX10_act_504 ?_
                                      refine pw_aload_n dX10_act_505 rfl ?_
                                      refine pw_get (v := .ref (B + 27)) okX10 (k := 30) (by decide) lkX10_89 hA.1 rfl dX10_act_506 ?_
                                      refine pw_iload_n dX10_act_509 rfl ?_
                                      refine pw_iald (t := 0) rfl (mF30 hA) (by first | omega | exact mCell_b hp ko (by omega) (by omega) | exact mHis_b hp (by omega) (by omega)) (by decide) dX10_act_510 ?_
                                      refine pw_iload dX10_act_511 rfl ?_
                                      refine pw_callV (As := [.int (zI (p)), .int (zI ((s1.2 29) (p).toNat)), .int (zI ((s1.2 30) (p).toNat)), .int (zI (nn))]) (b := B) (rm := rmD 3 0 0) (mR_scrollDown htr hA hp hk (by omega) (by omega)) rfl hA.1 rfl rfl ywX10_scrollDown rfl cwX10_251 ⟨nle rfl, nle rfl⟩ (nle rfl) ⟨nle rfl, nle rfl⟩ dX10_act_513 ?_ (fun _ _ _ z => z.elim)
                                      intro r_9 h66 n_9 hq _
                                      obtain ⟨e1, s66, hA66, hk66, hr660, hF660, e4⟩ := hq
                                      rw [e1, e4]
                                      show pw E YX10_act _ _ 0 0 516 [some (.ref B), some (.int (zI (p))), some (.int (zI (b))), some (.int (zI (z))), some (.int (zI (nn))), some (.int (zI ((s1.2 36) ((4 * p) + (1)).toNat))), some (.int (zI ((s1.2 23) (p).toNat))), some (.int (zI ((s1.2 24) (p).toNat)))] [] h66 n
                                      have hr66 := mPr_tr hr hr660
                                      have hF66 := mFr_tr hF hF660
                                      obtain ⟨kw, kh, kr, kc, ksr, ksc, kt, ko, kwa, kin, kwr, khi, krd, knu, kgi, kas, kfr, kra, kco, kof, kip⟩ := id hk66
                                      have e18 := congrFun (hr66.2.1 18 (by decide)) p.toNat
                                      have e19 := congrFun (hr66.2.1 19 (by decide)) p.toNat
                                      refine pw_aload_n dX10_act_516 rfl ?_
                                      refine pw_get (v := .ref (B + 28)) okX10 (k := 31) (by decide) lkX10_92 hA66.1 rfl dX10_act_517 ?_
                                      refine pw_iload_n dX10_act_520 rfl ?_
                                      refine pw_iconst (v := zI (0)) dX10_act_521 (by decide) ?_
                                      refine pw_zast (t := 1) rfl (mF31 hA66) (by first | omega | exact mCell_b hp ko (by omega) (by omega) | exact mHis_b hp (by omega) (by omega)) (by decide) (by omega) dX10_act_522 ?_
                                      have hA67 : mAt B (mA 31 (va_up (s66.2 31) (p).toNat (0)) s66) (va_up h66 (B + 28) (pz_z 1 8 (va_up (s66.2 31) (p).toNat (0)))) := mU31 hA66
                                      have hk67 : mPk (mA 31 (va_up (s66.2 31) (p).toNat (0)) s66) p.toNat := mP31 hk66 (by omega)
                                      have hr67 : mPr p.toNat s (mA 31 (va_up (s66.2 31) (p).toNat (0)) s66) := mPr_tr hr66 (mPr_W (by decide) (by decide) (by decide))
                                      have hF67 : mFr B h (va_up h66 (B + 28) (pz_z 1 8 (va_up (s66.2 31) (p).toNat (0)))) := mFr_tr hF66 (mFr_up (by decide))
                                      revert hA67 hk67 hr67 hF67 
                                      generalize (mA 31 (va_up (s66.2 31) (p).toNat (0)) s66) = s67
                                      generalize (va_up h66 (B + 28) (pz_z 1 8 (va_up (s66.2 31) (p).toNat (0)))) = h67
                                      intro hA67 hk67 hr67 hF67 
                                      obtain ⟨kw, kh, kr, kc, ksr, ksc, kt, ko, kwa, kin, kwr, khi, krd, knu, kgi, kas, kfr, kra, kco, kof, kip⟩ := id hk67
                                      have e18 := congrFun (hr67.2.1 18 (by decide)) p.toNat
                                      have e19 := congrFun (hr67.2.1 19 (by decide)) p.toNat
                                      refine pw_goto (tgt := 592) dX10_act_523 rfl ?_
                                      exact pw_vret dX10_act_592 rfl (nle rfl) (nle rfl) (kk s67 h67 hA67 hk67 hr67 hF67)
                                  ·
                                    refine pw_aload_n dX10_act_461 rfl ?_
                                    refine pw_iload_n dX10_act_462 rfl ?_
                                    refine pw_aload_n dX10_act_463 rfl ?_
                                    refine pw_get (v := .ref (B + 26)) okX10 (k := 29) (by decide) lkX10_86 hA.1 rfl dX10_act_464 ?_
                                    refine pw_iload_n dX10_act_467 rfl ?_
                                    refine pw_iald (t := 0) rfl (mF29 hA) (by first | omega | exact mCell_b hp ko (by omega) (by omega) | exact mHis_b hp (by omega) (by omega)) (by decide) dX10_act_468 ?_
                                    refine pw_aload_n dX10_act_469 rfl ?_
                                    refine pw_get (v := .ref (B + 27)) okX10 (k := 30) (by decide) lkX10_89 hA.1 rfl dX10_act_470 ?_
                                    refine pw_iload_n dX10_act_473 rfl ?_
                                    refine pw_iald (t := 0) rfl (mF30 hA) (by first | omega | exact mCell_b hp ko (by omega) (by omega) | exact mHis_b hp (by omega) (by omega)) (by decide) dX10_act_474 ?_
                                    refine pw_iload dX10_act_475 rfl ?_
                                    refine pw_iconst (v := zI (1)) dX10_act_477 (by decide) ?_
                                    refine pw_callV (As := [.int (zI (p)), .int (zI ((s1.2 29) (p).toNat)), .int (zI ((s1.2 30) (p).toNat)), .int (zI (nn)), .int (zI (1))]) (b := B) (rm := rmD 3 0 0) (mR_scrollUp htr hA hp hk (by omega) (by omega) (by omega)) rfl hA.1 rfl rfl ywX10_scrollUp rfl cwX10_247 ⟨nle rfl, nle rfl⟩ (nle rfl) ⟨nle rfl, nle rfl⟩ dX10_act_478 ?_ (fun _ _ _ z => z.elim)
                                    intro r_9 h68 n_9 hq _
                                    obtain ⟨e1, s68, hA68, hk68, hr680, hF680, e4⟩ := hq
                                    rw [e1, e4]
                                    show pw E YX10_act _ _ 0 0 481 [some (.ref B), some (.int (zI (p))), some (.int (zI (b))), some (.int (zI (z))), some (.int (zI (nn))), some (.int (zI ((s1.2 36) ((4 * p) + (1)).toNat))), some (.int (zI ((s1.2 23) (p).toNat))), some (.int (zI ((s1.2 24) (p).toNat)))] [] h68 n
                                    have hr68 := mPr_tr hr hr680
                                    have hF68 := mFr_tr hF hF680
                                    obtain ⟨kw, kh, kr, kc, ksr, ksc, kt, ko, kwa, kin, kwr, khi, krd, knu, kgi, kas, kfr, kra, kco, kof, kip⟩ := id hk68
                                    have e18 := congrFun (hr68.2.1 18 (by decide)) p.toNat
                                    have e19 := congrFun (hr68.2.1 19 (by decide)) p.toNat
                                    refine pw_aload_n dX10_act_481 rfl ?_
                                    refine pw_get (v := .ref (B + 28)) okX10 (k := 31) (by decide) lkX10_92 hA68.1 rfl dX10_act_482 ?_
                                    refine pw_iload_n dX10_act_485 rfl ?_
                                    refine pw_iconst (v := zI (0)) dX10_act_486 (by decide) ?_
                                    refine pw_zast (t := 1) rfl (mF31 hA68) (by first | omega | exact mCell_b hp ko (by omega) (by omega) | exact mHis_b hp (by omega) (by omega)) (by decide) (by omega) dX10_act_487 ?_
                                    have hA69 : mAt B (mA 31 (va_up (s68.2 31) (p).toNat (0)) s68) (va_up h68 (B + 28) (pz_z 1 8 (va_up (s68.2 31) (p).toNat (0)))) := mU31 hA68
                                    have hk69 : mPk (mA 31 (va_up (s68.2 31) (p).toNat (0)) s68) p.toNat := mP31 hk68 (by omega)
                                    have hr69 : mPr p.toNat s (mA 31 (va_up (s68.2 31) (p).toNat (0)) s68) := mPr_tr hr68 (mPr_W (by decide) (by decide) (by decide))
                                    have hF69 : mFr B h (va_up h68 (B + 28) (pz_z 1 8 (va_up (s68.2 31) (p).toNat (0)))) := mFr_tr hF68 (mFr_up (by decide))
                                    revert hA69 hk69 hr69 hF69 
                                    generalize (mA 31 (va_up (s68.2 31) (p).toNat (0)) s68) = s69
                                    generalize (va_up h68 (B + 28) (pz_z 1 8 (va_up (s68.2 31) (p).toNat (0)))) = h69
                                    intro hA69 hk69 hr69 hF69 
                                    obtain ⟨kw, kh, kr, kc, ksr, ksc, kt, ko, kwa, kin, kwr, khi, krd, knu, kgi, kas, kfr, kra, kco, kof, kip⟩ := id hk69
                                    have e18 := congrFun (hr69.2.1 18 (by decide)) p.toNat
                                    have e19 := congrFun (hr69.2.1 19 (by decide)) p.toNat
                                    refine pw_goto (tgt := 592) dX10_act_488 rfl ?_
                                    exact pw_vret dX10_act_592 rfl (nle rfl) (nle rfl) (kk s69 h69 hA69 hk69 hr69 hF69)
                                ·
                                  refine pw_aload_n dX10_act_434 rfl ?_
                                  refine pw_iload_n dX10_act_435 rfl ?_
                                  refine pw_iload_n dX10_act_436 rfl ?_
                                  refine pw_bipush (v := zI (76)) dX10_act_437 (by decide) ?_
                                  refine pw_icmp_ne (tgt := 446) dX10_act_439 rfl (by omega) (by omega) (fun c439 => ?_) (fun c439 => ?_)
                                  ·
                                    refine pw_iconst (v := zI (0)) dX10_act_446 (by decide) ?_
                                    refine pw_iload dX10_act_447 rfl ?_
                                    refine pw_callV (As := [.int (zI (p)), .int (zI (0)), .int (zI (nn))]) (b := B) (rm := rmD 4 0 0) (mR_lines htr hA hp hk (by omega) (by omega)) rfl hA.1 rfl rfl ywX10_lines rfl cwX10_292 ⟨nle rfl, nle rfl⟩ (nle rfl) ⟨nle rfl, nle rfl⟩ dX10_act_449 ?_ (fun _ _ _ z => z.elim)
                                    intro r_9 h70 n_9 hq _
                                    obtain ⟨e1, s70, hA70, hk70, hr700, hF700, e4⟩ := hq
                                    rw [e1, e4]
                                    show pw E YX10_act _ _ 0 0 452 [some (.ref B), some (.int (zI (p))), some (.int (zI (b))), some (.int (zI (z))), some (.int (zI (nn))), some (.int (zI ((s1.2 36) ((4 * p) + (1)).toNat))), some (.int (zI ((s1.2 23) (p).toNat))), some (.int (zI ((s1.2 24) (p).toNat)))] [] h70 n
                                    have hr70 := mPr_tr hr hr700
                                    have hF70 := mFr_tr hF hF700
                                    obtain ⟨kw, kh, kr, kc, ksr, ksc, kt, ko, kwa, kin, kwr, khi, krd, knu, kgi, kas, kfr, kra, kco, kof, kip⟩ := id hk70
                                    have e18 := congrFun (hr70.2.1 18 (by decide)) p.toNat
                                    have e19 := congrFun (hr70.2.1 19 (by decide)) p.toNat
                                    refine pw_goto (tgt := 592) dX10_act_452 rfl ?_
                                    exact pw_vret dX10_act_592 rfl (nle rfl) (nle rfl) (kk s70 h70 hA70 hk70 hr70 hF70)
                                  ·
                                    refine pw_iconst (v := zI (1)) dX10_act_442 (by decide) ?_
                                    refine pw_goto (tgt := 447) dX10_act_443 rfl ?_
                                    refine pw_iload dX10_act_447 rfl ?_
                                    refine pw_callV (As := [.int (zI (p)), .int (zI (1)), .int (zI (nn))]) (b := B) (rm := rmD 4 0 0) (mR_lines htr hA hp hk (by omega) (by omega)) rfl hA.1 rfl rfl ywX10_lines rfl cwX10_292 ⟨nle rfl, nle rfl⟩ (nle rfl) ⟨nle rfl, nle rfl⟩ dX10_act_449 ?_ (fun _ _ _ z => z.elim)
                                    intro r_9 h71 n_9 hq _
                                    obtain ⟨e1, s71, hA71, hk71, hr710, hF710, e4⟩ := hq
                                    rw [e1, e4]
                                    show pw E YX10_act _ _ 0 0 452 [some (.ref B), some (.int (zI (p))), some (.int (zI (b))), some (.int (zI (z))), some (.int (zI (nn))), some (.int (zI ((s1.2 36) ((4 * p) + (1)).toNat))), some (.int (zI ((s1.2 23) (p).toNat))), some (.int (zI ((s1.2 24) (p).toNat)))] [] h71 n
                                    have hr71 := mPr_tr hr hr710
                                    have hF71 := mFr_tr hF hF710
                                    obtain ⟨kw, kh, kr, kc, ksr, ksc, kt, ko, kwa, kin, kwr, khi, krd, knu, kgi, kas, kfr, kra, kco, kof, kip⟩ := id hk71
                                    have e18 := congrFun (hr71.2.1 18 (by decide)) p.toNat
                                    have e19 := congrFun (hr71.2.1 19 (by decide)) p.toNat
                                    refine pw_goto (tgt := 592) dX10_act_452 rfl ?_
                                    exact pw_vret dX10_act_592 rfl (nle rfl) (nle rfl) (kk s71 h71 hA71 hk71 hr71 hF71)
                            ·
                              refine pw_aload_n dX10_act_389 rfl ?_
                              refine pw_iload_n dX10_act_390 rfl ?_
                              refine pw_iload dX10_act_391 rfl ?_
                              refine pw_iload dX10_act_393 rfl ?_
                              refine pw_iload_n dX10_act_395 rfl ?_
                              refine pw_bipush (v := zI (64)) dX10_act_396 (by decide) ?_
                              refine pw_icmp_ne (tgt := 406) dX10_act_398 rfl (by omega) (by omega) (fun c398 => ?_) (fun c398 => ?_)
                              ·
                                refine pw_iload dX10_act_406 rfl ?_
                                refine pw_zineg dX10_act_408 ?_
                                refine pw_callV (As := [.int (zI (p)), .int (zI ((s1.2 23) (p).toNat)), .int (zI ((s1.2 24) (p).toNat)), .int (zI (-(nn)))]) (b := B) (rm := rmD 2 0 0) (mR_push htr hA hp hk (by omega) (by omega) (by omega)) rfl hA.1 rfl rfl ywX10_push rfl cwX10_258 ⟨nle rfl, nle rfl⟩ (nle rfl) ⟨nle rfl, nle rfl⟩ dX10_act_409 ?_ (fun _ _ _ z => z.elim)
                                intro r_9 h72 n_9 hq _
                                obtain ⟨e1, s72, hA72, hk72, hr720, hF720, e4⟩ := hq
                                rw [e1, e4]
                                show pw E YX10_act _ _ 0 0 412 [some (.ref B), some (.int (zI (p))), some (.int (zI (b))), some (.int (zI (z))), some (.int (zI (nn))), some (.int (zI ((s1.2 36) ((4 * p) + (1)).toNat))), some (.int (zI ((s1.2 23) (p).toNat))), some (.int (zI ((s1.2 24) (p).toNat)))] [] h72 n
                                have hr72 := mPr_tr hr hr720
                                have hF72 := mFr_tr hF hF720
                                obtain ⟨kw, kh, kr, kc, ksr, ksc, kt, ko, kwa, kin, kwr, khi, krd, knu, kgi, kas, kfr, kra, kco, kof, kip⟩ := id hk72
                                have e18 := congrFun (hr72.2.1 18 (by decide)) p.toNat
                                have e19 := congrFun (hr72.2.1 19 (by decide)) p.toNat
                                refine pw_aload_n dX10_act_412 rfl ?_
                                refine pw_get (v := .ref (B + 28)) okX10 (k := 31) (by decide) lkX10_92 hA72.1 rfl dX10_act_413 ?_
                                refine pw_iload_n dX10_act_416 rfl ?_
                                refine pw_iconst (v := zI (0)) dX10_act_417 (by decide) ?_
                                refine pw_zast (t := 1) rfl (mF31 hA72) (by first | omega | exact mCell_b hp ko (by omega) (by omega) | exact mHis_b hp (by omega) (by omega)) (by decide) (by omega) dX10_act_418 ?_
                                have hA73 : mAt B (mA 31 (va_up (s72.2 31) (p).toNat (0)) s72) (va_up h72 (B + 28) (pz_z 1 8 (va_up (s72.2 31) (p).toNat (0)))) := mU31 hA72
                                have hk73 : mPk (mA 31 (va_up (s72.2 31) (p).toNat (0)) s72) p.toNat := mP31 hk72 (by omega)
                                have hr73 : mPr p.toNat s (mA 31 (va_up (s72.2 31) (p).toNat (0)) s72) := mPr_tr hr72 (mPr_W (by decide) (by decide) (by decide))
                                have hF73 : mFr B h (va_up h72 (B + 28) (pz_z 1 8 (va_up (s72.2 31) (p).toNat (0)))) := mFr_tr hF72 (mFr_up (by decide))
                                revert hA73 hk73 hr73 hF73 
                                generalize (mA 31 (va_up (s72.2 31) (p).toNat (0)) s72) = s73
                                generalize (va_up h72 (B + 28) (pz_z 1 8 (va_up (s72.2 31) (p).toNat (0)))) = h73
                                intro hA73 hk73 hr73 hF73 
                                obtain ⟨kw, kh, kr, kc, ksr, ksc, kt, ko, kwa, kin, kwr, khi, krd, knu, kgi, kas, kfr, kra, kco, kof, kip⟩ := id hk73
                                have e18 := congrFun (hr73.2.1 18 (by decide)) p.toNat
                                have e19 := congrFun (hr73.2.1 19 (by decide)) p.toNat
                                refine pw_goto (tgt := 592) dX10_act_419 rfl ?_
                                exact pw_vret dX10_act_592 rfl (nle rfl) (nle rfl) (kk s73 h73 hA73 hk73 hr73 hF73)
                              ·
                                refine pw_iload dX10_act_401 rfl ?_
                                refine pw_goto (tgt := 409) dX10_act_403 rfl ?_
                                refine pw_callV (As := [.int (zI (p)), .int (zI ((s1.2 23) (p).toNat)), .int (zI ((s1.2 24) (p).toNat)), .int (zI (nn))]) (b := B) (rm := rmD 2 0 0) (mR_push htr hA hp hk (by omega) (by omega) (by omega)) rfl hA.1 rfl rfl ywX10_push rfl cwX10_258 ⟨nle rfl, nle rfl⟩ (nle rfl) ⟨nle rfl, nle rfl⟩ dX10_act_409 ?_ (fun _ _ _ z => z.elim)
                                intro r_9 h74 n_9 hq _
                                obtain ⟨e1, s74, hA74, hk74, hr740, hF740, e4⟩ := hq
                                rw [e1, e4]
                                show pw E YX10_act _ _ 0 0 412 [some (.ref B), some (.int (zI (p))), some (.int (zI (b))), some (.int (zI (z))), some (.int (zI (nn))), some (.int (zI ((s1.2 36) ((4 * p) + (1)).toNat))), some (.int (zI ((s1.2 23) (p).toNat))), some (.int (zI ((s1.2 24) (p).toNat)))] [] h74 n
                                have hr74 := mPr_tr hr hr740
                                have hF74 := mFr_tr hF hF740
                                obtain ⟨kw, kh, kr, kc, ksr, ksc, kt, ko, kwa, kin, kwr, khi, krd, knu, kgi, kas, kfr, kra, kco, kof, kip⟩ := id hk74
                                have e18 := congrFun (hr74.2.1 18 (by decide)) p.toNat
                                have e19 := congrFun (hr74.2.1 19 (by decide)) p.toNat
                                refine pw_aload_n dX10_act_412 rfl ?_
                                refine pw_get (v := .ref (B + 28)) okX10 (k := 31) (by decide) lkX10_92 hA74.1 rfl dX10_act_413 ?_
                                refine pw_iload_n dX10_act_416 rfl ?_
                                refine pw_iconst (v := zI (0)) dX10_act_417 (by decide) ?_
                                refine pw_zast (t := 1) rfl (mF31 hA74) (by first | omega | exact mCell_b hp ko (by omega) (by omega) | exact mHis_b hp (by omega) (by omega)) (by decide) (by omega) dX10_act_418 ?_
                                have hA75 : mAt B (mA 31 (va_up (s74.2 31) (p).toNat (0)) s74) (va_up h74 (B + 28) (pz_z 1 8 (va_up (s74.2 31) (p).toNat (0)))) := mU31 hA74
                                have hk75 : mPk (mA 31 (va_up (s74.2 31) (p).toNat (0)) s74) p.toNat := mP31 hk74 (by omega)
                                have hr75 : mPr p.toNat s (mA 31 (va_up (s74.2 31) (p).toNat (0)) s74) := mPr_tr hr74 (mPr_W (by decide) (by decide) (by decide))
                                have hF75 : mFr B h (va_up h74 (B + 28) (pz_z 1 8 (va_up (s74.2 31) (p).toNat (0)))) := mFr_tr hF74 (mFr_up (by decide))
                                revert hA75 hk75 hr75 hF75 
                                generalize (mA 31 (va_up (s74.2 31) (p).toNat (0)) s74) = s75
                                generalize (va_up h74 (B + 28) (pz_z 1 8 (va_up (s74.2 31) (p).toNat (0)))) = h75
                                intro hA75 hk75 hr75 hF75 
                                obtain ⟨kw, kh, kr, kc, ksr, ksc, kt, ko, kwa, kin, kwr, khi, krd, knu, kgi, kas, kfr, kra, kco, kof, kip⟩ := id hk75
                                have e18 := congrFun (hr75.2.1 18 (by decide)) p.toNat
                                have e19 := congrFun (hr75.2.1 19 (by decide)) p.toNat
                                refine pw_goto (tgt := 592) dX10_act_419 rfl ?_
                                exact pw_vret dX10_act_592 rfl (nle rfl) (nle rfl) (kk s75 h75 hA75 hk75 hr75 hF75)
                        ·
                          refine pw_aload_n dX10_act_356 rfl ?_
                          refine pw_iload_n dX10_act_357 rfl ?_
                          refine pw_iload dX10_act_358 rfl ?_
                          refine pw_iload dX10_act_360 rfl ?_
                          refine pw_iload dX10_act_362 rfl ?_
                          refine pw_iload dX10_act_364 rfl ?_
                          refine pw_iload dX10_act_366 rfl ?_
                          refine pw_ziadd dX10_act_368 ?_
                          refine pw_iconst (v := zI (1)) dX10_act_369 (by decide) ?_
                          refine pw_zisub dX10_act_370 ?_
                          refine pw_callV (As := [.int (zI (p)), .int (zI ((s1.2 23) (p).toNat)), .int (zI ((s1.2 24) (p).toNat)), .int (zI ((s1.2 23) (p).toNat)), .int (zI ((((s1.2 24) (p).toNat) + (nn)) - (1)))]) (b := B) (rm := rmD 2 0 0) (mR_erase htr hA hp hk (by omega) (by omega) (by omega) (by omega) (by omega)) rfl hA.1 rfl rfl ywX10_erase rfl cwX10_289 ⟨nle rfl, nle rfl⟩ (nle rfl) ⟨nle rfl, nle rfl⟩ dX10_act_371 ?_ (fun _ _ _ z => z.elim)
                          intro r_9 h76 n_9 hq _
                          obtain ⟨e1, s76, hA76, hk76, hr760, hF760, e4⟩ := hq
                          rw [e1, e4]
                          show pw E YX10_act _ _ 0 0 374 [some (.ref B), some (.int (zI (p))), some (.int (zI (b))), some (.int (zI (z))), some (.int (zI (nn))), some (.int (zI ((s1.2 36) ((4 * p) + (1)).toNat))), some (.int (zI ((s1.2 23) (p).toNat))), some (.int (zI ((s1.2 24) (p).toNat)))] [] h76 n
                          have hr76 := mPr_tr hr hr760
                          have hF76 := mFr_tr hF hF760
                          obtain ⟨kw, kh, kr, kc, ksr, ksc, kt, ko, kwa, kin, kwr, khi, krd, knu, kgi, kas, kfr, kra, kco, kof, kip⟩ := id hk76
                          have e18 := congrFun (hr76.2.1 18 (by decide)) p.toNat
                          have e19 := congrFun (hr76.2.1 19 (by decide)) p.toNat
                          refine pw_goto (tgt := 592) dX10_act_374 rfl ?_
                          exact pw_vret dX10_act_592 rfl (nle rfl) (nle rfl) (kk s76 h76 hA76 hk76 hr76 hF76)
                      ·
                        refine pw_iload_n dX10_act_311 rfl ?_
                        refine pw_iconst (v := zI (3)) dX10_act_312 (by decide) ?_
                        refine pw_icmp_ge (tgt := 350) dX10_act_313 rfl (by omega) (by omega) (fun c313 => ?_) (fun c313 => ?_)
                        ·
                          refine pw_iload_n dX10_act_350 rfl ?_
                          refine pw_bipush (v := zI (88)) dX10_act_351 (by decide) ?_
                          refine pw_icmp_ne (tgt := 377) dX10_act_353 rfl (by omega) (by omega) (fun c353 => ?_) (fun c353 => ?_)
                          ·
                            refine pw_iload_n dX10_act_377 rfl ?_
                            refine pw_bipush (v := zI (64)) dX10_act_378 (by decide) ?_
                            refine pw_icmp_eq (tgt := 389) dX10_act_380 rfl (by omega) (by omega) (fun c380 => ?_) (fun c380 => ?_)
                            ·
                              refine pw_aload_n dX10_act_389 rfl ?_
                              refine pw_iload_n dX10_act_390 rfl ?_
                              refine pw_iload dX10_act_391 rfl ?_
                              refine pw_iload dX10_act_393 rfl ?_
                              refine pw_iload_n dX10_act_395 rfl ?_
                              refine pw_bipush (v := zI (64)) dX10_act_396 (by decide) ?_
                              refine pw_icmp_ne (tgt := 406) dX10_act_398 rfl (by omega) (by omega) (fun c398 => ?_) (fun c398 => ?_)
                              ·
                                refine pw_iload dX10_act_406 rfl ?_
                                refine pw_zineg dX10_act_408 ?_
                                refine pw_callV (As := [.int (zI (p)), .int (zI ((s1.2 23) (p).toNat)), .int (zI ((s1.2 24) (p).toNat)), .int (zI (-(nn)))]) (b := B) (rm := rmD 2 0 0) (mR_push htr hA hp hk (by omega) (by omega) (by omega)) rfl hA.1 rfl rfl ywX10_push rfl cwX10_258 ⟨nle rfl, nle rfl⟩ (nle rfl) ⟨nle rfl, nle rfl⟩ dX10_act_409 ?_ (fun _ _ _ z => z.elim)
                                intro r_9 h77 n_9 hq _
                                obtain ⟨e1, s77, hA77, hk77, hr770, hF770, e4⟩ := hq
                                rw [e1, e4]
                                show pw E YX10_act _ _ 0 0 412 [some (.ref B), some (.int (zI (p))), some (.int (zI (b))), some (.int (zI (z))), some (.int (zI (nn))), some (.int (zI ((s1.2 36) ((4 * p) + (1)).toNat))), some (.int (zI ((s1.2 23) (p).toNat))), some (.int (zI ((s1.2 24) (p).toNat)))] [] h77 n
                                have hr77 := mPr_tr hr hr770
                                have hF77 := mFr_tr hF hF770
                                obtain ⟨kw, kh, kr, kc, ksr, ksc, kt, ko, kwa, kin, kwr, khi, krd, knu, kgi, kas, kfr, kra, kco, kof, kip⟩ := id hk77
                                have e18 := congrFun (hr77.2.1 18 (by decide)) p.toNat
                                have e19 := congrFun (hr77.2.1 19 (by decide)) p.toNat
                                refine pw_aload_n dX10_act_412 rfl ?_
                                refine pw_get (v := .ref (B + 28)) okX10 (k := 31) (by decide) lkX10_92 hA77.1 rfl dX10_act_413 ?_
                                refine pw_iload_n dX10_act_416 rfl ?_
                                refine pw_iconst (v := zI (0)) dX10_act_417 (by decide) ?_
                                refine pw_zast (t := 1) rfl (mF31 hA77) (by first | omega | exact mCell_b hp ko (by omega) (by omega) | exact mHis_b hp (by omega) (by omega)) (by decide) (by omega) dX10_act_418 ?_
                                have hA78 : mAt B (mA 31 (va_up (s77.2 31) (p).toNat (0)) s77) (va_up h77 (B + 28) (pz_z 1 8 (va_up (s77.2 31) (p).toNat (0)))) := mU31 hA77
                                have hk78 : mPk (mA 31 (va_up (s77.2 31) (p).toNat (0)) s77) p.toNat := mP31 hk77 (by omega)
                                have hr78 : mPr p.toNat s (mA 31 (va_up (s77.2 31) (p).toNat (0)) s77) := mPr_tr hr77 (mPr_W (by decide) (by decide) (by decide))
                                have hF78 : mFr B h (va_up h77 (B + 28) (pz_z 1 8 (va_up (s77.2 31) (p).toNat (0)))) := mFr_tr hF77 (mFr_up (by decide))
                                revert hA78 hk78 hr78 hF78 
                                generalize (mA 31 (va_up (s77.2 31) (p).toNat (0)) s77) = s78
                                generalize (va_up h77 (B + 28) (pz_z 1 8 (va_up (s77.2 31) (p).toNat (0)))) = h78
                                intro hA78 hk78 hr78 hF78 
                                obtain ⟨kw, kh, kr, kc, ksr, ksc, kt, ko, kwa, kin, kwr, khi, krd, knu, kgi, kas, kfr, kra, kco, kof, kip⟩ := id hk78
                                have e18 := congrFun (hr78.2.1 18 (by decide)) p.toNat
                                have e19 := congrFun (hr78.2.1 19 (by decide)) p.toNat
                                refine pw_goto (tgt := 592) dX10_act_419 rfl ?_
                                exact pw_vret dX10_act_592 rfl (nle rfl) (nle rfl) (kk s78 h78 hA78 hk78 hr78 hF78)
                              ·
                                refine pw_iload dX10_act_401 rfl ?_
                                refine pw_goto (tgt := 409) dX10_act_403 rfl ?_
                                refine pw_callV (As := [.int (zI (p)), .int (zI ((s1.2 23) (p).toNat)), .int (zI ((s1.2 24) (p).toNat)), .int (zI (nn))]) (b := B) (rm := rmD 2 0 0) (mR_push htr hA hp hk (by omega) (by omega) (by omega)) rfl hA.1 rfl rfl ywX10_push rfl cwX10_258 ⟨nle rfl, nle rfl⟩ (nle rfl) ⟨nle rfl, nle rfl⟩ dX10_act_409 ?_ (fun _ _ _ z => z.elim)
                                intro r_9 h79 n_9 hq _
                                obtain ⟨e1, s79, hA79, hk79, hr790, hF790, e4⟩ := hq
                                rw [e1, e4]
                                show pw E YX10_act _ _ 0 0 412 [some (.ref B), some (.int (zI (p))), some (.int (zI (b))), some (.int (zI (z))), some (.int (zI (nn))), some (.int (zI ((s1.2 36) ((4 * p) + (1)).toNat))), some (.int (zI ((s1.2 23) (p).toNat))), some (.int (zI ((s1.2 24) (p).toNat)))] [] h79 n
                                have hr79 := mPr_tr hr hr790
                                have hF79 := mFr_tr hF hF790
                                obtain ⟨kw, kh, kr, kc, ksr, ksc, kt, ko, kwa, kin, kwr, khi, krd, knu, kgi, kas, kfr, kra, kco, kof, kip⟩ := id hk79
                                have e18 := congrFun (hr79.2.1 18 (by decide)) p.toNat
                                have e19 := congrFun (hr79.2.1 19 (by decide)) p.toNat
                                refine pw_aload_n dX10_act_412 rfl ?_
                                refine pw_get (v := .ref (B + 28)) okX10 (k := 31) (by decide) lkX10_92 hA79.1 rfl dX10_act_413 ?_
                                refine pw_iload_n dX10_act_416 rfl ?_
                                refine pw_iconst (v := zI (0)) dX10_act_417 (by decide) ?_
                                refine pw_zast (t := 1) rfl (mF31 hA79) (by first | omega | exact mCell_b hp ko (by omega) (by omega) | exact mHis_b hp (by omega) (by omega)) (by decide) (by omega) dX10_act_418 ?_
                                have hA80 : mAt B (mA 31 (va_up (s79.2 31) (p).toNat (0)) s79) (va_up h79 (B + 28) (pz_z 1 8 (va_up (s79.2 31) (p).toNat (0)))) := mU31 hA79
                                have hk80 : mPk (mA 31 (va_up (s79.2 31) (p).toNat (0)) s79) p.toNat := mP31 hk79 (by omega)
                                have hr80 : mPr p.toNat s (mA 31 (va_up (s79.2 31) (p).toNat (0)) s79) := mPr_tr hr79 (mPr_W (by decide) (by decide) (by decide))
                                have hF80 : mFr B h (va_up h79 (B + 28) (pz_z 1 8 (va_up (s79.2 31) (p).toNat (0)))) := mFr_tr hF79 (mFr_up (by decide))
                                revert hA80 hk80 hr80 hF80 
                                generalize (mA 31 (va_up (s79.2 31) (p).toNat (0)) s79) = s80
                                generalize (va_up h79 (B + 28) (pz_z 1 8 (va_up (s79.2 31) (p).toNat (0)))) = h80
                                intro hA80 hk80 hr80 hF80 
                                obtain ⟨kw, kh, kr, kc, ksr, ksc, kt, ko, kwa, kin, kwr, khi, krd, knu, kgi, kas, kfr, kra, kco, kof, kip⟩ := id hk80
                                have e18 := congrFun (hr80.2.1 18 (by decide)) p.toNat
                                have e19 := congrFun (hr80.2.1 19 (by decide)) p.toNat
                                refine pw_goto (tgt := 592) dX10_act_419 rfl ?_
                                exact pw_vret dX10_act_592 rfl (nle rfl) (nle rfl) (kk s80 h80 hA80 hk80 hr80 hF80)
                            ·
                              refine pw_iload_n dX10_act_383 rfl ?_
                              refine pw_bipush (v := zI (80)) dX10_act_384 (by decide) ?_
                              refine pw_icmp_ne (tgt := 422) dX10_act_386 rfl (by omega) (by omega) (fun c386 => ?_) (fun c386 => ?_)
                              ·
                                refine pw_iload_n dX10_act_422 rfl ?_
                                refine pw_bipush (v := zI (76)) dX10_act_423 (by decide) ?_
                                refine pw_icmp_eq (tgt := 434) dX10_act_425 rfl (by omega) (by omega) (fun c425 => ?_) (fun c425 => ?_)
                                ·
                                  refine pw_aload_n dX10_act_434 rfl ?_
                                  refine pw_iload_n dX10_act_435 rfl ?_
                                  refine pw_iload_n dX10_act_436 rfl ?_
                                  refine pw_bipush (v := zI (76)) dX10_act_437 (by decide) ?_
                                  refine pw_icmp_ne (tgt := 446) dX10_act_439 rfl (by omega) (by omega) (fun c439 => ?_) (fun c439 => ?_)
                                  ·
                                    refine pw_iconst (v := zI (0)) dX10_act_446 (by decide) ?_
                                    refine pw_iload dX10_act_447 rfl ?_
                                    refine pw_callV (As := [.int (zI (p)), .int (zI (0)), .int (zI (nn))]) (b := B) (rm := rmD 4 0 0) (mR_lines htr hA hp hk (by omega) (by omega)) rfl hA.1 rfl rfl ywX10_lines rfl cwX10_292 ⟨nle rfl, nle rfl⟩ (nle rfl) ⟨nle rfl, nle rfl⟩ dX10_act_449 ?_ (fun _ _ _ z => z.elim)
                                    intro r_9 h81 n_9 hq _
                                    obtain ⟨e1, s81, hA81, hk81, hr810, hF810, e4⟩ := hq
                                    rw [e1, e4]
                                    show pw E YX10_act _ _ 0 0 452 [some (.ref B), some (.int (zI (p))), some (.int (zI (b))), some (.int (zI (z))), some (.int (zI (nn))), some (.int (zI ((s1.2 36) ((4 * p) + (1)).toNat))), some (.int (zI ((s1.2 23) (p).toNat))), some (.int (zI ((s1.2 24) (p).toNat)))] [] h81 n
                                    have hr81 := mPr_tr hr hr810
                                    have hF81 := mFr_tr hF hF810
                                    obtain ⟨kw, kh, kr, kc, ksr, ksc, kt, ko, kwa, kin, kwr, khi, krd, knu, kgi, kas, kfr, kra, kco, kof, kip⟩ := id hk81
                                    have e18 := congrFun (hr81.2.1 18 (by decide)) p.toNat
                                    have e19 := congrFun (hr81.2.1 19 (by decide)) p.toNat
                                    refine pw_goto (tgt := 592) dX10_act_452 rfl ?_
                                    exact pw_vret dX10_act_592 rfl (nle rfl) (nle rfl) (kk s81 h81 hA81 hk81 hr81 hF81)
                                  ·
                                    refine pw_iconst (v := zI (1)) dX10_act_442 (by decide) ?_
                                    refine pw_goto (tgt := 447) dX10_act_443 rfl ?_
                                    refine pw_iload dX10_act_447 rfl ?_
                                    refine pw_callV (As := [.int (zI (p)), .int (zI (1)), .int (zI (nn))]) (b := B) (rm := rmD 4 0 0) (mR_lines htr hA hp hk (by omega) (by omega)) rfl hA.1 rfl rfl ywX10_lines rfl cwX10_292 ⟨nle rfl, nle rfl⟩ (nle rfl) ⟨nle rfl, nle rfl⟩ dX10_act_449 ?_ (fun _ _ _ z => z.elim)
                                    intro r_9 h82 n_9 hq _
                                    obtain ⟨e1, s82, hA82, hk82, hr820, hF820, e4⟩ := hq
                                    rw [e1, e4]
                                    show pw E YX10_act _ _ 0 0 452 [some (.ref B), some (.int (zI (p))), some (.int (zI (b))), some (.int (zI (z))), some (.int (zI (nn))), some (.int (zI ((s1.2 36) ((4 * p) + (1)).toNat))), some (.int (zI ((s1.2 23) (p).toNat))), some (.int (zI ((s1.2 24) (p).toNat)))] [] h82 n
                                    have hr82 := mPr_tr hr hr820
                                    have hF82 := mFr_tr hF hF820
                                    obtain ⟨kw, kh, kr, kc, ksr, ksc, kt, ko, kwa, kin, kwr, khi, krd, knu, kgi, kas, kfr, kra, kco, kof, kip⟩ := id hk82
                                    have e18 := congrFun (hr82.2.1 18 (by decide)) p.toNat
                                    have e19 := congrFun (hr82.2.1 19 (by decide)) p.toNat
                                    refine pw_goto (tgt := 592) dX10_act_452 rfl ?_
                                    exact pw_vret dX10_act_592 rfl (nle rfl) (nle rfl) (kk s82 h82 hA82 hk82 hr82 hF82)
                                ·
                                  refine pw_iload_n dX10_act_428 rfl ?_
                                  refine pw_bipush (v := zI (77)) dX10_act_429 (by decide) ?_
                                  refine pw_icmp_ne (tgt := 455) dX10_act_431 rfl (by omega) (by omega) (fun c431 => ?_) (fun c431 => ?_)
                                  ·
                                    refine pw_iload_n dX10_act_455 rfl ?_
                                    refine pw_bipush (v := zI (83)) dX10_act_456 (by decide) ?_
                                    refine pw_icmp_ne (tgt := 491) dX10_act_458 rfl (by omega) (by omega) (fun c458 => ?_) (fun c458 => ?_)
                                    ·
                                      refine pw_iload_n dX10_act_491 rfl ?_
                                      refine pw_bipush (v := zI (84)) dX10_act_492 (by decide) ?_
                                      refine pw_icmp_ne (tgt := 526) dX10_act_494 rfl (by omega) (by omega) (fun c494 => ?_) (fun c494 => ?_)
                                      ·
                                        refine pw_iload_n dX10_act_526 rfl ?_
                                        refine pw_bipush (v := zI (114)) dX10_act_527 (by decide) ?_
                                        refine pw_icmp_ne (tgt := 544) dX10_act_529 rfl (by omega) (by omega) (fun c529 => ?_) (fun c529 => ?_)
                                        ·
                                          refine pw_iload_n dX10_act_544 rfl ?_
                                          refine pw_bipush (v := zI (109)) dX10_act_545 (by decide) ?_
                                          refine pw_icmp_ne (tgt := 558) dX10_act_547 rfl (by omega) (by omega) (fun c547 => ?_) (fun c547 => ?_)
                                          ·
                                            refine pw_iload_n dX10_act_558 rfl ?_
                                            refine pw_bipush (v := zI (104)) dX10_act_559 (by decide) ?_
                                            refine pw_icmp_eq (tgt := 570) dX10_act_561 rfl (by omega) (by omega) (fun c561 => ?_) (fun c561 => ?_)
                                            ·
                                              refine pw_iload_n dX10_act_570 rfl ?_
                                              refine pw_iconst (v := zI (4)) dX10_act_571 (by decide) ?_
                                              refine pw_icmp_ne (tgt := 592) dX10_act_572 rfl (by omega) (by omega) (fun c572 => ?_) (fun c572 => ?_)
                                              ·
                                                exact pw_vret dX10_act_592 rfl (nle rfl) (nle rfl) (kk s1 h1 hA hk hr hF)
                                              ·
                                                refine pw_aload_n dX10_act_575 rfl ?_
                                                refine pw_get (v := .ref (B + 29)) okX10 (k := 32) (by decide) lkX10_95 hA.1 rfl dX10_act_576 ?_
                                                refine pw_iload_n dX10_act_579 rfl ?_
                                                refine pw_iload_n dX10_act_580 rfl ?_
                                                refine pw_bipush (v := zI (104)) dX10_act_581 (by decide) ?_
                                                refine pw_icmp_ne (tgt := 590) dX10_act_583 rfl (by omega) (by omega) (fun c583 => ?_) (fun c583 => ?_)
                                                ·
                                                  refine pw_iconst (v := zI (0)) dX10_act_590 (by decide) ?_
                                                  refine pw_zast (t := 1) rfl (mF32 hA) (by first | omega | exact mCell_b hp ko (by omega) (by omega) | exact mHis_b hp (by omega) (by omega)) (by decide) (by omega) dX10_act_591 ?_
                                                  have hA83 : mAt B (mA 32 (va_up (s1.2 32) (p).toNat (0)) s1) (va_up h1 (B + 29) (pz_z 1 8 (va_up (s1.2 32) (p).toNat (0)))) := mU32 hA
                                                  have hk83 : mPk (mA 32 (va_up (s1.2 32) (p).toNat (0)) s1) p.toNat := mP32 hk (by omega)
                                                  have hr83 : mPr p.toNat s (mA 32 (va_up (s1.2 32) (p).toNat (0)) s1) := mPr_tr hr (mPr_W (by decide) (by decide) (by decide))
                                                  have hF83 : mFr B h (va_up h1 (B + 29) (pz_z 1 8 (va_up (s1.2 32) (p).toNat (0)))) := mFr_tr hF (mFr_up (by decide))
                                                  revert hA83 hk83 hr83 hF83 
                                                  generalize (mA 32 (va_up (s1.2 32) (p).toNat (0)) s1) = s83
                                                  generalize (va_up h1 (B + 29) (pz_z 1 8 (va_up (s1.2 32) (p).toNat (0)))) = h83
                                                  intro hA83 hk83 hr83 hF83 
                                                  obtain ⟨kw, kh, kr, kc, ksr, ksc, kt, ko, kwa, kin, kwr, khi, krd, knu, kgi, kas, kfr, kra, kco, kof, kip⟩ := id hk83
                                                  have e18 := congrFun (hr83.2.1 18 (by decide)) p.toNat
                                                  have e19 := congrFun (hr83.2.1 19 (by decide)) p.toNat
                                                  exact pw_vret dX10_act_592 rfl (nle rfl) (nle rfl) (kk s83 h83 hA83 hk83 hr83 hF83)
                                                ·
                                                  refine pw_iconst (v := zI (1)) dX10_act_586 (by decide) ?_
                                                  refine pw_goto (tgt := 591) dX10_act_587 rfl ?_
                                                  refine pw_zast (t := 1) rfl (mF32 hA) (by first | omega | exact mCell_b hp ko (by omega) (by omega) | exact mHis_b hp (by omega) (by omega)) (by decide) (by omega) dX10_act_591 ?_
                                                  have hA84 : mAt B (mA 32 (va_up (s1.2 32) (p).toNat (1)) s1) (va_up h1 (B + 29) (pz_z 1 8 (va_up (s1.2 32) (p).toNat (1)))) := mU32 hA
                                                  have hk84 : mPk (mA 32 (va_up (s1.2 32) (p).toNat (1)) s1) p.toNat := mP32 hk (by omega)
                                                  have hr84 : mPr p.toNat s (mA 32 (va_up (s1.2 32) (p).toNat (1)) s1) := mPr_tr hr (mPr_W (by decide) (by decide) (by decide))
                                                  have hF84 : mFr B h (va_up h1 (B + 29) (pz_z 1 8 (va_up (s1.2 32) (p).toNat (1)))) := mFr_tr hF (mFr_up (by decide))
                                                  revert hA84 hk84 hr84 hF84 
                                                  generalize (mA 32 (va_up (s1.2 32) (p).toNat (1)) s1) = s84
                                                  generalize (va_up h1 (B + 29) (pz_z 1 8 (va_up (s1.2 32) (p).toNat (1)))) = h84
                                                  intro hA84 hk84 hr84 hF84 
                                                  obtain ⟨kw, kh, kr, kc, ksr, ksc, kt, ko, kwa, kin, kwr, khi, krd, knu, kgi, kas, kfr, kra, kco, kof, kip⟩ := id hk84
                                                  have e18 := congrFun (hr84.2.1 18 (by decide)) p.toNat
                                                  have e19 := congrFun (hr84.2.1 19 (by decide)) p.toNat
                                                  exact pw_vret dX10_act_592 rfl (nle rfl) (nle rfl) (kk s84 h84 hA84 hk84 hr84 hF84)
                                            ·
                                              refine pw_iload_n dX10_act_564 rfl ?_
                                              refine pw_bipush (v := zI (108)) dX10_act_565 (by decide) ?_
                                              refine pw_icmp_ne (tgt := 592) dX10_act_567 rfl (by omega) (by omega) (fun c567 => ?_) (fun c567 => ?_)
                                              ·
                                                exact pw_vret dX10_act_592 rfl (nle rfl) (nle rfl) (kk s1 h1 hA hk hr hF)
                                              ·
                                                refine pw_iload_n dX10_act_570 rfl ?_
                                                refine pw_iconst (v := zI (4)) dX10_act_571 (by decide) ?_
                                                refine pw_icmp_ne (tgt := 592) dX10_act_572 rfl (by omega) (by omega) (fun c572 => ?_) (fun c572 => ?_)
                                                ·
                                                  exact pw_vret dX10_act_592 rfl (nle rfl) (nle rfl) (kk s1 h1 hA hk hr hF)
                                                ·
                                                  refine pw_aload_n dX10_act_575 rfl ?_
                                                  refine pw_get (v := .ref (B + 29)) okX10 (k := 32) (by decide) lkX10_95 hA.1 rfl dX10_act_576 ?_
                                                  refine pw_iload_n dX10_act_579 rfl ?_
                                                  refine pw_iload_n dX10_act_580 rfl ?_
                                                  refine pw_bipush (v := zI (104)) dX10_act_581 (by decide) ?_
                                                  refine pw_icmp_ne (tgt := 590) dX10_act_583 rfl (by omega) (by omega) (fun c583 => ?_) (fun c583 => ?_)
                                                  ·
                                                    refine pw_iconst (v := zI (0)) dX10_act_590 (by decide) ?_
                                                    refine pw_zast (t := 1) rfl (mF32 hA) (by first | omega | exact mCell_b hp ko (by omega) (by omega) | exact mHis_b hp (by omega) (by omega)) (by decide) (by omega) dX10_act_591 ?_
                                                    have hA85 : mAt B (mA 32 (va_up (s1.2 32) (p).toNat (0)) s1) (va_up h1 (B + 29) (pz_z 1 8 (va_up (s1.2 32) (p).toNat (0)))) := mU32 hA
                                                    have hk85 : mPk (mA 32 (va_up (s1.2 32) (p).toNat (0)) s1) p.toNat := mP32 hk (by omega)
                                                    have hr85 : mPr p.toNat s (mA 32 (va_up (s1.2 32) (p).toNat (0)) s1) := mPr_tr hr (mPr_W (by decide) (by decide) (by decide))
                                                    have hF85 : mFr B h (va_up h1 (B + 29) (pz_z 1 8 (va_up (s1.2 32) (p).toNat (0)))) := mFr_tr hF (mFr_up (by decide))
                                                    revert hA85 hk85 hr85 hF85 
                                                    generalize (mA 32 (va_up (s1.2 32) (p).toNat (0)) s1) = s85
                                                    generalize (va_up h1 (B + 29) (pz_z 1 8 (va_up (s1.2 32) (p).toNat (0)))) = h85
                                                    intro hA85 hk85 hr85 hF85 
                                                    obtain ⟨kw, kh, kr, kc, ksr, ksc, kt, ko, kwa, kin, kwr, khi, krd, knu, kgi, kas, kfr, kra, kco, kof, kip⟩ := id hk85
                                                    have e18 := congrFun (hr85.2.1 18 (by decide)) p.toNat
                                                    have e19 := congrFun (hr85.2.1 19 (by decide)) p.toNat
                                                    exact pw_vret dX10_act_592 rfl (nle rfl) (nle rfl) (kk s85 h85 hA85 hk85 hr85 hF85)
                                                  ·
                                                    refine pw_iconst (v := zI (1)) dX10_act_586 (by decide) ?_
                                                    refine pw_goto (tgt := 591) dX10_act_587 rfl ?_
                                                    refine pw_zast (t := 1) rfl (mF32 hA) (by first | omega | exact mCell_b hp ko (by omega) (by omega) | exact mHis_b hp (by omega) (by omega)) (by decide) (by omega) dX10_act_591 ?_
                                                    have hA86 : mAt B (mA 32 (va_up (s1.2 32) (p).toNat (1)) s1) (va_up h1 (B + 29) (pz_z 1 8 (va_up (s1.2 32) (p).toNat (1)))) := mU32 hA
                                                    have hk86 : mPk (mA 32 (va_up (s1.2 32) (p).toNat (1)) s1) p.toNat := mP32 hk (by omega)
                                                    have hr86 : mPr p.toNat s (mA 32 (va_up (s1.2 32) (p).toNat (1)) s1) := mPr_tr hr (mPr_W (by decide) (by decide) (by decide))
                                                    have hF86 : mFr B h (va_up h1 (B + 29) (pz_z 1 8 (va_up (s1.2 32) (p).toNat (1)))) := mFr_tr hF (mFr_up (by decide))
                                                    revert hA86 hk86 hr86 hF86 
                                                    generalize (mA 32 (va_up (s1.2 32) (p).toNat (1)) s1) = s86
                                                    generalize (va_up h1 (B + 29) (pz_z 1 8 (va_up (s1.2 32) (p).toNat (1)))) = h86
                                                    intro hA86 hk86 hr86 hF86 
                                                    obtain ⟨kw, kh, kr, kc, ksr, ksc, kt, ko, kwa, kin, kwr, khi, krd, knu, kgi, kas, kfr, kra, kco, kof, kip⟩ := id hk86
                                                    have e18 := congrFun (hr86.2.1 18 (by decide)) p.toNat
                                                    have e19 := congrFun (hr86.2.1 19 (by decide)) p.toNat
                                                    exact pw_vret dX10_act_592 rfl (nle rfl) (nle rfl) (kk s86 h86 hA86 hk86 hr86 hF86)
                                          ·
                                            refine pw_aload_n dX10_act_550 rfl ?_
                                            refine pw_iload_n dX10_act_551 rfl ?_
                                            refine pw_callV (As := [.int (zI (p))]) (b := B) (rm := rmD 1 0 0) (mR_pens htr hA hp hk) rfl hA.1 rfl rfl ywX10_pens rfl cwX10_299 ⟨nle rfl, nle rfl⟩ (nle rfl) ⟨nle rfl, nle rfl⟩ dX10_act_552 ?_ (fun _ _ _ z => z.elim)
                                            intro r_9 h87 n_9 hq _
                                            obtain ⟨e1, s87, hA87, hk87, hr870, hF870, e4⟩ := hq
                                            rw [e1, e4]
                                            show pw E YX10_act _ _ 0 0 555 [some (.ref B), some (.int (zI (p))), some (.int (zI (b))), some (.int (zI (z))), some (.int (zI (nn))), some (.int (zI ((s1.2 36) ((4 * p) + (1)).toNat))), some (.int (zI ((s1.2 23) (p).toNat))), some (.int (zI ((s1.2 24) (p).toNat)))] [] h87 n
                                            have hr87 := mPr_tr hr hr870
                                            have hF87 := mFr_tr hF hF870
                                            obtain ⟨kw, kh, kr, kc, ksr, ksc, kt, ko, kwa, kin, kwr, khi, krd, knu, kgi, kas, kfr, kra, kco, kof, kip⟩ := id hk87
                                            have e18 := congrFun (hr87.2.1 18 (by decide)) p.toNat
                                            have e19 := congrFun (hr87.2.1 19 (by decide)) p.toNat
                                            refine pw_goto (tgt := 592) dX10_act_555 rfl ?_
                                            exact pw_vret dX10_act_592 rfl (nle rfl) (nle rfl) (kk s87 h87 hA87 hk87 hr87 hF87)
                                        ·
                                          refine pw_aload_n dX10_act_532 rfl ?_
                                          refine pw_iload_n dX10_act_533 rfl ?_
                                          refine pw_iload dX10_act_534 rfl ?_
                                          refine pw_iload dX10_act_536 rfl ?_
                                          refine pw_callV (As := [.int (zI (p)), .int (zI (nn)), .int (zI ((s1.2 36) ((4 * p) + (1)).toNat))]) (b := B) (rm := rmD 2 0 0) (mR_region htr hA hp hk (by omega) (by omega)) rfl hA.1 rfl rfl ywX10_region rfl cwX10_296 ⟨nle rfl, nle rfl⟩ (nle rfl) ⟨nle rfl, nle rfl⟩ dX10_act_538 ?_ (fun _ _ _ z => z.elim)
                                          intro r_9 h88 n_9 hq _
                                          obtain ⟨e1, s88, hA88, hk88, hr880, hF880, e4⟩ := hq
                                          rw [e1, e4]
                                          show pw E YX10_act _ _ 0 0 541 [some (.ref B), some (.int (zI (p))), some (.int (zI (b))), some (.int (zI (z))), some (.int (zI (nn))), some (.int (zI ((s1.2 36) ((4 * p) + (1)).toNat))), some (.int (zI ((s1.2 23) (p).toNat))), some (.int (zI ((s1.2 24) (p).toNat)))] [] h88 n
                                          have hr88 := mPr_tr hr hr880
                                          have hF88 := mFr_tr hF hF880
                                          obtain ⟨kw, kh, kr, kc, ksr, ksc, kt, ko, kwa, kin, kwr, khi, krd, knu, kgi, kas, kfr, kra, kco, kof, kip⟩ := id hk88
                                          have e18 := congrFun (hr88.2.1 18 (by decide)) p.toNat
                                          have e19 := congrFun (hr88.2.1 19 (by decide)) p.toNat
                                          refine pw_goto (tgt := 592) dX10_act_541 rfl ?_
                                          exact pw_vret dX10_act_592 rfl (nle rfl) (nle rfl) (kk s88 h88 hA88 hk88 hr88 hF88)
                                      ·
                                        refine pw_aload_n dX10_act_497 rfl ?_
                                        refine pw_iload_n dX10_act_498 rfl ?_
                                        refine pw_aload_n dX10_act_499 rfl ?_
                                        refine pw_get (v := .ref (B + 26)) okX10 (k := 29) (by decide) lkX10_86 hA.1 rfl dX10_act_500 ?_
                                        refine pw_iload_n dX10_act_503 rfl ?_
                                        refine pw_iald (t := 0) rfl (mF29 hA) (by first | omega | exact mCell_b hp ko (by omega) (by omega) | exact mHis_b hp (by omega) (by omega)) (by decide) dX10_act_504 ?_
                                        refine pw_aload_n dX10_act_505 rfl ?_
                                        refine pw_get (v := .ref (B + 27)) okX10 (k := 30) (by decide) lkX10_89 hA.1 rfl dX10_act_506 ?_
                                        refine pw_iload_n dX10_act_509 rfl ?_
                                        refine pw_iald (t := 0) rfl (mF30 hA) (by first | omega | exact mCell_b hp ko (by omega) (by omega) | exact mHis_b hp (by omega) (by omega)) (by decide) dX10_act_510 ?_
                                        refine pw_iload dX10_act_511 rfl ?_
                                        refine pw_callV (As := [.int (zI (p)), .int (zI ((s1.2 29) (p).toNat)), .int (zI ((s1.2 30) (p).toNat)), .int (zI (nn))]) (b := B) (rm := rmD 3 0 0) (mR_scrollDown htr hA hp hk (by omega) (by omega)) rfl hA.1 rfl rfl ywX10_scrollDown rfl cwX10_251 ⟨nle rfl, nle rfl⟩ (nle rfl) ⟨nle rfl, nle rfl⟩ dX10_act_513 ?_ (fun _ _ _ z => z.elim)
                                        intro r_9 h89 n_9 hq _
                                        obtain ⟨e1, s89, hA89, hk89, hr890, hF890, e4⟩ := hq
                                        rw [e1, e4]
                                        show pw E YX10_act _ _ 0 0 516 [some (.ref B), some (.int (zI (p))), some (.int (zI (b))), some (.int (zI (z))), some (.int (zI (nn))), some (.int (zI ((s1.2 36) ((4 * p) + (1)).toNat))), some (.int (zI ((s1.2 23) (p).toNat))), some (.int (zI ((s1.2 24) (p).toNat)))] [] h89 n
                                        have hr89 := mPr_tr hr hr890
                                        have hF89 := mFr_tr hF hF890
                                        obtain ⟨kw, kh, kr, kc, ksr, ksc, kt, ko, kwa, kin, kwr, khi, krd, knu, kgi, kas, kfr, kra, kco, kof, kip⟩ := id hk89
                                        have e18 := congrFun (hr89.2.1 18 (by decide)) p.toNat
                                        have e19 := congrFun (hr89.2.1 19 (by decide)) p.toNat
                                        refine pw_aload_n dX10_act_516 rfl ?_
                                        refine pw_get (v := .ref (B + 28)) okX10 (k := 31) (by decide) lkX10_92 hA89.1 rfl dX10_act_517 ?_
                                        refine pw_iload_n dX10_act_520 rfl ?_
                                        refine pw_iconst (v := zI (0)) dX10_act_521 (by decide) ?_
                                        refine pw_zast (t := 1) rfl (mF31 hA89) (by first | omega | exact mCell_b hp ko (by omega) (by omega) | exact mHis_b hp (by omega) (by omega)) (by decide) (by omega) dX10_act_522 ?_
                                        have hA90 : mAt B (mA 31 (va_up (s89.2 31) (p).toNat (0)) s89) (va_up h89 (B + 28) (pz_z 1 8 (va_up (s89.2 31) (p).toNat (0)))) := mU31 hA89
                                        have hk90 : mPk (mA 31 (va_up (s89.2 31) (p).toNat (0)) s89) p.toNat := mP31 hk89 (by omega)
                                        have hr90 : mPr p.toNat s (mA 31 (va_up (s89.2 31) (p).toNat (0)) s89) := mPr_tr hr89 (mPr_W (by decide) (by decide) (by decide))
                                        have hF90 : mFr B h (va_up h89 (B + 28) (pz_z 1 8 (va_up (s89.2 31) (p).toNat (0)))) := mFr_tr hF89 (mFr_up (by decide))
                                        revert hA90 hk90 hr90 hF90 
                                        generalize (mA 31 (va_up (s89.2 31) (p).toNat (0)) s89) = s90
                                        generalize (va_up h89 (B + 28) (pz_z 1 8 (va_up (s89.2 31) (p).toNat (0)))) = h90
                                        intro hA90 hk90 hr90 hF90 
                                        obtain ⟨kw, kh, kr, kc, ksr, ksc, kt, ko, kwa, kin, kwr, khi, krd, knu, kgi, kas, kfr, kra, kco, kof, kip⟩ := id hk90
                                        have e18 := congrFun (hr90.2.1 18 (by decide)) p.toNat
                                        have e19 := congrFun (hr90.2.1 19 (by decide)) p.toNat
                                        refine pw_goto (tgt := 592) dX10_act_523 rfl ?_
                                        exact pw_vret dX10_act_592 rfl (nle rfl) (nle rfl) (kk s90 h90 hA90 hk90 hr90 hF90)
                                    ·
                                      refine pw_aload_n dX10_act_461 rfl ?_
                                      refine pw_iload_n dX10_act_462 rfl ?_
                                      refine pw_aload_n dX10_act_463 rfl ?_
                                      refine pw_get (v := .ref (B + 26)) okX10 (k := 29) (by decide) lkX10_86 hA.1 rfl dX10_act_464 ?_
                                      refine pw_iload_n dX10_act_467 rfl ?_
                                      refine pw_iald (t := 0) rfl (mF29 hA) (by first | omega | exact mCell_b hp ko (by omega) (by omega) | exact mHis_b hp (by omega) (by omega)) (by decide) dX10_act_468 ?_
                                      refine pw_aload_n dX10_act_469 rfl ?_
                                      refine pw_get (v := .ref (B + 27)) okX10 (k := 30) (by decide) lkX10_89 hA.1 rfl dX10_act_470 ?_
                                      refine pw_iload_n dX10_act_473 rfl ?_
                                      refine pw_iald (t := 0) rfl (mF30 hA) (by first | omega | exact mCell_b hp ko (by omega) (by omega) | exact mHis_b hp (by omega) (by omega)) (by decide) dX10_act_474 ?_
                                      refine pw_iload dX10_act_475 rfl ?_
                                      refine pw_iconst (v := zI (1)) dX10_act_477 (by decide) ?_
                                      refine pw_callV (As := [.int (zI (p)), .int (zI ((s1.2 29) (p).toNat)), .int (zI ((s1.2 30) (p).toNat)), .int (zI (nn)), .int (zI (1))]) (b := B) (rm := rmD 3 0 0) (mR_scrollUp htr hA hp hk (by omega) (by omega) (by omega)) rfl hA.1 rfl rfl ywX10_scrollUp rfl cwX10_247 ⟨nle rfl, nle rfl⟩ (nle rfl) ⟨nle rfl, nle rfl⟩ dX10_act_478 ?_ (fun _ _ _ z => z.elim)
                                      intro r_9 h91 n_9 hq _
                                      obtain ⟨e1, s91, hA91, hk91, hr910, hF910, e4⟩ := hq
                                      rw [e1, e4]
                                      show pw E YX10_act _ _ 0 0 481 [some (.ref B), some (.int (zI (p))), some (.int (zI (b))), some (.int (zI (z))), some (.int (zI (nn))), some (.int (zI ((s1.2 36) ((4 * p) + (1)).toNat))), some (.int (zI ((s1.2 23) (p).toNat))), some (.int (zI ((s1.2 24) (p).toNat)))] [] h91 n
                                      have hr91 := mPr_tr hr hr910
                                      have hF91 := mFr_tr hF hF910
                                      obtain ⟨kw, kh, kr, kc, ksr, ksc, kt, ko, kwa, kin, kwr, khi, krd, knu, kgi, kas, kfr, kra, kco, kof, kip⟩ := id hk91
                                      have e18 := congrFun (hr91.2.1 18 (by decide)) p.toNat
                                      have e19 := congrFun (hr91.2.1 19 (by decide)) p.toNat
                                      refine pw_aload_n dX10_act_481 rfl ?_
                                      refine pw_get (v := .ref (B + 28)) okX10 (k := 31) (by decide) lkX10_92 hA91.1 rfl dX10_act_482 ?_
                                      refine pw_iload_n dX10_act_485 rfl ?_
                                      refine pw_iconst (v := zI (0)) dX10_act_486 (by decide) ?_
                                      refine pw_zast (t := 1) rfl (mF31 hA91) (by first | omega | exact mCell_b hp ko (by omega) (by omega) | exact mHis_b hp (by omega) (by omega)) (by decide) (by omega) dX10_act_487 ?_
                                      have hA92 : mAt B (mA 31 (va_up (s91.2 31) (p).toNat (0)) s91) (va_up h91 (B + 28) (pz_z 1 8 (va_up (s91.2 31) (p).toNat (0)))) := mU31 hA91
                                      have hk92 : mPk (mA 31 (va_up (s91.2 31) (p).toNat (0)) s91) p.toNat := mP31 hk91 (by omega)
                                      have hr92 : mPr p.toNat s (mA 31 (va_up (s91.2 31) (p).toNat (0)) s91) := mPr_tr hr91 (mPr_W (by decide) (by decide) (by decide))
                                      have hF92 : mFr B h (va_up h91 (B + 28) (pz_z 1 8 (va_up (s91.2 31) (p).toNat (0)))) := mFr_tr hF91 (mFr_up (by decide))
                                      revert hA92 hk92 hr92 hF92 
                                      generalize (mA 31 (va_up (s91.2 31) (p).toNat (0)) s91) = s92
                                      generalize (va_up h91 (B + 28) (pz_z 1 8 (va_up (s91.2 31) (p).toNat (0)))) = h92
                                      intro hA92 hk92 hr92 hF92 
                                      obtain ⟨kw, kh, kr, kc, ksr, ksc, kt, ko, kwa, kin, kwr, khi, krd, knu, kgi, kas, kfr, kra, kco, kof, kip⟩ := id hk92
                                      have e18 := congrFun (hr92.2.1 18 (by decide)) p.toNat
                                      have e19 := congrFun (hr92.2.1 19 (by decide)) p.toNat
                                      refine pw_goto (tgt := 592) dX10_act_488 rfl ?_
                                      exact pw_vret dX10_act_592 rfl (nle rfl) (nle rfl) (kk s92 h92 hA92 hk92 hr92 hF92)
                                  ·
                                    refine pw_aload_n dX10_act_434 rfl ?_
                                    refine pw_iload_n dX10_act_435 rfl ?_
                                    refine pw_iload_n dX10_act_436 rfl ?_
                                    refine pw_bipush (v := zI (76)) dX10_act_437 (by decide) ?_
                                    refine pw_icmp_ne (tgt := 446) dX10_act_439 rfl (by omega) (by omega) (fun c439 => ?_) (fun c439 => ?_)
                                    ·
                                      refine pw_iconst (v := zI (0)) dX10_act_446 (by decide) ?_
                                      refine pw_iload dX10_act_447 rfl ?_
                                      refine pw_callV (As := [.int (zI (p)), .int (zI (0)), .int (zI (nn))]) (b := B) (rm := rmD 4 0 0) (mR_lines htr hA hp hk (by omega) (by omega)) rfl hA.1 rfl rfl ywX10_lines rfl cwX10_292 ⟨nle rfl, nle rfl⟩ (nle rfl) ⟨nle rfl, nle rfl⟩ dX10_act_449 ?_ (fun _ _ _ z => z.elim)
                                      intro r_9 h93 n_9 hq _
                                      obtain ⟨e1, s93, hA93, hk93, hr930, hF930, e4⟩ := hq
                                      rw [e1, e4]
                                      show pw E YX10_act _ _ 0 0 452 [some (.ref B), some (.int (zI (p))), some (.int (zI (b))), some (.int (zI (z))), some (.int (zI (nn))), some (.int (zI ((s1.2 36) ((4 * p) + (1)).toNat))), some (.int (zI ((s1.2 23) (p).toNat))), some (.int (zI ((s1.2 24) (p).toNat)))] [] h93 n
                                      have hr93 := mPr_tr hr hr930
                                      have hF93 := mFr_tr hF hF930
                                      obtain ⟨kw, kh, kr, kc, ksr, ksc, kt, ko, kwa, kin, kwr, khi, krd, knu, kgi, kas, kfr, kra, kco, kof, kip⟩ := id hk93
                                      have e18 := congrFun (hr93.2.1 18 (by decide)) p.toNat
                                      have e19 := congrFun (hr93.2.1 19 (by decide)) p.toNat
                                      refine pw_goto (tgt := 592) dX10_act_452 rfl ?_
                                      exact pw_vret dX10_act_592 rfl (nle rfl) (nle rfl) (kk s93 h93 hA93 hk93 hr93 hF93)
                                    ·
                                      refine pw_iconst (v := zI (1)) dX10_act_442 (by decide) ?_
                                      refine pw_goto (tgt := 447) dX10_act_443 rfl ?_
                                      refine pw_iload dX10_act_447 rfl ?_
                                      refine pw_callV (As := [.int (zI (p)), .int (zI (1)), .int (zI (nn))]) (b := B) (rm := rmD 4 0 0) (mR_lines htr hA hp hk (by omega) (by omega)) rfl hA.1 rfl rfl ywX10_lines rfl cwX10_292 ⟨nle rfl, nle rfl⟩ (nle rfl) ⟨nle rfl, nle rfl⟩ dX10_act_449 ?_ (fun _ _ _ z => z.elim)
                                      intro r_9 h94 n_9 hq _
                                      obtain ⟨e1, s94, hA94, hk94, hr940, hF940, e4⟩ := hq
                                      rw [e1, e4]
                                      show pw E YX10_act _ _ 0 0 452 [some (.ref B), some (.int (zI (p))), some (.int (zI (b))), some (.int (zI (z))), some (.int (zI (nn))), some (.int (zI ((s1.2 36) ((4 * p) + (1)).toNat))), some (.int (zI ((s1.2 23) (p).toNat))), some (.int (zI ((s1.2 24) (p).toNat)))] [] h94 n
                                      have hr94 := mPr_tr hr hr940
                                      have hF94 := mFr_tr hF hF940
                                      obtain ⟨kw, kh, kr, kc, ksr, ksc, kt, ko, kwa, kin, kwr, khi, krd, knu, kgi, kas, kfr, kra, kco, kof, kip⟩ := id hk94
                                      have e18 := congrFun (hr94.2.1 18 (by decide)) p.toNat
                                      have e19 := congrFun (hr94.2.1 19 (by decide)) p.toNat
                                      refine pw_goto (tgt := 592) dX10_act_452 rfl ?_
                                      exact pw_vret dX10_act_592 rfl (nle rfl) (nle rfl) (kk s94 h94 hA94 hk94 hr94 hF94)
                              ·
                                refine pw_aload_n dX10_act_389 rfl ?_
                                refine pw_iload_n dX10_act_390 rfl ?_
                                refine pw_iload dX10_act_391 rfl ?_
                                refine pw_iload dX10_act_393 rfl ?_
                                refine pw_iload_n dX10_act_395 rfl ?_
                                refine pw_bipush (v := zI (64)) dX10_act_396 (by decide) ?_
                                refine pw_icmp_ne (tgt := 406) dX10_act_398 rfl (by omega) (by omega) (fun c398 => ?_) (fun c398 => ?_)
                                ·
                                  refine pw_iload dX10_act_406 rfl ?_
                                  refine pw_zineg dX10_act_408 ?_
                                  refine pw_callV (As := [.int (zI (p)), .int (zI ((s1.2 23) (p).toNat)), .int (zI ((s1.2 24) (p).toNat)), .int (zI (-(nn)))]) (b := B) (rm := rmD 2 0 0) (mR_push htr hA hp hk (by omega) (by omega) (by omega)) rfl hA.1 rfl rfl ywX10_push rfl cwX10_258 ⟨nle rfl, nle rfl⟩ (nle rfl) ⟨nle rfl, nle rfl⟩ dX10_act_409 ?_ (fun _ _ _ z => z.elim)
                                  intro r_9 h95 n_9 hq _
                                  obtain ⟨e1, s95, hA95, hk95, hr950, hF950, e4⟩ := hq
                                  rw [e1, e4]
                                  show pw E YX10_act _ _ 0 0 412 [some (.ref B), some (.int (zI (p))), some (.int (zI (b))), some (.int (zI (z))), some (.int (zI (nn))), some (.int (zI ((s1.2 36) ((4 * p) + (1)).toNat))), some (.int (zI ((s1.2 23) (p).toNat))), some (.int (zI ((s1.2 24) (p).toNat)))] [] h95 n
                                  have hr95 := mPr_tr hr hr950
                                  have hF95 := mFr_tr hF hF950
                                  obtain ⟨kw, kh, kr, kc, ksr, ksc, kt, ko, kwa, kin, kwr, khi, krd, knu, kgi, kas, kfr, kra, kco, kof, kip⟩ := id hk95
                                  have e18 := congrFun (hr95.2.1 18 (by decide)) p.toNat
                                  have e19 := congrFun (hr95.2.1 19 (by decide)) p.toNat
                                  refine pw_aload_n dX10_act_412 rfl ?_
                                  refine pw_get (v := .ref (B + 28)) okX10 (k := 31) (by decide) lkX10_92 hA95.1 rfl dX10_act_413 ?_
                                  refine pw_iload_n dX10_act_416 rfl ?_
                                  refine pw_iconst (v := zI (0)) dX10_act_417 (by decide) ?_
                                  refine pw_zast (t := 1) rfl (mF31 hA95) (by first | omega | exact mCell_b hp ko (by omega) (by omega) | exact mHis_b hp (by omega) (by omega)) (by decide) (by omega) dX10_act_418 ?_
                                  have hA96 : mAt B (mA 31 (va_up (s95.2 31) (p).toNat (0)) s95) (va_up h95 (B + 28) (pz_z 1 8 (va_up (s95.2 31) (p).toNat (0)))) := mU31 hA95
                                  have hk96 : mPk (mA 31 (va_up (s95.2 31) (p).toNat (0)) s95) p.toNat := mP31 hk95 (by omega)
                                  have hr96 : mPr p.toNat s (mA 31 (va_up (s95.2 31) (p).toNat (0)) s95) := mPr_tr hr95 (mPr_W (by decide) (by decide) (by decide))
                                  have hF96 : mFr B h (va_up h95 (B + 28) (pz_z 1 8 (va_up (s95.2 31) (p).toNat (0)))) := mFr_tr hF95 (mFr_up (by decide))
                                  revert hA96 hk96 hr96 hF96 
                                  generalize (mA 31 (va_up (s95.2 31) (p).toNat (0)) s95) = s96
                                  generalize (va_up h95 (B + 28) (pz_z 1 8 (va_up (s95.2 31) (p).toNat (0)))) = h96
                                  intro hA96 hk96 hr96 hF96 
                                  obtain ⟨kw, kh, kr, kc, ksr, ksc, kt, ko, kwa, kin, kwr, khi, krd, knu, kgi, kas, kfr, kra, kco, kof, kip⟩ := id hk96
                                  have e18 := congrFun (hr96.2.1 18 (by decide)) p.toNat
                                  have e19 := congrFun (hr96.2.1 19 (by decide)) p.toNat
                                  refine pw_goto (tgt := 592) dX10_act_419 rfl ?_
                                  exact pw_vret dX10_act_592 rfl (nle rfl) (nle rfl) (kk s96 h96 hA96 hk96 hr96 hF96)
                                ·
                                  refine pw_iload dX10_act_401 rfl ?_
                                  refine pw_goto (tgt := 409) dX10_act_403 rfl ?_
                                  refine pw_callV (As := [.int (zI (p)), .int (zI ((s1.2 23) (p).toNat)), .int (zI ((s1.2 24) (p).toNat)), .int (zI (nn))]) (b := B) (rm := rmD 2 0 0) (mR_push htr hA hp hk (by omega) (by omega) (by omega)) rfl hA.1 rfl rfl ywX10_push rfl cwX10_258 ⟨nle rfl, nle rfl⟩ (nle rfl) ⟨nle rfl, nle rfl⟩ dX10_act_409 ?_ (fun _ _ _ z => z.elim)
                                  intro r_9 h97 n_9 hq _
                                  obtain ⟨e1, s97, hA97, hk97, hr970, hF970, e4⟩ := hq
                                  rw [e1, e4]
                                  show pw E YX10_act _ _ 0 0 412 [some (.ref B), some (.int (zI (p))), some (.int (zI (b))), some (.int (zI (z))), some (.int (zI (nn))), some (.int (zI ((s1.2 36) ((4 * p) + (1)).toNat))), some (.int (zI ((s1.2 23) (p).toNat))), some (.int (zI ((s1.2 24) (p).toNat)))] [] h97 n
                                  have hr97 := mPr_tr hr hr970
                                  have hF97 := mFr_tr hF hF970
                                  obtain ⟨kw, kh, kr, kc, ksr, ksc, kt, ko, kwa, kin, kwr, khi, krd, knu, kgi, kas, kfr, kra, kco, kof, kip⟩ := id hk97
                                  have e18 := congrFun (hr97.2.1 18 (by decide)) p.toNat
                                  have e19 := congrFun (hr97.2.1 19 (by decide)) p.toNat
                                  refine pw_aload_n dX10_act_412 rfl ?_
                                  refine pw_get (v := .ref (B + 28)) okX10 (k := 31) (by decide) lkX10_92 hA97.1 rfl dX10_act_413 ?_
                                  refine pw_iload_n dX10_act_416 rfl ?_
                                  refine pw_iconst (v := zI (0)) dX10_act_417 (by decide) ?_
                                  refine pw_zast (t := 1) rfl (mF31 hA97) (by first | omega | exact mCell_b hp ko (by omega) (by omega) | exact mHis_b hp (by omega) (by omega)) (by decide) (by omega) dX10_act_418 ?_
                                  have hA98 : mAt B (mA 31 (va_up (s97.2 31) (p).toNat (0)) s97) (va_up h97 (B + 28) (pz_z 1 8 (va_up (s97.2 31) (p).toNat (0)))) := mU31 hA97
                                  have hk98 : mPk (mA 31 (va_up (s97.2 31) (p).toNat (0)) s97) p.toNat := mP31 hk97 (by omega)
                                  have hr98 : mPr p.toNat s (mA 31 (va_up (s97.2 31) (p).toNat (0)) s97) := mPr_tr hr97 (mPr_W (by decide) (by decide) (by decide))
                                  have hF98 : mFr B h (va_up h97 (B + 28) (pz_z 1 8 (va_up (s97.2 31) (p).toNat (0)))) := mFr_tr hF97 (mFr_up (by decide))
                                  revert hA98 hk98 hr98 hF98 
                                  generalize (mA 31 (va_up (s97.2 31) (p).toNat (0)) s97) = s98
                                  generalize (va_up h97 (B + 28) (pz_z 1 8 (va_up (s97.2 31) (p).toNat (0)))) = h98
                                  intro hA98 hk98 hr98 hF98 
                                  obtain ⟨kw, kh, kr, kc, ksr, ksc, kt, ko, kwa, kin, kwr, khi, krd, knu, kgi, kas, kfr, kra, kco, kof, kip⟩ := id hk98
                                  have e18 := congrFun (hr98.2.1 18 (by decide)) p.toNat
                                  have e19 := congrFun (hr98.2.1 19 (by decide)) p.toNat
                                  refine pw_goto (tgt := 592) dX10_act_419 rfl ?_
                                  exact pw_vret dX10_act_592 rfl (nle rfl) (nle rfl) (kk s98 h98 hA98 hk98 hr98 hF98)
                          ·
                            refine pw_aload_n dX10_act_356 rfl ?_
                            refine pw_iload_n dX10_act_357 rfl ?_
                            refine pw_iload dX10_act_358 rfl ?_
                            refine pw_iload dX10_act_360 rfl ?_
                            refine pw_iload dX10_act_362 rfl ?_
                            refine pw_iload dX10_act_364 rfl ?_
                            refine pw_iload dX10_act_366 rfl ?_
                            refine pw_ziadd dX10_act_368 ?_
                            refine pw_iconst (v := zI (1)) dX10_act_369 (by decide) ?_
                            refine pw_zisub dX10_act_370 ?_
                            refine pw_callV (As := [.int (zI (p)), .int (zI ((s1.2 23) (p).toNat)), .int (zI ((s1.2 24) (p).toNat)), .int (zI ((s1.2 23) (p).toNat)), .int (zI ((((s1.2 24) (p).toNat) + (nn)) - (1)))]) (b := B) (rm := rmD 2 0 0) (mR_erase htr hA hp hk (by omega) (by omega) (by omega) (by omega) (by omega)) rfl hA.1 rfl rfl ywX10_erase rfl cwX10_289 ⟨nle rfl, nle rfl⟩ (nle rfl) ⟨nle rfl, nle rfl⟩ dX10_act_371 ?_ (fun _ _ _ z => z.elim)
                            intro r_9 h99 n_9 hq _
                            obtain ⟨e1, s99, hA99, hk99, hr990, hF990, e4⟩ := hq
                            rw [e1, e4]
                            show pw E YX10_act _ _ 0 0 374 [some (.ref B), some (.int (zI (p))), some (.int (zI (b))), some (.int (zI (z))), some (.int (zI (nn))), some (.int (zI ((s1.2 36) ((4 * p) + (1)).toNat))), some (.int (zI ((s1.2 23) (p).toNat))), some (.int (zI ((s1.2 24) (p).toNat)))] [] h99 n
                            have hr99 := mPr_tr hr hr990
                            have hF99 := mFr_tr hF hF990
                            obtain ⟨kw, kh, kr, kc, ksr, ksc, kt, ko, kwa, kin, kwr, khi, krd, knu, kgi, kas, kfr, kra, kco, kof, kip⟩ := id hk99
                            have e18 := congrFun (hr99.2.1 18 (by decide)) p.toNat
                            have e19 := congrFun (hr99.2.1 19 (by decide)) p.toNat
                            refine pw_goto (tgt := 592) dX10_act_374 rfl ?_
                            exact pw_vret dX10_act_592 rfl (nle rfl) (nle rfl) (kk s99 h99 hA99 hk99 hr99 hF99)
                        ·
                          refine pw_aload_n dX10_act_316 rfl ?_
                          refine pw_iload_n dX10_act_317 rfl ?_
                          refine pw_iload dX10_act_318 rfl ?_
                          refine pw_iload_n dX10_act_320 rfl ?_
                          refine pw_if_ne (tgt := 329) dX10_act_321 rfl (by omega) (fun c321 => ?_) (fun c321 => ?_)
                          ·
                            refine pw_iconst (v := zI (0)) dX10_act_329 (by decide) ?_
                            refine pw_iload dX10_act_330 rfl ?_
                            refine pw_iload_n dX10_act_332 rfl ?_
                            refine pw_iconst (v := zI (1)) dX10_act_333 (by decide) ?_
                            refine pw_icmp_ne (tgt := 342) dX10_act_334 rfl (by omega) (by omega) (fun c334 => ?_) (fun c334 => ?_)
                            ·
                              refine pw_bipush (v := zI (40)) dX10_act_342 (by decide) ?_
                              refine pw_callV (As := [.int (zI (p)), .int (zI ((s1.2 23) (p).toNat)), .int (zI (0)), .int (zI ((s1.2 23) (p).toNat)), .int (zI (40))]) (b := B) (rm := rmD 2 0 0) (mR_erase htr hA hp hk (by omega) (by omega) (by omega) (by omega) (by omega)) rfl hA.1 rfl rfl ywX10_erase rfl cwX10_289 ⟨nle rfl, nle rfl⟩ (nle rfl) ⟨nle rfl, nle rfl⟩ dX10_act_344 ?_ (fun _ _ _ z => z.elim)
                              intro r_9 h100 n_9 hq _
                              obtain ⟨e1, s100, hA100, hk100, hr1000, hF1000, e4⟩ := hq
                              rw [e1, e4]
                              show pw E YX10_act _ _ 0 0 347 [some (.ref B), some (.int (zI (p))), some (.int (zI (b))), some (.int (zI (z))), some (.int (zI (nn))), some (.int (zI ((s1.2 36) ((4 * p) + (1)).toNat))), some (.int (zI ((s1.2 23) (p).toNat))), some (.int (zI ((s1.2 24) (p).toNat)))] [] h100 n
                              have hr100 := mPr_tr hr hr1000
                              have hF100 := mFr_tr hF hF1000
                              obtain ⟨kw, kh, kr, kc, ksr, ksc, kt, ko, kwa, kin, kwr, khi, krd, knu, kgi, kas, kfr, kra, kco, kof, kip⟩ := id hk100
                              have e18 := congrFun (hr100.2.1 18 (by decide)) p.toNat
                              have e19 := congrFun (hr100.2.1 19 (by decide)) p.toNat
                              refine pw_goto (tgt := 592) dX10_act_347 rfl ?_
                              exact pw_vret dX10_act_592 rfl (nle rfl) (nle rfl) (kk s100 h100 hA100 hk100 hr100 hF100)
                            ·
                              refine pw_iload dX10_act_337 rfl ?_
                              refine pw_goto (tgt := 344) dX10_act_339 rfl ?_
                              refine pw_callV (As := [.int (zI (p)), .int (zI ((s1.2 23) (p).toNat)), .int (zI (0)), .int (zI ((s1.2 23) (p).toNat)), .int (zI ((s1.2 24) (p).toNat))]) (b := B) (rm := rmD 2 0 0) (mR_erase htr hA hp hk (by omega) (by omega) (by omega) (by omega) (by omega)) rfl hA.1 rfl rfl ywX10_erase rfl cwX10_289 ⟨nle rfl, nle rfl⟩ (nle rfl) ⟨nle rfl, nle rfl⟩ dX10_act_344 ?_ (fun _ _ _ z => z.elim)
                              intro r_9 h101 n_9 hq _
                              obtain ⟨e1, s101, hA101, hk101, hr1010, hF1010, e4⟩ := hq
                              rw [e1, e4]
                              show pw E YX10_act _ _ 0 0 347 [some (.ref B), some (.int (zI (p))), some (.int (zI (b))), some (.int (zI (z))), some (.int (zI (nn))), some (.int (zI ((s1.2 36) ((4 * p) + (1)).toNat))), some (.int (zI ((s1.2 23) (p).toNat))), some (.int (zI ((s1.2 24) (p).toNat)))] [] h101 n
                              have hr101 := mPr_tr hr hr1010
                              have hF101 := mFr_tr hF hF1010
                              obtain ⟨kw, kh, kr, kc, ksr, ksc, kt, ko, kwa, kin, kwr, khi, krd, knu, kgi, kas, kfr, kra, kco, kof, kip⟩ := id hk101
                              have e18 := congrFun (hr101.2.1 18 (by decide)) p.toNat
                              have e19 := congrFun (hr101.2.1 19 (by decide)) p.toNat
                              refine pw_goto (tgt := 592) dX10_act_347 rfl ?_
                              exact pw_vret dX10_act_592 rfl (nle rfl) (nle rfl) (kk s101 h101 hA101 hk101 hr101 hF101)
                          ·
                            refine pw_iload dX10_act_324 rfl ?_
                            refine pw_goto (tgt := 330) dX10_act_326 rfl ?_
                            refine pw_iload dX10_act_330 rfl ?_
                            refine pw_iload_n dX10_act_332 rfl ?_
                            refine pw_iconst (v := zI (1)) dX10_act_333 (by decide) ?_
                            refine pw_icmp_ne (tgt := 342) dX10_act_334 rfl (by omega) (by omega) (fun c334 => ?_) (fun c334 => ?_)
                            ·
                              refine pw_bipush (v := zI (40)) dX10_act_342 (by decide) ?_
                              refine pw_callV (As := [.int (zI (p)), .int (zI ((s1.2 23) (p).toNat)), .int (zI ((s1.2 24) (p).toNat)), .int (zI ((s1.2 23) (p).toNat)), .int (zI (40))]) (b := B) (rm := rmD 2 0 0) (mR_erase htr hA hp hk (by omega) (by omega) (by omega) (by omega) (by omega)) rfl hA.1 rfl rfl ywX10_erase rfl cwX10_289 ⟨nle rfl, nle rfl⟩ (nle rfl) ⟨nle rfl, nle rfl⟩ dX10_act_344 ?_ (fun _ _ _ z => z.elim)
                              intro r_9 h102 n_9 hq _
                              obtain ⟨e1, s102, hA102, hk102, hr1020, hF1020, e4⟩ := hq
                              rw [e1, e4]
                              show pw E YX10_act _ _ 0 0 347 [some (.ref B), some (.int (zI (p))), some (.int (zI (b))), some (.int (zI (z))), some (.int (zI (nn))), some (.int (zI ((s1.2 36) ((4 * p) + (1)).toNat))), some (.int (zI ((s1.2 23) (p).toNat))), some (.int (zI ((s1.2 24) (p).toNat)))] [] h102 n
                              have hr102 := mPr_tr hr hr1020
                              have hF102 := mFr_tr hF hF1020
                              obtain ⟨kw, kh, kr, kc, ksr, ksc, kt, ko, kwa, kin, kwr, khi, krd, knu, kgi, kas, kfr, kra, kco, kof, kip⟩ := id hk102
                              have e18 := congrFun (hr102.2.1 18 (by decide)) p.toNat
                              have e19 := congrFun (hr102.2.1 19 (by decide)) p.toNat
                              refine pw_goto (tgt := 592) dX10_act_347 rfl ?_
                              exact pw_vret dX10_act_592 rfl (nle rfl) (nle rfl) (kk s102 h102 hA102 hk102 hr102 hF102)
                            ·
                              refine pw_iload dX10_act_337 rfl ?_
                              refine pw_goto (tgt := 344) dX10_act_339 rfl ?_
                              refine pw_callV (As := [.int (zI (p)), .int (zI ((s1.2 23) (p).toNat)), .int (zI ((s1.2 24) (p).toNat)), .int (zI ((s1.2 23) (p).toNat)), .int (zI ((s1.2 24) (p).toNat))]) (b := B) (rm := rmD 2 0 0) (mR_erase htr hA hp hk (by omega) (by omega) (by omega) (by omega) (by omega)) rfl hA.1 rfl rfl ywX10_erase rfl cwX10_289 ⟨nle rfl, nle rfl⟩ (nle rfl) ⟨nle rfl, nle rfl⟩ dX10_act_344 ?_ (fun _ _ _ z => z.elim)
                              intro r_9 h103 n_9 hq _
                              obtain ⟨e1, s103, hA103, hk103, hr1030, hF1030, e4⟩ := hq
                              rw [e1, e4]
                              show pw E YX10_act _ _ 0 0 347 [some (.ref B), some (.int (zI (p))), some (.int (zI (b))), some (.int (zI (z))), some (.int (zI (nn))), some (.int (zI ((s1.2 36) ((4 * p) + (1)).toNat))), some (.int (zI ((s1.2 23) (p).toNat))), some (.int (zI ((s1.2 24) (p).toNat)))] [] h103 n
                              have hr103 := mPr_tr hr hr1030
                              have hF103 := mFr_tr hF hF1030
                              obtain ⟨kw, kh, kr, kc, ksr, ksc, kt, ko, kwa, kin, kwr, khi, krd, knu, kgi, kas, kfr, kra, kco, kof, kip⟩ := id hk103
                              have e18 := congrFun (hr103.2.1 18 (by decide)) p.toNat
                              have e19 := congrFun (hr103.2.1 19 (by decide)) p.toNat
                              refine pw_goto (tgt := 592) dX10_act_347 rfl ?_
                              exact pw_vret dX10_act_592 rfl (nle rfl) (nle rfl) (kk s103 h103 hA103 hk103 hr103 hF103)
                    ·
                      refine pw_aload_n dX10_act_247 rfl ?_
                      refine pw_iload_n dX10_act_248 rfl ?_
                      refine pw_iload_n dX10_act_249 rfl ?_
                      refine pw_if_ne (tgt := 258) dX10_act_250 rfl (by omega) (fun c250 => ?_) (fun c250 => ?_)
                      ·
                        refine pw_iconst (v := zI (0)) dX10_act_258 (by decide) ?_
                        refine pw_iload_n dX10_act_259 rfl ?_
                        refine pw_if_ne (tgt := 268) dX10_act_260 rfl (by omega) (fun c260 => ?_) (fun c260 => ?_)
                        ·
                          refine pw_iconst (v := zI (0)) dX10_act_268 (by decide) ?_
                          refine pw_iload_n dX10_act_269 rfl ?_
                          refine pw_iconst (v := zI (1)) dX10_act_270 (by decide) ?_
                          refine pw_icmp_ne (tgt := 279) dX10_act_271 rfl (by omega) (by omega) (fun c271 => ?_) (fun c271 => ?_)
                          ·
                            refine pw_aload_n dX10_act_279 rfl ?_
                            refine pw_get (v := .ref (B + 16)) okX10 (k := 19) (by decide) lkX10_56 hA.1 rfl dX10_act_280 ?_
                            refine pw_iload_n dX10_act_283 rfl ?_
                            refine pw_iald (t := 0) rfl (mF19 hA) (by first | omega | exact mCell_b hp ko (by omega) (by omega) | exact mHis_b hp (by omega) (by omega)) (by decide) dX10_act_284 ?_
                            refine pw_iconst (v := zI (1)) dX10_act_285 (by decide) ?_
                            refine pw_zisub dX10_act_286 ?_
                            refine pw_iload_n dX10_act_287 rfl ?_
                            refine pw_iconst (v := zI (1)) dX10_act_288 (by decide) ?_
                            refine pw_icmp_ne (tgt := 297) dX10_act_289 rfl (by omega) (by omega) (fun c289 => ?_) (fun c289 => ?_)
                            ·
                              refine pw_bipush (v := zI (40)) dX10_act_297 (by decide) ?_
                              refine pw_callV (As := [.int (zI (p)), .int (zI (0)), .int (zI (0)), .int (zI (((s1.2 19) (p).toNat) - (1))), .int (zI (40))]) (b := B) (rm := rmD 2 0 0) (mR_erase htr hA hp hk (by omega) (by omega) (by omega) (by omega) (by omega)) rfl hA.1 rfl rfl ywX10_erase rfl cwX10_289 ⟨nle rfl, nle rfl⟩ (nle rfl) ⟨nle rfl, nle rfl⟩ dX10_act_299 ?_ (fun _ _ _ z => z.elim)
                              intro r_9 h104 n_9 hq _
                              obtain ⟨e1, s104, hA104, hk104, hr1040, hF1040, e4⟩ := hq
                              rw [e1, e4]
                              show pw E YX10_act _ _ 0 0 302 [some (.ref B), some (.int (zI (p))), some (.int (zI (b))), some (.int (zI (z))), some (.int (zI (nn))), some (.int (zI ((s1.2 36) ((4 * p) + (1)).toNat))), some (.int (zI ((s1.2 23) (p).toNat))), some (.int (zI ((s1.2 24) (p).toNat)))] [] h104 n
                              have hr104 := mPr_tr hr hr1040
                              have hF104 := mFr_tr hF hF1040
                              obtain ⟨kw, kh, kr, kc, ksr, ksc, kt, ko, kwa, kin, kwr, khi, krd, knu, kgi, kas, kfr, kra, kco, kof, kip⟩ := id hk104
                              have e18 := congrFun (hr104.2.1 18 (by decide)) p.toNat
                              have e19 := congrFun (hr104.2.1 19 (by decide)) p.toNat
                              refine pw_goto (tgt := 592) dX10_act_302 rfl ?_
                              exact pw_vret dX10_act_592 rfl (nle rfl) (nle rfl) (kk s104 h104 hA104 hk104 hr104 hF104)
                            ·
                              refine pw_iload dX10_act_292 rfl ?_
                              refine pw_goto (tgt := 299) dX10_act_294 rfl ?_
                              refine pw_callV (As := [.int (zI (p)), .int (zI (0)), .int (zI (0)), .int (zI (((s1.2 19) (p).toNat) - (1))), .int (zI ((s1.2 24) (p).toNat))]) (b := B) (rm := rmD 2 0 0) (mR_erase htr hA hp hk (by omega) (by omega) (by omega) (by omega) (by omega)) rfl hA.1 rfl rfl ywX10_erase rfl cwX10_289 ⟨nle rfl, nle rfl⟩ (nle rfl) ⟨nle rfl, nle rfl⟩ dX10_act_299 ?_ (fun _ _ _ z => z.elim)
                              intro r_9 h105 n_9 hq _
                              obtain ⟨e1, s105, hA105, hk105, hr1050, hF1050, e4⟩ := hq
                              rw [e1, e4]
                              show pw E YX10_act _ _ 0 0 302 [some (.ref B), some (.int (zI (p))), some (.int (zI (b))), some (.int (zI (z))), some (.int (zI (nn))), some (.int (zI ((s1.2 36) ((4 * p) + (1)).toNat))), some (.int (zI ((s1.2 23) (p).toNat))), some (.int (zI ((s1.2 24) (p).toNat)))] [] h105 n
                              have hr105 := mPr_tr hr hr1050
                              have hF105 := mFr_tr hF hF1050
                              obtain ⟨kw, kh, kr, kc, ksr, ksc, kt, ko, kwa, kin, kwr, khi, krd, knu, kgi, kas, kfr, kra, kco, kof, kip⟩ := id hk105
                              have e18 := congrFun (hr105.2.1 18 (by decide)) p.toNat
                              have e19 := congrFun (hr105.2.1 19 (by decide)) p.toNat
                              refine pw_goto (tgt := 592) dX10_act_302 rfl ?_
                              exact pw_vret dX10_act_592 rfl (nle rfl) (nle rfl) (kk s105 h105 hA105 hk105 hr105 hF105)
                          ·
                            refine pw_iload dX10_act_274 rfl ?_
                            refine pw_goto (tgt := 287) dX10_act_276 rfl ?_
                            refine pw_iload_n dX10_act_287 rfl ?_
                            refine pw_iconst (v := zI (1)) dX10_act_288 (by decide) ?_
                            refine pw_icmp_ne (tgt := 297) dX10_act_289 rfl (by omega) (by omega) (fun c289 => ?_) (fun c289 => ?_)
                            ·
                              refine pw_bipush (v := zI (40)) dX10_act_297 (by decide) ?_
                              refine pw_callV (As := [.int (zI (p)), .int (zI (0)), .int (zI (0)), .int (zI ((s1.2 23) (p).toNat)), .int (zI (40))]) (b := B) (rm := rmD 2 0 0) (mR_erase htr hA hp hk (by omega) (by omega) (by omega) (by omega) (by omega)) rfl hA.1 rfl rfl ywX10_erase rfl cwX10_289 ⟨nle rfl, nle rfl⟩ (nle rfl) ⟨nle rfl, nle rfl⟩ dX10_act_299 ?_ (fun _ _ _ z => z.elim)
                              intro r_9 h106 n_9 hq _
                              obtain ⟨e1, s106, hA106, hk106, hr1060, hF1060, e4⟩ := hq
                              rw [e1, e4]
                              show pw E YX10_act _ _ 0 0 302 [some (.ref B), some (.int (zI (p))), some (.int (zI (b))), some (.int (zI (z))), some (.int (zI (nn))), some (.int (zI ((s1.2 36) ((4 * p) + (1)).toNat))), some (.int (zI ((s1.2 23) (p).toNat))), some (.int (zI ((s1.2 24) (p).toNat)))] [] h106 n
                              have hr106 := mPr_tr hr hr1060
                              have hF106 := mFr_tr hF hF1060
                              obtain ⟨kw, kh, kr, kc, ksr, ksc, kt, ko, kwa, kin, kwr, khi, krd, knu, kgi, kas, kfr, kra, kco, kof, kip⟩ := id hk106
                              have e18 := congrFun (hr106.2.1 18 (by decide)) p.toNat
                              have e19 := congrFun (hr106.2.1 19 (by decide)) p.toNat
                              refine pw_goto (tgt := 592) dX10_act_302 rfl ?_
                              exact pw_vret dX10_act_592 rfl (nle rfl) (nle rfl) (kk s106 h106 hA106 hk106 hr106 hF106)
                            ·
                              refine pw_iload dX10_act_292 rfl ?_
                              refine pw_goto (tgt := 299) dX10_act_294 rfl ?_
                              refine pw_callV (As := [.int (zI (p)), .int (zI (0)), .int (zI (0)), .int (zI ((s1.2 23) (p).toNat)), .int (zI ((s1.2 24) (p).toNat))]) (b := B) (rm := rmD 2 0 0) (mR_erase htr hA hp hk (by omega) (by omega) (by omega) (by omega) (by omega)) rfl hA.1 rfl rfl ywX10_erase rfl cwX10_289 ⟨nle rfl, nle rfl⟩ (nle rfl) ⟨nle rfl, nle rfl⟩ dX10_act_299 ?_ (fun _ _ _ z => z.elim)
                              intro r_9 h107 n_9 hq _
                              obtain ⟨e1, s107, hA107, hk107, hr1070, hF1070, e4⟩ := hq
                              rw [e1, e4]
                              show pw E YX10_act _ _ 0 0 302 [some (.ref B), some (.int (zI (p))), some (.int (zI (b))), some (.int (zI (z))), some (.int (zI (nn))), some (.int (zI ((s1.2 36) ((4 * p) + (1)).toNat))), some (.int (zI ((s1.2 23) (p).toNat))), some (.int (zI ((s1.2 24) (p).toNat)))] [] h107 n
                              have hr107 := mPr_tr hr hr1070
                              have hF107 := mFr_tr hF hF1070
                              obtain ⟨kw, kh, kr, kc, ksr, ksc, kt, ko, kwa, kin, kwr, khi, krd, knu, kgi, kas, kfr, kra, kco, kof, kip⟩ := id hk107
                              have e18 := congrFun (hr107.2.1 18 (by decide)) p.toNat
                              have e19 := congrFun (hr107.2.1 19 (by decide)) p.toNat
                              refine pw_goto (tgt := 592) dX10_act_302 rfl ?_
                              exact pw_vret dX10_act_592 rfl (nle rfl) (nle rfl) (kk s107 h107 hA107 hk107 hr107 hF107)
                        ·
                          refine pw_iload dX10_act_263 rfl ?_
                          refine pw_goto (tgt := 269) dX10_act_265 rfl ?_
                          refine pw_iload_n dX10_act_269 rfl ?_
                          refine pw_iconst (v := zI (1)) dX10_act_270 (by decide) ?_
                          refine pw_icmp_ne (tgt := 279) dX10_act_271 rfl (by omega) (by omega) (fun c271 => ?_) (fun c271 => ?_)
                          ·
                            refine pw_aload_n dX10_act_279 rfl ?_
                            refine pw_get (v := .ref (B + 16)) okX10 (k := 19) (by decide) lkX10_56 hA.1 rfl dX10_act_280 ?_
                            refine pw_iload_n dX10_act_283 rfl ?_
                            refine pw_iald (t := 0) rfl (mF19 hA) (by first | omega | exact mCell_b hp ko (by omega) (by omega) | exact mHis_b hp (by omega) (by omega)) (by decide) dX10_act_284 ?_
                            refine pw_iconst (v := zI (1)) dX10_act_285 (by decide) ?_
                            refine pw_zisub dX10_act_286 ?_
                            refine pw_iload_n dX10_act_287 rfl ?_
                            refine pw_iconst (v := zI (1)) dX10_act_288 (by decide) ?_
                            refine pw_icmp_ne (tgt := 297) dX10_act_289 rfl (by omega) (by omega) (fun c289 => ?_) (fun c289 => ?_)
                            ·
                              refine pw_bipush (v := zI (40)) dX10_act_297 (by decide) ?_
                              refine pw_callV (As := [.int (zI (p)), .int (zI (0)), .int (zI ((s1.2 24) (p).toNat)), .int (zI (((s1.2 19) (p).toNat) - (1))), .int (zI (40))]) (b := B) (rm := rmD 2 0 0) (mR_erase htr hA hp hk (by omega) (by omega) (by omega) (by omega) (by omega)) rfl hA.1 rfl rfl ywX10_erase rfl cwX10_289 ⟨nle rfl, nle rfl⟩ (nle rfl) ⟨nle rfl, nle rfl⟩ dX10_act_299 ?_ (fun _ _ _ z => z.elim)
                              intro r_9 h108 n_9 hq _
                              obtain ⟨e1, s108, hA108, hk108, hr1080, hF1080, e4⟩ := hq
                              rw [e1, e4]
                              show pw E YX10_act _ _ 0 0 302 [some (.ref B), some (.int (zI (p))), some (.int (zI (b))), some (.int (zI (z))), some (.int (zI (nn))), some (.int (zI ((s1.2 36) ((4 * p) + (1)).toNat))), some (.int (zI ((s1.2 23) (p).toNat))), some (.int (zI ((s1.2 24) (p).toNat)))] [] h108 n
                              have hr108 := mPr_tr hr hr1080
                              have hF108 := mFr_tr hF hF1080
                              obtain ⟨kw, kh, kr, kc, ksr, ksc, kt, ko, kwa, kin, kwr, khi, krd, knu, kgi, kas, kfr, kra, kco, kof, kip⟩ := id hk108
                              have e18 := congrFun (hr108.2.1 18 (by decide)) p.toNat
                              have e19 := congrFun (hr108.2.1 19 (by decide)) p.toNat
                              refine pw_goto (tgt := 592) dX10_act_302 rfl ?_
                              exact pw_vret dX10_act_592 rfl (nle rfl) (nle rfl) (kk s108 h108 hA108 hk108 hr108 hF108)
                            ·
                              refine pw_iload dX10_act_292 rfl ?_
                              refine pw_goto (tgt := 299) dX10_act_294 rfl ?_
                              refine pw_callV (As := [.int (zI (p)), .int (zI (0)), .int (zI ((s1.2 24) (p).toNat)), .int (zI (((s1.2 19) (p).toNat) - (1))), .int (zI ((s1.2 24) (p).toNat))]) (b := B) (rm := rmD 2 0 0) (mR_erase htr hA hp hk (by omega) (by omega) (by omega) (by omega) (by omega)) rfl hA.1 rfl rfl ywX10_erase rfl cwX10_289 ⟨nle rfl, nle rfl⟩ (nle rfl) ⟨nle rfl, nle rfl⟩ dX10_act_299 ?_ (fun _ _ _ z => z.elim)
                              intro r_9 h109 n_9 hq _
                              obtain ⟨e1, s109, hA109, hk109, hr1090, hF1090, e4⟩ := hq
                              rw [e1, e4]
                              show pw E YX10_act _ _ 0 0 302 [some (.ref B), some (.int (zI (p))), some (.int (zI (b))), some (.int (zI (z))), some (.int (zI (nn))), some (.int (zI ((s1.2 36) ((4 * p) + (1)).toNat))), some (.int (zI ((s1.2 23) (p).toNat))), some (.int (zI ((s1.2 24) (p).toNat)))] [] h109 n
                              have hr109 := mPr_tr hr hr1090
                              have hF109 := mFr_tr hF hF1090
                              obtain ⟨kw, kh, kr, kc, ksr, ksc, kt, ko, kwa, kin, kwr, khi, krd, knu, kgi, kas, kfr, kra, kco, kof, kip⟩ := id hk109
                              have e18 := congrFun (hr109.2.1 18 (by decide)) p.toNat
                              have e19 := congrFun (hr109.2.1 19 (by decide)) p.toNat
                              refine pw_goto (tgt := 592) dX10_act_302 rfl ?_
                              exact pw_vret dX10_act_592 rfl (nle rfl) (nle rfl) (kk s109 h109 hA109 hk109 hr109 hF109)
                          ·
                            refine pw_iload dX10_act_274 rfl ?_
                            refine pw_goto (tgt := 287) dX10_act_276 rfl ?_
                            refine pw_iload_n dX10_act_287 rfl ?_
                            refine pw_iconst (v := zI (1)) dX10_act_288 (by decide) ?_
                            refine pw_icmp_ne (tgt := 297) dX10_act_289 rfl (by omega) (by omega) (fun c289 => ?_) (fun c289 => ?_)
                            ·
                              refine pw_bipush (v := zI (40)) dX10_act_297 (by decide) ?_
                              refine pw_callV (As := [.int (zI (p)), .int (zI (0)), .int (zI ((s1.2 24) (p).toNat)), .int (zI ((s1.2 23) (p).toNat)), .int (zI (40))]) (b := B) (rm := rmD 2 0 0) (mR_erase htr hA hp hk (by omega) (by omega) (by omega) (by omega) (by omega)) rfl hA.1 rfl rfl ywX10_erase rfl cwX10_289 ⟨nle rfl, nle rfl⟩ (nle rfl) ⟨nle rfl, nle rfl⟩ dX10_act_299 ?_ (fun _ _ _ z => z.elim)
                              intro r_9 h110 n_9 hq _
                              obtain ⟨e1, s110, hA110, hk110, hr1100, hF1100, e4⟩ := hq
                              rw [e1, e4]
                              show pw E YX10_act _ _ 0 0 302 [some (.ref B), some (.int (zI (p))), some (.int (zI (b))), some (.int (zI (z))), some (.int (zI (nn))), some (.int (zI ((s1.2 36) ((4 * p) + (1)).toNat))), some (.int (zI ((s1.2 23) (p).toNat))), some (.int (zI ((s1.2 24) (p).toNat)))] [] h110 n
                              have hr110 := mPr_tr hr hr1100
                              have hF110 := mFr_tr hF hF1100
                              obtain ⟨kw, kh, kr, kc, ksr, ksc, kt, ko, kwa, kin, kwr, khi, krd, knu, kgi, kas, kfr, kra, kco, kof, kip⟩ := id hk110
                              have e18 := congrFun (hr110.2.1 18 (by decide)) p.toNat
                              have e19 := congrFun (hr110.2.1 19 (by decide)) p.toNat
                              refine pw_goto (tgt := 592) dX10_act_302 rfl ?_
                              exact pw_vret dX10_act_592 rfl (nle rfl) (nle rfl) (kk s110 h110 hA110 hk110 hr110 hF110)
                            ·
                              refine pw_iload dX10_act_292 rfl ?_
                              refine pw_goto (tgt := 299) dX10_act_294 rfl ?_
                              refine pw_callV (As := [.int (zI (p)), .int (zI (0)), .int (zI ((s1.2 24) (p).toNat)), .int (zI ((s1.2 23) (p).toNat)), .int (zI ((s1.2 24) (p).toNat))]) (b := B) (rm := rmD 2 0 0) (mR_erase htr hA hp hk (by omega) (by omega) (by omega) (by omega) (by omega)) rfl hA.1 rfl rfl ywX10_erase rfl cwX10_289 ⟨nle rfl, nle rfl⟩ (nle rfl) ⟨nle rfl, nle rfl⟩ dX10_act_299 ?_ (fun _ _ _ z => z.elim)
                              intro r_9 h111 n_9 hq _
                              obtain ⟨e1, s111, hA111, hk111, hr1110, hF1110, e4⟩ := hq
                              rw [e1, e4]
                              show pw E YX10_act _ _ 0 0 302 [some (.ref B), some (.int (zI (p))), some (.int (zI (b))), some (.int (zI (z))), some (.int (zI (nn))), some (.int (zI ((s1.2 36) ((4 * p) + (1)).toNat))), some (.int (zI ((s1.2 23) (p).toNat))), some (.int (zI ((s1.2 24) (p).toNat)))] [] h111 n
                              have hr111 := mPr_tr hr hr1110
                              have hF111 := mFr_tr hF hF1110
                              obtain ⟨kw, kh, kr, kc, ksr, ksc, kt, ko, kwa, kin, kwr, khi, krd, knu, kgi, kas, kfr, kra, kco, kof, kip⟩ := id hk111
                              have e18 := congrFun (hr111.2.1 18 (by decide)) p.toNat
                              have e19 := congrFun (hr111.2.1 19 (by decide)) p.toNat
                              refine pw_goto (tgt := 592) dX10_act_302 rfl ?_
                              exact pw_vret dX10_act_592 rfl (nle rfl) (nle rfl) (kk s111 h111 hA111 hk111 hr111 hF111)
                      ·
                        refine pw_iload dX10_act_253 rfl ?_
                        refine pw_goto (tgt := 259) dX10_act_255 rfl ?_
                        refine pw_iload_n dX10_act_259 rfl ?_
                        refine pw_if_ne (tgt := 268) dX10_act_260 rfl (by omega) (fun c260 => ?_) (fun c260 => ?_)
                        ·
                          refine pw_iconst (v := zI (0)) dX10_act_268 (by decide) ?_
                          refine pw_iload_n dX10_act_269 rfl ?_
                          refine pw_iconst (v := zI (1)) dX10_act_270 (by decide) ?_
                          refine pw_icmp_ne (tgt := 279) dX10_act_271 rfl (by omega) (by omega) (fun c271 => ?_) (fun c271 => ?_)
                          ·
                            refine pw_aload_n dX10_act_279 rfl ?_
                            refine pw_get (v := .ref (B + 16)) okX10 (k := 19) (by decide) lkX10_56 hA.1 rfl dX10_act_280 ?_
                            refine pw_iload_n dX10_act_283 rfl ?_
                            refine pw_iald (t := 0) rfl (mF19 hA) (by first | omega | exact mCell_b hp ko (by omega) (by omega) | exact mHis_b hp (by omega) (by omega)) (by decide) dX10_act_284 ?_
                            refine pw_iconst (v := zI (1)) dX10_act_285 (by decide) ?_
                            refine pw_zisub dX10_act_286 ?_
                            refine pw_iload_n dX10_act_287 rfl ?_
                            refine pw_iconst (v := zI (1)) dX10_act_288 (by decide) ?_
                            refine pw_icmp_ne (tgt := 297) dX10_act_289 rfl (by omega) (by omega) (fun c289 => ?_) (fun c289 => ?_)
                            ·
                              refine pw_bipush (v := zI (40)) dX10_act_297 (by decide) ?_
                              refine pw_callV (As := [.int (zI (p)), .int (zI ((s1.2 23) (p).toNat)), .int (zI (0)), .int (zI (((s1.2 19) (p).toNat) - (1))), .int (zI (40))]) (b := B) (rm := rmD 2 0 0) (mR_erase htr hA hp hk (by omega) (by omega) (by omega) (by omega) (by omega)) rfl hA.1 rfl rfl ywX10_erase rfl cwX10_289 ⟨nle rfl, nle rfl⟩ (nle rfl) ⟨nle rfl, nle rfl⟩ dX10_act_299 ?_ (fun _ _ _ z => z.elim)
                              intro r_9 h112 n_9 hq _
                              obtain ⟨e1, s112, hA112, hk112, hr1120, hF1120, e4⟩ := hq
                              rw [e1, e4]
                              show pw E YX10_act _ _ 0 0 302 [some (.ref B), some (.int (zI (p))), some (.int (zI (b))), some (.int (zI (z))), some (.int (zI (nn))), some (.int (zI ((s1.2 36) ((4 * p) + (1)).toNat))), some (.int (zI ((s1.2 23) (p).toNat))), some (.int (zI ((s1.2 24) (p).toNat)))] [] h112 n
                              have hr112 := mPr_tr hr hr1120
                              have hF112 := mFr_tr hF hF1120
                              obtain ⟨kw, kh, kr, kc, ksr, ksc, kt, ko, kwa, kin, kwr, khi, krd, knu, kgi, kas, kfr, kra, kco, kof, kip⟩ := id hk112
                              have e18 := congrFun (hr112.2.1 18 (by decide)) p.toNat
                              have e19 := congrFun (hr112.2.1 19 (by decide)) p.toNat
                              refine pw_goto (tgt := 592) dX10_act_302 rfl ?_
                              exact pw_vret dX10_act_592 rfl (nle rfl) (nle rfl) (kk s112 h112 hA112 hk112 hr112 hF112)
                            ·
                              refine pw_iload dX10_act_292 rfl ?_
                              refine pw_goto (tgt := 299) dX10_act_294 rfl ?_
                              refine pw_callV (As := [.int (zI (p)), .int (zI ((s1.2 23) (p).toNat)), .int (zI (0)), .int (zI (((s1.2 19) (p).toNat) - (1))), .int (zI ((s1.2 24) (p).toNat))]) (b := B) (rm := rmD 2 0 0) (mR_erase htr hA hp hk (by omega) (by omega) (by omega) (by omega) (by omega)) rfl hA.1 rfl rfl ywX10_erase rfl cwX10_289 ⟨nle rfl, nle rfl⟩ (nle rfl) ⟨nle rfl, nle rfl⟩ dX10_act_299 ?_ (fun _ _ _ z => z.elim)
                              intro r_9 h113 n_9 hq _
                              obtain ⟨e1, s113, hA113, hk113, hr1130, hF1130, e4⟩ := hq
                              rw [e1, e4]
                              show pw E YX10_act _ _ 0 0 302 [some (.ref B), some (.int (zI (p))), some (.int (zI (b))), some (.int (zI (z))), some (.int (zI (nn))), some (.int (zI ((s1.2 36) ((4 * p) + (1)).toNat))), some (.int (zI ((s1.2 23) (p).toNat))), some (.int (zI ((s1.2 24) (p).toNat)))] [] h113 n
                              have hr113 := mPr_tr hr hr1130
                              have hF113 := mFr_tr hF hF1130
                              obtain ⟨kw, kh, kr, kc, ksr, ksc, kt, ko, kwa, kin, kwr, khi, krd, knu, kgi, kas, kfr, kra, kco, kof, kip⟩ := id hk113
                              have e18 := congrFun (hr113.2.1 18 (by decide)) p.toNat
                              have e19 := congrFun (hr113.2.1 19 (by decide)) p.toNat
                              refine pw_goto (tgt := 592) dX10_act_302 rfl ?_
                              exact pw_vret dX10_act_592 rfl (nle rfl) (nle rfl) (kk s113 h113 hA113 hk113 hr113 hF113)
                          ·
                            refine pw_iload dX10_act_274 rfl ?_
                            refine pw_goto (tgt := 287) dX10_act_276 rfl ?_
                            refine pw_iload_n dX10_act_287 rfl ?_
                            refine pw_iconst (v := zI (1)) dX10_act_288 (by decide) ?_
                            refine pw_icmp_ne (tgt := 297) dX10_act_289 rfl (by omega) (by omega) (fun c289 => ?_) (fun c289 => ?_)
                            ·
                              refine pw_bipush (v := zI (40)) dX10_act_297 (by decide) ?_
                              refine pw_callV (As := [.int (zI (p)), .int (zI ((s1.2 23) (p).toNat)), .int (zI (0)), .int (zI ((s1.2 23) (p).toNat)), .int (zI (40))]) (b := B) (rm := rmD 2 0 0) (mR_erase htr hA hp hk (by omega) (by omega) (by omega) (by omega) (by omega)) rfl hA.1 rfl rfl ywX10_erase rfl cwX10_289 ⟨nle rfl, nle rfl⟩ (nle rfl) ⟨nle rfl, nle rfl⟩ dX10_act_299 ?_ (fun _ _ _ z => z.elim)
                              intro r_9 h114 n_9 hq _
                              obtain ⟨e1, s114, hA114, hk114, hr1140, hF1140, e4⟩ := hq
                              rw [e1, e4]
                              show pw E YX10_act _ _ 0 0 302 [some (.ref B), some (.int (zI (p))), some (.int (zI (b))), some (.int (zI (z))), some (.int (zI (nn))), some (.int (zI ((s1.2 36) ((4 * p) + (1)).toNat))), some (.int (zI ((s1.2 23) (p).toNat))), some (.int (zI ((s1.2 24) (p).toNat)))] [] h114 n
                              have hr114 := mPr_tr hr hr1140
                              have hF114 := mFr_tr hF hF1140
                              obtain ⟨kw, kh, kr, kc, ksr, ksc, kt, ko, kwa, kin, kwr, khi, krd, knu, kgi, kas, kfr, kra, kco, kof, kip⟩ := id hk114
                              have e18 := congrFun (hr114.2.1 18 (by decide)) p.toNat
                              have e19 := congrFun (hr114.2.1 19 (by decide)) p.toNat
                              refine pw_goto (tgt := 592) dX10_act_302 rfl ?_
                              exact pw_vret dX10_act_592 rfl (nle rfl) (nle rfl) (kk s114 h114 hA114 hk114 hr114 hF114)
                            ·
                              refine pw_iload dX10_act_292 rfl ?_
                              refine pw_goto (tgt := 299) dX10_act_294 rfl ?_
                              refine pw_callV (As := [.int (zI (p)), .int (zI ((s1.2 23) (p).toNat)), .int (zI (0)), .int (zI ((s1.2 23) (p).toNat)), .int (zI ((s1.2 24) (p).toNat))]) (b := B) (rm := rmD 2 0 0) (mR_erase htr hA hp hk (by omega) (by omega) (by omega) (by omega) (by omega)) rfl hA.1 rfl rfl ywX10_erase rfl cwX10_289 ⟨nle rfl, nle rfl⟩ (nle rfl) ⟨nle rfl, nle rfl⟩ dX10_act_299 ?_ (fun _ _ _ z => z.elim)
                              intro r_9 h115 n_9 hq _
                              obtain ⟨e1, s115, hA115, hk115, hr1150, hF1150, e4⟩ := hq
                              rw [e1, e4]
                              show pw E YX10_act _ _ 0 0 302 [some (.ref B), some (.int (zI (p))), some (.int (zI (b))), some (.int (zI (z))), some (.int (zI (nn))), some (.int (zI ((s1.2 36) ((4 * p) + (1)).toNat))), some (.int (zI ((s1.2 23) (p).toNat))), some (.int (zI ((s1.2 24) (p).toNat)))] [] h115 n
                              have hr115 := mPr_tr hr hr1150
                              have hF115 := mFr_tr hF hF1150
                              obtain ⟨kw, kh, kr, kc, ksr, ksc, kt, ko, kwa, kin, kwr, khi, krd, knu, kgi, kas, kfr, kra, kco, kof, kip⟩ := id hk115
                              have e18 := congrFun (hr115.2.1 18 (by decide)) p.toNat
                              have e19 := congrFun (hr115.2.1 19 (by decide)) p.toNat
                              refine pw_goto (tgt := 592) dX10_act_302 rfl ?_
                              exact pw_vret dX10_act_592 rfl (nle rfl) (nle rfl) (kk s115 h115 hA115 hk115 hr115 hF115)
                        ·
                          refine pw_iload dX10_act_263 rfl ?_
                          refine pw_goto (tgt := 269) dX10_act_265 rfl ?_
                          refine pw_iload_n dX10_act_269 rfl ?_
                          refine pw_iconst (v := zI (1)) dX10_act_270 (by decide) ?_
                          refine pw_icmp_ne (tgt := 279) dX10_act_271 rfl (by omega) (by omega) (fun c271 => ?_) (fun c271 => ?_)
                          ·
                            refine pw_aload_n dX10_act_279 rfl ?_
                            refine pw_get (v := .ref (B + 16)) okX10 (k := 19) (by decide) lkX10_56 hA.1 rfl dX10_act_280 ?_
                            refine pw_iload_n dX10_act_283 rfl ?_
                            refine pw_iald (t := 0) rfl (mF19 hA) (by first | omega | exact mCell_b hp ko (by omega) (by omega) | exact mHis_b hp (by omega) (by omega)) (by decide) dX10_act_284 ?_
                            refine pw_iconst (v := zI (1)) dX10_act_285 (by decide) ?_
                            refine pw_zisub dX10_act_286 ?_
                            refine pw_iload_n dX10_act_287 rfl ?_
                            refine pw_iconst (v := zI (1)) dX10_act_288 (by decide) ?_
                            refine pw_icmp_ne (tgt := 297) dX10_act_289 rfl (by omega) (by omega) (fun c289 => ?_) (fun c289 => ?_)
                            ·
                              refine pw_bipush (v := zI (40)) dX10_act_297 (by decide) ?_
                              refine pw_callV (As := [.int (zI (p)), .int (zI ((s1.2 23) (p).toNat)), .int (zI ((s1.2 24) (p).toNat)), .int (zI (((s1.2 19) (p).toNat) - (1))), .int (zI (40))]) (b := B) (rm := rmD 2 0 0) (mR_erase htr hA hp hk (by omega) (by omega) (by omega) (by omega) (by omega)) rfl hA.1 rfl rfl ywX10_erase rfl cwX10_289 ⟨nle rfl, nle rfl⟩ (nle rfl) ⟨nle rfl, nle rfl⟩ dX10_act_299 ?_ (fun _ _ _ z => z.elim)
                              intro r_9 h116 n_9 hq _
                              obtain ⟨e1, s116, hA116, hk116, hr1160, hF1160, e4⟩ := hq
                              rw [e1, e4]
                              show pw E YX10_act _ _ 0 0 302 [some (.ref B), some (.int (zI (p))), some (.int (zI (b))), some (.int (zI (z))), some (.int (zI (nn))), some (.int (zI ((s1.2 36) ((4 * p) + (1)).toNat))), some (.int (zI ((s1.2 23) (p).toNat))), some (.int (zI ((s1.2 24) (p).toNat)))] [] h116 n
                              have hr116 := mPr_tr hr hr1160
                              have hF116 := mFr_tr hF hF1160
                              obtain ⟨kw, kh, kr, kc, ksr, ksc, kt, ko, kwa, kin, kwr, khi, krd, knu, kgi, kas, kfr, kra, kco, kof, kip⟩ := id hk116
                              have e18 := congrFun (hr116.2.1 18 (by decide)) p.toNat
                              have e19 := congrFun (hr116.2.1 19 (by decide)) p.toNat
                              refine pw_goto (tgt := 592) dX10_act_302 rfl ?_
                              exact pw_vret dX10_act_592 rfl (nle rfl) (nle rfl) (kk s116 h116 hA116 hk116 hr116 hF116)
                            ·
                              refine pw_iload dX10_act_292 rfl ?_
                              refine pw_goto (tgt := 299) dX10_act_294 rfl ?_
                              refine pw_callV (As := [.int (zI (p)), .int (zI ((s1.2 23) (p).toNat)), .int (zI ((s1.2 24) (p).toNat)), .int (zI (((s1.2 19) (p).toNat) - (1))), .int (zI ((s1.2 24) (p).toNat))]) (b := B) (rm := rmD 2 0 0) (mR_erase htr hA hp hk (by omega) (by omega) (by omega) (by omega) (by omega)) rfl hA.1 rfl rfl ywX10_erase rfl cwX10_289 ⟨nle rfl, nle rfl⟩ (nle rfl) ⟨nle rfl, nle rfl⟩ dX10_act_299 ?_ (fun _ _ _ z => z.elim)
                              intro r_9 h117 n_9 hq _
                              obtain ⟨e1, s117, hA117, hk117, hr1170, hF1170, e4⟩ := hq
                              rw [e1, e4]
                              show pw E YX10_act _ _ 0 0 302 [some (.ref B), some (.int (zI (p))), some (.int (zI (b))), some (.int (zI (z))), some (.int (zI (nn))), some (.int (zI ((s1.2 36) ((4 * p) + (1)).toNat))), some (.int (zI ((s1.2 23) (p).toNat))), some (.int (zI ((s1.2 24) (p).toNat)))] [] h117 n
                              have hr117 := mPr_tr hr hr1170
                              have hF117 := mFr_tr hF hF1170
                              obtain ⟨kw, kh, kr, kc, ksr, ksc, kt, ko, kwa, kin, kwr, khi, krd, knu, kgi, kas, kfr, kra, kco, kof, kip⟩ := id hk117
                              have e18 := congrFun (hr117.2.1 18 (by decide)) p.toNat
                              have e19 := congrFun (hr117.2.1 19 (by decide)) p.toNat
                              refine pw_goto (tgt := 592) dX10_act_302 rfl ?_
                              exact pw_vret dX10_act_592 rfl (nle rfl) (nle rfl) (kk s117 h117 hA117 hk117 hr117 hF117)
                          ·
                            refine pw_iload dX10_act_274 rfl ?_
                            refine pw_goto (tgt := 287) dX10_act_276 rfl ?_
                            refine pw_iload_n dX10_act_287 rfl ?_
                            refine pw_iconst (v := zI (1)) dX10_act_288 (by decide) ?_
                            refine pw_icmp_ne (tgt := 297) dX10_act_289 rfl (by omega) (by omega) (fun c289 => ?_) (fun c289 => ?_)
                            ·
                              refine pw_bipush (v := zI (40)) dX10_act_297 (by decide) ?_
                              refine pw_callV (As := [.int (zI (p)), .int (zI ((s1.2 23) (p).toNat)), .int (zI ((s1.2 24) (p).toNat)), .int (zI ((s1.2 23) (p).toNat)), .int (zI (40))]) (b := B) (rm := rmD 2 0 0) (mR_erase htr hA hp hk (by omega) (by omega) (by omega) (by omega) (by omega)) rfl hA.1 rfl rfl ywX10_erase rfl cwX10_289 ⟨nle rfl, nle rfl⟩ (nle rfl) ⟨nle rfl, nle rfl⟩ dX10_act_299 ?_ (fun _ _ _ z => z.elim)
                              intro r_9 h118 n_9 hq _
                              obtain ⟨e1, s118, hA118, hk118, hr1180, hF1180, e4⟩ := hq
                              rw [e1, e4]
                              show pw E YX10_act _ _ 0 0 302 [some (.ref B), some (.int (zI (p))), some (.int (zI (b))), some (.int (zI (z))), some (.int (zI (nn))), some (.int (zI ((s1.2 36) ((4 * p) + (1)).toNat))), some (.int (zI ((s1.2 23) (p).toNat))), some (.int (zI ((s1.2 24) (p).toNat)))] [] h118 n
                              have hr118 := mPr_tr hr hr1180
                              have hF118 := mFr_tr hF hF1180
                              obtain ⟨kw, kh, kr, kc, ksr, ksc, kt, ko, kwa, kin, kwr, khi, krd, knu, kgi, kas, kfr, kra, kco, kof, kip⟩ := id hk118
                              have e18 := congrFun (hr118.2.1 18 (by decide)) p.toNat
                              have e19 := congrFun (hr118.2.1 19 (by decide)) p.toNat
                              refine pw_goto (tgt := 592) dX10_act_302 rfl ?_
                              exact pw_vret dX10_act_592 rfl (nle rfl) (nle rfl) (kk s118 h118 hA118 hk118 hr118 hF118)
                            ·
                              refine pw_iload dX10_act_292 rfl ?_
                              refine pw_goto (tgt := 299) dX10_act_294 rfl ?_
                              refine pw_callV (As := [.int (zI (p)), .int (zI ((s1.2 23) (p).toNat)), .int (zI ((s1.2 24) (p).toNat)), .int (zI ((s1.2 23) (p).toNat)), .int (zI ((s1.2 24) (p).toNat))]) (b := B) (rm := rmD 2 0 0) (mR_erase htr hA hp hk (by omega) (by omega) (by omega) (by omega) (by omega)) rfl hA.1 rfl rfl ywX10_erase rfl cwX10_289 ⟨nle rfl, nle rfl⟩ (nle rfl) ⟨nle rfl, nle rfl⟩ dX10_act_299 ?_ (fun _ _ _ z => z.elim)
                              intro r_9 h119 n_9 hq _
                              obtain ⟨e1, s119, hA119, hk119, hr1190, hF1190, e4⟩ := hq
                              rw [e1, e4]
                              show pw E YX10_act _ _ 0 0 302 [some (.ref B), some (.int (zI (p))), some (.int (zI (b))), some (.int (zI (z))), some (.int (zI (nn))), some (.int (zI ((s1.2 36) ((4 * p) + (1)).toNat))), some (.int (zI ((s1.2 23) (p).toNat))), some (.int (zI ((s1.2 24) (p).toNat)))] [] h119 n
                              have hr119 := mPr_tr hr hr1190
                              have hF119 := mFr_tr hF hF1190
                              obtain ⟨kw, kh, kr, kc, ksr, ksc, kt, ko, kwa, kin, kwr, khi, krd, knu, kgi, kas, kfr, kra, kco, kof, kip⟩ := id hk119
                              have e18 := congrFun (hr119.2.1 18 (by decide)) p.toNat
                              have e19 := congrFun (hr119.2.1 19 (by decide)) p.toNat
                              refine pw_goto (tgt := 592) dX10_act_302 rfl ?_
                              exact pw_vret dX10_act_592 rfl (nle rfl) (nle rfl) (kk s119 h119 hA119 hk119 hr119 hF119)
                ·
                  refine pw_aload_n dX10_act_211 rfl ?_
                  refine pw_iload_n dX10_act_212 rfl ?_
                  refine pw_iload dX10_act_213 rfl ?_
                  refine pw_iconst (v := zI (1)) dX10_act_215 (by decide) ?_
                  refine pw_zisub dX10_act_216 ?_
                  refine pw_iload dX10_act_217 rfl ?_
                  refine pw_if_ne (tgt := 226) dX10_act_219 rfl (by omega) (fun c219 => ?_) (fun c219 => ?_)
                  ·
                    refine pw_iload dX10_act_226 rfl ?_
                    refine pw_iconst (v := zI (1)) dX10_act_228 (by decide) ?_
                    refine pw_zisub dX10_act_229 ?_
                    refine pw_callV (As := [.int (zI (p)), .int (zI (nn - 1)), .int (zI (((s1.2 36) ((4 * p) + (1)).toNat) - (1)))]) (b := B) (rm := rmD 1 0 0) (mR_moveTo htr hA hp hk (by omega) (by omega)) rfl hA.1 rfl rfl ywX10_moveTo rfl cwX10_261 ⟨nle rfl, nle rfl⟩ (nle rfl) ⟨nle rfl, nle rfl⟩ dX10_act_230 ?_ (fun _ _ _ z => z.elim)
                    intro r_9 h120 n_9 hq _
                    obtain ⟨e1, s120, hA120, hk120, hr1200, hF1200, e4⟩ := hq
                    rw [e1, e4]
                    show pw E YX10_act _ _ 0 0 233 [some (.ref B), some (.int (zI (p))), some (.int (zI (b))), some (.int (zI (z))), some (.int (zI (nn))), some (.int (zI ((s1.2 36) ((4 * p) + (1)).toNat))), some (.int (zI ((s1.2 23) (p).toNat))), some (.int (zI ((s1.2 24) (p).toNat)))] [] h120 n
                    have hr120 := mPr_tr hr hr1200
                    have hF120 := mFr_tr hF hF1200
                    obtain ⟨kw, kh, kr, kc, ksr, ksc, kt, ko, kwa, kin, kwr, khi, krd, knu, kgi, kas, kfr, kra, kco, kof, kip⟩ := id hk120
                    have e18 := congrFun (hr120.2.1 18 (by decide)) p.toNat
                    have e19 := congrFun (hr120.2.1 19 (by decide)) p.toNat
                    refine pw_goto (tgt := 592) dX10_act_233 rfl ?_
                    exact pw_vret dX10_act_592 rfl (nle rfl) (nle rfl) (kk s120 h120 hA120 hk120 hr120 hF120)
                  ·
                    refine pw_iconst (v := zI (0)) dX10_act_222 (by decide) ?_
                    refine pw_goto (tgt := 230) dX10_act_223 rfl ?_
                    refine pw_callV (As := [.int (zI (p)), .int (zI (nn - 1)), .int (zI (0))]) (b := B) (rm := rmD 1 0 0) (mR_moveTo htr hA hp hk (by omega) (by omega)) rfl hA.1 rfl rfl ywX10_moveTo rfl cwX10_261 ⟨nle rfl, nle rfl⟩ (nle rfl) ⟨nle rfl, nle rfl⟩ dX10_act_230 ?_ (fun _ _ _ z => z.elim)
                    intro r_9 h121 n_9 hq _
                    obtain ⟨e1, s121, hA121, hk121, hr1210, hF1210, e4⟩ := hq
                    rw [e1, e4]
                    show pw E YX10_act _ _ 0 0 233 [some (.ref B), some (.int (zI (p))), some (.int (zI (b))), some (.int (zI (z))), some (.int (zI (nn))), some (.int (zI ((s1.2 36) ((4 * p) + (1)).toNat))), some (.int (zI ((s1.2 23) (p).toNat))), some (.int (zI ((s1.2 24) (p).toNat)))] [] h121 n
                    have hr121 := mPr_tr hr hr1210
                    have hF121 := mFr_tr hF hF1210
                    obtain ⟨kw, kh, kr, kc, ksr, ksc, kt, ko, kwa, kin, kwr, khi, krd, knu, kgi, kas, kfr, kra, kco, kof, kip⟩ := id hk121
                    have e18 := congrFun (hr121.2.1 18 (by decide)) p.toNat
                    have e19 := congrFun (hr121.2.1 19 (by decide)) p.toNat
                    refine pw_goto (tgt := 592) dX10_act_233 rfl ?_
                    exact pw_vret dX10_act_592 rfl (nle rfl) (nle rfl) (kk s121 h121 hA121 hk121 hr121 hF121)
            ·
              refine pw_aload_n dX10_act_185 rfl ?_
              refine pw_iload_n dX10_act_186 rfl ?_
              refine pw_iload dX10_act_187 rfl ?_
              refine pw_iconst (v := zI (1)) dX10_act_189 (by decide) ?_
              refine pw_zisub dX10_act_190 ?_
              refine pw_iload dX10_act_191 rfl ?_
              refine pw_callV (As := [.int (zI (p)), .int (zI (nn - 1)), .int (zI ((s1.2 24) (p).toNat))]) (b := B) (rm := rmD 1 0 0) (mR_moveTo htr hA hp hk (by omega) (by omega)) rfl hA.1 rfl rfl ywX10_moveTo rfl cwX10_261 ⟨nle rfl, nle rfl⟩ (nle rfl) ⟨nle rfl, nle rfl⟩ dX10_act_193 ?_ (fun _ _ _ z => z.elim)
              intro r_9 h122 n_9 hq _
              obtain ⟨e1, s122, hA122, hk122, hr1220, hF1220, e4⟩ := hq
              rw [e1, e4]
              show pw E YX10_act _ _ 0 0 196 [some (.ref B), some (.int (zI (p))), some (.int (zI (b))), some (.int (zI (z))), some (.int (zI (nn))), some (.int (zI ((s1.2 36) ((4 * p) + (1)).toNat))), some (.int (zI ((s1.2 23) (p).toNat))), some (.int (zI ((s1.2 24) (p).toNat)))] [] h122 n
              have hr122 := mPr_tr hr hr1220
              have hF122 := mFr_tr hF hF1220
              obtain ⟨kw, kh, kr, kc, ksr, ksc, kt, ko, kwa, kin, kwr, khi, krd, knu, kgi, kas, kfr, kra, kco, kof, kip⟩ := id hk122
              have e18 := congrFun (hr122.2.1 18 (by decide)) p.toNat
              have e19 := congrFun (hr122.2.1 19 (by decide)) p.toNat
              refine pw_goto (tgt := 592) dX10_act_196 rfl ?_
              exact pw_vret dX10_act_592 rfl (nle rfl) (nle rfl) (kk s122 h122 hA122 hk122 hr122 hF122)
          ·
            refine pw_aload_n dX10_act_165 rfl ?_
            refine pw_iload_n dX10_act_166 rfl ?_
            refine pw_iload dX10_act_167 rfl ?_
            refine pw_iload dX10_act_169 rfl ?_
            refine pw_iconst (v := zI (1)) dX10_act_171 (by decide) ?_
            refine pw_zisub dX10_act_172 ?_
            refine pw_callV (As := [.int (zI (p)), .int (zI ((s1.2 23) (p).toNat)), .int (zI (nn - 1))]) (b := B) (rm := rmD 1 0 0) (mR_moveTo htr hA hp hk (by omega) (by omega)) rfl hA.1 rfl rfl ywX10_moveTo rfl cwX10_261 ⟨nle rfl, nle rfl⟩ (nle rfl) ⟨nle rfl, nle rfl⟩ dX10_act_173 ?_ (fun _ _ _ z => z.elim)
            intro r_9 h123 n_9 hq _
            obtain ⟨e1, s123, hA123, hk123, hr1230, hF1230, e4⟩ := hq
            rw [e1, e4]
            show pw E YX10_act _ _ 0 0 176 [some (.ref B), some (.int (zI (p))), some (.int (zI (b))), some (.int (zI (z))), some (.int (zI (nn))), some (.int (zI ((s1.2 36) ((4 * p) + (1)).toNat))), some (.int (zI ((s1.2 23) (p).toNat))), some (.int (zI ((s1.2 24) (p).toNat)))] [] h123 n
            have hr123 := mPr_tr hr hr1230
            have hF123 := mFr_tr hF hF1230
            obtain ⟨kw, kh, kr, kc, ksr, ksc, kt, ko, kwa, kin, kwr, khi, krd, knu, kgi, kas, kfr, kra, kco, kof, kip⟩ := id hk123
            have e18 := congrFun (hr123.2.1 18 (by decide)) p.toNat
            have e19 := congrFun (hr123.2.1 19 (by decide)) p.toNat
            refine pw_goto (tgt := 592) dX10_act_176 rfl ?_
            exact pw_vret dX10_act_592 rfl (nle rfl) (nle rfl) (kk s123 h123 hA123 hk123 hr123 hF123)
        ·
          refine pw_aload_n dX10_act_144 rfl ?_
          refine pw_iload_n dX10_act_145 rfl ?_
          refine pw_iload dX10_act_146 rfl ?_
          refine pw_iload dX10_act_148 rfl ?_
          refine pw_iload dX10_act_150 rfl ?_
          refine pw_zisub dX10_act_152 ?_
          refine pw_callV (As := [.int (zI (p)), .int (zI ((s1.2 23) (p).toNat)), .int (zI (((s1.2 24) (p).toNat) - (nn)))]) (b := B) (rm := rmD 1 0 0) (mR_moveTo htr hA hp hk (by omega) (by omega)) rfl hA.1 rfl rfl ywX10_moveTo rfl cwX10_261 ⟨nle rfl, nle rfl⟩ (nle rfl) ⟨nle rfl, nle rfl⟩ dX10_act_153 ?_ (fun _ _ _ z => z.elim)
          intro r_9 h124 n_9 hq _
          obtain ⟨e1, s124, hA124, hk124, hr1240, hF1240, e4⟩ := hq
          rw [e1, e4]
          show pw E YX10_act _ _ 0 0 156 [some (.ref B), some (.int (zI (p))), some (.int (zI (b))), some (.int (zI (z))), some (.int (zI (nn))), some (.int (zI ((s1.2 36) ((4 * p) + (1)).toNat))), some (.int (zI ((s1.2 23) (p).toNat))), some (.int (zI ((s1.2 24) (p).toNat)))] [] h124 n
          have hr124 := mPr_tr hr hr1240
          have hF124 := mFr_tr hF hF1240
          obtain ⟨kw, kh, kr, kc, ksr, ksc, kt, ko, kwa, kin, kwr, khi, krd, knu, kgi, kas, kfr, kra, kco, kof, kip⟩ := id hk124
          have e18 := congrFun (hr124.2.1 18 (by decide)) p.toNat
          have e19 := congrFun (hr124.2.1 19 (by decide)) p.toNat
          refine pw_goto (tgt := 592) dX10_act_156 rfl ?_
          exact pw_vret dX10_act_592 rfl (nle rfl) (nle rfl) (kk s124 h124 hA124 hk124 hr124 hF124)
      ·
        refine pw_aload_n dX10_act_123 rfl ?_
        refine pw_iload_n dX10_act_124 rfl ?_
        refine pw_iload dX10_act_125 rfl ?_
        refine pw_iload dX10_act_127 rfl ?_
        refine pw_iload dX10_act_129 rfl ?_
        refine pw_ziadd dX10_act_131 ?_
        refine pw_callV (As := [.int (zI (p)), .int (zI ((s1.2 23) (p).toNat)), .int (zI (((s1.2 24) (p).toNat) + (nn)))]) (b := B) (rm := rmD 1 0 0) (mR_moveTo htr hA hp hk (by omega) (by omega)) rfl hA.1 rfl rfl ywX10_moveTo rfl cwX10_261 ⟨nle rfl, nle rfl⟩ (nle rfl) ⟨nle rfl, nle rfl⟩ dX10_act_132 ?_ (fun _ _ _ z => z.elim)
        intro r_9 h125 n_9 hq _
        obtain ⟨e1, s125, hA125, hk125, hr1250, hF1250, e4⟩ := hq
        rw [e1, e4]
        show pw E YX10_act _ _ 0 0 135 [some (.ref B), some (.int (zI (p))), some (.int (zI (b))), some (.int (zI (z))), some (.int (zI (nn))), some (.int (zI ((s1.2 36) ((4 * p) + (1)).toNat))), some (.int (zI ((s1.2 23) (p).toNat))), some (.int (zI ((s1.2 24) (p).toNat)))] [] h125 n
        have hr125 := mPr_tr hr hr1250
        have hF125 := mFr_tr hF hF1250
        obtain ⟨kw, kh, kr, kc, ksr, ksc, kt, ko, kwa, kin, kwr, khi, krd, knu, kgi, kas, kfr, kra, kco, kof, kip⟩ := id hk125
        have e18 := congrFun (hr125.2.1 18 (by decide)) p.toNat
        have e19 := congrFun (hr125.2.1 19 (by decide)) p.toNat
        refine pw_goto (tgt := 592) dX10_act_135 rfl ?_
        exact pw_vret dX10_act_592 rfl (nle rfl) (nle rfl) (kk s125 h125 hA125 hk125 hr125 hF125)
    ·
      refine pw_aload_n dX10_act_102 rfl ?_
      refine pw_iload_n dX10_act_103 rfl ?_
      refine pw_iload dX10_act_104 rfl ?_
      refine pw_iload dX10_act_106 rfl ?_
      refine pw_ziadd dX10_act_108 ?_
      refine pw_iload dX10_act_109 rfl ?_
      refine pw_callV (As := [.int (zI (p)), .int (zI (((s1.2 23) (p).toNat) + (nn))), .int (zI ((s1.2 24) (p).toNat))]) (b := B) (rm := rmD 1 0 0) (mR_moveTo htr hA hp hk (by omega) (by omega)) rfl hA.1 rfl rfl ywX10_moveTo rfl cwX10_261 ⟨nle rfl, nle rfl⟩ (nle rfl) ⟨nle rfl, nle rfl⟩ dX10_act_111 ?_ (fun _ _ _ z => z.elim)
      intro r_9 h126 n_9 hq _
      obtain ⟨e1, s126, hA126, hk126, hr1260, hF1260, e4⟩ := hq
      rw [e1, e4]
      show pw E YX10_act _ _ 0 0 114 [some (.ref B), some (.int (zI (p))), some (.int (zI (b))), some (.int (zI (z))), some (.int (zI (nn))), some (.int (zI ((s1.2 36) ((4 * p) + (1)).toNat))), some (.int (zI ((s1.2 23) (p).toNat))), some (.int (zI ((s1.2 24) (p).toNat)))] [] h126 n
      have hr126 := mPr_tr hr hr1260
      have hF126 := mFr_tr hF hF1260
      obtain ⟨kw, kh, kr, kc, ksr, ksc, kt, ko, kwa, kin, kwr, khi, krd, knu, kgi, kas, kfr, kra, kco, kof, kip⟩ := id hk126
      have e18 := congrFun (hr126.2.1 18 (by decide)) p.toNat
      have e19 := congrFun (hr126.2.1 19 (by decide)) p.toNat
      refine pw_goto (tgt := 592) dX10_act_114 rfl ?_
      exact pw_vret dX10_act_592 rfl (nle rfl) (nle rfl) (kk s126 h126 hA126 hk126 hr126 hF126)
  ·
    refine pw_aload_n dX10_act_81 rfl ?_
    refine pw_iload_n dX10_act_82 rfl ?_
    refine pw_iload dX10_act_83 rfl ?_
    refine pw_iload dX10_act_85 rfl ?_
    refine pw_zisub dX10_act_87 ?_
    refine pw_iload dX10_act_88 rfl ?_
    refine pw_callV (As := [.int (zI (p)), .int (zI (((s1.2 23) (p).toNat) - (nn))), .int (zI ((s1.2 24) (p).toNat))]) (b := B) (rm := rmD 1 0 0) (mR_moveTo htr hA hp hk (by omega) (by omega)) rfl hA.1 rfl rfl ywX10_moveTo rfl cwX10_261 ⟨nle rfl, nle rfl⟩ (nle rfl) ⟨nle rfl, nle rfl⟩ dX10_act_90 ?_ (fun _ _ _ z => z.elim)
    intro r_9 h127 n_9 hq _
    obtain ⟨e1, s127, hA127, hk127, hr1270, hF1270, e4⟩ := hq
    rw [e1, e4]
    show pw E YX10_act _ _ 0 0 93 [some (.ref B), some (.int (zI (p))), some (.int (zI (b))), some (.int (zI (z))), some (.int (zI (nn))), some (.int (zI ((s1.2 36) ((4 * p) + (1)).toNat))), some (.int (zI ((s1.2 23) (p).toNat))), some (.int (zI ((s1.2 24) (p).toNat)))] [] h127 n
    have hr127 := mPr_tr hr hr1270
    have hF127 := mFr_tr hF hF1270
    obtain ⟨kw, kh, kr, kc, ksr, ksc, kt, ko, kwa, kin, kwr, khi, krd, knu, kgi, kas, kfr, kra, kco, kof, kip⟩ := id hk127
    have e18 := congrFun (hr127.2.1 18 (by decide)) p.toNat
    have e19 := congrFun (hr127.2.1 19 (by decide)) p.toNat
    refine pw_goto (tgt := 592) dX10_act_93 rfl ?_
    exact pw_vret dX10_act_592 rfl (nle rfl) (nle rfl) (kk s127 h127 hA127 hk127 hr127 hF127)
set_option maxHeartbeats 2000000 in
set_option maxRecDepth 100000 in
theorem lR_act1 {E : pw_E} (htr : E.1.stackTraces = false) {Kk : pw_K} {n : Nat} {B : Nat} {s : mS} {h : pz_H} {p : Int} (hp : 0 ≤ p ∧ p < 8) {b : Int} (h_b : -2147483648 ≤ b ∧ b < 2147483648) (kk : ∀ (s2 : mS) (h2 : pz_H), mAt B s2 h2 → mPk s2 p.toNat → mPr p.toNat s s2 → mFr B h h2 → Kk.2.2.1 none h2 n) (s1 : mS) (h1 : pz_H) (hA : mAt B s1 h1) (hk : mPk s1 p.toNat) (hr : mPr p.toNat s s1) (hF : mFr B h h1) : pw E YX10_act (rmD 5 0 0) Kk 0 0 27 [some (.ref B), some (.int (zI (p))), some (.int (zI (b))), none, none, none, none, none] [] h1 n := by
  have e18 := congrFun (hr.2.1 18 (by decide)) p.toNat
  have e19 := congrFun (hr.2.1 19 (by decide)) p.toNat
  obtain ⟨kw, kh, kr, kc, ksr, ksc, kt, ko, kwa, kin, kwr, khi, krd, knu, kgi, kas, kfr, kra, kco, kof, kip⟩ := id hk
  refine pw_aload_n dX10_act_27 rfl ?_
  refine pw_get (v := .ref (B + 33)) okX10 (k := 36) (by decide) lkX10_107 hA.1 rfl dX10_act_28 ?_
  refine pw_iconst (v := zI (4)) dX10_act_31 (by decide) ?_
  refine pw_iload_n dX10_act_32 rfl ?_
  refine pw_zimul dX10_act_33 ?_
  refine pw_iald (t := 0) rfl (mF36 hA) (by first | omega | exact mCell_b hp ko (by omega) (by omega) | exact mHis_b hp (by omega) (by omega)) (by decide) dX10_act_34 ?_
  have hn35 := mNu (e := 4 * p) hk hp (by omega)
  refine pw_istore_n (lv' := [some (.ref B), some (.int (zI (p))), some (.int (zI (b))), some (.int (zI ((s1.2 36) (4 * p).toNat))), none, none, none, none]) dX10_act_35 (by decide) rfl rfl ?_
  refine pw_iload_n dX10_act_36 rfl ?_
  refine pw_if_ne (tgt := 44) dX10_act_37 rfl (by omega) (fun c37 => ?_) (fun c37 => ?_)
  ·
    refine pw_iload_n dX10_act_44 rfl ?_
    refine pw_istore (lv' := [some (.ref B), some (.int (zI (p))), some (.int (zI (b))), some (.int (zI ((s1.2 36) (4 * p).toNat))), some (.int (zI ((s1.2 36) (4 * p).toNat))), none, none, none]) dX10_act_45 (by decide) rfl rfl ?_
    exact lR_act2 htr hp h_b (by omega) (by omega) kk s1 h1 hA hk hr hF
  ·
    refine pw_iconst (v := zI (1)) dX10_act_40 (by decide) ?_
    refine pw_goto (tgt := 45) dX10_act_41 rfl ?_
    refine pw_istore (lv' := [some (.ref B), some (.int (zI (p))), some (.int (zI (b))), some (.int (zI ((s1.2 36) (4 * p).toNat))), some (.int (zI (1))), none, none, none]) dX10_act_45 (by decide) rfl rfl ?_
    exact lR_act2 htr hp h_b (by omega) (by omega) kk s1 h1 hA hk hr hF
set_option maxHeartbeats 2000000 in
set_option maxRecDepth 100000 in
/-- act(p, b) -/
theorem mR_act {E : pw_E} (htr : E.1.stackTraces = false) {h : pz_H} {n : Nat} {B : Nat} {s : mS} (hA : mAt B s h) {p b : Int} (hp : 0 ≤ p ∧ p < 8) (hk : mPk s p.toNat) (h_b : -2147483648 ≤ b ∧ b < 2147483648) : pw_M E yX10_act YX10_act (rmD 5 0 0) [.ref B, .int (zI (p)), .int (zI (b))] h n (fun r0 h' n' => r0 = none ∧ ∃ s', mAt B s' h' ∧ mPk s' p.toNat ∧ mPr p.toNat s s' ∧ mFr B h h' ∧ n' = n) (fun _ _ _ => False) := by
  obtain ⟨kw, kh, kr, kc, ksr, ksc, kt, ko, kwa, kin, kwr, khi, krd, knu, kgi, kas, kfr, kra, kco, kof, kip⟩ := id hk
  have e18 : s.2 18 p.toNat = s.2 18 p.toNat := rfl
  refine pw_M_of (lv := [some (.ref B), some (.int (zI (p))), some (.int (zI (b))), none, none, none, none, none]) (by decide) rfl rfl htr (nle rfl) rfl (fun L => ?_)
  refine pw_aload_n dX10_act_0 rfl ?_
  refine pw_get (v := .ref (B + 28)) okX10 (k := 31) (by decide) lkX10_92 hA.1 rfl dX10_act_1 ?_
  refine pw_iload_n dX10_act_4 rfl ?_
  refine pw_aload_n dX10_act_5 rfl ?_
  refine pw_get (v := .ref (B + 28)) okX10 (k := 31) (by decide) lkX10_92 hA.1 rfl dX10_act_6 ?_
  refine pw_iload_n dX10_act_9 rfl ?_
  refine pw_zald (t := 1) rfl (mF31 hA) (by first | omega | exact mCell_b hp ko (by omega) (by omega) | exact mHis_b hp (by omega) (by omega)) (by decide) dX10_act_10 ?_
  refine pw_if_eq (tgt := 25) dX10_act_11 rfl (by omega) (fun c11 => ?_) (fun c11 => ?_)
  ·
    refine pw_iconst (v := zI (0)) dX10_act_25 (by decide) ?_
    refine pw_zast (t := 1) rfl (mF31 hA) (by first | omega | exact mCell_b hp ko (by omega) (by omega) | exact mHis_b hp (by omega) (by omega)) (by decide) (by omega) dX10_act_26 ?_
    have hA1 : mAt B (mA 31 (va_up (s.2 31) (p).toNat (0)) s) (va_up h (B + 28) (pz_z 1 8 (va_up (s.2 31) (p).toNat (0)))) := mU31 hA
    have hk1 : mPk (mA 31 (va_up (s.2 31) (p).toNat (0)) s) p.toNat := mP31 hk (by omega)
    have hr1 : mPr p.toNat s (mA 31 (va_up (s.2 31) (p).toNat (0)) s) := mPr_tr mPr_rf (mPr_W (by decide) (by decide) (by decide))
    have hF1 : mFr B h (va_up h (B + 28) (pz_z 1 8 (va_up (s.2 31) (p).toNat (0)))) := mFr_tr mFr_rf (mFr_up (by decide))
    revert hA1 hk1 hr1 hF1 
    generalize (mA 31 (va_up (s.2 31) (p).toNat (0)) s) = s1
    generalize (va_up h (B + 28) (pz_z 1 8 (va_up (s.2 31) (p).toNat (0)))) = h1
    intro hA1 hk1 hr1 hF1 
    obtain ⟨kw, kh, kr, kc, ksr, ksc, kt, ko, kwa, kin, kwr, khi, krd, knu, kgi, kas, kfr, kra, kco, kof, kip⟩ := id hk1
    have e18 := congrFun (hr1.2.1 18 (by decide)) p.toNat
    have e19 := congrFun (hr1.2.1 19 (by decide)) p.toNat
    refine lR_act1 htr hp h_b ?_ s1 h1 hA1 hk1 hr1 hF1
    intro s2 h2 z1 z2 z3 z4
    exact ⟨rfl, s2, z1, z2, z3, z4, rfl⟩
  ·
    refine pw_iload_n dX10_act_14 rfl ?_
    refine pw_callS (As := [.int (zI (b))]) (rm := rmD 0 0 0) (mR_endsWait htr (by omega)) rfl ywX10_endsWait rfl cwX10_286 ⟨nle rfl, nle rfl⟩ (nle rfl) ⟨nle rfl, nle rfl⟩ dX10_act_15 ?_ (fun _ _ _ z => z.elim)
    intro r_9 h_9 n_9 hq _
    obtain ⟨ve, hve, e1, e2, e3⟩ := hq
    rw [e1, e2, e3]
    show pw E YX10_act _ _ 0 0 18 [some (.ref B), some (.int (zI (p))), some (.int (zI (b))), none, none, none, none, none] [.int (zI (ve)), .int (zI (p)), .ref (B + 28)] h n
    refine pw_if_ne (tgt := 25) dX10_act_18 rfl (by omega) (fun c18 => ?_) (fun c18 => ?_)
    ·
      refine pw_iconst (v := zI (0)) dX10_act_25 (by decide) ?_
      refine pw_zast (t := 1) rfl (mF31 hA) (by first | omega | exact mCell_b hp ko (by omega) (by omega) | exact mHis_b hp (by omega) (by omega)) (by decide) (by omega) dX10_act_26 ?_
      have hA2 : mAt B (mA 31 (va_up (s.2 31) (p).toNat (0)) s) (va_up h (B + 28) (pz_z 1 8 (va_up (s.2 31) (p).toNat (0)))) := mU31 hA
      have hk2 : mPk (mA 31 (va_up (s.2 31) (p).toNat (0)) s) p.toNat := mP31 hk (by omega)
      have hr2 : mPr p.toNat s (mA 31 (va_up (s.2 31) (p).toNat (0)) s) := mPr_tr mPr_rf (mPr_W (by decide) (by decide) (by decide))
      have hF2 : mFr B h (va_up h (B + 28) (pz_z 1 8 (va_up (s.2 31) (p).toNat (0)))) := mFr_tr mFr_rf (mFr_up (by decide))
      revert hA2 hk2 hr2 hF2 
      generalize (mA 31 (va_up (s.2 31) (p).toNat (0)) s) = s2
      generalize (va_up h (B + 28) (pz_z 1 8 (va_up (s.2 31) (p).toNat (0)))) = h2
      intro hA2 hk2 hr2 hF2 
      obtain ⟨kw, kh, kr, kc, ksr, ksc, kt, ko, kwa, kin, kwr, khi, krd, knu, kgi, kas, kfr, kra, kco, kof, kip⟩ := id hk2
      have e18 := congrFun (hr2.2.1 18 (by decide)) p.toNat
      have e19 := congrFun (hr2.2.1 19 (by decide)) p.toNat
      refine lR_act1 htr hp h_b ?_ s2 h2 hA2 hk2 hr2 hF2
      intro s2 h2 z1 z2 z3 z4
      exact ⟨rfl, s2, z1, z2, z3, z4, rfl⟩
    ·
      refine pw_iconst (v := zI (1)) dX10_act_21 (by decide) ?_
      refine pw_goto (tgt := 26) dX10_act_22 rfl ?_
      refine pw_zast (t := 1) rfl (mF31 hA) (by first | omega | exact mCell_b hp ko (by omega) (by omega) | exact mHis_b hp (by omega) (by omega)) (by decide) (by omega) dX10_act_26 ?_
      have hA3 : mAt B (mA 31 (va_up (s.2 31) (p).toNat (1)) s) (va_up h (B + 28) (pz_z 1 8 (va_up (s.2 31) (p).toNat (1)))) := mU31 hA
      have hk3 : mPk (mA 31 (va_up (s.2 31) (p).toNat (1)) s) p.toNat := mP31 hk (by omega)
      have hr3 : mPr p.toNat s (mA 31 (va_up (s.2 31) (p).toNat (1)) s) := mPr_tr mPr_rf (mPr_W (by decide) (by decide) (by decide))
      have hF3 : mFr B h (va_up h (B + 28) (pz_z 1 8 (va_up (s.2 31) (p).toNat (1)))) := mFr_tr mFr_rf (mFr_up (by decide))
      revert hA3 hk3 hr3 hF3 
      generalize (mA 31 (va_up (s.2 31) (p).toNat (1)) s) = s3
      generalize (va_up h (B + 28) (pz_z 1 8 (va_up (s.2 31) (p).toNat (1)))) = h3
      intro hA3 hk3 hr3 hF3 
      obtain ⟨kw, kh, kr, kc, ksr, ksc, kt, ko, kwa, kin, kwr, khi, krd, knu, kgi, kas, kfr, kra, kco, kof, kip⟩ := id hk3
      have e18 := congrFun (hr3.2.1 18 (by decide)) p.toNat
      have e19 := congrFun (hr3.2.1 19 (by decide)) p.toNat
      refine lR_act1 htr hp h_b ?_ s3 h3 hA3 hk3 hr3 hF3
      intro s2 h2 z1 z2 z3 z4
      exact ⟨rfl, s2, z1, z2, z3, z4, rfl⟩
set_option maxHeartbeats 2000000 in
set_option maxRecDepth 100000 in
/-- longSequence(p, b) -/
theorem mR_longSequence {E : pw_E} (htr : E.1.stackTraces = false) {h : pz_H} {n : Nat} {B : Nat} {s : mS} (hA : mAt B s h) {p b : Int} (hp : 0 ≤ p ∧ p < 8) (hk : mPk s p.toNat) (h_b : -2147483648 ≤ b ∧ b < 2147483648) : pw_M E yX10_longSequence YX10_longSequence (rmD 6 0 0) [.ref B, .int (zI (p)), .int (zI (b))] h n (fun r0 h' n' => r0 = none ∧ ∃ s', mAt B s' h' ∧ mPk s' p.toNat ∧ mPr p.toNat s s' ∧ mFr B h h' ∧ n' = n) (fun _ _ _ => False) := by
  obtain ⟨kw, kh, kr, kc, ksr, ksc, kt, ko, kwa, kin, kwr, khi, krd, knu, kgi, kas, kfr, kra, kco, kof, kip⟩ := id hk
  have e18 : s.2 18 p.toNat = s.2 18 p.toNat := rfl
  refine pw_M_of (lv := [some (.ref B), some (.int (zI (p))), some (.int (zI (b))), none]) (by decide) rfl rfl htr (nle rfl) rfl (fun L => ?_)
  refine pw_iload_n dX10_longSequence_0 rfl ?_
  refine pw_bipush (v := zI (32)) dX10_longSequence_1 (by decide) ?_
  refine pw_icmp_lt (tgt := 12) dX10_longSequence_3 rfl (by omega) (by omega) (fun c3 => ?_) (fun c3 => ?_)
  ·
    exact pw_vret dX10_longSequence_12 rfl (nle rfl) (nle rfl) ⟨rfl, s, hA, hk, mPr_rf, mFr_rf, rfl⟩
  ·
    refine pw_iload_n dX10_longSequence_6 rfl ?_
    refine pw_bipush (v := zI (126)) dX10_longSequence_7 (by decide) ?_
    refine pw_icmp_le (tgt := 13) dX10_longSequence_9 rfl (by omega) (by omega) (fun c9 => ?_) (fun c9 => ?_)
    ·
      refine pw_iload_n dX10_longSequence_13 rfl ?_
      refine pw_bipush (v := zI (63)) dX10_longSequence_14 (by decide) ?_
      refine pw_icmp_ne (tgt := 38) dX10_longSequence_16 rfl (by omega) (by omega) (fun c16 => ?_) (fun c16 => ?_)
      ·
        refine pw_iload_n dX10_longSequence_38 rfl ?_
        refine pw_bipush (v := zI (48)) dX10_longSequence_39 (by decide) ?_
        refine pw_icmp_lt (tgt := 127) dX10_longSequence_41 rfl (by omega) (by omega) (fun c41 => ?_) (fun c41 => ?_)
        ·
          refine pw_iload_n dX10_longSequence_127 rfl ?_
          refine pw_bipush (v := zI (59)) dX10_longSequence_128 (by decide) ?_
          refine pw_icmp_ne (tgt := 167) dX10_longSequence_130 rfl (by omega) (by omega) (fun c130 => ?_) (fun c130 => ?_)
          ·
            refine pw_iload_n dX10_longSequence_167 rfl ?_
            refine pw_bipush (v := zI (64)) dX10_longSequence_168 (by decide) ?_
            refine pw_icmp_lt (tgt := 204) dX10_longSequence_170 rfl (by omega) (by omega) (fun c170 => ?_) (fun c170 => ?_)
            ·
              refine pw_aload_n dX10_longSequence_204 rfl ?_
              refine pw_get (v := .ref (B + 36)) okX10 (k := 39) (by decide) lkX10_116 hA.1 rfl dX10_longSequence_205 ?_
              refine pw_iload_n dX10_longSequence_208 rfl ?_
              refine pw_iconst (v := zI (0)) dX10_longSequence_209 (by decide) ?_
              refine pw_zast (t := 1) rfl (mF39 hA) (by first | omega | exact mCell_b hp ko (by omega) (by omega) | exact mHis_b hp (by omega) (by omega)) (by decide) (by omega) dX10_longSequence_210 ?_
              have hA1 : mAt B (mA 39 (va_up (s.2 39) (p).toNat (0)) s) (va_up h (B + 36) (pz_z 1 8 (va_up (s.2 39) (p).toNat (0)))) := mU39 hA
              have hk1 : mPk (mA 39 (va_up (s.2 39) (p).toNat (0)) s) p.toNat := mP39 hk (by omega)
              have hr1 : mPr p.toNat s (mA 39 (va_up (s.2 39) (p).toNat (0)) s) := mPr_tr mPr_rf (mPr_W (by decide) (by decide) (by decide))
              have hF1 : mFr B h (va_up h (B + 36) (pz_z 1 8 (va_up (s.2 39) (p).toNat (0)))) := mFr_tr mFr_rf (mFr_up (by decide))
              revert hA1 hk1 hr1 hF1 
              generalize (mA 39 (va_up (s.2 39) (p).toNat (0)) s) = s1
              generalize (va_up h (B + 36) (pz_z 1 8 (va_up (s.2 39) (p).toNat (0)))) = h1
              intro hA1 hk1 hr1 hF1 
              obtain ⟨kw, kh, kr, kc, ksr, ksc, kt, ko, kwa, kin, kwr, khi, krd, knu, kgi, kas, kfr, kra, kco, kof, kip⟩ := id hk1
              have e18 := congrFun (hr1.2.1 18 (by decide)) p.toNat
              have e19 := congrFun (hr1.2.1 19 (by decide)) p.toNat
              exact pw_vret dX10_longSequence_211 rfl (nle rfl) (nle rfl) ⟨rfl, s1, hA1, hk1, hr1, hF1, rfl⟩
            ·
              refine pw_aload_n dX10_longSequence_173 rfl ?_
              refine pw_get (v := .ref (B + 32)) okX10 (k := 35) (by decide) lkX10_104 hA.1 rfl dX10_longSequence_174 ?_
              refine pw_iload_n dX10_longSequence_177 rfl ?_
              refine pw_iconst (v := zI (0)) dX10_longSequence_178 (by decide) ?_
              refine pw_iast (t := 0) rfl (mF35 hA) (by first | omega | exact mCell_b hp ko (by omega) (by omega) | exact mHis_b hp (by omega) (by omega)) (by decide) dX10_longSequence_179 ?_
              have hA2 : mAt B (mA 35 (va_up (s.2 35) (p).toNat (0)) s) (va_up h (B + 32) (pz_z 0 8 (va_up (s.2 35) (p).toNat (0)))) := mU35 hA
              have hk2 : mPk (mA 35 (va_up (s.2 35) (p).toNat (0)) s) p.toNat := mP35 hk (by omega)
              have hr2 : mPr p.toNat s (mA 35 (va_up (s.2 35) (p).toNat (0)) s) := mPr_tr mPr_rf (mPr_W (by decide) (by decide) (by decide))
              have hF2 : mFr B h (va_up h (B + 32) (pz_z 0 8 (va_up (s.2 35) (p).toNat (0)))) := mFr_tr mFr_rf (mFr_up (by decide))
              revert hA2 hk2 hr2 hF2 
              generalize (mA 35 (va_up (s.2 35) (p).toNat (0)) s) = s2
              generalize (va_up h (B + 32) (pz_z 0 8 (va_up (s.2 35) (p).toNat (0)))) = h2
              intro hA2 hk2 hr2 hF2 
              obtain ⟨kw, kh, kr, kc, ksr, ksc, kt, ko, kwa, kin, kwr, khi, krd, knu, kgi, kas, kfr, kra, kco, kof, kip⟩ := id hk2
              have e18 := congrFun (hr2.2.1 18 (by decide)) p.toNat
              have e19 := congrFun (hr2.2.1 19 (by decide)) p.toNat
              refine pw_aload_n dX10_longSequence_180 rfl ?_
              refine pw_get (v := .ref (B + 35)) okX10 (k := 38) (by decide) lkX10_113 hA2.1 rfl dX10_longSequence_181 ?_
              refine pw_iload_n dX10_longSequence_184 rfl ?_
              refine pw_zald (t := 1) rfl (mF38 hA2) (by first | omega | exact mCell_b hp ko (by omega) (by omega) | exact mHis_b hp (by omega) (by omega)) (by decide) dX10_longSequence_185 ?_
              refine pw_if_eq (tgt := 198) dX10_longSequence_186 rfl (by omega) (fun c186 => ?_) (fun c186 => ?_)
              ·
                refine pw_aload_n dX10_longSequence_198 rfl ?_
                refine pw_iload_n dX10_longSequence_199 rfl ?_
                refine pw_iload_n dX10_longSequence_200 rfl ?_
                refine pw_callV (As := [.int (zI (p)), .int (zI (b))]) (b := B) (rm := rmD 5 0 0) (mR_act htr hA2 hp hk2 (by omega)) rfl hA2.1 rfl rfl ywX10_act rfl cwX10_283 ⟨nle rfl, nle rfl⟩ (nle rfl) ⟨nle rfl, nle rfl⟩ dX10_longSequence_201 ?_ (fun _ _ _ z => z.elim)
                intro r_9 h3 n_9 hq _
                obtain ⟨e1, s3, hA3, hk3, hr30, hF30, e4⟩ := hq
                rw [e1, e4]
                show pw E YX10_longSequence _ _ 0 0 204 [some (.ref B), some (.int (zI (p))), some (.int (zI (b))), none] [] h3 n
                have hr3 := mPr_tr hr2 hr30
                have hF3 := mFr_tr hF2 hF30
                obtain ⟨kw, kh, kr, kc, ksr, ksc, kt, ko, kwa, kin, kwr, khi, krd, knu, kgi, kas, kfr, kra, kco, kof, kip⟩ := id hk3
                have e18 := congrFun (hr3.2.1 18 (by decide)) p.toNat
                have e19 := congrFun (hr3.2.1 19 (by decide)) p.toNat
                refine pw_aload_n dX10_longSequence_204 rfl ?_
                refine pw_get (v := .ref (B + 36)) okX10 (k := 39) (by decide) lkX10_116 hA3.1 rfl dX10_longSequence_205 ?_
                refine pw_iload_n dX10_longSequence_208 rfl ?_
                refine pw_iconst (v := zI (0)) dX10_longSequence_209 (by decide) ?_
                refine pw_zast (t := 1) rfl (mF39 hA3) (by first | omega | exact mCell_b hp ko (by omega) (by omega) | exact mHis_b hp (by omega) (by omega)) (by decide) (by omega) dX10_longSequence_210 ?_
                have hA4 : mAt B (mA 39 (va_up (s3.2 39) (p).toNat (0)) s3) (va_up h3 (B + 36) (pz_z 1 8 (va_up (s3.2 39) (p).toNat (0)))) := mU39 hA3
                have hk4 : mPk (mA 39 (va_up (s3.2 39) (p).toNat (0)) s3) p.toNat := mP39 hk3 (by omega)
                have hr4 : mPr p.toNat s (mA 39 (va_up (s3.2 39) (p).toNat (0)) s3) := mPr_tr hr3 (mPr_W (by decide) (by decide) (by decide))
                have hF4 : mFr B h (va_up h3 (B + 36) (pz_z 1 8 (va_up (s3.2 39) (p).toNat (0)))) := mFr_tr hF3 (mFr_up (by decide))
                revert hA4 hk4 hr4 hF4 
                generalize (mA 39 (va_up (s3.2 39) (p).toNat (0)) s3) = s4
                generalize (va_up h3 (B + 36) (pz_z 1 8 (va_up (s3.2 39) (p).toNat (0)))) = h4
                intro hA4 hk4 hr4 hF4 
                obtain ⟨kw, kh, kr, kc, ksr, ksc, kt, ko, kwa, kin, kwr, khi, krd, knu, kgi, kas, kfr, kra, kco, kof, kip⟩ := id hk4
                have e18 := congrFun (hr4.2.1 18 (by decide)) p.toNat
                have e19 := congrFun (hr4.2.1 19 (by decide)) p.toNat
                exact pw_vret dX10_longSequence_211 rfl (nle rfl) (nle rfl) ⟨rfl, s4, hA4, hk4, hr4, hF4, rfl⟩
              ·
                refine pw_aload_n dX10_longSequence_189 rfl ?_
                refine pw_iload_n dX10_longSequence_190 rfl ?_
                refine pw_iload_n dX10_longSequence_191 rfl ?_
                refine pw_callV (As := [.int (zI (p)), .int (zI (b))]) (b := B) (rm := rmD 1 0 0) (mR_question htr hA2 hp hk2 (by omega)) rfl hA2.1 rfl rfl ywX10_question rfl cwX10_280 ⟨nle rfl, nle rfl⟩ (nle rfl) ⟨nle rfl, nle rfl⟩ dX10_longSequence_192 ?_ (fun _ _ _ z => z.elim)
                intro r_9 h5 n_9 hq _
                obtain ⟨e1, s5, hA5, hk5, hr50, hF50, e4⟩ := hq
                rw [e1, e4]
                show pw E YX10_longSequence _ _ 0 0 195 [some (.ref B), some (.int (zI (p))), some (.int (zI (b))), none] [] h5 n
                have hr5 := mPr_tr hr2 hr50
                have hF5 := mFr_tr hF2 hF50
                obtain ⟨kw, kh, kr, kc, ksr, ksc, kt, ko, kwa, kin, kwr, khi, krd, knu, kgi, kas, kfr, kra, kco, kof, kip⟩ := id hk5
                have e18 := congrFun (hr5.2.1 18 (by decide)) p.toNat
                have e19 := congrFun (hr5.2.1 19 (by decide)) p.toNat
                refine pw_goto (tgt := 204) dX10_longSequence_195 rfl ?_
                refine pw_aload_n dX10_longSequence_204 rfl ?_
                refine pw_get (v := .ref (B + 36)) okX10 (k := 39) (by decide) lkX10_116 hA5.1 rfl dX10_longSequence_205 ?_
                refine pw_iload_n dX10_longSequence_208 rfl ?_
                refine pw_iconst (v := zI (0)) dX10_longSequence_209 (by decide) ?_
                refine pw_zast (t := 1) rfl (mF39 hA5) (by first | omega | exact mCell_b hp ko (by omega) (by omega) | exact mHis_b hp (by omega) (by omega)) (by decide) (by omega) dX10_longSequence_210 ?_
                have hA6 : mAt B (mA 39 (va_up (s5.2 39) (p).toNat (0)) s5) (va_up h5 (B + 36) (pz_z 1 8 (va_up (s5.2 39) (p).toNat (0)))) := mU39 hA5
                have hk6 : mPk (mA 39 (va_up (s5.2 39) (p).toNat (0)) s5) p.toNat := mP39 hk5 (by omega)
                have hr6 : mPr p.toNat s (mA 39 (va_up (s5.2 39) (p).toNat (0)) s5) := mPr_tr hr5 (mPr_W (by decide) (by decide) (by decide))
                have hF6 : mFr B h (va_up h5 (B + 36) (pz_z 1 8 (va_up (s5.2 39) (p).toNat (0)))) := mFr_tr hF5 (mFr_up (by decide))
                revert hA6 hk6 hr6 hF6 
                generalize (mA 39 (va_up (s5.2 39) (p).toNat (0)) s5) = s6
                generalize (va_up h5 (B + 36) (pz_z 1 8 (va_up (s5.2 39) (p).toNat (0)))) = h6
                intro hA6 hk6 hr6 hF6 
                obtain ⟨kw, kh, kr, kc, ksr, ksc, kt, ko, kwa, kin, kwr, khi, krd, knu, kgi, kas, kfr, kra, kco, kof, kip⟩ := id hk6
                have e18 := congrFun (hr6.2.1 18 (by decide)) p.toNat
                have e19 := congrFun (hr6.2.1 19 (by decide)) p.toNat
                exact pw_vret dX10_longSequence_211 rfl (nle rfl) (nle rfl) ⟨rfl, s6, hA6, hk6, hr6, hF6, rfl⟩
          ·
            refine pw_aload_n dX10_longSequence_133 rfl ?_
            refine pw_get (v := .ref (B + 34)) okX10 (k := 37) (by decide) lkX10_110 hA.1 rfl dX10_longSequence_134 ?_
            refine pw_iload_n dX10_longSequence_137 rfl ?_
            refine pw_aload_n dX10_longSequence_138 rfl ?_
            refine pw_get (v := .ref (B + 34)) okX10 (k := 37) (by decide) lkX10_110 hA.1 rfl dX10_longSequence_139 ?_
            refine pw_iload_n dX10_longSequence_142 rfl ?_
            refine pw_iald (t := 0) rfl (mF37 hA) (by first | omega | exact mCell_b hp ko (by omega) (by omega) | exact mHis_b hp (by omega) (by omega)) (by decide) dX10_longSequence_143 ?_
            refine pw_if_ne (tgt := 151) dX10_longSequence_144 rfl (by omega) (fun c144 => ?_) (fun c144 => ?_)
            ·
              refine pw_iconst (v := zI (5)) dX10_longSequence_151 (by decide) ?_
              refine pw_aload_n dX10_longSequence_152 rfl ?_
              refine pw_get (v := .ref (B + 34)) okX10 (k := 37) (by decide) lkX10_110 hA.1 rfl dX10_longSequence_153 ?_
              refine pw_iload_n dX10_longSequence_156 rfl ?_
              refine pw_iald (t := 0) rfl (mF37 hA) (by first | omega | exact mCell_b hp ko (by omega) (by omega) | exact mHis_b hp (by omega) (by omega)) (by decide) dX10_longSequence_157 ?_
              refine pw_iconst (v := zI (1)) dX10_longSequence_158 (by decide) ?_
              refine pw_ziadd dX10_longSequence_159 ?_
              refine pw_callS (As := [.int (zI (5)), .int (zI (((s.2 37) (p).toNat) + (1)))]) (rm := rmD 0 0 0) (mR_least htr (by omega) (by omega)) rfl ywX10_least rfl cwX10_192 ⟨nle rfl, nle rfl⟩ (nle rfl) ⟨nle rfl, nle rfl⟩ dX10_longSequence_160 ?_ (fun _ _ _ z => z.elim)
              intro r_9 h_9 n_9 hq _
              rw [hq.1, hq.2.1, hq.2.2]
              show pw E YX10_longSequence _ _ 0 0 163 [some (.ref B), some (.int (zI (p))), some (.int (zI (b))), none] [.int (zI (min (5) (((s.2 37) (p).toNat) + (1)))), .int (zI (p)), .ref (B + 34)] h n
              refine pw_iast (t := 0) rfl (mF37 hA) (by first | omega | exact mCell_b hp ko (by omega) (by omega) | exact mHis_b hp (by omega) (by omega)) (by decide) dX10_longSequence_163 ?_
              have hA7 : mAt B (mA 37 (va_up (s.2 37) (p).toNat (min (5) (((s.2 37) (p).toNat) + (1)))) s) (va_up h (B + 34) (pz_z 0 8 (va_up (s.2 37) (p).toNat (min (5) (((s.2 37) (p).toNat) + (1)))))) := mU37 hA
              have hk7 : mPk (mA 37 (va_up (s.2 37) (p).toNat (min (5) (((s.2 37) (p).toNat) + (1)))) s) p.toNat := mP37 hk (by omega)
              have hr7 : mPr p.toNat s (mA 37 (va_up (s.2 37) (p).toNat (min (5) (((s.2 37) (p).toNat) + (1)))) s) := mPr_tr mPr_rf (mPr_W (by decide) (by decide) (by decide))
              have hF7 : mFr B h (va_up h (B + 34) (pz_z 0 8 (va_up (s.2 37) (p).toNat (min (5) (((s.2 37) (p).toNat) + (1)))))) := mFr_tr mFr_rf (mFr_up (by decide))
              have t37_7 : (mA 37 (va_up (s.2 37) (p).toNat (min (5) (((s.2 37) (p).toNat) + (1)))) s).2 37 p.toNat = min (5) (((s.2 37) (p).toNat) + (1)) := va_up_self _ _ _
              revert hA7 hk7 hr7 hF7 t37_7
              generalize (mA 37 (va_up (s.2 37) (p).toNat (min (5) (((s.2 37) (p).toNat) + (1)))) s) = s7
              generalize (va_up h (B + 34) (pz_z 0 8 (va_up (s.2 37) (p).toNat (min (5) (((s.2 37) (p).toNat) + (1)))))) = h7
              intro hA7 hk7 hr7 hF7 t37_7
              obtain ⟨kw, kh, kr, kc, ksr, ksc, kt, ko, kwa, kin, kwr, khi, krd, knu, kgi, kas, kfr, kra, kco, kof, kip⟩ := id hk7
              have e18 := congrFun (hr7.2.1 18 (by decide)) p.toNat
              have e19 := congrFun (hr7.2.1 19 (by decide)) p.toNat
              refine pw_goto (tgt := 204) dX10_longSequence_164 rfl ?_
              refine pw_aload_n dX10_longSequence_204 rfl ?_
              refine pw_get (v := .ref (B + 36)) okX10 (k := 39) (by decide) lkX10_116 hA7.1 rfl dX10_longSequence_205 ?_
              refine pw_iload_n dX10_longSequence_208 rfl ?_
              refine pw_iconst (v := zI (0)) dX10_longSequence_209 (by decide) ?_
              refine pw_zast (t := 1) rfl (mF39 hA7) (by first | omega | exact mCell_b hp ko (by omega) (by omega) | exact mHis_b hp (by omega) (by omega)) (by decide) (by omega) dX10_longSequence_210 ?_
              have hA8 : mAt B (mA 39 (va_up (s7.2 39) (p).toNat (0)) s7) (va_up h7 (B + 36) (pz_z 1 8 (va_up (s7.2 39) (p).toNat (0)))) := mU39 hA7
              have hk8 : mPk (mA 39 (va_up (s7.2 39) (p).toNat (0)) s7) p.toNat := mP39 hk7 (by omega)
              have hr8 : mPr p.toNat s (mA 39 (va_up (s7.2 39) (p).toNat (0)) s7) := mPr_tr hr7 (mPr_W (by decide) (by decide) (by decide))
              have hF8 : mFr B h (va_up h7 (B + 36) (pz_z 1 8 (va_up (s7.2 39) (p).toNat (0)))) := mFr_tr hF7 (mFr_up (by decide))
              have t37_8 : (mA 39 (va_up (s7.2 39) (p).toNat (0)) s7).2 37 p.toNat = min (5) (((s.2 37) (p).toNat) + (1)) := t37_7
              revert hA8 hk8 hr8 hF8 t37_8
              generalize (mA 39 (va_up (s7.2 39) (p).toNat (0)) s7) = s8
              generalize (va_up h7 (B + 36) (pz_z 1 8 (va_up (s7.2 39) (p).toNat (0)))) = h8
              intro hA8 hk8 hr8 hF8 t37_8
              obtain ⟨kw, kh, kr, kc, ksr, ksc, kt, ko, kwa, kin, kwr, khi, krd, knu, kgi, kas, kfr, kra, kco, kof, kip⟩ := id hk8
              have e18 := congrFun (hr8.2.1 18 (by decide)) p.toNat
              have e19 := congrFun (hr8.2.1 19 (by decide)) p.toNat
              exact pw_vret dX10_longSequence_211 rfl (nle rfl) (nle rfl) ⟨rfl, s8, hA8, hk8, hr8, hF8, rfl⟩
            ·
              refine pw_iconst (v := zI (2)) dX10_longSequence_147 (by decide) ?_
              refine pw_goto (tgt := 163) dX10_longSequence_148 rfl ?_
              refine pw_iast (t := 0) rfl (mF37 hA) (by first | omega | exact mCell_b hp ko (by omega) (by omega) | exact mHis_b hp (by omega) (by omega)) (by decide) dX10_longSequence_163 ?_
              have hA9 : mAt B (mA 37 (va_up (s.2 37) (p).toNat (2)) s) (va_up h (B + 34) (pz_z 0 8 (va_up (s.2 37) (p).toNat (2)))) := mU37 hA
              have hk9 : mPk (mA 37 (va_up (s.2 37) (p).toNat (2)) s) p.toNat := mP37 hk (by omega)
              have hr9 : mPr p.toNat s (mA 37 (va_up (s.2 37) (p).toNat (2)) s) := mPr_tr mPr_rf (mPr_W (by decide) (by decide) (by decide))
              have hF9 : mFr B h (va_up h (B + 34) (pz_z 0 8 (va_up (s.2 37) (p).toNat (2)))) := mFr_tr mFr_rf (mFr_up (by decide))
              have t37_9 : (mA 37 (va_up (s.2 37) (p).toNat (2)) s).2 37 p.toNat = 2 := va_up_self _ _ _
              revert hA9 hk9 hr9 hF9 t37_9
              generalize (mA 37 (va_up (s.2 37) (p).toNat (2)) s) = s9
              generalize (va_up h (B + 34) (pz_z 0 8 (va_up (s.2 37) (p).toNat (2)))) = h9
              intro hA9 hk9 hr9 hF9 t37_9
              obtain ⟨kw, kh, kr, kc, ksr, ksc, kt, ko, kwa, kin, kwr, khi, krd, knu, kgi, kas, kfr, kra, kco, kof, kip⟩ := id hk9
              have e18 := congrFun (hr9.2.1 18 (by decide)) p.toNat
              have e19 := congrFun (hr9.2.1 19 (by decide)) p.toNat
              refine pw_goto (tgt := 204) dX10_longSequence_164 rfl ?_
              refine pw_aload_n dX10_longSequence_204 rfl ?_
              refine pw_get (v := .ref (B + 36)) okX10 (k := 39) (by decide) lkX10_116 hA9.1 rfl dX10_longSequence_205 ?_
              refine pw_iload_n dX10_longSequence_208 rfl ?_
              refine pw_iconst (v := zI (0)) dX10_longSequence_209 (by decide) ?_
              refine pw_zast (t := 1) rfl (mF39 hA9) (by first | omega | exact mCell_b hp ko (by omega) (by omega) | exact mHis_b hp (by omega) (by omega)) (by decide) (by omega) dX10_longSequence_210 ?_
              have hA10 : mAt B (mA 39 (va_up (s9.2 39) (p).toNat (0)) s9) (va_up h9 (B + 36) (pz_z 1 8 (va_up (s9.2 39) (p).toNat (0)))) := mU39 hA9
              have hk10 : mPk (mA 39 (va_up (s9.2 39) (p).toNat (0)) s9) p.toNat := mP39 hk9 (by omega)
              have hr10 : mPr p.toNat s (mA 39 (va_up (s9.2 39) (p).toNat (0)) s9) := mPr_tr hr9 (mPr_W (by decide) (by decide) (by decide))
              have hF10 : mFr B h (va_up h9 (B + 36) (pz_z 1 8 (va_up (s9.2 39) (p).toNat (0)))) := mFr_tr hF9 (mFr_up (by decide))
              have t37_10 : (mA 39 (va_up (s9.2 39) (p).toNat (0)) s9).2 37 p.toNat = 2 := t37_9
              revert hA10 hk10 hr10 hF10 t37_10
              generalize (mA 39 (va_up (s9.2 39) (p).toNat (0)) s9) = s10
              generalize (va_up h9 (B + 36) (pz_z 1 8 (va_up (s9.2 39) (p).toNat (0)))) = h10
              intro hA10 hk10 hr10 hF10 t37_10
              obtain ⟨kw, kh, kr, kc, ksr, ksc, kt, ko, kwa, kin, kwr, khi, krd, knu, kgi, kas, kfr, kra, kco, kof, kip⟩ := id hk10
              have e18 := congrFun (hr10.2.1 18 (by decide)) p.toNat
              have e19 := congrFun (hr10.2.1 19 (by decide)) p.toNat
              exact pw_vret dX10_longSequence_211 rfl (nle rfl) (nle rfl) ⟨rfl, s10, hA10, hk10, hr10, hF10, rfl⟩
        ·
          refine pw_iload_n dX10_longSequence_44 rfl ?_
          refine pw_bipush (v := zI (57)) dX10_longSequence_45 (by decide) ?_
          refine pw_icmp_gt (tgt := 127) dX10_longSequence_47 rfl (by omega) (by omega) (fun c47 => ?_) (fun c47 => ?_)
          ·
            refine pw_iload_n dX10_longSequence_127 rfl ?_
            refine pw_bipush (v := zI (59)) dX10_longSequence_128 (by decide) ?_
            refine pw_icmp_ne (tgt := 167) dX10_longSequence_130 rfl (by omega) (by omega) (fun c130 => ?_) (fun c130 => ?_)
            ·
              refine pw_iload_n dX10_longSequence_167 rfl ?_
              refine pw_bipush (v := zI (64)) dX10_longSequence_168 (by decide) ?_
              refine pw_icmp_lt (tgt := 204) dX10_longSequence_170 rfl (by omega) (by omega) (fun c170 => ?_) (fun c170 => ?_)
              ·
                refine pw_aload_n dX10_longSequence_204 rfl ?_
                refine pw_get (v := .ref (B + 36)) okX10 (k := 39) (by decide) lkX10_116 hA.1 rfl dX10_longSequence_205 ?_
                refine pw_iload_n dX10_longSequence_208 rfl ?_
                refine pw_iconst (v := zI (0)) dX10_longSequence_209 (by decide) ?_
                refine pw_zast (t := 1) rfl (mF39 hA) (by first | omega | exact mCell_b hp ko (by omega) (by omega) | exact mHis_b hp (by omega) (by omega)) (by decide) (by omega) dX10_longSequence_210 ?_
                have hA11 : mAt B (mA 39 (va_up (s.2 39) (p).toNat (0)) s) (va_up h (B + 36) (pz_z 1 8 (va_up (s.2 39) (p).toNat (0)))) := mU39 hA
                have hk11 : mPk (mA 39 (va_up (s.2 39) (p).toNat (0)) s) p.toNat := mP39 hk (by omega)
                have hr11 : mPr p.toNat s (mA 39 (va_up (s.2 39) (p).toNat (0)) s) := mPr_tr mPr_rf (mPr_W (by decide) (by decide) (by decide))
                have hF11 : mFr B h (va_up h (B + 36) (pz_z 1 8 (va_up (s.2 39) (p).toNat (0)))) := mFr_tr mFr_rf (mFr_up (by decide))
                revert hA11 hk11 hr11 hF11 
                generalize (mA 39 (va_up (s.2 39) (p).toNat (0)) s) = s11
                generalize (va_up h (B + 36) (pz_z 1 8 (va_up (s.2 39) (p).toNat (0)))) = h11
                intro hA11 hk11 hr11 hF11 
                obtain ⟨kw, kh, kr, kc, ksr, ksc, kt, ko, kwa, kin, kwr, khi, krd, knu, kgi, kas, kfr, kra, kco, kof, kip⟩ := id hk11
                have e18 := congrFun (hr11.2.1 18 (by decide)) p.toNat
                have e19 := congrFun (hr11.2.1 19 (by decide)) p.toNat
                exact pw_vret dX10_longSequence_211 rfl (nle rfl) (nle rfl) ⟨rfl, s11, hA11, hk11, hr11, hF11, rfl⟩
              ·
                refine pw_aload_n dX10_longSequence_173 rfl ?_
                refine pw_get (v := .ref (B + 32)) okX10 (k := 35) (by decide) lkX10_104 hA.1 rfl dX10_longSequence_174 ?_
                refine pw_iload_n dX10_longSequence_177 rfl ?_
                refine pw_iconst (v := zI (0)) dX10_longSequence_178 (by decide) ?_
                refine pw_iast (t := 0) rfl (mF35 hA) (by first | omega | exact mCell_b hp ko (by omega) (by omega) | exact mHis_b hp (by omega) (by omega)) (by decide) dX10_longSequence_179 ?_
                have hA12 : mAt B (mA 35 (va_up (s.2 35) (p).toNat (0)) s) (va_up h (B + 32) (pz_z 0 8 (va_up (s.2 35) (p).toNat (0)))) := mU35 hA
                have hk12 : mPk (mA 35 (va_up (s.2 35) (p).toNat (0)) s) p.toNat := mP35 hk (by omega)
                have hr12 : mPr p.toNat s (mA 35 (va_up (s.2 35) (p).toNat (0)) s) := mPr_tr mPr_rf (mPr_W (by decide) (by decide) (by decide))
                have hF12 : mFr B h (va_up h (B + 32) (pz_z 0 8 (va_up (s.2 35) (p).toNat (0)))) := mFr_tr mFr_rf (mFr_up (by decide))
                revert hA12 hk12 hr12 hF12 
                generalize (mA 35 (va_up (s.2 35) (p).toNat (0)) s) = s12
                generalize (va_up h (B + 32) (pz_z 0 8 (va_up (s.2 35) (p).toNat (0)))) = h12
                intro hA12 hk12 hr12 hF12 
                obtain ⟨kw, kh, kr, kc, ksr, ksc, kt, ko, kwa, kin, kwr, khi, krd, knu, kgi, kas, kfr, kra, kco, kof, kip⟩ := id hk12
                have e18 := congrFun (hr12.2.1 18 (by decide)) p.toNat
                have e19 := congrFun (hr12.2.1 19 (by decide)) p.toNat
                refine pw_aload_n dX10_longSequence_180 rfl ?_
                refine pw_get (v := .ref (B + 35)) okX10 (k := 38) (by decide) lkX10_113 hA12.1 rfl dX10_longSequence_181 ?_
                refine pw_iload_n dX10_longSequence_184 rfl ?_
                refine pw_zald (t := 1) rfl (mF38 hA12) (by first | omega | exact mCell_b hp ko (by omega) (by omega) | exact mHis_b hp (by omega) (by omega)) (by decide) dX10_longSequence_185 ?_
                refine pw_if_eq (tgt := 198) dX10_longSequence_186 rfl (by omega) (fun c186 => ?_) (fun c186 => ?_)
                ·
                  refine pw_aload_n dX10_longSequence_198 rfl ?_
                  refine pw_iload_n dX10_longSequence_199 rfl ?_
                  refine pw_iload_n dX10_longSequence_200 rfl ?_
                  refine pw_callV (As := [.int (zI (p)), .int (zI (b))]) (b := B) (rm := rmD 5 0 0) (mR_act htr hA12 hp hk12 (by omega)) rfl hA12.1 rfl rfl ywX10_act rfl cwX10_283 ⟨nle rfl, nle rfl⟩ (nle rfl) ⟨nle rfl, nle rfl⟩ dX10_longSequence_201 ?_ (fun _ _ _ z => z.elim)
                  intro r_9 h13 n_9 hq _
                  obtain ⟨e1, s13, hA13, hk13, hr130, hF130, e4⟩ := hq
                  rw [e1, e4]
                  show pw E YX10_longSequence _ _ 0 0 204 [some (.ref B), some (.int (zI (p))), some (.int (zI (b))), none] [] h13 n
                  have hr13 := mPr_tr hr12 hr130
                  have hF13 := mFr_tr hF12 hF130
                  obtain ⟨kw, kh, kr, kc, ksr, ksc, kt, ko, kwa, kin, kwr, khi, krd, knu, kgi, kas, kfr, kra, kco, kof, kip⟩ := id hk13
                  have e18 := congrFun (hr13.2.1 18 (by decide)) p.toNat
                  have e19 := congrFun (hr13.2.1 19 (by decide)) p.toNat
                  refine pw_aload_n dX10_longSequence_204 rfl ?_
                  refine pw_get (v := .ref (B + 36)) okX10 (k := 39) (by decide) lkX10_116 hA13.1 rfl dX10_longSequence_205 ?_
                  refine pw_iload_n dX10_longSequence_208 rfl ?_
                  refine pw_iconst (v := zI (0)) dX10_longSequence_209 (by decide) ?_
                  refine pw_zast (t := 1) rfl (mF39 hA13) (by first | omega | exact mCell_b hp ko (by omega) (by omega) | exact mHis_b hp (by omega) (by omega)) (by decide) (by omega) dX10_longSequence_210 ?_
                  have hA14 : mAt B (mA 39 (va_up (s13.2 39) (p).toNat (0)) s13) (va_up h13 (B + 36) (pz_z 1 8 (va_up (s13.2 39) (p).toNat (0)))) := mU39 hA13
                  have hk14 : mPk (mA 39 (va_up (s13.2 39) (p).toNat (0)) s13) p.toNat := mP39 hk13 (by omega)
                  have hr14 : mPr p.toNat s (mA 39 (va_up (s13.2 39) (p).toNat (0)) s13) := mPr_tr hr13 (mPr_W (by decide) (by decide) (by decide))
                  have hF14 : mFr B h (va_up h13 (B + 36) (pz_z 1 8 (va_up (s13.2 39) (p).toNat (0)))) := mFr_tr hF13 (mFr_up (by decide))
                  revert hA14 hk14 hr14 hF14 
                  generalize (mA 39 (va_up (s13.2 39) (p).toNat (0)) s13) = s14
                  generalize (va_up h13 (B + 36) (pz_z 1 8 (va_up (s13.2 39) (p).toNat (0)))) = h14
                  intro hA14 hk14 hr14 hF14 
                  obtain ⟨kw, kh, kr, kc, ksr, ksc, kt, ko, kwa, kin, kwr, khi, krd, knu, kgi, kas, kfr, kra, kco, kof, kip⟩ := id hk14
                  have e18 := congrFun (hr14.2.1 18 (by decide)) p.toNat
                  have e19 := congrFun (hr14.2.1 19 (by decide)) p.toNat
                  exact pw_vret dX10_longSequence_211 rfl (nle rfl) (nle rfl) ⟨rfl, s14, hA14, hk14, hr14, hF14, rfl⟩
                ·
                  refine pw_aload_n dX10_longSequence_189 rfl ?_
                  refine pw_iload_n dX10_longSequence_190 rfl ?_
                  refine pw_iload_n dX10_longSequence_191 rfl ?_
                  refine pw_callV (As := [.int (zI (p)), .int (zI (b))]) (b := B) (rm := rmD 1 0 0) (mR_question htr hA12 hp hk12 (by omega)) rfl hA12.1 rfl rfl ywX10_question rfl cwX10_280 ⟨nle rfl, nle rfl⟩ (nle rfl) ⟨nle rfl, nle rfl⟩ dX10_longSequence_192 ?_ (fun _ _ _ z => z.elim)
                  intro r_9 h15 n_9 hq _
                  obtain ⟨e1, s15, hA15, hk15, hr150, hF150, e4⟩ := hq
                  rw [e1, e4]
                  show pw E YX10_longSequence _ _ 0 0 195 [some (.ref B), some (.int (zI (p))), some (.int (zI (b))), none] [] h15 n
                  have hr15 := mPr_tr hr12 hr150
                  have hF15 := mFr_tr hF12 hF150
                  obtain ⟨kw, kh, kr, kc, ksr, ksc, kt, ko, kwa, kin, kwr, khi, krd, knu, kgi, kas, kfr, kra, kco, kof, kip⟩ := id hk15
                  have e18 := congrFun (hr15.2.1 18 (by decide)) p.toNat
                  have e19 := congrFun (hr15.2.1 19 (by decide)) p.toNat
                  refine pw_goto (tgt := 204) dX10_longSequence_195 rfl ?_
                  refine pw_aload_n dX10_longSequence_204 rfl ?_
                  refine pw_get (v := .ref (B + 36)) okX10 (k := 39) (by decide) lkX10_116 hA15.1 rfl dX10_longSequence_205 ?_
                  refine pw_iload_n dX10_longSequence_208 rfl ?_
                  refine pw_iconst (v := zI (0)) dX10_longSequence_209 (by decide) ?_
                  refine pw_zast (t := 1) rfl (mF39 hA15) (by first | omega | exact mCell_b hp ko (by omega) (by omega) | exact mHis_b hp (by omega) (by omega)) (by decide) (by omega) dX10_longSequence_210 ?_
                  have hA16 : mAt B (mA 39 (va_up (s15.2 39) (p).toNat (0)) s15) (va_up h15 (B + 36) (pz_z 1 8 (va_up (s15.2 39) (p).toNat (0)))) := mU39 hA15
                  have hk16 : mPk (mA 39 (va_up (s15.2 39) (p).toNat (0)) s15) p.toNat := mP39 hk15 (by omega)
                  have hr16 : mPr p.toNat s (mA 39 (va_up (s15.2 39) (p).toNat (0)) s15) := mPr_tr hr15 (mPr_W (by decide) (by decide) (by decide))
                  have hF16 : mFr B h (va_up h15 (B + 36) (pz_z 1 8 (va_up (s15.2 39) (p).toNat (0)))) := mFr_tr hF15 (mFr_up (by decide))
                  revert hA16 hk16 hr16 hF16 
                  generalize (mA 39 (va_up (s15.2 39) (p).toNat (0)) s15) = s16
                  generalize (va_up h15 (B + 36) (pz_z 1 8 (va_up (s15.2 39) (p).toNat (0)))) = h16
                  intro hA16 hk16 hr16 hF16 
                  obtain ⟨kw, kh, kr, kc, ksr, ksc, kt, ko, kwa, kin, kwr, khi, krd, knu, kgi, kas, kfr, kra, kco, kof, kip⟩ := id hk16
                  have e18 := congrFun (hr16.2.1 18 (by decide)) p.toNat
                  have e19 := congrFun (hr16.2.1 19 (by decide)) p.toNat
                  exact pw_vret dX10_longSequence_211 rfl (nle rfl) (nle rfl) ⟨rfl, s16, hA16, hk16, hr16, hF16, rfl⟩
            ·
              refine pw_aload_n dX10_longSequence_133 rfl ?_
              refine pw_get (v := .ref (B + 34)) okX10 (k := 37) (by decide) lkX10_110 hA.1 rfl dX10_longSequence_134 ?_
              refine pw_iload_n dX10_longSequence_137 rfl ?_
              refine pw_aload_n dX10_longSequence_138 rfl ?_
              refine pw_get (v := .ref (B + 34)) okX10 (k := 37) (by decide) lkX10_110 hA.1 rfl dX10_longSequence_139 ?_
              refine pw_iload_n dX10_longSequence_142 rfl ?_
              refine pw_iald (t := 0) rfl (mF37 hA) (by first | omega | exact mCell_b hp ko (by omega) (by omega) | exact mHis_b hp (by omega) (by omega)) (by decide) dX10_longSequence_143 ?_
              refine pw_if_ne (tgt := 151) dX10_longSequence_144 rfl (by omega) (fun c144 => ?_) (fun c144 => ?_)
              ·
                refine pw_iconst (v := zI (5)) dX10_longSequence_151 (by decide) ?_
                refine pw_aload_n dX10_longSequence_152 rfl ?_
                refine pw_get (v := .ref (B + 34)) okX10 (k := 37) (by decide) lkX10_110 hA.1 rfl dX10_longSequence_153 ?_
                refine pw_iload_n dX10_longSequence_156 rfl ?_
                refine pw_iald (t := 0) rfl (mF37 hA) (by first | omega | exact mCell_b hp ko (by omega) (by omega) | exact mHis_b hp (by omega) (by omega)) (by decide) dX10_longSequence_157 ?_
                refine pw_iconst (v := zI (1)) dX10_longSequence_158 (by decide) ?_
                refine pw_ziadd dX10_longSequence_159 ?_
                refine pw_callS (As := [.int (zI (5)), .int (zI (((s.2 37) (p).toNat) + (1)))]) (rm := rmD 0 0 0) (mR_least htr (by omega) (by omega)) rfl ywX10_least rfl cwX10_192 ⟨nle rfl, nle rfl⟩ (nle rfl) ⟨nle rfl, nle rfl⟩ dX10_longSequence_160 ?_ (fun _ _ _ z => z.elim)
                intro r_9 h_9 n_9 hq _
                rw [hq.1, hq.2.1, hq.2.2]
                show pw E YX10_longSequence _ _ 0 0 163 [some (.ref B), some (.int (zI (p))), some (.int (zI (b))), none] [.int (zI (min (5) (((s.2 37) (p).toNat) + (1)))), .int (zI (p)), .ref (B + 34)] h n
                refine pw_iast (t := 0) rfl (mF37 hA) (by first | omega | exact mCell_b hp ko (by omega) (by omega) | exact mHis_b hp (by omega) (by omega)) (by decide) dX10_longSequence_163 ?_
                have hA17 : mAt B (mA 37 (va_up (s.2 37) (p).toNat (min (5) (((s.2 37) (p).toNat) + (1)))) s) (va_up h (B + 34) (pz_z 0 8 (va_up (s.2 37) (p).toNat (min (5) (((s.2 37) (p).toNat) + (1)))))) := mU37 hA
                have hk17 : mPk (mA 37 (va_up (s.2 37) (p).toNat (min (5) (((s.2 37) (p).toNat) + (1)))) s) p.toNat := mP37 hk (by omega)
                have hr17 : mPr p.toNat s (mA 37 (va_up (s.2 37) (p).toNat (min (5) (((s.2 37) (p).toNat) + (1)))) s) := mPr_tr mPr_rf (mPr_W (by decide) (by decide) (by decide))
                have hF17 : mFr B h (va_up h (B + 34) (pz_z 0 8 (va_up (s.2 37) (p).toNat (min (5) (((s.2 37) (p).toNat) + (1)))))) := mFr_tr mFr_rf (mFr_up (by decide))
                have t37_17 : (mA 37 (va_up (s.2 37) (p).toNat (min (5) (((s.2 37) (p).toNat) + (1)))) s).2 37 p.toNat = min (5) (((s.2 37) (p).toNat) + (1)) := va_up_self _ _ _
                revert hA17 hk17 hr17 hF17 t37_17
                generalize (mA 37 (va_up (s.2 37) (p).toNat (min (5) (((s.2 37) (p).toNat) + (1)))) s) = s17
                generalize (va_up h (B + 34) (pz_z 0 8 (va_up (s.2 37) (p).toNat (min (5) (((s.2 37) (p).toNat) + (1)))))) = h17
                intro hA17 hk17 hr17 hF17 t37_17
                obtain ⟨kw, kh, kr, kc, ksr, ksc, kt, ko, kwa, kin, kwr, khi, krd, knu, kgi, kas, kfr, kra, kco, kof, kip⟩ := id hk17
                have e18 := congrFun (hr17.2.1 18 (by decide)) p.toNat
                have e19 := congrFun (hr17.2.1 19 (by decide)) p.toNat
                refine pw_goto (tgt := 204) dX10_longSequence_164 rfl ?_
                refine pw_aload_n dX10_longSequence_204 rfl ?_
                refine pw_get (v := .ref (B + 36)) okX10 (k := 39) (by decide) lkX10_116 hA17.1 rfl dX10_longSequence_205 ?_
                refine pw_iload_n dX10_longSequence_208 rfl ?_
                refine pw_iconst (v := zI (0)) dX10_longSequence_209 (by decide) ?_
                refine pw_zast (t := 1) rfl (mF39 hA17) (by first | omega | exact mCell_b hp ko (by omega) (by omega) | exact mHis_b hp (by omega) (by omega)) (by decide) (by omega) dX10_longSequence_210 ?_
                have hA18 : mAt B (mA 39 (va_up (s17.2 39) (p).toNat (0)) s17) (va_up h17 (B + 36) (pz_z 1 8 (va_up (s17.2 39) (p).toNat (0)))) := mU39 hA17
                have hk18 : mPk (mA 39 (va_up (s17.2 39) (p).toNat (0)) s17) p.toNat := mP39 hk17 (by omega)
                have hr18 : mPr p.toNat s (mA 39 (va_up (s17.2 39) (p).toNat (0)) s17) := mPr_tr hr17 (mPr_W (by decide) (by decide) (by decide))
                have hF18 : mFr B h (va_up h17 (B + 36) (pz_z 1 8 (va_up (s17.2 39) (p).toNat (0)))) := mFr_tr hF17 (mFr_up (by decide))
                have t37_18 : (mA 39 (va_up (s17.2 39) (p).toNat (0)) s17).2 37 p.toNat = min (5) (((s.2 37) (p).toNat) + (1)) := t37_17
                revert hA18 hk18 hr18 hF18 t37_18
                generalize (mA 39 (va_up (s17.2 39) (p).toNat (0)) s17) = s18
                generalize (va_up h17 (B + 36) (pz_z 1 8 (va_up (s17.2 39) (p).toNat (0)))) = h18
                intro hA18 hk18 hr18 hF18 t37_18
                obtain ⟨kw, kh, kr, kc, ksr, ksc, kt, ko, kwa, kin, kwr, khi, krd, knu, kgi, kas, kfr, kra, kco, kof, kip⟩ := id hk18
                have e18 := congrFun (hr18.2.1 18 (by decide)) p.toNat
                have e19 := congrFun (hr18.2.1 19 (by decide)) p.toNat
                exact pw_vret dX10_longSequence_211 rfl (nle rfl) (nle rfl) ⟨rfl, s18, hA18, hk18, hr18, hF18, rfl⟩
              ·
                refine pw_iconst (v := zI (2)) dX10_longSequence_147 (by decide) ?_
                refine pw_goto (tgt := 163) dX10_longSequence_148 rfl ?_
                refine pw_iast (t := 0) rfl (mF37 hA) (by first | omega | exact mCell_b hp ko (by omega) (by omega) | exact mHis_b hp (by omega) (by omega)) (by decide) dX10_longSequence_163 ?_
                have hA19 : mAt B (mA 37 (va_up (s.2 37) (p).toNat (2)) s) (va_up h (B + 34) (pz_z 0 8 (va_up (s.2 37) (p).toNat (2)))) := mU37 hA
                have hk19 : mPk (mA 37 (va_up (s.2 37) (p).toNat (2)) s) p.toNat := mP37 hk (by omega)
                have hr19 : mPr p.toNat s (mA 37 (va_up (s.2 37) (p).toNat (2)) s) := mPr_tr mPr_rf (mPr_W (by decide) (by decide) (by decide))
                have hF19 : mFr B h (va_up h (B + 34) (pz_z 0 8 (va_up (s.2 37) (p).toNat (2)))) := mFr_tr mFr_rf (mFr_up (by decide))
                have t37_19 : (mA 37 (va_up (s.2 37) (p).toNat (2)) s).2 37 p.toNat = 2 := va_up_self _ _ _
                revert hA19 hk19 hr19 hF19 t37_19
                generalize (mA 37 (va_up (s.2 37) (p).toNat (2)) s) = s19
                generalize (va_up h (B + 34) (pz_z 0 8 (va_up (s.2 37) (p).toNat (2)))) = h19
                intro hA19 hk19 hr19 hF19 t37_19
                obtain ⟨kw, kh, kr, kc, ksr, ksc, kt, ko, kwa, kin, kwr, khi, krd, knu, kgi, kas, kfr, kra, kco, kof, kip⟩ := id hk19
                have e18 := congrFun (hr19.2.1 18 (by decide)) p.toNat
                have e19 := congrFun (hr19.2.1 19 (by decide)) p.toNat
                refine pw_goto (tgt := 204) dX10_longSequence_164 rfl ?_
                refine pw_aload_n dX10_longSequence_204 rfl ?_
                refine pw_get (v := .ref (B + 36)) okX10 (k := 39) (by decide) lkX10_116 hA19.1 rfl dX10_longSequence_205 ?_
                refine pw_iload_n dX10_longSequence_208 rfl ?_
                refine pw_iconst (v := zI (0)) dX10_longSequence_209 (by decide) ?_
                refine pw_zast (t := 1) rfl (mF39 hA19) (by first | omega | exact mCell_b hp ko (by omega) (by omega) | exact mHis_b hp (by omega) (by omega)) (by decide) (by omega) dX10_longSequence_210 ?_
                have hA20 : mAt B (mA 39 (va_up (s19.2 39) (p).toNat (0)) s19) (va_up h19 (B + 36) (pz_z 1 8 (va_up (s19.2 39) (p).toNat (0)))) := mU39 hA19
                have hk20 : mPk (mA 39 (va_up (s19.2 39) (p).toNat (0)) s19) p.toNat := mP39 hk19 (by omega)
                have hr20 : mPr p.toNat s (mA 39 (va_up (s19.2 39) (p).toNat (0)) s19) := mPr_tr hr19 (mPr_W (by decide) (by decide) (by decide))
                have hF20 : mFr B h (va_up h19 (B + 36) (pz_z 1 8 (va_up (s19.2 39) (p).toNat (0)))) := mFr_tr hF19 (mFr_up (by decide))
                have t37_20 : (mA 39 (va_up (s19.2 39) (p).toNat (0)) s19).2 37 p.toNat = 2 := t37_19
                revert hA20 hk20 hr20 hF20 t37_20
                generalize (mA 39 (va_up (s19.2 39) (p).toNat (0)) s19) = s20
                generalize (va_up h19 (B + 36) (pz_z 1 8 (va_up (s19.2 39) (p).toNat (0)))) = h20
                intro hA20 hk20 hr20 hF20 t37_20
                obtain ⟨kw, kh, kr, kc, ksr, ksc, kt, ko, kwa, kin, kwr, khi, krd, knu, kgi, kas, kfr, kra, kco, kof, kip⟩ := id hk20
                have e18 := congrFun (hr20.2.1 18 (by decide)) p.toNat
                have e19 := congrFun (hr20.2.1 19 (by decide)) p.toNat
                exact pw_vret dX10_longSequence_211 rfl (nle rfl) (nle rfl) ⟨rfl, s20, hA20, hk20, hr20, hF20, rfl⟩
          ·
            refine pw_aload_n dX10_longSequence_50 rfl ?_
            refine pw_get (v := .ref (B + 34)) okX10 (k := 37) (by decide) lkX10_110 hA.1 rfl dX10_longSequence_51 ?_
            refine pw_iload_n dX10_longSequence_54 rfl ?_
            refine pw_aload_n dX10_longSequence_55 rfl ?_
            refine pw_get (v := .ref (B + 34)) okX10 (k := 37) (by decide) lkX10_110 hA.1 rfl dX10_longSequence_56 ?_
            refine pw_iload_n dX10_longSequence_59 rfl ?_
            refine pw_iald (t := 0) rfl (mF37 hA) (by first | omega | exact mCell_b hp ko (by omega) (by omega) | exact mHis_b hp (by omega) (by omega)) (by decide) dX10_longSequence_60 ?_
            refine pw_if_ne (tgt := 68) dX10_longSequence_61 rfl (by omega) (fun c61 => ?_) (fun c61 => ?_)
            ·
              refine pw_aload_n dX10_longSequence_68 rfl ?_
              refine pw_get (v := .ref (B + 34)) okX10 (k := 37) (by decide) lkX10_110 hA.1 rfl dX10_longSequence_69 ?_
              refine pw_iload_n dX10_longSequence_72 rfl ?_
              refine pw_iald (t := 0) rfl (mF37 hA) (by first | omega | exact mCell_b hp ko (by omega) (by omega) | exact mHis_b hp (by omega) (by omega)) (by decide) dX10_longSequence_73 ?_
              refine pw_iast (t := 0) rfl (mF37 hA) (by first | omega | exact mCell_b hp ko (by omega) (by omega) | exact mHis_b hp (by omega) (by omega)) (by decide) dX10_longSequence_74 ?_
              have hA21 : mAt B (mA 37 (va_up (s.2 37) (p).toNat ((s.2 37) (p).toNat)) s) (va_up h (B + 34) (pz_z 0 8 (va_up (s.2 37) (p).toNat ((s.2 37) (p).toNat)))) := mU37 hA
              have hk21 : mPk (mA 37 (va_up (s.2 37) (p).toNat ((s.2 37) (p).toNat)) s) p.toNat := mP37 hk (by omega)
              have hr21 : mPr p.toNat s (mA 37 (va_up (s.2 37) (p).toNat ((s.2 37) (p).toNat)) s) := mPr_tr mPr_rf (mPr_W (by decide) (by decide) (by decide))
              have hF21 : mFr B h (va_up h (B + 34) (pz_z 0 8 (va_up (s.2 37) (p).toNat ((s.2 37) (p).toNat)))) := mFr_tr mFr_rf (mFr_up (by decide))
              have t37_21 : (mA 37 (va_up (s.2 37) (p).toNat ((s.2 37) (p).toNat)) s).2 37 p.toNat = (s.2 37) (p).toNat := va_up_self _ _ _
              revert hA21 hk21 hr21 hF21 t37_21
              generalize (mA 37 (va_up (s.2 37) (p).toNat ((s.2 37) (p).toNat)) s) = s21
              generalize (va_up h (B + 34) (pz_z 0 8 (va_up (s.2 37) (p).toNat ((s.2 37) (p).toNat)))) = h21
              intro hA21 hk21 hr21 hF21 t37_21
              obtain ⟨kw, kh, kr, kc, ksr, ksc, kt, ko, kwa, kin, kwr, khi, krd, knu, kgi, kas, kfr, kra, kco, kof, kip⟩ := id hk21
              have e18 := congrFun (hr21.2.1 18 (by decide)) p.toNat
              have e19 := congrFun (hr21.2.1 19 (by decide)) p.toNat
              refine pw_iconst (v := zI (4)) dX10_longSequence_75 (by decide) ?_
              refine pw_iload_n dX10_longSequence_76 rfl ?_
              refine pw_zimul dX10_longSequence_77 ?_
              refine pw_aload_n dX10_longSequence_78 rfl ?_
              refine pw_get (v := .ref (B + 34)) okX10 (k := 37) (by decide) lkX10_110 hA21.1 rfl dX10_longSequence_79 ?_
              refine pw_iload_n dX10_longSequence_82 rfl ?_
              refine pw_iald (t := 0) rfl (mF37 hA21) (by first | omega | exact mCell_b hp ko (by omega) (by omega) | exact mHis_b hp (by omega) (by omega)) (by decide) dX10_longSequence_83 ?_
              refine pw_ziadd dX10_longSequence_84 ?_
              refine pw_iconst (v := zI (1)) dX10_longSequence_85 (by decide) ?_
              refine pw_zisub dX10_longSequence_86 ?_
              refine pw_istore_n (lv' := [some (.ref B), some (.int (zI (p))), some (.int (zI (b))), some (.int (zI (((4 * p) + ((s21.2 37) (p).toNat)) - (1))))]) dX10_longSequence_87 (by decide) rfl rfl ?_
              refine pw_aload_n dX10_longSequence_88 rfl ?_
              refine pw_get (v := .ref (B + 34)) okX10 (k := 37) (by decide) lkX10_110 hA21.1 rfl dX10_longSequence_89 ?_
              refine pw_iload_n dX10_longSequence_92 rfl ?_
              refine pw_iald (t := 0) rfl (mF37 hA21) (by first | omega | exact mCell_b hp ko (by omega) (by omega) | exact mHis_b hp (by omega) (by omega)) (by decide) dX10_longSequence_93 ?_
              refine pw_iconst (v := zI (4)) dX10_longSequence_94 (by decide) ?_
              refine pw_icmp_gt (tgt := 124) dX10_longSequence_95 rfl (by omega) (by omega) (fun c95 => ?_) (fun c95 => ?_)
              ·
                refine pw_goto (tgt := 204) dX10_longSequence_124 rfl ?_
                refine pw_aload_n dX10_longSequence_204 rfl ?_
                refine pw_get (v := .ref (B + 36)) okX10 (k := 39) (by decide) lkX10_116 hA21.1 rfl dX10_longSequence_205 ?_
                refine pw_iload_n dX10_longSequence_208 rfl ?_
                refine pw_iconst (v := zI (0)) dX10_longSequence_209 (by decide) ?_
                refine pw_zast (t := 1) rfl (mF39 hA21) (by first | omega | exact mCell_b hp ko (by omega) (by omega) | exact mHis_b hp (by omega) (by omega)) (by decide) (by omega) dX10_longSequence_210 ?_
                have hA22 : mAt B (mA 39 (va_up (s21.2 39) (p).toNat (0)) s21) (va_up h21 (B + 36) (pz_z 1 8 (va_up (s21.2 39) (p).toNat (0)))) := mU39 hA21
                have hk22 : mPk (mA 39 (va_up (s21.2 39) (p).toNat (0)) s21) p.toNat := mP39 hk21 (by omega)
                have hr22 : mPr p.toNat s (mA 39 (va_up (s21.2 39) (p).toNat (0)) s21) := mPr_tr hr21 (mPr_W (by decide) (by decide) (by decide))
                have hF22 : mFr B h (va_up h21 (B + 36) (pz_z 1 8 (va_up (s21.2 39) (p).toNat (0)))) := mFr_tr hF21 (mFr_up (by decide))
                have t37_22 : (mA 39 (va_up (s21.2 39) (p).toNat (0)) s21).2 37 p.toNat = (s.2 37) (p).toNat := t37_21
                revert hA22 hk22 hr22 hF22 t37_22
                generalize (mA 39 (va_up (s21.2 39) (p).toNat (0)) s21) = s22
                generalize (va_up h21 (B + 36) (pz_z 1 8 (va_up (s21.2 39) (p).toNat (0)))) = h22
                intro hA22 hk22 hr22 hF22 t37_22
                obtain ⟨kw, kh, kr, kc, ksr, ksc, kt, ko, kwa, kin, kwr, khi, krd, knu, kgi, kas, kfr, kra, kco, kof, kip⟩ := id hk22
                have e18 := congrFun (hr22.2.1 18 (by decide)) p.toNat
                have e19 := congrFun (hr22.2.1 19 (by decide)) p.toNat
                exact pw_vret dX10_longSequence_211 rfl (nle rfl) (nle rfl) ⟨rfl, s22, hA22, hk22, hr22, hF22, rfl⟩
              ·
                refine pw_aload_n dX10_longSequence_98 rfl ?_
                refine pw_get (v := .ref (B + 33)) okX10 (k := 36) (by decide) lkX10_107 hA21.1 rfl dX10_longSequence_99 ?_
                refine pw_iload_n dX10_longSequence_102 rfl ?_
                refine pw_sipush (v := zI (999)) dX10_longSequence_103 (by decide) ?_
                refine pw_bipush (v := zI (10)) dX10_longSequence_106 (by decide) ?_
                refine pw_aload_n dX10_longSequence_108 rfl ?_
                refine pw_get (v := .ref (B + 33)) okX10 (k := 36) (by decide) lkX10_107 hA21.1 rfl dX10_longSequence_109 ?_
                refine pw_iload_n dX10_longSequence_112 rfl ?_
                refine pw_iald (t := 0) rfl (mF36 hA21) (by first | omega | exact mCell_b hp ko (by omega) (by omega) | exact mHis_b hp (by omega) (by omega)) (by decide) dX10_longSequence_113 ?_
                have hn114 := mNu (e := ((4 * p) + ((s21.2 37) (p).toNat)) - (1)) hk21 hp (by omega)
                refine pw_zimul dX10_longSequence_114 ?_
                refine pw_iload_n dX10_longSequence_115 rfl ?_
                refine pw_ziadd dX10_longSequence_116 ?_
                refine pw_bipush (v := zI (48)) dX10_longSequence_117 (by decide) ?_
                refine pw_zisub dX10_longSequence_119 ?_
                refine pw_callS (As := [.int (zI (999)), .int (zI ((((10) * ((s21.2 36) (((4 * p) + ((s21.2 37) (p).toNat)) - (1)).toNat)) + (b)) - (48)))]) (rm := rmD 0 0 0) (mR_least htr (by omega) (by omega)) rfl ywX10_least rfl cwX10_192 ⟨nle rfl, nle rfl⟩ (nle rfl) ⟨nle rfl, nle rfl⟩ dX10_longSequence_120 ?_ (fun _ _ _ z => z.elim)
                intro r_9 h_9 n_9 hq _
                rw [hq.1, hq.2.1, hq.2.2]
                show pw E YX10_longSequence _ _ 0 0 123 [some (.ref B), some (.int (zI (p))), some (.int (zI (b))), some (.int (zI (((4 * p) + ((s21.2 37) (p).toNat)) - (1))))] [.int (zI (min (999) ((((10) * ((s21.2 36) (((4 * p) + ((s21.2 37) (p).toNat)) - (1)).toNat)) + (b)) - (48)))), .int (zI (((4 * p) + ((s21.2 37) (p).toNat)) - (1))), .ref (B + 33)] h21 n
                refine pw_iast (t := 0) rfl (mF36 hA21) (by first | omega | exact mCell_b hp ko (by omega) (by omega) | exact mHis_b hp (by omega) (by omega)) (by decide) dX10_longSequence_123 ?_
                have hA23 : mAt B (mA 36 (va_up (s21.2 36) (((4 * p) + ((s21.2 37) (p).toNat)) - (1)).toNat (min (999) ((((10) * ((s21.2 36) (((4 * p) + ((s21.2 37) (p).toNat)) - (1)).toNat)) + (b)) - (48)))) s21) (va_up h21 (B + 33) (pz_z 0 32 (va_up (s21.2 36) (((4 * p) + ((s21.2 37) (p).toNat)) - (1)).toNat (min (999) ((((10) * ((s21.2 36) (((4 * p) + ((s21.2 37) (p).toNat)) - (1)).toNat)) + (b)) - (48)))))) := mU36 hA21
                have hk23 : mPk (mA 36 (va_up (s21.2 36) (((4 * p) + ((s21.2 37) (p).toNat)) - (1)).toNat (min (999) ((((10) * ((s21.2 36) (((4 * p) + ((s21.2 37) (p).toNat)) - (1)).toNat)) + (b)) - (48)))) s21) p.toNat := mP36 hk21 (by omega) (by omega)
                have hr23 : mPr p.toNat s (mA 36 (va_up (s21.2 36) (((4 * p) + ((s21.2 37) (p).toNat)) - (1)).toNat (min (999) ((((10) * ((s21.2 36) (((4 * p) + ((s21.2 37) (p).toNat)) - (1)).toNat)) + (b)) - (48)))) s21) := mPr_tr hr21 (mPr_N (by omega))
                have hF23 : mFr B h (va_up h21 (B + 33) (pz_z 0 32 (va_up (s21.2 36) (((4 * p) + ((s21.2 37) (p).toNat)) - (1)).toNat (min (999) ((((10) * ((s21.2 36) (((4 * p) + ((s21.2 37) (p).toNat)) - (1)).toNat)) + (b)) - (48)))))) := mFr_tr hF21 (mFr_up (by decide))
                have t37_23 : (mA 36 (va_up (s21.2 36) (((4 * p) + ((s21.2 37) (p).toNat)) - (1)).toNat (min (999) ((((10) * ((s21.2 36) (((4 * p) + ((s21.2 37) (p).toNat)) - (1)).toNat)) + (b)) - (48)))) s21).2 37 p.toNat = (s.2 37) (p).toNat := t37_21
                revert hA23 hk23 hr23 hF23 t37_23
                generalize (mA 36 (va_up (s21.2 36) (((4 * p) + ((s21.2 37) (p).toNat)) - (1)).toNat (min (999) ((((10) * ((s21.2 36) (((4 * p) + ((s21.2 37) (p).toNat)) - (1)).toNat)) + (b)) - (48)))) s21) = s23
                generalize (va_up h21 (B + 33) (pz_z 0 32 (va_up (s21.2 36) (((4 * p) + ((s21.2 37) (p).toNat)) - (1)).toNat (min (999) ((((10) * ((s21.2 36) (((4 * p) + ((s21.2 37) (p).toNat)) - (1)).toNat)) + (b)) - (48)))))) = h23
                intro hA23 hk23 hr23 hF23 t37_23
                obtain ⟨kw, kh, kr, kc, ksr, ksc, kt, ko, kwa, kin, kwr, khi, krd, knu, kgi, kas, kfr, kra, kco, kof, kip⟩ := id hk23
                have e18 := congrFun (hr23.2.1 18 (by decide)) p.toNat
                have e19 := congrFun (hr23.2.1 19 (by decide)) p.toNat
                refine pw_goto (tgt := 204) dX10_longSequence_124 rfl ?_
                refine pw_aload_n dX10_longSequence_204 rfl ?_
                refine pw_get (v := .ref (B + 36)) okX10 (k := 39) (by decide) lkX10_116 hA23.1 rfl dX10_longSequence_205 ?_
                refine pw_iload_n dX10_longSequence_208 rfl ?_
                refine pw_iconst (v := zI (0)) dX10_longSequence_209 (by decide) ?_
                refine pw_zast (t := 1) rfl (mF39 hA23) (by first | omega | exact mCell_b hp ko (by omega) (by omega) | exact mHis_b hp (by omega) (by omega)) (by decide) (by omega) dX10_longSequence_210 ?_
                have hA24 : mAt B (mA 39 (va_up (s23.2 39) (p).toNat (0)) s23) (va_up h23 (B + 36) (pz_z 1 8 (va_up (s23.2 39) (p).toNat (0)))) := mU39 hA23
                have hk24 : mPk (mA 39 (va_up (s23.2 39) (p).toNat (0)) s23) p.toNat := mP39 hk23 (by omega)
                have hr24 : mPr p.toNat s (mA 39 (va_up (s23.2 39) (p).toNat (0)) s23) := mPr_tr hr23 (mPr_W (by decide) (by decide) (by decide))
                have hF24 : mFr B h (va_up h23 (B + 36) (pz_z 1 8 (va_up (s23.2 39) (p).toNat (0)))) := mFr_tr hF23 (mFr_up (by decide))
                have t37_24 : (mA 39 (va_up (s23.2 39) (p).toNat (0)) s23).2 37 p.toNat = (s.2 37) (p).toNat := t37_23
                revert hA24 hk24 hr24 hF24 t37_24
                generalize (mA 39 (va_up (s23.2 39) (p).toNat (0)) s23) = s24
                generalize (va_up h23 (B + 36) (pz_z 1 8 (va_up (s23.2 39) (p).toNat (0)))) = h24
                intro hA24 hk24 hr24 hF24 t37_24
                obtain ⟨kw, kh, kr, kc, ksr, ksc, kt, ko, kwa, kin, kwr, khi, krd, knu, kgi, kas, kfr, kra, kco, kof, kip⟩ := id hk24
                have e18 := congrFun (hr24.2.1 18 (by decide)) p.toNat
                have e19 := congrFun (hr24.2.1 19 (by decide)) p.toNat
                exact pw_vret dX10_longSequence_211 rfl (nle rfl) (nle rfl) ⟨rfl, s24, hA24, hk24, hr24, hF24, rfl⟩
            ·
              refine pw_iconst (v := zI (1)) dX10_longSequence_64 (by decide) ?_
              refine pw_goto (tgt := 74) dX10_longSequence_65 rfl ?_
              refine pw_iast (t := 0) rfl (mF37 hA) (by first | omega | exact mCell_b hp ko (by omega) (by omega) | exact mHis_b hp (by omega) (by omega)) (by decide) dX10_longSequence_74 ?_
              have hA25 : mAt B (mA 37 (va_up (s.2 37) (p).toNat (1)) s) (va_up h (B + 34) (pz_z 0 8 (va_up (s.2 37) (p).toNat (1)))) := mU37 hA
              have hk25 : mPk (mA 37 (va_up (s.2 37) (p).toNat (1)) s) p.toNat := mP37 hk (by omega)
              have hr25 : mPr p.toNat s (mA 37 (va_up (s.2 37) (p).toNat (1)) s) := mPr_tr mPr_rf (mPr_W (by decide) (by decide) (by decide))
              have hF25 : mFr B h (va_up h (B + 34) (pz_z 0 8 (va_up (s.2 37) (p).toNat (1)))) := mFr_tr mFr_rf (mFr_up (by decide))
              have t37_25 : (mA 37 (va_up (s.2 37) (p).toNat (1)) s).2 37 p.toNat = 1 := va_up_self _ _ _
              revert hA25 hk25 hr25 hF25 t37_25
              generalize (mA 37 (va_up (s.2 37) (p).toNat (1)) s) = s25
              generalize (va_up h (B + 34) (pz_z 0 8 (va_up (s.2 37) (p).toNat (1)))) = h25
              intro hA25 hk25 hr25 hF25 t37_25
              obtain ⟨kw, kh, kr, kc, ksr, ksc, kt, ko, kwa, kin, kwr, khi, krd, knu, kgi, kas, kfr, kra, kco, kof, kip⟩ := id hk25
              have e18 := congrFun (hr25.2.1 18 (by decide)) p.toNat
              have e19 := congrFun (hr25.2.1 19 (by decide)) p.toNat
              refine pw_iconst (v := zI (4)) dX10_longSequence_75 (by decide) ?_
              refine pw_iload_n dX10_longSequence_76 rfl ?_
              refine pw_zimul dX10_longSequence_77 ?_
              refine pw_aload_n dX10_longSequence_78 rfl ?_
              refine pw_get (v := .ref (B + 34)) okX10 (k := 37) (by decide) lkX10_110 hA25.1 rfl dX10_longSequence_79 ?_
              refine pw_iload_n dX10_longSequence_82 rfl ?_
              refine pw_iald (t := 0) rfl (mF37 hA25) (by first | omega | exact mCell_b hp ko (by omega) (by omega) | exact mHis_b hp (by omega) (by omega)) (by decide) dX10_longSequence_83 ?_
              refine pw_ziadd dX10_longSequence_84 ?_
              refine pw_iconst (v := zI (1)) dX10_longSequence_85 (by decide) ?_
              refine pw_zisub dX10_longSequence_86 ?_
              refine pw_istore_n (lv' := [some (.ref B), some (.int (zI (p))), some (.int (zI (b))), some (.int (zI (((4 * p) + ((s25.2 37) (p).toNat)) - (1))))]) dX10_longSequence_87 (by decide) rfl rfl ?_
              refine pw_aload_n dX10_longSequence_88 rfl ?_
              refine pw_get (v := .ref (B + 34)) okX10 (k := 37) (by decide) lkX10_110 hA25.1 rfl dX10_longSequence_89 ?_
              refine pw_iload_n dX10_longSequence_92 rfl ?_
              refine pw_iald (t := 0) rfl (mF37 hA25) (by first | omega | exact mCell_b hp ko (by omega) (by omega) | exact mHis_b hp (by omega) (by omega)) (by decide) dX10_longSequence_93 ?_
              refine pw_iconst (v := zI (4)) dX10_longSequence_94 (by decide) ?_
              refine pw_icmp_gt (tgt := 124) dX10_longSequence_95 rfl (by omega) (by omega) (fun c95 => ?_) (fun c95 => ?_)
              ·
                refine pw_goto (tgt := 204) dX10_longSequence_124 rfl ?_
                refine pw_aload_n dX10_longSequence_204 rfl ?_
                refine pw_get (v := .ref (B + 36)) okX10 (k := 39) (by decide) lkX10_116 hA25.1 rfl dX10_longSequence_205 ?_
                refine pw_iload_n dX10_longSequence_208 rfl ?_
                refine pw_iconst (v := zI (0)) dX10_longSequence_209 (by decide) ?_
                refine pw_zast (t := 1) rfl (mF39 hA25) (by first | omega | exact mCell_b hp ko (by omega) (by omega) | exact mHis_b hp (by omega) (by omega)) (by decide) (by omega) dX10_longSequence_210 ?_
                have hA26 : mAt B (mA 39 (va_up (s25.2 39) (p).toNat (0)) s25) (va_up h25 (B + 36) (pz_z 1 8 (va_up (s25.2 39) (p).toNat (0)))) := mU39 hA25
                have hk26 : mPk (mA 39 (va_up (s25.2 39) (p).toNat (0)) s25) p.toNat := mP39 hk25 (by omega)
                have hr26 : mPr p.toNat s (mA 39 (va_up (s25.2 39) (p).toNat (0)) s25) := mPr_tr hr25 (mPr_W (by decide) (by decide) (by decide))
                have hF26 : mFr B h (va_up h25 (B + 36) (pz_z 1 8 (va_up (s25.2 39) (p).toNat (0)))) := mFr_tr hF25 (mFr_up (by decide))
                have t37_26 : (mA 39 (va_up (s25.2 39) (p).toNat (0)) s25).2 37 p.toNat = 1 := t37_25
                revert hA26 hk26 hr26 hF26 t37_26
                generalize (mA 39 (va_up (s25.2 39) (p).toNat (0)) s25) = s26
                generalize (va_up h25 (B + 36) (pz_z 1 8 (va_up (s25.2 39) (p).toNat (0)))) = h26
                intro hA26 hk26 hr26 hF26 t37_26
                obtain ⟨kw, kh, kr, kc, ksr, ksc, kt, ko, kwa, kin, kwr, khi, krd, knu, kgi, kas, kfr, kra, kco, kof, kip⟩ := id hk26
                have e18 := congrFun (hr26.2.1 18 (by decide)) p.toNat
                have e19 := congrFun (hr26.2.1 19 (by decide)) p.toNat
                exact pw_vret dX10_longSequence_211 rfl (nle rfl) (nle rfl) ⟨rfl, s26, hA26, hk26, hr26, hF26, rfl⟩
              ·
                refine pw_aload_n dX10_longSequence_98 rfl ?_
                refine pw_get (v := .ref (B + 33)) okX10 (k := 36) (by decide) lkX10_107 hA25.1 rfl dX10_longSequence_99 ?_
                refine pw_iload_n dX10_longSequence_102 rfl ?_
                refine pw_sipush (v := zI (999)) dX10_longSequence_103 (by decide) ?_
                refine pw_bipush (v := zI (10)) dX10_longSequence_106 (by decide) ?_
                refine pw_aload_n dX10_longSequence_108 rfl ?_
                refine pw_get (v := .ref (B + 33)) okX10 (k := 36) (by decide) lkX10_107 hA25.1 rfl dX10_longSequence_109 ?_
                refine pw_iload_n dX10_longSequence_112 rfl ?_
                refine pw_iald (t := 0) rfl (mF36 hA25) (by first | omega | exact mCell_b hp ko (by omega) (by omega) | exact mHis_b hp (by omega) (by omega)) (by decide) dX10_longSequence_113 ?_
                have hn114 := mNu (e := ((4 * p) + ((s25.2 37) (p).toNat)) - (1)) hk25 hp (by omega)
                refine pw_zimul dX10_longSequence_114 ?_
                refine pw_iload_n dX10_longSequence_115 rfl ?_
                refine pw_ziadd dX10_longSequence_116 ?_
                refine pw_bipush (v := zI (48)) dX10_longSequence_117 (by decide) ?_
                refine pw_zisub dX10_longSequence_119 ?_
                refine pw_callS (As := [.int (zI (999)), .int (zI ((((10) * ((s25.2 36) (((4 * p) + ((s25.2 37) (p).toNat)) - (1)).toNat)) + (b)) - (48)))]) (rm := rmD 0 0 0) (mR_least htr (by omega) (by omega)) rfl ywX10_least rfl cwX10_192 ⟨nle rfl, nle rfl⟩ (nle rfl) ⟨nle rfl, nle rfl⟩ dX10_longSequence_120 ?_ (fun _ _ _ z => z.elim)
                intro r_9 h_9 n_9 hq _
                rw [hq.1, hq.2.1, hq.2.2]
                show pw E YX10_longSequence _ _ 0 0 123 [some (.ref B), some (.int (zI (p))), some (.int (zI (b))), some (.int (zI (((4 * p) + ((s25.2 37) (p).toNat)) - (1))))] [.int (zI (min (999) ((((10) * ((s25.2 36) (((4 * p) + ((s25.2 37) (p).toNat)) - (1)).toNat)) + (b)) - (48)))), .int (zI (((4 * p) + ((s25.2 37) (p).toNat)) - (1))), .ref (B + 33)] h25 n
                refine pw_iast (t := 0) rfl (mF36 hA25) (by first | omega | exact mCell_b hp ko (by omega) (by omega) | exact mHis_b hp (by omega) (by omega)) (by decide) dX10_longSequence_123 ?_
                have hA27 : mAt B (mA 36 (va_up (s25.2 36) (((4 * p) + ((s25.2 37) (p).toNat)) - (1)).toNat (min (999) ((((10) * ((s25.2 36) (((4 * p) + ((s25.2 37) (p).toNat)) - (1)).toNat)) + (b)) - (48)))) s25) (va_up h25 (B + 33) (pz_z 0 32 (va_up (s25.2 36) (((4 * p) + ((s25.2 37) (p).toNat)) - (1)).toNat (min (999) ((((10) * ((s25.2 36) (((4 * p) + ((s25.2 37) (p).toNat)) - (1)).toNat)) + (b)) - (48)))))) := mU36 hA25
                have hk27 : mPk (mA 36 (va_up (s25.2 36) (((4 * p) + ((s25.2 37) (p).toNat)) - (1)).toNat (min (999) ((((10) * ((s25.2 36) (((4 * p) + ((s25.2 37) (p).toNat)) - (1)).toNat)) + (b)) - (48)))) s25) p.toNat := mP36 hk25 (by omega) (by omega)
                have hr27 : mPr p.toNat s (mA 36 (va_up (s25.2 36) (((4 * p) + ((s25.2 37) (p).toNat)) - (1)).toNat (min (999) ((((10) * ((s25.2 36) (((4 * p) + ((s25.2 37) (p).toNat)) - (1)).toNat)) + (b)) - (48)))) s25) := mPr_tr hr25 (mPr_N (by omega))
                have hF27 : mFr B h (va_up h25 (B + 33) (pz_z 0 32 (va_up (s25.2 36) (((4 * p) + ((s25.2 37) (p).toNat)) - (1)).toNat (min (999) ((((10) * ((s25.2 36) (((4 * p) + ((s25.2 37) (p).toNat)) - (1)).toNat)) + (b)) - (48)))))) := mFr_tr hF25 (mFr_up (by decide))
                have t37_27 : (mA 36 (va_up (s25.2 36) (((4 * p) + ((s25.2 37) (p).toNat)) - (1)).toNat (min (999) ((((10) * ((s25.2 36) (((4 * p) + ((s25.2 37) (p).toNat)) - (1)).toNat)) + (b)) - (48)))) s25).2 37 p.toNat = 1 := t37_25
                revert hA27 hk27 hr27 hF27 t37_27
                generalize (mA 36 (va_up (s25.2 36) (((4 * p) + ((s25.2 37) (p).toNat)) - (1)).toNat (min (999) ((((10) * ((s25.2 36) (((4 * p) + ((s25.2 37) (p).toNat)) - (1)).toNat)) + (b)) - (48)))) s25) = s27
                generalize (va_up h25 (B + 33) (pz_z 0 32 (va_up (s25.2 36) (((4 * p) + ((s25.2 37) (p).toNat)) - (1)).toNat (min (999) ((((10) * ((s25.2 36) (((4 * p) + ((s25.2 37) (p).toNat)) - (1)).toNat)) + (b)) - (48)))))) = h27
                intro hA27 hk27 hr27 hF27 t37_27
                obtain ⟨kw, kh, kr, kc, ksr, ksc, kt, ko, kwa, kin, kwr, khi, krd, knu, kgi, kas, kfr, kra, kco, kof, kip⟩ := id hk27
                have e18 := congrFun (hr27.2.1 18 (by decide)) p.toNat
                have e19 := congrFun (hr27.2.1 19 (by decide)) p.toNat
                refine pw_goto (tgt := 204) dX10_longSequence_124 rfl ?_
                refine pw_aload_n dX10_longSequence_204 rfl ?_
                refine pw_get (v := .ref (B + 36)) okX10 (k := 39) (by decide) lkX10_116 hA27.1 rfl dX10_longSequence_205 ?_
                refine pw_iload_n dX10_longSequence_208 rfl ?_
                refine pw_iconst (v := zI (0)) dX10_longSequence_209 (by decide) ?_
                refine pw_zast (t := 1) rfl (mF39 hA27) (by first | omega | exact mCell_b hp ko (by omega) (by omega) | exact mHis_b hp (by omega) (by omega)) (by decide) (by omega) dX10_longSequence_210 ?_
                have hA28 : mAt B (mA 39 (va_up (s27.2 39) (p).toNat (0)) s27) (va_up h27 (B + 36) (pz_z 1 8 (va_up (s27.2 39) (p).toNat (0)))) := mU39 hA27
                have hk28 : mPk (mA 39 (va_up (s27.2 39) (p).toNat (0)) s27) p.toNat := mP39 hk27 (by omega)
                have hr28 : mPr p.toNat s (mA 39 (va_up (s27.2 39) (p).toNat (0)) s27) := mPr_tr hr27 (mPr_W (by decide) (by decide) (by decide))
                have hF28 : mFr B h (va_up h27 (B + 36) (pz_z 1 8 (va_up (s27.2 39) (p).toNat (0)))) := mFr_tr hF27 (mFr_up (by decide))
                have t37_28 : (mA 39 (va_up (s27.2 39) (p).toNat (0)) s27).2 37 p.toNat = 1 := t37_27
                revert hA28 hk28 hr28 hF28 t37_28
                generalize (mA 39 (va_up (s27.2 39) (p).toNat (0)) s27) = s28
                generalize (va_up h27 (B + 36) (pz_z 1 8 (va_up (s27.2 39) (p).toNat (0)))) = h28
                intro hA28 hk28 hr28 hF28 t37_28
                obtain ⟨kw, kh, kr, kc, ksr, ksc, kt, ko, kwa, kin, kwr, khi, krd, knu, kgi, kas, kfr, kra, kco, kof, kip⟩ := id hk28
                have e18 := congrFun (hr28.2.1 18 (by decide)) p.toNat
                have e19 := congrFun (hr28.2.1 19 (by decide)) p.toNat
                exact pw_vret dX10_longSequence_211 rfl (nle rfl) (nle rfl) ⟨rfl, s28, hA28, hk28, hr28, hF28, rfl⟩
      ·
        refine pw_aload_n dX10_longSequence_19 rfl ?_
        refine pw_get (v := .ref (B + 36)) okX10 (k := 39) (by decide) lkX10_116 hA.1 rfl dX10_longSequence_20 ?_
        refine pw_iload_n dX10_longSequence_23 rfl ?_
        refine pw_zald (t := 1) rfl (mF39 hA) (by first | omega | exact mCell_b hp ko (by omega) (by omega) | exact mHis_b hp (by omega) (by omega)) (by decide) dX10_longSequence_24 ?_
        refine pw_if_eq (tgt := 38) dX10_longSequence_25 rfl (by omega) (fun c25 => ?_) (fun c25 => ?_)
        ·
          refine pw_iload_n dX10_longSequence_38 rfl ?_
          refine pw_bipush (v := zI (48)) dX10_longSequence_39 (by decide) ?_
          refine pw_icmp_lt (tgt := 127) dX10_longSequence_41 rfl (by omega) (by omega) (fun c41 => ?_) (fun c41 => ?_)
          ·
            refine pw_iload_n dX10_longSequence_127 rfl ?_
            refine pw_bipush (v := zI (59)) dX10_longSequence_128 (by decide) ?_
            refine pw_icmp_ne (tgt := 167) dX10_longSequence_130 rfl (by omega) (by omega) (fun c130 => ?_) (fun c130 => ?_)
            ·
              refine pw_iload_n dX10_longSequence_167 rfl ?_
              refine pw_bipush (v := zI (64)) dX10_longSequence_168 (by decide) ?_
              refine pw_icmp_lt (tgt := 204) dX10_longSequence_170 rfl (by omega) (by omega) (fun c170 => ?_) (fun c170 => ?_)
              ·
                refine pw_aload_n dX10_longSequence_204 rfl ?_
                refine pw_get (v := .ref (B + 36)) okX10 (k := 39) (by decide) lkX10_116 hA.1 rfl dX10_longSequence_205 ?_
                refine pw_iload_n dX10_longSequence_208 rfl ?_
                refine pw_iconst (v := zI (0)) dX10_longSequence_209 (by decide) ?_
                refine pw_zast (t := 1) rfl (mF39 hA) (by first | omega | exact mCell_b hp ko (by omega) (by omega) | exact mHis_b hp (by omega) (by omega)) (by decide) (by omega) dX10_longSequence_210 ?_
                have hA29 : mAt B (mA 39 (va_up (s.2 39) (p).toNat (0)) s) (va_up h (B + 36) (pz_z 1 8 (va_up (s.2 39) (p).toNat (0)))) := mU39 hA
                have hk29 : mPk (mA 39 (va_up (s.2 39) (p).toNat (0)) s) p.toNat := mP39 hk (by omega)
                have hr29 : mPr p.toNat s (mA 39 (va_up (s.2 39) (p).toNat (0)) s) := mPr_tr mPr_rf (mPr_W (by decide) (by decide) (by decide))
                have hF29 : mFr B h (va_up h (B + 36) (pz_z 1 8 (va_up (s.2 39) (p).toNat (0)))) := mFr_tr mFr_rf (mFr_up (by decide))
                revert hA29 hk29 hr29 hF29 
                generalize (mA 39 (va_up (s.2 39) (p).toNat (0)) s) = s29
                generalize (va_up h (B + 36) (pz_z 1 8 (va_up (s.2 39) (p).toNat (0)))) = h29
                intro hA29 hk29 hr29 hF29 
                obtain ⟨kw, kh, kr, kc, ksr, ksc, kt, ko, kwa, kin, kwr, khi, krd, knu, kgi, kas, kfr, kra, kco, kof, kip⟩ := id hk29
                have e18 := congrFun (hr29.2.1 18 (by decide)) p.toNat
                have e19 := congrFun (hr29.2.1 19 (by decide)) p.toNat
                exact pw_vret dX10_longSequence_211 rfl (nle rfl) (nle rfl) ⟨rfl, s29, hA29, hk29, hr29, hF29, rfl⟩
              ·
                refine pw_aload_n dX10_longSequence_173 rfl ?_
                refine pw_get (v := .ref (B + 32)) okX10 (k := 35) (by decide) lkX10_104 hA.1 rfl dX10_longSequence_174 ?_
                refine pw_iload_n dX10_longSequence_177 rfl ?_
                refine pw_iconst (v := zI (0)) dX10_longSequence_178 (by decide) ?_
                refine pw_iast (t := 0) rfl (mF35 hA) (by first | omega | exact mCell_b hp ko (by omega) (by omega) | exact mHis_b hp (by omega) (by omega)) (by decide) dX10_longSequence_179 ?_
                have hA30 : mAt B (mA 35 (va_up (s.2 35) (p).toNat (0)) s) (va_up h (B + 32) (pz_z 0 8 (va_up (s.2 35) (p).toNat (0)))) := mU35 hA
                have hk30 : mPk (mA 35 (va_up (s.2 35) (p).toNat (0)) s) p.toNat := mP35 hk (by omega)
                have hr30 : mPr p.toNat s (mA 35 (va_up (s.2 35) (p).toNat (0)) s) := mPr_tr mPr_rf (mPr_W (by decide) (by decide) (by decide))
                have hF30 : mFr B h (va_up h (B + 32) (pz_z 0 8 (va_up (s.2 35) (p).toNat (0)))) := mFr_tr mFr_rf (mFr_up (by decide))
                revert hA30 hk30 hr30 hF30 
                generalize (mA 35 (va_up (s.2 35) (p).toNat (0)) s) = s30
                generalize (va_up h (B + 32) (pz_z 0 8 (va_up (s.2 35) (p).toNat (0)))) = h30
                intro hA30 hk30 hr30 hF30 
                obtain ⟨kw, kh, kr, kc, ksr, ksc, kt, ko, kwa, kin, kwr, khi, krd, knu, kgi, kas, kfr, kra, kco, kof, kip⟩ := id hk30
                have e18 := congrFun (hr30.2.1 18 (by decide)) p.toNat
                have e19 := congrFun (hr30.2.1 19 (by decide)) p.toNat
                refine pw_aload_n dX10_longSequence_180 rfl ?_
                refine pw_get (v := .ref (B + 35)) okX10 (k := 38) (by decide) lkX10_113 hA30.1 rfl dX10_longSequence_181 ?_
                refine pw_iload_n dX10_longSequence_184 rfl ?_
                refine pw_zald (t := 1) rfl (mF38 hA30) (by first | omega | exact mCell_b hp ko (by omega) (by omega) | exact mHis_b hp (by omega) (by omega)) (by decide) dX10_longSequence_185 ?_
                refine pw_if_eq (tgt := 198) dX10_longSequence_186 rfl (by omega) (fun c186 => ?_) (fun c186 => ?_)
                ·
                  refine pw_aload_n dX10_longSequence_198 rfl ?_
                  refine pw_iload_n dX10_longSequence_199 rfl ?_
                  refine pw_iload_n dX10_longSequence_200 rfl ?_
                  refine pw_callV (As := [.int (zI (p)), .int (zI (b))]) (b := B) (rm := rmD 5 0 0) (mR_act htr hA30 hp hk30 (by omega)) rfl hA30.1 rfl rfl ywX10_act rfl cwX10_283 ⟨nle rfl, nle rfl⟩ (nle rfl) ⟨nle rfl, nle rfl⟩ dX10_longSequence_201 ?_ (fun _ _ _ z => z.elim)
                  intro r_9 h31 n_9 hq _
                  obtain ⟨e1, s31, hA31, hk31, hr310, hF310, e4⟩ := hq
                  rw [e1, e4]
                  show pw E YX10_longSequence _ _ 0 0 204 [some (.ref B), some (.int (zI (p))), some (.int (zI (b))), none] [] h31 n
                  have hr31 := mPr_tr hr30 hr310
                  have hF31 := mFr_tr hF30 hF310
                  obtain ⟨kw, kh, kr, kc, ksr, ksc, kt, ko, kwa, kin, kwr, khi, krd, knu, kgi, kas, kfr, kra, kco, kof, kip⟩ := id hk31
                  have e18 := congrFun (hr31.2.1 18 (by decide)) p.toNat
                  have e19 := congrFun (hr31.2.1 19 (by decide)) p.toNat
                  refine pw_aload_n dX10_longSequence_204 rfl ?_
                  refine pw_get (v := .ref (B + 36)) okX10 (k := 39) (by decide) lkX10_116 hA31.1 rfl dX10_longSequence_205 ?_
                  refine pw_iload_n dX10_longSequence_208 rfl ?_
                  refine pw_iconst (v := zI (0)) dX10_longSequence_209 (by decide) ?_
                  refine pw_zast (t := 1) rfl (mF39 hA31) (by first | omega | exact mCell_b hp ko (by omega) (by omega) | exact mHis_b hp (by omega) (by omega)) (by decide) (by omega) dX10_longSequence_210 ?_
                  have hA32 : mAt B (mA 39 (va_up (s31.2 39) (p).toNat (0)) s31) (va_up h31 (B + 36) (pz_z 1 8 (va_up (s31.2 39) (p).toNat (0)))) := mU39 hA31
                  have hk32 : mPk (mA 39 (va_up (s31.2 39) (p).toNat (0)) s31) p.toNat := mP39 hk31 (by omega)
                  have hr32 : mPr p.toNat s (mA 39 (va_up (s31.2 39) (p).toNat (0)) s31) := mPr_tr hr31 (mPr_W (by decide) (by decide) (by decide))
                  have hF32 : mFr B h (va_up h31 (B + 36) (pz_z 1 8 (va_up (s31.2 39) (p).toNat (0)))) := mFr_tr hF31 (mFr_up (by decide))
                  revert hA32 hk32 hr32 hF32 
                  generalize (mA 39 (va_up (s31.2 39) (p).toNat (0)) s31) = s32
                  generalize (va_up h31 (B + 36) (pz_z 1 8 (va_up (s31.2 39) (p).toNat (0)))) = h32
                  intro hA32 hk32 hr32 hF32 
                  obtain ⟨kw, kh, kr, kc, ksr, ksc, kt, ko, kwa, kin, kwr, khi, krd, knu, kgi, kas, kfr, kra, kco, kof, kip⟩ := id hk32
                  have e18 := congrFun (hr32.2.1 18 (by decide)) p.toNat
                  have e19 := congrFun (hr32.2.1 19 (by decide)) p.toNat
                  exact pw_vret dX10_longSequence_211 rfl (nle rfl) (nle rfl) ⟨rfl, s32, hA32, hk32, hr32, hF32, rfl⟩
                ·
                  refine pw_aload_n dX10_longSequence_189 rfl ?_
                  refine pw_iload_n dX10_longSequence_190 rfl ?_
                  refine pw_iload_n dX10_longSequence_191 rfl ?_
                  refine pw_callV (As := [.int (zI (p)), .int (zI (b))]) (b := B) (rm := rmD 1 0 0) (mR_question htr hA30 hp hk30 (by omega)) rfl hA30.1 rfl rfl ywX10_question rfl cwX10_280 ⟨nle rfl, nle rfl⟩ (nle rfl) ⟨nle rfl, nle rfl⟩ dX10_longSequence_192 ?_ (fun _ _ _ z => z.elim)
                  intro r_9 h33 n_9 hq _
                  obtain ⟨e1, s33, hA33, hk33, hr330, hF330, e4⟩ := hq
                  rw [e1, e4]
                  show pw E YX10_longSequence _ _ 0 0 195 [some (.ref B), some (.int (zI (p))), some (.int (zI (b))), none] [] h33 n
                  have hr33 := mPr_tr hr30 hr330
                  have hF33 := mFr_tr hF30 hF330
                  obtain ⟨kw, kh, kr, kc, ksr, ksc, kt, ko, kwa, kin, kwr, khi, krd, knu, kgi, kas, kfr, kra, kco, kof, kip⟩ := id hk33
                  have e18 := congrFun (hr33.2.1 18 (by decide)) p.toNat
                  have e19 := congrFun (hr33.2.1 19 (by decide)) p.toNat
                  refine pw_goto (tgt := 204) dX10_longSequence_195 rfl ?_
                  refine pw_aload_n dX10_longSequence_204 rfl ?_
                  refine pw_get (v := .ref (B + 36)) okX10 (k := 39) (by decide) lkX10_116 hA33.1 rfl dX10_longSequence_205 ?_
                  refine pw_iload_n dX10_longSequence_208 rfl ?_
                  refine pw_iconst (v := zI (0)) dX10_longSequence_209 (by decide) ?_
                  refine pw_zast (t := 1) rfl (mF39 hA33) (by first | omega | exact mCell_b hp ko (by omega) (by omega) | exact mHis_b hp (by omega) (by omega)) (by decide) (by omega) dX10_longSequence_210 ?_
                  have hA34 : mAt B (mA 39 (va_up (s33.2 39) (p).toNat (0)) s33) (va_up h33 (B + 36) (pz_z 1 8 (va_up (s33.2 39) (p).toNat (0)))) := mU39 hA33
                  have hk34 : mPk (mA 39 (va_up (s33.2 39) (p).toNat (0)) s33) p.toNat := mP39 hk33 (by omega)
                  have hr34 : mPr p.toNat s (mA 39 (va_up (s33.2 39) (p).toNat (0)) s33) := mPr_tr hr33 (mPr_W (by decide) (by decide) (by decide))
                  have hF34 : mFr B h (va_up h33 (B + 36) (pz_z 1 8 (va_up (s33.2 39) (p).toNat (0)))) := mFr_tr hF33 (mFr_up (by decide))
                  revert hA34 hk34 hr34 hF34 
                  generalize (mA 39 (va_up (s33.2 39) (p).toNat (0)) s33) = s34
                  generalize (va_up h33 (B + 36) (pz_z 1 8 (va_up (s33.2 39) (p).toNat (0)))) = h34
                  intro hA34 hk34 hr34 hF34 
                  obtain ⟨kw, kh, kr, kc, ksr, ksc, kt, ko, kwa, kin, kwr, khi, krd, knu, kgi, kas, kfr, kra, kco, kof, kip⟩ := id hk34
                  have e18 := congrFun (hr34.2.1 18 (by decide)) p.toNat
                  have e19 := congrFun (hr34.2.1 19 (by decide)) p.toNat
                  exact pw_vret dX10_longSequence_211 rfl (nle rfl) (nle rfl) ⟨rfl, s34, hA34, hk34, hr34, hF34, rfl⟩
            ·
              refine pw_aload_n dX10_longSequence_133 rfl ?_
              refine pw_get (v := .ref (B + 34)) okX10 (k := 37) (by decide) lkX10_110 hA.1 rfl dX10_longSequence_134 ?_
              refine pw_iload_n dX10_longSequence_137 rfl ?_
              refine pw_aload_n dX10_longSequence_138 rfl ?_
              refine pw_get (v := .ref (B + 34)) okX10 (k := 37) (by decide) lkX10_110 hA.1 rfl dX10_longSequence_139 ?_
              refine pw_iload_n dX10_longSequence_142 rfl ?_
              refine pw_iald (t := 0) rfl (mF37 hA) (by first | omega | exact mCell_b hp ko (by omega) (by omega) | exact mHis_b hp (by omega) (by omega)) (by decide) dX10_longSequence_143 ?_
              refine pw_if_ne (tgt := 151) dX10_longSequence_144 rfl (by omega) (fun c144 => ?_) (fun c144 => ?_)
              ·
                refine pw_iconst (v := zI (5)) dX10_longSequence_151 (by decide) ?_
                refine pw_aload_n dX10_longSequence_152 rfl ?_
                refine pw_get (v := .ref (B + 34)) okX10 (k := 37) (by decide) lkX10_110 hA.1 rfl dX10_longSequence_153 ?_
                refine pw_iload_n dX10_longSequence_156 rfl ?_
                refine pw_iald (t := 0) rfl (mF37 hA) (by first | omega | exact mCell_b hp ko (by omega) (by omega) | exact mHis_b hp (by omega) (by omega)) (by decide) dX10_longSequence_157 ?_
                refine pw_iconst (v := zI (1)) dX10_longSequence_158 (by decide) ?_
                refine pw_ziadd dX10_longSequence_159 ?_
                refine pw_callS (As := [.int (zI (5)), .int (zI (((s.2 37) (p).toNat) + (1)))]) (rm := rmD 0 0 0) (mR_least htr (by omega) (by omega)) rfl ywX10_least rfl cwX10_192 ⟨nle rfl, nle rfl⟩ (nle rfl) ⟨nle rfl, nle rfl⟩ dX10_longSequence_160 ?_ (fun _ _ _ z => z.elim)
                intro r_9 h_9 n_9 hq _
                rw [hq.1, hq.2.1, hq.2.2]
                show pw E YX10_longSequence _ _ 0 0 163 [some (.ref B), some (.int (zI (p))), some (.int (zI (b))), none] [.int (zI (min (5) (((s.2 37) (p).toNat) + (1)))), .int (zI (p)), .ref (B + 34)] h n
                refine pw_iast (t := 0) rfl (mF37 hA) (by first | omega | exact mCell_b hp ko (by omega) (by omega) | exact mHis_b hp (by omega) (by omega)) (by decide) dX10_longSequence_163 ?_
                have hA35 : mAt B (mA 37 (va_up (s.2 37) (p).toNat (min (5) (((s.2 37) (p).toNat) + (1)))) s) (va_up h (B + 34) (pz_z 0 8 (va_up (s.2 37) (p).toNat (min (5) (((s.2 37) (p).toNat) + (1)))))) := mU37 hA
                have hk35 : mPk (mA 37 (va_up (s.2 37) (p).toNat (min (5) (((s.2 37) (p).toNat) + (1)))) s) p.toNat := mP37 hk (by omega)
                have hr35 : mPr p.toNat s (mA 37 (va_up (s.2 37) (p).toNat (min (5) (((s.2 37) (p).toNat) + (1)))) s) := mPr_tr mPr_rf (mPr_W (by decide) (by decide) (by decide))
                have hF35 : mFr B h (va_up h (B + 34) (pz_z 0 8 (va_up (s.2 37) (p).toNat (min (5) (((s.2 37) (p).toNat) + (1)))))) := mFr_tr mFr_rf (mFr_up (by decide))
                have t37_35 : (mA 37 (va_up (s.2 37) (p).toNat (min (5) (((s.2 37) (p).toNat) + (1)))) s).2 37 p.toNat = min (5) (((s.2 37) (p).toNat) + (1)) := va_up_self _ _ _
                revert hA35 hk35 hr35 hF35 t37_35
                generalize (mA 37 (va_up (s.2 37) (p).toNat (min (5) (((s.2 37) (p).toNat) + (1)))) s) = s35
                generalize (va_up h (B + 34) (pz_z 0 8 (va_up (s.2 37) (p).toNat (min (5) (((s.2 37) (p).toNat) + (1)))))) = h35
                intro hA35 hk35 hr35 hF35 t37_35
                obtain ⟨kw, kh, kr, kc, ksr, ksc, kt, ko, kwa, kin, kwr, khi, krd, knu, kgi, kas, kfr, kra, kco, kof, kip⟩ := id hk35
                have e18 := congrFun (hr35.2.1 18 (by decide)) p.toNat
                have e19 := congrFun (hr35.2.1 19 (by decide)) p.toNat
                refine pw_goto (tgt := 204) dX10_longSequence_164 rfl ?_
                refine pw_aload_n dX10_longSequence_204 rfl ?_
                refine pw_get (v := .ref (B + 36)) okX10 (k := 39) (by decide) lkX10_116 hA35.1 rfl dX10_longSequence_205 ?_
                refine pw_iload_n dX10_longSequence_208 rfl ?_
                refine pw_iconst (v := zI (0)) dX10_longSequence_209 (by decide) ?_
                refine pw_zast (t := 1) rfl (mF39 hA35) (by first | omega | exact mCell_b hp ko (by omega) (by omega) | exact mHis_b hp (by omega) (by omega)) (by decide) (by omega) dX10_longSequence_210 ?_
                have hA36 : mAt B (mA 39 (va_up (s35.2 39) (p).toNat (0)) s35) (va_up h35 (B + 36) (pz_z 1 8 (va_up (s35.2 39) (p).toNat (0)))) := mU39 hA35
                have hk36 : mPk (mA 39 (va_up (s35.2 39) (p).toNat (0)) s35) p.toNat := mP39 hk35 (by omega)
                have hr36 : mPr p.toNat s (mA 39 (va_up (s35.2 39) (p).toNat (0)) s35) := mPr_tr hr35 (mPr_W (by decide) (by decide) (by decide))
                have hF36 : mFr B h (va_up h35 (B + 36) (pz_z 1 8 (va_up (s35.2 39) (p).toNat (0)))) := mFr_tr hF35 (mFr_up (by decide))
                have t37_36 : (mA 39 (va_up (s35.2 39) (p).toNat (0)) s35).2 37 p.toNat = min (5) (((s.2 37) (p).toNat) + (1)) := t37_35
                revert hA36 hk36 hr36 hF36 t37_36
                generalize (mA 39 (va_up (s35.2 39) (p).toNat (0)) s35) = s36
                generalize (va_up h35 (B + 36) (pz_z 1 8 (va_up (s35.2 39) (p).toNat (0)))) = h36
                intro hA36 hk36 hr36 hF36 t37_36
                obtain ⟨kw, kh, kr, kc, ksr, ksc, kt, ko, kwa, kin, kwr, khi, krd, knu, kgi, kas, kfr, kra, kco, kof, kip⟩ := id hk36
                have e18 := congrFun (hr36.2.1 18 (by decide)) p.toNat
                have e19 := congrFun (hr36.2.1 19 (by decide)) p.toNat
                exact pw_vret dX10_longSequence_211 rfl (nle rfl) (nle rfl) ⟨rfl, s36, hA36, hk36, hr36, hF36, rfl⟩
              ·
                refine pw_iconst (v := zI (2)) dX10_longSequence_147 (by decide) ?_
                refine pw_goto (tgt := 163) dX10_longSequence_148 rfl ?_
                refine pw_iast (t := 0) rfl (mF37 hA) (by first | omega | exact mCell_b hp ko (by omega) (by omega) | exact mHis_b hp (by omega) (by omega)) (by decide) dX10_longSequence_163 ?_
                have hA37 : mAt B (mA 37 (va_up (s.2 37) (p).toNat (2)) s) (va_up h (B + 34) (pz_z 0 8 (va_up (s.2 37) (p).toNat (2)))) := mU37 hA
                have hk37 : mPk (mA 37 (va_up (s.2 37) (p).toNat (2)) s) p.toNat := mP37 hk (by omega)
                have hr37 : mPr p.toNat s (mA 37 (va_up (s.2 37) (p).toNat (2)) s) := mPr_tr mPr_rf (mPr_W (by decide) (by decide) (by decide))
                have hF37 : mFr B h (va_up h (B + 34) (pz_z 0 8 (va_up (s.2 37) (p).toNat (2)))) := mFr_tr mFr_rf (mFr_up (by decide))
                have t37_37 : (mA 37 (va_up (s.2 37) (p).toNat (2)) s).2 37 p.toNat = 2 := va_up_self _ _ _
                revert hA37 hk37 hr37 hF37 t37_37
                generalize (mA 37 (va_up (s.2 37) (p).toNat (2)) s) = s37
                generalize (va_up h (B + 34) (pz_z 0 8 (va_up (s.2 37) (p).toNat (2)))) = h37
                intro hA37 hk37 hr37 hF37 t37_37
                obtain ⟨kw, kh, kr, kc, ksr, ksc, kt, ko, kwa, kin, kwr, khi, krd, knu, kgi, kas, kfr, kra, kco, kof, kip⟩ := id hk37
                have e18 := congrFun (hr37.2.1 18 (by decide)) p.toNat
                have e19 := congrFun (hr37.2.1 19 (by decide)) p.toNat
                refine pw_goto (tgt := 204) dX10_longSequence_164 rfl ?_
                refine pw_aload_n dX10_longSequence_204 rfl ?_
                refine pw_get (v := .ref (B + 36)) okX10 (k := 39) (by decide) lkX10_116 hA37.1 rfl dX10_longSequence_205 ?_
                refine pw_iload_n dX10_longSequence_208 rfl ?_
                refine pw_iconst (v := zI (0)) dX10_longSequence_209 (by decide) ?_
                refine pw_zast (t := 1) rfl (mF39 hA37) (by first | omega | exact mCell_b hp ko (by omega) (by omega) | exact mHis_b hp (by omega) (by omega)) (by decide) (by omega) dX10_longSequence_210 ?_
                have hA38 : mAt B (mA 39 (va_up (s37.2 39) (p).toNat (0)) s37) (va_up h37 (B + 36) (pz_z 1 8 (va_up (s37.2 39) (p).toNat (0)))) := mU39 hA37
                have hk38 : mPk (mA 39 (va_up (s37.2 39) (p).toNat (0)) s37) p.toNat := mP39 hk37 (by omega)
                have hr38 : mPr p.toNat s (mA 39 (va_up (s37.2 39) (p).toNat (0)) s37) := mPr_tr hr37 (mPr_W (by decide) (by decide) (by decide))
                have hF38 : mFr B h (va_up h37 (B + 36) (pz_z 1 8 (va_up (s37.2 39) (p).toNat (0)))) := mFr_tr hF37 (mFr_up (by decide))
                have t37_38 : (mA 39 (va_up (s37.2 39) (p).toNat (0)) s37).2 37 p.toNat = 2 := t37_37
                revert hA38 hk38 hr38 hF38 t37_38
                generalize (mA 39 (va_up (s37.2 39) (p).toNat (0)) s37) = s38
                generalize (va_up h37 (B + 36) (pz_z 1 8 (va_up (s37.2 39) (p).toNat (0)))) = h38
                intro hA38 hk38 hr38 hF38 t37_38
                obtain ⟨kw, kh, kr, kc, ksr, ksc, kt, ko, kwa, kin, kwr, khi, krd, knu, kgi, kas, kfr, kra, kco, kof, kip⟩ := id hk38
                have e18 := congrFun (hr38.2.1 18 (by decide)) p.toNat
                have e19 := congrFun (hr38.2.1 19 (by decide)) p.toNat
                exact pw_vret dX10_longSequence_211 rfl (nle rfl) (nle rfl) ⟨rfl, s38, hA38, hk38, hr38, hF38, rfl⟩
          ·
            refine pw_iload_n dX10_longSequence_44 rfl ?_
            refine pw_bipush (v := zI (57)) dX10_longSequence_45 (by decide) ?_
            refine pw_icmp_gt (tgt := 127) dX10_longSequence_47 rfl (by omega) (by omega) (fun c47 => ?_) (fun c47 => ?_)
            ·
              refine pw_iload_n dX10_longSequence_127 rfl ?_
              refine pw_bipush (v := zI (59)) dX10_longSequence_128 (by decide) ?_
              refine pw_icmp_ne (tgt := 167) dX10_longSequence_130 rfl (by omega) (by omega) (fun c130 => ?_) (fun c130 => ?_)
              ·
                refine pw_iload_n dX10_longSequence_167 rfl ?_
                refine pw_bipush (v := zI (64)) dX10_longSequence_168 (by decide) ?_
                refine pw_icmp_lt (tgt := 204) dX10_longSequence_170 rfl (by omega) (by omega) (fun c170 => ?_) (fun c170 => ?_)
                ·
                  refine pw_aload_n dX10_longSequence_204 rfl ?_
                  refine pw_get (v := .ref (B + 36)) okX10 (k := 39) (by decide) lkX10_116 hA.1 rfl dX10_longSequence_205 ?_
                  refine pw_iload_n dX10_longSequence_208 rfl ?_
                  refine pw_iconst (v := zI (0)) dX10_longSequence_209 (by decide) ?_
                  refine pw_zast (t := 1) rfl (mF39 hA) (by first | omega | exact mCell_b hp ko (by omega) (by omega) | exact mHis_b hp (by omega) (by omega)) (by decide) (by omega) dX10_longSequence_210 ?_
                  have hA39 : mAt B (mA 39 (va_up (s.2 39) (p).toNat (0)) s) (va_up h (B + 36) (pz_z 1 8 (va_up (s.2 39) (p).toNat (0)))) := mU39 hA
                  have hk39 : mPk (mA 39 (va_up (s.2 39) (p).toNat (0)) s) p.toNat := mP39 hk (by omega)
                  have hr39 : mPr p.toNat s (mA 39 (va_up (s.2 39) (p).toNat (0)) s) := mPr_tr mPr_rf (mPr_W (by decide) (by decide) (by decide))
                  have hF39 : mFr B h (va_up h (B + 36) (pz_z 1 8 (va_up (s.2 39) (p).toNat (0)))) := mFr_tr mFr_rf (mFr_up (by decide))
                  revert hA39 hk39 hr39 hF39 
                  generalize (mA 39 (va_up (s.2 39) (p).toNat (0)) s) = s39
                  generalize (va_up h (B + 36) (pz_z 1 8 (va_up (s.2 39) (p).toNat (0)))) = h39
                  intro hA39 hk39 hr39 hF39 
                  obtain ⟨kw, kh, kr, kc, ksr, ksc, kt, ko, kwa, kin, kwr, khi, krd, knu, kgi, kas, kfr, kra, kco, kof, kip⟩ := id hk39
                  have e18 := congrFun (hr39.2.1 18 (by decide)) p.toNat
                  have e19 := congrFun (hr39.2.1 19 (by decide)) p.toNat
                  exact pw_vret dX10_longSequence_211 rfl (nle rfl) (nle rfl) ⟨rfl, s39, hA39, hk39, hr39, hF39, rfl⟩
                ·
                  refine pw_aload_n dX10_longSequence_173 rfl ?_
                  refine pw_get (v := .ref (B + 32)) okX10 (k := 35) (by decide) lkX10_104 hA.1 rfl dX10_longSequence_174 ?_
                  refine pw_iload_n dX10_longSequence_177 rfl ?_
                  refine pw_iconst (v := zI (0)) dX10_longSequence_178 (by decide) ?_
                  refine pw_iast (t := 0) rfl (mF35 hA) (by first | omega | exact mCell_b hp ko (by omega) (by omega) | exact mHis_b hp (by omega) (by omega)) (by decide) dX10_longSequence_179 ?_
                  have hA40 : mAt B (mA 35 (va_up (s.2 35) (p).toNat (0)) s) (va_up h (B + 32) (pz_z 0 8 (va_up (s.2 35) (p).toNat (0)))) := mU35 hA
                  have hk40 : mPk (mA 35 (va_up (s.2 35) (p).toNat (0)) s) p.toNat := mP35 hk (by omega)
                  have hr40 : mPr p.toNat s (mA 35 (va_up (s.2 35) (p).toNat (0)) s) := mPr_tr mPr_rf (mPr_W (by decide) (by decide) (by decide))
                  have hF40 : mFr B h (va_up h (B + 32) (pz_z 0 8 (va_up (s.2 35) (p).toNat (0)))) := mFr_tr mFr_rf (mFr_up (by decide))
                  revert hA40 hk40 hr40 hF40 
                  generalize (mA 35 (va_up (s.2 35) (p).toNat (0)) s) = s40
                  generalize (va_up h (B + 32) (pz_z 0 8 (va_up (s.2 35) (p).toNat (0)))) = h40
                  intro hA40 hk40 hr40 hF40 
                  obtain ⟨kw, kh, kr, kc, ksr, ksc, kt, ko, kwa, kin, kwr, khi, krd, knu, kgi, kas, kfr, kra, kco, kof, kip⟩ := id hk40
                  have e18 := congrFun (hr40.2.1 18 (by decide)) p.toNat
                  have e19 := congrFun (hr40.2.1 19 (by decide)) p.toNat
                  refine pw_aload_n dX10_longSequence_180 rfl ?_
                  refine pw_get (v := .ref (B + 35)) okX10 (k := 38) (by decide) lkX10_113 hA40.1 rfl dX10_longSequence_181 ?_
                  refine pw_iload_n dX10_longSequence_184 rfl ?_
                  refine pw_zald (t := 1) rfl (mF38 hA40) (by first | omega | exact mCell_b hp ko (by omega) (by omega) | exact mHis_b hp (by omega) (by omega)) (by decide) dX10_longSequence_185 ?_
                  refine pw_if_eq (tgt := 198) dX10_longSequence_186 rfl (by omega) (fun c186 => ?_) (fun c186 => ?_)
                  ·
                    refine pw_aload_n dX10_longSequence_198 rfl ?_
                    refine pw_iload_n dX10_longSequence_199 rfl ?_
                    refine pw_iload_n dX10_longSequence_200 rfl ?_
                    refine pw_callV (As := [.int (zI (p)), .int (zI (b))]) (b := B) (rm := rmD 5 0 0) (mR_act htr hA40 hp hk40 (by omega)) rfl hA40.1 rfl rfl ywX10_act rfl cwX10_283 ⟨nle rfl, nle rfl⟩ (nle rfl) ⟨nle rfl, nle rfl⟩ dX10_longSequence_201 ?_ (fun _ _ _ z => z.elim)
                    intro r_9 h41 n_9 hq _
                    obtain ⟨e1, s41, hA41, hk41, hr410, hF410, e4⟩ := hq
                    rw [e1, e4]
                    show pw E YX10_longSequence _ _ 0 0 204 [some (.ref B), some (.int (zI (p))), some (.int (zI (b))), none] [] h41 n
                    have hr41 := mPr_tr hr40 hr410
                    have hF41 := mFr_tr hF40 hF410
                    obtain ⟨kw, kh, kr, kc, ksr, ksc, kt, ko, kwa, kin, kwr, khi, krd, knu, kgi, kas, kfr, kra, kco, kof, kip⟩ := id hk41
                    have e18 := congrFun (hr41.2.1 18 (by decide)) p.toNat
                    have e19 := congrFun (hr41.2.1 19 (by decide)) p.toNat
                    refine pw_aload_n dX10_longSequence_204 rfl ?_
                    refine pw_get (v := .ref (B + 36)) okX10 (k := 39) (by decide) lkX10_116 hA41.1 rfl dX10_longSequence_205 ?_
                    refine pw_iload_n dX10_longSequence_208 rfl ?_
                    refine pw_iconst (v := zI (0)) dX10_longSequence_209 (by decide) ?_
                    refine pw_zast (t := 1) rfl (mF39 hA41) (by first | omega | exact mCell_b hp ko (by omega) (by omega) | exact mHis_b hp (by omega) (by omega)) (by decide) (by omega) dX10_longSequence_210 ?_
                    have hA42 : mAt B (mA 39 (va_up (s41.2 39) (p).toNat (0)) s41) (va_up h41 (B + 36) (pz_z 1 8 (va_up (s41.2 39) (p).toNat (0)))) := mU39 hA41
                    have hk42 : mPk (mA 39 (va_up (s41.2 39) (p).toNat (0)) s41) p.toNat := mP39 hk41 (by omega)
                    have hr42 : mPr p.toNat s (mA 39 (va_up (s41.2 39) (p).toNat (0)) s41) := mPr_tr hr41 (mPr_W (by decide) (by decide) (by decide))
                    have hF42 : mFr B h (va_up h41 (B + 36) (pz_z 1 8 (va_up (s41.2 39) (p).toNat (0)))) := mFr_tr hF41 (mFr_up (by decide))
                    revert hA42 hk42 hr42 hF42 
                    generalize (mA 39 (va_up (s41.2 39) (p).toNat (0)) s41) = s42
                    generalize (va_up h41 (B + 36) (pz_z 1 8 (va_up (s41.2 39) (p).toNat (0)))) = h42
                    intro hA42 hk42 hr42 hF42 
                    obtain ⟨kw, kh, kr, kc, ksr, ksc, kt, ko, kwa, kin, kwr, khi, krd, knu, kgi, kas, kfr, kra, kco, kof, kip⟩ := id hk42
                    have e18 := congrFun (hr42.2.1 18 (by decide)) p.toNat
                    have e19 := congrFun (hr42.2.1 19 (by decide)) p.toNat
                    exact pw_vret dX10_longSequence_211 rfl (nle rfl) (nle rfl) ⟨rfl, s42, hA42, hk42, hr42, hF42, rfl⟩
                  ·
                    refine pw_aload_n dX10_longSequence_189 rfl ?_
                    refine pw_iload_n dX10_longSequence_190 rfl ?_
                    refine pw_iload_n dX10_longSequence_191 rfl ?_
                    refine pw_callV (As := [.int (zI (p)), .int (zI (b))]) (b := B) (rm := rmD 1 0 0) (mR_question htr hA40 hp hk40 (by omega)) rfl hA40.1 rfl rfl ywX10_question rfl cwX10_280 ⟨nle rfl, nle rfl⟩ (nle rfl) ⟨nle rfl, nle rfl⟩ dX10_longSequence_192 ?_ (fun _ _ _ z => z.elim)
                    intro r_9 h43 n_9 hq _
                    obtain ⟨e1, s43, hA43, hk43, hr430, hF430, e4⟩ := hq
                    rw [e1, e4]
                    show pw E YX10_longSequence _ _ 0 0 195 [some (.ref B), some (.int (zI (p))), some (.int (zI (b))), none] [] h43 n
                    have hr43 := mPr_tr hr40 hr430
                    have hF43 := mFr_tr hF40 hF430
                    obtain ⟨kw, kh, kr, kc, ksr, ksc, kt, ko, kwa, kin, kwr, khi, krd, knu, kgi, kas, kfr, kra, kco, kof, kip⟩ := id hk43
                    have e18 := congrFun (hr43.2.1 18 (by decide)) p.toNat
                    have e19 := congrFun (hr43.2.1 19 (by decide)) p.toNat
                    refine pw_goto (tgt := 204) dX10_longSequence_195 rfl ?_
                    refine pw_aload_n dX10_longSequence_204 rfl ?_
                    refine pw_get (v := .ref (B + 36)) okX10 (k := 39) (by decide) lkX10_116 hA43.1 rfl dX10_longSequence_205 ?_
                    refine pw_iload_n dX10_longSequence_208 rfl ?_
                    refine pw_iconst (v := zI (0)) dX10_longSequence_209 (by decide) ?_
                    refine pw_zast (t := 1) rfl (mF39 hA43) (by first | omega | exact mCell_b hp ko (by omega) (by omega) | exact mHis_b hp (by omega) (by omega)) (by decide) (by omega) dX10_longSequence_210 ?_
                    have hA44 : mAt B (mA 39 (va_up (s43.2 39) (p).toNat (0)) s43) (va_up h43 (B + 36) (pz_z 1 8 (va_up (s43.2 39) (p).toNat (0)))) := mU39 hA43
                    have hk44 : mPk (mA 39 (va_up (s43.2 39) (p).toNat (0)) s43) p.toNat := mP39 hk43 (by omega)
                    have hr44 : mPr p.toNat s (mA 39 (va_up (s43.2 39) (p).toNat (0)) s43) := mPr_tr hr43 (mPr_W (by decide) (by decide) (by decide))
                    have hF44 : mFr B h (va_up h43 (B + 36) (pz_z 1 8 (va_up (s43.2 39) (p).toNat (0)))) := mFr_tr hF43 (mFr_up (by decide))
                    revert hA44 hk44 hr44 hF44 
                    generalize (mA 39 (va_up (s43.2 39) (p).toNat (0)) s43) = s44
                    generalize (va_up h43 (B + 36) (pz_z 1 8 (va_up (s43.2 39) (p).toNat (0)))) = h44
                    intro hA44 hk44 hr44 hF44 
                    obtain ⟨kw, kh, kr, kc, ksr, ksc, kt, ko, kwa, kin, kwr, khi, krd, knu, kgi, kas, kfr, kra, kco, kof, kip⟩ := id hk44
                    have e18 := congrFun (hr44.2.1 18 (by decide)) p.toNat
                    have e19 := congrFun (hr44.2.1 19 (by decide)) p.toNat
                    exact pw_vret dX10_longSequence_211 rfl (nle rfl) (nle rfl) ⟨rfl, s44, hA44, hk44, hr44, hF44, rfl⟩
              ·
                refine pw_aload_n dX10_longSequence_133 rfl ?_
                refine pw_get (v := .ref (B + 34)) okX10 (k := 37) (by decide) lkX10_110 hA.1 rfl dX10_longSequence_134 ?_
                refine pw_iload_n dX10_longSequence_137 rfl ?_
                refine pw_aload_n dX10_longSequence_138 rfl ?_
                refine pw_get (v := .ref (B + 34)) okX10 (k := 37) (by decide) lkX10_110 hA.1 rfl dX10_longSequence_139 ?_
                refine pw_iload_n dX10_longSequence_142 rfl ?_
                refine pw_iald (t := 0) rfl (mF37 hA) (by first | omega | exact mCell_b hp ko (by omega) (by omega) | exact mHis_b hp (by omega) (by omega)) (by decide) dX10_longSequence_143 ?_
                refine pw_if_ne (tgt := 151) dX10_longSequence_144 rfl (by omega) (fun c144 => ?_) (fun c144 => ?_)
                ·
                  refine pw_iconst (v := zI (5)) dX10_longSequence_151 (by decide) ?_
                  refine pw_aload_n dX10_longSequence_152 rfl ?_
                  refine pw_get (v := .ref (B + 34)) okX10 (k := 37) (by decide) lkX10_110 hA.1 rfl dX10_longSequence_153 ?_
                  refine pw_iload_n dX10_longSequence_156 rfl ?_
                  refine pw_iald (t := 0) rfl (mF37 hA) (by first | omega | exact mCell_b hp ko (by omega) (by omega) | exact mHis_b hp (by omega) (by omega)) (by decide) dX10_longSequence_157 ?_
                  refine pw_iconst (v := zI (1)) dX10_longSequence_158 (by decide) ?_
                  refine pw_ziadd dX10_longSequence_159 ?_
                  refine pw_callS (As := [.int (zI (5)), .int (zI (((s.2 37) (p).toNat) + (1)))]) (rm := rmD 0 0 0) (mR_least htr (by omega) (by omega)) rfl ywX10_least rfl cwX10_192 ⟨nle rfl, nle rfl⟩ (nle rfl) ⟨nle rfl, nle rfl⟩ dX10_longSequence_160 ?_ (fun _ _ _ z => z.elim)
                  intro r_9 h_9 n_9 hq _
                  rw [hq.1, hq.2.1, hq.2.2]
                  show pw E YX10_longSequence _ _ 0 0 163 [some (.ref B), some (.int (zI (p))), some (.int (zI (b))), none] [.int (zI (min (5) (((s.2 37) (p).toNat) + (1)))), .int (zI (p)), .ref (B + 34)] h n
                  refine pw_iast (t := 0) rfl (mF37 hA) (by first | omega | exact mCell_b hp ko (by omega) (by omega) | exact mHis_b hp (by omega) (by omega)) (by decide) dX10_longSequence_163 ?_
                  have hA45 : mAt B (mA 37 (va_up (s.2 37) (p).toNat (min (5) (((s.2 37) (p).toNat) + (1)))) s) (va_up h (B + 34) (pz_z 0 8 (va_up (s.2 37) (p).toNat (min (5) (((s.2 37) (p).toNat) + (1)))))) := mU37 hA
                  have hk45 : mPk (mA 37 (va_up (s.2 37) (p).toNat (min (5) (((s.2 37) (p).toNat) + (1)))) s) p.toNat := mP37 hk (by omega)
                  have hr45 : mPr p.toNat s (mA 37 (va_up (s.2 37) (p).toNat (min (5) (((s.2 37) (p).toNat) + (1)))) s) := mPr_tr mPr_rf (mPr_W (by decide) (by decide) (by decide))
                  have hF45 : mFr B h (va_up h (B + 34) (pz_z 0 8 (va_up (s.2 37) (p).toNat (min (5) (((s.2 37) (p).toNat) + (1)))))) := mFr_tr mFr_rf (mFr_up (by decide))
                  have t37_45 : (mA 37 (va_up (s.2 37) (p).toNat (min (5) (((s.2 37) (p).toNat) + (1)))) s).2 37 p.toNat = min (5) (((s.2 37) (p).toNat) + (1)) := va_up_self _ _ _
                  revert hA45 hk45 hr45 hF45 t37_45
                  generalize (mA 37 (va_up (s.2 37) (p).toNat (min (5) (((s.2 37) (p).toNat) + (1)))) s) = s45
                  generalize (va_up h (B + 34) (pz_z 0 8 (va_up (s.2 37) (p).toNat (min (5) (((s.2 37) (p).toNat) + (1)))))) = h45
                  intro hA45 hk45 hr45 hF45 t37_45
                  obtain ⟨kw, kh, kr, kc, ksr, ksc, kt, ko, kwa, kin, kwr, khi, krd, knu, kgi, kas, kfr, kra, kco, kof, kip⟩ := id hk45
                  have e18 := congrFun (hr45.2.1 18 (by decide)) p.toNat
                  have e19 := congrFun (hr45.2.1 19 (by decide)) p.toNat
                  refine pw_goto (tgt := 204) dX10_longSequence_164 rfl ?_
                  refine pw_aload_n dX10_longSequence_204 rfl ?_
                  refine pw_get (v := .ref (B + 36)) okX10 (k := 39) (by decide) lkX10_116 hA45.1 rfl dX10_longSequence_205 ?_
                  refine pw_iload_n dX10_longSequence_208 rfl ?_
                  refine pw_iconst (v := zI (0)) dX10_longSequence_209 (by decide) ?_
                  refine pw_zast (t := 1) rfl (mF39 hA45) (by first | omega | exact mCell_b hp ko (by omega) (by omega) | exact mHis_b hp (by omega) (by omega)) (by decide) (by omega) dX10_longSequence_210 ?_
                  have hA46 : mAt B (mA 39 (va_up (s45.2 39) (p).toNat (0)) s45) (va_up h45 (B + 36) (pz_z 1 8 (va_up (s45.2 39) (p).toNat (0)))) := mU39 hA45
                  have hk46 : mPk (mA 39 (va_up (s45.2 39) (p).toNat (0)) s45) p.toNat := mP39 hk45 (by omega)
                  have hr46 : mPr p.toNat s (mA 39 (va_up (s45.2 39) (p).toNat (0)) s45) := mPr_tr hr45 (mPr_W (by decide) (by decide) (by decide))
                  have hF46 : mFr B h (va_up h45 (B + 36) (pz_z 1 8 (va_up (s45.2 39) (p).toNat (0)))) := mFr_tr hF45 (mFr_up (by decide))
                  have t37_46 : (mA 39 (va_up (s45.2 39) (p).toNat (0)) s45).2 37 p.toNat = min (5) (((s.2 37) (p).toNat) + (1)) := t37_45
                  revert hA46 hk46 hr46 hF46 t37_46
                  generalize (mA 39 (va_up (s45.2 39) (p).toNat (0)) s45) = s46
                  generalize (va_up h45 (B + 36) (pz_z 1 8 (va_up (s45.2 39) (p).toNat (0)))) = h46
                  intro hA46 hk46 hr46 hF46 t37_46
                  obtain ⟨kw, kh, kr, kc, ksr, ksc, kt, ko, kwa, kin, kwr, khi, krd, knu, kgi, kas, kfr, kra, kco, kof, kip⟩ := id hk46
                  have e18 := congrFun (hr46.2.1 18 (by decide)) p.toNat
                  have e19 := congrFun (hr46.2.1 19 (by decide)) p.toNat
                  exact pw_vret dX10_longSequence_211 rfl (nle rfl) (nle rfl) ⟨rfl, s46, hA46, hk46, hr46, hF46, rfl⟩
                ·
                  refine pw_iconst (v := zI (2)) dX10_longSequence_147 (by decide) ?_
                  refine pw_goto (tgt := 163) dX10_longSequence_148 rfl ?_
                  refine pw_iast (t := 0) rfl (mF37 hA) (by first | omega | exact mCell_b hp ko (by omega) (by omega) | exact mHis_b hp (by omega) (by omega)) (by decide) dX10_longSequence_163 ?_
                  have hA47 : mAt B (mA 37 (va_up (s.2 37) (p).toNat (2)) s) (va_up h (B + 34) (pz_z 0 8 (va_up (s.2 37) (p).toNat (2)))) := mU37 hA
                  have hk47 : mPk (mA 37 (va_up (s.2 37) (p).toNat (2)) s) p.toNat := mP37 hk (by omega)
                  have hr47 : mPr p.toNat s (mA 37 (va_up (s.2 37) (p).toNat (2)) s) := mPr_tr mPr_rf (mPr_W (by decide) (by decide) (by decide))
                  have hF47 : mFr B h (va_up h (B + 34) (pz_z 0 8 (va_up (s.2 37) (p).toNat (2)))) := mFr_tr mFr_rf (mFr_up (by decide))
                  have t37_47 : (mA 37 (va_up (s.2 37) (p).toNat (2)) s).2 37 p.toNat = 2 := va_up_self _ _ _
                  revert hA47 hk47 hr47 hF47 t37_47
                  generalize (mA 37 (va_up (s.2 37) (p).toNat (2)) s) = s47
                  generalize (va_up h (B + 34) (pz_z 0 8 (va_up (s.2 37) (p).toNat (2)))) = h47
                  intro hA47 hk47 hr47 hF47 t37_47
                  obtain ⟨kw, kh, kr, kc, ksr, ksc, kt, ko, kwa, kin, kwr, khi, krd, knu, kgi, kas, kfr, kra, kco, kof, kip⟩ := id hk47
                  have e18 := congrFun (hr47.2.1 18 (by decide)) p.toNat
                  have e19 := congrFun (hr47.2.1 19 (by decide)) p.toNat
                  refine pw_goto (tgt := 204) dX10_longSequence_164 rfl ?_
                  refine pw_aload_n dX10_longSequence_204 rfl ?_
                  refine pw_get (v := .ref (B + 36)) okX10 (k := 39) (by decide) lkX10_116 hA47.1 rfl dX10_longSequence_205 ?_
                  refine pw_iload_n dX10_longSequence_208 rfl ?_
                  refine pw_iconst (v := zI (0)) dX10_longSequence_209 (by decide) ?_
                  refine pw_zast (t := 1) rfl (mF39 hA47) (by first | omega | exact mCell_b hp ko (by omega) (by omega) | exact mHis_b hp (by omega) (by omega)) (by decide) (by omega) dX10_longSequence_210 ?_
                  have hA48 : mAt B (mA 39 (va_up (s47.2 39) (p).toNat (0)) s47) (va_up h47 (B + 36) (pz_z 1 8 (va_up (s47.2 39) (p).toNat (0)))) := mU39 hA47
                  have hk48 : mPk (mA 39 (va_up (s47.2 39) (p).toNat (0)) s47) p.toNat := mP39 hk47 (by omega)
                  have hr48 : mPr p.toNat s (mA 39 (va_up (s47.2 39) (p).toNat (0)) s47) := mPr_tr hr47 (mPr_W (by decide) (by decide) (by decide))
                  have hF48 : mFr B h (va_up h47 (B + 36) (pz_z 1 8 (va_up (s47.2 39) (p).toNat (0)))) := mFr_tr hF47 (mFr_up (by decide))
                  have t37_48 : (mA 39 (va_up (s47.2 39) (p).toNat (0)) s47).2 37 p.toNat = 2 := t37_47
                  revert hA48 hk48 hr48 hF48 t37_48
                  generalize (mA 39 (va_up (s47.2 39) (p).toNat (0)) s47) = s48
                  generalize (va_up h47 (B + 36) (pz_z 1 8 (va_up (s47.2 39) (p).toNat (0)))) = h48
                  intro hA48 hk48 hr48 hF48 t37_48
                  obtain ⟨kw, kh, kr, kc, ksr, ksc, kt, ko, kwa, kin, kwr, khi, krd, knu, kgi, kas, kfr, kra, kco, kof, kip⟩ := id hk48
                  have e18 := congrFun (hr48.2.1 18 (by decide)) p.toNat
                  have e19 := congrFun (hr48.2.1 19 (by decide)) p.toNat
                  exact pw_vret dX10_longSequence_211 rfl (nle rfl) (nle rfl) ⟨rfl, s48, hA48, hk48, hr48, hF48, rfl⟩
            ·
              refine pw_aload_n dX10_longSequence_50 rfl ?_
              refine pw_get (v := .ref (B + 34)) okX10 (k := 37) (by decide) lkX10_110 hA.1 rfl dX10_longSequence_51 ?_
              refine pw_iload_n dX10_longSequence_54 rfl ?_
              refine pw_aload_n dX10_longSequence_55 rfl ?_
              refine pw_get (v := .ref (B + 34)) okX10 (k := 37) (by decide) lkX10_110 hA.1 rfl dX10_longSequence_56 ?_
              refine pw_iload_n dX10_longSequence_59 rfl ?_
              refine pw_iald (t := 0) rfl (mF37 hA) (by first | omega | exact mCell_b hp ko (by omega) (by omega) | exact mHis_b hp (by omega) (by omega)) (by decide) dX10_longSequence_60 ?_
              refine pw_if_ne (tgt := 68) dX10_longSequence_61 rfl (by omega) (fun c61 => ?_) (fun c61 => ?_)
              ·
                refine pw_aload_n dX10_longSequence_68 rfl ?_
                refine pw_get (v := .ref (B + 34)) okX10 (k := 37) (by decide) lkX10_110 hA.1 rfl dX10_longSequence_69 ?_
                refine pw_iload_n dX10_longSequence_72 rfl ?_
                refine pw_iald (t := 0) rfl (mF37 hA) (by first | omega | exact mCell_b hp ko (by omega) (by omega) | exact mHis_b hp (by omega) (by omega)) (by decide) dX10_longSequence_73 ?_
                refine pw_iast (t := 0) rfl (mF37 hA) (by first | omega | exact mCell_b hp ko (by omega) (by omega) | exact mHis_b hp (by omega) (by omega)) (by decide) dX10_longSequence_74 ?_
                have hA49 : mAt B (mA 37 (va_up (s.2 37) (p).toNat ((s.2 37) (p).toNat)) s) (va_up h (B + 34) (pz_z 0 8 (va_up (s.2 37) (p).toNat ((s.2 37) (p).toNat)))) := mU37 hA
                have hk49 : mPk (mA 37 (va_up (s.2 37) (p).toNat ((s.2 37) (p).toNat)) s) p.toNat := mP37 hk (by omega)
                have hr49 : mPr p.toNat s (mA 37 (va_up (s.2 37) (p).toNat ((s.2 37) (p).toNat)) s) := mPr_tr mPr_rf (mPr_W (by decide) (by decide) (by decide))
                have hF49 : mFr B h (va_up h (B + 34) (pz_z 0 8 (va_up (s.2 37) (p).toNat ((s.2 37) (p).toNat)))) := mFr_tr mFr_rf (mFr_up (by decide))
                have t37_49 : (mA 37 (va_up (s.2 37) (p).toNat ((s.2 37) (p).toNat)) s).2 37 p.toNat = (s.2 37) (p).toNat := va_up_self _ _ _
                revert hA49 hk49 hr49 hF49 t37_49
                generalize (mA 37 (va_up (s.2 37) (p).toNat ((s.2 37) (p).toNat)) s) = s49
                generalize (va_up h (B + 34) (pz_z 0 8 (va_up (s.2 37) (p).toNat ((s.2 37) (p).toNat)))) = h49
                intro hA49 hk49 hr49 hF49 t37_49
                obtain ⟨kw, kh, kr, kc, ksr, ksc, kt, ko, kwa, kin, kwr, khi, krd, knu, kgi, kas, kfr, kra, kco, kof, kip⟩ := id hk49
                have e18 := congrFun (hr49.2.1 18 (by decide)) p.toNat
                have e19 := congrFun (hr49.2.1 19 (by decide)) p.toNat
                refine pw_iconst (v := zI (4)) dX10_longSequence_75 (by decide) ?_
                refine pw_iload_n dX10_longSequence_76 rfl ?_
                refine pw_zimul dX10_longSequence_77 ?_
                refine pw_aload_n dX10_longSequence_78 rfl ?_
                refine pw_get (v := .ref (B + 34)) okX10 (k := 37) (by decide) lkX10_110 hA49.1 rfl dX10_longSequence_79 ?_
                refine pw_iload_n dX10_longSequence_82 rfl ?_
                refine pw_iald (t := 0) rfl (mF37 hA49) (by first | omega | exact mCell_b hp ko (by omega) (by omega) | exact mHis_b hp (by omega) (by omega)) (by decide) dX10_longSequence_83 ?_
                refine pw_ziadd dX10_longSequence_84 ?_
                refine pw_iconst (v := zI (1)) dX10_longSequence_85 (by decide) ?_
                refine pw_zisub dX10_longSequence_86 ?_
                refine pw_istore_n (lv' := [some (.ref B), some (.int (zI (p))), some (.int (zI (b))), some (.int (zI (((4 * p) + ((s49.2 37) (p).toNat)) - (1))))]) dX10_longSequence_87 (by decide) rfl rfl ?_
                refine pw_aload_n dX10_longSequence_88 rfl ?_
                refine pw_get (v := .ref (B + 34)) okX10 (k := 37) (by decide) lkX10_110 hA49.1 rfl dX10_longSequence_89 ?_
                refine pw_iload_n dX10_longSequence_92 rfl ?_
                refine pw_iald (t := 0) rfl (mF37 hA49) (by first | omega | exact mCell_b hp ko (by omega) (by omega) | exact mHis_b hp (by omega) (by omega)) (by decide) dX10_longSequence_93 ?_
                refine pw_iconst (v := zI (4)) dX10_longSequence_94 (by decide) ?_
                refine pw_icmp_gt (tgt := 124) dX10_longSequence_95 rfl (by omega) (by omega) (fun c95 => ?_) (fun c95 => ?_)
                ·
                  refine pw_goto (tgt := 204) dX10_longSequence_124 rfl ?_
                  refine pw_aload_n dX10_longSequence_204 rfl ?_
                  refine pw_get (v := .ref (B + 36)) okX10 (k := 39) (by decide) lkX10_116 hA49.1 rfl dX10_longSequence_205 ?_
                  refine pw_iload_n dX10_longSequence_208 rfl ?_
                  refine pw_iconst (v := zI (0)) dX10_longSequence_209 (by decide) ?_
                  refine pw_zast (t := 1) rfl (mF39 hA49) (by first | omega | exact mCell_b hp ko (by omega) (by omega) | exact mHis_b hp (by omega) (by omega)) (by decide) (by omega) dX10_longSequence_210 ?_
                  have hA50 : mAt B (mA 39 (va_up (s49.2 39) (p).toNat (0)) s49) (va_up h49 (B + 36) (pz_z 1 8 (va_up (s49.2 39) (p).toNat (0)))) := mU39 hA49
                  have hk50 : mPk (mA 39 (va_up (s49.2 39) (p).toNat (0)) s49) p.toNat := mP39 hk49 (by omega)
                  have hr50 : mPr p.toNat s (mA 39 (va_up (s49.2 39) (p).toNat (0)) s49) := mPr_tr hr49 (mPr_W (by decide) (by decide) (by decide))
                  have hF50 : mFr B h (va_up h49 (B + 36) (pz_z 1 8 (va_up (s49.2 39) (p).toNat (0)))) := mFr_tr hF49 (mFr_up (by decide))
                  have t37_50 : (mA 39 (va_up (s49.2 39) (p).toNat (0)) s49).2 37 p.toNat = (s.2 37) (p).toNat := t37_49
                  revert hA50 hk50 hr50 hF50 t37_50
                  generalize (mA 39 (va_up (s49.2 39) (p).toNat (0)) s49) = s50
                  generalize (va_up h49 (B + 36) (pz_z 1 8 (va_up (s49.2 39) (p).toNat (0)))) = h50
                  intro hA50 hk50 hr50 hF50 t37_50
                  obtain ⟨kw, kh, kr, kc, ksr, ksc, kt, ko, kwa, kin, kwr, khi, krd, knu, kgi, kas, kfr, kra, kco, kof, kip⟩ := id hk50
                  have e18 := congrFun (hr50.2.1 18 (by decide)) p.toNat
                  have e19 := congrFun (hr50.2.1 19 (by decide)) p.toNat
                  exact pw_vret dX10_longSequence_211 rfl (nle rfl) (nle rfl) ⟨rfl, s50, hA50, hk50, hr50, hF50, rfl⟩
                ·
                  refine pw_aload_n dX10_longSequence_98 rfl ?_
                  refine pw_get (v := .ref (B + 33)) okX10 (k := 36) (by decide) lkX10_107 hA49.1 rfl dX10_longSequence_99 ?_
                  refine pw_iload_n dX10_longSequence_102 rfl ?_
                  refine pw_sipush (v := zI (999)) dX10_longSequence_103 (by decide) ?_
                  refine pw_bipush (v := zI (10)) dX10_longSequence_106 (by decide) ?_
                  refine pw_aload_n dX10_longSequence_108 rfl ?_
                  refine pw_get (v := .ref (B + 33)) okX10 (k := 36) (by decide) lkX10_107 hA49.1 rfl dX10_longSequence_109 ?_
                  refine pw_iload_n dX10_longSequence_112 rfl ?_
                  refine pw_iald (t := 0) rfl (mF36 hA49) (by first | omega | exact mCell_b hp ko (by omega) (by omega) | exact mHis_b hp (by omega) (by omega)) (by decide) dX10_longSequence_113 ?_
                  have hn114 := mNu (e := ((4 * p) + ((s49.2 37) (p).toNat)) - (1)) hk49 hp (by omega)
                  refine pw_zimul dX10_longSequence_114 ?_
                  refine pw_iload_n dX10_longSequence_115 rfl ?_
                  refine pw_ziadd dX10_longSequence_116 ?_
                  refine pw_bipush (v := zI (48)) dX10_longSequence_117 (by decide) ?_
                  refine pw_zisub dX10_longSequence_119 ?_
                  refine pw_callS (As := [.int (zI (999)), .int (zI ((((10) * ((s49.2 36) (((4 * p) + ((s49.2 37) (p).toNat)) - (1)).toNat)) + (b)) - (48)))]) (rm := rmD 0 0 0) (mR_least htr (by omega) (by omega)) rfl ywX10_least rfl cwX10_192 ⟨nle rfl, nle rfl⟩ (nle rfl) ⟨nle rfl, nle rfl⟩ dX10_longSequence_120 ?_ (fun _ _ _ z => z.elim)
                  intro r_9 h_9 n_9 hq _
                  rw [hq.1, hq.2.1, hq.2.2]
                  show pw E YX10_longSequence _ _ 0 0 123 [some (.ref B), some (.int (zI (p))), some (.int (zI (b))), some (.int (zI (((4 * p) + ((s49.2 37) (p).toNat)) - (1))))] [.int (zI (min (999) ((((10) * ((s49.2 36) (((4 * p) + ((s49.2 37) (p).toNat)) - (1)).toNat)) + (b)) - (48)))), .int (zI (((4 * p) + ((s49.2 37) (p).toNat)) - (1))), .ref (B + 33)] h49 n
                  refine pw_iast (t := 0) rfl (mF36 hA49) (by first | omega | exact mCell_b hp ko (by omega) (by omega) | exact mHis_b hp (by omega) (by omega)) (by decide) dX10_longSequence_123 ?_
                  have hA51 : mAt B (mA 36 (va_up (s49.2 36) (((4 * p) + ((s49.2 37) (p).toNat)) - (1)).toNat (min (999) ((((10) * ((s49.2 36) (((4 * p) + ((s49.2 37) (p).toNat)) - (1)).toNat)) + (b)) - (48)))) s49) (va_up h49 (B + 33) (pz_z 0 32 (va_up (s49.2 36) (((4 * p) + ((s49.2 37) (p).toNat)) - (1)).toNat (min (999) ((((10) * ((s49.2 36) (((4 * p) + ((s49.2 37) (p).toNat)) - (1)).toNat)) + (b)) - (48)))))) := mU36 hA49
                  have hk51 : mPk (mA 36 (va_up (s49.2 36) (((4 * p) + ((s49.2 37) (p).toNat)) - (1)).toNat (min (999) ((((10) * ((s49.2 36) (((4 * p) + ((s49.2 37) (p).toNat)) - (1)).toNat)) + (b)) - (48)))) s49) p.toNat := mP36 hk49 (by omega) (by omega)
                  have hr51 : mPr p.toNat s (mA 36 (va_up (s49.2 36) (((4 * p) + ((s49.2 37) (p).toNat)) - (1)).toNat (min (999) ((((10) * ((s49.2 36) (((4 * p) + ((s49.2 37) (p).toNat)) - (1)).toNat)) + (b)) - (48)))) s49) := mPr_tr hr49 (mPr_N (by omega))
                  have hF51 : mFr B h (va_up h49 (B + 33) (pz_z 0 32 (va_up (s49.2 36) (((4 * p) + ((s49.2 37) (p).toNat)) - (1)).toNat (min (999) ((((10) * ((s49.2 36) (((4 * p) + ((s49.2 37) (p).toNat)) - (1)).toNat)) + (b)) - (48)))))) := mFr_tr hF49 (mFr_up (by decide))
                  have t37_51 : (mA 36 (va_up (s49.2 36) (((4 * p) + ((s49.2 37) (p).toNat)) - (1)).toNat (min (999) ((((10) * ((s49.2 36) (((4 * p) + ((s49.2 37) (p).toNat)) - (1)).toNat)) + (b)) - (48)))) s49).2 37 p.toNat = (s.2 37) (p).toNat := t37_49
                  revert hA51 hk51 hr51 hF51 t37_51
                  generalize (mA 36 (va_up (s49.2 36) (((4 * p) + ((s49.2 37) (p).toNat)) - (1)).toNat (min (999) ((((10) * ((s49.2 36) (((4 * p) + ((s49.2 37) (p).toNat)) - (1)).toNat)) + (b)) - (48)))) s49) = s51
                  generalize (va_up h49 (B + 33) (pz_z 0 32 (va_up (s49.2 36) (((4 * p) + ((s49.2 37) (p).toNat)) - (1)).toNat (min (999) ((((10) * ((s49.2 36) (((4 * p) + ((s49.2 37) (p).toNat)) - (1)).toNat)) + (b)) - (48)))))) = h51
                  intro hA51 hk51 hr51 hF51 t37_51
                  obtain ⟨kw, kh, kr, kc, ksr, ksc, kt, ko, kwa, kin, kwr, khi, krd, knu, kgi, kas, kfr, kra, kco, kof, kip⟩ := id hk51
                  have e18 := congrFun (hr51.2.1 18 (by decide)) p.toNat
                  have e19 := congrFun (hr51.2.1 19 (by decide)) p.toNat
                  refine pw_goto (tgt := 204) dX10_longSequence_124 rfl ?_
                  refine pw_aload_n dX10_longSequence_204 rfl ?_
                  refine pw_get (v := .ref (B + 36)) okX10 (k := 39) (by decide) lkX10_116 hA51.1 rfl dX10_longSequence_205 ?_
                  refine pw_iload_n dX10_longSequence_208 rfl ?_
                  refine pw_iconst (v := zI (0)) dX10_longSequence_209 (by decide) ?_
                  refine pw_zast (t := 1) rfl (mF39 hA51) (by first | omega | exact mCell_b hp ko (by omega) (by omega) | exact mHis_b hp (by omega) (by omega)) (by decide) (by omega) dX10_longSequence_210 ?_
                  have hA52 : mAt B (mA 39 (va_up (s51.2 39) (p).toNat (0)) s51) (va_up h51 (B + 36) (pz_z 1 8 (va_up (s51.2 39) (p).toNat (0)))) := mU39 hA51
                  have hk52 : mPk (mA 39 (va_up (s51.2 39) (p).toNat (0)) s51) p.toNat := mP39 hk51 (by omega)
                  have hr52 : mPr p.toNat s (mA 39 (va_up (s51.2 39) (p).toNat (0)) s51) := mPr_tr hr51 (mPr_W (by decide) (by decide) (by decide))
                  have hF52 : mFr B h (va_up h51 (B + 36) (pz_z 1 8 (va_up (s51.2 39) (p).toNat (0)))) := mFr_tr hF51 (mFr_up (by decide))
                  have t37_52 : (mA 39 (va_up (s51.2 39) (p).toNat (0)) s51).2 37 p.toNat = (s.2 37) (p).toNat := t37_51
                  revert hA52 hk52 hr52 hF52 t37_52
                  generalize (mA 39 (va_up (s51.2 39) (p).toNat (0)) s51) = s52
                  generalize (va_up h51 (B + 36) (pz_z 1 8 (va_up (s51.2 39) (p).toNat (0)))) = h52
                  intro hA52 hk52 hr52 hF52 t37_52
                  obtain ⟨kw, kh, kr, kc, ksr, ksc, kt, ko, kwa, kin, kwr, khi, krd, knu, kgi, kas, kfr, kra, kco, kof, kip⟩ := id hk52
                  have e18 := congrFun (hr52.2.1 18 (by decide)) p.toNat
                  have e19 := congrFun (hr52.2.1 19 (by decide)) p.toNat
                  exact pw_vret dX10_longSequence_211 rfl (nle rfl) (nle rfl) ⟨rfl, s52, hA52, hk52, hr52, hF52, rfl⟩
              ·
                refine pw_iconst (v := zI (1)) dX10_longSequence_64 (by decide) ?_
                refine pw_goto (tgt := 74) dX10_longSequence_65 rfl ?_
                refine pw_iast (t := 0) rfl (mF37 hA) (by first | omega | exact mCell_b hp ko (by omega) (by omega) | exact mHis_b hp (by omega) (by omega)) (by decide) dX10_longSequence_74 ?_
                have hA53 : mAt B (mA 37 (va_up (s.2 37) (p).toNat (1)) s) (va_up h (B + 34) (pz_z 0 8 (va_up (s.2 37) (p).toNat (1)))) := mU37 hA
                have hk53 : mPk (mA 37 (va_up (s.2 37) (p).toNat (1)) s) p.toNat := mP37 hk (by omega)
                have hr53 : mPr p.toNat s (mA 37 (va_up (s.2 37) (p).toNat (1)) s) := mPr_tr mPr_rf (mPr_W (by decide) (by decide) (by decide))
                have hF53 : mFr B h (va_up h (B + 34) (pz_z 0 8 (va_up (s.2 37) (p).toNat (1)))) := mFr_tr mFr_rf (mFr_up (by decide))
                have t37_53 : (mA 37 (va_up (s.2 37) (p).toNat (1)) s).2 37 p.toNat = 1 := va_up_self _ _ _
                revert hA53 hk53 hr53 hF53 t37_53
                generalize (mA 37 (va_up (s.2 37) (p).toNat (1)) s) = s53
                generalize (va_up h (B + 34) (pz_z 0 8 (va_up (s.2 37) (p).toNat (1)))) = h53
                intro hA53 hk53 hr53 hF53 t37_53
                obtain ⟨kw, kh, kr, kc, ksr, ksc, kt, ko, kwa, kin, kwr, khi, krd, knu, kgi, kas, kfr, kra, kco, kof, kip⟩ := id hk53
                have e18 := congrFun (hr53.2.1 18 (by decide)) p.toNat
                have e19 := congrFun (hr53.2.1 19 (by decide)) p.toNat
                refine pw_iconst (v := zI (4)) dX10_longSequence_75 (by decide) ?_
                refine pw_iload_n dX10_longSequence_76 rfl ?_
                refine pw_zimul dX10_longSequence_77 ?_
                refine pw_aload_n dX10_longSequence_78 rfl ?_
                refine pw_get (v := .ref (B + 34)) okX10 (k := 37) (by decide) lkX10_110 hA53.1 rfl dX10_longSequence_79 ?_
                refine pw_iload_n dX10_longSequence_82 rfl ?_
                refine pw_iald (t := 0) rfl (mF37 hA53) (by first | omega | exact mCell_b hp ko (by omega) (by omega) | exact mHis_b hp (by omega) (by omega)) (by decide) dX10_longSequence_83 ?_
                refine pw_ziadd dX10_longSequence_84 ?_
                refine pw_iconst (v := zI (1)) dX10_longSequence_85 (by decide) ?_
                refine pw_zisub dX10_longSequence_86 ?_
                refine pw_istore_n (lv' := [some (.ref B), some (.int (zI (p))), some (.int (zI (b))), some (.int (zI (((4 * p) + ((s53.2 37) (p).toNat)) - (1))))]) dX10_longSequence_87 (by decide) rfl rfl ?_
                refine pw_aload_n dX10_longSequence_88 rfl ?_
                refine pw_get (v := .ref (B + 34)) okX10 (k := 37) (by decide) lkX10_110 hA53.1 rfl dX10_longSequence_89 ?_
                refine pw_iload_n dX10_longSequence_92 rfl ?_
                refine pw_iald (t := 0) rfl (mF37 hA53) (by first | omega | exact mCell_b hp ko (by omega) (by omega) | exact mHis_b hp (by omega) (by omega)) (by decide) dX10_longSequence_93 ?_
                refine pw_iconst (v := zI (4)) dX10_longSequence_94 (by decide) ?_
                refine pw_icmp_gt (tgt := 124) dX10_longSequence_95 rfl (by omega) (by omega) (fun c95 => ?_) (fun c95 => ?_)
                ·
                  refine pw_goto (tgt := 204) dX10_longSequence_124 rfl ?_
                  refine pw_aload_n dX10_longSequence_204 rfl ?_
                  refine pw_get (v := .ref (B + 36)) okX10 (k := 39) (by decide) lkX10_116 hA53.1 rfl dX10_longSequence_205 ?_
                  refine pw_iload_n dX10_longSequence_208 rfl ?_
                  refine pw_iconst (v := zI (0)) dX10_longSequence_209 (by decide) ?_
                  refine pw_zast (t := 1) rfl (mF39 hA53) (by first | omega | exact mCell_b hp ko (by omega) (by omega) | exact mHis_b hp (by omega) (by omega)) (by decide) (by omega) dX10_longSequence_210 ?_
                  have hA54 : mAt B (mA 39 (va_up (s53.2 39) (p).toNat (0)) s53) (va_up h53 (B + 36) (pz_z 1 8 (va_up (s53.2 39) (p).toNat (0)))) := mU39 hA53
                  have hk54 : mPk (mA 39 (va_up (s53.2 39) (p).toNat (0)) s53) p.toNat := mP39 hk53 (by omega)
                  have hr54 : mPr p.toNat s (mA 39 (va_up (s53.2 39) (p).toNat (0)) s53) := mPr_tr hr53 (mPr_W (by decide) (by decide) (by decide))
                  have hF54 : mFr B h (va_up h53 (B + 36) (pz_z 1 8 (va_up (s53.2 39) (p).toNat (0)))) := mFr_tr hF53 (mFr_up (by decide))
                  have t37_54 : (mA 39 (va_up (s53.2 39) (p).toNat (0)) s53).2 37 p.toNat = 1 := t37_53
                  revert hA54 hk54 hr54 hF54 t37_54
                  generalize (mA 39 (va_up (s53.2 39) (p).toNat (0)) s53) = s54
                  generalize (va_up h53 (B + 36) (pz_z 1 8 (va_up (s53.2 39) (p).toNat (0)))) = h54
                  intro hA54 hk54 hr54 hF54 t37_54
                  obtain ⟨kw, kh, kr, kc, ksr, ksc, kt, ko, kwa, kin, kwr, khi, krd, knu, kgi, kas, kfr, kra, kco, kof, kip⟩ := id hk54
                  have e18 := congrFun (hr54.2.1 18 (by decide)) p.toNat
                  have e19 := congrFun (hr54.2.1 19 (by decide)) p.toNat
                  exact pw_vret dX10_longSequence_211 rfl (nle rfl) (nle rfl) ⟨rfl, s54, hA54, hk54, hr54, hF54, rfl⟩
                ·
                  refine pw_aload_n dX10_longSequence_98 rfl ?_
                  refine pw_get (v := .ref (B + 33)) okX10 (k := 36) (by decide) lkX10_107 hA53.1 rfl dX10_longSequence_99 ?_
                  refine pw_iload_n dX10_longSequence_102 rfl ?_
                  refine pw_sipush (v := zI (999)) dX10_longSequence_103 (by decide) ?_
                  refine pw_bipush (v := zI (10)) dX10_longSequence_106 (by decide) ?_
                  refine pw_aload_n dX10_longSequence_108 rfl ?_
                  refine pw_get (v := .ref (B + 33)) okX10 (k := 36) (by decide) lkX10_107 hA53.1 rfl dX10_longSequence_109 ?_
                  refine pw_iload_n dX10_longSequence_112 rfl ?_
                  refine pw_iald (t := 0) rfl (mF36 hA53) (by first | omega | exact mCell_b hp ko (by omega) (by omega) | exact mHis_b hp (by omega) (by omega)) (by decide) dX10_longSequence_113 ?_
                  have hn114 := mNu (e := ((4 * p) + ((s53.2 37) (p).toNat)) - (1)) hk53 hp (by omega)
                  refine pw_zimul dX10_longSequence_114 ?_
                  refine pw_iload_n dX10_longSequence_115 rfl ?_
                  refine pw_ziadd dX10_longSequence_116 ?_
                  refine pw_bipush (v := zI (48)) dX10_longSequence_117 (by decide) ?_
                  refine pw_zisub dX10_longSequence_119 ?_
                  refine pw_callS (As := [.int (zI (999)), .int (zI ((((10) * ((s53.2 36) (((4 * p) + ((s53.2 37) (p).toNat)) - (1)).toNat)) + (b)) - (48)))]) (rm := rmD 0 0 0) (mR_least htr (by omega) (by omega)) rfl ywX10_least rfl cwX10_192 ⟨nle rfl, nle rfl⟩ (nle rfl) ⟨nle rfl, nle rfl⟩ dX10_longSequence_120 ?_ (fun _ _ _ z => z.elim)
                  intro r_9 h_9 n_9 hq _
                  rw [hq.1, hq.2.1, hq.2.2]
                  show pw E YX10_longSequence _ _ 0 0 123 [some (.ref B), some (.int (zI (p))), some (.int (zI (b))), some (.int (zI (((4 * p) + ((s53.2 37) (p).toNat)) - (1))))] [.int (zI (min (999) ((((10) * ((s53.2 36) (((4 * p) + ((s53.2 37) (p).toNat)) - (1)).toNat)) + (b)) - (48)))), .int (zI (((4 * p) + ((s53.2 37) (p).toNat)) - (1))), .ref (B + 33)] h53 n
                  refine pw_iast (t := 0) rfl (mF36 hA53) (by first | omega | exact mCell_b hp ko (by omega) (by omega) | exact mHis_b hp (by omega) (by omega)) (by decide) dX10_longSequence_123 ?_
                  have hA55 : mAt B (mA 36 (va_up (s53.2 36) (((4 * p) + ((s53.2 37) (p).toNat)) - (1)).toNat (min (999) ((((10) * ((s53.2 36) (((4 * p) + ((s53.2 37) (p).toNat)) - (1)).toNat)) + (b)) - (48)))) s53) (va_up h53 (B + 33) (pz_z 0 32 (va_up (s53.2 36) (((4 * p) + ((s53.2 37) (p).toNat)) - (1)).toNat (min (999) ((((10) * ((s53.2 36) (((4 * p) + ((s53.2 37) (p).toNat)) - (1)).toNat)) + (b)) - (48)))))) := mU36 hA53
                  have hk55 : mPk (mA 36 (va_up (s53.2 36) (((4 * p) + ((s53.2 37) (p).toNat)) - (1)).toNat (min (999) ((((10) * ((s53.2 36) (((4 * p) + ((s53.2 37) (p).toNat)) - (1)).toNat)) + (b)) - (48)))) s53) p.toNat := mP36 hk53 (by omega) (by omega)
                  have hr55 : mPr p.toNat s (mA 36 (va_up (s53.2 36) (((4 * p) + ((s53.2 37) (p).toNat)) - (1)).toNat (min (999) ((((10) * ((s53.2 36) (((4 * p) + ((s53.2 37) (p).toNat)) - (1)).toNat)) + (b)) - (48)))) s53) := mPr_tr hr53 (mPr_N (by omega))
                  have hF55 : mFr B h (va_up h53 (B + 33) (pz_z 0 32 (va_up (s53.2 36) (((4 * p) + ((s53.2 37) (p).toNat)) - (1)).toNat (min (999) ((((10) * ((s53.2 36) (((4 * p) + ((s53.2 37) (p).toNat)) - (1)).toNat)) + (b)) - (48)))))) := mFr_tr hF53 (mFr_up (by decide))
                  have t37_55 : (mA 36 (va_up (s53.2 36) (((4 * p) + ((s53.2 37) (p).toNat)) - (1)).toNat (min (999) ((((10) * ((s53.2 36) (((4 * p) + ((s53.2 37) (p).toNat)) - (1)).toNat)) + (b)) - (48)))) s53).2 37 p.toNat = 1 := t37_53
                  revert hA55 hk55 hr55 hF55 t37_55
                  generalize (mA 36 (va_up (s53.2 36) (((4 * p) + ((s53.2 37) (p).toNat)) - (1)).toNat (min (999) ((((10) * ((s53.2 36) (((4 * p) + ((s53.2 37) (p).toNat)) - (1)).toNat)) + (b)) - (48)))) s53) = s55
                  generalize (va_up h53 (B + 33) (pz_z 0 32 (va_up (s53.2 36) (((4 * p) + ((s53.2 37) (p).toNat)) - (1)).toNat (min (999) ((((10) * ((s53.2 36) (((4 * p) + ((s53.2 37) (p).toNat)) - (1)).toNat)) + (b)) - (48)))))) = h55
                  intro hA55 hk55 hr55 hF55 t37_55
                  obtain ⟨kw, kh, kr, kc, ksr, ksc, kt, ko, kwa, kin, kwr, khi, krd, knu, kgi, kas, kfr, kra, kco, kof, kip⟩ := id hk55
                  have e18 := congrFun (hr55.2.1 18 (by decide)) p.toNat
                  have e19 := congrFun (hr55.2.1 19 (by decide)) p.toNat
                  refine pw_goto (tgt := 204) dX10_longSequence_124 rfl ?_
                  refine pw_aload_n dX10_longSequence_204 rfl ?_
                  refine pw_get (v := .ref (B + 36)) okX10 (k := 39) (by decide) lkX10_116 hA55.1 rfl dX10_longSequence_205 ?_
                  refine pw_iload_n dX10_longSequence_208 rfl ?_
                  refine pw_iconst (v := zI (0)) dX10_longSequence_209 (by decide) ?_
                  refine pw_zast (t := 1) rfl (mF39 hA55) (by first | omega | exact mCell_b hp ko (by omega) (by omega) | exact mHis_b hp (by omega) (by omega)) (by decide) (by omega) dX10_longSequence_210 ?_
                  have hA56 : mAt B (mA 39 (va_up (s55.2 39) (p).toNat (0)) s55) (va_up h55 (B + 36) (pz_z 1 8 (va_up (s55.2 39) (p).toNat (0)))) := mU39 hA55
                  have hk56 : mPk (mA 39 (va_up (s55.2 39) (p).toNat (0)) s55) p.toNat := mP39 hk55 (by omega)
                  have hr56 : mPr p.toNat s (mA 39 (va_up (s55.2 39) (p).toNat (0)) s55) := mPr_tr hr55 (mPr_W (by decide) (by decide) (by decide))
                  have hF56 : mFr B h (va_up h55 (B + 36) (pz_z 1 8 (va_up (s55.2 39) (p).toNat (0)))) := mFr_tr hF55 (mFr_up (by decide))
                  have t37_56 : (mA 39 (va_up (s55.2 39) (p).toNat (0)) s55).2 37 p.toNat = 1 := t37_55
                  revert hA56 hk56 hr56 hF56 t37_56
                  generalize (mA 39 (va_up (s55.2 39) (p).toNat (0)) s55) = s56
                  generalize (va_up h55 (B + 36) (pz_z 1 8 (va_up (s55.2 39) (p).toNat (0)))) = h56
                  intro hA56 hk56 hr56 hF56 t37_56
                  obtain ⟨kw, kh, kr, kc, ksr, ksc, kt, ko, kwa, kin, kwr, khi, krd, knu, kgi, kas, kfr, kra, kco, kof, kip⟩ := id hk56
                  have e18 := congrFun (hr56.2.1 18 (by decide)) p.toNat
                  have e19 := congrFun (hr56.2.1 19 (by decide)) p.toNat
                  exact pw_vret dX10_longSequence_211 rfl (nle rfl) (nle rfl) ⟨rfl, s56, hA56, hk56, hr56, hF56, rfl⟩
        ·
          refine pw_aload_n dX10_longSequence_28 rfl ?_
          refine pw_get (v := .ref (B + 35)) okX10 (k := 38) (by decide) lkX10_113 hA.1 rfl dX10_longSequence_29 ?_
          refine pw_iload_n dX10_longSequence_32 rfl ?_
          refine pw_iconst (v := zI (1)) dX10_longSequence_33 (by decide) ?_
          refine pw_zast (t := 1) rfl (mF38 hA) (by first | omega | exact mCell_b hp ko (by omega) (by omega) | exact mHis_b hp (by omega) (by omega)) (by decide) (by omega) dX10_longSequence_34 ?_
          have hA57 : mAt B (mA 38 (va_up (s.2 38) (p).toNat (1)) s) (va_up h (B + 35) (pz_z 1 8 (va_up (s.2 38) (p).toNat (1)))) := mU38 hA
          have hk57 : mPk (mA 38 (va_up (s.2 38) (p).toNat (1)) s) p.toNat := mP38 hk (by omega)
          have hr57 : mPr p.toNat s (mA 38 (va_up (s.2 38) (p).toNat (1)) s) := mPr_tr mPr_rf (mPr_W (by decide) (by decide) (by decide))
          have hF57 : mFr B h (va_up h (B + 35) (pz_z 1 8 (va_up (s.2 38) (p).toNat (1)))) := mFr_tr mFr_rf (mFr_up (by decide))
          revert hA57 hk57 hr57 hF57 
          generalize (mA 38 (va_up (s.2 38) (p).toNat (1)) s) = s57
          generalize (va_up h (B + 35) (pz_z 1 8 (va_up (s.2 38) (p).toNat (1)))) = h57
          intro hA57 hk57 hr57 hF57 
          obtain ⟨kw, kh, kr, kc, ksr, ksc, kt, ko, kwa, kin, kwr, khi, krd, knu, kgi, kas, kfr, kra, kco, kof, kip⟩ := id hk57
          have e18 := congrFun (hr57.2.1 18 (by decide)) p.toNat
          have e19 := congrFun (hr57.2.1 19 (by decide)) p.toNat
          refine pw_goto (tgt := 204) dX10_longSequence_35 rfl ?_
          refine pw_aload_n dX10_longSequence_204 rfl ?_
          refine pw_get (v := .ref (B + 36)) okX10 (k := 39) (by decide) lkX10_116 hA57.1 rfl dX10_longSequence_205 ?_
          refine pw_iload_n dX10_longSequence_208 rfl ?_
          refine pw_iconst (v := zI (0)) dX10_longSequence_209 (by decide) ?_
          refine pw_zast (t := 1) rfl (mF39 hA57) (by first | omega | exact mCell_b hp ko (by omega) (by omega) | exact mHis_b hp (by omega) (by omega)) (by decide) (by omega) dX10_longSequence_210 ?_
          have hA58 : mAt B (mA 39 (va_up (s57.2 39) (p).toNat (0)) s57) (va_up h57 (B + 36) (pz_z 1 8 (va_up (s57.2 39) (p).toNat (0)))) := mU39 hA57
          have hk58 : mPk (mA 39 (va_up (s57.2 39) (p).toNat (0)) s57) p.toNat := mP39 hk57 (by omega)
          have hr58 : mPr p.toNat s (mA 39 (va_up (s57.2 39) (p).toNat (0)) s57) := mPr_tr hr57 (mPr_W (by decide) (by decide) (by decide))
          have hF58 : mFr B h (va_up h57 (B + 36) (pz_z 1 8 (va_up (s57.2 39) (p).toNat (0)))) := mFr_tr hF57 (mFr_up (by decide))
          revert hA58 hk58 hr58 hF58 
          generalize (mA 39 (va_up (s57.2 39) (p).toNat (0)) s57) = s58
          generalize (va_up h57 (B + 36) (pz_z 1 8 (va_up (s57.2 39) (p).toNat (0)))) = h58
          intro hA58 hk58 hr58 hF58 
          obtain ⟨kw, kh, kr, kc, ksr, ksc, kt, ko, kwa, kin, kwr, khi, krd, knu, kgi, kas, kfr, kra, kco, kof, kip⟩ := id hk58
          have e18 := congrFun (hr58.2.1 18 (by decide)) p.toNat
          have e19 := congrFun (hr58.2.1 19 (by decide)) p.toNat
          exact pw_vret dX10_longSequence_211 rfl (nle rfl) (nle rfl) ⟨rfl, s58, hA58, hk58, hr58, hF58, rfl⟩
    ·
      exact pw_vret dX10_longSequence_12 rfl (nle rfl) (nle rfl) ⟨rfl, s, hA, hk, mPr_rf, mFr_rf, rfl⟩
