def YX10_scrollUp : pw_Y := (RX10, "scrollUp", cX10_scrollUp, 8, none)
theorem ywX10_scrollUp : pw_y yX10_scrollUp YX10_scrollUp 5 := ⟨by decide +kernel, by decide +kernel, by decide +kernel, pw_in 1589 (by decide +kernel) (by decide +kernel), pw_in 106 (by decide +kernel) (by decide +kernel)⟩
theorem cwX10_241 : Cond.methodLink RX10 241 yX10_moveRow ∈ pw_G ∧ Cond.instanceMethod yX10_moveRow ∈ pw_G ∧ Cond.selects RX10 yX10_moveRow yX10_moveRow ∈ pw_G := ⟨pw_in 1605 (by decide +kernel) (by decide +kernel), pw_in 1607 (by decide +kernel) (by decide +kernel), pw_in 51 (by decide +kernel) (by decide +kernel)⟩
theorem cwX10_244 : Cond.methodLink RX10 244 yX10_blankRow ∈ pw_G ∧ Cond.instanceMethod yX10_blankRow ∈ pw_G ∧ Cond.selects RX10 yX10_blankRow yX10_blankRow ∈ pw_G := ⟨pw_in 1609 (by decide +kernel) (by decide +kernel), pw_in 1611 (by decide +kernel) (by decide +kernel), pw_in 52 (by decide +kernel) (by decide +kernel)⟩
theorem cwX10_238 : Cond.methodLink RX10 238 yX10_keepRow ∈ pw_G ∧ Cond.instanceMethod yX10_keepRow ∈ pw_G ∧ Cond.selects RX10 yX10_keepRow yX10_keepRow ∈ pw_G := ⟨pw_in 1590 (by decide +kernel) (by decide +kernel), pw_in 1592 (by decide +kernel) (by decide +kernel), pw_in 48 (by decide +kernel) (by decide +kernel)⟩
def YX10_scrollDown : pw_Y := (RX10, "scrollDown", cX10_scrollDown, 7, none)
theorem ywX10_scrollDown : pw_y yX10_scrollDown YX10_scrollDown 4 := ⟨by decide +kernel, by decide +kernel, by decide +kernel, pw_in 1632 (by decide +kernel) (by decide +kernel), pw_in 106 (by decide +kernel) (by decide +kernel)⟩
def YX10_down : pw_Y := (RX10, "down", cX10_down, 2, none)
theorem ywX10_down : pw_y yX10_down YX10_down 1 := ⟨by decide +kernel, by decide +kernel, by decide +kernel, pw_in 1585 (by decide +kernel) (by decide +kernel), pw_in 106 (by decide +kernel) (by decide +kernel)⟩
theorem lkX10_89 : Cond.fieldLink RX10 89 (TX10 30).1 (TX10 30).2.1 (TX10 30).2.2.1 ∈ pw_G := pw_in 1360 (by decide +kernel) (by decide +kernel)
theorem lkX10_86 : Cond.fieldLink RX10 86 (TX10 29).1 (TX10 29).2.1 (TX10 29).2.2.1 ∈ pw_G := pw_in 1359 (by decide +kernel) (by decide +kernel)
theorem cwX10_247 : Cond.methodLink RX10 247 yX10_scrollUp ∈ pw_G ∧ Cond.instanceMethod yX10_scrollUp ∈ pw_G ∧ Cond.selects RX10 yX10_scrollUp yX10_scrollUp ∈ pw_G := ⟨pw_in 1586 (by decide +kernel) (by decide +kernel), pw_in 1588 (by decide +kernel) (by decide +kernel), pw_in 47 (by decide +kernel) (by decide +kernel)⟩
def YX10_up : pw_Y := (RX10, "up", cX10_up, 2, none)
theorem ywX10_up : pw_y yX10_up YX10_up 1 := ⟨by decide +kernel, by decide +kernel, by decide +kernel, pw_in 1628 (by decide +kernel) (by decide +kernel), pw_in 106 (by decide +kernel) (by decide +kernel)⟩
theorem cwX10_251 : Cond.methodLink RX10 251 yX10_scrollDown ∈ pw_G ∧ Cond.instanceMethod yX10_scrollDown ∈ pw_G ∧ Cond.selects RX10 yX10_scrollDown yX10_scrollDown ∈ pw_G := ⟨pw_in 1629 (by decide +kernel) (by decide +kernel), pw_in 1631 (by decide +kernel) (by decide +kernel), pw_in 57 (by decide +kernel) (by decide +kernel)⟩
def YX10_push : pw_Y := (RX10, "push", cX10_push, 7, none)
theorem ywX10_push : pw_y yX10_push YX10_push 4 := ⟨by decide +kernel, by decide +kernel, by decide +kernel, pw_in 1620 (by decide +kernel) (by decide +kernel), pw_in 106 (by decide +kernel) (by decide +kernel)⟩
set_option maxHeartbeats 2000000 in
set_option maxRecDepth 100000 in
theorem lR_up1 {E : pw_E} (htr : E.1.stackTraces = false) {Kk : pw_K} {n : Nat} {B : Nat} {s : mS} {h : pz_H} {p : Int} (hp : 0 ≤ p ∧ p < 8) {a b nn : Int} (hab : 0 ≤ a ∧ a ≤ b ∧ b < 16) (hnn : -2147483648 ≤ nn ∧ nn < 2147483648) {kp k : Int} (kk : ∀ (r9 : Int) (s2 : mS) (h2 : pz_H), mAt B s2 h2 → mPk s2 p.toNat → mPr p.toNat s s2 → mFr B h h2 → pw E YX10_scrollUp (rmD 3 0 0) Kk 0 0 67 [some (.ref B), some (.int (zI (p))), some (.int (zI (a))), some (.int (zI (b))), some (.int (zI (nn))), some (.int (zI (kp))), some (.int (zI (k))), some (.int (zI (r9)))] [] h2 n) : ∀ (j : Nat) (r : Int) (s1 : mS) (h1 : pz_H), (b - r).toNat = j → a ≤ r → r ≤ b → mAt B s1 h1 → mPk s1 p.toNat → mPr p.toNat s s1 → mFr B h h1 → pw E YX10_scrollUp (rmD 3 0 0) Kk 0 0 44 [some (.ref B), some (.int (zI (p))), some (.int (zI (a))), some (.int (zI (b))), some (.int (zI (nn))), some (.int (zI (kp))), some (.int (zI (k))), some (.int (zI (r)))] [] h1 n := by
  intro j
  induction j with
  | zero =>
    intro r s1 h1 hj i0 i1 hA hk hr hF
    have e18 := congrFun (hr.2.1 18 (by decide)) p.toNat
    have e19 := congrFun (hr.2.1 19 (by decide)) p.toNat
    obtain ⟨kw, kh, kr, kc, ksr, ksc, kt, ko, kwa, kin, kwr, khi, krd, knu, kgi, kas, kfr, kra, kco, kof, kip⟩ := id hk
    refine pw_iload dX10_scrollUp_44 rfl ?_
    refine pw_iload_n dX10_scrollUp_46 rfl ?_
    refine pw_icmp_ge (tgt := 67) dX10_scrollUp_47 rfl (by omega) (by omega) (fun c47 => ?_) (fun c47 => ?_)
    ·
      exact kk _ s1 h1  hA hk hr hF
    · exfalso; omega
  | succ j ih =>
    intro r s1 h1 hj i0 i1 hA hk hr hF
    have e18 := congrFun (hr.2.1 18 (by decide)) p.toNat
    have e19 := congrFun (hr.2.1 19 (by decide)) p.toNat
    obtain ⟨kw, kh, kr, kc, ksr, ksc, kt, ko, kwa, kin, kwr, khi, krd, knu, kgi, kas, kfr, kra, kco, kof, kip⟩ := id hk
    refine pw_iload dX10_scrollUp_44 rfl ?_
    refine pw_iload_n dX10_scrollUp_46 rfl ?_
    refine pw_icmp_ge (tgt := 67) dX10_scrollUp_47 rfl (by omega) (by omega) (fun c47 => ?_) (fun c47 => ?_)
    ·
      exact kk _ s1 h1  hA hk hr hF
    ·
      refine pw_aload_n dX10_scrollUp_50 rfl ?_
      refine pw_iload_n dX10_scrollUp_51 rfl ?_
      refine pw_iload dX10_scrollUp_52 rfl ?_
      refine pw_iconst (v := zI (1)) dX10_scrollUp_54 (by decide) ?_
      refine pw_ziadd dX10_scrollUp_55 ?_
      refine pw_iload dX10_scrollUp_56 rfl ?_
      refine pw_callV (As := [.int (zI (p)), .int (zI (r + 1)), .int (zI (r))]) (b := B) (rm := rmD 2 0 0) (mR_moveRow htr hA hp hk (by omega) (by omega)) rfl hA.1 rfl rfl ywX10_moveRow rfl cwX10_241 ⟨nle rfl, nle rfl⟩ (nle rfl) ⟨nle rfl, nle rfl⟩ dX10_scrollUp_58 ?_ (fun _ _ _ z => z.elim)
      intro r_9 h2 n_9 hq _
      obtain ⟨e1, s2, hA2, hk2, hr20, hF20, e4⟩ := hq
      rw [e1, e4]
      show pw E YX10_scrollUp _ _ 0 0 61 [some (.ref B), some (.int (zI (p))), some (.int (zI (a))), some (.int (zI (b))), some (.int (zI (nn))), some (.int (zI (kp))), some (.int (zI (k))), some (.int (zI (r)))] [] h2 n
      have hr2 := mPr_tr hr hr20
      have hF2 := mFr_tr hF hF20
      obtain ⟨kw, kh, kr, kc, ksr, ksc, kt, ko, kwa, kin, kwr, khi, krd, knu, kgi, kas, kfr, kra, kco, kof, kip⟩ := id hk2
      have e18 := congrFun (hr2.2.1 18 (by decide)) p.toNat
      have e19 := congrFun (hr2.2.1 19 (by decide)) p.toNat
      refine pw_ziinc (lv' := [some (.ref B), some (.int (zI (p))), some (.int (zI (a))), some (.int (zI (b))), some (.int (zI (nn))), some (.int (zI (kp))), some (.int (zI (k))), some (.int (zI (r + 1)))]) dX10_scrollUp_61 rfl (by decide) rfl rfl ?_
      refine pw_goto (tgt := 44) dX10_scrollUp_64 rfl ?_
      exact ih (r + 1) s2 h2 (by omega) (by omega) (by omega)  hA2 hk2 hr2 hF2
set_option maxHeartbeats 2000000 in
set_option maxRecDepth 100000 in
theorem lR_up2 {E : pw_E} (htr : E.1.stackTraces = false) {Kk : pw_K} {n : Nat} {B : Nat} {s : mS} {h : pz_H} {p : Int} (hp : 0 ≤ p ∧ p < 8) {a b nn : Int} (hab : 0 ≤ a ∧ a ≤ b ∧ b < 16) (hnn : -2147483648 ≤ nn ∧ nn < 2147483648) {kp : Int} (hkp : 0 ≤ kp ∧ kp ≤ 1) (kk : ∀ (k9 : Int) (q : Option Value) (s2 : mS) (h2 : pz_H), mAt B s2 h2 → mPk s2 p.toNat → mPr p.toNat s s2 → mFr B h h2 → Kk.2.2.1 none h2 n) : ∀ (j : Nat) (k : Int) (q : Option Value) (s1 : mS) (h1 : pz_H), (b - a + 1 - k).toNat = j → 0 ≤ k → k ≤ b - a + 1 → mAt B s1 h1 → mPk s1 p.toNat → mPr p.toNat s s1 → mFr B h h1 → pw E YX10_scrollUp (rmD 3 0 0) Kk 0 0 3 [some (.ref B), some (.int (zI (p))), some (.int (zI (a))), some (.int (zI (b))), some (.int (zI (nn))), some (.int (zI (kp))), some (.int (zI (k))), q] [] h1 n := by
  intro j
  induction j with
  | zero =>
    intro k q s1 h1 hj i0 i1 hA hk hr hF
    have e18 := congrFun (hr.2.1 18 (by decide)) p.toNat
    have e19 := congrFun (hr.2.1 19 (by decide)) p.toNat
    obtain ⟨kw, kh, kr, kc, ksr, ksc, kt, ko, kwa, kin, kwr, khi, krd, knu, kgi, kas, kfr, kra, kco, kof, kip⟩ := id hk
    refine pw_iload dX10_scrollUp_3 rfl ?_
    refine pw_iload dX10_scrollUp_5 rfl ?_
    refine pw_icmp_ge (tgt := 79) dX10_scrollUp_7 rfl (by omega) (by omega) (fun c7 => ?_) (fun c7 => ?_)
    ·
      exact pw_vret dX10_scrollUp_79 rfl (nle rfl) (nle rfl) (kk 0 none s1 h1  hA hk hr hF)
    ·
      refine pw_iload dX10_scrollUp_10 rfl ?_
      refine pw_iload_n dX10_scrollUp_12 rfl ?_
      refine pw_iload_n dX10_scrollUp_13 rfl ?_
      refine pw_zisub dX10_scrollUp_14 ?_
      refine pw_icmp_gt (tgt := 79) dX10_scrollUp_15 rfl (by omega) (by omega) (fun c15 => ?_) (fun c15 => ?_)
      ·
        exact pw_vret dX10_scrollUp_79 rfl (nle rfl) (nle rfl) (kk 0 none s1 h1  hA hk hr hF)
      · exfalso; omega
  | succ j ih =>
    intro k q s1 h1 hj i0 i1 hA hk hr hF
    have e18 := congrFun (hr.2.1 18 (by decide)) p.toNat
    have e19 := congrFun (hr.2.1 19 (by decide)) p.toNat
    obtain ⟨kw, kh, kr, kc, ksr, ksc, kt, ko, kwa, kin, kwr, khi, krd, knu, kgi, kas, kfr, kra, kco, kof, kip⟩ := id hk
    refine pw_iload dX10_scrollUp_3 rfl ?_
    refine pw_iload dX10_scrollUp_5 rfl ?_
    refine pw_icmp_ge (tgt := 79) dX10_scrollUp_7 rfl (by omega) (by omega) (fun c7 => ?_) (fun c7 => ?_)
    ·
      exact pw_vret dX10_scrollUp_79 rfl (nle rfl) (nle rfl) (kk 0 none s1 h1  hA hk hr hF)
    ·
      refine pw_iload dX10_scrollUp_10 rfl ?_
      refine pw_iload_n dX10_scrollUp_12 rfl ?_
      refine pw_iload_n dX10_scrollUp_13 rfl ?_
      refine pw_zisub dX10_scrollUp_14 ?_
      refine pw_icmp_gt (tgt := 79) dX10_scrollUp_15 rfl (by omega) (by omega) (fun c15 => ?_) (fun c15 => ?_)
      ·
        exact pw_vret dX10_scrollUp_79 rfl (nle rfl) (nle rfl) (kk 0 none s1 h1  hA hk hr hF)
      ·
        refine pw_iload dX10_scrollUp_18 rfl ?_
        refine pw_if_eq (tgt := 41) dX10_scrollUp_20 rfl (by omega) (fun c20 => ?_) (fun c20 => ?_)
        ·
          refine pw_iload_n dX10_scrollUp_41 rfl ?_
          refine pw_istore (lv' := [some (.ref B), some (.int (zI (p))), some (.int (zI (a))), some (.int (zI (b))), some (.int (zI (nn))), some (.int (zI (kp))), some (.int (zI (k))), some (.int (zI (a)))]) dX10_scrollUp_42 (by decide) rfl rfl ?_
          refine lR_up1 htr hp hab hnn ?_ _ (a) s1 h1 rfl (by omega) (by omega) hA hk hr hF
          intro r2  s2 h2 hA2 hk2 hr2 hF2
          obtain ⟨kw, kh, kr, kc, ksr, ksc, kt, ko, kwa, kin, kwr, khi, krd, knu, kgi, kas, kfr, kra, kco, kof, kip⟩ := id hk2
          have e18 := congrFun (hr2.2.1 18 (by decide)) p.toNat
          have e19 := congrFun (hr2.2.1 19 (by decide)) p.toNat
          refine pw_aload_n dX10_scrollUp_67 rfl ?_
          refine pw_iload_n dX10_scrollUp_68 rfl ?_
          refine pw_iload_n dX10_scrollUp_69 rfl ?_
          refine pw_callV (As := [.int (zI (p)), .int (zI (b))]) (b := B) (rm := rmD 2 0 0) (mR_blankRow htr hA2 hp hk2 (by omega)) rfl hA2.1 rfl rfl ywX10_blankRow rfl cwX10_244 ⟨nle rfl, nle rfl⟩ (nle rfl) ⟨nle rfl, nle rfl⟩ dX10_scrollUp_70 ?_ (fun _ _ _ z => z.elim)
          intro r_9 h3 n_9 hq _
          obtain ⟨e1, s3, hA3, hk3, hr30, hF30, e4⟩ := hq
          rw [e1, e4]
          show pw E YX10_scrollUp _ _ 0 0 73 [some (.ref B), some (.int (zI (p))), some (.int (zI (a))), some (.int (zI (b))), some (.int (zI (nn))), some (.int (zI (kp))), some (.int (zI (k))), some (.int (zI (r2)))] [] h3 n
          have hr3 := mPr_tr hr2 hr30
          have hF3 := mFr_tr hF2 hF30
          obtain ⟨kw, kh, kr, kc, ksr, ksc, kt, ko, kwa, kin, kwr, khi, krd, knu, kgi, kas, kfr, kra, kco, kof, kip⟩ := id hk3
          have e18 := congrFun (hr3.2.1 18 (by decide)) p.toNat
          have e19 := congrFun (hr3.2.1 19 (by decide)) p.toNat
          refine pw_ziinc (lv' := [some (.ref B), some (.int (zI (p))), some (.int (zI (a))), some (.int (zI (b))), some (.int (zI (nn))), some (.int (zI (kp))), some (.int (zI (k + 1))), some (.int (zI (r2)))]) dX10_scrollUp_73 rfl (by decide) rfl rfl ?_
          refine pw_goto (tgt := 3) dX10_scrollUp_76 rfl ?_
          exact ih (k + 1) _ s3 h3 (by omega) (by omega) (by omega)  hA3 hk3 hr3 hF3
        ·
          refine pw_iload_n dX10_scrollUp_23 rfl ?_
          refine pw_if_ne (tgt := 41) dX10_scrollUp_24 rfl (by omega) (fun c24 => ?_) (fun c24 => ?_)
          ·
            refine pw_iload_n dX10_scrollUp_41 rfl ?_
            refine pw_istore (lv' := [some (.ref B), some (.int (zI (p))), some (.int (zI (a))), some (.int (zI (b))), some (.int (zI (nn))), some (.int (zI (kp))), some (.int (zI (k))), some (.int (zI (a)))]) dX10_scrollUp_42 (by decide) rfl rfl ?_
            refine lR_up1 htr hp hab hnn ?_ _ (a) s1 h1 rfl (by omega) (by omega) hA hk hr hF
            intro r4  s4 h4 hA4 hk4 hr4 hF4
            obtain ⟨kw, kh, kr, kc, ksr, ksc, kt, ko, kwa, kin, kwr, khi, krd, knu, kgi, kas, kfr, kra, kco, kof, kip⟩ := id hk4
            have e18 := congrFun (hr4.2.1 18 (by decide)) p.toNat
            have e19 := congrFun (hr4.2.1 19 (by decide)) p.toNat
            refine pw_aload_n dX10_scrollUp_67 rfl ?_
            refine pw_iload_n dX10_scrollUp_68 rfl ?_
            refine pw_iload_n dX10_scrollUp_69 rfl ?_
            refine pw_callV (As := [.int (zI (p)), .int (zI (b))]) (b := B) (rm := rmD 2 0 0) (mR_blankRow htr hA4 hp hk4 (by omega)) rfl hA4.1 rfl rfl ywX10_blankRow rfl cwX10_244 ⟨nle rfl, nle rfl⟩ (nle rfl) ⟨nle rfl, nle rfl⟩ dX10_scrollUp_70 ?_ (fun _ _ _ z => z.elim)
            intro r_9 h5 n_9 hq _
            obtain ⟨e1, s5, hA5, hk5, hr50, hF50, e4⟩ := hq
            rw [e1, e4]
            show pw E YX10_scrollUp _ _ 0 0 73 [some (.ref B), some (.int (zI (p))), some (.int (zI (a))), some (.int (zI (b))), some (.int (zI (nn))), some (.int (zI (kp))), some (.int (zI (k))), some (.int (zI (r4)))] [] h5 n
            have hr5 := mPr_tr hr4 hr50
            have hF5 := mFr_tr hF4 hF50
            obtain ⟨kw, kh, kr, kc, ksr, ksc, kt, ko, kwa, kin, kwr, khi, krd, knu, kgi, kas, kfr, kra, kco, kof, kip⟩ := id hk5
            have e18 := congrFun (hr5.2.1 18 (by decide)) p.toNat
            have e19 := congrFun (hr5.2.1 19 (by decide)) p.toNat
            refine pw_ziinc (lv' := [some (.ref B), some (.int (zI (p))), some (.int (zI (a))), some (.int (zI (b))), some (.int (zI (nn))), some (.int (zI (kp))), some (.int (zI (k + 1))), some (.int (zI (r4)))]) dX10_scrollUp_73 rfl (by decide) rfl rfl ?_
            refine pw_goto (tgt := 3) dX10_scrollUp_76 rfl ?_
            exact ih (k + 1) _ s5 h5 (by omega) (by omega) (by omega)  hA5 hk5 hr5 hF5
          ·
            refine pw_aload_n dX10_scrollUp_27 rfl ?_
            refine pw_get (v := .ref (B + 19)) okX10 (k := 22) (by decide) lkX10_65 hA.1 rfl dX10_scrollUp_28 ?_
            refine pw_iload_n dX10_scrollUp_31 rfl ?_
            refine pw_zald (t := 1) rfl (mF22 hA) (by first | omega | exact mCell_b hp ko (by omega) (by omega) | exact mHis_b hp (by omega) (by omega)) (by decide) dX10_scrollUp_32 ?_
            refine pw_if_ne (tgt := 41) dX10_scrollUp_33 rfl (by omega) (fun c33 => ?_) (fun c33 => ?_)
            ·
              refine pw_iload_n dX10_scrollUp_41 rfl ?_
              refine pw_istore (lv' := [some (.ref B), some (.int (zI (p))), some (.int (zI (a))), some (.int (zI (b))), some (.int (zI (nn))), some (.int (zI (kp))), some (.int (zI (k))), some (.int (zI (a)))]) dX10_scrollUp_42 (by decide) rfl rfl ?_
              refine lR_up1 htr hp hab hnn ?_ _ (a) s1 h1 rfl (by omega) (by omega) hA hk hr hF
              intro r6  s6 h6 hA6 hk6 hr6 hF6
              obtain ⟨kw, kh, kr, kc, ksr, ksc, kt, ko, kwa, kin, kwr, khi, krd, knu, kgi, kas, kfr, kra, kco, kof, kip⟩ := id hk6
              have e18 := congrFun (hr6.2.1 18 (by decide)) p.toNat
              have e19 := congrFun (hr6.2.1 19 (by decide)) p.toNat
              refine pw_aload_n dX10_scrollUp_67 rfl ?_
              refine pw_iload_n dX10_scrollUp_68 rfl ?_
              refine pw_iload_n dX10_scrollUp_69 rfl ?_
              refine pw_callV (As := [.int (zI (p)), .int (zI (b))]) (b := B) (rm := rmD 2 0 0) (mR_blankRow htr hA6 hp hk6 (by omega)) rfl hA6.1 rfl rfl ywX10_blankRow rfl cwX10_244 ⟨nle rfl, nle rfl⟩ (nle rfl) ⟨nle rfl, nle rfl⟩ dX10_scrollUp_70 ?_ (fun _ _ _ z => z.elim)
              intro r_9 h7 n_9 hq _
              obtain ⟨e1, s7, hA7, hk7, hr70, hF70, e4⟩ := hq
              rw [e1, e4]
              show pw E YX10_scrollUp _ _ 0 0 73 [some (.ref B), some (.int (zI (p))), some (.int (zI (a))), some (.int (zI (b))), some (.int (zI (nn))), some (.int (zI (kp))), some (.int (zI (k))), some (.int (zI (r6)))] [] h7 n
              have hr7 := mPr_tr hr6 hr70
              have hF7 := mFr_tr hF6 hF70
              obtain ⟨kw, kh, kr, kc, ksr, ksc, kt, ko, kwa, kin, kwr, khi, krd, knu, kgi, kas, kfr, kra, kco, kof, kip⟩ := id hk7
              have e18 := congrFun (hr7.2.1 18 (by decide)) p.toNat
              have e19 := congrFun (hr7.2.1 19 (by decide)) p.toNat
              refine pw_ziinc (lv' := [some (.ref B), some (.int (zI (p))), some (.int (zI (a))), some (.int (zI (b))), some (.int (zI (nn))), some (.int (zI (kp))), some (.int (zI (k + 1))), some (.int (zI (r6)))]) dX10_scrollUp_73 rfl (by decide) rfl rfl ?_
              refine pw_goto (tgt := 3) dX10_scrollUp_76 rfl ?_
              exact ih (k + 1) _ s7 h7 (by omega) (by omega) (by omega)  hA7 hk7 hr7 hF7
            ·
              refine pw_aload_n dX10_scrollUp_36 rfl ?_
              refine pw_iload_n dX10_scrollUp_37 rfl ?_
              refine pw_callV (As := [.int (zI (p))]) (b := B) (rm := rmD 2 0 0) (mR_keepRow htr hA hp hk) rfl hA.1 rfl rfl ywX10_keepRow rfl cwX10_238 ⟨nle rfl, nle rfl⟩ (nle rfl) ⟨nle rfl, nle rfl⟩ dX10_scrollUp_38 ?_ (fun _ _ _ z => z.elim)
              intro r_9 h8 n_9 hq _
              obtain ⟨e1, s8, hA8, hk8, hr80, hF80, e4⟩ := hq
              rw [e1, e4]
              show pw E YX10_scrollUp _ _ 0 0 41 [some (.ref B), some (.int (zI (p))), some (.int (zI (a))), some (.int (zI (b))), some (.int (zI (nn))), some (.int (zI (kp))), some (.int (zI (k))), q] [] h8 n
              have hr8 := mPr_tr hr hr80
              have hF8 := mFr_tr hF hF80
              obtain ⟨kw, kh, kr, kc, ksr, ksc, kt, ko, kwa, kin, kwr, khi, krd, knu, kgi, kas, kfr, kra, kco, kof, kip⟩ := id hk8
              have e18 := congrFun (hr8.2.1 18 (by decide)) p.toNat
              have e19 := congrFun (hr8.2.1 19 (by decide)) p.toNat
              refine pw_iload_n dX10_scrollUp_41 rfl ?_
              refine pw_istore (lv' := [some (.ref B), some (.int (zI (p))), some (.int (zI (a))), some (.int (zI (b))), some (.int (zI (nn))), some (.int (zI (kp))), some (.int (zI (k))), some (.int (zI (a)))]) dX10_scrollUp_42 (by decide) rfl rfl ?_
              refine lR_up1 htr hp hab hnn ?_ _ (a) s8 h8 rfl (by omega) (by omega) hA8 hk8 hr8 hF8
              intro r9  s9 h9 hA9 hk9 hr9 hF9
              obtain ⟨kw, kh, kr, kc, ksr, ksc, kt, ko, kwa, kin, kwr, khi, krd, knu, kgi, kas, kfr, kra, kco, kof, kip⟩ := id hk9
              have e18 := congrFun (hr9.2.1 18 (by decide)) p.toNat
              have e19 := congrFun (hr9.2.1 19 (by decide)) p.toNat
              refine pw_aload_n dX10_scrollUp_67 rfl ?_
              refine pw_iload_n dX10_scrollUp_68 rfl ?_
              refine pw_iload_n dX10_scrollUp_69 rfl ?_
              refine pw_callV (As := [.int (zI (p)), .int (zI (b))]) (b := B) (rm := rmD 2 0 0) (mR_blankRow htr hA9 hp hk9 (by omega)) rfl hA9.1 rfl rfl ywX10_blankRow rfl cwX10_244 ⟨nle rfl, nle rfl⟩ (nle rfl) ⟨nle rfl, nle rfl⟩ dX10_scrollUp_70 ?_ (fun _ _ _ z => z.elim)
              intro r_9 h10 n_9 hq _
              obtain ⟨e1, s10, hA10, hk10, hr100, hF100, e4⟩ := hq
              rw [e1, e4]
              show pw E YX10_scrollUp _ _ 0 0 73 [some (.ref B), some (.int (zI (p))), some (.int (zI (a))), some (.int (zI (b))), some (.int (zI (nn))), some (.int (zI (kp))), some (.int (zI (k))), some (.int (zI (r9)))] [] h10 n
              have hr10 := mPr_tr hr9 hr100
              have hF10 := mFr_tr hF9 hF100
              obtain ⟨kw, kh, kr, kc, ksr, ksc, kt, ko, kwa, kin, kwr, khi, krd, knu, kgi, kas, kfr, kra, kco, kof, kip⟩ := id hk10
              have e18 := congrFun (hr10.2.1 18 (by decide)) p.toNat
              have e19 := congrFun (hr10.2.1 19 (by decide)) p.toNat
              refine pw_ziinc (lv' := [some (.ref B), some (.int (zI (p))), some (.int (zI (a))), some (.int (zI (b))), some (.int (zI (nn))), some (.int (zI (kp))), some (.int (zI (k + 1))), some (.int (zI (r9)))]) dX10_scrollUp_73 rfl (by decide) rfl rfl ?_
              refine pw_goto (tgt := 3) dX10_scrollUp_76 rfl ?_
              exact ih (k + 1) _ s10 h10 (by omega) (by omega) (by omega)  hA10 hk10 hr10 hF10
set_option maxHeartbeats 2000000 in
set_option maxRecDepth 100000 in
/-- scrollUp(p, a, b, nn, kp) -/
theorem mR_scrollUp {E : pw_E} (htr : E.1.stackTraces = false) {h : pz_H} {n : Nat} {B : Nat} {s : mS} (hA : mAt B s h) {p a b nn kp : Int} (hp : 0 ≤ p ∧ p < 8) (hk : mPk s p.toNat)  (hab : 0 ≤ a ∧ a ≤ b ∧ b < 16) (hnn : -2147483648 ≤ nn ∧ nn < 2147483648) (hkp : 0 ≤ kp ∧ kp ≤ 1) : pw_M E yX10_scrollUp YX10_scrollUp (rmD 3 0 0) [.ref B, .int (zI (p)), .int (zI (a)), .int (zI (b)), .int (zI (nn)), .int (zI (kp))] h n (fun r0 h' n' => r0 = none ∧ ∃ s', mAt B s' h' ∧ mPk s' p.toNat ∧ mPr p.toNat s s' ∧ mFr B h h' ∧ n' = n) (fun _ _ _ => False) := by
  obtain ⟨kw, kh, kr, kc, ksr, ksc, kt, ko, kwa, kin, kwr, khi, krd, knu, kgi, kas, kfr, kra, kco, kof, kip⟩ := id hk
  have e18 : s.2 18 p.toNat = s.2 18 p.toNat := rfl
  refine pw_M_of (lv := [some (.ref B), some (.int (zI (p))), some (.int (zI (a))), some (.int (zI (b))), some (.int (zI (nn))), some (.int (zI (kp))), none, none]) (by decide) rfl rfl htr (nle rfl) rfl (fun L => ?_)
  refine pw_iconst (v := zI (0)) dX10_scrollUp_0 (by decide) ?_
  refine pw_istore (lv' := [some (.ref B), some (.int (zI (p))), some (.int (zI (a))), some (.int (zI (b))), some (.int (zI (nn))), some (.int (zI (kp))), some (.int (zI (0))), none]) dX10_scrollUp_1 (by decide) rfl rfl ?_
  refine lR_up2 htr hp hab hnn hkp ?_ _ 0 _ s h rfl (by omega) (by omega) hA hk mPr_rf mFr_rf
  intro _ _ s2 h2 z1 z2 z3 z4
  exact ⟨rfl, s2, z1, z2, z3, z4, rfl⟩
set_option maxHeartbeats 2000000 in
set_option maxRecDepth 100000 in
theorem lR_dn1 {E : pw_E} (htr : E.1.stackTraces = false) {Kk : pw_K} {n : Nat} {B : Nat} {s : mS} {h : pz_H} {p : Int} (hp : 0 ≤ p ∧ p < 8) {a b nn : Int} (hab : 0 ≤ a ∧ a ≤ b ∧ b < 16) (hnn : -2147483648 ≤ nn ∧ nn < 2147483648) {k : Int} (kk : ∀ (r9 : Int) (s2 : mS) (h2 : pz_H), mAt B s2 h2 → mPk s2 p.toNat → mPr p.toNat s s2 → mFr B h h2 → pw E YX10_scrollDown (rmD 3 0 0) Kk 0 0 44 [some (.ref B), some (.int (zI (p))), some (.int (zI (a))), some (.int (zI (b))), some (.int (zI (nn))), some (.int (zI (k))), some (.int (zI (r9)))] [] h2 n) : ∀ (j : Nat) (r : Int) (s1 : mS) (h1 : pz_H), (r - a).toNat = j → a ≤ r → r ≤ b → mAt B s1 h1 → mPk s1 p.toNat → mPr p.toNat s s1 → mFr B h h1 → pw E YX10_scrollDown (rmD 3 0 0) Kk 0 0 21 [some (.ref B), some (.int (zI (p))), some (.int (zI (a))), some (.int (zI (b))), some (.int (zI (nn))), some (.int (zI (k))), some (.int (zI (r)))] [] h1 n := by
  intro j
  induction j with
  | zero =>
    intro r s1 h1 hj i0 i1 hA hk hr hF
    have e18 := congrFun (hr.2.1 18 (by decide)) p.toNat
    have e19 := congrFun (hr.2.1 19 (by decide)) p.toNat
    obtain ⟨kw, kh, kr, kc, ksr, ksc, kt, ko, kwa, kin, kwr, khi, krd, knu, kgi, kas, kfr, kra, kco, kof, kip⟩ := id hk
    refine pw_iload dX10_scrollDown_21 rfl ?_
    refine pw_iload_n dX10_scrollDown_23 rfl ?_
    refine pw_icmp_le (tgt := 44) dX10_scrollDown_24 rfl (by omega) (by omega) (fun c24 => ?_) (fun c24 => ?_)
    ·
      exact kk _ s1 h1  hA hk hr hF
    · exfalso; omega
  | succ j ih =>
    intro r s1 h1 hj i0 i1 hA hk hr hF
    have e18 := congrFun (hr.2.1 18 (by decide)) p.toNat
    have e19 := congrFun (hr.2.1 19 (by decide)) p.toNat
    obtain ⟨kw, kh, kr, kc, ksr, ksc, kt, ko, kwa, kin, kwr, khi, krd, knu, kgi, kas, kfr, kra, kco, kof, kip⟩ := id hk
    refine pw_iload dX10_scrollDown_21 rfl ?_
    refine pw_iload_n dX10_scrollDown_23 rfl ?_
    refine pw_icmp_le (tgt := 44) dX10_scrollDown_24 rfl (by omega) (by omega) (fun c24 => ?_) (fun c24 => ?_)
    ·
      exact kk _ s1 h1  hA hk hr hF
    ·
      refine pw_aload_n dX10_scrollDown_27 rfl ?_
      refine pw_iload_n dX10_scrollDown_28 rfl ?_
      refine pw_iload dX10_scrollDown_29 rfl ?_
      refine pw_iconst (v := zI (1)) dX10_scrollDown_31 (by decide) ?_
      refine pw_zisub dX10_scrollDown_32 ?_
      refine pw_iload dX10_scrollDown_33 rfl ?_
      refine pw_callV (As := [.int (zI (p)), .int (zI (r - 1)), .int (zI (r))]) (b := B) (rm := rmD 2 0 0) (mR_moveRow htr hA hp hk (by omega) (by omega)) rfl hA.1 rfl rfl ywX10_moveRow rfl cwX10_241 ⟨nle rfl, nle rfl⟩ (nle rfl) ⟨nle rfl, nle rfl⟩ dX10_scrollDown_35 ?_ (fun _ _ _ z => z.elim)
      intro r_9 h2 n_9 hq _
      obtain ⟨e1, s2, hA2, hk2, hr20, hF20, e4⟩ := hq
      rw [e1, e4]
      show pw E YX10_scrollDown _ _ 0 0 38 [some (.ref B), some (.int (zI (p))), some (.int (zI (a))), some (.int (zI (b))), some (.int (zI (nn))), some (.int (zI (k))), some (.int (zI (r)))] [] h2 n
      have hr2 := mPr_tr hr hr20
      have hF2 := mFr_tr hF hF20
      obtain ⟨kw, kh, kr, kc, ksr, ksc, kt, ko, kwa, kin, kwr, khi, krd, knu, kgi, kas, kfr, kra, kco, kof, kip⟩ := id hk2
      have e18 := congrFun (hr2.2.1 18 (by decide)) p.toNat
      have e19 := congrFun (hr2.2.1 19 (by decide)) p.toNat
      refine pw_ziinc (lv' := [some (.ref B), some (.int (zI (p))), some (.int (zI (a))), some (.int (zI (b))), some (.int (zI (nn))), some (.int (zI (k))), some (.int (zI (r + (-1))))]) dX10_scrollDown_38 rfl (by decide) rfl rfl ?_
      refine pw_goto (tgt := 21) dX10_scrollDown_41 rfl ?_
      exact ih (r + (-1)) s2 h2 (by omega) (by omega) (by omega)  hA2 hk2 hr2 hF2
set_option maxHeartbeats 2000000 in
set_option maxRecDepth 100000 in
theorem lR_dn2 {E : pw_E} (htr : E.1.stackTraces = false) {Kk : pw_K} {n : Nat} {B : Nat} {s : mS} {h : pz_H} {p : Int} (hp : 0 ≤ p ∧ p < 8) {a b nn : Int} (hab : 0 ≤ a ∧ a ≤ b ∧ b < 16) (hnn : -2147483648 ≤ nn ∧ nn < 2147483648) (kk : ∀ (k9 : Int) (q : Option Value) (s2 : mS) (h2 : pz_H), mAt B s2 h2 → mPk s2 p.toNat → mPr p.toNat s s2 → mFr B h h2 → Kk.2.2.1 none h2 n) : ∀ (j : Nat) (k : Int) (q : Option Value) (s1 : mS) (h1 : pz_H), (b - a + 1 - k).toNat = j → 0 ≤ k → k ≤ b - a + 1 → mAt B s1 h1 → mPk s1 p.toNat → mPr p.toNat s s1 → mFr B h h1 → pw E YX10_scrollDown (rmD 3 0 0) Kk 0 0 3 [some (.ref B), some (.int (zI (p))), some (.int (zI (a))), some (.int (zI (b))), some (.int (zI (nn))), some (.int (zI (k))), q] [] h1 n := by
  intro j
  induction j with
  | zero =>
    intro k q s1 h1 hj i0 i1 hA hk hr hF
    have e18 := congrFun (hr.2.1 18 (by decide)) p.toNat
    have e19 := congrFun (hr.2.1 19 (by decide)) p.toNat
    obtain ⟨kw, kh, kr, kc, ksr, ksc, kt, ko, kwa, kin, kwr, khi, krd, knu, kgi, kas, kfr, kra, kco, kof, kip⟩ := id hk
    refine pw_iload dX10_scrollDown_3 rfl ?_
    refine pw_iload dX10_scrollDown_5 rfl ?_
    refine pw_icmp_ge (tgt := 56) dX10_scrollDown_7 rfl (by omega) (by omega) (fun c7 => ?_) (fun c7 => ?_)
    ·
      exact pw_vret dX10_scrollDown_56 rfl (nle rfl) (nle rfl) (kk 0 none s1 h1  hA hk hr hF)
    ·
      refine pw_iload dX10_scrollDown_10 rfl ?_
      refine pw_iload_n dX10_scrollDown_12 rfl ?_
      refine pw_iload_n dX10_scrollDown_13 rfl ?_
      refine pw_zisub dX10_scrollDown_14 ?_
      refine pw_icmp_gt (tgt := 56) dX10_scrollDown_15 rfl (by omega) (by omega) (fun c15 => ?_) (fun c15 => ?_)
      ·
        exact pw_vret dX10_scrollDown_56 rfl (nle rfl) (nle rfl) (kk 0 none s1 h1  hA hk hr hF)
      · exfalso; omega
  | succ j ih =>
    intro k q s1 h1 hj i0 i1 hA hk hr hF
    have e18 := congrFun (hr.2.1 18 (by decide)) p.toNat
    have e19 := congrFun (hr.2.1 19 (by decide)) p.toNat
    obtain ⟨kw, kh, kr, kc, ksr, ksc, kt, ko, kwa, kin, kwr, khi, krd, knu, kgi, kas, kfr, kra, kco, kof, kip⟩ := id hk
    refine pw_iload dX10_scrollDown_3 rfl ?_
    refine pw_iload dX10_scrollDown_5 rfl ?_
    refine pw_icmp_ge (tgt := 56) dX10_scrollDown_7 rfl (by omega) (by omega) (fun c7 => ?_) (fun c7 => ?_)
    ·
      exact pw_vret dX10_scrollDown_56 rfl (nle rfl) (nle rfl) (kk 0 none s1 h1  hA hk hr hF)
    ·
      refine pw_iload dX10_scrollDown_10 rfl ?_
      refine pw_iload_n dX10_scrollDown_12 rfl ?_
      refine pw_iload_n dX10_scrollDown_13 rfl ?_
      refine pw_zisub dX10_scrollDown_14 ?_
      refine pw_icmp_gt (tgt := 56) dX10_scrollDown_15 rfl (by omega) (by omega) (fun c15 => ?_) (fun c15 => ?_)
      ·
        exact pw_vret dX10_scrollDown_56 rfl (nle rfl) (nle rfl) (kk 0 none s1 h1  hA hk hr hF)
      ·
        refine pw_iload_n dX10_scrollDown_18 rfl ?_
        refine pw_istore (lv' := [some (.ref B), some (.int (zI (p))), some (.int (zI (a))), some (.int (zI (b))), some (.int (zI (nn))), some (.int (zI (k))), some (.int (zI (b)))]) dX10_scrollDown_19 (by decide) rfl rfl ?_
        refine lR_dn1 htr hp hab hnn ?_ _ (b) s1 h1 rfl (by omega) (by omega) hA hk hr hF
        intro r2  s2 h2 hA2 hk2 hr2 hF2
        obtain ⟨kw, kh, kr, kc, ksr, ksc, kt, ko, kwa, kin, kwr, khi, krd, knu, kgi, kas, kfr, kra, kco, kof, kip⟩ := id hk2
        have e18 := congrFun (hr2.2.1 18 (by decide)) p.toNat
        have e19 := congrFun (hr2.2.1 19 (by decide)) p.toNat
        refine pw_aload_n dX10_scrollDown_44 rfl ?_
        refine pw_iload_n dX10_scrollDown_45 rfl ?_
        refine pw_iload_n dX10_scrollDown_46 rfl ?_
        refine pw_callV (As := [.int (zI (p)), .int (zI (a))]) (b := B) (rm := rmD 2 0 0) (mR_blankRow htr hA2 hp hk2 (by omega)) rfl hA2.1 rfl rfl ywX10_blankRow rfl cwX10_244 ⟨nle rfl, nle rfl⟩ (nle rfl) ⟨nle rfl, nle rfl⟩ dX10_scrollDown_47 ?_ (fun _ _ _ z => z.elim)
        intro r_9 h3 n_9 hq _
        obtain ⟨e1, s3, hA3, hk3, hr30, hF30, e4⟩ := hq
        rw [e1, e4]
        show pw E YX10_scrollDown _ _ 0 0 50 [some (.ref B), some (.int (zI (p))), some (.int (zI (a))), some (.int (zI (b))), some (.int (zI (nn))), some (.int (zI (k))), some (.int (zI (r2)))] [] h3 n
        have hr3 := mPr_tr hr2 hr30
        have hF3 := mFr_tr hF2 hF30
        obtain ⟨kw, kh, kr, kc, ksr, ksc, kt, ko, kwa, kin, kwr, khi, krd, knu, kgi, kas, kfr, kra, kco, kof, kip⟩ := id hk3
        have e18 := congrFun (hr3.2.1 18 (by decide)) p.toNat
        have e19 := congrFun (hr3.2.1 19 (by decide)) p.toNat
        refine pw_ziinc (lv' := [some (.ref B), some (.int (zI (p))), some (.int (zI (a))), some (.int (zI (b))), some (.int (zI (nn))), some (.int (zI (k + 1))), some (.int (zI (r2)))]) dX10_scrollDown_50 rfl (by decide) rfl rfl ?_
        refine pw_goto (tgt := 3) dX10_scrollDown_53 rfl ?_
        exact ih (k + 1) _ s3 h3 (by omega) (by omega) (by omega)  hA3 hk3 hr3 hF3
set_option maxHeartbeats 2000000 in
set_option maxRecDepth 100000 in
/-- scrollDown(p, a, b, nn) -/
theorem mR_scrollDown {E : pw_E} (htr : E.1.stackTraces = false) {h : pz_H} {n : Nat} {B : Nat} {s : mS} (hA : mAt B s h) {p a b nn : Int} (hp : 0 ≤ p ∧ p < 8) (hk : mPk s p.toNat)  (hab : 0 ≤ a ∧ a ≤ b ∧ b < 16) (hnn : -2147483648 ≤ nn ∧ nn < 2147483648) : pw_M E yX10_scrollDown YX10_scrollDown (rmD 3 0 0) [.ref B, .int (zI (p)), .int (zI (a)), .int (zI (b)), .int (zI (nn))] h n (fun r0 h' n' => r0 = none ∧ ∃ s', mAt B s' h' ∧ mPk s' p.toNat ∧ mPr p.toNat s s' ∧ mFr B h h' ∧ n' = n) (fun _ _ _ => False) := by
  obtain ⟨kw, kh, kr, kc, ksr, ksc, kt, ko, kwa, kin, kwr, khi, krd, knu, kgi, kas, kfr, kra, kco, kof, kip⟩ := id hk
  have e18 : s.2 18 p.toNat = s.2 18 p.toNat := rfl
  refine pw_M_of (lv := [some (.ref B), some (.int (zI (p))), some (.int (zI (a))), some (.int (zI (b))), some (.int (zI (nn))), none, none]) (by decide) rfl rfl htr (nle rfl) rfl (fun L => ?_)
  refine pw_iconst (v := zI (0)) dX10_scrollDown_0 (by decide) ?_
  refine pw_istore (lv' := [some (.ref B), some (.int (zI (p))), some (.int (zI (a))), some (.int (zI (b))), some (.int (zI (nn))), some (.int (zI (0))), none]) dX10_scrollDown_1 (by decide) rfl rfl ?_
  refine lR_dn2 htr hp hab hnn ?_ _ 0 _ s h rfl (by omega) (by omega) hA hk mPr_rf mFr_rf
  intro _ _ s2 h2 z1 z2 z3 z4
  exact ⟨rfl, s2, z1, z2, z3, z4, rfl⟩
set_option maxHeartbeats 2000000 in
set_option maxRecDepth 100000 in
/-- down(p) -/
theorem mR_down {E : pw_E} (htr : E.1.stackTraces = false) {h : pz_H} {n : Nat} {B : Nat} {s : mS} (hA : mAt B s h) {p : Int} (hp : 0 ≤ p ∧ p < 8) (hk : mPk s p.toNat)  : pw_M E yX10_down YX10_down (rmD 4 0 0) [.ref B, .int (zI (p))] h n (fun r0 h' n' => r0 = none ∧ ∃ s', mAt B s' h' ∧ mPk s' p.toNat ∧ mPr p.toNat s s' ∧ mFr B h h' ∧ n' = n) (fun _ _ _ => False) := by
  obtain ⟨kw, kh, kr, kc, ksr, ksc, kt, ko, kwa, kin, kwr, khi, krd, knu, kgi, kas, kfr, kra, kco, kof, kip⟩ := id hk
  have e18 : s.2 18 p.toNat = s.2 18 p.toNat := rfl
  refine pw_M_of (lv := [some (.ref B), some (.int (zI (p)))]) (by decide) rfl rfl htr (nle rfl) rfl (fun L => ?_)
  refine pw_aload_n dX10_down_0 rfl ?_
  refine pw_get (v := .ref (B + 20)) okX10 (k := 23) (by decide) lkX10_68 hA.1 rfl dX10_down_1 ?_
  refine pw_iload_n dX10_down_4 rfl ?_
  refine pw_iald (t := 0) rfl (mF23 hA) (by first | omega | exact mCell_b hp ko (by omega) (by omega) | exact mHis_b hp (by omega) (by omega)) (by decide) dX10_down_5 ?_
  refine pw_aload_n dX10_down_6 rfl ?_
  refine pw_get (v := .ref (B + 27)) okX10 (k := 30) (by decide) lkX10_89 hA.1 rfl dX10_down_7 ?_
  refine pw_iload_n dX10_down_10 rfl ?_
  refine pw_iald (t := 0) rfl (mF30 hA) (by first | omega | exact mCell_b hp ko (by omega) (by omega) | exact mHis_b hp (by omega) (by omega)) (by decide) dX10_down_11 ?_
  refine pw_icmp_ne (tgt := 37) dX10_down_12 rfl (by omega) (by omega) (fun c12 => ?_) (fun c12 => ?_)
  ·
    refine pw_aload_n dX10_down_37 rfl ?_
    refine pw_get (v := .ref (B + 20)) okX10 (k := 23) (by decide) lkX10_68 hA.1 rfl dX10_down_38 ?_
    refine pw_iload_n dX10_down_41 rfl ?_
    refine pw_iald (t := 0) rfl (mF23 hA) (by first | omega | exact mCell_b hp ko (by omega) (by omega) | exact mHis_b hp (by omega) (by omega)) (by decide) dX10_down_42 ?_
    refine pw_aload_n dX10_down_43 rfl ?_
    refine pw_get (v := .ref (B + 16)) okX10 (k := 19) (by decide) lkX10_56 hA.1 rfl dX10_down_44 ?_
    refine pw_iload_n dX10_down_47 rfl ?_
    refine pw_iald (t := 0) rfl (mF19 hA) (by first | omega | exact mCell_b hp ko (by omega) (by omega) | exact mHis_b hp (by omega) (by omega)) (by decide) dX10_down_48 ?_
    refine pw_iconst (v := zI (1)) dX10_down_49 (by decide) ?_
    refine pw_zisub dX10_down_50 ?_
    refine pw_icmp_ge (tgt := 64) dX10_down_51 rfl (by omega) (by omega) (fun c51 => ?_) (fun c51 => ?_)
    ·
      refine pw_aload_n dX10_down_64 rfl ?_
      refine pw_get (v := .ref (B + 28)) okX10 (k := 31) (by decide) lkX10_92 hA.1 rfl dX10_down_65 ?_
      refine pw_iload_n dX10_down_68 rfl ?_
      refine pw_iconst (v := zI (0)) dX10_down_69 (by decide) ?_
      refine pw_zast (t := 1) rfl (mF31 hA) (by first | omega | exact mCell_b hp ko (by omega) (by omega) | exact mHis_b hp (by omega) (by omega)) (by decide) (by omega) dX10_down_70 ?_
      have hA1 : mAt B (mA 31 (va_up (s.2 31) (p).toNat (0)) s) (va_up h (B + 28) (pz_z 1 8 (va_up (s.2 31) (p).toNat (0)))) := mU31 hA
      have hk1 : mPk (mA 31 (va_up (s.2 31) (p).toNat (0)) s) p.toNat := mP31 hk (by omega)
      have hr1 : mPr p.toNat s (mA 31 (va_up (s.2 31) (p).toNat (0)) s) := mPr_tr mPr_rf (mPr_W (by decide) (by decide) (by decide))
      have hF1 : mFr B h (va_up h (B + 28) (pz_z 1 8 (va_up (s.2 31) (p).toNat (0)))) := mFr_tr mFr_rf (mFr_up (by decide))
      revert hA1 hk1 hr1 hF1 
      generalize (mA 31 (va_up (s.2 31) (p).toNat (0)) s) = s1
      generalize (va_up h (B + 28) (pz_z 1 8 (va_up (s.2 31) (p).toNat (0)))) = h1
      intro hA1 hk1 hr1 hF1 
      obtain ⟨kw, kh, kr, kc, ksr, ksc, kt, ko, kwa, kin, kwr, khi, krd, knu, kgi, kas, kfr, kra, kco, kof, kip⟩ := id hk1
      have e18 := congrFun (hr1.2.1 18 (by decide)) p.toNat
      have e19 := congrFun (hr1.2.1 19 (by decide)) p.toNat
      exact pw_vret dX10_down_71 rfl (nle rfl) (nle rfl) ⟨rfl, s1, hA1, hk1, hr1, hF1, rfl⟩
    ·
      refine pw_aload_n dX10_down_54 rfl ?_
      refine pw_get (v := .ref (B + 20)) okX10 (k := 23) (by decide) lkX10_68 hA.1 rfl dX10_down_55 ?_
      refine pw_iload_n dX10_down_58 rfl ?_
      refine pw_dup2 dX10_down_59 rfl rfl ?_
      refine pw_iald (t := 0) rfl (mF23 hA) (by first | omega | exact mCell_b hp ko (by omega) (by omega) | exact mHis_b hp (by omega) (by omega)) (by decide) dX10_down_60 ?_
      refine pw_iconst (v := zI (1)) dX10_down_61 (by decide) ?_
      refine pw_ziadd dX10_down_62 ?_
      refine pw_iast (t := 0) rfl (mF23 hA) (by first | omega | exact mCell_b hp ko (by omega) (by omega) | exact mHis_b hp (by omega) (by omega)) (by decide) dX10_down_63 ?_
      have hA2 : mAt B (mA 23 (va_up (s.2 23) (p).toNat (((s.2 23) (p).toNat) + (1))) s) (va_up h (B + 20) (pz_z 0 8 (va_up (s.2 23) (p).toNat (((s.2 23) (p).toNat) + (1))))) := mU23 hA
      have hk2 : mPk (mA 23 (va_up (s.2 23) (p).toNat (((s.2 23) (p).toNat) + (1))) s) p.toNat := mP23 hk (by omega)
      have hr2 : mPr p.toNat s (mA 23 (va_up (s.2 23) (p).toNat (((s.2 23) (p).toNat) + (1))) s) := mPr_tr mPr_rf (mPr_W (by decide) (by decide) (by decide))
      have hF2 : mFr B h (va_up h (B + 20) (pz_z 0 8 (va_up (s.2 23) (p).toNat (((s.2 23) (p).toNat) + (1))))) := mFr_tr mFr_rf (mFr_up (by decide))
      revert hA2 hk2 hr2 hF2 
      generalize (mA 23 (va_up (s.2 23) (p).toNat (((s.2 23) (p).toNat) + (1))) s) = s2
      generalize (va_up h (B + 20) (pz_z 0 8 (va_up (s.2 23) (p).toNat (((s.2 23) (p).toNat) + (1))))) = h2
      intro hA2 hk2 hr2 hF2 
      obtain ⟨kw, kh, kr, kc, ksr, ksc, kt, ko, kwa, kin, kwr, khi, krd, knu, kgi, kas, kfr, kra, kco, kof, kip⟩ := id hk2
      have e18 := congrFun (hr2.2.1 18 (by decide)) p.toNat
      have e19 := congrFun (hr2.2.1 19 (by decide)) p.toNat
      refine pw_aload_n dX10_down_64 rfl ?_
      refine pw_get (v := .ref (B + 28)) okX10 (k := 31) (by decide) lkX10_92 hA2.1 rfl dX10_down_65 ?_
      refine pw_iload_n dX10_down_68 rfl ?_
      refine pw_iconst (v := zI (0)) dX10_down_69 (by decide) ?_
      refine pw_zast (t := 1) rfl (mF31 hA2) (by first | omega | exact mCell_b hp ko (by omega) (by omega) | exact mHis_b hp (by omega) (by omega)) (by decide) (by omega) dX10_down_70 ?_
      have hA3 : mAt B (mA 31 (va_up (s2.2 31) (p).toNat (0)) s2) (va_up h2 (B + 28) (pz_z 1 8 (va_up (s2.2 31) (p).toNat (0)))) := mU31 hA2
      have hk3 : mPk (mA 31 (va_up (s2.2 31) (p).toNat (0)) s2) p.toNat := mP31 hk2 (by omega)
      have hr3 : mPr p.toNat s (mA 31 (va_up (s2.2 31) (p).toNat (0)) s2) := mPr_tr hr2 (mPr_W (by decide) (by decide) (by decide))
      have hF3 : mFr B h (va_up h2 (B + 28) (pz_z 1 8 (va_up (s2.2 31) (p).toNat (0)))) := mFr_tr hF2 (mFr_up (by decide))
      revert hA3 hk3 hr3 hF3 
      generalize (mA 31 (va_up (s2.2 31) (p).toNat (0)) s2) = s3
      generalize (va_up h2 (B + 28) (pz_z 1 8 (va_up (s2.2 31) (p).toNat (0)))) = h3
      intro hA3 hk3 hr3 hF3 
      obtain ⟨kw, kh, kr, kc, ksr, ksc, kt, ko, kwa, kin, kwr, khi, krd, knu, kgi, kas, kfr, kra, kco, kof, kip⟩ := id hk3
      have e18 := congrFun (hr3.2.1 18 (by decide)) p.toNat
      have e19 := congrFun (hr3.2.1 19 (by decide)) p.toNat
      exact pw_vret dX10_down_71 rfl (nle rfl) (nle rfl) ⟨rfl, s3, hA3, hk3, hr3, hF3, rfl⟩
  ·
    refine pw_aload_n dX10_down_15 rfl ?_
    refine pw_iload_n dX10_down_16 rfl ?_
    refine pw_aload_n dX10_down_17 rfl ?_
    refine pw_get (v := .ref (B + 26)) okX10 (k := 29) (by decide) lkX10_86 hA.1 rfl dX10_down_18 ?_
    refine pw_iload_n dX10_down_21 rfl ?_
    refine pw_iald (t := 0) rfl (mF29 hA) (by first | omega | exact mCell_b hp ko (by omega) (by omega) | exact mHis_b hp (by omega) (by omega)) (by decide) dX10_down_22 ?_
    refine pw_aload_n dX10_down_23 rfl ?_
    refine pw_get (v := .ref (B + 27)) okX10 (k := 30) (by decide) lkX10_89 hA.1 rfl dX10_down_24 ?_
    refine pw_iload_n dX10_down_27 rfl ?_
    refine pw_iald (t := 0) rfl (mF30 hA) (by first | omega | exact mCell_b hp ko (by omega) (by omega) | exact mHis_b hp (by omega) (by omega)) (by decide) dX10_down_28 ?_
    refine pw_iconst (v := zI (1)) dX10_down_29 (by decide) ?_
    refine pw_iconst (v := zI (1)) dX10_down_30 (by decide) ?_
    refine pw_callV (As := [.int (zI (p)), .int (zI ((s.2 29) (p).toNat)), .int (zI ((s.2 30) (p).toNat)), .int (zI (1)), .int (zI (1))]) (b := B) (rm := rmD 3 0 0) (mR_scrollUp htr hA hp hk (by omega) (by omega) (by omega)) rfl hA.1 rfl rfl ywX10_scrollUp rfl cwX10_247 ⟨nle rfl, nle rfl⟩ (nle rfl) ⟨nle rfl, nle rfl⟩ dX10_down_31 ?_ (fun _ _ _ z => z.elim)
    intro r_9 h4 n_9 hq _
    obtain ⟨e1, s4, hA4, hk4, hr40, hF40, e4⟩ := hq
    rw [e1, e4]
    show pw E YX10_down _ _ 0 0 34 [some (.ref B), some (.int (zI (p)))] [] h4 n
    have hr4 := mPr_tr mPr_rf hr40
    have hF4 := mFr_tr mFr_rf hF40
    obtain ⟨kw, kh, kr, kc, ksr, ksc, kt, ko, kwa, kin, kwr, khi, krd, knu, kgi, kas, kfr, kra, kco, kof, kip⟩ := id hk4
    have e18 := congrFun (hr4.2.1 18 (by decide)) p.toNat
    have e19 := congrFun (hr4.2.1 19 (by decide)) p.toNat
    refine pw_goto (tgt := 64) dX10_down_34 rfl ?_
    refine pw_aload_n dX10_down_64 rfl ?_
    refine pw_get (v := .ref (B + 28)) okX10 (k := 31) (by decide) lkX10_92 hA4.1 rfl dX10_down_65 ?_
    refine pw_iload_n dX10_down_68 rfl ?_
    refine pw_iconst (v := zI (0)) dX10_down_69 (by decide) ?_
    refine pw_zast (t := 1) rfl (mF31 hA4) (by first | omega | exact mCell_b hp ko (by omega) (by omega) | exact mHis_b hp (by omega) (by omega)) (by decide) (by omega) dX10_down_70 ?_
    have hA5 : mAt B (mA 31 (va_up (s4.2 31) (p).toNat (0)) s4) (va_up h4 (B + 28) (pz_z 1 8 (va_up (s4.2 31) (p).toNat (0)))) := mU31 hA4
    have hk5 : mPk (mA 31 (va_up (s4.2 31) (p).toNat (0)) s4) p.toNat := mP31 hk4 (by omega)
    have hr5 : mPr p.toNat s (mA 31 (va_up (s4.2 31) (p).toNat (0)) s4) := mPr_tr hr4 (mPr_W (by decide) (by decide) (by decide))
    have hF5 : mFr B h (va_up h4 (B + 28) (pz_z 1 8 (va_up (s4.2 31) (p).toNat (0)))) := mFr_tr hF4 (mFr_up (by decide))
    revert hA5 hk5 hr5 hF5 
    generalize (mA 31 (va_up (s4.2 31) (p).toNat (0)) s4) = s5
    generalize (va_up h4 (B + 28) (pz_z 1 8 (va_up (s4.2 31) (p).toNat (0)))) = h5
    intro hA5 hk5 hr5 hF5 
    obtain ⟨kw, kh, kr, kc, ksr, ksc, kt, ko, kwa, kin, kwr, khi, krd, knu, kgi, kas, kfr, kra, kco, kof, kip⟩ := id hk5
    have e18 := congrFun (hr5.2.1 18 (by decide)) p.toNat
    have e19 := congrFun (hr5.2.1 19 (by decide)) p.toNat
    exact pw_vret dX10_down_71 rfl (nle rfl) (nle rfl) ⟨rfl, s5, hA5, hk5, hr5, hF5, rfl⟩
set_option maxHeartbeats 2000000 in
set_option maxRecDepth 100000 in
/-- up(p) -/
theorem mR_up {E : pw_E} (htr : E.1.stackTraces = false) {h : pz_H} {n : Nat} {B : Nat} {s : mS} (hA : mAt B s h) {p : Int} (hp : 0 ≤ p ∧ p < 8) (hk : mPk s p.toNat)  : pw_M E yX10_up YX10_up (rmD 4 0 0) [.ref B, .int (zI (p))] h n (fun r0 h' n' => r0 = none ∧ ∃ s', mAt B s' h' ∧ mPk s' p.toNat ∧ mPr p.toNat s s' ∧ mFr B h h' ∧ n' = n) (fun _ _ _ => False) := by
  obtain ⟨kw, kh, kr, kc, ksr, ksc, kt, ko, kwa, kin, kwr, khi, krd, knu, kgi, kas, kfr, kra, kco, kof, kip⟩ := id hk
  have e18 : s.2 18 p.toNat = s.2 18 p.toNat := rfl
  refine pw_M_of (lv := [some (.ref B), some (.int (zI (p)))]) (by decide) rfl rfl htr (nle rfl) rfl (fun L => ?_)
  refine pw_aload_n dX10_up_0 rfl ?_
  refine pw_get (v := .ref (B + 20)) okX10 (k := 23) (by decide) lkX10_68 hA.1 rfl dX10_up_1 ?_
  refine pw_iload_n dX10_up_4 rfl ?_
  refine pw_iald (t := 0) rfl (mF23 hA) (by first | omega | exact mCell_b hp ko (by omega) (by omega) | exact mHis_b hp (by omega) (by omega)) (by decide) dX10_up_5 ?_
  refine pw_aload_n dX10_up_6 rfl ?_
  refine pw_get (v := .ref (B + 26)) okX10 (k := 29) (by decide) lkX10_86 hA.1 rfl dX10_up_7 ?_
  refine pw_iload_n dX10_up_10 rfl ?_
  refine pw_iald (t := 0) rfl (mF29 hA) (by first | omega | exact mCell_b hp ko (by omega) (by omega) | exact mHis_b hp (by omega) (by omega)) (by decide) dX10_up_11 ?_
  refine pw_icmp_ne (tgt := 36) dX10_up_12 rfl (by omega) (by omega) (fun c12 => ?_) (fun c12 => ?_)
  ·
    refine pw_aload_n dX10_up_36 rfl ?_
    refine pw_get (v := .ref (B + 20)) okX10 (k := 23) (by decide) lkX10_68 hA.1 rfl dX10_up_37 ?_
    refine pw_iload_n dX10_up_40 rfl ?_
    refine pw_iald (t := 0) rfl (mF23 hA) (by first | omega | exact mCell_b hp ko (by omega) (by omega) | exact mHis_b hp (by omega) (by omega)) (by decide) dX10_up_41 ?_
    refine pw_if_le (tgt := 55) dX10_up_42 rfl (by omega) (fun c42 => ?_) (fun c42 => ?_)
    ·
      refine pw_aload_n dX10_up_55 rfl ?_
      refine pw_get (v := .ref (B + 28)) okX10 (k := 31) (by decide) lkX10_92 hA.1 rfl dX10_up_56 ?_
      refine pw_iload_n dX10_up_59 rfl ?_
      refine pw_iconst (v := zI (0)) dX10_up_60 (by decide) ?_
      refine pw_zast (t := 1) rfl (mF31 hA) (by first | omega | exact mCell_b hp ko (by omega) (by omega) | exact mHis_b hp (by omega) (by omega)) (by decide) (by omega) dX10_up_61 ?_
      have hA1 : mAt B (mA 31 (va_up (s.2 31) (p).toNat (0)) s) (va_up h (B + 28) (pz_z 1 8 (va_up (s.2 31) (p).toNat (0)))) := mU31 hA
      have hk1 : mPk (mA 31 (va_up (s.2 31) (p).toNat (0)) s) p.toNat := mP31 hk (by omega)
      have hr1 : mPr p.toNat s (mA 31 (va_up (s.2 31) (p).toNat (0)) s) := mPr_tr mPr_rf (mPr_W (by decide) (by decide) (by decide))
      have hF1 : mFr B h (va_up h (B + 28) (pz_z 1 8 (va_up (s.2 31) (p).toNat (0)))) := mFr_tr mFr_rf (mFr_up (by decide))
      revert hA1 hk1 hr1 hF1 
      generalize (mA 31 (va_up (s.2 31) (p).toNat (0)) s) = s1
      generalize (va_up h (B + 28) (pz_z 1 8 (va_up (s.2 31) (p).toNat (0)))) = h1
      intro hA1 hk1 hr1 hF1 
      obtain ⟨kw, kh, kr, kc, ksr, ksc, kt, ko, kwa, kin, kwr, khi, krd, knu, kgi, kas, kfr, kra, kco, kof, kip⟩ := id hk1
      have e18 := congrFun (hr1.2.1 18 (by decide)) p.toNat
      have e19 := congrFun (hr1.2.1 19 (by decide)) p.toNat
      exact pw_vret dX10_up_62 rfl (nle rfl) (nle rfl) ⟨rfl, s1, hA1, hk1, hr1, hF1, rfl⟩
    ·
      refine pw_aload_n dX10_up_45 rfl ?_
      refine pw_get (v := .ref (B + 20)) okX10 (k := 23) (by decide) lkX10_68 hA.1 rfl dX10_up_46 ?_
      refine pw_iload_n dX10_up_49 rfl ?_
      refine pw_dup2 dX10_up_50 rfl rfl ?_
      refine pw_iald (t := 0) rfl (mF23 hA) (by first | omega | exact mCell_b hp ko (by omega) (by omega) | exact mHis_b hp (by omega) (by omega)) (by decide) dX10_up_51 ?_
      refine pw_iconst (v := zI (1)) dX10_up_52 (by decide) ?_
      refine pw_zisub dX10_up_53 ?_
      refine pw_iast (t := 0) rfl (mF23 hA) (by first | omega | exact mCell_b hp ko (by omega) (by omega) | exact mHis_b hp (by omega) (by omega)) (by decide) dX10_up_54 ?_
      have hA2 : mAt B (mA 23 (va_up (s.2 23) (p).toNat (((s.2 23) (p).toNat) - (1))) s) (va_up h (B + 20) (pz_z 0 8 (va_up (s.2 23) (p).toNat (((s.2 23) (p).toNat) - (1))))) := mU23 hA
      have hk2 : mPk (mA 23 (va_up (s.2 23) (p).toNat (((s.2 23) (p).toNat) - (1))) s) p.toNat := mP23 hk (by omega)
      have hr2 : mPr p.toNat s (mA 23 (va_up (s.2 23) (p).toNat (((s.2 23) (p).toNat) - (1))) s) := mPr_tr mPr_rf (mPr_W (by decide) (by decide) (by decide))
      have hF2 : mFr B h (va_up h (B + 20) (pz_z 0 8 (va_up (s.2 23) (p).toNat (((s.2 23) (p).toNat) - (1))))) := mFr_tr mFr_rf (mFr_up (by decide))
      revert hA2 hk2 hr2 hF2 
      generalize (mA 23 (va_up (s.2 23) (p).toNat (((s.2 23) (p).toNat) - (1))) s) = s2
      generalize (va_up h (B + 20) (pz_z 0 8 (va_up (s.2 23) (p).toNat (((s.2 23) (p).toNat) - (1))))) = h2
      intro hA2 hk2 hr2 hF2 
      obtain ⟨kw, kh, kr, kc, ksr, ksc, kt, ko, kwa, kin, kwr, khi, krd, knu, kgi, kas, kfr, kra, kco, kof, kip⟩ := id hk2
      have e18 := congrFun (hr2.2.1 18 (by decide)) p.toNat
      have e19 := congrFun (hr2.2.1 19 (by decide)) p.toNat
      refine pw_aload_n dX10_up_55 rfl ?_
      refine pw_get (v := .ref (B + 28)) okX10 (k := 31) (by decide) lkX10_92 hA2.1 rfl dX10_up_56 ?_
      refine pw_iload_n dX10_up_59 rfl ?_
      refine pw_iconst (v := zI (0)) dX10_up_60 (by decide) ?_
      refine pw_zast (t := 1) rfl (mF31 hA2) (by first | omega | exact mCell_b hp ko (by omega) (by omega) | exact mHis_b hp (by omega) (by omega)) (by decide) (by omega) dX10_up_61 ?_
      have hA3 : mAt B (mA 31 (va_up (s2.2 31) (p).toNat (0)) s2) (va_up h2 (B + 28) (pz_z 1 8 (va_up (s2.2 31) (p).toNat (0)))) := mU31 hA2
      have hk3 : mPk (mA 31 (va_up (s2.2 31) (p).toNat (0)) s2) p.toNat := mP31 hk2 (by omega)
      have hr3 : mPr p.toNat s (mA 31 (va_up (s2.2 31) (p).toNat (0)) s2) := mPr_tr hr2 (mPr_W (by decide) (by decide) (by decide))
      have hF3 : mFr B h (va_up h2 (B + 28) (pz_z 1 8 (va_up (s2.2 31) (p).toNat (0)))) := mFr_tr hF2 (mFr_up (by decide))
      revert hA3 hk3 hr3 hF3 
      generalize (mA 31 (va_up (s2.2 31) (p).toNat (0)) s2) = s3
      generalize (va_up h2 (B + 28) (pz_z 1 8 (va_up (s2.2 31) (p).toNat (0)))) = h3
      intro hA3 hk3 hr3 hF3 
      obtain ⟨kw, kh, kr, kc, ksr, ksc, kt, ko, kwa, kin, kwr, khi, krd, knu, kgi, kas, kfr, kra, kco, kof, kip⟩ := id hk3
      have e18 := congrFun (hr3.2.1 18 (by decide)) p.toNat
      have e19 := congrFun (hr3.2.1 19 (by decide)) p.toNat
      exact pw_vret dX10_up_62 rfl (nle rfl) (nle rfl) ⟨rfl, s3, hA3, hk3, hr3, hF3, rfl⟩
  ·
    refine pw_aload_n dX10_up_15 rfl ?_
    refine pw_iload_n dX10_up_16 rfl ?_
    refine pw_aload_n dX10_up_17 rfl ?_
    refine pw_get (v := .ref (B + 26)) okX10 (k := 29) (by decide) lkX10_86 hA.1 rfl dX10_up_18 ?_
    refine pw_iload_n dX10_up_21 rfl ?_
    refine pw_iald (t := 0) rfl (mF29 hA) (by first | omega | exact mCell_b hp ko (by omega) (by omega) | exact mHis_b hp (by omega) (by omega)) (by decide) dX10_up_22 ?_
    refine pw_aload_n dX10_up_23 rfl ?_
    refine pw_get (v := .ref (B + 27)) okX10 (k := 30) (by decide) lkX10_89 hA.1 rfl dX10_up_24 ?_
    refine pw_iload_n dX10_up_27 rfl ?_
    refine pw_iald (t := 0) rfl (mF30 hA) (by first | omega | exact mCell_b hp ko (by omega) (by omega) | exact mHis_b hp (by omega) (by omega)) (by decide) dX10_up_28 ?_
    refine pw_iconst (v := zI (1)) dX10_up_29 (by decide) ?_
    refine pw_callV (As := [.int (zI (p)), .int (zI ((s.2 29) (p).toNat)), .int (zI ((s.2 30) (p).toNat)), .int (zI (1))]) (b := B) (rm := rmD 3 0 0) (mR_scrollDown htr hA hp hk (by omega) (by omega)) rfl hA.1 rfl rfl ywX10_scrollDown rfl cwX10_251 ⟨nle rfl, nle rfl⟩ (nle rfl) ⟨nle rfl, nle rfl⟩ dX10_up_30 ?_ (fun _ _ _ z => z.elim)
    intro r_9 h4 n_9 hq _
    obtain ⟨e1, s4, hA4, hk4, hr40, hF40, e4⟩ := hq
    rw [e1, e4]
    show pw E YX10_up _ _ 0 0 33 [some (.ref B), some (.int (zI (p)))] [] h4 n
    have hr4 := mPr_tr mPr_rf hr40
    have hF4 := mFr_tr mFr_rf hF40
    obtain ⟨kw, kh, kr, kc, ksr, ksc, kt, ko, kwa, kin, kwr, khi, krd, knu, kgi, kas, kfr, kra, kco, kof, kip⟩ := id hk4
    have e18 := congrFun (hr4.2.1 18 (by decide)) p.toNat
    have e19 := congrFun (hr4.2.1 19 (by decide)) p.toNat
    refine pw_goto (tgt := 55) dX10_up_33 rfl ?_
    refine pw_aload_n dX10_up_55 rfl ?_
    refine pw_get (v := .ref (B + 28)) okX10 (k := 31) (by decide) lkX10_92 hA4.1 rfl dX10_up_56 ?_
    refine pw_iload_n dX10_up_59 rfl ?_
    refine pw_iconst (v := zI (0)) dX10_up_60 (by decide) ?_
    refine pw_zast (t := 1) rfl (mF31 hA4) (by first | omega | exact mCell_b hp ko (by omega) (by omega) | exact mHis_b hp (by omega) (by omega)) (by decide) (by omega) dX10_up_61 ?_
    have hA5 : mAt B (mA 31 (va_up (s4.2 31) (p).toNat (0)) s4) (va_up h4 (B + 28) (pz_z 1 8 (va_up (s4.2 31) (p).toNat (0)))) := mU31 hA4
    have hk5 : mPk (mA 31 (va_up (s4.2 31) (p).toNat (0)) s4) p.toNat := mP31 hk4 (by omega)
    have hr5 : mPr p.toNat s (mA 31 (va_up (s4.2 31) (p).toNat (0)) s4) := mPr_tr hr4 (mPr_W (by decide) (by decide) (by decide))
    have hF5 : mFr B h (va_up h4 (B + 28) (pz_z 1 8 (va_up (s4.2 31) (p).toNat (0)))) := mFr_tr hF4 (mFr_up (by decide))
    revert hA5 hk5 hr5 hF5 
    generalize (mA 31 (va_up (s4.2 31) (p).toNat (0)) s4) = s5
    generalize (va_up h4 (B + 28) (pz_z 1 8 (va_up (s4.2 31) (p).toNat (0)))) = h5
    intro hA5 hk5 hr5 hF5 
    obtain ⟨kw, kh, kr, kc, ksr, ksc, kt, ko, kwa, kin, kwr, khi, krd, knu, kgi, kas, kfr, kra, kco, kof, kip⟩ := id hk5
    have e18 := congrFun (hr5.2.1 18 (by decide)) p.toNat
    have e19 := congrFun (hr5.2.1 19 (by decide)) p.toNat
    exact pw_vret dX10_up_62 rfl (nle rfl) (nle rfl) ⟨rfl, s5, hA5, hk5, hr5, hF5, rfl⟩
set_option maxHeartbeats 2000000 in
set_option maxRecDepth 100000 in
theorem lR_push1 {E : pw_E} (htr : E.1.stackTraces = false) {Kk : pw_K} {n : Nat} {B : Nat} {s : mS} {h : pz_H} {p : Int} (hp : 0 ≤ p ∧ p < 8) {r f nn w0 : Int} (hr0 : 0 ≤ r ∧ r < 16) (hf : 0 ≤ f ∧ f < 40) (hw0 : w0 = s.2 18 p.toNat) (hnn : 0 < nn ∧ nn ≤ 999) (kk : ∀ (c9 : Int) (s2 : mS) (h2 : pz_H), mAt B s2 h2 → mPk s2 p.toNat → mPr p.toNat s s2 → mFr B h h2 → Kk.2.2.1 none h2 n) : ∀ (j : Nat) (c : Int) (s1 : mS) (h1 : pz_H), (c + 1 - f).toNat = j → f - 1 ≤ c → c < w0 → mAt B s1 h1 → mPk s1 p.toNat → mPr p.toNat s s1 → mFr B h h1 → pw E YX10_push (rmD 2 0 0) Kk 0 0 19 [some (.ref B), some (.int (zI (p))), some (.int (zI (r))), some (.int (zI (f))), some (.int (zI (nn))), some (.int (zI (w0))), some (.int (zI (c)))] [] h1 n := by
  intro j
  induction j with
  | zero =>
    intro c s1 h1 hj i0 i1 hA hk hr hF
    have e18 := congrFun (hr.2.1 18 (by decide)) p.toNat
    have e19 := congrFun (hr.2.1 19 (by decide)) p.toNat
    obtain ⟨kw, kh, kr, kc, ksr, ksc, kt, ko, kwa, kin, kwr, khi, krd, knu, kgi, kas, kfr, kra, kco, kof, kip⟩ := id hk
    refine pw_iload dX10_push_19 rfl ?_
    refine pw_iload_n dX10_push_21 rfl ?_
    refine pw_icmp_lt (tgt := 119) dX10_push_22 rfl (by omega) (by omega) (fun c22 => ?_) (fun c22 => ?_)
    ·
      exact pw_vret dX10_push_119 rfl (nle rfl) (nle rfl) (kk 0 s1 h1  hA hk hr hF)
    · exfalso; omega
  | succ j ih =>
    intro c s1 h1 hj i0 i1 hA hk hr hF
    have e18 := congrFun (hr.2.1 18 (by decide)) p.toNat
    have e19 := congrFun (hr.2.1 19 (by decide)) p.toNat
    obtain ⟨kw, kh, kr, kc, ksr, ksc, kt, ko, kwa, kin, kwr, khi, krd, knu, kgi, kas, kfr, kra, kco, kof, kip⟩ := id hk
    refine pw_iload dX10_push_19 rfl ?_
    refine pw_iload_n dX10_push_21 rfl ?_
    refine pw_icmp_lt (tgt := 119) dX10_push_22 rfl (by omega) (by omega) (fun c22 => ?_) (fun c22 => ?_)
    ·
      exact pw_vret dX10_push_119 rfl (nle rfl) (nle rfl) (kk 0 s1 h1  hA hk hr hF)
    ·
      refine pw_iload dX10_push_25 rfl ?_
      refine pw_iload dX10_push_27 rfl ?_
      refine pw_zisub dX10_push_29 ?_
      refine pw_iload_n dX10_push_30 rfl ?_
      refine pw_icmp_lt (tgt := 95) dX10_push_31 rfl (by omega) (by omega) (fun c31 => ?_) (fun c31 => ?_)
      ·
        refine pw_aload_n dX10_push_95 rfl ?_
        refine pw_aload_n dX10_push_96 rfl ?_
        refine pw_iload_n dX10_push_97 rfl ?_
        refine pw_iload_n dX10_push_98 rfl ?_
        refine pw_iload dX10_push_99 rfl ?_
        refine pw_callV (As := [.int (zI (p)), .int (zI (r)), .int (zI (c))]) (b := B) (rm := rmD 1 0 0) (mR_at htr hA hp hk) rfl hA.1 rfl rfl ywX10_at rfl cwX10_231 ⟨nle rfl, nle rfl⟩ (nle rfl) ⟨nle rfl, nle rfl⟩ dX10_push_101 ?_ (fun _ _ _ z => z.elim)
        intro r_9 h_9 n_9 hq _
        rw [hq.1, hq.2.1, hq.2.2]
        show pw E YX10_push _ _ 0 0 104 [some (.ref B), some (.int (zI (p))), some (.int (zI (r))), some (.int (zI (f))), some (.int (zI (nn))), some (.int (zI (w0))), some (.int (zI (c)))] [.int (zI (mCell (p) (s1.2 22 p.toNat) (r) (c))), .ref B] h1 n
        refine pw_aload_n dX10_push_104 rfl ?_
        refine pw_get (v := .ref (B + 22)) okX10 (k := 25) (by decide) lkX10_74 hA.1 rfl dX10_push_105 ?_
        refine pw_iload_n dX10_push_108 rfl ?_
        refine pw_iald (t := 0) rfl (mF25 hA) (by first | omega | exact mCell_b hp ko (by omega) (by omega) | exact mHis_b hp (by omega) (by omega)) (by decide) dX10_push_109 ?_
        refine pw_callV (As := [.int (zI (mCell (p) (s1.2 22 p.toNat) (r) (c))), .int (zI ((s1.2 25) (p).toNat))]) (b := B) (rm := rmD 0 0 0) (mR_blank htr hA hp hk (by first | omega | exact mCell_b hp ko (by omega) (by omega))) rfl hA.1 rfl rfl ywX10_blank rfl cwX10_184 ⟨nle rfl, nle rfl⟩ (nle rfl) ⟨nle rfl, nle rfl⟩ dX10_push_110 ?_ (fun _ _ _ z => z.elim)
        intro r_9 h2 n_9 hq _
        obtain ⟨e1, s2, hA2, hk2, hr20, hF20, e4⟩ := hq
        rw [e1, e4]
        show pw E YX10_push _ _ 0 0 113 [some (.ref B), some (.int (zI (p))), some (.int (zI (r))), some (.int (zI (f))), some (.int (zI (nn))), some (.int (zI (w0))), some (.int (zI (c)))] [] h2 n
        have hr2 := mPr_tr hr hr20
        have hF2 := mFr_tr hF hF20
        obtain ⟨kw, kh, kr, kc, ksr, ksc, kt, ko, kwa, kin, kwr, khi, krd, knu, kgi, kas, kfr, kra, kco, kof, kip⟩ := id hk2
        have e18 := congrFun (hr2.2.1 18 (by decide)) p.toNat
        have e19 := congrFun (hr2.2.1 19 (by decide)) p.toNat
        refine pw_ziinc (lv' := [some (.ref B), some (.int (zI (p))), some (.int (zI (r))), some (.int (zI (f))), some (.int (zI (nn))), some (.int (zI (w0))), some (.int (zI (c + (-1))))]) dX10_push_113 rfl (by decide) rfl rfl ?_
        refine pw_goto (tgt := 19) dX10_push_116 rfl ?_
        exact ih (c + (-1)) s2 h2 (by omega) (by omega) (by omega)  hA2 hk2 hr2 hF2
      ·
        refine pw_aload_n dX10_push_34 rfl ?_
        refine pw_get (v := .ref (B + 17)) okX10 (k := 20) (by decide) lkX10_59 hA.1 rfl dX10_push_35 ?_
        refine pw_aload_n dX10_push_38 rfl ?_
        refine pw_iload_n dX10_push_39 rfl ?_
        refine pw_iload_n dX10_push_40 rfl ?_
        refine pw_iload dX10_push_41 rfl ?_
        refine pw_callV (As := [.int (zI (p)), .int (zI (r)), .int (zI (c))]) (b := B) (rm := rmD 1 0 0) (mR_at htr hA hp hk) rfl hA.1 rfl rfl ywX10_at rfl cwX10_231 ⟨nle rfl, nle rfl⟩ (nle rfl) ⟨nle rfl, nle rfl⟩ dX10_push_43 ?_ (fun _ _ _ z => z.elim)
        intro r_9 h_9 n_9 hq _
        rw [hq.1, hq.2.1, hq.2.2]
        show pw E YX10_push _ _ 0 0 46 [some (.ref B), some (.int (zI (p))), some (.int (zI (r))), some (.int (zI (f))), some (.int (zI (nn))), some (.int (zI (w0))), some (.int (zI (c)))] [.int (zI (mCell (p) (s1.2 22 p.toNat) (r) (c))), .ref (B + 17)] h1 n
        refine pw_aload_n dX10_push_46 rfl ?_
        refine pw_get (v := .ref (B + 17)) okX10 (k := 20) (by decide) lkX10_59 hA.1 rfl dX10_push_47 ?_
        refine pw_aload_n dX10_push_50 rfl ?_
        refine pw_iload_n dX10_push_51 rfl ?_
        refine pw_iload_n dX10_push_52 rfl ?_
        refine pw_iload dX10_push_53 rfl ?_
        refine pw_iload dX10_push_55 rfl ?_
        refine pw_zisub dX10_push_57 ?_
        refine pw_callV (As := [.int (zI (p)), .int (zI (r)), .int (zI (c - nn))]) (b := B) (rm := rmD 1 0 0) (mR_at htr hA hp hk) rfl hA.1 rfl rfl ywX10_at rfl cwX10_231 ⟨nle rfl, nle rfl⟩ (nle rfl) ⟨nle rfl, nle rfl⟩ dX10_push_58 ?_ (fun _ _ _ z => z.elim)
        intro r_9 h_9 n_9 hq _
        rw [hq.1, hq.2.1, hq.2.2]
        show pw E YX10_push _ _ 0 0 61 [some (.ref B), some (.int (zI (p))), some (.int (zI (r))), some (.int (zI (f))), some (.int (zI (nn))), some (.int (zI (w0))), some (.int (zI (c)))] [.int (zI (mCell (p) (s1.2 22 p.toNat) (r) (c - nn))), .ref (B + 17), .int (zI (mCell (p) (s1.2 22 p.toNat) (r) (c))), .ref (B + 17)] h1 n
        refine pw_iald (t := 0) rfl (mF20 hA) (by first | omega | exact mCell_b hp ko (by omega) (by omega) | exact mHis_b hp (by omega) (by omega)) (by decide) dX10_push_61 ?_
        refine pw_iast (t := 0) rfl (mF20 hA) (by first | omega | exact mCell_b hp ko (by omega) (by omega) | exact mHis_b hp (by omega) (by omega)) (by decide) dX10_push_62 ?_
        have hA3 : mAt B (mA 20 (va_up (s1.2 20) (mCell (p) (s1.2 22 p.toNat) (r) (c)).toNat ((s1.2 20) (mCell (p) (s1.2 22 p.toNat) (r) (c - nn)).toNat)) s1) (va_up h1 (B + 17) (pz_z 0 10240 (va_up (s1.2 20) (mCell (p) (s1.2 22 p.toNat) (r) (c)).toNat ((s1.2 20) (mCell (p) (s1.2 22 p.toNat) (r) (c - nn)).toNat)))) := mU20 hA
        have hk3 : mPk (mA 20 (va_up (s1.2 20) (mCell (p) (s1.2 22 p.toNat) (r) (c)).toNat ((s1.2 20) (mCell (p) (s1.2 22 p.toNat) (r) (c - nn)).toNat)) s1) p.toNat := mPc hk (by decide)
        have hr3 : mPr p.toNat s (mA 20 (va_up (s1.2 20) (mCell (p) (s1.2 22 p.toNat) (r) (c)).toNat ((s1.2 20) (mCell (p) (s1.2 22 p.toNat) (r) (c - nn)).toNat)) s1) := mPr_tr hr (mPr_C (by decide))
        have hF3 : mFr B h (va_up h1 (B + 17) (pz_z 0 10240 (va_up (s1.2 20) (mCell (p) (s1.2 22 p.toNat) (r) (c)).toNat ((s1.2 20) (mCell (p) (s1.2 22 p.toNat) (r) (c - nn)).toNat)))) := mFr_tr hF (mFr_up (by decide))
        revert hA3 hk3 hr3 hF3 
        generalize (mA 20 (va_up (s1.2 20) (mCell (p) (s1.2 22 p.toNat) (r) (c)).toNat ((s1.2 20) (mCell (p) (s1.2 22 p.toNat) (r) (c - nn)).toNat)) s1) = s3
        generalize (va_up h1 (B + 17) (pz_z 0 10240 (va_up (s1.2 20) (mCell (p) (s1.2 22 p.toNat) (r) (c)).toNat ((s1.2 20) (mCell (p) (s1.2 22 p.toNat) (r) (c - nn)).toNat)))) = h3
        intro hA3 hk3 hr3 hF3 
        obtain ⟨kw, kh, kr, kc, ksr, ksc, kt, ko, kwa, kin, kwr, khi, krd, knu, kgi, kas, kfr, kra, kco, kof, kip⟩ := id hk3
        have e18 := congrFun (hr3.2.1 18 (by decide)) p.toNat
        have e19 := congrFun (hr3.2.1 19 (by decide)) p.toNat
        refine pw_aload_n dX10_push_63 rfl ?_
        refine pw_get (v := .ref (B + 18)) okX10 (k := 21) (by decide) lkX10_62 hA3.1 rfl dX10_push_64 ?_
        refine pw_aload_n dX10_push_67 rfl ?_
        refine pw_iload_n dX10_push_68 rfl ?_
        refine pw_iload_n dX10_push_69 rfl ?_
        refine pw_iload dX10_push_70 rfl ?_
        refine pw_callV (As := [.int (zI (p)), .int (zI (r)), .int (zI (c))]) (b := B) (rm := rmD 1 0 0) (mR_at htr hA3 hp hk3) rfl hA3.1 rfl rfl ywX10_at rfl cwX10_231 ⟨nle rfl, nle rfl⟩ (nle rfl) ⟨nle rfl, nle rfl⟩ dX10_push_72 ?_ (fun _ _ _ z => z.elim)
        intro r_9 h_9 n_9 hq _
        rw [hq.1, hq.2.1, hq.2.2]
        show pw E YX10_push _ _ 0 0 75 [some (.ref B), some (.int (zI (p))), some (.int (zI (r))), some (.int (zI (f))), some (.int (zI (nn))), some (.int (zI (w0))), some (.int (zI (c)))] [.int (zI (mCell (p) (s3.2 22 p.toNat) (r) (c))), .ref (B + 18)] h3 n
        refine pw_aload_n dX10_push_75 rfl ?_
        refine pw_get (v := .ref (B + 18)) okX10 (k := 21) (by decide) lkX10_62 hA3.1 rfl dX10_push_76 ?_
        refine pw_aload_n dX10_push_79 rfl ?_
        refine pw_iload_n dX10_push_80 rfl ?_
        refine pw_iload_n dX10_push_81 rfl ?_
        refine pw_iload dX10_push_82 rfl ?_
        refine pw_iload dX10_push_84 rfl ?_
        refine pw_zisub dX10_push_86 ?_
        refine pw_callV (As := [.int (zI (p)), .int (zI (r)), .int (zI (c - nn))]) (b := B) (rm := rmD 1 0 0) (mR_at htr hA3 hp hk3) rfl hA3.1 rfl rfl ywX10_at rfl cwX10_231 ⟨nle rfl, nle rfl⟩ (nle rfl) ⟨nle rfl, nle rfl⟩ dX10_push_87 ?_ (fun _ _ _ z => z.elim)
        intro r_9 h_9 n_9 hq _
        rw [hq.1, hq.2.1, hq.2.2]
        show pw E YX10_push _ _ 0 0 90 [some (.ref B), some (.int (zI (p))), some (.int (zI (r))), some (.int (zI (f))), some (.int (zI (nn))), some (.int (zI (w0))), some (.int (zI (c)))] [.int (zI (mCell (p) (s3.2 22 p.toNat) (r) (c - nn))), .ref (B + 18), .int (zI (mCell (p) (s3.2 22 p.toNat) (r) (c))), .ref (B + 18)] h3 n
        refine pw_iald (t := 0) rfl (mF21 hA3) (by first | omega | exact mCell_b hp ko (by omega) (by omega) | exact mHis_b hp (by omega) (by omega)) (by decide) dX10_push_90 ?_
        refine pw_iast (t := 0) rfl (mF21 hA3) (by first | omega | exact mCell_b hp ko (by omega) (by omega) | exact mHis_b hp (by omega) (by omega)) (by decide) dX10_push_91 ?_
        have hA4 : mAt B (mA 21 (va_up (s3.2 21) (mCell (p) (s3.2 22 p.toNat) (r) (c)).toNat ((s3.2 21) (mCell (p) (s3.2 22 p.toNat) (r) (c - nn)).toNat)) s3) (va_up h3 (B + 18) (pz_z 0 10240 (va_up (s3.2 21) (mCell (p) (s3.2 22 p.toNat) (r) (c)).toNat ((s3.2 21) (mCell (p) (s3.2 22 p.toNat) (r) (c - nn)).toNat)))) := mU21 hA3
        have hk4 : mPk (mA 21 (va_up (s3.2 21) (mCell (p) (s3.2 22 p.toNat) (r) (c)).toNat ((s3.2 21) (mCell (p) (s3.2 22 p.toNat) (r) (c - nn)).toNat)) s3) p.toNat := mPc hk3 (by decide)
        have hr4 : mPr p.toNat s (mA 21 (va_up (s3.2 21) (mCell (p) (s3.2 22 p.toNat) (r) (c)).toNat ((s3.2 21) (mCell (p) (s3.2 22 p.toNat) (r) (c - nn)).toNat)) s3) := mPr_tr hr3 (mPr_C (by decide))
        have hF4 : mFr B h (va_up h3 (B + 18) (pz_z 0 10240 (va_up (s3.2 21) (mCell (p) (s3.2 22 p.toNat) (r) (c)).toNat ((s3.2 21) (mCell (p) (s3.2 22 p.toNat) (r) (c - nn)).toNat)))) := mFr_tr hF3 (mFr_up (by decide))
        revert hA4 hk4 hr4 hF4 
        generalize (mA 21 (va_up (s3.2 21) (mCell (p) (s3.2 22 p.toNat) (r) (c)).toNat ((s3.2 21) (mCell (p) (s3.2 22 p.toNat) (r) (c - nn)).toNat)) s3) = s4
        generalize (va_up h3 (B + 18) (pz_z 0 10240 (va_up (s3.2 21) (mCell (p) (s3.2 22 p.toNat) (r) (c)).toNat ((s3.2 21) (mCell (p) (s3.2 22 p.toNat) (r) (c - nn)).toNat)))) = h4
        intro hA4 hk4 hr4 hF4 
        obtain ⟨kw, kh, kr, kc, ksr, ksc, kt, ko, kwa, kin, kwr, khi, krd, knu, kgi, kas, kfr, kra, kco, kof, kip⟩ := id hk4
        have e18 := congrFun (hr4.2.1 18 (by decide)) p.toNat
        have e19 := congrFun (hr4.2.1 19 (by decide)) p.toNat
        refine pw_goto (tgt := 113) dX10_push_92 rfl ?_
        refine pw_ziinc (lv' := [some (.ref B), some (.int (zI (p))), some (.int (zI (r))), some (.int (zI (f))), some (.int (zI (nn))), some (.int (zI (w0))), some (.int (zI (c + (-1))))]) dX10_push_113 rfl (by decide) rfl rfl ?_
        refine pw_goto (tgt := 19) dX10_push_116 rfl ?_
        exact ih (c + (-1)) s4 h4 (by omega) (by omega) (by omega)  hA4 hk4 hr4 hF4
set_option maxHeartbeats 2000000 in
set_option maxRecDepth 100000 in
theorem lR_push2 {E : pw_E} (htr : E.1.stackTraces = false) {Kk : pw_K} {n : Nat} {B : Nat} {s : mS} {h : pz_H} {p : Int} (hp : 0 ≤ p ∧ p < 8) {r f nn w0 : Int} (hr0 : 0 ≤ r ∧ r < 16) (hf : 0 ≤ f ∧ f < 40) (hw0 : w0 = s.2 18 p.toNat) (hnn : -999 ≤ nn ∧ nn ≤ 0) (kk : ∀ (c9 : Int) (s2 : mS) (h2 : pz_H), mAt B s2 h2 → mPk s2 p.toNat → mPr p.toNat s s2 → mFr B h h2 → Kk.2.2.1 none h2 n) : ∀ (j : Nat) (c : Int) (s1 : mS) (h1 : pz_H), (w0 - c).toNat = j → f ≤ c → c ≤ 40 → mAt B s1 h1 → mPk s1 p.toNat → mPr p.toNat s s1 → mFr B h h1 → pw E YX10_push (rmD 2 0 0) Kk 0 0 123 [some (.ref B), some (.int (zI (p))), some (.int (zI (r))), some (.int (zI (f))), some (.int (zI (nn))), some (.int (zI (w0))), some (.int (zI (c)))] [] h1 n := by
  intro j
  induction j with
  | zero =>
    intro c s1 h1 hj i0 i1 hA hk hr hF
    have e18 := congrFun (hr.2.1 18 (by decide)) p.toNat
    have e19 := congrFun (hr.2.1 19 (by decide)) p.toNat
    obtain ⟨kw, kh, kr, kc, ksr, ksc, kt, ko, kwa, kin, kwr, khi, krd, knu, kgi, kas, kfr, kra, kco, kof, kip⟩ := id hk
    refine pw_iload dX10_push_123 rfl ?_
    refine pw_iload dX10_push_125 rfl ?_
    refine pw_icmp_ge (tgt := 225) dX10_push_127 rfl (by omega) (by omega) (fun c127 => ?_) (fun c127 => ?_)
    ·
      exact pw_vret dX10_push_225 rfl (nle rfl) (nle rfl) (kk 0 s1 h1  hA hk hr hF)
    · exfalso; omega
  | succ j ih =>
    intro c s1 h1 hj i0 i1 hA hk hr hF
    have e18 := congrFun (hr.2.1 18 (by decide)) p.toNat
    have e19 := congrFun (hr.2.1 19 (by decide)) p.toNat
    obtain ⟨kw, kh, kr, kc, ksr, ksc, kt, ko, kwa, kin, kwr, khi, krd, knu, kgi, kas, kfr, kra, kco, kof, kip⟩ := id hk
    refine pw_iload dX10_push_123 rfl ?_
    refine pw_iload dX10_push_125 rfl ?_
    refine pw_icmp_ge (tgt := 225) dX10_push_127 rfl (by omega) (by omega) (fun c127 => ?_) (fun c127 => ?_)
    ·
      exact pw_vret dX10_push_225 rfl (nle rfl) (nle rfl) (kk 0 s1 h1  hA hk hr hF)
    ·
      refine pw_iload dX10_push_130 rfl ?_
      refine pw_iload dX10_push_132 rfl ?_
      refine pw_zisub dX10_push_134 ?_
      refine pw_iload dX10_push_135 rfl ?_
      refine pw_icmp_ge (tgt := 201) dX10_push_137 rfl (by omega) (by omega) (fun c137 => ?_) (fun c137 => ?_)
      ·
        refine pw_aload_n dX10_push_201 rfl ?_
        refine pw_aload_n dX10_push_202 rfl ?_
        refine pw_iload_n dX10_push_203 rfl ?_
        refine pw_iload_n dX10_push_204 rfl ?_
        refine pw_iload dX10_push_205 rfl ?_
        refine pw_callV (As := [.int (zI (p)), .int (zI (r)), .int (zI (c))]) (b := B) (rm := rmD 1 0 0) (mR_at htr hA hp hk) rfl hA.1 rfl rfl ywX10_at rfl cwX10_231 ⟨nle rfl, nle rfl⟩ (nle rfl) ⟨nle rfl, nle rfl⟩ dX10_push_207 ?_ (fun _ _ _ z => z.elim)
        intro r_9 h_9 n_9 hq _
        rw [hq.1, hq.2.1, hq.2.2]
        show pw E YX10_push _ _ 0 0 210 [some (.ref B), some (.int (zI (p))), some (.int (zI (r))), some (.int (zI (f))), some (.int (zI (nn))), some (.int (zI (w0))), some (.int (zI (c)))] [.int (zI (mCell (p) (s1.2 22 p.toNat) (r) (c))), .ref B] h1 n
        refine pw_aload_n dX10_push_210 rfl ?_
        refine pw_get (v := .ref (B + 22)) okX10 (k := 25) (by decide) lkX10_74 hA.1 rfl dX10_push_211 ?_
        refine pw_iload_n dX10_push_214 rfl ?_
        refine pw_iald (t := 0) rfl (mF25 hA) (by first | omega | exact mCell_b hp ko (by omega) (by omega) | exact mHis_b hp (by omega) (by omega)) (by decide) dX10_push_215 ?_
        refine pw_callV (As := [.int (zI (mCell (p) (s1.2 22 p.toNat) (r) (c))), .int (zI ((s1.2 25) (p).toNat))]) (b := B) (rm := rmD 0 0 0) (mR_blank htr hA hp hk (by first | omega | exact mCell_b hp ko (by omega) (by omega))) rfl hA.1 rfl rfl ywX10_blank rfl cwX10_184 ⟨nle rfl, nle rfl⟩ (nle rfl) ⟨nle rfl, nle rfl⟩ dX10_push_216 ?_ (fun _ _ _ z => z.elim)
        intro r_9 h2 n_9 hq _
        obtain ⟨e1, s2, hA2, hk2, hr20, hF20, e4⟩ := hq
        rw [e1, e4]
        show pw E YX10_push _ _ 0 0 219 [some (.ref B), some (.int (zI (p))), some (.int (zI (r))), some (.int (zI (f))), some (.int (zI (nn))), some (.int (zI (w0))), some (.int (zI (c)))] [] h2 n
        have hr2 := mPr_tr hr hr20
        have hF2 := mFr_tr hF hF20
        obtain ⟨kw, kh, kr, kc, ksr, ksc, kt, ko, kwa, kin, kwr, khi, krd, knu, kgi, kas, kfr, kra, kco, kof, kip⟩ := id hk2
        have e18 := congrFun (hr2.2.1 18 (by decide)) p.toNat
        have e19 := congrFun (hr2.2.1 19 (by decide)) p.toNat
        refine pw_ziinc (lv' := [some (.ref B), some (.int (zI (p))), some (.int (zI (r))), some (.int (zI (f))), some (.int (zI (nn))), some (.int (zI (w0))), some (.int (zI (c + 1)))]) dX10_push_219 rfl (by decide) rfl rfl ?_
        refine pw_goto (tgt := 123) dX10_push_222 rfl ?_
        exact ih (c + 1) s2 h2 (by omega) (by omega) (by omega)  hA2 hk2 hr2 hF2
      ·
        refine pw_aload_n dX10_push_140 rfl ?_
        refine pw_get (v := .ref (B + 17)) okX10 (k := 20) (by decide) lkX10_59 hA.1 rfl dX10_push_141 ?_
        refine pw_aload_n dX10_push_144 rfl ?_
        refine pw_iload_n dX10_push_145 rfl ?_
        refine pw_iload_n dX10_push_146 rfl ?_
        refine pw_iload dX10_push_147 rfl ?_
        refine pw_callV (As := [.int (zI (p)), .int (zI (r)), .int (zI (c))]) (b := B) (rm := rmD 1 0 0) (mR_at htr hA hp hk) rfl hA.1 rfl rfl ywX10_at rfl cwX10_231 ⟨nle rfl, nle rfl⟩ (nle rfl) ⟨nle rfl, nle rfl⟩ dX10_push_149 ?_ (fun _ _ _ z => z.elim)
        intro r_9 h_9 n_9 hq _
        rw [hq.1, hq.2.1, hq.2.2]
        show pw E YX10_push _ _ 0 0 152 [some (.ref B), some (.int (zI (p))), some (.int (zI (r))), some (.int (zI (f))), some (.int (zI (nn))), some (.int (zI (w0))), some (.int (zI (c)))] [.int (zI (mCell (p) (s1.2 22 p.toNat) (r) (c))), .ref (B + 17)] h1 n
        refine pw_aload_n dX10_push_152 rfl ?_
        refine pw_get (v := .ref (B + 17)) okX10 (k := 20) (by decide) lkX10_59 hA.1 rfl dX10_push_153 ?_
        refine pw_aload_n dX10_push_156 rfl ?_
        refine pw_iload_n dX10_push_157 rfl ?_
        refine pw_iload_n dX10_push_158 rfl ?_
        refine pw_iload dX10_push_159 rfl ?_
        refine pw_iload dX10_push_161 rfl ?_
        refine pw_zisub dX10_push_163 ?_
        refine pw_callV (As := [.int (zI (p)), .int (zI (r)), .int (zI (c - nn))]) (b := B) (rm := rmD 1 0 0) (mR_at htr hA hp hk) rfl hA.1 rfl rfl ywX10_at rfl cwX10_231 ⟨nle rfl, nle rfl⟩ (nle rfl) ⟨nle rfl, nle rfl⟩ dX10_push_164 ?_ (fun _ _ _ z => z.elim)
        intro r_9 h_9 n_9 hq _
        rw [hq.1, hq.2.1, hq.2.2]
        show pw E YX10_push _ _ 0 0 167 [some (.ref B), some (.int (zI (p))), some (.int (zI (r))), some (.int (zI (f))), some (.int (zI (nn))), some (.int (zI (w0))), some (.int (zI (c)))] [.int (zI (mCell (p) (s1.2 22 p.toNat) (r) (c - nn))), .ref (B + 17), .int (zI (mCell (p) (s1.2 22 p.toNat) (r) (c))), .ref (B + 17)] h1 n
        refine pw_iald (t := 0) rfl (mF20 hA) (by first | omega | exact mCell_b hp ko (by omega) (by omega) | exact mHis_b hp (by omega) (by omega)) (by decide) dX10_push_167 ?_
        refine pw_iast (t := 0) rfl (mF20 hA) (by first | omega | exact mCell_b hp ko (by omega) (by omega) | exact mHis_b hp (by omega) (by omega)) (by decide) dX10_push_168 ?_
        have hA3 : mAt B (mA 20 (va_up (s1.2 20) (mCell (p) (s1.2 22 p.toNat) (r) (c)).toNat ((s1.2 20) (mCell (p) (s1.2 22 p.toNat) (r) (c - nn)).toNat)) s1) (va_up h1 (B + 17) (pz_z 0 10240 (va_up (s1.2 20) (mCell (p) (s1.2 22 p.toNat) (r) (c)).toNat ((s1.2 20) (mCell (p) (s1.2 22 p.toNat) (r) (c - nn)).toNat)))) := mU20 hA
        have hk3 : mPk (mA 20 (va_up (s1.2 20) (mCell (p) (s1.2 22 p.toNat) (r) (c)).toNat ((s1.2 20) (mCell (p) (s1.2 22 p.toNat) (r) (c - nn)).toNat)) s1) p.toNat := mPc hk (by decide)
        have hr3 : mPr p.toNat s (mA 20 (va_up (s1.2 20) (mCell (p) (s1.2 22 p.toNat) (r) (c)).toNat ((s1.2 20) (mCell (p) (s1.2 22 p.toNat) (r) (c - nn)).toNat)) s1) := mPr_tr hr (mPr_C (by decide))
        have hF3 : mFr B h (va_up h1 (B + 17) (pz_z 0 10240 (va_up (s1.2 20) (mCell (p) (s1.2 22 p.toNat) (r) (c)).toNat ((s1.2 20) (mCell (p) (s1.2 22 p.toNat) (r) (c - nn)).toNat)))) := mFr_tr hF (mFr_up (by decide))
        revert hA3 hk3 hr3 hF3 
        generalize (mA 20 (va_up (s1.2 20) (mCell (p) (s1.2 22 p.toNat) (r) (c)).toNat ((s1.2 20) (mCell (p) (s1.2 22 p.toNat) (r) (c - nn)).toNat)) s1) = s3
        generalize (va_up h1 (B + 17) (pz_z 0 10240 (va_up (s1.2 20) (mCell (p) (s1.2 22 p.toNat) (r) (c)).toNat ((s1.2 20) (mCell (p) (s1.2 22 p.toNat) (r) (c - nn)).toNat)))) = h3
        intro hA3 hk3 hr3 hF3 
        obtain ⟨kw, kh, kr, kc, ksr, ksc, kt, ko, kwa, kin, kwr, khi, krd, knu, kgi, kas, kfr, kra, kco, kof, kip⟩ := id hk3
        have e18 := congrFun (hr3.2.1 18 (by decide)) p.toNat
        have e19 := congrFun (hr3.2.1 19 (by decide)) p.toNat
        refine pw_aload_n dX10_push_169 rfl ?_
        refine pw_get (v := .ref (B + 18)) okX10 (k := 21) (by decide) lkX10_62 hA3.1 rfl dX10_push_170 ?_
        refine pw_aload_n dX10_push_173 rfl ?_
        refine pw_iload_n dX10_push_174 rfl ?_
        refine pw_iload_n dX10_push_175 rfl ?_
        refine pw_iload dX10_push_176 rfl ?_
        refine pw_callV (As := [.int (zI (p)), .int (zI (r)), .int (zI (c))]) (b := B) (rm := rmD 1 0 0) (mR_at htr hA3 hp hk3) rfl hA3.1 rfl rfl ywX10_at rfl cwX10_231 ⟨nle rfl, nle rfl⟩ (nle rfl) ⟨nle rfl, nle rfl⟩ dX10_push_178 ?_ (fun _ _ _ z => z.elim)
        intro r_9 h_9 n_9 hq _
        rw [hq.1, hq.2.1, hq.2.2]
        show pw E YX10_push _ _ 0 0 181 [some (.ref B), some (.int (zI (p))), some (.int (zI (r))), some (.int (zI (f))), some (.int (zI (nn))), some (.int (zI (w0))), some (.int (zI (c)))] [.int (zI (mCell (p) (s3.2 22 p.toNat) (r) (c))), .ref (B + 18)] h3 n
        refine pw_aload_n dX10_push_181 rfl ?_
        refine pw_get (v := .ref (B + 18)) okX10 (k := 21) (by decide) lkX10_62 hA3.1 rfl dX10_push_182 ?_
        refine pw_aload_n dX10_push_185 rfl ?_
        refine pw_iload_n dX10_push_186 rfl ?_
        refine pw_iload_n dX10_push_187 rfl ?_
        refine pw_iload dX10_push_188 rfl ?_
        refine pw_iload dX10_push_190 rfl ?_
        refine pw_zisub dX10_push_192 ?_
        refine pw_callV (As := [.int (zI (p)), .int (zI (r)), .int (zI (c - nn))]) (b := B) (rm := rmD 1 0 0) (mR_at htr hA3 hp hk3) rfl hA3.1 rfl rfl ywX10_at rfl cwX10_231 ⟨nle rfl, nle rfl⟩ (nle rfl) ⟨nle rfl, nle rfl⟩ dX10_push_193 ?_ (fun _ _ _ z => z.elim)
        intro r_9 h_9 n_9 hq _
        rw [hq.1, hq.2.1, hq.2.2]
        show pw E YX10_push _ _ 0 0 196 [some (.ref B), some (.int (zI (p))), some (.int (zI (r))), some (.int (zI (f))), some (.int (zI (nn))), some (.int (zI (w0))), some (.int (zI (c)))] [.int (zI (mCell (p) (s3.2 22 p.toNat) (r) (c - nn))), .ref (B + 18), .int (zI (mCell (p) (s3.2 22 p.toNat) (r) (c))), .ref (B + 18)] h3 n
        refine pw_iald (t := 0) rfl (mF21 hA3) (by first | omega | exact mCell_b hp ko (by omega) (by omega) | exact mHis_b hp (by omega) (by omega)) (by decide) dX10_push_196 ?_
        refine pw_iast (t := 0) rfl (mF21 hA3) (by first | omega | exact mCell_b hp ko (by omega) (by omega) | exact mHis_b hp (by omega) (by omega)) (by decide) dX10_push_197 ?_
        have hA4 : mAt B (mA 21 (va_up (s3.2 21) (mCell (p) (s3.2 22 p.toNat) (r) (c)).toNat ((s3.2 21) (mCell (p) (s3.2 22 p.toNat) (r) (c - nn)).toNat)) s3) (va_up h3 (B + 18) (pz_z 0 10240 (va_up (s3.2 21) (mCell (p) (s3.2 22 p.toNat) (r) (c)).toNat ((s3.2 21) (mCell (p) (s3.2 22 p.toNat) (r) (c - nn)).toNat)))) := mU21 hA3
        have hk4 : mPk (mA 21 (va_up (s3.2 21) (mCell (p) (s3.2 22 p.toNat) (r) (c)).toNat ((s3.2 21) (mCell (p) (s3.2 22 p.toNat) (r) (c - nn)).toNat)) s3) p.toNat := mPc hk3 (by decide)
        have hr4 : mPr p.toNat s (mA 21 (va_up (s3.2 21) (mCell (p) (s3.2 22 p.toNat) (r) (c)).toNat ((s3.2 21) (mCell (p) (s3.2 22 p.toNat) (r) (c - nn)).toNat)) s3) := mPr_tr hr3 (mPr_C (by decide))
        have hF4 : mFr B h (va_up h3 (B + 18) (pz_z 0 10240 (va_up (s3.2 21) (mCell (p) (s3.2 22 p.toNat) (r) (c)).toNat ((s3.2 21) (mCell (p) (s3.2 22 p.toNat) (r) (c - nn)).toNat)))) := mFr_tr hF3 (mFr_up (by decide))
        revert hA4 hk4 hr4 hF4 
        generalize (mA 21 (va_up (s3.2 21) (mCell (p) (s3.2 22 p.toNat) (r) (c)).toNat ((s3.2 21) (mCell (p) (s3.2 22 p.toNat) (r) (c - nn)).toNat)) s3) = s4
        generalize (va_up h3 (B + 18) (pz_z 0 10240 (va_up (s3.2 21) (mCell (p) (s3.2 22 p.toNat) (r) (c)).toNat ((s3.2 21) (mCell (p) (s3.2 22 p.toNat) (r) (c - nn)).toNat)))) = h4
        intro hA4 hk4 hr4 hF4 
        obtain ⟨kw, kh, kr, kc, ksr, ksc, kt, ko, kwa, kin, kwr, khi, krd, knu, kgi, kas, kfr, kra, kco, kof, kip⟩ := id hk4
        have e18 := congrFun (hr4.2.1 18 (by decide)) p.toNat
        have e19 := congrFun (hr4.2.1 19 (by decide)) p.toNat
        refine pw_goto (tgt := 219) dX10_push_198 rfl ?_
        refine pw_ziinc (lv' := [some (.ref B), some (.int (zI (p))), some (.int (zI (r))), some (.int (zI (f))), some (.int (zI (nn))), some (.int (zI (w0))), some (.int (zI (c + 1)))]) dX10_push_219 rfl (by decide) rfl rfl ?_
        refine pw_goto (tgt := 123) dX10_push_222 rfl ?_
        exact ih (c + 1) s4 h4 (by omega) (by omega) (by omega)  hA4 hk4 hr4 hF4
set_option maxHeartbeats 2000000 in
set_option maxRecDepth 100000 in
/-- push(p, r, f, nn) -/
theorem mR_push {E : pw_E} (htr : E.1.stackTraces = false) {h : pz_H} {n : Nat} {B : Nat} {s : mS} (hA : mAt B s h) {p r f nn : Int} (hp : 0 ≤ p ∧ p < 8) (hk : mPk s p.toNat) (hr0 : 0 ≤ r ∧ r < 16) (hf : 0 ≤ f ∧ f < s.2 18 p.toNat) (hnn : -999 ≤ nn ∧ nn ≤ 999) : pw_M E yX10_push YX10_push (rmD 2 0 0) [.ref B, .int (zI (p)), .int (zI (r)), .int (zI (f)), .int (zI (nn))] h n (fun r0 h' n' => r0 = none ∧ ∃ s', mAt B s' h' ∧ mPk s' p.toNat ∧ mPr p.toNat s s' ∧ mFr B h h' ∧ n' = n) (fun _ _ _ => False) := by
  obtain ⟨kw, kh, kr, kc, ksr, ksc, kt, ko, kwa, kin, kwr, khi, krd, knu, kgi, kas, kfr, kra, kco, kof, kip⟩ := id hk
  have e18 : s.2 18 p.toNat = s.2 18 p.toNat := rfl
  refine pw_M_of (lv := [some (.ref B), some (.int (zI (p))), some (.int (zI (r))), some (.int (zI (f))), some (.int (zI (nn))), none, none]) (by decide) rfl rfl htr (nle rfl) rfl (fun L => ?_)
  refine pw_aload_n dX10_push_0 rfl ?_
  refine pw_get (v := .ref (B + 15)) okX10 (k := 18) (by decide) lkX10_53 hA.1 rfl dX10_push_1 ?_
  refine pw_iload_n dX10_push_4 rfl ?_
  refine pw_iald (t := 0) rfl (mF18 hA) (by first | omega | exact mCell_b hp ko (by omega) (by omega) | exact mHis_b hp (by omega) (by omega)) (by decide) dX10_push_5 ?_
  refine pw_istore (lv' := [some (.ref B), some (.int (zI (p))), some (.int (zI (r))), some (.int (zI (f))), some (.int (zI (nn))), some (.int (zI ((s.2 18) (p).toNat))), none]) dX10_push_6 (by decide) rfl rfl ?_
  refine pw_iload dX10_push_8 rfl ?_
  refine pw_if_le (tgt := 120) dX10_push_10 rfl (by omega) (fun c10 => ?_) (fun c10 => ?_)
  ·
    refine pw_iload_n dX10_push_120 rfl ?_
    refine pw_istore (lv' := [some (.ref B), some (.int (zI (p))), some (.int (zI (r))), some (.int (zI (f))), some (.int (zI (nn))), some (.int (zI ((s.2 18) (p).toNat))), some (.int (zI (f)))]) dX10_push_121 (by decide) rfl rfl ?_
    refine lR_push2 htr hp hr0 (by omega) rfl (by omega) ?_ _ f s h rfl (by omega) (by omega) hA hk mPr_rf mFr_rf
    intro _ s2 h2 z1 z2 z3 z4
    exact ⟨rfl, s2, z1, z2, z3, z4, rfl⟩
  ·
    refine pw_iload dX10_push_13 rfl ?_
    refine pw_iconst (v := zI (1)) dX10_push_15 (by decide) ?_
    refine pw_zisub dX10_push_16 ?_
    refine pw_istore (lv' := [some (.ref B), some (.int (zI (p))), some (.int (zI (r))), some (.int (zI (f))), some (.int (zI (nn))), some (.int (zI ((s.2 18) (p).toNat))), some (.int (zI (((s.2 18) (p).toNat) - (1))))]) dX10_push_17 (by decide) rfl rfl ?_
    refine lR_push1 htr hp hr0 (by omega) rfl (by omega) ?_ _ (s.2 18 p.toNat - 1) s h rfl (by omega) (by omega) hA hk mPr_rf mFr_rf
    intro _ s2 h2 z1 z2 z3 z4
    exact ⟨rfl, s2, z1, z2, z3, z4, rfl⟩
