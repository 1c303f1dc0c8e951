def YX4_press : pw_Y := (RX4, "press", cX4_press, 2, none)
theorem ywX4_press : pw_y yX4_press YX4_press 1 := ⟨by decide +kernel, by decide +kernel, by decide +kernel, pw_in 1171 (by decide +kernel) (by decide +kernel), pw_in 81 (by decide +kernel) (by decide +kernel)⟩
theorem cwX4_42 : Cond.methodLink RX4 42 yX4_setCopyMode ∈ pw_G ∧ Cond.instanceMethod yX4_setCopyMode ∈ pw_G ∧ Cond.selects RX4 yX4_setCopyMode yX4_setCopyMode ∈ pw_G := ⟨pw_in 778 (by decide +kernel) (by decide +kernel), pw_in 779 (by decide +kernel) (by decide +kernel), pw_in 780 (by decide +kernel) (by decide +kernel)⟩
theorem cwX4_54 : Cond.methodLink RX4 54 yX4_look ∈ pw_G ∧ Cond.instanceMethod yX4_look ∈ pw_G ∧ Cond.selects RX4 yX4_look yX4_look ∈ pw_G := ⟨pw_in 1173 (by decide +kernel) (by decide +kernel), pw_in 1174 (by decide +kernel) (by decide +kernel), pw_in 1175 (by decide +kernel) (by decide +kernel)⟩
theorem lkX4_10 : Cond.fieldLink RX4 10 (TX4 2).1 (TX4 2).2.1 (TX4 2).2.2.1 ∈ pw_G := pw_in 295 (by decide +kernel) (by decide +kernel)
theorem cwX4_50 : Cond.methodLink RX4 50 yX8_add ∈ pw_G ∧ Cond.instanceMethod yX8_add ∈ pw_G ∧ Cond.selects RX8 yX8_add yX8_add ∈ pw_G := ⟨pw_in 1172 (by decide +kernel) (by decide +kernel), pw_in 1165 (by decide +kernel) (by decide +kernel), pw_in 1166 (by decide +kernel) (by decide +kernel)⟩
set_option maxHeartbeats 4000000 in
set_option maxRecDepth 100000 in
/-- Pane.press(k) -/
theorem mX4_press {E : pw_E} (htr : E.1.stackTraces = false) {h : pz_H} {n : Nat} {w H : Int} {N NH : Nat} {I : Nat → Nat} {s : zSt} {pa rd ty : Nat} {cm of : Int} (hG : geo w H N NH) (hA : zAt w H N NH I s h) (hO : zOk w H s) (hpa : h pa = pz_o 7 [.ref (I 0), .ref rd, .ref ty, .int (zI cm), .int (zI of)]) (hpI : ∀ i, i < 8 → I i ≠ pa) (hcm : 0 ≤ cm ∧ cm ≤ 1) (hof : 0 ≤ of ∧ of ≤ 1000) {k : Int} (h_k : -2147483648 ≤ k ∧ k < 2147483648) {la : Nat} {tot : Int} {f : Nat → Int} (hty : h ty = pz_o 11 [.ref la, .int (zI tot)]) (hla : h la = pz_z 0 64 f) (hne : ty ≠ la) (ht : 0 ≤ tot ∧ tot ≤ 1000000000) : pw_M E yX4_press YX4_press (rmD 3 0 0) [.ref pa, .int (zI (k))] h n (fun r h' n' => r = none ∧ h' = (if cm = 0 then va_up (va_up h la (pz_z 0 64 (va_up f (tot % 64).toNat k))) ty (pz_o 11 [.ref la, .int (zI (tot + 1))]) else va_up h pa (pz_o 7 [.ref (I 0), .ref rd, .ref ty, .int (zI ((pPress cm of (s.2.2.2.1 4) k).1)), .int (zI ((pPress cm of (s.2.2.2.1 4) k).2))])) ∧ n' = n) (fun _ _ _ => False) := by
  have hG0 := hG
  have hO0 := hO
  obtain ⟨gw, gH, gN, gN2, gNH⟩ := hG
  obtain ⟨o3, o4, o5, o6, o7, o8, o9, o10, o11, o12, o14, o15, o16, o17, oT3, oT4⟩ := hO
  refine pw_M_of (lv := [some (.ref pa), some (.int (zI (k)))]) (by decide) rfl rfl htr (nle rfl) rfl (fun L => ?_)
  refine pw_aload_n dX4_press_0 rfl ?_
  refine pw_get (v := .int (zI (cm))) okX4 (k := 3) (by decide) lkX4_46 hpa rfl dX4_press_1 ?_
  refine pw_if_ne (tgt := 18) dX4_press_4 rfl (by omega) (fun c4 => ?_) (fun c4 => ?_)
  ·
    refine pw_iload_n dX4_press_18 rfl ?_
    refine pw_bipush (v := zI (107)) dX4_press_19 (by decide) ?_
    refine pw_icmp_ne (tgt := 32) dX4_press_21 rfl (by omega) (by omega) (fun c21 => ?_) (fun c21 => ?_)
    ·
      refine pw_iload_n dX4_press_32 rfl ?_
      refine pw_bipush (v := zI (106)) dX4_press_33 (by decide) ?_
      refine pw_icmp_ne (tgt := 46) dX4_press_35 rfl (by omega) (by omega) (fun c35 => ?_) (fun c35 => ?_)
      ·
        refine pw_iload_n dX4_press_46 rfl ?_
        refine pw_bipush (v := zI (113)) dX4_press_47 (by decide) ?_
        refine pw_icmp_ne (tgt := 57) dX4_press_49 rfl (by omega) (by omega) (fun c49 => ?_) (fun c49 => ?_)
        ·
          exact pw_vret dX4_press_57 rfl (nle rfl) (nle rfl) ⟨rfl, by unfold pPress; rw [if_neg (show ¬ cm = 0 by omega), if_neg (show ¬ k = 107 by omega), if_neg (show ¬ k = 106 by omega), if_neg (show ¬ k = 113 by omega), pz_up_id hpa], rfl⟩
        ·
          refine pw_aload_n dX4_press_52 rfl ?_
          refine pw_iconst (v := zI (0)) dX4_press_53 (by decide) ?_
          refine pw_callV (As := [.int (zI (0))]) (b := pa) (rm := rmD 0 0 0) (mX4_setCopyMode htr hG0 hA hO0 hpa hpI hcm hof (by decide)) rfl hpa rfl rfl ywX4_setCopyMode rfl cwX4_42 ⟨nle rfl, nle rfl⟩ (nle rfl) ⟨nle rfl, nle rfl⟩ dX4_press_54 ?_ (fun _ _ _ z => z.elim)
          intro r2 h2 n2 hq _
          rw [hq.1, hq.2.1, hq.2.2]
          show pw E YX4_press _ _ 0 0 57 [some (.ref pa), some (.int (zI (k)))] [] (va_up h pa (pz_o 7 [.ref (I 0), .ref rd, .ref ty, .int (zI (0)), .int (zI (if 0 = cm then of else 0))])) n
          exact pw_vret dX4_press_57 rfl (nle rfl) (nle rfl) ⟨rfl, by unfold pPress; rw [if_neg (show ¬ cm = 0 by omega), if_neg (show ¬ k = 107 by omega), if_neg (show ¬ k = 106 by omega), if_pos (show k = 113 by omega)], rfl⟩
      ·
        refine pw_aload_n dX4_press_38 rfl ?_
        refine pw_iconst (v := zI (-1)) dX4_press_39 (by decide) ?_
        refine pw_callV (As := [.int (zI (-1))]) (b := pa) (rm := rmD 2 0 0) (mX4_look htr hG0 hA hO0 hpa hpI hcm hof (by decide)) rfl hpa rfl rfl ywX4_look rfl cwX4_54 ⟨nle rfl, nle rfl⟩ (nle rfl) ⟨nle rfl, nle rfl⟩ dX4_press_40 ?_ (fun _ _ _ z => z.elim)
        intro r2 h2 n2 hq _
        rw [hq.1, hq.2.1, hq.2.2]
        show pw E YX4_press _ _ 0 0 43 [some (.ref pa), some (.int (zI (k)))] [] (va_up h pa (pz_o 7 [.ref (I 0), .ref rd, .ref ty, .int (zI (cm)), .int (zI (pLook cm of (s.2.2.2.1 4) (-1)))])) n
        refine pw_goto (tgt := 57) dX4_press_43 rfl ?_
        exact pw_vret dX4_press_57 rfl (nle rfl) (nle rfl) ⟨rfl, by unfold pPress; rw [if_neg (show ¬ cm = 0 by omega), if_neg (show ¬ k = 107 by omega), if_pos (show k = 106 by omega)], rfl⟩
    ·
      refine pw_aload_n dX4_press_24 rfl ?_
      refine pw_iconst (v := zI (1)) dX4_press_25 (by decide) ?_
      refine pw_callV (As := [.int (zI (1))]) (b := pa) (rm := rmD 2 0 0) (mX4_look htr hG0 hA hO0 hpa hpI hcm hof (by decide)) rfl hpa rfl rfl ywX4_look rfl cwX4_54 ⟨nle rfl, nle rfl⟩ (nle rfl) ⟨nle rfl, nle rfl⟩ dX4_press_26 ?_ (fun _ _ _ z => z.elim)
      intro r2 h2 n2 hq _
      rw [hq.1, hq.2.1, hq.2.2]
      show pw E YX4_press _ _ 0 0 29 [some (.ref pa), some (.int (zI (k)))] [] (va_up h pa (pz_o 7 [.ref (I 0), .ref rd, .ref ty, .int (zI (cm)), .int (zI (pLook cm of (s.2.2.2.1 4) (1)))])) n
      refine pw_goto (tgt := 57) dX4_press_29 rfl ?_
      exact pw_vret dX4_press_57 rfl (nle rfl) (nle rfl) ⟨rfl, by unfold pPress; rw [if_neg (show ¬ cm = 0 by omega), if_pos (show k = 107 by omega)], rfl⟩
  ·
    refine pw_aload_n dX4_press_7 rfl ?_
    refine pw_get (v := .ref ty) okX4 (k := 2) (by decide) lkX4_10 hpa rfl dX4_press_8 ?_
    refine pw_iload_n dX4_press_11 rfl ?_
    refine pw_callV (As := [.int (zI (k))]) (b := ty) (rm := rmD 0 0 0) (mX8_add htr hty hla hne ht) rfl hty rfl rfl ywX8_add rfl cwX4_50 ⟨nle rfl, nle rfl⟩ (nle rfl) ⟨nle rfl, nle rfl⟩ dX4_press_12 ?_ (fun _ _ _ z => z.elim)
    intro r2 h2 n2 hq _
    rw [hq.1, hq.2.1, hq.2.2]
    show pw E YX4_press _ _ 0 0 15 [some (.ref pa), some (.int (zI (k)))] [] (va_up (va_up h la (pz_z 0 64 (va_up f (tot % 64).toNat (k)))) ty (pz_o 11 [.ref la, .int (zI (tot + 1))])) n
    refine pw_goto (tgt := 57) dX4_press_15 rfl ?_
    exact pw_vret dX4_press_57 rfl (nle rfl) (nle rfl) ⟨rfl, by rw [if_pos (show cm = 0 by omega)], rfl⟩
