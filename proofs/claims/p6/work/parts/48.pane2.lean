def YX4_offsetNow : pw_Y := (RX4, "offsetNow", cX4_offsetNow, 1, (some .int))
theorem ywX4_offsetNow : pw_y yX4_offsetNow YX4_offsetNow 0 := ⟨by decide +kernel, by decide +kernel, by decide +kernel, pw_in 847 (by decide +kernel) (by decide +kernel), pw_in 81 (by decide +kernel) (by decide +kernel)⟩
theorem lkX4_57 : Cond.fieldLink RX4 57 (TX4 4).1 (TX4 4).2.1 (TX4 4).2.2.1 ∈ pw_G := pw_in 299 (by decide +kernel) (by decide +kernel)
theorem lkX4_21 : Cond.fieldLink RX4 21 (TX4 0).1 (TX4 0).2.1 (TX4 0).2.2.1 ∈ pw_G := pw_in 291 (by decide +kernel) (by decide +kernel)
theorem lkX4_60 : Cond.fieldLinkNest RX4 60 (TX7 2).1 (TX7 2).2.1 (TX7 2).2.2.1 "PaneHouse" ∈ pw_N := by decide +kernel
theorem lkX4_64 : Cond.fieldLinkNest RX4 64 (TX1 4).1 (TX1 4).2.1 (TX1 4).2.2.1 "PaneHouse" ∈ pw_N := by decide +kernel
theorem cwX4_69 : Cond.methodLink RX4 69 Lib.Math.min.name ∈ pw_G := pw_in 848 (by decide +kernel) (by decide +kernel)
def YX4_setCopyMode : pw_Y := (RX4, "setCopyMode", cX4_setCopyMode, 2, none)
theorem ywX4_setCopyMode : pw_y yX4_setCopyMode YX4_setCopyMode 1 := ⟨by decide +kernel, by decide +kernel, by decide +kernel, pw_in 781 (by decide +kernel) (by decide +kernel), pw_in 81 (by decide +kernel) (by decide +kernel)⟩
theorem lkX4_46 : Cond.fieldLink RX4 46 (TX4 3).1 (TX4 3).2.1 (TX4 3).2.2.1 ∈ pw_G := pw_in 297 (by decide +kernel) (by decide +kernel)
def YX4_look : pw_Y := (RX4, "look", cX4_look, 4, none)
theorem ywX4_look : pw_y yX4_look YX4_look 1 := ⟨by decide +kernel, by decide +kernel, by decide +kernel, pw_in 1176 (by decide +kernel) (by decide +kernel), pw_in 81 (by decide +kernel) (by decide +kernel)⟩
theorem cwX4_75 : Cond.methodLink RX4 75 yX4_offsetNow ∈ pw_G ∧ Cond.instanceMethod yX4_offsetNow ∈ pw_G ∧ Cond.selects RX4 yX4_offsetNow yX4_offsetNow ∈ pw_G := ⟨pw_in 844 (by decide +kernel) (by decide +kernel), pw_in 845 (by decide +kernel) (by decide +kernel), pw_in 846 (by decide +kernel) (by decide +kernel)⟩
theorem cwX4_79 : Cond.methodLinkNest RX4 79 yX9_nearest "PaneHouse" ∈ pw_N ∧ Cond.static yX9_nearest ∈ pw_G := ⟨by decide +kernel, pw_in 119 (by decide +kernel) (by decide +kernel)⟩
def YX4_seesCursor : pw_Y := (RX4, "seesCursor", cX4_seesCursor, 1, (some .boolean))
theorem ywX4_seesCursor : pw_y yX4_seesCursor YX4_seesCursor 0 := ⟨by decide +kernel, by decide +kernel, by decide +kernel, pw_in 908 (by decide +kernel) (by decide +kernel), pw_in 81 (by decide +kernel) (by decide +kernel)⟩
theorem lkX4_85 : Cond.fieldLinkNest RX4 85 (TX7 16).1 (TX7 16).2.1 (TX7 16).2.2.1 "PaneHouse" ∈ pw_N := by decide +kernel
def YX4_viewRow : pw_Y := (RX4, "viewRow", cX4_viewRow, 5, none)
theorem ywX4_viewRow : pw_y yX4_viewRow YX4_viewRow 3 := ⟨by decide +kernel, by decide +kernel, by decide +kernel, pw_in 843 (by decide +kernel) (by decide +kernel), pw_in 81 (by decide +kernel) (by decide +kernel)⟩
theorem cwX4_95 : Cond.methodLink RX4 95 yX7_shown ∈ pw_G ∧ Cond.instanceMethod yX7_shown ∈ pw_G ∧ Cond.selects RX7 yX7_shown yX7_shown ∈ pw_G := ⟨pw_in 856 (by decide +kernel) (by decide +kernel), pw_in 857 (by decide +kernel) (by decide +kernel), pw_in 858 (by decide +kernel) (by decide +kernel)⟩
theorem lkX4_88 : Cond.fieldLinkNest RX4 88 (TX7 3).1 (TX7 3).2.1 (TX7 3).2.2.1 "PaneHouse" ∈ pw_N := by decide +kernel
theorem cwX4_99 : Cond.methodLink RX4 99 yX0_give ∈ pw_G ∧ Cond.instanceMethod yX0_give ∈ pw_G ∧ Cond.selects RX0 yX0_give yX0_give ∈ pw_G := ⟨pw_in 860 (by decide +kernel) (by decide +kernel), pw_in 861 (by decide +kernel) (by decide +kernel), pw_in 862 (by decide +kernel) (by decide +kernel)⟩
theorem cwX4_91 : Cond.methodLink RX4 91 yX1_give ∈ pw_G ∧ Cond.instanceMethod yX1_give ∈ pw_G ∧ Cond.selects RX1 yX1_give yX1_give ∈ pw_G := ⟨pw_in 849 (by decide +kernel) (by decide +kernel), pw_in 850 (by decide +kernel) (by decide +kernel), pw_in 851 (by decide +kernel) (by decide +kernel)⟩
set_option maxHeartbeats 4000000 in
set_option maxRecDepth 100000 in
/-- Pane.offsetNow() -/
theorem mX4_offsetNow {E : pw_E} (htr : E.1.stackTraces = false) {h : pz_H} {n : Nat} {w H : Int} {N NH : Nat} {I : Nat → Nat} {s : zSt} {pa rd ty : Nat} {cm of : Int} (hG : geo w H N NH) (hA : zAt w H N NH I s h) (hO : zOk w H s) (hpa : h pa = pz_o 7 [.ref (I 0), .ref rd, .ref ty, .int (zI cm), .int (zI of)]) (hpI : ∀ i, i < 8 → I i ≠ pa) (hcm : 0 ≤ cm ∧ cm ≤ 1) (hof : 0 ≤ of ∧ of ≤ 1000) : pw_M E yX4_offsetNow YX4_offsetNow (rmD 1 0 0) [.ref pa] h n (fun r h' n' => r = some (.int (zI (min of (s.2.2.2.1 4)))) ∧ h' = h ∧ n' = n) (fun _ _ _ => False) := by
  have hG0 := hG
  have hO0 := hO
  obtain ⟨gw, gH, gN, gN2, gNH⟩ := hG
  obtain ⟨o3, o4, o5, o6, o7, o8, o9, o10, o11, o12, o14, o15, o16, o17, oT3, oT4⟩ := hO
  refine pw_M_of (lv := [some (.ref pa)]) (by decide) rfl rfl htr (nle rfl) rfl (fun L => ?_)
  refine pw_aload_n dX4_offsetNow_0 rfl ?_
  refine pw_get (v := .int (zI (of))) okX4 (k := 4) (by decide) lkX4_57 hpa rfl dX4_offsetNow_1 ?_
  refine pw_aload_n dX4_offsetNow_4 rfl ?_
  refine pw_get (v := .ref (I 0)) okX4 (k := 0) (by decide) lkX4_21 hpa rfl dX4_offsetNow_5 ?_
  refine pw_getN (v := .ref (I 3)) okX7 (k := 2) (by decide) lkX4_60 hA.1.1 rfl dX4_offsetNow_8 ?_
  refine pw_getN (v := .int (zI (s.2.2.2.1 4))) okX1 (k := 4) (by decide) lkX4_64 hA.1.2.2.2.1 rfl dX4_offsetNow_11 ?_
  refine pw_min cwX4_69 dX4_offsetNow_14 (by omega) (by omega) ⟨nle rfl, nle rfl⟩ ⟨nle rfl, nle rfl⟩ ?_
  exact pw_iret dX4_offsetNow_17 rfl (nle rfl) (nle rfl) ⟨rfl, rfl, rfl⟩
set_option maxHeartbeats 4000000 in
set_option maxRecDepth 100000 in
/-- Pane.setCopyMode(on) -/
theorem mX4_setCopyMode {E : pw_E} (htr : E.1.stackTraces = false) {h : pz_H} {n : Nat} {w H : Int} {N NH : Nat} {I : Nat → Nat} {s : zSt} {pa rd ty : Nat} {cm of : Int} (hG : geo w H N NH) (hA : zAt w H N NH I s h) (hO : zOk w H s) (hpa : h pa = pz_o 7 [.ref (I 0), .ref rd, .ref ty, .int (zI cm), .int (zI of)]) (hpI : ∀ i, i < 8 → I i ≠ pa) (hcm : 0 ≤ cm ∧ cm ≤ 1) (hof : 0 ≤ of ∧ of ≤ 1000) {on : Int} (hon : 0 ≤ on ∧ on ≤ 1) : pw_M E yX4_setCopyMode YX4_setCopyMode (rmD 0 0 0) [.ref pa, .int (zI (on))] h n (fun r h' n' => r = none ∧ h' = va_up h pa (pz_o 7 [.ref (I 0), .ref rd, .ref ty, .int (zI (on)), .int (zI (if on = cm then of else 0))]) ∧ n' = n) (fun _ _ _ => False) := by
  have hG0 := hG
  have hO0 := hO
  obtain ⟨gw, gH, gN, gN2, gNH⟩ := hG
  obtain ⟨o3, o4, o5, o6, o7, o8, o9, o10, o11, o12, o14, o15, o16, o17, oT3, oT4⟩ := hO
  refine pw_M_of (lv := [some (.ref pa), some (.int (zI (on)))]) (by decide) rfl rfl htr (nle rfl) rfl (fun L => ?_)
  refine pw_iload_n dX4_setCopyMode_0 rfl ?_
  refine pw_aload_n dX4_setCopyMode_1 rfl ?_
  refine pw_get (v := .int (zI (cm))) okX4 (k := 3) (by decide) lkX4_46 hpa rfl dX4_setCopyMode_2 ?_
  refine pw_icmp_eq (tgt := 18) dX4_setCopyMode_5 rfl (by omega) (by omega) (fun c5 => ?_) (fun c5 => ?_)
  ·
    exact pw_vret dX4_setCopyMode_18 rfl (nle rfl) (nle rfl) ⟨rfl, by rw [if_pos (show on = cm by omega), show on = cm by omega, pz_up_id hpa], rfl⟩
  ·
    refine pw_aload_n dX4_setCopyMode_8 rfl ?_
    refine pw_iload_n dX4_setCopyMode_9 rfl ?_
    refine pw_put (fs' := [.ref (I 0), .ref rd, .ref ty, .int (zI (on)), .int (zI (of))]) okX4 (k := 3) (by decide) lkX4_46 rfl (zb_nar hon) (zb_fit hon) hpa (nlt rfl) rfl dX4_setCopyMode_10 ?_
    refine pw_aload_n dX4_setCopyMode_13 rfl ?_
    refine pw_iconst (v := zI (0)) dX4_setCopyMode_14 (by decide) ?_
    refine pw_put (fs' := [.ref (I 0), .ref rd, .ref ty, .int (zI (on)), .int (zI (0))]) okX4 (k := 4) (by decide) lkX4_57 rfl rfl rfl (va_up_self _ _ _) (nlt rfl) rfl dX4_setCopyMode_15 ?_
    exact pw_vret dX4_setCopyMode_18 rfl (nle rfl) (nle rfl) ⟨rfl, by rw [if_neg (show ¬ on = cm by omega), pz_up_up], rfl⟩
set_option maxHeartbeats 4000000 in
set_option maxRecDepth 100000 in
/-- Pane.look(up) -/
theorem mX4_look {E : pw_E} (htr : E.1.stackTraces = false) {h : pz_H} {n : Nat} {w H : Int} {N NH : Nat} {I : Nat → Nat} {s : zSt} {pa rd ty : Nat} {cm of : Int} (hG : geo w H N NH) (hA : zAt w H N NH I s h) (hO : zOk w H s) (hpa : h pa = pz_o 7 [.ref (I 0), .ref rd, .ref ty, .int (zI cm), .int (zI of)]) (hpI : ∀ i, i < 8 → I i ≠ pa) (hcm : 0 ≤ cm ∧ cm ≤ 1) (hof : 0 ≤ of ∧ of ≤ 1000) {up : Int} (h_up : -2147483648 ≤ up ∧ up < 2147483648) : pw_M E yX4_look YX4_look (rmD 2 0 0) [.ref pa, .int (zI (up))] h n (fun r h' n' => r = none ∧ h' = va_up h pa (pz_o 7 [.ref (I 0), .ref rd, .ref ty, .int (zI (cm)), .int (zI (pLook cm of (s.2.2.2.1 4) up))]) ∧ n' = n) (fun _ _ _ => False) := by
  have hG0 := hG
  have hO0 := hO
  obtain ⟨gw, gH, gN, gN2, gNH⟩ := hG
  obtain ⟨o3, o4, o5, o6, o7, o8, o9, o10, o11, o12, o14, o15, o16, o17, oT3, oT4⟩ := hO
  refine pw_M_of (lv := [some (.ref pa), some (.int (zI (up))), none, none]) (by decide) rfl rfl htr (nle rfl) rfl (fun L => ?_)
  refine pw_aload_n dX4_look_0 rfl ?_
  refine pw_get (v := .int (zI (cm))) okX4 (k := 3) (by decide) lkX4_46 hpa rfl dX4_look_1 ?_
  refine pw_if_eq (tgt := 38) dX4_look_4 rfl (by omega) (fun c4 => ?_) (fun c4 => ?_)
  ·
    exact pw_vret dX4_look_38 rfl (nle rfl) (nle rfl) ⟨rfl, by unfold pLook; rw [if_pos (show cm = 0 by omega), pz_up_id hpa], rfl⟩
  ·
    refine pw_aload_n dX4_look_7 rfl ?_
    refine pw_callV (As := []) (b := pa) (rm := rmD 1 0 0) (mX4_offsetNow htr hG0 hA hO0 hpa hpI hcm hof) rfl hpa rfl rfl ywX4_offsetNow rfl cwX4_75 ⟨nle rfl, nle rfl⟩ (nle rfl) ⟨nle rfl, nle rfl⟩ dX4_look_8 ?_ (fun _ _ _ z => z.elim)
    intro r2 h2 n2 hq _
    rw [hq.1, hq.2.1, hq.2.2]
    show pw E YX4_look _ _ 0 0 11 [some (.ref pa), some (.int (zI (up))), none, none] [.int (zI (min of (s.2.2.2.1 4)))] h n
    refine pw_istore_n (lv' := [some (.ref pa), some (.int (zI (up))), some (.int (zI (min of (s.2.2.2.1 4)))), none]) dX4_look_11 (by decide) rfl rfl ?_
    refine pw_aload_n dX4_look_12 rfl ?_
    refine pw_get (v := .ref (I 0)) okX4 (k := 0) (by decide) lkX4_21 hpa rfl dX4_look_13 ?_
    refine pw_getN (v := .ref (I 3)) okX7 (k := 2) (by decide) lkX4_60 hA.1.1 rfl dX4_look_16 ?_
    refine pw_getN (v := .int (zI (s.2.2.2.1 4))) okX1 (k := 4) (by decide) lkX4_64 hA.1.2.2.2.1 rfl dX4_look_19 ?_
    refine pw_istore_n (lv' := [some (.ref pa), some (.int (zI (up))), some (.int (zI (min of (s.2.2.2.1 4)))), some (.int (zI (s.2.2.2.1 4)))]) dX4_look_22 (by decide) rfl rfl ?_
    refine pw_aload_n dX4_look_23 rfl ?_
    refine pw_iload_n dX4_look_24 rfl ?_
    refine pw_iload_n dX4_look_25 rfl ?_
    refine pw_iload_n dX4_look_26 rfl ?_
    refine pw_zineg dX4_look_27 ?_
    refine pw_iload_n dX4_look_28 rfl ?_
    refine pw_iload_n dX4_look_29 rfl ?_
    refine pw_zisub dX4_look_30 ?_
    refine pw_callSN (As := [.int (zI (up)), .int (zI (-(min of (s.2.2.2.1 4)))), .int (zI ((s.2.2.2.1 4) - (min of (s.2.2.2.1 4))))]) (rm := rmD 1 0 0) (mX9_nearest htr (by omega) (by omega) (by omega)) rfl ywX9_nearest rfl cwX4_79 ⟨nle rfl, nle rfl⟩ (nle rfl) ⟨nle rfl, nle rfl⟩ dX4_look_31 ?_
    intro r2 h2 n2 hq _
    rw [hq.1, hq.2.1, hq.2.2]
    show pw E YX4_look _ _ 0 0 34 [some (.ref pa), some (.int (zI (up))), some (.int (zI (min of (s.2.2.2.1 4)))), some (.int (zI (s.2.2.2.1 4)))] [.int (zI (max (-(min of (s.2.2.2.1 4))) (min ((s.2.2.2.1 4) - (min of (s.2.2.2.1 4))) (up)))), .int (zI (min of (s.2.2.2.1 4))), .ref pa] h n
    refine pw_ziadd dX4_look_34 ?_
    refine pw_put (fs' := [.ref (I 0), .ref rd, .ref ty, .int (zI (cm)), .int (zI ((min of (s.2.2.2.1 4)) + (max (-(min of (s.2.2.2.1 4))) (min ((s.2.2.2.1 4) - (min of (s.2.2.2.1 4))) (up)))))]) okX4 (k := 4) (by decide) lkX4_57 rfl rfl rfl hpa (nlt rfl) rfl dX4_look_35 ?_
    exact pw_vret dX4_look_38 rfl (nle rfl) (nle rfl) ⟨rfl, by unfold pLook; rw [if_neg (show ¬ cm = 0 by omega)], rfl⟩
set_option maxHeartbeats 4000000 in
set_option maxRecDepth 100000 in
/-- Pane.seesCursor() -/
theorem mX4_seesCursor {E : pw_E} (htr : E.1.stackTraces = false) {h : pz_H} {n : Nat} {w H : Int} {N NH : Nat} {I : Nat → Nat} {s : zSt} {pa rd ty : Nat} {cm of : Int} (hG : geo w H N NH) (hA : zAt w H N NH I s h) (hO : zOk w H s) (hpa : h pa = pz_o 7 [.ref (I 0), .ref rd, .ref ty, .int (zI cm), .int (zI of)]) (hpI : ∀ i, i < 8 → I i ≠ pa) (hcm : 0 ≤ cm ∧ cm ≤ 1) (hof : 0 ≤ of ∧ of ≤ 1000) : pw_M E yX4_seesCursor YX4_seesCursor (rmD 0 0 0) [.ref pa] h n (fun r h' n' => r = some (.int (zI (if ¬ s.1 16 = 0 ∧ cm = 0 then 1 else 0))) ∧ h' = h ∧ n' = n) (fun _ _ _ => False) := by
  have hG0 := hG
  have hO0 := hO
  obtain ⟨gw, gH, gN, gN2, gNH⟩ := hG
  obtain ⟨o3, o4, o5, o6, o7, o8, o9, o10, o11, o12, o14, o15, o16, o17, oT3, oT4⟩ := hO
  refine pw_M_of (lv := [some (.ref pa)]) (by decide) rfl rfl htr (nle rfl) rfl (fun L => ?_)
  refine pw_aload_n dX4_seesCursor_0 rfl ?_
  refine pw_get (v := .ref (I 0)) okX4 (k := 0) (by decide) lkX4_21 hpa rfl dX4_seesCursor_1 ?_
  refine pw_getN (v := .int (zI (s.1 16))) okX7 (k := 16) (by decide) lkX4_85 hA.1.1 rfl dX4_seesCursor_4 ?_
  refine pw_if_eq (tgt := 21) dX4_seesCursor_7 rfl (by omega) (fun c7 => ?_) (fun c7 => ?_)
  ·
    refine pw_iconst (v := zI (0)) dX4_seesCursor_21 (by decide) ?_
    exact pw_zret dX4_seesCursor_22 rfl (by decide) (nle rfl) (nle rfl) ⟨by first | (exfalso; omega) | rw [if_pos (by omega)] | rw [if_neg (by omega)], rfl, rfl⟩
  ·
    refine pw_aload_n dX4_seesCursor_10 rfl ?_
    refine pw_get (v := .int (zI (cm))) okX4 (k := 3) (by decide) lkX4_46 hpa rfl dX4_seesCursor_11 ?_
    refine pw_if_ne (tgt := 21) dX4_seesCursor_14 rfl (by omega) (fun c14 => ?_) (fun c14 => ?_)
    ·
      refine pw_iconst (v := zI (0)) dX4_seesCursor_21 (by decide) ?_
      exact pw_zret dX4_seesCursor_22 rfl (by decide) (nle rfl) (nle rfl) ⟨by first | (exfalso; omega) | rw [if_pos (by omega)] | rw [if_neg (by omega)], rfl, rfl⟩
    ·
      refine pw_iconst (v := zI (1)) dX4_seesCursor_17 (by decide) ?_
      refine pw_goto (tgt := 22) dX4_seesCursor_18 rfl ?_
      exact pw_zret dX4_seesCursor_22 rfl (by decide) (nle rfl) (nle rfl) ⟨by first | (exfalso; omega) | rw [if_pos (by omega)] | rw [if_neg (by omega)], rfl, rfl⟩
set_option maxHeartbeats 4000000 in
set_option maxRecDepth 100000 in
/-- Pane.viewRow(row, target, at) -/
theorem mX4_viewRow {E : pw_E} (htr : E.1.stackTraces = false) {h : pz_H} {n : Nat} {w H : Int} {N NH : Nat} {I : Nat → Nat} {s : zSt} {pa rd ty : Nat} {cm of : Int} (hG : geo w H N NH) (hA : zAt w H N NH I s h) (hO : zOk w H s) (hpa : h pa = pz_o 7 [.ref (I 0), .ref rd, .ref ty, .int (zI cm), .int (zI of)]) (hpI : ∀ i, i < 8 → I i ≠ pa) (hcm : 0 ≤ cm ∧ cm ≤ 1) (hof : 0 ≤ of ∧ of ≤ 1000) {row at_ : Int} {ta M : Nat} {q : Nat → Int} (hta : h ta = pz_z 0 M q) (htI : ∀ i, i < 8 → I i ≠ ta) (hM : M ≤ 100000) (hlen : ∀ j : Nat, 0 ≤ s.2.2.2.2.2 j ∧ s.2.2.2.2.2 j ≤ w) (hrow : 0 ≤ row ∧ row ≤ 1000) (hat : 0 ≤ at_ ∧ at_ ≤ 100000) : pw_M E yX4_viewRow YX4_viewRow (rmD 3 0 0) [.ref pa, .int (zI (row)), .ref ta, .int (zI (at_))] h n (fun r h' n' => r = none ∧ h' = va_up h ta (pz_z 0 M (vRow w H s of row at_ M q)) ∧ n' = n) (fun _ _ _ => False) := by
  have hG0 := hG
  have hO0 := hO
  obtain ⟨gw, gH, gN, gN2, gNH⟩ := hG
  obtain ⟨o3, o4, o5, o6, o7, o8, o9, o10, o11, o12, o14, o15, o16, o17, oT3, oT4⟩ := hO
  refine pw_M_of (lv := [some (.ref pa), some (.int (zI (row))), some (.ref ta), some (.int (zI (at_))), none]) (by decide) rfl rfl htr (nle rfl) rfl (fun L => ?_)
  refine pw_aload_n dX4_viewRow_0 rfl ?_
  refine pw_callV (As := []) (b := pa) (rm := rmD 1 0 0) (mX4_offsetNow htr hG0 hA hO0 hpa hpI hcm hof) rfl hpa rfl rfl ywX4_offsetNow rfl cwX4_75 ⟨nle rfl, nle rfl⟩ (nle rfl) ⟨nle rfl, nle rfl⟩ dX4_viewRow_1 ?_ (fun _ _ _ z => z.elim)
  intro r2 h2 n2 hq _
  rw [hq.1, hq.2.1, hq.2.2]
  show pw E YX4_viewRow _ _ 0 0 4 [some (.ref pa), some (.int (zI (row))), some (.ref ta), some (.int (zI (at_))), none] [.int (zI (min of (s.2.2.2.1 4)))] h n
  refine pw_istore (lv' := [some (.ref pa), some (.int (zI (row))), some (.ref ta), some (.int (zI (at_))), some (.int (zI (min of (s.2.2.2.1 4))))]) dX4_viewRow_4 (by decide) rfl rfl ?_
  refine pw_iload_n dX4_viewRow_6 rfl ?_
  refine pw_iload dX4_viewRow_7 rfl ?_
  refine pw_icmp_ge (tgt := 49) dX4_viewRow_9 rfl (by omega) (by omega) (fun c9 => ?_) (fun c9 => ?_)
  ·
    refine pw_aload_n dX4_viewRow_49 rfl ?_
    refine pw_get (v := .ref (I 0)) okX4 (k := 0) (by decide) lkX4_21 hpa rfl dX4_viewRow_50 ?_
    refine pw_callV (As := []) (b := (I 0)) (rm := rmD 0 0 0) (mX7_shown htr hG0 hA hO0) rfl hA.1.1 rfl rfl ywX7_shown rfl cwX4_95 ⟨nle rfl, nle rfl⟩ (nle rfl) ⟨nle rfl, nle rfl⟩ dX4_viewRow_53 ?_ (fun _ _ _ z => z.elim)
    intro r2 h2 n2 hq _
    rw [hq.1, hq.2.1, hq.2.2]
    show pw E YX4_viewRow _ _ 0 0 56 [some (.ref pa), some (.int (zI (row))), some (.ref ta), some (.int (zI (at_))), some (.int (zI (min of (s.2.2.2.1 4))))] [.ref (I (sq s.1 + 5))] h n
    refine pw_iload_n dX4_viewRow_56 rfl ?_
    refine pw_iload dX4_viewRow_57 rfl ?_
    refine pw_zisub dX4_viewRow_59 ?_
    refine pw_aload_n dX4_viewRow_60 rfl ?_
    refine pw_get (v := .ref (I 0)) okX4 (k := 0) (by decide) lkX4_21 hpa rfl dX4_viewRow_61 ?_
    refine pw_getN (v := .int (zI (s.1 3))) okX7 (k := 3) (by decide) lkX4_88 hA.1.1 rfl dX4_viewRow_64 ?_
    refine pw_aload_n dX4_viewRow_67 rfl ?_
    refine pw_iload_n dX4_viewRow_68 rfl ?_
    have hsx : h (I (sq s.1)) = pz_z 0 N (zG s) := by have h9 := scSx (F := s.1) (F' := s.1) (m := s.2.1) (o := s.2.2.1) (T := s.2.2.2.1) (c := s.2.2.2.2.1) (l := s.2.2.2.2.2) (x := zG s) hA; rw [show shM s.1 s.2.1 (zG s) = s.2.1 from shM_G, show shO s.1 s.2.2.1 (zG s) = s.2.2.1 from shO_G, scPut_id hA] at h9; exact h9
    refine pw_callV (As := [.int (zI ((row) - (min of (s.2.2.2.1 4)))), .int (zI (s.1 3)), .ref ta, .int (zI (at_))]) (b := (I (sq s.1 + 5))) (rm := rmD 1 0 0) (mX0_give htr (scSg hA) hsx (scSne hA) (by omega) (by omega) gN gN2 (by omega) (by omega) (by omega) hta hM (by omega)) rfl (scSg hA) rfl rfl ywX0_give rfl cwX4_99 ⟨nle rfl, nle rfl⟩ (nle rfl) ⟨nle rfl, nle rfl⟩ dX4_viewRow_69 ?_ (fun _ _ _ z => z.elim)
    intro r2 h2 n2 hq _
    rw [hq.1, hq.2.1, hq.2.2]
    show pw E YX4_viewRow _ _ 0 0 72 [some (.ref pa), some (.int (zI (row))), some (.ref ta), some (.int (zI (at_))), some (.int (zI (min of (s.2.2.2.1 4))))] [] (va_up h ta (pz_z 0 M (ggive w H ((row) - (min of (s.2.2.2.1 4))) (s.1 3) (at_) M (zG s) q))) n
    exact pw_vret dX4_viewRow_72 rfl (nle rfl) (nle rfl) ⟨rfl, by unfold vRow; rw [if_neg (by omega)], rfl⟩
  ·
    refine pw_aload_n dX4_viewRow_12 rfl ?_
    refine pw_get (v := .ref (I 0)) okX4 (k := 0) (by decide) lkX4_21 hpa rfl dX4_viewRow_13 ?_
    refine pw_getN (v := .ref (I 3)) okX7 (k := 2) (by decide) lkX4_60 hA.1.1 rfl dX4_viewRow_16 ?_
    refine pw_aload_n dX4_viewRow_19 rfl ?_
    refine pw_get (v := .ref (I 0)) okX4 (k := 0) (by decide) lkX4_21 hpa rfl dX4_viewRow_20 ?_
    refine pw_getN (v := .ref (I 3)) okX7 (k := 2) (by decide) lkX4_60 hA.1.1 rfl dX4_viewRow_23 ?_
    refine pw_getN (v := .int (zI (s.2.2.2.1 4))) okX1 (k := 4) (by decide) lkX4_64 hA.1.2.2.2.1 rfl dX4_viewRow_26 ?_
    refine pw_iload dX4_viewRow_29 rfl ?_
    refine pw_zisub dX4_viewRow_31 ?_
    refine pw_iload_n dX4_viewRow_32 rfl ?_
    refine pw_ziadd dX4_viewRow_33 ?_
    refine pw_aload_n dX4_viewRow_34 rfl ?_
    refine pw_get (v := .ref (I 0)) okX4 (k := 0) (by decide) lkX4_21 hpa rfl dX4_viewRow_35 ?_
    refine pw_getN (v := .int (zI (s.1 3))) okX7 (k := 3) (by decide) lkX4_88 hA.1.1 rfl dX4_viewRow_38 ?_
    refine pw_aload_n dX4_viewRow_41 rfl ?_
    refine pw_iload_n dX4_viewRow_42 rfl ?_
    refine pw_callV (As := [.int (zI (((s.2.2.2.1 4) - (min of (s.2.2.2.1 4))) + (row))), .int (zI (s.1 3)), .ref ta, .int (zI (at_))]) (b := (I 3)) (rm := rmD 2 0 0) (mX1_give htr hA.1.2.2.2.1 hA.1.2.2.2.2.1 hA.1.2.2.2.2.2.1 (scNe hA (by decide) (by decide) (by decide)) (scNe hA (by decide) (by decide) (by decide)) (scNe hA (by decide) (by decide) (by decide)) (by omega) oT3 oT4 gNH (by omega) (by omega) (by omega) hta hM hlen (htI 3 (by decide)) (htI 4 (by decide)) (htI 5 (by decide))) rfl hA.1.2.2.2.1 rfl rfl ywX1_give rfl cwX4_91 ⟨nle rfl, nle rfl⟩ (nle rfl) ⟨nle rfl, nle rfl⟩ dX4_viewRow_43 ?_ (fun _ _ _ z => z.elim)
    intro r2 h2 n2 hq _
    rw [hq.1, hq.2.1, hq.2.2]
    show pw E YX4_viewRow _ _ 0 0 46 [some (.ref pa), some (.int (zI (row))), some (.ref ta), some (.int (zI (at_))), some (.int (zI (min of (s.2.2.2.1 4))))] [] (va_up h ta (pz_z 0 M (hgive w (s.2.2.2.1 3) (s.2.2.2.1 4) (((s.2.2.2.1 4) - (min of (s.2.2.2.1 4))) + (row)) (s.1 3) (at_) M s.2.2.2.2.2 s.2.2.2.2.1 q))) n
    refine pw_goto (tgt := 72) dX4_viewRow_46 rfl ?_
    exact pw_vret dX4_viewRow_72 rfl (nle rfl) (nle rfl) ⟨rfl, by unfold vRow; rw [if_pos (by omega)], rfl⟩
