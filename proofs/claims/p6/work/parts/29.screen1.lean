def YX7_shown : pw_Y := (RX7, "shown", cX7_shown, 1, (some (.object "PaneHouse$Grid")))
theorem ywX7_shown : pw_y yX7_shown YX7_shown 0 := ⟨by decide +kernel, by decide +kernel, by decide +kernel, pw_in 859 (by decide +kernel) (by decide +kernel), pw_in 83 (by decide +kernel) (by decide +kernel)⟩
theorem lkX7_32 : Cond.fieldLink RX7 32 (TX7 17).1 (TX7 17).2.1 (TX7 17).2.2.1 ∈ pw_G := pw_in 228 (by decide +kernel) (by decide +kernel)
theorem lkX7_14 : Cond.fieldLink RX7 14 (TX7 0).1 (TX7 0).2.1 (TX7 0).2.2.1 ∈ pw_G := pw_in 194 (by decide +kernel) (by decide +kernel)
theorem lkX7_20 : Cond.fieldLink RX7 20 (TX7 1).1 (TX7 1).2.1 (TX7 1).2.2.1 ∈ pw_G := pw_in 195 (by decide +kernel) (by decide +kernel)
def YX7_blank : pw_Y := (RX7, "blank", cX7_blank, 1, (some .int))
theorem ywX7_blank : pw_y yX7_blank YX7_blank 0 := ⟨by decide +kernel, by decide +kernel, by decide +kernel, pw_in 984 (by decide +kernel) (by decide +kernel), pw_in 83 (by decide +kernel) (by decide +kernel)⟩
theorem lkX7_52 : Cond.fieldLink RX7 52 (TX7 8).1 (TX7 8).2.1 (TX7 8).2.2.1 ∈ pw_G := pw_in 213 (by decide +kernel) (by decide +kernel)
def YX7_moveTo : pw_Y := (RX7, "moveTo", cX7_moveTo, 3, none)
theorem ywX7_moveTo : pw_y yX7_moveTo YX7_moveTo 2 := ⟨by decide +kernel, by decide +kernel, by decide +kernel, pw_in 756 (by decide +kernel) (by decide +kernel), pw_in 83 (by decide +kernel) (by decide +kernel)⟩
theorem lkX7_76 : Cond.fieldLink RX7 76 (TX7 3).1 (TX7 3).2.1 (TX7 3).2.2.1 ∈ pw_G := pw_in 199 (by decide +kernel) (by decide +kernel)
theorem cwX7_85 : Cond.methodLinkNest RX7 85 yX9_nearest "PaneHouse" ∈ pw_N ∧ Cond.static yX9_nearest ∈ pw_G := ⟨by decide +kernel, pw_in 119 (by decide +kernel) (by decide +kernel)⟩
theorem lkX7_42 : Cond.fieldLink RX7 42 (TX7 5).1 (TX7 5).2.1 (TX7 5).2.2.1 ∈ pw_G := pw_in 204 (by decide +kernel) (by decide +kernel)
theorem lkX7_61 : Cond.fieldLink RX7 61 (TX7 4).1 (TX7 4).2.1 (TX7 4).2.2.1 ∈ pw_G := pw_in 202 (by decide +kernel) (by decide +kernel)
theorem lkX7_46 : Cond.fieldLink RX7 46 (TX7 6).1 (TX7 6).2.1 (TX7 6).2.2.1 ∈ pw_G := pw_in 207 (by decide +kernel) (by decide +kernel)
theorem lkX7_49 : Cond.fieldLink RX7 49 (TX7 7).1 (TX7 7).2.1 (TX7 7).2.2.1 ∈ pw_G := pw_in 210 (by decide +kernel) (by decide +kernel)
def YX7_goToTab : pw_Y := (RX7, "goToTab", cX7_goToTab, 1, none)
theorem ywX7_goToTab : pw_y yX7_goToTab YX7_goToTab 0 := ⟨by decide +kernel, by decide +kernel, by decide +kernel, pw_in 957 (by decide +kernel) (by decide +kernel), pw_in 83 (by decide +kernel) (by decide +kernel)⟩
theorem cwX7_79 : Cond.methodLink RX7 79 yX7_moveTo ∈ pw_G ∧ Cond.instanceMethod yX7_moveTo ∈ pw_G ∧ Cond.selects RX7 yX7_moveTo yX7_moveTo ∈ pw_G := ⟨pw_in 753 (by decide +kernel) (by decide +kernel), pw_in 754 (by decide +kernel) (by decide +kernel), pw_in 755 (by decide +kernel) (by decide +kernel)⟩
def YX7_savePlace : pw_Y := (RX7, "savePlace", cX7_savePlace, 1, none)
theorem ywX7_savePlace : pw_y yX7_savePlace YX7_savePlace 0 := ⟨by decide +kernel, by decide +kernel, by decide +kernel, pw_in 773 (by decide +kernel) (by decide +kernel), pw_in 83 (by decide +kernel) (by decide +kernel)⟩
theorem lkX7_82 : Cond.fieldLink RX7 82 (TX7 9).1 (TX7 9).2.1 (TX7 9).2.2.1 ∈ pw_G := pw_in 216 (by decide +kernel) (by decide +kernel)
theorem lkX7_89 : Cond.fieldLink RX7 89 (TX7 10).1 (TX7 10).2.1 (TX7 10).2.2.1 ∈ pw_G := pw_in 217 (by decide +kernel) (by decide +kernel)
theorem lkX7_113 : Cond.fieldLink RX7 113 (TX7 11).1 (TX7 11).2.1 (TX7 11).2.2.1 ∈ pw_G := pw_in 218 (by decide +kernel) (by decide +kernel)
def YX7_takePlace : pw_Y := (RX7, "takePlace", cX7_takePlace, 1, none)
theorem ywX7_takePlace : pw_y yX7_takePlace YX7_takePlace 0 := ⟨by decide +kernel, by decide +kernel, by decide +kernel, pw_in 1084 (by decide +kernel) (by decide +kernel), pw_in 83 (by decide +kernel) (by decide +kernel)⟩
def YX7_eraseCells : pw_Y := (RX7, "eraseCells", cX7_eraseCells, 2, none)
theorem ywX7_eraseCells : pw_y yX7_eraseCells YX7_eraseCells 1 := ⟨by decide +kernel, by decide +kernel, by decide +kernel, pw_in 1049 (by decide +kernel) (by decide +kernel), pw_in 83 (by decide +kernel) (by decide +kernel)⟩
theorem cwX7_95 : Cond.methodLink RX7 95 yX7_shown ∈ pw_G ∧ Cond.instanceMethod yX7_shown ∈ pw_G ∧ Cond.selects RX7 yX7_shown yX7_shown ∈ pw_G := ⟨pw_in 976 (by decide +kernel) (by decide +kernel), pw_in 857 (by decide +kernel) (by decide +kernel), pw_in 858 (by decide +kernel) (by decide +kernel)⟩
theorem cwX7_116 : Cond.methodLink RX7 116 Lib.Math.min.name ∈ pw_G := pw_in 966 (by decide +kernel) (by decide +kernel)
theorem cwX7_135 : Cond.methodLink RX7 135 yX7_blank ∈ pw_G ∧ Cond.instanceMethod yX7_blank ∈ pw_G ∧ Cond.selects RX7 yX7_blank yX7_blank ∈ pw_G := ⟨pw_in 981 (by decide +kernel) (by decide +kernel), pw_in 983 (by decide +kernel) (by decide +kernel), pw_in 13 (by decide +kernel) (by decide +kernel)⟩
theorem cwX7_139 : Cond.methodLink RX7 139 yX0_fill ∈ pw_G ∧ Cond.instanceMethod yX0_fill ∈ pw_G ∧ Cond.selects RX0 yX0_fill yX0_fill ∈ pw_G := ⟨pw_in 985 (by decide +kernel) (by decide +kernel), pw_in 418 (by decide +kernel) (by decide +kernel), pw_in 419 (by decide +kernel) (by decide +kernel)⟩
def YX7_insertCells : pw_Y := (RX7, "insertCells", cX7_insertCells, 3, none)
theorem ywX7_insertCells : pw_y yX7_insertCells YX7_insertCells 1 := ⟨by decide +kernel, by decide +kernel, by decide +kernel, pw_in 1036 (by decide +kernel) (by decide +kernel), pw_in 83 (by decide +kernel) (by decide +kernel)⟩
theorem cwX7_99 : Cond.methodLink RX7 99 yX0_moveCells ∈ pw_G ∧ Cond.instanceMethod yX0_moveCells ∈ pw_G ∧ Cond.selects RX0 yX0_moveCells yX0_moveCells ∈ pw_G := ⟨pw_in 1037 (by decide +kernel) (by decide +kernel), pw_in 1038 (by decide +kernel) (by decide +kernel), pw_in 1039 (by decide +kernel) (by decide +kernel)⟩
theorem scOk_7 {w H : Int} {F T : Nat → Int} (hO : scOk w H F T) : scOk w H (va_up F 7 0) T := by
  unfold scOk at *
  simp only [va_up]
  simp
  omega
theorem sMove_ok {w H : Int} {F T : Nat → Int} {a b : Int} (hO : scOk w H F T) : scOk w H (sMove F a b) T := by
  unfold scOk at *
  unfold sMove
  simp only [va_up]
  simp
  omega
set_option maxHeartbeats 4000000 in
set_option maxRecDepth 100000 in
/-- Screen.shown() -/
theorem mX7_shown {E : pw_E} (htr : E.1.stackTraces = false) {h : pz_H} {n : Nat} {w H : Int} {N NH : Nat} {I : Nat → Nat} {F m o T c l : Nat → Int} (hG : geo w H N NH) (hA : scAt w H N NH I F m o T c l h) (hO : scOk w H F T) : pw_M E yX7_shown YX7_shown (rmD 0 0 0) [.ref (I 0)] h n (fun r h' n' => r = some (.ref (I (sq F + 5))) ∧ h' = h ∧ n' = n) (fun _ _ _ => False) := by
  have hG0 := hG
  have hO0 := hO
  obtain ⟨gw, gH, gN, gN2, gNH⟩ := hG
  obtain ⟨o3, o4, o5, o6, o7, o8, o9, o10, o11, o12, o14, o15, o16, o17, oT3, oT4⟩ := hO
  refine pw_M_of (lv := [some (.ref (I 0))]) (by decide) rfl rfl htr (nle rfl) rfl (fun L => ?_)
  refine pw_h (scPut_id hA).symm ?_
  refine pw_aload_n dX7_shown_0 rfl ?_
  refine pw_get (v := .int (zI (F 17))) okX7 (k := 17) (by decide) lkX7_32 (scAt_put hA).1.1 rfl dX7_shown_1 ?_
  refine pw_if_eq (tgt := 14) dX7_shown_4 rfl (by omega) (fun c4 => ?_) (fun c4 => ?_)
  ·
    refine pw_aload_n dX7_shown_14 rfl ?_
    refine pw_get (v := .ref (I 6)) okX7 (k := 0) (by decide) lkX7_14 (scAt_put hA).1.1 rfl dX7_shown_15 ?_
    exact pw_aret dX7_shown_18 rfl (Or.inl ⟨_, rfl⟩) (nle rfl) (nle rfl) ⟨by unfold sq; first | rw [if_pos (by omega)] | rw [if_neg (by omega)], scPut_id hA, rfl⟩
  ·
    refine pw_aload_n dX7_shown_7 rfl ?_
    refine pw_get (v := .ref (I 7)) okX7 (k := 1) (by decide) lkX7_20 (scAt_put hA).1.1 rfl dX7_shown_8 ?_
    refine pw_goto (tgt := 18) dX7_shown_11 rfl ?_
    exact pw_aret dX7_shown_18 rfl (Or.inl ⟨_, rfl⟩) (nle rfl) (nle rfl) ⟨by unfold sq; first | rw [if_pos (by omega)] | rw [if_neg (by omega)], scPut_id hA, rfl⟩
set_option maxHeartbeats 4000000 in
set_option maxRecDepth 100000 in
/-- Screen.blank() -/
theorem mX7_blank {E : pw_E} (htr : E.1.stackTraces = false) {h : pz_H} {n : Nat} {w H : Int} {N NH : Nat} {I : Nat → Nat} {F m o T c l : Nat → Int} (hG : geo w H N NH) (hA : scAt w H N NH I F m o T c l h) (hO : scOk w H F T) : pw_M E yX7_blank YX7_blank (rmD 0 0 0) [.ref (I 0)] h n (fun r h' n' => r = some (.int (zI (F 8 * 128 + 32))) ∧ h' = h ∧ n' = n) (fun _ _ _ => False) := by
  have hG0 := hG
  have hO0 := hO
  obtain ⟨gw, gH, gN, gN2, gNH⟩ := hG
  obtain ⟨o3, o4, o5, o6, o7, o8, o9, o10, o11, o12, o14, o15, o16, o17, oT3, oT4⟩ := hO
  refine pw_M_of (lv := [some (.ref (I 0))]) (by decide) rfl rfl htr (nle rfl) rfl (fun L => ?_)
  refine pw_h (scPut_id hA).symm ?_
  refine pw_aload_n dX7_blank_0 rfl ?_
  refine pw_get (v := .int (zI (F 8))) okX7 (k := 8) (by decide) lkX7_52 (scAt_put hA).1.1 rfl dX7_blank_1 ?_
  refine pw_sipush (v := zI (128)) dX7_blank_4 (by decide) ?_
  refine pw_zimul dX7_blank_7 ?_
  refine pw_bipush (v := zI (32)) dX7_blank_8 (by decide) ?_
  refine pw_ziadd dX7_blank_10 ?_
  exact pw_iret dX7_blank_11 rfl (nle rfl) (nle rfl) ⟨rfl, scPut_id hA, rfl⟩
set_option maxHeartbeats 4000000 in
set_option maxRecDepth 100000 in
/-- Screen.moveTo(a, b) -/
theorem mX7_moveTo {E : pw_E} (htr : E.1.stackTraces = false) {h : pz_H} {n : Nat} {w H : Int} {N NH : Nat} {I : Nat → Nat} {F m o T c l : Nat → Int} (hG : geo w H N NH) (hA : scAt w H N NH I F m o T c l h) (hO : scOk w H F T) {a b : Int} (h_a : -2147483648 ≤ a ∧ a < 2147483648) (h_b : -2147483648 ≤ b ∧ b < 2147483648) : pw_M E yX7_moveTo YX7_moveTo (rmD 2 0 0) [.ref (I 0), .int (zI (a)), .int (zI (b))] h n (fun r h' n' => r = none ∧ h' = scPut w H N NH I (sMove F a b) m o T c l h ∧ n' = n) (fun _ _ _ => False) := by
  have hG0 := hG
  have hO0 := hO
  obtain ⟨gw, gH, gN, gN2, gNH⟩ := hG
  obtain ⟨o3, o4, o5, o6, o7, o8, o9, o10, o11, o12, o14, o15, o16, o17, oT3, oT4⟩ := hO
  refine pw_M_of (lv := [some (.ref (I 0)), some (.int (zI (a))), some (.int (zI (b)))]) (by decide) rfl rfl htr (nle rfl) rfl (fun L => ?_)
  refine pw_h (scPut_id hA).symm ?_
  refine pw_aload_n dX7_moveTo_0 rfl ?_
  refine pw_iload_n dX7_moveTo_1 rfl ?_
  refine pw_iconst (v := zI (0)) dX7_moveTo_2 (by decide) ?_
  refine pw_aload_n dX7_moveTo_3 rfl ?_
  refine pw_get (v := .int (zI (F 3))) okX7 (k := 3) (by decide) lkX7_76 (scAt_put hA).1.1 rfl dX7_moveTo_4 ?_
  refine pw_iconst (v := zI (1)) dX7_moveTo_7 (by decide) ?_
  refine pw_zisub dX7_moveTo_8 ?_
  refine pw_callSN (As := [.int (zI (a)), .int (zI (0)), .int (zI ((F 3) - (1)))]) (rm := rmD 1 0 0) (mX9_nearest htr (by omega) (by omega) (by omega)) rfl ywX9_nearest rfl cwX7_85 ⟨nle rfl, nle rfl⟩ (nle rfl) ⟨nle rfl, nle rfl⟩ dX7_moveTo_9 ?_
  intro r2 h2 n2 hq _
  rw [hq.1, hq.2.1, hq.2.2]
  show pw E YX7_moveTo _ _ 0 0 12 [some (.ref (I 0)), some (.int (zI (a))), some (.int (zI (b)))] [.int (zI (max (0) (min ((F 3) - (1)) (a)))), .ref (I 0)] (scPut w H N NH I F m o T c l h) n
  refine pw_put (fs' := (scObj I (va_up F 5 (max (0) (min ((F 3) - (1)) (a)))))) okX7 (k := 5) (by decide) lkX7_42 rfl rfl rfl (scAt_put hA).1.1 (nlt rfl) rfl dX7_moveTo_12 ?_
  refine pw_h (scU0 hA) ?_
  refine pw_aload_n dX7_moveTo_15 rfl ?_
  refine pw_iload_n dX7_moveTo_16 rfl ?_
  refine pw_iconst (v := zI (0)) dX7_moveTo_17 (by decide) ?_
  refine pw_aload_n dX7_moveTo_18 rfl ?_
  refine pw_get (v := .int (zI (F 4))) okX7 (k := 4) (by decide) lkX7_61 (scAt_put hA).1.1 rfl dX7_moveTo_19 ?_
  refine pw_iconst (v := zI (1)) dX7_moveTo_22 (by decide) ?_
  refine pw_zisub dX7_moveTo_23 ?_
  refine pw_callSN (As := [.int (zI (b)), .int (zI (0)), .int (zI ((F 4) - (1)))]) (rm := rmD 1 0 0) (mX9_nearest htr (by omega) (by omega) (by omega)) rfl ywX9_nearest rfl cwX7_85 ⟨nle rfl, nle rfl⟩ (nle rfl) ⟨nle rfl, nle rfl⟩ dX7_moveTo_24 ?_
  intro r2 h2 n2 hq _
  rw [hq.1, hq.2.1, hq.2.2]
  show pw E YX7_moveTo _ _ 0 0 27 [some (.ref (I 0)), some (.int (zI (a))), some (.int (zI (b)))] [.int (zI (max (0) (min ((F 4) - (1)) (b)))), .ref (I 0)] (scPut w H N NH I (va_up F 5 (max (0) (min ((F 3) - (1)) (a)))) m o T c l h) n
  refine pw_put (fs' := (scObj I (va_up (va_up F 5 (max (0) (min ((F 3) - (1)) (a)))) 6 (max (0) (min ((F 4) - (1)) (b)))))) okX7 (k := 6) (by decide) lkX7_46 rfl rfl rfl (scAt_put hA).1.1 (nlt rfl) rfl dX7_moveTo_27 ?_
  refine pw_h (scU0 hA) ?_
  refine pw_aload_n dX7_moveTo_30 rfl ?_
  refine pw_iconst (v := zI (0)) dX7_moveTo_31 (by decide) ?_
  refine pw_put (fs' := (scObj I (va_up (va_up (va_up F 5 (max (0) (min ((F 3) - (1)) (a)))) 6 (max (0) (min ((F 4) - (1)) (b)))) 7 (0)))) okX7 (k := 7) (by decide) lkX7_49 rfl (by decide) (by decide) (scAt_put hA).1.1 (nlt rfl) rfl dX7_moveTo_32 ?_
  refine pw_h (scU0 hA) ?_
  exact pw_vret dX7_moveTo_35 rfl (nle rfl) (nle rfl) ⟨rfl, rfl, rfl⟩
set_option maxHeartbeats 4000000 in
set_option maxRecDepth 100000 in
/-- Screen.goToTab() -/
theorem mX7_goToTab {E : pw_E} (htr : E.1.stackTraces = false) {h : pz_H} {n : Nat} {w H : Int} {N NH : Nat} {I : Nat → Nat} {F m o T c l : Nat → Int} (hG : geo w H N NH) (hA : scAt w H N NH I F m o T c l h) (hO : scOk w H F T) : pw_M E yX7_goToTab YX7_goToTab (rmD 3 0 0) [.ref (I 0)] h n (fun r h' n' => r = none ∧ h' = scPut w H N NH I (sMove F ((F 5 / 8 + 1) * 8) (F 6)) m o T c l h ∧ n' = n) (fun _ _ _ => False) := by
  have hG0 := hG
  have hO0 := hO
  obtain ⟨gw, gH, gN, gN2, gNH⟩ := hG
  obtain ⟨o3, o4, o5, o6, o7, o8, o9, o10, o11, o12, o14, o15, o16, o17, oT3, oT4⟩ := hO
  refine pw_M_of (lv := [some (.ref (I 0))]) (by decide) rfl rfl htr (nle rfl) rfl (fun L => ?_)
  refine pw_h (scPut_id hA).symm ?_
  refine pw_aload_n dX7_goToTab_0 rfl ?_
  refine pw_aload_n dX7_goToTab_1 rfl ?_
  refine pw_get (v := .int (zI (F 5))) okX7 (k := 5) (by decide) lkX7_42 (scAt_put hA).1.1 rfl dX7_goToTab_2 ?_
  refine pw_bipush (v := zI (8)) dX7_goToTab_5 (by decide) ?_
  refine pw_zidiv dX7_goToTab_7 (by omega) (by omega) ?_
  refine pw_iconst (v := zI (1)) dX7_goToTab_8 (by decide) ?_
  refine pw_ziadd dX7_goToTab_9 ?_
  refine pw_bipush (v := zI (8)) dX7_goToTab_10 (by decide) ?_
  refine pw_zimul dX7_goToTab_12 ?_
  refine pw_aload_n dX7_goToTab_13 rfl ?_
  refine pw_get (v := .int (zI (F 6))) okX7 (k := 6) (by decide) lkX7_46 (scAt_put hA).1.1 rfl dX7_goToTab_14 ?_
  refine pw_callV (As := [.int (zI ((((F 5) / (8)) + (1)) * (8))), .int (zI (F 6))]) (b := (I 0)) (rm := rmD 2 0 0) (mX7_moveTo htr hG0 (scAt_put hA) (hO0) (by omega) (by omega)) rfl (scAt_put hA).1.1 rfl rfl ywX7_moveTo rfl cwX7_79 ⟨nle rfl, nle rfl⟩ (nle rfl) ⟨nle rfl, nle rfl⟩ dX7_goToTab_17 ?_ (fun _ _ _ z => z.elim)
  intro r2 h2 n2 hq _
  rw [hq.1, hq.2.1, hq.2.2]
  show pw E YX7_goToTab _ _ 0 0 20 [some (.ref (I 0))] [] (scPut w H N NH I (sMove F ((((F 5) / (8)) + (1)) * (8)) (F 6)) m o T c l (scPut w H N NH I F m o T c l h)) n
  refine pw_h scPut_put ?_
  exact pw_vret dX7_goToTab_20 rfl (nle rfl) (nle rfl) ⟨rfl, rfl, rfl⟩
set_option maxHeartbeats 4000000 in
set_option maxRecDepth 100000 in
/-- Screen.savePlace() -/
theorem mX7_savePlace {E : pw_E} (htr : E.1.stackTraces = false) {h : pz_H} {n : Nat} {w H : Int} {N NH : Nat} {I : Nat → Nat} {F m o T c l : Nat → Int} (hG : geo w H N NH) (hA : scAt w H N NH I F m o T c l h) (hO : scOk w H F T) : pw_M E yX7_savePlace YX7_savePlace (rmD 0 0 0) [.ref (I 0)] h n (fun r h' n' => r = none ∧ h' = scPut w H N NH I (sSave F) m o T c l h ∧ n' = n) (fun _ _ _ => False) := by
  have hG0 := hG
  have hO0 := hO
  obtain ⟨gw, gH, gN, gN2, gNH⟩ := hG
  obtain ⟨o3, o4, o5, o6, o7, o8, o9, o10, o11, o12, o14, o15, o16, o17, oT3, oT4⟩ := hO
  refine pw_M_of (lv := [some (.ref (I 0))]) (by decide) rfl rfl htr (nle rfl) rfl (fun L => ?_)
  refine pw_h (scPut_id hA).symm ?_
  refine pw_aload_n dX7_savePlace_0 rfl ?_
  refine pw_aload_n dX7_savePlace_1 rfl ?_
  refine pw_get (v := .int (zI (F 5))) okX7 (k := 5) (by decide) lkX7_42 (scAt_put hA).1.1 rfl dX7_savePlace_2 ?_
  refine pw_put (fs' := (scObj I (va_up F 9 (F 5)))) okX7 (k := 9) (by decide) lkX7_82 rfl rfl rfl (scAt_put hA).1.1 (nlt rfl) rfl dX7_savePlace_5 ?_
  refine pw_h (scU0 hA) ?_
  refine pw_aload_n dX7_savePlace_8 rfl ?_
  refine pw_aload_n dX7_savePlace_9 rfl ?_
  refine pw_get (v := .int (zI (F 6))) okX7 (k := 6) (by decide) lkX7_46 (scAt_put hA).1.1 rfl dX7_savePlace_10 ?_
  refine pw_put (fs' := (scObj I (va_up (va_up F 9 (F 5)) 10 (F 6)))) okX7 (k := 10) (by decide) lkX7_89 rfl rfl rfl (scAt_put hA).1.1 (nlt rfl) rfl dX7_savePlace_13 ?_
  refine pw_h (scU0 hA) ?_
  refine pw_aload_n dX7_savePlace_16 rfl ?_
  refine pw_aload_n dX7_savePlace_17 rfl ?_
  refine pw_get (v := .int (zI (F 8))) okX7 (k := 8) (by decide) lkX7_52 (scAt_put hA).1.1 rfl dX7_savePlace_18 ?_
  refine pw_put (fs' := (scObj I (va_up (va_up (va_up F 9 (F 5)) 10 (F 6)) 11 (F 8)))) okX7 (k := 11) (by decide) lkX7_113 rfl rfl rfl (scAt_put hA).1.1 (nlt rfl) rfl dX7_savePlace_21 ?_
  refine pw_h (scU0 hA) ?_
  exact pw_vret dX7_savePlace_24 rfl (nle rfl) (nle rfl) ⟨rfl, rfl, rfl⟩
set_option maxHeartbeats 4000000 in
set_option maxRecDepth 100000 in
/-- Screen.takePlace() -/
theorem mX7_takePlace {E : pw_E} (htr : E.1.stackTraces = false) {h : pz_H} {n : Nat} {w H : Int} {N NH : Nat} {I : Nat → Nat} {F m o T c l : Nat → Int} (hG : geo w H N NH) (hA : scAt w H N NH I F m o T c l h) (hO : scOk w H F T) : pw_M E yX7_takePlace YX7_takePlace (rmD 3 0 0) [.ref (I 0)] h n (fun r h' n' => r = none ∧ h' = scPut w H N NH I (va_up (sMove F (F 9) (F 10)) 8 (F 11)) m o T c l h ∧ n' = n) (fun _ _ _ => False) := by
  have hG0 := hG
  have hO0 := hO
  obtain ⟨gw, gH, gN, gN2, gNH⟩ := hG
  obtain ⟨o3, o4, o5, o6, o7, o8, o9, o10, o11, o12, o14, o15, o16, o17, oT3, oT4⟩ := hO
  refine pw_M_of (lv := [some (.ref (I 0))]) (by decide) rfl rfl htr (nle rfl) rfl (fun L => ?_)
  refine pw_h (scPut_id hA).symm ?_
  refine pw_aload_n dX7_takePlace_0 rfl ?_
  refine pw_aload_n dX7_takePlace_1 rfl ?_
  refine pw_get (v := .int (zI (F 9))) okX7 (k := 9) (by decide) lkX7_82 (scAt_put hA).1.1 rfl dX7_takePlace_2 ?_
  refine pw_aload_n dX7_takePlace_5 rfl ?_
  refine pw_get (v := .int (zI (F 10))) okX7 (k := 10) (by decide) lkX7_89 (scAt_put hA).1.1 rfl dX7_takePlace_6 ?_
  refine pw_callV (As := [.int (zI (F 9)), .int (zI (F 10))]) (b := (I 0)) (rm := rmD 2 0 0) (mX7_moveTo htr hG0 (scAt_put hA) hO0 (by omega) (by omega)) rfl (scAt_put hA).1.1 rfl rfl ywX7_moveTo rfl cwX7_79 ⟨nle rfl, nle rfl⟩ (nle rfl) ⟨nle rfl, nle rfl⟩ dX7_takePlace_9 ?_ (fun _ _ _ z => z.elim)
  intro r2 h2 n2 hq _
  rw [hq.1, hq.2.1, hq.2.2]
  show pw E YX7_takePlace _ _ 0 0 12 [some (.ref (I 0))] [] (scPut w H N NH I (sMove F (F 9) (F 10)) m o T c l (scPut w H N NH I F m o T c l h)) n
  refine pw_h scPut_put ?_
  refine pw_aload_n dX7_takePlace_12 rfl ?_
  refine pw_aload_n dX7_takePlace_13 rfl ?_
  refine pw_get (v := .int (zI (F 11))) okX7 (k := 11) (by decide) lkX7_113 (scAt_put hA).1.1 rfl dX7_takePlace_14 ?_
  refine pw_put (fs' := (scObj I (va_up (sMove F (F 9) (F 10)) 8 (F 11)))) okX7 (k := 8) (by decide) lkX7_52 rfl rfl rfl (scAt_put hA).1.1 (nlt rfl) rfl dX7_takePlace_17 ?_
  refine pw_h (scU0 hA) ?_
  exact pw_vret dX7_takePlace_20 rfl (nle rfl) (nle rfl) ⟨rfl, rfl, rfl⟩
set_option maxHeartbeats 4000000 in
set_option maxRecDepth 100000 in
/-- Screen.eraseCells(k) -/
theorem mX7_eraseCells {E : pw_E} (htr : E.1.stackTraces = false) {h : pz_H} {n : Nat} {w H : Int} {N NH : Nat} {I : Nat → Nat} {F m o T c l : Nat → Int} (hG : geo w H N NH) (hA : scAt w H N NH I F m o T c l h) (hO : scOk w H F T) {k : Int} (h_k : -2147483648 ≤ k ∧ k < 2147483648) (hk : 0 ≤ k ∧ k ≤ 1000) : pw_M E yX7_eraseCells YX7_eraseCells (rmD 3 0 0) [.ref (I 0), .int (zI (k))] h n (fun r h' n' => r = none ∧ h' = scPut w H N NH I F (shM F m (gfill w H (F 6) (F 5) (min (F 3) (F 5 + k)) (F 8 * 128 + 32) (shG F m o))) (shO F o (gfill w H (F 6) (F 5) (min (F 3) (F 5 + k)) (F 8 * 128 + 32) (shG F m o))) T c l h ∧ n' = n) (fun _ _ _ => False) := by
  have hG0 := hG
  have hO0 := hO
  obtain ⟨gw, gH, gN, gN2, gNH⟩ := hG
  obtain ⟨o3, o4, o5, o6, o7, o8, o9, o10, o11, o12, o14, o15, o16, o17, oT3, oT4⟩ := hO
  refine pw_M_of (lv := [some (.ref (I 0)), some (.int (zI (k)))]) (by decide) rfl rfl htr (nle rfl) rfl (fun L => ?_)
  refine pw_h (scPut_idS hA).symm ?_
  refine pw_aload_n dX7_eraseCells_0 rfl ?_
  refine pw_callV (As := []) (b := (I 0)) (rm := rmD 0 0 0) (mX7_shown htr hG0 (scAt_put hA) (hO0)) rfl (scAt_put hA).1.1 rfl rfl ywX7_shown rfl cwX7_95 ⟨nle rfl, nle rfl⟩ (nle rfl) ⟨nle rfl, nle rfl⟩ dX7_eraseCells_1 ?_ (fun _ _ _ z => z.elim)
  intro r2 h2 n2 hq _
  rw [hq.1, hq.2.1, hq.2.2]
  show pw E YX7_eraseCells _ _ 0 0 4 [some (.ref (I 0)), some (.int (zI (k)))] [.ref (I (sq F + 5))] (scPut w H N NH I F (shM F m (shG F m o)) (shO F o (shG F m o)) T c l h) n
  refine pw_aload_n dX7_eraseCells_4 rfl ?_
  refine pw_get (v := .int (zI (F 6))) okX7 (k := 6) (by decide) lkX7_46 (scAt_put hA).1.1 rfl dX7_eraseCells_5 ?_
  refine pw_aload_n dX7_eraseCells_8 rfl ?_
  refine pw_get (v := .int (zI (F 5))) okX7 (k := 5) (by decide) lkX7_42 (scAt_put hA).1.1 rfl dX7_eraseCells_9 ?_
  refine pw_aload_n dX7_eraseCells_12 rfl ?_
  refine pw_get (v := .int (zI (F 3))) okX7 (k := 3) (by decide) lkX7_76 (scAt_put hA).1.1 rfl dX7_eraseCells_13 ?_
  refine pw_aload_n dX7_eraseCells_16 rfl ?_
  refine pw_get (v := .int (zI (F 5))) okX7 (k := 5) (by decide) lkX7_42 (scAt_put hA).1.1 rfl dX7_eraseCells_17 ?_
  refine pw_iload_n dX7_eraseCells_20 rfl ?_
  refine pw_ziadd dX7_eraseCells_21 ?_
  refine pw_min cwX7_116 dX7_eraseCells_22 (by omega) (by omega) ⟨nle rfl, nle rfl⟩ ⟨nle rfl, nle rfl⟩ ?_
  refine pw_aload_n dX7_eraseCells_25 rfl ?_
  refine pw_callV (As := []) (b := (I 0)) (rm := rmD 0 0 0) (mX7_blank htr hG0 (scAt_put hA) (hO0)) rfl (scAt_put hA).1.1 rfl rfl ywX7_blank rfl cwX7_135 ⟨nle rfl, nle rfl⟩ (nle rfl) ⟨nle rfl, nle rfl⟩ dX7_eraseCells_26 ?_ (fun _ _ _ z => z.elim)
  intro r2 h2 n2 hq _
  rw [hq.1, hq.2.1, hq.2.2]
  show pw E YX7_eraseCells _ _ 0 0 29 [some (.ref (I 0)), some (.int (zI (k)))] [.int (zI (F 8 * 128 + 32)), .int (zI (min (F 3) ((F 5) + (k)))), .int (zI (F 5)), .int (zI (F 6)), .ref (I (sq F + 5))] (scPut w H N NH I F (shM F m (shG F m o)) (shO F o (shG F m o)) T c l h) n
  refine pw_callV (As := [.int (zI (F 6)), .int (zI (F 5)), .int (zI (min (F 3) ((F 5) + (k)))), .int (zI (F 8 * 128 + 32))]) (b := (I (sq F + 5))) (rm := rmD 2 0 0) (mX0_fill htr (scSg (scAt_put hA)) (scSx hA) (scSne hA) (by omega) (by omega) gN gN2 (by omega) (by omega) (by omega) (by omega)) rfl (scSg (scAt_put hA)) rfl rfl ywX0_fill rfl cwX7_139 ⟨nle rfl, nle rfl⟩ (nle rfl) ⟨nle rfl, nle rfl⟩ dX7_eraseCells_29 ?_ (fun _ _ _ z => z.elim)
  intro r2 h2 n2 hq _
  rw [hq.1, hq.2.1, hq.2.2]
  show pw E YX7_eraseCells _ _ 0 0 32 [some (.ref (I 0)), some (.int (zI (k)))] [] (va_up (scPut w H N NH I F (shM F m (shG F m o)) (shO F o (shG F m o)) T c l h) (I (sq F)) (pz_z 0 N (gfill w H (F 6) (F 5) (min (F 3) ((F 5) + (k))) (F 8 * 128 + 32) (shG F m o)))) n
  refine pw_h (scUS hA) ?_
  exact pw_vret dX7_eraseCells_32 rfl (nle rfl) (nle rfl) ⟨rfl, rfl, rfl⟩
set_option maxHeartbeats 4000000 in
set_option maxRecDepth 100000 in
/-- Screen.insertCells(k) -/
theorem mX7_insertCells {E : pw_E} (htr : E.1.stackTraces = false) {h : pz_H} {n : Nat} {w H : Int} {N NH : Nat} {I : Nat → Nat} {F m o T c l : Nat → Int} (hG : geo w H N NH) (hA : scAt w H N NH I F m o T c l h) (hO : scOk w H F T) {k : Int} (h_k : -2147483648 ≤ k ∧ k < 2147483648) (hk : 0 ≤ k ∧ k ≤ 1000) : pw_M E yX7_insertCells YX7_insertCells (rmD 3 0 0) [.ref (I 0), .int (zI (k))] h n (fun r h' n' => r = none ∧ h' = scPut w H N NH I F (shM F m (gfill w H (F 6) (F 5) (F 5 + min k (F 3 - F 5)) (F 8 * 128 + 32) (gmoveCells w H (F 6) (F 5) (F 5 + min k (F 3 - F 5)) (F 3 - F 5 - min k (F 3 - F 5)) (shG F m o)))) (shO F o (gfill w H (F 6) (F 5) (F 5 + min k (F 3 - F 5)) (F 8 * 128 + 32) (gmoveCells w H (F 6) (F 5) (F 5 + min k (F 3 - F 5)) (F 3 - F 5 - min k (F 3 - F 5)) (shG F m o)))) T c l h ∧ n' = n) (fun _ _ _ => False) := by
  have hG0 := hG
  have hO0 := hO
  obtain ⟨gw, gH, gN, gN2, gNH⟩ := hG
  obtain ⟨o3, o4, o5, o6, o7, o8, o9, o10, o11, o12, o14, o15, o16, o17, oT3, oT4⟩ := hO
  refine pw_M_of (lv := [some (.ref (I 0)), some (.int (zI (k))), none]) (by decide) rfl rfl htr (nle rfl) rfl (fun L => ?_)
  refine pw_h (scPut_idS hA).symm ?_
  refine pw_iload_n dX7_insertCells_0 rfl ?_
  refine pw_aload_n dX7_insertCells_1 rfl ?_
  refine pw_get (v := .int (zI (F 3))) okX7 (k := 3) (by decide) lkX7_76 (scAt_put hA).1.1 rfl dX7_insertCells_2 ?_
  refine pw_aload_n dX7_insertCells_5 rfl ?_
  refine pw_get (v := .int (zI (F 5))) okX7 (k := 5) (by decide) lkX7_42 (scAt_put hA).1.1 rfl dX7_insertCells_6 ?_
  refine pw_zisub dX7_insertCells_9 ?_
  refine pw_min cwX7_116 dX7_insertCells_10 (by omega) (by omega) ⟨nle rfl, nle rfl⟩ ⟨nle rfl, nle rfl⟩ ?_
  refine pw_istore_n (lv' := [some (.ref (I 0)), some (.int (zI (k))), some (.int (zI (min (k) ((F 3) - (F 5)))))]) dX7_insertCells_13 (by decide) rfl rfl ?_
  refine pw_aload_n dX7_insertCells_14 rfl ?_
  refine pw_callV (As := []) (b := (I 0)) (rm := rmD 0 0 0) (mX7_shown htr hG0 (scAt_put hA) (hO0)) rfl (scAt_put hA).1.1 rfl rfl ywX7_shown rfl cwX7_95 ⟨nle rfl, nle rfl⟩ (nle rfl) ⟨nle rfl, nle rfl⟩ dX7_insertCells_15 ?_ (fun _ _ _ z => z.elim)
  intro r2 h2 n2 hq _
  rw [hq.1, hq.2.1, hq.2.2]
  show pw E YX7_insertCells _ _ 0 0 18 [some (.ref (I 0)), some (.int (zI (k))), some (.int (zI (min (k) ((F 3) - (F 5)))))] [.ref (I (sq F + 5))] (scPut w H N NH I F (shM F m (shG F m o)) (shO F o (shG F m o)) T c l h) n
  refine pw_aload_n dX7_insertCells_18 rfl ?_
  refine pw_get (v := .int (zI (F 6))) okX7 (k := 6) (by decide) lkX7_46 (scAt_put hA).1.1 rfl dX7_insertCells_19 ?_
  refine pw_aload_n dX7_insertCells_22 rfl ?_
  refine pw_get (v := .int (zI (F 5))) okX7 (k := 5) (by decide) lkX7_42 (scAt_put hA).1.1 rfl dX7_insertCells_23 ?_
  refine pw_aload_n dX7_insertCells_26 rfl ?_
  refine pw_get (v := .int (zI (F 5))) okX7 (k := 5) (by decide) lkX7_42 (scAt_put hA).1.1 rfl dX7_insertCells_27 ?_
  refine pw_iload_n dX7_insertCells_30 rfl ?_
  refine pw_ziadd dX7_insertCells_31 ?_
  refine pw_aload_n dX7_insertCells_32 rfl ?_
  refine pw_get (v := .int (zI (F 3))) okX7 (k := 3) (by decide) lkX7_76 (scAt_put hA).1.1 rfl dX7_insertCells_33 ?_
  refine pw_aload_n dX7_insertCells_36 rfl ?_
  refine pw_get (v := .int (zI (F 5))) okX7 (k := 5) (by decide) lkX7_42 (scAt_put hA).1.1 rfl dX7_insertCells_37 ?_
  refine pw_zisub dX7_insertCells_40 ?_
  refine pw_iload_n dX7_insertCells_41 rfl ?_
  refine pw_zisub dX7_insertCells_42 ?_
  refine pw_callV (As := [.int (zI (F 6)), .int (zI (F 5)), .int (zI ((F 5) + (min (k) ((F 3) - (F 5))))), .int (zI (((F 3) - (F 5)) - (min (k) ((F 3) - (F 5)))))]) (b := (I (sq F + 5))) (rm := rmD 1 0 0) (mX0_moveCells htr (scSg (scAt_put hA)) (scSx hA) (scSne hA) (by omega) (by omega) gN gN2 (by omega) (by omega) (by omega) (by omega)) rfl (scSg (scAt_put hA)) rfl rfl ywX0_moveCells rfl cwX7_99 ⟨nle rfl, nle rfl⟩ (nle rfl) ⟨nle rfl, nle rfl⟩ dX7_insertCells_43 ?_ (fun _ _ _ z => z.elim)
  intro r2 h2 n2 hq _
  rw [hq.1, hq.2.1, hq.2.2]
  show pw E YX7_insertCells _ _ 0 0 46 [some (.ref (I 0)), some (.int (zI (k))), some (.int (zI (min (k) ((F 3) - (F 5)))))] [] (va_up (scPut w H N NH I F (shM F m (shG F m o)) (shO F o (shG F m o)) T c l h) (I (sq F)) (pz_z 0 N (gmoveCells w H (F 6) (F 5) ((F 5) + (min (k) ((F 3) - (F 5)))) (((F 3) - (F 5)) - (min (k) ((F 3) - (F 5)))) (shG F m o)))) n
  refine pw_h (scUS hA) ?_
  refine pw_aload_n dX7_insertCells_46 rfl ?_
  refine pw_callV (As := []) (b := (I 0)) (rm := rmD 0 0 0) (mX7_shown htr hG0 (scAt_put hA) (hO0)) rfl (scAt_put hA).1.1 rfl rfl ywX7_shown rfl cwX7_95 ⟨nle rfl, nle rfl⟩ (nle rfl) ⟨nle rfl, nle rfl⟩ dX7_insertCells_47 ?_ (fun _ _ _ z => z.elim)
  intro r2 h2 n2 hq _
  rw [hq.1, hq.2.1, hq.2.2]
  show pw E YX7_insertCells _ _ 0 0 50 [some (.ref (I 0)), some (.int (zI (k))), some (.int (zI (min (k) ((F 3) - (F 5)))))] [.ref (I (sq F + 5))] (scPut w H N NH I F (shM F m (gmoveCells w H (F 6) (F 5) ((F 5) + (min (k) ((F 3) - (F 5)))) (((F 3) - (F 5)) - (min (k) ((F 3) - (F 5)))) (shG F m o))) (shO F o (gmoveCells w H (F 6) (F 5) ((F 5) + (min (k) ((F 3) - (F 5)))) (((F 3) - (F 5)) - (min (k) ((F 3) - (F 5)))) (shG F m o))) T c l h) n
  refine pw_aload_n dX7_insertCells_50 rfl ?_
  refine pw_get (v := .int (zI (F 6))) okX7 (k := 6) (by decide) lkX7_46 (scAt_put hA).1.1 rfl dX7_insertCells_51 ?_
  refine pw_aload_n dX7_insertCells_54 rfl ?_
  refine pw_get (v := .int (zI (F 5))) okX7 (k := 5) (by decide) lkX7_42 (scAt_put hA).1.1 rfl dX7_insertCells_55 ?_
  refine pw_aload_n dX7_insertCells_58 rfl ?_
  refine pw_get (v := .int (zI (F 5))) okX7 (k := 5) (by decide) lkX7_42 (scAt_put hA).1.1 rfl dX7_insertCells_59 ?_
  refine pw_iload_n dX7_insertCells_62 rfl ?_
  refine pw_ziadd dX7_insertCells_63 ?_
  refine pw_aload_n dX7_insertCells_64 rfl ?_
  refine pw_callV (As := []) (b := (I 0)) (rm := rmD 0 0 0) (mX7_blank htr hG0 (scAt_put hA) (hO0)) rfl (scAt_put hA).1.1 rfl rfl ywX7_blank rfl cwX7_135 ⟨nle rfl, nle rfl⟩ (nle rfl) ⟨nle rfl, nle rfl⟩ dX7_insertCells_65 ?_ (fun _ _ _ z => z.elim)
  intro r2 h2 n2 hq _
  rw [hq.1, hq.2.1, hq.2.2]
  show pw E YX7_insertCells _ _ 0 0 68 [some (.ref (I 0)), some (.int (zI (k))), some (.int (zI (min (k) ((F 3) - (F 5)))))] [.int (zI (F 8 * 128 + 32)), .int (zI ((F 5) + (min (k) ((F 3) - (F 5))))), .int (zI (F 5)), .int (zI (F 6)), .ref (I (sq F + 5))] (scPut w H N NH I F (shM F m (gmoveCells w H (F 6) (F 5) ((F 5) + (min (k) ((F 3) - (F 5)))) (((F 3) - (F 5)) - (min (k) ((F 3) - (F 5)))) (shG F m o))) (shO F o (gmoveCells w H (F 6) (F 5) ((F 5) + (min (k) ((F 3) - (F 5)))) (((F 3) - (F 5)) - (min (k) ((F 3) - (F 5)))) (shG F m o))) T c l h) n
  refine pw_callV (As := [.int (zI (F 6)), .int (zI (F 5)), .int (zI ((F 5) + (min (k) ((F 3) - (F 5))))), .int (zI (F 8 * 128 + 32))]) (b := (I (sq F + 5))) (rm := rmD 2 0 0) (mX0_fill htr (scSg (scAt_put hA)) (scSx hA) (scSne hA) (by omega) (by omega) gN gN2 (by omega) (by omega) (by omega) (by omega)) rfl (scSg (scAt_put hA)) rfl rfl ywX0_fill rfl cwX7_139 ⟨nle rfl, nle rfl⟩ (nle rfl) ⟨nle rfl, nle rfl⟩ dX7_insertCells_68 ?_ (fun _ _ _ z => z.elim)
  intro r2 h2 n2 hq _
  rw [hq.1, hq.2.1, hq.2.2]
  show pw E YX7_insertCells _ _ 0 0 71 [some (.ref (I 0)), some (.int (zI (k))), some (.int (zI (min (k) ((F 3) - (F 5)))))] [] (va_up (scPut w H N NH I F (shM F m (gmoveCells w H (F 6) (F 5) ((F 5) + (min (k) ((F 3) - (F 5)))) (((F 3) - (F 5)) - (min (k) ((F 3) - (F 5)))) (shG F m o))) (shO F o (gmoveCells w H (F 6) (F 5) ((F 5) + (min (k) ((F 3) - (F 5)))) (((F 3) - (F 5)) - (min (k) ((F 3) - (F 5)))) (shG F m o))) T c l h) (I (sq F)) (pz_z 0 N (gfill w H (F 6) (F 5) ((F 5) + (min (k) ((F 3) - (F 5)))) (F 8 * 128 + 32) (gmoveCells w H (F 6) (F 5) ((F 5) + (min (k) ((F 3) - (F 5)))) (((F 3) - (F 5)) - (min (k) ((F 3) - (F 5)))) (shG F m o))))) n
  refine pw_h (scUS hA) ?_
  exact pw_vret dX7_insertCells_71 rfl (nle rfl) (nle rfl) ⟨rfl, rfl, rfl⟩
