def YX6_withColour : pw_Y := (RX6, "withColour", cX6_withColour, 2, (some .int))
theorem ywX6_withColour : pw_y yX6_withColour YX6_withColour 2 := ⟨by decide +kernel, by decide +kernel, by decide +kernel, pw_in 1068 (by decide +kernel) (by decide +kernel), pw_in 86 (by decide +kernel) (by decide +kernel)⟩
def YX6_withGround : pw_Y := (RX6, "withGround", cX6_withGround, 2, (some .int))
theorem ywX6_withGround : pw_y yX6_withGround YX6_withGround 2 := ⟨by decide +kernel, by decide +kernel, by decide +kernel, pw_in 1071 (by decide +kernel) (by decide +kernel), pw_in 86 (by decide +kernel) (by decide +kernel)⟩
theorem cwX6_159 : Cond.methodLink RX6 159 yX6_withColour ∈ pw_G ∧ Cond.static yX6_withColour ∈ pw_G := ⟨pw_in 1066 (by decide +kernel) (by decide +kernel), pw_in 1067 (by decide +kernel) (by decide +kernel)⟩
theorem cwX6_162 : Cond.methodLink RX6 162 yX6_withGround ∈ pw_G ∧ Cond.static yX6_withGround ∈ pw_G := ⟨pw_in 1069 (by decide +kernel) (by decide +kernel), pw_in 1070 (by decide +kernel) (by decide +kernel)⟩
def YX6_changedPen : pw_Y := (RX6, "changedPen", cX6_changedPen, 2, (some .int))
theorem ywX6_changedPen : pw_y yX6_changedPen YX6_changedPen 2 := ⟨by decide +kernel, by decide +kernel, by decide +kernel, pw_in 1065 (by decide +kernel) (by decide +kernel), pw_in 86 (by decide +kernel) (by decide +kernel)⟩
def YX6_reset : pw_Y := (RX6, "reset", cX6_reset, 1, none)
theorem ywX6_reset : pw_y yX6_reset YX6_reset 0 := ⟨by decide +kernel, by decide +kernel, by decide +kernel, pw_in 777 (by decide +kernel) (by decide +kernel), pw_in 86 (by decide +kernel) (by decide +kernel)⟩
theorem lkX6_17 : Cond.fieldLink RX6 17 (TX6 5).1 (TX6 5).2.1 (TX6 5).2.2.1 ∈ pw_G := pw_in 277 (by decide +kernel) (by decide +kernel)
def YX6_setInsertMode : pw_Y := (RX6, "setInsertMode", cX6_setInsertMode, 2, none)
theorem ywX6_setInsertMode : pw_y yX6_setInsertMode YX6_setInsertMode 1 := ⟨by decide +kernel, by decide +kernel, by decide +kernel, pw_in 1075 (by decide +kernel) (by decide +kernel), pw_in 86 (by decide +kernel) (by decide +kernel)⟩
theorem lkX6_9 : Cond.fieldLink RX6 9 (TX6 1).1 (TX6 1).2.1 (TX6 1).2.2.1 ∈ pw_G := pw_in 273 (by decide +kernel) (by decide +kernel)
theorem lkX6_13 : Cond.fieldLink RX6 13 (TX6 0).1 (TX6 0).2.1 (TX6 0).2.2.1 ∈ pw_G := pw_in 272 (by decide +kernel) (by decide +kernel)
theorem lkX6_150 : Cond.fieldLinkNest RX6 150 (TX7 14).1 (TX7 14).2.1 (TX7 14).2.2.1 "PaneHouse" ∈ pw_N := by decide +kernel
def YX6_takeDigit : pw_Y := (RX6, "takeDigit", cX6_takeDigit, 2, none)
theorem ywX6_takeDigit : pw_y yX6_takeDigit YX6_takeDigit 1 := ⟨by decide +kernel, by decide +kernel, by decide +kernel, pw_in 993 (by decide +kernel) (by decide +kernel), pw_in 86 (by decide +kernel) (by decide +kernel)⟩
theorem lkX6_74 : Cond.fieldLink RX6 74 (TX6 2).1 (TX6 2).2.1 (TX6 2).2.2.1 ∈ pw_G := pw_in 274 (by decide +kernel) (by decide +kernel)
theorem cwX6_83 : Cond.methodLink RX6 83 Lib.Math.min.name ∈ pw_G := pw_in 994 (by decide +kernel) (by decide +kernel)
theorem lkX6_77 : Cond.fieldLink RX6 77 (TX6 3).1 (TX6 3).2.1 (TX6 3).2.2.1 ∈ pw_G := pw_in 275 (by decide +kernel) (by decide +kernel)
def YX6_doAsked : pw_Y := (RX6, "doAsked", cX6_doAsked, 3, none)
theorem ywX6_doAsked : pw_y yX6_doAsked YX6_doAsked 1 := ⟨by decide +kernel, by decide +kernel, by decide +kernel, pw_in 1002 (by decide +kernel) (by decide +kernel), pw_in 86 (by decide +kernel) (by decide +kernel)⟩
theorem lkX6_101 : Cond.fieldLinkNest RX6 101 (TX7 15).1 (TX7 15).2.1 (TX7 15).2.2.1 "PaneHouse" ∈ pw_N := by decide +kernel
theorem lkX6_104 : Cond.fieldLinkNest RX6 104 (TX7 16).1 (TX7 16).2.1 (TX7 16).2.2.1 "PaneHouse" ∈ pw_N := by decide +kernel
theorem cwX6_107 : Cond.methodLink RX6 107 yX7_showOther ∈ pw_G ∧ Cond.instanceMethod yX7_showOther ∈ pw_G ∧ Cond.selects RX7 yX7_showOther yX7_showOther ∈ pw_G := ⟨pw_in 1003 (by decide +kernel) (by decide +kernel), pw_in 1004 (by decide +kernel) (by decide +kernel), pw_in 1005 (by decide +kernel) (by decide +kernel)⟩
theorem nX7_moveTo {E : pw_E} (htr : E.1.stackTraces = false) {h : pz_H} {n : Nat} {w H : Int} {N NH : Nat} {I : Nat → Nat} {s : zSt} (hG : geo w H N NH) (hA : zAt w H N NH I s h) (hO : zOk w H s) {a b : Int} (ha : -2147483648 ≤ a ∧ a < 2147483648) (hb : -2147483648 ≤ b ∧ b < 2147483648) : pw_M E yX7_moveTo YX7_moveTo (rmD 2 0 0) [.ref (I 0), .int (zI a), .int (zI b)] h n (fun r h' n' => r = none ∧ h' = zP w H N NH I (zMove a b s) h ∧ n' = n) (fun _ _ _ => False) := mX7_moveTo htr hG hA hO ha hb
theorem nX7_goToTab {E : pw_E} (htr : E.1.stackTraces = false) {h : pz_H} {n : Nat} {w H : Int} {N NH : Nat} {I : Nat → Nat} {s : zSt} (hG : geo w H N NH) (hA : zAt w H N NH I s h) (hO : zOk w H s)  : pw_M E yX7_goToTab YX7_goToTab (rmD 3 0 0) [.ref (I 0)] h n (fun r h' n' => r = none ∧ h' = zP w H N NH I (zMove ((s.1 5 / 8 + 1) * 8) (s.1 6) s) h ∧ n' = n) (fun _ _ _ => False) := mX7_goToTab htr hG hA hO 
theorem nX7_savePlace {E : pw_E} (htr : E.1.stackTraces = false) {h : pz_H} {n : Nat} {w H : Int} {N NH : Nat} {I : Nat → Nat} {s : zSt} (hG : geo w H N NH) (hA : zAt w H N NH I s h) (hO : zOk w H s)  : pw_M E yX7_savePlace YX7_savePlace (rmD 0 0 0) [.ref (I 0)] h n (fun r h' n' => r = none ∧ h' = zP w H N NH I (zSave s) h ∧ n' = n) (fun _ _ _ => False) := mX7_savePlace htr hG hA hO 
theorem nX7_takePlace {E : pw_E} (htr : E.1.stackTraces = false) {h : pz_H} {n : Nat} {w H : Int} {N NH : Nat} {I : Nat → Nat} {s : zSt} (hG : geo w H N NH) (hA : zAt w H N NH I s h) (hO : zOk w H s)  : pw_M E yX7_takePlace YX7_takePlace (rmD 3 0 0) [.ref (I 0)] h n (fun r h' n' => r = none ∧ h' = zP w H N NH I (zTake s) h ∧ n' = n) (fun _ _ _ => False) := mX7_takePlace htr hG hA hO 
theorem nX7_goDown {E : pw_E} (htr : E.1.stackTraces = false) {h : pz_H} {n : Nat} {w H : Int} {N NH : Nat} {I : Nat → Nat} {s : zSt} (hG : geo w H N NH) (hA : zAt w H N NH I s h) (hO : zOk w H s)  : pw_M E yX7_goDown YX7_goDown (rmD 6 0 0) [.ref (I 0)] h n (fun r h' n' => r = none ∧ h' = zP w H N NH I (zDown w H NH s) h ∧ n' = n) (fun _ _ _ => False) := mX7_goDown htr hG hA hO 
theorem nX7_goUp {E : pw_E} (htr : E.1.stackTraces = false) {h : pz_H} {n : Nat} {w H : Int} {N NH : Nat} {I : Nat → Nat} {s : zSt} (hG : geo w H N NH) (hA : zAt w H N NH I s h) (hO : zOk w H s)  : pw_M E yX7_goUp YX7_goUp (rmD 5 0 0) [.ref (I 0)] h n (fun r h' n' => r = none ∧ h' = zP w H N NH I (zUp w H s) h ∧ n' = n) (fun _ _ _ => False) := mX7_goUp htr hG hA hO 
theorem nX7_eraseCells {E : pw_E} (htr : E.1.stackTraces = false) {h : pz_H} {n : Nat} {w H : Int} {N NH : Nat} {I : Nat → Nat} {s : zSt} (hG : geo w H N NH) (hA : zAt w H N NH I s h) (hO : zOk w H s) {k : Int} (hk : 0 ≤ k ∧ k ≤ 1000) : pw_M E yX7_eraseCells YX7_eraseCells (rmD 3 0 0) [.ref (I 0), .int (zI k)] h n (fun r h' n' => r = none ∧ h' = zP w H N NH I (zEraCells w H k s) h ∧ n' = n) (fun _ _ _ => False) := mX7_eraseCells htr hG hA hO (by omega) hk
theorem nX7_insertCells {E : pw_E} (htr : E.1.stackTraces = false) {h : pz_H} {n : Nat} {w H : Int} {N NH : Nat} {I : Nat → Nat} {s : zSt} (hG : geo w H N NH) (hA : zAt w H N NH I s h) (hO : zOk w H s) {k : Int} (hk : 0 ≤ k ∧ k ≤ 1000) : pw_M E yX7_insertCells YX7_insertCells (rmD 3 0 0) [.ref (I 0), .int (zI k)] h n (fun r h' n' => r = none ∧ h' = zP w H N NH I (zInsCells w H k s) h ∧ n' = n) (fun _ _ _ => False) := mX7_insertCells htr hG hA hO (by omega) hk
theorem nX7_deleteCells {E : pw_E} (htr : E.1.stackTraces = false) {h : pz_H} {n : Nat} {w H : Int} {N NH : Nat} {I : Nat → Nat} {s : zSt} (hG : geo w H N NH) (hA : zAt w H N NH I s h) (hO : zOk w H s) {k : Int} (hk : 0 ≤ k ∧ k ≤ 1000) : pw_M E yX7_deleteCells YX7_deleteCells (rmD 3 0 0) [.ref (I 0), .int (zI k)] h n (fun r h' n' => r = none ∧ h' = zP w H N NH I (zDelCells w H k s) h ∧ n' = n) (fun _ _ _ => False) := mX7_deleteCells htr hG hA hO (by omega) hk
theorem nX7_scrollUp {E : pw_E} (htr : E.1.stackTraces = false) {h : pz_H} {n : Nat} {w H : Int} {N NH : Nat} {I : Nat → Nat} {s : zSt} (hG : geo w H N NH) (hA : zAt w H N NH I s h) (hO : zOk w H s) {k : Int} (hk : 0 ≤ k ∧ k ≤ 1000) : pw_M E yX7_scrollUp YX7_scrollUp (rmD 5 0 0) [.ref (I 0), .int (zI k)] h n (fun r h' n' => r = none ∧ h' = zP w H N NH I (zScrollUp w H NH k s) h ∧ n' = n) (fun _ _ _ => False) := mX7_scrollUp htr hG hA hO (by omega) hk
theorem nX7_scrollDown {E : pw_E} (htr : E.1.stackTraces = false) {h : pz_H} {n : Nat} {w H : Int} {N NH : Nat} {I : Nat → Nat} {s : zSt} (hG : geo w H N NH) (hA : zAt w H N NH I s h) (hO : zOk w H s) {k : Int} (hk : 0 ≤ k ∧ k ≤ 1000) : pw_M E yX7_scrollDown YX7_scrollDown (rmD 4 0 0) [.ref (I 0), .int (zI k)] h n (fun r h' n' => r = none ∧ h' = zP w H N NH I (zScrollDown w H k s) h ∧ n' = n) (fun _ _ _ => False) := mX7_scrollDown htr hG hA hO (by omega) hk
theorem nX7_insertRows {E : pw_E} (htr : E.1.stackTraces = false) {h : pz_H} {n : Nat} {w H : Int} {N NH : Nat} {I : Nat → Nat} {s : zSt} (hG : geo w H N NH) (hA : zAt w H N NH I s h) (hO : zOk w H s) {k : Int} (hk : 0 ≤ k ∧ k ≤ 1000) : pw_M E yX7_insertRows YX7_insertRows (rmD 4 0 0) [.ref (I 0), .int (zI k)] h n (fun r h' n' => r = none ∧ h' = zP w H N NH I (zInsRows w H k s) h ∧ n' = n) (fun _ _ _ => False) := mX7_insertRows htr hG hA hO (by omega) hk
theorem nX7_deleteRows {E : pw_E} (htr : E.1.stackTraces = false) {h : pz_H} {n : Nat} {w H : Int} {N NH : Nat} {I : Nat → Nat} {s : zSt} (hG : geo w H N NH) (hA : zAt w H N NH I s h) (hO : zOk w H s) {k : Int} (hk : 0 ≤ k ∧ k ≤ 1000) : pw_M E yX7_deleteRows YX7_deleteRows (rmD 4 0 0) [.ref (I 0), .int (zI k)] h n (fun r h' n' => r = none ∧ h' = zP w H N NH I (zDelRows w H k s) h ∧ n' = n) (fun _ _ _ => False) := mX7_deleteRows htr hG hA hO (by omega) hk
theorem nX7_erase {E : pw_E} (htr : E.1.stackTraces = false) {h : pz_H} {n : Nat} {w H : Int} {N NH : Nat} {I : Nat → Nat} {s : zSt} (hG : geo w H N NH) (hA : zAt w H N NH I s h) (hO : zOk w H s) {k : Int} (hk : 0 ≤ k ∧ k ≤ 1000) : pw_M E yX7_erase YX7_erase (rmD 4 0 0) [.ref (I 0), .int (zI k)] h n (fun r h' n' => r = none ∧ h' = zP w H N NH I (zErase w H k s) h ∧ n' = n) (fun _ _ _ => False) := mX7_erase htr hG hA hO (by omega) hk
theorem nX7_eraseInRow {E : pw_E} (htr : E.1.stackTraces = false) {h : pz_H} {n : Nat} {w H : Int} {N NH : Nat} {I : Nat → Nat} {s : zSt} (hG : geo w H N NH) (hA : zAt w H N NH I s h) (hO : zOk w H s) {k : Int} (hk : 0 ≤ k ∧ k ≤ 1000) : pw_M E yX7_eraseInRow YX7_eraseInRow (rmD 3 0 0) [.ref (I 0), .int (zI k)] h n (fun r h' n' => r = none ∧ h' = zP w H N NH I (zErow w H k s) h ∧ n' = n) (fun _ _ _ => False) := mX7_eraseInRow htr hG hA hO (by omega)
theorem nX7_setRegion {E : pw_E} (htr : E.1.stackTraces = false) {h : pz_H} {n : Nat} {w H : Int} {N NH : Nat} {I : Nat → Nat} {s : zSt} (hG : geo w H N NH) (hA : zAt w H N NH I s h) (hO : zOk w H s) {a b : Int} (ha : 1 ≤ a ∧ a ≤ 1000) (hb : 0 ≤ b ∧ b ≤ 1000) : pw_M E yX7_setRegion YX7_setRegion (rmD 3 0 0) [.ref (I 0), .int (zI a), .int (zI b)] h n (fun r h' n' => r = none ∧ h' = zP w H N NH I (zRegion a b s) h ∧ n' = n) (fun _ _ _ => False) := mX7_setRegion htr hG hA hO (by omega) (by omega) ha hb
theorem nX7_showOther {E : pw_E} (htr : E.1.stackTraces = false) {h : pz_H} {n : Nat} {w H : Int} {N NH : Nat} {I : Nat → Nat} {s : zSt} (hG : geo w H N NH) (hA : zAt w H N NH I s h) (hO : zOk w H s) {on : Int} (hon : 0 ≤ on ∧ on ≤ 1) : pw_M E yX7_showOther YX7_showOther (rmD 4 0 0) [.ref (I 0), .int (zI on)] h n (fun r h' n' => r = none ∧ h' = zP w H N NH I (zShow w H on s) h ∧ n' = n) (fun _ _ _ => False) := mX7_showOther htr hG hA hO (by omega) hon
theorem nX7_write {E : pw_E} (htr : E.1.stackTraces = false) {h : pz_H} {n : Nat} {w H : Int} {N NH : Nat} {I : Nat → Nat} {s : zSt} (hG : geo w H N NH) (hA : zAt w H N NH I s h) (hO : zOk w H s) {ch : Int} (hch : 0 ≤ ch ∧ ch ≤ 127) : pw_M E yX7_write YX7_write (rmD 7 0 0) [.ref (I 0), .int (zI ch)] h n (fun r h' n' => r = none ∧ h' = zP w H N NH I (zWrite w H NH ch s) h ∧ n' = n) (fun _ _ _ => False) := mX7_write htr hG hA hO (by omega) hch
theorem nX7_reset {E : pw_E} (htr : E.1.stackTraces = false) {h : pz_H} {n : Nat} {w H : Int} {N NH : Nat} {I : Nat → Nat} {s : zSt} (hG : geo w H N NH) (hA : zAt w H N NH I s h) (oT : hOk s.2.2.2.1) (o4 : 0 ≤ s.1 4 ∧ s.1 4 ≤ 1000) : pw_M E yX7_reset YX7_reset (rmD 4 0 0) [.ref (I 0)] h n (fun r h' n' => r = none ∧ h' = zP w H N NH I (zReset w H s) h ∧ n' = n) (fun _ _ _ => False) := mX7_reset htr hG hA oT o4
set_option maxHeartbeats 4000000 in
set_option maxRecDepth 100000 in
/-- mX6_withColour -/
theorem mX6_withColour {E : pw_E} (htr : E.1.stackTraces = false) {h : pz_H} {n : Nat} {p c : Int} (hp : 0 ≤ p ∧ p < 4096) (hc : 0 ≤ c ∧ c < 16) : pw_M E yX6_withColour YX6_withColour (rmD 0 0 0) [.int (zI p), .int (zI c)] h n (fun r h' n' => r = some (.int (zI (pCol p c))) ∧ h' = h ∧ n' = n) (fun _ _ _ => False) := by
  refine pw_M_of (lv := [some (.int (zI (p))), some (.int (zI (c)))]) (by decide) rfl rfl htr (nle rfl) rfl (fun L => ?_)
  refine pw_iload_n dX6_withColour_0 rfl ?_
  refine pw_sipush (v := zI (-241)) dX6_withColour_1 (by decide) ?_
  refine pw_iand dX6_withColour_4 ?_
  refine pw_iload_n dX6_withColour_5 rfl ?_
  refine pw_iconst (v := zI (4)) dX6_withColour_6 (by decide) ?_
  refine pw_ishl dX6_withColour_7 ?_
  refine pw_ior dX6_withColour_8 ?_
  rw [zCol hp hc]
  exact pw_iret dX6_withColour_9 rfl (nle rfl) (nle rfl) ⟨rfl, rfl, rfl⟩
set_option maxHeartbeats 4000000 in
set_option maxRecDepth 100000 in
/-- mX6_withGround -/
theorem mX6_withGround {E : pw_E} (htr : E.1.stackTraces = false) {h : pz_H} {n : Nat} {p c : Int} (hp : 0 ≤ p ∧ p < 4096) (hc : 0 ≤ c ∧ c < 16) : pw_M E yX6_withGround YX6_withGround (rmD 0 0 0) [.int (zI p), .int (zI c)] h n (fun r h' n' => r = some (.int (zI (pGnd p c))) ∧ h' = h ∧ n' = n) (fun _ _ _ => False) := by
  refine pw_M_of (lv := [some (.int (zI (p))), some (.int (zI (c)))]) (by decide) rfl rfl htr (nle rfl) rfl (fun L => ?_)
  refine pw_iload_n dX6_withGround_0 rfl ?_
  refine pw_sipush (v := zI (-3841)) dX6_withGround_1 (by decide) ?_
  refine pw_iand dX6_withGround_4 ?_
  refine pw_iload_n dX6_withGround_5 rfl ?_
  refine pw_bipush (v := zI (8)) dX6_withGround_6 (by decide) ?_
  refine pw_ishl dX6_withGround_8 ?_
  refine pw_ior dX6_withGround_9 ?_
  rw [zGnd hp hc]
  exact pw_iret dX6_withGround_10 rfl (nle rfl) (nle rfl) ⟨rfl, rfl, rfl⟩
set_option maxHeartbeats 4000000 in
set_option maxRecDepth 100000 in
/-- Reader.changedPen(p, c) -/
theorem mX6_changedPen {E : pw_E} (htr : E.1.stackTraces = false) {h : pz_H} {n : Nat} {p c : Int} (hp : 0 ≤ p ∧ p < 4096) (hc : 0 ≤ c ∧ c ≤ 999) : pw_M E yX6_changedPen YX6_changedPen (rmD 1 0 0) [.int (zI p), .int (zI c)] h n (fun r h' n' => r = some (.int (zI (pChg p c))) ∧ h' = h ∧ n' = n) (fun _ _ _ => False) := by
  refine pw_M_of (lv := [some (.int (zI (p))), some (.int (zI (c)))]) (by decide) rfl rfl htr (nle rfl) rfl (fun L => ?_)
  refine pw_iload_n dX6_changedPen_0 rfl ?_
  refine pw_bipush (v := zI (30)) dX6_changedPen_1 (by decide) ?_
  refine pw_icmp_lt (tgt := 21) dX6_changedPen_3 rfl (by omega) (by omega) (fun c3 => ?_) (fun c3 => ?_)
  ·
    refine pw_iload_n dX6_changedPen_21 rfl ?_
    refine pw_bipush (v := zI (40)) dX6_changedPen_22 (by decide) ?_
    refine pw_icmp_lt (tgt := 42) dX6_changedPen_24 rfl (by omega) (by omega) (fun c24 => ?_) (fun c24 => ?_)
    ·
      refine pw_iload_n dX6_changedPen_42 rfl ?_
      by_cases k43_0 : (0 : Int) = c
      ·
        refine pw_lookup (off := 81) (tgt := 124) dX6_changedPen_43 (by decide) (by omega) (by rw [← k43_0]; decide) rfl ?_
        refine pw_iconst (v := zI (0)) dX6_changedPen_124 (by decide) ?_
        refine pw_goto (tgt := 184) dX6_changedPen_125 rfl ?_
        exact pw_iret dX6_changedPen_184 rfl (nle rfl) (nle rfl) ⟨by unfold pChg; first | (exfalso; omega) | (repeat (first | rw [if_pos (by omega)] | rw [if_neg (by omega)])), rfl, rfl⟩
      by_cases k43_1 : (1 : Int) = c
      ·
        clear k43_0
        refine pw_lookup (off := 85) (tgt := 128) dX6_changedPen_43 (by decide) (by omega) (by rw [← k43_1]; decide) rfl ?_
        refine pw_iload_n dX6_changedPen_128 rfl ?_
        refine pw_iconst (v := zI (1)) dX6_changedPen_129 (by decide) ?_
        refine pw_ior dX6_changedPen_130 ?_
        rw [zOr1 hp]
        refine pw_goto (tgt := 184) dX6_changedPen_131 rfl ?_
        exact pw_iret dX6_changedPen_184 rfl (nle rfl) (nle rfl) ⟨by unfold pChg; first | (exfalso; omega) | (repeat (first | rw [if_pos (by omega)] | rw [if_neg (by omega)])), rfl, rfl⟩
      by_cases k43_4 : (4 : Int) = c
      ·
        clear k43_0 k43_1
        refine pw_lookup (off := 91) (tgt := 134) dX6_changedPen_43 (by decide) (by omega) (by rw [← k43_4]; decide) rfl ?_
        refine pw_iload_n dX6_changedPen_134 rfl ?_
        refine pw_iconst (v := zI (2)) dX6_changedPen_135 (by decide) ?_
        refine pw_ior dX6_changedPen_136 ?_
        rw [zOr2 hp]
        refine pw_goto (tgt := 184) dX6_changedPen_137 rfl ?_
        exact pw_iret dX6_changedPen_184 rfl (nle rfl) (nle rfl) ⟨by unfold pChg; first | (exfalso; omega) | (repeat (first | rw [if_pos (by omega)] | rw [if_neg (by omega)])), rfl, rfl⟩
      by_cases k43_7 : (7 : Int) = c
      ·
        clear k43_0 k43_1 k43_4
        refine pw_lookup (off := 97) (tgt := 140) dX6_changedPen_43 (by decide) (by omega) (by rw [← k43_7]; decide) rfl ?_
        refine pw_iload_n dX6_changedPen_140 rfl ?_
        refine pw_iconst (v := zI (4)) dX6_changedPen_141 (by decide) ?_
        refine pw_ior dX6_changedPen_142 ?_
        rw [zOr4 hp]
        refine pw_goto (tgt := 184) dX6_changedPen_143 rfl ?_
        exact pw_iret dX6_changedPen_184 rfl (nle rfl) (nle rfl) ⟨by unfold pChg; first | (exfalso; omega) | (repeat (first | rw [if_pos (by omega)] | rw [if_neg (by omega)])), rfl, rfl⟩
      by_cases k43_22 : (22 : Int) = c
      ·
        clear k43_0 k43_1 k43_4 k43_7
        refine pw_lookup (off := 103) (tgt := 146) dX6_changedPen_43 (by decide) (by omega) (by rw [← k43_22]; decide) rfl ?_
        refine pw_iload_n dX6_changedPen_146 rfl ?_
        refine pw_bipush (v := zI (-2)) dX6_changedPen_147 (by decide) ?_
        refine pw_iand dX6_changedPen_149 ?_
        rw [zAn1 hp]
        refine pw_goto (tgt := 184) dX6_changedPen_150 rfl ?_
        exact pw_iret dX6_changedPen_184 rfl (nle rfl) (nle rfl) ⟨by unfold pChg; first | (exfalso; omega) | (repeat (first | rw [if_pos (by omega)] | rw [if_neg (by omega)])), rfl, rfl⟩
      by_cases k43_24 : (24 : Int) = c
      ·
        clear k43_0 k43_1 k43_4 k43_7 k43_22
        refine pw_lookup (off := 110) (tgt := 153) dX6_changedPen_43 (by decide) (by omega) (by rw [← k43_24]; decide) rfl ?_
        refine pw_iload_n dX6_changedPen_153 rfl ?_
        refine pw_bipush (v := zI (-3)) dX6_changedPen_154 (by decide) ?_
        refine pw_iand dX6_changedPen_156 ?_
        rw [zAn2 hp]
        refine pw_goto (tgt := 184) dX6_changedPen_157 rfl ?_
        exact pw_iret dX6_changedPen_184 rfl (nle rfl) (nle rfl) ⟨by unfold pChg; first | (exfalso; omega) | (repeat (first | rw [if_pos (by omega)] | rw [if_neg (by omega)])), rfl, rfl⟩
      by_cases k43_27 : (27 : Int) = c
      ·
        clear k43_0 k43_1 k43_4 k43_7 k43_22 k43_24
        refine pw_lookup (off := 117) (tgt := 160) dX6_changedPen_43 (by decide) (by omega) (by rw [← k43_27]; decide) rfl ?_
        refine pw_iload_n dX6_changedPen_160 rfl ?_
        refine pw_bipush (v := zI (-5)) dX6_changedPen_161 (by decide) ?_
        refine pw_iand dX6_changedPen_163 ?_
        rw [zAn4 hp]
        refine pw_goto (tgt := 184) dX6_changedPen_164 rfl ?_
        exact pw_iret dX6_changedPen_184 rfl (nle rfl) (nle rfl) ⟨by unfold pChg; first | (exfalso; omega) | (repeat (first | rw [if_pos (by omega)] | rw [if_neg (by omega)])), rfl, rfl⟩
      by_cases k43_39 : (39 : Int) = c
      ·
        clear k43_0 k43_1 k43_4 k43_7 k43_22 k43_24 k43_27
        refine pw_lookup (off := 124) (tgt := 167) dX6_changedPen_43 (by decide) (by omega) (by rw [← k43_39]; decide) rfl ?_
        refine pw_iload_n dX6_changedPen_167 rfl ?_
        refine pw_iconst (v := zI (0)) dX6_changedPen_168 (by decide) ?_
        refine pw_callS (As := [.int (zI (p)), .int (zI (0))]) (rm := rmD 0 0 0) (mX6_withColour htr hp (by omega)) rfl ywX6_withColour rfl cwX6_159 ⟨nle rfl, nle rfl⟩ (nle rfl) ⟨nle rfl, nle rfl⟩ dX6_changedPen_169 ?_ (fun _ _ _ z => z.elim)
        intro r2 h2 n2 hq _
        rw [hq.1, hq.2.1, hq.2.2]
        show pw E YX6_changedPen _ _ 0 0 172 [some (.int (zI (p))), some (.int (zI (c)))] [.int (zI (pCol p (0)))] h n
        refine pw_goto (tgt := 184) dX6_changedPen_172 rfl ?_
        exact pw_iret dX6_changedPen_184 rfl (nle rfl) (nle rfl) ⟨by unfold pChg; first | (exfalso; omega) | (repeat (first | rw [if_pos (by omega)] | rw [if_neg (by omega)])), rfl, rfl⟩
      by_cases k43_49 : (49 : Int) = c
      ·
        clear k43_0 k43_1 k43_4 k43_7 k43_22 k43_24 k43_27 k43_39
        refine pw_lookup (off := 132) (tgt := 175) dX6_changedPen_43 (by decide) (by omega) (by rw [← k43_49]; decide) rfl ?_
        refine pw_iload_n dX6_changedPen_175 rfl ?_
        refine pw_iconst (v := zI (0)) dX6_changedPen_176 (by decide) ?_
        refine pw_callS (As := [.int (zI (p)), .int (zI (0))]) (rm := rmD 0 0 0) (mX6_withGround htr hp (by omega)) rfl ywX6_withGround rfl cwX6_162 ⟨nle rfl, nle rfl⟩ (nle rfl) ⟨nle rfl, nle rfl⟩ dX6_changedPen_177 ?_ (fun _ _ _ z => z.elim)
        intro r2 h2 n2 hq _
        rw [hq.1, hq.2.1, hq.2.2]
        show pw E YX6_changedPen _ _ 0 0 180 [some (.int (zI (p))), some (.int (zI (c)))] [.int (zI (pGnd p (0)))] h n
        refine pw_goto (tgt := 184) dX6_changedPen_180 rfl ?_
        exact pw_iret dX6_changedPen_184 rfl (nle rfl) (nle rfl) ⟨by unfold pChg; first | (exfalso; omega) | (repeat (first | rw [if_pos (by omega)] | rw [if_neg (by omega)])), rfl, rfl⟩
      refine pw_lookup (off := 140) (tgt := 183) dX6_changedPen_43 (by decide) (by omega) (by show Op.lookupswitch.offset [(0, 81), (1, 85), (4, 91), (7, 97), (22, 103), (24, 110), (27, 117), (39, 124), (49, 132)] 140 (c) = 140; simp only [Op.lookupswitch.offset_cons, Op.lookupswitch.offset_nil, if_neg k43_0, if_neg k43_1, if_neg k43_4, if_neg k43_7, if_neg k43_22, if_neg k43_24, if_neg k43_27, if_neg k43_39, if_neg k43_49]) rfl ?_
      refine pw_iload_n dX6_changedPen_183 rfl ?_
      exact pw_iret dX6_changedPen_184 rfl (nle rfl) (nle rfl) ⟨by unfold pChg; first | (exfalso; omega) | (repeat (first | rw [if_pos (by omega)] | rw [if_neg (by omega)])), rfl, rfl⟩
    ·
      refine pw_iload_n dX6_changedPen_27 rfl ?_
      refine pw_bipush (v := zI (47)) dX6_changedPen_28 (by decide) ?_
      refine pw_icmp_gt (tgt := 42) dX6_changedPen_30 rfl (by omega) (by omega) (fun c30 => ?_) (fun c30 => ?_)
      ·
        refine pw_iload_n dX6_changedPen_42 rfl ?_
        by_cases k43_0 : (0 : Int) = c
        ·
          refine pw_lookup (off := 81) (tgt := 124) dX6_changedPen_43 (by decide) (by omega) (by rw [← k43_0]; decide) rfl ?_
          refine pw_iconst (v := zI (0)) dX6_changedPen_124 (by decide) ?_
          refine pw_goto (tgt := 184) dX6_changedPen_125 rfl ?_
          exact pw_iret dX6_changedPen_184 rfl (nle rfl) (nle rfl) ⟨by unfold pChg; first | (exfalso; omega) | (repeat (first | rw [if_pos (by omega)] | rw [if_neg (by omega)])), rfl, rfl⟩
        by_cases k43_1 : (1 : Int) = c
        ·
          clear k43_0
          refine pw_lookup (off := 85) (tgt := 128) dX6_changedPen_43 (by decide) (by omega) (by rw [← k43_1]; decide) rfl ?_
          refine pw_iload_n dX6_changedPen_128 rfl ?_
          refine pw_iconst (v := zI (1)) dX6_changedPen_129 (by decide) ?_
          refine pw_ior dX6_changedPen_130 ?_
          rw [zOr1 hp]
          refine pw_goto (tgt := 184) dX6_changedPen_131 rfl ?_
          exact pw_iret dX6_changedPen_184 rfl (nle rfl) (nle rfl) ⟨by unfold pChg; first | (exfalso; omega) | (repeat (first | rw [if_pos (by omega)] | rw [if_neg (by omega)])), rfl, rfl⟩
        by_cases k43_4 : (4 : Int) = c
        ·
          clear k43_0 k43_1
          refine pw_lookup (off := 91) (tgt := 134) dX6_changedPen_43 (by decide) (by omega) (by rw [← k43_4]; decide) rfl ?_
          refine pw_iload_n dX6_changedPen_134 rfl ?_
          refine pw_iconst (v := zI (2)) dX6_changedPen_135 (by decide) ?_
          refine pw_ior dX6_changedPen_136 ?_
          rw [zOr2 hp]
          refine pw_goto (tgt := 184) dX6_changedPen_137 rfl ?_
          exact pw_iret dX6_changedPen_184 rfl (nle rfl) (nle rfl) ⟨by unfold pChg; first | (exfalso; omega) | (repeat (first | rw [if_pos (by omega)] | rw [if_neg (by omega)])), rfl, rfl⟩
        by_cases k43_7 : (7 : Int) = c
        ·
          clear k43_0 k43_1 k43_4
          refine pw_lookup (off := 97) (tgt := 140) dX6_changedPen_43 (by decide) (by omega) (by rw [← k43_7]; decide) rfl ?_
          refine pw_iload_n dX6_changedPen_140 rfl ?_
          refine pw_iconst (v := zI (4)) dX6_changedPen_141 (by decide) ?_
          refine pw_ior dX6_changedPen_142 ?_
          rw [zOr4 hp]
          refine pw_goto (tgt := 184) dX6_changedPen_143 rfl ?_
          exact pw_iret dX6_changedPen_184 rfl (nle rfl) (nle rfl) ⟨by unfold pChg; first | (exfalso; omega) | (repeat (first | rw [if_pos (by omega)] | rw [if_neg (by omega)])), rfl, rfl⟩
        by_cases k43_22 : (22 : Int) = c
        ·
          clear k43_0 k43_1 k43_4 k43_7
          refine pw_lookup (off := 103) (tgt := 146) dX6_changedPen_43 (by decide) (by omega) (by rw [← k43_22]; decide) rfl ?_
          refine pw_iload_n dX6_changedPen_146 rfl ?_
          refine pw_bipush (v := zI (-2)) dX6_changedPen_147 (by decide) ?_
          refine pw_iand dX6_changedPen_149 ?_
          rw [zAn1 hp]
          refine pw_goto (tgt := 184) dX6_changedPen_150 rfl ?_
          exact pw_iret dX6_changedPen_184 rfl (nle rfl) (nle rfl) ⟨by unfold pChg; first | (exfalso; omega) | (repeat (first | rw [if_pos (by omega)] | rw [if_neg (by omega)])), rfl, rfl⟩
        by_cases k43_24 : (24 : Int) = c
        ·
          clear k43_0 k43_1 k43_4 k43_7 k43_22
          refine pw_lookup (off := 110) (tgt := 153) dX6_changedPen_43 (by decide) (by omega) (by rw [← k43_24]; decide) rfl ?_
          refine pw_iload_n dX6_changedPen_153 rfl ?_
          refine pw_bipush (v := zI (-3)) dX6_changedPen_154 (by decide) ?_
          refine pw_iand dX6_changedPen_156 ?_
          rw [zAn2 hp]
          refine pw_goto (tgt := 184) dX6_changedPen_157 rfl ?_
          exact pw_iret dX6_changedPen_184 rfl (nle rfl) (nle rfl) ⟨by unfold pChg; first | (exfalso; omega) | (repeat (first | rw [if_pos (by omega)] | rw [if_neg (by omega)])), rfl, rfl⟩
        by_cases k43_27 : (27 : Int) = c
        ·
          clear k43_0 k43_1 k43_4 k43_7 k43_22 k43_24
          refine pw_lookup (off := 117) (tgt := 160) dX6_changedPen_43 (by decide) (by omega) (by rw [← k43_27]; decide) rfl ?_
          refine pw_iload_n dX6_changedPen_160 rfl ?_
          refine pw_bipush (v := zI (-5)) dX6_changedPen_161 (by decide) ?_
          refine pw_iand dX6_changedPen_163 ?_
          rw [zAn4 hp]
          refine pw_goto (tgt := 184) dX6_changedPen_164 rfl ?_
          exact pw_iret dX6_changedPen_184 rfl (nle rfl) (nle rfl) ⟨by unfold pChg; first | (exfalso; omega) | (repeat (first | rw [if_pos (by omega)] | rw [if_neg (by omega)])), rfl, rfl⟩
        by_cases k43_39 : (39 : Int) = c
        ·
          clear k43_0 k43_1 k43_4 k43_7 k43_22 k43_24 k43_27
          refine pw_lookup (off := 124) (tgt := 167) dX6_changedPen_43 (by decide) (by omega) (by rw [← k43_39]; decide) rfl ?_
          refine pw_iload_n dX6_changedPen_167 rfl ?_
          refine pw_iconst (v := zI (0)) dX6_changedPen_168 (by decide) ?_
          refine pw_callS (As := [.int (zI (p)), .int (zI (0))]) (rm := rmD 0 0 0) (mX6_withColour htr hp (by omega)) rfl ywX6_withColour rfl cwX6_159 ⟨nle rfl, nle rfl⟩ (nle rfl) ⟨nle rfl, nle rfl⟩ dX6_changedPen_169 ?_ (fun _ _ _ z => z.elim)
          intro r2 h2 n2 hq _
          rw [hq.1, hq.2.1, hq.2.2]
          show pw E YX6_changedPen _ _ 0 0 172 [some (.int (zI (p))), some (.int (zI (c)))] [.int (zI (pCol p (0)))] h n
          refine pw_goto (tgt := 184) dX6_changedPen_172 rfl ?_
          exact pw_iret dX6_changedPen_184 rfl (nle rfl) (nle rfl) ⟨by unfold pChg; first | (exfalso; omega) | (repeat (first | rw [if_pos (by omega)] | rw [if_neg (by omega)])), rfl, rfl⟩
        by_cases k43_49 : (49 : Int) = c
        ·
          clear k43_0 k43_1 k43_4 k43_7 k43_22 k43_24 k43_27 k43_39
          refine pw_lookup (off := 132) (tgt := 175) dX6_changedPen_43 (by decide) (by omega) (by rw [← k43_49]; decide) rfl ?_
          refine pw_iload_n dX6_changedPen_175 rfl ?_
          refine pw_iconst (v := zI (0)) dX6_changedPen_176 (by decide) ?_
          refine pw_callS (As := [.int (zI (p)), .int (zI (0))]) (rm := rmD 0 0 0) (mX6_withGround htr hp (by omega)) rfl ywX6_withGround rfl cwX6_162 ⟨nle rfl, nle rfl⟩ (nle rfl) ⟨nle rfl, nle rfl⟩ dX6_changedPen_177 ?_ (fun _ _ _ z => z.elim)
          intro r2 h2 n2 hq _
          rw [hq.1, hq.2.1, hq.2.2]
          show pw E YX6_changedPen _ _ 0 0 180 [some (.int (zI (p))), some (.int (zI (c)))] [.int (zI (pGnd p (0)))] h n
          refine pw_goto (tgt := 184) dX6_changedPen_180 rfl ?_
          exact pw_iret dX6_changedPen_184 rfl (nle rfl) (nle rfl) ⟨by unfold pChg; first | (exfalso; omega) | (repeat (first | rw [if_pos (by omega)] | rw [if_neg (by omega)])), rfl, rfl⟩
        refine pw_lookup (off := 140) (tgt := 183) dX6_changedPen_43 (by decide) (by omega) (by show Op.lookupswitch.offset [(0, 81), (1, 85), (4, 91), (7, 97), (22, 103), (24, 110), (27, 117), (39, 124), (49, 132)] 140 (c) = 140; simp only [Op.lookupswitch.offset_cons, Op.lookupswitch.offset_nil, if_neg k43_0, if_neg k43_1, if_neg k43_4, if_neg k43_7, if_neg k43_22, if_neg k43_24, if_neg k43_27, if_neg k43_39, if_neg k43_49]) rfl ?_
        refine pw_iload_n dX6_changedPen_183 rfl ?_
        exact pw_iret dX6_changedPen_184 rfl (nle rfl) (nle rfl) ⟨by unfold pChg; first | (exfalso; omega) | (repeat (first | rw [if_pos (by omega)] | rw [if_neg (by omega)])), rfl, rfl⟩
      ·
        refine pw_iload_n dX6_changedPen_33 rfl ?_
        refine pw_iload_n dX6_changedPen_34 rfl ?_
        refine pw_bipush (v := zI (39)) dX6_changedPen_35 (by decide) ?_
        refine pw_zisub dX6_changedPen_37 ?_
        refine pw_callS (As := [.int (zI (p)), .int (zI (c - 39))]) (rm := rmD 0 0 0) (mX6_withGround htr hp (by omega)) rfl ywX6_withGround rfl cwX6_162 ⟨nle rfl, nle rfl⟩ (nle rfl) ⟨nle rfl, nle rfl⟩ dX6_changedPen_38 ?_ (fun _ _ _ z => z.elim)
        intro r2 h2 n2 hq _
        rw [hq.1, hq.2.1, hq.2.2]
        show pw E YX6_changedPen _ _ 0 0 41 [some (.int (zI (p))), some (.int (zI (c)))] [.int (zI (pGnd p (c - 39)))] h n
        exact pw_iret dX6_changedPen_41 rfl (nle rfl) (nle rfl) ⟨by unfold pChg; first | (exfalso; omega) | (repeat (first | rw [if_pos (by omega)] | rw [if_neg (by omega)])), rfl, rfl⟩
  ·
    refine pw_iload_n dX6_changedPen_6 rfl ?_
    refine pw_bipush (v := zI (37)) dX6_changedPen_7 (by decide) ?_
    refine pw_icmp_gt (tgt := 21) dX6_changedPen_9 rfl (by omega) (by omega) (fun c9 => ?_) (fun c9 => ?_)
    ·
      refine pw_iload_n dX6_changedPen_21 rfl ?_
      refine pw_bipush (v := zI (40)) dX6_changedPen_22 (by decide) ?_
      refine pw_icmp_lt (tgt := 42) dX6_changedPen_24 rfl (by omega) (by omega) (fun c24 => ?_) (fun c24 => ?_)
      ·
        refine pw_iload_n dX6_changedPen_42 rfl ?_
        by_cases k43_0 : (0 : Int) = c
        ·
          refine pw_lookup (off := 81) (tgt := 124) dX6_changedPen_43 (by decide) (by omega) (by rw [← k43_0]; decide) rfl ?_
          refine pw_iconst (v := zI (0)) dX6_changedPen_124 (by decide) ?_
          refine pw_goto (tgt := 184) dX6_changedPen_125 rfl ?_
          exact pw_iret dX6_changedPen_184 rfl (nle rfl) (nle rfl) ⟨by unfold pChg; first | (exfalso; omega) | (repeat (first | rw [if_pos (by omega)] | rw [if_neg (by omega)])), rfl, rfl⟩
        by_cases k43_1 : (1 : Int) = c
        ·
          clear k43_0
          refine pw_lookup (off := 85) (tgt := 128) dX6_changedPen_43 (by decide) (by omega) (by rw [← k43_1]; decide) rfl ?_
          refine pw_iload_n dX6_changedPen_128 rfl ?_
          refine pw_iconst (v := zI (1)) dX6_changedPen_129 (by decide) ?_
          refine pw_ior dX6_changedPen_130 ?_
          rw [zOr1 hp]
          refine pw_goto (tgt := 184) dX6_changedPen_131 rfl ?_
          exact pw_iret dX6_changedPen_184 rfl (nle rfl) (nle rfl) ⟨by unfold pChg; first | (exfalso; omega) | (repeat (first | rw [if_pos (by omega)] | rw [if_neg (by omega)])), rfl, rfl⟩
        by_cases k43_4 : (4 : Int) = c
        ·
          clear k43_0 k43_1
          refine pw_lookup (off := 91) (tgt := 134) dX6_changedPen_43 (by decide) (by omega) (by rw [← k43_4]; decide) rfl ?_
          refine pw_iload_n dX6_changedPen_134 rfl ?_
          refine pw_iconst (v := zI (2)) dX6_changedPen_135 (by decide) ?_
          refine pw_ior dX6_changedPen_136 ?_
          rw [zOr2 hp]
          refine pw_goto (tgt := 184) dX6_changedPen_137 rfl ?_
          exact pw_iret dX6_changedPen_184 rfl (nle rfl) (nle rfl) ⟨by unfold pChg; first | (exfalso; omega) | (repeat (first | rw [if_pos (by omega)] | rw [if_neg (by omega)])), rfl, rfl⟩
        by_cases k43_7 : (7 : Int) = c
        ·
          clear k43_0 k43_1 k43_4
          refine pw_lookup (off := 97) (tgt := 140) dX6_changedPen_43 (by decide) (by omega) (by rw [← k43_7]; decide) rfl ?_
          refine pw_iload_n dX6_changedPen_140 rfl ?_
          refine pw_iconst (v := zI (4)) dX6_changedPen_141 (by decide) ?_
          refine pw_ior dX6_changedPen_142 ?_
          rw [zOr4 hp]
          refine pw_goto (tgt := 184) dX6_changedPen_143 rfl ?_
          exact pw_iret dX6_changedPen_184 rfl (nle rfl) (nle rfl) ⟨by unfold pChg; first | (exfalso; omega) | (repeat (first | rw [if_pos (by omega)] | rw [if_neg (by omega)])), rfl, rfl⟩
        by_cases k43_22 : (22 : Int) = c
        ·
          clear k43_0 k43_1 k43_4 k43_7
          refine pw_lookup (off := 103) (tgt := 146) dX6_changedPen_43 (by decide) (by omega) (by rw [← k43_22]; decide) rfl ?_
          refine pw_iload_n dX6_changedPen_146 rfl ?_
          refine pw_bipush (v := zI (-2)) dX6_changedPen_147 (by decide) ?_
          refine pw_iand dX6_changedPen_149 ?_
          rw [zAn1 hp]
          refine pw_goto (tgt := 184) dX6_changedPen_150 rfl ?_
          exact pw_iret dX6_changedPen_184 rfl (nle rfl) (nle rfl) ⟨by unfold pChg; first | (exfalso; omega) | (repeat (first | rw [if_pos (by omega)] | rw [if_neg (by omega)])), rfl, rfl⟩
        by_cases k43_24 : (24 : Int) = c
        ·
          clear k43_0 k43_1 k43_4 k43_7 k43_22
          refine pw_lookup (off := 110) (tgt := 153) dX6_changedPen_43 (by decide) (by omega) (by rw [← k43_24]; decide) rfl ?_
          refine pw_iload_n dX6_changedPen_153 rfl ?_
          refine pw_bipush (v := zI (-3)) dX6_changedPen_154 (by decide) ?_
          refine pw_iand dX6_changedPen_156 ?_
          rw [zAn2 hp]
          refine pw_goto (tgt := 184) dX6_changedPen_157 rfl ?_
          exact pw_iret dX6_changedPen_184 rfl (nle rfl) (nle rfl) ⟨by unfold pChg; first | (exfalso; omega) | (repeat (first | rw [if_pos (by omega)] | rw [if_neg (by omega)])), rfl, rfl⟩
        by_cases k43_27 : (27 : Int) = c
        ·
          clear k43_0 k43_1 k43_4 k43_7 k43_22 k43_24
          refine pw_lookup (off := 117) (tgt := 160) dX6_changedPen_43 (by decide) (by omega) (by rw [← k43_27]; decide) rfl ?_
          refine pw_iload_n dX6_changedPen_160 rfl ?_
          refine pw_bipush (v := zI (-5)) dX6_changedPen_161 (by decide) ?_
          refine pw_iand dX6_changedPen_163 ?_
          rw [zAn4 hp]
          refine pw_goto (tgt := 184) dX6_changedPen_164 rfl ?_
          exact pw_iret dX6_changedPen_184 rfl (nle rfl) (nle rfl) ⟨by unfold pChg; first | (exfalso; omega) | (repeat (first | rw [if_pos (by omega)] | rw [if_neg (by omega)])), rfl, rfl⟩
        by_cases k43_39 : (39 : Int) = c
        ·
          clear k43_0 k43_1 k43_4 k43_7 k43_22 k43_24 k43_27
          refine pw_lookup (off := 124) (tgt := 167) dX6_changedPen_43 (by decide) (by omega) (by rw [← k43_39]; decide) rfl ?_
          refine pw_iload_n dX6_changedPen_167 rfl ?_
          refine pw_iconst (v := zI (0)) dX6_changedPen_168 (by decide) ?_
          refine pw_callS (As := [.int (zI (p)), .int (zI (0))]) (rm := rmD 0 0 0) (mX6_withColour htr hp (by omega)) rfl ywX6_withColour rfl cwX6_159 ⟨nle rfl, nle rfl⟩ (nle rfl) ⟨nle rfl, nle rfl⟩ dX6_changedPen_169 ?_ (fun _ _ _ z => z.elim)
          intro r2 h2 n2 hq _
          rw [hq.1, hq.2.1, hq.2.2]
          show pw E YX6_changedPen _ _ 0 0 172 [some (.int (zI (p))), some (.int (zI (c)))] [.int (zI (pCol p (0)))] h n
          refine pw_goto (tgt := 184) dX6_changedPen_172 rfl ?_
          exact pw_iret dX6_changedPen_184 rfl (nle rfl) (nle rfl) ⟨by unfold pChg; first | (exfalso; omega) | (repeat (first | rw [if_pos (by omega)] | rw [if_neg (by omega)])), rfl, rfl⟩
        by_cases k43_49 : (49 : Int) = c
        ·
          clear k43_0 k43_1 k43_4 k43_7 k43_22 k43_24 k43_27 k43_39
          refine pw_lookup (off := 132) (tgt := 175) dX6_changedPen_43 (by decide) (by omega) (by rw [← k43_49]; decide) rfl ?_
          refine pw_iload_n dX6_changedPen_175 rfl ?_
          refine pw_iconst (v := zI (0)) dX6_changedPen_176 (by decide) ?_
          refine pw_callS (As := [.int (zI (p)), .int (zI (0))]) (rm := rmD 0 0 0) (mX6_withGround htr hp (by omega)) rfl ywX6_withGround rfl cwX6_162 ⟨nle rfl, nle rfl⟩ (nle rfl) ⟨nle rfl, nle rfl⟩ dX6_changedPen_177 ?_ (fun _ _ _ z => z.elim)
          intro r2 h2 n2 hq _
          rw [hq.1, hq.2.1, hq.2.2]
          show pw E YX6_changedPen _ _ 0 0 180 [some (.int (zI (p))), some (.int (zI (c)))] [.int (zI (pGnd p (0)))] h n
          refine pw_goto (tgt := 184) dX6_changedPen_180 rfl ?_
          exact pw_iret dX6_changedPen_184 rfl (nle rfl) (nle rfl) ⟨by unfold pChg; first | (exfalso; omega) | (repeat (first | rw [if_pos (by omega)] | rw [if_neg (by omega)])), rfl, rfl⟩
        refine pw_lookup (off := 140) (tgt := 183) dX6_changedPen_43 (by decide) (by omega) (by show Op.lookupswitch.offset [(0, 81), (1, 85), (4, 91), (7, 97), (22, 103), (24, 110), (27, 117), (39, 124), (49, 132)] 140 (c) = 140; simp only [Op.lookupswitch.offset_cons, Op.lookupswitch.offset_nil, if_neg k43_0, if_neg k43_1, if_neg k43_4, if_neg k43_7, if_neg k43_22, if_neg k43_24, if_neg k43_27, if_neg k43_39, if_neg k43_49]) rfl ?_
        refine pw_iload_n dX6_changedPen_183 rfl ?_
        exact pw_iret dX6_changedPen_184 rfl (nle rfl) (nle rfl) ⟨by unfold pChg; first | (exfalso; omega) | (repeat (first | rw [if_pos (by omega)] | rw [if_neg (by omega)])), rfl, rfl⟩
      ·
        refine pw_iload_n dX6_changedPen_27 rfl ?_
        refine pw_bipush (v := zI (47)) dX6_changedPen_28 (by decide) ?_
        refine pw_icmp_gt (tgt := 42) dX6_changedPen_30 rfl (by omega) (by omega) (fun c30 => ?_) (fun c30 => ?_)
        ·
          refine pw_iload_n dX6_changedPen_42 rfl ?_
          by_cases k43_0 : (0 : Int) = c
          ·
            refine pw_lookup (off := 81) (tgt := 124) dX6_changedPen_43 (by decide) (by omega) (by rw [← k43_0]; decide) rfl ?_
            refine pw_iconst (v := zI (0)) dX6_changedPen_124 (by decide) ?_
            refine pw_goto (tgt := 184) dX6_changedPen_125 rfl ?_
            exact pw_iret dX6_changedPen_184 rfl (nle rfl) (nle rfl) ⟨by unfold pChg; first | (exfalso; omega) | (repeat (first | rw [if_pos (by omega)] | rw [if_neg (by omega)])), rfl, rfl⟩
          by_cases k43_1 : (1 : Int) = c
          ·
            clear k43_0
            refine pw_lookup (off := 85) (tgt := 128) dX6_changedPen_43 (by decide) (by omega) (by rw [← k43_1]; decide) rfl ?_
            refine pw_iload_n dX6_changedPen_128 rfl ?_
            refine pw_iconst (v := zI (1)) dX6_changedPen_129 (by decide) ?_
            refine pw_ior dX6_changedPen_130 ?_
            rw [zOr1 hp]
            refine pw_goto (tgt := 184) dX6_changedPen_131 rfl ?_
            exact pw_iret dX6_changedPen_184 rfl (nle rfl) (nle rfl) ⟨by unfold pChg; first | (exfalso; omega) | (repeat (first | rw [if_pos (by omega)] | rw [if_neg (by omega)])), rfl, rfl⟩
          by_cases k43_4 : (4 : Int) = c
          ·
            clear k43_0 k43_1
            refine pw_lookup (off := 91) (tgt := 134) dX6_changedPen_43 (by decide) (by omega) (by rw [← k43_4]; decide) rfl ?_
            refine pw_iload_n dX6_changedPen_134 rfl ?_
            refine pw_iconst (v := zI (2)) dX6_changedPen_135 (by decide) ?_
            refine pw_ior dX6_changedPen_136 ?_
            rw [zOr2 hp]
            refine pw_goto (tgt := 184) dX6_changedPen_137 rfl ?_
            exact pw_iret dX6_changedPen_184 rfl (nle rfl) (nle rfl) ⟨by unfold pChg; first | (exfalso; omega) | (repeat (first | rw [if_pos (by omega)] | rw [if_neg (by omega)])), rfl, rfl⟩
          by_cases k43_7 : (7 : Int) = c
          ·
            clear k43_0 k43_1 k43_4
            refine pw_lookup (off := 97) (tgt := 140) dX6_changedPen_43 (by decide) (by omega) (by rw [← k43_7]; decide) rfl ?_
            refine pw_iload_n dX6_changedPen_140 rfl ?_
            refine pw_iconst (v := zI (4)) dX6_changedPen_141 (by decide) ?_
            refine pw_ior dX6_changedPen_142 ?_
            rw [zOr4 hp]
            refine pw_goto (tgt := 184) dX6_changedPen_143 rfl ?_
            exact pw_iret dX6_changedPen_184 rfl (nle rfl) (nle rfl) ⟨by unfold pChg; first | (exfalso; omega) | (repeat (first | rw [if_pos (by omega)] | rw [if_neg (by omega)])), rfl, rfl⟩
          by_cases k43_22 : (22 : Int) = c
          ·
            clear k43_0 k43_1 k43_4 k43_7
            refine pw_lookup (off := 103) (tgt := 146) dX6_changedPen_43 (by decide) (by omega) (by rw [← k43_22]; decide) rfl ?_
            refine pw_iload_n dX6_changedPen_146 rfl ?_
            refine pw_bipush (v := zI (-2)) dX6_changedPen_147 (by decide) ?_
            refine pw_iand dX6_changedPen_149 ?_
            rw [zAn1 hp]
            refine pw_goto (tgt := 184) dX6_changedPen_150 rfl ?_
            exact pw_iret dX6_changedPen_184 rfl (nle rfl) (nle rfl) ⟨by unfold pChg; first | (exfalso; omega) | (repeat (first | rw [if_pos (by omega)] | rw [if_neg (by omega)])), rfl, rfl⟩
          by_cases k43_24 : (24 : Int) = c
          ·
            clear k43_0 k43_1 k43_4 k43_7 k43_22
            refine pw_lookup (off := 110) (tgt := 153) dX6_changedPen_43 (by decide) (by omega) (by rw [← k43_24]; decide) rfl ?_
            refine pw_iload_n dX6_changedPen_153 rfl ?_
            refine pw_bipush (v := zI (-3)) dX6_changedPen_154 (by decide) ?_
            refine pw_iand dX6_changedPen_156 ?_
            rw [zAn2 hp]
            refine pw_goto (tgt := 184) dX6_changedPen_157 rfl ?_
            exact pw_iret dX6_changedPen_184 rfl (nle rfl) (nle rfl) ⟨by unfold pChg; first | (exfalso; omega) | (repeat (first | rw [if_pos (by omega)] | rw [if_neg (by omega)])), rfl, rfl⟩
          by_cases k43_27 : (27 : Int) = c
          ·
            clear k43_0 k43_1 k43_4 k43_7 k43_22 k43_24
            refine pw_lookup (off := 117) (tgt := 160) dX6_changedPen_43 (by decide) (by omega) (by rw [← k43_27]; decide) rfl ?_
            refine pw_iload_n dX6_changedPen_160 rfl ?_
            refine pw_bipush (v := zI (-5)) dX6_changedPen_161 (by decide) ?_
            refine pw_iand dX6_changedPen_163 ?_
            rw [zAn4 hp]
            refine pw_goto (tgt := 184) dX6_changedPen_164 rfl ?_
            exact pw_iret dX6_changedPen_184 rfl (nle rfl) (nle rfl) ⟨by unfold pChg; first | (exfalso; omega) | (repeat (first | rw [if_pos (by omega)] | rw [if_neg (by omega)])), rfl, rfl⟩
          by_cases k43_39 : (39 : Int) = c
          ·
            clear k43_0 k43_1 k43_4 k43_7 k43_22 k43_24 k43_27
            refine pw_lookup (off := 124) (tgt := 167) dX6_changedPen_43 (by decide) (by omega) (by rw [← k43_39]; decide) rfl ?_
            refine pw_iload_n dX6_changedPen_167 rfl ?_
            refine pw_iconst (v := zI (0)) dX6_changedPen_168 (by decide) ?_
            refine pw_callS (As := [.int (zI (p)), .int (zI (0))]) (rm := rmD 0 0 0) (mX6_withColour htr hp (by omega)) rfl ywX6_withColour rfl cwX6_159 ⟨nle rfl, nle rfl⟩ (nle rfl) ⟨nle rfl, nle rfl⟩ dX6_changedPen_169 ?_ (fun _ _ _ z => z.elim)
            intro r2 h2 n2 hq _
            rw [hq.1, hq.2.1, hq.2.2]
            show pw E YX6_changedPen _ _ 0 0 172 [some (.int (zI (p))), some (.int (zI (c)))] [.int (zI (pCol p (0)))] h n
            refine pw_goto (tgt := 184) dX6_changedPen_172 rfl ?_
            exact pw_iret dX6_changedPen_184 rfl (nle rfl) (nle rfl) ⟨by unfold pChg; first | (exfalso; omega) | (repeat (first | rw [if_pos (by omega)] | rw [if_neg (by omega)])), rfl, rfl⟩
          by_cases k43_49 : (49 : Int) = c
          ·
            clear k43_0 k43_1 k43_4 k43_7 k43_22 k43_24 k43_27 k43_39
            refine pw_lookup (off := 132) (tgt := 175) dX6_changedPen_43 (by decide) (by omega) (by rw [← k43_49]; decide) rfl ?_
            refine pw_iload_n dX6_changedPen_175 rfl ?_
            refine pw_iconst (v := zI (0)) dX6_changedPen_176 (by decide) ?_
            refine pw_callS (As := [.int (zI (p)), .int (zI (0))]) (rm := rmD 0 0 0) (mX6_withGround htr hp (by omega)) rfl ywX6_withGround rfl cwX6_162 ⟨nle rfl, nle rfl⟩ (nle rfl) ⟨nle rfl, nle rfl⟩ dX6_changedPen_177 ?_ (fun _ _ _ z => z.elim)
            intro r2 h2 n2 hq _
            rw [hq.1, hq.2.1, hq.2.2]
            show pw E YX6_changedPen _ _ 0 0 180 [some (.int (zI (p))), some (.int (zI (c)))] [.int (zI (pGnd p (0)))] h n
            refine pw_goto (tgt := 184) dX6_changedPen_180 rfl ?_
            exact pw_iret dX6_changedPen_184 rfl (nle rfl) (nle rfl) ⟨by unfold pChg; first | (exfalso; omega) | (repeat (first | rw [if_pos (by omega)] | rw [if_neg (by omega)])), rfl, rfl⟩
          refine pw_lookup (off := 140) (tgt := 183) dX6_changedPen_43 (by decide) (by omega) (by show Op.lookupswitch.offset [(0, 81), (1, 85), (4, 91), (7, 97), (22, 103), (24, 110), (27, 117), (39, 124), (49, 132)] 140 (c) = 140; simp only [Op.lookupswitch.offset_cons, Op.lookupswitch.offset_nil, if_neg k43_0, if_neg k43_1, if_neg k43_4, if_neg k43_7, if_neg k43_22, if_neg k43_24, if_neg k43_27, if_neg k43_39, if_neg k43_49]) rfl ?_
          refine pw_iload_n dX6_changedPen_183 rfl ?_
          exact pw_iret dX6_changedPen_184 rfl (nle rfl) (nle rfl) ⟨by unfold pChg; first | (exfalso; omega) | (repeat (first | rw [if_pos (by omega)] | rw [if_neg (by omega)])), rfl, rfl⟩
        ·
          refine pw_iload_n dX6_changedPen_33 rfl ?_
          refine pw_iload_n dX6_changedPen_34 rfl ?_
          refine pw_bipush (v := zI (39)) dX6_changedPen_35 (by decide) ?_
          refine pw_zisub dX6_changedPen_37 ?_
          refine pw_callS (As := [.int (zI (p)), .int (zI (c - 39))]) (rm := rmD 0 0 0) (mX6_withGround htr hp (by omega)) rfl ywX6_withGround rfl cwX6_162 ⟨nle rfl, nle rfl⟩ (nle rfl) ⟨nle rfl, nle rfl⟩ dX6_changedPen_38 ?_ (fun _ _ _ z => z.elim)
          intro r2 h2 n2 hq _
          rw [hq.1, hq.2.1, hq.2.2]
          show pw E YX6_changedPen _ _ 0 0 41 [some (.int (zI (p))), some (.int (zI (c)))] [.int (zI (pGnd p (c - 39)))] h n
          exact pw_iret dX6_changedPen_41 rfl (nle rfl) (nle rfl) ⟨by unfold pChg; first | (exfalso; omega) | (repeat (first | rw [if_pos (by omega)] | rw [if_neg (by omega)])), rfl, rfl⟩
    ·
      refine pw_iload_n dX6_changedPen_12 rfl ?_
      refine pw_iload_n dX6_changedPen_13 rfl ?_
      refine pw_bipush (v := zI (29)) dX6_changedPen_14 (by decide) ?_
      refine pw_zisub dX6_changedPen_16 ?_
      refine pw_callS (As := [.int (zI (p)), .int (zI (c - 29))]) (rm := rmD 0 0 0) (mX6_withColour htr hp (by omega)) rfl ywX6_withColour rfl cwX6_159 ⟨nle rfl, nle rfl⟩ (nle rfl) ⟨nle rfl, nle rfl⟩ dX6_changedPen_17 ?_ (fun _ _ _ z => z.elim)
      intro r2 h2 n2 hq _
      rw [hq.1, hq.2.1, hq.2.2]
      show pw E YX6_changedPen _ _ 0 0 20 [some (.int (zI (p))), some (.int (zI (c)))] [.int (zI (pCol p (c - 29)))] h n
      exact pw_iret dX6_changedPen_20 rfl (nle rfl) (nle rfl) ⟨by unfold pChg; first | (exfalso; omega) | (repeat (first | rw [if_pos (by omega)] | rw [if_neg (by omega)])), rfl, rfl⟩
set_option maxHeartbeats 4000000 in
set_option maxRecDepth 100000 in
/-- Reader.reset() -/
theorem mX6_reset {E : pw_E} (htr : E.1.stackTraces = false) {h : pz_H} {n : Nat} {w H : Int} {N NH : Nat} {I J : Nat → Nat} {s : zSt} {R q : Nat → Int} (hG : geo w H N NH) (hA : rAt w H N NH I J s R q h) (hO : rOk w H s R q) : pw_M E yX6_reset YX6_reset (rmD 0 0 0) [.ref (J 0)] h n (fun r h' n' => r = none ∧ h' = rP w H N NH I J s (va_up R 5 0) q h ∧ n' = n) (fun _ _ _ => False) := by
  have hG0 := hG
  have hO0 := hO
  obtain ⟨gw, gH, gN, gN2, gNH⟩ := hG
  obtain ⟨hz, r2, r3, r4, r5, hq⟩ := hO
  have hz0 := hz
  obtain ⟨o3, o4, o5, o6, o7, o8, o9, o10, o11, o12, o14, o15, o16, o17, oT3, oT4⟩ := hz
  have q0 := hq 0
  have q1 := hq 1
  refine pw_M_of (lv := [some (.ref (J 0))]) (by decide) rfl rfl htr (nle rfl) rfl (fun L => ?_)
  refine pw_h (rP_id hA).symm ?_
  refine pw_aload_n dX6_reset_0 rfl ?_
  refine pw_iconst (v := zI (0)) dX6_reset_1 (by decide) ?_
  refine pw_put (fs' := (rdObj I J (va_up R 5 (0)))) okX6 (k := 5) (by decide) lkX6_17 rfl rfl rfl (rAt_put hA).2.1 (nlt rfl) rfl dX6_reset_2 ?_
  refine pw_h rU0 ?_
  exact pw_vret dX6_reset_5 rfl (nle rfl) (nle rfl) ⟨rfl, rfl, rfl⟩
set_option maxHeartbeats 4000000 in
set_option maxRecDepth 100000 in
/-- Reader.setInsertMode(on) -/
theorem mX6_setInsertMode {E : pw_E} (htr : E.1.stackTraces = false) {h : pz_H} {n : Nat} {w H : Int} {N NH : Nat} {I J : Nat → Nat} {s : zSt} {R q : Nat → Int} (hG : geo w H N NH) (hA : rAt w H N NH I J s R q h) (hO : rOk w H s R q) {on : Int} (hon : 0 ≤ on ∧ on ≤ 1) : pw_M E yX6_setInsertMode YX6_setInsertMode (rmD 0 0 0) [.ref (J 0), .int (zI (on))] h n (fun r h' n' => r = none ∧ h' = rP w H N NH I J (if q 0 = 4 then zSet 14 on s else s) R q h ∧ n' = n) (fun _ _ _ => False) := by
  have hG0 := hG
  have hO0 := hO
  obtain ⟨gw, gH, gN, gN2, gNH⟩ := hG
  obtain ⟨hz, r2, r3, r4, r5, hq⟩ := hO
  have hz0 := hz
  obtain ⟨o3, o4, o5, o6, o7, o8, o9, o10, o11, o12, o14, o15, o16, o17, oT3, oT4⟩ := hz
  have q0 := hq 0
  have q1 := hq 1
  refine pw_M_of (lv := [some (.ref (J 0)), some (.int (zI (on)))]) (by decide) rfl rfl htr (nle rfl) rfl (fun L => ?_)
  refine pw_h (rP_id hA).symm ?_
  refine pw_aload_n dX6_setInsertMode_0 rfl ?_
  refine pw_get (v := .ref (J 1)) okX6 (k := 1) (by decide) lkX6_9 (rAt_put hA).2.1 rfl dX6_setInsertMode_1 ?_
  refine pw_iconst (v := zI (0)) dX6_setInsertMode_4 (by decide) ?_
  refine pw_ialdv (v := q 0) (t := 0) rfl (rAt_put hA).2.2.1 (by omega) (by omega) rfl dX6_setInsertMode_5 ?_
  refine pw_iconst (v := zI (4)) dX6_setInsertMode_6 (by decide) ?_
  refine pw_icmp_ne (tgt := 18) dX6_setInsertMode_7 rfl (by omega) (by omega) (fun c7 => ?_) (fun c7 => ?_)
  ·
    exact pw_vret dX6_setInsertMode_18 rfl (nle rfl) (nle rfl) ⟨rfl, by first | (exfalso; omega) | (repeat (first | rw [if_pos (by omega)] | rw [if_neg (by omega)])), rfl⟩
  ·
    refine pw_aload_n dX6_setInsertMode_10 rfl ?_
    refine pw_get (v := .ref (I 0)) okX6 (k := 0) (by decide) lkX6_13 (rAt_put hA).2.1 rfl dX6_setInsertMode_11 ?_
    refine pw_iload_n dX6_setInsertMode_14 rfl ?_
    refine pw_putN (fs' := (scObj I (va_up s.1 14 (on)))) okX7 (k := 14) (by decide) lkX6_150 rfl (zb_nar (by omega)) (zb_fit (by omega)) (rAt_put hA).1.1.1 (nlt rfl) rfl dX6_setInsertMode_15 ?_
    refine pw_h (h' := rP w H N NH I J (zSet 14 (on) s) R q h) (rUF hA) ?_
    exact pw_vret dX6_setInsertMode_18 rfl (nle rfl) (nle rfl) ⟨rfl, by first | (exfalso; omega) | (repeat (first | rw [if_pos (by omega)] | rw [if_neg (by omega)])), rfl⟩
set_option maxHeartbeats 4000000 in
set_option maxRecDepth 100000 in
/-- Reader.takeDigit(d) -/
theorem mX6_takeDigit {E : pw_E} (htr : E.1.stackTraces = false) {h : pz_H} {n : Nat} {w H : Int} {N NH : Nat} {I J : Nat → Nat} {s : zSt} {R q : Nat → Int} (hG : geo w H N NH) (hA : rAt w H N NH I J s R q h) (hO : rOk w H s R q) {d : Int} (hd : 0 ≤ d ∧ d ≤ 9) : pw_M E yX6_takeDigit YX6_takeDigit (rmD 1 0 0) [.ref (J 0), .int (zI (d))] h n (fun r h' n' => r = none ∧ h' = rP w H N NH I J s (rDigitR R) (rDigit R q d) h ∧ n' = n) (fun _ _ _ => False) := by
  have hG0 := hG
  have hO0 := hO
  obtain ⟨gw, gH, gN, gN2, gNH⟩ := hG
  obtain ⟨hz, r2, r3, r4, r5, hq⟩ := hO
  have hz0 := hz
  obtain ⟨o3, o4, o5, o6, o7, o8, o9, o10, o11, o12, o14, o15, o16, o17, oT3, oT4⟩ := hz
  have q0 := hq 0
  have q1 := hq 1
  refine pw_M_of (lv := [some (.ref (J 0)), some (.int (zI (d)))]) (by decide) rfl rfl htr (nle rfl) rfl (fun L => ?_)
  refine pw_h (rP_id hA).symm ?_
  refine pw_aload_n dX6_takeDigit_0 rfl ?_
  refine pw_get (v := .int (zI (R 2))) okX6 (k := 2) (by decide) lkX6_74 (rAt_put hA).2.1 rfl dX6_takeDigit_1 ?_
  refine pw_iconst (v := zI (4)) dX6_takeDigit_4 (by decide) ?_
  refine pw_icmp_ge (tgt := 42) dX6_takeDigit_5 rfl (by omega) (by omega) (fun c5 => ?_) (fun c5 => ?_)
  ·
    exact pw_vret dX6_takeDigit_42 rfl (nle rfl) (nle rfl) ⟨rfl, by unfold rDigitR rDigit; first | (exfalso; omega) | (repeat (first | rw [if_pos (by omega)] | rw [if_neg (by omega)])), rfl⟩
  ·
    refine pw_aload_n dX6_takeDigit_8 rfl ?_
    refine pw_get (v := .ref (J 1)) okX6 (k := 1) (by decide) lkX6_9 (rAt_put hA).2.1 rfl dX6_takeDigit_9 ?_
    refine pw_aload_n dX6_takeDigit_12 rfl ?_
    refine pw_get (v := .int (zI (R 2))) okX6 (k := 2) (by decide) lkX6_74 (rAt_put hA).2.1 rfl dX6_takeDigit_13 ?_
    refine pw_sipush (v := zI (999)) dX6_takeDigit_16 (by decide) ?_
    refine pw_aload_n dX6_takeDigit_19 rfl ?_
    refine pw_get (v := .ref (J 1)) okX6 (k := 1) (by decide) lkX6_9 (rAt_put hA).2.1 rfl dX6_takeDigit_20 ?_
    refine pw_aload_n dX6_takeDigit_23 rfl ?_
    refine pw_get (v := .int (zI (R 2))) okX6 (k := 2) (by decide) lkX6_74 (rAt_put hA).2.1 rfl dX6_takeDigit_24 ?_
    refine pw_iald (t := 0) rfl (rAt_put hA).2.2.1 (by omega) (by omega) dX6_takeDigit_27 ?_
    have qq := hq (R 2).toNat
    refine pw_bipush (v := zI (10)) dX6_takeDigit_28 (by decide) ?_
    refine pw_zimul dX6_takeDigit_30 ?_
    refine pw_iload_n dX6_takeDigit_31 rfl ?_
    refine pw_ziadd dX6_takeDigit_32 ?_
    refine pw_min cwX6_83 dX6_takeDigit_33 (by omega) (by omega) ⟨nle rfl, nle rfl⟩ ⟨nle rfl, nle rfl⟩ ?_
    refine pw_iast (t := 0) rfl (rAt_put hA).2.2.1 (by omega) (by omega) dX6_takeDigit_36 ?_
    refine pw_h (rU1 hA) ?_
    refine pw_aload_n dX6_takeDigit_37 rfl ?_
    refine pw_iconst (v := zI (1)) dX6_takeDigit_38 (by decide) ?_
    refine pw_put (fs' := (rdObj I J (va_up R 3 (1)))) okX6 (k := 3) (by decide) lkX6_77 rfl (by decide) (by decide) (rAt_put hA).2.1 (nlt rfl) rfl dX6_takeDigit_39 ?_
    refine pw_h rU0 ?_
    exact pw_vret dX6_takeDigit_42 rfl (nle rfl) (nle rfl) ⟨rfl, by unfold rDigitR rDigit; first | (exfalso; omega) | (repeat (first | rw [if_pos (by omega)] | rw [if_neg (by omega)])), rfl⟩
set_option maxHeartbeats 4000000 in
set_option maxRecDepth 100000 in
/-- Reader.doAsked(b) -/
theorem mX6_doAsked {E : pw_E} (htr : E.1.stackTraces = false) {h : pz_H} {n : Nat} {w H : Int} {N NH : Nat} {I J : Nat → Nat} {s : zSt} {R q : Nat → Int} (hG : geo w H N NH) (hA : rAt w H N NH I J s R q h) (hO : rOk w H s R q) {b : Int} (hb : 64 ≤ b ∧ b ≤ 126) : pw_M E yX6_doAsked YX6_doAsked (rmD 5 0 0) [.ref (J 0), .int (zI (b))] h n (fun r h' n' => r = none ∧ h' = rP w H N NH I J (zAsked w H b q s) R q h ∧ n' = n) (fun _ _ _ => False) := by
  have hG0 := hG
  have hO0 := hO
  obtain ⟨gw, gH, gN, gN2, gNH⟩ := hG
  obtain ⟨hz, r2, r3, r4, r5, hq⟩ := hO
  have hz0 := hz
  obtain ⟨o3, o4, o5, o6, o7, o8, o9, o10, o11, o12, o14, o15, o16, o17, oT3, oT4⟩ := hz
  have q0 := hq 0
  have q1 := hq 1
  refine pw_M_of (lv := [some (.ref (J 0)), some (.int (zI (b))), none]) (by decide) rfl rfl htr (nle rfl) rfl (fun L => ?_)
  refine pw_h (rP_id hA).symm ?_
  refine pw_iload_n dX6_doAsked_0 rfl ?_
  refine pw_bipush (v := zI (104)) dX6_doAsked_1 (by decide) ?_
  refine pw_icmp_eq (tgt := 13) dX6_doAsked_3 rfl (by omega) (by omega) (fun c3 => ?_) (fun c3 => ?_)
  ·
    refine pw_iload_n dX6_doAsked_13 rfl ?_
    refine pw_bipush (v := zI (104)) dX6_doAsked_14 (by decide) ?_
    refine pw_icmp_ne (tgt := 23) dX6_doAsked_16 rfl (by omega) (by omega) (fun c16 => ?_) (fun c16 => ?_)
    ·
      refine pw_iconst (v := zI (0)) dX6_doAsked_23 (by decide) ?_
      refine pw_istore_n (lv' := [some (.ref (J 0)), some (.int (zI (b))), some (.int (zI (0)))]) dX6_doAsked_24 (by decide) rfl rfl ?_
      refine pw_aload_n dX6_doAsked_25 rfl ?_
      refine pw_get (v := .ref (J 1)) okX6 (k := 1) (by decide) lkX6_9 (rAt_put hA).2.1 rfl dX6_doAsked_26 ?_
      refine pw_iconst (v := zI (0)) dX6_doAsked_29 (by decide) ?_
      refine pw_ialdv (v := q 0) (t := 0) rfl (rAt_put hA).2.2.1 (by omega) (by omega) rfl dX6_doAsked_30 ?_
      by_cases k31_7 : (7 : Int) = q 0
      ·
        refine pw_lookup (off := 33) (tgt := 64) dX6_doAsked_31 (by decide) (by omega) (by rw [← k31_7]; decide) rfl ?_
        refine pw_aload_n dX6_doAsked_64 rfl ?_
        refine pw_get (v := .ref (I 0)) okX6 (k := 0) (by decide) lkX6_13 (rAt_put hA).2.1 rfl dX6_doAsked_65 ?_
        refine pw_iload_n dX6_doAsked_68 rfl ?_
        refine pw_putN (fs' := (scObj I (va_up s.1 15 (0)))) okX7 (k := 15) (by decide) lkX6_101 rfl (zb_nar (by omega)) (zb_fit (by omega)) (rAt_put hA).1.1.1 (nlt rfl) rfl dX6_doAsked_69 ?_
        refine pw_h (h' := rP w H N NH I J (zSet 15 (0) s) R q h) (rUF hA) ?_
        refine pw_goto (tgt := 97) dX6_doAsked_72 rfl ?_
        exact pw_vret dX6_doAsked_97 rfl (nle rfl) (nle rfl) ⟨rfl, by unfold zAsked; first | (exfalso; omega) | (repeat (first | rw [if_pos (by omega)] | rw [if_neg (by omega)])), rfl⟩
      by_cases k31_25 : (25 : Int) = q 0
      ·
        clear k31_7
        refine pw_lookup (off := 44) (tgt := 75) dX6_doAsked_31 (by decide) (by omega) (by rw [← k31_25]; decide) rfl ?_
        refine pw_aload_n dX6_doAsked_75 rfl ?_
        refine pw_get (v := .ref (I 0)) okX6 (k := 0) (by decide) lkX6_13 (rAt_put hA).2.1 rfl dX6_doAsked_76 ?_
        refine pw_iload_n dX6_doAsked_79 rfl ?_
        refine pw_putN (fs' := (scObj I (va_up s.1 16 (0)))) okX7 (k := 16) (by decide) lkX6_104 rfl (zb_nar (by omega)) (zb_fit (by omega)) (rAt_put hA).1.1.1 (nlt rfl) rfl dX6_doAsked_80 ?_
        refine pw_h (h' := rP w H N NH I J (zSet 16 (0) s) R q h) (rUF hA) ?_
        refine pw_goto (tgt := 97) dX6_doAsked_83 rfl ?_
        exact pw_vret dX6_doAsked_97 rfl (nle rfl) (nle rfl) ⟨rfl, by unfold zAsked; first | (exfalso; omega) | (repeat (first | rw [if_pos (by omega)] | rw [if_neg (by omega)])), rfl⟩
      by_cases k31_47 : (47 : Int) = q 0
      ·
        clear k31_7 k31_25
        refine pw_lookup (off := 55) (tgt := 86) dX6_doAsked_31 (by decide) (by omega) (by rw [← k31_47]; decide) rfl ?_
        refine pw_aload_n dX6_doAsked_86 rfl ?_
        refine pw_get (v := .ref (I 0)) okX6 (k := 0) (by decide) lkX6_13 (rAt_put hA).2.1 rfl dX6_doAsked_87 ?_
        refine pw_iload_n dX6_doAsked_90 rfl ?_
        refine pw_callV (As := [.int (zI (0))]) (b := (I 0)) (rm := rmD 4 0 0) (nX7_showOther htr hG0 (rAt_put hA).1 hz0 (by omega)) rfl (rAt_put hA).1.1.1 rfl rfl ywX7_showOther rfl cwX6_107 ⟨nle rfl, nle rfl⟩ (nle rfl) ⟨nle rfl, nle rfl⟩ dX6_doAsked_91 ?_ (fun _ _ _ z => z.elim)
        intro r2 h2 n2 hq _
        rw [hq.1, hq.2.1, hq.2.2]
        show pw E YX6_doAsked _ _ 0 0 94 [some (.ref (J 0)), some (.int (zI (b))), some (.int (zI (0)))] [] (zP w H N NH I (zShow w H (0) s) (rP w H N NH I J s R q h)) n
        refine pw_h (zP_rP hA) ?_
        refine pw_goto (tgt := 97) dX6_doAsked_94 rfl ?_
        exact pw_vret dX6_doAsked_97 rfl (nle rfl) (nle rfl) ⟨rfl, by unfold zAsked; first | (exfalso; omega) | (repeat (first | rw [if_pos (by omega)] | rw [if_neg (by omega)])), rfl⟩
      refine pw_lookup (off := 66) (tgt := 97) dX6_doAsked_31 (by decide) (by omega) (by show Op.lookupswitch.offset [(7, 33), (25, 44), (47, 55)] 66 (q 0) = 66; simp only [Op.lookupswitch.offset_cons, Op.lookupswitch.offset_nil, if_neg k31_7, if_neg k31_25, if_neg k31_47]) rfl ?_
      exact pw_vret dX6_doAsked_97 rfl (nle rfl) (nle rfl) ⟨rfl, by unfold zAsked; first | (exfalso; omega) | (repeat (first | rw [if_pos (by omega)] | rw [if_neg (by omega)])), rfl⟩
    ·
      refine pw_iconst (v := zI (1)) dX6_doAsked_19 (by decide) ?_
      refine pw_goto (tgt := 24) dX6_doAsked_20 rfl ?_
      refine pw_istore_n (lv' := [some (.ref (J 0)), some (.int (zI (b))), some (.int (zI (1)))]) dX6_doAsked_24 (by decide) rfl rfl ?_
      refine pw_aload_n dX6_doAsked_25 rfl ?_
      refine pw_get (v := .ref (J 1)) okX6 (k := 1) (by decide) lkX6_9 (rAt_put hA).2.1 rfl dX6_doAsked_26 ?_
      refine pw_iconst (v := zI (0)) dX6_doAsked_29 (by decide) ?_
      refine pw_ialdv (v := q 0) (t := 0) rfl (rAt_put hA).2.2.1 (by omega) (by omega) rfl dX6_doAsked_30 ?_
      by_cases k31_7 : (7 : Int) = q 0
      ·
        refine pw_lookup (off := 33) (tgt := 64) dX6_doAsked_31 (by decide) (by omega) (by rw [← k31_7]; decide) rfl ?_
        refine pw_aload_n dX6_doAsked_64 rfl ?_
        refine pw_get (v := .ref (I 0)) okX6 (k := 0) (by decide) lkX6_13 (rAt_put hA).2.1 rfl dX6_doAsked_65 ?_
        refine pw_iload_n dX6_doAsked_68 rfl ?_
        refine pw_putN (fs' := (scObj I (va_up s.1 15 (1)))) okX7 (k := 15) (by decide) lkX6_101 rfl (zb_nar (by omega)) (zb_fit (by omega)) (rAt_put hA).1.1.1 (nlt rfl) rfl dX6_doAsked_69 ?_
        refine pw_h (h' := rP w H N NH I J (zSet 15 (1) s) R q h) (rUF hA) ?_
        refine pw_goto (tgt := 97) dX6_doAsked_72 rfl ?_
        exact pw_vret dX6_doAsked_97 rfl (nle rfl) (nle rfl) ⟨rfl, by unfold zAsked; first | (exfalso; omega) | (repeat (first | rw [if_pos (by omega)] | rw [if_neg (by omega)])), rfl⟩
      by_cases k31_25 : (25 : Int) = q 0
      ·
        clear k31_7
        refine pw_lookup (off := 44) (tgt := 75) dX6_doAsked_31 (by decide) (by omega) (by rw [← k31_25]; decide) rfl ?_
        refine pw_aload_n dX6_doAsked_75 rfl ?_
        refine pw_get (v := .ref (I 0)) okX6 (k := 0) (by decide) lkX6_13 (rAt_put hA).2.1 rfl dX6_doAsked_76 ?_
        refine pw_iload_n dX6_doAsked_79 rfl ?_
        refine pw_putN (fs' := (scObj I (va_up s.1 16 (1)))) okX7 (k := 16) (by decide) lkX6_104 rfl (zb_nar (by omega)) (zb_fit (by omega)) (rAt_put hA).1.1.1 (nlt rfl) rfl dX6_doAsked_80 ?_
        refine pw_h (h' := rP w H N NH I J (zSet 16 (1) s) R q h) (rUF hA) ?_
        refine pw_goto (tgt := 97) dX6_doAsked_83 rfl ?_
        exact pw_vret dX6_doAsked_97 rfl (nle rfl) (nle rfl) ⟨rfl, by unfold zAsked; first | (exfalso; omega) | (repeat (first | rw [if_pos (by omega)] | rw [if_neg (by omega)])), rfl⟩
      by_cases k31_47 : (47 : Int) = q 0
      ·
        clear k31_7 k31_25
        refine pw_lookup (off := 55) (tgt := 86) dX6_doAsked_31 (by decide) (by omega) (by rw [← k31_47]; decide) rfl ?_
        refine pw_aload_n dX6_doAsked_86 rfl ?_
        refine pw_get (v := .ref (I 0)) okX6 (k := 0) (by decide) lkX6_13 (rAt_put hA).2.1 rfl dX6_doAsked_87 ?_
        refine pw_iload_n dX6_doAsked_90 rfl ?_
        refine pw_callV (As := [.int (zI (1))]) (b := (I 0)) (rm := rmD 4 0 0) (nX7_showOther htr hG0 (rAt_put hA).1 hz0 (by omega)) rfl (rAt_put hA).1.1.1 rfl rfl ywX7_showOther rfl cwX6_107 ⟨nle rfl, nle rfl⟩ (nle rfl) ⟨nle rfl, nle rfl⟩ dX6_doAsked_91 ?_ (fun _ _ _ z => z.elim)
        intro r2 h2 n2 hq _
        rw [hq.1, hq.2.1, hq.2.2]
        show pw E YX6_doAsked _ _ 0 0 94 [some (.ref (J 0)), some (.int (zI (b))), some (.int (zI (1)))] [] (zP w H N NH I (zShow w H (1) s) (rP w H N NH I J s R q h)) n
        refine pw_h (zP_rP hA) ?_
        refine pw_goto (tgt := 97) dX6_doAsked_94 rfl ?_
        exact pw_vret dX6_doAsked_97 rfl (nle rfl) (nle rfl) ⟨rfl, by unfold zAsked; first | (exfalso; omega) | (repeat (first | rw [if_pos (by omega)] | rw [if_neg (by omega)])), rfl⟩
      refine pw_lookup (off := 66) (tgt := 97) dX6_doAsked_31 (by decide) (by omega) (by show Op.lookupswitch.offset [(7, 33), (25, 44), (47, 55)] 66 (q 0) = 66; simp only [Op.lookupswitch.offset_cons, Op.lookupswitch.offset_nil, if_neg k31_7, if_neg k31_25, if_neg k31_47]) rfl ?_
      exact pw_vret dX6_doAsked_97 rfl (nle rfl) (nle rfl) ⟨rfl, by unfold zAsked; first | (exfalso; omega) | (repeat (first | rw [if_pos (by omega)] | rw [if_neg (by omega)])), rfl⟩
  ·
    refine pw_iload_n dX6_doAsked_6 rfl ?_
    refine pw_bipush (v := zI (108)) dX6_doAsked_7 (by decide) ?_
    refine pw_icmp_eq (tgt := 13) dX6_doAsked_9 rfl (by omega) (by omega) (fun c9 => ?_) (fun c9 => ?_)
    ·
      refine pw_iload_n dX6_doAsked_13 rfl ?_
      refine pw_bipush (v := zI (104)) dX6_doAsked_14 (by decide) ?_
      refine pw_icmp_ne (tgt := 23) dX6_doAsked_16 rfl (by omega) (by omega) (fun c16 => ?_) (fun c16 => ?_)
      ·
        refine pw_iconst (v := zI (0)) dX6_doAsked_23 (by decide) ?_
        refine pw_istore_n (lv' := [some (.ref (J 0)), some (.int (zI (b))), some (.int (zI (0)))]) dX6_doAsked_24 (by decide) rfl rfl ?_
        refine pw_aload_n dX6_doAsked_25 rfl ?_
        refine pw_get (v := .ref (J 1)) okX6 (k := 1) (by decide) lkX6_9 (rAt_put hA).2.1 rfl dX6_doAsked_26 ?_
        refine pw_iconst (v := zI (0)) dX6_doAsked_29 (by decide) ?_
        refine pw_ialdv (v := q 0) (t := 0) rfl (rAt_put hA).2.2.1 (by omega) (by omega) rfl dX6_doAsked_30 ?_
        by_cases k31_7 : (7 : Int) = q 0
        ·
          refine pw_lookup (off := 33) (tgt := 64) dX6_doAsked_31 (by decide) (by omega) (by rw [← k31_7]; decide) rfl ?_
          refine pw_aload_n dX6_doAsked_64 rfl ?_
          refine pw_get (v := .ref (I 0)) okX6 (k := 0) (by decide) lkX6_13 (rAt_put hA).2.1 rfl dX6_doAsked_65 ?_
          refine pw_iload_n dX6_doAsked_68 rfl ?_
          refine pw_putN (fs' := (scObj I (va_up s.1 15 (0)))) okX7 (k := 15) (by decide) lkX6_101 rfl (zb_nar (by omega)) (zb_fit (by omega)) (rAt_put hA).1.1.1 (nlt rfl) rfl dX6_doAsked_69 ?_
          refine pw_h (h' := rP w H N NH I J (zSet 15 (0) s) R q h) (rUF hA) ?_
          refine pw_goto (tgt := 97) dX6_doAsked_72 rfl ?_
          exact pw_vret dX6_doAsked_97 rfl (nle rfl) (nle rfl) ⟨rfl, by unfold zAsked; first | (exfalso; omega) | (repeat (first | rw [if_pos (by omega)] | rw [if_neg (by omega)])), rfl⟩
        by_cases k31_25 : (25 : Int) = q 0
        ·
          clear k31_7
          refine pw_lookup (off := 44) (tgt := 75) dX6_doAsked_31 (by decide) (by omega) (by rw [← k31_25]; decide) rfl ?_
          refine pw_aload_n dX6_doAsked_75 rfl ?_
          refine pw_get (v := .ref (I 0)) okX6 (k := 0) (by decide) lkX6_13 (rAt_put hA).2.1 rfl dX6_doAsked_76 ?_
          refine pw_iload_n dX6_doAsked_79 rfl ?_
          refine pw_putN (fs' := (scObj I (va_up s.1 16 (0)))) okX7 (k := 16) (by decide) lkX6_104 rfl (zb_nar (by omega)) (zb_fit (by omega)) (rAt_put hA).1.1.1 (nlt rfl) rfl dX6_doAsked_80 ?_
          refine pw_h (h' := rP w H N NH I J (zSet 16 (0) s) R q h) (rUF hA) ?_
          refine pw_goto (tgt := 97) dX6_doAsked_83 rfl ?_
          exact pw_vret dX6_doAsked_97 rfl (nle rfl) (nle rfl) ⟨rfl, by unfold zAsked; first | (exfalso; omega) | (repeat (first | rw [if_pos (by omega)] | rw [if_neg (by omega)])), rfl⟩
        by_cases k31_47 : (47 : Int) = q 0
        ·
          clear k31_7 k31_25
          refine pw_lookup (off := 55) (tgt := 86) dX6_doAsked_31 (by decide) (by omega) (by rw [← k31_47]; decide) rfl ?_
          refine pw_aload_n dX6_doAsked_86 rfl ?_
          refine pw_get (v := .ref (I 0)) okX6 (k := 0) (by decide) lkX6_13 (rAt_put hA).2.1 rfl dX6_doAsked_87 ?_
          refine pw_iload_n dX6_doAsked_90 rfl ?_
          refine pw_callV (As := [.int (zI (0))]) (b := (I 0)) (rm := rmD 4 0 0) (nX7_showOther htr hG0 (rAt_put hA).1 hz0 (by omega)) rfl (rAt_put hA).1.1.1 rfl rfl ywX7_showOther rfl cwX6_107 ⟨nle rfl, nle rfl⟩ (nle rfl) ⟨nle rfl, nle rfl⟩ dX6_doAsked_91 ?_ (fun _ _ _ z => z.elim)
          intro r2 h2 n2 hq _
          rw [hq.1, hq.2.1, hq.2.2]
          show pw E YX6_doAsked _ _ 0 0 94 [some (.ref (J 0)), some (.int (zI (b))), some (.int (zI (0)))] [] (zP w H N NH I (zShow w H (0) s) (rP w H N NH I J s R q h)) n
          refine pw_h (zP_rP hA) ?_
          refine pw_goto (tgt := 97) dX6_doAsked_94 rfl ?_
          exact pw_vret dX6_doAsked_97 rfl (nle rfl) (nle rfl) ⟨rfl, by unfold zAsked; first | (exfalso; omega) | (repeat (first | rw [if_pos (by omega)] | rw [if_neg (by omega)])), rfl⟩
        refine pw_lookup (off := 66) (tgt := 97) dX6_doAsked_31 (by decide) (by omega) (by show Op.lookupswitch.offset [(7, 33), (25, 44), (47, 55)] 66 (q 0) = 66; simp only [Op.lookupswitch.offset_cons, Op.lookupswitch.offset_nil, if_neg k31_7, if_neg k31_25, if_neg k31_47]) rfl ?_
        exact pw_vret dX6_doAsked_97 rfl (nle rfl) (nle rfl) ⟨rfl, by unfold zAsked; first | (exfalso; omega) | (repeat (first | rw [if_pos (by omega)] | rw [if_neg (by omega)])), rfl⟩
      ·
        refine pw_iconst (v := zI (1)) dX6_doAsked_19 (by decide) ?_
        refine pw_goto (tgt := 24) dX6_doAsked_20 rfl ?_
        refine pw_istore_n (lv' := [some (.ref (J 0)), some (.int (zI (b))), some (.int (zI (1)))]) dX6_doAsked_24 (by decide) rfl rfl ?_
        refine pw_aload_n dX6_doAsked_25 rfl ?_
        refine pw_get (v := .ref (J 1)) okX6 (k := 1) (by decide) lkX6_9 (rAt_put hA).2.1 rfl dX6_doAsked_26 ?_
        refine pw_iconst (v := zI (0)) dX6_doAsked_29 (by decide) ?_
        refine pw_ialdv (v := q 0) (t := 0) rfl (rAt_put hA).2.2.1 (by omega) (by omega) rfl dX6_doAsked_30 ?_
        by_cases k31_7 : (7 : Int) = q 0
        ·
          refine pw_lookup (off := 33) (tgt := 64) dX6_doAsked_31 (by decide) (by omega) (by rw [← k31_7]; decide) rfl ?_
          refine pw_aload_n dX6_doAsked_64 rfl ?_
          refine pw_get (v := .ref (I 0)) okX6 (k := 0) (by decide) lkX6_13 (rAt_put hA).2.1 rfl dX6_doAsked_65 ?_
          refine pw_iload_n dX6_doAsked_68 rfl ?_
          refine pw_putN (fs' := (scObj I (va_up s.1 15 (1)))) okX7 (k := 15) (by decide) lkX6_101 rfl (zb_nar (by omega)) (zb_fit (by omega)) (rAt_put hA).1.1.1 (nlt rfl) rfl dX6_doAsked_69 ?_
          refine pw_h (h' := rP w H N NH I J (zSet 15 (1) s) R q h) (rUF hA) ?_
          refine pw_goto (tgt := 97) dX6_doAsked_72 rfl ?_
          exact pw_vret dX6_doAsked_97 rfl (nle rfl) (nle rfl) ⟨rfl, by unfold zAsked; first | (exfalso; omega) | (repeat (first | rw [if_pos (by omega)] | rw [if_neg (by omega)])), rfl⟩
        by_cases k31_25 : (25 : Int) = q 0
        ·
          clear k31_7
          refine pw_lookup (off := 44) (tgt := 75) dX6_doAsked_31 (by decide) (by omega) (by rw [← k31_25]; decide) rfl ?_
          refine pw_aload_n dX6_doAsked_75 rfl ?_
          refine pw_get (v := .ref (I 0)) okX6 (k := 0) (by decide) lkX6_13 (rAt_put hA).2.1 rfl dX6_doAsked_76 ?_
          refine pw_iload_n dX6_doAsked_79 rfl ?_
          refine pw_putN (fs' := (scObj I (va_up s.1 16 (1)))) okX7 (k := 16) (by decide) lkX6_104 rfl (zb_nar (by omega)) (zb_fit (by omega)) (rAt_put hA).1.1.1 (nlt rfl) rfl dX6_doAsked_80 ?_
          refine pw_h (h' := rP w H N NH I J (zSet 16 (1) s) R q h) (rUF hA) ?_
          refine pw_goto (tgt := 97) dX6_doAsked_83 rfl ?_
          exact pw_vret dX6_doAsked_97 rfl (nle rfl) (nle rfl) ⟨rfl, by unfold zAsked; first | (exfalso; omega) | (repeat (first | rw [if_pos (by omega)] | rw [if_neg (by omega)])), rfl⟩
        by_cases k31_47 : (47 : Int) = q 0
        ·
          clear k31_7 k31_25
          refine pw_lookup (off := 55) (tgt := 86) dX6_doAsked_31 (by decide) (by omega) (by rw [← k31_47]; decide) rfl ?_
          refine pw_aload_n dX6_doAsked_86 rfl ?_
          refine pw_get (v := .ref (I 0)) okX6 (k := 0) (by decide) lkX6_13 (rAt_put hA).2.1 rfl dX6_doAsked_87 ?_
          refine pw_iload_n dX6_doAsked_90 rfl ?_
          refine pw_callV (As := [.int (zI (1))]) (b := (I 0)) (rm := rmD 4 0 0) (nX7_showOther htr hG0 (rAt_put hA).1 hz0 (by omega)) rfl (rAt_put hA).1.1.1 rfl rfl ywX7_showOther rfl cwX6_107 ⟨nle rfl, nle rfl⟩ (nle rfl) ⟨nle rfl, nle rfl⟩ dX6_doAsked_91 ?_ (fun _ _ _ z => z.elim)
          intro r2 h2 n2 hq _
          rw [hq.1, hq.2.1, hq.2.2]
          show pw E YX6_doAsked _ _ 0 0 94 [some (.ref (J 0)), some (.int (zI (b))), some (.int (zI (1)))] [] (zP w H N NH I (zShow w H (1) s) (rP w H N NH I J s R q h)) n
          refine pw_h (zP_rP hA) ?_
          refine pw_goto (tgt := 97) dX6_doAsked_94 rfl ?_
          exact pw_vret dX6_doAsked_97 rfl (nle rfl) (nle rfl) ⟨rfl, by unfold zAsked; first | (exfalso; omega) | (repeat (first | rw [if_pos (by omega)] | rw [if_neg (by omega)])), rfl⟩
        refine pw_lookup (off := 66) (tgt := 97) dX6_doAsked_31 (by decide) (by omega) (by show Op.lookupswitch.offset [(7, 33), (25, 44), (47, 55)] 66 (q 0) = 66; simp only [Op.lookupswitch.offset_cons, Op.lookupswitch.offset_nil, if_neg k31_7, if_neg k31_25, if_neg k31_47]) rfl ?_
        exact pw_vret dX6_doAsked_97 rfl (nle rfl) (nle rfl) ⟨rfl, by unfold zAsked; first | (exfalso; omega) | (repeat (first | rw [if_pos (by omega)] | rw [if_neg (by omega)])), rfl⟩
    ·
      exact pw_vret dX6_doAsked_12 rfl (nle rfl) (nle rfl) ⟨rfl, by unfold zAsked; first | (exfalso; omega) | (repeat (first | rw [if_pos (by omega)] | rw [if_neg (by omega)])), rfl⟩
