def YX10_goUp : pw_Y := (RX10, "goUp", cX10_goUp, 5, none)
theorem ywX10_goUp : pw_y yX10_goUp YX10_goUp 2 := ⟨by decide +kernel, by decide +kernel, by decide +kernel, pw_in 1679 (by decide +kernel) (by decide +kernel), pw_in 106 (by decide +kernel) (by decide +kernel)⟩
theorem cwX10_305 : Cond.methodLink RX10 305 yX10_offsetOf ∈ pw_G ∧ Cond.instanceMethod yX10_offsetOf ∈ pw_G ∧ Cond.selects RX10 yX10_offsetOf yX10_offsetOf ∈ pw_G := ⟨pw_in 1680 (by decide +kernel) (by decide +kernel), pw_in 1682 (by decide +kernel) (by decide +kernel), pw_in 68 (by decide +kernel) (by decide +kernel)⟩
def YX10_focus : pw_Y := (RX10, "focus", cX10_focus, 2, none)
theorem ywX10_focus : pw_y yX10_focus YX10_focus 1 := ⟨by decide +kernel, by decide +kernel, by decide +kernel, pw_in 1565 (by decide +kernel) (by decide +kernel), pw_in 106 (by decide +kernel) (by decide +kernel)⟩
theorem cwX10_213 : Cond.methodLink RX10 213 yX10_noPane ∈ pw_G ∧ Cond.instanceMethod yX10_noPane ∈ pw_G ∧ Cond.selects RX10 yX10_noPane yX10_noPane ∈ pw_G := ⟨pw_in 1523 (by decide +kernel) (by decide +kernel), pw_in 1525 (by decide +kernel) (by decide +kernel), pw_in 35 (by decide +kernel) (by decide +kernel)⟩
def YX10_out : pw_Y := (RX10, "out", cX10_out, 2, (some .int))
theorem ywX10_out : pw_y yX10_out YX10_out 1 := ⟨by decide +kernel, by decide +kernel, by decide +kernel, pw_in 1735 (by decide +kernel) (by decide +kernel), pw_in 106 (by decide +kernel) (by decide +kernel)⟩
theorem lkX10_334 : Cond.fieldLink RX10 334 (TX10 57).1 (TX10 57).2.1 (TX10 57).2.2.1 ∈ pw_G := pw_in 1387 (by decide +kernel) (by decide +kernel)
def YX10_copied : pw_Y := (RX10, "copied", cX10_copied, 2, (some .int))
theorem ywX10_copied : pw_y yX10_copied YX10_copied 1 := ⟨by decide +kernel, by decide +kernel, by decide +kernel, pw_in 1751 (by decide +kernel) (by decide +kernel), pw_in 106 (by decide +kernel) (by decide +kernel)⟩
def YX10_close : pw_Y := (RX10, "close", cX10_close, 2, (some .int))
theorem ywX10_close : pw_y yX10_close YX10_close 1 := ⟨by decide +kernel, by decide +kernel, by decide +kernel, pw_in 1553 (by decide +kernel) (by decide +kernel), pw_in 106 (by decide +kernel) (by decide +kernel)⟩
theorem cwX10_225 : Cond.methodLink RX10 225 yX10_panes ∈ pw_G ∧ Cond.instanceMethod yX10_panes ∈ pw_G ∧ Cond.selects RX10 yX10_panes yX10_panes ∈ pw_G := ⟨pw_in 1554 (by decide +kernel) (by decide +kernel), pw_in 1556 (by decide +kernel) (by decide +kernel), pw_in 41 (by decide +kernel) (by decide +kernel)⟩
def YX10_input : pw_Y := (RX10, "input", cX10_input, 4, (some .int))
theorem ywX10_input : pw_y yX10_input YX10_input 2 := ⟨by decide +kernel, by decide +kernel, by decide +kernel, pw_in 1747 (by decide +kernel) (by decide +kernel), pw_in 106 (by decide +kernel) (by decide +kernel)⟩
def YX10_about : pw_Y := (RX10, "about", cX10_about, 4, (some .int))
theorem ywX10_about : pw_y yX10_about YX10_about 2 := ⟨by decide +kernel, by decide +kernel, by decide +kernel, pw_in 1743 (by decide +kernel) (by decide +kernel), pw_in 106 (by decide +kernel) (by decide +kernel)⟩
theorem lkX10_50 : Cond.fieldLink RX10 50 (TX10 17).1 (TX10 17).2.1 (TX10 17).2.2.1 ∈ pw_G := pw_in 1347 (by decide +kernel) (by decide +kernel)
theorem lkX10_35 : Cond.fieldLink RX10 35 (TX10 11).1 (TX10 11).2.1 (TX10 11).2.2.1 ∈ pw_G := pw_in 1341 (by decide +kernel) (by decide +kernel)
theorem lkX10_32 : Cond.fieldLink RX10 32 (TX10 10).1 (TX10 10).2.1 (TX10 10).2.2.1 ∈ pw_G := pw_in 1340 (by decide +kernel) (by decide +kernel)
def YX10_count : pw_Y := (RX10, "count", cX10_count, 3, (some .int))
theorem ywX10_count : pw_y yX10_count YX10_count 1 := ⟨by decide +kernel, by decide +kernel, by decide +kernel, pw_in 1755 (by decide +kernel) (by decide +kernel), pw_in 106 (by decide +kernel) (by decide +kernel)⟩
theorem cwX10_362 : Cond.methodLink RX10 362 yX10_isSeen ∈ pw_G ∧ Cond.instanceMethod yX10_isSeen ∈ pw_G ∧ Cond.selects RX10 yX10_isSeen yX10_isSeen ∈ pw_G := ⟨pw_in 1728 (by decide +kernel) (by decide +kernel), pw_in 1730 (by decide +kernel) (by decide +kernel), pw_in 77 (by decide +kernel) (by decide +kernel)⟩
def YX10_copy : pw_Y := (RX10, "copy", cX10_copy, 4, (some .int))
theorem ywX10_copy : pw_y yX10_copy YX10_copy 3 := ⟨by decide +kernel, by decide +kernel, by decide +kernel, pw_in 1687 (by decide +kernel) (by decide +kernel), pw_in 106 (by decide +kernel) (by decide +kernel)⟩
theorem cwX10_320 : Cond.methodLink RX10 320 yX10_goUp ∈ pw_G ∧ Cond.instanceMethod yX10_goUp ∈ pw_G ∧ Cond.selects RX10 yX10_goUp yX10_goUp ∈ pw_G := ⟨pw_in 1676 (by decide +kernel) (by decide +kernel), pw_in 1678 (by decide +kernel) (by decide +kernel), pw_in 67 (by decide +kernel) (by decide +kernel)⟩
def YX10_key : pw_Y := (RX10, "key", cX10_key, 2, (some .int))
theorem ywX10_key : pw_y yX10_key YX10_key 1 := ⟨by decide +kernel, by decide +kernel, by decide +kernel, pw_in 1667 (by decide +kernel) (by decide +kernel), pw_in 106 (by decide +kernel) (by decide +kernel)⟩
theorem lkX10_314 : Cond.fieldLink RX10 314 (TX10 48).1 (TX10 48).2.1 (TX10 48).2.2.1 ∈ pw_G := pw_in 1378 (by decide +kernel) (by decide +kernel)
theorem cwX10_311 : Cond.methodLink RX10 311 yX10_comesIn ∈ pw_G ∧ Cond.instanceMethod yX10_comesIn ∈ pw_G ∧ Cond.selects RX10 yX10_comesIn yX10_comesIn ∈ pw_G := ⟨pw_in 1672 (by decide +kernel) (by decide +kernel), pw_in 1674 (by decide +kernel) (by decide +kernel), pw_in 66 (by decide +kernel) (by decide +kernel)⟩
def YX10_feed : pw_Y := (RX10, "feed", cX10_feed, 6, none)
theorem ywX10_feed : pw_y yX10_feed YX10_feed 3 := ⟨by decide +kernel, by decide +kernel, by decide +kernel, pw_in 1569 (by decide +kernel) (by decide +kernel), pw_in 106 (by decide +kernel) (by decide +kernel)⟩
theorem cwX10_302 : Cond.methodLink RX10 302 yX10_take ∈ pw_G ∧ Cond.instanceMethod yX10_take ∈ pw_G ∧ Cond.selects RX10 yX10_take yX10_take ∈ pw_G := ⟨pw_in 1570 (by decide +kernel) (by decide +kernel), pw_in 1572 (by decide +kernel) (by decide +kernel), pw_in 43 (by decide +kernel) (by decide +kernel)⟩
/-- the reference's numbers and arrays, new -/
def nV (w H : Int) (k : Nat) : Int := if k = 1 then w else if k = 2 then H else if k = 55 then 1 else 0
def nA (w H : Int) (k i : Nat) : Int := if i = 0 then (if k = 3 then 1 else if k = 7 then -1 else if k = 12 then w else if k = 13 then H else if k = 16 then 1 else if k = 18 then w else if k = 19 then H else if k = 30 then H - 1 else if k = 33 then 1 else 0) else 0
abbrev mKs : List Nat := [3, 4, 5, 6, 7, 8, 9, 10, 11, 12, 13, 15, 16, 17, 18, 19, 21, 22, 23, 24, 25, 26, 27, 28, 29, 30, 31, 32, 33, 34, 35, 36, 37, 38, 39, 40, 41, 42, 43, 44, 45, 46, 50, 52, 58, 59, 60]
abbrev mVs : List Nat := [0, 1, 2, 14, 47, 48, 49, 53, 54, 55, 56, 57]
def mN (w H : Int) (s : mS) : Prop := (∀ k ∈ mVs, s.1 k = nV w H k) ∧ (∀ k ∈ mKs, s.2 k = nA w H k) ∧ (∀ i, i < 1280 → s.2 20 i = 32) ∧ ∀ i, i < 640 → s.2 51 i = 32
theorem mN_3 {w H : Int} {s : mS} (hn : mN w H s) : s.2 3 0 = 1 := by rw [hn.2.1 3 (by decide)]; rfl
theorem mZ_3 {w H : Int} {s : mS} (hn : mN w H s) {i : Nat} (hi : 0 < i) : s.2 3 i = 0 := by rw [hn.2.1 3 (by decide)]; exact if_neg (by omega)
theorem mN_4 {w H : Int} {s : mS} (hn : mN w H s) : s.2 4 0 = 0 := by rw [hn.2.1 4 (by decide)]; rfl
theorem mZ_4 {w H : Int} {s : mS} (hn : mN w H s) {i : Nat} (hi : 0 < i) : s.2 4 i = 0 := by rw [hn.2.1 4 (by decide)]; exact if_neg (by omega)
theorem mN_5 {w H : Int} {s : mS} (hn : mN w H s) : s.2 5 0 = 0 := by rw [hn.2.1 5 (by decide)]; rfl
theorem mZ_5 {w H : Int} {s : mS} (hn : mN w H s) {i : Nat} (hi : 0 < i) : s.2 5 i = 0 := by rw [hn.2.1 5 (by decide)]; exact if_neg (by omega)
theorem mN_6 {w H : Int} {s : mS} (hn : mN w H s) : s.2 6 0 = 0 := by rw [hn.2.1 6 (by decide)]; rfl
theorem mZ_6 {w H : Int} {s : mS} (hn : mN w H s) {i : Nat} (hi : 0 < i) : s.2 6 i = 0 := by rw [hn.2.1 6 (by decide)]; exact if_neg (by omega)
theorem mN_7 {w H : Int} {s : mS} (hn : mN w H s) : s.2 7 0 = -1 := by rw [hn.2.1 7 (by decide)]; rfl
theorem mZ_7 {w H : Int} {s : mS} (hn : mN w H s) {i : Nat} (hi : 0 < i) : s.2 7 i = 0 := by rw [hn.2.1 7 (by decide)]; exact if_neg (by omega)
theorem mN_8 {w H : Int} {s : mS} (hn : mN w H s) : s.2 8 0 = 0 := by rw [hn.2.1 8 (by decide)]; rfl
theorem mZ_8 {w H : Int} {s : mS} (hn : mN w H s) {i : Nat} (hi : 0 < i) : s.2 8 i = 0 := by rw [hn.2.1 8 (by decide)]; exact if_neg (by omega)
theorem mN_9 {w H : Int} {s : mS} (hn : mN w H s) : s.2 9 0 = 0 := by rw [hn.2.1 9 (by decide)]; rfl
theorem mZ_9 {w H : Int} {s : mS} (hn : mN w H s) {i : Nat} (hi : 0 < i) : s.2 9 i = 0 := by rw [hn.2.1 9 (by decide)]; exact if_neg (by omega)
theorem mN_10 {w H : Int} {s : mS} (hn : mN w H s) : s.2 10 0 = 0 := by rw [hn.2.1 10 (by decide)]; rfl
theorem mZ_10 {w H : Int} {s : mS} (hn : mN w H s) {i : Nat} (hi : 0 < i) : s.2 10 i = 0 := by rw [hn.2.1 10 (by decide)]; exact if_neg (by omega)
theorem mN_11 {w H : Int} {s : mS} (hn : mN w H s) : s.2 11 0 = 0 := by rw [hn.2.1 11 (by decide)]; rfl
theorem mZ_11 {w H : Int} {s : mS} (hn : mN w H s) {i : Nat} (hi : 0 < i) : s.2 11 i = 0 := by rw [hn.2.1 11 (by decide)]; exact if_neg (by omega)
theorem mN_12 {w H : Int} {s : mS} (hn : mN w H s) : s.2 12 0 = w := by rw [hn.2.1 12 (by decide)]; rfl
theorem mZ_12 {w H : Int} {s : mS} (hn : mN w H s) {i : Nat} (hi : 0 < i) : s.2 12 i = 0 := by rw [hn.2.1 12 (by decide)]; exact if_neg (by omega)
theorem mN_13 {w H : Int} {s : mS} (hn : mN w H s) : s.2 13 0 = H := by rw [hn.2.1 13 (by decide)]; rfl
theorem mZ_13 {w H : Int} {s : mS} (hn : mN w H s) {i : Nat} (hi : 0 < i) : s.2 13 i = 0 := by rw [hn.2.1 13 (by decide)]; exact if_neg (by omega)
theorem mN_15 {w H : Int} {s : mS} (hn : mN w H s) : s.2 15 0 = 0 := by rw [hn.2.1 15 (by decide)]; rfl
theorem mZ_15 {w H : Int} {s : mS} (hn : mN w H s) {i : Nat} (hi : 0 < i) : s.2 15 i = 0 := by rw [hn.2.1 15 (by decide)]; exact if_neg (by omega)
theorem mN_16 {w H : Int} {s : mS} (hn : mN w H s) : s.2 16 0 = 1 := by rw [hn.2.1 16 (by decide)]; rfl
theorem mZ_16 {w H : Int} {s : mS} (hn : mN w H s) {i : Nat} (hi : 0 < i) : s.2 16 i = 0 := by rw [hn.2.1 16 (by decide)]; exact if_neg (by omega)
theorem mN_17 {w H : Int} {s : mS} (hn : mN w H s) : s.2 17 0 = 0 := by rw [hn.2.1 17 (by decide)]; rfl
theorem mZ_17 {w H : Int} {s : mS} (hn : mN w H s) {i : Nat} (hi : 0 < i) : s.2 17 i = 0 := by rw [hn.2.1 17 (by decide)]; exact if_neg (by omega)
theorem mN_18 {w H : Int} {s : mS} (hn : mN w H s) : s.2 18 0 = w := by rw [hn.2.1 18 (by decide)]; rfl
theorem mZ_18 {w H : Int} {s : mS} (hn : mN w H s) {i : Nat} (hi : 0 < i) : s.2 18 i = 0 := by rw [hn.2.1 18 (by decide)]; exact if_neg (by omega)
theorem mN_19 {w H : Int} {s : mS} (hn : mN w H s) : s.2 19 0 = H := by rw [hn.2.1 19 (by decide)]; rfl
theorem mZ_19 {w H : Int} {s : mS} (hn : mN w H s) {i : Nat} (hi : 0 < i) : s.2 19 i = 0 := by rw [hn.2.1 19 (by decide)]; exact if_neg (by omega)
theorem mN_21 {w H : Int} {s : mS} (hn : mN w H s) : s.2 21 0 = 0 := by rw [hn.2.1 21 (by decide)]; rfl
theorem mZ_21 {w H : Int} {s : mS} (hn : mN w H s) {i : Nat} (hi : 0 < i) : s.2 21 i = 0 := by rw [hn.2.1 21 (by decide)]; exact if_neg (by omega)
theorem mN_22 {w H : Int} {s : mS} (hn : mN w H s) : s.2 22 0 = 0 := by rw [hn.2.1 22 (by decide)]; rfl
theorem mZ_22 {w H : Int} {s : mS} (hn : mN w H s) {i : Nat} (hi : 0 < i) : s.2 22 i = 0 := by rw [hn.2.1 22 (by decide)]; exact if_neg (by omega)
theorem mN_23 {w H : Int} {s : mS} (hn : mN w H s) : s.2 23 0 = 0 := by rw [hn.2.1 23 (by decide)]; rfl
theorem mZ_23 {w H : Int} {s : mS} (hn : mN w H s) {i : Nat} (hi : 0 < i) : s.2 23 i = 0 := by rw [hn.2.1 23 (by decide)]; exact if_neg (by omega)
theorem mN_24 {w H : Int} {s : mS} (hn : mN w H s) : s.2 24 0 = 0 := by rw [hn.2.1 24 (by decide)]; rfl
theorem mZ_24 {w H : Int} {s : mS} (hn : mN w H s) {i : Nat} (hi : 0 < i) : s.2 24 i = 0 := by rw [hn.2.1 24 (by decide)]; exact if_neg (by omega)
theorem mN_25 {w H : Int} {s : mS} (hn : mN w H s) : s.2 25 0 = 0 := by rw [hn.2.1 25 (by decide)]; rfl
theorem mZ_25 {w H : Int} {s : mS} (hn : mN w H s) {i : Nat} (hi : 0 < i) : s.2 25 i = 0 := by rw [hn.2.1 25 (by decide)]; exact if_neg (by omega)
theorem mN_26 {w H : Int} {s : mS} (hn : mN w H s) : s.2 26 0 = 0 := by rw [hn.2.1 26 (by decide)]; rfl
theorem mZ_26 {w H : Int} {s : mS} (hn : mN w H s) {i : Nat} (hi : 0 < i) : s.2 26 i = 0 := by rw [hn.2.1 26 (by decide)]; exact if_neg (by omega)
theorem mN_27 {w H : Int} {s : mS} (hn : mN w H s) : s.2 27 0 = 0 := by rw [hn.2.1 27 (by decide)]; rfl
theorem mZ_27 {w H : Int} {s : mS} (hn : mN w H s) {i : Nat} (hi : 0 < i) : s.2 27 i = 0 := by rw [hn.2.1 27 (by decide)]; exact if_neg (by omega)
theorem mN_28 {w H : Int} {s : mS} (hn : mN w H s) : s.2 28 0 = 0 := by rw [hn.2.1 28 (by decide)]; rfl
theorem mZ_28 {w H : Int} {s : mS} (hn : mN w H s) {i : Nat} (hi : 0 < i) : s.2 28 i = 0 := by rw [hn.2.1 28 (by decide)]; exact if_neg (by omega)
theorem mN_29 {w H : Int} {s : mS} (hn : mN w H s) : s.2 29 0 = 0 := by rw [hn.2.1 29 (by decide)]; rfl
theorem mZ_29 {w H : Int} {s : mS} (hn : mN w H s) {i : Nat} (hi : 0 < i) : s.2 29 i = 0 := by rw [hn.2.1 29 (by decide)]; exact if_neg (by omega)
theorem mN_30 {w H : Int} {s : mS} (hn : mN w H s) : s.2 30 0 = H - 1 := by rw [hn.2.1 30 (by decide)]; rfl
theorem mZ_30 {w H : Int} {s : mS} (hn : mN w H s) {i : Nat} (hi : 0 < i) : s.2 30 i = 0 := by rw [hn.2.1 30 (by decide)]; exact if_neg (by omega)
theorem mN_31 {w H : Int} {s : mS} (hn : mN w H s) : s.2 31 0 = 0 := by rw [hn.2.1 31 (by decide)]; rfl
theorem mZ_31 {w H : Int} {s : mS} (hn : mN w H s) {i : Nat} (hi : 0 < i) : s.2 31 i = 0 := by rw [hn.2.1 31 (by decide)]; exact if_neg (by omega)
theorem mN_32 {w H : Int} {s : mS} (hn : mN w H s) : s.2 32 0 = 0 := by rw [hn.2.1 32 (by decide)]; rfl
theorem mZ_32 {w H : Int} {s : mS} (hn : mN w H s) {i : Nat} (hi : 0 < i) : s.2 32 i = 0 := by rw [hn.2.1 32 (by decide)]; exact if_neg (by omega)
theorem mN_33 {w H : Int} {s : mS} (hn : mN w H s) : s.2 33 0 = 1 := by rw [hn.2.1 33 (by decide)]; rfl
theorem mZ_33 {w H : Int} {s : mS} (hn : mN w H s) {i : Nat} (hi : 0 < i) : s.2 33 i = 0 := by rw [hn.2.1 33 (by decide)]; exact if_neg (by omega)
theorem mN_34 {w H : Int} {s : mS} (hn : mN w H s) : s.2 34 0 = 0 := by rw [hn.2.1 34 (by decide)]; rfl
theorem mZ_34 {w H : Int} {s : mS} (hn : mN w H s) {i : Nat} (hi : 0 < i) : s.2 34 i = 0 := by rw [hn.2.1 34 (by decide)]; exact if_neg (by omega)
theorem mN_35 {w H : Int} {s : mS} (hn : mN w H s) : s.2 35 0 = 0 := by rw [hn.2.1 35 (by decide)]; rfl
theorem mZ_35 {w H : Int} {s : mS} (hn : mN w H s) {i : Nat} (hi : 0 < i) : s.2 35 i = 0 := by rw [hn.2.1 35 (by decide)]; exact if_neg (by omega)
theorem mN_36 {w H : Int} {s : mS} (hn : mN w H s) : s.2 36 0 = 0 := by rw [hn.2.1 36 (by decide)]; rfl
theorem mZ_36 {w H : Int} {s : mS} (hn : mN w H s) {i : Nat} (hi : 0 < i) : s.2 36 i = 0 := by rw [hn.2.1 36 (by decide)]; exact if_neg (by omega)
theorem mN_37 {w H : Int} {s : mS} (hn : mN w H s) : s.2 37 0 = 0 := by rw [hn.2.1 37 (by decide)]; rfl
theorem mZ_37 {w H : Int} {s : mS} (hn : mN w H s) {i : Nat} (hi : 0 < i) : s.2 37 i = 0 := by rw [hn.2.1 37 (by decide)]; exact if_neg (by omega)
theorem mN_38 {w H : Int} {s : mS} (hn : mN w H s) : s.2 38 0 = 0 := by rw [hn.2.1 38 (by decide)]; rfl
theorem mZ_38 {w H : Int} {s : mS} (hn : mN w H s) {i : Nat} (hi : 0 < i) : s.2 38 i = 0 := by rw [hn.2.1 38 (by decide)]; exact if_neg (by omega)
theorem mN_39 {w H : Int} {s : mS} (hn : mN w H s) : s.2 39 0 = 0 := by rw [hn.2.1 39 (by decide)]; rfl
theorem mZ_39 {w H : Int} {s : mS} (hn : mN w H s) {i : Nat} (hi : 0 < i) : s.2 39 i = 0 := by rw [hn.2.1 39 (by decide)]; exact if_neg (by omega)
theorem mN_40 {w H : Int} {s : mS} (hn : mN w H s) : s.2 40 0 = 0 := by rw [hn.2.1 40 (by decide)]; rfl
theorem mZ_40 {w H : Int} {s : mS} (hn : mN w H s) {i : Nat} (hi : 0 < i) : s.2 40 i = 0 := by rw [hn.2.1 40 (by decide)]; exact if_neg (by omega)
theorem mN_41 {w H : Int} {s : mS} (hn : mN w H s) : s.2 41 0 = 0 := by rw [hn.2.1 41 (by decide)]; rfl
theorem mZ_41 {w H : Int} {s : mS} (hn : mN w H s) {i : Nat} (hi : 0 < i) : s.2 41 i = 0 := by rw [hn.2.1 41 (by decide)]; exact if_neg (by omega)
theorem mN_42 {w H : Int} {s : mS} (hn : mN w H s) : s.2 42 0 = 0 := by rw [hn.2.1 42 (by decide)]; rfl
theorem mZ_42 {w H : Int} {s : mS} (hn : mN w H s) {i : Nat} (hi : 0 < i) : s.2 42 i = 0 := by rw [hn.2.1 42 (by decide)]; exact if_neg (by omega)
theorem mN_43 {w H : Int} {s : mS} (hn : mN w H s) : s.2 43 0 = 0 := by rw [hn.2.1 43 (by decide)]; rfl
theorem mZ_43 {w H : Int} {s : mS} (hn : mN w H s) {i : Nat} (hi : 0 < i) : s.2 43 i = 0 := by rw [hn.2.1 43 (by decide)]; exact if_neg (by omega)
theorem mN_44 {w H : Int} {s : mS} (hn : mN w H s) : s.2 44 0 = 0 := by rw [hn.2.1 44 (by decide)]; rfl
theorem mZ_44 {w H : Int} {s : mS} (hn : mN w H s) {i : Nat} (hi : 0 < i) : s.2 44 i = 0 := by rw [hn.2.1 44 (by decide)]; exact if_neg (by omega)
theorem mN_45 {w H : Int} {s : mS} (hn : mN w H s) : s.2 45 0 = 0 := by rw [hn.2.1 45 (by decide)]; rfl
theorem mZ_45 {w H : Int} {s : mS} (hn : mN w H s) {i : Nat} (hi : 0 < i) : s.2 45 i = 0 := by rw [hn.2.1 45 (by decide)]; exact if_neg (by omega)
theorem mN_46 {w H : Int} {s : mS} (hn : mN w H s) : s.2 46 0 = 0 := by rw [hn.2.1 46 (by decide)]; rfl
theorem mZ_46 {w H : Int} {s : mS} (hn : mN w H s) {i : Nat} (hi : 0 < i) : s.2 46 i = 0 := by rw [hn.2.1 46 (by decide)]; exact if_neg (by omega)
theorem mN_50 {w H : Int} {s : mS} (hn : mN w H s) : s.2 50 0 = 0 := by rw [hn.2.1 50 (by decide)]; rfl
theorem mZ_50 {w H : Int} {s : mS} (hn : mN w H s) {i : Nat} (hi : 0 < i) : s.2 50 i = 0 := by rw [hn.2.1 50 (by decide)]; exact if_neg (by omega)
theorem mN_52 {w H : Int} {s : mS} (hn : mN w H s) : s.2 52 0 = 0 := by rw [hn.2.1 52 (by decide)]; rfl
theorem mZ_52 {w H : Int} {s : mS} (hn : mN w H s) {i : Nat} (hi : 0 < i) : s.2 52 i = 0 := by rw [hn.2.1 52 (by decide)]; exact if_neg (by omega)
theorem mN_58 {w H : Int} {s : mS} (hn : mN w H s) : s.2 58 0 = 0 := by rw [hn.2.1 58 (by decide)]; rfl
theorem mZ_58 {w H : Int} {s : mS} (hn : mN w H s) {i : Nat} (hi : 0 < i) : s.2 58 i = 0 := by rw [hn.2.1 58 (by decide)]; exact if_neg (by omega)
theorem mN_59 {w H : Int} {s : mS} (hn : mN w H s) : s.2 59 0 = 0 := by rw [hn.2.1 59 (by decide)]; rfl
theorem mZ_59 {w H : Int} {s : mS} (hn : mN w H s) {i : Nat} (hi : 0 < i) : s.2 59 i = 0 := by rw [hn.2.1 59 (by decide)]; exact if_neg (by omega)
theorem mN_60 {w H : Int} {s : mS} (hn : mN w H s) : s.2 60 0 = 0 := by rw [hn.2.1 60 (by decide)]; rfl
theorem mZ_60 {w H : Int} {s : mS} (hn : mN w H s) {i : Nat} (hi : 0 < i) : s.2 60 i = 0 := by rw [hn.2.1 60 (by decide)]; exact if_neg (by omega)
theorem mNv_0 {w H : Int} {s : mS} (hn : mN w H s) : s.1 0 = 0 := by rw [hn.1 0 (by decide)]; rfl
theorem mNv_1 {w H : Int} {s : mS} (hn : mN w H s) : s.1 1 = w := by rw [hn.1 1 (by decide)]; rfl
theorem mNv_2 {w H : Int} {s : mS} (hn : mN w H s) : s.1 2 = H := by rw [hn.1 2 (by decide)]; rfl
theorem mNv_14 {w H : Int} {s : mS} (hn : mN w H s) : s.1 14 = 0 := by rw [hn.1 14 (by decide)]; rfl
theorem mNv_47 {w H : Int} {s : mS} (hn : mN w H s) : s.1 47 = 0 := by rw [hn.1 47 (by decide)]; rfl
theorem mNv_48 {w H : Int} {s : mS} (hn : mN w H s) : s.1 48 = 0 := by rw [hn.1 48 (by decide)]; rfl
theorem mNv_49 {w H : Int} {s : mS} (hn : mN w H s) : s.1 49 = 0 := by rw [hn.1 49 (by decide)]; rfl
theorem mNv_53 {w H : Int} {s : mS} (hn : mN w H s) : s.1 53 = 0 := by rw [hn.1 53 (by decide)]; rfl
theorem mNv_54 {w H : Int} {s : mS} (hn : mN w H s) : s.1 54 = 0 := by rw [hn.1 54 (by decide)]; rfl
theorem mNv_55 {w H : Int} {s : mS} (hn : mN w H s) : s.1 55 = 1 := by rw [hn.1 55 (by decide)]; rfl
theorem mNv_56 {w H : Int} {s : mS} (hn : mN w H s) : s.1 56 = 0 := by rw [hn.1 56 (by decide)]; rfl
theorem mNv_57 {w H : Int} {s : mS} (hn : mN w H s) : s.1 57 = 0 := by rw [hn.1 57 (by decide)]; rfl
theorem mN_us {w H : Int} {s : mS} (hn : mN w H s) : mUs s := fun i _ => by
  by_cases e : i = 0
  · rw [e, mN_16 hn]; omega
  · rw [mZ_16 hn (by omega)]; omega
theorem mN_no {w H : Int} {s : mS} (hn : mN w H s) {p : Int} : mNo s p = if p = 0 then 0 else 1 := by
  unfold mNo
  by_cases e : p = 0
  · rw [if_pos e, if_pos ⟨by omega, by omega, by rw [e]; exact mN_16 hn⟩]
  · rw [if_neg e, if_neg]
    intro z
    rw [mZ_16 hn (by omega)] at z
    omega
theorem mN_pk {w H : Int} {s : mS} (hn : mN w H s) (hw : 8 ≤ w ∧ w ≤ 40) (hH : 4 ≤ H ∧ H ≤ 16) : mPk s 0 := by
  refine ⟨?_, ?_, ?_, ?_, ?_, ?_, ?_, ?_, ?_, ?_, ?_, ?_, ?_, ?_, ?_, ?_, ?_, ?_, ?_, ?_, ?_⟩
  · rw [mN_18 hn]; omega
  · rw [mN_19 hn]; omega
  · rw [mN_23 hn, mN_19 hn]; omega
  · rw [mN_24 hn, mN_18 hn]; omega
  · rw [mN_26 hn, mN_19 hn]; omega
  · rw [mN_27 hn, mN_18 hn]; omega
  · rw [mN_29 hn, mN_30 hn, mN_19 hn]; omega
  · rw [mN_22 hn]; omega
  · rw [mN_31 hn]; omega
  · rw [mN_32 hn]; omega
  · rw [mN_33 hn]; omega
  · rw [mN_34 hn]; omega
  · rw [mN_35 hn]; omega
  · intro j hj
    by_cases e : j = 0
    · rw [e]; show 0 ≤ s.2 36 0 ∧ s.2 36 0 ≤ 999; rw [mN_36 hn]; omega
    · rw [mZ_36 hn (by omega)]; omega
  · rw [mN_37 hn]; omega
  · rw [mN_38 hn]; omega
  · rw [mN_39 hn]; omega
  · rw [mN_42 hn]; omega
  · rw [mN_43 hn]; omega
  · rw [mN_44 hn]; omega
  · rw [mN_45 hn]; omega
def mUp (s : mS) (p n : Int) : Int := if mOf s p + n < 0 then 0 else if s.2 42 p.toNat < mOf s p + n then s.2 42 p.toNat else mOf s p + n
theorem mOf_b {s : mS} {p : Int} (h44 : 0 ≤ s.2 44 p.toNat ∧ s.2 44 p.toNat ≤ 30) (h42 : 0 ≤ s.2 42 p.toNat ∧ s.2 42 p.toNat ≤ 30) : 0 ≤ mOf s p ∧ mOf s p ≤ 30 := by
  unfold mOf
  split <;> omega
theorem mUp_b {s : mS} {p n : Int} (h42 : 0 ≤ s.2 42 p.toNat ∧ s.2 42 p.toNat ≤ 30) : 0 ≤ mUp s p n ∧ mUp s p n ≤ 30 := by
  constructor <;> (unfold mUp; split) <;> (try split) <;> omega
set_option maxHeartbeats 1000000 in
set_option maxRecDepth 100000 in
/-- goUp(p, k) -/
theorem nR_goUp {E : pw_E} (htr : E.1.stackTraces = false) {h : pz_H} {n : Nat} {B : Nat} {s : mS} (hA : mAt B s h) {p k : Int}  (hp : 0 ≤ p ∧ p < 8) (h43 : 0 ≤ s.2 43 p.toNat ∧ s.2 43 p.toNat ≤ 1) (h44 : 0 ≤ s.2 44 p.toNat ∧ s.2 44 p.toNat ≤ 30) (h42 : 0 ≤ s.2 42 p.toNat ∧ s.2 42 p.toNat ≤ 30) (h_k : -2147483648 ≤ k ∧ k < 2147483648) : pw_M E yX10_goUp YX10_goUp (rmD 2 0 0) [.ref B, .int (zI (p)), .int (zI (k))] h n (fun r0 h' n' => r0 = none ∧ mAt B (mA 44 (va_up (s.2 44) p.toNat (mUp s p k)) s) h' ∧ mFr B h h' ∧ n' = n) (fun _ _ _ => False) := by
  have hob := mOf_b h44 h42
  refine pw_M_of (lv := [some (.ref B), some (.int (zI (p))), some (.int (zI (k))), none, none]) (by decide) rfl rfl htr (nle rfl) rfl (fun L => ?_)
  refine pw_aload_n dX10_goUp_0 rfl ?_
  refine pw_iload_n dX10_goUp_1 rfl ?_
  refine pw_callV (As := [.int (zI (p))]) (b := B) (rm := rmD 1 0 0) (nR_offsetOf htr hA hp h43 h44 h42) rfl hA.1 rfl rfl ywX10_offsetOf rfl cwX10_305 ⟨nle rfl, nle rfl⟩ (nle rfl) ⟨nle rfl, nle rfl⟩ dX10_goUp_2 ?_ (fun _ _ _ z => z.elim)
  intro r_9 h_9 n_9 hq _
  rw [hq.1, hq.2.1, hq.2.2]
  show pw E YX10_goUp _ _ 0 0 5 [some (.ref B), some (.int (zI (p))), some (.int (zI (k))), none, none] [.int (zI (mOf s (p)))] h n
  refine pw_zi2l dX10_goUp_5 (by omega) ?_
  refine pw_iload_n dX10_goUp_6 rfl ?_
  refine pw_zi2l dX10_goUp_7 (by omega) ?_
  refine pw_zladd dX10_goUp_8 ?_
  refine pw_lstore_n (lv' := [some (.ref B), some (.int (zI (p))), some (.int (zI (k))), some (.long (zL ((mOf s (p)) + (k)))), none]) dX10_goUp_9 (by decide) rfl rfl ?_
  refine pw_aload_n dX10_goUp_10 rfl ?_
  refine pw_get (v := .ref (B + 41)) okX10 (k := 44) (by decide) lkX10_131 hA.1 rfl dX10_goUp_11 ?_
  refine pw_iload_n dX10_goUp_14 rfl ?_
  refine pw_lload_n dX10_goUp_15 rfl ?_
  refine pw_lconst (a := 0) dX10_goUp_16 (by decide) ?_
  refine pw_zlcmp dX10_goUp_17 (by omega) (by omega) ?_
  refine pw_if_ge (tgt := 25) dX10_goUp_18 rfl (by omega) (fun c18 => ?_) (fun c18 => ?_)
  ·
    refine pw_lload_n dX10_goUp_25 rfl ?_
    refine pw_aload_n dX10_goUp_26 rfl ?_
    refine pw_get (v := .ref (B + 39)) okX10 (k := 42) (by decide) lkX10_125 hA.1 rfl dX10_goUp_27 ?_
    refine pw_iload_n dX10_goUp_30 rfl ?_
    refine pw_iald (g := (s.2 42)) (t := 0) rfl (mF42 (s := s) hA) (by omega) (by decide) dX10_goUp_31 ?_
    refine pw_zi2l dX10_goUp_32 (by omega) ?_
    refine pw_zlcmp dX10_goUp_33 (by omega) (by omega) ?_
    refine pw_if_le (tgt := 46) dX10_goUp_34 rfl (by omega) (fun c34 => ?_) (fun c34 => ?_)
    ·
      refine pw_lload_n dX10_goUp_46 rfl ?_
      refine pw_zl2i dX10_goUp_47 (by omega) ?_
      refine pw_iast (g := (s.2 44)) (t := 0) rfl (mF44 (s := s) hA) (by omega) (by decide) dX10_goUp_48 ?_
      have hA1 : mAt B (mA 44 (va_up (s.2 44) (p).toNat ((mOf s (p)) + (k))) s) (va_up h (B + 41) (pz_z 0 8 (va_up (s.2 44) (p).toNat ((mOf s (p)) + (k))))) := mU44 hA
      have hF1 : mFr B h (va_up h (B + 41) (pz_z 0 8 (va_up (s.2 44) (p).toNat ((mOf s (p)) + (k))))) := mFr_tr mFr_rf (mFr_up (by decide))
      revert hA1 hF1
      generalize (va_up h (B + 41) (pz_z 0 8 (va_up (s.2 44) (p).toNat ((mOf s (p)) + (k))))) = h1
      intro hA1 hF1
      have ev : mUp s p k = (mOf s (p)) + (k) := by unfold mUp; (repeat (first | rw [if_pos (by omega)] | rw [if_neg (by omega)]))
      exact pw_vret dX10_goUp_49 rfl (nle rfl) (nle rfl) ⟨rfl, (by rw [ev]; exact hA1), hF1, rfl⟩
    ·
      refine pw_aload_n dX10_goUp_37 rfl ?_
      refine pw_get (v := .ref (B + 39)) okX10 (k := 42) (by decide) lkX10_125 hA.1 rfl dX10_goUp_38 ?_
      refine pw_iload_n dX10_goUp_41 rfl ?_
      refine pw_iald (g := (s.2 42)) (t := 0) rfl (mF42 (s := s) hA) (by omega) (by decide) dX10_goUp_42 ?_
      refine pw_goto (tgt := 48) dX10_goUp_43 rfl ?_
      refine pw_iast (g := (s.2 44)) (t := 0) rfl (mF44 (s := s) hA) (by omega) (by decide) dX10_goUp_48 ?_
      have hA2 : mAt B (mA 44 (va_up (s.2 44) (p).toNat ((s.2 42) (p).toNat)) s) (va_up h (B + 41) (pz_z 0 8 (va_up (s.2 44) (p).toNat ((s.2 42) (p).toNat)))) := mU44 hA
      have hF2 : mFr B h (va_up h (B + 41) (pz_z 0 8 (va_up (s.2 44) (p).toNat ((s.2 42) (p).toNat)))) := mFr_tr mFr_rf (mFr_up (by decide))
      revert hA2 hF2
      generalize (va_up h (B + 41) (pz_z 0 8 (va_up (s.2 44) (p).toNat ((s.2 42) (p).toNat)))) = h2
      intro hA2 hF2
      have ev : mUp s p k = (s.2 42) (p).toNat := by unfold mUp; (repeat (first | rw [if_pos (by omega)] | rw [if_neg (by omega)]))
      exact pw_vret dX10_goUp_49 rfl (nle rfl) (nle rfl) ⟨rfl, (by rw [ev]; exact hA2), hF2, rfl⟩
  ·
    refine pw_iconst (v := zI (0)) dX10_goUp_21 (by decide) ?_
    refine pw_goto (tgt := 48) dX10_goUp_22 rfl ?_
    refine pw_iast (g := (s.2 44)) (t := 0) rfl (mF44 (s := s) hA) (by omega) (by decide) dX10_goUp_48 ?_
    have hA3 : mAt B (mA 44 (va_up (s.2 44) (p).toNat (0)) s) (va_up h (B + 41) (pz_z 0 8 (va_up (s.2 44) (p).toNat (0)))) := mU44 hA
    have hF3 : mFr B h (va_up h (B + 41) (pz_z 0 8 (va_up (s.2 44) (p).toNat (0)))) := mFr_tr mFr_rf (mFr_up (by decide))
    revert hA3 hF3
    generalize (va_up h (B + 41) (pz_z 0 8 (va_up (s.2 44) (p).toNat (0)))) = h3
    intro hA3 hF3
    have ev : mUp s p k = 0 := by unfold mUp; (repeat (first | rw [if_pos (by omega)] | rw [if_neg (by omega)]))
    exact pw_vret dX10_goUp_49 rfl (nle rfl) (nle rfl) ⟨rfl, (by rw [ev]; exact hA3), hF3, rfl⟩
set_option maxHeartbeats 1000000 in
set_option maxRecDepth 100000 in
/-- focus(p) -/
theorem nF_focus {E : pw_E} (htr : E.1.stackTraces = false) {h : pz_H} {n : Nat} {B : Nat} {s : mS} (hA : mAt B s h) {p : Int}  {w H : Int} (hw : 8 ≤ w ∧ w ≤ 40) (hH : 4 ≤ H ∧ H ≤ 16) (hn : mN w H s) (h_p : -2147483648 ≤ p ∧ p < 2147483648) : pw_M E yX10_focus YX10_focus (rmD 1 0 0) [.ref B, .int (zI (p))] h n (fun r0 h' n' => (∃ s', mAt B s' h' ∧ s'.1 0 = (if p = 0 then 0 else 1) ∧ mFr B h h' ∧ n' = n) ∧ r0 = none) (fun _ _ _ => False) := by
  have v0 := mNv_0 hn
  have v1 := mNv_1 hn
  have v2 := mNv_2 hn
  have v14 := mNv_14 hn
  have v47 := mNv_47 hn
  have v48 := mNv_48 hn
  have v49 := mNv_49 hn
  have v53 := mNv_53 hn
  have v54 := mNv_54 hn
  have v55 := mNv_55 hn
  have v56 := mNv_56 hn
  have v57 := mNv_57 hn
  have hu := mN_us hn
  have hnb : 0 ≤ mNo s p ∧ mNo s p ≤ 1 := mNo_b
  refine pw_M_of (lv := [some (.ref B), some (.int (zI (p)))]) (by decide) rfl rfl htr (nle rfl) rfl (fun L => ?_)
  refine pw_aload_n dX10_focus_0 rfl ?_
  refine pw_aload_n dX10_focus_1 rfl ?_
  refine pw_iload_n dX10_focus_2 rfl ?_
  refine pw_callV (As := [.int (zI (p))]) (b := B) (rm := rmD 0 0 0) (nR_noPane htr hA hu (by omega)) rfl hA.1 rfl rfl ywX10_noPane rfl cwX10_213 ⟨nle rfl, nle rfl⟩ (nle rfl) ⟨nle rfl, nle rfl⟩ dX10_focus_3 ?_ (fun _ _ _ z => z.elim)
  intro r_9 h_9 n_9 hq _
  rw [hq.1, hq.2.1, hq.2.2]
  show pw E YX10_focus _ _ 0 0 6 [some (.ref B), some (.int (zI (p)))] [.int (zI (mNo s (p))), .ref B] h n
  refine pw_if_eq (tgt := 13) dX10_focus_6 rfl (by omega) (fun c6 => ?_) (fun c6 => ?_)
  ·
    have hp0 : p = 0 := by rw [mN_no hn] at c6; revert c6; split <;> omega
    have ep : p.toNat = 0 := by omega
    refine pw_iconst (v := zI (0)) dX10_focus_13 (by decide) ?_
    refine pw_put (fs' := (moL B (va_up s.1 0 (0)))) okX10 (k := 0) (by decide) lkX10_173 rfl rfl rfl hA.1 (nlt rfl) rfl dX10_focus_14 ?_
    have hA1 : mAt B (mV 0 (0) s) (va_up h B (pz_o 13 (moL B (va_up s.1 0 (0))))) := mAt_V hA
    have hF1 : mFr B h (va_up h B (pz_o 13 (moL B (va_up s.1 0 (0))))) := mFr_tr mFr_rf (mFr_up (k := 0) (by decide))
    revert hA1 hF1
    generalize (va_up h B (pz_o 13 (moL B (va_up s.1 0 (0))))) = h1
    intro hA1 hF1
    refine pw_aload_n dX10_focus_17 rfl ?_
    refine pw_aload_n dX10_focus_18 rfl ?_
    refine pw_get (v := .int (zI (0))) okX10 (k := 0) (by decide) lkX10_173 hA1.1 rfl dX10_focus_19 ?_
    refine pw_if_le (tgt := 32) dX10_focus_22 rfl (by omega) (fun c22 => ?_) (fun c22 => ?_)
    ·
      refine pw_iload_n dX10_focus_32 rfl ?_
      refine pw_put (fs' := (moL B (va_up (mV 0 (0) s).1 47 (p)))) okX10 (k := 47) (by decide) lkX10_207 rfl rfl rfl hA1.1 (nlt rfl) rfl dX10_focus_33 ?_
      have hA2 : mAt B (mV 47 (p) (mV 0 (0) s)) (va_up h1 B (pz_o 13 (moL B (va_up (mV 0 (0) s).1 47 (p))))) := mAt_V hA1
      have hF2 : mFr B h (va_up h1 B (pz_o 13 (moL B (va_up (mV 0 (0) s).1 47 (p))))) := mFr_tr hF1 (mFr_up (k := 0) (by decide))
      revert hA2 hF2
      generalize (va_up h1 B (pz_o 13 (moL B (va_up (mV 0 (0) s).1 47 (p))))) = h2
      intro hA2 hF2
      exact pw_vret dX10_focus_36 rfl (nle rfl) (nle rfl) ⟨⟨(mV 47 (p) (mV 0 (0) s)), hA2, (show (0 : Int) = if p = 0 then 0 else 1 from by (first | omega | rfl)), hF2, rfl⟩, rfl⟩
    · exfalso; omega
  ·
    have hp0 : ¬ p = 0 := by rw [mN_no hn] at c6; revert c6; split <;> omega
    refine pw_iconst (v := zI (1)) dX10_focus_9 (by decide) ?_
    refine pw_goto (tgt := 14) dX10_focus_10 rfl ?_
    refine pw_put (fs' := (moL B (va_up s.1 0 (1)))) okX10 (k := 0) (by decide) lkX10_173 rfl rfl rfl hA.1 (nlt rfl) rfl dX10_focus_14 ?_
    have hA3 : mAt B (mV 0 (1) s) (va_up h B (pz_o 13 (moL B (va_up s.1 0 (1))))) := mAt_V hA
    have hF3 : mFr B h (va_up h B (pz_o 13 (moL B (va_up s.1 0 (1))))) := mFr_tr mFr_rf (mFr_up (k := 0) (by decide))
    revert hA3 hF3
    generalize (va_up h B (pz_o 13 (moL B (va_up s.1 0 (1))))) = h3
    intro hA3 hF3
    refine pw_aload_n dX10_focus_17 rfl ?_
    refine pw_aload_n dX10_focus_18 rfl ?_
    refine pw_get (v := .int (zI (1))) okX10 (k := 0) (by decide) lkX10_173 hA3.1 rfl dX10_focus_19 ?_
    refine pw_if_le (tgt := 32) dX10_focus_22 rfl (by omega) (fun c22 => ?_) (fun c22 => ?_)
    · exfalso; omega
    ·
      refine pw_aload_n dX10_focus_25 rfl ?_
      refine pw_get (v := .int (zI (s.1 47))) okX10 (k := 47) (by decide) lkX10_207 hA3.1 rfl dX10_focus_26 ?_
      refine pw_goto (tgt := 33) dX10_focus_29 rfl ?_
      refine pw_put (fs' := (moL B (va_up (mV 0 (1) s).1 47 (s.1 47)))) okX10 (k := 47) (by decide) lkX10_207 rfl rfl rfl hA3.1 (nlt rfl) rfl dX10_focus_33 ?_
      have hA4 : mAt B (mV 47 (s.1 47) (mV 0 (1) s)) (va_up h3 B (pz_o 13 (moL B (va_up (mV 0 (1) s).1 47 (s.1 47))))) := mAt_V hA3
      have hF4 : mFr B h (va_up h3 B (pz_o 13 (moL B (va_up (mV 0 (1) s).1 47 (s.1 47))))) := mFr_tr hF3 (mFr_up (k := 0) (by decide))
      revert hA4 hF4
      generalize (va_up h3 B (pz_o 13 (moL B (va_up (mV 0 (1) s).1 47 (s.1 47))))) = h4
      intro hA4 hF4
      exact pw_vret dX10_focus_36 rfl (nle rfl) (nle rfl) ⟨⟨(mV 47 (s.1 47) (mV 0 (1) s)), hA4, (show (1 : Int) = if p = 0 then 0 else 1 from by (first | omega | rfl)), hF4, rfl⟩, rfl⟩
set_option maxHeartbeats 1000000 in
set_option maxRecDepth 100000 in
/-- out(i) -/
theorem nF_out {E : pw_E} (htr : E.1.stackTraces = false) {h : pz_H} {n : Nat} {B : Nat} {s : mS} (hA : mAt B s h) {i : Int}  {w H : Int} (hw : 8 ≤ w ∧ w ≤ 40) (hH : 4 ≤ H ∧ H ≤ 16) (hn : mN w H s) (h_i : -2147483648 ≤ i ∧ i < 2147483648) : pw_M E yX10_out YX10_out (rmD 0 0 0) [.ref B, .int (zI (i))] h n (fun r0 h' n' => (∃ s', mAt B s' h' ∧ s'.1 0 = (1) ∧ mFr B h h' ∧ n' = n) ∧ r0 = some (.int (zI (0)))) (fun _ _ _ => False) := by
  have v0 := mNv_0 hn
  have v1 := mNv_1 hn
  have v2 := mNv_2 hn
  have v14 := mNv_14 hn
  have v47 := mNv_47 hn
  have v48 := mNv_48 hn
  have v49 := mNv_49 hn
  have v53 := mNv_53 hn
  have v54 := mNv_54 hn
  have v55 := mNv_55 hn
  have v56 := mNv_56 hn
  have v57 := mNv_57 hn
  have hu := mN_us hn
  refine pw_M_of (lv := [some (.ref B), some (.int (zI (i)))]) (by decide) rfl rfl htr (nle rfl) rfl (fun L => ?_)
  refine pw_aload_n dX10_out_0 rfl ?_
  refine pw_iload_n dX10_out_1 rfl ?_
  refine pw_if_lt (tgt := 13) dX10_out_2 rfl (by omega) (fun c2 => ?_) (fun c2 => ?_)
  ·
    refine pw_iconst (v := zI (1)) dX10_out_13 (by decide) ?_
    refine pw_goto (tgt := 18) dX10_out_14 rfl ?_
    refine pw_put (fs' := (moL B (va_up s.1 0 (1)))) okX10 (k := 0) (by decide) lkX10_173 rfl rfl rfl hA.1 (nlt rfl) rfl dX10_out_18 ?_
    have hA1 : mAt B (mV 0 (1) s) (va_up h B (pz_o 13 (moL B (va_up s.1 0 (1))))) := mAt_V hA
    have hF1 : mFr B h (va_up h B (pz_o 13 (moL B (va_up s.1 0 (1))))) := mFr_tr mFr_rf (mFr_up (k := 0) (by decide))
    revert hA1 hF1
    generalize (va_up h B (pz_o 13 (moL B (va_up s.1 0 (1))))) = h1
    intro hA1 hF1
    refine pw_aload_n dX10_out_21 rfl ?_
    refine pw_get (v := .int (zI (1))) okX10 (k := 0) (by decide) lkX10_173 hA1.1 rfl dX10_out_22 ?_
    refine pw_if_le (tgt := 32) dX10_out_25 rfl (by omega) (fun c25 => ?_) (fun c25 => ?_)
    · exfalso; omega
    ·
      refine pw_iconst (v := zI (0)) dX10_out_28 (by decide) ?_
      refine pw_goto (tgt := 38) dX10_out_29 rfl ?_
      exact pw_iret dX10_out_38 rfl (nle rfl) (nle rfl) ⟨⟨(mV 0 (1) s), hA1, (show (1 : Int) = 1 from by (first | omega | rfl)), hF1, rfl⟩, congrArg (fun z => some (Value.int (zI z))) (show (0 : Int) = 0 from by (first | omega | rfl))⟩
  ·
    refine pw_iload_n dX10_out_5 rfl ?_
    refine pw_aload_n dX10_out_6 rfl ?_
    refine pw_get (v := .int (zI (s.1 57))) okX10 (k := 57) (by decide) lkX10_334 hA.1 rfl dX10_out_7 ?_
    refine pw_icmp_lt (tgt := 17) dX10_out_10 rfl (by omega) (by omega) (fun c10 => ?_) (fun c10 => ?_)
    · exfalso; omega
    ·
      refine pw_iconst (v := zI (1)) dX10_out_13 (by decide) ?_
      refine pw_goto (tgt := 18) dX10_out_14 rfl ?_
      refine pw_put (fs' := (moL B (va_up s.1 0 (1)))) okX10 (k := 0) (by decide) lkX10_173 rfl rfl rfl hA.1 (nlt rfl) rfl dX10_out_18 ?_
      have hA2 : mAt B (mV 0 (1) s) (va_up h B (pz_o 13 (moL B (va_up s.1 0 (1))))) := mAt_V hA
      have hF2 : mFr B h (va_up h B (pz_o 13 (moL B (va_up s.1 0 (1))))) := mFr_tr mFr_rf (mFr_up (k := 0) (by decide))
      revert hA2 hF2
      generalize (va_up h B (pz_o 13 (moL B (va_up s.1 0 (1))))) = h2
      intro hA2 hF2
      refine pw_aload_n dX10_out_21 rfl ?_
      refine pw_get (v := .int (zI (1))) okX10 (k := 0) (by decide) lkX10_173 hA2.1 rfl dX10_out_22 ?_
      refine pw_if_le (tgt := 32) dX10_out_25 rfl (by omega) (fun c25 => ?_) (fun c25 => ?_)
      · exfalso; omega
      ·
        refine pw_iconst (v := zI (0)) dX10_out_28 (by decide) ?_
        refine pw_goto (tgt := 38) dX10_out_29 rfl ?_
        exact pw_iret dX10_out_38 rfl (nle rfl) (nle rfl) ⟨⟨(mV 0 (1) s), hA2, (show (1 : Int) = 1 from by (first | omega | rfl)), hF2, rfl⟩, congrArg (fun z => some (Value.int (zI z))) (show (0 : Int) = 0 from by (first | omega | rfl))⟩
set_option maxHeartbeats 1000000 in
set_option maxRecDepth 100000 in
/-- copied(i) -/
theorem nF_copied {E : pw_E} (htr : E.1.stackTraces = false) {h : pz_H} {n : Nat} {B : Nat} {s : mS} (hA : mAt B s h) {i : Int}  {w H : Int} (hw : 8 ≤ w ∧ w ≤ 40) (hH : 4 ≤ H ∧ H ≤ 16) (hn : mN w H s) (h_i : -2147483648 ≤ i ∧ i < 2147483648) : pw_M E yX10_copied YX10_copied (rmD 0 0 0) [.ref B, .int (zI (i))] h n (fun r0 h' n' => (∃ s', mAt B s' h' ∧ s'.1 0 = (1) ∧ mFr B h h' ∧ n' = n) ∧ r0 = some (.int (zI (0)))) (fun _ _ _ => False) := by
  have v0 := mNv_0 hn
  have v1 := mNv_1 hn
  have v2 := mNv_2 hn
  have v14 := mNv_14 hn
  have v47 := mNv_47 hn
  have v48 := mNv_48 hn
  have v49 := mNv_49 hn
  have v53 := mNv_53 hn
  have v54 := mNv_54 hn
  have v55 := mNv_55 hn
  have v56 := mNv_56 hn
  have v57 := mNv_57 hn
  have hu := mN_us hn
  refine pw_M_of (lv := [some (.ref B), some (.int (zI (i)))]) (by decide) rfl rfl htr (nle rfl) rfl (fun L => ?_)
  refine pw_aload_n dX10_copied_0 rfl ?_
  refine pw_iload_n dX10_copied_1 rfl ?_
  refine pw_if_lt (tgt := 13) dX10_copied_2 rfl (by omega) (fun c2 => ?_) (fun c2 => ?_)
  ·
    refine pw_iconst (v := zI (1)) dX10_copied_13 (by decide) ?_
    refine pw_goto (tgt := 18) dX10_copied_14 rfl ?_
    refine pw_put (fs' := (moL B (va_up s.1 0 (1)))) okX10 (k := 0) (by decide) lkX10_173 rfl rfl rfl hA.1 (nlt rfl) rfl dX10_copied_18 ?_
    have hA1 : mAt B (mV 0 (1) s) (va_up h B (pz_o 13 (moL B (va_up s.1 0 (1))))) := mAt_V hA
    have hF1 : mFr B h (va_up h B (pz_o 13 (moL B (va_up s.1 0 (1))))) := mFr_tr mFr_rf (mFr_up (k := 0) (by decide))
    revert hA1 hF1
    generalize (va_up h B (pz_o 13 (moL B (va_up s.1 0 (1))))) = h1
    intro hA1 hF1
    refine pw_aload_n dX10_copied_21 rfl ?_
    refine pw_get (v := .int (zI (1))) okX10 (k := 0) (by decide) lkX10_173 hA1.1 rfl dX10_copied_22 ?_
    refine pw_if_le (tgt := 32) dX10_copied_25 rfl (by omega) (fun c25 => ?_) (fun c25 => ?_)
    · exfalso; omega
    ·
      refine pw_iconst (v := zI (0)) dX10_copied_28 (by decide) ?_
      refine pw_goto (tgt := 38) dX10_copied_29 rfl ?_
      exact pw_iret dX10_copied_38 rfl (nle rfl) (nle rfl) ⟨⟨(mV 0 (1) s), hA1, (show (1 : Int) = 1 from by (first | omega | rfl)), hF1, rfl⟩, congrArg (fun z => some (Value.int (zI z))) (show (0 : Int) = 0 from by (first | omega | rfl))⟩
  ·
    refine pw_iload_n dX10_copied_5 rfl ?_
    refine pw_aload_n dX10_copied_6 rfl ?_
    refine pw_get (v := .int (zI (s.1 49))) okX10 (k := 49) (by decide) lkX10_308 hA.1 rfl dX10_copied_7 ?_
    refine pw_icmp_lt (tgt := 17) dX10_copied_10 rfl (by omega) (by omega) (fun c10 => ?_) (fun c10 => ?_)
    · exfalso; omega
    ·
      refine pw_iconst (v := zI (1)) dX10_copied_13 (by decide) ?_
      refine pw_goto (tgt := 18) dX10_copied_14 rfl ?_
      refine pw_put (fs' := (moL B (va_up s.1 0 (1)))) okX10 (k := 0) (by decide) lkX10_173 rfl rfl rfl hA.1 (nlt rfl) rfl dX10_copied_18 ?_
      have hA2 : mAt B (mV 0 (1) s) (va_up h B (pz_o 13 (moL B (va_up s.1 0 (1))))) := mAt_V hA
      have hF2 : mFr B h (va_up h B (pz_o 13 (moL B (va_up s.1 0 (1))))) := mFr_tr mFr_rf (mFr_up (k := 0) (by decide))
      revert hA2 hF2
      generalize (va_up h B (pz_o 13 (moL B (va_up s.1 0 (1))))) = h2
      intro hA2 hF2
      refine pw_aload_n dX10_copied_21 rfl ?_
      refine pw_get (v := .int (zI (1))) okX10 (k := 0) (by decide) lkX10_173 hA2.1 rfl dX10_copied_22 ?_
      refine pw_if_le (tgt := 32) dX10_copied_25 rfl (by omega) (fun c25 => ?_) (fun c25 => ?_)
      · exfalso; omega
      ·
        refine pw_iconst (v := zI (0)) dX10_copied_28 (by decide) ?_
        refine pw_goto (tgt := 38) dX10_copied_29 rfl ?_
        exact pw_iret dX10_copied_38 rfl (nle rfl) (nle rfl) ⟨⟨(mV 0 (1) s), hA2, (show (1 : Int) = 1 from by (first | omega | rfl)), hF2, rfl⟩, congrArg (fun z => some (Value.int (zI z))) (show (0 : Int) = 0 from by (first | omega | rfl))⟩
theorem mN_ct {w H : Int} {s : mS} (hn : mN w H s) : mCt (s.2 16) 8 0 0 = 1 := by
  rw [show s.2 16 = nA w H 16 from hn.2.1 16 (by decide)]; rfl
set_option maxHeartbeats 1000000 in
set_option maxRecDepth 100000 in
/-- close(p) -/
theorem nF_close {E : pw_E} (htr : E.1.stackTraces = false) {h : pz_H} {n : Nat} {B : Nat} {s : mS} (hA : mAt B s h) {p : Int}  {w H : Int} (hw : 8 ≤ w ∧ w ≤ 40) (hH : 4 ≤ H ∧ H ≤ 16) (hn : mN w H s) (h_p : -2147483648 ≤ p ∧ p < 2147483648) : pw_M E yX10_close YX10_close (rmD 1 0 0) [.ref B, .int (zI (p))] h n (fun r0 h' n' => (∃ s', mAt B s' h' ∧ s'.1 0 = (if p = 0 then 2 else 1) ∧ mFr B h h' ∧ n' = n) ∧ r0 = some (.int (zI (0)))) (fun _ _ _ => False) := by
  have v0 := mNv_0 hn
  have v1 := mNv_1 hn
  have v2 := mNv_2 hn
  have v14 := mNv_14 hn
  have v47 := mNv_47 hn
  have v48 := mNv_48 hn
  have v49 := mNv_49 hn
  have v53 := mNv_53 hn
  have v54 := mNv_54 hn
  have v55 := mNv_55 hn
  have v56 := mNv_56 hn
  have v57 := mNv_57 hn
  have hu := mN_us hn
  have hnb : 0 ≤ mNo s p ∧ mNo s p ≤ 1 := mNo_b
  refine pw_M_of (lv := [some (.ref B), some (.int (zI (p)))]) (by decide) rfl rfl htr (nle rfl) rfl (fun L => ?_)
  refine pw_aload_n dX10_close_0 rfl ?_
  refine pw_aload_n dX10_close_1 rfl ?_
  refine pw_iload_n dX10_close_2 rfl ?_
  refine pw_callV (As := [.int (zI (p))]) (b := B) (rm := rmD 0 0 0) (nR_noPane htr hA hu (by omega)) rfl hA.1 rfl rfl ywX10_noPane rfl cwX10_213 ⟨nle rfl, nle rfl⟩ (nle rfl) ⟨nle rfl, nle rfl⟩ dX10_close_3 ?_ (fun _ _ _ z => z.elim)
  intro r_9 h_9 n_9 hq _
  rw [hq.1, hq.2.1, hq.2.2]
  show pw E YX10_close _ _ 0 0 6 [some (.ref B), some (.int (zI (p)))] [.int (zI (mNo s (p))), .ref B] h n
  refine pw_if_eq (tgt := 13) dX10_close_6 rfl (by omega) (fun c6 => ?_) (fun c6 => ?_)
  ·
    have hp0 : p = 0 := by rw [mN_no hn] at c6; revert c6; split <;> omega
    have ep : p.toNat = 0 := by omega
    refine pw_aload_n dX10_close_13 rfl ?_
    refine pw_callV (As := []) (b := B) (rm := rmD 0 0 0) (nR_panes htr hA hu) rfl hA.1 rfl rfl ywX10_panes rfl cwX10_225 ⟨nle rfl, nle rfl⟩ (nle rfl) ⟨nle rfl, nle rfl⟩ dX10_close_14 ?_ (fun _ _ _ z => z.elim)
    intro r_9 h_9 n_9 hq _
    have hct : mCt (s.2 16) 8 0 0 = 1 := (show mCt (s.2 16) 8 0 0 = 1 from mN_ct hn)
    rw [hq.1, hq.2.1, hq.2.2, hct]
    show pw E YX10_close _ _ 0 0 17 [some (.ref B), some (.int (zI (p)))] [.int (zI (1)), .ref B] h n
    refine pw_iconst (v := zI (1)) dX10_close_17 (by decide) ?_
    refine pw_icmp_le (tgt := 25) dX10_close_18 rfl (by omega) (by omega) (fun c18 => ?_) (fun c18 => ?_)
    ·
      refine pw_iconst (v := zI (2)) dX10_close_25 (by decide) ?_
      refine pw_put (fs' := (moL B (va_up s.1 0 (2)))) okX10 (k := 0) (by decide) lkX10_173 rfl rfl rfl hA.1 (nlt rfl) rfl dX10_close_26 ?_
      have hA1 : mAt B (mV 0 (2) s) (va_up h B (pz_o 13 (moL B (va_up s.1 0 (2))))) := mAt_V hA
      have hF1 : mFr B h (va_up h B (pz_o 13 (moL B (va_up s.1 0 (2))))) := mFr_tr mFr_rf (mFr_up (k := 0) (by decide))
      revert hA1 hF1
      generalize (va_up h B (pz_o 13 (moL B (va_up s.1 0 (2))))) = h1
      intro hA1 hF1
      refine pw_aload_n dX10_close_29 rfl ?_
      refine pw_get (v := .int (zI (2))) okX10 (k := 0) (by decide) lkX10_173 hA1.1 rfl dX10_close_30 ?_
      refine pw_if_le (tgt := 38) dX10_close_33 rfl (by omega) (fun c33 => ?_) (fun c33 => ?_)
      · exfalso; omega
      ·
        refine pw_iconst (v := zI (0)) dX10_close_36 (by decide) ?_
        exact pw_iret dX10_close_37 rfl (nle rfl) (nle rfl) ⟨⟨(mV 0 (2) s), hA1, (show (2 : Int) = if p = 0 then 2 else 1 from by (first | omega | rfl)), hF1, rfl⟩, congrArg (fun z => some (Value.int (zI z))) (show (0 : Int) = 0 from by (first | omega | rfl))⟩
    · exfalso; omega
  ·
    have hp0 : ¬ p = 0 := by rw [mN_no hn] at c6; revert c6; split <;> omega
    refine pw_iconst (v := zI (1)) dX10_close_9 (by decide) ?_
    refine pw_goto (tgt := 26) dX10_close_10 rfl ?_
    refine pw_put (fs' := (moL B (va_up s.1 0 (1)))) okX10 (k := 0) (by decide) lkX10_173 rfl rfl rfl hA.1 (nlt rfl) rfl dX10_close_26 ?_
    have hA2 : mAt B (mV 0 (1) s) (va_up h B (pz_o 13 (moL B (va_up s.1 0 (1))))) := mAt_V hA
    have hF2 : mFr B h (va_up h B (pz_o 13 (moL B (va_up s.1 0 (1))))) := mFr_tr mFr_rf (mFr_up (k := 0) (by decide))
    revert hA2 hF2
    generalize (va_up h B (pz_o 13 (moL B (va_up s.1 0 (1))))) = h2
    intro hA2 hF2
    refine pw_aload_n dX10_close_29 rfl ?_
    refine pw_get (v := .int (zI (1))) okX10 (k := 0) (by decide) lkX10_173 hA2.1 rfl dX10_close_30 ?_
    refine pw_if_le (tgt := 38) dX10_close_33 rfl (by omega) (fun c33 => ?_) (fun c33 => ?_)
    · exfalso; omega
    ·
      refine pw_iconst (v := zI (0)) dX10_close_36 (by decide) ?_
      exact pw_iret dX10_close_37 rfl (nle rfl) (nle rfl) ⟨⟨(mV 0 (1) s), hA2, (show (1 : Int) = if p = 0 then 2 else 1 from by (first | omega | rfl)), hF2, rfl⟩, congrArg (fun z => some (Value.int (zI z))) (show (0 : Int) = 0 from by (first | omega | rfl))⟩
set_option maxHeartbeats 1000000 in
set_option maxRecDepth 100000 in
/-- input(p, i) -/
theorem nF_input {E : pw_E} (htr : E.1.stackTraces = false) {h : pz_H} {n : Nat} {B : Nat} {s : mS} (hA : mAt B s h) {p i : Int}  {w H : Int} (hw : 8 ≤ w ∧ w ≤ 40) (hH : 4 ≤ H ∧ H ≤ 16) (hn : mN w H s) (h_p : -2147483648 ≤ p ∧ p < 2147483648) (h_i : -2147483648 ≤ i ∧ i < 2147483648) : pw_M E yX10_input YX10_input (rmD 1 0 0) [.ref B, .int (zI (p)), .int (zI (i))] h n (fun r0 h' n' => (∃ s', mAt B s' h' ∧ s'.1 0 = (1) ∧ mFr B h h' ∧ n' = n) ∧ r0 = some (.int (zI (0)))) (fun _ _ _ => False) := by
  have v0 := mNv_0 hn
  have v1 := mNv_1 hn
  have v2 := mNv_2 hn
  have v14 := mNv_14 hn
  have v47 := mNv_47 hn
  have v48 := mNv_48 hn
  have v49 := mNv_49 hn
  have v53 := mNv_53 hn
  have v54 := mNv_54 hn
  have v55 := mNv_55 hn
  have v56 := mNv_56 hn
  have v57 := mNv_57 hn
  have hu := mN_us hn
  have hnb : 0 ≤ mNo s p ∧ mNo s p ≤ 1 := mNo_b
  refine pw_M_of (lv := [some (.ref B), some (.int (zI (p))), some (.int (zI (i))), none]) (by decide) rfl rfl htr (nle rfl) rfl (fun L => ?_)
  refine pw_aload_n dX10_input_0 rfl ?_
  refine pw_iload_n dX10_input_1 rfl ?_
  refine pw_callV (As := [.int (zI (p))]) (b := B) (rm := rmD 0 0 0) (nR_noPane htr hA hu (by omega)) rfl hA.1 rfl rfl ywX10_noPane rfl cwX10_213 ⟨nle rfl, nle rfl⟩ (nle rfl) ⟨nle rfl, nle rfl⟩ dX10_input_2 ?_ (fun _ _ _ z => z.elim)
  intro r_9 h_9 n_9 hq _
  rw [hq.1, hq.2.1, hq.2.2]
  show pw E YX10_input _ _ 0 0 5 [some (.ref B), some (.int (zI (p))), some (.int (zI (i))), none] [.int (zI (mNo s (p)))] h n
  refine pw_if_ne (tgt := 19) dX10_input_5 rfl (by omega) (fun c5 => ?_) (fun c5 => ?_)
  ·
    refine pw_iconst (v := zI (0)) dX10_input_19 (by decide) ?_
    refine pw_goto (tgt := 32) dX10_input_20 rfl ?_
    refine pw_istore_n (lv' := [some (.ref B), some (.int (zI (p))), some (.int (zI (i))), some (.int (zI (0)))]) dX10_input_32 (by decide) rfl rfl ?_
    refine pw_aload_n dX10_input_33 rfl ?_
    refine pw_aload_n dX10_input_34 rfl ?_
    refine pw_iload_n dX10_input_35 rfl ?_
    refine pw_callV (As := [.int (zI (p))]) (b := B) (rm := rmD 0 0 0) (nR_noPane htr hA hu (by omega)) rfl hA.1 rfl rfl ywX10_noPane rfl cwX10_213 ⟨nle rfl, nle rfl⟩ (nle rfl) ⟨nle rfl, nle rfl⟩ dX10_input_36 ?_ (fun _ _ _ z => z.elim)
    intro r_9 h_9 n_9 hq _
    rw [hq.1, hq.2.1, hq.2.2]
    show pw E YX10_input _ _ 0 0 39 [some (.ref B), some (.int (zI (p))), some (.int (zI (i))), some (.int (zI (0)))] [.int (zI (mNo s (p))), .ref B] h n
    refine pw_if_ne (tgt := 58) dX10_input_39 rfl (by omega) (fun c39 => ?_) (fun c39 => ?_)
    ·
      refine pw_iconst (v := zI (1)) dX10_input_58 (by decide) ?_
      refine pw_goto (tgt := 63) dX10_input_59 rfl ?_
      refine pw_put (fs' := (moL B (va_up s.1 0 (1)))) okX10 (k := 0) (by decide) lkX10_173 rfl rfl rfl hA.1 (nlt rfl) rfl dX10_input_63 ?_
      have hA1 : mAt B (mV 0 (1) s) (va_up h B (pz_o 13 (moL B (va_up s.1 0 (1))))) := mAt_V hA
      have hF1 : mFr B h (va_up h B (pz_o 13 (moL B (va_up s.1 0 (1))))) := mFr_tr mFr_rf (mFr_up (k := 0) (by decide))
      revert hA1 hF1
      generalize (va_up h B (pz_o 13 (moL B (va_up s.1 0 (1))))) = h1
      intro hA1 hF1
      refine pw_aload_n dX10_input_66 rfl ?_
      refine pw_get (v := .int (zI (1))) okX10 (k := 0) (by decide) lkX10_173 hA1.1 rfl dX10_input_67 ?_
      refine pw_if_le (tgt := 77) dX10_input_70 rfl (by omega) (fun c70 => ?_) (fun c70 => ?_)
      · exfalso; omega
      ·
        refine pw_iconst (v := zI (0)) dX10_input_73 (by decide) ?_
        refine pw_goto (tgt := 93) dX10_input_74 rfl ?_
        exact pw_iret dX10_input_93 rfl (nle rfl) (nle rfl) ⟨⟨(mV 0 (1) s), hA1, (show (1 : Int) = 1 from by (first | omega | rfl)), hF1, rfl⟩, congrArg (fun z => some (Value.int (zI z))) (show (0 : Int) = 0 from by (first | omega | rfl))⟩
    ·
      refine pw_iload_n dX10_input_42 rfl ?_
      refine pw_if_lt (tgt := 58) dX10_input_43 rfl (by omega) (fun c43 => ?_) (fun c43 => ?_)
      ·
        refine pw_iconst (v := zI (1)) dX10_input_58 (by decide) ?_
        refine pw_goto (tgt := 63) dX10_input_59 rfl ?_
        refine pw_put (fs' := (moL B (va_up s.1 0 (1)))) okX10 (k := 0) (by decide) lkX10_173 rfl rfl rfl hA.1 (nlt rfl) rfl dX10_input_63 ?_
        have hA2 : mAt B (mV 0 (1) s) (va_up h B (pz_o 13 (moL B (va_up s.1 0 (1))))) := mAt_V hA
        have hF2 : mFr B h (va_up h B (pz_o 13 (moL B (va_up s.1 0 (1))))) := mFr_tr mFr_rf (mFr_up (k := 0) (by decide))
        revert hA2 hF2
        generalize (va_up h B (pz_o 13 (moL B (va_up s.1 0 (1))))) = h2
        intro hA2 hF2
        refine pw_aload_n dX10_input_66 rfl ?_
        refine pw_get (v := .int (zI (1))) okX10 (k := 0) (by decide) lkX10_173 hA2.1 rfl dX10_input_67 ?_
        refine pw_if_le (tgt := 77) dX10_input_70 rfl (by omega) (fun c70 => ?_) (fun c70 => ?_)
        · exfalso; omega
        ·
          refine pw_iconst (v := zI (0)) dX10_input_73 (by decide) ?_
          refine pw_goto (tgt := 93) dX10_input_74 rfl ?_
          exact pw_iret dX10_input_93 rfl (nle rfl) (nle rfl) ⟨⟨(mV 0 (1) s), hA2, (show (1 : Int) = 1 from by (first | omega | rfl)), hF2, rfl⟩, congrArg (fun z => some (Value.int (zI z))) (show (0 : Int) = 0 from by (first | omega | rfl))⟩
      ·
        refine pw_iload_n dX10_input_46 rfl ?_
        refine pw_aload_n dX10_input_47 rfl ?_
        refine pw_get (v := .ref (B + 42)) okX10 (k := 45) (by decide) lkX10_134 hA.1 rfl dX10_input_48 ?_
        refine pw_iload_n dX10_input_51 rfl ?_
        refine pw_iald (g := (s.2 45)) (t := 0) rfl (mF45 (s := s) hA) (by omega) (by decide) dX10_input_52 ?_
        refine pw_iload_n dX10_input_53 rfl ?_
        refine pw_zisub dX10_input_54 ?_
        refine pw_icmp_lt (tgt := 62) dX10_input_55 rfl (by omega) (by omega) (fun c55 => ?_) (fun c55 => ?_)
        ·
          refine pw_iconst (v := zI (0)) dX10_input_62 (by decide) ?_
          refine pw_put (fs' := (moL B (va_up s.1 0 (0)))) okX10 (k := 0) (by decide) lkX10_173 rfl rfl rfl hA.1 (nlt rfl) rfl dX10_input_63 ?_
          have hA3 : mAt B (mV 0 (0) s) (va_up h B (pz_o 13 (moL B (va_up s.1 0 (0))))) := mAt_V hA
          have hF3 : mFr B h (va_up h B (pz_o 13 (moL B (va_up s.1 0 (0))))) := mFr_tr mFr_rf (mFr_up (k := 0) (by decide))
          revert hA3 hF3
          generalize (va_up h B (pz_o 13 (moL B (va_up s.1 0 (0))))) = h3
          intro hA3 hF3
          refine pw_aload_n dX10_input_66 rfl ?_
          refine pw_get (v := .int (zI (0))) okX10 (k := 0) (by decide) lkX10_173 hA3.1 rfl dX10_input_67 ?_
          refine pw_if_le (tgt := 77) dX10_input_70 rfl (by omega) (fun c70 => ?_) (fun c70 => ?_)
          ·
            exfalso
            omega
          · exfalso; omega
        ·
          refine pw_iconst (v := zI (1)) dX10_input_58 (by decide) ?_
          refine pw_goto (tgt := 63) dX10_input_59 rfl ?_
          refine pw_put (fs' := (moL B (va_up s.1 0 (1)))) okX10 (k := 0) (by decide) lkX10_173 rfl rfl rfl hA.1 (nlt rfl) rfl dX10_input_63 ?_
          have hA4 : mAt B (mV 0 (1) s) (va_up h B (pz_o 13 (moL B (va_up s.1 0 (1))))) := mAt_V hA
          have hF4 : mFr B h (va_up h B (pz_o 13 (moL B (va_up s.1 0 (1))))) := mFr_tr mFr_rf (mFr_up (k := 0) (by decide))
          revert hA4 hF4
          generalize (va_up h B (pz_o 13 (moL B (va_up s.1 0 (1))))) = h4
          intro hA4 hF4
          refine pw_aload_n dX10_input_66 rfl ?_
          refine pw_get (v := .int (zI (1))) okX10 (k := 0) (by decide) lkX10_173 hA4.1 rfl dX10_input_67 ?_
          refine pw_if_le (tgt := 77) dX10_input_70 rfl (by omega) (fun c70 => ?_) (fun c70 => ?_)
          · exfalso; omega
          ·
            refine pw_iconst (v := zI (0)) dX10_input_73 (by decide) ?_
            refine pw_goto (tgt := 93) dX10_input_74 rfl ?_
            exact pw_iret dX10_input_93 rfl (nle rfl) (nle rfl) ⟨⟨(mV 0 (1) s), hA4, (show (1 : Int) = 1 from by (first | omega | rfl)), hF4, rfl⟩, congrArg (fun z => some (Value.int (zI z))) (show (0 : Int) = 0 from by (first | omega | rfl))⟩
  ·
    have hp0 : p = 0 := by rw [mN_no hn] at c5; revert c5; split <;> omega
    have ep : p.toNat = 0 := by omega
    have g45 : s.2 45 p.toNat = 0 := by rw [ep]; exact mN_45 hn
    refine pw_aload_n dX10_input_8 rfl ?_
    refine pw_get (v := .ref (B + 42)) okX10 (k := 45) (by decide) lkX10_134 hA.1 rfl dX10_input_9 ?_
    refine pw_iload_n dX10_input_12 rfl ?_
    refine pw_iald (g := (s.2 45)) (t := 0) rfl (mF45 (s := s) hA) (by omega) (by decide) dX10_input_13 ?_
    refine pw_bipush (v := zI (64)) dX10_input_14 (by decide) ?_
    refine pw_icmp_ge (tgt := 23) dX10_input_16 rfl (by omega) (by omega) (fun c16 => ?_) (fun c16 => ?_)
    ·
      refine pw_aload_n dX10_input_23 rfl ?_
      refine pw_get (v := .ref (B + 42)) okX10 (k := 45) (by decide) lkX10_134 hA.1 rfl dX10_input_24 ?_
      refine pw_iload_n dX10_input_27 rfl ?_
      refine pw_iald (g := (s.2 45)) (t := 0) rfl (mF45 (s := s) hA) (by omega) (by decide) dX10_input_28 ?_
      refine pw_bipush (v := zI (64)) dX10_input_29 (by decide) ?_
      refine pw_zisub dX10_input_31 ?_
      refine pw_istore_n (lv' := [some (.ref B), some (.int (zI (p))), some (.int (zI (i))), some (.int (zI (((s.2 45) (p).toNat) - (64))))]) dX10_input_32 (by decide) rfl rfl ?_
      refine pw_aload_n dX10_input_33 rfl ?_
      refine pw_aload_n dX10_input_34 rfl ?_
      refine pw_iload_n dX10_input_35 rfl ?_
      refine pw_callV (As := [.int (zI (p))]) (b := B) (rm := rmD 0 0 0) (nR_noPane htr hA hu (by omega)) rfl hA.1 rfl rfl ywX10_noPane rfl cwX10_213 ⟨nle rfl, nle rfl⟩ (nle rfl) ⟨nle rfl, nle rfl⟩ dX10_input_36 ?_ (fun _ _ _ z => z.elim)
      intro r_9 h_9 n_9 hq _
      rw [hq.1, hq.2.1, hq.2.2]
      show pw E YX10_input _ _ 0 0 39 [some (.ref B), some (.int (zI (p))), some (.int (zI (i))), some (.int (zI (((s.2 45) (p).toNat) - (64))))] [.int (zI (mNo s (p))), .ref B] h n
      refine pw_if_ne (tgt := 58) dX10_input_39 rfl (by omega) (fun c39 => ?_) (fun c39 => ?_)
      ·
        refine pw_iconst (v := zI (1)) dX10_input_58 (by decide) ?_
        refine pw_goto (tgt := 63) dX10_input_59 rfl ?_
        refine pw_put (fs' := (moL B (va_up s.1 0 (1)))) okX10 (k := 0) (by decide) lkX10_173 rfl rfl rfl hA.1 (nlt rfl) rfl dX10_input_63 ?_
        have hA5 : mAt B (mV 0 (1) s) (va_up h B (pz_o 13 (moL B (va_up s.1 0 (1))))) := mAt_V hA
        have hF5 : mFr B h (va_up h B (pz_o 13 (moL B (va_up s.1 0 (1))))) := mFr_tr mFr_rf (mFr_up (k := 0) (by decide))
        revert hA5 hF5
        generalize (va_up h B (pz_o 13 (moL B (va_up s.1 0 (1))))) = h5
        intro hA5 hF5
        refine pw_aload_n dX10_input_66 rfl ?_
        refine pw_get (v := .int (zI (1))) okX10 (k := 0) (by decide) lkX10_173 hA5.1 rfl dX10_input_67 ?_
        refine pw_if_le (tgt := 77) dX10_input_70 rfl (by omega) (fun c70 => ?_) (fun c70 => ?_)
        · exfalso; omega
        ·
          refine pw_iconst (v := zI (0)) dX10_input_73 (by decide) ?_
          refine pw_goto (tgt := 93) dX10_input_74 rfl ?_
          exact pw_iret dX10_input_93 rfl (nle rfl) (nle rfl) ⟨⟨(mV 0 (1) s), hA5, (show (1 : Int) = 1 from by (first | omega | rfl)), hF5, rfl⟩, congrArg (fun z => some (Value.int (zI z))) (show (0 : Int) = 0 from by (first | omega | rfl))⟩
      ·
        refine pw_iload_n dX10_input_42 rfl ?_
        refine pw_if_lt (tgt := 58) dX10_input_43 rfl (by omega) (fun c43 => ?_) (fun c43 => ?_)
        ·
          refine pw_iconst (v := zI (1)) dX10_input_58 (by decide) ?_
          refine pw_goto (tgt := 63) dX10_input_59 rfl ?_
          refine pw_put (fs' := (moL B (va_up s.1 0 (1)))) okX10 (k := 0) (by decide) lkX10_173 rfl rfl rfl hA.1 (nlt rfl) rfl dX10_input_63 ?_
          have hA6 : mAt B (mV 0 (1) s) (va_up h B (pz_o 13 (moL B (va_up s.1 0 (1))))) := mAt_V hA
          have hF6 : mFr B h (va_up h B (pz_o 13 (moL B (va_up s.1 0 (1))))) := mFr_tr mFr_rf (mFr_up (k := 0) (by decide))
          revert hA6 hF6
          generalize (va_up h B (pz_o 13 (moL B (va_up s.1 0 (1))))) = h6
          intro hA6 hF6
          refine pw_aload_n dX10_input_66 rfl ?_
          refine pw_get (v := .int (zI (1))) okX10 (k := 0) (by decide) lkX10_173 hA6.1 rfl dX10_input_67 ?_
          refine pw_if_le (tgt := 77) dX10_input_70 rfl (by omega) (fun c70 => ?_) (fun c70 => ?_)
          · exfalso; omega
          ·
            refine pw_iconst (v := zI (0)) dX10_input_73 (by decide) ?_
            refine pw_goto (tgt := 93) dX10_input_74 rfl ?_
            exact pw_iret dX10_input_93 rfl (nle rfl) (nle rfl) ⟨⟨(mV 0 (1) s), hA6, (show (1 : Int) = 1 from by (first | omega | rfl)), hF6, rfl⟩, congrArg (fun z => some (Value.int (zI z))) (show (0 : Int) = 0 from by (first | omega | rfl))⟩
        ·
          refine pw_iload_n dX10_input_46 rfl ?_
          refine pw_aload_n dX10_input_47 rfl ?_
          refine pw_get (v := .ref (B + 42)) okX10 (k := 45) (by decide) lkX10_134 hA.1 rfl dX10_input_48 ?_
          refine pw_iload_n dX10_input_51 rfl ?_
          refine pw_iald (g := (s.2 45)) (t := 0) rfl (mF45 (s := s) hA) (by omega) (by decide) dX10_input_52 ?_
          refine pw_iload_n dX10_input_53 rfl ?_
          refine pw_zisub dX10_input_54 ?_
          refine pw_icmp_lt (tgt := 62) dX10_input_55 rfl (by omega) (by omega) (fun c55 => ?_) (fun c55 => ?_)
          ·
            refine pw_iconst (v := zI (0)) dX10_input_62 (by decide) ?_
            refine pw_put (fs' := (moL B (va_up s.1 0 (0)))) okX10 (k := 0) (by decide) lkX10_173 rfl rfl rfl hA.1 (nlt rfl) rfl dX10_input_63 ?_
            have hA7 : mAt B (mV 0 (0) s) (va_up h B (pz_o 13 (moL B (va_up s.1 0 (0))))) := mAt_V hA
            have hF7 : mFr B h (va_up h B (pz_o 13 (moL B (va_up s.1 0 (0))))) := mFr_tr mFr_rf (mFr_up (k := 0) (by decide))
            revert hA7 hF7
            generalize (va_up h B (pz_o 13 (moL B (va_up s.1 0 (0))))) = h7
            intro hA7 hF7
            refine pw_aload_n dX10_input_66 rfl ?_
            refine pw_get (v := .int (zI (0))) okX10 (k := 0) (by decide) lkX10_173 hA7.1 rfl dX10_input_67 ?_
            refine pw_if_le (tgt := 77) dX10_input_70 rfl (by omega) (fun c70 => ?_) (fun c70 => ?_)
            ·
              exfalso
              omega
            · exfalso; omega
          ·
            refine pw_iconst (v := zI (1)) dX10_input_58 (by decide) ?_
            refine pw_goto (tgt := 63) dX10_input_59 rfl ?_
            refine pw_put (fs' := (moL B (va_up s.1 0 (1)))) okX10 (k := 0) (by decide) lkX10_173 rfl rfl rfl hA.1 (nlt rfl) rfl dX10_input_63 ?_
            have hA8 : mAt B (mV 0 (1) s) (va_up h B (pz_o 13 (moL B (va_up s.1 0 (1))))) := mAt_V hA
            have hF8 : mFr B h (va_up h B (pz_o 13 (moL B (va_up s.1 0 (1))))) := mFr_tr mFr_rf (mFr_up (k := 0) (by decide))
            revert hA8 hF8
            generalize (va_up h B (pz_o 13 (moL B (va_up s.1 0 (1))))) = h8
            intro hA8 hF8
            refine pw_aload_n dX10_input_66 rfl ?_
            refine pw_get (v := .int (zI (1))) okX10 (k := 0) (by decide) lkX10_173 hA8.1 rfl dX10_input_67 ?_
            refine pw_if_le (tgt := 77) dX10_input_70 rfl (by omega) (fun c70 => ?_) (fun c70 => ?_)
            · exfalso; omega
            ·
              refine pw_iconst (v := zI (0)) dX10_input_73 (by decide) ?_
              refine pw_goto (tgt := 93) dX10_input_74 rfl ?_
              exact pw_iret dX10_input_93 rfl (nle rfl) (nle rfl) ⟨⟨(mV 0 (1) s), hA8, (show (1 : Int) = 1 from by (first | omega | rfl)), hF8, rfl⟩, congrArg (fun z => some (Value.int (zI z))) (show (0 : Int) = 0 from by (first | omega | rfl))⟩
    ·
      refine pw_iconst (v := zI (0)) dX10_input_19 (by decide) ?_
      refine pw_goto (tgt := 32) dX10_input_20 rfl ?_
      refine pw_istore_n (lv' := [some (.ref B), some (.int (zI (p))), some (.int (zI (i))), some (.int (zI (0)))]) dX10_input_32 (by decide) rfl rfl ?_
      refine pw_aload_n dX10_input_33 rfl ?_
      refine pw_aload_n dX10_input_34 rfl ?_
      refine pw_iload_n dX10_input_35 rfl ?_
      refine pw_callV (As := [.int (zI (p))]) (b := B) (rm := rmD 0 0 0) (nR_noPane htr hA hu (by omega)) rfl hA.1 rfl rfl ywX10_noPane rfl cwX10_213 ⟨nle rfl, nle rfl⟩ (nle rfl) ⟨nle rfl, nle rfl⟩ dX10_input_36 ?_ (fun _ _ _ z => z.elim)
      intro r_9 h_9 n_9 hq _
      rw [hq.1, hq.2.1, hq.2.2]
      show pw E YX10_input _ _ 0 0 39 [some (.ref B), some (.int (zI (p))), some (.int (zI (i))), some (.int (zI (0)))] [.int (zI (mNo s (p))), .ref B] h n
      refine pw_if_ne (tgt := 58) dX10_input_39 rfl (by omega) (fun c39 => ?_) (fun c39 => ?_)
      ·
        refine pw_iconst (v := zI (1)) dX10_input_58 (by decide) ?_
        refine pw_goto (tgt := 63) dX10_input_59 rfl ?_
        refine pw_put (fs' := (moL B (va_up s.1 0 (1)))) okX10 (k := 0) (by decide) lkX10_173 rfl rfl rfl hA.1 (nlt rfl) rfl dX10_input_63 ?_
        have hA9 : mAt B (mV 0 (1) s) (va_up h B (pz_o 13 (moL B (va_up s.1 0 (1))))) := mAt_V hA
        have hF9 : mFr B h (va_up h B (pz_o 13 (moL B (va_up s.1 0 (1))))) := mFr_tr mFr_rf (mFr_up (k := 0) (by decide))
        revert hA9 hF9
        generalize (va_up h B (pz_o 13 (moL B (va_up s.1 0 (1))))) = h9
        intro hA9 hF9
        refine pw_aload_n dX10_input_66 rfl ?_
        refine pw_get (v := .int (zI (1))) okX10 (k := 0) (by decide) lkX10_173 hA9.1 rfl dX10_input_67 ?_
        refine pw_if_le (tgt := 77) dX10_input_70 rfl (by omega) (fun c70 => ?_) (fun c70 => ?_)
        · exfalso; omega
        ·
          refine pw_iconst (v := zI (0)) dX10_input_73 (by decide) ?_
          refine pw_goto (tgt := 93) dX10_input_74 rfl ?_
          exact pw_iret dX10_input_93 rfl (nle rfl) (nle rfl) ⟨⟨(mV 0 (1) s), hA9, (show (1 : Int) = 1 from by (first | omega | rfl)), hF9, rfl⟩, congrArg (fun z => some (Value.int (zI z))) (show (0 : Int) = 0 from by (first | omega | rfl))⟩
      ·
        refine pw_iload_n dX10_input_42 rfl ?_
        refine pw_if_lt (tgt := 58) dX10_input_43 rfl (by omega) (fun c43 => ?_) (fun c43 => ?_)
        ·
          refine pw_iconst (v := zI (1)) dX10_input_58 (by decide) ?_
          refine pw_goto (tgt := 63) dX10_input_59 rfl ?_
          refine pw_put (fs' := (moL B (va_up s.1 0 (1)))) okX10 (k := 0) (by decide) lkX10_173 rfl rfl rfl hA.1 (nlt rfl) rfl dX10_input_63 ?_
          have hA10 : mAt B (mV 0 (1) s) (va_up h B (pz_o 13 (moL B (va_up s.1 0 (1))))) := mAt_V hA
          have hF10 : mFr B h (va_up h B (pz_o 13 (moL B (va_up s.1 0 (1))))) := mFr_tr mFr_rf (mFr_up (k := 0) (by decide))
          revert hA10 hF10
          generalize (va_up h B (pz_o 13 (moL B (va_up s.1 0 (1))))) = h10
          intro hA10 hF10
          refine pw_aload_n dX10_input_66 rfl ?_
          refine pw_get (v := .int (zI (1))) okX10 (k := 0) (by decide) lkX10_173 hA10.1 rfl dX10_input_67 ?_
          refine pw_if_le (tgt := 77) dX10_input_70 rfl (by omega) (fun c70 => ?_) (fun c70 => ?_)
          · exfalso; omega
          ·
            refine pw_iconst (v := zI (0)) dX10_input_73 (by decide) ?_
            refine pw_goto (tgt := 93) dX10_input_74 rfl ?_
            exact pw_iret dX10_input_93 rfl (nle rfl) (nle rfl) ⟨⟨(mV 0 (1) s), hA10, (show (1 : Int) = 1 from by (first | omega | rfl)), hF10, rfl⟩, congrArg (fun z => some (Value.int (zI z))) (show (0 : Int) = 0 from by (first | omega | rfl))⟩
        ·
          refine pw_iload_n dX10_input_46 rfl ?_
          refine pw_aload_n dX10_input_47 rfl ?_
          refine pw_get (v := .ref (B + 42)) okX10 (k := 45) (by decide) lkX10_134 hA.1 rfl dX10_input_48 ?_
          refine pw_iload_n dX10_input_51 rfl ?_
          refine pw_iald (g := (s.2 45)) (t := 0) rfl (mF45 (s := s) hA) (by omega) (by decide) dX10_input_52 ?_
          refine pw_iload_n dX10_input_53 rfl ?_
          refine pw_zisub dX10_input_54 ?_
          refine pw_icmp_lt (tgt := 62) dX10_input_55 rfl (by omega) (by omega) (fun c55 => ?_) (fun c55 => ?_)
          ·
            refine pw_iconst (v := zI (0)) dX10_input_62 (by decide) ?_
            refine pw_put (fs' := (moL B (va_up s.1 0 (0)))) okX10 (k := 0) (by decide) lkX10_173 rfl rfl rfl hA.1 (nlt rfl) rfl dX10_input_63 ?_
            have hA11 : mAt B (mV 0 (0) s) (va_up h B (pz_o 13 (moL B (va_up s.1 0 (0))))) := mAt_V hA
            have hF11 : mFr B h (va_up h B (pz_o 13 (moL B (va_up s.1 0 (0))))) := mFr_tr mFr_rf (mFr_up (k := 0) (by decide))
            revert hA11 hF11
            generalize (va_up h B (pz_o 13 (moL B (va_up s.1 0 (0))))) = h11
            intro hA11 hF11
            refine pw_aload_n dX10_input_66 rfl ?_
            refine pw_get (v := .int (zI (0))) okX10 (k := 0) (by decide) lkX10_173 hA11.1 rfl dX10_input_67 ?_
            refine pw_if_le (tgt := 77) dX10_input_70 rfl (by omega) (fun c70 => ?_) (fun c70 => ?_)
            ·
              exfalso
              omega
            · exfalso; omega
          ·
            refine pw_iconst (v := zI (1)) dX10_input_58 (by decide) ?_
            refine pw_goto (tgt := 63) dX10_input_59 rfl ?_
            refine pw_put (fs' := (moL B (va_up s.1 0 (1)))) okX10 (k := 0) (by decide) lkX10_173 rfl rfl rfl hA.1 (nlt rfl) rfl dX10_input_63 ?_
            have hA12 : mAt B (mV 0 (1) s) (va_up h B (pz_o 13 (moL B (va_up s.1 0 (1))))) := mAt_V hA
            have hF12 : mFr B h (va_up h B (pz_o 13 (moL B (va_up s.1 0 (1))))) := mFr_tr mFr_rf (mFr_up (k := 0) (by decide))
            revert hA12 hF12
            generalize (va_up h B (pz_o 13 (moL B (va_up s.1 0 (1))))) = h12
            intro hA12 hF12
            refine pw_aload_n dX10_input_66 rfl ?_
            refine pw_get (v := .int (zI (1))) okX10 (k := 0) (by decide) lkX10_173 hA12.1 rfl dX10_input_67 ?_
            refine pw_if_le (tgt := 77) dX10_input_70 rfl (by omega) (fun c70 => ?_) (fun c70 => ?_)
            · exfalso; omega
            ·
              refine pw_iconst (v := zI (0)) dX10_input_73 (by decide) ?_
              refine pw_goto (tgt := 93) dX10_input_74 rfl ?_
              exact pw_iret dX10_input_93 rfl (nle rfl) (nle rfl) ⟨⟨(mV 0 (1) s), hA12, (show (1 : Int) = 1 from by (first | omega | rfl)), hF12, rfl⟩, congrArg (fun z => some (Value.int (zI z))) (show (0 : Int) = 0 from by (first | omega | rfl))⟩
set_option maxHeartbeats 1000000 in
set_option maxRecDepth 100000 in
/-- about(p, k) -/
theorem nF_about {E : pw_E} (htr : E.1.stackTraces = false) {h : pz_H} {n : Nat} {B : Nat} {s : mS} (hA : mAt B s h) {p k : Int}  {w H : Int} (hw : 8 ≤ w ∧ w ≤ 40) (hH : 4 ≤ H ∧ H ≤ 16) (hn : mN w H s) (h_p : -2147483648 ≤ p ∧ p < 2147483648) (h_k : -2147483648 ≤ k ∧ k < 2147483648) : pw_M E yX10_about YX10_about (rmD 1 0 0) [.ref B, .int (zI (p)), .int (zI (k))] h n (fun r0 h' n' => (∃ s', mAt B s' h' ∧ s'.1 0 = (if p = 0 then (if 0 ≤ k ∧ k ≤ 10 then 0 else 2) else 1) ∧ mFr B h h' ∧ n' = n) ∧ r0 = some (.int (zI (if p = 0 ∧ k = 2 then w else if p = 0 ∧ k = 3 then H else 0)))) (fun _ _ _ => False) := by
  have v0 := mNv_0 hn
  have v1 := mNv_1 hn
  have v2 := mNv_2 hn
  have v14 := mNv_14 hn
  have v47 := mNv_47 hn
  have v48 := mNv_48 hn
  have v49 := mNv_49 hn
  have v53 := mNv_53 hn
  have v54 := mNv_54 hn
  have v55 := mNv_55 hn
  have v56 := mNv_56 hn
  have v57 := mNv_57 hn
  have hu := mN_us hn
  have hnb : 0 ≤ mNo s p ∧ mNo s p ≤ 1 := mNo_b
  refine pw_M_of (lv := [some (.ref B), some (.int (zI (p))), some (.int (zI (k))), none]) (by decide) rfl rfl htr (nle rfl) rfl (fun L => ?_)
  refine pw_aload_n dX10_about_0 rfl ?_
  refine pw_aload_n dX10_about_1 rfl ?_
  refine pw_iload_n dX10_about_2 rfl ?_
  refine pw_callV (As := [.int (zI (p))]) (b := B) (rm := rmD 0 0 0) (nR_noPane htr hA hu (by omega)) rfl hA.1 rfl rfl ywX10_noPane rfl cwX10_213 ⟨nle rfl, nle rfl⟩ (nle rfl) ⟨nle rfl, nle rfl⟩ dX10_about_3 ?_ (fun _ _ _ z => z.elim)
  intro r_9 h_9 n_9 hq _
  rw [hq.1, hq.2.1, hq.2.2]
  show pw E YX10_about _ _ 0 0 6 [some (.ref B), some (.int (zI (p))), some (.int (zI (k))), none] [.int (zI (mNo s (p))), .ref B] h n
  refine pw_if_eq (tgt := 13) dX10_about_6 rfl (by omega) (fun c6 => ?_) (fun c6 => ?_)
  ·
    have hp0 : p = 0 := by rw [mN_no hn] at c6; revert c6; split <;> omega
    have ep : p.toNat = 0 := by omega
    have g17 : s.2 17 p.toNat = 0 := by rw [ep]; exact mN_17 hn
    have g10 : s.2 10 p.toNat = 0 := by rw [ep]; exact mN_10 hn
    have g11 : s.2 11 p.toNat = 0 := by rw [ep]; exact mN_11 hn
    have g18 : s.2 18 p.toNat = w := by rw [ep]; exact mN_18 hn
    have g19 : s.2 19 p.toNat = H := by rw [ep]; exact mN_19 hn
    have g24 : s.2 24 p.toNat = 0 := by rw [ep]; exact mN_24 hn
    have g23 : s.2 23 p.toNat = 0 := by rw [ep]; exact mN_23 hn
    have g31 : s.2 31 p.toNat = 0 := by rw [ep]; exact mN_31 hn
    have g42 : s.2 42 p.toNat = 0 := by rw [ep]; exact mN_42 hn
    have g25 : s.2 25 p.toNat = 0 := by rw [ep]; exact mN_25 hn
    have g43 : s.2 43 p.toNat = 0 := by rw [ep]; exact mN_43 hn
    have g45 : s.2 45 p.toNat = 0 := by rw [ep]; exact mN_45 hn
    have z10 : s.2 10 (s.2 17 p.toNat).toNat = 0 := by rw [g17]; exact mN_10 hn
    have z11 : s.2 11 (s.2 17 p.toNat).toNat = 0 := by rw [g17]; exact mN_11 hn
    refine pw_iload_n dX10_about_13 rfl ?_
    refine pw_if_lt (tgt := 23) dX10_about_14 rfl (by omega) (fun c14 => ?_) (fun c14 => ?_)
    ·
      refine pw_iconst (v := zI (2)) dX10_about_23 (by decide) ?_
      refine pw_goto (tgt := 28) dX10_about_24 rfl ?_
      refine pw_put (fs' := (moL B (va_up s.1 0 (2)))) okX10 (k := 0) (by decide) lkX10_173 rfl rfl rfl hA.1 (nlt rfl) rfl dX10_about_28 ?_
      have hA1 : mAt B (mV 0 (2) s) (va_up h B (pz_o 13 (moL B (va_up s.1 0 (2))))) := mAt_V hA
      have hF1 : mFr B h (va_up h B (pz_o 13 (moL B (va_up s.1 0 (2))))) := mFr_tr mFr_rf (mFr_up (k := 0) (by decide))
      revert hA1 hF1
      generalize (va_up h B (pz_o 13 (moL B (va_up s.1 0 (2))))) = h1
      intro hA1 hF1
      refine pw_aload_n dX10_about_31 rfl ?_
      refine pw_get (v := .int (zI (2))) okX10 (k := 0) (by decide) lkX10_173 hA1.1 rfl dX10_about_32 ?_
      refine pw_if_le (tgt := 40) dX10_about_35 rfl (by omega) (fun c35 => ?_) (fun c35 => ?_)
      · exfalso; omega
      ·
        refine pw_iconst (v := zI (0)) dX10_about_38 (by decide) ?_
        exact pw_iret dX10_about_39 rfl (nle rfl) (nle rfl) ⟨⟨(mV 0 (2) s), hA1, (show (2 : Int) = if p = 0 then (if 0 ≤ k ∧ k ≤ 10 then 0 else 2) else 1 from by (first | omega | rfl)), hF1, rfl⟩, congrArg (fun z => some (Value.int (zI z))) (show (0 : Int) = if p = 0 ∧ k = 2 then w else if p = 0 ∧ k = 3 then H else 0 from by (first | omega | rfl))⟩
    ·
      refine pw_iload_n dX10_about_17 rfl ?_
      refine pw_bipush (v := zI (10)) dX10_about_18 (by decide) ?_
      refine pw_icmp_le (tgt := 27) dX10_about_20 rfl (by omega) (by omega) (fun c20 => ?_) (fun c20 => ?_)
      ·
        refine pw_iconst (v := zI (0)) dX10_about_27 (by decide) ?_
        refine pw_put (fs' := (moL B (va_up s.1 0 (0)))) okX10 (k := 0) (by decide) lkX10_173 rfl rfl rfl hA.1 (nlt rfl) rfl dX10_about_28 ?_
        have hA2 : mAt B (mV 0 (0) s) (va_up h B (pz_o 13 (moL B (va_up s.1 0 (0))))) := mAt_V hA
        have hF2 : mFr B h (va_up h B (pz_o 13 (moL B (va_up s.1 0 (0))))) := mFr_tr mFr_rf (mFr_up (k := 0) (by decide))
        revert hA2 hF2
        generalize (va_up h B (pz_o 13 (moL B (va_up s.1 0 (0))))) = h2
        intro hA2 hF2
        refine pw_aload_n dX10_about_31 rfl ?_
        refine pw_get (v := .int (zI (0))) okX10 (k := 0) (by decide) lkX10_173 hA2.1 rfl dX10_about_32 ?_
        refine pw_if_le (tgt := 40) dX10_about_35 rfl (by omega) (fun c35 => ?_) (fun c35 => ?_)
        ·
          refine pw_aload_n dX10_about_40 rfl ?_
          refine pw_get (v := .ref (B + 14)) okX10 (k := 17) (by decide) lkX10_50 hA2.1 rfl dX10_about_41 ?_
          refine pw_iload_n dX10_about_44 rfl ?_
          refine pw_iald (g := (s.2 17)) (t := 0) rfl (mF17 (s := (mV 0 (0) s)) hA2) (by omega) (by decide) dX10_about_45 ?_
          refine pw_istore_n (lv' := [some (.ref B), some (.int (zI (p))), some (.int (zI (k))), some (.int (zI ((s.2 17) (p).toNat)))]) dX10_about_46 (by decide) rfl rfl ?_
          refine pw_iload_n dX10_about_47 rfl ?_
          refine pw_iconst (v := zI (4)) dX10_about_48 (by decide) ?_
          refine pw_icmp_ge (tgt := 100) dX10_about_49 rfl (by omega) (by omega) (fun c49 => ?_) (fun c49 => ?_)
          ·
            refine pw_iload_n dX10_about_100 rfl ?_
            refine pw_bipush (v := zI (8)) dX10_about_101 (by decide) ?_
            refine pw_icmp_ge (tgt := 164) dX10_about_103 rfl (by omega) (by omega) (fun c103 => ?_) (fun c103 => ?_)
            ·
              refine pw_iload_n dX10_about_164 rfl ?_
              refine pw_bipush (v := zI (8)) dX10_about_165 (by decide) ?_
              refine pw_icmp_ne (tgt := 179) dX10_about_167 rfl (by omega) (by omega) (fun c167 => ?_) (fun c167 => ?_)
              ·
                refine pw_iload_n dX10_about_179 rfl ?_
                refine pw_bipush (v := zI (9)) dX10_about_180 (by decide) ?_
                refine pw_icmp_ne (tgt := 202) dX10_about_182 rfl (by omega) (by omega) (fun c182 => ?_) (fun c182 => ?_)
                ·
                  refine pw_aload_n dX10_about_202 rfl ?_
                  refine pw_get (v := .ref (B + 42)) okX10 (k := 45) (by decide) lkX10_134 hA2.1 rfl dX10_about_203 ?_
                  refine pw_iload_n dX10_about_206 rfl ?_
                  refine pw_iald (g := (s.2 45)) (t := 0) rfl (mF45 (s := (mV 0 (0) s)) hA2) (by omega) (by decide) dX10_about_207 ?_
                  exact pw_iret dX10_about_208 rfl (nle rfl) (nle rfl) ⟨⟨(mV 0 (0) s), hA2, (show (0 : Int) = if p = 0 then (if 0 ≤ k ∧ k ≤ 10 then 0 else 2) else 1 from by (first | omega | rfl)), hF2, rfl⟩, congrArg (fun z => some (Value.int (zI z))) (show ((s.2 45) (p).toNat : Int) = if p = 0 ∧ k = 2 then w else if p = 0 ∧ k = 3 then H else 0 from by (first | omega | rfl))⟩
                ·
                  refine pw_aload_n dX10_about_185 rfl ?_
                  refine pw_get (v := .ref (B + 40)) okX10 (k := 43) (by decide) lkX10_128 hA2.1 rfl dX10_about_186 ?_
                  refine pw_iload_n dX10_about_189 rfl ?_
                  refine pw_zald (g := (s.2 43)) (t := 1) rfl (mF43 (s := (mV 0 (0) s)) hA2) (by omega) (by decide) dX10_about_190 ?_
                  refine pw_if_eq (tgt := 198) dX10_about_191 rfl (by omega) (fun c191 => ?_) (fun c191 => ?_)
                  ·
                    refine pw_iconst (v := zI (0)) dX10_about_198 (by decide) ?_
                    refine pw_goto (tgt := 208) dX10_about_199 rfl ?_
                    exact pw_iret dX10_about_208 rfl (nle rfl) (nle rfl) ⟨⟨(mV 0 (0) s), hA2, (show (0 : Int) = if p = 0 then (if 0 ≤ k ∧ k ≤ 10 then 0 else 2) else 1 from by (first | omega | rfl)), hF2, rfl⟩, congrArg (fun z => some (Value.int (zI z))) (show (0 : Int) = if p = 0 ∧ k = 2 then w else if p = 0 ∧ k = 3 then H else 0 from by (first | omega | rfl))⟩
                  ·
                    refine pw_iconst (v := zI (1)) dX10_about_194 (by decide) ?_
                    refine pw_goto (tgt := 208) dX10_about_195 rfl ?_
                    exact pw_iret dX10_about_208 rfl (nle rfl) (nle rfl) ⟨⟨(mV 0 (0) s), hA2, (show (0 : Int) = if p = 0 then (if 0 ≤ k ∧ k ≤ 10 then 0 else 2) else 1 from by (first | omega | rfl)), hF2, rfl⟩, congrArg (fun z => some (Value.int (zI z))) (show (1 : Int) = if p = 0 ∧ k = 2 then w else if p = 0 ∧ k = 3 then H else 0 from by (first | omega | rfl))⟩
              ·
                refine pw_aload_n dX10_about_170 rfl ?_
                refine pw_get (v := .ref (B + 22)) okX10 (k := 25) (by decide) lkX10_74 hA2.1 rfl dX10_about_171 ?_
                refine pw_iload_n dX10_about_174 rfl ?_
                refine pw_iald (g := (s.2 25)) (t := 0) rfl (mF25 (s := (mV 0 (0) s)) hA2) (by omega) (by decide) dX10_about_175 ?_
                refine pw_goto (tgt := 208) dX10_about_176 rfl ?_
                exact pw_iret dX10_about_208 rfl (nle rfl) (nle rfl) ⟨⟨(mV 0 (0) s), hA2, (show (0 : Int) = if p = 0 then (if 0 ≤ k ∧ k ≤ 10 then 0 else 2) else 1 from by (first | omega | rfl)), hF2, rfl⟩, congrArg (fun z => some (Value.int (zI z))) (show ((s.2 25) (p).toNat : Int) = if p = 0 ∧ k = 2 then w else if p = 0 ∧ k = 3 then H else 0 from by (first | omega | rfl))⟩
            ·
              refine pw_iload_n dX10_about_106 rfl ?_
              refine pw_iconst (v := zI (4)) dX10_about_107 (by decide) ?_
              refine pw_icmp_ne (tgt := 120) dX10_about_108 rfl (by omega) (by omega) (fun c108 => ?_) (fun c108 => ?_)
              ·
                refine pw_iload_n dX10_about_120 rfl ?_
                refine pw_iconst (v := zI (5)) dX10_about_121 (by decide) ?_
                refine pw_icmp_ne (tgt := 134) dX10_about_122 rfl (by omega) (by omega) (fun c122 => ?_) (fun c122 => ?_)
                ·
                  refine pw_iload_n dX10_about_134 rfl ?_
                  refine pw_bipush (v := zI (6)) dX10_about_135 (by decide) ?_
                  refine pw_icmp_ne (tgt := 157) dX10_about_137 rfl (by omega) (by omega) (fun c137 => ?_) (fun c137 => ?_)
                  ·
                    refine pw_aload_n dX10_about_157 rfl ?_
                    refine pw_get (v := .ref (B + 39)) okX10 (k := 42) (by decide) lkX10_125 hA2.1 rfl dX10_about_158 ?_
                    refine pw_iload_n dX10_about_161 rfl ?_
                    refine pw_iald (g := (s.2 42)) (t := 0) rfl (mF42 (s := (mV 0 (0) s)) hA2) (by omega) (by decide) dX10_about_162 ?_
                    exact pw_iret dX10_about_163 rfl (nle rfl) (nle rfl) ⟨⟨(mV 0 (0) s), hA2, (show (0 : Int) = if p = 0 then (if 0 ≤ k ∧ k ≤ 10 then 0 else 2) else 1 from by (first | omega | rfl)), hF2, rfl⟩, congrArg (fun z => some (Value.int (zI z))) (show ((s.2 42) (p).toNat : Int) = if p = 0 ∧ k = 2 then w else if p = 0 ∧ k = 3 then H else 0 from by (first | omega | rfl))⟩
                  ·
                    refine pw_aload_n dX10_about_140 rfl ?_
                    refine pw_get (v := .ref (B + 28)) okX10 (k := 31) (by decide) lkX10_92 hA2.1 rfl dX10_about_141 ?_
                    refine pw_iload_n dX10_about_144 rfl ?_
                    refine pw_zald (g := (s.2 31)) (t := 1) rfl (mF31 (s := (mV 0 (0) s)) hA2) (by omega) (by decide) dX10_about_145 ?_
                    refine pw_if_eq (tgt := 153) dX10_about_146 rfl (by omega) (fun c146 => ?_) (fun c146 => ?_)
                    ·
                      refine pw_iconst (v := zI (0)) dX10_about_153 (by decide) ?_
                      refine pw_goto (tgt := 163) dX10_about_154 rfl ?_
                      exact pw_iret dX10_about_163 rfl (nle rfl) (nle rfl) ⟨⟨(mV 0 (0) s), hA2, (show (0 : Int) = if p = 0 then (if 0 ≤ k ∧ k ≤ 10 then 0 else 2) else 1 from by (first | omega | rfl)), hF2, rfl⟩, congrArg (fun z => some (Value.int (zI z))) (show (0 : Int) = if p = 0 ∧ k = 2 then w else if p = 0 ∧ k = 3 then H else 0 from by (first | omega | rfl))⟩
                    ·
                      refine pw_iconst (v := zI (1)) dX10_about_149 (by decide) ?_
                      refine pw_goto (tgt := 163) dX10_about_150 rfl ?_
                      exact pw_iret dX10_about_163 rfl (nle rfl) (nle rfl) ⟨⟨(mV 0 (0) s), hA2, (show (0 : Int) = if p = 0 then (if 0 ≤ k ∧ k ≤ 10 then 0 else 2) else 1 from by (first | omega | rfl)), hF2, rfl⟩, congrArg (fun z => some (Value.int (zI z))) (show (1 : Int) = if p = 0 ∧ k = 2 then w else if p = 0 ∧ k = 3 then H else 0 from by (first | omega | rfl))⟩
                ·
                  refine pw_aload_n dX10_about_125 rfl ?_
                  refine pw_get (v := .ref (B + 20)) okX10 (k := 23) (by decide) lkX10_68 hA2.1 rfl dX10_about_126 ?_
                  refine pw_iload_n dX10_about_129 rfl ?_
                  refine pw_iald (g := (s.2 23)) (t := 0) rfl (mF23 (s := (mV 0 (0) s)) hA2) (by omega) (by decide) dX10_about_130 ?_
                  refine pw_goto (tgt := 163) dX10_about_131 rfl ?_
                  exact pw_iret dX10_about_163 rfl (nle rfl) (nle rfl) ⟨⟨(mV 0 (0) s), hA2, (show (0 : Int) = if p = 0 then (if 0 ≤ k ∧ k ≤ 10 then 0 else 2) else 1 from by (first | omega | rfl)), hF2, rfl⟩, congrArg (fun z => some (Value.int (zI z))) (show ((s.2 23) (p).toNat : Int) = if p = 0 ∧ k = 2 then w else if p = 0 ∧ k = 3 then H else 0 from by (first | omega | rfl))⟩
              ·
                refine pw_aload_n dX10_about_111 rfl ?_
                refine pw_get (v := .ref (B + 21)) okX10 (k := 24) (by decide) lkX10_71 hA2.1 rfl dX10_about_112 ?_
                refine pw_iload_n dX10_about_115 rfl ?_
                refine pw_iald (g := (s.2 24)) (t := 0) rfl (mF24 (s := (mV 0 (0) s)) hA2) (by omega) (by decide) dX10_about_116 ?_
                refine pw_goto (tgt := 163) dX10_about_117 rfl ?_
                exact pw_iret dX10_about_163 rfl (nle rfl) (nle rfl) ⟨⟨(mV 0 (0) s), hA2, (show (0 : Int) = if p = 0 then (if 0 ≤ k ∧ k ≤ 10 then 0 else 2) else 1 from by (first | omega | rfl)), hF2, rfl⟩, congrArg (fun z => some (Value.int (zI z))) (show ((s.2 24) (p).toNat : Int) = if p = 0 ∧ k = 2 then w else if p = 0 ∧ k = 3 then H else 0 from by (first | omega | rfl))⟩
          ·
            refine pw_iload_n dX10_about_52 rfl ?_
            refine pw_if_ne (tgt := 65) dX10_about_53 rfl (by omega) (fun c53 => ?_) (fun c53 => ?_)
            ·
              refine pw_iload_n dX10_about_65 rfl ?_
              refine pw_iconst (v := zI (1)) dX10_about_66 (by decide) ?_
              refine pw_icmp_ne (tgt := 79) dX10_about_67 rfl (by omega) (by omega) (fun c67 => ?_) (fun c67 => ?_)
              ·
                refine pw_iload_n dX10_about_79 rfl ?_
                refine pw_iconst (v := zI (2)) dX10_about_80 (by decide) ?_
                refine pw_icmp_ne (tgt := 93) dX10_about_81 rfl (by omega) (by omega) (fun c81 => ?_) (fun c81 => ?_)
                ·
                  refine pw_aload_n dX10_about_93 rfl ?_
                  refine pw_get (v := .ref (B + 16)) okX10 (k := 19) (by decide) lkX10_56 hA2.1 rfl dX10_about_94 ?_
                  refine pw_iload_n dX10_about_97 rfl ?_
                  refine pw_iald (g := (s.2 19)) (t := 0) rfl (mF19 (s := (mV 0 (0) s)) hA2) (by omega) (by decide) dX10_about_98 ?_
                  exact pw_iret dX10_about_99 rfl (nle rfl) (nle rfl) ⟨⟨(mV 0 (0) s), hA2, (show (0 : Int) = if p = 0 then (if 0 ≤ k ∧ k ≤ 10 then 0 else 2) else 1 from by (first | omega | rfl)), hF2, rfl⟩, congrArg (fun z => some (Value.int (zI z))) (show ((s.2 19) (p).toNat : Int) = if p = 0 ∧ k = 2 then w else if p = 0 ∧ k = 3 then H else 0 from by (first | omega | rfl))⟩
                ·
                  refine pw_aload_n dX10_about_84 rfl ?_
                  refine pw_get (v := .ref (B + 15)) okX10 (k := 18) (by decide) lkX10_53 hA2.1 rfl dX10_about_85 ?_
                  refine pw_iload_n dX10_about_88 rfl ?_
                  refine pw_iald (g := (s.2 18)) (t := 0) rfl (mF18 (s := (mV 0 (0) s)) hA2) (by omega) (by decide) dX10_about_89 ?_
                  refine pw_goto (tgt := 99) dX10_about_90 rfl ?_
                  exact pw_iret dX10_about_99 rfl (nle rfl) (nle rfl) ⟨⟨(mV 0 (0) s), hA2, (show (0 : Int) = if p = 0 then (if 0 ≤ k ∧ k ≤ 10 then 0 else 2) else 1 from by (first | omega | rfl)), hF2, rfl⟩, congrArg (fun z => some (Value.int (zI z))) (show ((s.2 18) (p).toNat : Int) = if p = 0 ∧ k = 2 then w else if p = 0 ∧ k = 3 then H else 0 from by (first | omega | rfl))⟩
              ·
                refine pw_aload_n dX10_about_70 rfl ?_
                refine pw_get (v := .ref (B + 9)) okX10 (k := 11) (by decide) lkX10_35 hA2.1 rfl dX10_about_71 ?_
                refine pw_iload_n dX10_about_74 rfl ?_
                refine pw_iald (g := (s.2 11)) (t := 0) rfl (mF11 (s := (mV 0 (0) s)) hA2) (by omega) (by decide) dX10_about_75 ?_
                refine pw_goto (tgt := 99) dX10_about_76 rfl ?_
                exact pw_iret dX10_about_99 rfl (nle rfl) (nle rfl) ⟨⟨(mV 0 (0) s), hA2, (show (0 : Int) = if p = 0 then (if 0 ≤ k ∧ k ≤ 10 then 0 else 2) else 1 from by (first | omega | rfl)), hF2, rfl⟩, congrArg (fun z => some (Value.int (zI z))) (show ((s.2 11) ((s.2 17) (p).toNat).toNat : Int) = if p = 0 ∧ k = 2 then w else if p = 0 ∧ k = 3 then H else 0 from by (first | omega | rfl))⟩
            ·
              refine pw_aload_n dX10_about_56 rfl ?_
              refine pw_get (v := .ref (B + 8)) okX10 (k := 10) (by decide) lkX10_32 hA2.1 rfl dX10_about_57 ?_
              refine pw_iload_n dX10_about_60 rfl ?_
              refine pw_iald (g := (s.2 10)) (t := 0) rfl (mF10 (s := (mV 0 (0) s)) hA2) (by omega) (by decide) dX10_about_61 ?_
              refine pw_goto (tgt := 99) dX10_about_62 rfl ?_
              exact pw_iret dX10_about_99 rfl (nle rfl) (nle rfl) ⟨⟨(mV 0 (0) s), hA2, (show (0 : Int) = if p = 0 then (if 0 ≤ k ∧ k ≤ 10 then 0 else 2) else 1 from by (first | omega | rfl)), hF2, rfl⟩, congrArg (fun z => some (Value.int (zI z))) (show ((s.2 10) ((s.2 17) (p).toNat).toNat : Int) = if p = 0 ∧ k = 2 then w else if p = 0 ∧ k = 3 then H else 0 from by (first | omega | rfl))⟩
        · exfalso; omega
      ·
        refine pw_iconst (v := zI (2)) dX10_about_23 (by decide) ?_
        refine pw_goto (tgt := 28) dX10_about_24 rfl ?_
        refine pw_put (fs' := (moL B (va_up s.1 0 (2)))) okX10 (k := 0) (by decide) lkX10_173 rfl rfl rfl hA.1 (nlt rfl) rfl dX10_about_28 ?_
        have hA3 : mAt B (mV 0 (2) s) (va_up h B (pz_o 13 (moL B (va_up s.1 0 (2))))) := mAt_V hA
        have hF3 : mFr B h (va_up h B (pz_o 13 (moL B (va_up s.1 0 (2))))) := mFr_tr mFr_rf (mFr_up (k := 0) (by decide))
        revert hA3 hF3
        generalize (va_up h B (pz_o 13 (moL B (va_up s.1 0 (2))))) = h3
        intro hA3 hF3
        refine pw_aload_n dX10_about_31 rfl ?_
        refine pw_get (v := .int (zI (2))) okX10 (k := 0) (by decide) lkX10_173 hA3.1 rfl dX10_about_32 ?_
        refine pw_if_le (tgt := 40) dX10_about_35 rfl (by omega) (fun c35 => ?_) (fun c35 => ?_)
        · exfalso; omega
        ·
          refine pw_iconst (v := zI (0)) dX10_about_38 (by decide) ?_
          exact pw_iret dX10_about_39 rfl (nle rfl) (nle rfl) ⟨⟨(mV 0 (2) s), hA3, (show (2 : Int) = if p = 0 then (if 0 ≤ k ∧ k ≤ 10 then 0 else 2) else 1 from by (first | omega | rfl)), hF3, rfl⟩, congrArg (fun z => some (Value.int (zI z))) (show (0 : Int) = if p = 0 ∧ k = 2 then w else if p = 0 ∧ k = 3 then H else 0 from by (first | omega | rfl))⟩
  ·
    have hp0 : ¬ p = 0 := by rw [mN_no hn] at c6; revert c6; split <;> omega
    refine pw_iconst (v := zI (1)) dX10_about_9 (by decide) ?_
    refine pw_goto (tgt := 28) dX10_about_10 rfl ?_
    refine pw_put (fs' := (moL B (va_up s.1 0 (1)))) okX10 (k := 0) (by decide) lkX10_173 rfl rfl rfl hA.1 (nlt rfl) rfl dX10_about_28 ?_
    have hA4 : mAt B (mV 0 (1) s) (va_up h B (pz_o 13 (moL B (va_up s.1 0 (1))))) := mAt_V hA
    have hF4 : mFr B h (va_up h B (pz_o 13 (moL B (va_up s.1 0 (1))))) := mFr_tr mFr_rf (mFr_up (k := 0) (by decide))
    revert hA4 hF4
    generalize (va_up h B (pz_o 13 (moL B (va_up s.1 0 (1))))) = h4
    intro hA4 hF4
    refine pw_aload_n dX10_about_31 rfl ?_
    refine pw_get (v := .int (zI (1))) okX10 (k := 0) (by decide) lkX10_173 hA4.1 rfl dX10_about_32 ?_
    refine pw_if_le (tgt := 40) dX10_about_35 rfl (by omega) (fun c35 => ?_) (fun c35 => ?_)
    · exfalso; omega
    ·
      refine pw_iconst (v := zI (0)) dX10_about_38 (by decide) ?_
      exact pw_iret dX10_about_39 rfl (nle rfl) (nle rfl) ⟨⟨(mV 0 (1) s), hA4, (show (1 : Int) = if p = 0 then (if 0 ≤ k ∧ k ≤ 10 then 0 else 2) else 1 from by (first | omega | rfl)), hF4, rfl⟩, congrArg (fun z => some (Value.int (zI z))) (show (0 : Int) = if p = 0 ∧ k = 2 then w else if p = 0 ∧ k = 3 then H else 0 from by (first | omega | rfl))⟩
theorem mN_see {w H : Int} {s : mS} (hn : mN w H s) : mSee s = 1 := by
  unfold mSee
  rw [mNv_47 hn]
  exact if_pos ⟨mN_34 hn, mN_43 hn⟩
set_option maxHeartbeats 1000000 in
set_option maxRecDepth 100000 in
/-- count(k) -/
theorem nF_count {E : pw_E} (htr : E.1.stackTraces = false) {h : pz_H} {n : Nat} {B : Nat} {s : mS} (hA : mAt B s h) {k : Int}  {w H : Int} (hw : 8 ≤ w ∧ w ≤ 40) (hH : 4 ≤ H ∧ H ≤ 16) (hn : mN w H s) (h_k : -2147483648 ≤ k ∧ k < 2147483648) : pw_M E yX10_count YX10_count (rmD 1 0 0) [.ref B, .int (zI (k))] h n (fun r0 h' n' => (∃ s', mAt B s' h' ∧ s'.1 0 = (if 0 ≤ k ∧ k ≤ 5 then 0 else 1) ∧ mFr B h h' ∧ n' = n) ∧ r0 = some (.int (zI (if k = 0 ∨ k = 4 then 1 else 0)))) (fun _ _ _ => False) := by
  have v0 := mNv_0 hn
  have v1 := mNv_1 hn
  have v2 := mNv_2 hn
  have v14 := mNv_14 hn
  have v47 := mNv_47 hn
  have v48 := mNv_48 hn
  have v49 := mNv_49 hn
  have v53 := mNv_53 hn
  have v54 := mNv_54 hn
  have v55 := mNv_55 hn
  have v56 := mNv_56 hn
  have v57 := mNv_57 hn
  have hu := mN_us hn
  refine pw_M_of (lv := [some (.ref B), some (.int (zI (k))), none]) (by decide) rfl rfl htr (nle rfl) rfl (fun L => ?_)
  refine pw_aload_n dX10_count_0 rfl ?_
  refine pw_iload_n dX10_count_1 rfl ?_
  refine pw_if_lt (tgt := 10) dX10_count_2 rfl (by omega) (fun c2 => ?_) (fun c2 => ?_)
  ·
    refine pw_iconst (v := zI (1)) dX10_count_10 (by decide) ?_
    refine pw_goto (tgt := 15) dX10_count_11 rfl ?_
    refine pw_put (fs' := (moL B (va_up s.1 0 (1)))) okX10 (k := 0) (by decide) lkX10_173 rfl rfl rfl hA.1 (nlt rfl) rfl dX10_count_15 ?_
    have hA1 : mAt B (mV 0 (1) s) (va_up h B (pz_o 13 (moL B (va_up s.1 0 (1))))) := mAt_V hA
    have hF1 : mFr B h (va_up h B (pz_o 13 (moL B (va_up s.1 0 (1))))) := mFr_tr mFr_rf (mFr_up (k := 0) (by decide))
    revert hA1 hF1
    generalize (va_up h B (pz_o 13 (moL B (va_up s.1 0 (1))))) = h1
    intro hA1 hF1
    refine pw_aload_n dX10_count_18 rfl ?_
    refine pw_get (v := .int (zI (1))) okX10 (k := 0) (by decide) lkX10_173 hA1.1 rfl dX10_count_19 ?_
    refine pw_if_le (tgt := 27) dX10_count_22 rfl (by omega) (fun c22 => ?_) (fun c22 => ?_)
    · exfalso; omega
    ·
      refine pw_iconst (v := zI (0)) dX10_count_25 (by decide) ?_
      exact pw_iret dX10_count_26 rfl (nle rfl) (nle rfl) ⟨⟨(mV 0 (1) s), hA1, (show (1 : Int) = if 0 ≤ k ∧ k ≤ 5 then 0 else 1 from by (first | omega | rfl)), hF1, rfl⟩, congrArg (fun z => some (Value.int (zI z))) (show (0 : Int) = if k = 0 ∨ k = 4 then 1 else 0 from by (first | omega | rfl))⟩
  ·
    refine pw_iload_n dX10_count_5 rfl ?_
    refine pw_iconst (v := zI (5)) dX10_count_6 (by decide) ?_
    refine pw_icmp_le (tgt := 14) dX10_count_7 rfl (by omega) (by omega) (fun c7 => ?_) (fun c7 => ?_)
    ·
      refine pw_iconst (v := zI (0)) dX10_count_14 (by decide) ?_
      refine pw_put (fs' := (moL B (va_up s.1 0 (0)))) okX10 (k := 0) (by decide) lkX10_173 rfl rfl rfl hA.1 (nlt rfl) rfl dX10_count_15 ?_
      have hA2 : mAt B (mV 0 (0) s) (va_up h B (pz_o 13 (moL B (va_up s.1 0 (0))))) := mAt_V hA
      have hF2 : mFr B h (va_up h B (pz_o 13 (moL B (va_up s.1 0 (0))))) := mFr_tr mFr_rf (mFr_up (k := 0) (by decide))
      revert hA2 hF2
      generalize (va_up h B (pz_o 13 (moL B (va_up s.1 0 (0))))) = h2
      intro hA2 hF2
      refine pw_aload_n dX10_count_18 rfl ?_
      refine pw_get (v := .int (zI (0))) okX10 (k := 0) (by decide) lkX10_173 hA2.1 rfl dX10_count_19 ?_
      refine pw_if_le (tgt := 27) dX10_count_22 rfl (by omega) (fun c22 => ?_) (fun c22 => ?_)
      ·
        have g17 : s.2 17 (s.1 47).toNat = 0 := by rw [v47]; exact mN_17 hn
        have g24 : s.2 24 (s.1 47).toNat = 0 := by rw [v47]; exact mN_24 hn
        have g23 : s.2 23 (s.1 47).toNat = 0 := by rw [v47]; exact mN_23 hn
        have z10 : s.2 10 (s.2 17 (s.1 47).toNat).toNat = 0 := by rw [g17]; exact mN_10 hn
        have z11 : s.2 11 (s.2 17 (s.1 47).toNat).toNat = 0 := by rw [g17]; exact mN_11 hn
        refine pw_aload_n dX10_count_27 rfl ?_
        refine pw_get (v := .ref (B + 14)) okX10 (k := 17) (by decide) lkX10_50 hA2.1 rfl dX10_count_28 ?_
        refine pw_aload_n dX10_count_31 rfl ?_
        refine pw_get (v := .int (zI (s.1 47))) okX10 (k := 47) (by decide) lkX10_207 hA2.1 rfl dX10_count_32 ?_
        refine pw_iald (g := (s.2 17)) (t := 0) rfl (mF17 (s := (mV 0 (0) s)) hA2) (by omega) (by decide) dX10_count_35 ?_
        refine pw_istore_n (lv' := [some (.ref B), some (.int (zI (k))), some (.int (zI ((s.2 17) (s.1 47).toNat)))]) dX10_count_36 (by decide) rfl rfl ?_
        refine pw_iload_n dX10_count_37 rfl ?_
        refine pw_if_ne (tgt := 48) dX10_count_38 rfl (by omega) (fun c38 => ?_) (fun c38 => ?_)
        ·
          refine pw_iload_n dX10_count_48 rfl ?_
          refine pw_iconst (v := zI (1)) dX10_count_49 (by decide) ?_
          refine pw_icmp_ne (tgt := 60) dX10_count_50 rfl (by omega) (by omega) (fun c50 => ?_) (fun c50 => ?_)
          ·
            refine pw_iload_n dX10_count_60 rfl ?_
            refine pw_iconst (v := zI (2)) dX10_count_61 (by decide) ?_
            refine pw_icmp_ne (tgt := 84) dX10_count_62 rfl (by omega) (by omega) (fun c62 => ?_) (fun c62 => ?_)
            ·
              refine pw_iload_n dX10_count_84 rfl ?_
              refine pw_iconst (v := zI (3)) dX10_count_85 (by decide) ?_
              refine pw_icmp_ne (tgt := 108) dX10_count_86 rfl (by omega) (by omega) (fun c86 => ?_) (fun c86 => ?_)
              ·
                refine pw_iload_n dX10_count_108 rfl ?_
                refine pw_iconst (v := zI (4)) dX10_count_109 (by decide) ?_
                refine pw_icmp_ne (tgt := 128) dX10_count_110 rfl (by omega) (by omega) (fun c110 => ?_) (fun c110 => ?_)
                ·
                  refine pw_aload_n dX10_count_128 rfl ?_
                  refine pw_get (v := .int (zI (s.1 49))) okX10 (k := 49) (by decide) lkX10_308 hA2.1 rfl dX10_count_129 ?_
                  exact pw_iret dX10_count_132 rfl (nle rfl) (nle rfl) ⟨⟨(mV 0 (0) s), hA2, (show (0 : Int) = if 0 ≤ k ∧ k ≤ 5 then 0 else 1 from by (first | omega | rfl)), hF2, rfl⟩, congrArg (fun z => some (Value.int (zI z))) (show (s.1 49 : Int) = if k = 0 ∨ k = 4 then 1 else 0 from by (first | omega | rfl))⟩
                ·
                  refine pw_aload_n dX10_count_113 rfl ?_
                  refine pw_callV (As := []) (b := B) (rm := rmD 0 0 0) (nR_isSeen htr hA2 (by show 0 ≤ s.1 47 ∧ s.1 47 < 8; omega) (by show 0 ≤ s.2 34 (s.1 47).toNat ∧ s.2 34 (s.1 47).toNat ≤ 1; rw [v47, show Int.toNat 0 = 0 from rfl, mN_34 hn]; omega) (by show 0 ≤ s.2 43 (s.1 47).toNat ∧ s.2 43 (s.1 47).toNat ≤ 1; rw [v47, show Int.toNat 0 = 0 from rfl, mN_43 hn]; omega)) rfl hA2.1 rfl rfl ywX10_isSeen rfl cwX10_362 ⟨nle rfl, nle rfl⟩ (nle rfl) ⟨nle rfl, nle rfl⟩ dX10_count_114 ?_ (fun _ _ _ z => z.elim)
                  intro r_9 h_9 n_9 hq _
                  have hsee : mSee (mV 0 (0) s) = 1 := (show mSee s = 1 from mN_see hn)
                  rw [hq.1, hq.2.1, hq.2.2, hsee]
                  show pw E YX10_count _ _ 0 0 117 [some (.ref B), some (.int (zI (k))), some (.int (zI ((s.2 17) (s.1 47).toNat)))] [.int (zI (1))] h2 n
                  refine pw_if_eq (tgt := 124) dX10_count_117 rfl (by omega) (fun c117 => ?_) (fun c117 => ?_)
                  · exfalso; omega
                  ·
                    refine pw_iconst (v := zI (1)) dX10_count_120 (by decide) ?_
                    refine pw_goto (tgt := 132) dX10_count_121 rfl ?_
                    exact pw_iret dX10_count_132 rfl (nle rfl) (nle rfl) ⟨⟨(mV 0 (0) s), hA2, (show (0 : Int) = if 0 ≤ k ∧ k ≤ 5 then 0 else 1 from by (first | omega | rfl)), hF2, rfl⟩, congrArg (fun z => some (Value.int (zI z))) (show (1 : Int) = if k = 0 ∨ k = 4 then 1 else 0 from by (first | omega | rfl))⟩
              ·
                refine pw_aload_n dX10_count_89 rfl ?_
                refine pw_get (v := .ref (B + 9)) okX10 (k := 11) (by decide) lkX10_35 hA2.1 rfl dX10_count_90 ?_
                refine pw_iload_n dX10_count_93 rfl ?_
                refine pw_iald (g := (s.2 11)) (t := 0) rfl (mF11 (s := (mV 0 (0) s)) hA2) (by omega) (by decide) dX10_count_94 ?_
                refine pw_aload_n dX10_count_95 rfl ?_
                refine pw_get (v := .ref (B + 20)) okX10 (k := 23) (by decide) lkX10_68 hA2.1 rfl dX10_count_96 ?_
                refine pw_aload_n dX10_count_99 rfl ?_
                refine pw_get (v := .int (zI (s.1 47))) okX10 (k := 47) (by decide) lkX10_207 hA2.1 rfl dX10_count_100 ?_
                refine pw_iald (g := (s.2 23)) (t := 0) rfl (mF23 (s := (mV 0 (0) s)) hA2) (by omega) (by decide) dX10_count_103 ?_
                refine pw_ziadd dX10_count_104 ?_
                refine pw_goto (tgt := 132) dX10_count_105 rfl ?_
                exact pw_iret dX10_count_132 rfl (nle rfl) (nle rfl) ⟨⟨(mV 0 (0) s), hA2, (show (0 : Int) = if 0 ≤ k ∧ k ≤ 5 then 0 else 1 from by (first | omega | rfl)), hF2, rfl⟩, congrArg (fun z => some (Value.int (zI z))) (show (((s.2 11) ((s.2 17) (s.1 47).toNat).toNat) + ((s.2 23) (s.1 47).toNat) : Int) = if k = 0 ∨ k = 4 then 1 else 0 from by (first | omega | rfl))⟩
            ·
              refine pw_aload_n dX10_count_65 rfl ?_
              refine pw_get (v := .ref (B + 8)) okX10 (k := 10) (by decide) lkX10_32 hA2.1 rfl dX10_count_66 ?_
              refine pw_iload_n dX10_count_69 rfl ?_
              refine pw_iald (g := (s.2 10)) (t := 0) rfl (mF10 (s := (mV 0 (0) s)) hA2) (by omega) (by decide) dX10_count_70 ?_
              refine pw_aload_n dX10_count_71 rfl ?_
              refine pw_get (v := .ref (B + 21)) okX10 (k := 24) (by decide) lkX10_71 hA2.1 rfl dX10_count_72 ?_
              refine pw_aload_n dX10_count_75 rfl ?_
              refine pw_get (v := .int (zI (s.1 47))) okX10 (k := 47) (by decide) lkX10_207 hA2.1 rfl dX10_count_76 ?_
              refine pw_iald (g := (s.2 24)) (t := 0) rfl (mF24 (s := (mV 0 (0) s)) hA2) (by omega) (by decide) dX10_count_79 ?_
              refine pw_ziadd dX10_count_80 ?_
              refine pw_goto (tgt := 132) dX10_count_81 rfl ?_
              exact pw_iret dX10_count_132 rfl (nle rfl) (nle rfl) ⟨⟨(mV 0 (0) s), hA2, (show (0 : Int) = if 0 ≤ k ∧ k ≤ 5 then 0 else 1 from by (first | omega | rfl)), hF2, rfl⟩, congrArg (fun z => some (Value.int (zI z))) (show (((s.2 10) ((s.2 17) (s.1 47).toNat).toNat) + ((s.2 24) (s.1 47).toNat) : Int) = if k = 0 ∨ k = 4 then 1 else 0 from by (first | omega | rfl))⟩
          ·
            refine pw_aload_n dX10_count_53 rfl ?_
            refine pw_get (v := .int (zI (s.1 47))) okX10 (k := 47) (by decide) lkX10_207 hA2.1 rfl dX10_count_54 ?_
            refine pw_goto (tgt := 132) dX10_count_57 rfl ?_
            exact pw_iret dX10_count_132 rfl (nle rfl) (nle rfl) ⟨⟨(mV 0 (0) s), hA2, (show (0 : Int) = if 0 ≤ k ∧ k ≤ 5 then 0 else 1 from by (first | omega | rfl)), hF2, rfl⟩, congrArg (fun z => some (Value.int (zI z))) (show (s.1 47 : Int) = if k = 0 ∨ k = 4 then 1 else 0 from by (first | omega | rfl))⟩
        ·
          refine pw_aload_n dX10_count_41 rfl ?_
          refine pw_callV (As := []) (b := B) (rm := rmD 0 0 0) (nR_panes htr hA2 hu) rfl hA2.1 rfl rfl ywX10_panes rfl cwX10_225 ⟨nle rfl, nle rfl⟩ (nle rfl) ⟨nle rfl, nle rfl⟩ dX10_count_42 ?_ (fun _ _ _ z => z.elim)
          intro r_9 h_9 n_9 hq _
          have hct : mCt ((mV 0 (0) s).2 16) 8 0 0 = 1 := (show mCt (s.2 16) 8 0 0 = 1 from mN_ct hn)
          rw [hq.1, hq.2.1, hq.2.2, hct]
          show pw E YX10_count _ _ 0 0 45 [some (.ref B), some (.int (zI (k))), some (.int (zI ((s.2 17) (s.1 47).toNat)))] [.int (zI (1))] h2 n
          refine pw_goto (tgt := 132) dX10_count_45 rfl ?_
          exact pw_iret dX10_count_132 rfl (nle rfl) (nle rfl) ⟨⟨(mV 0 (0) s), hA2, (show (0 : Int) = if 0 ≤ k ∧ k ≤ 5 then 0 else 1 from by (first | omega | rfl)), hF2, rfl⟩, congrArg (fun z => some (Value.int (zI z))) (show (1 : Int) = if k = 0 ∨ k = 4 then 1 else 0 from by (first | omega | rfl))⟩
      · exfalso; omega
    ·
      refine pw_iconst (v := zI (1)) dX10_count_10 (by decide) ?_
      refine pw_goto (tgt := 15) dX10_count_11 rfl ?_
      refine pw_put (fs' := (moL B (va_up s.1 0 (1)))) okX10 (k := 0) (by decide) lkX10_173 rfl rfl rfl hA.1 (nlt rfl) rfl dX10_count_15 ?_
      have hA3 : mAt B (mV 0 (1) s) (va_up h B (pz_o 13 (moL B (va_up s.1 0 (1))))) := mAt_V hA
      have hF3 : mFr B h (va_up h B (pz_o 13 (moL B (va_up s.1 0 (1))))) := mFr_tr mFr_rf (mFr_up (k := 0) (by decide))
      revert hA3 hF3
      generalize (va_up h B (pz_o 13 (moL B (va_up s.1 0 (1))))) = h3
      intro hA3 hF3
      refine pw_aload_n dX10_count_18 rfl ?_
      refine pw_get (v := .int (zI (1))) okX10 (k := 0) (by decide) lkX10_173 hA3.1 rfl dX10_count_19 ?_
      refine pw_if_le (tgt := 27) dX10_count_22 rfl (by omega) (fun c22 => ?_) (fun c22 => ?_)
      · exfalso; omega
      ·
        refine pw_iconst (v := zI (0)) dX10_count_25 (by decide) ?_
        exact pw_iret dX10_count_26 rfl (nle rfl) (nle rfl) ⟨⟨(mV 0 (1) s), hA3, (show (1 : Int) = if 0 ≤ k ∧ k ≤ 5 then 0 else 1 from by (first | omega | rfl)), hF3, rfl⟩, congrArg (fun z => some (Value.int (zI z))) (show (0 : Int) = if k = 0 ∨ k = 4 then 1 else 0 from by (first | omega | rfl))⟩
set_option maxHeartbeats 1000000 in
set_option maxRecDepth 100000 in
/-- copy(p, on, up) -/
theorem nF_copy {E : pw_E} (htr : E.1.stackTraces = false) {h : pz_H} {n : Nat} {B : Nat} {s : mS} (hA : mAt B s h) {p on up : Int}  {w H : Int} (hw : 8 ≤ w ∧ w ≤ 40) (hH : 4 ≤ H ∧ H ≤ 16) (hn : mN w H s) (h_p : -2147483648 ≤ p ∧ p < 2147483648) (h_on : -2147483648 ≤ on ∧ on < 2147483648) (h_up : -2147483648 ≤ up ∧ up < 2147483648) (hon : 0 ≤ on ∧ on ≤ 1) : pw_M E yX10_copy YX10_copy (rmD 3 0 0) [.ref B, .int (zI (p)), .int (zI (on)), .int (zI (up))] h n (fun r0 h' n' => (∃ s', mAt B s' h' ∧ s'.1 0 = (if p = 0 then 0 else 1) ∧ mFr B h h' ∧ n' = n) ∧ r0 = some (.int (zI (0)))) (fun _ _ _ => False) := by
  have v0 := mNv_0 hn
  have v1 := mNv_1 hn
  have v2 := mNv_2 hn
  have v14 := mNv_14 hn
  have v47 := mNv_47 hn
  have v48 := mNv_48 hn
  have v49 := mNv_49 hn
  have v53 := mNv_53 hn
  have v54 := mNv_54 hn
  have v55 := mNv_55 hn
  have v56 := mNv_56 hn
  have v57 := mNv_57 hn
  have hu := mN_us hn
  have hnb : 0 ≤ mNo s p ∧ mNo s p ≤ 1 := mNo_b
  refine pw_M_of (lv := [some (.ref B), some (.int (zI (p))), some (.int (zI (on))), some (.int (zI (up)))]) (by decide) rfl rfl htr (nle rfl) rfl (fun L => ?_)
  refine pw_aload_n dX10_copy_0 rfl ?_
  refine pw_aload_n dX10_copy_1 rfl ?_
  refine pw_iload_n dX10_copy_2 rfl ?_
  refine pw_callV (As := [.int (zI (p))]) (b := B) (rm := rmD 0 0 0) (nR_noPane htr hA hu (by omega)) rfl hA.1 rfl rfl ywX10_noPane rfl cwX10_213 ⟨nle rfl, nle rfl⟩ (nle rfl) ⟨nle rfl, nle rfl⟩ dX10_copy_3 ?_ (fun _ _ _ z => z.elim)
  intro r_9 h_9 n_9 hq _
  rw [hq.1, hq.2.1, hq.2.2]
  show pw E YX10_copy _ _ 0 0 6 [some (.ref B), some (.int (zI (p))), some (.int (zI (on))), some (.int (zI (up)))] [.int (zI (mNo s (p))), .ref B] h n
  refine pw_if_eq (tgt := 13) dX10_copy_6 rfl (by omega) (fun c6 => ?_) (fun c6 => ?_)
  ·
    have hp0 : p = 0 := by rw [mN_no hn] at c6; revert c6; split <;> omega
    have ep : p.toNat = 0 := by omega
    have g42 : s.2 42 p.toNat = 0 := by rw [ep]; exact mN_42 hn
    have g43 : s.2 43 p.toNat = 0 := by rw [ep]; exact mN_43 hn
    have g44 : s.2 44 p.toNat = 0 := by rw [ep]; exact mN_44 hn
    refine pw_iconst (v := zI (0)) dX10_copy_13 (by decide) ?_
    refine pw_put (fs' := (moL B (va_up s.1 0 (0)))) okX10 (k := 0) (by decide) lkX10_173 rfl rfl rfl hA.1 (nlt rfl) rfl dX10_copy_14 ?_
    have hA1 : mAt B (mV 0 (0) s) (va_up h B (pz_o 13 (moL B (va_up s.1 0 (0))))) := mAt_V hA
    have hF1 : mFr B h (va_up h B (pz_o 13 (moL B (va_up s.1 0 (0))))) := mFr_tr mFr_rf (mFr_up (k := 0) (by decide))
    revert hA1 hF1
    generalize (va_up h B (pz_o 13 (moL B (va_up s.1 0 (0))))) = h1
    intro hA1 hF1
    refine pw_aload_n dX10_copy_17 rfl ?_
    refine pw_get (v := .int (zI (0))) okX10 (k := 0) (by decide) lkX10_173 hA1.1 rfl dX10_copy_18 ?_
    refine pw_if_le (tgt := 26) dX10_copy_21 rfl (by omega) (fun c21 => ?_) (fun c21 => ?_)
    ·
      refine pw_aload_n dX10_copy_26 rfl ?_
      refine pw_get (v := .ref (B + 41)) okX10 (k := 44) (by decide) lkX10_131 hA1.1 rfl dX10_copy_27 ?_
      refine pw_iload_n dX10_copy_30 rfl ?_
      refine pw_iload_n dX10_copy_31 rfl ?_
      refine pw_if_eq (tgt := 53) dX10_copy_32 rfl (by omega) (fun c32 => ?_) (fun c32 => ?_)
      ·
        refine pw_iconst (v := zI (0)) dX10_copy_53 (by decide) ?_
        refine pw_iast (g := (s.2 44)) (t := 0) rfl (mF44 (s := (mV 0 (0) s)) hA1) (by omega) (by decide) dX10_copy_54 ?_
        have hA2 : mAt B (mA 44 (va_up (s.2 44) (p).toNat (0)) (mV 0 (0) s)) (va_up h1 (B + 41) (pz_z 0 8 (va_up (s.2 44) (p).toNat (0)))) := mU44 hA1
        have hF2 : mFr B h (va_up h1 (B + 41) (pz_z 0 8 (va_up (s.2 44) (p).toNat (0)))) := mFr_tr hF1 (mFr_up (by decide))
        revert hA2 hF2
        generalize (va_up h1 (B + 41) (pz_z 0 8 (va_up (s.2 44) (p).toNat (0)))) = h2
        intro hA2 hF2
        refine pw_aload_n dX10_copy_55 rfl ?_
        refine pw_get (v := .ref (B + 40)) okX10 (k := 43) (by decide) lkX10_128 hA2.1 rfl dX10_copy_56 ?_
        refine pw_iload_n dX10_copy_59 rfl ?_
        refine pw_iload_n dX10_copy_60 rfl ?_
        refine pw_zast (g := (s.2 43)) (t := 1) rfl (mF43 (s := (mA 44 (va_up (s.2 44) (p).toNat (0)) (mV 0 (0) s))) hA2) (by omega) (by decide) (by omega) dX10_copy_61 ?_
        have hA3 : mAt B (mA 43 (va_up (s.2 43) (p).toNat (on)) (mA 44 (va_up (s.2 44) (p).toNat (0)) (mV 0 (0) s))) (va_up h2 (B + 40) (pz_z 1 8 (va_up (s.2 43) (p).toNat (on)))) := mU43 hA2
        have hF3 : mFr B h (va_up h2 (B + 40) (pz_z 1 8 (va_up (s.2 43) (p).toNat (on)))) := mFr_tr hF2 (mFr_up (by decide))
        revert hA3 hF3
        generalize (va_up h2 (B + 40) (pz_z 1 8 (va_up (s.2 43) (p).toNat (on)))) = h3
        intro hA3 hF3
        refine pw_iload_n dX10_copy_62 rfl ?_
        refine pw_if_eq (tgt := 72) dX10_copy_63 rfl (by omega) (fun c63 => ?_) (fun c63 => ?_)
        ·
          refine pw_aload_n dX10_copy_72 rfl ?_
          refine pw_iload_n dX10_copy_73 rfl ?_
          have h44 : 0 ≤ (va_up (s.2 44) (p).toNat (0)) (p).toNat ∧ (va_up (s.2 44) (p).toNat (0)) (p).toNat ≤ 30 := by rw [va_up_self]; first | omega | exact mUp_b (show 0 ≤ s.2 42 p.toNat ∧ s.2 42 p.toNat ≤ 30 by omega)
          refine pw_callV (As := [.int (zI (p))]) (b := B) (rm := rmD 1 0 0) (nR_offsetOf htr hA3 (by omega) (by show 0 ≤ (va_up (s.2 43) (p).toNat (on)) (p).toNat ∧ (va_up (s.2 43) (p).toNat (on)) (p).toNat ≤ 1; rw [va_up_self]; omega) h44 (by show 0 ≤ s.2 42 p.toNat ∧ s.2 42 p.toNat ≤ 30; omega)) rfl hA3.1 rfl rfl ywX10_offsetOf rfl cwX10_305 ⟨nle rfl, nle rfl⟩ (nle rfl) ⟨nle rfl, nle rfl⟩ dX10_copy_74 ?_ (fun _ _ _ z => z.elim)
          intro r_9 h_9 n_9 hq _
          have hof : mOf (mA 43 (va_up (s.2 43) (p).toNat (on)) (mA 44 (va_up (s.2 44) (p).toNat (0)) (mV 0 (0) s))) p = 0 := by
            unfold mOf
            show (if (va_up (s.2 43) (p).toNat (on)) (p).toNat = 0 then 0 else min ((va_up (s.2 44) (p).toNat (0)) (p).toNat) (s.2 42 p.toNat)) = 0
            split <;> omega
          rw [hq.1, hq.2.1, hq.2.2, hof]
          show pw E YX10_copy _ _ 0 0 77 [some (.ref B), some (.int (zI (p))), some (.int (zI (on))), some (.int (zI (up)))] [.int (zI (0))] h3 n
          exact pw_iret dX10_copy_77 rfl (nle rfl) (nle rfl) ⟨⟨(mA 43 (va_up (s.2 43) (p).toNat (on)) (mA 44 (va_up (s.2 44) (p).toNat (0)) (mV 0 (0) s))), hA3, (show (0 : Int) = if p = 0 then 0 else 1 from by (first | omega | rfl)), hF3, rfl⟩, congrArg (fun z => some (Value.int (zI z))) (show (0 : Int) = 0 from by (first | omega | rfl))⟩
        ·
          refine pw_aload_n dX10_copy_66 rfl ?_
          refine pw_iload_n dX10_copy_67 rfl ?_
          refine pw_iload_n dX10_copy_68 rfl ?_
          refine pw_callV (As := [.int (zI (p)), .int (zI (up))]) (b := B) (rm := rmD 2 0 0) (nR_goUp htr hA3 (by omega) (by show 0 ≤ (va_up (s.2 43) (p).toNat (on)) (p).toNat ∧ (va_up (s.2 43) (p).toNat (on)) (p).toNat ≤ 1; rw [va_up_self]; omega) (by show 0 ≤ (va_up (s.2 44) (p).toNat (0)) (p).toNat ∧ (va_up (s.2 44) (p).toNat (0)) (p).toNat ≤ 30; rw [va_up_self]; omega) (by show 0 ≤ s.2 42 p.toNat ∧ s.2 42 p.toNat ≤ 30; omega) (by omega)) rfl hA3.1 rfl rfl ywX10_goUp rfl cwX10_320 ⟨nle rfl, nle rfl⟩ (nle rfl) ⟨nle rfl, nle rfl⟩ dX10_copy_69 ?_ (fun _ _ _ z => z.elim)
          intro r_9 h4 n_9 hq _
          obtain ⟨e1, hA40, hF40, e4⟩ := hq
          rw [e1, e4]
          show pw E YX10_copy _ _ 0 0 72 [some (.ref B), some (.int (zI (p))), some (.int (zI (on))), some (.int (zI (up)))] [] h4 n
          have hA4 : mAt B (mA 44 (va_up (va_up (s.2 44) (p).toNat (0)) (p).toNat (mUp (mA 43 (va_up (s.2 43) (p).toNat (on)) (mA 44 (va_up (s.2 44) (p).toNat (0)) (mV 0 (0) s))) (p) (up))) (mA 43 (va_up (s.2 43) (p).toNat (on)) (mA 44 (va_up (s.2 44) (p).toNat (0)) (mV 0 (0) s)))) h4 := hA40
          have hF4 := mFr_tr hF3 hF40
          clear e1 e4
          refine pw_aload_n dX10_copy_72 rfl ?_
          refine pw_iload_n dX10_copy_73 rfl ?_
          have h44 : 0 ≤ (va_up (va_up (s.2 44) (p).toNat (0)) (p).toNat (mUp (mA 43 (va_up (s.2 43) (p).toNat (on)) (mA 44 (va_up (s.2 44) (p).toNat (0)) (mV 0 (0) s))) (p) (up))) (p).toNat ∧ (va_up (va_up (s.2 44) (p).toNat (0)) (p).toNat (mUp (mA 43 (va_up (s.2 43) (p).toNat (on)) (mA 44 (va_up (s.2 44) (p).toNat (0)) (mV 0 (0) s))) (p) (up))) (p).toNat ≤ 30 := by rw [va_up_self]; first | omega | exact mUp_b (show 0 ≤ s.2 42 p.toNat ∧ s.2 42 p.toNat ≤ 30 by omega)
          refine pw_callV (As := [.int (zI (p))]) (b := B) (rm := rmD 1 0 0) (nR_offsetOf htr hA4 (by omega) (by show 0 ≤ (va_up (s.2 43) (p).toNat (on)) (p).toNat ∧ (va_up (s.2 43) (p).toNat (on)) (p).toNat ≤ 1; rw [va_up_self]; omega) h44 (by show 0 ≤ s.2 42 p.toNat ∧ s.2 42 p.toNat ≤ 30; omega)) rfl hA4.1 rfl rfl ywX10_offsetOf rfl cwX10_305 ⟨nle rfl, nle rfl⟩ (nle rfl) ⟨nle rfl, nle rfl⟩ dX10_copy_74 ?_ (fun _ _ _ z => z.elim)
          intro r_9 h_9 n_9 hq _
          have hof : mOf (mA 44 (va_up (va_up (s.2 44) (p).toNat (0)) (p).toNat (mUp (mA 43 (va_up (s.2 43) (p).toNat (on)) (mA 44 (va_up (s.2 44) (p).toNat (0)) (mV 0 (0) s))) (p) (up))) (mA 43 (va_up (s.2 43) (p).toNat (on)) (mA 44 (va_up (s.2 44) (p).toNat (0)) (mV 0 (0) s)))) p = 0 := by
            unfold mOf
            show (if (va_up (s.2 43) (p).toNat (on)) (p).toNat = 0 then 0 else min ((va_up (va_up (s.2 44) (p).toNat (0)) (p).toNat (mUp (mA 43 (va_up (s.2 43) (p).toNat (on)) (mA 44 (va_up (s.2 44) (p).toNat (0)) (mV 0 (0) s))) (p) (up))) (p).toNat) (s.2 42 p.toNat)) = 0
            split <;> omega
          rw [hq.1, hq.2.1, hq.2.2, hof]
          show pw E YX10_copy _ _ 0 0 77 [some (.ref B), some (.int (zI (p))), some (.int (zI (on))), some (.int (zI (up)))] [.int (zI (0))] h4 n
          exact pw_iret dX10_copy_77 rfl (nle rfl) (nle rfl) ⟨⟨(mA 44 (va_up (va_up (s.2 44) (p).toNat (0)) (p).toNat (mUp (mA 43 (va_up (s.2 43) (p).toNat (on)) (mA 44 (va_up (s.2 44) (p).toNat (0)) (mV 0 (0) s))) (p) (up))) (mA 43 (va_up (s.2 43) (p).toNat (on)) (mA 44 (va_up (s.2 44) (p).toNat (0)) (mV 0 (0) s)))), hA4, (show (0 : Int) = if p = 0 then 0 else 1 from by (first | omega | rfl)), hF4, rfl⟩, congrArg (fun z => some (Value.int (zI z))) (show (0 : Int) = 0 from by (first | omega | rfl))⟩
      ·
        refine pw_aload_n dX10_copy_35 rfl ?_
        refine pw_get (v := .ref (B + 40)) okX10 (k := 43) (by decide) lkX10_128 hA1.1 rfl dX10_copy_36 ?_
        refine pw_iload_n dX10_copy_39 rfl ?_
        refine pw_zald (g := (s.2 43)) (t := 1) rfl (mF43 (s := (mV 0 (0) s)) hA1) (by omega) (by decide) dX10_copy_40 ?_
        refine pw_if_eq (tgt := 53) dX10_copy_41 rfl (by omega) (fun c41 => ?_) (fun c41 => ?_)
        ·
          refine pw_iconst (v := zI (0)) dX10_copy_53 (by decide) ?_
          refine pw_iast (g := (s.2 44)) (t := 0) rfl (mF44 (s := (mV 0 (0) s)) hA1) (by omega) (by decide) dX10_copy_54 ?_
          have hA5 : mAt B (mA 44 (va_up (s.2 44) (p).toNat (0)) (mV 0 (0) s)) (va_up h1 (B + 41) (pz_z 0 8 (va_up (s.2 44) (p).toNat (0)))) := mU44 hA1
          have hF5 : mFr B h (va_up h1 (B + 41) (pz_z 0 8 (va_up (s.2 44) (p).toNat (0)))) := mFr_tr hF1 (mFr_up (by decide))
          revert hA5 hF5
          generalize (va_up h1 (B + 41) (pz_z 0 8 (va_up (s.2 44) (p).toNat (0)))) = h5
          intro hA5 hF5
          refine pw_aload_n dX10_copy_55 rfl ?_
          refine pw_get (v := .ref (B + 40)) okX10 (k := 43) (by decide) lkX10_128 hA5.1 rfl dX10_copy_56 ?_
          refine pw_iload_n dX10_copy_59 rfl ?_
          refine pw_iload_n dX10_copy_60 rfl ?_
          refine pw_zast (g := (s.2 43)) (t := 1) rfl (mF43 (s := (mA 44 (va_up (s.2 44) (p).toNat (0)) (mV 0 (0) s))) hA5) (by omega) (by decide) (by omega) dX10_copy_61 ?_
          have hA6 : mAt B (mA 43 (va_up (s.2 43) (p).toNat (on)) (mA 44 (va_up (s.2 44) (p).toNat (0)) (mV 0 (0) s))) (va_up h5 (B + 40) (pz_z 1 8 (va_up (s.2 43) (p).toNat (on)))) := mU43 hA5
          have hF6 : mFr B h (va_up h5 (B + 40) (pz_z 1 8 (va_up (s.2 43) (p).toNat (on)))) := mFr_tr hF5 (mFr_up (by decide))
          revert hA6 hF6
          generalize (va_up h5 (B + 40) (pz_z 1 8 (va_up (s.2 43) (p).toNat (on)))) = h6
          intro hA6 hF6
          refine pw_iload_n dX10_copy_62 rfl ?_
          refine pw_if_eq (tgt := 72) dX10_copy_63 rfl (by omega) (fun c63 => ?_) (fun c63 => ?_)
          ·
            refine pw_aload_n dX10_copy_72 rfl ?_
            refine pw_iload_n dX10_copy_73 rfl ?_
            have h44 : 0 ≤ (va_up (s.2 44) (p).toNat (0)) (p).toNat ∧ (va_up (s.2 44) (p).toNat (0)) (p).toNat ≤ 30 := by rw [va_up_self]; first | omega | exact mUp_b (show 0 ≤ s.2 42 p.toNat ∧ s.2 42 p.toNat ≤ 30 by omega)
            refine pw_callV (As := [.int (zI (p))]) (b := B) (rm := rmD 1 0 0) (nR_offsetOf htr hA6 (by omega) (by show 0 ≤ (va_up (s.2 43) (p).toNat (on)) (p).toNat ∧ (va_up (s.2 43) (p).toNat (on)) (p).toNat ≤ 1; rw [va_up_self]; omega) h44 (by show 0 ≤ s.2 42 p.toNat ∧ s.2 42 p.toNat ≤ 30; omega)) rfl hA6.1 rfl rfl ywX10_offsetOf rfl cwX10_305 ⟨nle rfl, nle rfl⟩ (nle rfl) ⟨nle rfl, nle rfl⟩ dX10_copy_74 ?_ (fun _ _ _ z => z.elim)
            intro r_9 h_9 n_9 hq _
            have hof : mOf (mA 43 (va_up (s.2 43) (p).toNat (on)) (mA 44 (va_up (s.2 44) (p).toNat (0)) (mV 0 (0) s))) p = 0 := by
              unfold mOf
              show (if (va_up (s.2 43) (p).toNat (on)) (p).toNat = 0 then 0 else min ((va_up (s.2 44) (p).toNat (0)) (p).toNat) (s.2 42 p.toNat)) = 0
              split <;> omega
            rw [hq.1, hq.2.1, hq.2.2, hof]
            show pw E YX10_copy _ _ 0 0 77 [some (.ref B), some (.int (zI (p))), some (.int (zI (on))), some (.int (zI (up)))] [.int (zI (0))] h6 n
            exact pw_iret dX10_copy_77 rfl (nle rfl) (nle rfl) ⟨⟨(mA 43 (va_up (s.2 43) (p).toNat (on)) (mA 44 (va_up (s.2 44) (p).toNat (0)) (mV 0 (0) s))), hA6, (show (0 : Int) = if p = 0 then 0 else 1 from by (first | omega | rfl)), hF6, rfl⟩, congrArg (fun z => some (Value.int (zI z))) (show (0 : Int) = 0 from by (first | omega | rfl))⟩
          ·
            refine pw_aload_n dX10_copy_66 rfl ?_
            refine pw_iload_n dX10_copy_67 rfl ?_
            refine pw_iload_n dX10_copy_68 rfl ?_
            refine pw_callV (As := [.int (zI (p)), .int (zI (up))]) (b := B) (rm := rmD 2 0 0) (nR_goUp htr hA6 (by omega) (by show 0 ≤ (va_up (s.2 43) (p).toNat (on)) (p).toNat ∧ (va_up (s.2 43) (p).toNat (on)) (p).toNat ≤ 1; rw [va_up_self]; omega) (by show 0 ≤ (va_up (s.2 44) (p).toNat (0)) (p).toNat ∧ (va_up (s.2 44) (p).toNat (0)) (p).toNat ≤ 30; rw [va_up_self]; omega) (by show 0 ≤ s.2 42 p.toNat ∧ s.2 42 p.toNat ≤ 30; omega) (by omega)) rfl hA6.1 rfl rfl ywX10_goUp rfl cwX10_320 ⟨nle rfl, nle rfl⟩ (nle rfl) ⟨nle rfl, nle rfl⟩ dX10_copy_69 ?_ (fun _ _ _ z => z.elim)
            intro r_9 h7 n_9 hq _
            obtain ⟨e1, hA70, hF70, e4⟩ := hq
            rw [e1, e4]
            show pw E YX10_copy _ _ 0 0 72 [some (.ref B), some (.int (zI (p))), some (.int (zI (on))), some (.int (zI (up)))] [] h7 n
            have hA7 : mAt B (mA 44 (va_up (va_up (s.2 44) (p).toNat (0)) (p).toNat (mUp (mA 43 (va_up (s.2 43) (p).toNat (on)) (mA 44 (va_up (s.2 44) (p).toNat (0)) (mV 0 (0) s))) (p) (up))) (mA 43 (va_up (s.2 43) (p).toNat (on)) (mA 44 (va_up (s.2 44) (p).toNat (0)) (mV 0 (0) s)))) h7 := hA70
            have hF7 := mFr_tr hF6 hF70
            clear e1 e4
            refine pw_aload_n dX10_copy_72 rfl ?_
            refine pw_iload_n dX10_copy_73 rfl ?_
            have h44 : 0 ≤ (va_up (va_up (s.2 44) (p).toNat (0)) (p).toNat (mUp (mA 43 (va_up (s.2 43) (p).toNat (on)) (mA 44 (va_up (s.2 44) (p).toNat (0)) (mV 0 (0) s))) (p) (up))) (p).toNat ∧ (va_up (va_up (s.2 44) (p).toNat (0)) (p).toNat (mUp (mA 43 (va_up (s.2 43) (p).toNat (on)) (mA 44 (va_up (s.2 44) (p).toNat (0)) (mV 0 (0) s))) (p) (up))) (p).toNat ≤ 30 := by rw [va_up_self]; first | omega | exact mUp_b (show 0 ≤ s.2 42 p.toNat ∧ s.2 42 p.toNat ≤ 30 by omega)
            refine pw_callV (As := [.int (zI (p))]) (b := B) (rm := rmD 1 0 0) (nR_offsetOf htr hA7 (by omega) (by show 0 ≤ (va_up (s.2 43) (p).toNat (on)) (p).toNat ∧ (va_up (s.2 43) (p).toNat (on)) (p).toNat ≤ 1; rw [va_up_self]; omega) h44 (by show 0 ≤ s.2 42 p.toNat ∧ s.2 42 p.toNat ≤ 30; omega)) rfl hA7.1 rfl rfl ywX10_offsetOf rfl cwX10_305 ⟨nle rfl, nle rfl⟩ (nle rfl) ⟨nle rfl, nle rfl⟩ dX10_copy_74 ?_ (fun _ _ _ z => z.elim)
            intro r_9 h_9 n_9 hq _
            have hof : mOf (mA 44 (va_up (va_up (s.2 44) (p).toNat (0)) (p).toNat (mUp (mA 43 (va_up (s.2 43) (p).toNat (on)) (mA 44 (va_up (s.2 44) (p).toNat (0)) (mV 0 (0) s))) (p) (up))) (mA 43 (va_up (s.2 43) (p).toNat (on)) (mA 44 (va_up (s.2 44) (p).toNat (0)) (mV 0 (0) s)))) p = 0 := by
              unfold mOf
              show (if (va_up (s.2 43) (p).toNat (on)) (p).toNat = 0 then 0 else min ((va_up (va_up (s.2 44) (p).toNat (0)) (p).toNat (mUp (mA 43 (va_up (s.2 43) (p).toNat (on)) (mA 44 (va_up (s.2 44) (p).toNat (0)) (mV 0 (0) s))) (p) (up))) (p).toNat) (s.2 42 p.toNat)) = 0
              split <;> omega
            rw [hq.1, hq.2.1, hq.2.2, hof]
            show pw E YX10_copy _ _ 0 0 77 [some (.ref B), some (.int (zI (p))), some (.int (zI (on))), some (.int (zI (up)))] [.int (zI (0))] h7 n
            exact pw_iret dX10_copy_77 rfl (nle rfl) (nle rfl) ⟨⟨(mA 44 (va_up (va_up (s.2 44) (p).toNat (0)) (p).toNat (mUp (mA 43 (va_up (s.2 43) (p).toNat (on)) (mA 44 (va_up (s.2 44) (p).toNat (0)) (mV 0 (0) s))) (p) (up))) (mA 43 (va_up (s.2 43) (p).toNat (on)) (mA 44 (va_up (s.2 44) (p).toNat (0)) (mV 0 (0) s)))), hA7, (show (0 : Int) = if p = 0 then 0 else 1 from by (first | omega | rfl)), hF7, rfl⟩, congrArg (fun z => some (Value.int (zI z))) (show (0 : Int) = 0 from by (first | omega | rfl))⟩
        ·
          refine pw_aload_n dX10_copy_44 rfl ?_
          refine pw_get (v := .ref (B + 41)) okX10 (k := 44) (by decide) lkX10_131 hA1.1 rfl dX10_copy_45 ?_
          refine pw_iload_n dX10_copy_48 rfl ?_
          refine pw_iald (g := (s.2 44)) (t := 0) rfl (mF44 (s := (mV 0 (0) s)) hA1) (by omega) (by decide) dX10_copy_49 ?_
          refine pw_goto (tgt := 54) dX10_copy_50 rfl ?_
          refine pw_iast (g := (s.2 44)) (t := 0) rfl (mF44 (s := (mV 0 (0) s)) hA1) (by omega) (by decide) dX10_copy_54 ?_
          have hA8 : mAt B (mA 44 (va_up (s.2 44) (p).toNat ((s.2 44) (p).toNat)) (mV 0 (0) s)) (va_up h1 (B + 41) (pz_z 0 8 (va_up (s.2 44) (p).toNat ((s.2 44) (p).toNat)))) := mU44 hA1
          have hF8 : mFr B h (va_up h1 (B + 41) (pz_z 0 8 (va_up (s.2 44) (p).toNat ((s.2 44) (p).toNat)))) := mFr_tr hF1 (mFr_up (by decide))
          revert hA8 hF8
          generalize (va_up h1 (B + 41) (pz_z 0 8 (va_up (s.2 44) (p).toNat ((s.2 44) (p).toNat)))) = h8
          intro hA8 hF8
          refine pw_aload_n dX10_copy_55 rfl ?_
          refine pw_get (v := .ref (B + 40)) okX10 (k := 43) (by decide) lkX10_128 hA8.1 rfl dX10_copy_56 ?_
          refine pw_iload_n dX10_copy_59 rfl ?_
          refine pw_iload_n dX10_copy_60 rfl ?_
          refine pw_zast (g := (s.2 43)) (t := 1) rfl (mF43 (s := (mA 44 (va_up (s.2 44) (p).toNat ((s.2 44) (p).toNat)) (mV 0 (0) s))) hA8) (by omega) (by decide) (by omega) dX10_copy_61 ?_
          have hA9 : mAt B (mA 43 (va_up (s.2 43) (p).toNat (on)) (mA 44 (va_up (s.2 44) (p).toNat ((s.2 44) (p).toNat)) (mV 0 (0) s))) (va_up h8 (B + 40) (pz_z 1 8 (va_up (s.2 43) (p).toNat (on)))) := mU43 hA8
          have hF9 : mFr B h (va_up h8 (B + 40) (pz_z 1 8 (va_up (s.2 43) (p).toNat (on)))) := mFr_tr hF8 (mFr_up (by decide))
          revert hA9 hF9
          generalize (va_up h8 (B + 40) (pz_z 1 8 (va_up (s.2 43) (p).toNat (on)))) = h9
          intro hA9 hF9
          refine pw_iload_n dX10_copy_62 rfl ?_
          refine pw_if_eq (tgt := 72) dX10_copy_63 rfl (by omega) (fun c63 => ?_) (fun c63 => ?_)
          ·
            refine pw_aload_n dX10_copy_72 rfl ?_
            refine pw_iload_n dX10_copy_73 rfl ?_
            have h44 : 0 ≤ (va_up (s.2 44) (p).toNat ((s.2 44) (p).toNat)) (p).toNat ∧ (va_up (s.2 44) (p).toNat ((s.2 44) (p).toNat)) (p).toNat ≤ 30 := by rw [va_up_self]; first | omega | exact mUp_b (show 0 ≤ s.2 42 p.toNat ∧ s.2 42 p.toNat ≤ 30 by omega)
            refine pw_callV (As := [.int (zI (p))]) (b := B) (rm := rmD 1 0 0) (nR_offsetOf htr hA9 (by omega) (by show 0 ≤ (va_up (s.2 43) (p).toNat (on)) (p).toNat ∧ (va_up (s.2 43) (p).toNat (on)) (p).toNat ≤ 1; rw [va_up_self]; omega) h44 (by show 0 ≤ s.2 42 p.toNat ∧ s.2 42 p.toNat ≤ 30; omega)) rfl hA9.1 rfl rfl ywX10_offsetOf rfl cwX10_305 ⟨nle rfl, nle rfl⟩ (nle rfl) ⟨nle rfl, nle rfl⟩ dX10_copy_74 ?_ (fun _ _ _ z => z.elim)
            intro r_9 h_9 n_9 hq _
            have hof : mOf (mA 43 (va_up (s.2 43) (p).toNat (on)) (mA 44 (va_up (s.2 44) (p).toNat ((s.2 44) (p).toNat)) (mV 0 (0) s))) p = 0 := by
              unfold mOf
              show (if (va_up (s.2 43) (p).toNat (on)) (p).toNat = 0 then 0 else min ((va_up (s.2 44) (p).toNat ((s.2 44) (p).toNat)) (p).toNat) (s.2 42 p.toNat)) = 0
              split <;> omega
            rw [hq.1, hq.2.1, hq.2.2, hof]
            show pw E YX10_copy _ _ 0 0 77 [some (.ref B), some (.int (zI (p))), some (.int (zI (on))), some (.int (zI (up)))] [.int (zI (0))] h9 n
            exact pw_iret dX10_copy_77 rfl (nle rfl) (nle rfl) ⟨⟨(mA 43 (va_up (s.2 43) (p).toNat (on)) (mA 44 (va_up (s.2 44) (p).toNat ((s.2 44) (p).toNat)) (mV 0 (0) s))), hA9, (show (0 : Int) = if p = 0 then 0 else 1 from by (first | omega | rfl)), hF9, rfl⟩, congrArg (fun z => some (Value.int (zI z))) (show (0 : Int) = 0 from by (first | omega | rfl))⟩
          ·
            refine pw_aload_n dX10_copy_66 rfl ?_
            refine pw_iload_n dX10_copy_67 rfl ?_
            refine pw_iload_n dX10_copy_68 rfl ?_
            refine pw_callV (As := [.int (zI (p)), .int (zI (up))]) (b := B) (rm := rmD 2 0 0) (nR_goUp htr hA9 (by omega) (by show 0 ≤ (va_up (s.2 43) (p).toNat (on)) (p).toNat ∧ (va_up (s.2 43) (p).toNat (on)) (p).toNat ≤ 1; rw [va_up_self]; omega) (by show 0 ≤ (va_up (s.2 44) (p).toNat ((s.2 44) (p).toNat)) (p).toNat ∧ (va_up (s.2 44) (p).toNat ((s.2 44) (p).toNat)) (p).toNat ≤ 30; rw [va_up_self]; omega) (by show 0 ≤ s.2 42 p.toNat ∧ s.2 42 p.toNat ≤ 30; omega) (by omega)) rfl hA9.1 rfl rfl ywX10_goUp rfl cwX10_320 ⟨nle rfl, nle rfl⟩ (nle rfl) ⟨nle rfl, nle rfl⟩ dX10_copy_69 ?_ (fun _ _ _ z => z.elim)
            intro r_9 h10 n_9 hq _
            obtain ⟨e1, hA100, hF100, e4⟩ := hq
            rw [e1, e4]
            show pw E YX10_copy _ _ 0 0 72 [some (.ref B), some (.int (zI (p))), some (.int (zI (on))), some (.int (zI (up)))] [] h10 n
            have hA10 : mAt B (mA 44 (va_up (va_up (s.2 44) (p).toNat ((s.2 44) (p).toNat)) (p).toNat (mUp (mA 43 (va_up (s.2 43) (p).toNat (on)) (mA 44 (va_up (s.2 44) (p).toNat ((s.2 44) (p).toNat)) (mV 0 (0) s))) (p) (up))) (mA 43 (va_up (s.2 43) (p).toNat (on)) (mA 44 (va_up (s.2 44) (p).toNat ((s.2 44) (p).toNat)) (mV 0 (0) s)))) h10 := hA100
            have hF10 := mFr_tr hF9 hF100
            clear e1 e4
            refine pw_aload_n dX10_copy_72 rfl ?_
            refine pw_iload_n dX10_copy_73 rfl ?_
            have h44 : 0 ≤ (va_up (va_up (s.2 44) (p).toNat ((s.2 44) (p).toNat)) (p).toNat (mUp (mA 43 (va_up (s.2 43) (p).toNat (on)) (mA 44 (va_up (s.2 44) (p).toNat ((s.2 44) (p).toNat)) (mV 0 (0) s))) (p) (up))) (p).toNat ∧ (va_up (va_up (s.2 44) (p).toNat ((s.2 44) (p).toNat)) (p).toNat (mUp (mA 43 (va_up (s.2 43) (p).toNat (on)) (mA 44 (va_up (s.2 44) (p).toNat ((s.2 44) (p).toNat)) (mV 0 (0) s))) (p) (up))) (p).toNat ≤ 30 := by rw [va_up_self]; first | omega | exact mUp_b (show 0 ≤ s.2 42 p.toNat ∧ s.2 42 p.toNat ≤ 30 by omega)
            refine pw_callV (As := [.int (zI (p))]) (b := B) (rm := rmD 1 0 0) (nR_offsetOf htr hA10 (by omega) (by show 0 ≤ (va_up (s.2 43) (p).toNat (on)) (p).toNat ∧ (va_up (s.2 43) (p).toNat (on)) (p).toNat ≤ 1; rw [va_up_self]; omega) h44 (by show 0 ≤ s.2 42 p.toNat ∧ s.2 42 p.toNat ≤ 30; omega)) rfl hA10.1 rfl rfl ywX10_offsetOf rfl cwX10_305 ⟨nle rfl, nle rfl⟩ (nle rfl) ⟨nle rfl, nle rfl⟩ dX10_copy_74 ?_ (fun _ _ _ z => z.elim)
            intro r_9 h_9 n_9 hq _
            have hof : mOf (mA 44 (va_up (va_up (s.2 44) (p).toNat ((s.2 44) (p).toNat)) (p).toNat (mUp (mA 43 (va_up (s.2 43) (p).toNat (on)) (mA 44 (va_up (s.2 44) (p).toNat ((s.2 44) (p).toNat)) (mV 0 (0) s))) (p) (up))) (mA 43 (va_up (s.2 43) (p).toNat (on)) (mA 44 (va_up (s.2 44) (p).toNat ((s.2 44) (p).toNat)) (mV 0 (0) s)))) p = 0 := by
              unfold mOf
              show (if (va_up (s.2 43) (p).toNat (on)) (p).toNat = 0 then 0 else min ((va_up (va_up (s.2 44) (p).toNat ((s.2 44) (p).toNat)) (p).toNat (mUp (mA 43 (va_up (s.2 43) (p).toNat (on)) (mA 44 (va_up (s.2 44) (p).toNat ((s.2 44) (p).toNat)) (mV 0 (0) s))) (p) (up))) (p).toNat) (s.2 42 p.toNat)) = 0
              split <;> omega
            rw [hq.1, hq.2.1, hq.2.2, hof]
            show pw E YX10_copy _ _ 0 0 77 [some (.ref B), some (.int (zI (p))), some (.int (zI (on))), some (.int (zI (up)))] [.int (zI (0))] h10 n
            exact pw_iret dX10_copy_77 rfl (nle rfl) (nle rfl) ⟨⟨(mA 44 (va_up (va_up (s.2 44) (p).toNat ((s.2 44) (p).toNat)) (p).toNat (mUp (mA 43 (va_up (s.2 43) (p).toNat (on)) (mA 44 (va_up (s.2 44) (p).toNat ((s.2 44) (p).toNat)) (mV 0 (0) s))) (p) (up))) (mA 43 (va_up (s.2 43) (p).toNat (on)) (mA 44 (va_up (s.2 44) (p).toNat ((s.2 44) (p).toNat)) (mV 0 (0) s)))), hA10, (show (0 : Int) = if p = 0 then 0 else 1 from by (first | omega | rfl)), hF10, rfl⟩, congrArg (fun z => some (Value.int (zI z))) (show (0 : Int) = 0 from by (first | omega | rfl))⟩
    · exfalso; omega
  ·
    have hp0 : ¬ p = 0 := by rw [mN_no hn] at c6; revert c6; split <;> omega
    refine pw_iconst (v := zI (1)) dX10_copy_9 (by decide) ?_
    refine pw_goto (tgt := 14) dX10_copy_10 rfl ?_
    refine pw_put (fs' := (moL B (va_up s.1 0 (1)))) okX10 (k := 0) (by decide) lkX10_173 rfl rfl rfl hA.1 (nlt rfl) rfl dX10_copy_14 ?_
    have hA11 : mAt B (mV 0 (1) s) (va_up h B (pz_o 13 (moL B (va_up s.1 0 (1))))) := mAt_V hA
    have hF11 : mFr B h (va_up h B (pz_o 13 (moL B (va_up s.1 0 (1))))) := mFr_tr mFr_rf (mFr_up (k := 0) (by decide))
    revert hA11 hF11
    generalize (va_up h B (pz_o 13 (moL B (va_up s.1 0 (1))))) = h11
    intro hA11 hF11
    refine pw_aload_n dX10_copy_17 rfl ?_
    refine pw_get (v := .int (zI (1))) okX10 (k := 0) (by decide) lkX10_173 hA11.1 rfl dX10_copy_18 ?_
    refine pw_if_le (tgt := 26) dX10_copy_21 rfl (by omega) (fun c21 => ?_) (fun c21 => ?_)
    · exfalso; omega
    ·
      refine pw_iconst (v := zI (0)) dX10_copy_24 (by decide) ?_
      exact pw_iret dX10_copy_25 rfl (nle rfl) (nle rfl) ⟨⟨(mV 0 (1) s), hA11, (show (1 : Int) = if p = 0 then 0 else 1 from by (first | omega | rfl)), hF11, rfl⟩, congrArg (fun z => some (Value.int (zI z))) (show (0 : Int) = 0 from by (first | omega | rfl))⟩
set_option maxHeartbeats 1000000 in
set_option maxRecDepth 100000 in
/-- key(k) -/
theorem nF_key {E : pw_E} (htr : E.1.stackTraces = false) {h : pz_H} {n : Nat} {B : Nat} {s : mS} (hA : mAt B s h) {k : Int}  {w H : Int} (hw : 8 ≤ w ∧ w ≤ 40) (hH : 4 ≤ H ∧ H ≤ 16) (hn : mN w H s) (h_k : -2147483648 ≤ k ∧ k < 2147483648) : pw_M E yX10_key YX10_key (rmD 1 0 0) [.ref B, .int (zI (k))] h n (fun r0 h' n' => (∃ s', mAt B s' h' ∧ s'.1 0 = (if 0 ≤ k ∧ k ≤ 255 then 0 else 1) ∧ mFr B h h' ∧ n' = n) ∧ r0 = some (.int (zI (0)))) (fun _ _ _ => False) := by
  have v0 := mNv_0 hn
  have v1 := mNv_1 hn
  have v2 := mNv_2 hn
  have v14 := mNv_14 hn
  have v47 := mNv_47 hn
  have v48 := mNv_48 hn
  have v49 := mNv_49 hn
  have v53 := mNv_53 hn
  have v54 := mNv_54 hn
  have v55 := mNv_55 hn
  have v56 := mNv_56 hn
  have v57 := mNv_57 hn
  have hu := mN_us hn
  refine pw_M_of (lv := [some (.ref B), some (.int (zI (k)))]) (by decide) rfl rfl htr (nle rfl) rfl (fun L => ?_)
  refine pw_aload_n dX10_key_0 rfl ?_
  refine pw_iload_n dX10_key_1 rfl ?_
  refine pw_if_lt (tgt := 12) dX10_key_2 rfl (by omega) (fun c2 => ?_) (fun c2 => ?_)
  ·
    refine pw_iconst (v := zI (1)) dX10_key_12 (by decide) ?_
    refine pw_goto (tgt := 17) dX10_key_13 rfl ?_
    refine pw_put (fs' := (moL B (va_up s.1 0 (1)))) okX10 (k := 0) (by decide) lkX10_173 rfl rfl rfl hA.1 (nlt rfl) rfl dX10_key_17 ?_
    have hA1 : mAt B (mV 0 (1) s) (va_up h B (pz_o 13 (moL B (va_up s.1 0 (1))))) := mAt_V hA
    have hF1 : mFr B h (va_up h B (pz_o 13 (moL B (va_up s.1 0 (1))))) := mFr_tr mFr_rf (mFr_up (k := 0) (by decide))
    revert hA1 hF1
    generalize (va_up h B (pz_o 13 (moL B (va_up s.1 0 (1))))) = h1
    intro hA1 hF1
    refine pw_aload_n dX10_key_20 rfl ?_
    refine pw_get (v := .int (zI (1))) okX10 (k := 0) (by decide) lkX10_173 hA1.1 rfl dX10_key_21 ?_
    refine pw_if_le (tgt := 29) dX10_key_24 rfl (by omega) (fun c24 => ?_) (fun c24 => ?_)
    · exfalso; omega
    ·
      refine pw_iconst (v := zI (0)) dX10_key_27 (by decide) ?_
      exact pw_iret dX10_key_28 rfl (nle rfl) (nle rfl) ⟨⟨(mV 0 (1) s), hA1, (show (1 : Int) = if 0 ≤ k ∧ k ≤ 255 then 0 else 1 from by (first | omega | rfl)), hF1, rfl⟩, congrArg (fun z => some (Value.int (zI z))) (show (0 : Int) = 0 from by (first | omega | rfl))⟩
  ·
    refine pw_iload_n dX10_key_5 rfl ?_
    refine pw_sipush (v := zI (255)) dX10_key_6 (by decide) ?_
    refine pw_icmp_le (tgt := 16) dX10_key_9 rfl (by omega) (by omega) (fun c9 => ?_) (fun c9 => ?_)
    ·
      refine pw_iconst (v := zI (0)) dX10_key_16 (by decide) ?_
      refine pw_put (fs' := (moL B (va_up s.1 0 (0)))) okX10 (k := 0) (by decide) lkX10_173 rfl rfl rfl hA.1 (nlt rfl) rfl dX10_key_17 ?_
      have hA2 : mAt B (mV 0 (0) s) (va_up h B (pz_o 13 (moL B (va_up s.1 0 (0))))) := mAt_V hA
      have hF2 : mFr B h (va_up h B (pz_o 13 (moL B (va_up s.1 0 (0))))) := mFr_tr mFr_rf (mFr_up (k := 0) (by decide))
      revert hA2 hF2
      generalize (va_up h B (pz_o 13 (moL B (va_up s.1 0 (0))))) = h2
      intro hA2 hF2
      refine pw_aload_n dX10_key_20 rfl ?_
      refine pw_get (v := .int (zI (0))) okX10 (k := 0) (by decide) lkX10_173 hA2.1 rfl dX10_key_21 ?_
      refine pw_if_le (tgt := 29) dX10_key_24 rfl (by omega) (fun c24 => ?_) (fun c24 => ?_)
      ·
        refine pw_aload_n dX10_key_29 rfl ?_
        refine pw_get (v := .int (zI (s.1 48))) okX10 (k := 48) (by decide) lkX10_314 hA2.1 rfl dX10_key_30 ?_
        refine pw_if_eq (tgt := 49) dX10_key_33 rfl (by omega) (fun c33 => ?_) (fun c33 => ?_)
        ·
          refine pw_iload_n dX10_key_49 rfl ?_
          refine pw_iconst (v := zI (2)) dX10_key_50 (by decide) ?_
          refine pw_icmp_ne (tgt := 62) dX10_key_51 rfl (by omega) (by omega) (fun c51 => ?_) (fun c51 => ?_)
          ·
            have g43 : s.2 43 (s.1 47).toNat = 0 := by rw [v47]; exact mN_43 hn
            refine pw_aload_n dX10_key_62 rfl ?_
            refine pw_get (v := .ref (B + 40)) okX10 (k := 43) (by decide) lkX10_128 hA2.1 rfl dX10_key_63 ?_
            refine pw_aload_n dX10_key_66 rfl ?_
            refine pw_get (v := .int (zI (s.1 47))) okX10 (k := 47) (by decide) lkX10_207 hA2.1 rfl dX10_key_67 ?_
            refine pw_zald (g := (s.2 43)) (t := 1) rfl (mF43 (s := (mV 0 (0) s)) hA2) (by omega) (by decide) dX10_key_70 ?_
            refine pw_if_ne (tgt := 86) dX10_key_71 rfl (by omega) (fun c71 => ?_) (fun c71 => ?_)
            · exfalso; omega
            ·
              refine pw_aload_n dX10_key_74 rfl ?_
              refine pw_aload_n dX10_key_75 rfl ?_
              refine pw_get (v := .int (zI (s.1 47))) okX10 (k := 47) (by decide) lkX10_207 hA2.1 rfl dX10_key_76 ?_
              refine pw_iload_n dX10_key_79 rfl ?_
              refine pw_callV (As := [.int (zI (s.1 47)), .int (zI (k))]) (b := B) (rm := rmD 0 0 0) (nR_comesIn htr hA2 (by omega) (by show 0 ≤ s.2 45 (s.1 47).toNat ∧ s.2 45 (s.1 47).toNat ≤ 900000000; rw [v47, show Int.toNat 0 = 0 from rfl, mN_45 hn]; omega)) rfl hA2.1 rfl rfl ywX10_comesIn rfl cwX10_311 ⟨nle rfl, nle rfl⟩ (nle rfl) ⟨nle rfl, nle rfl⟩ dX10_key_80 ?_ (fun _ _ _ z => z.elim)
              intro r_9 h3 n_9 hq _
              obtain ⟨e1, hA30, hF30, e4⟩ := hq
              rw [e1, e4]
              show pw E YX10_key _ _ 0 0 83 [some (.ref B), some (.int (zI (k)))] [] h3 n
              have hA3 : mAt B (mA 45 (va_up (s.2 45) (s.1 47).toNat (s.2 45 (s.1 47).toNat + 1)) (mA 46 (va_up (s.2 46) (64 * (s.1 47) + s.2 45 (s.1 47).toNat % 64).toNat (k)) (mV 0 (0) s))) h3 := hA30
              have hF3 := mFr_tr hF2 hF30
              clear e1 e4
              refine pw_goto (tgt := 146) dX10_key_83 rfl ?_
              refine pw_aload_n dX10_key_146 rfl ?_
              refine pw_get (v := .int (zI (s.1 47))) okX10 (k := 47) (by decide) lkX10_207 hA3.1 rfl dX10_key_147 ?_
              exact pw_iret dX10_key_150 rfl (nle rfl) (nle rfl) ⟨⟨(mA 45 (va_up (s.2 45) (s.1 47).toNat (s.2 45 (s.1 47).toNat + 1)) (mA 46 (va_up (s.2 46) (64 * (s.1 47) + s.2 45 (s.1 47).toNat % 64).toNat (k)) (mV 0 (0) s))), hA3, (show (0 : Int) = if 0 ≤ k ∧ k ≤ 255 then 0 else 1 from by (first | omega | rfl)), hF3, rfl⟩, congrArg (fun z => some (Value.int (zI z))) (show (s.1 47 : Int) = 0 from by (first | omega | rfl))⟩
          ·
            refine pw_aload_n dX10_key_54 rfl ?_
            refine pw_iconst (v := zI (1)) dX10_key_55 (by decide) ?_
            refine pw_put (fs' := (moL B (va_up (mV 0 (0) s).1 48 (1)))) okX10 (k := 48) (by decide) lkX10_314 rfl (by decide) (by decide) hA2.1 (nlt rfl) rfl dX10_key_56 ?_
            have hA4 : mAt B (mV 48 (1) (mV 0 (0) s)) (va_up h2 B (pz_o 13 (moL B (va_up (mV 0 (0) s).1 48 (1))))) := mAt_V hA2
            have hF4 : mFr B h (va_up h2 B (pz_o 13 (moL B (va_up (mV 0 (0) s).1 48 (1))))) := mFr_tr hF2 (mFr_up (k := 0) (by decide))
            revert hA4 hF4
            generalize (va_up h2 B (pz_o 13 (moL B (va_up (mV 0 (0) s).1 48 (1))))) = h4
            intro hA4 hF4
            refine pw_goto (tgt := 146) dX10_key_59 rfl ?_
            refine pw_aload_n dX10_key_146 rfl ?_
            refine pw_get (v := .int (zI (s.1 47))) okX10 (k := 47) (by decide) lkX10_207 hA4.1 rfl dX10_key_147 ?_
            exact pw_iret dX10_key_150 rfl (nle rfl) (nle rfl) ⟨⟨(mV 48 (1) (mV 0 (0) s)), hA4, (show (0 : Int) = if 0 ≤ k ∧ k ≤ 255 then 0 else 1 from by (first | omega | rfl)), hF4, rfl⟩, congrArg (fun z => some (Value.int (zI z))) (show (s.1 47 : Int) = 0 from by (first | omega | rfl))⟩
        · exfalso; omega
      · exfalso; omega
    ·
      refine pw_iconst (v := zI (1)) dX10_key_12 (by decide) ?_
      refine pw_goto (tgt := 17) dX10_key_13 rfl ?_
      refine pw_put (fs' := (moL B (va_up s.1 0 (1)))) okX10 (k := 0) (by decide) lkX10_173 rfl rfl rfl hA.1 (nlt rfl) rfl dX10_key_17 ?_
      have hA5 : mAt B (mV 0 (1) s) (va_up h B (pz_o 13 (moL B (va_up s.1 0 (1))))) := mAt_V hA
      have hF5 : mFr B h (va_up h B (pz_o 13 (moL B (va_up s.1 0 (1))))) := mFr_tr mFr_rf (mFr_up (k := 0) (by decide))
      revert hA5 hF5
      generalize (va_up h B (pz_o 13 (moL B (va_up s.1 0 (1))))) = h5
      intro hA5 hF5
      refine pw_aload_n dX10_key_20 rfl ?_
      refine pw_get (v := .int (zI (1))) okX10 (k := 0) (by decide) lkX10_173 hA5.1 rfl dX10_key_21 ?_
      refine pw_if_le (tgt := 29) dX10_key_24 rfl (by omega) (fun c24 => ?_) (fun c24 => ?_)
      · exfalso; omega
      ·
        refine pw_iconst (v := zI (0)) dX10_key_27 (by decide) ?_
        exact pw_iret dX10_key_28 rfl (nle rfl) (nle rfl) ⟨⟨(mV 0 (1) s), hA5, (show (1 : Int) = if 0 ≤ k ∧ k ≤ 255 then 0 else 1 from by (first | omega | rfl)), hF5, rfl⟩, congrArg (fun z => some (Value.int (zI z))) (show (0 : Int) = 0 from by (first | omega | rfl))⟩
set_option maxHeartbeats 1000000 in
set_option maxRecDepth 100000 in
theorem lN_feed {E : pw_E} (htr : E.1.stackTraces = false) {Kk : pw_K} {h : pz_H} {n B : Nat} {p k : Int} {v : Int64} (hp : 0 ≤ p ∧ p < 8) (hk8 : 1 ≤ k ∧ k ≤ 8) : ∀ (j : Nat) (i : Int) (s1 : mS) (h1 : pz_H), (k - i).toNat = j → 0 ≤ i → i ≤ k → s1.1 0 = 0 → mAt B s1 h1 → mPk s1 p.toNat → mFr B h h1 → (∀ (s2 : mS) (h2 : pz_H), s2.1 0 = 0 → mAt B s2 h2 → mFr B h h2 → Kk.2.2.1 none h2 n) → pw E YX10_feed (rmD 8 0 0) Kk 0 0 37 [some (.ref B), some (.int (zI (p))), some (.long (v)), none, some (.int (zI (k))), some (.int (zI (i)))] [] h1 n := by
  intro j
  induction j with
  | zero =>
    intro i s1 h1 hj i1 i2 t0 hA hk hF hQ
    refine pw_iload dX10_feed_37 rfl ?_
    refine pw_iload dX10_feed_39 rfl ?_
    refine pw_icmp_ge (tgt := 74) dX10_feed_41 rfl (by omega) (by omega) (fun c41 => ?_) (fun c41 => ?_)
    ·
      exact pw_vret dX10_feed_74 rfl (nle rfl) (nle rfl) (hQ s1 h1 t0 hA hF)
    · exfalso; omega
  | succ j ih =>
    intro i s1 h1 hj i1 i2 t0 hA hk hF hQ
    obtain ⟨kw, kh, kr, kc, ksr, ksc, kt, ko, kwa, kin, kwr, khi, krd, knu, kgi, kas, kfr, kra, kco, kof, kip⟩ := id hk
    refine pw_iload dX10_feed_37 rfl ?_
    refine pw_iload dX10_feed_39 rfl ?_
    refine pw_icmp_ge (tgt := 74) dX10_feed_41 rfl (by omega) (by omega) (fun c41 => ?_) (fun c41 => ?_)
    · exfalso; omega
    ·
      refine pw_aload_n dX10_feed_44 rfl ?_
      refine pw_get (v := .int (zI (s1.1 0))) okX10 (k := 0) (by decide) lkX10_173 hA.1 rfl dX10_feed_45 ?_
      refine pw_if_ne (tgt := 74) dX10_feed_48 rfl (by omega) (fun c48 => ?_) (fun c48 => ?_)
      · exfalso; omega
      ·
        refine pw_aload_n dX10_feed_51 rfl ?_
        refine pw_iload_n dX10_feed_52 rfl ?_
        refine pw_lload_n dX10_feed_53 rfl ?_
        refine pw_bipush (v := zI (8)) dX10_feed_54 (by decide) ?_
        refine pw_iload dX10_feed_56 rfl ?_
        refine pw_zimul dX10_feed_58 ?_
        refine pw_lshr dX10_feed_59 ?_
        refine pw_l2i dX10_feed_60 ?_
        refine pw_sipush (v := zI (255)) dX10_feed_61 (by decide) ?_
        refine pw_iand dX10_feed_64 ?_
        rw [fdB_z]
        have hfb : 0 ≤ fdB v i ∧ fdB v i ≤ 255 := fdB_b
        refine pw_callV (As := [.int (zI (p)), .int (zI (fdB v i))]) (b := B) (rm := rmD 7 0 0) (mR_take htr hA hp hk (by omega)) rfl hA.1 rfl rfl ywX10_take rfl cwX10_302 ⟨nle rfl, nle rfl⟩ (nle rfl) ⟨nle rfl, nle rfl⟩ dX10_feed_65 ?_ (fun _ _ _ z => z.elim)
        intro r_9 h2 n_9 hq _
        obtain ⟨e1, s2, hA2, hk2, hr20, hF20, e4⟩ := hq
        rw [e1, e4]
        show pw E YX10_feed _ _ 0 0 68 [some (.ref B), some (.int (zI (p))), some (.long (v)), none, some (.int (zI (k))), some (.int (zI (i)))] [] h2 n
        have hr2 := mPr_tr mPr_rf hr20
        have hF2 := mFr_tr mFr_rf hF20
        obtain ⟨kw, kh, kr, kc, ksr, ksc, kt, ko, kwa, kin, kwr, khi, krd, knu, kgi, kas, kfr, kra, kco, kof, kip⟩ := id hk2
        have e18 := congrFun (hr2.2.1 18 (by decide)) p.toNat
        have e19 := congrFun (hr2.2.1 19 (by decide)) p.toNat
        refine pw_ziinc (lv' := [some (.ref B), some (.int (zI (p))), some (.long (v)), none, some (.int (zI (k))), some (.int (zI (i + 1)))]) dX10_feed_68 rfl (by decide) rfl rfl ?_
        refine pw_goto (tgt := 37) dX10_feed_71 rfl ?_
        exact ih (i + 1) s2 h2 (by omega) (by omega) (by omega) (by rw [congrFun hr2.1 0]; exact t0) hA2 hk2 (mFr_tr hF hF2) hQ
set_option maxHeartbeats 1000000 in
set_option maxRecDepth 100000 in
/-- feed(p, v, k) -/
theorem nF_feed {E : pw_E} (htr : E.1.stackTraces = false) {h : pz_H} {n : Nat} {B : Nat} {s : mS} (hA : mAt B s h) {p k : Int} {v : Int64}  {w H : Int} (hw : 8 ≤ w ∧ w ≤ 40) (hH : 4 ≤ H ∧ H ≤ 16) (hn : mN w H s) (h_p : -2147483648 ≤ p ∧ p < 2147483648) (h_k : -2147483648 ≤ k ∧ k < 2147483648) : pw_M E yX10_feed YX10_feed (rmD 8 0 0) [.ref B, .int (zI (p)), .long (v), .int (zI (k))] h n (fun r0 h' n' => (∃ s', mAt B s' h' ∧ s'.1 0 = (if p = 0 then (if 1 ≤ k ∧ k ≤ 8 then 0 else 2) else 1) ∧ mFr B h h' ∧ n' = n) ∧ r0 = none) (fun _ _ _ => False) := by
  have v0 := mNv_0 hn
  have v1 := mNv_1 hn
  have v2 := mNv_2 hn
  have v14 := mNv_14 hn
  have v47 := mNv_47 hn
  have v48 := mNv_48 hn
  have v49 := mNv_49 hn
  have v53 := mNv_53 hn
  have v54 := mNv_54 hn
  have v55 := mNv_55 hn
  have v56 := mNv_56 hn
  have v57 := mNv_57 hn
  have hu := mN_us hn
  have hnb : 0 ≤ mNo s p ∧ mNo s p ≤ 1 := mNo_b
  refine pw_M_of (lv := [some (.ref B), some (.int (zI (p))), some (.long (v)), none, some (.int (zI (k))), none]) (by decide) rfl rfl htr (nle rfl) rfl (fun L => ?_)
  refine pw_aload_n dX10_feed_0 rfl ?_
  refine pw_aload_n dX10_feed_1 rfl ?_
  refine pw_iload_n dX10_feed_2 rfl ?_
  refine pw_callV (As := [.int (zI (p))]) (b := B) (rm := rmD 0 0 0) (nR_noPane htr hA hu (by omega)) rfl hA.1 rfl rfl ywX10_noPane rfl cwX10_213 ⟨nle rfl, nle rfl⟩ (nle rfl) ⟨nle rfl, nle rfl⟩ dX10_feed_3 ?_ (fun _ _ _ z => z.elim)
  intro r_9 h_9 n_9 hq _
  rw [hq.1, hq.2.1, hq.2.2]
  show pw E YX10_feed _ _ 0 0 6 [some (.ref B), some (.int (zI (p))), some (.long (v)), none, some (.int (zI (k))), none] [.int (zI (mNo s (p))), .ref B] h n
  refine pw_if_eq (tgt := 13) dX10_feed_6 rfl (by omega) (fun c6 => ?_) (fun c6 => ?_)
  ·
    have hp0 : p = 0 := by rw [mN_no hn] at c6; revert c6; split <;> omega
    have ep : p.toNat = 0 := by omega
    refine pw_iload dX10_feed_13 rfl ?_
    refine pw_iconst (v := zI (1)) dX10_feed_15 (by decide) ?_
    refine pw_icmp_lt (tgt := 26) dX10_feed_16 rfl (by omega) (by omega) (fun c16 => ?_) (fun c16 => ?_)
    ·
      refine pw_iconst (v := zI (2)) dX10_feed_26 (by decide) ?_
      refine pw_goto (tgt := 31) dX10_feed_27 rfl ?_
      refine pw_put (fs' := (moL B (va_up s.1 0 (2)))) okX10 (k := 0) (by decide) lkX10_173 rfl rfl rfl hA.1 (nlt rfl) rfl dX10_feed_31 ?_
      have hA1 : mAt B (mV 0 (2) s) (va_up h B (pz_o 13 (moL B (va_up s.1 0 (2))))) := mAt_V hA
      have hF1 : mFr B h (va_up h B (pz_o 13 (moL B (va_up s.1 0 (2))))) := mFr_tr mFr_rf (mFr_up (k := 0) (by decide))
      revert hA1 hF1
      generalize (va_up h B (pz_o 13 (moL B (va_up s.1 0 (2))))) = h1
      intro hA1 hF1
      refine pw_iconst (v := zI (0)) dX10_feed_34 (by decide) ?_
      refine pw_istore (lv' := [some (.ref B), some (.int (zI (p))), some (.long (v)), none, some (.int (zI (k))), some (.int (zI (0)))]) dX10_feed_35 (by decide) rfl rfl ?_
      refine pw_iload dX10_feed_37 rfl ?_
      refine pw_iload dX10_feed_39 rfl ?_
      refine pw_icmp_ge (tgt := 74) dX10_feed_41 rfl (by omega) (by omega) (fun c41 => ?_) (fun c41 => ?_)
      ·
        exact pw_vret dX10_feed_74 rfl (nle rfl) (nle rfl) ⟨⟨(mV 0 (2) s), hA1, (show (2 : Int) = if p = 0 then (if 1 ≤ k ∧ k ≤ 8 then 0 else 2) else 1 from by (first | omega | rfl)), hF1, rfl⟩, rfl⟩
      ·
        refine pw_aload_n dX10_feed_44 rfl ?_
        refine pw_get (v := .int (zI (2))) okX10 (k := 0) (by decide) lkX10_173 hA1.1 rfl dX10_feed_45 ?_
        refine pw_if_ne (tgt := 74) dX10_feed_48 rfl (by omega) (fun c48 => ?_) (fun c48 => ?_)
        ·
          exact pw_vret dX10_feed_74 rfl (nle rfl) (nle rfl) ⟨⟨(mV 0 (2) s), hA1, (show (2 : Int) = if p = 0 then (if 1 ≤ k ∧ k ≤ 8 then 0 else 2) else 1 from by (first | omega | rfl)), hF1, rfl⟩, rfl⟩
        · exfalso; omega
    ·
      refine pw_iload dX10_feed_19 rfl ?_
      refine pw_bipush (v := zI (8)) dX10_feed_21 (by decide) ?_
      refine pw_icmp_le (tgt := 30) dX10_feed_23 rfl (by omega) (by omega) (fun c23 => ?_) (fun c23 => ?_)
      ·
        refine pw_iconst (v := zI (0)) dX10_feed_30 (by decide) ?_
        refine pw_put (fs' := (moL B (va_up s.1 0 (0)))) okX10 (k := 0) (by decide) lkX10_173 rfl rfl rfl hA.1 (nlt rfl) rfl dX10_feed_31 ?_
        have hA2 : mAt B (mV 0 (0) s) (va_up h B (pz_o 13 (moL B (va_up s.1 0 (0))))) := mAt_V hA
        have hF2 : mFr B h (va_up h B (pz_o 13 (moL B (va_up s.1 0 (0))))) := mFr_tr mFr_rf (mFr_up (k := 0) (by decide))
        revert hA2 hF2
        generalize (va_up h B (pz_o 13 (moL B (va_up s.1 0 (0))))) = h2
        intro hA2 hF2
        refine pw_iconst (v := zI (0)) dX10_feed_34 (by decide) ?_
        refine pw_istore (lv' := [some (.ref B), some (.int (zI (p))), some (.long (v)), none, some (.int (zI (k))), some (.int (zI (0)))]) dX10_feed_35 (by decide) rfl rfl ?_
        exact lN_feed htr (by omega) (by omega) _ 0 (mV 0 (0) s) h2 rfl (by omega) (by omega) rfl hA2 (show mPk s p.toNat from by rw [ep]; exact mN_pk hn hw hH) hF2 (fun s2 h2 z0 z1 z2 => ⟨⟨s2, z1, z0.trans (show (0 : Int) = if p = 0 then (if 1 ≤ k ∧ k ≤ 8 then 0 else 2) else 1 from by (first | omega | rfl)), z2, rfl⟩, rfl⟩)
      ·
        refine pw_iconst (v := zI (2)) dX10_feed_26 (by decide) ?_
        refine pw_goto (tgt := 31) dX10_feed_27 rfl ?_
        refine pw_put (fs' := (moL B (va_up s.1 0 (2)))) okX10 (k := 0) (by decide) lkX10_173 rfl rfl rfl hA.1 (nlt rfl) rfl dX10_feed_31 ?_
        have hA3 : mAt B (mV 0 (2) s) (va_up h B (pz_o 13 (moL B (va_up s.1 0 (2))))) := mAt_V hA
        have hF3 : mFr B h (va_up h B (pz_o 13 (moL B (va_up s.1 0 (2))))) := mFr_tr mFr_rf (mFr_up (k := 0) (by decide))
        revert hA3 hF3
        generalize (va_up h B (pz_o 13 (moL B (va_up s.1 0 (2))))) = h3
        intro hA3 hF3
        refine pw_iconst (v := zI (0)) dX10_feed_34 (by decide) ?_
        refine pw_istore (lv' := [some (.ref B), some (.int (zI (p))), some (.long (v)), none, some (.int (zI (k))), some (.int (zI (0)))]) dX10_feed_35 (by decide) rfl rfl ?_
        refine pw_iload dX10_feed_37 rfl ?_
        refine pw_iload dX10_feed_39 rfl ?_
        refine pw_icmp_ge (tgt := 74) dX10_feed_41 rfl (by omega) (by omega) (fun c41 => ?_) (fun c41 => ?_)
        ·
          exact pw_vret dX10_feed_74 rfl (nle rfl) (nle rfl) ⟨⟨(mV 0 (2) s), hA3, (show (2 : Int) = if p = 0 then (if 1 ≤ k ∧ k ≤ 8 then 0 else 2) else 1 from by (first | omega | rfl)), hF3, rfl⟩, rfl⟩
        ·
          refine pw_aload_n dX10_feed_44 rfl ?_
          refine pw_get (v := .int (zI (2))) okX10 (k := 0) (by decide) lkX10_173 hA3.1 rfl dX10_feed_45 ?_
          refine pw_if_ne (tgt := 74) dX10_feed_48 rfl (by omega) (fun c48 => ?_) (fun c48 => ?_)
          ·
            exact pw_vret dX10_feed_74 rfl (nle rfl) (nle rfl) ⟨⟨(mV 0 (2) s), hA3, (show (2 : Int) = if p = 0 then (if 1 ≤ k ∧ k ≤ 8 then 0 else 2) else 1 from by (first | omega | rfl)), hF3, rfl⟩, rfl⟩
          · exfalso; omega
  ·
    have hp0 : ¬ p = 0 := by rw [mN_no hn] at c6; revert c6; split <;> omega
    refine pw_iconst (v := zI (1)) dX10_feed_9 (by decide) ?_
    refine pw_goto (tgt := 31) dX10_feed_10 rfl ?_
    refine pw_put (fs' := (moL B (va_up s.1 0 (1)))) okX10 (k := 0) (by decide) lkX10_173 rfl rfl rfl hA.1 (nlt rfl) rfl dX10_feed_31 ?_
    have hA4 : mAt B (mV 0 (1) s) (va_up h B (pz_o 13 (moL B (va_up s.1 0 (1))))) := mAt_V hA
    have hF4 : mFr B h (va_up h B (pz_o 13 (moL B (va_up s.1 0 (1))))) := mFr_tr mFr_rf (mFr_up (k := 0) (by decide))
    revert hA4 hF4
    generalize (va_up h B (pz_o 13 (moL B (va_up s.1 0 (1))))) = h4
    intro hA4 hF4
    refine pw_iconst (v := zI (0)) dX10_feed_34 (by decide) ?_
    refine pw_istore (lv' := [some (.ref B), some (.int (zI (p))), some (.long (v)), none, some (.int (zI (k))), some (.int (zI (0)))]) dX10_feed_35 (by decide) rfl rfl ?_
    refine pw_iload dX10_feed_37 rfl ?_
    refine pw_iload dX10_feed_39 rfl ?_
    refine pw_icmp_ge (tgt := 74) dX10_feed_41 rfl (by omega) (by omega) (fun c41 => ?_) (fun c41 => ?_)
    ·
      exact pw_vret dX10_feed_74 rfl (nle rfl) (nle rfl) ⟨⟨(mV 0 (1) s), hA4, (show (1 : Int) = if p = 0 then (if 1 ≤ k ∧ k ≤ 8 then 0 else 2) else 1 from by (first | omega | rfl)), hF4, rfl⟩, rfl⟩
    ·
      refine pw_aload_n dX10_feed_44 rfl ?_
      refine pw_get (v := .int (zI (1))) okX10 (k := 0) (by decide) lkX10_173 hA4.1 rfl dX10_feed_45 ?_
      refine pw_if_ne (tgt := 74) dX10_feed_48 rfl (by omega) (fun c48 => ?_) (fun c48 => ?_)
      ·
        exact pw_vret dX10_feed_74 rfl (nle rfl) (nle rfl) ⟨⟨(mV 0 (1) s), hA4, (show (1 : Int) = if p = 0 then (if 1 ≤ k ∧ k ≤ 8 then 0 else 2) else 1 from by (first | omega | rfl)), hF4, rfl⟩, rfl⟩
      · exfalso; omega
