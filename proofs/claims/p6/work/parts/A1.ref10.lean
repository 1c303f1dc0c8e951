def YX10_goUp : pw_Y := (RX10, "goUp", cX10_goUp, 5, none)
theorem ywX10_goUp : pw_y yX10_goUp YX10_goUp 2 := ⟨by decide +kernel, by decide +kernel, by decide +kernel, pw_in 1679 (by decide +kernel) (by decide +kernel), pw_in 106 (by decide +kernel) (by decide +kernel)⟩
theorem cwX10_305 : Cond.methodLink RX10 305 yX10_offsetOf ∈ pw_G ∧ Cond.instanceMethod yX10_offsetOf ∈ pw_G ∧ Cond.selects RX10 yX10_offsetOf yX10_offsetOf ∈ pw_G := ⟨pw_in 1680 (by decide +kernel) (by decide +kernel), pw_in 1682 (by decide +kernel) (by decide +kernel), pw_in 68 (by decide +kernel) (by decide +kernel)⟩
def YX10_focus : pw_Y := (RX10, "focus", cX10_focus, 2, none)
theorem ywX10_focus : pw_y yX10_focus YX10_focus 1 := ⟨by decide +kernel, by decide +kernel, by decide +kernel, pw_in 1565 (by decide +kernel) (by decide +kernel), pw_in 106 (by decide +kernel) (by decide +kernel)⟩
theorem cwX10_213 : Cond.methodLink RX10 213 yX10_noPane ∈ pw_G ∧ Cond.instanceMethod yX10_noPane ∈ pw_G ∧ Cond.selects RX10 yX10_noPane yX10_noPane ∈ pw_G := ⟨pw_in 1523 (by decide +kernel) (by decide +kernel), pw_in 1525 (by decide +kernel) (by decide +kernel), pw_in 35 (by decide +kernel) (by decide +kernel)⟩
def YX10_out : pw_Y := (RX10, "out", cX10_out, 2, (some .int))
theorem ywX10_out : pw_y yX10_out YX10_out 1 := ⟨by decide +kernel, by decide +kernel, by decide +kernel, pw_in 1735 (by decide +kernel) (by decide +kernel), pw_in 106 (by decide +kernel) (by decide +kernel)⟩
theorem lkX10_334 : Cond.fieldLink RX10 334 (TX10 57).1 (TX10 57).2.1 (TX10 57).2.2.1 ∈ pw_G := pw_in 1387 (by decide +kernel) (by decide +kernel)
def YX10_copied : pw_Y := (RX10, "copied", cX10_copied, 2, (some .int))
theorem ywX10_copied : pw_y yX10_copied YX10_copied 1 := ⟨by decide +kernel, by decide +kernel, by decide +kernel, pw_in 1751 (by decide +kernel) (by decide +kernel), pw_in 106 (by decide +kernel) (by decide +kernel)⟩
def YX10_close : pw_Y := (RX10, "close", cX10_close, 2, (some .int))
theorem ywX10_close : pw_y yX10_close YX10_close 1 := ⟨by decide +kernel, by decide +kernel, by decide +kernel, pw_in 1553 (by decide +kernel) (by decide +kernel), pw_in 106 (by decide +kernel) (by decide +kernel)⟩
theorem cwX10_225 : Cond.methodLink RX10 225 yX10_panes ∈ pw_G ∧ Cond.instanceMethod yX10_panes ∈ pw_G ∧ Cond.selects RX10 yX10_panes yX10_panes ∈ pw_G := ⟨pw_in 1554 (by decide +kernel) (by decide +kernel), pw_in 1556 (by decide +kernel) (by decide +kernel), pw_in 41 (by decide +kernel) (by decide +kernel)⟩
def YX10_input : pw_Y := (RX10, "input", cX10_input, 4, (some .int))
theorem ywX10_input : pw_y yX10_input YX10_input 2 := ⟨by decide +kernel, by decide +kernel, by decide +kernel, pw_in 1747 (by decide +kernel) (by decide +kernel), pw_in 106 (by decide +kernel) (by decide +kernel)⟩
def YX10_about : pw_Y := (RX10, "about", cX10_about, 4, (some .int))
theorem ywX10_about : pw_y yX10_about YX10_about 2 := ⟨by decide +kernel, by decide +kernel, by decide +kernel, pw_in 1743 (by decide +kernel) (by decide +kernel), pw_in 106 (by decide +kernel) (by decide +kernel)⟩
theorem lkX10_50 : Cond.fieldLink RX10 50 (TX10 17).1 (TX10 17).2.1 (TX10 17).2.2.1 ∈ pw_G := pw_in 1347 (by decide +kernel) (by decide +kernel)
theorem lkX10_35 : Cond.fieldLink RX10 35 (TX10 11).1 (TX10 11).2.1 (TX10 11).2.2.1 ∈ pw_G := pw_in 1341 (by decide +kernel) (by decide +kernel)
theorem lkX10_32 : Cond.fieldLink RX10 32 (TX10 10).1 (TX10 10).2.1 (TX10 10).2.2.1 ∈ pw_G := pw_in 1340 (by decide +kernel) (by decide +kernel)
def YX10_count : pw_Y := (RX10, "count", cX10_count, 3, (some .int))
theorem ywX10_count : pw_y yX10_count YX10_count 1 := ⟨by decide +kernel, by decide +kernel, by decide +kernel, pw_in 1755 (by decide +kernel) (by decide +kernel), pw_in 106 (by decide +kernel) (by decide +kernel)⟩
theorem cwX10_362 : Cond.methodLink RX10 362 yX10_isSeen ∈ pw_G ∧ Cond.instanceMethod yX10_isSeen ∈ pw_G ∧ Cond.selects RX10 yX10_isSeen yX10_isSeen ∈ pw_G := ⟨pw_in 1728 (by decide +kernel) (by decide +kernel), pw_in 1730 (by decide +kernel) (by decide +kernel), pw_in 77 (by decide +kernel) (by decide +kernel)⟩
def YX10_copy : pw_Y := (RX10, "copy", cX10_copy, 4, (some .int))
theorem ywX10_copy : pw_y yX10_copy YX10_copy 3 := ⟨by decide +kernel, by decide +kernel, by decide +kernel, pw_in 1687 (by decide +kernel) (by decide +kernel), pw_in 106 (by decide +kernel) (by decide +kernel)⟩
theorem cwX10_320 : Cond.methodLink RX10 320 yX10_goUp ∈ pw_G ∧ Cond.instanceMethod yX10_goUp ∈ pw_G ∧ Cond.selects RX10 yX10_goUp yX10_goUp ∈ pw_G := ⟨pw_in 1676 (by decide +kernel) (by decide +kernel), pw_in 1678 (by decide +kernel) (by decide +kernel), pw_in 67 (by decide +kernel) (by decide +kernel)⟩
def YX10_key : pw_Y := (RX10, "key", cX10_key, 2, (some .int))
theorem ywX10_key : pw_y yX10_key YX10_key 1 := ⟨by decide +kernel, by decide +kernel, by decide +kernel, pw_in 1667 (by decide +kernel) (by decide +kernel), pw_in 106 (by decide +kernel) (by decide +kernel)⟩
theorem lkX10_314 : Cond.fieldLink RX10 314 (TX10 48).1 (TX10 48).2.1 (TX10 48).2.2.1 ∈ pw_G := pw_in 1378 (by decide +kernel) (by decide +kernel)
theorem cwX10_311 : Cond.methodLink RX10 311 yX10_comesIn ∈ pw_G ∧ Cond.instanceMethod yX10_comesIn ∈ pw_G ∧ Cond.selects RX10 yX10_comesIn yX10_comesIn ∈ pw_G := ⟨pw_in 1672 (by decide +kernel) (by decide +kernel), pw_in 1674 (by decide +kernel) (by decide +kernel), pw_in 66 (by decide +kernel) (by decide +kernel)⟩
def YX10_feed : pw_Y := (RX10, "feed", cX10_feed, 6, none)
theorem ywX10_feed : pw_y yX10_feed YX10_feed 3 := ⟨by decide +kernel, by decide +kernel, by decide +kernel, pw_in 1569 (by decide +kernel) (by decide +kernel), pw_in 106 (by decide +kernel) (by decide +kernel)⟩
theorem cwX10_302 : Cond.methodLink RX10 302 yX10_take ∈ pw_G ∧ Cond.instanceMethod yX10_take ∈ pw_G ∧ Cond.selects RX10 yX10_take yX10_take ∈ pw_G := ⟨pw_in 1570 (by decide +kernel) (by decide +kernel), pw_in 1572 (by decide +kernel) (by decide +kernel), pw_in 43 (by decide +kernel) (by decide +kernel)⟩
/-- the reference's numbers and arrays, new -/
def nV (w H : Int) (k : Nat) : Int := if k = 1 then w else if k = 2 then H else if k = 55 then 1 else 0
def nA (w H : Int) (k i : Nat) : Int := if i = 0 then (if k = 3 then 1 else if k = 7 then -1 else if k = 12 then w else if k = 13 then H else if k = 16 then 1 else if k = 18 then w else if k = 19 then H else if k = 30 then H - 1 else if k = 33 then 1 else 0) else 0
abbrev mKs : List Nat := [3, 4, 5, 6, 7, 8, 9, 10, 11, 12, 13, 15, 16, 17, 18, 19, 21, 22, 23, 24, 25, 26, 27, 28, 29, 30, 31, 32, 33, 34, 35, 36, 37, 38, 39, 40, 41, 42, 43, 44, 45, 46, 50, 52, 58, 59, 60]
abbrev mVs : List Nat := [0, 1, 2, 14, 47, 48, 49, 53, 54, 55, 56, 57]
def mN (w H : Int) (s : mS) : Prop := (∀ k ∈ mVs, s.1 k = nV w H k) ∧ (∀ k ∈ mKs, s.2 k = nA w H k) ∧ (∀ i, i < 1280 → s.2 20 i = 32) ∧ ∀ i, i < 640 → s.2 51 i = 32
theorem mN_3 {w H : Int} {s : mS} (hn : mN w H s) : s.2 3 0 = 1 := by rw [hn.2.1 3 (by decide)]; rfl
theorem mZ_3 {w H : Int} {s : mS} (hn : mN w H s) {i : Nat} (hi : 0 < i) : s.2 3 i = 0 := by rw [hn.2.1 3 (by decide)]; exact if_neg (by omega)
theorem mN_4 {w H : Int} {s : mS} (hn : mN w H s) : s.2 4 0 = 0 := by rw [hn.2.1 4 (by decide)]; rfl
theorem mN_7 {w H : Int} {s : mS} (hn : mN w H s) : s.2 7 0 = -1 := by rw [hn.2.1 7 (by decide)]; rfl
theorem mN_10 {w H : Int} {s : mS} (hn : mN w H s) : s.2 10 0 = 0 := by rw [hn.2.1 10 (by decide)]; rfl
theorem mN_11 {w H : Int} {s : mS} (hn : mN w H s) : s.2 11 0 = 0 := by rw [hn.2.1 11 (by decide)]; rfl
theorem mN_12 {w H : Int} {s : mS} (hn : mN w H s) : s.2 12 0 = w := by rw [hn.2.1 12 (by decide)]; rfl
theorem mN_13 {w H : Int} {s : mS} (hn : mN w H s) : s.2 13 0 = H := by rw [hn.2.1 13 (by decide)]; rfl
theorem mN_16 {w H : Int} {s : mS} (hn : mN w H s) : s.2 16 0 = 1 := by rw [hn.2.1 16 (by decide)]; rfl
theorem mZ_16 {w H : Int} {s : mS} (hn : mN w H s) {i : Nat} (hi : 0 < i) : s.2 16 i = 0 := by rw [hn.2.1 16 (by decide)]; exact if_neg (by omega)
theorem mN_17 {w H : Int} {s : mS} (hn : mN w H s) : s.2 17 0 = 0 := by rw [hn.2.1 17 (by decide)]; rfl
theorem mN_18 {w H : Int} {s : mS} (hn : mN w H s) : s.2 18 0 = w := by rw [hn.2.1 18 (by decide)]; rfl
theorem mN_19 {w H : Int} {s : mS} (hn : mN w H s) : s.2 19 0 = H := by rw [hn.2.1 19 (by decide)]; rfl
theorem mN_22 {w H : Int} {s : mS} (hn : mN w H s) : s.2 22 0 = 0 := by rw [hn.2.1 22 (by decide)]; rfl
theorem mZ_22 {w H : Int} {s : mS} (hn : mN w H s) {i : Nat} (hi : 0 < i) : s.2 22 i = 0 := by rw [hn.2.1 22 (by decide)]; exact if_neg (by omega)
theorem mN_23 {w H : Int} {s : mS} (hn : mN w H s) : s.2 23 0 = 0 := by rw [hn.2.1 23 (by decide)]; rfl
theorem mN_24 {w H : Int} {s : mS} (hn : mN w H s) : s.2 24 0 = 0 := by rw [hn.2.1 24 (by decide)]; rfl
theorem mN_26 {w H : Int} {s : mS} (hn : mN w H s) : s.2 26 0 = 0 := by rw [hn.2.1 26 (by decide)]; rfl
theorem mN_27 {w H : Int} {s : mS} (hn : mN w H s) : s.2 27 0 = 0 := by rw [hn.2.1 27 (by decide)]; rfl
theorem mN_29 {w H : Int} {s : mS} (hn : mN w H s) : s.2 29 0 = 0 := by rw [hn.2.1 29 (by decide)]; rfl
theorem mN_30 {w H : Int} {s : mS} (hn : mN w H s) : s.2 30 0 = H - 1 := by rw [hn.2.1 30 (by decide)]; rfl
theorem mN_31 {w H : Int} {s : mS} (hn : mN w H s) : s.2 31 0 = 0 := by rw [hn.2.1 31 (by decide)]; rfl
theorem mZ_31 {w H : Int} {s : mS} (hn : mN w H s) {i : Nat} (hi : 0 < i) : s.2 31 i = 0 := by rw [hn.2.1 31 (by decide)]; exact if_neg (by omega)
theorem mN_32 {w H : Int} {s : mS} (hn : mN w H s) : s.2 32 0 = 0 := by rw [hn.2.1 32 (by decide)]; rfl
theorem mZ_32 {w H : Int} {s : mS} (hn : mN w H s) {i : Nat} (hi : 0 < i) : s.2 32 i = 0 := by rw [hn.2.1 32 (by decide)]; exact if_neg (by omega)
theorem mN_33 {w H : Int} {s : mS} (hn : mN w H s) : s.2 33 0 = 1 := by rw [hn.2.1 33 (by decide)]; rfl
theorem mZ_33 {w H : Int} {s : mS} (hn : mN w H s) {i : Nat} (hi : 0 < i) : s.2 33 i = 0 := by rw [hn.2.1 33 (by decide)]; exact if_neg (by omega)
theorem mN_34 {w H : Int} {s : mS} (hn : mN w H s) : s.2 34 0 = 0 := by rw [hn.2.1 34 (by decide)]; rfl
theorem mZ_34 {w H : Int} {s : mS} (hn : mN w H s) {i : Nat} (hi : 0 < i) : s.2 34 i = 0 := by rw [hn.2.1 34 (by decide)]; exact if_neg (by omega)
theorem mN_35 {w H : Int} {s : mS} (hn : mN w H s) : s.2 35 0 = 0 := by rw [hn.2.1 35 (by decide)]; rfl
theorem mZ_35 {w H : Int} {s : mS} (hn : mN w H s) {i : Nat} (hi : 0 < i) : s.2 35 i = 0 := by rw [hn.2.1 35 (by decide)]; exact if_neg (by omega)
theorem mN_36 {w H : Int} {s : mS} (hn : mN w H s) : s.2 36 0 = 0 := by rw [hn.2.1 36 (by decide)]; rfl
theorem mZ_36 {w H : Int} {s : mS} (hn : mN w H s) {i : Nat} (hi : 0 < i) : s.2 36 i = 0 := by rw [hn.2.1 36 (by decide)]; exact if_neg (by omega)
theorem mN_37 {w H : Int} {s : mS} (hn : mN w H s) : s.2 37 0 = 0 := by rw [hn.2.1 37 (by decide)]; rfl
theorem mZ_37 {w H : Int} {s : mS} (hn : mN w H s) {i : Nat} (hi : 0 < i) : s.2 37 i = 0 := by rw [hn.2.1 37 (by decide)]; exact if_neg (by omega)
theorem mN_38 {w H : Int} {s : mS} (hn : mN w H s) : s.2 38 0 = 0 := by rw [hn.2.1 38 (by decide)]; rfl
theorem mZ_38 {w H : Int} {s : mS} (hn : mN w H s) {i : Nat} (hi : 0 < i) : s.2 38 i = 0 := by rw [hn.2.1 38 (by decide)]; exact if_neg (by omega)
theorem mN_39 {w H : Int} {s : mS} (hn : mN w H s) : s.2 39 0 = 0 := by rw [hn.2.1 39 (by decide)]; rfl
theorem mZ_39 {w H : Int} {s : mS} (hn : mN w H s) {i : Nat} (hi : 0 < i) : s.2 39 i = 0 := by rw [hn.2.1 39 (by decide)]; exact if_neg (by omega)
theorem mN_42 {w H : Int} {s : mS} (hn : mN w H s) : s.2 42 0 = 0 := by rw [hn.2.1 42 (by decide)]; rfl
theorem mZ_42 {w H : Int} {s : mS} (hn : mN w H s) {i : Nat} (hi : 0 < i) : s.2 42 i = 0 := by rw [hn.2.1 42 (by decide)]; exact if_neg (by omega)
theorem mN_43 {w H : Int} {s : mS} (hn : mN w H s) : s.2 43 0 = 0 := by rw [hn.2.1 43 (by decide)]; rfl
theorem mN_44 {w H : Int} {s : mS} (hn : mN w H s) : s.2 44 0 = 0 := by rw [hn.2.1 44 (by decide)]; rfl
theorem mN_45 {w H : Int} {s : mS} (hn : mN w H s) : s.2 45 0 = 0 := by rw [hn.2.1 45 (by decide)]; rfl
theorem mZ_45 {w H : Int} {s : mS} (hn : mN w H s) {i : Nat} (hi : 0 < i) : s.2 45 i = 0 := by rw [hn.2.1 45 (by decide)]; exact if_neg (by omega)
theorem mNv_1 {w H : Int} {s : mS} (hn : mN w H s) : s.1 1 = w := by rw [hn.1 1 (by decide)]; rfl
theorem mNv_2 {w H : Int} {s : mS} (hn : mN w H s) : s.1 2 = H := by rw [hn.1 2 (by decide)]; rfl
theorem mNv_47 {w H : Int} {s : mS} (hn : mN w H s) : s.1 47 = 0 := by rw [hn.1 47 (by decide)]; rfl
theorem mNv_48 {w H : Int} {s : mS} (hn : mN w H s) : s.1 48 = 0 := by rw [hn.1 48 (by decide)]; rfl
theorem mNv_49 {w H : Int} {s : mS} (hn : mN w H s) : s.1 49 = 0 := by rw [hn.1 49 (by decide)]; rfl
theorem mNv_53 {w H : Int} {s : mS} (hn : mN w H s) : s.1 53 = 0 := by rw [hn.1 53 (by decide)]; rfl
theorem mNv_54 {w H : Int} {s : mS} (hn : mN w H s) : s.1 54 = 0 := by rw [hn.1 54 (by decide)]; rfl
theorem mNv_55 {w H : Int} {s : mS} (hn : mN w H s) : s.1 55 = 1 := by rw [hn.1 55 (by decide)]; rfl
theorem mNv_56 {w H : Int} {s : mS} (hn : mN w H s) : s.1 56 = 0 := by rw [hn.1 56 (by decide)]; rfl
theorem mNv_57 {w H : Int} {s : mS} (hn : mN w H s) : s.1 57 = 0 := by rw [hn.1 57 (by decide)]; rfl
theorem mN_pk {w H : Int} {s : mS} (hn : mN w H s) (hw : 8 ≤ w ∧ w ≤ 40) (hH : 4 ≤ H ∧ H ≤ 16) : mPk s 0 := by
  refine ⟨?_, ?_, ?_, ?_, ?_, ?_, ?_, ?_, ?_, ?_, ?_, ?_, ?_, ?_, ?_, ?_, ?_, ?_, ?_, ?_, ?_⟩
  · rw [mN_18 hn]; omega
  · rw [mN_19 hn]; omega
  · rw [mN_23 hn, mN_19 hn]; omega
  · rw [mN_24 hn, mN_18 hn]; omega
  · rw [mN_26 hn, mN_19 hn]; omega
  · rw [mN_27 hn, mN_18 hn]; omega
  · rw [mN_29 hn, mN_30 hn, mN_19 hn]; omega
  · rw [mN_22 hn]; omega
  · rw [mN_31 hn]; omega
  · rw [mN_32 hn]; omega
  · rw [mN_33 hn]; omega
  · rw [mN_34 hn]; omega
  · rw [mN_35 hn]; omega
  · intro j hj
    by_cases e : j = 0
    · rw [e]; show 0 ≤ s.2 36 0 ∧ s.2 36 0 ≤ 999; rw [mN_36 hn]; omega
    · rw [mZ_36 hn (by omega)]; omega
  · rw [mN_37 hn]; omega
  · rw [mN_38 hn]; omega
  · rw [mN_39 hn]; omega
  · rw [mN_42 hn]; omega
  · rw [mN_43 hn]; omega
  · rw [mN_44 hn]; omega
  · rw [mN_45 hn]; omega
def mUp (s : mS) (p n : Int) : Int := if mOf s p + n < 0 then 0 else if s.2 42 p.toNat < mOf s p + n then s.2 42 p.toNat else mOf s p + n
theorem mOf_b {s : mS} {p : Int} (h44 : 0 ≤ s.2 44 p.toNat ∧ s.2 44 p.toNat ≤ 30) (h42 : 0 ≤ s.2 42 p.toNat ∧ s.2 42 p.toNat ≤ 30) : 0 ≤ mOf s p ∧ mOf s p ≤ 30 := by
  unfold mOf
  split <;> omega
theorem mUp_b {s : mS} {p n : Int} (h42 : 0 ≤ s.2 42 p.toNat ∧ s.2 42 p.toNat ≤ 30) : 0 ≤ mUp s p n ∧ mUp s p n ≤ 30 := by
  constructor <;> (unfold mUp; split) <;> (try split) <;> omega
set_option maxHeartbeats 1000000 in
set_option maxRecDepth 100000 in
/-- goUp(p, k) -/
theorem nR_goUp {E : pw_E} (htr : E.1.stackTraces = false) {h : pz_H} {n : Nat} {B : Nat} {s : mS} (hA : mAt B s h) {p k : Int}  (hp : 0 ≤ p ∧ p < 8) (h43 : 0 ≤ s.2 43 p.toNat ∧ s.2 43 p.toNat ≤ 1) (h44 : 0 ≤ s.2 44 p.toNat ∧ s.2 44 p.toNat ≤ 30) (h42 : 0 ≤ s.2 42 p.toNat ∧ s.2 42 p.toNat ≤ 30) (h_k : -2147483648 ≤ k ∧ k < 2147483648) : pw_M E yX10_goUp YX10_goUp (rmD 2 0 0) [.ref B, .int (zI (p)), .int (zI (k))] h n (fun r0 h' n' => r0 = none ∧ mAt B (mA 44 (va_up (s.2 44) p.toNat (mUp s p k)) s) h' ∧ mFr B h h' ∧ n' = n) (fun _ _ _ => False) := by
  have hob := mOf_b h44 h42
  refine pw_M_of (lv := [some (.ref B), some (.int (zI (p))), some (.int (zI (k))), none, none]) (by decide) rfl rfl htr (nle rfl) rfl (fun L => ?_)
  refine pw_aload_n dX10_goUp_0 rfl ?_
  refine pw_iload_n dX10_goUp_1 rfl ?_
  refine pw_callV (As := [.int (zI (p))]) (b := B) (rm := rmD 1 0 0) (nR_offsetOf htr hA hp h43 h44 h42) rfl hA.1 rfl rfl ywX10_offsetOf rfl cwX10_305 ⟨nle rfl, nle rfl⟩ (nle rfl) ⟨nle rfl, nle rfl⟩ dX10_goUp_2 ?_ (fun _ _ _ z => z.elim)
  intro r_9 h_9 n_9 hq _
  rw [hq.1, hq.2.1, hq.2.2]
  show pw E YX10_goUp _ _ 0 0 5 [some (.ref B), some (.int (zI (p))), some (.int (zI (k))), none, none] [.int (zI (mOf s (p)))] h n
  refine pw_zi2l dX10_goUp_5 (by omega) ?_
  refine pw_iload_n dX10_goUp_6 rfl ?_
  refine pw_zi2l dX10_goUp_7 (by omega) ?_
  refine pw_zladd dX10_goUp_8 ?_
  refine pw_lstore_n (lv' := [some (.ref B), some (.int (zI (p))), some (.int (zI (k))), some (.long (zL ((mOf s (p)) + (k)))), none]) dX10_goUp_9 (by decide) rfl rfl ?_
  refine pw_aload_n dX10_goUp_10 rfl ?_
  refine pw_get (v := .ref (B + 41)) okX10 (k := 44) (by decide) lkX10_131 hA.1 rfl dX10_goUp_11 ?_
  refine pw_iload_n dX10_goUp_14 rfl ?_
  refine pw_lload_n dX10_goUp_15 rfl ?_
  refine pw_lconst (a := 0) dX10_goUp_16 (by decide) ?_
  refine pw_zlcmp dX10_goUp_17 (by omega) (by omega) ?_
  refine pw_if_ge (tgt := 25) dX10_goUp_18 rfl (by omega) (fun c18 => ?_) (fun c18 => ?_)
  ·
    refine pw_lload_n dX10_goUp_25 rfl ?_
    refine pw_aload_n dX10_goUp_26 rfl ?_
    refine pw_get (v := .ref (B + 39)) okX10 (k := 42) (by decide) lkX10_125 hA.1 rfl dX10_goUp_27 ?_
    refine pw_iload_n dX10_goUp_30 rfl ?_
    refine pw_iald (g := (s.2 42)) (t := 0) rfl (mF42 (s := s) hA) (by omega) (by decide) dX10_goUp_31 ?_
    refine pw_zi2l dX10_goUp_32 (by omega) ?_
    refine pw_zlcmp dX10_goUp_33 (by omega) (by omega) ?_
    refine pw_if_le (tgt := 46) dX10_goUp_34 rfl (by omega) (fun c34 => ?_) (fun c34 => ?_)
    ·
      refine pw_lload_n dX10_goUp_46 rfl ?_
      refine pw_zl2i dX10_goUp_47 (by omega) ?_
      refine pw_iast (g := (s.2 44)) (t := 0) rfl (mF44 (s := s) hA) (by omega) (by decide) dX10_goUp_48 ?_
      have hA1 : mAt B (mA 44 (va_up (s.2 44) (p).toNat ((mOf s (p)) + (k))) s) (va_up h (B + 41) (pz_z 0 8 (va_up (s.2 44) (p).toNat ((mOf s (p)) + (k))))) := mU44 hA
      have hF1 : mFr B h (va_up h (B + 41) (pz_z 0 8 (va_up (s.2 44) (p).toNat ((mOf s (p)) + (k))))) := mFr_tr mFr_rf (mFr_up (by decide))
      revert hA1 hF1
      generalize (va_up h (B + 41) (pz_z 0 8 (va_up (s.2 44) (p).toNat ((mOf s (p)) + (k))))) = h1
      intro hA1 hF1
      have ev : mUp s p k = (mOf s (p)) + (k) := by unfold mUp; (repeat (first | rw [if_pos (by omega)] | rw [if_neg (by omega)]))
      exact pw_vret dX10_goUp_49 rfl (nle rfl) (nle rfl) ⟨rfl, (by rw [ev]; exact hA1), hF1, rfl⟩
    ·
      refine pw_aload_n dX10_goUp_37 rfl ?_
      refine pw_get (v := .ref (B + 39)) okX10 (k := 42) (by decide) lkX10_125 hA.1 rfl dX10_goUp_38 ?_
      refine pw_iload_n dX10_goUp_41 rfl ?_
      refine pw_iald (g := (s.2 42)) (t := 0) rfl (mF42 (s := s) hA) (by omega) (by decide) dX10_goUp_42 ?_
      refine pw_goto (tgt := 48) dX10_goUp_43 rfl ?_
      refine pw_iast (g := (s.2 44)) (t := 0) rfl (mF44 (s := s) hA) (by omega) (by decide) dX10_goUp_48 ?_
      have hA2 : mAt B (mA 44 (va_up (s.2 44) (p).toNat ((s.2 42) (p).toNat)) s) (va_up h (B + 41) (pz_z 0 8 (va_up (s.2 44) (p).toNat ((s.2 42) (p).toNat)))) := mU44 hA
      have hF2 : mFr B h (va_up h (B + 41) (pz_z 0 8 (va_up (s.2 44) (p).toNat ((s.2 42) (p).toNat)))) := mFr_tr mFr_rf (mFr_up (by decide))
      revert hA2 hF2
      generalize (va_up h (B + 41) (pz_z 0 8 (va_up (s.2 44) (p).toNat ((s.2 42) (p).toNat)))) = h2
      intro hA2 hF2
      have ev : mUp s p k = (s.2 42) (p).toNat := by unfold mUp; (repeat (first | rw [if_pos (by omega)] | rw [if_neg (by omega)]))
      exact pw_vret dX10_goUp_49 rfl (nle rfl) (nle rfl) ⟨rfl, (by rw [ev]; exact hA2), hF2, rfl⟩
  ·
    refine pw_iconst (v := zI (0)) dX10_goUp_21 (by decide) ?_
    refine pw_goto (tgt := 48) dX10_goUp_22 rfl ?_
    refine pw_iast (g := (s.2 44)) (t := 0) rfl (mF44 (s := s) hA) (by omega) (by decide) dX10_goUp_48 ?_
    have hA3 : mAt B (mA 44 (va_up (s.2 44) (p).toNat (0)) s) (va_up h (B + 41) (pz_z 0 8 (va_up (s.2 44) (p).toNat (0)))) := mU44 hA
    have hF3 : mFr B h (va_up h (B + 41) (pz_z 0 8 (va_up (s.2 44) (p).toNat (0)))) := mFr_tr mFr_rf (mFr_up (by decide))
    revert hA3 hF3
    generalize (va_up h (B + 41) (pz_z 0 8 (va_up (s.2 44) (p).toNat (0)))) = h3
    intro hA3 hF3
    have ev : mUp s p k = 0 := by unfold mUp; (repeat (first | rw [if_pos (by omega)] | rw [if_neg (by omega)]))
    exact pw_vret dX10_goUp_49 rfl (nle rfl) (nle rfl) ⟨rfl, (by rw [ev]; exact hA3), hF3, rfl⟩
