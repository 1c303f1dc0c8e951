def YX10_least : pw_Y := (RX10, "least", cX10_least, 2, (some .int))
theorem ywX10_least : pw_y yX10_least YX10_least 2 := ⟨by decide +kernel, by decide +kernel, by decide +kernel, pw_in 1549 (by decide +kernel) (by decide +kernel), pw_in 106 (by decide +kernel) (by decide +kernel)⟩
def YX10_cellOf : pw_Y := (RX10, "cellOf", cX10_cellOf, 4, (some .int))
theorem ywX10_cellOf : pw_y yX10_cellOf YX10_cellOf 4 := ⟨by decide +kernel, by decide +kernel, by decide +kernel, pw_in 1325 (by decide +kernel) (by decide +kernel), pw_in 106 (by decide +kernel) (by decide +kernel)⟩
def YX10_shown : pw_Y := (RX10, "shown", cX10_shown, 2, (some .int))
theorem ywX10_shown : pw_y yX10_shown YX10_shown 1 := ⟨by decide +kernel, by decide +kernel, by decide +kernel, pw_in 1604 (by decide +kernel) (by decide +kernel), pw_in 106 (by decide +kernel) (by decide +kernel)⟩
theorem lkX10_65 : Cond.fieldLink RX10 65 (TX10 22).1 (TX10 22).2.1 (TX10 22).2.2.1 ∈ pw_G := pw_in 1352 (by decide +kernel) (by decide +kernel)
def YX10_at : pw_Y := (RX10, "at", cX10_at, 4, (some .int))
theorem ywX10_at : pw_y yX10_at YX10_at 3 := ⟨by decide +kernel, by decide +kernel, by decide +kernel, pw_in 1600 (by decide +kernel) (by decide +kernel), pw_in 106 (by decide +kernel) (by decide +kernel)⟩
theorem cwX10_176 : Cond.methodLink RX10 176 yX10_shown ∈ pw_G ∧ Cond.instanceMethod yX10_shown ∈ pw_G ∧ Cond.selects RX10 yX10_shown yX10_shown ∈ pw_G := ⟨pw_in 1601 (by decide +kernel) (by decide +kernel), pw_in 1603 (by decide +kernel) (by decide +kernel), pw_in 50 (by decide +kernel) (by decide +kernel)⟩
theorem cwX10_180 : Cond.methodLink RX10 180 yX10_cellOf ∈ pw_G ∧ Cond.static yX10_cellOf ∈ pw_G := ⟨pw_in 1323 (by decide +kernel) (by decide +kernel), pw_in 1324 (by decide +kernel) (by decide +kernel)⟩
def YX10_blank : pw_Y := (RX10, "blank", cX10_blank, 3, none)
theorem ywX10_blank : pw_y yX10_blank YX10_blank 2 := ⟨by decide +kernel, by decide +kernel, by decide +kernel, pw_in 1329 (by decide +kernel) (by decide +kernel), pw_in 106 (by decide +kernel) (by decide +kernel)⟩
theorem lkX10_59 : Cond.fieldLink RX10 59 (TX10 20).1 (TX10 20).2.1 (TX10 20).2.2.1 ∈ pw_G := pw_in 1350 (by decide +kernel) (by decide +kernel)
theorem lkX10_62 : Cond.fieldLink RX10 62 (TX10 21).1 (TX10 21).2.1 (TX10 21).2.2.1 ∈ pw_G := pw_in 1351 (by decide +kernel) (by decide +kernel)
def YX10_moveTo : pw_Y := (RX10, "moveTo", cX10_moveTo, 4, none)
theorem ywX10_moveTo : pw_y yX10_moveTo YX10_moveTo 3 := ⟨by decide +kernel, by decide +kernel, by decide +kernel, pw_in 1581 (by decide +kernel) (by decide +kernel), pw_in 106 (by decide +kernel) (by decide +kernel)⟩
theorem lkX10_68 : Cond.fieldLink RX10 68 (TX10 23).1 (TX10 23).2.1 (TX10 23).2.2.1 ∈ pw_G := pw_in 1353 (by decide +kernel) (by decide +kernel)
theorem lkX10_56 : Cond.fieldLink RX10 56 (TX10 19).1 (TX10 19).2.1 (TX10 19).2.2.1 ∈ pw_G := pw_in 1349 (by decide +kernel) (by decide +kernel)
theorem cwX10_192 : Cond.methodLink RX10 192 yX10_least ∈ pw_G ∧ Cond.static yX10_least ∈ pw_G := ⟨pw_in 1547 (by decide +kernel) (by decide +kernel), pw_in 1548 (by decide +kernel) (by decide +kernel)⟩
theorem lkX10_71 : Cond.fieldLink RX10 71 (TX10 24).1 (TX10 24).2.1 (TX10 24).2.2.1 ∈ pw_G := pw_in 1354 (by decide +kernel) (by decide +kernel)
theorem lkX10_53 : Cond.fieldLink RX10 53 (TX10 18).1 (TX10 18).2.1 (TX10 18).2.2.1 ∈ pw_G := pw_in 1348 (by decide +kernel) (by decide +kernel)
theorem lkX10_92 : Cond.fieldLink RX10 92 (TX10 31).1 (TX10 31).2.1 (TX10 31).2.2.1 ∈ pw_G := pw_in 1361 (by decide +kernel) (by decide +kernel)
/-- what is true of a pane's numbers in the reference -/
def mPk (s : mS) (p : Nat) : Prop := (1 ≤ s.2 18 p ∧ s.2 18 p ≤ 40) ∧ (1 ≤ s.2 19 p ∧ s.2 19 p ≤ 16) ∧ (0 ≤ s.2 23 p ∧ s.2 23 p < s.2 19 p) ∧ (0 ≤ s.2 24 p ∧ s.2 24 p < s.2 18 p) ∧ (0 ≤ s.2 26 p ∧ s.2 26 p < s.2 19 p) ∧ (0 ≤ s.2 27 p ∧ s.2 27 p < s.2 18 p) ∧ (0 ≤ s.2 29 p ∧ s.2 29 p ≤ s.2 30 p ∧ s.2 30 p < s.2 19 p) ∧ (0 ≤ s.2 22 p ∧ s.2 22 p ≤ 1) ∧ (0 ≤ s.2 31 p ∧ s.2 31 p ≤ 1) ∧ (0 ≤ s.2 32 p ∧ s.2 32 p ≤ 1) ∧ (0 ≤ s.2 33 p ∧ s.2 33 p ≤ 1) ∧ (0 ≤ s.2 34 p ∧ s.2 34 p ≤ 1) ∧ (0 ≤ s.2 35 p ∧ s.2 35 p ≤ 2) ∧ (∀ j, j < 4 → 0 ≤ s.2 36 (4 * p + j) ∧ s.2 36 (4 * p + j) ≤ 999) ∧ (0 ≤ s.2 37 p ∧ s.2 37 p ≤ 5) ∧ (0 ≤ s.2 38 p ∧ s.2 38 p ≤ 1) ∧ (0 ≤ s.2 39 p ∧ s.2 39 p ≤ 1) ∧ (0 ≤ s.2 42 p ∧ s.2 42 p ≤ 30) ∧ (0 ≤ s.2 43 p ∧ s.2 43 p ≤ 1) ∧ (0 ≤ s.2 44 p ∧ s.2 44 p ≤ 30) ∧ (0 ≤ s.2 45 p ∧ s.2 45 p ≤ 900000000)
/-- from s to s1 pane p alone has changed, and of its numbers only those of its screen -/
def mPr (p : Nat) (s s1 : mS) : Prop := s1.1 = s.1 ∧ (∀ k, (k < 20 ∨ 42 < k) → s1.2 k = s.2 k) ∧ (∀ k, 22 ≤ k → k ≤ 42 → k ≠ 36 → k ≠ 40 → k ≠ 41 → ∀ i, i ≠ p → s1.2 k i = s.2 k i) ∧ ∀ i, (i < 4 * p ∨ 4 * p + 4 ≤ i) → s1.2 36 i = s.2 36 i
theorem mPr_rf {p : Nat} {s : mS} : mPr p s s := ⟨rfl, fun _ _ => rfl, fun _ _ _ _ _ _ _ _ => rfl, fun _ _ => rfl⟩
theorem mPr_tr {p : Nat} {s s1 s2 : mS} (a : mPr p s s1) (b : mPr p s1 s2) : mPr p s s2 := ⟨b.1.trans a.1, fun k hk => (b.2.1 k hk).trans (a.2.1 k hk), fun k h1 h2 h3 h4 h5 i hi => (b.2.2.1 k h1 h2 h3 h4 h5 i hi).trans (a.2.2.1 k h1 h2 h3 h4 h5 i hi), fun i hi => (b.2.2.2 i hi).trans (a.2.2.2 i hi)⟩
theorem mPr_W {p j : Nat} {s : mS} {v : Int} (h1 : 22 ≤ j) (h2 : j ≤ 42) (h3 : j ≠ 36) : mPr p s (mA j (va_up (s.2 j) p v) s) := by
  refine ⟨rfl, fun k hk => ?_, fun k a1 a2 a3 a4 a5 i hi => ?_, fun i hi => ?_⟩
  · show va_up s.2 j _ k = s.2 k
    rw [va_up_ne _ _ (by omega)]
  · show va_up s.2 j (va_up (s.2 j) p v) k i = s.2 k i
    by_cases e : k = j
    · subst e; rw [va_up_self, va_up_ne _ _ hi]
    · rw [va_up_ne _ _ e]
  · show va_up s.2 j _ 36 i = s.2 36 i
    rw [va_up_ne _ _ (Ne.symm h3)]
theorem mPr_C {p j : Nat} {s : mS} {g : Nat → Int} (h1 : j = 20 ∨ j = 21 ∨ j = 40 ∨ j = 41) : mPr p s (mA j g s) := by
  refine ⟨rfl, fun k hk => ?_, fun k a1 a2 a3 a4 a5 i hi => ?_, fun i hi => ?_⟩
  · show va_up s.2 j _ k = s.2 k
    rw [va_up_ne _ _ (by omega)]
  · show va_up s.2 j g k i = s.2 k i
    rw [va_up_ne _ _ (by omega)]
  · show va_up s.2 j _ 36 i = s.2 36 i
    rw [va_up_ne _ _ (by omega)]
theorem mPr_N {p i : Nat} {s : mS} {v : Int} (hi : 4 * p ≤ i ∧ i < 4 * p + 4) : mPr p s (mA 36 (va_up (s.2 36) i v) s) := by
  refine ⟨rfl, fun k hk => ?_, fun k a1 a2 a3 a4 a5 j hj => ?_, fun j hj => ?_⟩
  · show va_up s.2 36 _ k = s.2 k
    rw [va_up_ne _ _ (by omega)]
  · show va_up s.2 36 _ k j = s.2 k j
    rw [va_up_ne _ _ a3]
  · show va_up s.2 36 (va_up (s.2 36) i v) 36 j = s.2 36 j
    rw [va_up_self, va_up_ne _ _ (by omega)]
def mCell (p w r c : Int) : Int := ((p * 2 + w) * 16 + r) * 40 + c
theorem mCell_b {p w r c : Int} (hp : 0 ≤ p ∧ p < 8) (hw : 0 ≤ w ∧ w ≤ 1) (hr : 0 ≤ r ∧ r < 16) (hc : 0 ≤ c ∧ c < 40) : 0 ≤ mCell p w r c ∧ mCell p w r c < 10240 := by
  unfold mCell
  omega
theorem mP23 {s : mS} {p : Nat} {v : Int} (hk : mPk s p) (hv : 0 ≤ v ∧ v < s.2 19 p) : mPk (mA 23 (va_up (s.2 23) p v) s) p := by
  obtain ⟨kw, kh, kr, kc, ksr, ksc, kt, ko, kwa, kin, kwr, khi, krd, knu, kgi, kas, kfr, kra, kco, kof, kip⟩ := hk
  exact ⟨kw, kh, (show (0 ≤ va_up (s.2 23) p v p ∧ va_up (s.2 23) p v p < s.2 19 p) by rw [va_up_self]; omega), kc, ksr, ksc, kt, ko, kwa, kin, kwr, khi, krd, knu, kgi, kas, kfr, kra, kco, kof, kip⟩
theorem mP24 {s : mS} {p : Nat} {v : Int} (hk : mPk s p) (hv : 0 ≤ v ∧ v < s.2 18 p) : mPk (mA 24 (va_up (s.2 24) p v) s) p := by
  obtain ⟨kw, kh, kr, kc, ksr, ksc, kt, ko, kwa, kin, kwr, khi, krd, knu, kgi, kas, kfr, kra, kco, kof, kip⟩ := hk
  exact ⟨kw, kh, kr, (show (0 ≤ va_up (s.2 24) p v p ∧ va_up (s.2 24) p v p < s.2 18 p) by rw [va_up_self]; omega), ksr, ksc, kt, ko, kwa, kin, kwr, khi, krd, knu, kgi, kas, kfr, kra, kco, kof, kip⟩
theorem mP26 {s : mS} {p : Nat} {v : Int} (hk : mPk s p) (hv : 0 ≤ v ∧ v < s.2 19 p) : mPk (mA 26 (va_up (s.2 26) p v) s) p := by
  obtain ⟨kw, kh, kr, kc, ksr, ksc, kt, ko, kwa, kin, kwr, khi, krd, knu, kgi, kas, kfr, kra, kco, kof, kip⟩ := hk
  exact ⟨kw, kh, kr, kc, (show (0 ≤ va_up (s.2 26) p v p ∧ va_up (s.2 26) p v p < s.2 19 p) by rw [va_up_self]; omega), ksc, kt, ko, kwa, kin, kwr, khi, krd, knu, kgi, kas, kfr, kra, kco, kof, kip⟩
theorem mP27 {s : mS} {p : Nat} {v : Int} (hk : mPk s p) (hv : 0 ≤ v ∧ v < s.2 18 p) : mPk (mA 27 (va_up (s.2 27) p v) s) p := by
  obtain ⟨kw, kh, kr, kc, ksr, ksc, kt, ko, kwa, kin, kwr, khi, krd, knu, kgi, kas, kfr, kra, kco, kof, kip⟩ := hk
  exact ⟨kw, kh, kr, kc, ksr, (show (0 ≤ va_up (s.2 27) p v p ∧ va_up (s.2 27) p v p < s.2 18 p) by rw [va_up_self]; omega), kt, ko, kwa, kin, kwr, khi, krd, knu, kgi, kas, kfr, kra, kco, kof, kip⟩
theorem mP22 {s : mS} {p : Nat} {v : Int} (hk : mPk s p) (hv : 0 ≤ v ∧ v ≤ 1) : mPk (mA 22 (va_up (s.2 22) p v) s) p := by
  obtain ⟨kw, kh, kr, kc, ksr, ksc, kt, ko, kwa, kin, kwr, khi, krd, knu, kgi, kas, kfr, kra, kco, kof, kip⟩ := hk
  exact ⟨kw, kh, kr, kc, ksr, ksc, kt, (show (0 ≤ va_up (s.2 22) p v p ∧ va_up (s.2 22) p v p ≤ 1) by rw [va_up_self]; omega), kwa, kin, kwr, khi, krd, knu, kgi, kas, kfr, kra, kco, kof, kip⟩
theorem mP31 {s : mS} {p : Nat} {v : Int} (hk : mPk s p) (hv : 0 ≤ v ∧ v ≤ 1) : mPk (mA 31 (va_up (s.2 31) p v) s) p := by
  obtain ⟨kw, kh, kr, kc, ksr, ksc, kt, ko, kwa, kin, kwr, khi, krd, knu, kgi, kas, kfr, kra, kco, kof, kip⟩ := hk
  exact ⟨kw, kh, kr, kc, ksr, ksc, kt, ko, (show (0 ≤ va_up (s.2 31) p v p ∧ va_up (s.2 31) p v p ≤ 1) by rw [va_up_self]; omega), kin, kwr, khi, krd, knu, kgi, kas, kfr, kra, kco, kof, kip⟩
theorem mP32 {s : mS} {p : Nat} {v : Int} (hk : mPk s p) (hv : 0 ≤ v ∧ v ≤ 1) : mPk (mA 32 (va_up (s.2 32) p v) s) p := by
  obtain ⟨kw, kh, kr, kc, ksr, ksc, kt, ko, kwa, kin, kwr, khi, krd, knu, kgi, kas, kfr, kra, kco, kof, kip⟩ := hk
  exact ⟨kw, kh, kr, kc, ksr, ksc, kt, ko, kwa, (show (0 ≤ va_up (s.2 32) p v p ∧ va_up (s.2 32) p v p ≤ 1) by rw [va_up_self]; omega), kwr, khi, krd, knu, kgi, kas, kfr, kra, kco, kof, kip⟩
theorem mP33 {s : mS} {p : Nat} {v : Int} (hk : mPk s p) (hv : 0 ≤ v ∧ v ≤ 1) : mPk (mA 33 (va_up (s.2 33) p v) s) p := by
  obtain ⟨kw, kh, kr, kc, ksr, ksc, kt, ko, kwa, kin, kwr, khi, krd, knu, kgi, kas, kfr, kra, kco, kof, kip⟩ := hk
  exact ⟨kw, kh, kr, kc, ksr, ksc, kt, ko, kwa, kin, (show (0 ≤ va_up (s.2 33) p v p ∧ va_up (s.2 33) p v p ≤ 1) by rw [va_up_self]; omega), khi, krd, knu, kgi, kas, kfr, kra, kco, kof, kip⟩
theorem mP34 {s : mS} {p : Nat} {v : Int} (hk : mPk s p) (hv : 0 ≤ v ∧ v ≤ 1) : mPk (mA 34 (va_up (s.2 34) p v) s) p := by
  obtain ⟨kw, kh, kr, kc, ksr, ksc, kt, ko, kwa, kin, kwr, khi, krd, knu, kgi, kas, kfr, kra, kco, kof, kip⟩ := hk
  exact ⟨kw, kh, kr, kc, ksr, ksc, kt, ko, kwa, kin, kwr, (show (0 ≤ va_up (s.2 34) p v p ∧ va_up (s.2 34) p v p ≤ 1) by rw [va_up_self]; omega), krd, knu, kgi, kas, kfr, kra, kco, kof, kip⟩
theorem mP35 {s : mS} {p : Nat} {v : Int} (hk : mPk s p) (hv : 0 ≤ v ∧ v ≤ 2) : mPk (mA 35 (va_up (s.2 35) p v) s) p := by
  obtain ⟨kw, kh, kr, kc, ksr, ksc, kt, ko, kwa, kin, kwr, khi, krd, knu, kgi, kas, kfr, kra, kco, kof, kip⟩ := hk
  exact ⟨kw, kh, kr, kc, ksr, ksc, kt, ko, kwa, kin, kwr, khi, (show (0 ≤ va_up (s.2 35) p v p ∧ va_up (s.2 35) p v p ≤ 2) by rw [va_up_self]; omega), knu, kgi, kas, kfr, kra, kco, kof, kip⟩
theorem mP37 {s : mS} {p : Nat} {v : Int} (hk : mPk s p) (hv : 0 ≤ v ∧ v ≤ 5) : mPk (mA 37 (va_up (s.2 37) p v) s) p := by
  obtain ⟨kw, kh, kr, kc, ksr, ksc, kt, ko, kwa, kin, kwr, khi, krd, knu, kgi, kas, kfr, kra, kco, kof, kip⟩ := hk
  exact ⟨kw, kh, kr, kc, ksr, ksc, kt, ko, kwa, kin, kwr, khi, krd, knu, (show (0 ≤ va_up (s.2 37) p v p ∧ va_up (s.2 37) p v p ≤ 5) by rw [va_up_self]; omega), kas, kfr, kra, kco, kof, kip⟩
theorem mP38 {s : mS} {p : Nat} {v : Int} (hk : mPk s p) (hv : 0 ≤ v ∧ v ≤ 1) : mPk (mA 38 (va_up (s.2 38) p v) s) p := by
  obtain ⟨kw, kh, kr, kc, ksr, ksc, kt, ko, kwa, kin, kwr, khi, krd, knu, kgi, kas, kfr, kra, kco, kof, kip⟩ := hk
  exact ⟨kw, kh, kr, kc, ksr, ksc, kt, ko, kwa, kin, kwr, khi, krd, knu, kgi, (show (0 ≤ va_up (s.2 38) p v p ∧ va_up (s.2 38) p v p ≤ 1) by rw [va_up_self]; omega), kfr, kra, kco, kof, kip⟩
theorem mP39 {s : mS} {p : Nat} {v : Int} (hk : mPk s p) (hv : 0 ≤ v ∧ v ≤ 1) : mPk (mA 39 (va_up (s.2 39) p v) s) p := by
  obtain ⟨kw, kh, kr, kc, ksr, ksc, kt, ko, kwa, kin, kwr, khi, krd, knu, kgi, kas, kfr, kra, kco, kof, kip⟩ := hk
  exact ⟨kw, kh, kr, kc, ksr, ksc, kt, ko, kwa, kin, kwr, khi, krd, knu, kgi, kas, (show (0 ≤ va_up (s.2 39) p v p ∧ va_up (s.2 39) p v p ≤ 1) by rw [va_up_self]; omega), kra, kco, kof, kip⟩
theorem mP42 {s : mS} {p : Nat} {v : Int} (hk : mPk s p) (hv : 0 ≤ v ∧ v ≤ 30) : mPk (mA 42 (va_up (s.2 42) p v) s) p := by
  obtain ⟨kw, kh, kr, kc, ksr, ksc, kt, ko, kwa, kin, kwr, khi, krd, knu, kgi, kas, kfr, kra, kco, kof, kip⟩ := hk
  exact ⟨kw, kh, kr, kc, ksr, ksc, kt, ko, kwa, kin, kwr, khi, krd, knu, kgi, kas, kfr, (show (0 ≤ va_up (s.2 42) p v p ∧ va_up (s.2 42) p v p ≤ 30) by rw [va_up_self]; omega), kco, kof, kip⟩
theorem mPc {s : mS} {p j : Nat} {g : Nat → Int} (hk : mPk s p) (hj : j = 20 ∨ j = 21 ∨ j = 40 ∨ j = 41 ∨ j = 25 ∨ j = 28) : mPk (mA j g s) p := by
  rcases hj with rfl | rfl | rfl | rfl | rfl | rfl <;> exact hk
theorem mP36 {s : mS} {p i : Nat} {v : Int} (hk : mPk s p) (hi : 4 * p ≤ i ∧ i < 4 * p + 4) (hv : 0 ≤ v ∧ v ≤ 999) : mPk (mA 36 (va_up (s.2 36) i v) s) p := by
  obtain ⟨kw, kh, kr, kc, ksr, ksc, kt, ko, kwa, kin, kwr, khi, krd, knu, kgi, kas, kfr, kra, kco, kof, kip⟩ := hk
  refine ⟨kw, kh, kr, kc, ksr, ksc, kt, ko, kwa, kin, kwr, khi, krd, fun j hj => ?_, kgi, kas, kfr, kra, kco, kof, kip⟩
  show 0 ≤ va_up (s.2 36) i v (4 * p + j) ∧ va_up (s.2 36) i v (4 * p + j) ≤ 999
  by_cases e : 4 * p + j = i
  · rw [e, va_up_self]; exact hv
  · rw [va_up_ne _ _ e]; exact knu j hj
theorem mNu {s : mS} {p e : Int} (hk : mPk s p.toNat) (hp : 0 ≤ p ∧ p < 8) (he : 4 * p ≤ e ∧ e < 4 * p + 4) : 0 ≤ s.2 36 e.toNat ∧ s.2 36 e.toNat ≤ 999 := by
  obtain ⟨kw, kh, kr, kc, ksr, ksc, kt, ko, kwa, kin, kwr, khi, krd, knu, kgi, kas, kfr, kra, kco, kof, kip⟩ := hk
  have h1 := knu (e - 4 * p).toNat (by omega)
  rw [show 4 * p.toNat + (e - 4 * p).toNat = e.toNat by omega] at h1
  exact h1
set_option maxHeartbeats 4000000 in
set_option maxRecDepth 100000 in
/-- least(a, b) -/
theorem mR_least {E : pw_E} (htr : E.1.stackTraces = false) {h : pz_H} {n : Nat} {a b : Int} (h_a : -2147483648 ≤ a ∧ a < 2147483648) (h_b : -2147483648 ≤ b ∧ b < 2147483648) : pw_M E yX10_least YX10_least (rmD 0 0 0) [.int (zI a), .int (zI b)] h n (fun r h' n' => r = some (.int (zI (min a b))) ∧ h' = h ∧ n' = n) (fun _ _ _ => False) := by
  refine pw_M_of (lv := [some (.int (zI (a))), some (.int (zI (b)))]) (by decide) rfl rfl htr (nle rfl) rfl (fun L => ?_)
  refine pw_iload_n dX10_least_0 rfl ?_
  refine pw_iload_n dX10_least_1 rfl ?_
  refine pw_icmp_ge (tgt := 9) dX10_least_2 rfl (by omega) (by omega) (fun c2 => ?_) (fun c2 => ?_)
  ·
    refine pw_iload_n dX10_least_9 rfl ?_
    exact pw_iret dX10_least_10 rfl (nle rfl) (nle rfl) ⟨by first | rw [show min a b = a by omega] | rw [show min a b = b by omega], rfl, rfl⟩
  ·
    refine pw_iload_n dX10_least_5 rfl ?_
    refine pw_goto (tgt := 10) dX10_least_6 rfl ?_
    exact pw_iret dX10_least_10 rfl (nle rfl) (nle rfl) ⟨by first | rw [show min a b = a by omega] | rw [show min a b = b by omega], rfl, rfl⟩
set_option maxHeartbeats 4000000 in
set_option maxRecDepth 100000 in
/-- cellOf(p, q, r, c) -/
theorem mR_cellOf {E : pw_E} (htr : E.1.stackTraces = false) {h : pz_H} {n : Nat} {p q r c : Int} : pw_M E yX10_cellOf YX10_cellOf (rmD 0 0 0) [.int (zI p), .int (zI q), .int (zI r), .int (zI c)] h n (fun r0 h' n' => r0 = some (.int (zI (mCell p q r c))) ∧ h' = h ∧ n' = n) (fun _ _ _ => False) := by
  refine pw_M_of (lv := [some (.int (zI (p))), some (.int (zI (q))), some (.int (zI (r))), some (.int (zI (c)))]) (by decide) rfl rfl htr (nle rfl) rfl (fun L => ?_)
  refine pw_iload_n dX10_cellOf_0 rfl ?_
  refine pw_iconst (v := zI (2)) dX10_cellOf_1 (by decide) ?_
  refine pw_zimul dX10_cellOf_2 ?_
  refine pw_iload_n dX10_cellOf_3 rfl ?_
  refine pw_ziadd dX10_cellOf_4 ?_
  refine pw_bipush (v := zI (16)) dX10_cellOf_5 (by decide) ?_
  refine pw_zimul dX10_cellOf_7 ?_
  refine pw_iload_n dX10_cellOf_8 rfl ?_
  refine pw_ziadd dX10_cellOf_9 ?_
  refine pw_bipush (v := zI (40)) dX10_cellOf_10 (by decide) ?_
  refine pw_zimul dX10_cellOf_12 ?_
  refine pw_iload_n dX10_cellOf_13 rfl ?_
  refine pw_ziadd dX10_cellOf_14 ?_
  exact pw_iret dX10_cellOf_15 rfl (nle rfl) (nle rfl) ⟨rfl, rfl, rfl⟩
set_option maxHeartbeats 2000000 in
set_option maxRecDepth 100000 in
/-- shown(p) -/
theorem mR_shown {E : pw_E} (htr : E.1.stackTraces = false) {h : pz_H} {n : Nat} {B : Nat} {s : mS} (hA : mAt B s h) {p : Int} (hp : 0 ≤ p ∧ p < 8) (hk : mPk s p.toNat)  : pw_M E yX10_shown YX10_shown (rmD 0 0 0) [.ref B, .int (zI (p))] h n (fun r h' n' => r = some (.int (zI (s.2 22 p.toNat))) ∧ h' = h ∧ n' = n) (fun _ _ _ => False) := by
  obtain ⟨kw, kh, kr, kc, ksr, ksc, kt, ko, kwa, kin, kwr, khi, krd, knu, kgi, kas, kfr, kra, kco, kof, kip⟩ := id hk
  refine pw_M_of (lv := [some (.ref B), some (.int (zI (p)))]) (by decide) rfl rfl htr (nle rfl) rfl (fun L => ?_)
  refine pw_aload_n dX10_shown_0 rfl ?_
  refine pw_get (v := .ref (B + 19)) okX10 (k := 22) (by decide) lkX10_65 hA.1 rfl dX10_shown_1 ?_
  refine pw_iload_n dX10_shown_4 rfl ?_
  refine pw_zald (t := 1) rfl (mF22 hA) (by omega) (by decide) dX10_shown_5 ?_
  refine pw_if_eq (tgt := 13) dX10_shown_6 rfl (by omega) (fun c6 => ?_) (fun c6 => ?_)
  ·
    refine pw_iconst (v := zI (0)) dX10_shown_13 (by decide) ?_
    exact pw_iret dX10_shown_14 rfl (nle rfl) (nle rfl) ⟨by first | rw [show s.2 22 p.toNat = 1 by omega] | rw [show s.2 22 p.toNat = 0 by omega], rfl, rfl⟩
  ·
    refine pw_iconst (v := zI (1)) dX10_shown_9 (by decide) ?_
    refine pw_goto (tgt := 14) dX10_shown_10 rfl ?_
    exact pw_iret dX10_shown_14 rfl (nle rfl) (nle rfl) ⟨by first | rw [show s.2 22 p.toNat = 1 by omega] | rw [show s.2 22 p.toNat = 0 by omega], rfl, rfl⟩
set_option maxHeartbeats 2000000 in
set_option maxRecDepth 100000 in
/-- at(p, r, c) -/
theorem mR_at {E : pw_E} (htr : E.1.stackTraces = false) {h : pz_H} {n : Nat} {B : Nat} {s : mS} (hA : mAt B s h) {p r c : Int} (hp : 0 ≤ p ∧ p < 8) (hk : mPk s p.toNat)  : pw_M E yX10_at YX10_at (rmD 1 0 0) [.ref B, .int (zI (p)), .int (zI (r)), .int (zI (c))] h n (fun r0 h' n' => r0 = some (.int (zI (mCell p (s.2 22 p.toNat) r c))) ∧ h' = h ∧ n' = n) (fun _ _ _ => False) := by
  obtain ⟨kw, kh, kr, kc, ksr, ksc, kt, ko, kwa, kin, kwr, khi, krd, knu, kgi, kas, kfr, kra, kco, kof, kip⟩ := id hk
  refine pw_M_of (lv := [some (.ref B), some (.int (zI (p))), some (.int (zI (r))), some (.int (zI (c)))]) (by decide) rfl rfl htr (nle rfl) rfl (fun L => ?_)
  refine pw_iload_n dX10_at_0 rfl ?_
  refine pw_aload_n dX10_at_1 rfl ?_
  refine pw_iload_n dX10_at_2 rfl ?_
  refine pw_callV (As := [.int (zI (p))]) (b := B) (rm := rmD 0 0 0) (mR_shown htr hA hp hk) rfl hA.1 rfl rfl ywX10_shown rfl cwX10_176 ⟨nle rfl, nle rfl⟩ (nle rfl) ⟨nle rfl, nle rfl⟩ dX10_at_3 ?_ (fun _ _ _ z => z.elim)
  intro r_9 h_9 n_9 hq _
  rw [hq.1, hq.2.1, hq.2.2]
  show pw E YX10_at _ _ 0 0 6 [some (.ref B), some (.int (zI (p))), some (.int (zI (r))), some (.int (zI (c)))] [.int (zI (s.2 22 p.toNat)), .int (zI (p))] h n
  refine pw_iload_n dX10_at_6 rfl ?_
  refine pw_iload_n dX10_at_7 rfl ?_
  refine pw_callS (As := [.int (zI (p)), .int (zI (s.2 22 p.toNat)), .int (zI (r)), .int (zI (c))]) (rm := rmD 0 0 0) (mR_cellOf htr) rfl ywX10_cellOf rfl cwX10_180 ⟨nle rfl, nle rfl⟩ (nle rfl) ⟨nle rfl, nle rfl⟩ dX10_at_8 ?_ (fun _ _ _ z => z.elim)
  intro r_9 h_9 n_9 hq _
  rw [hq.1, hq.2.1, hq.2.2]
  show pw E YX10_at _ _ 0 0 11 [some (.ref B), some (.int (zI (p))), some (.int (zI (r))), some (.int (zI (c)))] [.int (zI (mCell (p) (s.2 22 p.toNat) (r) (c)))] h n
  exact pw_iret dX10_at_11 rfl (nle rfl) (nle rfl) ⟨rfl, rfl, rfl⟩
set_option maxHeartbeats 2000000 in
set_option maxRecDepth 100000 in
/-- blank(i, a) -/
theorem mR_blank {E : pw_E} (htr : E.1.stackTraces = false) {h : pz_H} {n : Nat} {B : Nat} {s : mS} (hA : mAt B s h) {i a : Int} {p : Int} (hp : 0 ≤ p ∧ p < 8) (hk : mPk s p.toNat) (hi : 0 ≤ i ∧ i < 10240) : pw_M E yX10_blank YX10_blank (rmD 0 0 0) [.ref B, .int (zI (i)), .int (zI (a))] h n (fun r h' n' => r = none ∧ ∃ s', mAt B s' h' ∧ mPk s' p.toNat ∧ mPr p.toNat s s' ∧ mFr B h h' ∧ n' = n) (fun _ _ _ => False) := by
  obtain ⟨kw, kh, kr, kc, ksr, ksc, kt, ko, kwa, kin, kwr, khi, krd, knu, kgi, kas, kfr, kra, kco, kof, kip⟩ := id hk
  refine pw_M_of (lv := [some (.ref B), some (.int (zI (i))), some (.int (zI (a)))]) (by decide) rfl rfl htr (nle rfl) rfl (fun L => ?_)
  refine pw_aload_n dX10_blank_0 rfl ?_
  refine pw_get (v := .ref (B + 17)) okX10 (k := 20) (by decide) lkX10_59 hA.1 rfl dX10_blank_1 ?_
  refine pw_iload_n dX10_blank_4 rfl ?_
  refine pw_bipush (v := zI (32)) dX10_blank_5 (by decide) ?_
  refine pw_iast (t := 0) rfl (mF20 hA) (by omega) (by decide) dX10_blank_7 ?_
  have hA1 : mAt B (mA 20 (va_up (s.2 20) (i).toNat (32)) s) (va_up h (B + 17) (pz_z 0 10240 (va_up (s.2 20) (i).toNat (32)))) := mU20 hA
  have hk1 : mPk (mA 20 (va_up (s.2 20) (i).toNat (32)) s) p.toNat := mPc hk (by decide)
  have hr1 : mPr p.toNat s (mA 20 (va_up (s.2 20) (i).toNat (32)) s) := mPr_tr mPr_rf (mPr_C (by decide))
  have hF1 : mFr B h (va_up h (B + 17) (pz_z 0 10240 (va_up (s.2 20) (i).toNat (32)))) := mFr_tr mFr_rf (mFr_up (by decide))
  revert hA1 hk1 hr1 hF1 
  generalize (mA 20 (va_up (s.2 20) (i).toNat (32)) s) = s1
  generalize (va_up h (B + 17) (pz_z 0 10240 (va_up (s.2 20) (i).toNat (32)))) = h1
  intro hA1 hk1 hr1 hF1 
  obtain ⟨kw, kh, kr, kc, ksr, ksc, kt, ko, kwa, kin, kwr, khi, krd, knu, kgi, kas, kfr, kra, kco, kof, kip⟩ := id hk1
  refine pw_aload_n dX10_blank_8 rfl ?_
  refine pw_get (v := .ref (B + 18)) okX10 (k := 21) (by decide) lkX10_62 hA1.1 rfl dX10_blank_9 ?_
  refine pw_iload_n dX10_blank_12 rfl ?_
  refine pw_iload_n dX10_blank_13 rfl ?_
  refine pw_iast (t := 0) rfl (mF21 hA1) (by omega) (by decide) dX10_blank_14 ?_
  have hA2 : mAt B (mA 21 (va_up (s1.2 21) (i).toNat (a)) s1) (va_up h1 (B + 18) (pz_z 0 10240 (va_up (s1.2 21) (i).toNat (a)))) := mU21 hA1
  have hk2 : mPk (mA 21 (va_up (s1.2 21) (i).toNat (a)) s1) p.toNat := mPc hk1 (by decide)
  have hr2 : mPr p.toNat s (mA 21 (va_up (s1.2 21) (i).toNat (a)) s1) := mPr_tr hr1 (mPr_C (by decide))
  have hF2 : mFr B h (va_up h1 (B + 18) (pz_z 0 10240 (va_up (s1.2 21) (i).toNat (a)))) := mFr_tr hF1 (mFr_up (by decide))
  revert hA2 hk2 hr2 hF2 
  generalize (mA 21 (va_up (s1.2 21) (i).toNat (a)) s1) = s2
  generalize (va_up h1 (B + 18) (pz_z 0 10240 (va_up (s1.2 21) (i).toNat (a)))) = h2
  intro hA2 hk2 hr2 hF2 
  obtain ⟨kw, kh, kr, kc, ksr, ksc, kt, ko, kwa, kin, kwr, khi, krd, knu, kgi, kas, kfr, kra, kco, kof, kip⟩ := id hk2
  exact pw_vret dX10_blank_15 rfl (nle rfl) (nle rfl) ⟨rfl, s2, hA2, hk2, hr2, hF2, rfl⟩
set_option maxHeartbeats 2000000 in
set_option maxRecDepth 100000 in
/-- moveTo(p, r, c) -/
theorem mR_moveTo {E : pw_E} (htr : E.1.stackTraces = false) {h : pz_H} {n : Nat} {B : Nat} {s : mS} (hA : mAt B s h) {p r c : Int} (hp : 0 ≤ p ∧ p < 8) (hk : mPk s p.toNat) (h_r : -2147483648 ≤ r ∧ r < 2147483648) (h_c : -2147483648 ≤ c ∧ c < 2147483648) : pw_M E yX10_moveTo YX10_moveTo (rmD 1 0 0) [.ref B, .int (zI (p)), .int (zI (r)), .int (zI (c))] h n (fun r0 h' n' => r0 = none ∧ ∃ s', mAt B s' h' ∧ mPk s' p.toNat ∧ mPr p.toNat s s' ∧ mFr B h h' ∧ n' = n) (fun _ _ _ => False) := by
  obtain ⟨kw, kh, kr, kc, ksr, ksc, kt, ko, kwa, kin, kwr, khi, krd, knu, kgi, kas, kfr, kra, kco, kof, kip⟩ := id hk
  refine pw_M_of (lv := [some (.ref B), some (.int (zI (p))), some (.int (zI (r))), some (.int (zI (c)))]) (by decide) rfl rfl htr (nle rfl) rfl (fun L => ?_)
  refine pw_aload_n dX10_moveTo_0 rfl ?_
  refine pw_get (v := .ref (B + 20)) okX10 (k := 23) (by decide) lkX10_68 hA.1 rfl dX10_moveTo_1 ?_
  refine pw_iload_n dX10_moveTo_4 rfl ?_
  refine pw_iload_n dX10_moveTo_5 rfl ?_
  refine pw_if_ge (tgt := 13) dX10_moveTo_6 rfl (by omega) (fun c6 => ?_) (fun c6 => ?_)
  ·
    refine pw_iload_n dX10_moveTo_13 rfl ?_
    refine pw_aload_n dX10_moveTo_14 rfl ?_
    refine pw_get (v := .ref (B + 16)) okX10 (k := 19) (by decide) lkX10_56 hA.1 rfl dX10_moveTo_15 ?_
    refine pw_iload_n dX10_moveTo_18 rfl ?_
    refine pw_iald (t := 0) rfl (mF19 hA) (by omega) (by decide) dX10_moveTo_19 ?_
    refine pw_iconst (v := zI (1)) dX10_moveTo_20 (by decide) ?_
    refine pw_zisub dX10_moveTo_21 ?_
    refine pw_callS (As := [.int (zI (r)), .int (zI (((s.2 19) (p).toNat) - (1)))]) (rm := rmD 0 0 0) (mR_least htr (by omega) (by omega)) rfl ywX10_least rfl cwX10_192 ⟨nle rfl, nle rfl⟩ (nle rfl) ⟨nle rfl, nle rfl⟩ dX10_moveTo_22 ?_ (fun _ _ _ z => z.elim)
    intro r_9 h_9 n_9 hq _
    rw [hq.1, hq.2.1, hq.2.2]
    show pw E YX10_moveTo _ _ 0 0 25 [some (.ref B), some (.int (zI (p))), some (.int (zI (r))), some (.int (zI (c)))] [.int (zI (min (r) (((s.2 19) (p).toNat) - (1)))), .int (zI (p)), .ref (B + 20)] h n
    refine pw_iast (t := 0) rfl (mF23 hA) (by omega) (by decide) dX10_moveTo_25 ?_
    have hA1 : mAt B (mA 23 (va_up (s.2 23) (p).toNat (min (r) (((s.2 19) (p).toNat) - (1)))) s) (va_up h (B + 20) (pz_z 0 8 (va_up (s.2 23) (p).toNat (min (r) (((s.2 19) (p).toNat) - (1)))))) := mU23 hA
    have hk1 : mPk (mA 23 (va_up (s.2 23) (p).toNat (min (r) (((s.2 19) (p).toNat) - (1)))) s) p.toNat := mP23 hk (by omega)
    have hr1 : mPr p.toNat s (mA 23 (va_up (s.2 23) (p).toNat (min (r) (((s.2 19) (p).toNat) - (1)))) s) := mPr_tr mPr_rf (mPr_W (by decide) (by decide) (by decide))
    have hF1 : mFr B h (va_up h (B + 20) (pz_z 0 8 (va_up (s.2 23) (p).toNat (min (r) (((s.2 19) (p).toNat) - (1)))))) := mFr_tr mFr_rf (mFr_up (by decide))
    revert hA1 hk1 hr1 hF1 
    generalize (mA 23 (va_up (s.2 23) (p).toNat (min (r) (((s.2 19) (p).toNat) - (1)))) s) = s1
    generalize (va_up h (B + 20) (pz_z 0 8 (va_up (s.2 23) (p).toNat (min (r) (((s.2 19) (p).toNat) - (1)))))) = h1
    intro hA1 hk1 hr1 hF1 
    obtain ⟨kw, kh, kr, kc, ksr, ksc, kt, ko, kwa, kin, kwr, khi, krd, knu, kgi, kas, kfr, kra, kco, kof, kip⟩ := id hk1
    refine pw_aload_n dX10_moveTo_26 rfl ?_
    refine pw_get (v := .ref (B + 21)) okX10 (k := 24) (by decide) lkX10_71 hA1.1 rfl dX10_moveTo_27 ?_
    refine pw_iload_n dX10_moveTo_30 rfl ?_
    refine pw_iload_n dX10_moveTo_31 rfl ?_
    refine pw_if_ge (tgt := 39) dX10_moveTo_32 rfl (by omega) (fun c32 => ?_) (fun c32 => ?_)
    ·
      refine pw_iload_n dX10_moveTo_39 rfl ?_
      refine pw_aload_n dX10_moveTo_40 rfl ?_
      refine pw_get (v := .ref (B + 15)) okX10 (k := 18) (by decide) lkX10_53 hA1.1 rfl dX10_moveTo_41 ?_
      refine pw_iload_n dX10_moveTo_44 rfl ?_
      refine pw_iald (t := 0) rfl (mF18 hA1) (by omega) (by decide) dX10_moveTo_45 ?_
      refine pw_iconst (v := zI (1)) dX10_moveTo_46 (by decide) ?_
      refine pw_zisub dX10_moveTo_47 ?_
      refine pw_callS (As := [.int (zI (c)), .int (zI (((s1.2 18) (p).toNat) - (1)))]) (rm := rmD 0 0 0) (mR_least htr (by omega) (by omega)) rfl ywX10_least rfl cwX10_192 ⟨nle rfl, nle rfl⟩ (nle rfl) ⟨nle rfl, nle rfl⟩ dX10_moveTo_48 ?_ (fun _ _ _ z => z.elim)
      intro r_9 h_9 n_9 hq _
      rw [hq.1, hq.2.1, hq.2.2]
      show pw E YX10_moveTo _ _ 0 0 51 [some (.ref B), some (.int (zI (p))), some (.int (zI (r))), some (.int (zI (c)))] [.int (zI (min (c) (((s1.2 18) (p).toNat) - (1)))), .int (zI (p)), .ref (B + 21)] h1 n
      refine pw_iast (t := 0) rfl (mF24 hA1) (by omega) (by decide) dX10_moveTo_51 ?_
      have hA2 : mAt B (mA 24 (va_up (s1.2 24) (p).toNat (min (c) (((s1.2 18) (p).toNat) - (1)))) s1) (va_up h1 (B + 21) (pz_z 0 8 (va_up (s1.2 24) (p).toNat (min (c) (((s1.2 18) (p).toNat) - (1)))))) := mU24 hA1
      have hk2 : mPk (mA 24 (va_up (s1.2 24) (p).toNat (min (c) (((s1.2 18) (p).toNat) - (1)))) s1) p.toNat := mP24 hk1 (by omega)
      have hr2 : mPr p.toNat s (mA 24 (va_up (s1.2 24) (p).toNat (min (c) (((s1.2 18) (p).toNat) - (1)))) s1) := mPr_tr hr1 (mPr_W (by decide) (by decide) (by decide))
      have hF2 : mFr B h (va_up h1 (B + 21) (pz_z 0 8 (va_up (s1.2 24) (p).toNat (min (c) (((s1.2 18) (p).toNat) - (1)))))) := mFr_tr hF1 (mFr_up (by decide))
      revert hA2 hk2 hr2 hF2 
      generalize (mA 24 (va_up (s1.2 24) (p).toNat (min (c) (((s1.2 18) (p).toNat) - (1)))) s1) = s2
      generalize (va_up h1 (B + 21) (pz_z 0 8 (va_up (s1.2 24) (p).toNat (min (c) (((s1.2 18) (p).toNat) - (1)))))) = h2
      intro hA2 hk2 hr2 hF2 
      obtain ⟨kw, kh, kr, kc, ksr, ksc, kt, ko, kwa, kin, kwr, khi, krd, knu, kgi, kas, kfr, kra, kco, kof, kip⟩ := id hk2
      refine pw_aload_n dX10_moveTo_52 rfl ?_
      refine pw_get (v := .ref (B + 28)) okX10 (k := 31) (by decide) lkX10_92 hA2.1 rfl dX10_moveTo_53 ?_
      refine pw_iload_n dX10_moveTo_56 rfl ?_
      refine pw_iconst (v := zI (0)) dX10_moveTo_57 (by decide) ?_
      refine pw_zast (t := 1) rfl (mF31 hA2) (by omega) (by decide) (by omega) dX10_moveTo_58 ?_
      have hA3 : mAt B (mA 31 (va_up (s2.2 31) (p).toNat (0)) s2) (va_up h2 (B + 28) (pz_z 1 8 (va_up (s2.2 31) (p).toNat (0)))) := mU31 hA2
      have hk3 : mPk (mA 31 (va_up (s2.2 31) (p).toNat (0)) s2) p.toNat := mP31 hk2 (by omega)
      have hr3 : mPr p.toNat s (mA 31 (va_up (s2.2 31) (p).toNat (0)) s2) := mPr_tr hr2 (mPr_W (by decide) (by decide) (by decide))
      have hF3 : mFr B h (va_up h2 (B + 28) (pz_z 1 8 (va_up (s2.2 31) (p).toNat (0)))) := mFr_tr hF2 (mFr_up (by decide))
      revert hA3 hk3 hr3 hF3 
      generalize (mA 31 (va_up (s2.2 31) (p).toNat (0)) s2) = s3
      generalize (va_up h2 (B + 28) (pz_z 1 8 (va_up (s2.2 31) (p).toNat (0)))) = h3
      intro hA3 hk3 hr3 hF3 
      obtain ⟨kw, kh, kr, kc, ksr, ksc, kt, ko, kwa, kin, kwr, khi, krd, knu, kgi, kas, kfr, kra, kco, kof, kip⟩ := id hk3
      exact pw_vret dX10_moveTo_59 rfl (nle rfl) (nle rfl) ⟨rfl, s3, hA3, hk3, hr3, hF3, rfl⟩
    ·
      refine pw_iconst (v := zI (0)) dX10_moveTo_35 (by decide) ?_
      refine pw_goto (tgt := 51) dX10_moveTo_36 rfl ?_
      refine pw_iast (t := 0) rfl (mF24 hA1) (by omega) (by decide) dX10_moveTo_51 ?_
      have hA4 : mAt B (mA 24 (va_up (s1.2 24) (p).toNat (0)) s1) (va_up h1 (B + 21) (pz_z 0 8 (va_up (s1.2 24) (p).toNat (0)))) := mU24 hA1
      have hk4 : mPk (mA 24 (va_up (s1.2 24) (p).toNat (0)) s1) p.toNat := mP24 hk1 (by omega)
      have hr4 : mPr p.toNat s (mA 24 (va_up (s1.2 24) (p).toNat (0)) s1) := mPr_tr hr1 (mPr_W (by decide) (by decide) (by decide))
      have hF4 : mFr B h (va_up h1 (B + 21) (pz_z 0 8 (va_up (s1.2 24) (p).toNat (0)))) := mFr_tr hF1 (mFr_up (by decide))
      revert hA4 hk4 hr4 hF4 
      generalize (mA 24 (va_up (s1.2 24) (p).toNat (0)) s1) = s4
      generalize (va_up h1 (B + 21) (pz_z 0 8 (va_up (s1.2 24) (p).toNat (0)))) = h4
      intro hA4 hk4 hr4 hF4 
      obtain ⟨kw, kh, kr, kc, ksr, ksc, kt, ko, kwa, kin, kwr, khi, krd, knu, kgi, kas, kfr, kra, kco, kof, kip⟩ := id hk4
      refine pw_aload_n dX10_moveTo_52 rfl ?_
      refine pw_get (v := .ref (B + 28)) okX10 (k := 31) (by decide) lkX10_92 hA4.1 rfl dX10_moveTo_53 ?_
      refine pw_iload_n dX10_moveTo_56 rfl ?_
      refine pw_iconst (v := zI (0)) dX10_moveTo_57 (by decide) ?_
      refine pw_zast (t := 1) rfl (mF31 hA4) (by omega) (by decide) (by omega) dX10_moveTo_58 ?_
      have hA5 : mAt B (mA 31 (va_up (s4.2 31) (p).toNat (0)) s4) (va_up h4 (B + 28) (pz_z 1 8 (va_up (s4.2 31) (p).toNat (0)))) := mU31 hA4
      have hk5 : mPk (mA 31 (va_up (s4.2 31) (p).toNat (0)) s4) p.toNat := mP31 hk4 (by omega)
      have hr5 : mPr p.toNat s (mA 31 (va_up (s4.2 31) (p).toNat (0)) s4) := mPr_tr hr4 (mPr_W (by decide) (by decide) (by decide))
      have hF5 : mFr B h (va_up h4 (B + 28) (pz_z 1 8 (va_up (s4.2 31) (p).toNat (0)))) := mFr_tr hF4 (mFr_up (by decide))
      revert hA5 hk5 hr5 hF5 
      generalize (mA 31 (va_up (s4.2 31) (p).toNat (0)) s4) = s5
      generalize (va_up h4 (B + 28) (pz_z 1 8 (va_up (s4.2 31) (p).toNat (0)))) = h5
      intro hA5 hk5 hr5 hF5 
      obtain ⟨kw, kh, kr, kc, ksr, ksc, kt, ko, kwa, kin, kwr, khi, krd, knu, kgi, kas, kfr, kra, kco, kof, kip⟩ := id hk5
      exact pw_vret dX10_moveTo_59 rfl (nle rfl) (nle rfl) ⟨rfl, s5, hA5, hk5, hr5, hF5, rfl⟩
  ·
    refine pw_iconst (v := zI (0)) dX10_moveTo_9 (by decide) ?_
    refine pw_goto (tgt := 25) dX10_moveTo_10 rfl ?_
    refine pw_iast (t := 0) rfl (mF23 hA) (by omega) (by decide) dX10_moveTo_25 ?_
    have hA6 : mAt B (mA 23 (va_up (s.2 23) (p).toNat (0)) s) (va_up h (B + 20) (pz_z 0 8 (va_up (s.2 23) (p).toNat (0)))) := mU23 hA
    have hk6 : mPk (mA 23 (va_up (s.2 23) (p).toNat (0)) s) p.toNat := mP23 hk (by omega)
    have hr6 : mPr p.toNat s (mA 23 (va_up (s.2 23) (p).toNat (0)) s) := mPr_tr mPr_rf (mPr_W (by decide) (by decide) (by decide))
    have hF6 : mFr B h (va_up h (B + 20) (pz_z 0 8 (va_up (s.2 23) (p).toNat (0)))) := mFr_tr mFr_rf (mFr_up (by decide))
    revert hA6 hk6 hr6 hF6 
    generalize (mA 23 (va_up (s.2 23) (p).toNat (0)) s) = s6
    generalize (va_up h (B + 20) (pz_z 0 8 (va_up (s.2 23) (p).toNat (0)))) = h6
    intro hA6 hk6 hr6 hF6 
    obtain ⟨kw, kh, kr, kc, ksr, ksc, kt, ko, kwa, kin, kwr, khi, krd, knu, kgi, kas, kfr, kra, kco, kof, kip⟩ := id hk6
    refine pw_aload_n dX10_moveTo_26 rfl ?_
    refine pw_get (v := .ref (B + 21)) okX10 (k := 24) (by decide) lkX10_71 hA6.1 rfl dX10_moveTo_27 ?_
    refine pw_iload_n dX10_moveTo_30 rfl ?_
    refine pw_iload_n dX10_moveTo_31 rfl ?_
    refine pw_if_ge (tgt := 39) dX10_moveTo_32 rfl (by omega) (fun c32 => ?_) (fun c32 => ?_)
    ·
      refine pw_iload_n dX10_moveTo_39 rfl ?_
      refine pw_aload_n dX10_moveTo_40 rfl ?_
      refine pw_get (v := .ref (B + 15)) okX10 (k := 18) (by decide) lkX10_53 hA6.1 rfl dX10_moveTo_41 ?_
      refine pw_iload_n dX10_moveTo_44 rfl ?_
      refine pw_iald (t := 0) rfl (mF18 hA6) (by omega) (by decide) dX10_moveTo_45 ?_
      refine pw_iconst (v := zI (1)) dX10_moveTo_46 (by decide) ?_
      refine pw_zisub dX10_moveTo_47 ?_
      refine pw_callS (As := [.int (zI (c)), .int (zI (((s6.2 18) (p).toNat) - (1)))]) (rm := rmD 0 0 0) (mR_least htr (by omega) (by omega)) rfl ywX10_least rfl cwX10_192 ⟨nle rfl, nle rfl⟩ (nle rfl) ⟨nle rfl, nle rfl⟩ dX10_moveTo_48 ?_ (fun _ _ _ z => z.elim)
      intro r_9 h_9 n_9 hq _
      rw [hq.1, hq.2.1, hq.2.2]
      show pw E YX10_moveTo _ _ 0 0 51 [some (.ref B), some (.int (zI (p))), some (.int (zI (r))), some (.int (zI (c)))] [.int (zI (min (c) (((s6.2 18) (p).toNat) - (1)))), .int (zI (p)), .ref (B + 21)] h6 n
      refine pw_iast (t := 0) rfl (mF24 hA6) (by omega) (by decide) dX10_moveTo_51 ?_
      have hA7 : mAt B (mA 24 (va_up (s6.2 24) (p).toNat (min (c) (((s6.2 18) (p).toNat) - (1)))) s6) (va_up h6 (B + 21) (pz_z 0 8 (va_up (s6.2 24) (p).toNat (min (c) (((s6.2 18) (p).toNat) - (1)))))) := mU24 hA6
      have hk7 : mPk (mA 24 (va_up (s6.2 24) (p).toNat (min (c) (((s6.2 18) (p).toNat) - (1)))) s6) p.toNat := mP24 hk6 (by omega)
      have hr7 : mPr p.toNat s (mA 24 (va_up (s6.2 24) (p).toNat (min (c) (((s6.2 18) (p).toNat) - (1)))) s6) := mPr_tr hr6 (mPr_W (by decide) (by decide) (by decide))
      have hF7 : mFr B h (va_up h6 (B + 21) (pz_z 0 8 (va_up (s6.2 24) (p).toNat (min (c) (((s6.2 18) (p).toNat) - (1)))))) := mFr_tr hF6 (mFr_up (by decide))
      revert hA7 hk7 hr7 hF7 
      generalize (mA 24 (va_up (s6.2 24) (p).toNat (min (c) (((s6.2 18) (p).toNat) - (1)))) s6) = s7
      generalize (va_up h6 (B + 21) (pz_z 0 8 (va_up (s6.2 24) (p).toNat (min (c) (((s6.2 18) (p).toNat) - (1)))))) = h7
      intro hA7 hk7 hr7 hF7 
      obtain ⟨kw, kh, kr, kc, ksr, ksc, kt, ko, kwa, kin, kwr, khi, krd, knu, kgi, kas, kfr, kra, kco, kof, kip⟩ := id hk7
      refine pw_aload_n dX10_moveTo_52 rfl ?_
      refine pw_get (v := .ref (B + 28)) okX10 (k := 31) (by decide) lkX10_92 hA7.1 rfl dX10_moveTo_53 ?_
      refine pw_iload_n dX10_moveTo_56 rfl ?_
      refine pw_iconst (v := zI (0)) dX10_moveTo_57 (by decide) ?_
      refine pw_zast (t := 1) rfl (mF31 hA7) (by omega) (by decide) (by omega) dX10_moveTo_58 ?_
      have hA8 : mAt B (mA 31 (va_up (s7.2 31) (p).toNat (0)) s7) (va_up h7 (B + 28) (pz_z 1 8 (va_up (s7.2 31) (p).toNat (0)))) := mU31 hA7
      have hk8 : mPk (mA 31 (va_up (s7.2 31) (p).toNat (0)) s7) p.toNat := mP31 hk7 (by omega)
      have hr8 : mPr p.toNat s (mA 31 (va_up (s7.2 31) (p).toNat (0)) s7) := mPr_tr hr7 (mPr_W (by decide) (by decide) (by decide))
      have hF8 : mFr B h (va_up h7 (B + 28) (pz_z 1 8 (va_up (s7.2 31) (p).toNat (0)))) := mFr_tr hF7 (mFr_up (by decide))
      revert hA8 hk8 hr8 hF8 
      generalize (mA 31 (va_up (s7.2 31) (p).toNat (0)) s7) = s8
      generalize (va_up h7 (B + 28) (pz_z 1 8 (va_up (s7.2 31) (p).toNat (0)))) = h8
      intro hA8 hk8 hr8 hF8 
      obtain ⟨kw, kh, kr, kc, ksr, ksc, kt, ko, kwa, kin, kwr, khi, krd, knu, kgi, kas, kfr, kra, kco, kof, kip⟩ := id hk8
      exact pw_vret dX10_moveTo_59 rfl (nle rfl) (nle rfl) ⟨rfl, s8, hA8, hk8, hr8, hF8, rfl⟩
    ·
      refine pw_iconst (v := zI (0)) dX10_moveTo_35 (by decide) ?_
      refine pw_goto (tgt := 51) dX10_moveTo_36 rfl ?_
      refine pw_iast (t := 0) rfl (mF24 hA6) (by omega) (by decide) dX10_moveTo_51 ?_
      have hA9 : mAt B (mA 24 (va_up (s6.2 24) (p).toNat (0)) s6) (va_up h6 (B + 21) (pz_z 0 8 (va_up (s6.2 24) (p).toNat (0)))) := mU24 hA6
      have hk9 : mPk (mA 24 (va_up (s6.2 24) (p).toNat (0)) s6) p.toNat := mP24 hk6 (by omega)
      have hr9 : mPr p.toNat s (mA 24 (va_up (s6.2 24) (p).toNat (0)) s6) := mPr_tr hr6 (mPr_W (by decide) (by decide) (by decide))
      have hF9 : mFr B h (va_up h6 (B + 21) (pz_z 0 8 (va_up (s6.2 24) (p).toNat (0)))) := mFr_tr hF6 (mFr_up (by decide))
      revert hA9 hk9 hr9 hF9 
      generalize (mA 24 (va_up (s6.2 24) (p).toNat (0)) s6) = s9
      generalize (va_up h6 (B + 21) (pz_z 0 8 (va_up (s6.2 24) (p).toNat (0)))) = h9
      intro hA9 hk9 hr9 hF9 
      obtain ⟨kw, kh, kr, kc, ksr, ksc, kt, ko, kwa, kin, kwr, khi, krd, knu, kgi, kas, kfr, kra, kco, kof, kip⟩ := id hk9
      refine pw_aload_n dX10_moveTo_52 rfl ?_
      refine pw_get (v := .ref (B + 28)) okX10 (k := 31) (by decide) lkX10_92 hA9.1 rfl dX10_moveTo_53 ?_
      refine pw_iload_n dX10_moveTo_56 rfl ?_
      refine pw_iconst (v := zI (0)) dX10_moveTo_57 (by decide) ?_
      refine pw_zast (t := 1) rfl (mF31 hA9) (by omega) (by decide) (by omega) dX10_moveTo_58 ?_
      have hA10 : mAt B (mA 31 (va_up (s9.2 31) (p).toNat (0)) s9) (va_up h9 (B + 28) (pz_z 1 8 (va_up (s9.2 31) (p).toNat (0)))) := mU31 hA9
      have hk10 : mPk (mA 31 (va_up (s9.2 31) (p).toNat (0)) s9) p.toNat := mP31 hk9 (by omega)
      have hr10 : mPr p.toNat s (mA 31 (va_up (s9.2 31) (p).toNat (0)) s9) := mPr_tr hr9 (mPr_W (by decide) (by decide) (by decide))
      have hF10 : mFr B h (va_up h9 (B + 28) (pz_z 1 8 (va_up (s9.2 31) (p).toNat (0)))) := mFr_tr hF9 (mFr_up (by decide))
      revert hA10 hk10 hr10 hF10 
      generalize (mA 31 (va_up (s9.2 31) (p).toNat (0)) s9) = s10
      generalize (va_up h9 (B + 28) (pz_z 1 8 (va_up (s9.2 31) (p).toNat (0)))) = h10
      intro hA10 hk10 hr10 hF10 
      obtain ⟨kw, kh, kr, kc, ksr, ksc, kt, ko, kwa, kin, kwr, khi, krd, knu, kgi, kas, kfr, kra, kco, kof, kip⟩ := id hk10
      exact pw_vret dX10_moveTo_59 rfl (nle rfl) (nle rfl) ⟨rfl, s10, hA10, hk10, hr10, hF10, rfl⟩
