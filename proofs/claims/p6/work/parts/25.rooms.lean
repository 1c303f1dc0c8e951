/-- d frames deep, mc cells of ms slots -/
abbrev rmD (d mc ms : Nat) : Room := { frames := d, cells := mc, slots := ms, locals := 64 * d }
theorem pz_up_id {h : pz_H} {a : Nat} {x : pz_C} (e : h a = x) : va_up h a x = h := by
  funext j
  by_cases hj : j = a
  · subst hj; rw [va_up_self, e]
  · rw [va_up_ne _ _ hj]
theorem pz_up_up {h : pz_H} {a : Nat} {x y : pz_C} : va_up (va_up h a x) a y = va_up h a y := by
  funext j
  by_cases hj : j = a
  · subst hj; rw [va_up_self, va_up_self]
  · rw [va_up_ne _ _ hj, va_up_ne _ _ hj, va_up_ne _ _ hj]
theorem nle {a b : Nat} (h : Nat.ble a b = true) : a ≤ b := Nat.le_of_ble_eq_true h
theorem nlt {a b : Nat} (h : Nat.ble (a + 1) b = true) : a < b := Nat.le_of_ble_eq_true h
