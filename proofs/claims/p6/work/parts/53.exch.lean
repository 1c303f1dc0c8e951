/-! ===== Layout: exchange ===== -/
theorem ptUpN {D : Nat → Bool} {P : Nat → ptC} {h : pz_H} {a : Nat} {x : pz_C} (ha : ¬ D a = true) : va_up (ptPut D P h) a x = ptPut D P (va_up h a x) := by
  funext j
  by_cases e : j = a
  · subst e; rw [va_up_self, ptNo ha, va_up_self]
  · rw [va_up_ne _ _ e]; unfold ptPut; rw [va_up_ne _ _ e]
def exP (P : Nat → ptC) (old oth : Nat) : Nat → ptC :=
  if (P old).2 2 = none then ptR P oth 2 ((P old).2 2)
  else if (ptR P oth 2 ((P old).2 2) (((P old).2 2).getD 0)).2 0 = some old then ptR (ptR P oth 2 ((P old).2 2)) (((P old).2 2).getD 0) 0 (some oth)
  else ptR (ptR P oth 2 ((P old).2 2)) (((P old).2 2).getD 0) 1 (some oth)
def exR (P : Nat → ptC) (old oth rt : Nat) : Nat := if (P old).2 2 = none then oth else rt
theorem exP_0 {P : Nat → ptC} {old oth : Nat} (h : (P old).2 2 = none) : exP P old oth = ptR P oth 2 ((P old).2 2) := by
  unfold exP; rw [if_pos h]
theorem exP_1 {P : Nat → ptC} {old oth ab : Nat} (h : (P old).2 2 = some ab) (h1 : (ptR P oth 2 ((P old).2 2) ab).2 0 = some old) : exP P old oth = ptR (ptR P oth 2 ((P old).2 2)) ab 0 (some oth) := by
  unfold exP; rw [if_neg (fun z => by rw [h] at z; cases z), show ((P old).2 2).getD 0 = ab by rw [h]; rfl, if_pos h1]
theorem exP_2 {P : Nat → ptC} {old oth ab : Nat} (h : (P old).2 2 = some ab) (h1 : ¬ (ptR P oth 2 ((P old).2 2) ab).2 0 = some old) : exP P old oth = ptR (ptR P oth 2 ((P old).2 2)) ab 1 (some oth) := by
  unfold exP; rw [if_neg (fun z => by rw [h] at z; cases z), show ((P old).2 2).getD 0 = ab by rw [h]; rfl, if_neg h1]
theorem exR_0 {P : Nat → ptC} {old oth rt : Nat} (h : (P old).2 2 = none) : exR P old oth rt = oth := by
  unfold exR; rw [if_pos h]
theorem exR_1 {P : Nat → ptC} {old oth rt : Nat} (h : ¬ (P old).2 2 = none) : exR P old oth rt = rt := by
  unfold exR; rw [if_neg h]
