/-! ===== PaneHouse: what is copied ===== -/
abbrev clC : Type := (Nat → Int) × Int
def clB (b : Int) (c : clC) : clC := if c.2 < 400 then (va_up c.1 c.2.toNat b, c.2 + 1) else c
def clEnd (l : Nat → Int) : Nat → Int → Int
  | 0, e => e
  | j + 1, e => if l e.toNat % 128 = 32 then clEnd l j (e - 1) else e
def clRun (l : Nat → Int) : Nat → Int → clC → clC
  | 0, _, c => c
  | j + 1, i, c => clRun l j (i + 1) (clB (l i.toNat % 128) c)
def hoL (pn ly ou pi li cl : Nat) (W HH csz foc pre : Int) : List Value := [.int (zI W), .int (zI HH), .ref pn, .ref ly, .ref ou, .ref pi, .ref li, .ref cl, .int (zI csz), .int (zI foc), .int (zI pre)]
theorem clEnd_b {l : Nat → Int} : ∀ (j : Nat) (e : Int), clEnd l j e ≤ e ∧ e - j ≤ clEnd l j e
  | 0, e => by show e ≤ e ∧ e - ((0 : Nat) : Int) ≤ e; omega
  | j + 1, e => by
    have ih := clEnd_b (l := l) j (e - 1)
    show (if l e.toNat % 128 = 32 then clEnd l j (e - 1) else e) ≤ e ∧ e - ((j + 1 : Nat) : Int) ≤ (if l e.toNat % 128 = 32 then clEnd l j (e - 1) else e)
    split <;> omega
theorem clB_ok {b : Int} {c : clC} (hc : 0 ≤ c.2 ∧ c.2 ≤ 400) : 0 ≤ (clB b c).2 ∧ (clB b c).2 ≤ 400 := by
  unfold clB
  split
  · show 0 ≤ c.2 + 1 ∧ c.2 + 1 ≤ 400; omega
  · exact hc
/-- the copied bytes and their number in the heap -/
def clP (ho pn ly ou pi li cl : Nat) (W HH foc pre : Int) (c : clC) (h : pz_H) : pz_H := va_up (va_up h cl (pz_z 0 400 c.1)) ho (pz_o 12 (hoL pn ly ou pi li cl W HH c.2 foc pre))
theorem clP_id {ho pn ly ou pi li cl : Nat} {W HH foc pre : Int} {c : clC} {h : pz_H} (hho : h ho = pz_o 12 (hoL pn ly ou pi li cl W HH c.2 foc pre)) (hcl : h cl = pz_z 0 400 c.1) : clP ho pn ly ou pi li cl W HH foc pre c h = h := by
  unfold clP
  rw [pz_up_id hcl, pz_up_id hho]
theorem clP_put {ho pn ly ou pi li cl : Nat} {W HH foc pre : Int} {c c' : clC} {h : pz_H} (hne : ho ≠ cl) : clP ho pn ly ou pi li cl W HH foc pre c' (clP ho pn ly ou pi li cl W HH foc pre c h) = clP ho pn ly ou pi li cl W HH foc pre c' h := by
  funext j
  unfold clP
  by_cases e : j = ho
  · subst e; rw [va_up_self, va_up_self]
  · rw [va_up_ne _ _ e, va_up_ne _ _ e]
    by_cases e2 : j = cl
    · subst e2; rw [va_up_self, va_up_self]
    · rw [va_up_ne _ _ e2, va_up_ne _ _ e, va_up_ne _ _ e2, va_up_ne _ _ e2]
theorem clP_ho {ho pn ly ou pi li cl : Nat} {W HH foc pre : Int} {c : clC} {h : pz_H} : clP ho pn ly ou pi li cl W HH foc pre c h ho = pz_o 12 (hoL pn ly ou pi li cl W HH c.2 foc pre) := va_up_self _ _ _
theorem clP_cl {ho pn ly ou pi li cl : Nat} {W HH foc pre : Int} {c : clC} {h : pz_H} (hne : ho ≠ cl) : clP ho pn ly ou pi li cl W HH foc pre c h cl = pz_z 0 400 c.1 := (va_up_ne _ _ (Ne.symm hne)).trans (va_up_self _ _ _)
theorem clP_o {ho pn ly ou pi li cl j : Nat} {W HH foc pre : Int} {c : clC} {h : pz_H} (h1 : j ≠ ho) (h2 : j ≠ cl) : clP ho pn ly ou pi li cl W HH foc pre c h j = h j := (va_up_ne _ _ h1).trans (va_up_ne _ _ h2)
