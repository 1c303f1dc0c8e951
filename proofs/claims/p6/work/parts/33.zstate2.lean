theorem zb_nar {b : Int} (hb : 0 ≤ b ∧ b ≤ 1) : narrow .boolean (.int (zI b)) = .int (zI b) := by
  rcases (show b = 0 ∨ b = 1 by omega) with rfl | rfl <;> decide
theorem zb_fit {b : Int} (hb : 0 ≤ b ∧ b ≤ 1) : fits .boolean (.int (zI b)) = true := by
  rcases (show b = 0 ∨ b = 1 by omega) with rfl | rfl <;> decide
def zShow (w H on : Int) (s : zSt) : zSt := (va_up s.1 17 on, s.2.1, (if on ≠ 0 ∧ s.1 17 = 0 then gkeep w H 0 0 s.2.2.1 else s.2.2.1), s.2.2.2)
/-- all is as at first -/
def zResetF (F : Nat → Int) : Nat → Int := va_up (va_up (va_up (va_up (va_up (va_up (sSave (va_up (va_up (va_up (va_up F 5 0) 6 0) 7 0) 8 0)) 12 0) 13 (F 4 - 1)) 14 0) 15 1) 16 1) 17 0
def zReset (w H : Int) (s : zSt) : zSt := (zResetF s.1, gkeep w H 0 0 s.2.1, s.2.2.1, va_up (va_up s.2.2.2.1 3 0) 4 0, s.2.2.2.2)
def zResizeF (F : Nat → Int) (a b : Int) : Nat → Int := va_up (va_up (va_up (va_up (sMove (va_up (va_up F 3 a) 4 b) (F 5) (F 6)) 9 (max 0 (min (a - 1) (F 9)))) 10 (max 0 (min (b - 1) (F 10)))) 12 0) 13 (b - 1)
def zResize (w H a b : Int) (s : zSt) : zSt := if a = s.1 3 ∧ b = s.1 4 then s else (zResizeF s.1 a b, gkeep w H a b s.2.1, gkeep w H a b s.2.2.1, s.2.2.2)
/-- a character is put where the cursor is -/
def zPutX (w H ch : Int) (F f : Nat → Int) : Nat → Int := gset w H (F 5) (F 6) (F 8 * 128 + ch) (if F 14 = 0 then f else gmoveCells w H (F 6) (F 5) (F 5 + 1) (F 3 - 1 - F 5) f)
def zPutF (F : Nat → Int) : Nat → Int := if F 5 < F 3 - 1 then va_up F 5 (F 5 + 1) else va_up F 7 (F 15)
def zPut (w H ch : Int) (s : zSt) : zSt := (zPutF s.1, shM s.1 s.2.1 (zPutX w H ch s.1 (shG s.1 s.2.1 s.2.2.1)), shO s.1 s.2.2.1 (zPutX w H ch s.1 (shG s.1 s.2.1 s.2.2.1)), s.2.2.2)
def zWrite (w H : Int) (NH : Nat) (ch : Int) (s : zSt) : zSt := if s.1 7 = 0 then zPut w H ch s else zPut w H ch (zDown w H NH (va_up s.1 5 0, s.2))
theorem scOk_5 {w H : Int} {F T : Nat → Int} (hO : scOk w H F T) : scOk w H (va_up F 5 0) T := by
  unfold scOk at *
  simp only [va_up]
  simp
  omega
/-- J -/
def sErase (w H : Int) (F : Nat → Int) (how : Int) : Nat → Int → (Nat → Int) → Nat → Int
  | 0, _, f => f
  | j + 1, r, f => sErase w H F how j (r + 1) (if (how = 0 ∧ F 6 < r) ∨ (how = 1 ∧ r < F 6) ∨ how = 2 then gfill w H r 0 (F 3) (F 8 * 128 + 32) f else f)
