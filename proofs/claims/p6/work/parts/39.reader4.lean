abbrev rSt : Type := zSt × (Nat → Int) × (Nat → Int)
def rPt (w H : Int) (N NH : Nat) (I J : Nat → Nat) (t : rSt) (h : pz_H) : pz_H := rP w H N NH I J t.1 t.2.1 t.2.2 h
/-- a longer sequence ends with b -/
def zDo (w H : Int) (NH : Nat) (b : Int) (R q : Nat → Int) (s : zSt) : zSt :=
  if b = 64 then zInsCells w H (max 1 (q 0)) s else if b = 65 then zMove (s.1 5) (s.1 6 - max 1 (q 0)) s else if b = 66 then zMove (s.1 5) (s.1 6 + max 1 (q 0)) s
  else if b = 67 then zMove (s.1 5 + max 1 (q 0)) (s.1 6) s else if b = 68 then zMove (s.1 5 - max 1 (q 0)) (s.1 6) s else if b = 71 then zMove (max 1 (q 0) - 1) (s.1 6) s
  else if b = 72 ∨ b = 102 then zMove (max 1 (q 1) - 1) (max 1 (q 0) - 1) s else if b = 74 then zErase w H (q 0) s else if b = 75 then zErow w H (q 0) s
  else if b = 76 then zInsRows w H (max 1 (q 0)) s else if b = 77 then zDelRows w H (max 1 (q 0)) s else if b = 80 then zDelCells w H (max 1 (q 0)) s
  else if b = 83 then zScrollUp w H NH (max 1 (q 0)) s else if b = 84 then zScrollDown w H (max 1 (q 0)) s else if b = 88 then zEraCells w H (max 1 (q 0)) s
  else if b = 100 then zMove (s.1 5) (max 1 (q 0) - 1) s else if b = 104 then (if q 0 = 4 then zSet 14 1 s else s) else if b = 108 then (if q 0 = 4 then zSet 14 0 s else s)
  else if b = 109 then zPens R q s else if b = 114 then zRegion (max 1 (q 0)) (q 1) s else s
def rBegin (R : Nat → Int) : Nat → Int := va_up (va_up (va_up R 5 2) 2 0) 3 0
def rShort (w H : Int) (NH : Nat) (b : Int) (t : rSt) : rSt :=
  if b = 55 then (zSave t.1, va_up t.2.1 5 0, t.2.2) else if b = 56 then (zTake t.1, va_up t.2.1 5 0, t.2.2) else if b = 68 then (zDown w H NH t.1, va_up t.2.1 5 0, t.2.2)
  else if b = 77 then (zUp w H t.1, va_up t.2.1 5 0, t.2.2) else if b = 99 then (zReset w H t.1, va_up t.2.1 5 0, t.2.2) else if b = 91 then (t.1, rBegin (va_up t.2.1 5 0), zfill t.2.2 0 4 0) else (t.1, va_up t.2.1 5 0, t.2.2)
/-- the wait ends, with a longer sequence that ends with b -/
def zEnd (b : Int) (s : zSt) : zSt := if b = 64 ∨ b = 65 ∨ b = 66 ∨ b = 67 ∨ b = 68 ∨ b = 71 ∨ b = 72 ∨ b = 74 ∨ b = 75 ∨ b = 76 ∨ b = 77 ∨ b = 80 ∨ b = 83 ∨ b = 84 ∨ b = 88 ∨ b = 100 ∨ b = 102 ∨ b = 114 then zSet 7 0 s else s
theorem zEnd_ok {w H b : Int} {s : zSt} (hO : zOk w H s) : zOk w H (zEnd b s) := by
  unfold zEnd
  split
  · exact scOk_7 hO
  · exact hO
def rLonger (w H : Int) (NH : Nat) (b : Int) (t : rSt) : rSt :=
  if 48 ≤ b ∧ b ≤ 57 then (t.1, rDigitR t.2.1, rDigit t.2.1 t.2.2 (b - 48)) else if b = 59 then (t.1, va_up (va_up t.2.1 2 (min 4 (t.2.1 2 + 1))) 3 0, t.2.2)
  else if 64 ≤ b ∧ b ≤ 126 then (if t.2.1 4 = 0 then zDo w H NH b (va_up t.2.1 5 0) t.2.2 (zEnd b t.1) else zAsked w H b t.2.2 (zEnd b t.1), va_up t.2.1 5 0, t.2.2) else t
/-- behind [ at once -/
def rOpen (b : Int) (R : Nat → Int) : Nat → Int := if R 5 = 2 then va_up (va_up R 4 (if b = 63 then 1 else 0)) 5 3 else R
def rGo (w H : Int) (NH : Nat) (b : Int) (t : rSt) : rSt := if t.2.1 5 = 3 then rLonger w H NH b t else if t.2.1 5 = 1 then rShort w H NH b t else if 32 ≤ b ∧ b ≤ 126 then (zWrite w H NH b t.1, t.2) else t
/-- a byte for a pane -/
def rTake (w H : Int) (NH : Nat) (b : Int) (t : rSt) : rSt :=
  if b = 8 then (zMove (t.1.1 5 - 1) (t.1.1 6) t.1, t.2) else if b = 9 then (zMove ((t.1.1 5 / 8 + 1) * 8) (t.1.1 6) t.1, t.2) else if b = 10 then (zDown w H NH t.1, t.2)
  else if b = 13 then (zMove 0 (t.1.1 6) t.1, t.2) else if b = 27 then (t.1, va_up t.2.1 5 1, t.2.2) else rGo w H NH b (t.1, rOpen b t.2.1, t.2.2)
theorem rOk_5 {w H : Int} {s : zSt} {R q : Nat → Int} {x : Int} (hO : rOk w H s R q) (hx : 0 ≤ x ∧ x ≤ 3) : rOk w H s (va_up R 5 x) q := by
  obtain ⟨hz, r2, r3, r4, r5, hq⟩ := hO
  exact ⟨hz, r2, r3, r4, hx, hq⟩
theorem rOk_4 {w H : Int} {s : zSt} {R q : Nat → Int} {x : Int} (hO : rOk w H s R q) (hx : 0 ≤ x ∧ x ≤ 1) : rOk w H s (va_up R 4 x) q := by
  obtain ⟨hz, r2, r3, r4, r5, hq⟩ := hO
  exact ⟨hz, r2, r3, hx, r5, hq⟩
theorem sPens_ok {told : Int} {q : Nat → Int} : ∀ (j : Nat) (i p : Int), 0 ≤ p ∧ p < 4096 → 0 ≤ sPens told q j i p ∧ sPens told q j i p < 4096
  | 0, _, _, hp => hp
  | j + 1, i, p, hp => by
    show 0 ≤ (if i < told then sPens told q j (i + 1) (pChg p (q i.toNat)) else p) ∧ (if i < told then sPens told q j (i + 1) (pChg p (q i.toNat)) else p) < 4096
    split
    · exact sPens_ok j (i + 1) _ (pChg_ok hp)
    · exact hp
theorem rOk_z {w H : Int} {s s' : zSt} {R q : Nat → Int} (hO : rOk w H s R q) (hz : zOk w H s') : rOk w H s' R q := ⟨hz, hO.2⟩
