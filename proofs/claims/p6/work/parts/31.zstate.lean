/-! ===== a Screen's state as one value ===== -/
abbrev zSt : Type := (Nat → Int) × (Nat → Int) × (Nat → Int) × (Nat → Int) × (Nat → Int) × (Nat → Int)
def zP (w H : Int) (N NH : Nat) (I : Nat → Nat) (s : zSt) (h : pz_H) : pz_H := scPut w H N NH I s.1 s.2.1 s.2.2.1 s.2.2.2.1 s.2.2.2.2.1 s.2.2.2.2.2 h
def zOk (w H : Int) (s : zSt) : Prop := scOk w H s.1 s.2.2.2.1
/-- the cells that are shown, changed to x -/
def zX (F' : Nat → Int) (x : Nat → Int) (s : zSt) : zSt := (F', shM s.1 s.2.1 x, shO s.1 s.2.2.1 x, s.2.2.2)
def zG (s : zSt) : Nat → Int := shG s.1 s.2.1 s.2.2.1
def sGone (w H : Int) (NH : Nat) (F m T c l : Nat → Int) (k : Int) : (Nat → Int) × (Nat → Int) × (Nat → Int) := if F 12 = 0 ∧ F 17 = 0 then sHist w H NH (F 3) m (min k (F 13 + 1)).toNat 0 (T, c, l) else (T, c, l)
def zScrollUp (w H : Int) (NH : Nat) (k : Int) (s : zSt) : zSt :=
  (va_up s.1 7 0, shM s.1 s.2.1 (sRaise w H (s.1 13) (s.1 3) k (s.1 8 * 128 + 32) (s.1 13 + 1 - s.1 12).toNat (s.1 12) (shG s.1 s.2.1 s.2.2.1)), shO s.1 s.2.2.1 (sRaise w H (s.1 13) (s.1 3) k (s.1 8 * 128 + 32) (s.1 13 + 1 - s.1 12).toNat (s.1 12) (shG s.1 s.2.1 s.2.2.1)), sGone w H NH s.1 s.2.1 s.2.2.2.1 s.2.2.2.2.1 s.2.2.2.2.2 k)
def zScrollDown (w H : Int) (k : Int) (s : zSt) : zSt :=
  (va_up s.1 7 0, shM s.1 s.2.1 (sLower w H (s.1 12) (s.1 3) k (s.1 8 * 128 + 32) (s.1 13 + 1 - s.1 12).toNat (s.1 13) (shG s.1 s.2.1 s.2.2.1)), shO s.1 s.2.2.1 (sLower w H (s.1 12) (s.1 3) k (s.1 8 * 128 + 32) (s.1 13 + 1 - s.1 12).toNat (s.1 13) (shG s.1 s.2.1 s.2.2.1)), s.2.2.2)
def zDown (w H : Int) (NH : Nat) (s : zSt) : zSt := if s.1 6 = s.1 13 then zScrollUp w H NH 1 s else (sMove s.1 (s.1 5) (s.1 6 + 1), s.2)
def zUp (w H : Int) (s : zSt) : zSt := if s.1 6 = s.1 12 then zScrollDown w H 1 s else (sMove s.1 (s.1 5) (s.1 6 - 1), s.2)
theorem scOk_T {w H : Int} {F T T' : Nat → Int} (hO : scOk w H F T) (hh : hOk T') : scOk w H F T' := by
  obtain ⟨o3, o4, o5, o6, o7, o8, o9, o10, o11, o12, o14, o15, o16, o17, oT3, oT4⟩ := hO
  exact ⟨o3, o4, o5, o6, o7, o8, o9, o10, o11, o12, o14, o15, o16, o17, hh.1, hh.2⟩
theorem scOk_h {w H : Int} {F T : Nat → Int} (hO : scOk w H F T) : hOk T := by
  obtain ⟨o3, o4, o5, o6, o7, o8, o9, o10, o11, o12, o14, o15, o16, o17, oT3, oT4⟩ := hO
  exact ⟨oT3, oT4⟩
theorem sGone_ok {w H k : Int} {NH : Nat} {F m T c l : Nat → Int} (hh : hOk T) : hOk (sGone w H NH F m T c l k).1 := by
  unfold sGone
  split
  · exact sHist_ok _ _ _ hh
  · exact hh
theorem zScrollUp_ok {w H k : Int} {NH : Nat} {s : zSt} (hO : zOk w H s) : zOk w H (zScrollUp w H NH k s) := scOk_T (T := s.2.2.2.1) (scOk_7 hO) (sGone_ok (scOk_h hO))
theorem zDown_ok {w H : Int} {NH : Nat} {s : zSt} (hO : zOk w H s) : zOk w H (zDown w H NH s) := by
  unfold zDown
  split
  · exact zScrollUp_ok hO
  · exact sMove_ok hO
