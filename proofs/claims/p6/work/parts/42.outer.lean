/-! ===== Outer: K 0 itself, K 1 what it shows, K 2 OUT; its numbers O and OUT's bytes together as p ===== -/
abbrev oPr : Type := (Nat → Int) × (Nat → Int)
/-- bytes go to OUT, as far as there is room -/
def oApp (NB : Nat) (l : List Int) (p : oPr) : oPr := (va_up p.1 3 (min (NB : Int) (p.1 3 + (l.length : Int))), fun j => if p.1 3 ≤ (j : Int) ∧ (j : Int) < min (NB : Int) (p.1 3 + (l.length : Int)) then l.getD (j - (p.1 3).toNat) 0 else p.2 j)
theorem oApp_3 {NB : Nat} {l : List Int} {p : oPr} (hp : 0 ≤ p.1 3 ∧ p.1 3 ≤ NB) : 0 ≤ (oApp NB l p).1 3 ∧ (oApp NB l p).1 3 ≤ NB := by
  show 0 ≤ min (NB : Int) (p.1 3 + (l.length : Int)) ∧ min (NB : Int) (p.1 3 + (l.length : Int)) ≤ NB
  omega
theorem oApp_app {NB : Nat} {l l2 : List Int} {p : oPr} (hp : 0 ≤ p.1 3 ∧ p.1 3 ≤ NB) : oApp NB l2 (oApp NB l p) = oApp NB (l ++ l2) p := by
  have e1 : (oApp NB l p).1 3 = min (NB : Int) (p.1 3 + (l.length : Int)) := rfl
  have hlen : ((l ++ l2).length : Int) = (l.length : Int) + (l2.length : Int) := by rw [List.length_append]; omega
  have em : min (NB : Int) (min (NB : Int) (p.1 3 + (l.length : Int)) + (l2.length : Int)) = min (NB : Int) (p.1 3 + ((l ++ l2).length : Int)) := by rw [hlen]; omega
  refine Prod.ext ?_ ?_
  · show va_up (va_up p.1 3 (min (NB : Int) (p.1 3 + (l.length : Int)))) 3 (min (NB : Int) (min (NB : Int) (p.1 3 + (l.length : Int)) + (l2.length : Int))) = va_up p.1 3 (min (NB : Int) (p.1 3 + ((l ++ l2).length : Int)))
    rw [bx_uu, em]
  · funext j
    show (if min (NB : Int) (p.1 3 + (l.length : Int)) ≤ (j : Int) ∧ (j : Int) < min (NB : Int) (min (NB : Int) (p.1 3 + (l.length : Int)) + (l2.length : Int)) then l2.getD (j - (min (NB : Int) (p.1 3 + (l.length : Int))).toNat) 0 else (if p.1 3 ≤ (j : Int) ∧ (j : Int) < min (NB : Int) (p.1 3 + (l.length : Int)) then l.getD (j - (p.1 3).toNat) 0 else p.2 j)) = (if p.1 3 ≤ (j : Int) ∧ (j : Int) < min (NB : Int) (p.1 3 + ((l ++ l2).length : Int)) then (l ++ l2).getD (j - (p.1 3).toNat) 0 else p.2 j)
    rw [em, hlen]
    by_cases h1 : min (NB : Int) (p.1 3 + (l.length : Int)) ≤ (j : Int) ∧ (j : Int) < min (NB : Int) (p.1 3 + ((l.length : Int) + (l2.length : Int)))
    · rw [if_pos h1, if_pos (by omega), List.getD_eq_getElem?_getD, List.getD_eq_getElem?_getD, List.getElem?_append_right (by omega)]
      rw [show j - (min (NB : Int) (p.1 3 + (l.length : Int))).toNat = j - (p.1 3).toNat - l.length by omega]
    · rw [if_neg h1]
      by_cases h2 : p.1 3 ≤ (j : Int) ∧ (j : Int) < min (NB : Int) (p.1 3 + (l.length : Int))
      · rw [if_pos h2, if_pos (by omega), List.getD_eq_getElem?_getD, List.getD_eq_getElem?_getD, List.getElem?_append_left (by omega)]
      · rw [if_neg h2, if_neg (by omega)]
/-- no room is left -/
theorem oApp_no {NB : Nat} {b : Int} {p : oPr} (hp : p.1 3 = NB) : oApp NB [b] p = p := by
  refine Prod.ext ?_ ?_
  · show va_up p.1 3 (min (NB : Int) (p.1 3 + (([b] : List Int).length : Int))) = p.1
    funext k
    by_cases e : k = 3
    · subst e; rw [va_up_self]; simp only [List.length_singleton]; omega
    · rw [va_up_ne _ _ e]
  · funext j
    show (if p.1 3 ≤ (j : Int) ∧ (j : Int) < min (NB : Int) (p.1 3 + (([b] : List Int).length : Int)) then _ else p.2 j) = p.2 j
    rw [if_neg (by omega)]
theorem oApp_yes {NB : Nat} {b : Int} {p : oPr} (h0 : 0 ≤ p.1 3) (hp : p.1 3 < NB) : oApp NB [b] p = (va_up p.1 3 (p.1 3 + 1), va_up p.2 (p.1 3).toNat b) := by
  refine Prod.ext ?_ ?_
  · show va_up p.1 3 (min (NB : Int) (p.1 3 + (([b] : List Int).length : Int))) = va_up p.1 3 (p.1 3 + 1)
    simp only [List.length_singleton]
    rw [show min (NB : Int) (p.1 3 + ((1 : Nat) : Int)) = p.1 3 + 1 by omega]
  · funext j
    show (if p.1 3 ≤ (j : Int) ∧ (j : Int) < min (NB : Int) (p.1 3 + (([b] : List Int).length : Int)) then ([b] : List Int).getD (j - (p.1 3).toNat) 0 else p.2 j) = va_up p.2 (p.1 3).toNat b j
    simp only [List.length_singleton]
    by_cases e : j = (p.1 3).toNat
    · subst e; rw [va_up_self, if_pos (by omega), Nat.sub_self]; rfl
    · rw [va_up_ne _ _ e, if_neg (by omega)]
def ouObj (w : Int) (K : Nat → Nat) (O : Nat → Int) : List Value := [.int (zI w), .ref (K 1), .ref (K 2), .int (zI (O 3)), .int (zI (O 4)), .int (zI (O 5)), .int (zI (O 6)), .int (zI (O 7))]
def oP (w : Int) (N NB : Nat) (K : Nat → Nat) (p : oPr) (sh : Nat → Int) (h : pz_H) : pz_H := fun j => if j = K 0 then pz_o 6 (ouObj w K p.1) else if j = K 1 then pz_z 0 N sh else if j = K 2 then pz_z 0 NB p.2 else h j
def oAt (w : Int) (N NB : Nat) (K : Nat → Nat) (p : oPr) (sh : Nat → Int) (h : pz_H) : Prop := h (K 0) = pz_o 6 (ouObj w K p.1) ∧ h (K 1) = pz_z 0 N sh ∧ h (K 2) = pz_z 0 NB p.2 ∧ K 0 ≠ K 1 ∧ K 0 ≠ K 2 ∧ K 1 ≠ K 2
section OU
variable {w : Int} {N NB : Nat} {K : Nat → Nat} {p p' p0 : oPr} {sh sh' sh0 : Nat → Int} {h : pz_H}
theorem oAt_put (hA : oAt w N NB K p0 sh0 h) : oAt w N NB K p sh (oP w N NB K p sh h) := by
  refine ⟨?_, ?_, ?_, hA.2.2.2⟩
  · unfold oP; rw [if_pos rfl]
  · unfold oP; rw [if_neg (Ne.symm hA.2.2.2.1), if_pos rfl]
  · unfold oP; rw [if_neg (Ne.symm hA.2.2.2.2.1), if_neg (Ne.symm hA.2.2.2.2.2), if_pos rfl]
theorem oP_id (hA : oAt w N NB K p sh h) : oP w N NB K p sh h = h := by
  funext j
  unfold oP
  split
  · next e => rw [e]; exact hA.1.symm
  split
  · next e => rw [e]; exact hA.2.1.symm
  split
  · next e => rw [e]; exact hA.2.2.1.symm
  rfl
theorem oP_put : oP w N NB K p' sh' (oP w N NB K p sh h) = oP w N NB K p' sh' h := by
  funext j
  unfold oP
  by_cases e0 : j = K 0
  · simp only [if_pos e0]
  by_cases e1 : j = K 1
  · simp only [if_neg e0, if_pos e1]
  by_cases e2 : j = K 2
  · simp only [if_neg e0, if_neg e1, if_pos e2]
  simp only [if_neg e0, if_neg e1, if_neg e2]
theorem oU0 {O' : Nat → Int} : va_up (oP w N NB K p sh h) (K 0) (pz_o 6 (ouObj w K O')) = oP w N NB K (O', p.2) sh h := by
  funext j
  unfold oP va_up
  by_cases e0 : j = K 0
  · simp only [if_pos e0]
  · simp only [if_neg e0]
theorem oU1 (hA : oAt w N NB K p0 sh0 h) : va_up (oP w N NB K p sh h) (K 1) (pz_z 0 N sh') = oP w N NB K p sh' h := by
  funext j
  unfold oP va_up
  by_cases e1 : j = K 1
  · simp only [if_pos e1, if_neg (show ¬ j = K 0 from fun e => hA.2.2.2.1 (e.symm.trans e1))]
  · simp only [if_neg e1]
theorem oU2 (hA : oAt w N NB K p0 sh0 h) {b' : Nat → Int} : va_up (oP w N NB K p sh h) (K 2) (pz_z 0 NB b') = oP w N NB K (p.1, b') sh h := by
  funext j
  unfold oP va_up
  by_cases e2 : j = K 2
  · simp only [if_pos e2, if_neg (show ¬ j = K 0 from fun e => hA.2.2.2.2.1 (e.symm.trans e2)), if_neg (show ¬ j = K 1 from fun e => hA.2.2.2.2.2 (e.symm.trans e2))]
  · simp only [if_neg e2]
end OU
/-- a number's bytes -/
def numB (k : Int) : List Int := if 10 ≤ k then [48 + k / 10, 48 + k % 10] else [48 + k % 10]
def oMove (NB : Nat) (c r : Int) (p : oPr) : oPr := if p.1 4 = c ∧ p.1 5 = r then p else oApp NB ([27] ++ [91] ++ numB (r + 1) ++ [59] ++ numB (c + 1) ++ [72]) (va_up (va_up p.1 4 c) 5 r, p.2)
def partB (there k : Int) : List Int := if there = 0 then [] else [59] ++ numB k
theorem oApp_nil {NB : Nat} {p : oPr} (hp : 0 ≤ p.1 3 ∧ p.1 3 ≤ NB) : oApp NB [] p = p := by
  refine Prod.ext ?_ ?_
  · show va_up p.1 3 (min (NB : Int) (p.1 3 + (([] : List Int).length : Int))) = p.1
    funext k
    by_cases e : k = 3
    · subst e; rw [va_up_self]; simp only [List.length_nil]; omega
    · rw [va_up_ne _ _ e]
  · funext j
    show (if p.1 3 ≤ (j : Int) ∧ (j : Int) < min (NB : Int) (p.1 3 + (([] : List Int).length : Int)) then _ else p.2 j) = p.2 j
    simp only [List.length_nil]
    rw [if_neg (by omega)]
