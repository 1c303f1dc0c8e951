/-! ===== a Screen with its Reader: J 0 the Reader, J 1 its numbers ===== -/
def zAt (w H : Int) (N NH : Nat) (I : Nat → Nat) (s : zSt) (h : pz_H) : Prop := scAt w H N NH I s.1 s.2.1 s.2.2.1 s.2.2.2.1 s.2.2.2.2.1 s.2.2.2.2.2 h
def rdObj (I J : Nat → Nat) (R : Nat → Int) : List Value := [.ref (I 0), .ref (J 1), .int (zI (R 2)), .int (zI (R 3)), .int (zI (R 4)), .int (zI (R 5))]
def rP (w H : Int) (N NH : Nat) (I J : Nat → Nat) (s : zSt) (R q : Nat → Int) (h : pz_H) : pz_H := fun j => if j = J 0 then pz_o 9 (rdObj I J R) else if j = J 1 then pz_z 0 4 q else zP w H N NH I s h j
def rAt (w H : Int) (N NH : Nat) (I J : Nat → Nat) (s : zSt) (R q : Nat → Int) (h : pz_H) : Prop := zAt w H N NH I s h ∧ h (J 0) = pz_o 9 (rdObj I J R) ∧ h (J 1) = pz_z 0 4 q ∧ J 0 ≠ J 1 ∧ ∀ i, i < 8 → I i ≠ J 0 ∧ I i ≠ J 1
section RD
variable {w H : Int} {N NH : Nat} {I J : Nat → Nat} {s s' s0 : zSt} {R R' R0 q q' q0 : Nat → Int} {h : pz_H}
theorem zAt_of {h1 : pz_H} (hA : zAt w H N NH I s h) (e : ∀ i, i < 8 → h1 (I i) = h (I i)) : zAt w H N NH I s h1 :=
  ⟨⟨(e 0 (by decide)).trans hA.1.1, (e 1 (by decide)).trans hA.1.2.1, (e 2 (by decide)).trans hA.1.2.2.1, (e 3 (by decide)).trans hA.1.2.2.2.1, (e 4 (by decide)).trans hA.1.2.2.2.2.1, (e 5 (by decide)).trans hA.1.2.2.2.2.2.1, (e 6 (by decide)).trans hA.1.2.2.2.2.2.2.1, (e 7 (by decide)).trans hA.1.2.2.2.2.2.2.2⟩, hA.2⟩
theorem zAt_put (hA : zAt w H N NH I s0 h) : zAt w H N NH I s (zP w H N NH I s h) := scAt_put hA
theorem rP_I (hA : rAt w H N NH I J s0 R0 q0 h) {i : Nat} (hi : i < 8) : rP w H N NH I J s R q h (I i) = zP w H N NH I s h (I i) := by
  unfold rP
  rw [if_neg (hA.2.2.2.2 i hi).1, if_neg (hA.2.2.2.2 i hi).2]
theorem rAt_put (hA : rAt w H N NH I J s0 R0 q0 h) : rAt w H N NH I J s R q (rP w H N NH I J s R q h) := by
  refine ⟨zAt_of (zAt_put hA.1) (fun i hi => rP_I hA hi), ?_, ?_, hA.2.2.2.1, hA.2.2.2.2⟩
  · unfold rP; rw [if_pos rfl]
  · unfold rP; rw [if_neg (Ne.symm hA.2.2.2.1), if_pos rfl]
theorem rP_id (hA : rAt w H N NH I J s R q h) : rP w H N NH I J s R q h = h := by
  funext j
  unfold rP
  split
  · next e => rw [e]; exact hA.2.1.symm
  split
  · next e => rw [e]; exact hA.2.2.1.symm
  exact congrFun (scPut_id hA.1) j
theorem zP_other {j : Nat} (hj : ∀ i, i < 8 → j ≠ I i) : zP w H N NH I s h j = h j := scPut_other (fun i hi => hj i (by omega))
theorem zP_put : zP w H N NH I s (zP w H N NH I s' h) = zP w H N NH I s h := scPut_put
/-- what depends on h at the cells' own ids only through their puts -/
theorem zP_congr {h1 h2 : pz_H} (j : Nat) (e : (∀ i, i < 6 → j ≠ I i) → h1 j = h2 j) : zP w H N NH I s h1 j = zP w H N NH I s h2 j := by
  by_cases hj : ∀ i, i < 6 → j ≠ I i
  · rw [zP, zP, scPut_other hj, scPut_other hj]; exact e hj
  · unfold zP scPut
    by_cases e0 : j = I 0
    · simp only [if_pos e0]
    by_cases e1 : j = I 1
    · simp only [if_neg e0, if_pos e1]
    by_cases e2 : j = I 2
    · simp only [if_neg e0, if_neg e1, if_pos e2]
    by_cases e3 : j = I 3
    · simp only [if_neg e0, if_neg e1, if_neg e2, if_pos e3]
    by_cases e4 : j = I 4
    · simp only [if_neg e0, if_neg e1, if_neg e2, if_neg e3, if_pos e4]
    by_cases e5 : j = I 5
    · simp only [if_neg e0, if_neg e1, if_neg e2, if_neg e3, if_neg e4, if_pos e5]
    exact absurd (fun i hi => by
      match i, hi with
      | 0, _ => exact e0
      | 1, _ => exact e1
      | 2, _ => exact e2
      | 3, _ => exact e3
      | 4, _ => exact e4
      | 5, _ => exact e5) hj
/-- a Screen's method behind a Reader's -/
theorem zP_rP (hA : rAt w H N NH I J s0 R0 q0 h) : zP w H N NH I s' (rP w H N NH I J s R q h) = rP w H N NH I J s' R q h := by
  funext j
  by_cases e0 : j = J 0
  · rw [zP_other (j := j) (I := I) (fun i hi => fun e => (hA.2.2.2.2 i hi).1 (e.symm.trans e0))]
    unfold rP; rw [if_pos e0, if_pos e0]
  by_cases e1 : j = J 1
  · rw [zP_other (j := j) (I := I) (fun i hi => fun e => (hA.2.2.2.2 i hi).2 (e.symm.trans e1))]
    unfold rP; rw [if_neg e0, if_neg e0, if_pos e1, if_pos e1]
  have e2 : rP w H N NH I J s' R q h j = zP w H N NH I s' h j := by unfold rP; rw [if_neg e0, if_neg e1]
  rw [e2]
  refine zP_congr j (fun hj => ?_)
  unfold rP; rw [if_neg e0, if_neg e1]
  exact scPut_other hj
theorem rU0 : va_up (rP w H N NH I J s R q h) (J 0) (pz_o 9 (rdObj I J R')) = rP w H N NH I J s R' q h := by
  funext j
  unfold rP va_up
  by_cases e0 : j = J 0
  · simp only [if_pos e0]
  · simp only [if_neg e0]
theorem rU1 (hA : rAt w H N NH I J s0 R0 q0 h) : va_up (rP w H N NH I J s R q h) (J 1) (pz_z 0 4 q') = rP w H N NH I J s R q' h := by
  funext j
  unfold rP va_up
  by_cases e0 : j = J 0
  · simp only [if_pos e0, if_neg (show ¬ j = J 1 from fun e => hA.2.2.2.1 (e0.symm.trans e))]
  · by_cases e1 : j = J 1
    · simp only [if_neg e0, if_pos e1]
    · simp only [if_neg e0, if_neg e1]
theorem rUF (hA : rAt w H N NH I J s0 R0 q0 h) {F' : Nat → Int} : va_up (rP w H N NH I J s R q h) (I 0) (pz_o 10 (scObj I F')) = rP w H N NH I J (F', s.2) R q h := by
  funext j
  by_cases ei : j = I 0
  · subst ei
    rw [va_up_self, rP_I hA (by decide)]
    exact ((scAt_put hA.1).1.1).symm
  · rw [va_up_ne _ _ ei]
    unfold rP
    split
    · rfl
    split
    · rfl
    unfold zP scPut
    simp only [if_neg ei]
end RD
/-- what Screen's methods do, on the whole state -/
def zMove (a b : Int) (s : zSt) : zSt := (sMove s.1 a b, s.2)
def zSave (s : zSt) : zSt := (sSave s.1, s.2)
def zTake (s : zSt) : zSt := (va_up (sMove s.1 (s.1 9) (s.1 10)) 8 (s.1 11), s.2)
def zSet (k : Nat) (x : Int) (s : zSt) : zSt := (va_up s.1 k x, s.2)
def zEraCells (w H k : Int) (s : zSt) : zSt := zX s.1 (gfill w H (s.1 6) (s.1 5) (min (s.1 3) (s.1 5 + k)) (s.1 8 * 128 + 32) (zG s)) s
def zInsCells (w H k : Int) (s : zSt) : zSt := zX s.1 (gfill w H (s.1 6) (s.1 5) (s.1 5 + min k (s.1 3 - s.1 5)) (s.1 8 * 128 + 32) (gmoveCells w H (s.1 6) (s.1 5) (s.1 5 + min k (s.1 3 - s.1 5)) (s.1 3 - s.1 5 - min k (s.1 3 - s.1 5)) (zG s))) s
def zDelCells (w H k : Int) (s : zSt) : zSt := zX s.1 (gfill w H (s.1 6) (s.1 3 - min k (s.1 3 - s.1 5)) (s.1 3) (s.1 8 * 128 + 32) (gmoveCells w H (s.1 6) (s.1 5 + min k (s.1 3 - s.1 5)) (s.1 5) (s.1 3 - s.1 5 - min k (s.1 3 - s.1 5)) (zG s))) s
def zErow (w H how : Int) (s : zSt) : zSt := zX s.1 (sErow w H s.1 how (zG s)) s
def zErase (w H how : Int) (s : zSt) : zSt := zX s.1 (sErase w H s.1 how (s.1 4).toNat 0 (sErow w H s.1 how (zG s))) s
def zInsRows (w H k : Int) (s : zSt) : zSt := zX (sIn s.1) (sInX s.1 (sLower w H (s.1 6) (s.1 3) k (s.1 8 * 128 + 32) (s.1 13 + 1 - s.1 6).toNat (s.1 13) (zG s)) (zG s)) s
def zDelRows (w H k : Int) (s : zSt) : zSt := zX (sIn s.1) (sInX s.1 (sRaise w H (s.1 13) (s.1 3) k (s.1 8 * 128 + 32) (s.1 13 + 1 - s.1 6).toNat (s.1 6) (zG s)) (zG s)) s
def zRegion (a b : Int) (s : zSt) : zSt := (sRegion s.1 a b, s.2)
