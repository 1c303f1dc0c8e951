/-! ===== a Screen's cells: I 0 itself, I 1 its main cells, I 2 the other ones, I 3 its History, I 4 that one's cells, I 5 lengths, I 6, I 7 its Grids ===== -/
def scObj (I : Nat → Nat) (F : Nat → Int) : List Value := [.ref (I 6), .ref (I 7), .ref (I 3), .int (zI (F 3)), .int (zI (F 4)), .int (zI (F 5)), .int (zI (F 6)), .int (zI (F 7)), .int (zI (F 8)), .int (zI (F 9)), .int (zI (F 10)), .int (zI (F 11)), .int (zI (F 12)), .int (zI (F 13)), .int (zI (F 14)), .int (zI (F 15)), .int (zI (F 16)), .int (zI (F 17))]
def hiObj (w : Int) (I : Nat → Nat) (T : Nat → Int) : List Value := [.int (zI w), .ref (I 4), .ref (I 5), .int (zI (T 3)), .int (zI (T 4))]
def scAt (w H : Int) (N NH : Nat) (I : Nat → Nat) (F m o T c l : Nat → Int) (h : pz_H) : Prop :=
  (h (I 0) = pz_o 10 (scObj I F) ∧ h (I 1) = pz_z 0 N m ∧ h (I 2) = pz_z 0 N o ∧ h (I 3) = pz_o 4 (hiObj w I T) ∧ h (I 4) = pz_z 0 NH c ∧ h (I 5) = pz_z 0 30 l ∧ h (I 6) = pz_o 3 [.int (zI w), .int (zI H), .ref (I 1)] ∧ h (I 7) = pz_o 3 [.int (zI w), .int (zI H), .ref (I 2)]) ∧ ∀ i j, i < 8 → j < 8 → I i = I j → i = j
def scPut (w H : Int) (N NH : Nat) (I : Nat → Nat) (F m o T c l : Nat → Int) (h : pz_H) : pz_H := fun j =>
  if j = I 0 then pz_o 10 (scObj I F) else if j = I 1 then pz_z 0 N m else if j = I 2 then pz_z 0 N o else if j = I 3 then pz_o 4 (hiObj w I T) else if j = I 4 then pz_z 0 NH c else if j = I 5 then pz_z 0 30 l else h j
section SC
variable {w H : Int} {N NH : Nat} {I : Nat → Nat} {F m o T c l F' m' o' T' c' l' F0 m0 o0 T0 c0 l0 : Nat → Int} {h : pz_H}
theorem scNe (hA : scAt w H N NH I F m o T c l h) {i j : Nat} (hi : i < 8) (hj : j < 8) (hn : i ≠ j) : I i ≠ I j := fun e => hn (hA.2 i j hi hj e)
theorem scPut_other {j : Nat} (hj : ∀ i, i < 6 → j ≠ I i) : scPut w H N NH I F m o T c l h j = h j := by
  unfold scPut
  rw [if_neg (hj 0 (by decide)), if_neg (hj 1 (by decide)), if_neg (hj 2 (by decide)), if_neg (hj 3 (by decide)), if_neg (hj 4 (by decide)), if_neg (hj 5 (by decide))]
theorem scAt_put (hA : scAt w H N NH I F m o T c l h) : scAt w H N NH I F' m' o' T' c' l' (scPut w H N NH I F' m' o' T' c' l' h) := by
  refine ⟨⟨?_, ?_, ?_, ?_, ?_, ?_, ?_, ?_⟩, hA.2⟩
  · unfold scPut; rw [if_pos rfl]
  · unfold scPut; rw [if_neg (scNe hA (by decide) (by decide) (by decide)), if_pos rfl]
  · unfold scPut; rw [if_neg (scNe hA (by decide) (by decide) (by decide)), if_neg (scNe hA (by decide) (by decide) (by decide)), if_pos rfl]
  · unfold scPut; rw [if_neg (scNe hA (by decide) (by decide) (by decide)), if_neg (scNe hA (by decide) (by decide) (by decide)), if_neg (scNe hA (by decide) (by decide) (by decide)), if_pos rfl]
  · unfold scPut; rw [if_neg (scNe hA (by decide) (by decide) (by decide)), if_neg (scNe hA (by decide) (by decide) (by decide)), if_neg (scNe hA (by decide) (by decide) (by decide)), if_neg (scNe hA (by decide) (by decide) (by decide)), if_pos rfl]
  · unfold scPut; rw [if_neg (scNe hA (by decide) (by decide) (by decide)), if_neg (scNe hA (by decide) (by decide) (by decide)), if_neg (scNe hA (by decide) (by decide) (by decide)), if_neg (scNe hA (by decide) (by decide) (by decide)), if_neg (scNe hA (by decide) (by decide) (by decide)), if_pos rfl]
  · rw [scPut_other (fun i hi => scNe hA (by decide) (by omega) (by omega))]; exact hA.1.2.2.2.2.2.2.1
  · rw [scPut_other (fun i hi => scNe hA (by decide) (by omega) (by omega))]; exact hA.1.2.2.2.2.2.2.2
theorem scPut_id (hA : scAt w H N NH I F m o T c l h) : scPut w H N NH I F m o T c l h = h := by
  funext j
  unfold scPut
  split
  · next e => rw [e]; exact hA.1.1.symm
  split
  · next e => rw [e]; exact hA.1.2.1.symm
  split
  · next e => rw [e]; exact hA.1.2.2.1.symm
  split
  · next e => rw [e]; exact hA.1.2.2.2.1.symm
  split
  · next e => rw [e]; exact hA.1.2.2.2.2.1.symm
  split
  · next e => rw [e]; exact hA.1.2.2.2.2.2.1.symm
  rfl
theorem scPut_put : scPut w H N NH I F' m' o' T' c' l' (scPut w H N NH I F m o T c l h) = scPut w H N NH I F' m' o' T' c' l' h := by
  funext j
  by_cases e : ∀ i, i < 6 → j ≠ I i
  · rw [scPut_other e, scPut_other e, scPut_other e]
  · unfold scPut
    by_cases e0 : j = I 0
    · simp only [if_pos e0]
    by_cases e1 : j = I 1
    · simp only [if_neg e0, if_pos e1]
    by_cases e2 : j = I 2
    · simp only [if_neg e0, if_neg e1, if_pos e2]
    by_cases e3 : j = I 3
    · simp only [if_neg e0, if_neg e1, if_neg e2, if_pos e3]
    by_cases e4 : j = I 4
    · simp only [if_neg e0, if_neg e1, if_neg e2, if_neg e3, if_pos e4]
    by_cases e5 : j = I 5
    · simp only [if_neg e0, if_neg e1, if_neg e2, if_neg e3, if_neg e4, if_pos e5]
    exact absurd (fun i hi => by
      match i, hi with
      | 0, _ => exact e0
      | 1, _ => exact e1
      | 2, _ => exact e2
      | 3, _ => exact e3
      | 4, _ => exact e4
      | 5, _ => exact e5) e
/-- one cell changed is the whole put anew -/
theorem scUp {a : Nat} {x : pz_C} (hA' : scAt w H N NH I F' m' o' T' c' l' (va_up (scPut w H N NH I F m o T c l h) a x)) (ha : ∃ i, i < 6 ∧ a = I i) : va_up (scPut w H N NH I F m o T c l h) a x = scPut w H N NH I F' m' o' T' c' l' h := by
  rw [← scPut_id hA']
  funext j
  by_cases e : ∀ i, i < 6 → j ≠ I i
  · rw [scPut_other e, scPut_other e]
    obtain ⟨i, hi, rfl⟩ := ha
    rw [va_up_ne _ _ (e i hi), scPut_other e]
  · unfold scPut
    by_cases e0 : j = I 0
    · rw [if_pos e0, if_pos e0]
    by_cases e1 : j = I 1
    · rw [if_neg e0, if_neg e0, if_pos e1, if_pos e1]
    by_cases e2 : j = I 2
    · rw [if_neg e0, if_neg e0, if_neg e1, if_neg e1, if_pos e2, if_pos e2]
    by_cases e3 : j = I 3
    · rw [if_neg e0, if_neg e0, if_neg e1, if_neg e1, if_neg e2, if_neg e2, if_pos e3, if_pos e3]
    by_cases e4 : j = I 4
    · rw [if_neg e0, if_neg e0, if_neg e1, if_neg e1, if_neg e2, if_neg e2, if_neg e3, if_neg e3, if_pos e4, if_pos e4]
    by_cases e5 : j = I 5
    · rw [if_neg e0, if_neg e0, if_neg e1, if_neg e1, if_neg e2, if_neg e2, if_neg e3, if_neg e3, if_neg e4, if_neg e4, if_pos e5, if_pos e5]
    exact absurd (fun i hi => by
      match i, hi with
      | 0, _ => exact e0
      | 1, _ => exact e1
      | 2, _ => exact e2
      | 3, _ => exact e3
      | 4, _ => exact e4
      | 5, _ => exact e5) e
theorem scAt_up (hA : scAt w H N NH I F m o T c l h) {i : Nat} (hi : i < 6) {x : pz_C}
    (h0 : i = 0 → x = pz_o 10 (scObj I F')) (h1 : i = 1 → x = pz_z 0 N m') (h2 : i = 2 → x = pz_z 0 N o') (h3 : i = 3 → x = pz_o 4 (hiObj w I T')) (h4 : i = 4 → x = pz_z 0 NH c') (h5 : i = 5 → x = pz_z 0 30 l')
    (g0 : i ≠ 0 → F' = F) (g1 : i ≠ 1 → m' = m) (g2 : i ≠ 2 → o' = o) (g3 : i ≠ 3 → T' = T) (g4 : i ≠ 4 → c' = c) (g5 : i ≠ 5 → l' = l) : scAt w H N NH I F' m' o' T' c' l' (va_up h (I i) x) := by
  have key : ∀ k, k < 8 → k ≠ i → va_up h (I i) x (I k) = h (I k) := fun k hk hn => va_up_ne _ _ (scNe hA hk (by omega) hn)
  refine ⟨⟨?_, ?_, ?_, ?_, ?_, ?_, ?_, ?_⟩, hA.2⟩
  · by_cases e : i = 0
    · rw [← e, va_up_self]; rw [h0 e]
    · rw [key 0 (by decide) (Ne.symm e), g0 e]; exact hA.1.1
  · by_cases e : i = 1
    · rw [← e, va_up_self]; rw [h1 e]
    · rw [key 1 (by decide) (Ne.symm e), g1 e]; exact hA.1.2.1
  · by_cases e : i = 2
    · rw [← e, va_up_self]; rw [h2 e]
    · rw [key 2 (by decide) (Ne.symm e), g2 e]; exact hA.1.2.2.1
  · by_cases e : i = 3
    · rw [← e, va_up_self]; rw [h3 e]
    · rw [key 3 (by decide) (Ne.symm e), g3 e]; exact hA.1.2.2.2.1
  · by_cases e : i = 4
    · rw [← e, va_up_self]; rw [h4 e]
    · rw [key 4 (by decide) (Ne.symm e), g4 e]; exact hA.1.2.2.2.2.1
  · by_cases e : i = 5
    · rw [← e, va_up_self]; rw [h5 e]
    · rw [key 5 (by decide) (Ne.symm e), g5 e]; exact hA.1.2.2.2.2.2.1
  · rw [key 6 (by decide) (by omega)]; exact hA.1.2.2.2.2.2.2.1
  · rw [key 7 (by decide) (by omega)]; exact hA.1.2.2.2.2.2.2.2
theorem scU0 (hA : scAt w H N NH I F0 m0 o0 T0 c0 l0 h) : va_up (scPut w H N NH I F m o T c l h) (I 0) (pz_o 10 (scObj I F')) = scPut w H N NH I F' m o T c l h :=
  scUp (scAt_up (i := 0) (scAt_put hA) (by decide) (fun _ => rfl) (fun e => by cases e) (fun e => by cases e) (fun e => by cases e) (fun e => by cases e) (fun e => by cases e) (fun e => absurd rfl e) (fun _ => rfl) (fun _ => rfl) (fun _ => rfl) (fun _ => rfl) (fun _ => rfl)) ⟨0, by decide, rfl⟩
theorem scU1 (hA : scAt w H N NH I F0 m0 o0 T0 c0 l0 h) : va_up (scPut w H N NH I F m o T c l h) (I 1) (pz_z 0 N m') = scPut w H N NH I F m' o T c l h :=
  scUp (scAt_up (i := 1) (scAt_put hA) (by decide) (fun e => by cases e) (fun _ => rfl) (fun e => by cases e) (fun e => by cases e) (fun e => by cases e) (fun e => by cases e) (fun _ => rfl) (fun e => absurd rfl e) (fun _ => rfl) (fun _ => rfl) (fun _ => rfl) (fun _ => rfl)) ⟨1, by decide, rfl⟩
theorem scU2 (hA : scAt w H N NH I F0 m0 o0 T0 c0 l0 h) : va_up (scPut w H N NH I F m o T c l h) (I 2) (pz_z 0 N o') = scPut w H N NH I F m o' T c l h :=
  scUp (scAt_up (i := 2) (scAt_put hA) (by decide) (fun e => by cases e) (fun e => by cases e) (fun _ => rfl) (fun e => by cases e) (fun e => by cases e) (fun e => by cases e) (fun _ => rfl) (fun _ => rfl) (fun e => absurd rfl e) (fun _ => rfl) (fun _ => rfl) (fun _ => rfl)) ⟨2, by decide, rfl⟩
theorem scU3 (hA : scAt w H N NH I F0 m0 o0 T0 c0 l0 h) : va_up (scPut w H N NH I F m o T c l h) (I 3) (pz_o 4 (hiObj w I T')) = scPut w H N NH I F m o T' c l h :=
  scUp (scAt_up (i := 3) (scAt_put hA) (by decide) (fun e => by cases e) (fun e => by cases e) (fun e => by cases e) (fun _ => rfl) (fun e => by cases e) (fun e => by cases e) (fun _ => rfl) (fun _ => rfl) (fun _ => rfl) (fun e => absurd rfl e) (fun _ => rfl) (fun _ => rfl)) ⟨3, by decide, rfl⟩
theorem scU4 (hA : scAt w H N NH I F0 m0 o0 T0 c0 l0 h) : va_up (scPut w H N NH I F m o T c l h) (I 4) (pz_z 0 NH c') = scPut w H N NH I F m o T c' l h :=
  scUp (scAt_up (i := 4) (scAt_put hA) (by decide) (fun e => by cases e) (fun e => by cases e) (fun e => by cases e) (fun e => by cases e) (fun _ => rfl) (fun e => by cases e) (fun _ => rfl) (fun _ => rfl) (fun _ => rfl) (fun _ => rfl) (fun e => absurd rfl e) (fun _ => rfl)) ⟨4, by decide, rfl⟩
theorem scU5 (hA : scAt w H N NH I F0 m0 o0 T0 c0 l0 h) : va_up (scPut w H N NH I F m o T c l h) (I 5) (pz_z 0 30 l') = scPut w H N NH I F m o T c l' h :=
  scUp (scAt_up (i := 5) (scAt_put hA) (by decide) (fun e => by cases e) (fun e => by cases e) (fun e => by cases e) (fun e => by cases e) (fun e => by cases e) (fun _ => rfl) (fun _ => rfl) (fun _ => rfl) (fun _ => rfl) (fun _ => rfl) (fun _ => rfl) (fun e => absurd rfl e)) ⟨5, by decide, rfl⟩
/-- which cells are shown: 1 or 2 -/
def sq (F : Nat → Int) : Nat := if F 17 = 0 then 1 else 2
def shG (F m o : Nat → Int) : Nat → Int := if F 17 = 0 then m else o
def shM (F m x : Nat → Int) : Nat → Int := if F 17 = 0 then x else m
def shO (F o x : Nat → Int) : Nat → Int := if F 17 = 0 then o else x
theorem shM_G : shM F m (shG F m o) = m := by unfold shM shG; split <;> rfl
theorem shO_G : shO F o (shG F m o) = o := by unfold shO shG; split <;> rfl
theorem sq_lt : sq F < 3 := by unfold sq; split <;> decide
/-- the Grid that is shown, its cells -/
theorem scSg (hA : scAt w H N NH I F0 m0 o0 T0 c0 l0 h) : h (I (sq F + 5)) = pz_o 3 [.int (zI w), .int (zI H), .ref (I (sq F))] := by
  unfold sq
  split
  · exact hA.1.2.2.2.2.2.2.1
  · exact hA.1.2.2.2.2.2.2.2
theorem scSx {x : Nat → Int} (hA : scAt w H N NH I F0 m0 o0 T0 c0 l0 h) : scPut w H N NH I F' (shM F m x) (shO F o x) T c l h (I (sq F)) = pz_z 0 N x := by
  have h2 := scAt_put (F' := F') (m' := shM F m x) (o' := shO F o x) (T' := T) (c' := c) (l' := l) hA
  unfold sq
  split
  · next e => rw [h2.1.2.1]; unfold shM; rw [if_pos e]
  · next e => rw [h2.1.2.2.1]; unfold shO; rw [if_neg e]
theorem scSne (hA : scAt w H N NH I F0 m0 o0 T0 c0 l0 h) : I (sq F + 5) ≠ I (sq F) := scNe hA (by have := @sq_lt F; omega) (by have := @sq_lt F; omega) (by omega)
theorem scUS {x y : Nat → Int} (hA : scAt w H N NH I F0 m0 o0 T0 c0 l0 h) : va_up (scPut w H N NH I F' (shM F m x) (shO F o x) T c l h) (I (sq F)) (pz_z 0 N y) = scPut w H N NH I F' (shM F m y) (shO F o y) T c l h := by
  unfold sq shM shO
  split
  · exact scU1 hA
  · exact scU2 hA
theorem scPut_idS (hA : scAt w H N NH I F m o T c l h) : scPut w H N NH I F (shM F m (shG F m o)) (shO F o (shG F m o)) T c l h = h := by
  rw [shM_G, shO_G]; exact scPut_id hA
end SC
theorem pw_h {E : pw_E} {Y : pw_Y} {R : Room} {K : pw_K} {uc us pc : Nat} {lv : List (Option Value)} {st : List Value} {h h' : pz_H} {n : Nat} (e : h = h') (k : pw E Y R K uc us pc lv st h' n) : pw E Y R K uc us pc lv st h n := by rw [e]; exact k
/-- sizes -/
def geo (w H : Int) (N NH : Nat) : Prop := (8 ≤ w ∧ w ≤ 40) ∧ (4 ≤ H ∧ H ≤ 16) ∧ (N : Int) = w * H ∧ N ≤ 640 ∧ (NH : Int) = 30 * w
/-- what holds of a Screen's numbers -/
def scOk (w H : Int) (F T : Nat → Int) : Prop := (1 ≤ F 3 ∧ F 3 ≤ w) ∧ (1 ≤ F 4 ∧ F 4 ≤ H) ∧ (0 ≤ F 5 ∧ F 5 < F 3) ∧ (0 ≤ F 6 ∧ F 6 < F 4) ∧ (0 ≤ F 7 ∧ F 7 ≤ 1) ∧ (0 ≤ F 8 ∧ F 8 < 4096) ∧ (0 ≤ F 9 ∧ F 9 < F 3) ∧ (0 ≤ F 10 ∧ F 10 < F 4) ∧ (0 ≤ F 11 ∧ F 11 < 4096) ∧ (0 ≤ F 12 ∧ F 12 ≤ F 13 ∧ F 13 < F 4) ∧ (0 ≤ F 14 ∧ F 14 ≤ 1) ∧ (0 ≤ F 15 ∧ F 15 ≤ 1) ∧ (0 ≤ F 16 ∧ F 16 ≤ 1) ∧ (0 ≤ F 17 ∧ F 17 ≤ 1) ∧ (0 ≤ T 3 ∧ T 3 < 30) ∧ (0 ≤ T 4 ∧ T 4 ≤ 30)
/-- what Screen's methods do to its numbers -/
def sMove (F : Nat → Int) (a b : Int) : Nat → Int := va_up (va_up (va_up F 5 (max 0 (min (F 3 - 1) a))) 6 (max 0 (min (F 4 - 1) b))) 7 0
def sSave (F : Nat → Int) : Nat → Int := va_up (va_up (va_up F 9 (F 5)) 10 (F 6)) 11 (F 8)
theorem scU354 {w H : Int} {N NH : Nat} {I : Nat → Nat} {F m o T c l T' c' l' F0 m0 o0 T0 c0 l0 : Nat → Int} {h : pz_H} (hA : scAt w H N NH I F0 m0 o0 T0 c0 l0 h) : va_up (va_up (va_up (scPut w H N NH I F m o T c l h) (I 3) (pz_o 4 (hiObj w I T'))) (I 5) (pz_z 0 30 l')) (I 4) (pz_z 0 NH c') = scPut w H N NH I F m o T' c' l' h := by
  rw [scU3 hA, scU5 hA, scU4 hA]
/-- rows of the REGION go up, down -/
def sRaise (w H bot cols k v : Int) : Nat → Int → (Nat → Int) → Nat → Int
  | 0, _, f => f
  | j + 1, r, f => sRaise w H bot cols k v j (r + 1) (if r + k ≤ bot then gmoveRow w H (r + k) r f else gfill w H r 0 cols v f)
def sLower (w H a cols k v : Int) : Nat → Int → (Nat → Int) → Nat → Int
  | 0, _, f => f
  | j + 1, r, f => sLower w H a cols k v j (r + (-1)) (if a ≤ r - k then gmoveRow w H (r - k) r f else gfill w H r 0 cols v f)
/-- a row goes to the HISTORY -/
def hT (T : Nat → Int) : Nat → Int := va_up (va_up T 3 (if T 4 < 30 then T 3 else (T 3 + 1) % 30)) 4 (if T 4 < 30 then T 4 + 1 else T 4)
def hL (T l : Nat → Int) (k : Int) : Nat → Int := va_up l ((T 3 + T 4) % 30).toNat k
def hC (w H : Int) (NH : Nat) (T c : Nat → Int) (row k : Int) (f : Nat → Int) : Nat → Int := ggive w H row k ((T 3 + T 4) % 30 * w) NH f c
def sHist (w H : Int) (NH : Nat) (k : Int) (f : Nat → Int) : Nat → Int → ((Nat → Int) × (Nat → Int) × (Nat → Int)) → (Nat → Int) × (Nat → Int) × (Nat → Int)
  | 0, _, p => p
  | j + 1, i, p => sHist w H NH k f j (i + 1) (hT p.1, hC w H NH p.1 p.2.1 i k f, hL p.1 p.2.2 k)
def hOk (T : Nat → Int) : Prop := (0 ≤ T 3 ∧ T 3 < 30) ∧ (0 ≤ T 4 ∧ T 4 ≤ 30)
theorem hT_ok {T : Nat → Int} (hh : hOk T) : hOk (hT T) := by
  obtain ⟨h3, h4⟩ := hh
  unfold hOk hT
  simp only [va_up]
  simp
  by_cases e : T 4 < 30
  · simp only [if_pos e]; omega
  · simp only [if_neg e]; omega
theorem sHist_ok {w H k : Int} {NH : Nat} {f : Nat → Int} : ∀ (j : Nat) (i : Int) (p : (Nat → Int) × (Nat → Int) × (Nat → Int)), hOk p.1 → hOk (sHist w H NH k f j i p).1
  | 0, _, _, hh => hh
  | j + 1, i, p, hh => sHist_ok j (i + 1) _ (hT_ok hh)
