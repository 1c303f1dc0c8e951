/-! ===== borders ===== -/
def brF (step ch : Int) (N : Nat) : Nat → Int → (Nat → Int) → (Nat → Int)
  | 0, _, f => f
  | j + 1, at_, f => if 0 ≤ at_ ∧ at_ < N then brF step ch N j (at_ + step) (va_up f at_.toNat ch) else f
def brCh (x : ptC) : Int := if x.1 4 = 0 then 124 else 45
def brAt (P : Nat → ptC) (w : Int) (a x : Nat) : Int := if (P a).1 4 = 0 then (P a).1 1 * w + (P a).1 0 + (P x).1 2 else ((P a).1 1 + (P x).1 3) * w + (P a).1 0
/-- one border -/
def brD (P : Nat → ptC) (w : Int) (N a : Nat) (f : Nat → Int) : Nat → Int :=
  if ptSplit (P a) then brF (if (P a).1 4 = 0 then w else 1) (brCh (P a)) N (if (P a).1 4 = 0 then (P a).1 3 else (P a).1 2).toNat (brAt P w a (pt0 P a 0)) f else f
/-- all borders below a part -/
def brA (P : Nat → ptC) (w : Int) (N : Nat) : Nat → Nat → (Nat → Int) → (Nat → Int)
  | 0, _, f => f
  | k + 1, a, f => if ptSplit (P a) then brA P w N k (pt0 P a 1) (brA P w N k (pt0 P a 0) (brD P w N a f)) else f
/-- places within bounds -/
def ptPos (P : Nat → ptC) : Prop := ∀ b, (-1000 ≤ (P b).1 0 ∧ (P b).1 0 ≤ 1000) ∧ (-1000 ≤ (P b).1 1 ∧ (P b).1 1 ≤ 1000)
theorem brMul {a w : Int} (ha : -20000 ≤ a ∧ a ≤ 20000) (hw : 0 ≤ w ∧ w ≤ 100) : -2000000 ≤ a * w ∧ a * w ≤ 2000000 := by
  have h1 : (a * w).natAbs ≤ 20000 * 100 := by
    rw [Int.natAbs_mul]
    exact Nat.mul_le_mul (by omega) (by omega)
  omega
theorem brF_s {step ch at_ : Int} {N j : Nat} {f : Nat → Int} (h0 : 0 ≤ at_) (h1 : at_ < N) : brF step ch N (j + 1) at_ f = brF step ch N j (at_ + step) (va_up f at_.toNat ch) := by
  show (if 0 ≤ at_ ∧ at_ < N then _ else _) = _
  rw [if_pos ⟨h0, h1⟩]
theorem brF_n {step ch at_ : Int} {N j : Nat} {f : Nat → Int} (h : ¬ (0 ≤ at_ ∧ at_ < N)) : brF step ch N j at_ f = f := by
  cases j with
  | zero => rfl
  | succ j => show (if 0 ≤ at_ ∧ at_ < N then _ else _) = _; rw [if_neg h]
theorem brD_0 {P : Nat → ptC} {w : Int} {N a x : Nat} {f : Nat → Int} (hs : ptSplit (P a)) (hx : (P a).2 0 = some x) (hd : (P a).1 4 = 0) : brD P w N a f = brF w 124 N ((P a).1 3).toNat ((P a).1 1 * w + (P a).1 0 + (P x).1 2) f := by
  unfold brD brAt brCh
  rw [if_pos hs, if_pos hd, if_pos hd, if_pos hd, if_pos hd, show pt0 P a 0 = x by unfold pt0; rw [hx]; rfl]
theorem brD_1 {P : Nat → ptC} {w : Int} {N a x : Nat} {f : Nat → Int} (hs : ptSplit (P a)) (hx : (P a).2 0 = some x) (hd : ¬ (P a).1 4 = 0) : brD P w N a f = brF 1 45 N ((P a).1 2).toNat (((P a).1 1 + (P x).1 3) * w + (P a).1 0) f := by
  unfold brD brAt brCh
  rw [if_pos hs, if_neg hd, if_neg hd, if_neg hd, if_neg hd, show pt0 P a 0 = x by unfold pt0; rw [hx]; rfl]
theorem brD_n {P : Nat → ptC} {w : Int} {N a : Nat} {f : Nat → Int} (hs : ¬ ptSplit (P a)) : brD P w N a f = f := by
  unfold brD; rw [if_neg hs]
theorem brA_s {P : Nat → ptC} {w : Int} {N k a x y : Nat} {f : Nat → Int} (hs : ptSplit (P a)) (hx : (P a).2 0 = some x) (hy : (P a).2 1 = some y) : brA P w N (k + 1) a f = brA P w N k y (brA P w N k x (brD P w N a f)) := by
  show (if ptSplit (P a) then _ else _) = _
  rw [if_pos hs, show pt0 P a 0 = x by unfold pt0; rw [hx]; rfl, show pt0 P a 1 = y by unfold pt0; rw [hy]; rfl]
theorem brA_n {P : Nat → ptC} {w : Int} {N k a : Nat} {f : Nat → Int} (hs : ¬ ptSplit (P a)) : brA P w N k a f = f := by
  cases k with
  | zero => rfl
  | succ k => show (if ptSplit (P a) then _ else _) = _; rw [if_neg hs]
