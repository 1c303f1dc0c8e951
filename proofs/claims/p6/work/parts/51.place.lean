/-! ===== Layout: place and share ===== -/
theorem zI_tdiv {a b : Int} (ha : -2147483648 < a) (ha2 : a < 2147483648) (hb : 0 < b) (hb2 : b < 2147483648) : zI a / zI b = zI (a.tdiv b) := by
  have h1 : a.tdiv b ≤ 2147483647 ∧ -2147483647 ≤ a.tdiv b := by
    have := Int.natAbs_tdiv_le_natAbs a b
    omega
  rw [← Int32.toInt_inj, Int32.toInt_div, zI_toInt (by omega) ha2, zI_toInt (by omega) hb2, zI_toInt (by omega) (by omega), Int.bmod_eq_of_le (by simp; omega) (by simp; omega)]
theorem pw_zidivT {E : pw_E} {Y : pw_Y} {R : Room} {K : pw_K} {uc us pc : Nat} {lv : List (Option Value)} {st : List Value} {h : pz_H} {n : Nat} {a b : Int} (hd : decode Y.2.2.1 pc = .ok (.idiv, 1)) (ha : -2147483648 < a ∧ a < 2147483648) (hb : 0 < b ∧ b < 2147483648) (kk : pw E Y R K uc us (pc + 1) lv (.int (zI (a.tdiv b)) :: st) h n) : pw E Y R K uc us pc lv (.int (zI b) :: .int (zI a) :: st) h n :=
  pw_idiv hd (fun z => by rw [zI_0, zI_eq (by omega) (by omega)] at z; omega) (by rw [zI_tdiv ha.1 ha.2 hb.1 hb.2]; exact kk)
theorem plMul {a b : Int} (ha : -10000 ≤ a ∧ a ≤ 100) (hb : -10000 ≤ b ∧ b ≤ 100) : -2147483648 < (a - 1) * b ∧ (a - 1) * b < 2147483648 := by
  have h1 : ((a - 1) * b).natAbs ≤ 10001 * 10000 := by
    rw [Int.natAbs_mul]
    exact Nat.mul_le_mul (by omega) (by omega)
  omega
theorem plDiv {a b : Int} (ha : -2147483648 < a ∧ a < 2147483648) : -2147483648 < a.tdiv b ∧ a.tdiv b < 2147483648 := by
  have := Int.natAbs_tdiv_le_natAbs a b
  omega
theorem rmC {d1 d2 l : Nat} (h : d1 + 1 ≤ d2) (hl : l ≤ 45) : (rmD d1 0 0).frames + 1 ≤ (rmD d2 0 0).frames ∧ 8 + (l + 11) + (rmD d1 0 0).locals ≤ (rmD d2 0 0).locals := ⟨h, by show 8 + (l + 11) + 64 * d1 ≤ 64 * d2; omega⟩
abbrev plSet (P : Nat → ptC) (a : Nat) (c r w q : Int) : Nat → ptC := ptS (ptS (ptS (ptS P a 0 c) a 1 r) a 2 w) a 3 q
def plKept (b now size : Int) : Int := if b ≤ 1 then 1 else ((now - 1) * size).tdiv (b - 1)
abbrev pt0 (P : Nat → ptC) (a i : Nat) : Nat := ((P a).2 i).getD 0
abbrev ptLn (P : Nat → ptC) (a : Nat) : Int := ptLen (P a) ((P a).1 4)
def plW (sh : Nat → Int → (Nat → ptC) → (Nat → ptC)) (a : Nat) (c r w q : Int) (P : Nat → ptC) : Nat → ptC :=
  if ptSplit (plSet P a c r w q a) then sh a (max 1 (min (ptLn (plSet P a c r w q) a - 2) (plKept (ptLn P a) (ptLn (plSet P a c r w q) a) (ptLen (plSet P a c r w q (pt0 (plSet P a c r w q) a 0)) ((plSet P a c r w q a).1 4))))) (plSet P a c r w q) else plSet P a c r w q
def plShare : Nat → Nat → Int → (Nat → ptC) → (Nat → ptC)
  | 0, _, _, P => P
  | k + 1, a, sz, P => if ptSplit (P a) then (if (P a).1 4 = 0 then (fun P1 : Nat → ptC => plW (plShare k) (pt0 P a 1) ((P1 a).1 0 + (sz + 1)) ((P1 a).1 1) (ptLn P a - 1 - sz) ((P1 a).1 3) P1) (plW (plShare k) (pt0 P a 0) ((P a).1 0) ((P a).1 1) sz ((P a).1 3) P)
      else (fun P1 : Nat → ptC => plW (plShare k) (pt0 P a 1) ((P1 a).1 0) ((P1 a).1 1 + (sz + 1)) ((P1 a).1 2) (ptLn P a - 1 - sz) P1) (plW (plShare k) (pt0 P a 0) ((P a).1 0) ((P a).1 1) ((P a).1 2) sz P)) else P
/-- sizes within bounds -/
def ptBd (L : Int) (P : Nat → ptC) : Prop := 0 ≤ L ∧ ∀ b, (-L ≤ (P b).1 2 ∧ (P b).1 2 ≤ 100) ∧ (-L ≤ (P b).1 3 ∧ (P b).1 3 ≤ 100) ∧ (0 ≤ (P b).1 4 ∧ (P b).1 4 ≤ 1)
def plE : Nat → Int
  | 0 => 0
  | k + 1 => 2 * (2 + plE k)
theorem plE_0 : ∀ k, 0 ≤ plE k
  | 0 => by decide
  | k + 1 => by have := plE_0 k; show 0 ≤ 2 * (2 + plE k); omega
/-- the same links and directions -/
def ptSame (P Q : Nat → ptC) : Prop := ∀ b, (Q b).2 = (P b).2 ∧ (Q b).1 4 = (P b).1 4
theorem ptSame_rf {P : Nat → ptC} : ptSame P P := fun _ => ⟨rfl, rfl⟩
theorem ptSame_tr {P Q R : Nat → ptC} (h1 : ptSame P Q) (h2 : ptSame Q R) : ptSame P R := fun b => ⟨(h2 b).1.trans (h1 b).1, (h2 b).2.trans (h1 b).2⟩
theorem ptSame_S {P : Nat → ptC} {a k : Nat} {v : Int} (hk : k ≠ 4) : ptSame P (ptS P a k v) := fun b => by
  unfold ptS
  by_cases e : b = a
  · subst e; rw [va_up_self]; exact ⟨rfl, va_up_ne _ _ (Ne.symm hk)⟩
  · rw [va_up_ne _ _ e]; exact ⟨rfl, rfl⟩
theorem ptSame_set {P : Nat → ptC} {a : Nat} {c r w q : Int} : ptSame P (plSet P a c r w q) := ptSame_tr (ptSame_tr (ptSame_tr (ptSame_S (by decide)) (ptSame_S (by decide))) (ptSame_S (by decide))) (ptSame_S (by decide))
theorem plW_same {sh : Nat → Int → (Nat → ptC) → (Nat → ptC)} (hs : ∀ a sz P, ptSame P (sh a sz P)) {a : Nat} {c r w q : Int} {P : Nat → ptC} : ptSame P (plW sh a c r w q P) := by
  unfold plW
  split
  · exact ptSame_tr ptSame_set (hs _ _ _)
  · exact ptSame_set
theorem plShare_same : ∀ (k a : Nat) (sz : Int) (P : Nat → ptC), ptSame P (plShare k a sz P)
  | 0, _, _, _ => ptSame_rf
  | k + 1, a, sz, P => by
    unfold plShare
    split
    · split
      · exact ptSame_tr (plW_same (plShare_same k)) (plW_same (plShare_same k))
      · exact ptSame_tr (plW_same (plShare_same k)) (plW_same (plShare_same k))
    · exact ptSame_rf
def szOk (P : Nat → ptC) (a : Nat) (sz : Int) : Prop := 1 ≤ sz ∧ sz ≤ 100 ∧ (sz = 1 ∨ sz ≤ ptLn P a - 2)
theorem ptBd_set {P : Nat → ptC} {L : Int} {a : Nat} {c r w q : Int} (hP : ptBd L P) (hw : -(L + 2) ≤ w ∧ w ≤ 100) (hq : -(L + 2) ≤ q ∧ q ≤ 100) : ptBd (L + 2) (plSet P a c r w q) := ⟨by have := hP.1; omega, fun b => by
  have h := hP.2 b
  unfold plSet ptS
  by_cases e : b = a
  · subst e
    simp only [va_up_self]
    refine ⟨?_, ?_, ?_⟩
    · rw [va_up_ne _ _ (by decide), va_up_self]; exact hw
    · exact hq
    · rw [va_up_ne _ _ (by decide), va_up_ne _ _ (by decide), va_up_ne _ _ (by decide), va_up_ne _ _ (by decide)]; exact h.2.2
  · rw [va_up_ne _ _ e, va_up_ne _ _ e, va_up_ne _ _ e, va_up_ne _ _ e]; omega⟩
theorem ptLn_b {P : Nat → ptC} {L : Int} (hP : ptBd L P) (a : Nat) (dn : Int) : -L ≤ ptLen (P a) dn ∧ ptLen (P a) dn ≤ 100 := by
  have h := hP.2 a
  have h0 := hP.1
  unfold ptLen
  split <;> omega
theorem szOk_max {P : Nat → ptC} {L : Int} {a : Nat} {x : Int} (hP : ptBd L P) : szOk P a (max 1 (min (ptLn P a - 2) x)) := by
  have h := ptLn_b hP a ((P a).1 4)
  unfold szOk
  unfold ptLn
  omega
theorem plW_bd {sh : Nat → Int → (Nat → ptC) → (Nat → ptC)} {L e : Int} (he : 0 ≤ e) (hs : ∀ a sz P, ptBd (L + 2) P → szOk P a sz → ptBd (L + 2 + e) (sh a sz P)) {a : Nat} {c r w q : Int} {P : Nat → ptC} (hP : ptBd L P) (hw : -(L + 2) ≤ w ∧ w ≤ 100) (hq : -(L + 2) ≤ q ∧ q ≤ 100) : ptBd (L + 2 + e) (plW sh a c r w q P) := by
  have h1 := ptBd_set (a := a) (c := c) (r := r) hP hw hq
  unfold plW
  split
  · exact hs _ _ _ h1 (szOk_max h1)
  · exact ⟨by have := h1.1; omega, fun b => by have := h1.2 b; omega⟩
theorem plShare_bd : ∀ (k : Nat) (L : Int) (a : Nat) (sz : Int) (P : Nat → ptC), ptBd L P → szOk P a sz → ptBd (L + plE k) (plShare k a sz P)
  | 0, L, a, sz, P, hP, _ => by show ptBd (L + 0) P; rw [Int.add_zero]; exact hP
  | k + 1, L, a, sz, P, hP, hz => by
    have he := plE_0 k
    have hl := ptLn_b hP a ((P a).1 4)
    have ha := hP.2 a
    have h0 := hP.1
    have hz1 := hz.1
    have hz2 := hz.2.1
    have hz3 := hz.2.2
    have e2 : L + plE (k + 1) = (L + 2 + plE k) + 2 + plE k := by show L + 2 * (2 + plE k) = _; omega
    have ih := plShare_bd k
    rw [e2]
    unfold plShare
    split
    · split
      · have h1 := plW_bd (sh := plShare k) (L := L) he (fun a sz P h1 h2 => ih (L + 2) a sz P h1 h2) (a := pt0 P a 0) (c := (P a).1 0) (r := (P a).1 1) (w := sz) (q := (P a).1 3) hP (by omega) (by omega)
        have h2 := h1.2 a
        exact plW_bd (sh := plShare k) (L := L + 2 + plE k) he (fun a sz P h1 h2 => ih (L + 2 + plE k + 2) a sz P h1 h2) h1 (by simp only [ptLn] at *; omega) (by omega)
      · have h1 := plW_bd (sh := plShare k) (L := L) he (fun a sz P h1 h2 => ih (L + 2) a sz P h1 h2) (a := pt0 P a 0) (c := (P a).1 0) (r := (P a).1 1) (w := (P a).1 2) (q := sz) hP (by omega) (by omega)
        have h2 := h1.2 a
        exact plW_bd (sh := plShare k) (L := L + 2 + plE k) he (fun a sz P h1 h2 => ih (L + 2 + plE k + 2) a sz P h1 h2) h1 (by omega) (by simp only [ptLn] at *; omega)
    · exact ⟨by omega, fun b => by have := hP.2 b; omega⟩
/-- what a part's links name is a part -/
def ptCl (D : Nat → Bool) (P : Nat → ptC) : Prop := ∀ a, D a = true → ∀ i b, (P a).2 i = some b → D b = true
theorem ptCl_same {D : Nat → Bool} {P Q : Nat → ptC} (h : ptCl D P) (hs : ptSame P Q) : ptCl D Q := fun a ha i b e => h a ha i b (by rw [(hs a).1] at e; exact e)
theorem plW_split {sh : Nat → Int → (Nat → ptC) → (Nat → ptC)} {a x : Nat} {c r w q : Int} {P : Nat → ptC} (hs : ptSplit (plSet P a c r w q a)) (hx : (plSet P a c r w q a).2 0 = some x) : plW sh a c r w q P = sh a (max 1 (min (ptLen (plSet P a c r w q a) ((plSet P a c r w q a).1 4) - 2) (if ptLen (P a) ((P a).1 4) ≤ 1 then 1 else ((ptLen (plSet P a c r w q a) ((plSet P a c r w q a).1 4) - 1) * ptLen (plSet P a c r w q x) ((plSet P a c r w q a).1 4)).tdiv (ptLen (P a) ((P a).1 4) - 1)))) (plSet P a c r w q) := by
  unfold plW plKept
  rw [if_pos hs, show pt0 (plSet P a c r w q) a 0 = x by unfold pt0; rw [hx]; rfl]
theorem plW_no {sh : Nat → Int → (Nat → ptC) → (Nat → ptC)} {a : Nat} {c r w q : Int} {P : Nat → ptC} (hs : ¬ ptSplit (plSet P a c r w q a)) : plW sh a c r w q P = plSet P a c r w q := by
  unfold plW
  rw [if_neg hs]
theorem plShare_r {k a x y : Nat} {sz : Int} {P : Nat → ptC} (hs : ptSplit (P a)) (hx : (P a).2 0 = some x) (hy : (P a).2 1 = some y) (hd : (P a).1 4 = 0) : plShare (k + 1) a sz P = (fun P1 : Nat → ptC => plW (plShare k) y ((P1 a).1 0 + (sz + 1)) ((P1 a).1 1) (ptLen (P a) ((P a).1 4) - 1 - sz) ((P1 a).1 3) P1) (plW (plShare k) x ((P a).1 0) ((P a).1 1) sz ((P a).1 3) P) := by
  show (if ptSplit (P a) then _ else _) = _
  rw [if_pos hs, if_pos hd, show pt0 P a 0 = x by unfold pt0; rw [hx]; rfl, show pt0 P a 1 = y by unfold pt0; rw [hy]; rfl]
theorem plShare_d {k a x y : Nat} {sz : Int} {P : Nat → ptC} (hs : ptSplit (P a)) (hx : (P a).2 0 = some x) (hy : (P a).2 1 = some y) (hd : ¬ (P a).1 4 = 0) : plShare (k + 1) a sz P = (fun P1 : Nat → ptC => plW (plShare k) y ((P1 a).1 0) ((P1 a).1 1 + (sz + 1)) ((P1 a).1 2) (ptLen (P a) ((P a).1 4) - 1 - sz) P1) (plW (plShare k) x ((P a).1 0) ((P a).1 1) ((P a).1 2) sz P) := by
  show (if ptSplit (P a) then _ else _) = _
  rw [if_pos hs, if_neg hd, show pt0 P a 0 = x by unfold pt0; rw [hx]; rfl, show pt0 P a 1 = y by unfold pt0; rw [hy]; rfl]
theorem plShare_no {k a : Nat} {sz : Int} {P : Nat → ptC} (hs : ¬ ptSplit (P a)) : plShare (k + 1) a sz P = P := by
  show (if ptSplit (P a) then _ else _) = _
  rw [if_neg hs]
