/-! ===== PaneHouse as a whole: its cells from the id B on, in the order in which they were made ===== -/
def pnI (b : Nat) (i : Nat) : Nat := match i with
  | 0 => b + 3
  | 1 => b + 5
  | 2 => b + 7
  | 3 => b + 8
  | 4 => b + 10
  | 5 => b + 9
  | 6 => b + 4
  | _ => b + 6
def pnJ (b : Nat) (i : Nat) : Nat := match i with
  | 0 => b + 11
  | _ => b + 12
theorem pnI_in {b i : Nat} : b + 3 ≤ pnI b i ∧ pnI b i ≤ b + 10 := by
  match i with
  | 0 => show b + 3 ≤ b + 3 ∧ b + 3 ≤ b + 10; omega
  | 1 => show b + 3 ≤ b + 5 ∧ b + 5 ≤ b + 10; omega
  | 2 => show b + 3 ≤ b + 7 ∧ b + 7 ≤ b + 10; omega
  | 3 => show b + 3 ≤ b + 8 ∧ b + 8 ≤ b + 10; omega
  | 4 => show b + 3 ≤ b + 10 ∧ b + 10 ≤ b + 10; omega
  | 5 => show b + 3 ≤ b + 9 ∧ b + 9 ≤ b + 10; omega
  | 6 => show b + 3 ≤ b + 4 ∧ b + 4 ≤ b + 10; omega
  | _ + 7 => show b + 3 ≤ b + 6 ∧ b + 6 ≤ b + 10; omega
theorem pnI_ne {b i j : Nat} (h : j < b + 3 ∨ b + 10 < j) : pnI b i ≠ j := by
  have := @pnI_in b i
  omega
/-- a pane: its Screen, its Reader, COPY mode and OFFSET, its INPUT -/
abbrev pSt : Type := rSt × (Int × Int) × clC
def pnAt (w H : Int) (N NH b : Nat) (x : pSt) (h : pz_H) : Prop := rAt w H N NH (pnI b) (pnJ b) x.1.1 x.1.2.1 x.1.2.2 h ∧ h b = pz_o 7 [.ref (b + 3), .ref (b + 11), .ref (b + 1), .int (zI x.2.1.1), .int (zI x.2.1.2)] ∧ h (b + 1) = pz_o 11 [.ref (b + 2), .int (zI x.2.2.2)] ∧ h (b + 2) = pz_z 0 64 x.2.2.1
section PN
variable {w H : Int} {N NH b : Nat} {x x' : pSt} {h h' : pz_H}
theorem rAt_of {I J : Nat → Nat} {s : zSt} {R q : Nat → Int} (hA : rAt w H N NH I J s R q h) (e : ∀ i, i < 8 → h' (I i) = h (I i)) (e0 : h' (J 0) = h (J 0)) (e1 : h' (J 1) = h (J 1)) : rAt w H N NH I J s R q h' :=
  ⟨zAt_of hA.1 e, e0.trans hA.2.1, e1.trans hA.2.2.1, hA.2.2.2⟩
theorem pnAt_of (hA : pnAt w H N NH b x h) (e : ∀ a, b ≤ a → a ≤ b + 12 → h' a = h a) : pnAt w H N NH b x h' :=
  ⟨rAt_of hA.1 (fun i _ => e _ (by have := @pnI_in b i; omega) (by have := @pnI_in b i; omega)) (e _ (by show b ≤ b + 11; omega) (by show b + 11 ≤ b + 12; omega)) (e _ (by show b ≤ b + 12; omega) (by show b + 12 ≤ b + 12; omega)), (e _ (by omega) (by omega)).trans hA.2.1, (e _ (by omega) (by omega)).trans hA.2.2.1, (e _ (by omega) (by omega)).trans hA.2.2.2⟩
/-- a Reader's method has changed the pane -/
theorem pnAt_r {s : zSt} {R q : Nat → Int} (hA : pnAt w H N NH b x h) : pnAt w H N NH b ((s, R, q), x.2) (rP w H N NH (pnI b) (pnJ b) s R q h) :=
  ⟨rAt_put hA.1, (rP_other (fun i _ => pnI_ne (by omega)) (by show b + 11 ≠ b; omega) (by show b + 12 ≠ b; omega)).trans hA.2.1, (rP_other (fun i _ => pnI_ne (by omega)) (by show b + 11 ≠ b + 1; omega) (by show b + 12 ≠ b + 1; omega)).trans hA.2.2.1, (rP_other (fun i _ => pnI_ne (by omega)) (by show b + 11 ≠ b + 2; omega) (by show b + 12 ≠ b + 2; omega)).trans hA.2.2.2⟩
theorem rP_out {s : zSt} {R q : Nat → Int} {a : Nat} (ha : a < b ∨ b + 12 < a) : rP w H N NH (pnI b) (pnJ b) s R q h a = h a :=
  rP_other (fun i _ => pnI_ne (by omega)) (by show b + 11 ≠ a; omega) (by show b + 12 ≠ a; omega)
/-- a Screen's method has changed the pane -/
theorem pnAt_z {s : zSt} (hA : pnAt w H N NH b x h) : pnAt w H N NH b ((s, x.1.2), x.2) (zP w H N NH (pnI b) s h) := by
  rw [zP_as hA.1]
  exact pnAt_r hA
theorem zP_out {s : zSt} {a : Nat} (ha : a < b ∨ b + 12 < a) : zP w H N NH (pnI b) s h a = h a := zP_other (fun i _ => Ne.symm (pnI_ne (by omega)))
/-- COPY mode and OFFSET have changed -/
theorem pnAt_c {cm of : Int} (hA : pnAt w H N NH b x h) : pnAt w H N NH b (x.1, (cm, of), x.2.2) (va_up h b (pz_o 7 [.ref (b + 3), .ref (b + 11), .ref (b + 1), .int (zI cm), .int (zI of)])) :=
  ⟨rAt_up hA.1 (fun i _ => pnI_ne (by omega)) (by show b + 11 ≠ b; omega) (by show b + 12 ≠ b; omega), va_up_self _ _ _, (va_up_ne _ _ (by omega)).trans hA.2.2.1, (va_up_ne _ _ (by omega)).trans hA.2.2.2⟩
/-- INPUT has changed -/
theorem pnAt_t {c : clC} (hA : pnAt w H N NH b x h) : pnAt w H N NH b (x.1, x.2.1, c) (tyP (b + 1) (b + 2) c h) :=
  ⟨rAt_up (rAt_up hA.1 (fun i _ => pnI_ne (by omega)) (by show b + 11 ≠ b + 2; omega) (by show b + 12 ≠ b + 2; omega)) (fun i _ => pnI_ne (by omega)) (by show b + 11 ≠ b + 1; omega) (by show b + 12 ≠ b + 1; omega), (tyP_o (by omega) (by omega)).trans hA.2.1, tyP_ty, tyP_la (by omega)⟩
end PN
/-! the state: the panes; D, P, root and leaves; the outer screen; picture, line and what is copied; FOCUS and PREFIX -/
abbrev hS : Type := (Nat → pSt) × ((Nat → Bool) × (Nat → ptC) × Nat × (Nat → Option Nat)) × (oPr × (Nat → Int)) × ((Nat → Int) × (Nat → Int) × clC) × (Int × Int)
abbrev hX (s : hS) : Nat → pSt := s.1
abbrev hD (s : hS) : Nat → Bool := s.2.1.1
abbrev hP (s : hS) : Nat → ptC := s.2.1.2.1
abbrev hRt (s : hS) : Nat := s.2.1.2.2.1
abbrev hLv (s : hS) : Nat → Option Nat := s.2.1.2.2.2
abbrev hOp (s : hS) : oPr := s.2.2.1.1
abbrev hSh (s : hS) : Nat → Int := s.2.2.1.2
abbrev hPic (s : hS) : Nat → Int := s.2.2.2.1.1
abbrev hLin (s : hS) : Nat → Int := s.2.2.2.1.2.1
abbrev hClp (s : hS) : clC := s.2.2.2.1.2.2
abbrev hFoc (s : hS) : Int := s.2.2.2.2.1
abbrev hPre (s : hS) : Int := s.2.2.2.2.2
def sX (k : Nat) (x : pSt) (s : hS) : hS := (va_up s.1 k x, s.2)
def sLay (D : Nat → Bool) (P : Nat → ptC) (rt : Nat) (lv : Nat → Option Nat) (s : hS) : hS := (s.1, (D, P, rt, lv), s.2.2)
def sOut (p : oPr) (sh : Nat → Int) (s : hS) : hS := (s.1, s.2.1, (p, sh), s.2.2.2)
def sPic (f : Nat → Int) (s : hS) : hS := (s.1, s.2.1, s.2.2.1, (f, s.2.2.2.1.2), s.2.2.2.2)
def sLin (l : Nat → Int) (s : hS) : hS := (s.1, s.2.1, s.2.2.1, (s.2.2.2.1.1, l, s.2.2.2.1.2.2), s.2.2.2.2)
def sClp (c : clC) (s : hS) : hS := (s.1, s.2.1, s.2.2.1, (s.2.2.2.1.1, s.2.2.2.1.2.1, c), s.2.2.2.2)
def sFoc (i : Int) (s : hS) : hS := (s.1, s.2.1, s.2.2.1, s.2.2.2.1, (i, s.2.2.2.2.2))
def sPre (i : Int) (s : hS) : hS := (s.1, s.2.1, s.2.2.1, s.2.2.2.1, (s.2.2.2.2.1, i))
def hPv (B i : Nat) : Option Nat := if i < 8 then some (B + 3 + 13 * i) else none
theorem hPv_s {B : Nat} {i : Int} (hi : 0 ≤ i ∧ i < 8) : hPv B i.toNat = some (B + 3 + 13 * i.toNat) := if_pos (by omega)
def hZ (B i : Nat) : Nat := match i with
  | 0 => B + 110
  | 1 => B + 111
  | _ => B + 112
def hObj (w H : Int) (B : Nat) (csz foc pre : Int) : pz_C := pz_o 12 (hoL (B + 1) (B + 107) (B + 110) (B + 113) (B + 114) (B + 2) w H csz foc pre)
/-- the class's sizes -/
def geoH (w H : Int) (N NH NB NL : Nat) : Prop := geo w H N NH ∧ (NB : Int) = w * H * 17 + (H + 1) * 8 + 6 ∧ (NL : Int) = w
def hAt (w H : Int) (N NH NB NL B : Nat) (s : hS) (h : pz_H) : Prop :=
  h B = hObj w H B (hClp s).2 (hFoc s) (hPre s) ∧ h (B + 1) = pz_r 3 8 (hPv B) ∧ h (B + 2) = pz_z 0 400 (hClp s).1
  ∧ (∀ k, k < 8 → pnAt w H N NH (B + 3 + 13 * k) (hX s k) h) ∧ h (B + 107) = pz_o 5 [.ref (B + 108), .ref (hRt s)] ∧ h (B + 108) = pz_r 4 8 (hLv s)
  ∧ oAt w N NB (hZ B) (hOp s) (hSh s) h ∧ h (B + 113) = pz_z 0 N (hPic s) ∧ h (B + 114) = pz_z 0 NL (hLin s)
  ∧ (∀ a, hD s a = true → h a = pz_o 8 (ptL (hP s a))) ∧ ∀ a, hD s a = true → a = B + 109 ∨ B + 115 ≤ a
/-- nothing outside has changed -/
def hFr (B n : Nat) (D : Nat → Bool) (h h' : pz_H) : Prop := ∀ a, a < n → (a < B ∨ B + 115 ≤ a) → ¬ D a = true → h' a = h a
section HO
variable {w H : Int} {N NH NB NL B n : Nat} {s : hS} {h h1 h2 : pz_H} {D : Nat → Bool}
theorem hFr_rf : hFr B n D h h := fun _ _ _ _ => rfl
theorem hFr_tr (e1 : hFr B n D h h1) (e2 : hFr B n D h1 h2) : hFr B n D h h2 := fun a h0 h3 h4 => (e2 a h0 h3 h4).trans (e1 a h0 h3 h4)
theorem hFr_in {lo hi : Nat} (e : ∀ a, a < lo ∨ hi < a → h1 a = h a) (k1 : B ≤ lo) (k2 : hi < B + 115) : hFr B n D h h1 := fun a _ h3 _ => e a (by omega)
theorem hA_pn (hA : hAt w H N NH NB NL B s h) {k : Nat} (hk : k < 8) : pnAt w H N NH (B + 3 + 13 * k) (hX s k) h := hA.2.2.2.1 k hk
theorem oAt_of {K : Nat → Nat} {p : oPr} {sh : Nat → Int} (hA : oAt w N NB K p sh h) (e0 : h1 (K 0) = h (K 0)) (e1 : h1 (K 1) = h (K 1)) (e2 : h1 (K 2) = h (K 2)) : oAt w N NB K p sh h1 := ⟨e0.trans hA.1, e1.trans hA.2.1, e2.trans hA.2.2.1, hA.2.2.2⟩
/-- a pane has changed -/
theorem hAt_X {k : Nat} {x : pSt} (hA : hAt w H N NH NB NL B s h) (hk : k < 8) (hp : pnAt w H N NH (B + 3 + 13 * k) x h1) (e : ∀ a, a < B + 3 + 13 * k ∨ B + 3 + 13 * k + 12 < a → h1 a = h a) : hAt w H N NH NB NL B (sX k x s) h1 := by
  obtain ⟨a1, a2, a3, a4, a5, a6, a7, a8, a9, a10, a11⟩ := hA
  refine ⟨(e _ (by omega)).trans a1, (e _ (by omega)).trans a2, (e _ (by omega)).trans a3, fun j hj => ?_, (e _ (by omega)).trans a5, (e _ (by omega)).trans a6, oAt_of a7 (e _ (by show B + 110 < _ ∨ _ < B + 110; omega)) (e _ (by show B + 111 < _ ∨ _ < B + 111; omega)) (e _ (by show B + 112 < _ ∨ _ < B + 112; omega)), (e _ (by omega)).trans a8, (e _ (by omega)).trans a9, fun a ha => (e _ (by have := a11 a ha; omega)).trans (a10 a ha), a11⟩
  show pnAt w H N NH (B + 3 + 13 * j) (va_up s.1 k x j) h1
  by_cases ej : j = k
  · subst ej; rw [va_up_self]; exact hp
  · rw [va_up_ne _ _ ej]; exact pnAt_of (a4 j hj) (fun a h3 h4 => e a (by omega))
/-- the object itself has changed: what is copied, FOCUS, PREFIX -/
theorem hAt_O {c2 i pr : Int} (hA : hAt w H N NH NB NL B s h) : hAt w H N NH NB NL B (s.1, s.2.1, s.2.2.1, (s.2.2.2.1.1, s.2.2.2.1.2.1, (hClp s).1, c2), (i, pr)) (va_up h B (hObj w H B c2 i pr)) := by
  obtain ⟨a1, a2, a3, a4, a5, a6, a7, a8, a9, a10, a11⟩ := hA
  have e : ∀ a, a ≠ B → va_up h B (hObj w H B c2 i pr) a = h a := fun a ha => va_up_ne _ _ ha
  exact ⟨va_up_self _ _ _, (e _ (by omega)).trans a2, (e _ (by omega)).trans a3, fun j hj => pnAt_of (a4 j hj) (fun a h3 h4 => e a (by omega)), (e _ (by omega)).trans a5, (e _ (by omega)).trans a6, oAt_of a7 (e _ (by show B + 110 ≠ B; omega)) (e _ (by show B + 111 ≠ B; omega)) (e _ (by show B + 112 ≠ B; omega)), (e _ (by omega)).trans a8, (e _ (by omega)).trans a9, fun a ha => (e _ (by have := a11 a ha; omega)).trans (a10 a ha), a11⟩
theorem hAt_foc {i : Int} (hA : hAt w H N NH NB NL B s h) : hAt w H N NH NB NL B (sFoc i s) (va_up h B (hObj w H B (hClp s).2 i (hPre s))) := hAt_O hA
theorem hAt_pre {i : Int} (hA : hAt w H N NH NB NL B s h) : hAt w H N NH NB NL B (sPre i s) (va_up h B (hObj w H B (hClp s).2 (hFoc s) i)) := hAt_O hA
theorem hAt_csz {i : Int} (hA : hAt w H N NH NB NL B s h) : hAt w H N NH NB NL B (sClp ((hClp s).1, i) s) (va_up h B (hObj w H B i (hFoc s) (hPre s))) := hAt_O hA
theorem hAt_clip {c : clC} (hA : hAt w H N NH NB NL B s h) : hAt w H N NH NB NL B (sClp c s) (clP B (B + 1) (B + 107) (B + 110) (B + 113) (B + 114) (B + 2) w H (hFoc s) (hPre s) c h) := by
  obtain ⟨a1, a2, a3, a4, a5, a6, a7, a8, a9, a10, a11⟩ := hA
  have e : ∀ a, a ≠ B → a ≠ B + 2 → clP B (B + 1) (B + 107) (B + 110) (B + 113) (B + 114) (B + 2) w H (hFoc s) (hPre s) c h a = h a := fun a h3 h4 => clP_o h3 h4
  exact ⟨clP_ho, (e _ (by omega) (by omega)).trans a2, clP_cl (by omega), fun j hj => pnAt_of (a4 j hj) (fun a h3 h4 => e a (by omega) (by omega)), (e _ (by omega) (by omega)).trans a5, (e _ (by omega) (by omega)).trans a6, oAt_of a7 (e _ (by show B + 110 ≠ B; omega) (by show B + 110 ≠ B + 2; omega)) (e _ (by show B + 111 ≠ B; omega) (by show B + 111 ≠ B + 2; omega)) (e _ (by show B + 112 ≠ B; omega) (by show B + 112 ≠ B + 2; omega)), (e _ (by omega) (by omega)).trans a8, (e _ (by omega) (by omega)).trans a9, fun a ha => (e _ (by have := a11 a ha; omega) (by have := a11 a ha; omega)).trans (a10 a ha), a11⟩
/-- the picture, the line -/
theorem hAt_pic {f : Nat → Int} (hA : hAt w H N NH NB NL B s h) : hAt w H N NH NB NL B (sPic f s) (va_up h (B + 113) (pz_z 0 N f)) := by
  obtain ⟨a1, a2, a3, a4, a5, a6, a7, a8, a9, a10, a11⟩ := hA
  have e : ∀ a, a ≠ B + 113 → va_up h (B + 113) (pz_z 0 N f) a = h a := fun a ha => va_up_ne _ _ ha
  exact ⟨(e _ (by omega)).trans a1, (e _ (by omega)).trans a2, (e _ (by omega)).trans a3, fun j hj => pnAt_of (a4 j hj) (fun a h3 h4 => e a (by omega)), (e _ (by omega)).trans a5, (e _ (by omega)).trans a6, oAt_of a7 (e _ (by show B + 110 ≠ B + 113; omega)) (e _ (by show B + 111 ≠ B + 113; omega)) (e _ (by show B + 112 ≠ B + 113; omega)), va_up_self _ _ _, (e _ (by omega)).trans a9, fun a ha => (e _ (by have := a11 a ha; omega)).trans (a10 a ha), a11⟩
theorem hAt_lin {f : Nat → Int} (hA : hAt w H N NH NB NL B s h) : hAt w H N NH NB NL B (sLin f s) (va_up h (B + 114) (pz_z 0 NL f)) := by
  obtain ⟨a1, a2, a3, a4, a5, a6, a7, a8, a9, a10, a11⟩ := hA
  have e : ∀ a, a ≠ B + 114 → va_up h (B + 114) (pz_z 0 NL f) a = h a := fun a ha => va_up_ne _ _ ha
  exact ⟨(e _ (by omega)).trans a1, (e _ (by omega)).trans a2, (e _ (by omega)).trans a3, fun j hj => pnAt_of (a4 j hj) (fun a h3 h4 => e a (by omega)), (e _ (by omega)).trans a5, (e _ (by omega)).trans a6, oAt_of a7 (e _ (by show B + 110 ≠ B + 114; omega)) (e _ (by show B + 111 ≠ B + 114; omega)) (e _ (by show B + 112 ≠ B + 114; omega)), (e _ (by omega)).trans a8, va_up_self _ _ _, fun a ha => (e _ (by have := a11 a ha; omega)).trans (a10 a ha), a11⟩
theorem hZ_in {i : Nat} : B + 110 ≤ hZ B i ∧ hZ B i ≤ B + 112 := by
  match i with
  | 0 => show B + 110 ≤ B + 110 ∧ B + 110 ≤ B + 112; omega
  | 1 => show B + 110 ≤ B + 111 ∧ B + 111 ≤ B + 112; omega
  | _ + 2 => show B + 110 ≤ B + 112 ∧ B + 112 ≤ B + 112; omega
theorem oP_out {p : oPr} {sh : Nat → Int} {a : Nat} (ha : a < B + 110 ∨ B + 112 < a) : oP w N NB (hZ B) p sh h a = h a := by
  unfold oP
  rw [if_neg (by show ¬ a = B + 110; omega), if_neg (by show ¬ a = B + 111; omega), if_neg (by show ¬ a = B + 112; omega)]
theorem hAt_out {p : oPr} {sh : Nat → Int} (hA : hAt w H N NH NB NL B s h) : hAt w H N NH NB NL B (sOut p sh s) (oP w N NB (hZ B) p sh h) := by
  obtain ⟨a1, a2, a3, a4, a5, a6, a7, a8, a9, a10, a11⟩ := hA
  have e : ∀ a, a < B + 110 ∨ B + 112 < a → oP w N NB (hZ B) p sh h a = h a := fun a ha => oP_out ha
  exact ⟨(e _ (by omega)).trans a1, (e _ (by omega)).trans a2, (e _ (by omega)).trans a3, fun j hj => pnAt_of (a4 j hj) (fun a h3 h4 => e a (by omega)), (e _ (by omega)).trans a5, (e _ (by omega)).trans a6, oAt_put a7, (e _ (by omega)).trans a8, (e _ (by omega)).trans a9, fun a ha => (e _ (by have := a11 a ha; omega)).trans (a10 a ha), a11⟩
theorem ptPut_id {D : Nat → Bool} {P : Nat → ptC} (e : ∀ a, D a = true → h a = pz_o 8 (ptL (P a))) : ptPut D P h = h := by
  funext a
  unfold ptPut
  split
  · next c => exact (e a c).symm
  · rfl
theorem hA_pt (hA : hAt w H N NH NB NL B s h) : ptPut (hD s) (hP s) h = h := ptPut_id hA.2.2.2.2.2.2.2.2.2.1
/-- the layout has changed -/
theorem hAt_lay {D : Nat → Bool} {P : Nat → ptC} {rt : Nat} {lv : Nat → Option Nat} (hA : hAt w H N NH NB NL B s h) (hD' : ∀ a, D a = true → a = B + 109 ∨ B + 115 ≤ a) (h5 : h1 (B + 107) = pz_o 5 [.ref (B + 108), .ref rt]) (h6 : h1 (B + 108) = pz_r 4 8 lv) (h10 : ∀ a, D a = true → h1 a = pz_o 8 (ptL (P a))) (e : ∀ a, a < B + 107 ∨ (B + 110 ≤ a ∧ a < B + 115) → h1 a = h a) : hAt w H N NH NB NL B (sLay D P rt lv s) h1 := by
  obtain ⟨a1, a2, a3, a4, a5, a6, a7, a8, a9, a10, a11⟩ := hA
  exact ⟨(e _ (by omega)).trans a1, (e _ (by omega)).trans a2, (e _ (by omega)).trans a3, fun j hj => pnAt_of (a4 j hj) (fun a h3 h4 => e a (by omega)), h5, h6, oAt_of a7 (e _ (by right; show B + 110 ≤ B + 110 ∧ B + 110 < B + 115; omega)) (e _ (by right; show B + 110 ≤ B + 111 ∧ B + 111 < B + 115; omega)) (e _ (by right; show B + 110 ≤ B + 112 ∧ B + 112 < B + 115; omega)), (e _ (by omega)).trans a8, (e _ (by omega)).trans a9, h10, hD'⟩
end HO
theorem sX_sX {k : Nat} {x y : pSt} {s : hS} : sX k y (sX k x s) = sX k y s := by
  unfold sX
  rw [show va_up (va_up s.1 k x, s.2).1 k y = va_up s.1 k y from bx_uu _ _ _ _]
theorem sX_id {k : Nat} {s : hS} : sX k (hX s k) s = s := by
  unfold sX
  rw [show va_up s.1 k (hX s k) = s.1 from by
    funext j
    by_cases e : j = k
    · subst e; rw [va_up_self]
    · rw [va_up_ne _ _ e]]
/-- byte i of a long -/
def fdB (v : Int64) (i : Int) : Int := ((v >>> ((zI (8 * i)).toInt64 &&& 63)).toInt32 &&& zI 255).toInt
theorem fdB_z {v : Int64} {i : Int} : (v >>> ((zI (8 * i)).toInt64 &&& 63)).toInt32 &&& zI 255 = zI (fdB v i) := by
  unfold fdB
  exact zI_of _
theorem fdB_b {v : Int64} {i : Int} : 0 ≤ fdB v i ∧ fdB v i ≤ 255 := by
  unfold fdB
  generalize (v >>> ((zI (8 * i)).toInt64 &&& 63)).toInt32 = x
  have h1 : (x &&& zI 255).toBitVec.toNat ≤ 255 := by
    rw [show (x &&& zI 255).toBitVec = x.toBitVec &&& (zI 255).toBitVec from rfl, BitVec.toNat_and]
    exact Nat.le_trans Nat.and_le_right (by decide)
  have h2 : (x &&& zI 255).toInt = ((x &&& zI 255).toBitVec.toNat : Int) := BitVec.toInt_eq_toNat_of_lt (by omega)
  omega
def fdRun (w H : Int) (NH : Nat) (v : Int64) : Nat → Int → rSt → rSt
  | 0, _, t => t
  | j + 1, i, t => fdRun w H NH v j (i + 1) (rTake w H NH (fdB v i) t)
