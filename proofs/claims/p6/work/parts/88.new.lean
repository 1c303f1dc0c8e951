/-! ===== new PaneHouse ===== -/
def pX0 : pSt := (((fun _ => 0, fun _ => 0, fun _ => 0, fun _ => 0, fun _ => 0, fun _ => 0), fun _ => 0, fun _ => 0), (0, 0), (fun _ => 0, 0))
/-- the cells of a new pane, from b on -/
def pnHp (w H : Int) (N NH b : Nat) (h : pz_H) : pz_H := va_up (va_up (va_up (va_up (va_up (va_up (va_up (va_up (va_up (va_up (va_up (va_up (va_up h (b + 1) (pz_o 11 [.ref (b + 2), .int (zI 0)])) (b + 2) (pz_z 0 64 (fun _ => 0))) (b + 3) (pz_o 10 [.ref (b + 4), .ref (b + 6), .ref (b + 8), .int (zI 0), .int (zI 0), .int (zI 0), .int (zI 0), .int (zI 0), .int (zI 0), .int (zI 0), .int (zI 0), .int (zI 0), .int (zI 0), .int (zI 0), .int (zI 0), .int (zI 0), .int (zI 0), .int (zI 0)])) (b + 4) (pz_o 3 [.int (zI w), .int (zI H), .ref (b + 5)])) (b + 5) (pz_z 0 N (fun _ => 0))) (b + 6) (pz_o 3 [.int (zI w), .int (zI H), .ref (b + 7)])) (b + 7) (pz_z 0 N (fun _ => 0))) (b + 8) (pz_o 4 [.int (zI w), .ref (b + 10), .ref (b + 9), .int (zI 0), .int (zI 0)])) (b + 9) (pz_z 0 30 (fun _ => 0))) (b + 10) (pz_z 0 NH (fun _ => 0))) (b + 11) (pz_o 9 [.ref (b + 3), .ref (b + 12), .int (zI 0), .int (zI 0), .int (zI 0), .int (zI 0)])) (b + 12) (pz_z 0 4 (fun _ => 0))) b (pz_o 7 [.ref (b + 3), .ref (b + 11), .ref (b + 1), .int (zI 0), .int (zI 0)])
theorem pnI_b {b i : Nat} : pnI b i = b + pnI 0 i := by
  match i with
  | 0 => rfl
  | 1 => rfl
  | 2 => rfl
  | 3 => rfl
  | 4 => rfl
  | 5 => rfl
  | 6 => rfl
  | _ + 7 => rfl
theorem pnI_inj0 : ∀ i, i < 8 → ∀ j, j < 8 → pnI 0 i = pnI 0 j → i = j := by decide
theorem pnI_inj {b : Nat} : ∀ i j, i < 8 → j < 8 → pnI b i = pnI b j → i = j := fun i j hi hj e => by
  rw [pnI_b, @pnI_b b j] at e
  exact pnI_inj0 i hi j hj (by omega)
theorem pnHp_out {w H : Int} {N NH b a : Nat} {h : pz_H} (ha : a < b ∨ b + 12 < a) : pnHp w H N NH b h a = h a := by
  unfold pnHp
  repeat rw [va_up_ne _ _ (by omega)]
theorem pn_init {w H : Int} {N NH b : Nat} {h : pz_H} : pnAt w H N NH b pX0 (pnHp w H N NH b h) := by
  refine ⟨⟨⟨⟨?_, ?_, ?_, ?_, ?_, ?_, ?_, ?_⟩, pnI_inj⟩, ?_, ?_, ?_, fun i _ => ⟨pnI_ne (by show b + 11 < b + 3 ∨ b + 10 < b + 11; omega), pnI_ne (by show b + 12 < b + 3 ∨ b + 10 < b + 12; omega)⟩⟩, ?_, ?_, ?_⟩
  · show pnHp w H N NH b h (b + 3) = _
    unfold pnHp
    repeat (first | rw [va_up_self] | rw [va_up_ne _ _ (by omega)])
    rfl
  · show pnHp w H N NH b h (b + 5) = _
    unfold pnHp
    repeat (first | rw [va_up_self] | rw [va_up_ne _ _ (by omega)])
    rfl
  · show pnHp w H N NH b h (b + 7) = _
    unfold pnHp
    repeat (first | rw [va_up_self] | rw [va_up_ne _ _ (by omega)])
    rfl
  · show pnHp w H N NH b h (b + 8) = _
    unfold pnHp
    repeat (first | rw [va_up_self] | rw [va_up_ne _ _ (by omega)])
    rfl
  · show pnHp w H N NH b h (b + 10) = _
    unfold pnHp
    repeat (first | rw [va_up_self] | rw [va_up_ne _ _ (by omega)])
    rfl
  · show pnHp w H N NH b h (b + 9) = _
    unfold pnHp
    repeat (first | rw [va_up_self] | rw [va_up_ne _ _ (by omega)])
    rfl
  · show pnHp w H N NH b h (b + 4) = _
    unfold pnHp
    repeat (first | rw [va_up_self] | rw [va_up_ne _ _ (by omega)])
    rfl
  · show pnHp w H N NH b h (b + 6) = _
    unfold pnHp
    repeat (first | rw [va_up_self] | rw [va_up_ne _ _ (by omega)])
    rfl
  · show pnHp w H N NH b h (b + 11) = _
    unfold pnHp
    repeat (first | rw [va_up_self] | rw [va_up_ne _ _ (by omega)])
    rfl
  · show pnHp w H N NH b h (b + 12) = _
    unfold pnHp
    repeat (first | rw [va_up_self] | rw [va_up_ne _ _ (by omega)])
    rfl
  · show b + 11 ≠ b + 12; omega
  · unfold pnHp
    rw [va_up_self]
    rfl
  · unfold pnHp
    repeat (first | rw [va_up_self] | rw [va_up_ne _ _ (by omega)])
    rfl
  · unfold pnHp
    repeat (first | rw [va_up_self] | rw [va_up_ne _ _ (by omega)])
    rfl
def hPvk (B k i : Nat) : Option Nat := if i < k then some (B + 3 + 13 * i) else none
theorem hPvk_s {B k : Nat} : va_up (hPvk B k) k (some (B + 3 + 13 * k)) = hPvk B (k + 1) := by
  funext i
  unfold hPvk
  by_cases e : i = k
  · subst e; rw [va_up_self, if_pos (by omega)]
  · rw [va_up_ne _ _ e]
    by_cases c : i < k
    · rw [if_pos c, if_pos (by omega)]
    · rw [if_neg c, if_neg (by omega)]
theorem hPvk_0 {B : Nat} : hPvk B 0 = fun _ => none := by
  funext i
  unfold hPvk
  rw [if_neg (by omega)]
/-- k panes are made -/
def ciAt (w H : Int) (N NH B k : Nat) (h0 h : pz_H) : Prop := h B = pz_o 12 [.int (zI w), .int (zI H), .ref (B + 1), .null, .null, .null, .null, .ref (B + 2), .int (zI 0), .int (zI 0), .int (zI 0)] ∧ h (B + 1) = pz_r 3 8 (hPvk B k) ∧ h (B + 2) = pz_z 0 400 (fun _ => 0) ∧ (∀ j, j < k → pnAt w H N NH (B + 3 + 13 * j) pX0 h) ∧ ∀ a, a < B → h a = h0 a
theorem ci_next {w H : Int} {N NH B k : Nat} {h0 h : pz_H} {x : pz_C} (hc : ciAt w H N NH B k h0 h) : ciAt w H N NH B (k + 1) h0 (va_up (pnHp w H N NH (B + 3 + 13 * k) (va_up h (B + 3 + 13 * k) x)) (B + 1) (pz_r 3 8 (va_up (hPvk B k) k (some (B + 3 + 13 * k))))) := by
  obtain ⟨c1, c2, c3, c4, c5⟩ := hc
  have e : ∀ a, a ≠ B + 1 → a < B + 3 + 13 * k ∨ B + 3 + 13 * k + 12 < a → va_up (pnHp w H N NH (B + 3 + 13 * k) (va_up h (B + 3 + 13 * k) x)) (B + 1) (pz_r 3 8 (va_up (hPvk B k) k (some (B + 3 + 13 * k)))) a = h a := fun a h1 h2 => by
    rw [va_up_ne _ _ h1, pnHp_out h2, va_up_ne _ _ (by omega)]
  refine ⟨(e _ (by omega) (by omega)).trans c1, ?_, (e _ (by omega) (by omega)).trans c3, fun j hj => ?_, fun a ha => (e _ (by omega) (by omega)).trans (c5 a ha)⟩
  · rw [va_up_self, hPvk_s]
  · by_cases ej : j = k
    · subst ej
      exact pnAt_of pn_init (fun a h1 h2 => va_up_ne _ _ (by omega))
    · exact pnAt_of (c4 j (by omega)) (fun a h1 h2 => e a (by omega) (by omega))
/-- a new house, before its panes have sizes -/
def hP0 (w H : Int) : ptC := (fun i => if i = 2 then w else if i = 3 then H else 0, fun _ => none)
def hS0 (w H : Int) (N B : Nat) : hS := (fun _ => pX0, (fun a => decide (a = B + 109), fun _ => hP0 w H, B + 109, va_up (fun _ => none) 0 (some (B + 109))), ((fun i => if i = 7 then 1 else 0, fun _ => 0), zfill (fun _ => 0) 0 N 32), (fun _ => 0, fun _ => 0, (fun _ => 0, 0)), (0, 0))
theorem pw_u {E : pw_E} {Y : pw_Y} {R : Room} {K : pw_K} {uc us uc' us' pc : Nat} {lv : List (Option Value)} {st : List Value} {h : pz_H} {n n' : Nat} (e1 : uc = uc') (e2 : us = us') (e3 : n = n') (k : pw E Y R K uc' us' pc lv st h n') : pw E Y R K uc us pc lv st h n := by
  subst e1 e2 e3
  exact k
/-- room of a new house -/
abbrev hSl (N NH NB NL : Nat) : Nat := 408 + (140 + 2 * N + NH) * 8 + 18 + (8 + (N + NB)) + N + NL
