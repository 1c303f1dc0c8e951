
theorem zall {n : Nat} {P : Nat → Prop} (d : ∀ k, Decidable (P k)) (hh : (List.range n).all (fun k => @decide (P k) (d k)) = true) {k : Nat} (hk : k < n) : P k := by
  have h1 := List.all_eq_true.mp hh k (List.mem_range.mpr hk)
  exact of_decide_eq_true h1
set_option maxRecDepth 100000 in
theorem pn_or1 {k : Nat} (hk : k < 4096) : zI (k : Int) ||| zI 1 = zI (((k / 2 * 2 + 1 : Nat)) : Int) := zall (P := fun k => zI (k : Int) ||| zI 1 = zI (((k / 2 * 2 + 1 : Nat)) : Int)) (fun _ => inferInstance) (by decide +kernel) hk
set_option maxRecDepth 100000 in
theorem pn_or2 {k : Nat} (hk : k < 4096) : zI (k : Int) ||| zI 2 = zI (((k / 4 * 4 + 2 + k % 2 : Nat)) : Int) := zall (P := fun k => zI (k : Int) ||| zI 2 = zI (((k / 4 * 4 + 2 + k % 2 : Nat)) : Int)) (fun _ => inferInstance) (by decide +kernel) hk
set_option maxRecDepth 100000 in
theorem pn_or4 {k : Nat} (hk : k < 4096) : zI (k : Int) ||| zI 4 = zI (((k / 8 * 8 + 4 + k % 4 : Nat)) : Int) := zall (P := fun k => zI (k : Int) ||| zI 4 = zI (((k / 8 * 8 + 4 + k % 4 : Nat)) : Int)) (fun _ => inferInstance) (by decide +kernel) hk
set_option maxRecDepth 100000 in
theorem pn_an1 {k : Nat} (hk : k < 4096) : zI (k : Int) &&& zI (-2) = zI (((k / 2 * 2 : Nat)) : Int) := zall (P := fun k => zI (k : Int) &&& zI (-2) = zI (((k / 2 * 2 : Nat)) : Int)) (fun _ => inferInstance) (by decide +kernel) hk
set_option maxRecDepth 100000 in
theorem pn_an2 {k : Nat} (hk : k < 4096) : zI (k : Int) &&& zI (-3) = zI (((k / 4 * 4 + k % 2 : Nat)) : Int) := zall (P := fun k => zI (k : Int) &&& zI (-3) = zI (((k / 4 * 4 + k % 2 : Nat)) : Int)) (fun _ => inferInstance) (by decide +kernel) hk
set_option maxRecDepth 100000 in
theorem pn_an4 {k : Nat} (hk : k < 4096) : zI (k : Int) &&& zI (-5) = zI (((k / 8 * 8 + k % 4 : Nat)) : Int) := zall (P := fun k => zI (k : Int) &&& zI (-5) = zI (((k / 8 * 8 + k % 4 : Nat)) : Int)) (fun _ => inferInstance) (by decide +kernel) hk
set_option maxRecDepth 100000 in
theorem pn_ac {k : Nat} (hk : k < 4096) : zI (k : Int) &&& zI (-241) = zI (((k / 256 * 256 + k % 16 : Nat)) : Int) := zall (P := fun k => zI (k : Int) &&& zI (-241) = zI (((k / 256 * 256 + k % 16 : Nat)) : Int)) (fun _ => inferInstance) (by decide +kernel) hk
set_option maxRecDepth 100000 in
theorem pn_ag {k : Nat} (hk : k < 4096) : zI (k : Int) &&& zI (-3841) = zI (((k % 256 : Nat)) : Int) := zall (P := fun k => zI (k : Int) &&& zI (-3841) = zI (((k % 256 : Nat)) : Int)) (fun _ => inferInstance) (by decide +kernel) hk
theorem pn_s4 {k : Nat} (hk : k < 16) : zI (k : Int) <<< (zI 4 &&& 31) = zI (((k * 16 : Nat)) : Int) := zall (P := fun k => zI (k : Int) <<< (zI 4 &&& 31) = zI (((k * 16 : Nat)) : Int)) (fun _ => inferInstance) (by decide +kernel) hk
theorem pn_s8 {k : Nat} (hk : k < 16) : zI (k : Int) <<< (zI 8 &&& 31) = zI (((k * 256 : Nat)) : Int) := zall (P := fun k => zI (k : Int) <<< (zI 8 &&& 31) = zI (((k * 256 : Nat)) : Int)) (fun _ => inferInstance) (by decide +kernel) hk
set_option maxRecDepth 100000 in
theorem pn_oc {k : Nat} (hk : k < 4096) : zI (((k / 256 * 256 + k % 16 : Nat)) : Int) ||| zI (((k / 16 % 16 * 16 : Nat)) : Int) = zI (k : Int) := zall (P := fun k => zI (((k / 256 * 256 + k % 16 : Nat)) : Int) ||| zI (((k / 16 % 16 * 16 : Nat)) : Int) = zI (k : Int)) (fun _ => inferInstance) (by decide +kernel) hk
set_option maxRecDepth 100000 in
theorem pn_og {k : Nat} (hk : k < 4096) : zI (((k % 256 : Nat)) : Int) ||| zI (((k / 256 * 256 : Nat)) : Int) = zI (k : Int) := zall (P := fun k => zI (((k % 256 : Nat)) : Int) ||| zI (((k / 256 * 256 : Nat)) : Int) = zI (k : Int)) (fun _ => inferInstance) (by decide +kernel) hk
/-- the PEN with another colour, another ground -/
def pCol (p c : Int) : Int := p / 256 * 256 + c * 16 + p % 16
def pGnd (p g : Int) : Int := g * 256 + p % 256
theorem zCol {p c : Int} (hp : 0 ≤ p ∧ p < 4096) (hc : 0 ≤ c ∧ c < 16) : (zI p &&& zI (-241)) ||| (zI c <<< (zI 4 &&& 31)) = zI (pCol p c) := by
  obtain ⟨a, rfl⟩ := Int.eq_ofNat_of_zero_le hp.1
  obtain ⟨b, rfl⟩ := Int.eq_ofNat_of_zero_le hc.1
  rw [pn_ac (by omega), pn_s4 (by omega)]
  have h1 := pn_oc (k := a / 256 * 256 + b * 16 + a % 16) (by omega)
  rw [show (a / 256 * 256 + b * 16 + a % 16) / 256 * 256 + (a / 256 * 256 + b * 16 + a % 16) % 16 = a / 256 * 256 + a % 16 by omega, show (a / 256 * 256 + b * 16 + a % 16) / 16 % 16 * 16 = b * 16 by omega] at h1
  rw [h1]
  unfold pCol
  congr 1
theorem zGnd {p g : Int} (hp : 0 ≤ p ∧ p < 4096) (hg : 0 ≤ g ∧ g < 16) : (zI p &&& zI (-3841)) ||| (zI g <<< (zI 8 &&& 31)) = zI (pGnd p g) := by
  obtain ⟨a, rfl⟩ := Int.eq_ofNat_of_zero_le hp.1
  obtain ⟨b, rfl⟩ := Int.eq_ofNat_of_zero_le hg.1
  rw [pn_ag (by omega), pn_s8 (by omega)]
  have h1 := pn_og (k := b * 256 + a % 256) (by omega)
  rw [show (b * 256 + a % 256) % 256 = a % 256 by omega, show (b * 256 + a % 256) / 256 * 256 = b * 256 by omega] at h1
  rw [h1]
  unfold pGnd
  congr 1
theorem zOr1 {p : Int} (hp : 0 ≤ p ∧ p < 4096) : zI p ||| zI 1 = zI (p / 2 * 2 + 1) := by
  obtain ⟨a, rfl⟩ := Int.eq_ofNat_of_zero_le hp.1
  exact (pn_or1 (by omega)).trans (by congr 1)
theorem zOr2 {p : Int} (hp : 0 ≤ p ∧ p < 4096) : zI p ||| zI 2 = zI (p / 4 * 4 + 2 + p % 2) := by
  obtain ⟨a, rfl⟩ := Int.eq_ofNat_of_zero_le hp.1
  exact (pn_or2 (by omega)).trans (by congr 1)
theorem zOr4 {p : Int} (hp : 0 ≤ p ∧ p < 4096) : zI p ||| zI 4 = zI (p / 8 * 8 + 4 + p % 4) := by
  obtain ⟨a, rfl⟩ := Int.eq_ofNat_of_zero_le hp.1
  exact (pn_or4 (by omega)).trans (by congr 1)
theorem zAn1 {p : Int} (hp : 0 ≤ p ∧ p < 4096) : zI p &&& zI (-2) = zI (p / 2 * 2) := by
  obtain ⟨a, rfl⟩ := Int.eq_ofNat_of_zero_le hp.1
  exact (pn_an1 (by omega)).trans (by congr 1)
theorem zAn2 {p : Int} (hp : 0 ≤ p ∧ p < 4096) : zI p &&& zI (-3) = zI (p / 4 * 4 + p % 2) := by
  obtain ⟨a, rfl⟩ := Int.eq_ofNat_of_zero_le hp.1
  exact (pn_an2 (by omega)).trans (by congr 1)
theorem zAn4 {p : Int} (hp : 0 ≤ p ∧ p < 4096) : zI p &&& zI (-5) = zI (p / 8 * 8 + p % 4) := by
  obtain ⟨a, rfl⟩ := Int.eq_ofNat_of_zero_le hp.1
  exact (pn_an4 (by omega)).trans (by congr 1)
