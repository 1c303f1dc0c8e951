theorem rP_other {w H : Int} {N NH : Nat} {I J : Nat → Nat} {s : zSt} {R q : Nat → Int} {h : pz_H} {j : Nat} (hI : ∀ i, i < 8 → I i ≠ j) (h0 : J 0 ≠ j) (h1 : J 1 ≠ j) : rP w H N NH I J s R q h j = h j := by
  unfold rP
  rw [if_neg (Ne.symm h0), if_neg (Ne.symm h1)]
  exact zP_other (fun i hi => Ne.symm (hI i hi))
theorem rAt_up {w H : Int} {N NH : Nat} {I J : Nat → Nat} {s : zSt} {R q : Nat → Int} {h : pz_H} {j : Nat} {x : pz_C} (hA : rAt w H N NH I J s R q h) (hI : ∀ i, i < 8 → I i ≠ j) (h0 : J 0 ≠ j) (h1 : J 1 ≠ j) : rAt w H N NH I J s R q (va_up h j x) :=
  ⟨zAt_of hA.1 (fun i hi => va_up_ne _ _ (hI i hi)), (va_up_ne _ _ h0).trans hA.2.1, (va_up_ne _ _ h1).trans hA.2.2.1, hA.2.2.2⟩
theorem zP_as {w H : Int} {N NH : Nat} {I J : Nat → Nat} {s s' : zSt} {R q : Nat → Int} {h : pz_H} (hA : rAt w H N NH I J s R q h) : zP w H N NH I s' h = rP w H N NH I J s' R q h := by
  have e := zP_rP (s := s) (R := R) (q := q) (s' := s') hA
  rw [rP_id hA] at e
  exact e
