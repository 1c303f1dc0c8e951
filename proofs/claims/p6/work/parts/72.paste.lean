/-! ===== PaneHouse: paste ===== -/
def tyB (b : Int) (c : clC) : clC := (va_up c.1 (c.2 % 64).toNat b, c.2 + 1)
def tyRun (g : Nat → Int) : Nat → Int → clC → clC
  | 0, _, c => c
  | j + 1, i, c => tyRun g j (i + 1) (tyB (g i.toNat) c)
def tyP (ty la : Nat) (c : clC) (h : pz_H) : pz_H := va_up (va_up h la (pz_z 0 64 c.1)) ty (pz_o 11 [.ref la, .int (zI c.2)])
theorem tyP_id {ty la : Nat} {c : clC} {h : pz_H} (hty : h ty = pz_o 11 [.ref la, .int (zI c.2)]) (hla : h la = pz_z 0 64 c.1) : tyP ty la c h = h := by
  unfold tyP
  rw [pz_up_id hla, pz_up_id hty]
theorem tyP_put {ty la : Nat} {c c' : clC} {h : pz_H} : tyP ty la c' (tyP ty la c h) = tyP ty la c' h := by
  funext j
  unfold tyP
  by_cases e : j = ty
  · subst e; rw [va_up_self, va_up_self]
  · rw [va_up_ne _ _ e, va_up_ne _ _ e]
    by_cases e2 : j = la
    · subst e2; rw [va_up_self, va_up_self]
    · rw [va_up_ne _ _ e2, va_up_ne _ _ e, va_up_ne _ _ e2, va_up_ne _ _ e2]
theorem tyP_ty {ty la : Nat} {c : clC} {h : pz_H} : tyP ty la c h ty = pz_o 11 [.ref la, .int (zI c.2)] := va_up_self _ _ _
theorem tyP_la {ty la : Nat} {c : clC} {h : pz_H} (hne : ty ≠ la) : tyP ty la c h la = pz_z 0 64 c.1 := (va_up_ne _ _ (Ne.symm hne)).trans (va_up_self _ _ _)
theorem tyP_o {ty la j : Nat} {c : clC} {h : pz_H} (h1 : j ≠ ty) (h2 : j ≠ la) : tyP ty la c h j = h j := (va_up_ne _ _ h1).trans (va_up_ne _ _ h2)
