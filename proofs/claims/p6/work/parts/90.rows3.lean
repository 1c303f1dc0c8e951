/-! ===== rows for arrays of booleans ===== -/
section PW3
variable {E : pw_E} {Y : pw_Y} {R : Room} {K : pw_K} {uc us pc : Nat} {lv : List (Option Value)} {st : List Value} {h : pz_H} {n : Nat}
theorem pw_zald {t N a : Nat} {i : Int} {g : Nat → Int} (ht : pw_T[t]? = some .boolean) (ho : h a = pz_z t N g) (hi : 0 ≤ i ∧ i < N) (hN : N < 2147483648) (hd : decode Y.2.2.1 pc = .ok (.baload, 1)) (kk : pw E Y R K uc us (pc + 1) lv (.int (zI (g i.toNat)) :: st) h n) : pw E Y R K uc us pc lv (.int (zI i) :: .ref a :: st) h n :=
  fun p e s m args below meth c H locs L ls F d ks => va_zald (D := E.2.1) F.1 F.2.1 (pwF_K F) d.2.2.1.1 a t (pz_ints ks.2.1 ho) (pw_tys_get ht) (zI_in hi.1 hi.2 hN) hd (by
    rw [zI_cl hi.1 (by omega)]
    exact kk p e s m args below meth c H locs L ls F d ⟨trivial, ks.2.2⟩)
theorem zI_nar {v : Int} (hv : 0 ≤ v ∧ v ≤ 1) : vp_nar .boolean (zI v) = zI v := by
  rcases (show v = 0 ∨ v = 1 by omega) with rfl | rfl <;> decide
theorem pw_zast {t N a : Nat} {i v : Int} {g : Nat → Int} (ht : pw_T[t]? = some .boolean) (ho : h a = pz_z t N g) (hi : 0 ≤ i ∧ i < N) (hN : N < 2147483648) (hv : 0 ≤ v ∧ v ≤ 1) (hd : decode Y.2.2.1 pc = .ok (.bastore, 1)) (kk : pw E Y R K uc us (pc + 1) lv st (va_up h a (pz_z t N (va_up g i.toNat v))) n) : pw E Y R K uc us pc lv (.int (zI v) :: .int (zI i) :: .ref a :: st) h n :=
  fun p e s m args below meth c H locs L ls F d ks => va_zast (D := E.2.1) F.1 F.2.1 (pwF_K F) d.2.2.1.1 d.2.2.1.2.1 d.2.2.2.1 a t (pz_ints ks.2.2.1 ho) (pw_tys_get ht) (zI_in hi.1 hi.2 hN) hd (fun H1 locs1 hP hD hS => by
    rw [zI_cl hi.1 (by omega), zI_nar hv, zI_upd] at hP hD
    exact kk p e s m args below meth c H1 locs1 L ls F (pw_d_up d ks.2.2.1 rfl trivial hP hD hS) ks.2.2.2)
theorem pw_newz {t : Nat} {a : Int} (ht : pw_T[t]? = some .boolean) (harr : Cond.arrayClass .boolean ∈ pw_G) (ha : 0 ≤ a ∧ a ≤ 100000000) (hcs : uc + 1 ≤ R.cells) (hss : us + a.toNat ≤ R.slots) (hd : decode Y.2.2.1 pc = .ok (.newarray .boolean, 2)) (kk : pw E Y R K (uc + 1) (us + a.toNat) (pc + 2) lv (.ref n :: st) (va_up h n (pz_z t a.toNat (fun _ => 0))) (n + 1)) : pw E Y R K uc us pc lv (.int (zI a) :: st) h n :=
  fun p e s m args below meth c H locs L ls F d ks => va_newa (D := E.2.1) (atype := .boolean) (a0 := (a.toNat, .inl (fun _ => zI 0))) (N' := a.toNat) (ty := .boolean) F.1 F.2.1 (pwF_w F _ harr) rfl (pwF_K F) d.2.2.1.1 d.2.2.1.2.1 d.2.2.2.1 (pwF_A F) (fun _ => rfl) (fun z => by rw [zI_0, zI_lt (by omega) (by omega)] at z; omega) (zI_cl ha.1 (by omega)) (by show a.toNat * 1 ≤ 536870912; omega) hcs hss hd (fun q cA H1 hK hP hD hS => by
    have e1 : s.vm.findClass ("[" ++ FieldType.boolean.toString) = some (E.2.2.1 t) := ((pwF_K F).2 t _ (pw_tys_get ht)).2
    have e2 : s.vm.findClass ("[" ++ FieldType.boolean.toString) = some cA := (hK.2 (pw_tys E).length (cA, .boolean) (by rw [List.getElem?_append_right (Nat.le_refl _), Nat.sub_self]; rfl)).2
    have e3 : E.2.2.1 t = cA := Option.some.inj (e1.symm.trans e2)
    subst e3
    have d1 := pw_d_push (q := q) (x := pz_z t a.toNat (fun _ => 0)) d rfl trivial hP hD hS
    have k1 := kk p e s m args below meth c H1 locs (va_up L n q) ls F d1 ⟨Nat.lt_succ_self n, pz_ks_le (Nat.le_succ n) ks.2⟩
    rw [pz_st_push ks.2] at k1
    exact k1)
end PW3
