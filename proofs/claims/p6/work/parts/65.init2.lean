def YX2_init : pw_Y := (RX2, "<init>", cX2_init, 3, none)
theorem ywX2_init : pw_y yX2_init YX2_init 2 := ⟨by decide +kernel, by decide +kernel, by decide +kernel, pw_in 315 (by decide +kernel) (by decide +kernel), pw_in 87 (by decide +kernel) (by decide +kernel)⟩
theorem cwX2_3 : Cond.methodLink RX2 3 objectInit ∈ pw_G := pw_in 316 (by decide +kernel) (by decide +kernel)
theorem naX2_9 : Cond.classLink RX2 9 "PaneHouse$Part" ∈ pw_G := pw_in 317 (by decide +kernel) (by decide +kernel)
theorem dzX5 : (∀ j, j < 8 → defaultValue (tyX5 j) = vp_V [.int (zI (0)), .int (zI (0)), .int (zI (0)), .int (zI (0)), .int (zI (0)), .null, .null, .null] j) ∧ pz_ks 0 [.int (zI (0)), .int (zI (0)), .int (zI (0)), .int (zI (0)), .int (zI (0)), .null, .null, .null] := ⟨fun j hj => match j, hj with
  | 0, _ => rfl
  | 1, _ => rfl
  | 2, _ => rfl
  | 3, _ => rfl
  | 4, _ => rfl
  | 5, _ => rfl
  | 6, _ => rfl
  | 7, _ => rfl
  | k + 8, hj => absurd hj (by omega), ⟨trivial, trivial, trivial, trivial, trivial, trivial, trivial, trivial, trivial⟩⟩
theorem pz_upY {h : pz_H} {a n m : Nat} {r r' x1 x2 p0 p1 p2 p3 : pz_C} (h1 : a ≠ n) (h2 : a ≠ m) (h3 : n ≠ m) : va_up (va_up (va_up (va_up (va_up (va_up (va_up (va_up h n r) a x1) m p0) m p1) a x2) m p2) m p3) n r' = va_up (va_up (va_up h n r') m p3) a x2 := by
  funext j
  by_cases e : j = a
  · subst e; rw [va_up_ne _ _ h1, va_up_ne _ _ h2, va_up_ne _ _ h2, va_up_self, va_up_self]
  · rw [va_up_ne _ _ e]
    by_cases e2 : j = n
    · subst e2; rw [va_up_self, va_up_ne _ _ h3, va_up_self]
    · rw [va_up_ne _ _ e2]
      by_cases e3 : j = m
      · subst e3; rw [va_up_self, va_up_self]
      · rw [va_up_ne _ _ e3, va_up_ne _ _ e3, va_up_ne _ _ e, va_up_ne _ _ e3, va_up_ne _ _ e3, va_up_ne _ _ e, va_up_ne _ _ e2, va_up_ne _ _ e3, va_up_ne _ _ e2]
set_option maxHeartbeats 4000000 in
set_option maxRecDepth 100000 in
/-- new Layout(width, height) -/
theorem mX2_init {E : pw_E} (htr : E.1.stackTraces = false) {h : pz_H} {n : Nat} {a : Nat} (hobj : h a = pz_o 5 [.null, .null]) (ha : a < n) {w H : Int} : pw_M E yX2_init YX2_init (rmD 2 2 16) [.ref a, .int (zI (w)), .int (zI (H))] h n (fun r h' n' => r = none ∧ h' = va_up (va_up (va_up h n (pz_r 4 8 (va_up (fun _ => none) 0 (some (n + 1))))) (n + 1) (pz_o 8 [.int (zI 0), .int (zI 0), .int (zI w), .int (zI H), .int (zI 0), .null, .null, .null])) a (pz_o 5 [.ref n, .ref (n + 1)]) ∧ n' = n + 2) (fun _ _ _ => False) := by
  refine pw_M_of (lv := [some (.ref a), some (.int (zI (w))), some (.int (zI (H)))]) (by decide) rfl rfl htr (nle rfl) rfl (fun L => ?_)
  refine pw_aload_n dX2_init_0 rfl ?_
  refine pw_objInit cwX2_3 dX2_init_1 ⟨nle rfl, nle rfl⟩ ?_
  refine pw_aload_n dX2_init_4 rfl ?_
  refine pw_bipush (v := zI (8)) dX2_init_5 (by decide) ?_
  refine pw_newr (t := 4) rfl naX2_9 (by decide) (by decide) (nle rfl) (nle rfl) dX2_init_7 ?_
  refine pw_h (h' := va_up h n (pz_r 4 8 (fun _ => none))) (rfl) ?_
  refine pw_putF (fs' := [.ref n, .null]) okX2 (k := 0) (by decide) lkX2_11 rfl rfl rfl rfl rfl ((va_up_ne _ _ (by omega)).trans hobj) (nlt rfl) rfl dX2_init_10 ?_
  refine pw_aload_n dX2_init_13 rfl ?_
  refine pw_new okX5 nwX2_9.1 nwX2_9.2.1 nwX2_9.2.2 dzX5.1 dzX5.2 (nle rfl) (nle rfl) dX2_init_14 ?_
  refine pw_h (h' := va_up (va_up (va_up h n (pz_r 4 8 (fun _ => none))) a (pz_o 5 [.ref n, .null])) (n + 1) (pz_o 8 [.int (zI (0)), .int (zI (0)), .int (zI (0)), .int (zI (0)), .int (zI (0)), .null, .null, .null])) rfl ?_
  refine pw_dup dX2_init_17 rfl ?_
  refine pw_null dX2_init_18 ?_
  refine pw_callI (As := [rv none]) (b := (n + 1)) (rm := rmD 1 0 0) (mX5_init (x := pt00) htr (va_up_self _ _ _)) rfl ywX5_init rfl ⟨rfl, rfl⟩ cwX2_17 ⟨nle rfl, nle rfl⟩ (nle rfl) ⟨nle rfl, nle rfl⟩ dX2_init_19 ?_
  intro r2 h2 n2 hq _
  rw [hq.1, hq.2.1, hq.2.2]
  show pw E YX2_init _ _ (0 + 1 + 1) (0 + (8 : Int).toNat + 8) 22 [some (.ref a), some (.int (zI (w))), some (.int (zI (H)))] [.ref (n + 1), .ref a] (va_up (va_up (va_up (va_up h n (pz_r 4 8 (fun _ => none))) a (pz_o 5 [.ref n, .null])) (n + 1) (pz_o 8 [.int (zI (0)), .int (zI (0)), .int (zI (0)), .int (zI (0)), .int (zI (0)), .null, .null, .null])) (n + 1) (pz_o 8 [.int (zI (0)), .int (zI (0)), .int (zI (0)), .int (zI (0)), .int (zI (0)), .null, .null, .null])) (n + 2)
  refine pw_put (fs' := [.ref n, .ref (n + 1)]) okX2 (k := 1) (by decide) lkX2_20 rfl rfl rfl ((va_up_ne _ _ (by omega)).trans ((va_up_ne _ _ (by omega)).trans (va_up_self _ _ _))) (nlt rfl) rfl dX2_init_22 ?_
  refine pw_aload_n dX2_init_25 rfl ?_
  refine pw_get (v := .ref (n + 1)) okX2 (k := 1) (by decide) lkX2_20 (va_up_self _ _ _) rfl dX2_init_26 ?_
  refine pw_iload_n dX2_init_29 rfl ?_
  refine pw_putN (fs' := [.int (zI (0)), .int (zI (0)), .int (zI (w)), .int (zI (0)), .int (zI (0)), .null, .null, .null]) okX5 (k := 2) (by decide) lkX2_24 rfl rfl rfl ((va_up_ne _ _ (by omega)).trans (va_up_self _ _ _)) (nlt rfl) rfl dX2_init_30 ?_
  refine pw_aload_n dX2_init_33 rfl ?_
  refine pw_get (v := .ref (n + 1)) okX2 (k := 1) (by decide) lkX2_20 ((va_up_ne _ _ (by omega)).trans (va_up_self _ _ _)) rfl dX2_init_34 ?_
  refine pw_iload_n dX2_init_37 rfl ?_
  refine pw_putN (fs' := [.int (zI (0)), .int (zI (0)), .int (zI (w)), .int (zI (H)), .int (zI (0)), .null, .null, .null]) okX5 (k := 3) (by decide) lkX2_28 rfl rfl rfl (va_up_self _ _ _) (nlt rfl) rfl dX2_init_38 ?_
  refine pw_aload_n dX2_init_41 rfl ?_
  refine pw_get (v := .ref n) okX2 (k := 0) (by decide) lkX2_11 ((va_up_ne _ _ (by omega)).trans ((va_up_ne _ _ (by omega)).trans (va_up_self _ _ _))) rfl dX2_init_42 ?_
  refine pw_iconst (v := zI (0)) dX2_init_45 (by decide) ?_
  refine pw_aload_n dX2_init_46 rfl ?_
  refine pw_get (v := .ref (n + 1)) okX2 (k := 1) (by decide) lkX2_20 ((va_up_ne _ _ (by omega)).trans ((va_up_ne _ _ (by omega)).trans (va_up_self _ _ _))) rfl dX2_init_47 ?_
  refine pw_aast (t := 4) rfl ((va_up_ne _ _ (by omega)).trans ((va_up_ne _ _ (by omega)).trans ((va_up_ne _ _ (by omega)).trans ((va_up_ne _ _ (by omega)).trans ((va_up_ne _ _ (by omega)).trans ((va_up_ne _ _ (by omega)).trans (va_up_self _ _ _))))))) (by decide) (by decide) (va_up_self _ _ _) rfl dX2_init_50 ?_
  exact pw_vret dX2_init_51 rfl (nle rfl) (nle rfl) ⟨rfl, pz_upY (by omega) (by omega) (by omega), rfl⟩
