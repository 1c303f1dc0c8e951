theorem cwX4_34 : Cond.methodLink RX4 34 yX7_reset ∈ pw_G ∧ Cond.instanceMethod yX7_reset ∈ pw_G ∧ Cond.selects RX7 yX7_reset yX7_reset ∈ pw_G := ⟨pw_in 762 (by decide +kernel) (by decide +kernel), pw_in 763 (by decide +kernel) (by decide +kernel), pw_in 764 (by decide +kernel) (by decide +kernel)⟩
theorem cwX4_37 : Cond.methodLink RX4 37 yX6_reset ∈ pw_G ∧ Cond.instanceMethod yX6_reset ∈ pw_G ∧ Cond.selects RX6 yX6_reset yX6_reset ∈ pw_G := ⟨pw_in 774 (by decide +kernel) (by decide +kernel), pw_in 775 (by decide +kernel) (by decide +kernel), pw_in 776 (by decide +kernel) (by decide +kernel)⟩
theorem lkX4_38 : Cond.fieldLinkNest RX4 38 (TX8 1).1 (TX8 1).2.1 (TX8 1).2.2.1 "PaneHouse" ∈ pw_N := by decide +kernel
def YX4_begin : pw_Y := (RX4, "begin", cX4_begin, 1, none)
theorem ywX4_begin : pw_y yX4_begin YX4_begin 0 := ⟨by decide +kernel, by decide +kernel, by decide +kernel, pw_in 761 (by decide +kernel) (by decide +kernel), pw_in 81 (by decide +kernel) (by decide +kernel)⟩
set_option maxHeartbeats 4000000 in
set_option maxRecDepth 100000 in
/-- Pane.begin() -/
theorem mX4_begin {E : pw_E} (htr : E.1.stackTraces = false) {h : pz_H} {n : Nat} {w H : Int} {N NH : Nat} {I J : Nat → Nat} {s : zSt} {R q : Nat → Int} {pa ty la : Nat} {cm of tot : Int} (hG : geo w H N NH) (hA : rAt w H N NH I J s R q h) (oT : hOk s.2.2.2.1) (o4 : 0 ≤ s.1 4 ∧ s.1 4 ≤ 1000) (hO2 : rOk w H (zReset w H s) R q) (hpa : h pa = pz_o 7 [.ref (I 0), .ref (J 0), .ref ty, .int (zI cm), .int (zI of)]) (hty : h ty = pz_o 11 [.ref la, .int (zI tot)]) (hpI : ∀ i, i < 8 → I i ≠ pa) (hpJ : J 0 ≠ pa ∧ J 1 ≠ pa) (htI : ∀ i, i < 8 → I i ≠ ty) (htJ : J 0 ≠ ty ∧ J 1 ≠ ty) (hpt : pa ≠ ty) (hcm : 0 ≤ cm ∧ cm ≤ 1) (hof : 0 ≤ of ∧ of ≤ 1000) : pw_M E yX4_begin YX4_begin (rmD 5 0 0) [.ref pa] h n (fun r h' n' => r = none ∧ h' = va_up (va_up (rP w H N NH I J (zReset w H s) (va_up R 5 0) q h) ty (pz_o 11 [.ref la, .int (zI 0)])) pa (pz_o 7 [.ref (I 0), .ref (J 0), .ref ty, .int (zI 0), .int (zI (if 0 = cm then of else 0))]) ∧ n' = n) (fun _ _ _ => False) := by
  refine pw_M_of (lv := [some (.ref pa)]) (by decide) rfl rfl htr (nle rfl) rfl (fun L => ?_)
  refine pw_aload_n dX4_begin_0 rfl ?_
  refine pw_get (v := .ref (I 0)) okX4 (k := 0) (by decide) lkX4_21 hpa rfl dX4_begin_1 ?_
  refine pw_callV (As := []) (b := (I 0)) (rm := rmD 4 0 0) (nX7_reset htr hG hA.1 oT o4) rfl hA.1.1.1 rfl rfl ywX7_reset rfl cwX4_34 ⟨nle rfl, nle rfl⟩ (nle rfl) ⟨nle rfl, nle rfl⟩ dX4_begin_4 ?_ (fun _ _ _ z => z.elim)
  intro r2 h2 n2 hq _
  rw [hq.1, hq.2.1, hq.2.2]
  show pw E YX4_begin _ _ 0 0 7 [some (.ref pa)] [] (zP w H N NH I (zReset w H s) h) n
  refine pw_h (h' := rP w H N NH I J (zReset w H s) R q h) (zP_as hA) ?_
  refine pw_aload_n dX4_begin_7 rfl ?_
  refine pw_get (v := .ref (J 0)) okX4 (k := 1) (by decide) lkX4_30 ((rP_other hpI hpJ.1 hpJ.2).trans hpa) rfl dX4_begin_8 ?_
  refine pw_callV (As := []) (b := (J 0)) (rm := rmD 0 0 0) (mX6_reset htr hG (rAt_put hA) hO2) rfl (rAt_put hA).2.1 rfl rfl ywX6_reset rfl cwX4_37 ⟨nle rfl, nle rfl⟩ (nle rfl) ⟨nle rfl, nle rfl⟩ dX4_begin_11 ?_ (fun _ _ _ z => z.elim)
  intro r2 h2 n2 hq _
  rw [hq.1, hq.2.1, hq.2.2]
  show pw E YX4_begin _ _ 0 0 14 [some (.ref pa)] [] (rP w H N NH I J (zReset w H s) (va_up R 5 0) q (rP w H N NH I J (zReset w H s) R q h)) n
  refine pw_h (h' := rP w H N NH I J (zReset w H s) (va_up R 5 0) q h) (rP_put hA) ?_
  refine pw_aload_n dX4_begin_14 rfl ?_
  refine pw_get (v := .ref ty) okX4 (k := 2) (by decide) lkX4_10 ((rP_other hpI hpJ.1 hpJ.2).trans hpa) rfl dX4_begin_15 ?_
  refine pw_iconst (v := zI (0)) dX4_begin_18 (by decide) ?_
  refine pw_putN (fs' := [.ref la, .int (zI (0))]) okX8 (k := 1) (by decide) lkX4_38 rfl rfl rfl ((rP_other htI htJ.1 htJ.2).trans hty) (nlt rfl) rfl dX4_begin_19 ?_
  refine pw_aload_n dX4_begin_22 rfl ?_
  refine pw_iconst (v := zI (0)) dX4_begin_23 (by decide) ?_
  refine pw_callV (As := [.int (zI (0))]) (b := pa) (rm := rmD 0 0 0) (mX4_setCopyMode (on := 0) htr hG (rAt_up (rAt_put hA) htI htJ.1 htJ.2).1 hO2.1 ((va_up_ne _ _ hpt).trans ((rP_other hpI hpJ.1 hpJ.2).trans hpa)) hpI hcm hof (by decide)) rfl ((va_up_ne _ _ hpt).trans ((rP_other hpI hpJ.1 hpJ.2).trans hpa)) rfl rfl ywX4_setCopyMode rfl cwX4_42 ⟨nle rfl, nle rfl⟩ (nle rfl) ⟨nle rfl, nle rfl⟩ dX4_begin_24 ?_ (fun _ _ _ z => z.elim)
  intro r2 h2 n2 hq _
  rw [hq.1, hq.2.1, hq.2.2]
  show pw E YX4_begin _ _ 0 0 27 [some (.ref pa)] [] (va_up (va_up (rP w H N NH I J (zReset w H s) (va_up R 5 0) q h) ty (pz_o 11 [.ref la, .int (zI (0))])) pa (pz_o 7 [.ref (I 0), .ref (J 0), .ref ty, .int (zI (0)), .int (zI (if 0 = cm then of else 0))])) n
  exact pw_vret dX4_begin_27 rfl (nle rfl) (nle rfl) ⟨rfl, rfl, rfl⟩
