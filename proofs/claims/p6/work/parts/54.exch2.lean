theorem lkX2_42 : Cond.fieldLinkNest RX2 42 (TX5 7).1 (TX5 7).2.1 (TX5 7).2.2.1 "PaneHouse" ∈ pw_N := by decide +kernel
theorem lkX2_20 : Cond.fieldLink RX2 20 (TX2 1).1 (TX2 1).2.1 (TX2 1).2.2.1 ∈ pw_G := pw_in 363 (by decide +kernel) (by decide +kernel)
def YX2_exchange : pw_Y := (RX2, "exchange", cX2_exchange, 4, none)
theorem ywX2_exchange : pw_y yX2_exchange YX2_exchange 2 := ⟨by decide +kernel, by decide +kernel, by decide +kernel, pw_in 1137 (by decide +kernel) (by decide +kernel), pw_in 87 (by decide +kernel) (by decide +kernel)⟩
set_option maxHeartbeats 4000000 in
set_option maxRecDepth 100000 in
/-- Layout.exchange(old, other) -/
theorem mX2_exchange {E : pw_E} (htr : E.1.stackTraces = false) {h : pz_H} {n : Nat} {D : Nat → Bool} {P : Nat → ptC} {ly lf rt : Nat} (hly : h ly = pz_o 5 [.ref lf, .ref rt]) (hnl : ¬ D ly = true) (hcl : ptCl D P) {old oth : Nat} (hDo : D old = true) (hDt : D oth = true) : pw_M E yX2_exchange YX2_exchange (rmD 0 0 0) [.ref ly, .ref old, .ref oth] (ptPut D P h) n (fun r h' n' => r = none ∧ h' = ptPut D (exP P old oth) (va_up h ly (pz_o 5 [.ref lf, .ref (exR P old oth rt)])) ∧ n' = n) (fun _ _ _ => False) := by
  refine pw_M_of (lv := [some (.ref ly), some (.ref old), some (.ref oth), none]) (by decide) rfl rfl htr (nle rfl) rfl (fun L => ?_)
  refine pw_aload_n dX2_exchange_0 rfl ?_
  refine pw_getN (v := rv ((P old).2 2)) okX5 (k := 7) (by decide) lkX2_42 (ptAt hDo) rfl dX2_exchange_1 ?_
  refine pw_astore_nO (lv' := [some (.ref ly), some (.ref old), some (.ref oth), some (rv ((P old).2 2))]) dX2_exchange_4 (by decide) rfl rfl ?_
  refine pw_aload_n dX2_exchange_5 rfl ?_
  refine pw_aload_nO dX2_exchange_6 rfl ?_
  refine pw_putN (fs' := (ptL ((P oth).1, va_up (P oth).2 2 ((P old).2 2)))) okX5 (k := 7) (by decide) lkX2_42 rfl rv_nar rv_fit (ptAt hDt) (nlt rfl) rfl dX2_exchange_7 ?_
  refine pw_h (h' := ptPut D (ptR P oth 2 ((P old).2 2)) h) (ptUp hDt) ?_
  refine pw_aload_nO dX2_exchange_10 rfl ?_
  refine pw_ifnonnullO (tgt := 22) dX2_exchange_11 rfl (fun c11 => ?_) (fun c11 => ?_)
  ·
    obtain ⟨q11, hq11⟩ := Option.ne_none_iff_exists'.mp c11
    have d11 := hcl old hDo 2 q11 hq11
    refine pw_aload_nO dX2_exchange_22 rfl ?_
    refine pw_some (hq11) ?_
    refine pw_getN (v := rv (((ptR P oth 2 ((P old).2 2)) q11).2 0)) okX5 (k := 5) (by decide) lkX2_49 (ptAt d11) rfl dX2_exchange_23 ?_
    refine pw_aload_n dX2_exchange_26 rfl ?_
    refine pw_acmpO_ne (tgt := 38) dX2_exchange_27 rfl (fun c27 => ?_) (fun c27 => ?_)
    ·
      refine pw_aload_nO dX2_exchange_38 rfl ?_
      refine pw_aload_n dX2_exchange_39 rfl ?_
      refine pw_some2 (hq11) ?_
      refine pw_putN (fs' := (ptL (((ptR P oth 2 ((P old).2 2)) q11).1, va_up ((ptR P oth 2 ((P old).2 2)) q11).2 1 (some oth)))) okX5 (k := 6) (by decide) lkX2_52 rfl rfl rfl (ptAt d11) (nlt rfl) rfl dX2_exchange_40 ?_
      refine pw_h (h' := ptPut D (ptR (ptR P oth 2 ((P old).2 2)) q11 1 (some oth)) h) (ptUp d11) ?_
      exact pw_vret dX2_exchange_43 rfl (nle rfl) (nle rfl) ⟨rfl, by rw [exR_1 c11, pz_up_id hly, exP_2 hq11 c27], rfl⟩
    ·
      refine pw_aload_nO dX2_exchange_30 rfl ?_
      refine pw_aload_n dX2_exchange_31 rfl ?_
      refine pw_some2 (hq11) ?_
      refine pw_putN (fs' := (ptL (((ptR P oth 2 ((P old).2 2)) q11).1, va_up ((ptR P oth 2 ((P old).2 2)) q11).2 0 (some oth)))) okX5 (k := 5) (by decide) lkX2_49 rfl rfl rfl (ptAt d11) (nlt rfl) rfl dX2_exchange_32 ?_
      refine pw_h (h' := ptPut D (ptR (ptR P oth 2 ((P old).2 2)) q11 0 (some oth)) h) (ptUp d11) ?_
      refine pw_goto (tgt := 43) dX2_exchange_35 rfl ?_
      exact pw_vret dX2_exchange_43 rfl (nle rfl) (nle rfl) ⟨rfl, by rw [exR_1 c11, pz_up_id hly, exP_1 hq11 c27], rfl⟩
  ·
    refine pw_aload_n dX2_exchange_14 rfl ?_
    refine pw_aload_n dX2_exchange_15 rfl ?_
    refine pw_put (fs' := [.ref lf, .ref oth]) okX2 (k := 1) (by decide) lkX2_20 rfl rfl rfl ((ptNo hnl).trans hly) (nlt rfl) rfl dX2_exchange_16 ?_
    refine pw_h (h' := ptPut D (ptR P oth 2 ((P old).2 2)) (va_up h ly (pz_o 5 [.ref lf, .ref oth]))) (ptUpN hnl) ?_
    refine pw_goto (tgt := 43) dX2_exchange_19 rfl ?_
    exact pw_vret dX2_exchange_43 rfl (nle rfl) (nle rfl) ⟨rfl, by rw [exP_0 c11, exR_0 c11], rfl⟩
