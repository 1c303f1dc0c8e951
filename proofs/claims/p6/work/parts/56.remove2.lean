theorem cwX2_45 : Cond.methodLink RX2 45 yX2_exchange ∈ pw_G ∧ Cond.instanceMethod yX2_exchange ∈ pw_G ∧ Cond.selects RX2 yX2_exchange yX2_exchange ∈ pw_G := ⟨pw_in 1134 (by decide +kernel) (by decide +kernel), pw_in 1136 (by decide +kernel) (by decide +kernel), pw_in 26 (by decide +kernel) (by decide +kernel)⟩
def YX2_remove : pw_Y := (RX2, "remove", cX2_remove, 5, (some .boolean))
theorem ywX2_remove : pw_y yX2_remove YX2_remove 1 := ⟨by decide +kernel, by decide +kernel, by decide +kernel, pw_in 1157 (by decide +kernel) (by decide +kernel), pw_in 87 (by decide +kernel) (by decide +kernel)⟩
set_option maxHeartbeats 4000000 in
set_option maxRecDepth 100000 in
/-- Layout.remove(pane) -/
theorem mX2_remove {E : pw_E} (htr : E.1.stackTraces = false) {h : pz_H} {n : Nat} {D : Nat → Bool} {P : Nat → ptC} {ly lf rt : Nat} {lv : Nat → Option Nat} {L : Int} (hly : h ly = pz_o 5 [.ref lf, .ref rt]) (hlf : h lf = pz_r 4 8 lv) (hnl : ¬ D ly = true) (hnf : ¬ D lf = true) (hlL : ly ≠ lf) (hcl : ptCl D P) (hlD : ∀ i b, lv i = some b → D b = true) (hP : ptBd L P) (hL : L + 2 + plE 8 ≤ 10000) {p : Int} (h_p : -2147483648 ≤ p ∧ p < 2147483648) : pw_M E yX2_remove YX2_remove (rmD 19 0 0) [.ref ly, .int (zI p)] (ptPut D P h) n (fun r h' n' => r = some (.int (zI (if rmOk P lv p then 1 else 0))) ∧ h' = ptPut D (rmP P lv p) (va_up (va_up h ly (pz_o 5 [.ref lf, .ref (rmRt P lv p rt)])) lf (pz_r 4 8 (rmLv P lv p))) ∧ n' = n) (fun _ _ _ => False) := by
  refine pw_M_of (lv := [some (.ref ly), some (.int (zI (p))), none, none, none]) (by decide) rfl rfl htr (nle rfl) rfl (fun _ => ?_)
  refine pw_aload_n dX2_remove_0 rfl ?_
  refine pw_iload_n dX2_remove_1 rfl ?_
  refine pw_callV (As := [.int (zI (p))]) (b := ly) (rm := rmD 0 0 0) (mX2_has htr ((ptNo hnl).trans hly) ((ptNo hnf).trans hlf) (by omega)) rfl ((ptNo hnl).trans hly) rfl rfl ywX2_has rfl cwX2_31 ⟨nle rfl, nle rfl⟩ (nle rfl) ⟨nle rfl, nle rfl⟩ dX2_remove_2 ?_ (fun _ _ _ z => z.elim)
  intro r2 h2 n2 hq _
  rw [hq.1, hq.2.1, hq.2.2]
  show pw E YX2_remove _ _ 0 0 5 [some (.ref ly), some (.int (zI (p))), none, none, none] [.int (zI (lyHas lv (p)))] (ptPut D P h) n
  have hb := lyHas_b (lv := lv) (i := p)
  refine pw_if_eq (tgt := 17) dX2_remove_5 rfl (by omega) (fun c5 => ?_) (fun c5 => ?_)
  ·
    refine pw_null dX2_remove_17 ?_
    refine pw_astore_nN (lv' := [some (.ref ly), some (.int (zI (p))), some (.null), none, none]) dX2_remove_18 (by decide) rfl rfl ?_
    refine pw_aload_nN dX2_remove_19 rfl ?_
    refine pw_ifnonnullN dX2_remove_20 ?_
    refine pw_null dX2_remove_23 ?_
    refine pw_goto (tgt := 31) dX2_remove_24 rfl ?_
    refine pw_astore_nN (lv' := [some (.ref ly), some (.int (zI (p))), some (.null), some (.null), none]) dX2_remove_31 (by decide) rfl rfl ?_
    refine pw_aload_nN dX2_remove_32 rfl ?_
    refine pw_ifnullN (tgt := 43) dX2_remove_33 rfl ?_
    refine pw_iconst (v := zI (0)) dX2_remove_43 (by decide) ?_
    have hno : ¬ rmOk P lv p := rm_no1 c5
    exact pw_zret dX2_remove_44 rfl (by decide) (nle rfl) (nle rfl) ⟨by rw [if_neg hno], by unfold rmP rmRt rmLv; rw [if_neg hno, if_neg hno, if_neg hno, pz_up_id hly, pz_up_id hlf], rfl⟩
  ·
    refine pw_aload_n dX2_remove_8 rfl ?_
    refine pw_get (v := .ref lf) okX2 (k := 0) (by decide) lkX2_11 ((ptNo hnl).trans hly) rfl dX2_remove_9 ?_
    refine pw_iload_n dX2_remove_12 rfl ?_
    refine pw_aaldO (t := 4) rfl ((ptNo hnf).trans hlf) ((lyHas_1 c5).1) (by omega) dX2_remove_13 ?_
    refine pw_goto (tgt := 18) dX2_remove_14 rfl ?_
    refine pw_astore_nO (lv' := [some (.ref ly), some (.int (zI (p))), some (rv (lv (p).toNat)), none, none]) dX2_remove_18 (by decide) rfl rfl ?_
    refine pw_aload_nO dX2_remove_19 rfl ?_
    refine pw_ifnonnullO (tgt := 27) dX2_remove_20 rfl (fun c20 => ?_) (fun c20 => ?_)
    ·
      obtain ⟨q20, hq20⟩ := Option.ne_none_iff_exists'.mp c20
      have d20 := hlD _ _ hq20
      refine pw_aload_nO dX2_remove_27 rfl ?_
      refine pw_some (hq20) ?_
      refine pw_getN (v := rv ((P q20).2 2)) okX5 (k := 7) (by decide) lkX2_42 (ptAt d20) rfl dX2_remove_28 ?_
      refine pw_astore_nO (lv' := [some (.ref ly), some (.int (zI (p))), some (rv (lv (p).toNat)), some (rv ((P q20).2 2)), none]) dX2_remove_31 (by decide) (rv_c1 rfl) rfl ?_
      refine pw_aload_nO dX2_remove_32 rfl ?_
      refine pw_ifnullO (tgt := 43) dX2_remove_33 rfl (fun c33 => ?_) (fun c33 => ?_)
      ·
        refine pw_iconst (v := zI (0)) dX2_remove_43 (by decide) ?_
        have hno : ¬ rmOk P lv p := rm_no2 hq20 c33
        exact pw_zret dX2_remove_44 rfl (by decide) (nle rfl) (nle rfl) ⟨by rw [if_neg hno], by unfold rmP rmRt rmLv; rw [if_neg hno, if_neg hno, if_neg hno, pz_up_id hly, pz_up_id hlf], rfl⟩
      ·
        obtain ⟨q33, hq33⟩ := Option.ne_none_iff_exists'.mp c33
        have d33 := hcl q20 d20 2 q33 hq33
        refine pw_aload_nO dX2_remove_36 rfl ?_
        refine pw_some (hq33) ?_
        refine pw_callV (As := []) (b := q33) (rm := rmD 0 0 0) (mX5_isSplit htr (ptAt d33)) rfl (ptAt d33) rfl rfl ywX5_isSplit rfl cwX2_69 (rmC (by omega) (nle rfl)) (nle rfl) ⟨nle rfl, nle rfl⟩ dX2_remove_37 ?_ (fun _ _ _ z => z.elim)
        intro r2 h2 n2 hq _
        rw [hq.1, hq.2.1, hq.2.2]
        show pw E YX2_remove _ _ 0 0 40 [some (.ref ly), some (.int (zI (p))), some (rv (lv (p).toNat)), some (rv ((P q20).2 2)), none] [.int (zI (if ptSplit (P q33) then 1 else 0))] (ptPut D P h) n
        by_cases hs : ptSplit (P q33)
        ·
          rw [if_pos hs]
          obtain ⟨x, hx⟩ := Option.ne_none_iff_exists'.mp hs.1
          obtain ⟨y, hy⟩ := Option.ne_none_iff_exists'.mp hs.2
          have dx := hcl q33 d33 0 x hx
          have dy := hcl q33 d33 1 y hy
          refine pw_if_ne (tgt := 45) dX2_remove_40 rfl (by omega) (fun c40 => ?_) (fun c40 => ?_)
          ·
            refine pw_aload_nO dX2_remove_45 rfl ?_
            refine pw_some (hq33) ?_
            refine pw_getN (v := rv ((P q33).2 0)) okX5 (k := 5) (by decide) lkX2_49 (ptAt d33) rfl dX2_remove_46 ?_
            refine pw_aload_nO dX2_remove_49 rfl ?_
            refine pw_some (hq20) ?_
            refine pw_acmpO_ne (tgt := 60) dX2_remove_50 rfl (fun c50 => ?_) (fun c50 => ?_)
            ·
              refine pw_aload_nO dX2_remove_60 rfl ?_
              refine pw_some (hq33) ?_
              refine pw_getN (v := rv ((P q33).2 0)) okX5 (k := 5) (by decide) lkX2_49 (ptAt d33) rfl dX2_remove_61 ?_
              refine pw_astoreO (lv' := [some (.ref ly), some (.int (zI (p))), some (rv (lv (p).toNat)), some (rv ((P q20).2 2)), some (rv ((P q33).2 0))]) dX2_remove_64 (by decide) (rv_c1 rfl) rfl ?_
              refine pw_aload_n dX2_remove_66 rfl ?_
              refine pw_aload_nO dX2_remove_67 rfl ?_
              refine pw_aloadO dX2_remove_68 rfl ?_
              refine pw_st (st' := [.ref x, .ref q33, .ref ly]) (by rw [hq33, hx]; rfl) ?_
              refine pw_callV (As := [.ref q33, .ref x]) (b := ly) (rm := rmD 0 0 0) (mX2_exchange htr hly hnl hcl d33 dx) rfl ((ptNo hnl).trans hly) rfl rfl ywX2_exchange rfl cwX2_45 (rmC (by omega) (nle rfl)) (nle rfl) ⟨nle rfl, nle rfl⟩ dX2_remove_70 ?_ (fun _ _ _ z => z.elim)
              intro r2 h2 n2 hq _
              rw [hq.1, hq.2.1, hq.2.2]
              show pw E YX2_remove _ _ 0 0 73 [some (.ref ly), some (.int (zI (p))), some (rv (lv (p).toNat)), some (rv ((P q20).2 2)), some (rv ((P q33).2 0))] [] (ptPut D (exP P q33 x) (va_up h ly (pz_o 5 [.ref lf, .ref (exR P q33 x rt)]))) n
              have hcl2 : ptCl D (exP P q33 x) := exP_cl hcl d33 dx
              have hP2 : ptBd L (exP P q33 x) := exP_bd hP
              have hb2 := hP2.2 q33
              refine pw_aload_n dX2_remove_73 rfl ?_
              refine pw_get (v := .ref lf) okX2 (k := 0) (by decide) lkX2_11 ((ptNo hnl).trans (va_up_self _ _ _)) rfl dX2_remove_74 ?_
              refine pw_iload_n dX2_remove_77 rfl ?_
              refine pw_null dX2_remove_78 ?_
              refine pw_aastN (t := 4) rfl ((ptNo hnf).trans ((va_up_ne _ _ hlL.symm).trans hlf)) ((lyHas_1 c5).1) (by omega) dX2_remove_79 ?_
              refine pw_h (h' := ptPut D (exP P q33 x) (va_up (va_up h ly (pz_o 5 [.ref lf, .ref (exR P q33 x rt)])) lf (pz_r 4 8 (va_up lv (p).toNat none)))) (ptUpN hnf) ?_
              refine pw_aloadO dX2_remove_80 rfl ?_
              refine pw_aload_nO dX2_remove_82 rfl ?_
              refine pw_some (hq33) ?_
              refine pw_getN (v := .int (zI (((exP P q33 x) q33).1 0))) okX5 (k := 0) (by decide) lkX2_59 (ptAt d33) rfl dX2_remove_83 ?_
              refine pw_aload_nO dX2_remove_86 rfl ?_
              refine pw_some (hq33) ?_
              refine pw_getN (v := .int (zI (((exP P q33 x) q33).1 1))) okX5 (k := 1) (by decide) lkX2_62 (ptAt d33) rfl dX2_remove_87 ?_
              refine pw_aload_nO dX2_remove_90 rfl ?_
              refine pw_some (hq33) ?_
              refine pw_getN (v := .int (zI (((exP P q33 x) q33).1 2))) okX5 (k := 2) (by decide) lkX2_24 (ptAt d33) rfl dX2_remove_91 ?_
              refine pw_aload_nO dX2_remove_94 rfl ?_
              refine pw_some (hq33) ?_
              refine pw_getN (v := .int (zI (((exP P q33 x) q33).1 3))) okX5 (k := 3) (by decide) lkX2_28 (ptAt d33) rfl dX2_remove_95 ?_
              refine pw_iconst (v := zI (0)) dX2_remove_98 (by decide) ?_
              refine pw_st (st' := [.int (zI (0)), .int (zI (((exP P q33 x) q33).1 3)), .int (zI (((exP P q33 x) q33).1 2)), .int (zI (((exP P q33 x) q33).1 1)), .int (zI (((exP P q33 x) q33).1 0)), .ref x]) (by rw [hx]; rfl) ?_
              refine pw_callS (As := [.ref x, .int (zI (((exP P q33 x) q33).1 0)), .int (zI (((exP P q33 x) q33).1 1)), .int (zI (((exP P q33 x) q33).1 2)), .int (zI (((exP P q33 x) q33).1 3)), .int (zI (0))]) (rm := rmD (2 * 8 + 2) 0 0) (mX2_place htr (k := 8) (L := L) (by decide) (by decide) hP2 hL dx hcl2 (by omega) (by omega)) rfl ywX2_place rfl cwX2_73 (rmC (by omega) (nle rfl)) (nle rfl) ⟨nle rfl, nle rfl⟩ dX2_remove_99 ?_ (fun _ _ _ z => z.elim)
              intro r2 h2 n2 hq _
              rw [hq.1, hq.2.1, hq.2.2]
              show pw E YX2_remove _ _ 0 0 102 [some (.ref ly), some (.int (zI (p))), some (rv (lv (p).toNat)), some (rv ((P q20).2 2)), some (rv ((P q33).2 0))] [] (ptPut D (plW (plShare 8) x (((exP P q33 x) q33).1 0) (((exP P q33 x) q33).1 1) (((exP P q33 x) q33).1 2) (((exP P q33 x) q33).1 3) (exP P q33 x)) (va_up (va_up h ly (pz_o 5 [.ref lf, .ref (exR P q33 x rt)])) lf (pz_r 4 8 (va_up lv (p).toNat none)))) n
              refine pw_iconst (v := zI (1)) dX2_remove_102 (by decide) ?_
              obtain ⟨k1, k2, k3⟩ := rm_ok c5 hq20 hq33 hs (Or.inr ⟨c50, hx⟩)
              exact pw_zret dX2_remove_103 rfl (by decide) (nle rfl) (nle rfl) ⟨by rw [if_pos k1], by unfold rmP rmRt rmLv rmPl; rw [if_pos k1, if_pos k1, if_pos k1, k2, k3], rfl⟩
            ·
              refine pw_aload_nO dX2_remove_53 rfl ?_
              refine pw_some (hq33) ?_
              refine pw_getN (v := rv ((P q33).2 1)) okX5 (k := 6) (by decide) lkX2_52 (ptAt d33) rfl dX2_remove_54 ?_
              refine pw_goto (tgt := 64) dX2_remove_57 rfl ?_
              refine pw_astoreO (lv' := [some (.ref ly), some (.int (zI (p))), some (rv (lv (p).toNat)), some (rv ((P q20).2 2)), some (rv ((P q33).2 1))]) dX2_remove_64 (by decide) (rv_c1 rfl) rfl ?_
              refine pw_aload_n dX2_remove_66 rfl ?_
              refine pw_aload_nO dX2_remove_67 rfl ?_
              refine pw_aloadO dX2_remove_68 rfl ?_
              refine pw_st (st' := [.ref y, .ref q33, .ref ly]) (by rw [hq33, hy]; rfl) ?_
              refine pw_callV (As := [.ref q33, .ref y]) (b := ly) (rm := rmD 0 0 0) (mX2_exchange htr hly hnl hcl d33 dy) rfl ((ptNo hnl).trans hly) rfl rfl ywX2_exchange rfl cwX2_45 (rmC (by omega) (nle rfl)) (nle rfl) ⟨nle rfl, nle rfl⟩ dX2_remove_70 ?_ (fun _ _ _ z => z.elim)
              intro r2 h2 n2 hq _
              rw [hq.1, hq.2.1, hq.2.2]
              show pw E YX2_remove _ _ 0 0 73 [some (.ref ly), some (.int (zI (p))), some (rv (lv (p).toNat)), some (rv ((P q20).2 2)), some (rv ((P q33).2 1))] [] (ptPut D (exP P q33 y) (va_up h ly (pz_o 5 [.ref lf, .ref (exR P q33 y rt)]))) n
              have hcl2 : ptCl D (exP P q33 y) := exP_cl hcl d33 dy
              have hP2 : ptBd L (exP P q33 y) := exP_bd hP
              have hb2 := hP2.2 q33
              refine pw_aload_n dX2_remove_73 rfl ?_
              refine pw_get (v := .ref lf) okX2 (k := 0) (by decide) lkX2_11 ((ptNo hnl).trans (va_up_self _ _ _)) rfl dX2_remove_74 ?_
              refine pw_iload_n dX2_remove_77 rfl ?_
              refine pw_null dX2_remove_78 ?_
              refine pw_aastN (t := 4) rfl ((ptNo hnf).trans ((va_up_ne _ _ hlL.symm).trans hlf)) ((lyHas_1 c5).1) (by omega) dX2_remove_79 ?_
              refine pw_h (h' := ptPut D (exP P q33 y) (va_up (va_up h ly (pz_o 5 [.ref lf, .ref (exR P q33 y rt)])) lf (pz_r 4 8 (va_up lv (p).toNat none)))) (ptUpN hnf) ?_
              refine pw_aloadO dX2_remove_80 rfl ?_
              refine pw_aload_nO dX2_remove_82 rfl ?_
              refine pw_some (hq33) ?_
              refine pw_getN (v := .int (zI (((exP P q33 y) q33).1 0))) okX5 (k := 0) (by decide) lkX2_59 (ptAt d33) rfl dX2_remove_83 ?_
              refine pw_aload_nO dX2_remove_86 rfl ?_
              refine pw_some (hq33) ?_
              refine pw_getN (v := .int (zI (((exP P q33 y) q33).1 1))) okX5 (k := 1) (by decide) lkX2_62 (ptAt d33) rfl dX2_remove_87 ?_
              refine pw_aload_nO dX2_remove_90 rfl ?_
              refine pw_some (hq33) ?_
              refine pw_getN (v := .int (zI (((exP P q33 y) q33).1 2))) okX5 (k := 2) (by decide) lkX2_24 (ptAt d33) rfl dX2_remove_91 ?_
              refine pw_aload_nO dX2_remove_94 rfl ?_
              refine pw_some (hq33) ?_
              refine pw_getN (v := .int (zI (((exP P q33 y) q33).1 3))) okX5 (k := 3) (by decide) lkX2_28 (ptAt d33) rfl dX2_remove_95 ?_
              refine pw_iconst (v := zI (0)) dX2_remove_98 (by decide) ?_
              refine pw_st (st' := [.int (zI (0)), .int (zI (((exP P q33 y) q33).1 3)), .int (zI (((exP P q33 y) q33).1 2)), .int (zI (((exP P q33 y) q33).1 1)), .int (zI (((exP P q33 y) q33).1 0)), .ref y]) (by rw [hy]; rfl) ?_
              refine pw_callS (As := [.ref y, .int (zI (((exP P q33 y) q33).1 0)), .int (zI (((exP P q33 y) q33).1 1)), .int (zI (((exP P q33 y) q33).1 2)), .int (zI (((exP P q33 y) q33).1 3)), .int (zI (0))]) (rm := rmD (2 * 8 + 2) 0 0) (mX2_place htr (k := 8) (L := L) (by decide) (by decide) hP2 hL dy hcl2 (by omega) (by omega)) rfl ywX2_place rfl cwX2_73 (rmC (by omega) (nle rfl)) (nle rfl) ⟨nle rfl, nle rfl⟩ dX2_remove_99 ?_ (fun _ _ _ z => z.elim)
              intro r2 h2 n2 hq _
              rw [hq.1, hq.2.1, hq.2.2]
              show pw E YX2_remove _ _ 0 0 102 [some (.ref ly), some (.int (zI (p))), some (rv (lv (p).toNat)), some (rv ((P q20).2 2)), some (rv ((P q33).2 1))] [] (ptPut D (plW (plShare 8) y (((exP P q33 y) q33).1 0) (((exP P q33 y) q33).1 1) (((exP P q33 y) q33).1 2) (((exP P q33 y) q33).1 3) (exP P q33 y)) (va_up (va_up h ly (pz_o 5 [.ref lf, .ref (exR P q33 y rt)])) lf (pz_r 4 8 (va_up lv (p).toNat none)))) n
              refine pw_iconst (v := zI (1)) dX2_remove_102 (by decide) ?_
              obtain ⟨k1, k2, k3⟩ := rm_ok c5 hq20 hq33 hs (Or.inl ⟨c50, hy⟩)
              exact pw_zret dX2_remove_103 rfl (by decide) (nle rfl) (nle rfl) ⟨by rw [if_pos k1], by unfold rmP rmRt rmLv rmPl; rw [if_pos k1, if_pos k1, if_pos k1, k2, k3], rfl⟩
          · first | (exfalso; omega) | exact absurd c20 (lyHas_1 c5).2
        ·
          rw [if_neg hs]
          refine pw_if_ne (tgt := 45) dX2_remove_40 rfl (by omega) (fun c40 => ?_) (fun c40 => ?_)
          · first | (exfalso; omega) | exact absurd c20 (lyHas_1 c5).2
          ·
            refine pw_iconst (v := zI (0)) dX2_remove_43 (by decide) ?_
            have hno : ¬ rmOk P lv p := rm_no3 hq20 hq33 hs
            exact pw_zret dX2_remove_44 rfl (by decide) (nle rfl) (nle rfl) ⟨by rw [if_neg hno], by unfold rmP rmRt rmLv; rw [if_neg hno, if_neg hno, if_neg hno, pz_up_id hly, pz_up_id hlf], rfl⟩
    · first | (exfalso; omega) | exact absurd c20 (lyHas_1 c5).2
