theorem lkX5_30 : Cond.fieldLink RX5 30 (TX5 4).1 (TX5 4).2.1 (TX5 4).2.2.1 ∈ pw_G := pw_in 336 (by decide +kernel) (by decide +kernel)
theorem cwX5_26 : Cond.methodLink RX5 26 yX5_isSplit ∈ pw_G ∧ Cond.instanceMethod yX5_isSplit ∈ pw_G ∧ Cond.selects RX5 yX5_isSplit yX5_isSplit ∈ pw_G := ⟨pw_in 839 (by decide +kernel) (by decide +kernel), pw_in 832 (by decide +kernel) (by decide +kernel), pw_in 833 (by decide +kernel) (by decide +kernel)⟩
theorem lkX5_34 : Cond.fieldLink RX5 34 (TX5 1).1 (TX5 1).2.1 (TX5 1).2.2.1 ∈ pw_G := pw_in 327 (by decide +kernel) (by decide +kernel)
theorem lkX5_37 : Cond.fieldLink RX5 37 (TX5 0).1 (TX5 0).2.1 (TX5 0).2.2.1 ∈ pw_G := pw_in 324 (by decide +kernel) (by decide +kernel)
def YX5_drawBorder : pw_Y := (RX5, "drawBorder", cX5_drawBorder, 7, none)
theorem ywX5_drawBorder : pw_y yX5_drawBorder YX5_drawBorder 2 := ⟨by decide +kernel, by decide +kernel, by decide +kernel, pw_in 838 (by decide +kernel) (by decide +kernel), pw_in 88 (by decide +kernel) (by decide +kernel)⟩
set_option maxHeartbeats 4000000 in
set_option maxRecDepth 100000 in
theorem lX5_db {E : pw_E} (htr : E.1.stackTraces = false) {K : pw_K} {n a pic N : Nat} {D : Nat → Bool} {P : Nat → ptC} {w step len ch : Int} (hDa : D a = true) (hnp : ¬ D pic = true) (hN : N ≤ 100000) (hst : 0 ≤ step ∧ step ≤ 100) (hln : -10000 ≤ len ∧ len ≤ 10000) (hdn : 0 ≤ (P a).1 4 ∧ (P a).1 4 ≤ 1) (hch : ch = if (P a).1 4 = 0 then 124 else 45) : ∀ (j : Nat) (i at_ : Int) (h : pz_H) (f : Nat → Int), (len - i).toNat = j → (0 ≤ i ∧ i ≤ 20000) → h pic = pz_z 0 N f → (-100000000 ≤ at_ ∧ at_ ≤ 100000000) → K.2.2.1 none (ptPut D P (va_up h pic (pz_z 0 N (brF step ch N j at_ f)))) n → pw E YX5_drawBorder (rmD 1 0 0) K 0 0 94 [some (.ref a), some (.ref pic), some (.int (zI (w))), some (.int (zI (step))), some (.int (zI (len))), some (.int (zI (at_))), some (.int (zI (i)))] [] (ptPut D P h) n := by
  intro j
  induction j with
  | zero =>
    intro i at_ h f hj h1 hpic hat hQ
    refine pw_iload dX5_drawBorder_94 rfl ?_
    refine pw_iload dX5_drawBorder_96 rfl ?_
    refine pw_icmp_ge (tgt := 143) dX5_drawBorder_98 rfl (by omega) (by omega) (fun c98 => ?_) (fun c98 => ?_)
    ·
      exact pw_vret dX5_drawBorder_143 rfl (nle rfl) (nle rfl) (by rw [show brF step ch N 0 at_ f = f from rfl, pz_up_id hpic] at hQ; exact hQ)
    · exfalso; omega
  | succ j ih =>
    intro i at_ h f hj h1 hpic hat hQ
    refine pw_iload dX5_drawBorder_94 rfl ?_
    refine pw_iload dX5_drawBorder_96 rfl ?_
    refine pw_icmp_ge (tgt := 143) dX5_drawBorder_98 rfl (by omega) (by omega) (fun c98 => ?_) (fun c98 => ?_)
    · exfalso; omega
    ·
      refine pw_iload dX5_drawBorder_101 rfl ?_
      refine pw_if_lt (tgt := 143) dX5_drawBorder_103 rfl (by omega) (fun c103 => ?_) (fun c103 => ?_)
      ·
        exact pw_vret dX5_drawBorder_143 rfl (nle rfl) (nle rfl) (by rw [brF_n (by omega), pz_up_id hpic] at hQ; exact hQ)
      ·
        refine pw_iload dX5_drawBorder_106 rfl ?_
        refine pw_aload_n dX5_drawBorder_108 rfl ?_
        refine pw_alenI (t := 0) rfl ((ptNo hnp).trans hpic) dX5_drawBorder_109 ?_
        refine pw_icmp_ge (tgt := 143) dX5_drawBorder_110 rfl (by omega) (by omega) (fun c110 => ?_) (fun c110 => ?_)
        ·
          exact pw_vret dX5_drawBorder_143 rfl (nle rfl) (nle rfl) (by rw [brF_n (by omega), pz_up_id hpic] at hQ; exact hQ)
        ·
          refine pw_aload_n dX5_drawBorder_113 rfl ?_
          refine pw_iload dX5_drawBorder_114 rfl ?_
          refine pw_aload_n dX5_drawBorder_116 rfl ?_
          refine pw_get (v := .int (zI ((P a).1 4))) okX5 (k := 4) (by decide) lkX5_30 (ptAt hDa) rfl dX5_drawBorder_117 ?_
          refine pw_if_eq (tgt := 128) dX5_drawBorder_120 rfl (by omega) (fun c120 => ?_) (fun c120 => ?_)
          ·
            refine pw_bipush (v := zI (124)) dX5_drawBorder_128 (by decide) ?_
            refine pw_iast (t := 0) rfl ((ptNo hnp).trans hpic) (by omega) (by omega) dX5_drawBorder_130 ?_
            refine pw_h (h' := ptPut D P (va_up h pic (pz_z 0 N (va_up f (at_).toNat (124))))) (ptUpN hnp) ?_
            refine pw_iload dX5_drawBorder_131 rfl ?_
            refine pw_iload_n dX5_drawBorder_133 rfl ?_
            refine pw_ziadd dX5_drawBorder_134 ?_
            refine pw_istore (lv' := [some (.ref a), some (.ref pic), some (.int (zI (w))), some (.int (zI (step))), some (.int (zI (len))), some (.int (zI (at_ + step))), some (.int (zI (i)))]) dX5_drawBorder_135 (by decide) rfl rfl ?_
            refine pw_ziinc (lv' := [some (.ref a), some (.ref pic), some (.int (zI (w))), some (.int (zI (step))), some (.int (zI (len))), some (.int (zI (at_ + step))), some (.int (zI (i + 1)))]) dX5_drawBorder_137 rfl (by decide) rfl rfl ?_
            refine pw_goto (tgt := 94) dX5_drawBorder_140 rfl ?_
            have ech : ch = 124 := hch.trans (if_pos (by omega))
            rw [brF_s (by omega) (by omega), ech] at hQ
            exact ih (i + 1) _ _ _ (by omega) (by omega) (va_up_self _ _ _) (by omega) (by rw [pz_up_up, ech]; exact hQ)
          ·
            refine pw_bipush (v := zI (45)) dX5_drawBorder_123 (by decide) ?_
            refine pw_goto (tgt := 130) dX5_drawBorder_125 rfl ?_
            refine pw_iast (t := 0) rfl ((ptNo hnp).trans hpic) (by omega) (by omega) dX5_drawBorder_130 ?_
            refine pw_h (h' := ptPut D P (va_up h pic (pz_z 0 N (va_up f (at_).toNat (45))))) (ptUpN hnp) ?_
            refine pw_iload dX5_drawBorder_131 rfl ?_
            refine pw_iload_n dX5_drawBorder_133 rfl ?_
            refine pw_ziadd dX5_drawBorder_134 ?_
            refine pw_istore (lv' := [some (.ref a), some (.ref pic), some (.int (zI (w))), some (.int (zI (step))), some (.int (zI (len))), some (.int (zI (at_ + step))), some (.int (zI (i)))]) dX5_drawBorder_135 (by decide) rfl rfl ?_
            refine pw_ziinc (lv' := [some (.ref a), some (.ref pic), some (.int (zI (w))), some (.int (zI (step))), some (.int (zI (len))), some (.int (zI (at_ + step))), some (.int (zI (i + 1)))]) dX5_drawBorder_137 rfl (by decide) rfl rfl ?_
            refine pw_goto (tgt := 94) dX5_drawBorder_140 rfl ?_
            have ech : ch = 45 := hch.trans (if_neg (by omega))
            rw [brF_s (by omega) (by omega), ech] at hQ
            exact ih (i + 1) _ _ _ (by omega) (by omega) (va_up_self _ _ _) (by omega) (by rw [pz_up_up, ech]; exact hQ)
set_option maxHeartbeats 4000000 in
set_option maxRecDepth 100000 in
/-- Part.drawBorder(picture, width) -/
theorem mX5_drawBorder {E : pw_E} (htr : E.1.stackTraces = false) {h : pz_H} {n : Nat} {D : Nat → Bool} {P : Nat → ptC} {pic N : Nat} {f : Nat → Int} {w L : Int} (hpic : h pic = pz_z 0 N f) (hnp : ¬ D pic = true) (hN : N ≤ 100000) (hcl : ptCl D P) (hB : ptBd L P) (hL : L ≤ 5000) (hPo : ptPos P) (hw : 0 ≤ w ∧ w ≤ 100) {a : Nat} (hDa : D a = true) : pw_M E yX5_drawBorder YX5_drawBorder (rmD 1 0 0) [.ref a, .ref pic, .int (zI w)] (ptPut D P h) n (fun r h' n' => r = none ∧ h' = ptPut D P (va_up h pic (pz_z 0 N (brD P w N a f))) ∧ n' = n) (fun _ _ _ => False) := by
  refine pw_M_of (lv := [some (.ref a), some (.ref pic), some (.int (zI (w))), none, none, none, none]) (by decide) rfl rfl htr (nle rfl) rfl (fun _ => ?_)
  have hdn := (hB.2 a).2.2
  have hba := hB.2 a
  have hB1 := hB.1
  refine pw_aload_n dX5_drawBorder_0 rfl ?_
  refine pw_callV (As := []) (b := a) (rm := rmD 0 0 0) (mX5_isSplit htr (ptAt hDa)) rfl (ptAt hDa) rfl rfl ywX5_isSplit rfl cwX5_26 (rmC (by omega) (nle rfl)) (nle rfl) ⟨nle rfl, nle rfl⟩ dX5_drawBorder_1 ?_ (fun _ _ _ z => z.elim)
  intro r2 h2 n2 hq _
  rw [hq.1, hq.2.1, hq.2.2]
  show pw E YX5_drawBorder _ _ 0 0 4 [some (.ref a), some (.ref pic), some (.int (zI (w))), none, none, none, none] [.int (zI (if ptSplit (P a) then 1 else 0))] (ptPut D P h) n
  by_cases hs : ptSplit (P a)
  ·
    rw [if_pos hs]
    obtain ⟨x, hx⟩ := Option.ne_none_iff_exists'.mp hs.1
    obtain ⟨y, hy⟩ := Option.ne_none_iff_exists'.mp hs.2
    have dx := hcl a hDa 0 x hx
    have dy := hcl a hDa 1 y hy
    refine pw_if_ne (tgt := 8) dX5_drawBorder_4 rfl (by omega) (fun c4 => ?_) (fun c4 => ?_)
    ·
      have hbx := hB.2 x
      have hpa := hPo a
      have m0 := brMul (a := (P a).1 1) (w := w) (by omega) hw
      have m1 := brMul (a := (P a).1 1 + (P x).1 3) (w := w) (by omega) hw
      refine pw_aload_n dX5_drawBorder_8 rfl ?_
      refine pw_get (v := .int (zI ((P a).1 4))) okX5 (k := 4) (by decide) lkX5_30 (ptAt hDa) rfl dX5_drawBorder_9 ?_
      refine pw_if_eq (tgt := 19) dX5_drawBorder_12 rfl (by omega) (fun c12 => ?_) (fun c12 => ?_)
      ·
        refine pw_iload_n dX5_drawBorder_19 rfl ?_
        refine pw_istore_n (lv' := [some (.ref a), some (.ref pic), some (.int (zI (w))), some (.int (zI (w))), none, none, none]) dX5_drawBorder_20 (by decide) rfl rfl ?_
        refine pw_aload_n dX5_drawBorder_21 rfl ?_
        refine pw_get (v := .int (zI ((P a).1 4))) okX5 (k := 4) (by decide) lkX5_30 (ptAt hDa) rfl dX5_drawBorder_22 ?_
        refine pw_if_eq (tgt := 35) dX5_drawBorder_25 rfl (by omega) (fun c25 => ?_) (fun c25 => ?_)
        ·
          refine pw_aload_n dX5_drawBorder_35 rfl ?_
          refine pw_get (v := .int (zI ((P a).1 3))) okX5 (k := 3) (by decide) lkX5_13 (ptAt hDa) rfl dX5_drawBorder_36 ?_
          refine pw_istore (lv' := [some (.ref a), some (.ref pic), some (.int (zI (w))), some (.int (zI (w))), some (.int (zI ((P a).1 3))), none, none]) dX5_drawBorder_39 (by decide) rfl rfl ?_
          refine pw_aload_n dX5_drawBorder_41 rfl ?_
          refine pw_get (v := .int (zI ((P a).1 4))) okX5 (k := 4) (by decide) lkX5_30 (ptAt hDa) rfl dX5_drawBorder_42 ?_
          refine pw_if_eq (tgt := 70) dX5_drawBorder_45 rfl (by omega) (fun c45 => ?_) (fun c45 => ?_)
          ·
            refine pw_aload_n dX5_drawBorder_70 rfl ?_
            refine pw_get (v := .int (zI ((P a).1 1))) okX5 (k := 1) (by decide) lkX5_34 (ptAt hDa) rfl dX5_drawBorder_71 ?_
            refine pw_iload_n dX5_drawBorder_74 rfl ?_
            refine pw_zimul dX5_drawBorder_75 ?_
            refine pw_aload_n dX5_drawBorder_76 rfl ?_
            refine pw_get (v := .int (zI ((P a).1 0))) okX5 (k := 0) (by decide) lkX5_37 (ptAt hDa) rfl dX5_drawBorder_77 ?_
            refine pw_ziadd dX5_drawBorder_80 ?_
            refine pw_aload_n dX5_drawBorder_81 rfl ?_
            refine pw_get (v := rv ((P a).2 0)) okX5 (k := 5) (by decide) lkX5_20 (ptAt hDa) rfl dX5_drawBorder_82 ?_
            refine pw_some (hx) ?_
            refine pw_get (v := .int (zI ((P x).1 2))) okX5 (k := 2) (by decide) lkX5_17 (ptAt dx) rfl dX5_drawBorder_85 ?_
            refine pw_ziadd dX5_drawBorder_88 ?_
            refine pw_istore (lv' := [some (.ref a), some (.ref pic), some (.int (zI (w))), some (.int (zI (w))), some (.int (zI ((P a).1 3))), some (.int (zI (((((P a).1 1) * (w)) + ((P a).1 0)) + ((P x).1 2)))), none]) dX5_drawBorder_89 (by decide) rfl rfl ?_
            refine pw_iconst (v := zI (0)) dX5_drawBorder_91 (by decide) ?_
            refine pw_istore (lv' := [some (.ref a), some (.ref pic), some (.int (zI (w))), some (.int (zI (w))), some (.int (zI ((P a).1 3))), some (.int (zI (((((P a).1 1) * (w)) + ((P a).1 0)) + ((P x).1 2)))), some (.int (zI (0)))]) dX5_drawBorder_92 (by decide) rfl rfl ?_
            first | (exfalso; omega) | exact lX5_db htr (ch := 124) hDa hnp hN (by omega) (by omega) hdn ((if_pos c12).symm) _ 0 _ _ _ rfl (by omega) hpic (by omega) ⟨rfl, by rw [brD_0 hs hx c12, Int.sub_zero], rfl⟩
          ·
            refine pw_aload_n dX5_drawBorder_48 rfl ?_
            refine pw_get (v := .int (zI ((P a).1 1))) okX5 (k := 1) (by decide) lkX5_34 (ptAt hDa) rfl dX5_drawBorder_49 ?_
            refine pw_aload_n dX5_drawBorder_52 rfl ?_
            refine pw_get (v := rv ((P a).2 0)) okX5 (k := 5) (by decide) lkX5_20 (ptAt hDa) rfl dX5_drawBorder_53 ?_
            refine pw_some (hx) ?_
            refine pw_get (v := .int (zI ((P x).1 3))) okX5 (k := 3) (by decide) lkX5_13 (ptAt dx) rfl dX5_drawBorder_56 ?_
            refine pw_ziadd dX5_drawBorder_59 ?_
            refine pw_iload_n dX5_drawBorder_60 rfl ?_
            refine pw_zimul dX5_drawBorder_61 ?_
            refine pw_aload_n dX5_drawBorder_62 rfl ?_
            refine pw_get (v := .int (zI ((P a).1 0))) okX5 (k := 0) (by decide) lkX5_37 (ptAt hDa) rfl dX5_drawBorder_63 ?_
            refine pw_ziadd dX5_drawBorder_66 ?_
            refine pw_goto (tgt := 89) dX5_drawBorder_67 rfl ?_
            refine pw_istore (lv' := [some (.ref a), some (.ref pic), some (.int (zI (w))), some (.int (zI (w))), some (.int (zI ((P a).1 3))), some (.int (zI (((((P a).1 1) + ((P x).1 3)) * (w)) + ((P a).1 0)))), none]) dX5_drawBorder_89 (by decide) rfl rfl ?_
            refine pw_iconst (v := zI (0)) dX5_drawBorder_91 (by decide) ?_
            refine pw_istore (lv' := [some (.ref a), some (.ref pic), some (.int (zI (w))), some (.int (zI (w))), some (.int (zI ((P a).1 3))), some (.int (zI (((((P a).1 1) + ((P x).1 3)) * (w)) + ((P a).1 0)))), some (.int (zI (0)))]) dX5_drawBorder_92 (by decide) rfl rfl ?_
            first | (exfalso; omega) | exact lX5_db htr (ch := 124) hDa hnp hN (by omega) (by omega) hdn ((if_pos c12).symm) _ 0 _ _ _ rfl (by omega) hpic (by omega) ⟨rfl, by rw [brD_0 hs hx c12, Int.sub_zero], rfl⟩
        ·
          refine pw_aload_n dX5_drawBorder_28 rfl ?_
          refine pw_get (v := .int (zI ((P a).1 2))) okX5 (k := 2) (by decide) lkX5_17 (ptAt hDa) rfl dX5_drawBorder_29 ?_
          refine pw_goto (tgt := 39) dX5_drawBorder_32 rfl ?_
          refine pw_istore (lv' := [some (.ref a), some (.ref pic), some (.int (zI (w))), some (.int (zI (w))), some (.int (zI ((P a).1 2))), none, none]) dX5_drawBorder_39 (by decide) rfl rfl ?_
          refine pw_aload_n dX5_drawBorder_41 rfl ?_
          refine pw_get (v := .int (zI ((P a).1 4))) okX5 (k := 4) (by decide) lkX5_30 (ptAt hDa) rfl dX5_drawBorder_42 ?_
          refine pw_if_eq (tgt := 70) dX5_drawBorder_45 rfl (by omega) (fun c45 => ?_) (fun c45 => ?_)
          ·
            refine pw_aload_n dX5_drawBorder_70 rfl ?_
            refine pw_get (v := .int (zI ((P a).1 1))) okX5 (k := 1) (by decide) lkX5_34 (ptAt hDa) rfl dX5_drawBorder_71 ?_
            refine pw_iload_n dX5_drawBorder_74 rfl ?_
            refine pw_zimul dX5_drawBorder_75 ?_
            refine pw_aload_n dX5_drawBorder_76 rfl ?_
            refine pw_get (v := .int (zI ((P a).1 0))) okX5 (k := 0) (by decide) lkX5_37 (ptAt hDa) rfl dX5_drawBorder_77 ?_
            refine pw_ziadd dX5_drawBorder_80 ?_
            refine pw_aload_n dX5_drawBorder_81 rfl ?_
            refine pw_get (v := rv ((P a).2 0)) okX5 (k := 5) (by decide) lkX5_20 (ptAt hDa) rfl dX5_drawBorder_82 ?_
            refine pw_some (hx) ?_
            refine pw_get (v := .int (zI ((P x).1 2))) okX5 (k := 2) (by decide) lkX5_17 (ptAt dx) rfl dX5_drawBorder_85 ?_
            refine pw_ziadd dX5_drawBorder_88 ?_
            refine pw_istore (lv' := [some (.ref a), some (.ref pic), some (.int (zI (w))), some (.int (zI (w))), some (.int (zI ((P a).1 2))), some (.int (zI (((((P a).1 1) * (w)) + ((P a).1 0)) + ((P x).1 2)))), none]) dX5_drawBorder_89 (by decide) rfl rfl ?_
            refine pw_iconst (v := zI (0)) dX5_drawBorder_91 (by decide) ?_
            refine pw_istore (lv' := [some (.ref a), some (.ref pic), some (.int (zI (w))), some (.int (zI (w))), some (.int (zI ((P a).1 2))), some (.int (zI (((((P a).1 1) * (w)) + ((P a).1 0)) + ((P x).1 2)))), some (.int (zI (0)))]) dX5_drawBorder_92 (by decide) rfl rfl ?_
            first | (exfalso; omega) | exact lX5_db htr (ch := 124) hDa hnp hN (by omega) (by omega) hdn ((if_pos c12).symm) _ 0 _ _ _ rfl (by omega) hpic (by omega) ⟨rfl, by rw [brD_0 hs hx c12, Int.sub_zero], rfl⟩
          ·
            refine pw_aload_n dX5_drawBorder_48 rfl ?_
            refine pw_get (v := .int (zI ((P a).1 1))) okX5 (k := 1) (by decide) lkX5_34 (ptAt hDa) rfl dX5_drawBorder_49 ?_
            refine pw_aload_n dX5_drawBorder_52 rfl ?_
            refine pw_get (v := rv ((P a).2 0)) okX5 (k := 5) (by decide) lkX5_20 (ptAt hDa) rfl dX5_drawBorder_53 ?_
            refine pw_some (hx) ?_
            refine pw_get (v := .int (zI ((P x).1 3))) okX5 (k := 3) (by decide) lkX5_13 (ptAt dx) rfl dX5_drawBorder_56 ?_
            refine pw_ziadd dX5_drawBorder_59 ?_
            refine pw_iload_n dX5_drawBorder_60 rfl ?_
            refine pw_zimul dX5_drawBorder_61 ?_
            refine pw_aload_n dX5_drawBorder_62 rfl ?_
            refine pw_get (v := .int (zI ((P a).1 0))) okX5 (k := 0) (by decide) lkX5_37 (ptAt hDa) rfl dX5_drawBorder_63 ?_
            refine pw_ziadd dX5_drawBorder_66 ?_
            refine pw_goto (tgt := 89) dX5_drawBorder_67 rfl ?_
            refine pw_istore (lv' := [some (.ref a), some (.ref pic), some (.int (zI (w))), some (.int (zI (w))), some (.int (zI ((P a).1 2))), some (.int (zI (((((P a).1 1) + ((P x).1 3)) * (w)) + ((P a).1 0)))), none]) dX5_drawBorder_89 (by decide) rfl rfl ?_
            refine pw_iconst (v := zI (0)) dX5_drawBorder_91 (by decide) ?_
            refine pw_istore (lv' := [some (.ref a), some (.ref pic), some (.int (zI (w))), some (.int (zI (w))), some (.int (zI ((P a).1 2))), some (.int (zI (((((P a).1 1) + ((P x).1 3)) * (w)) + ((P a).1 0)))), some (.int (zI (0)))]) dX5_drawBorder_92 (by decide) rfl rfl ?_
            first | (exfalso; omega) | exact lX5_db htr (ch := 124) hDa hnp hN (by omega) (by omega) hdn ((if_pos c12).symm) _ 0 _ _ _ rfl (by omega) hpic (by omega) ⟨rfl, by rw [brD_0 hs hx c12, Int.sub_zero], rfl⟩
      ·
        refine pw_iconst (v := zI (1)) dX5_drawBorder_15 (by decide) ?_
        refine pw_goto (tgt := 20) dX5_drawBorder_16 rfl ?_
        refine pw_istore_n (lv' := [some (.ref a), some (.ref pic), some (.int (zI (w))), some (.int (zI (1))), none, none, none]) dX5_drawBorder_20 (by decide) rfl rfl ?_
        refine pw_aload_n dX5_drawBorder_21 rfl ?_
        refine pw_get (v := .int (zI ((P a).1 4))) okX5 (k := 4) (by decide) lkX5_30 (ptAt hDa) rfl dX5_drawBorder_22 ?_
        refine pw_if_eq (tgt := 35) dX5_drawBorder_25 rfl (by omega) (fun c25 => ?_) (fun c25 => ?_)
        ·
          refine pw_aload_n dX5_drawBorder_35 rfl ?_
          refine pw_get (v := .int (zI ((P a).1 3))) okX5 (k := 3) (by decide) lkX5_13 (ptAt hDa) rfl dX5_drawBorder_36 ?_
          refine pw_istore (lv' := [some (.ref a), some (.ref pic), some (.int (zI (w))), some (.int (zI (1))), some (.int (zI ((P a).1 3))), none, none]) dX5_drawBorder_39 (by decide) rfl rfl ?_
          refine pw_aload_n dX5_drawBorder_41 rfl ?_
          refine pw_get (v := .int (zI ((P a).1 4))) okX5 (k := 4) (by decide) lkX5_30 (ptAt hDa) rfl dX5_drawBorder_42 ?_
          refine pw_if_eq (tgt := 70) dX5_drawBorder_45 rfl (by omega) (fun c45 => ?_) (fun c45 => ?_)
          ·
            refine pw_aload_n dX5_drawBorder_70 rfl ?_
            refine pw_get (v := .int (zI ((P a).1 1))) okX5 (k := 1) (by decide) lkX5_34 (ptAt hDa) rfl dX5_drawBorder_71 ?_
            refine pw_iload_n dX5_drawBorder_74 rfl ?_
            refine pw_zimul dX5_drawBorder_75 ?_
            refine pw_aload_n dX5_drawBorder_76 rfl ?_
            refine pw_get (v := .int (zI ((P a).1 0))) okX5 (k := 0) (by decide) lkX5_37 (ptAt hDa) rfl dX5_drawBorder_77 ?_
            refine pw_ziadd dX5_drawBorder_80 ?_
            refine pw_aload_n dX5_drawBorder_81 rfl ?_
            refine pw_get (v := rv ((P a).2 0)) okX5 (k := 5) (by decide) lkX5_20 (ptAt hDa) rfl dX5_drawBorder_82 ?_
            refine pw_some (hx) ?_
            refine pw_get (v := .int (zI ((P x).1 2))) okX5 (k := 2) (by decide) lkX5_17 (ptAt dx) rfl dX5_drawBorder_85 ?_
            refine pw_ziadd dX5_drawBorder_88 ?_
            refine pw_istore (lv' := [some (.ref a), some (.ref pic), some (.int (zI (w))), some (.int (zI (1))), some (.int (zI ((P a).1 3))), some (.int (zI (((((P a).1 1) * (w)) + ((P a).1 0)) + ((P x).1 2)))), none]) dX5_drawBorder_89 (by decide) rfl rfl ?_
            refine pw_iconst (v := zI (0)) dX5_drawBorder_91 (by decide) ?_
            refine pw_istore (lv' := [some (.ref a), some (.ref pic), some (.int (zI (w))), some (.int (zI (1))), some (.int (zI ((P a).1 3))), some (.int (zI (((((P a).1 1) * (w)) + ((P a).1 0)) + ((P x).1 2)))), some (.int (zI (0)))]) dX5_drawBorder_92 (by decide) rfl rfl ?_
            first | (exfalso; omega) | exact lX5_db htr (ch := 45) hDa hnp hN (by omega) (by omega) hdn ((if_neg c12).symm) _ 0 _ _ _ rfl (by omega) hpic (by omega) ⟨rfl, by rw [brD_1 hs hx c12, Int.sub_zero], rfl⟩
          ·
            refine pw_aload_n dX5_drawBorder_48 rfl ?_
            refine pw_get (v := .int (zI ((P a).1 1))) okX5 (k := 1) (by decide) lkX5_34 (ptAt hDa) rfl dX5_drawBorder_49 ?_
            refine pw_aload_n dX5_drawBorder_52 rfl ?_
            refine pw_get (v := rv ((P a).2 0)) okX5 (k := 5) (by decide) lkX5_20 (ptAt hDa) rfl dX5_drawBorder_53 ?_
            refine pw_some (hx) ?_
            refine pw_get (v := .int (zI ((P x).1 3))) okX5 (k := 3) (by decide) lkX5_13 (ptAt dx) rfl dX5_drawBorder_56 ?_
            refine pw_ziadd dX5_drawBorder_59 ?_
            refine pw_iload_n dX5_drawBorder_60 rfl ?_
            refine pw_zimul dX5_drawBorder_61 ?_
            refine pw_aload_n dX5_drawBorder_62 rfl ?_
            refine pw_get (v := .int (zI ((P a).1 0))) okX5 (k := 0) (by decide) lkX5_37 (ptAt hDa) rfl dX5_drawBorder_63 ?_
            refine pw_ziadd dX5_drawBorder_66 ?_
            refine pw_goto (tgt := 89) dX5_drawBorder_67 rfl ?_
            refine pw_istore (lv' := [some (.ref a), some (.ref pic), some (.int (zI (w))), some (.int (zI (1))), some (.int (zI ((P a).1 3))), some (.int (zI (((((P a).1 1) + ((P x).1 3)) * (w)) + ((P a).1 0)))), none]) dX5_drawBorder_89 (by decide) rfl rfl ?_
            refine pw_iconst (v := zI (0)) dX5_drawBorder_91 (by decide) ?_
            refine pw_istore (lv' := [some (.ref a), some (.ref pic), some (.int (zI (w))), some (.int (zI (1))), some (.int (zI ((P a).1 3))), some (.int (zI (((((P a).1 1) + ((P x).1 3)) * (w)) + ((P a).1 0)))), some (.int (zI (0)))]) dX5_drawBorder_92 (by decide) rfl rfl ?_
            first | (exfalso; omega) | exact lX5_db htr (ch := 45) hDa hnp hN (by omega) (by omega) hdn ((if_neg c12).symm) _ 0 _ _ _ rfl (by omega) hpic (by omega) ⟨rfl, by rw [brD_1 hs hx c12, Int.sub_zero], rfl⟩
        ·
          refine pw_aload_n dX5_drawBorder_28 rfl ?_
          refine pw_get (v := .int (zI ((P a).1 2))) okX5 (k := 2) (by decide) lkX5_17 (ptAt hDa) rfl dX5_drawBorder_29 ?_
          refine pw_goto (tgt := 39) dX5_drawBorder_32 rfl ?_
          refine pw_istore (lv' := [some (.ref a), some (.ref pic), some (.int (zI (w))), some (.int (zI (1))), some (.int (zI ((P a).1 2))), none, none]) dX5_drawBorder_39 (by decide) rfl rfl ?_
          refine pw_aload_n dX5_drawBorder_41 rfl ?_
          refine pw_get (v := .int (zI ((P a).1 4))) okX5 (k := 4) (by decide) lkX5_30 (ptAt hDa) rfl dX5_drawBorder_42 ?_
          refine pw_if_eq (tgt := 70) dX5_drawBorder_45 rfl (by omega) (fun c45 => ?_) (fun c45 => ?_)
          ·
            refine pw_aload_n dX5_drawBorder_70 rfl ?_
            refine pw_get (v := .int (zI ((P a).1 1))) okX5 (k := 1) (by decide) lkX5_34 (ptAt hDa) rfl dX5_drawBorder_71 ?_
            refine pw_iload_n dX5_drawBorder_74 rfl ?_
            refine pw_zimul dX5_drawBorder_75 ?_
            refine pw_aload_n dX5_drawBorder_76 rfl ?_
            refine pw_get (v := .int (zI ((P a).1 0))) okX5 (k := 0) (by decide) lkX5_37 (ptAt hDa) rfl dX5_drawBorder_77 ?_
            refine pw_ziadd dX5_drawBorder_80 ?_
            refine pw_aload_n dX5_drawBorder_81 rfl ?_
            refine pw_get (v := rv ((P a).2 0)) okX5 (k := 5) (by decide) lkX5_20 (ptAt hDa) rfl dX5_drawBorder_82 ?_
            refine pw_some (hx) ?_
            refine pw_get (v := .int (zI ((P x).1 2))) okX5 (k := 2) (by decide) lkX5_17 (ptAt dx) rfl dX5_drawBorder_85 ?_
            refine pw_ziadd dX5_drawBorder_88 ?_
            refine pw_istore (lv' := [some (.ref a), some (.ref pic), some (.int (zI (w))), some (.int (zI (1))), some (.int (zI ((P a).1 2))), some (.int (zI (((((P a).1 1) * (w)) + ((P a).1 0)) + ((P x).1 2)))), none]) dX5_drawBorder_89 (by decide) rfl rfl ?_
            refine pw_iconst (v := zI (0)) dX5_drawBorder_91 (by decide) ?_
            refine pw_istore (lv' := [some (.ref a), some (.ref pic), some (.int (zI (w))), some (.int (zI (1))), some (.int (zI ((P a).1 2))), some (.int (zI (((((P a).1 1) * (w)) + ((P a).1 0)) + ((P x).1 2)))), some (.int (zI (0)))]) dX5_drawBorder_92 (by decide) rfl rfl ?_
            first | (exfalso; omega) | exact lX5_db htr (ch := 45) hDa hnp hN (by omega) (by omega) hdn ((if_neg c12).symm) _ 0 _ _ _ rfl (by omega) hpic (by omega) ⟨rfl, by rw [brD_1 hs hx c12, Int.sub_zero], rfl⟩
          ·
            refine pw_aload_n dX5_drawBorder_48 rfl ?_
            refine pw_get (v := .int (zI ((P a).1 1))) okX5 (k := 1) (by decide) lkX5_34 (ptAt hDa) rfl dX5_drawBorder_49 ?_
            refine pw_aload_n dX5_drawBorder_52 rfl ?_
            refine pw_get (v := rv ((P a).2 0)) okX5 (k := 5) (by decide) lkX5_20 (ptAt hDa) rfl dX5_drawBorder_53 ?_
            refine pw_some (hx) ?_
            refine pw_get (v := .int (zI ((P x).1 3))) okX5 (k := 3) (by decide) lkX5_13 (ptAt dx) rfl dX5_drawBorder_56 ?_
            refine pw_ziadd dX5_drawBorder_59 ?_
            refine pw_iload_n dX5_drawBorder_60 rfl ?_
            refine pw_zimul dX5_drawBorder_61 ?_
            refine pw_aload_n dX5_drawBorder_62 rfl ?_
            refine pw_get (v := .int (zI ((P a).1 0))) okX5 (k := 0) (by decide) lkX5_37 (ptAt hDa) rfl dX5_drawBorder_63 ?_
            refine pw_ziadd dX5_drawBorder_66 ?_
            refine pw_goto (tgt := 89) dX5_drawBorder_67 rfl ?_
            refine pw_istore (lv' := [some (.ref a), some (.ref pic), some (.int (zI (w))), some (.int (zI (1))), some (.int (zI ((P a).1 2))), some (.int (zI (((((P a).1 1) + ((P x).1 3)) * (w)) + ((P a).1 0)))), none]) dX5_drawBorder_89 (by decide) rfl rfl ?_
            refine pw_iconst (v := zI (0)) dX5_drawBorder_91 (by decide) ?_
            refine pw_istore (lv' := [some (.ref a), some (.ref pic), some (.int (zI (w))), some (.int (zI (1))), some (.int (zI ((P a).1 2))), some (.int (zI (((((P a).1 1) + ((P x).1 3)) * (w)) + ((P a).1 0)))), some (.int (zI (0)))]) dX5_drawBorder_92 (by decide) rfl rfl ?_
            first | (exfalso; omega) | exact lX5_db htr (ch := 45) hDa hnp hN (by omega) (by omega) hdn ((if_neg c12).symm) _ 0 _ _ _ rfl (by omega) hpic (by omega) ⟨rfl, by rw [brD_1 hs hx c12, Int.sub_zero], rfl⟩
    · exfalso; omega
  ·
    rw [if_neg hs]
    refine pw_if_ne (tgt := 8) dX5_drawBorder_4 rfl (by omega) (fun c4 => ?_) (fun c4 => ?_)
    · exfalso; omega
    ·
      exact pw_vret dX5_drawBorder_7 rfl (nle rfl) (nle rfl) ⟨rfl, by rw [brD_n hs, pz_up_id hpic], rfl⟩
