def YX2_drawBorders_ : pw_Y := (RX2, "drawBorders", cX2_drawBorders_, 4, none)
theorem ywX2_drawBorders_ : pw_y yX2_drawBorders_ YX2_drawBorders_ 4 := ⟨by decide +kernel, by decide +kernel, by decide +kernel, pw_in 830 (by decide +kernel) (by decide +kernel), pw_in 87 (by decide +kernel) (by decide +kernel)⟩
theorem cwX2_90 : Cond.methodLink RX2 90 yX5_drawBorder ∈ pw_G ∧ Cond.instanceMethod yX5_drawBorder ∈ pw_G ∧ Cond.selects RX5 yX5_drawBorder yX5_drawBorder ∈ pw_G := ⟨pw_in 835 (by decide +kernel) (by decide +kernel), pw_in 836 (by decide +kernel) (by decide +kernel), pw_in 837 (by decide +kernel) (by decide +kernel)⟩
theorem cwX2_77 : Cond.methodLink RX2 77 yX2_drawBorders_ ∈ pw_G ∧ Cond.static yX2_drawBorders_ ∈ pw_G := ⟨pw_in 828 (by decide +kernel) (by decide +kernel), pw_in 829 (by decide +kernel) (by decide +kernel)⟩
def YX2_drawBorders : pw_Y := (RX2, "drawBorders", cX2_drawBorders, 3, none)
theorem ywX2_drawBorders : pw_y yX2_drawBorders YX2_drawBorders 2 := ⟨by decide +kernel, by decide +kernel, by decide +kernel, pw_in 827 (by decide +kernel) (by decide +kernel), pw_in 87 (by decide +kernel) (by decide +kernel)⟩
set_option maxHeartbeats 4000000 in
set_option maxRecDepth 100000 in
/-- Layout.drawBorders(part, picture, width, depth) -/
theorem mX2_drawBorders_ {E : pw_E} (htr : E.1.stackTraces = false) {n : Nat} {D : Nat → Bool} {P : Nat → ptC} {pic N : Nat} {w L : Int} (hnp : ¬ D pic = true) (hN : N ≤ 100000) (hcl : ptCl D P) (hB : ptBd L P) (hL : L ≤ 5000) (hPo : ptPos P) (hw : 0 ≤ w ∧ w ≤ 100) : ∀ (k : Nat), k ≤ 9 → ∀ (a : Nat) (d : Int) (h : pz_H) (f : Nat → Int), d = 9 - (k : Int) → D a = true → h pic = pz_z 0 N f → pw_M E yX2_drawBorders_ YX2_drawBorders_ (rmD (k + 2) 0 0) [.ref a, .ref pic, .int (zI (w)), .int (zI (d))] (ptPut D P h) n (fun r h' n' => r = none ∧ h' = ptPut D P (va_up h pic (pz_z 0 N (brA P w N k a f))) ∧ n' = n) (fun _ _ _ => False) := by
  intro k
  induction k with
  | zero =>
    intro hk9
    intro a d h f hd hDa hpic
    refine pw_M_of (lv := [some (.ref a), some (.ref pic), some (.int (zI (w))), some (.int (zI (d)))]) (by decide) rfl rfl htr (nle rfl) rfl (fun _ => ?_)
    refine pw_aload_n dX2_drawBorders__0 rfl ?_
    refine pw_callV (As := []) (b := a) (rm := rmD 0 0 0) (mX5_isSplit htr (ptAt hDa)) rfl (ptAt hDa) rfl rfl ywX5_isSplit rfl cwX2_69 (rmC (by omega) (nle rfl)) (nle rfl) ⟨nle rfl, nle rfl⟩ dX2_drawBorders__1 ?_ (fun _ _ _ z => z.elim)
    intro r2 h2 n2 hq _
    rw [hq.1, hq.2.1, hq.2.2]
    show pw E YX2_drawBorders_ _ _ 0 0 4 [some (.ref a), some (.ref pic), some (.int (zI (w))), some (.int (zI (d)))] [.int (zI (if ptSplit (P a) then 1 else 0))] (ptPut D P h) n
    by_cases hs : ptSplit (P a)
    ·
      rw [if_pos hs]
      obtain ⟨x, hx⟩ := Option.ne_none_iff_exists'.mp hs.1
      obtain ⟨y, hy⟩ := Option.ne_none_iff_exists'.mp hs.2
      have dx := hcl a hDa 0 x hx
      have dy := hcl a hDa 1 y hy
      refine pw_if_eq (tgt := 43) dX2_drawBorders__4 rfl (by omega) (fun c4 => ?_) (fun c4 => ?_)
      · exfalso; omega
      ·
        refine pw_iload_n dX2_drawBorders__7 rfl ?_
        refine pw_bipush (v := zI (8)) dX2_drawBorders__8 (by decide) ?_
        refine pw_icmp_gt (tgt := 43) dX2_drawBorders__10 rfl (by omega) (by omega) (fun c10 => ?_) (fun c10 => ?_)
        ·
          exact pw_vret dX2_drawBorders__43 rfl (nle rfl) (nle rfl) ⟨rfl, by rw [show brA P w N 0 a f = f from rfl, pz_up_id hpic], rfl⟩
        · exfalso; omega
    ·
      rw [if_neg hs]
      refine pw_if_eq (tgt := 43) dX2_drawBorders__4 rfl (by omega) (fun c4 => ?_) (fun c4 => ?_)
      ·
        exact pw_vret dX2_drawBorders__43 rfl (nle rfl) (nle rfl) ⟨rfl, by rw [show brA P w N 0 a f = f from rfl, pz_up_id hpic], rfl⟩
      · exfalso; omega
  | succ k ih0 =>
    intro hk9
    have ih := ih0 (by omega)
    intro a d h f hd hDa hpic
    refine pw_M_of (lv := [some (.ref a), some (.ref pic), some (.int (zI (w))), some (.int (zI (d)))]) (by decide) rfl rfl htr (nle rfl) rfl (fun _ => ?_)
    refine pw_aload_n dX2_drawBorders__0 rfl ?_
    refine pw_callV (As := []) (b := a) (rm := rmD 0 0 0) (mX5_isSplit htr (ptAt hDa)) rfl (ptAt hDa) rfl rfl ywX5_isSplit rfl cwX2_69 (rmC (by omega) (nle rfl)) (nle rfl) ⟨nle rfl, nle rfl⟩ dX2_drawBorders__1 ?_ (fun _ _ _ z => z.elim)
    intro r2 h2 n2 hq _
    rw [hq.1, hq.2.1, hq.2.2]
    show pw E YX2_drawBorders_ _ _ 0 0 4 [some (.ref a), some (.ref pic), some (.int (zI (w))), some (.int (zI (d)))] [.int (zI (if ptSplit (P a) then 1 else 0))] (ptPut D P h) n
    by_cases hs : ptSplit (P a)
    ·
      rw [if_pos hs]
      obtain ⟨x, hx⟩ := Option.ne_none_iff_exists'.mp hs.1
      obtain ⟨y, hy⟩ := Option.ne_none_iff_exists'.mp hs.2
      have dx := hcl a hDa 0 x hx
      have dy := hcl a hDa 1 y hy
      refine pw_if_eq (tgt := 43) dX2_drawBorders__4 rfl (by omega) (fun c4 => ?_) (fun c4 => ?_)
      · exfalso; omega
      ·
        refine pw_iload_n dX2_drawBorders__7 rfl ?_
        refine pw_bipush (v := zI (8)) dX2_drawBorders__8 (by decide) ?_
        refine pw_icmp_gt (tgt := 43) dX2_drawBorders__10 rfl (by omega) (by omega) (fun c10 => ?_) (fun c10 => ?_)
        · exfalso; omega
        ·
          refine pw_aload_n dX2_drawBorders__13 rfl ?_
          refine pw_aload_n dX2_drawBorders__14 rfl ?_
          refine pw_iload_n dX2_drawBorders__15 rfl ?_
          refine pw_callV (As := [.ref pic, .int (zI (w))]) (b := a) (rm := rmD 1 0 0) (mX5_drawBorder htr hpic hnp hN hcl hB hL hPo hw hDa) rfl (ptAt hDa) rfl rfl ywX5_drawBorder rfl cwX2_90 (rmC (by omega) (nle rfl)) (nle rfl) ⟨nle rfl, nle rfl⟩ dX2_drawBorders__16 ?_ (fun _ _ _ z => z.elim)
          intro r2 h2 n2 hq _
          rw [hq.1, hq.2.1, hq.2.2]
          show pw E YX2_drawBorders_ _ _ 0 0 19 [some (.ref a), some (.ref pic), some (.int (zI (w))), some (.int (zI (d)))] [] (ptPut D P (va_up h pic (pz_z 0 N (brD P w N a f)))) n
          refine pw_aload_n dX2_drawBorders__19 rfl ?_
          refine pw_getN (v := rv ((P a).2 0)) okX5 (k := 5) (by decide) lkX2_49 (ptAt hDa) rfl dX2_drawBorders__20 ?_
          refine pw_aload_n dX2_drawBorders__23 rfl ?_
          refine pw_iload_n dX2_drawBorders__24 rfl ?_
          refine pw_iload_n dX2_drawBorders__25 rfl ?_
          refine pw_iconst (v := zI (1)) dX2_drawBorders__26 (by decide) ?_
          refine pw_ziadd dX2_drawBorders__27 ?_
          refine pw_st (st' := [.int (zI (d + 1)), .int (zI (w)), .ref pic, .ref x]) (by rw [hx]; rfl) ?_
          refine pw_callS (As := [.ref x, .ref pic, .int (zI (w)), .int (zI (d + 1))]) (rm := rmD (k + 2) 0 0) (ih x (d + 1) _ _ (by omega) dx (va_up_self _ _ _)) rfl ywX2_drawBorders_ rfl cwX2_77 (rmC (by omega) (nle rfl)) (nle rfl) ⟨nle rfl, nle rfl⟩ dX2_drawBorders__28 ?_ (fun _ _ _ z => z.elim)
          intro r2 h2 n2 hq _
          rw [hq.1, hq.2.1, hq.2.2]
          show pw E YX2_drawBorders_ _ _ 0 0 31 [some (.ref a), some (.ref pic), some (.int (zI (w))), some (.int (zI (d)))] [] (ptPut D P (va_up (va_up h pic (pz_z 0 N (brD P w N a f))) pic (pz_z 0 N (brA P w N k x (brD P w N a f))))) n
          refine pw_aload_n dX2_drawBorders__31 rfl ?_
          refine pw_getN (v := rv ((P a).2 1)) okX5 (k := 6) (by decide) lkX2_52 (ptAt hDa) rfl dX2_drawBorders__32 ?_
          refine pw_aload_n dX2_drawBorders__35 rfl ?_
          refine pw_iload_n dX2_drawBorders__36 rfl ?_
          refine pw_iload_n dX2_drawBorders__37 rfl ?_
          refine pw_iconst (v := zI (1)) dX2_drawBorders__38 (by decide) ?_
          refine pw_ziadd dX2_drawBorders__39 ?_
          refine pw_st (st' := [.int (zI (d + 1)), .int (zI (w)), .ref pic, .ref y]) (by rw [hy]; rfl) ?_
          refine pw_callS (As := [.ref y, .ref pic, .int (zI (w)), .int (zI (d + 1))]) (rm := rmD (k + 2) 0 0) (ih y (d + 1) _ _ (by omega) dy (va_up_self _ _ _)) rfl ywX2_drawBorders_ rfl cwX2_77 (rmC (by omega) (nle rfl)) (nle rfl) ⟨nle rfl, nle rfl⟩ dX2_drawBorders__40 ?_ (fun _ _ _ z => z.elim)
          intro r2 h2 n2 hq _
          rw [hq.1, hq.2.1, hq.2.2]
          show pw E YX2_drawBorders_ _ _ 0 0 43 [some (.ref a), some (.ref pic), some (.int (zI (w))), some (.int (zI (d)))] [] (ptPut D P (va_up (va_up (va_up h pic (pz_z 0 N (brD P w N a f))) pic (pz_z 0 N (brA P w N k x (brD P w N a f)))) pic (pz_z 0 N (brA P w N k y (brA P w N k x (brD P w N a f)))))) n
          exact pw_vret dX2_drawBorders__43 rfl (nle rfl) (nle rfl) ⟨rfl, by rw [pz_up_up, pz_up_up, brA_s hs hx hy], rfl⟩
    ·
      rw [if_neg hs]
      refine pw_if_eq (tgt := 43) dX2_drawBorders__4 rfl (by omega) (fun c4 => ?_) (fun c4 => ?_)
      ·
        exact pw_vret dX2_drawBorders__43 rfl (nle rfl) (nle rfl) ⟨rfl, by rw [brA_n hs, pz_up_id hpic], rfl⟩
      · exfalso; omega
set_option maxHeartbeats 4000000 in
set_option maxRecDepth 100000 in
/-- Layout.drawBorders(picture, width) -/
theorem mX2_drawBorders {E : pw_E} (htr : E.1.stackTraces = false) {h : pz_H} {n : Nat} {D : Nat → Bool} {P : Nat → ptC} {pic N : Nat} {f : Nat → Int} {w L : Int} (hpic : h pic = pz_z 0 N f) (hnp : ¬ D pic = true) (hN : N ≤ 100000) (hcl : ptCl D P) (hB : ptBd L P) (hL : L ≤ 5000) (hPo : ptPos P) (hw : 0 ≤ w ∧ w ≤ 100) {ly lf rt : Nat} (hly : h ly = pz_o 5 [.ref lf, .ref rt]) (hnl : ¬ D ly = true) (hrt : D rt = true) : pw_M E yX2_drawBorders YX2_drawBorders (rmD 12 0 0) [.ref ly, .ref pic, .int (zI w)] (ptPut D P h) n (fun r h' n' => r = none ∧ h' = ptPut D P (va_up h pic (pz_z 0 N (brA P w N 9 rt f))) ∧ n' = n) (fun _ _ _ => False) := by
  refine pw_M_of (lv := [some (.ref ly), some (.ref pic), some (.int (zI (w)))]) (by decide) rfl rfl htr (nle rfl) rfl (fun _ => ?_)
  refine pw_aload_n dX2_drawBorders_0 rfl ?_
  refine pw_get (v := .ref rt) okX2 (k := 1) (by decide) lkX2_20 ((ptNo hnl).trans hly) rfl dX2_drawBorders_1 ?_
  refine pw_aload_n dX2_drawBorders_4 rfl ?_
  refine pw_iload_n dX2_drawBorders_5 rfl ?_
  refine pw_iconst (v := zI (0)) dX2_drawBorders_6 (by decide) ?_
  refine pw_callS (As := [.ref rt, .ref pic, .int (zI (w)), .int (zI (0))]) (rm := rmD (9 + 2) 0 0) (mX2_drawBorders_ htr hnp hN hcl hB hL hPo hw 9 (by decide) rt 0 _ _ (by decide) hrt hpic) rfl ywX2_drawBorders_ rfl cwX2_77 (rmC (by omega) (nle rfl)) (nle rfl) ⟨nle rfl, nle rfl⟩ dX2_drawBorders_7 ?_ (fun _ _ _ z => z.elim)
  intro r2 h2 n2 hq _
  rw [hq.1, hq.2.1, hq.2.2]
  show pw E YX2_drawBorders _ _ 0 0 10 [some (.ref ly), some (.ref pic), some (.int (zI (w)))] [] (ptPut D P (va_up h pic (pz_z 0 N (brA P w N 9 rt f)))) n
  exact pw_vret dX2_drawBorders_10 rfl (nle rfl) (nle rfl) ⟨rfl, rfl, rfl⟩
