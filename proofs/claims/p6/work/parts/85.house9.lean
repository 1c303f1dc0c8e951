def YX9_drawPicture : pw_Y := (RX9, "drawPicture", cX9_drawPicture, 4, none)
theorem ywX9_drawPicture : pw_y yX9_drawPicture YX9_drawPicture 0 := ⟨by decide +kernel, by decide +kernel, by decide +kernel, pw_in 823 (by decide +kernel) (by decide +kernel), pw_in 79 (by decide +kernel) (by decide +kernel)⟩
theorem lkX9_47 : Cond.fieldLink RX9 47 (TX9 5).1 (TX9 5).2.1 (TX9 5).2.2.1 ∈ pw_G := pw_in 787 (by decide +kernel) (by decide +kernel)
theorem lkX9_23 : Cond.fieldLink RX9 23 (TX9 0).1 (TX9 0).2.1 (TX9 0).2.2.1 ∈ pw_G := pw_in 782 (by decide +kernel) (by decide +kernel)
theorem cwX9_141 : Cond.methodLink RX9 141 yX4_viewRow ∈ pw_G ∧ Cond.instanceMethod yX4_viewRow ∈ pw_G ∧ Cond.selects RX4 yX4_viewRow yX4_viewRow ∈ pw_G := ⟨pw_in 840 (by decide +kernel) (by decide +kernel), pw_in 841 (by decide +kernel) (by decide +kernel), pw_in 842 (by decide +kernel) (by decide +kernel)⟩
theorem cwX9_277 : Cond.methodLink RX9 277 yX2_drawBorders ∈ pw_G ∧ Cond.instanceMethod yX2_drawBorders ∈ pw_G ∧ Cond.selects RX2 yX2_drawBorders yX2_drawBorders ∈ pw_G := ⟨pw_in 824 (by decide +kernel) (by decide +kernel), pw_in 825 (by decide +kernel) (by decide +kernel), pw_in 826 (by decide +kernel) (by decide +kernel)⟩
def YX9_cell : pw_Y := (RX9, "cell", cX9_cell, 5, (some .int))
theorem ywX9_cell : pw_y yX9_cell YX9_cell 3 := ⟨by decide +kernel, by decide +kernel, by decide +kernel, pw_in 1261 (by decide +kernel) (by decide +kernel), pw_in 79 (by decide +kernel) (by decide +kernel)⟩
theorem lkX9_27 : Cond.fieldLink RX9 27 (TX9 1).1 (TX9 1).2.1 (TX9 1).2.2.1 ∈ pw_G := pw_in 783 (by decide +kernel) (by decide +kernel)
theorem cwX9_148 : Cond.methodLink RX9 148 yX9_drawPicture ∈ pw_G ∧ Cond.instanceMethod yX9_drawPicture ∈ pw_G ∧ Cond.selects RX9 yX9_drawPicture yX9_drawPicture ∈ pw_G := ⟨pw_in 820 (by decide +kernel) (by decide +kernel), pw_in 822 (by decide +kernel) (by decide +kernel), pw_in 2 (by decide +kernel) (by decide +kernel)⟩
/-- the rows of a pane come into the picture -/
def dpRow (w H : Int) (N : Nat) (x : pSt) (a : ptC) : Nat → Int → (Nat → Int) → Nat → Int
  | 0, _, f => f
  | j + 1, r, f => dpRow w H N x a j (r + 1) (vRow w H x.1.1 x.2.1.2 r ((a.1 1 + r) * w + a.1 0) N f)
def dp1 (w H : Int) (N : Nat) (x : pSt) (P : Nat → ptC) (o : Option Nat) (f : Nat → Int) : Nat → Int := match o with
  | none => f
  | some a => dpRow w H N x (P a) ((P a).1 3).toNat 0 f
def dpAll (w H : Int) (N : Nat) (X : Nat → pSt) (P : Nat → ptC) (lv : Nat → Option Nat) : Nat → Int → (Nat → Int) → Nat → Int
  | 0, _, f => f
  | j + 1, i, f => dpAll w H N X P lv j (i + 1) (dp1 w H N (X i.toNat) P (lv i.toNat) f)
theorem cr_vRow {w H of row at_ : Int} {s : zSt} {M : Nat} {q : Nat → Int} (hs : zCl w s) (hq : cr q) : cr (vRow w H s of row at_ M q) := by
  unfold vRow
  split
  · exact cr_hgive hs.2.2.1 hq
  · refine cr_ggive ?_ hq
    unfold zG shG
    split
    · exact hs.1
    · exact hs.2.1
theorem cr_dpRow {w H : Int} {N : Nat} {x : pSt} {a : ptC} (hs : zCl w x.1.1) : ∀ (j : Nat) (r : Int) (f : Nat → Int), cr f → cr (dpRow w H N x a j r f)
  | 0, _, _, hf => hf
  | j + 1, r, f, hf => cr_dpRow hs j (r + 1) _ (cr_vRow hs hf)
/-- the picture -/
def hDraw (w H : Int) (N : Nat) (s : hS) : Nat → Int := dpAll w H N (hX s) (hP s) (hLv s) 8 0 (brA (hP s) w N 9 (hRt s) (hPic s))
set_option maxHeartbeats 4000000 in
set_option maxRecDepth 100000 in
theorem lX9_draw1 {E : pw_E} (htr : E.1.stackTraces = false) {Kk : pw_K} {n : Nat} {w H M : Int} {N NH NB NL B : Nat} {s : hS} {h0 : pz_H} (gG0 : geo w H N NH) {i : Int} (hi : 0 ≤ i ∧ i < 8) {q : Nat} (hDq : hD s q = true) (har : arOk w H (hP s q)) (hpk : pWk w H M (hX s i.toNat)) (pg : rGd w H (hX s i.toNat).1) : ∀ (j : Nat) (r : Int) (h : pz_H) (f : Nat → Int), ((hP s q).1 3 - r).toNat = j → 0 ≤ r → r ≤ (hP s q).1 3 → hAt w H N NH NB NL B (sPic f s) h → hFr B n (hD s) h0 h → (∀ h' r', hAt w H N NH NB NL B (sPic (dpRow w H N (hX s i.toNat) (hP s q) j r f) s) h' → hFr B n (hD s) h0 h' → pw E YX9_drawPicture (rmD 13 0 0) Kk 0 0 83 [some (.ref B), some (.int (zI i)), some (.ref q), some (.int (zI r'))] [] h' n) → pw E YX9_drawPicture (rmD 13 0 0) Kk 0 0 39 [some (.ref B), some (.int (zI (i))), some (.ref q), some (.int (zI (r)))] [] h n := by
  have gG1 := gG0
  obtain ⟨gw, gH, gN, gN2, gNH⟩ := gG1
  obtain ⟨p3, p4, p5, p6, p9, p10, pcl, pT, pR, pcm, pof, pto⟩ := hpk
  obtain ⟨a2, a3, a0, a1⟩ := har
  intro j
  induction j with
  | zero =>
    intro r h f hj h1 h2 hA hF hQ
    refine pw_iload_n dX9_drawPicture_39 rfl ?_
    refine pw_aload_n dX9_drawPicture_40 rfl ?_
    refine pw_getN (v := .int (zI ((hP s q).1 3))) okX5 (k := 3) (by decide) lkX9_273 (hA.2.2.2.2.2.2.2.2.2.1 _ hDq) rfl dX9_drawPicture_41 ?_
    refine pw_icmp_ge (tgt := 83) dX9_drawPicture_44 rfl (by omega) (by omega) (fun c44 => ?_) (fun c44 => ?_)
    ·
      exact hQ h r hA hF
    · exfalso; omega
  | succ j ih =>
    intro r h f hj h1 h2 hA hF hQ
    refine pw_iload_n dX9_drawPicture_39 rfl ?_
    refine pw_aload_n dX9_drawPicture_40 rfl ?_
    refine pw_getN (v := .int (zI ((hP s q).1 3))) okX5 (k := 3) (by decide) lkX9_273 (hA.2.2.2.2.2.2.2.2.2.1 _ hDq) rfl dX9_drawPicture_41 ?_
    refine pw_icmp_ge (tgt := 83) dX9_drawPicture_44 rfl (by omega) (by omega) (fun c44 => ?_) (fun c44 => ?_)
    · exfalso; omega
    ·
      refine pw_aload_n dX9_drawPicture_47 rfl ?_
      refine pw_get (v := .ref (B + 1)) okX9 (k := 2) (by decide) lkX9_11 hA.1 rfl dX9_drawPicture_48 ?_
      refine pw_iload_n dX9_drawPicture_51 rfl ?_
      refine pw_aaldO (t := 3) rfl hA.2.1 (by omega) (by decide) dX9_drawPicture_52 ?_
      refine pw_iload_n dX9_drawPicture_53 rfl ?_
      refine pw_aload_n dX9_drawPicture_54 rfl ?_
      refine pw_get (v := .ref (B + 113)) okX9 (k := 5) (by decide) lkX9_47 hA.1 rfl dX9_drawPicture_55 ?_
      refine pw_aload_n dX9_drawPicture_58 rfl ?_
      refine pw_getN (v := .int (zI ((hP s q).1 1))) okX5 (k := 1) (by decide) lkX9_191 (hA.2.2.2.2.2.2.2.2.2.1 _ hDq) rfl dX9_drawPicture_59 ?_
      refine pw_iload_n dX9_drawPicture_62 rfl ?_
      refine pw_ziadd dX9_drawPicture_63 ?_
      refine pw_aload_n dX9_drawPicture_64 rfl ?_
      refine pw_get (v := .int (zI (w))) okX9 (k := 0) (by decide) lkX9_23 hA.1 rfl dX9_drawPicture_65 ?_
      refine pw_zimul dX9_drawPicture_68 ?_
      refine pw_aload_n dX9_drawPicture_69 rfl ?_
      refine pw_getN (v := .int (zI ((hP s q).1 0))) okX5 (k := 0) (by decide) lkX9_186 (hA.2.2.2.2.2.2.2.2.2.1 _ hDq) rfl dX9_drawPicture_70 ?_
      refine pw_ziadd dX9_drawPicture_73 ?_
      have hz1 := zrow (row := (hP s q).1 1 + r) (w := w) (H := 16) (by omega) (by omega) (by omega)
      rw [show rv (hPv B (i).toNat) = Value.ref (B + 3 + 13 * i.toNat) from by rw [hPv_s (by omega)]; rfl]
      refine pw_callV (As := [.int (zI r), .ref (B + 113), .int (zI (((((hP s q).1 1) + (r)) * (w)) + ((hP s q).1 0)))]) (b := (B + 3 + 13 * i.toNat)) (rm := rmD 3 0 0) (mX4_viewRow htr gG0 (hA_pn hA (k := i.toNat) (by omega)).1.1 pg.1.1 (hA_pn hA (k := i.toNat) (by omega)).2.1 (fun i _ => pnI_ne (by omega)) pcm ⟨pof.1, Int.le_trans pof.2 (by decide)⟩ hA.2.2.2.2.2.2.2.1 (fun i _ => pnI_ne (by omega)) (by omega) pcl.2.2.2 (by omega) (by omega)) rfl (hA_pn hA (k := i.toNat) (by omega)).2.1 rfl rfl ywX4_viewRow rfl cwX9_141 ⟨nle rfl, nle rfl⟩ (nle rfl) ⟨nle rfl, nle rfl⟩ dX9_drawPicture_74 ?_ (fun _ _ _ z => z.elim)
      intro r_9 h_9 n_9 hq _
      rw [hq.1, hq.2.1, hq.2.2]
      show pw E YX9_drawPicture _ _ 0 0 77 [some (.ref B), some (.int (zI (i))), some (.ref q), some (.int (zI (r)))] [] (va_up h (B + 113) (pz_z 0 N (vRow w H (hX s i.toNat).1.1 (hX s i.toNat).2.1.2 r (((((hP s q).1 1) + (r)) * (w)) + ((hP s q).1 0)) N f))) n
      have hA1 : hAt w H N NH NB NL B (sPic (vRow w H (hX s i.toNat).1.1 (hX s i.toNat).2.1.2 r (((((hP s q).1 1) + (r)) * (w)) + ((hP s q).1 0)) N f) s) (va_up h (B + 113) (pz_z 0 N (vRow w H (hX s i.toNat).1.1 (hX s i.toNat).2.1.2 r (((((hP s q).1 1) + (r)) * (w)) + ((hP s q).1 0)) N f))) := by have z := hAt_pic (f := vRow w H (hX s i.toNat).1.1 (hX s i.toNat).2.1.2 r (((((hP s q).1 1) + (r)) * (w)) + ((hP s q).1 0)) N f) hA; exact z
      have hF1 : hFr B n (hD s) h0 (va_up h (B + 113) (pz_z 0 N (vRow w H (hX s i.toNat).1.1 (hX s i.toNat).2.1.2 r (((((hP s q).1 1) + (r)) * (w)) + ((hP s q).1 0)) N f))) := hFr_tr hF (hFr_in (lo := B + 113) (hi := B + 113) (fun a ha => va_up_ne _ _ (by omega)) (by omega) (by omega))
      revert hA1 hF1
      generalize (va_up h (B + 113) (pz_z 0 N (vRow w H (hX s i.toNat).1.1 (hX s i.toNat).2.1.2 r (((((hP s q).1 1) + (r)) * (w)) + ((hP s q).1 0)) N f))) = h1
      intro hA1 hF1
      refine pw_ziinc (lv' := [some (.ref B), some (.int (zI (i))), some (.ref q), some (.int (zI (r + 1)))]) dX9_drawPicture_77 rfl (by decide) rfl rfl ?_
      refine pw_goto (tgt := 39) dX9_drawPicture_80 rfl ?_
      exact ih (r + 1) h1 _ (by omega) (by omega) (by omega) hA1 hF1 hQ
set_option maxHeartbeats 4000000 in
set_option maxRecDepth 100000 in
theorem lX9_draw2 {E : pw_E} (htr : E.1.stackTraces = false) {Kk : pw_K} {n : Nat} {w H M : Int} {N NH NB NL B : Nat} {s : hS} {h0 : pz_H} (gG0 : geo w H N NH) (gP : ∀ k, k < 8 → pWk w H M (hX s k)) (gL : ∀ k, k < 8 → ¬ hLv s k = none → rGd w H (hX s k).1) (gY : lyOk w H s) : ∀ (j : Nat) (i : Int) (h : pz_H) (f : Nat → Int) (q1 q2 : Option Value), (8 - i).toNat = j → 0 ≤ i → i ≤ 8 → hAt w H N NH NB NL B (sPic f s) h → hFr B n (hD s) h0 h → (∀ h', hAt w H N NH NB NL B (sPic (dpAll w H N (hX s) (hP s) (hLv s) j i f) s) h' → hFr B n (hD s) h0 h' → Kk.2.2.1 none h' n) → pw E YX9_drawPicture (rmD 13 0 0) Kk 0 0 17 [some (.ref B), some (.int (zI (i))), q1, q2] [] h n := by
  intro j
  induction j with
  | zero =>
    intro i h f q1 q2 hj h1 h2 hA hF hQ
    refine pw_iload_n dX9_drawPicture_17 rfl ?_
    refine pw_bipush (v := zI (8)) dX9_drawPicture_18 (by decide) ?_
    refine pw_icmp_ge (tgt := 89) dX9_drawPicture_20 rfl (by omega) (by omega) (fun c20 => ?_) (fun c20 => ?_)
    ·
      exact pw_vret dX9_drawPicture_89 rfl (nle rfl) (nle rfl) (hQ h hA hF)
    · exfalso; omega
  | succ j ih =>
    intro i h f q1 q2 hj h1 h2 hA hF hQ
    refine pw_iload_n dX9_drawPicture_17 rfl ?_
    refine pw_bipush (v := zI (8)) dX9_drawPicture_18 (by decide) ?_
    refine pw_icmp_ge (tgt := 89) dX9_drawPicture_20 rfl (by omega) (by omega) (fun c20 => ?_) (fun c20 => ?_)
    · exfalso; omega
    ·
      refine pw_aload_n dX9_drawPicture_23 rfl ?_
      refine pw_get (v := .ref (B + 107)) okX9 (k := 3) (by decide) lkX9_36 hA.1 rfl dX9_drawPicture_24 ?_
      refine pw_getN (v := .ref (B + 108)) okX2 (k := 0) (by decide) lkX9_182 hA.2.2.2.2.1 rfl dX9_drawPicture_27 ?_
      refine pw_iload_n dX9_drawPicture_30 rfl ?_
      refine pw_aaldO (t := 4) rfl hA.2.2.2.2.2.1 (by omega) (by decide) dX9_drawPicture_31 ?_
      refine pw_astore_nO (lv' := [some (.ref B), some (.int (zI (i))), some (rv (hLv (sPic f s) (i).toNat)), q2]) dX9_drawPicture_32 (by decide) rfl rfl ?_
      refine pw_aload_nO dX9_drawPicture_33 rfl ?_
      refine pw_ifnullO (tgt := 83) dX9_drawPicture_34 rfl (fun c34 => ?_) (fun c34 => ?_)
      ·
        refine pw_ziinc (lv' := [some (.ref B), some (.int (zI (i + 1))), some (rv (hLv (sPic f s) (i).toNat)), q2]) dX9_drawPicture_83 rfl (by decide) rfl rfl ?_
        refine pw_goto (tgt := 17) dX9_drawPicture_86 rfl ?_
        exact ih (i + 1) h f _ _ (by omega) (by omega) (by omega) hA hF (fun h' z1 z2 => hQ h' (by have z : hLv s i.toNat = none := c34; rw [show dpAll w H N (hX s) (hP s) (hLv s) (j + 1) i f = dpAll w H N (hX s) (hP s) (hLv s) j (i + 1) (dp1 w H N (hX s i.toNat) (hP s) (hLv s i.toNat) f) from rfl, z]; exact z1) z2)
      ·
        obtain ⟨q34, hq34⟩ := Option.ne_none_iff_exists'.mp c34
        have hlq : hLv s i.toNat = some q34 := hq34
        have hDq := gY.2.1 _ _ hlq
        have har := gY.2.2.2.2.2 _ _ hlq
        refine pw_iconst (v := zI (0)) dX9_drawPicture_37 (by decide) ?_
        refine pw_istore_n (lv' := [some (.ref B), some (.int (zI (i))), some (rv (hLv (sPic f s) (i).toNat)), some (.int (zI (0)))]) dX9_drawPicture_38 (by decide) (rv_c1 rfl) rfl ?_
        have e3 : hLv (sPic f s) i.toNat = some q34 := hq34
        rw [show rv (hLv (sPic f s) (i).toNat) = Value.ref q34 from by rw [e3]; rfl]
        refine lX9_draw1 htr gG0 (by omega) hDq har (gP _ (by omega)) (gL _ (by omega) (by rw [hlq]; exact fun z => by cases z)) _ 0 h f rfl (by omega) (by have := har.2.1; omega) hA hF (fun h1 r1 hA1 hF1 => ?_)
        refine pw_ziinc (lv' := [some (.ref B), some (.int (zI (i + 1))), some (.ref q34), some (.int (zI r1))]) dX9_drawPicture_83 rfl (by decide) rfl rfl ?_
        refine pw_goto (tgt := 17) dX9_drawPicture_86 rfl ?_
        exact ih (i + 1) h1 _ _ _ (by omega) (by omega) (by omega) hA1 hF1 (fun h' z1 z2 => hQ h' (by rw [show dpAll w H N (hX s) (hP s) (hLv s) (j + 1) i f = dpAll w H N (hX s) (hP s) (hLv s) j (i + 1) (dp1 w H N (hX s i.toNat) (hP s) (hLv s i.toNat) f) from rfl, hlq]; rw [Int.sub_zero] at z1; exact z1) z2)
set_option maxHeartbeats 4000000 in
set_option maxRecDepth 100000 in
/-- drawPicture() -/
theorem mX9_drawPicture {E : pw_E} (htr : E.1.stackTraces = false) {h : pz_H} {n : Nat} {w H M : Int} {N NH NB NL B : Nat} {s : hS} (hG : geoH w H N NH NB NL) (hA : hAt w H N NH NB NL B s h) (hg : hGd w H M NB s) (hM : 0 ≤ M ∧ M ≤ 900000000)  : pw_M E yX9_drawPicture YX9_drawPicture (rmD 13 0 0) [.ref B] h n (fun r h' n' => r = none ∧ hAt w H N NH NB NL B (sPic (hDraw w H N s) s) h' ∧ hFr B n (hD s) h h' ∧ n' = n) (fun _ _ _ => False) := by
  have hG0 := hG
  have hg0 := hg
  obtain ⟨gG, gNB, gNL⟩ := hG
  have gG0 := gG
  obtain ⟨gw, gH, gN, gN2, gNH⟩ := gG
  obtain ⟨gP, gL, gY, gF, gFl, gPr, gC, gO, gPi, gLi⟩ := hg
  obtain ⟨gO3, gO4, gO5, gO6, gO7, gOc⟩ := gO
  refine pw_M_of (lv := [some (.ref B), none, none, none]) (by decide) rfl rfl htr (nle rfl) rfl (fun L => ?_)
  refine pw_aload_n dX9_drawPicture_0 rfl ?_
  refine pw_get (v := .ref (B + 107)) okX9 (k := 3) (by decide) lkX9_36 hA.1 rfl dX9_drawPicture_1 ?_
  refine pw_aload_n dX9_drawPicture_4 rfl ?_
  refine pw_get (v := .ref (B + 113)) okX9 (k := 5) (by decide) lkX9_47 hA.1 rfl dX9_drawPicture_5 ?_
  refine pw_aload_n dX9_drawPicture_8 rfl ?_
  refine pw_get (v := .int (zI (w))) okX9 (k := 0) (by decide) lkX9_23 hA.1 rfl dX9_drawPicture_9 ?_
  refine pw_h (hA_pt hA).symm ?_
  refine pw_callV (As := [.ref (B + 113), .int (zI w)]) (b := (B + 107)) (rm := rmD 12 0 0) (mX2_drawBorders (L := 100) htr hA.2.2.2.2.2.2.2.1 (hD_no hA (by omega)) (by omega) gY.1 gY.2.2.1 (by decide) gY.2.2.2.1 (by omega) hA.2.2.2.2.1 (hD_no hA (by omega)) gY.2.2.2.2.1) rfl ((ptNo (hD_no hA (by omega))).trans hA.2.2.2.2.1) rfl rfl ywX2_drawBorders rfl cwX9_277 ⟨nle rfl, nle rfl⟩ (nle rfl) ⟨nle rfl, nle rfl⟩ dX9_drawPicture_12 ?_ (fun _ _ _ z => z.elim)
  intro r_9 h_9 n_9 hq _
  rw [hq.1, hq.2.1, hq.2.2]
  show pw E YX9_drawPicture _ _ 0 0 15 [some (.ref B), none, none, none] [] (ptPut (hD s) (hP s) (va_up h (B + 113) (pz_z 0 N (brA (hP s) w N 9 (hRt s) (hPic s))))) n
  have hA1 : hAt w H N NH NB NL B (sPic (brA (hP s) w N 9 (hRt s) (hPic s)) s) (ptPut (hD s) (hP s) (va_up h (B + 113) (pz_z 0 N (brA (hP s) w N 9 (hRt s) (hPic s))))) := by have z := hAt_pic (f := (brA (hP s) w N 9 (hRt s) (hPic s))) hA; have e := hA_pt z; rw [show (ptPut (hD s) (hP s) (va_up h (B + 113) (pz_z 0 N (brA (hP s) w N 9 (hRt s) (hPic s))))) = va_up h (B + 113) (pz_z 0 N (brA (hP s) w N 9 (hRt s) (hPic s))) from e]; exact z
  have hF1 : hFr B n (hD s) h (ptPut (hD s) (hP s) (va_up h (B + 113) (pz_z 0 N (brA (hP s) w N 9 (hRt s) (hPic s))))) := hFr_tr hFr_rf (by have e := hA_pt (hAt_pic (f := (brA (hP s) w N 9 (hRt s) (hPic s))) hA); rw [show (ptPut (hD s) (hP s) (va_up h (B + 113) (pz_z 0 N (brA (hP s) w N 9 (hRt s) (hPic s))))) = va_up h (B + 113) (pz_z 0 N (brA (hP s) w N 9 (hRt s) (hPic s))) from e]; exact hFr_in (lo := B + 113) (hi := B + 113) (fun a ha => va_up_ne _ _ (by omega)) (by omega) (by omega))
  revert hA1 hF1
  generalize (ptPut (hD s) (hP s) (va_up h (B + 113) (pz_z 0 N (brA (hP s) w N 9 (hRt s) (hPic s))))) = h1
  intro hA1 hF1
  refine pw_iconst (v := zI (0)) dX9_drawPicture_15 (by decide) ?_
  refine pw_istore_n (lv' := [some (.ref B), some (.int (zI (0))), none, none]) dX9_drawPicture_16 (by decide) rfl rfl ?_
  exact lX9_draw2 htr gG0 gP gL gY _ 0 h1 _ _ _ rfl (by omega) (by omega) hA1 hF1 (fun h' z1 z2 => ⟨rfl, by rw [Int.sub_zero] at z1; exact z1, z2, rfl⟩)

theorem cr_dpAll {w H M : Int} {N : Nat} {X : Nat → pSt} {P : Nat → ptC} {lv : Nat → Option Nat} (gP : ∀ k, k < 8 → pWk w H M (X k)) : ∀ (j : Nat) (i : Int) (f : Nat → Int), (8 - i).toNat = j → 0 ≤ i → i ≤ 8 → cr f → cr (dpAll w H N X P lv j i f)
  | 0, _, _, _, _, _, hf => hf
  | j + 1, i, f, hj, h1, h2, hf => by
    refine cr_dpAll gP j (i + 1) _ (by omega) (by omega) (by omega) ?_
    unfold dp1
    split
    · exact hf
    · exact cr_dpRow (gP i.toNat (by omega)).2.2.2.2.2.2.1 _ _ _ hf
theorem cr_brF {step ch : Int} {N : Nat} (hc : 0 ≤ ch ∧ ch < 524288) : ∀ (j : Nat) (at_ : Int) (f : Nat → Int), cr f → cr (brF step ch N j at_ f)
  | 0, _, _, hf => hf
  | j + 1, at_, f, hf => by
    unfold brF
    split
    · exact cr_brF hc j _ _ (cr_up hf hc)
    · exact hf
theorem cr_brD {P : Nat → ptC} {w : Int} {N a : Nat} {f : Nat → Int} (hf : cr f) : cr (brD P w N a f) := by
  unfold brD
  split
  · exact cr_brF (by unfold brCh; split <;> omega) _ _ _ hf
  · exact hf
theorem cr_bdr {P : Nat → ptC} {w : Int} {N : Nat} : ∀ (k a : Nat) (f : Nat → Int), cr f → cr (brA P w N k a f)
  | 0, _, _, hf => hf
  | k + 1, a, f, hf => by
    unfold brA
    split
    · exact cr_bdr k _ _ (cr_bdr k _ _ (cr_brD hf))
    · exact hf
theorem hDraw_cr {w H M : Int} {N NB : Nat} {s : hS} (hg : hGd w H M NB s) : cr (hDraw w H N s) := cr_dpAll hg.1 8 0 _ rfl (by omega) (by omega) (cr_bdr _ _ _ hg.2.2.2.2.2.2.2.2.1)
set_option maxHeartbeats 4000000 in
set_option maxRecDepth 100000 in
/-- cell(c, ro, at) -/
theorem mX9_cell {E : pw_E} (htr : E.1.stackTraces = false) {h : pz_H} {n : Nat} {w H M : Int} {N NH NB NL B : Nat} {s : hS} (hG : geoH w H N NH NB NL) (hA : hAt w H N NH NB NL B s h) (hg : hGd w H M NB s) (hM : 0 ≤ M ∧ M ≤ 900000000) {c ro at_ : Int} (h_c : -2147483648 ≤ c ∧ c < 2147483648) (h_ro : -2147483648 ≤ ro ∧ ro < 2147483648) (h_at_ : -2147483648 ≤ at_ ∧ at_ < 2147483648) (hat : 0 ≤ at_ ∧ at_ ≤ 1) : pw_M E yX9_cell YX9_cell (rmD 14 1 6) [.ref B, .int (zI (c)), .int (zI (ro)), .int (zI (at_))] h n (fun r h' n' => (0 ≤ c ∧ c < w ∧ 0 ≤ ro ∧ ro < H) ∧ r = some (.int (zI (if ¬ at_ = 0 then hDraw w H N s (ro * w + c).toNat / 128 else hDraw w H N s (ro * w + c).toNat % 128))) ∧ hAt w H N NH NB NL B (sPic (hDraw w H N s) s) h' ∧ hFr B n (hD s) h h' ∧ n' = n) (fun C h' n' => C = "java/lang/IndexOutOfBoundsException" ∧ ¬ (0 ≤ c ∧ c < w ∧ 0 ≤ ro ∧ ro < H) ∧ h' = h ∧ n' = n) := by
  have hG0 := hG
  have hg0 := hg
  obtain ⟨gG, gNB, gNL⟩ := hG
  have gG0 := gG
  obtain ⟨gw, gH, gN, gN2, gNH⟩ := gG
  obtain ⟨gP, gL, gY, gF, gFl, gPr, gC, gO, gPi, gLi⟩ := hg
  obtain ⟨gO3, gO4, gO5, gO6, gO7, gOc⟩ := gO
  refine pw_M_of (lv := [some (.ref B), some (.int (zI (c))), some (.int (zI (ro))), some (.int (zI (at_))), none]) (by decide) rfl rfl htr (nle rfl) rfl (fun L => ?_)
  refine pw_iload_n dX9_cell_0 rfl ?_
  refine pw_if_lt (tgt := 24) dX9_cell_1 rfl (by omega) (fun c1 => ?_) (fun c1 => ?_)
  ·
    exact pw_throw (text := "no such cell") (by decide +kernel) tk_IO.1 tk_IO.2 (by decide +kernel) th_IO ⟨nle rfl, nle rfl⟩ ⟨nle rfl, nle rfl⟩ dX9_cell_24 dX9_cell_27 dX9_cell_28 dX9_cell_30 dX9_cell_33 ⟨rfl, by omega, rfl, rfl⟩
  ·
    refine pw_iload_n dX9_cell_4 rfl ?_
    refine pw_aload_n dX9_cell_5 rfl ?_
    refine pw_get (v := .int (zI (w))) okX9 (k := 0) (by decide) lkX9_23 hA.1 rfl dX9_cell_6 ?_
    refine pw_icmp_ge (tgt := 24) dX9_cell_9 rfl (by omega) (by omega) (fun c9 => ?_) (fun c9 => ?_)
    ·
      exact pw_throw (text := "no such cell") (by decide +kernel) tk_IO.1 tk_IO.2 (by decide +kernel) th_IO ⟨nle rfl, nle rfl⟩ ⟨nle rfl, nle rfl⟩ dX9_cell_24 dX9_cell_27 dX9_cell_28 dX9_cell_30 dX9_cell_33 ⟨rfl, by omega, rfl, rfl⟩
    ·
      refine pw_iload_n dX9_cell_12 rfl ?_
      refine pw_if_lt (tgt := 24) dX9_cell_13 rfl (by omega) (fun c13 => ?_) (fun c13 => ?_)
      ·
        exact pw_throw (text := "no such cell") (by decide +kernel) tk_IO.1 tk_IO.2 (by decide +kernel) th_IO ⟨nle rfl, nle rfl⟩ ⟨nle rfl, nle rfl⟩ dX9_cell_24 dX9_cell_27 dX9_cell_28 dX9_cell_30 dX9_cell_33 ⟨rfl, by omega, rfl, rfl⟩
      ·
        refine pw_iload_n dX9_cell_16 rfl ?_
        refine pw_aload_n dX9_cell_17 rfl ?_
        refine pw_get (v := .int (zI (H))) okX9 (k := 1) (by decide) lkX9_27 hA.1 rfl dX9_cell_18 ?_
        refine pw_icmp_lt (tgt := 34) dX9_cell_21 rfl (by omega) (by omega) (fun c21 => ?_) (fun c21 => ?_)
        ·
          refine pw_aload_n dX9_cell_34 rfl ?_
          refine pw_callV (As := []) (b := B) (rm := rmD 13 0 0) (mX9_drawPicture htr hG0 hA hg0 hM) rfl hA.1 rfl rfl ywX9_drawPicture rfl cwX9_148 ⟨nle rfl, nle rfl⟩ (nle rfl) ⟨nle rfl, nle rfl⟩ dX9_cell_35 ?_ (fun _ _ _ z => z.elim)
          intro r2 h2 n2 hq _
          obtain ⟨e1, hA2, hF2, e4⟩ := hq
          rw [e1, e4]
          show pw E YX9_cell _ _ 0 0 38 [some (.ref B), some (.int (zI (c))), some (.int (zI (ro))), some (.int (zI (at_))), none] [] h2 n
          have hz1 := zrow (row := ro) (w := w) (H := H) (by omega) (by omega) (by omega)
          have hcr := hDraw_cr (N := N) hg0 (ro * w + c).toNat
          refine pw_aload_n dX9_cell_38 rfl ?_
          refine pw_get (v := .ref (B + 113)) okX9 (k := 5) (by decide) lkX9_47 hA2.1 rfl dX9_cell_39 ?_
          refine pw_iload_n dX9_cell_42 rfl ?_
          refine pw_aload_n dX9_cell_43 rfl ?_
          refine pw_get (v := .int (zI (w))) okX9 (k := 0) (by decide) lkX9_23 hA2.1 rfl dX9_cell_44 ?_
          refine pw_zimul dX9_cell_47 ?_
          refine pw_iload_n dX9_cell_48 rfl ?_
          refine pw_ziadd dX9_cell_49 ?_
          refine pw_iald (t := 0) rfl hA2.2.2.2.2.2.2.2.1 (by omega) (by omega) dX9_cell_50 ?_
          refine pw_istore (lv' := [some (.ref B), some (.int (zI (c))), some (.int (zI (ro))), some (.int (zI (at_))), some (.int (zI (hDraw w H N s ((ro * w) + (c)).toNat)))]) dX9_cell_51 (by decide) rfl rfl ?_
          refine pw_iload_n dX9_cell_53 rfl ?_
          refine pw_if_eq (tgt := 66) dX9_cell_54 rfl (by omega) (fun c54 => ?_) (fun c54 => ?_)
          ·
            refine pw_iload dX9_cell_66 rfl ?_
            refine pw_sipush (v := zI (128)) dX9_cell_68 (by decide) ?_
            refine pw_zirem dX9_cell_71 (by omega) (by omega) ?_
            exact pw_iret dX9_cell_72 rfl (nle rfl) (nle rfl) ⟨by omega, by first | rw [if_pos (show ¬ at_ = 0 by omega)] | rw [if_neg (show ¬ ¬ at_ = 0 by omega)], hA2, hF2, rfl⟩
          ·
            refine pw_iload dX9_cell_57 rfl ?_
            refine pw_sipush (v := zI (128)) dX9_cell_59 (by decide) ?_
            refine pw_zidiv dX9_cell_62 (by omega) (by omega) ?_
            refine pw_goto (tgt := 72) dX9_cell_63 rfl ?_
            exact pw_iret dX9_cell_72 rfl (nle rfl) (nle rfl) ⟨by omega, by first | rw [if_pos (show ¬ at_ = 0 by omega)] | rw [if_neg (show ¬ ¬ at_ = 0 by omega)], hA2, hF2, rfl⟩
        ·
          exact pw_throw (text := "no such cell") (by decide +kernel) tk_IO.1 tk_IO.2 (by decide +kernel) th_IO ⟨nle rfl, nle rfl⟩ ⟨nle rfl, nle rfl⟩ dX9_cell_24 dX9_cell_27 dX9_cell_28 dX9_cell_30 dX9_cell_33 ⟨rfl, by omega, rfl, rfl⟩
