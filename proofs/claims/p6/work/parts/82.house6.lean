def YX9_divide : pw_Y := (RX9, "divide", cX9_divide, 4, (some .int))
theorem ywX9_divide : pw_y yX9_divide YX9_divide 2 := ⟨by decide +kernel, by decide +kernel, by decide +kernel, pw_in 1120 (by decide +kernel) (by decide +kernel), pw_in 79 (by decide +kernel) (by decide +kernel)⟩
theorem cwX9_266 : Cond.methodLink RX9 266 yX2_divide ∈ pw_G ∧ Cond.instanceMethod yX2_divide ∈ pw_G ∧ Cond.selects RX2 yX2_divide yX2_divide ∈ pw_G := ⟨pw_in 1121 (by decide +kernel) (by decide +kernel), pw_in 1122 (by decide +kernel) (by decide +kernel), pw_in 1123 (by decide +kernel) (by decide +kernel)⟩
theorem cwX9_53 : Cond.methodLink RX9 53 yX9_fitPanes ∈ pw_G ∧ Cond.instanceMethod yX9_fitPanes ∈ pw_G ∧ Cond.selects RX9 yX9_fitPanes yX9_fitPanes ∈ pw_G := ⟨pw_in 405 (by decide +kernel) (by decide +kernel), pw_in 407 (by decide +kernel) (by decide +kernel), pw_in 0 (by decide +kernel) (by decide +kernel)⟩
theorem cwX9_56 : Cond.methodLink RX9 56 yX4_begin ∈ pw_G ∧ Cond.instanceMethod yX4_begin ∈ pw_G ∧ Cond.selects RX4 yX4_begin yX4_begin ∈ pw_G := ⟨pw_in 758 (by decide +kernel) (by decide +kernel), pw_in 759 (by decide +kernel) (by decide +kernel), pw_in 760 (by decide +kernel) (by decide +kernel)⟩
/-- a pane begins anew -/
def pBg (w H : Int) (x : pSt) : pSt := ((zReset w H x.1.1, va_up x.1.2.1 5 0, x.1.2.2), (0, if 0 = x.2.1.1 then x.2.1.2 else 0), (x.2.2.1, 0))
def hFitV (w H : Int) (P : Nat → ptC) (o : Option Nat) (x : pSt) : pSt := match o with
  | none => x
  | some a => pRs w H ((P a).1 2) ((P a).1 3) x
theorem hFit_at {w H : Int} {P : Nat → ptC} {lv : Nat → Option Nat} {k : Nat} : ∀ (j i : Nat) (X : Nat → pSt), hFit w H P lv j i X k = if i ≤ k ∧ k < i + j then hFitV w H P (lv k) (X k) else X k
  | 0, i, X => by rw [if_neg (by omega)]; rfl
  | j + 1, i, X => by
    show hFit w H P lv j ((i : Int) + 1) (hFit1 w H P (lv (i : Int).toNat) (i : Int).toNat X) k = _
    rw [show (i : Int) + 1 = ((i + 1 : Nat) : Int) from rfl, hFit_at j (i + 1) _, show (i : Int).toNat = i from rfl]
    by_cases e : k = i
    · subst e
      rw [if_neg (by omega), if_pos (by omega)]
      unfold hFit1 hFitV
      cases lv k with
      | none => rfl
      | some a => exact va_up_self _ _ _
    · have e1 : hFit1 w H P (lv i) i X k = X k := by
        unfold hFit1
        cases lv i with
        | none => rfl
        | some a => exact va_up_ne _ _ e
      rw [e1]
      by_cases c : i + 1 ≤ k ∧ k < i + 1 + j
      · rw [if_pos c, if_pos (by omega)]
      · rw [if_neg c, if_neg (by omega)]
theorem hFit_8 {w H : Int} {P : Nat → ptC} {lv : Nat → Option Nat} {X : Nat → pSt} {k : Nat} (hk : k < 8) : hFit w H P lv 8 0 X k = hFitV w H P (lv k) (X k) := by
  have e := hFit_at (w := w) (H := H) (P := P) (lv := lv) (k := k) 8 0 X
  rw [if_pos (by omega)] at e
  exact e
theorem hFit_wk {w H M : Int} {P : Nat → ptC} {lv : Nat → Option Nat} {X : Nat → pSt} (gP : ∀ k, k < 8 → pWk w H M (X k)) (har : ∀ i b, lv i = some b → arOk w H (P b)) (hw : w ≤ 40) (hH : H ≤ 16) : ∀ k, k < 8 → pWk w H M (hFit w H P lv 8 0 X k) := fun k hk => by
  rw [hFit_8 hk]
  unfold hFitV
  cases e : lv k with
  | none => exact gP k hk
  | some a => exact pWk_rs (gP k hk) (har k a e).1 (har k a e).2.1 hw hH
/-- the house behind divide, remove -/
def sFit (w H : Int) (s : hS) : hS := (hFit w H (hP s) (hLv s) 8 0 (hX s), s.2)
def sDivide (w H : Int) (n : Nat) (p dn : Int) (s : hS) : hS := sFoc (lyLeast (hLv s) 0 8 0) (sX (lyLeast (hLv s) 0 8 0).toNat (pBg w H (hX (sFit w H (sDiv n p dn s)) (lyLeast (hLv s) 0 8 0).toNat)) (sFit w H (sDiv n p dn s)))
def sRemove (w H : Int) (p : Int) (s : hS) : hS := if hFoc s = p then sFoc (lyLeast (rmLv (hP s) (hLv s) p) 1 8 0) (sFit w H (sRm p s)) else sFit w H (sRm p s)
set_option maxHeartbeats 4000000 in
set_option maxRecDepth 100000 in
/-- divide(p, dn) -/
theorem mX9_divide {E : pw_E} (htr : E.1.stackTraces = false) {h : pz_H} {n : Nat} {w H M : Int} {N NH NB NL B : Nat} {s : hS} (hG : geoH w H N NH NB NL) (hA : hAt w H N NH NB NL B s h) (hg : hGd w H M NB s) (hM : 0 ≤ M ∧ M ≤ 900000000) {p dn : Int} (h_p : -2147483648 ≤ p ∧ p < 2147483648) (h_dn : -2147483648 ≤ dn ∧ dn < 2147483648) (hdn : 0 ≤ dn ∧ dn ≤ 1) (hBn : B + 115 ≤ n) (hDn : ∀ k, n ≤ k → ¬ hD s k = true) (hnew : dvOk s p dn → lyOk w H (sDiv n p dn s)) : pw_M E yX9_divide YX9_divide (rmD 21 2 16) [.ref B, .int (zI (p)), .int (zI (dn))] h n (fun r h' n' => (dvOk s p dn ∧ r = some (.int (zI (lyLeast (hLv s) 0 8 0))) ∧ hAt w H N NH NB NL B (sDivide w H n p dn s) h' ∧ hFr B n (hD s) h h' ∧ n' = n + 1 + 1) ∨ (¬ dvOk s p dn ∧ r = some (.int (zI (-1))) ∧ hAt w H N NH NB NL B s h' ∧ hFr B n (hD s) h h' ∧ n' = n)) (fun _ _ _ => False) := by
  have hG0 := hG
  have hg0 := hg
  obtain ⟨gG, gNB, gNL⟩ := hG
  have gG0 := gG
  obtain ⟨gw, gH, gN, gN2, gNH⟩ := gG
  obtain ⟨gP, gL, gY, gF, gFl, gPr, gC, gO, gPi, gLi⟩ := hg
  obtain ⟨gO3, gO4, gO5, gO6, gO7, gOc⟩ := gO
  refine pw_M_of (lv := [some (.ref B), some (.int (zI (p))), some (.int (zI (dn))), none]) (by decide) rfl rfl htr (nle rfl) rfl (fun L => ?_)
  refine pw_aload_n dX9_divide_0 rfl ?_
  refine pw_get (v := .ref (B + 107)) okX9 (k := 3) (by decide) lkX9_36 hA.1 rfl dX9_divide_1 ?_
  refine pw_iload_n dX9_divide_4 rfl ?_
  refine pw_iload_n dX9_divide_5 rfl ?_
  refine pw_h (hA_pt hA).symm ?_
  refine pw_callV (As := [.int (zI (p)), .int (zI (dn))]) (b := (B + 107)) (rm := rmD 20 2 16) (mX2_divide (L := 100) htr hA.2.2.2.2.1 hA.2.2.2.2.2.1 (hD_no hA (by omega)) (hD_no hA (by omega)) (by omega) gY.1 gY.2.1 gY.2.2.1 (by decide) hDn (by omega) (by omega) (by omega) (by omega) (by omega) (by omega)) rfl ((ptNo (hD_no hA (by omega))).trans hA.2.2.2.2.1) rfl rfl ywX2_divide rfl cwX9_266 ⟨nle rfl, nle rfl⟩ (nle rfl) ⟨nle rfl, nle rfl⟩ dX9_divide_6 ?_ (fun _ _ _ z => z.elim)
  intro r2 h2 n2 hq _
  rcases hq with ⟨q, ⟨c1, c2, c3, c4⟩, e1, e2, e3⟩ | ⟨c1, e1, e2, e3⟩
  ·
    have eq : dvQ s p = q := by unfold dvQ; rw [c1]; rfl
    have hok : dvOk s p dn := ⟨c2, (by rw [c1]; exact (fun z => by cases z)), c3, (by rw [eq]; exact c4)⟩
    rw [e1, e2, e3]
    show pw E YX9_divide _ _ (0 + 2) (0 + 16) 9 [some (.ref B), some (.int (zI (p))), some (.int (zI (dn))), none] [.int (zI (lyLeast (hLv s) 0 8 0))] (ptPut (dvDm (hD s) n) (plShare 9 n ((ptLen (dvI (hP s) q n dn n) dn - 1) / 2) (dvI (hP s) q n dn)) (va_up (va_up h (B + 107) (pz_o 5 [.ref (B + 108), .ref (exR (dvA (hP s) q n) q n (hRt s))])) (B + 108) (pz_r 4 8 (va_up (hLv s) (lyLeast (hLv s) 0 8 0).toNat (some (n + 1)))))) (n + 1 + 1)
    have hA1 : hAt w H N NH NB NL B (sDiv n p dn s) (ptPut (dvDm (hD s) n) (plShare 9 n ((ptLen (dvI (hP s) q n dn n) dn - 1) / 2) (dvI (hP s) q n dn)) (va_up (va_up h (B + 107) (pz_o 5 [.ref (B + 108), .ref (exR (dvA (hP s) q n) q n (hRt s))])) (B + 108) (pz_r 4 8 (va_up (hLv s) (lyLeast (hLv s) 0 8 0).toNat (some (n + 1)))))) := by unfold sDiv; rw [eq]; exact hAt_lay2 hA (dvDm_in hA.2.2.2.2.2.2.2.2.2.2 hBn)
    have hF1 : hFr B n (hD s) h (ptPut (dvDm (hD s) n) (plShare 9 n ((ptLen (dvI (hP s) q n dn n) dn - 1) / 2) (dvI (hP s) q n dn)) (va_up (va_up h (B + 107) (pz_o 5 [.ref (B + 108), .ref (exR (dvA (hP s) q n) q n (hRt s))])) (B + 108) (pz_r 4 8 (va_up (hLv s) (lyLeast (hLv s) 0 8 0).toNat (some (n + 1)))))) := hFr_lay (fun a h3 h4 => dvDm_no h3 h4)
    revert hA1 hF1
    generalize (ptPut (dvDm (hD s) n) (plShare 9 n ((ptLen (dvI (hP s) q n dn n) dn - 1) / 2) (dvI (hP s) q n dn)) (va_up (va_up h (B + 107) (pz_o 5 [.ref (B + 108), .ref (exR (dvA (hP s) q n) q n (hRt s))])) (B + 108) (pz_r 4 8 (va_up (hLv s) (lyLeast (hLv s) 0 8 0).toNat (some (n + 1)))))) = h1
    intro hA1 hF1
    obtain ⟨l1, l2⟩ := lyLeast_r (lv := hLv s) (t := 0) 8 0 (by omega)
    have hly := hnew hok
    refine pw_istore_n (lv' := [some (.ref B), some (.int (zI (p))), some (.int (zI (dn))), some (.int (zI ((lyLeast (hLv s) 0 8 0))))]) dX9_divide_9 (by decide) rfl rfl ?_
    refine pw_iload_n dX9_divide_10 rfl ?_
    refine pw_iconst (v := zI (-1)) dX9_divide_11 (by decide) ?_
    refine pw_icmp_eq (tgt := 33) dX9_divide_12 rfl (by omega) (by omega) (fun c12 => ?_) (fun c12 => ?_)
    · exfalso; omega
    ·
      refine pw_aload_n dX9_divide_15 rfl ?_
      refine pw_callV (As := []) (b := B) (rm := rmD 5 0 0) (mX9_fitPanes htr gG0 hA1 hly.2.1 hly.2.2.2.2.2 gP) rfl hA1.1 rfl rfl ywX9_fitPanes rfl cwX9_53 ⟨nle rfl, nle rfl⟩ (nle rfl) ⟨nle rfl, nle rfl⟩ dX9_divide_16 ?_ (fun _ _ _ z => z.elim)
      intro r2 h2 n2 hq _
      obtain ⟨e1, hA2, hF20, e4⟩ := hq
      rw [e1, e4]
      show pw E YX9_divide _ _ (0 + 2) (0 + 16) 19 [some (.ref B), some (.int (zI (p))), some (.int (zI (dn))), some (.int (zI ((lyLeast (hLv s) 0 8 0))))] [] h2 (n + 1 + 1)
      have hA2 : hAt w H N NH NB NL B (sFit w H (sDiv n p dn s)) h2 := hA2
      have hF2 : hFr B n (hD s) h h2 := hFr_tr hF1 (hFr_w (n' := n + 1 + 1) (D' := dvDm (hD s) n) (by omega) (fun a h3 h4 => dvDm_no h3 h4) hF20)
      refine pw_aload_n dX9_divide_19 rfl ?_
      refine pw_get (v := .ref (B + 1)) okX9 (k := 2) (by decide) lkX9_11 hA2.1 rfl dX9_divide_20 ?_
      refine pw_iload_n dX9_divide_23 rfl ?_
      refine pw_aaldO (t := 3) rfl hA2.2.1 (by omega) (by decide) dX9_divide_24 ?_
      rw [show rv (hPv B ((lyLeast (hLv s) 0 8 0)).toNat) = Value.ref (B + 3 + 13 * ((lyLeast (hLv s) 0 8 0)).toNat) from by rw [hPv_s (by omega)]; rfl]
      have hpk : pWk w H M (hX (sFit w H (sDiv n p dn s)) (lyLeast (hLv s) 0 8 0).toNat) := hFit_wk gP hly.2.2.2.2.2 (by omega) (by omega) (lyLeast (hLv s) 0 8 0).toNat (by omega)
      have hlv1 : hLv (sDiv n p dn s) (lyLeast (hLv s) 0 8 0).toNat = some (n + 1) := va_up_self _ _ _
      have hx3 : (hX (sFit w H (sDiv n p dn s)) (lyLeast (hLv s) 0 8 0).toNat).1.1.1 3 = (hP (sDiv n p dn s) (n + 1)).1 2 ∧ (hX (sFit w H (sDiv n p dn s)) (lyLeast (hLv s) 0 8 0).toNat).1.1.1 4 = (hP (sDiv n p dn s) (n + 1)).1 3 := by
        rw [show (hX (sFit w H (sDiv n p dn s)) (lyLeast (hLv s) 0 8 0).toNat) = hFitV w H (hP (sDiv n p dn s)) (hLv (sDiv n p dn s) (lyLeast (hLv s) 0 8 0).toNat) (hX (sDiv n p dn s) (lyLeast (hLv s) 0 8 0).toNat) from hFit_8 (by omega), hlv1]
        exact zResize_3
      obtain ⟨ar3, ar4, -, -⟩ := hly.2.2.2.2.2 _ _ hlv1
      obtain ⟨p3, p4, p5, p6, p9, p10, pcl, pT, pR, pcm, pof, pto⟩ := hpk
      refine pw_callV (As := []) (b := (B + 3 + 13 * ((lyLeast (hLv s) 0 8 0)).toNat)) (rm := rmD 5 0 0) (mX4_begin htr gG0 (hA_pn hA2 (k := (lyLeast (hLv s) 0 8 0).toNat) (by omega)).1 pT (by omega) ⟨zReset_ok (by omega) (by omega), pR⟩ (hA_pn hA2 (k := (lyLeast (hLv s) 0 8 0).toNat) (by omega)).2.1 (hA_pn hA2 (k := (lyLeast (hLv s) 0 8 0).toNat) (by omega)).2.2.1 (fun i _ => pnI_ne (by omega)) ⟨by show (B + 3 + 13 * (lyLeast (hLv s) 0 8 0).toNat) + 11 ≠ (B + 3 + 13 * (lyLeast (hLv s) 0 8 0).toNat); omega, by show (B + 3 + 13 * (lyLeast (hLv s) 0 8 0).toNat) + 12 ≠ (B + 3 + 13 * (lyLeast (hLv s) 0 8 0).toNat); omega⟩ (fun i _ => pnI_ne (by omega)) ⟨by show (B + 3 + 13 * (lyLeast (hLv s) 0 8 0).toNat) + 11 ≠ (B + 3 + 13 * (lyLeast (hLv s) 0 8 0).toNat) + 1; omega, by show (B + 3 + 13 * (lyLeast (hLv s) 0 8 0).toNat) + 12 ≠ (B + 3 + 13 * (lyLeast (hLv s) 0 8 0).toNat) + 1; omega⟩ (by omega) (by omega) (by omega)) rfl (hA_pn hA2 (k := (lyLeast (hLv s) 0 8 0).toNat) (by omega)).2.1 rfl rfl ywX4_begin rfl cwX9_56 ⟨nle rfl, nle rfl⟩ (nle rfl) ⟨nle rfl, nle rfl⟩ dX9_divide_25 ?_ (fun _ _ _ z => z.elim)
      intro r_9 h_9 n_9 hq _
      rw [hq.1, hq.2.1, hq.2.2]
      show pw E YX9_divide _ _ (0 + 2) (0 + 16) 28 [some (.ref B), some (.int (zI (p))), some (.int (zI (dn))), some (.int (zI ((lyLeast (hLv s) 0 8 0))))] [] (va_up (va_up (rP w H N NH (pnI (B + 3 + 13 * (lyLeast (hLv s) 0 8 0).toNat)) (pnJ (B + 3 + 13 * (lyLeast (hLv s) 0 8 0).toNat)) (zReset w H (hX (sFit w H (sDiv n p dn s)) (lyLeast (hLv s) 0 8 0).toNat).1.1) (va_up (hX (sFit w H (sDiv n p dn s)) (lyLeast (hLv s) 0 8 0).toNat).1.2.1 5 0) (hX (sFit w H (sDiv n p dn s)) (lyLeast (hLv s) 0 8 0).toNat).1.2.2 h2) (B + 3 + 13 * (lyLeast (hLv s) 0 8 0).toNat + 1) (pz_o 11 [.ref (B + 3 + 13 * (lyLeast (hLv s) 0 8 0).toNat + 2), .int (zI 0)])) (B + 3 + 13 * (lyLeast (hLv s) 0 8 0).toNat) (pz_o 7 [.ref (B + 3 + 13 * (lyLeast (hLv s) 0 8 0).toNat + 3), .ref (B + 3 + 13 * (lyLeast (hLv s) 0 8 0).toNat + 11), .ref (B + 3 + 13 * (lyLeast (hLv s) 0 8 0).toNat + 1), .int (zI 0), .int (zI (if 0 = (hX (sFit w H (sDiv n p dn s)) (lyLeast (hLv s) 0 8 0).toNat).2.1.1 then (hX (sFit w H (sDiv n p dn s)) (lyLeast (hLv s) 0 8 0).toNat).2.1.2 else 0))])) (n + 1 + 1)
      have hpB : pnAt w H N NH (B + 3 + 13 * (lyLeast (hLv s) 0 8 0).toNat) (pBg w H (hX (sFit w H (sDiv n p dn s)) (lyLeast (hLv s) 0 8 0).toNat)) (va_up (va_up (rP w H N NH (pnI (B + 3 + 13 * (lyLeast (hLv s) 0 8 0).toNat)) (pnJ (B + 3 + 13 * (lyLeast (hLv s) 0 8 0).toNat)) (zReset w H (hX (sFit w H (sDiv n p dn s)) (lyLeast (hLv s) 0 8 0).toNat).1.1) (va_up (hX (sFit w H (sDiv n p dn s)) (lyLeast (hLv s) 0 8 0).toNat).1.2.1 5 0) (hX (sFit w H (sDiv n p dn s)) (lyLeast (hLv s) 0 8 0).toNat).1.2.2 h2) (B + 3 + 13 * (lyLeast (hLv s) 0 8 0).toNat + 1) (pz_o 11 [.ref (B + 3 + 13 * (lyLeast (hLv s) 0 8 0).toNat + 2), .int (zI 0)])) (B + 3 + 13 * (lyLeast (hLv s) 0 8 0).toNat) (pz_o 7 [.ref (B + 3 + 13 * (lyLeast (hLv s) 0 8 0).toNat + 3), .ref (B + 3 + 13 * (lyLeast (hLv s) 0 8 0).toNat + 11), .ref (B + 3 + 13 * (lyLeast (hLv s) 0 8 0).toNat + 1), .int (zI 0), .int (zI (if 0 = (hX (sFit w H (sDiv n p dn s)) (lyLeast (hLv s) 0 8 0).toNat).2.1.1 then (hX (sFit w H (sDiv n p dn s)) (lyLeast (hLv s) 0 8 0).toNat).2.1.2 else 0))])) := by
        have z1 := pnAt_r (s := zReset w H (hX (sFit w H (sDiv n p dn s)) (lyLeast (hLv s) 0 8 0).toNat).1.1) (R := va_up (hX (sFit w H (sDiv n p dn s)) (lyLeast (hLv s) 0 8 0).toNat).1.2.1 5 0) (q := (hX (sFit w H (sDiv n p dn s)) (lyLeast (hLv s) 0 8 0).toNat).1.2.2) (hA_pn hA2 (k := (lyLeast (hLv s) 0 8 0).toNat) (by omega))
        have z2 := pnAt_t (c := ((hX (sFit w H (sDiv n p dn s)) (lyLeast (hLv s) 0 8 0).toNat).2.2.1, 0)) z1
        have z3 := pnAt_c (cm := 0) (of := if 0 = (hX (sFit w H (sDiv n p dn s)) (lyLeast (hLv s) 0 8 0).toNat).2.1.1 then (hX (sFit w H (sDiv n p dn s)) (lyLeast (hLv s) 0 8 0).toNat).2.1.2 else 0) z2
        have e9 : tyP (B + 3 + 13 * (lyLeast (hLv s) 0 8 0).toNat + 1) (B + 3 + 13 * (lyLeast (hLv s) 0 8 0).toNat + 2) ((hX (sFit w H (sDiv n p dn s)) (lyLeast (hLv s) 0 8 0).toNat).2.2.1, 0) (rP w H N NH (pnI (B + 3 + 13 * (lyLeast (hLv s) 0 8 0).toNat)) (pnJ (B + 3 + 13 * (lyLeast (hLv s) 0 8 0).toNat)) (zReset w H (hX (sFit w H (sDiv n p dn s)) (lyLeast (hLv s) 0 8 0).toNat).1.1) (va_up (hX (sFit w H (sDiv n p dn s)) (lyLeast (hLv s) 0 8 0).toNat).1.2.1 5 0) (hX (sFit w H (sDiv n p dn s)) (lyLeast (hLv s) 0 8 0).toNat).1.2.2 h2) = va_up (rP w H N NH (pnI (B + 3 + 13 * (lyLeast (hLv s) 0 8 0).toNat)) (pnJ (B + 3 + 13 * (lyLeast (hLv s) 0 8 0).toNat)) (zReset w H (hX (sFit w H (sDiv n p dn s)) (lyLeast (hLv s) 0 8 0).toNat).1.1) (va_up (hX (sFit w H (sDiv n p dn s)) (lyLeast (hLv s) 0 8 0).toNat).1.2.1 5 0) (hX (sFit w H (sDiv n p dn s)) (lyLeast (hLv s) 0 8 0).toNat).1.2.2 h2) (B + 3 + 13 * (lyLeast (hLv s) 0 8 0).toNat + 1) (pz_o 11 [.ref (B + 3 + 13 * (lyLeast (hLv s) 0 8 0).toNat + 2), .int (zI 0)]) := by unfold tyP; rw [pz_up_id z1.2.2.2]
        rw [e9] at z3
        exact z3
      have hp1 : pnAt w H N NH (B + 3 + 13 * (lyLeast (hLv s) 0 8 0).toNat) (pBg w H (hX (sFit w H (sDiv n p dn s)) (lyLeast (hLv s) 0 8 0).toNat)) (va_up (va_up (rP w H N NH (pnI (B + 3 + 13 * (lyLeast (hLv s) 0 8 0).toNat)) (pnJ (B + 3 + 13 * (lyLeast (hLv s) 0 8 0).toNat)) (zReset w H (hX (sFit w H (sDiv n p dn s)) (lyLeast (hLv s) 0 8 0).toNat).1.1) (va_up (hX (sFit w H (sDiv n p dn s)) (lyLeast (hLv s) 0 8 0).toNat).1.2.1 5 0) (hX (sFit w H (sDiv n p dn s)) (lyLeast (hLv s) 0 8 0).toNat).1.2.2 h2) (B + 3 + 13 * (lyLeast (hLv s) 0 8 0).toNat + 1) (pz_o 11 [.ref (B + 3 + 13 * (lyLeast (hLv s) 0 8 0).toNat + 2), .int (zI 0)])) (B + 3 + 13 * (lyLeast (hLv s) 0 8 0).toNat) (pz_o 7 [.ref (B + 3 + 13 * (lyLeast (hLv s) 0 8 0).toNat + 3), .ref (B + 3 + 13 * (lyLeast (hLv s) 0 8 0).toNat + 11), .ref (B + 3 + 13 * (lyLeast (hLv s) 0 8 0).toNat + 1), .int (zI 0), .int (zI (if 0 = (hX (sFit w H (sDiv n p dn s)) (lyLeast (hLv s) 0 8 0).toNat).2.1.1 then (hX (sFit w H (sDiv n p dn s)) (lyLeast (hLv s) 0 8 0).toNat).2.1.2 else 0))])) := hpB
      have hA1 : hAt w H N NH NB NL B (sX (lyLeast (hLv s) 0 8 0).toNat (pBg w H (hX (sFit w H (sDiv n p dn s)) (lyLeast (hLv s) 0 8 0).toNat)) (sFit w H (sDiv n p dn s))) (va_up (va_up (rP w H N NH (pnI (B + 3 + 13 * (lyLeast (hLv s) 0 8 0).toNat)) (pnJ (B + 3 + 13 * (lyLeast (hLv s) 0 8 0).toNat)) (zReset w H (hX (sFit w H (sDiv n p dn s)) (lyLeast (hLv s) 0 8 0).toNat).1.1) (va_up (hX (sFit w H (sDiv n p dn s)) (lyLeast (hLv s) 0 8 0).toNat).1.2.1 5 0) (hX (sFit w H (sDiv n p dn s)) (lyLeast (hLv s) 0 8 0).toNat).1.2.2 h2) (B + 3 + 13 * (lyLeast (hLv s) 0 8 0).toNat + 1) (pz_o 11 [.ref (B + 3 + 13 * (lyLeast (hLv s) 0 8 0).toNat + 2), .int (zI 0)])) (B + 3 + 13 * (lyLeast (hLv s) 0 8 0).toNat) (pz_o 7 [.ref (B + 3 + 13 * (lyLeast (hLv s) 0 8 0).toNat + 3), .ref (B + 3 + 13 * (lyLeast (hLv s) 0 8 0).toNat + 11), .ref (B + 3 + 13 * (lyLeast (hLv s) 0 8 0).toNat + 1), .int (zI 0), .int (zI (if 0 = (hX (sFit w H (sDiv n p dn s)) (lyLeast (hLv s) 0 8 0).toNat).2.1.1 then (hX (sFit w H (sDiv n p dn s)) (lyLeast (hLv s) 0 8 0).toNat).2.1.2 else 0))])) := hAt_X hA2 (by omega) hp1 (fun a ha => (va_up_ne _ _ (by omega)).trans ((va_up_ne _ _ (by omega)).trans (rP_out ha)))
      have hF1 : hFr B n (hD s) h (va_up (va_up (rP w H N NH (pnI (B + 3 + 13 * (lyLeast (hLv s) 0 8 0).toNat)) (pnJ (B + 3 + 13 * (lyLeast (hLv s) 0 8 0).toNat)) (zReset w H (hX (sFit w H (sDiv n p dn s)) (lyLeast (hLv s) 0 8 0).toNat).1.1) (va_up (hX (sFit w H (sDiv n p dn s)) (lyLeast (hLv s) 0 8 0).toNat).1.2.1 5 0) (hX (sFit w H (sDiv n p dn s)) (lyLeast (hLv s) 0 8 0).toNat).1.2.2 h2) (B + 3 + 13 * (lyLeast (hLv s) 0 8 0).toNat + 1) (pz_o 11 [.ref (B + 3 + 13 * (lyLeast (hLv s) 0 8 0).toNat + 2), .int (zI 0)])) (B + 3 + 13 * (lyLeast (hLv s) 0 8 0).toNat) (pz_o 7 [.ref (B + 3 + 13 * (lyLeast (hLv s) 0 8 0).toNat + 3), .ref (B + 3 + 13 * (lyLeast (hLv s) 0 8 0).toNat + 11), .ref (B + 3 + 13 * (lyLeast (hLv s) 0 8 0).toNat + 1), .int (zI 0), .int (zI (if 0 = (hX (sFit w H (sDiv n p dn s)) (lyLeast (hLv s) 0 8 0).toNat).2.1.1 then (hX (sFit w H (sDiv n p dn s)) (lyLeast (hLv s) 0 8 0).toNat).2.1.2 else 0))])) := hFr_tr hF2 (hFr_in (lo := (B + 3 + 13 * (lyLeast (hLv s) 0 8 0).toNat)) (hi := (B + 3 + 13 * (lyLeast (hLv s) 0 8 0).toNat) + 12) (fun a ha => (va_up_ne _ _ (by omega)).trans ((va_up_ne _ _ (by omega)).trans (rP_out ha))) (by omega) (by omega))
      revert hp1 hA1 hF1
      generalize (va_up (va_up (rP w H N NH (pnI (B + 3 + 13 * (lyLeast (hLv s) 0 8 0).toNat)) (pnJ (B + 3 + 13 * (lyLeast (hLv s) 0 8 0).toNat)) (zReset w H (hX (sFit w H (sDiv n p dn s)) (lyLeast (hLv s) 0 8 0).toNat).1.1) (va_up (hX (sFit w H (sDiv n p dn s)) (lyLeast (hLv s) 0 8 0).toNat).1.2.1 5 0) (hX (sFit w H (sDiv n p dn s)) (lyLeast (hLv s) 0 8 0).toNat).1.2.2 h2) (B + 3 + 13 * (lyLeast (hLv s) 0 8 0).toNat + 1) (pz_o 11 [.ref (B + 3 + 13 * (lyLeast (hLv s) 0 8 0).toNat + 2), .int (zI 0)])) (B + 3 + 13 * (lyLeast (hLv s) 0 8 0).toNat) (pz_o 7 [.ref (B + 3 + 13 * (lyLeast (hLv s) 0 8 0).toNat + 3), .ref (B + 3 + 13 * (lyLeast (hLv s) 0 8 0).toNat + 11), .ref (B + 3 + 13 * (lyLeast (hLv s) 0 8 0).toNat + 1), .int (zI 0), .int (zI (if 0 = (hX (sFit w H (sDiv n p dn s)) (lyLeast (hLv s) 0 8 0).toNat).2.1.1 then (hX (sFit w H (sDiv n p dn s)) (lyLeast (hLv s) 0 8 0).toNat).2.1.2 else 0))])) = h1
      intro hp1 hA1 hF1
      refine pw_aload_n dX9_divide_28 rfl ?_
      refine pw_iload_n dX9_divide_29 rfl ?_
      refine pw_put (fs' := (hoL (B + 1) (B + 107) (B + 110) (B + 113) (B + 114) (B + 2) w H ((hClp (sX (lyLeast (hLv s) 0 8 0).toNat (pBg w H (hX (sFit w H (sDiv n p dn s)) (lyLeast (hLv s) 0 8 0).toNat)) (sFit w H (sDiv n p dn s)))).2) ((lyLeast (hLv s) 0 8 0)) (hPre (sX (lyLeast (hLv s) 0 8 0).toNat (pBg w H (hX (sFit w H (sDiv n p dn s)) (lyLeast (hLv s) 0 8 0).toNat)) (sFit w H (sDiv n p dn s)))))) okX9 (k := 9) (by decide) lkX9_88 rfl rfl rfl hA1.1 (nlt rfl) rfl dX9_divide_30 ?_
      have hA2 : hAt w H N NH NB NL B (sFoc ((lyLeast (hLv s) 0 8 0)) (sX (lyLeast (hLv s) 0 8 0).toNat (pBg w H (hX (sFit w H (sDiv n p dn s)) (lyLeast (hLv s) 0 8 0).toNat)) (sFit w H (sDiv n p dn s)))) (va_up h1 B (pz_o 12 (hoL (B + 1) (B + 107) (B + 110) (B + 113) (B + 114) (B + 2) w H ((hClp (sX (lyLeast (hLv s) 0 8 0).toNat (pBg w H (hX (sFit w H (sDiv n p dn s)) (lyLeast (hLv s) 0 8 0).toNat)) (sFit w H (sDiv n p dn s)))).2) ((lyLeast (hLv s) 0 8 0)) (hPre (sX (lyLeast (hLv s) 0 8 0).toNat (pBg w H (hX (sFit w H (sDiv n p dn s)) (lyLeast (hLv s) 0 8 0).toNat)) (sFit w H (sDiv n p dn s))))))) := hAt_foc hA1
      have hF2 : hFr B n (hD s) h (va_up h1 B (pz_o 12 (hoL (B + 1) (B + 107) (B + 110) (B + 113) (B + 114) (B + 2) w H ((hClp (sX (lyLeast (hLv s) 0 8 0).toNat (pBg w H (hX (sFit w H (sDiv n p dn s)) (lyLeast (hLv s) 0 8 0).toNat)) (sFit w H (sDiv n p dn s)))).2) ((lyLeast (hLv s) 0 8 0)) (hPre (sX (lyLeast (hLv s) 0 8 0).toNat (pBg w H (hX (sFit w H (sDiv n p dn s)) (lyLeast (hLv s) 0 8 0).toNat)) (sFit w H (sDiv n p dn s))))))) := hFr_tr hF1 (hFr_in (lo := B) (hi := B) (fun a ha => va_up_ne _ _ (by omega)) (by omega) (by omega))
      revert hA2 hF2
      generalize (va_up h1 B (pz_o 12 (hoL (B + 1) (B + 107) (B + 110) (B + 113) (B + 114) (B + 2) w H ((hClp (sX (lyLeast (hLv s) 0 8 0).toNat (pBg w H (hX (sFit w H (sDiv n p dn s)) (lyLeast (hLv s) 0 8 0).toNat)) (sFit w H (sDiv n p dn s)))).2) ((lyLeast (hLv s) 0 8 0)) (hPre (sX (lyLeast (hLv s) 0 8 0).toNat (pBg w H (hX (sFit w H (sDiv n p dn s)) (lyLeast (hLv s) 0 8 0).toNat)) (sFit w H (sDiv n p dn s))))))) = h2
      intro hA2 hF2
      refine pw_iload_n dX9_divide_33 rfl ?_
      exact pw_iret dX9_divide_34 rfl (nle rfl) (nle rfl) (Or.inl ⟨hok, rfl, hA2, hF2, rfl⟩)
  ·
    have hok : ¬ dvOk s p dn := fun z => by
      rcases c1 with c1 | c1 | ⟨q, c1, c2⟩
      · exact z.2.2.1 c1
      · unfold lyHas at c1; rw [if_pos ⟨z.1.1, z.1.2, z.2.1⟩] at c1; cases c1
      · have z4 := z.2.2.2; unfold dvQ at z4; rw [c1] at z4; exact absurd z4 (by show ¬ 2 < ptLen (hP s q) dn; omega)
    rw [e1, e2, e3, hA_pt hA]
    show pw E YX9_divide _ _ (0 + 2) (0 + 16) 9 [some (.ref B), some (.int (zI (p))), some (.int (zI (dn))), none] [.int (zI (-1))] h n
    refine pw_istore_n (lv' := [some (.ref B), some (.int (zI (p))), some (.int (zI (dn))), some (.int (zI (-1)))]) dX9_divide_9 (by decide) rfl rfl ?_
    refine pw_iload_n dX9_divide_10 rfl ?_
    refine pw_iconst (v := zI (-1)) dX9_divide_11 (by decide) ?_
    refine pw_icmp_eq (tgt := 33) dX9_divide_12 rfl (by omega) (by omega) (fun c12 => ?_) (fun c12 => ?_)
    ·
      refine pw_iload_n dX9_divide_33 rfl ?_
      exact pw_iret dX9_divide_34 rfl (nle rfl) (nle rfl) (Or.inr ⟨hok, rfl, hA, hFr_rf, rfl⟩)
    · exfalso; omega
