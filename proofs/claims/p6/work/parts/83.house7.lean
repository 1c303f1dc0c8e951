def YX9_remove : pw_Y := (RX9, "remove", cX9_remove, 3, (some .boolean))
theorem ywX9_remove : pw_y yX9_remove YX9_remove 1 := ⟨by decide +kernel, by decide +kernel, by decide +kernel, pw_in 1153 (by decide +kernel) (by decide +kernel), pw_in 79 (by decide +kernel) (by decide +kernel)⟩
theorem cwX9_267 : Cond.methodLink RX9 267 yX2_remove ∈ pw_G ∧ Cond.instanceMethod yX2_remove ∈ pw_G ∧ Cond.selects RX2 yX2_remove yX2_remove ∈ pw_G := ⟨pw_in 1154 (by decide +kernel) (by decide +kernel), pw_in 1155 (by decide +kernel) (by decide +kernel), pw_in 1156 (by decide +kernel) (by decide +kernel)⟩
theorem cwX9_268 : Cond.methodLink RX9 268 yX2_least ∈ pw_G ∧ Cond.instanceMethod yX2_least ∈ pw_G ∧ Cond.selects RX2 yX2_least yX2_least ∈ pw_G := ⟨pw_in 1158 (by decide +kernel) (by decide +kernel), pw_in 1126 (by decide +kernel) (by decide +kernel), pw_in 1127 (by decide +kernel) (by decide +kernel)⟩
def YX9_command : pw_Y := (RX9, "command", cX9_command, 2, none)
theorem ywX9_command : pw_y yX9_command YX9_command 1 := ⟨by decide +kernel, by decide +kernel, by decide +kernel, pw_in 1116 (by decide +kernel) (by decide +kernel), pw_in 79 (by decide +kernel) (by decide +kernel)⟩
theorem cwX9_94 : Cond.methodLink RX9 94 yX9_divide ∈ pw_G ∧ Cond.instanceMethod yX9_divide ∈ pw_G ∧ Cond.selects RX9 yX9_divide yX9_divide ∈ pw_G := ⟨pw_in 1117 (by decide +kernel) (by decide +kernel), pw_in 1119 (by decide +kernel) (by decide +kernel), pw_in 25 (by decide +kernel) (by decide +kernel)⟩
theorem cwX9_260 : Cond.methodLink RX9 260 yX9_paste ∈ pw_G ∧ Cond.instanceMethod yX9_paste ∈ pw_G ∧ Cond.selects RX9 yX9_paste yX9_paste ∈ pw_G := ⟨pw_in 1160 (by decide +kernel) (by decide +kernel), pw_in 1162 (by decide +kernel) (by decide +kernel), pw_in 28 (by decide +kernel) (by decide +kernel)⟩
theorem cwX9_257 : Cond.methodLink RX9 257 yX2_paneBehind ∈ pw_G ∧ Cond.instanceMethod yX2_paneBehind ∈ pw_G ∧ Cond.selects RX2 yX2_paneBehind yX2_paneBehind ∈ pw_G := ⟨pw_in 1146 (by decide +kernel) (by decide +kernel), pw_in 1147 (by decide +kernel) (by decide +kernel), pw_in 1148 (by decide +kernel) (by decide +kernel)⟩
theorem cwX9_103 : Cond.methodLink RX9 103 yX9_remove ∈ pw_G ∧ Cond.instanceMethod yX9_remove ∈ pw_G ∧ Cond.selects RX9 yX9_remove yX9_remove ∈ pw_G := ⟨pw_in 1150 (by decide +kernel) (by decide +kernel), pw_in 1152 (by decide +kernel) (by decide +kernel), pw_in 27 (by decide +kernel) (by decide +kernel)⟩
theorem sRm_no {p : Int} {s : hS} (hn : ¬ rmOk (hP s) (hLv s) p) : sRm p s = s := by
  unfold sRm rmP rmRt rmLv
  rw [if_neg hn, if_neg hn, if_neg hn]
  rfl
def sDv (w H : Int) (n : Nat) (p dn : Int) (s : hS) : hS := if dvOk s p dn then sDivide w H n p dn s else s
def nDv (n : Nat) (p dn : Int) (s : hS) : Nat := if dvOk s p dn then n + 1 + 1 else n
def sRmv (w H : Int) (p : Int) (s : hS) : hS := if rmOk (hP s) (hLv s) p then sRemove w H p s else s
/-- a key behind the PREFIX -/
def sCmd (w H : Int) (n : Nat) (k : Int) (s : hS) : hS := if k = 34 then sDv w H n (hFoc s) 1 s else if k = 37 then sDv w H n (hFoc s) 0 s else if k = 111 then sFoc (lyNext (hLv s) (hFoc s) 7 1) s else if k = 120 then sRmv w H (hFoc s) s
  else if k = 91 then sX (hFoc s).toNat (pCm (1 - (hX s (hFoc s).toNat).2.1.1) (hX s (hFoc s).toNat)) s else if k = 93 then sX (hFoc s).toNat ((hX s (hFoc s).toNat).1, (hX s (hFoc s).toNat).2.1, tyRun (hClp s).1 (hClp s).2.toNat 0 (hX s (hFoc s).toNat).2.2) s
  else if k = 2 then sX (hFoc s).toNat ((hX s (hFoc s).toNat).1, (hX s (hFoc s).toNat).2.1, tyB 2 (hX s (hFoc s).toNat).2.2) s else s
def nCmd (n : Nat) (k : Int) (s : hS) : Nat := if k = 34 then nDv n (hFoc s) 1 s else if k = 37 then nDv n (hFoc s) 0 s else n
/-- a key for a pane -/
def pPr (k : Int) (x : pSt) : pSt := if x.2.1.1 = 0 then (x.1, x.2.1, tyB k x.2.2) else (x.1, pPress x.2.1.1 x.2.1.2 (x.1.1.2.2.2.1 4) k, x.2.2)
def sKey (w H : Int) (n : Nat) (k : Int) (s : hS) : hS := if ¬ hPre s = 0 then sCmd w H n k (sPre 0 s) else if k = 2 then sPre 1 s else sX (hFoc s).toNat (pPr k (hX s (hFoc s).toNat)) s
def nKey (n : Nat) (k : Int) (s : hS) : Nat := if ¬ hPre s = 0 then nCmd n k (sPre 0 s) else n
set_option maxHeartbeats 4000000 in
set_option maxRecDepth 100000 in
/-- remove(p) -/
theorem mX9_remove {E : pw_E} (htr : E.1.stackTraces = false) {h : pz_H} {n : Nat} {w H M : Int} {N NH NB NL B : Nat} {s : hS} (hG : geoH w H N NH NB NL) (hA : hAt w H N NH NB NL B s h) (hg : hGd w H M NB s) (hM : 0 ≤ M ∧ M ≤ 900000000) {p : Int} (h_p : -2147483648 ≤ p ∧ p < 2147483648) (hnew : rmOk (hP s) (hLv s) p → lyOk w H (sRm p s)) : pw_M E yX9_remove YX9_remove (rmD 20 0 0) [.ref B, .int (zI (p))] h n (fun r h' n' => (rmOk (hP s) (hLv s) p ∧ r = some (.int (zI 1)) ∧ hAt w H N NH NB NL B (sRemove w H p s) h' ∧ hFr B n (hD s) h h' ∧ n' = n) ∨ (¬ rmOk (hP s) (hLv s) p ∧ r = some (.int (zI 0)) ∧ hAt w H N NH NB NL B s h' ∧ hFr B n (hD s) h h' ∧ n' = n)) (fun _ _ _ => False) := by
  have hG0 := hG
  have hg0 := hg
  obtain ⟨gG, gNB, gNL⟩ := hG
  have gG0 := gG
  obtain ⟨gw, gH, gN, gN2, gNH⟩ := gG
  obtain ⟨gP, gL, gY, gF, gFl, gPr, gC, gO, gPi, gLi⟩ := hg
  obtain ⟨gO3, gO4, gO5, gO6, gO7, gOc⟩ := gO
  refine pw_M_of (lv := [some (.ref B), some (.int (zI (p))), none]) (by decide) rfl rfl htr (nle rfl) rfl (fun L => ?_)
  refine pw_aload_n dX9_remove_0 rfl ?_
  refine pw_get (v := .ref (B + 107)) okX9 (k := 3) (by decide) lkX9_36 hA.1 rfl dX9_remove_1 ?_
  refine pw_iload_n dX9_remove_4 rfl ?_
  refine pw_h (hA_pt hA).symm ?_
  refine pw_callV (As := [.int (zI (p))]) (b := (B + 107)) (rm := rmD 19 0 0) (mX2_remove (L := 100) htr hA.2.2.2.2.1 hA.2.2.2.2.2.1 (hD_no hA (by omega)) (hD_no hA (by omega)) (by omega) gY.1 gY.2.1 gY.2.2.1 (by decide) (by omega)) rfl ((ptNo (hD_no hA (by omega))).trans hA.2.2.2.2.1) rfl rfl ywX2_remove rfl cwX9_267 ⟨nle rfl, nle rfl⟩ (nle rfl) ⟨nle rfl, nle rfl⟩ dX9_remove_5 ?_ (fun _ _ _ z => z.elim)
  intro r_9 h_9 n_9 hq _
  rw [hq.1, hq.2.1, hq.2.2]
  show pw E YX9_remove _ _ 0 0 8 [some (.ref B), some (.int (zI (p))), none] [.int (zI (if rmOk (hP s) (hLv s) p then 1 else 0))] (ptPut (hD s) (rmP (hP s) (hLv s) p) (va_up (va_up h (B + 107) (pz_o 5 [.ref (B + 108), .ref (rmRt (hP s) (hLv s) p (hRt s))])) (B + 108) (pz_r 4 8 (rmLv (hP s) (hLv s) p)))) n
  have hA1 : hAt w H N NH NB NL B (sRm p s) (ptPut (hD s) (rmP (hP s) (hLv s) p) (va_up (va_up h (B + 107) (pz_o 5 [.ref (B + 108), .ref (rmRt (hP s) (hLv s) p (hRt s))])) (B + 108) (pz_r 4 8 (rmLv (hP s) (hLv s) p)))) := hAt_lay2 hA hA.2.2.2.2.2.2.2.2.2.2
  have hF1 : hFr B n (hD s) h (ptPut (hD s) (rmP (hP s) (hLv s) p) (va_up (va_up h (B + 107) (pz_o 5 [.ref (B + 108), .ref (rmRt (hP s) (hLv s) p (hRt s))])) (B + 108) (pz_r 4 8 (rmLv (hP s) (hLv s) p)))) := hFr_tr hFr_rf (hFr_lay (fun a _ h4 => h4))
  revert hA1 hF1
  generalize (ptPut (hD s) (rmP (hP s) (hLv s) p) (va_up (va_up h (B + 107) (pz_o 5 [.ref (B + 108), .ref (rmRt (hP s) (hLv s) p (hRt s))])) (B + 108) (pz_r 4 8 (rmLv (hP s) (hLv s) p)))) = h1
  intro hA1 hF1
  by_cases hok : rmOk (hP s) (hLv s) p
  ·
    rw [if_pos hok]
    have hly := hnew hok
    refine pw_istore_n (lv' := [some (.ref B), some (.int (zI (p))), some (.int (zI (1)))]) dX9_remove_8 (by decide) rfl rfl ?_
    refine pw_iload_n dX9_remove_9 rfl ?_
    refine pw_if_eq (tgt := 37) dX9_remove_10 rfl (by omega) (fun c10 => ?_) (fun c10 => ?_)
    · exfalso; omega
    ·
      refine pw_aload_n dX9_remove_13 rfl ?_
      refine pw_callV (As := []) (b := B) (rm := rmD 5 0 0) (mX9_fitPanes htr gG0 hA1 hly.2.1 hly.2.2.2.2.2 gP) rfl hA1.1 rfl rfl ywX9_fitPanes rfl cwX9_53 ⟨nle rfl, nle rfl⟩ (nle rfl) ⟨nle rfl, nle rfl⟩ dX9_remove_14 ?_ (fun _ _ _ z => z.elim)
      intro r2 h2 n2 hq _
      obtain ⟨e1, hA2, hF20, e4⟩ := hq
      rw [e1, e4]
      show pw E YX9_remove _ _ 0 0 17 [some (.ref B), some (.int (zI (p))), some (.int (zI (1)))] [] h2 n
      have hA2 : hAt w H N NH NB NL B (sFit w H (sRm p s)) h2 := hA2
      have hF2 : hFr B n (hD s) h h2 := hFr_tr hF1 ( hF20)
      refine pw_aload_n dX9_remove_17 rfl ?_
      refine pw_get (v := .int (zI (hFoc s))) okX9 (k := 9) (by decide) lkX9_88 hA2.1 rfl dX9_remove_18 ?_
      refine pw_iload_n dX9_remove_21 rfl ?_
      refine pw_icmp_ne (tgt := 37) dX9_remove_22 rfl (by omega) (by omega) (fun c22 => ?_) (fun c22 => ?_)
      ·
        refine pw_iload_n dX9_remove_37 rfl ?_
        exact pw_zret dX9_remove_38 rfl (by decide) (nle rfl) (nle rfl) (Or.inl ⟨hok, rfl, by unfold sRemove; rw [if_neg (by omega)]; exact hA2, hF2, rfl⟩)
      ·
        refine pw_aload_n dX9_remove_25 rfl ?_
        refine pw_aload_n dX9_remove_26 rfl ?_
        refine pw_get (v := .ref (B + 107)) okX9 (k := 3) (by decide) lkX9_36 hA2.1 rfl dX9_remove_27 ?_
        refine pw_iconst (v := zI (1)) dX9_remove_30 (by decide) ?_
        refine pw_callV (As := [.int (zI (1))]) (b := (B + 107)) (rm := rmD 1 0 0) (mX2_least htr hA2.2.2.2.2.1 hA2.2.2.2.2.2.1 (by omega)) rfl hA2.2.2.2.2.1 rfl rfl ywX2_least rfl cwX9_268 ⟨nle rfl, nle rfl⟩ (nle rfl) ⟨nle rfl, nle rfl⟩ dX9_remove_31 ?_ (fun _ _ _ z => z.elim)
        intro r_9 h_9 n_9 hq _
        rw [hq.1, hq.2.1, hq.2.2]
        show pw E YX9_remove _ _ 0 0 34 [some (.ref B), some (.int (zI (p))), some (.int (zI (1)))] [.int (zI (lyLeast (rmLv (hP s) (hLv s) p) 1 8 0)), .ref B] h2 n
        refine pw_put (fs' := (hoL (B + 1) (B + 107) (B + 110) (B + 113) (B + 114) (B + 2) w H ((hClp (sFit w H (sRm p s))).2) (lyLeast (rmLv (hP s) (hLv s) p) 1 8 0) (hPre (sFit w H (sRm p s))))) okX9 (k := 9) (by decide) lkX9_88 rfl rfl rfl hA2.1 (nlt rfl) rfl dX9_remove_34 ?_
        have hA2 : hAt w H N NH NB NL B (sFoc (lyLeast (rmLv (hP s) (hLv s) p) 1 8 0) (sFit w H (sRm p s))) (va_up h2 B (pz_o 12 (hoL (B + 1) (B + 107) (B + 110) (B + 113) (B + 114) (B + 2) w H ((hClp (sFit w H (sRm p s))).2) (lyLeast (rmLv (hP s) (hLv s) p) 1 8 0) (hPre (sFit w H (sRm p s)))))) := hAt_foc hA2
        have hF2 : hFr B n (hD s) h (va_up h2 B (pz_o 12 (hoL (B + 1) (B + 107) (B + 110) (B + 113) (B + 114) (B + 2) w H ((hClp (sFit w H (sRm p s))).2) (lyLeast (rmLv (hP s) (hLv s) p) 1 8 0) (hPre (sFit w H (sRm p s)))))) := hFr_tr hF2 (hFr_in (lo := B) (hi := B) (fun a ha => va_up_ne _ _ (by omega)) (by omega) (by omega))
        revert hA2 hF2
        generalize (va_up h2 B (pz_o 12 (hoL (B + 1) (B + 107) (B + 110) (B + 113) (B + 114) (B + 2) w H ((hClp (sFit w H (sRm p s))).2) (lyLeast (rmLv (hP s) (hLv s) p) 1 8 0) (hPre (sFit w H (sRm p s)))))) = h2
        intro hA2 hF2
        refine pw_iload_n dX9_remove_37 rfl ?_
        exact pw_zret dX9_remove_38 rfl (by decide) (nle rfl) (nle rfl) (Or.inl ⟨hok, rfl, by unfold sRemove; rw [if_pos (by omega)]; exact hA2, hF2, rfl⟩)
  ·
    rw [if_neg hok]
    refine pw_istore_n (lv' := [some (.ref B), some (.int (zI (p))), some (.int (zI (0)))]) dX9_remove_8 (by decide) rfl rfl ?_
    refine pw_iload_n dX9_remove_9 rfl ?_
    refine pw_if_eq (tgt := 37) dX9_remove_10 rfl (by omega) (fun c10 => ?_) (fun c10 => ?_)
    ·
      refine pw_iload_n dX9_remove_37 rfl ?_
      rw [sRm_no hok] at hA1
      exact pw_zret dX9_remove_38 rfl (by decide) (nle rfl) (nle rfl) (Or.inr ⟨hok, rfl, hA1, hF1, rfl⟩)
    · exfalso; omega
