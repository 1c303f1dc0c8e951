def YX9_key : pw_Y := (RX9, "key", cX9_key, 2, (some .int))
theorem ywX9_key : pw_y yX9_key YX9_key 1 := ⟨by decide +kernel, by decide +kernel, by decide +kernel, pw_in 1111 (by decide +kernel) (by decide +kernel), pw_in 79 (by decide +kernel) (by decide +kernel)⟩
theorem lkX9_81 : Cond.fieldLink RX9 81 (TX9 10).1 (TX9 10).2.1 (TX9 10).2.2.1 ∈ pw_G := pw_in 792 (by decide +kernel) (by decide +kernel)
theorem cwX9_91 : Cond.methodLink RX9 91 yX4_press ∈ pw_G ∧ Cond.instanceMethod yX4_press ∈ pw_G ∧ Cond.selects RX4 yX4_press yX4_press ∈ pw_G := ⟨pw_in 1168 (by decide +kernel) (by decide +kernel), pw_in 1169 (by decide +kernel) (by decide +kernel), pw_in 1170 (by decide +kernel) (by decide +kernel)⟩
theorem cwX9_85 : Cond.methodLink RX9 85 yX9_command ∈ pw_G ∧ Cond.instanceMethod yX9_command ∈ pw_G ∧ Cond.selects RX9 yX9_command yX9_command ∈ pw_G := ⟨pw_in 1113 (by decide +kernel) (by decide +kernel), pw_in 1115 (by decide +kernel) (by decide +kernel), pw_in 24 (by decide +kernel) (by decide +kernel)⟩
def YX9_split : pw_Y := (RX9, "split", cX9_split, 4, (some .int))
theorem ywX9_split : pw_y yX9_split YX9_split 2 := ⟨by decide +kernel, by decide +kernel, by decide +kernel, pw_in 1185 (by decide +kernel) (by decide +kernel), pw_in 79 (by decide +kernel) (by decide +kernel)⟩
def YX9_close : pw_Y := (RX9, "close", cX9_close, 2, (some .int))
theorem ywX9_close : pw_y yX9_close YX9_close 1 := ⟨by decide +kernel, by decide +kernel, by decide +kernel, pw_in 1208 (by decide +kernel) (by decide +kernel), pw_in 79 (by decide +kernel) (by decide +kernel)⟩
theorem hGd_pre {w H M i : Int} {NB : Nat} {s : hS} (hg : hGd w H M NB s) (hi : 0 ≤ i ∧ i ≤ 1) : hGd w H M NB (sPre i s) := by
  obtain ⟨gP, gL, gY, gF, gFl, gPr, gC, gO, gPi, gLi⟩ := hg
  exact ⟨gP, gL, gY, gF, gFl, hi, gC, gO, gPi, gLi⟩
set_option maxHeartbeats 4000000 in
set_option maxRecDepth 100000 in
/-- split(p, dn) -/
theorem mX9_split {E : pw_E} (htr : E.1.stackTraces = false) {h : pz_H} {n : Nat} {w H M : Int} {N NH NB NL B : Nat} {s : hS} (hG : geoH w H N NH NB NL) (hA : hAt w H N NH NB NL B s h) (hg : hGd w H M NB s) (hM : 0 ≤ M ∧ M ≤ 900000000) {p dn : Int} (h_p : -2147483648 ≤ p ∧ p < 2147483648) (h_dn : -2147483648 ≤ dn ∧ dn < 2147483648) (hdn : 0 ≤ dn ∧ dn ≤ 1) (hBn : B + 115 ≤ n) (hDn : ∀ k, n ≤ k → ¬ hD s k = true) (hnew : dvOk s p dn → lyOk w H (sDiv n p dn s)) : pw_M E yX9_split YX9_split (rmD 22 4 28) [.ref B, .int (zI (p)), .int (zI (dn))] h n (fun r h' n' => lyHas (hLv s) p = 1 ∧ dvOk s p dn ∧ r = some (.int (zI (lyLeast (hLv s) 0 8 0))) ∧ hAt w H N NH NB NL B (sDivide w H n p dn s) h' ∧ hFr B n (hD s) h h' ∧ n' = n + 1 + 1) (fun C h' n' => (C = "java/lang/IndexOutOfBoundsException" ∧ lyHas (hLv s) p = 0 ∧ h' = h ∧ n' = n) ∨ (C = "java/lang/IllegalStateException" ∧ (lyHas (hLv s) p = 1 ∧ ¬ dvOk s p dn) ∧ hAt w H N NH NB NL B s h' ∧ hFr B n (hD s) h h' ∧ n' = n)) := by
  have hG0 := hG
  have hg0 := hg
  obtain ⟨gG, gNB, gNL⟩ := hG
  have gG0 := gG
  obtain ⟨gw, gH, gN, gN2, gNH⟩ := gG
  obtain ⟨gP, gL, gY, gF, gFl, gPr, gC, gO, gPi, gLi⟩ := hg
  obtain ⟨gO3, gO4, gO5, gO6, gO7, gOc⟩ := gO
  refine pw_M_of (lv := [some (.ref B), some (.int (zI (p))), some (.int (zI (dn))), none]) (by decide) rfl rfl htr (nle rfl) rfl (fun L => ?_)
  refine pw_aload_n dX9_split_0 rfl ?_
  refine pw_iload_n dX9_split_1 rfl ?_
  refine pw_callV (As := [.int (zI (p))]) (b := B) (rm := rmD 6 1 6) (mX9_checkPane htr hA (by omega)) rfl hA.1 rfl rfl ywX9_checkPane rfl cwX9_59 ⟨nle rfl, nle rfl⟩ (nle rfl) ⟨nle rfl, nle rfl⟩ dX9_split_2 ?_ (fun _ _ _ z => Or.inl z)
  intro r2 h2 n2 hq _
  obtain ⟨hpx, e1, e2, e3⟩ := hq
  rw [e1, e2, e3]
  show pw E YX9_split _ _ (0 + 1) (0 + 6) 5 [some (.ref B), some (.int (zI (p))), some (.int (zI (dn))), none] [] h n
  clear e1 e2 e3
  obtain ⟨hp8, hpl⟩ := lyHas_y hpx
  refine pw_aload_n dX9_split_5 rfl ?_
  refine pw_iload_n dX9_split_6 rfl ?_
  refine pw_iload_n dX9_split_7 rfl ?_
  refine pw_callV (As := [.int (zI p), .int (zI dn)]) (b := B) (rm := rmD 21 2 16) (mX9_divide htr hG0 hA hg0 hM (by omega) (by omega) (by omega) hBn hDn hnew) rfl hA.1 rfl rfl ywX9_divide rfl cwX9_94 ⟨nle rfl, nle rfl⟩ (nle rfl) ⟨nle rfl, nle rfl⟩ dX9_split_8 ?_ (fun _ _ _ z => z.elim)
  intro r2 h2 n2 hq _
  rcases hq with ⟨hok, e1, hA1, hF1, e4⟩ | ⟨hok, e1, hA1, hF1, e4⟩
  ·
    rw [e1, e4]
    show pw E YX9_split _ _ (0 + 1 + 2) (0 + 6 + 16) 11 [some (.ref B), some (.int (zI (p))), some (.int (zI (dn))), none] [.int (zI ((lyLeast (hLv s) 0 8 0)))] h2 (n + 1 + 1)
    have hl1 := lyLeast_r (lv := hLv s) (t := 0) 8 0 (by omega)
    have hl2 := hok.2.2.1
    refine pw_istore_n (lv' := [some (.ref B), some (.int (zI (p))), some (.int (zI (dn))), some (.int (zI ((lyLeast (hLv s) 0 8 0))))]) dX9_split_11 (by decide) rfl rfl ?_
    refine pw_iload_n dX9_split_12 rfl ?_
    refine pw_iconst (v := zI (-1)) dX9_split_13 (by decide) ?_
    refine pw_icmp_ne (tgt := 27) dX9_split_14 rfl (by omega) (by omega) (fun c14 => ?_) (fun c14 => ?_)
    ·
      refine pw_iload_n dX9_split_27 rfl ?_
      exact pw_iret dX9_split_28 rfl (nle rfl) (nle rfl) ⟨hpx, hok, rfl, hA1, hF1, rfl⟩
    · exfalso; omega
  ·
    rw [e1, e4]
    show pw E YX9_split _ _ (0 + 1 + 2) (0 + 6 + 16) 11 [some (.ref B), some (.int (zI (p))), some (.int (zI (dn))), none] [.int (zI (-1))] h2 n
    refine pw_istore_n (lv' := [some (.ref B), some (.int (zI (p))), some (.int (zI (dn))), some (.int (zI (-1)))]) dX9_split_11 (by decide) rfl rfl ?_
    refine pw_iload_n dX9_split_12 rfl ?_
    refine pw_iconst (v := zI (-1)) dX9_split_13 (by decide) ?_
    refine pw_icmp_ne (tgt := 27) dX9_split_14 rfl (by omega) (by omega) (fun c14 => ?_) (fun c14 => ?_)
    · exfalso; omega
    ·
      exact pw_throw (text := "there are 8 panes, or its area is too small") (by decide +kernel) tk_IS.1 tk_IS.2 (by decide +kernel) th_IS ⟨nle rfl, nle rfl⟩ ⟨nle rfl, nle rfl⟩ dX9_split_17 dX9_split_20 dX9_split_21 dX9_split_23 dX9_split_26 (Or.inr ⟨rfl, ⟨hpx, hok⟩, hA1, hF1, rfl⟩)
set_option maxHeartbeats 4000000 in
set_option maxRecDepth 100000 in
/-- close(p) -/
theorem mX9_close {E : pw_E} (htr : E.1.stackTraces = false) {h : pz_H} {n : Nat} {w H M : Int} {N NH NB NL B : Nat} {s : hS} (hG : geoH w H N NH NB NL) (hA : hAt w H N NH NB NL B s h) (hg : hGd w H M NB s) (hM : 0 ≤ M ∧ M ≤ 900000000) {p : Int} (h_p : -2147483648 ≤ p ∧ p < 2147483648) (hnew : rmOk (hP s) (hLv s) p → lyOk w H (sRm p s)) : pw_M E yX9_close YX9_close (rmD 21 2 12) [.ref B, .int (zI (p))] h n (fun r h' n' => lyHas (hLv s) p = 1 ∧ rmOk (hP s) (hLv s) p ∧ r = some (.int (zI (hFoc (sRemove w H p s)))) ∧ hAt w H N NH NB NL B (sRemove w H p s) h' ∧ hFr B n (hD s) h h' ∧ n' = n) (fun C h' n' => (C = "java/lang/IndexOutOfBoundsException" ∧ lyHas (hLv s) p = 0 ∧ h' = h ∧ n' = n) ∨ (C = "java/lang/IllegalStateException" ∧ (lyHas (hLv s) p = 1 ∧ ¬ rmOk (hP s) (hLv s) p) ∧ hAt w H N NH NB NL B s h' ∧ hFr B n (hD s) h h' ∧ n' = n)) := by
  have hG0 := hG
  have hg0 := hg
  obtain ⟨gG, gNB, gNL⟩ := hG
  have gG0 := gG
  obtain ⟨gw, gH, gN, gN2, gNH⟩ := gG
  obtain ⟨gP, gL, gY, gF, gFl, gPr, gC, gO, gPi, gLi⟩ := hg
  obtain ⟨gO3, gO4, gO5, gO6, gO7, gOc⟩ := gO
  refine pw_M_of (lv := [some (.ref B), some (.int (zI (p)))]) (by decide) rfl rfl htr (nle rfl) rfl (fun L => ?_)
  refine pw_aload_n dX9_close_0 rfl ?_
  refine pw_iload_n dX9_close_1 rfl ?_
  refine pw_callV (As := [.int (zI (p))]) (b := B) (rm := rmD 6 1 6) (mX9_checkPane htr hA (by omega)) rfl hA.1 rfl rfl ywX9_checkPane rfl cwX9_59 ⟨nle rfl, nle rfl⟩ (nle rfl) ⟨nle rfl, nle rfl⟩ dX9_close_2 ?_ (fun _ _ _ z => Or.inl z)
  intro r2 h2 n2 hq _
  obtain ⟨hpx, e1, e2, e3⟩ := hq
  rw [e1, e2, e3]
  show pw E YX9_close _ _ (0 + 1) (0 + 6) 5 [some (.ref B), some (.int (zI (p)))] [] h n
  clear e1 e2 e3
  obtain ⟨hp8, hpl⟩ := lyHas_y hpx
  refine pw_aload_n dX9_close_5 rfl ?_
  refine pw_iload_n dX9_close_6 rfl ?_
  refine pw_callV (As := [.int (zI p)]) (b := B) (rm := rmD 20 0 0) (mX9_remove htr hG0 hA hg0 hM (by omega) hnew) rfl hA.1 rfl rfl ywX9_remove rfl cwX9_103 ⟨nle rfl, nle rfl⟩ (nle rfl) ⟨nle rfl, nle rfl⟩ dX9_close_7 ?_ (fun _ _ _ z => z.elim)
  intro r2 h2 n2 hq _
  rcases hq with ⟨hok, e1, hA1, hF1, e4⟩ | ⟨hok, e1, hA1, hF1, e4⟩
  ·
    rw [e1, e4]
    show pw E YX9_close _ _ (0 + 1) (0 + 6) 10 [some (.ref B), some (.int (zI (p)))] [.int (zI (1))] h2 n
    refine pw_if_ne (tgt := 23) dX9_close_10 rfl (by omega) (fun c10 => ?_) (fun c10 => ?_)
    ·
      refine pw_aload_n dX9_close_23 rfl ?_
      refine pw_get (v := .int (zI (hFoc (sRemove w H p s)))) okX9 (k := 9) (by decide) lkX9_88 hA1.1 rfl dX9_close_24 ?_
      exact pw_iret dX9_close_27 rfl (nle rfl) (nle rfl) ⟨hpx, hok, rfl, hA1, hF1, rfl⟩
    · exfalso; omega
  ·
    rw [e1, e4]
    show pw E YX9_close _ _ (0 + 1) (0 + 6) 10 [some (.ref B), some (.int (zI (p)))] [.int (zI (0))] h2 n
    refine pw_if_ne (tgt := 23) dX9_close_10 rfl (by omega) (fun c10 => ?_) (fun c10 => ?_)
    · exfalso; omega
    ·
      exact pw_throw (text := "it is the only pane") (by decide +kernel) tk_IS.1 tk_IS.2 (by decide +kernel) th_IS ⟨nle rfl, nle rfl⟩ ⟨nle rfl, nle rfl⟩ dX9_close_13 dX9_close_16 dX9_close_17 dX9_close_19 dX9_close_22 (Or.inr ⟨rfl, ⟨hpx, hok⟩, hA1, hF1, rfl⟩)
