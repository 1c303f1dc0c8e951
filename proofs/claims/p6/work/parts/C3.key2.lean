/-! ===== command and key again: a division is down or not ===== -/
set_option maxHeartbeats 4000000 in
set_option maxRecDepth 100000 in
/-- command(k) -/
theorem mX9_command2 {E : pw_E} (htr : E.1.stackTraces = false) {h : pz_H} {n : Nat} {w H M : Int} {N NH NB NL B : Nat} {s : hS} (hG : geoH w H N NH NB NL) (hA : hAt w H N NH NB NL B s h) (hg : hGd w H M NB s) (hM : 0 ≤ M ∧ M ≤ 900000000) {k : Int} (h_k : -2147483648 ≤ k ∧ k < 2147483648) (hBn : B + 115 ≤ n) (hDn : ∀ k, n ≤ k → ¬ hD s k = true) (hnew1 : ∀ dn, 0 ≤ dn ∧ dn ≤ 1 → dvOk s (hFoc s) dn → lyOk w H (sDiv n (hFoc s) dn s)) (hnew2 : rmOk (hP s) (hLv s) (hFoc s) → lyOk w H (sRm (hFoc s) s)) : pw_M E yX9_command YX9_command (rmD 22 2 16) [.ref B, .int (zI (k))] h n (fun r h' n' => r = none ∧ hAt w H N NH NB NL B (sCmd w H n k s) h' ∧ hFr B n (hD s) h h' ∧ n' = nCmd n k s) (fun _ _ _ => False) := by
  have hG0 := hG
  have hg0 := hg
  obtain ⟨gG, gNB, gNL⟩ := hG
  have gG0 := gG
  obtain ⟨gw, gH, gN, gN2, gNH⟩ := gG
  obtain ⟨gP, gL, gY, gF, gFl, gPr, gC, gO, gPi, gLi⟩ := hg
  obtain ⟨gO3, gO4, gO5, gO6, gO7, gOc⟩ := gO
  obtain ⟨p3, p4, p5, p6, p9, p10, pcl, pT, pR, pcm, pof, pto⟩ := gP (hFoc s).toNat (by omega)
  have pg := gL (hFoc s).toNat (by omega) gFl
  refine pw_M_of (lv := [some (.ref B), some (.int (zI (k)))]) (by decide) rfl rfl htr (nle rfl) rfl (fun L => ?_)
  refine pw_iload_n dX9_command_0 rfl ?_
  by_cases k1_2 : (2 : Int) = k
  ·
    refine pw_lookup (off := 165) (tgt := 166) dX9_command_1 (by decide) (by omega) (by rw [← k1_2]; decide) rfl ?_
    refine pw_aload_n dX9_command_166 rfl ?_
    refine pw_get (v := .ref (B + 1)) okX9 (k := 2) (by decide) lkX9_11 hA.1 rfl dX9_command_167 ?_
    refine pw_aload_n dX9_command_170 rfl ?_
    refine pw_get (v := .int (zI (hFoc s))) okX9 (k := 9) (by decide) lkX9_88 hA.1 rfl dX9_command_171 ?_
    refine pw_aaldO (t := 3) rfl hA.2.1 (by omega) (by decide) dX9_command_174 ?_
    refine pw_some (hPv_s (by omega)) ?_
    refine pw_getN (v := .ref (B + 3 + 13 * (hFoc s).toNat + 1)) okX4 (k := 2) (by decide) lkX9_215 (hA_pn hA (by omega)).2.1 rfl dX9_command_175 ?_
    refine pw_iconst (v := zI (2)) dX9_command_178 (by decide) ?_
    refine pw_callV (As := [.int (zI (2))]) (b := (B + 3 + 13 * (hFoc s).toNat + 1)) (rm := rmD 0 0 0) (mX8_add htr (hA_pn hA (k := (hFoc s).toNat) (by omega)).2.2.1 (hA_pn hA (k := (hFoc s).toNat) (by omega)).2.2.2 (by omega) (by omega)) rfl (hA_pn hA (by omega)).2.2.1 rfl rfl ywX8_add rfl cwX9_263 ⟨nle rfl, nle rfl⟩ (nle rfl) ⟨nle rfl, nle rfl⟩ dX9_command_179 ?_ (fun _ _ _ z => z.elim)
    intro r_9 h_9 n_9 hq _
    rw [hq.1, hq.2.1, hq.2.2]
    show pw E YX9_command _ _ 0 0 182 [some (.ref B), some (.int (zI (k)))] [] (tyP (B + 3 + 13 * (hFoc s).toNat + 1) (B + 3 + 13 * (hFoc s).toNat + 2) (tyB 2 (hX s (hFoc s).toNat).2.2) h) n
    have hp1 : pnAt w H N NH (B + 3 + 13 * (hFoc s).toNat) ((hX s (hFoc s).toNat).1, (hX s (hFoc s).toNat).2.1, tyB 2 (hX s (hFoc s).toNat).2.2) (tyP (B + 3 + 13 * (hFoc s).toNat + 1) (B + 3 + 13 * (hFoc s).toNat + 2) (tyB 2 (hX s (hFoc s).toNat).2.2) h) := pnAt_t (hA_pn hA (k := (hFoc s).toNat) (by omega))
    have hA1 : hAt w H N NH NB NL B (sX (hFoc s).toNat ((hX s (hFoc s).toNat).1, (hX s (hFoc s).toNat).2.1, tyB 2 (hX s (hFoc s).toNat).2.2) s) (tyP (B + 3 + 13 * (hFoc s).toNat + 1) (B + 3 + 13 * (hFoc s).toNat + 2) (tyB 2 (hX s (hFoc s).toNat).2.2) h) := hAt_X hA (by omega) hp1 (fun a ha => tyP_o (by omega) (by omega))
    have hF1 : hFr B n (hD s) h (tyP (B + 3 + 13 * (hFoc s).toNat + 1) (B + 3 + 13 * (hFoc s).toNat + 2) (tyB 2 (hX s (hFoc s).toNat).2.2) h) := hFr_tr hFr_rf (hFr_in (lo := (B + 3 + 13 * (hFoc s).toNat)) (hi := (B + 3 + 13 * (hFoc s).toNat) + 12) (fun a ha => tyP_o (by omega) (by omega)) (by omega) (by omega))
    revert hp1 hA1 hF1
    generalize (tyP (B + 3 + 13 * (hFoc s).toNat + 1) (B + 3 + 13 * (hFoc s).toNat + 2) (tyB 2 (hX s (hFoc s).toNat).2.2) h) = h1
    intro hp1 hA1 hF1
    refine pw_goto (tgt := 185) dX9_command_182 rfl ?_
    exact pw_vret dX9_command_185 rfl (nle rfl) (nle rfl) ⟨rfl, by unfold sCmd; rw [if_neg (by omega)]; rw [if_neg (by omega)]; rw [if_neg (by omega)]; rw [if_neg (by omega)]; rw [if_neg (by omega)]; rw [if_neg (by omega)]; rw [if_pos (by omega)]; exact hA1, hF1, by unfold nCmd; rw [if_neg (by omega)]; rw [if_neg (by omega)]⟩
  by_cases k1_34 : (34 : Int) = k
  ·
    clear k1_2
    refine pw_lookup (off := 67) (tgt := 68) dX9_command_1 (by decide) (by omega) (by rw [← k1_34]; decide) rfl ?_
    refine pw_aload_n dX9_command_68 rfl ?_
    refine pw_aload_n dX9_command_69 rfl ?_
    refine pw_get (v := .int (zI (hFoc s))) okX9 (k := 9) (by decide) lkX9_88 hA.1 rfl dX9_command_70 ?_
    refine pw_iconst (v := zI (1)) dX9_command_73 (by decide) ?_
    refine pw_callV (As := [.int (zI (hFoc s)), .int (zI (1))]) (b := B) (rm := rmD 21 2 16) (mX9_divide htr hG0 hA hg0 hM (by omega) (by omega) (by omega) hBn hDn (hnew1 1 (by omega))) rfl hA.1 rfl rfl ywX9_divide rfl cwX9_94 ⟨nle rfl, nle rfl⟩ (nle rfl) ⟨nle rfl, nle rfl⟩ dX9_command_74 ?_ (fun _ _ _ z => z.elim)
    intro r2 h2 n2 hq _
    rcases hq with ⟨hok, e1, hA1, hF1, e4⟩ | ⟨hok, e1, hA1, hF1, e4⟩
    ·
      rw [e1, e4]
      show pw E YX9_command _ _ (0 + 2) (0 + 16) 77 [some (.ref B), some (.int (zI (k)))] [.int (zI ((lyLeast (hLv s) 0 8 0)))] h2 (n + 1 + 1)
      refine pw_pop dX9_command_77 rfl ?_
      refine pw_goto (tgt := 185) dX9_command_78 rfl ?_
      exact pw_vret dX9_command_185 rfl (nle rfl) (nle rfl) ⟨rfl, by unfold sCmd; rw [if_pos (by omega)]; unfold sDv; rw [if_pos hok]; exact hA1, hF1, by unfold nCmd; rw [if_pos (by omega)]; unfold nDv; rw [if_pos hok]⟩
    ·
      rw [e1, e4]
      show pw E YX9_command _ _ (0 + 2) (0 + 16) 77 [some (.ref B), some (.int (zI (k)))] [.int (zI ((-1)))] h2 n
      refine pw_pop dX9_command_77 rfl ?_
      refine pw_goto (tgt := 185) dX9_command_78 rfl ?_
      exact pw_vret dX9_command_185 rfl (nle rfl) (nle rfl) ⟨rfl, by unfold sCmd; rw [if_pos (by omega)]; unfold sDv; rw [if_neg hok]; exact hA1, hF1, by unfold nCmd; rw [if_pos (by omega)]; unfold nDv; rw [if_neg hok]⟩
  by_cases k1_37 : (37 : Int) = k
  ·
    clear k1_2 k1_34
    refine pw_lookup (off := 80) (tgt := 81) dX9_command_1 (by decide) (by omega) (by rw [← k1_37]; decide) rfl ?_
    refine pw_aload_n dX9_command_81 rfl ?_
    refine pw_aload_n dX9_command_82 rfl ?_
    refine pw_get (v := .int (zI (hFoc s))) okX9 (k := 9) (by decide) lkX9_88 hA.1 rfl dX9_command_83 ?_
    refine pw_iconst (v := zI (0)) dX9_command_86 (by decide) ?_
    refine pw_callV (As := [.int (zI (hFoc s)), .int (zI (0))]) (b := B) (rm := rmD 21 2 16) (mX9_divide htr hG0 hA hg0 hM (by omega) (by omega) (by omega) hBn hDn (hnew1 0 (by omega))) rfl hA.1 rfl rfl ywX9_divide rfl cwX9_94 ⟨nle rfl, nle rfl⟩ (nle rfl) ⟨nle rfl, nle rfl⟩ dX9_command_87 ?_ (fun _ _ _ z => z.elim)
    intro r2 h2 n2 hq _
    rcases hq with ⟨hok, e1, hA1, hF1, e4⟩ | ⟨hok, e1, hA1, hF1, e4⟩
    ·
      rw [e1, e4]
      show pw E YX9_command _ _ (0 + 2) (0 + 16) 90 [some (.ref B), some (.int (zI (k)))] [.int (zI ((lyLeast (hLv s) 0 8 0)))] h2 (n + 1 + 1)
      refine pw_pop dX9_command_90 rfl ?_
      refine pw_goto (tgt := 185) dX9_command_91 rfl ?_
      exact pw_vret dX9_command_185 rfl (nle rfl) (nle rfl) ⟨rfl, by unfold sCmd; rw [if_neg (by omega)]; rw [if_pos (by omega)]; unfold sDv; rw [if_pos hok]; exact hA1, hF1, by unfold nCmd; rw [if_neg (by omega)]; rw [if_pos (by omega)]; unfold nDv; rw [if_pos hok]⟩
    ·
      rw [e1, e4]
      show pw E YX9_command _ _ (0 + 2) (0 + 16) 90 [some (.ref B), some (.int (zI (k)))] [.int (zI ((-1)))] h2 n
      refine pw_pop dX9_command_90 rfl ?_
      refine pw_goto (tgt := 185) dX9_command_91 rfl ?_
      exact pw_vret dX9_command_185 rfl (nle rfl) (nle rfl) ⟨rfl, by unfold sCmd; rw [if_neg (by omega)]; rw [if_pos (by omega)]; unfold sDv; rw [if_neg hok]; exact hA1, hF1, by unfold nCmd; rw [if_neg (by omega)]; rw [if_pos (by omega)]; unfold nDv; rw [if_neg hok]⟩
  by_cases k1_91 : (91 : Int) = k
  ·
    clear k1_2 k1_34 k1_37
    refine pw_lookup (off := 123) (tgt := 124) dX9_command_1 (by decide) (by omega) (by rw [← k1_91]; decide) rfl ?_
    refine pw_aload_n dX9_command_124 rfl ?_
    refine pw_get (v := .ref (B + 1)) okX9 (k := 2) (by decide) lkX9_11 hA.1 rfl dX9_command_125 ?_
    refine pw_aload_n dX9_command_128 rfl ?_
    refine pw_get (v := .int (zI (hFoc s))) okX9 (k := 9) (by decide) lkX9_88 hA.1 rfl dX9_command_129 ?_
    refine pw_aaldO (t := 3) rfl hA.2.1 (by omega) (by decide) dX9_command_132 ?_
    refine pw_aload_n dX9_command_133 rfl ?_
    refine pw_get (v := .ref (B + 1)) okX9 (k := 2) (by decide) lkX9_11 hA.1 rfl dX9_command_134 ?_
    refine pw_aload_n dX9_command_137 rfl ?_
    refine pw_get (v := .int (zI (hFoc s))) okX9 (k := 9) (by decide) lkX9_88 hA.1 rfl dX9_command_138 ?_
    refine pw_aaldO (t := 3) rfl hA.2.1 (by omega) (by decide) dX9_command_141 ?_
    refine pw_some (hPv_s (by omega)) ?_
    refine pw_getN (v := .int (zI ((hX s (hFoc s).toNat).2.1.1))) okX4 (k := 3) (by decide) lkX9_212 (hA_pn hA (by omega)).2.1 rfl dX9_command_142 ?_
    refine pw_if_ne (tgt := 152) dX9_command_145 rfl (by omega) (fun c145 => ?_) (fun c145 => ?_)
    ·
      refine pw_iconst (v := zI (0)) dX9_command_152 (by decide) ?_
      rw [show rv (hPv B (hFoc s).toNat) = Value.ref (B + 3 + 13 * (hFoc s).toNat) from by rw [hPv_s (by omega)]; rfl]
      refine pw_callV (As := [.int (zI (0))]) (b := (B + 3 + 13 * (hFoc s).toNat)) (rm := rmD 0 0 0) (mX4_setCopyMode htr gG0 (hA_pn hA (k := (hFoc s).toNat) (by omega)).1.1 pg.1.1 (hA_pn hA (k := (hFoc s).toNat) (by omega)).2.1 (fun i _ => pnI_ne (by omega)) (by omega) (by omega) (by omega)) rfl (hA_pn hA (by omega)).2.1 rfl rfl ywX4_setCopyMode rfl cwX9_109 ⟨nle rfl, nle rfl⟩ (nle rfl) ⟨nle rfl, nle rfl⟩ dX9_command_153 ?_ (fun _ _ _ z => z.elim)
      intro r_9 h_9 n_9 hq _
      rw [hq.1, hq.2.1, hq.2.2]
      show pw E YX9_command _ _ 0 0 156 [some (.ref B), some (.int (zI (k)))] [] (va_up h (B + 3 + 13 * (hFoc s).toNat) (pz_o 7 [.ref (B + 3 + 13 * (hFoc s).toNat + 3), .ref (B + 3 + 13 * (hFoc s).toNat + 11), .ref (B + 3 + 13 * (hFoc s).toNat + 1), .int (zI (pCm 0 (hX s (hFoc s).toNat)).2.1.1), .int (zI (pCm 0 (hX s (hFoc s).toNat)).2.1.2)])) n
      have hp2 : pnAt w H N NH (B + 3 + 13 * (hFoc s).toNat) (pCm 0 (hX s (hFoc s).toNat)) (va_up h (B + 3 + 13 * (hFoc s).toNat) (pz_o 7 [.ref (B + 3 + 13 * (hFoc s).toNat + 3), .ref (B + 3 + 13 * (hFoc s).toNat + 11), .ref (B + 3 + 13 * (hFoc s).toNat + 1), .int (zI (pCm 0 (hX s (hFoc s).toNat)).2.1.1), .int (zI (pCm 0 (hX s (hFoc s).toNat)).2.1.2)])) := pnAt_c (hA_pn hA (k := (hFoc s).toNat) (by omega))
      have hA2 : hAt w H N NH NB NL B (sX (hFoc s).toNat (pCm 0 (hX s (hFoc s).toNat)) s) (va_up h (B + 3 + 13 * (hFoc s).toNat) (pz_o 7 [.ref (B + 3 + 13 * (hFoc s).toNat + 3), .ref (B + 3 + 13 * (hFoc s).toNat + 11), .ref (B + 3 + 13 * (hFoc s).toNat + 1), .int (zI (pCm 0 (hX s (hFoc s).toNat)).2.1.1), .int (zI (pCm 0 (hX s (hFoc s).toNat)).2.1.2)])) := hAt_X hA (by omega) hp2 (fun a ha => va_up_ne _ _ (by omega))
      have hF2 : hFr B n (hD s) h (va_up h (B + 3 + 13 * (hFoc s).toNat) (pz_o 7 [.ref (B + 3 + 13 * (hFoc s).toNat + 3), .ref (B + 3 + 13 * (hFoc s).toNat + 11), .ref (B + 3 + 13 * (hFoc s).toNat + 1), .int (zI (pCm 0 (hX s (hFoc s).toNat)).2.1.1), .int (zI (pCm 0 (hX s (hFoc s).toNat)).2.1.2)])) := hFr_tr hFr_rf (hFr_in (lo := (B + 3 + 13 * (hFoc s).toNat)) (hi := (B + 3 + 13 * (hFoc s).toNat) + 12) (fun a ha => va_up_ne _ _ (by omega)) (by omega) (by omega))
      revert hp2 hA2 hF2
      generalize (va_up h (B + 3 + 13 * (hFoc s).toNat) (pz_o 7 [.ref (B + 3 + 13 * (hFoc s).toNat + 3), .ref (B + 3 + 13 * (hFoc s).toNat + 11), .ref (B + 3 + 13 * (hFoc s).toNat + 1), .int (zI (pCm 0 (hX s (hFoc s).toNat)).2.1.1), .int (zI (pCm 0 (hX s (hFoc s).toNat)).2.1.2)])) = h2
      intro hp2 hA2 hF2
      refine pw_goto (tgt := 185) dX9_command_156 rfl ?_
      exact pw_vret dX9_command_185 rfl (nle rfl) (nle rfl) ⟨rfl, by unfold sCmd; rw [if_neg (by omega)]; rw [if_neg (by omega)]; rw [if_neg (by omega)]; rw [if_neg (by omega)]; rw [if_pos (by omega)]; rw [show 1 - (hX s (hFoc s).toNat).2.1.1 = 0 by omega]; exact hA2, hF2, by unfold nCmd; rw [if_neg (by omega)]; rw [if_neg (by omega)]⟩
    ·
      refine pw_iconst (v := zI (1)) dX9_command_148 (by decide) ?_
      refine pw_goto (tgt := 153) dX9_command_149 rfl ?_
      rw [show rv (hPv B (hFoc s).toNat) = Value.ref (B + 3 + 13 * (hFoc s).toNat) from by rw [hPv_s (by omega)]; rfl]
      refine pw_callV (As := [.int (zI (1))]) (b := (B + 3 + 13 * (hFoc s).toNat)) (rm := rmD 0 0 0) (mX4_setCopyMode htr gG0 (hA_pn hA (k := (hFoc s).toNat) (by omega)).1.1 pg.1.1 (hA_pn hA (k := (hFoc s).toNat) (by omega)).2.1 (fun i _ => pnI_ne (by omega)) (by omega) (by omega) (by omega)) rfl (hA_pn hA (by omega)).2.1 rfl rfl ywX4_setCopyMode rfl cwX9_109 ⟨nle rfl, nle rfl⟩ (nle rfl) ⟨nle rfl, nle rfl⟩ dX9_command_153 ?_ (fun _ _ _ z => z.elim)
      intro r_9 h_9 n_9 hq _
      rw [hq.1, hq.2.1, hq.2.2]
      show pw E YX9_command _ _ 0 0 156 [some (.ref B), some (.int (zI (k)))] [] (va_up h (B + 3 + 13 * (hFoc s).toNat) (pz_o 7 [.ref (B + 3 + 13 * (hFoc s).toNat + 3), .ref (B + 3 + 13 * (hFoc s).toNat + 11), .ref (B + 3 + 13 * (hFoc s).toNat + 1), .int (zI (pCm 1 (hX s (hFoc s).toNat)).2.1.1), .int (zI (pCm 1 (hX s (hFoc s).toNat)).2.1.2)])) n
      have hp3 : pnAt w H N NH (B + 3 + 13 * (hFoc s).toNat) (pCm 1 (hX s (hFoc s).toNat)) (va_up h (B + 3 + 13 * (hFoc s).toNat) (pz_o 7 [.ref (B + 3 + 13 * (hFoc s).toNat + 3), .ref (B + 3 + 13 * (hFoc s).toNat + 11), .ref (B + 3 + 13 * (hFoc s).toNat + 1), .int (zI (pCm 1 (hX s (hFoc s).toNat)).2.1.1), .int (zI (pCm 1 (hX s (hFoc s).toNat)).2.1.2)])) := pnAt_c (hA_pn hA (k := (hFoc s).toNat) (by omega))
      have hA3 : hAt w H N NH NB NL B (sX (hFoc s).toNat (pCm 1 (hX s (hFoc s).toNat)) s) (va_up h (B + 3 + 13 * (hFoc s).toNat) (pz_o 7 [.ref (B + 3 + 13 * (hFoc s).toNat + 3), .ref (B + 3 + 13 * (hFoc s).toNat + 11), .ref (B + 3 + 13 * (hFoc s).toNat + 1), .int (zI (pCm 1 (hX s (hFoc s).toNat)).2.1.1), .int (zI (pCm 1 (hX s (hFoc s).toNat)).2.1.2)])) := hAt_X hA (by omega) hp3 (fun a ha => va_up_ne _ _ (by omega))
      have hF3 : hFr B n (hD s) h (va_up h (B + 3 + 13 * (hFoc s).toNat) (pz_o 7 [.ref (B + 3 + 13 * (hFoc s).toNat + 3), .ref (B + 3 + 13 * (hFoc s).toNat + 11), .ref (B + 3 + 13 * (hFoc s).toNat + 1), .int (zI (pCm 1 (hX s (hFoc s).toNat)).2.1.1), .int (zI (pCm 1 (hX s (hFoc s).toNat)).2.1.2)])) := hFr_tr hFr_rf (hFr_in (lo := (B + 3 + 13 * (hFoc s).toNat)) (hi := (B + 3 + 13 * (hFoc s).toNat) + 12) (fun a ha => va_up_ne _ _ (by omega)) (by omega) (by omega))
      revert hp3 hA3 hF3
      generalize (va_up h (B + 3 + 13 * (hFoc s).toNat) (pz_o 7 [.ref (B + 3 + 13 * (hFoc s).toNat + 3), .ref (B + 3 + 13 * (hFoc s).toNat + 11), .ref (B + 3 + 13 * (hFoc s).toNat + 1), .int (zI (pCm 1 (hX s (hFoc s).toNat)).2.1.1), .int (zI (pCm 1 (hX s (hFoc s).toNat)).2.1.2)])) = h3
      intro hp3 hA3 hF3
      refine pw_goto (tgt := 185) dX9_command_156 rfl ?_
      exact pw_vret dX9_command_185 rfl (nle rfl) (nle rfl) ⟨rfl, by unfold sCmd; rw [if_neg (by omega)]; rw [if_neg (by omega)]; rw [if_neg (by omega)]; rw [if_neg (by omega)]; rw [if_pos (by omega)]; rw [show 1 - (hX s (hFoc s).toNat).2.1.1 = 1 by omega]; exact hA3, hF3, by unfold nCmd; rw [if_neg (by omega)]; rw [if_neg (by omega)]⟩
  by_cases k1_93 : (93 : Int) = k
  ·
    clear k1_2 k1_34 k1_37 k1_91
    refine pw_lookup (off := 158) (tgt := 159) dX9_command_1 (by decide) (by omega) (by rw [← k1_93]; decide) rfl ?_
    refine pw_aload_n dX9_command_159 rfl ?_
    refine pw_callV (As := []) (b := B) (rm := rmD 1 0 0) (mX9_paste htr hA.1 hA.2.1 hA.2.2.1 (hA_pn hA (k := (hFoc s).toNat) (by omega)).2.1 (hPv_s gF) gF (by omega) (by omega) (by omega) (by omega) (by omega) (by omega) (by omega) (by omega) (by omega) (by omega) (hA_pn hA (k := (hFoc s).toNat) (by omega)).2.2.1 (hA_pn hA (k := (hFoc s).toNat) (by omega)).2.2.2 (by omega)) rfl hA.1 rfl rfl ywX9_paste rfl cwX9_260 ⟨nle rfl, nle rfl⟩ (nle rfl) ⟨nle rfl, nle rfl⟩ dX9_command_160 ?_ (fun _ _ _ z => z.elim)
    intro r_9 h_9 n_9 hq _
    rw [hq.1, hq.2.1, hq.2.2]
    show pw E YX9_command _ _ 0 0 163 [some (.ref B), some (.int (zI (k)))] [] (tyP (B + 3 + 13 * (hFoc s).toNat + 1) (B + 3 + 13 * (hFoc s).toNat + 2) (tyRun (hClp s).1 (hClp s).2.toNat 0 (hX s (hFoc s).toNat).2.2) h) n
    have hp4 : pnAt w H N NH (B + 3 + 13 * (hFoc s).toNat) ((hX s (hFoc s).toNat).1, (hX s (hFoc s).toNat).2.1, tyRun (hClp s).1 (hClp s).2.toNat 0 (hX s (hFoc s).toNat).2.2) (tyP (B + 3 + 13 * (hFoc s).toNat + 1) (B + 3 + 13 * (hFoc s).toNat + 2) (tyRun (hClp s).1 (hClp s).2.toNat 0 (hX s (hFoc s).toNat).2.2) h) := pnAt_t (hA_pn hA (k := (hFoc s).toNat) (by omega))
    have hA4 : hAt w H N NH NB NL B (sX (hFoc s).toNat ((hX s (hFoc s).toNat).1, (hX s (hFoc s).toNat).2.1, tyRun (hClp s).1 (hClp s).2.toNat 0 (hX s (hFoc s).toNat).2.2) s) (tyP (B + 3 + 13 * (hFoc s).toNat + 1) (B + 3 + 13 * (hFoc s).toNat + 2) (tyRun (hClp s).1 (hClp s).2.toNat 0 (hX s (hFoc s).toNat).2.2) h) := hAt_X hA (by omega) hp4 (fun a ha => tyP_o (by omega) (by omega))
    have hF4 : hFr B n (hD s) h (tyP (B + 3 + 13 * (hFoc s).toNat + 1) (B + 3 + 13 * (hFoc s).toNat + 2) (tyRun (hClp s).1 (hClp s).2.toNat 0 (hX s (hFoc s).toNat).2.2) h) := hFr_tr hFr_rf (hFr_in (lo := (B + 3 + 13 * (hFoc s).toNat)) (hi := (B + 3 + 13 * (hFoc s).toNat) + 12) (fun a ha => tyP_o (by omega) (by omega)) (by omega) (by omega))
    revert hp4 hA4 hF4
    generalize (tyP (B + 3 + 13 * (hFoc s).toNat + 1) (B + 3 + 13 * (hFoc s).toNat + 2) (tyRun (hClp s).1 (hClp s).2.toNat 0 (hX s (hFoc s).toNat).2.2) h) = h4
    intro hp4 hA4 hF4
    refine pw_goto (tgt := 185) dX9_command_163 rfl ?_
    exact pw_vret dX9_command_185 rfl (nle rfl) (nle rfl) ⟨rfl, by unfold sCmd; rw [if_neg (by omega)]; rw [if_neg (by omega)]; rw [if_neg (by omega)]; rw [if_neg (by omega)]; rw [if_neg (by omega)]; rw [if_pos (by omega)]; exact hA4, hF4, by unfold nCmd; rw [if_neg (by omega)]; rw [if_neg (by omega)]⟩
  by_cases k1_111 : (111 : Int) = k
  ·
    clear k1_2 k1_34 k1_37 k1_91 k1_93
    refine pw_lookup (off := 93) (tgt := 94) dX9_command_1 (by decide) (by omega) (by rw [← k1_111]; decide) rfl ?_
    refine pw_aload_n dX9_command_94 rfl ?_
    refine pw_aload_n dX9_command_95 rfl ?_
    refine pw_get (v := .ref (B + 107)) okX9 (k := 3) (by decide) lkX9_36 hA.1 rfl dX9_command_96 ?_
    refine pw_aload_n dX9_command_99 rfl ?_
    refine pw_get (v := .int (zI (hFoc s))) okX9 (k := 9) (by decide) lkX9_88 hA.1 rfl dX9_command_100 ?_
    refine pw_callV (As := [.int (zI (hFoc s))]) (b := (B + 107)) (rm := rmD 1 0 0) (mX2_paneBehind htr hA.2.2.2.2.1 hA.2.2.2.2.2.1 (by omega)) rfl hA.2.2.2.2.1 rfl rfl ywX2_paneBehind rfl cwX9_257 ⟨nle rfl, nle rfl⟩ (nle rfl) ⟨nle rfl, nle rfl⟩ dX9_command_103 ?_ (fun _ _ _ z => z.elim)
    intro r_9 h_9 n_9 hq _
    rw [hq.1, hq.2.1, hq.2.2]
    show pw E YX9_command _ _ 0 0 106 [some (.ref B), some (.int (zI (k)))] [.int (zI (lyNext (hLv s) (hFoc s) 7 1)), .ref B] h n
    refine pw_put (fs' := (hoL (B + 1) (B + 107) (B + 110) (B + 113) (B + 114) (B + 2) w H ((hClp s).2) (lyNext (hLv s) (hFoc s) 7 1) (hPre s))) okX9 (k := 9) (by decide) lkX9_88 rfl rfl rfl hA.1 (nlt rfl) rfl dX9_command_106 ?_
    have hA5 : hAt w H N NH NB NL B (sFoc (lyNext (hLv s) (hFoc s) 7 1) s) (va_up h B (pz_o 12 (hoL (B + 1) (B + 107) (B + 110) (B + 113) (B + 114) (B + 2) w H ((hClp s).2) (lyNext (hLv s) (hFoc s) 7 1) (hPre s)))) := hAt_foc hA
    have hF5 : hFr B n (hD s) h (va_up h B (pz_o 12 (hoL (B + 1) (B + 107) (B + 110) (B + 113) (B + 114) (B + 2) w H ((hClp s).2) (lyNext (hLv s) (hFoc s) 7 1) (hPre s)))) := hFr_tr hFr_rf (hFr_in (lo := B) (hi := B) (fun a ha => va_up_ne _ _ (by omega)) (by omega) (by omega))
    revert hA5 hF5
    generalize (va_up h B (pz_o 12 (hoL (B + 1) (B + 107) (B + 110) (B + 113) (B + 114) (B + 2) w H ((hClp s).2) (lyNext (hLv s) (hFoc s) 7 1) (hPre s)))) = h5
    intro hA5 hF5
    refine pw_goto (tgt := 185) dX9_command_109 rfl ?_
    exact pw_vret dX9_command_185 rfl (nle rfl) (nle rfl) ⟨rfl, by unfold sCmd; rw [if_neg (by omega)]; rw [if_neg (by omega)]; rw [if_pos (by omega)]; exact hA5, hF5, by unfold nCmd; rw [if_neg (by omega)]; rw [if_neg (by omega)]⟩
  by_cases k1_120 : (120 : Int) = k
  ·
    clear k1_2 k1_34 k1_37 k1_91 k1_93 k1_111
    refine pw_lookup (off := 111) (tgt := 112) dX9_command_1 (by decide) (by omega) (by rw [← k1_120]; decide) rfl ?_
    refine pw_aload_n dX9_command_112 rfl ?_
    refine pw_aload_n dX9_command_113 rfl ?_
    refine pw_get (v := .int (zI (hFoc s))) okX9 (k := 9) (by decide) lkX9_88 hA.1 rfl dX9_command_114 ?_
    refine pw_callV (As := [.int (zI (hFoc s))]) (b := B) (rm := rmD 20 0 0) (mX9_remove htr hG0 hA hg0 hM (by omega) hnew2) rfl hA.1 rfl rfl ywX9_remove rfl cwX9_103 ⟨nle rfl, nle rfl⟩ (nle rfl) ⟨nle rfl, nle rfl⟩ dX9_command_117 ?_ (fun _ _ _ z => z.elim)
    intro r2 h2 n2 hq _
    rcases hq with ⟨hok, e1, hA1, hF1, e4⟩ | ⟨hok, e1, hA1, hF1, e4⟩
    ·
      rw [e1, e4]
      show pw E YX9_command _ _ 0 0 120 [some (.ref B), some (.int (zI (k)))] [.int (zI (1))] h2 n
      refine pw_pop dX9_command_120 rfl ?_
      refine pw_goto (tgt := 185) dX9_command_121 rfl ?_
      exact pw_vret dX9_command_185 rfl (nle rfl) (nle rfl) ⟨rfl, by unfold sCmd; rw [if_neg (by omega)]; rw [if_neg (by omega)]; rw [if_neg (by omega)]; rw [if_pos (by omega)]; unfold sRmv; rw [if_pos hok]; exact hA1, hF1, by unfold nCmd; rw [if_neg (by omega)]; rw [if_neg (by omega)]⟩
    ·
      rw [e1, e4]
      show pw E YX9_command _ _ 0 0 120 [some (.ref B), some (.int (zI (k)))] [.int (zI (0))] h2 n
      refine pw_pop dX9_command_120 rfl ?_
      refine pw_goto (tgt := 185) dX9_command_121 rfl ?_
      exact pw_vret dX9_command_185 rfl (nle rfl) (nle rfl) ⟨rfl, by unfold sCmd; rw [if_neg (by omega)]; rw [if_neg (by omega)]; rw [if_neg (by omega)]; rw [if_pos (by omega)]; unfold sRmv; rw [if_neg hok]; exact hA1, hF1, by unfold nCmd; rw [if_neg (by omega)]; rw [if_neg (by omega)]⟩
  refine pw_lookup (off := 184) (tgt := 185) dX9_command_1 (by decide) (by omega) (by show Op.lookupswitch.offset [(2, 165), (34, 67), (37, 80), (91, 123), (93, 158), (111, 93), (120, 111)] 184 (k) = 184; simp only [Op.lookupswitch.offset_cons, Op.lookupswitch.offset_nil, if_neg k1_2, if_neg k1_34, if_neg k1_37, if_neg k1_91, if_neg k1_93, if_neg k1_111, if_neg k1_120]) rfl ?_
  exact pw_vret dX9_command_185 rfl (nle rfl) (nle rfl) ⟨rfl, by unfold sCmd; rw [if_neg (by omega)]; rw [if_neg (by omega)]; rw [if_neg (by omega)]; rw [if_neg (by omega)]; rw [if_neg (by omega)]; rw [if_neg (by omega)]; rw [if_neg (by omega)]; exact hA, hFr_rf, by unfold nCmd; rw [if_neg (by omega)]; rw [if_neg (by omega)]⟩

set_option maxHeartbeats 4000000 in
set_option maxRecDepth 100000 in
/-- key(k) -/
theorem mX9_key2 {E : pw_E} (htr : E.1.stackTraces = false) {h : pz_H} {n : Nat} {w H M : Int} {N NH NB NL B : Nat} {s : hS} (hG : geoH w H N NH NB NL) (hA : hAt w H N NH NB NL B s h) (hg : hGd w H M NB s) (hM : 0 ≤ M ∧ M ≤ 900000000) {k : Int} (h_k : -2147483648 ≤ k ∧ k < 2147483648) (hBn : B + 115 ≤ n) (hDn : ∀ k, n ≤ k → ¬ hD s k = true) (hnew1 : ∀ dn, 0 ≤ dn ∧ dn ≤ 1 → dvOk s (hFoc s) dn → lyOk w H (sDiv n (hFoc s) dn s)) (hnew2 : rmOk (hP s) (hLv s) (hFoc s) → lyOk w H (sRm (hFoc s) s)) : pw_M E yX9_key YX9_key (rmD 23 2 16) [.ref B, .int (zI (k))] h n (fun r h' n' => (0 ≤ k ∧ k ≤ 255) ∧ r = some (.int (zI (hFoc (sKey w H n k s)))) ∧ hAt w H N NH NB NL B (sKey w H n k s) h' ∧ hFr B n (hD s) h h' ∧ n' = nKey n k s) (fun C h' n' => C = "java/lang/IllegalArgumentException" ∧ ¬ (0 ≤ k ∧ k ≤ 255) ∧ h' = h ∧ n' = n) := by
  have hG0 := hG
  have hg0 := hg
  obtain ⟨gG, gNB, gNL⟩ := hG
  have gG0 := gG
  obtain ⟨gw, gH, gN, gN2, gNH⟩ := gG
  obtain ⟨gP, gL, gY, gF, gFl, gPr, gC, gO, gPi, gLi⟩ := hg
  obtain ⟨gO3, gO4, gO5, gO6, gO7, gOc⟩ := gO
  obtain ⟨p3, p4, p5, p6, p9, p10, pcl, pT, pR, pcm, pof, pto⟩ := gP (hFoc s).toNat (by omega)
  have pg := gL (hFoc s).toNat (by omega) gFl
  refine pw_M_of (lv := [some (.ref B), some (.int (zI (k)))]) (by decide) rfl rfl htr (nle rfl) rfl (fun L => ?_)
  refine pw_iload_n dX9_key_0 rfl ?_
  refine pw_if_lt (tgt := 11) dX9_key_1 rfl (by omega) (fun c1 => ?_) (fun c1 => ?_)
  ·
    exact pw_throw (text := "a key is 0 .. 255") (by decide +kernel) tk_IA.1 tk_IA.2 (by decide +kernel) th_IA ⟨nle rfl, nle rfl⟩ ⟨nle rfl, nle rfl⟩ dX9_key_11 dX9_key_14 dX9_key_15 dX9_key_17 dX9_key_20 ⟨rfl, by omega, rfl, rfl⟩
  ·
    refine pw_iload_n dX9_key_4 rfl ?_
    refine pw_sipush (v := zI (255)) dX9_key_5 (by decide) ?_
    refine pw_icmp_le (tgt := 21) dX9_key_8 rfl (by omega) (by omega) (fun c8 => ?_) (fun c8 => ?_)
    ·
      refine pw_aload_n dX9_key_21 rfl ?_
      refine pw_get (v := .int (zI (hPre s))) okX9 (k := 10) (by decide) lkX9_81 hA.1 rfl dX9_key_22 ?_
      refine pw_if_eq (tgt := 41) dX9_key_25 rfl (by omega) (fun c25 => ?_) (fun c25 => ?_)
      ·
        refine pw_iload_n dX9_key_41 rfl ?_
        refine pw_iconst (v := zI (2)) dX9_key_42 (by decide) ?_
        refine pw_icmp_ne (tgt := 54) dX9_key_43 rfl (by omega) (by omega) (fun c43 => ?_) (fun c43 => ?_)
        ·
          refine pw_aload_n dX9_key_54 rfl ?_
          refine pw_get (v := .ref (B + 1)) okX9 (k := 2) (by decide) lkX9_11 hA.1 rfl dX9_key_55 ?_
          refine pw_aload_n dX9_key_58 rfl ?_
          refine pw_get (v := .int (zI (hFoc s))) okX9 (k := 9) (by decide) lkX9_88 hA.1 rfl dX9_key_59 ?_
          refine pw_aaldO (t := 3) rfl hA.2.1 (by omega) (by decide) dX9_key_62 ?_
          refine pw_iload_n dX9_key_63 rfl ?_
          rw [show rv (hPv B (hFoc s).toNat) = Value.ref (B + 3 + 13 * (hFoc s).toNat) from by rw [hPv_s (by omega)]; rfl]
          refine pw_callV (As := [.int (zI k)]) (b := (B + 3 + 13 * (hFoc s).toNat)) (rm := rmD 3 0 0) (mX4_press htr gG0 (hA_pn hA (k := (hFoc s).toNat) (by omega)).1.1 pg.1.1 (hA_pn hA (k := (hFoc s).toNat) (by omega)).2.1 (fun i _ => pnI_ne (by omega)) (by omega) (by omega) (by omega) (hA_pn hA (k := (hFoc s).toNat) (by omega)).2.2.1 (hA_pn hA (k := (hFoc s).toNat) (by omega)).2.2.2 (by omega) (by omega)) rfl (hA_pn hA (k := (hFoc s).toNat) (by omega)).2.1 rfl rfl ywX4_press rfl cwX9_91 ⟨nle rfl, nle rfl⟩ (nle rfl) ⟨nle rfl, nle rfl⟩ dX9_key_64 ?_ (fun _ _ _ z => z.elim)
          intro r2 h2 n2 hq _
          rw [hq.1, hq.2.1, hq.2.2]
          by_cases hcm : (hX s (hFoc s).toNat).2.1.1 = 0
          ·
            rw [if_pos hcm]
            show pw E YX9_key _ _ 0 0 67 [some (.ref B), some (.int (zI (k)))] [] (tyP (B + 3 + 13 * (hFoc s).toNat + 1) (B + 3 + 13 * (hFoc s).toNat + 2) (tyB k (hX s (hFoc s).toNat).2.2) h) n
            have hp1 : pnAt w H N NH (B + 3 + 13 * (hFoc s).toNat) (pPr k (hX s (hFoc s).toNat)) (tyP (B + 3 + 13 * (hFoc s).toNat + 1) (B + 3 + 13 * (hFoc s).toNat + 2) (tyB k (hX s (hFoc s).toNat).2.2) h) := by unfold pPr; rw [if_pos hcm]; exact pnAt_t (hA_pn hA (k := (hFoc s).toNat) (by omega))
            have hA1 : hAt w H N NH NB NL B (sX (hFoc s).toNat (pPr k (hX s (hFoc s).toNat)) s) (tyP (B + 3 + 13 * (hFoc s).toNat + 1) (B + 3 + 13 * (hFoc s).toNat + 2) (tyB k (hX s (hFoc s).toNat).2.2) h) := hAt_X hA (by omega) hp1 (fun a ha => tyP_o (by omega) (by omega))
            have hF1 : hFr B n (hD s) h (tyP (B + 3 + 13 * (hFoc s).toNat + 1) (B + 3 + 13 * (hFoc s).toNat + 2) (tyB k (hX s (hFoc s).toNat).2.2) h) := hFr_tr hFr_rf (hFr_in (lo := (B + 3 + 13 * (hFoc s).toNat)) (hi := (B + 3 + 13 * (hFoc s).toNat) + 12) (fun a ha => tyP_o (by omega) (by omega)) (by omega) (by omega))
            revert hp1 hA1 hF1
            generalize (tyP (B + 3 + 13 * (hFoc s).toNat + 1) (B + 3 + 13 * (hFoc s).toNat + 2) (tyB k (hX s (hFoc s).toNat).2.2) h) = h1
            intro hp1 hA1 hF1
            refine pw_aload_n dX9_key_67 rfl ?_
            refine pw_get (v := .int (zI (hFoc (sX (hFoc s).toNat (pPr k (hX s (hFoc s).toNat)) s)))) okX9 (k := 9) (by decide) lkX9_88 hA1.1 rfl dX9_key_68 ?_
            have e9 : sKey w H n k s = (sX (hFoc s).toNat (pPr k (hX s (hFoc s).toNat)) s) := by unfold sKey; rw [if_neg (by omega), if_neg (by omega)]
            exact pw_iret dX9_key_71 rfl (nle rfl) (nle rfl) ⟨by omega, by rw [e9], by rw [e9]; exact hA1, hF1, by unfold nKey; rw [if_neg (by omega)]⟩
          ·
            rw [if_neg hcm]
            show pw E YX9_key _ _ 0 0 67 [some (.ref B), some (.int (zI (k)))] [] (va_up h (B + 3 + 13 * (hFoc s).toNat) (pz_o 7 [.ref (B + 3 + 13 * (hFoc s).toNat + 3), .ref (B + 3 + 13 * (hFoc s).toNat + 11), .ref (B + 3 + 13 * (hFoc s).toNat + 1), .int (zI (pPress (hX s (hFoc s).toNat).2.1.1 (hX s (hFoc s).toNat).2.1.2 ((hX s (hFoc s).toNat).1.1.2.2.2.1 4) k).1), .int (zI (pPress (hX s (hFoc s).toNat).2.1.1 (hX s (hFoc s).toNat).2.1.2 ((hX s (hFoc s).toNat).1.1.2.2.2.1 4) k).2)])) n
            have hp2 : pnAt w H N NH (B + 3 + 13 * (hFoc s).toNat) (pPr k (hX s (hFoc s).toNat)) (va_up h (B + 3 + 13 * (hFoc s).toNat) (pz_o 7 [.ref (B + 3 + 13 * (hFoc s).toNat + 3), .ref (B + 3 + 13 * (hFoc s).toNat + 11), .ref (B + 3 + 13 * (hFoc s).toNat + 1), .int (zI (pPress (hX s (hFoc s).toNat).2.1.1 (hX s (hFoc s).toNat).2.1.2 ((hX s (hFoc s).toNat).1.1.2.2.2.1 4) k).1), .int (zI (pPress (hX s (hFoc s).toNat).2.1.1 (hX s (hFoc s).toNat).2.1.2 ((hX s (hFoc s).toNat).1.1.2.2.2.1 4) k).2)])) := by unfold pPr; rw [if_neg hcm]; exact pnAt_c (hA_pn hA (k := (hFoc s).toNat) (by omega))
            have hA2 : hAt w H N NH NB NL B (sX (hFoc s).toNat (pPr k (hX s (hFoc s).toNat)) s) (va_up h (B + 3 + 13 * (hFoc s).toNat) (pz_o 7 [.ref (B + 3 + 13 * (hFoc s).toNat + 3), .ref (B + 3 + 13 * (hFoc s).toNat + 11), .ref (B + 3 + 13 * (hFoc s).toNat + 1), .int (zI (pPress (hX s (hFoc s).toNat).2.1.1 (hX s (hFoc s).toNat).2.1.2 ((hX s (hFoc s).toNat).1.1.2.2.2.1 4) k).1), .int (zI (pPress (hX s (hFoc s).toNat).2.1.1 (hX s (hFoc s).toNat).2.1.2 ((hX s (hFoc s).toNat).1.1.2.2.2.1 4) k).2)])) := hAt_X hA (by omega) hp2 (fun a ha => va_up_ne _ _ (by omega))
            have hF2 : hFr B n (hD s) h (va_up h (B + 3 + 13 * (hFoc s).toNat) (pz_o 7 [.ref (B + 3 + 13 * (hFoc s).toNat + 3), .ref (B + 3 + 13 * (hFoc s).toNat + 11), .ref (B + 3 + 13 * (hFoc s).toNat + 1), .int (zI (pPress (hX s (hFoc s).toNat).2.1.1 (hX s (hFoc s).toNat).2.1.2 ((hX s (hFoc s).toNat).1.1.2.2.2.1 4) k).1), .int (zI (pPress (hX s (hFoc s).toNat).2.1.1 (hX s (hFoc s).toNat).2.1.2 ((hX s (hFoc s).toNat).1.1.2.2.2.1 4) k).2)])) := hFr_tr hFr_rf (hFr_in (lo := (B + 3 + 13 * (hFoc s).toNat)) (hi := (B + 3 + 13 * (hFoc s).toNat) + 12) (fun a ha => va_up_ne _ _ (by omega)) (by omega) (by omega))
            revert hp2 hA2 hF2
            generalize (va_up h (B + 3 + 13 * (hFoc s).toNat) (pz_o 7 [.ref (B + 3 + 13 * (hFoc s).toNat + 3), .ref (B + 3 + 13 * (hFoc s).toNat + 11), .ref (B + 3 + 13 * (hFoc s).toNat + 1), .int (zI (pPress (hX s (hFoc s).toNat).2.1.1 (hX s (hFoc s).toNat).2.1.2 ((hX s (hFoc s).toNat).1.1.2.2.2.1 4) k).1), .int (zI (pPress (hX s (hFoc s).toNat).2.1.1 (hX s (hFoc s).toNat).2.1.2 ((hX s (hFoc s).toNat).1.1.2.2.2.1 4) k).2)])) = h2
            intro hp2 hA2 hF2
            refine pw_aload_n dX9_key_67 rfl ?_
            refine pw_get (v := .int (zI (hFoc (sX (hFoc s).toNat (pPr k (hX s (hFoc s).toNat)) s)))) okX9 (k := 9) (by decide) lkX9_88 hA2.1 rfl dX9_key_68 ?_
            have e9 : sKey w H n k s = (sX (hFoc s).toNat (pPr k (hX s (hFoc s).toNat)) s) := by unfold sKey; rw [if_neg (by omega), if_neg (by omega)]
            exact pw_iret dX9_key_71 rfl (nle rfl) (nle rfl) ⟨by omega, by rw [e9], by rw [e9]; exact hA2, hF2, by unfold nKey; rw [if_neg (by omega)]⟩
        ·
          refine pw_aload_n dX9_key_46 rfl ?_
          refine pw_iconst (v := zI (1)) dX9_key_47 (by decide) ?_
          refine pw_put (fs' := (hoL (B + 1) (B + 107) (B + 110) (B + 113) (B + 114) (B + 2) w H ((hClp s).2) (hFoc s) (1))) okX9 (k := 10) (by decide) lkX9_81 rfl (by decide) (by decide) hA.1 (nlt rfl) rfl dX9_key_48 ?_
          have hA3 : hAt w H N NH NB NL B (sPre (1) s) (va_up h B (pz_o 12 (hoL (B + 1) (B + 107) (B + 110) (B + 113) (B + 114) (B + 2) w H ((hClp s).2) (hFoc s) (1)))) := hAt_pre hA
          have hF3 : hFr B n (hD s) h (va_up h B (pz_o 12 (hoL (B + 1) (B + 107) (B + 110) (B + 113) (B + 114) (B + 2) w H ((hClp s).2) (hFoc s) (1)))) := hFr_tr hFr_rf (hFr_in (lo := B) (hi := B) (fun a ha => va_up_ne _ _ (by omega)) (by omega) (by omega))
          revert hA3 hF3
          generalize (va_up h B (pz_o 12 (hoL (B + 1) (B + 107) (B + 110) (B + 113) (B + 114) (B + 2) w H ((hClp s).2) (hFoc s) (1)))) = h3
          intro hA3 hF3
          refine pw_goto (tgt := 67) dX9_key_51 rfl ?_
          refine pw_aload_n dX9_key_67 rfl ?_
          refine pw_get (v := .int (zI (hFoc (sPre (1) s)))) okX9 (k := 9) (by decide) lkX9_88 hA3.1 rfl dX9_key_68 ?_
          have e9 : sKey w H n k s = (sPre (1) s) := by unfold sKey; rw [if_neg (by omega), if_pos (by omega)]
          exact pw_iret dX9_key_71 rfl (nle rfl) (nle rfl) ⟨by omega, by rw [e9], by rw [e9]; exact hA3, hF3, by unfold nKey; rw [if_neg (by omega)]⟩
      ·
        refine pw_aload_n dX9_key_28 rfl ?_
        refine pw_iconst (v := zI (0)) dX9_key_29 (by decide) ?_
        refine pw_put (fs' := (hoL (B + 1) (B + 107) (B + 110) (B + 113) (B + 114) (B + 2) w H ((hClp s).2) (hFoc s) (0))) okX9 (k := 10) (by decide) lkX9_81 rfl (by decide) (by decide) hA.1 (nlt rfl) rfl dX9_key_30 ?_
        have hA4 : hAt w H N NH NB NL B (sPre (0) s) (va_up h B (pz_o 12 (hoL (B + 1) (B + 107) (B + 110) (B + 113) (B + 114) (B + 2) w H ((hClp s).2) (hFoc s) (0)))) := hAt_pre hA
        have hF4 : hFr B n (hD s) h (va_up h B (pz_o 12 (hoL (B + 1) (B + 107) (B + 110) (B + 113) (B + 114) (B + 2) w H ((hClp s).2) (hFoc s) (0)))) := hFr_tr hFr_rf (hFr_in (lo := B) (hi := B) (fun a ha => va_up_ne _ _ (by omega)) (by omega) (by omega))
        revert hA4 hF4
        generalize (va_up h B (pz_o 12 (hoL (B + 1) (B + 107) (B + 110) (B + 113) (B + 114) (B + 2) w H ((hClp s).2) (hFoc s) (0)))) = h4
        intro hA4 hF4
        refine pw_aload_n dX9_key_33 rfl ?_
        refine pw_iload_n dX9_key_34 rfl ?_
        refine pw_callV (As := [.int (zI k)]) (b := B) (rm := rmD 22 2 16) (mX9_command2 htr hG0 hA4 (hGd_pre hg0 (by omega)) hM (by omega) hBn hDn hnew1 hnew2) rfl hA4.1 rfl rfl ywX9_command rfl cwX9_85 ⟨nle rfl, nle rfl⟩ (nle rfl) ⟨nle rfl, nle rfl⟩ dX9_key_35 ?_ (fun _ _ _ z => z.elim)
        intro r2 h2 n2 hq _
        obtain ⟨e1, hA2, hF20, e4⟩ := hq
        rw [e1, e4]
        show pw E YX9_key _ _ (0 + 2) (0 + 16) 38 [some (.ref B), some (.int (zI (k)))] [] h2 (nCmd n k (sPre 0 s))
        have hF2 : hFr B n (hD s) h h2 := hFr_tr hF4 hF20
        refine pw_goto (tgt := 67) dX9_key_38 rfl ?_
        refine pw_aload_n dX9_key_67 rfl ?_
        refine pw_get (v := .int (zI (hFoc (sCmd w H n k (sPre 0 s))))) okX9 (k := 9) (by decide) lkX9_88 hA2.1 rfl dX9_key_68 ?_
        have e9 : sKey w H n k s = (sCmd w H n k (sPre 0 s)) := by unfold sKey; rw [if_pos (by omega)]
        exact pw_iret dX9_key_71 rfl (nle rfl) (nle rfl) ⟨by omega, by rw [e9], by rw [e9]; exact hA2, hF2, by unfold nKey; rw [if_pos (by omega)]⟩
    ·
      exact pw_throw (text := "a key is 0 .. 255") (by decide +kernel) tk_IA.1 tk_IA.2 (by decide +kernel) th_IA ⟨nle rfl, nle rfl⟩ ⟨nle rfl, nle rfl⟩ dX9_key_11 dX9_key_14 dX9_key_15 dX9_key_17 dX9_key_20 ⟨rfl, by omega, rfl, rfl⟩
