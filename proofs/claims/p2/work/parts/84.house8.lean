def YX9_key : pw_Y := (RX9, "key", cX9_key, 2, (some .int))
theorem ywX9_key : pw_y yX9_key YX9_key 1 := ⟨by decide +kernel, by decide +kernel, by decide +kernel, pw_in 1111 (by decide +kernel) (by decide +kernel), pw_in 79 (by decide +kernel) (by decide +kernel)⟩
theorem lkX9_81 : Cond.fieldLink RX9 81 (TX9 10).1 (TX9 10).2.1 (TX9 10).2.2.1 ∈ pw_G := pw_in 792 (by decide +kernel) (by decide +kernel)
theorem cwX9_91 : Cond.methodLink RX9 91 yX4_press ∈ pw_G ∧ Cond.instanceMethod yX4_press ∈ pw_G ∧ Cond.selects RX4 yX4_press yX4_press ∈ pw_G := ⟨pw_in 1168 (by decide +kernel) (by decide +kernel), pw_in 1169 (by decide +kernel) (by decide +kernel), pw_in 1170 (by decide +kernel) (by decide +kernel)⟩
theorem cwX9_85 : Cond.methodLink RX9 85 yX9_command ∈ pw_G ∧ Cond.instanceMethod yX9_command ∈ pw_G ∧ Cond.selects RX9 yX9_command yX9_command ∈ pw_G := ⟨pw_in 1113 (by decide +kernel) (by decide +kernel), pw_in 1115 (by decide +kernel) (by decide +kernel), pw_in 24 (by decide +kernel) (by decide +kernel)⟩
def YX9_split : pw_Y := (RX9, "split", cX9_split, 4, (some .int))
theorem ywX9_split : pw_y yX9_split YX9_split 2 := ⟨by decide +kernel, by decide +kernel, by decide +kernel, pw_in 1185 (by decide +kernel) (by decide +kernel), pw_in 79 (by decide +kernel) (by decide +kernel)⟩
def YX9_close : pw_Y := (RX9, "close", cX9_close, 2, (some .int))
theorem ywX9_close : pw_y yX9_close YX9_close 1 := ⟨by decide +kernel, by decide +kernel, by decide +kernel, pw_in 1208 (by decide +kernel) (by decide +kernel), pw_in 79 (by decide +kernel) (by decide +kernel)⟩
theorem hGd_pre {w H M i : Int} {NB : Nat} {s : hS} (hg : hGd w H M NB s) (hi : 0 ≤ i ∧ i ≤ 1) : hGd w H M NB (sPre i s) := by
  obtain ⟨gP, gL, gY, gF, gFl, gPr, gC, gO, gPi, gLi⟩ := hg
  exact ⟨gP, gL, gY, gF, gFl, hi, gC, gO, gPi, gLi⟩
set_option maxHeartbeats 4000000 in
set_option maxRecDepth 100000 in
/-- key(k) -/
theorem mX9_key {E : pw_E} (htr : E.1.stackTraces = false) {h : pz_H} {n : Nat} {w H M : Int} {N NH NB NL B : Nat} {s : hS} (hG : geoH w H N NH NB NL) (hA : hAt w H N NH NB NL B s h) (hg : hGd w H M NB s) (hM : 0 ≤ M ∧ M ≤ 900000000) {k : Int} (h_k : -2147483648 ≤ k ∧ k < 2147483648) (hBn : B + 115 ≤ n) (hDn : ∀ k, n ≤ k → ¬ hD s k = true) (hnew1 : ∀ dn, dvOk s (hFoc s) dn → lyOk w H (sDiv n (hFoc s) dn s)) (hnew2 : rmOk (hP s) (hLv s) (hFoc s) → lyOk w H (sRm (hFoc s) s)) : pw_M E yX9_key YX9_key (rmD 23 2 16) [.ref B, .int (zI (k))] h n (fun r h' n' => (0 ≤ k ∧ k ≤ 255) ∧ r = some (.int (zI (hFoc (sKey w H n k s)))) ∧ hAt w H N NH NB NL B (sKey w H n k s) h' ∧ hFr B n (hD s) h h' ∧ n' = nKey n k s) (fun C h' n' => C = "java/lang/IllegalArgumentException" ∧ ¬ (0 ≤ k ∧ k ≤ 255) ∧ h' = h ∧ n' = n) := by
  have hG0 := hG
  have hg0 := hg
  obtain ⟨gG, gNB, gNL⟩ := hG
  have gG0 := gG
  obtain ⟨gw, gH, gN, gN2, gNH⟩ := gG
  obtain ⟨gP, gL, gY, gF, gFl, gPr, gC, gO, gPi, gLi⟩ := hg
  obtain ⟨gO3, gO4, gO5, gO6, gO7, gOc⟩ := gO
  obtain ⟨p3, p4, p5, p6, p9, p10, pcl, pT, pR, pcm, pof, pto⟩ := gP (hFoc s).toNat (by omega)
  have pg := gL (hFoc s).toNat (by omega) gFl
  refine pw_M_of (lv := [some (.ref B), some (.int (zI (k)))]) (by decide) rfl rfl htr (nle rfl) rfl (fun L => ?_)
  refine pw_iload_n dX9_key_0 rfl ?_
  refine pw_if_lt (tgt := 11) dX9_key_1 rfl (by omega) (fun c1 => ?_) (fun c1 => ?_)
  ·
    exact pw_throw (text := "a key is 0 .. 255") (by decide +kernel) tk_IA.1 tk_IA.2 (by decide +kernel) th_IA ⟨nle rfl, nle rfl⟩ ⟨nle rfl, nle rfl⟩ dX9_key_11 dX9_key_14 dX9_key_15 dX9_key_17 dX9_key_20 ⟨rfl, by omega, rfl, rfl⟩
  ·
    refine pw_iload_n dX9_key_4 rfl ?_
    refine pw_sipush (v := zI (255)) dX9_key_5 (by decide) ?_
    refine pw_icmp_le (tgt := 21) dX9_key_8 rfl (by omega) (by omega) (fun c8 => ?_) (fun c8 => ?_)
    ·
      refine pw_aload_n dX9_key_21 rfl ?_
      refine pw_get (v := .int (zI (hPre s))) okX9 (k := 10) (by decide) lkX9_81 hA.1 rfl dX9_key_22 ?_
      refine pw_if_eq (tgt := 41) dX9_key_25 rfl (by omega) (fun c25 => ?_) (fun c25 => ?_)
      ·
        refine pw_iload_n dX9_key_41 rfl ?_
        refine pw_iconst (v := zI (2)) dX9_key_42 (by decide) ?_
        refine pw_icmp_ne (tgt := 54) dX9_key_43 rfl (by omega) (by omega) (fun c43 => ?_) (fun c43 => ?_)
        ·
          refine pw_aload_n dX9_key_54 rfl ?_
          refine pw_get (v := .ref (B + 1)) okX9 (k := 2) (by decide) lkX9_11 hA.1 rfl dX9_key_55 ?_
          refine pw_aload_n dX9_key_58 rfl ?_
          refine pw_get (v := .int (zI (hFoc s))) okX9 (k := 9) (by decide) lkX9_88 hA.1 rfl dX9_key_59 ?_
          refine pw_aaldO (t := 3) rfl hA.2.1 (by omega) (by decide) dX9_key_62 ?_
          refine pw_iload_n dX9_key_63 rfl ?_
          rw [show rv (hPv B (hFoc s).toNat) = Value.ref (B + 3 + 13 * (hFoc s).toNat) from by rw [hPv_s (by omega)]; rfl]
          refine pw_callV (As := [.int (zI k)]) (b := (B + 3 + 13 * (hFoc s).toNat)) (rm := rmD 3 0 0) (mX4_press htr gG0 (hA_pn hA (k := (hFoc s).toNat) (by omega)).1.1 pg.1.1 (hA_pn hA (k := (hFoc s).toNat) (by omega)).2.1 (fun i _ => pnI_ne (by omega)) (by omega) (by omega) (by omega) (hA_pn hA (k := (hFoc s).toNat) (by omega)).2.2.1 (hA_pn hA (k := (hFoc s).toNat) (by omega)).2.2.2 (by omega) (by omega)) rfl (hA_pn hA (k := (hFoc s).toNat) (by omega)).2.1 rfl rfl ywX4_press rfl cwX9_91 ⟨nle rfl, nle rfl⟩ (nle rfl) ⟨nle rfl, nle rfl⟩ dX9_key_64 ?_ (fun _ _ _ z => z.elim)
          intro r2 h2 n2 hq _
          rw [hq.1, hq.2.1, hq.2.2]
          by_cases hcm : (hX s (hFoc s).toNat).2.1.1 = 0
          ·
            rw [if_pos hcm]
            show pw E YX9_key _ _ 0 0 67 [some (.ref B), some (.int (zI (k)))] [] (tyP (B + 3 + 13 * (hFoc s).toNat + 1) (B + 3 + 13 * (hFoc s).toNat + 2) (tyB k (hX s (hFoc s).toNat).2.2) h) n
            have hp1 : pnAt w H N NH (B + 3 + 13 * (hFoc s).toNat) (pPr k (hX s (hFoc s).toNat)) (tyP (B + 3 + 13 * (hFoc s).toNat + 1) (B + 3 + 13 * (hFoc s).toNat + 2) (tyB k (hX s (hFoc s).toNat).2.2) h) := by unfold pPr; rw [if_pos hcm]; exact pnAt_t (hA_pn hA (k := (hFoc s).toNat) (by omega))
            have hA1 : hAt w H N NH NB NL B (sX (hFoc s).toNat (pPr k (hX s (hFoc s).toNat)) s) (tyP (B + 3 + 13 * (hFoc s).toNat + 1) (B + 3 + 13 * (hFoc s).toNat + 2) (tyB k (hX s (hFoc s).toNat).2.2) h) := hAt_X hA (by omega) hp1 (fun a ha => tyP_o (by omega) (by omega))
            have hF1 : hFr B n (hD s) h (tyP (B + 3 + 13 * (hFoc s).toNat + 1) (B + 3 + 13 * (hFoc s).toNat + 2) (tyB k (hX s (hFoc s).toNat).2.2) h) := hFr_tr hFr_rf (hFr_in (lo := (B + 3 + 13 * (hFoc s).toNat)) (hi := (B + 3 + 13 * (hFoc s).toNat) + 12) (fun a ha => tyP_o (by omega) (by omega)) (by omega) (by omega))
            revert hp1 hA1 hF1
            generalize (tyP (B + 3 + 13 * (hFoc s).toNat + 1) (B + 3 + 13 * (hFoc s).toNat + 2) (tyB k (hX s (hFoc s).toNat).2.2) h) = h1
            intro hp1 hA1 hF1
            refine pw_aload_n dX9_key_67 rfl ?_
            refine pw_get (v := .int (zI (hFoc (sX (hFoc s).toNat (pPr k (hX s (hFoc s).toNat)) s)))) okX9 (k := 9) (by decide) lkX9_88 hA1.1 rfl dX9_key_68 ?_
            have e9 : sKey w H n k s = (sX (hFoc s).toNat (pPr k (hX s (hFoc s).toNat)) s) := by unfold sKey; rw [if_neg (by omega), if_neg (by omega)]
            exact pw_iret dX9_key_71 rfl (nle rfl) (nle rfl) ⟨by omega, by rw [e9], by rw [e9]; exact hA1, hF1, by unfold nKey; rw [if_neg (by omega)]⟩
          ·
            rw [if_neg hcm]
            show pw E YX9_key _ _ 0 0 67 [some (.ref B), some (.int (zI (k)))] [] (va_up h (B + 3 + 13 * (hFoc s).toNat) (pz_o 7 [.ref (B + 3 + 13 * (hFoc s).toNat + 3), .ref (B + 3 + 13 * (hFoc s).toNat + 11), .ref (B + 3 + 13 * (hFoc s).toNat + 1), .int (zI (pPress (hX s (hFoc s).toNat).2.1.1 (hX s (hFoc s).toNat).2.1.2 ((hX s (hFoc s).toNat).1.1.2.2.2.1 4) k).1), .int (zI (pPress (hX s (hFoc s).toNat).2.1.1 (hX s (hFoc s).toNat).2.1.2 ((hX s (hFoc s).toNat).1.1.2.2.2.1 4) k).2)])) n
            have hp2 : pnAt w H N NH (B + 3 + 13 * (hFoc s).toNat) (pPr k (hX s (hFoc s).toNat)) (va_up h (B + 3 + 13 * (hFoc s).toNat) (pz_o 7 [.ref (B + 3 + 13 * (hFoc s).toNat + 3), .ref (B + 3 + 13 * (hFoc s).toNat + 11), .ref (B + 3 + 13 * (hFoc s).toNat + 1), .int (zI (pPress (hX s (hFoc s).toNat).2.1.1 (hX s (hFoc s).toNat).2.1.2 ((hX s (hFoc s).toNat).1.1.2.2.2.1 4) k).1), .int (zI (pPress (hX s (hFoc s).toNat).2.1.1 (hX s (hFoc s).toNat).2.1.2 ((hX s (hFoc s).toNat).1.1.2.2.2.1 4) k).2)])) := by unfold pPr; rw [if_neg hcm]; exact pnAt_c (hA_pn hA (k := (hFoc s).toNat) (by omega))
            have hA2 : hAt w H N NH NB NL B (sX (hFoc s).toNat (pPr k (hX s (hFoc s).toNat)) s) (va_up h (B + 3 + 13 * (hFoc s).toNat) (pz_o 7 [.ref (B + 3 + 13 * (hFoc s).toNat + 3), .ref (B + 3 + 13 * (hFoc s).toNat + 11), .ref (B + 3 + 13 * (hFoc s).toNat + 1), .int (zI (pPress (hX s (hFoc s).toNat).2.1.1 (hX s (hFoc s).toNat).2.1.2 ((hX s (hFoc s).toNat).1.1.2.2.2.1 4) k).1), .int (zI (pPress (hX s (hFoc s).toNat).2.1.1 (hX s (hFoc s).toNat).2.1.2 ((hX s (hFoc s).toNat).1.1.2.2.2.1 4) k).2)])) := hAt_X hA (by omega) hp2 (fun a ha => va_up_ne _ _ (by omega))
            have hF2 : hFr B n (hD s) h (va_up h (B + 3 + 13 * (hFoc s).toNat) (pz_o 7 [.ref (B + 3 + 13 * (hFoc s).toNat + 3), .ref (B + 3 + 13 * (hFoc s).toNat + 11), .ref (B + 3 + 13 * (hFoc s).toNat + 1), .int (zI (pPress (hX s (hFoc s).toNat).2.1.1 (hX s (hFoc s).toNat).2.1.2 ((hX s (hFoc s).toNat).1.1.2.2.2.1 4) k).1), .int (zI (pPress (hX s (hFoc s).toNat).2.1.1 (hX s (hFoc s).toNat).2.1.2 ((hX s (hFoc s).toNat).1.1.2.2.2.1 4) k).2)])) := hFr_tr hFr_rf (hFr_in (lo := (B + 3 + 13 * (hFoc s).toNat)) (hi := (B + 3 + 13 * (hFoc s).toNat) + 12) (fun a ha => va_up_ne _ _ (by omega)) (by omega) (by omega))
            revert hp2 hA2 hF2
            generalize (va_up h (B + 3 + 13 * (hFoc s).toNat) (pz_o 7 [.ref (B + 3 + 13 * (hFoc s).toNat + 3), .ref (B + 3 + 13 * (hFoc s).toNat + 11), .ref (B + 3 + 13 * (hFoc s).toNat + 1), .int (zI (pPress (hX s (hFoc s).toNat).2.1.1 (hX s (hFoc s).toNat).2.1.2 ((hX s (hFoc s).toNat).1.1.2.2.2.1 4) k).1), .int (zI (pPress (hX s (hFoc s).toNat).2.1.1 (hX s (hFoc s).toNat).2.1.2 ((hX s (hFoc s).toNat).1.1.2.2.2.1 4) k).2)])) = h2
            intro hp2 hA2 hF2
            refine pw_aload_n dX9_key_67 rfl ?_
            refine pw_get (v := .int (zI (hFoc (sX (hFoc s).toNat (pPr k (hX s (hFoc s).toNat)) s)))) okX9 (k := 9) (by decide) lkX9_88 hA2.1 rfl dX9_key_68 ?_
            have e9 : sKey w H n k s = (sX (hFoc s).toNat (pPr k (hX s (hFoc s).toNat)) s) := by unfold sKey; rw [if_neg (by omega), if_neg (by omega)]
            exact pw_iret dX9_key_71 rfl (nle rfl) (nle rfl) ⟨by omega, by rw [e9], by rw [e9]; exact hA2, hF2, by unfold nKey; rw [if_neg (by omega)]⟩
        ·
          refine pw_aload_n dX9_key_46 rfl ?_
          refine pw_iconst (v := zI (1)) dX9_key_47 (by decide) ?_
          refine pw_put (fs' := (hoL (B + 1) (B + 107) (B + 110) (B + 113) (B + 114) (B + 2) w H ((hClp s).2) (hFoc s) (1))) okX9 (k := 10) (by decide) lkX9_81 rfl (by decide) (by decide) hA.1 (nlt rfl) rfl dX9_key_48 ?_
          have hA3 : hAt w H N NH NB NL B (sPre (1) s) (va_up h B (pz_o 12 (hoL (B + 1) (B + 107) (B + 110) (B + 113) (B + 114) (B + 2) w H ((hClp s).2) (hFoc s) (1)))) := hAt_pre hA
          have hF3 : hFr B n (hD s) h (va_up h B (pz_o 12 (hoL (B + 1) (B + 107) (B + 110) (B + 113) (B + 114) (B + 2) w H ((hClp s).2) (hFoc s) (1)))) := hFr_tr hFr_rf (hFr_in (lo := B) (hi := B) (fun a ha => va_up_ne _ _ (by omega)) (by omega) (by omega))
          revert hA3 hF3
          generalize (va_up h B (pz_o 12 (hoL (B + 1) (B + 107) (B + 110) (B + 113) (B + 114) (B + 2) w H ((hClp s).2) (hFoc s) (1)))) = h3
          intro hA3 hF3
          refine pw_goto (tgt := 67) dX9_key_51 rfl ?_
          refine pw_aload_n dX9_key_67 rfl ?_
          refine pw_get (v := .int (zI (hFoc (sPre (1) s)))) okX9 (k := 9) (by decide) lkX9_88 hA3.1 rfl dX9_key_68 ?_
          have e9 : sKey w H n k s = (sPre (1) s) := by unfold sKey; rw [if_neg (by omega), if_pos (by omega)]
          exact pw_iret dX9_key_71 rfl (nle rfl) (nle rfl) ⟨by omega, by rw [e9], by rw [e9]; exact hA3, hF3, by unfold nKey; rw [if_neg (by omega)]⟩
      ·
        refine pw_aload_n dX9_key_28 rfl ?_
        refine pw_iconst (v := zI (0)) dX9_key_29 (by decide) ?_
        refine pw_put (fs' := (hoL (B + 1) (B + 107) (B + 110) (B + 113) (B + 114) (B + 2) w H ((hClp s).2) (hFoc s) (0))) okX9 (k := 10) (by decide) lkX9_81 rfl (by decide) (by decide) hA.1 (nlt rfl) rfl dX9_key_30 ?_
        have hA4 : hAt w H N NH NB NL B (sPre (0) s) (va_up h B (pz_o 12 (hoL (B + 1) (B + 107) (B + 110) (B + 113) (B + 114) (B + 2) w H ((hClp s).2) (hFoc s) (0)))) := hAt_pre hA
        have hF4 : hFr B n (hD s) h (va_up h B (pz_o 12 (hoL (B + 1) (B + 107) (B + 110) (B + 113) (B + 114) (B + 2) w H ((hClp s).2) (hFoc s) (0)))) := hFr_tr hFr_rf (hFr_in (lo := B) (hi := B) (fun a ha => va_up_ne _ _ (by omega)) (by omega) (by omega))
        revert hA4 hF4
        generalize (va_up h B (pz_o 12 (hoL (B + 1) (B + 107) (B + 110) (B + 113) (B + 114) (B + 2) w H ((hClp s).2) (hFoc s) (0)))) = h4
        intro hA4 hF4
        refine pw_aload_n dX9_key_33 rfl ?_
        refine pw_iload_n dX9_key_34 rfl ?_
        refine pw_callV (As := [.int (zI k)]) (b := B) (rm := rmD 22 2 16) (mX9_command htr hG0 hA4 (hGd_pre hg0 (by omega)) hM (by omega) hBn hDn hnew1 hnew2) rfl hA4.1 rfl rfl ywX9_command rfl cwX9_85 ⟨nle rfl, nle rfl⟩ (nle rfl) ⟨nle rfl, nle rfl⟩ dX9_key_35 ?_ (fun _ _ _ z => z.elim)
        intro r2 h2 n2 hq _
        obtain ⟨e1, hA2, hF20, e4⟩ := hq
        rw [e1, e4]
        show pw E YX9_key _ _ (0 + 2) (0 + 16) 38 [some (.ref B), some (.int (zI (k)))] [] h2 (nCmd n k (sPre 0 s))
        have hF2 : hFr B n (hD s) h h2 := hFr_tr hF4 hF20
        refine pw_goto (tgt := 67) dX9_key_38 rfl ?_
        refine pw_aload_n dX9_key_67 rfl ?_
        refine pw_get (v := .int (zI (hFoc (sCmd w H n k (sPre 0 s))))) okX9 (k := 9) (by decide) lkX9_88 hA2.1 rfl dX9_key_68 ?_
        have e9 : sKey w H n k s = (sCmd w H n k (sPre 0 s)) := by unfold sKey; rw [if_pos (by omega)]
        exact pw_iret dX9_key_71 rfl (nle rfl) (nle rfl) ⟨by omega, by rw [e9], by rw [e9]; exact hA2, hF2, by unfold nKey; rw [if_pos (by omega)]⟩
    ·
      exact pw_throw (text := "a key is 0 .. 255") (by decide +kernel) tk_IA.1 tk_IA.2 (by decide +kernel) th_IA ⟨nle rfl, nle rfl⟩ ⟨nle rfl, nle rfl⟩ dX9_key_11 dX9_key_14 dX9_key_15 dX9_key_17 dX9_key_20 ⟨rfl, by omega, rfl, rfl⟩
set_option maxHeartbeats 4000000 in
set_option maxRecDepth 100000 in
/-- split(p, dn) -/
theorem mX9_split {E : pw_E} (htr : E.1.stackTraces = false) {h : pz_H} {n : Nat} {w H M : Int} {N NH NB NL B : Nat} {s : hS} (hG : geoH w H N NH NB NL) (hA : hAt w H N NH NB NL B s h) (hg : hGd w H M NB s) (hM : 0 ≤ M ∧ M ≤ 900000000) {p dn : Int} (h_p : -2147483648 ≤ p ∧ p < 2147483648) (h_dn : -2147483648 ≤ dn ∧ dn < 2147483648) (hdn : 0 ≤ dn ∧ dn ≤ 1) (hBn : B + 115 ≤ n) (hDn : ∀ k, n ≤ k → ¬ hD s k = true) (hnew : dvOk s p dn → lyOk w H (sDiv n p dn s)) : pw_M E yX9_split YX9_split (rmD 22 4 28) [.ref B, .int (zI (p)), .int (zI (dn))] h n (fun r h' n' => lyHas (hLv s) p = 1 ∧ dvOk s p dn ∧ r = some (.int (zI (lyLeast (hLv s) 0 8 0))) ∧ hAt w H N NH NB NL B (sDivide w H n p dn s) h' ∧ hFr B n (hD s) h h' ∧ n' = n + 1 + 1) (fun C h' n' => (C = "java/lang/IndexOutOfBoundsException" ∧ lyHas (hLv s) p = 0 ∧ h' = h ∧ n' = n) ∨ (C = "java/lang/IllegalStateException" ∧ (lyHas (hLv s) p = 1 ∧ ¬ dvOk s p dn) ∧ hAt w H N NH NB NL B s h' ∧ hFr B n (hD s) h h' ∧ n' = n)) := by
  have hG0 := hG
  have hg0 := hg
  obtain ⟨gG, gNB, gNL⟩ := hG
  have gG0 := gG
  obtain ⟨gw, gH, gN, gN2, gNH⟩ := gG
  obtain ⟨gP, gL, gY, gF, gFl, gPr, gC, gO, gPi, gLi⟩ := hg
  obtain ⟨gO3, gO4, gO5, gO6, gO7, gOc⟩ := gO
  refine pw_M_of (lv := [some (.ref B), some (.int (zI (p))), some (.int (zI (dn))), none]) (by decide) rfl rfl htr (nle rfl) rfl (fun L => ?_)
  refine pw_aload_n dX9_split_0 rfl ?_
  refine pw_iload_n dX9_split_1 rfl ?_
  refine pw_callV (As := [.int (zI (p))]) (b := B) (rm := rmD 6 1 6) (mX9_checkPane htr hA (by omega)) rfl hA.1 rfl rfl ywX9_checkPane rfl cwX9_59 ⟨nle rfl, nle rfl⟩ (nle rfl) ⟨nle rfl, nle rfl⟩ dX9_split_2 ?_ (fun _ _ _ z => Or.inl z)
  intro r2 h2 n2 hq _
  obtain ⟨hpx, e1, e2, e3⟩ := hq
  rw [e1, e2, e3]
  show pw E YX9_split _ _ (0 + 1) (0 + 6) 5 [some (.ref B), some (.int (zI (p))), some (.int (zI (dn))), none] [] h n
  clear e1 e2 e3
  obtain ⟨hp8, hpl⟩ := lyHas_y hpx
  refine pw_aload_n dX9_split_5 rfl ?_
  refine pw_iload_n dX9_split_6 rfl ?_
  refine pw_iload_n dX9_split_7 rfl ?_
  refine pw_callV (As := [.int (zI p), .int (zI dn)]) (b := B) (rm := rmD 21 2 16) (mX9_divide htr hG0 hA hg0 hM (by omega) (by omega) (by omega) hBn hDn hnew) rfl hA.1 rfl rfl ywX9_divide rfl cwX9_94 ⟨nle rfl, nle rfl⟩ (nle rfl) ⟨nle rfl, nle rfl⟩ dX9_split_8 ?_ (fun _ _ _ z => z.elim)
  intro r2 h2 n2 hq _
  rcases hq with ⟨hok, e1, hA1, hF1, e4⟩ | ⟨hok, e1, hA1, hF1, e4⟩
  ·
    rw [e1, e4]
    show pw E YX9_split _ _ (0 + 1 + 2) (0 + 6 + 16) 11 [some (.ref B), some (.int (zI (p))), some (.int (zI (dn))), none] [.int (zI ((lyLeast (hLv s) 0 8 0)))] h2 (n + 1 + 1)
    have hl1 := lyLeast_r (lv := hLv s) (t := 0) 8 0 (by omega)
    have hl2 := hok.2.2.1
    refine pw_istore_n (lv' := [some (.ref B), some (.int (zI (p))), some (.int (zI (dn))), some (.int (zI ((lyLeast (hLv s) 0 8 0))))]) dX9_split_11 (by decide) rfl rfl ?_
    refine pw_iload_n dX9_split_12 rfl ?_
    refine pw_iconst (v := zI (-1)) dX9_split_13 (by decide) ?_
    refine pw_icmp_ne (tgt := 27) dX9_split_14 rfl (by omega) (by omega) (fun c14 => ?_) (fun c14 => ?_)
    ·
      refine pw_iload_n dX9_split_27 rfl ?_
      exact pw_iret dX9_split_28 rfl (nle rfl) (nle rfl) ⟨hpx, hok, rfl, hA1, hF1, rfl⟩
    · exfalso; omega
  ·
    rw [e1, e4]
    show pw E YX9_split _ _ (0 + 1 + 2) (0 + 6 + 16) 11 [some (.ref B), some (.int (zI (p))), some (.int (zI (dn))), none] [.int (zI (-1))] h2 n
    refine pw_istore_n (lv' := [some (.ref B), some (.int (zI (p))), some (.int (zI (dn))), some (.int (zI (-1)))]) dX9_split_11 (by decide) rfl rfl ?_
    refine pw_iload_n dX9_split_12 rfl ?_
    refine pw_iconst (v := zI (-1)) dX9_split_13 (by decide) ?_
    refine pw_icmp_ne (tgt := 27) dX9_split_14 rfl (by omega) (by omega) (fun c14 => ?_) (fun c14 => ?_)
    · exfalso; omega
    ·
      exact pw_throw (text := "there are 8 panes, or its area is too small") (by decide +kernel) tk_IS.1 tk_IS.2 (by decide +kernel) th_IS ⟨nle rfl, nle rfl⟩ ⟨nle rfl, nle rfl⟩ dX9_split_17 dX9_split_20 dX9_split_21 dX9_split_23 dX9_split_26 (Or.inr ⟨rfl, ⟨hpx, hok⟩, hA1, hF1, rfl⟩)
set_option maxHeartbeats 4000000 in
set_option maxRecDepth 100000 in
/-- close(p) -/
theorem mX9_close {E : pw_E} (htr : E.1.stackTraces = false) {h : pz_H} {n : Nat} {w H M : Int} {N NH NB NL B : Nat} {s : hS} (hG : geoH w H N NH NB NL) (hA : hAt w H N NH NB NL B s h) (hg : hGd w H M NB s) (hM : 0 ≤ M ∧ M ≤ 900000000) {p : Int} (h_p : -2147483648 ≤ p ∧ p < 2147483648) (hnew : rmOk (hP s) (hLv s) p → lyOk w H (sRm p s)) : pw_M E yX9_close YX9_close (rmD 21 2 12) [.ref B, .int (zI (p))] h n (fun r h' n' => lyHas (hLv s) p = 1 ∧ rmOk (hP s) (hLv s) p ∧ r = some (.int (zI (hFoc (sRemove w H p s)))) ∧ hAt w H N NH NB NL B (sRemove w H p s) h' ∧ hFr B n (hD s) h h' ∧ n' = n) (fun C h' n' => (C = "java/lang/IndexOutOfBoundsException" ∧ lyHas (hLv s) p = 0 ∧ h' = h ∧ n' = n) ∨ (C = "java/lang/IllegalStateException" ∧ (lyHas (hLv s) p = 1 ∧ ¬ rmOk (hP s) (hLv s) p) ∧ hAt w H N NH NB NL B s h' ∧ hFr B n (hD s) h h' ∧ n' = n)) := by
  have hG0 := hG
  have hg0 := hg
  obtain ⟨gG, gNB, gNL⟩ := hG
  have gG0 := gG
  obtain ⟨gw, gH, gN, gN2, gNH⟩ := gG
  obtain ⟨gP, gL, gY, gF, gFl, gPr, gC, gO, gPi, gLi⟩ := hg
  obtain ⟨gO3, gO4, gO5, gO6, gO7, gOc⟩ := gO
  refine pw_M_of (lv := [some (.ref B), some (.int (zI (p)))]) (by decide) rfl rfl htr (nle rfl) rfl (fun L => ?_)
  refine pw_aload_n dX9_close_0 rfl ?_
  refine pw_iload_n dX9_close_1 rfl ?_
  refine pw_callV (As := [.int (zI (p))]) (b := B) (rm := rmD 6 1 6) (mX9_checkPane htr hA (by omega)) rfl hA.1 rfl rfl ywX9_checkPane rfl cwX9_59 ⟨nle rfl, nle rfl⟩ (nle rfl) ⟨nle rfl, nle rfl⟩ dX9_close_2 ?_ (fun _ _ _ z => Or.inl z)
  intro r2 h2 n2 hq _
  obtain ⟨hpx, e1, e2, e3⟩ := hq
  rw [e1, e2, e3]
  show pw E YX9_close _ _ (0 + 1) (0 + 6) 5 [some (.ref B), some (.int (zI (p)))] [] h n
  clear e1 e2 e3
  obtain ⟨hp8, hpl⟩ := lyHas_y hpx
  refine pw_aload_n dX9_close_5 rfl ?_
  refine pw_iload_n dX9_close_6 rfl ?_
  refine pw_callV (As := [.int (zI p)]) (b := B) (rm := rmD 20 0 0) (mX9_remove htr hG0 hA hg0 hM (by omega) hnew) rfl hA.1 rfl rfl ywX9_remove rfl cwX9_103 ⟨nle rfl, nle rfl⟩ (nle rfl) ⟨nle rfl, nle rfl⟩ dX9_close_7 ?_ (fun _ _ _ z => z.elim)
  intro r2 h2 n2 hq _
  rcases hq with ⟨hok, e1, hA1, hF1, e4⟩ | ⟨hok, e1, hA1, hF1, e4⟩
  ·
    rw [e1, e4]
    show pw E YX9_close _ _ (0 + 1) (0 + 6) 10 [some (.ref B), some (.int (zI (p)))] [.int (zI (1))] h2 n
    refine pw_if_ne (tgt := 23) dX9_close_10 rfl (by omega) (fun c10 => ?_) (fun c10 => ?_)
    ·
      refine pw_aload_n dX9_close_23 rfl ?_
      refine pw_get (v := .int (zI (hFoc (sRemove w H p s)))) okX9 (k := 9) (by decide) lkX9_88 hA1.1 rfl dX9_close_24 ?_
      exact pw_iret dX9_close_27 rfl (nle rfl) (nle rfl) ⟨hpx, hok, rfl, hA1, hF1, rfl⟩
    · exfalso; omega
  ·
    rw [e1, e4]
    show pw E YX9_close _ _ (0 + 1) (0 + 6) 10 [some (.ref B), some (.int (zI (p)))] [.int (zI (0))] h2 n
    refine pw_if_ne (tgt := 23) dX9_close_10 rfl (by omega) (fun c10 => ?_) (fun c10 => ?_)
    · exfalso; omega
    ·
      exact pw_throw (text := "it is the only pane") (by decide +kernel) tk_IS.1 tk_IS.2 (by decide +kernel) th_IS ⟨nle rfl, nle rfl⟩ ⟨nle rfl, nle rfl⟩ dX9_close_13 dX9_close_16 dX9_close_17 dX9_close_19 dX9_close_22 (Or.inr ⟨rfl, ⟨hpx, hok⟩, hA1, hF1, rfl⟩)
