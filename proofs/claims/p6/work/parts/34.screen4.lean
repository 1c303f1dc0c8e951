def YX7_showOther : pw_Y := (RX7, "showOther", cX7_showOther, 2, none)
theorem ywX7_showOther : pw_y yX7_showOther YX7_showOther 1 := ⟨by decide +kernel, by decide +kernel, by decide +kernel, pw_in 1006 (by decide +kernel) (by decide +kernel), pw_in 83 (by decide +kernel) (by decide +kernel)⟩
theorem cwX7_36 : Cond.methodLink RX7 36 yX0_keep ∈ pw_G ∧ Cond.instanceMethod yX0_keep ∈ pw_G ∧ Cond.selects RX0 yX0_keep yX0_keep ∈ pw_G := ⟨pw_in 413 (by decide +kernel) (by decide +kernel), pw_in 414 (by decide +kernel) (by decide +kernel), pw_in 415 (by decide +kernel) (by decide +kernel)⟩
def YX7_reset : pw_Y := (RX7, "reset", cX7_reset, 1, none)
theorem ywX7_reset : pw_y yX7_reset YX7_reset 0 := ⟨by decide +kernel, by decide +kernel, by decide +kernel, pw_in 765 (by decide +kernel) (by decide +kernel), pw_in 83 (by decide +kernel) (by decide +kernel)⟩
theorem cwX7_39 : Cond.methodLink RX7 39 yX1_forget ∈ pw_G ∧ Cond.instanceMethod yX1_forget ∈ pw_G ∧ Cond.selects RX1 yX1_forget yX1_forget ∈ pw_G := ⟨pw_in 766 (by decide +kernel) (by decide +kernel), pw_in 767 (by decide +kernel) (by decide +kernel), pw_in 768 (by decide +kernel) (by decide +kernel)⟩
theorem cwX7_55 : Cond.methodLink RX7 55 yX7_savePlace ∈ pw_G ∧ Cond.instanceMethod yX7_savePlace ∈ pw_G ∧ Cond.selects RX7 yX7_savePlace yX7_savePlace ∈ pw_G := ⟨pw_in 770 (by decide +kernel) (by decide +kernel), pw_in 771 (by decide +kernel) (by decide +kernel), pw_in 772 (by decide +kernel) (by decide +kernel)⟩
theorem lkX7_67 : Cond.fieldLink RX7 67 (TX7 14).1 (TX7 14).2.1 (TX7 14).2.2.1 ∈ pw_G := pw_in 221 (by decide +kernel) (by decide +kernel)
theorem lkX7_70 : Cond.fieldLink RX7 70 (TX7 15).1 (TX7 15).2.1 (TX7 15).2.2.1 ∈ pw_G := pw_in 223 (by decide +kernel) (by decide +kernel)
theorem lkX7_73 : Cond.fieldLink RX7 73 (TX7 16).1 (TX7 16).2.1 (TX7 16).2.2.1 ∈ pw_G := pw_in 225 (by decide +kernel) (by decide +kernel)
def YX7_resize : pw_Y := (RX7, "resize", cX7_resize, 3, none)
theorem ywX7_resize : pw_y yX7_resize YX7_resize 2 := ⟨by decide +kernel, by decide +kernel, by decide +kernel, pw_in 412 (by decide +kernel) (by decide +kernel), pw_in 83 (by decide +kernel) (by decide +kernel)⟩
def YX7_write : pw_Y := (RX7, "write", cX7_write, 2, none)
theorem ywX7_write : pw_y yX7_write YX7_write 1 := ⟨by decide +kernel, by decide +kernel, by decide +kernel, pw_in 1099 (by decide +kernel) (by decide +kernel), pw_in 83 (by decide +kernel) (by decide +kernel)⟩
theorem cwX7_103 : Cond.methodLink RX7 103 yX0_set ∈ pw_G ∧ Cond.instanceMethod yX0_set ∈ pw_G ∧ Cond.selects RX0 yX0_set yX0_set ∈ pw_G := ⟨pw_in 1101 (by decide +kernel) (by decide +kernel), pw_in 1102 (by decide +kernel) (by decide +kernel), pw_in 1103 (by decide +kernel) (by decide +kernel)⟩
theorem cwX7_92 : Cond.methodLink RX7 92 yX7_goDown ∈ pw_G ∧ Cond.instanceMethod yX7_goDown ∈ pw_G ∧ Cond.selects RX7 yX7_goDown yX7_goDown ∈ pw_G := ⟨pw_in 1100 (by decide +kernel) (by decide +kernel), pw_in 959 (by decide +kernel) (by decide +kernel), pw_in 960 (by decide +kernel) (by decide +kernel)⟩
def YX7_erase : pw_Y := (RX7, "erase", cX7_erase, 4, none)
theorem ywX7_erase : pw_y yX7_erase YX7_erase 1 := ⟨by decide +kernel, by decide +kernel, by decide +kernel, pw_in 1015 (by decide +kernel) (by decide +kernel), pw_in 83 (by decide +kernel) (by decide +kernel)⟩
theorem cwX7_142 : Cond.methodLink RX7 142 yX7_eraseInRow ∈ pw_G ∧ Cond.instanceMethod yX7_eraseInRow ∈ pw_G ∧ Cond.selects RX7 yX7_eraseInRow yX7_eraseInRow ∈ pw_G := ⟨pw_in 1016 (by decide +kernel) (by decide +kernel), pw_in 1017 (by decide +kernel) (by decide +kernel), pw_in 1018 (by decide +kernel) (by decide +kernel)⟩
set_option maxHeartbeats 4000000 in
set_option maxRecDepth 100000 in
/-- Screen.showOther(on) -/
theorem mX7_showOther {E : pw_E} (htr : E.1.stackTraces = false) {h : pz_H} {n : Nat} {w H : Int} {N NH : Nat} {I : Nat → Nat} {F m o T c l : Nat → Int} (hG : geo w H N NH) (hA : scAt w H N NH I F m o T c l h) (hO : scOk w H F T) {on : Int} (h_on : -2147483648 ≤ on ∧ on < 2147483648) (hon : 0 ≤ on ∧ on ≤ 1) : pw_M E yX7_showOther YX7_showOther (rmD 4 0 0) [.ref (I 0), .int (zI (on))] h n (fun r h' n' => r = none ∧ h' = zP w H N NH I (zShow w H on (F, m, o, T, c, l)) h ∧ n' = n) (fun _ _ _ => False) := by
  have hG0 := hG
  have hO0 := hO
  obtain ⟨gw, gH, gN, gN2, gNH⟩ := hG
  obtain ⟨o3, o4, o5, o6, o7, o8, o9, o10, o11, o12, o14, o15, o16, o17, oT3, oT4⟩ := hO
  refine pw_M_of (lv := [some (.ref (I 0)), some (.int (zI (on)))]) (by decide) rfl rfl htr (nle rfl) rfl (fun L => ?_)
  refine pw_h (scPut_id hA).symm ?_
  refine pw_iload_n dX7_showOther_0 rfl ?_
  refine pw_if_eq (tgt := 20) dX7_showOther_1 rfl (by omega) (fun c1 => ?_) (fun c1 => ?_)
  ·
    refine pw_aload_n dX7_showOther_20 rfl ?_
    refine pw_iload_n dX7_showOther_21 rfl ?_
    refine pw_put (fs' := (scObj I (va_up F 17 (on)))) okX7 (k := 17) (by decide) lkX7_32 rfl (zb_nar (by omega)) (zb_fit (by omega)) (scAt_put hA).1.1 (nlt rfl) rfl dX7_showOther_22 ?_
    refine pw_h (scU0 hA) ?_
    exact pw_vret dX7_showOther_25 rfl (nle rfl) (nle rfl) ⟨rfl, by show _ = zP w H N NH I (_, _, (if on ≠ 0 ∧ F 17 = 0 then gkeep w H 0 0 o else o), T, c, l) h; rw [if_neg (by omega)]; first | done | rfl, rfl⟩
  ·
    refine pw_aload_n dX7_showOther_4 rfl ?_
    refine pw_get (v := .int (zI (F 17))) okX7 (k := 17) (by decide) lkX7_32 (scAt_put hA).1.1 rfl dX7_showOther_5 ?_
    refine pw_if_ne (tgt := 20) dX7_showOther_8 rfl (by omega) (fun c8 => ?_) (fun c8 => ?_)
    ·
      refine pw_aload_n dX7_showOther_20 rfl ?_
      refine pw_iload_n dX7_showOther_21 rfl ?_
      refine pw_put (fs' := (scObj I (va_up F 17 (on)))) okX7 (k := 17) (by decide) lkX7_32 rfl (zb_nar (by omega)) (zb_fit (by omega)) (scAt_put hA).1.1 (nlt rfl) rfl dX7_showOther_22 ?_
      refine pw_h (scU0 hA) ?_
      exact pw_vret dX7_showOther_25 rfl (nle rfl) (nle rfl) ⟨rfl, by show _ = zP w H N NH I (_, _, (if on ≠ 0 ∧ F 17 = 0 then gkeep w H 0 0 o else o), T, c, l) h; rw [if_neg (by omega)]; first | done | rfl, rfl⟩
    ·
      refine pw_aload_n dX7_showOther_11 rfl ?_
      refine pw_get (v := .ref (I 7)) okX7 (k := 1) (by decide) lkX7_20 (scAt_put hA).1.1 rfl dX7_showOther_12 ?_
      refine pw_iconst (v := zI (0)) dX7_showOther_15 (by decide) ?_
      refine pw_iconst (v := zI (0)) dX7_showOther_16 (by decide) ?_
      refine pw_callV (As := [.int (zI (0)), .int (zI (0))]) (b := (I 7)) (rm := rmD 3 0 0) (mX0_keep htr (scAt_put hA).1.2.2.2.2.2.2.2 (scAt_put hA).1.2.2.1 (scNe hA (by decide) (by decide) (by decide)) (by omega) (by omega) gN gN2 (by omega) (by omega)) rfl (scAt_put hA).1.2.2.2.2.2.2.2 rfl rfl ywX0_keep rfl cwX7_36 ⟨nle rfl, nle rfl⟩ (nle rfl) ⟨nle rfl, nle rfl⟩ dX7_showOther_17 ?_ (fun _ _ _ z => z.elim)
      intro r2 h2 n2 hq _
      rw [hq.1, hq.2.1, hq.2.2]
      show pw E YX7_showOther _ _ 0 0 20 [some (.ref (I 0)), some (.int (zI (on)))] [] (va_up (scPut w H N NH I F m o T c l h) (I 2) (pz_z 0 N (gkeep w H (0) (0) o))) n
      refine pw_h (scU2 hA) ?_
      refine pw_aload_n dX7_showOther_20 rfl ?_
      refine pw_iload_n dX7_showOther_21 rfl ?_
      refine pw_put (fs' := (scObj I (va_up F 17 (on)))) okX7 (k := 17) (by decide) lkX7_32 rfl (zb_nar (by omega)) (zb_fit (by omega)) (scAt_put hA).1.1 (nlt rfl) rfl dX7_showOther_22 ?_
      refine pw_h (scU0 hA) ?_
      exact pw_vret dX7_showOther_25 rfl (nle rfl) (nle rfl) ⟨rfl, by show _ = zP w H N NH I (_, _, (if on ≠ 0 ∧ F 17 = 0 then gkeep w H 0 0 o else o), T, c, l) h; rw [if_pos (by omega)]; first | done | rfl, rfl⟩
set_option maxHeartbeats 4000000 in
set_option maxRecDepth 100000 in
/-- Screen.moveTo(a, b) -/
theorem mX7_moveToW {E : pw_E} (htr : E.1.stackTraces = false) {h : pz_H} {n : Nat} {w H : Int} {N NH : Nat} {I : Nat → Nat} {F m o T c l : Nat → Int} (hG : geo w H N NH) (hA : scAt w H N NH I F m o T c l h) {a b : Int} (h_a : -2147483648 ≤ a ∧ a < 2147483648) (h_b : -2147483648 ≤ b ∧ b < 2147483648) (o3 : 0 ≤ F 3 ∧ F 3 ≤ 1000) (o4 : 0 ≤ F 4 ∧ F 4 ≤ 1000) : pw_M E yX7_moveTo YX7_moveTo (rmD 2 0 0) [.ref (I 0), .int (zI (a)), .int (zI (b))] h n (fun r h' n' => r = none ∧ h' = scPut w H N NH I (sMove F a b) m o T c l h ∧ n' = n) (fun _ _ _ => False) := by
  have hG0 := hG
  obtain ⟨gw, gH, gN, gN2, gNH⟩ := hG
  refine pw_M_of (lv := [some (.ref (I 0)), some (.int (zI (a))), some (.int (zI (b)))]) (by decide) rfl rfl htr (nle rfl) rfl (fun L => ?_)
  refine pw_h (scPut_id hA).symm ?_
  refine pw_aload_n dX7_moveTo_0 rfl ?_
  refine pw_iload_n dX7_moveTo_1 rfl ?_
  refine pw_iconst (v := zI (0)) dX7_moveTo_2 (by decide) ?_
  refine pw_aload_n dX7_moveTo_3 rfl ?_
  refine pw_get (v := .int (zI (F 3))) okX7 (k := 3) (by decide) lkX7_76 (scAt_put hA).1.1 rfl dX7_moveTo_4 ?_
  refine pw_iconst (v := zI (1)) dX7_moveTo_7 (by decide) ?_
  refine pw_zisub dX7_moveTo_8 ?_
  refine pw_callSN (As := [.int (zI (a)), .int (zI (0)), .int (zI ((F 3) - (1)))]) (rm := rmD 1 0 0) (mX9_nearest htr (by omega) (by omega) (by omega)) rfl ywX9_nearest rfl cwX7_85 ⟨nle rfl, nle rfl⟩ (nle rfl) ⟨nle rfl, nle rfl⟩ dX7_moveTo_9 ?_
  intro r2 h2 n2 hq _
  rw [hq.1, hq.2.1, hq.2.2]
  show pw E YX7_moveTo _ _ 0 0 12 [some (.ref (I 0)), some (.int (zI (a))), some (.int (zI (b)))] [.int (zI (max (0) (min ((F 3) - (1)) (a)))), .ref (I 0)] (scPut w H N NH I F m o T c l h) n
  refine pw_put (fs' := (scObj I (va_up F 5 (max (0) (min ((F 3) - (1)) (a)))))) okX7 (k := 5) (by decide) lkX7_42 rfl rfl rfl (scAt_put hA).1.1 (nlt rfl) rfl dX7_moveTo_12 ?_
  refine pw_h (scU0 hA) ?_
  refine pw_aload_n dX7_moveTo_15 rfl ?_
  refine pw_iload_n dX7_moveTo_16 rfl ?_
  refine pw_iconst (v := zI (0)) dX7_moveTo_17 (by decide) ?_
  refine pw_aload_n dX7_moveTo_18 rfl ?_
  refine pw_get (v := .int (zI (F 4))) okX7 (k := 4) (by decide) lkX7_61 (scAt_put hA).1.1 rfl dX7_moveTo_19 ?_
  refine pw_iconst (v := zI (1)) dX7_moveTo_22 (by decide) ?_
  refine pw_zisub dX7_moveTo_23 ?_
  refine pw_callSN (As := [.int (zI (b)), .int (zI (0)), .int (zI ((F 4) - (1)))]) (rm := rmD 1 0 0) (mX9_nearest htr (by omega) (by omega) (by omega)) rfl ywX9_nearest rfl cwX7_85 ⟨nle rfl, nle rfl⟩ (nle rfl) ⟨nle rfl, nle rfl⟩ dX7_moveTo_24 ?_
  intro r2 h2 n2 hq _
  rw [hq.1, hq.2.1, hq.2.2]
  show pw E YX7_moveTo _ _ 0 0 27 [some (.ref (I 0)), some (.int (zI (a))), some (.int (zI (b)))] [.int (zI (max (0) (min ((F 4) - (1)) (b)))), .ref (I 0)] (scPut w H N NH I (va_up F 5 (max (0) (min ((F 3) - (1)) (a)))) m o T c l h) n
  refine pw_put (fs' := (scObj I (va_up (va_up F 5 (max (0) (min ((F 3) - (1)) (a)))) 6 (max (0) (min ((F 4) - (1)) (b)))))) okX7 (k := 6) (by decide) lkX7_46 rfl rfl rfl (scAt_put hA).1.1 (nlt rfl) rfl dX7_moveTo_27 ?_
  refine pw_h (scU0 hA) ?_
  refine pw_aload_n dX7_moveTo_30 rfl ?_
  refine pw_iconst (v := zI (0)) dX7_moveTo_31 (by decide) ?_
  refine pw_put (fs' := (scObj I (va_up (va_up (va_up F 5 (max (0) (min ((F 3) - (1)) (a)))) 6 (max (0) (min ((F 4) - (1)) (b)))) 7 (0)))) okX7 (k := 7) (by decide) lkX7_49 rfl (by decide) (by decide) (scAt_put hA).1.1 (nlt rfl) rfl dX7_moveTo_32 ?_
  refine pw_h (scU0 hA) ?_
  exact pw_vret dX7_moveTo_35 rfl (nle rfl) (nle rfl) ⟨rfl, rfl, rfl⟩
set_option maxHeartbeats 4000000 in
set_option maxRecDepth 100000 in
/-- Screen.savePlace() -/
theorem mX7_savePlaceW {E : pw_E} (htr : E.1.stackTraces = false) {h : pz_H} {n : Nat} {w H : Int} {N NH : Nat} {I : Nat → Nat} {F m o T c l : Nat → Int} (hG : geo w H N NH) (hA : scAt w H N NH I F m o T c l h) : pw_M E yX7_savePlace YX7_savePlace (rmD 0 0 0) [.ref (I 0)] h n (fun r h' n' => r = none ∧ h' = scPut w H N NH I (sSave F) m o T c l h ∧ n' = n) (fun _ _ _ => False) := by
  have hG0 := hG
  obtain ⟨gw, gH, gN, gN2, gNH⟩ := hG
  refine pw_M_of (lv := [some (.ref (I 0))]) (by decide) rfl rfl htr (nle rfl) rfl (fun L => ?_)
  refine pw_h (scPut_id hA).symm ?_
  refine pw_aload_n dX7_savePlace_0 rfl ?_
  refine pw_aload_n dX7_savePlace_1 rfl ?_
  refine pw_get (v := .int (zI (F 5))) okX7 (k := 5) (by decide) lkX7_42 (scAt_put hA).1.1 rfl dX7_savePlace_2 ?_
  refine pw_put (fs' := (scObj I (va_up F 9 (F 5)))) okX7 (k := 9) (by decide) lkX7_82 rfl rfl rfl (scAt_put hA).1.1 (nlt rfl) rfl dX7_savePlace_5 ?_
  refine pw_h (scU0 hA) ?_
  refine pw_aload_n dX7_savePlace_8 rfl ?_
  refine pw_aload_n dX7_savePlace_9 rfl ?_
  refine pw_get (v := .int (zI (F 6))) okX7 (k := 6) (by decide) lkX7_46 (scAt_put hA).1.1 rfl dX7_savePlace_10 ?_
  refine pw_put (fs' := (scObj I (va_up (va_up F 9 (F 5)) 10 (F 6)))) okX7 (k := 10) (by decide) lkX7_89 rfl rfl rfl (scAt_put hA).1.1 (nlt rfl) rfl dX7_savePlace_13 ?_
  refine pw_h (scU0 hA) ?_
  refine pw_aload_n dX7_savePlace_16 rfl ?_
  refine pw_aload_n dX7_savePlace_17 rfl ?_
  refine pw_get (v := .int (zI (F 8))) okX7 (k := 8) (by decide) lkX7_52 (scAt_put hA).1.1 rfl dX7_savePlace_18 ?_
  refine pw_put (fs' := (scObj I (va_up (va_up (va_up F 9 (F 5)) 10 (F 6)) 11 (F 8)))) okX7 (k := 11) (by decide) lkX7_113 rfl rfl rfl (scAt_put hA).1.1 (nlt rfl) rfl dX7_savePlace_21 ?_
  refine pw_h (scU0 hA) ?_
  exact pw_vret dX7_savePlace_24 rfl (nle rfl) (nle rfl) ⟨rfl, rfl, rfl⟩
set_option maxHeartbeats 4000000 in
set_option maxRecDepth 100000 in
/-- Screen.reset() -/
theorem mX7_reset {E : pw_E} (htr : E.1.stackTraces = false) {h : pz_H} {n : Nat} {w H : Int} {N NH : Nat} {I : Nat → Nat} {F m o T c l : Nat → Int} (hG : geo w H N NH) (hA : scAt w H N NH I F m o T c l h) (oT : hOk T) (o4 : 0 ≤ F 4 ∧ F 4 ≤ 1000) : pw_M E yX7_reset YX7_reset (rmD 4 0 0) [.ref (I 0)] h n (fun r h' n' => r = none ∧ h' = zP w H N NH I (zReset w H (F, m, o, T, c, l)) h ∧ n' = n) (fun _ _ _ => False) := by
  have hG0 := hG
  obtain ⟨gw, gH, gN, gN2, gNH⟩ := hG
  refine pw_M_of (lv := [some (.ref (I 0))]) (by decide) rfl rfl htr (nle rfl) rfl (fun L => ?_)
  refine pw_h (scPut_id hA).symm ?_
  refine pw_aload_n dX7_reset_0 rfl ?_
  refine pw_get (v := .ref (I 6)) okX7 (k := 0) (by decide) lkX7_14 (scAt_put hA).1.1 rfl dX7_reset_1 ?_
  refine pw_iconst (v := zI (0)) dX7_reset_4 (by decide) ?_
  refine pw_iconst (v := zI (0)) dX7_reset_5 (by decide) ?_
  refine pw_callV (As := [.int (zI (0)), .int (zI (0))]) (b := (I 6)) (rm := rmD 3 0 0) (mX0_keep htr (scAt_put hA).1.2.2.2.2.2.2.1 (scAt_put hA).1.2.1 (scNe hA (by decide) (by decide) (by decide)) (by omega) (by omega) gN gN2 (by omega) (by omega)) rfl (scAt_put hA).1.2.2.2.2.2.2.1 rfl rfl ywX0_keep rfl cwX7_36 ⟨nle rfl, nle rfl⟩ (nle rfl) ⟨nle rfl, nle rfl⟩ dX7_reset_6 ?_ (fun _ _ _ z => z.elim)
  intro r2 h2 n2 hq _
  rw [hq.1, hq.2.1, hq.2.2]
  show pw E YX7_reset _ _ 0 0 9 [some (.ref (I 0))] [] (va_up (scPut w H N NH I F m o T c l h) (I 1) (pz_z 0 N (gkeep w H (0) (0) m))) n
  refine pw_h (scU1 hA) ?_
  refine pw_aload_n dX7_reset_9 rfl ?_
  refine pw_get (v := .ref (I 3)) okX7 (k := 2) (by decide) lkX7_28 (scAt_put hA).1.1 rfl dX7_reset_10 ?_
  refine pw_callV (As := []) (b := (I 3)) (rm := rmD 0 0 0) (mX1_forget htr (scAt_put hA).1.2.2.2.1 (scAt_put hA).1.2.2.2.2.1 (scAt_put hA).1.2.2.2.2.2.1 (scNe hA (by decide) (by decide) (by decide)) (scNe hA (by decide) (by decide) (by decide)) (scNe hA (by decide) (by decide) (by decide)) (by omega) oT.1 oT.2 gNH) rfl (scAt_put hA).1.2.2.2.1 rfl rfl ywX1_forget rfl cwX7_39 ⟨nle rfl, nle rfl⟩ (nle rfl) ⟨nle rfl, nle rfl⟩ dX7_reset_13 ?_ (fun _ _ _ z => z.elim)
  intro r2 h2 n2 hq _
  rw [hq.1, hq.2.1, hq.2.2]
  show pw E YX7_reset _ _ 0 0 16 [some (.ref (I 0))] [] (va_up (scPut w H N NH I F (gkeep w H (0) (0) m) o T c l h) (I 3) (pz_o 4 (hiObj w I (va_up (va_up T 3 0) 4 0)))) n
  refine pw_h (scU3 hA) ?_
  refine pw_aload_n dX7_reset_16 rfl ?_
  refine pw_iconst (v := zI (0)) dX7_reset_17 (by decide) ?_
  refine pw_put (fs' := (scObj I (va_up F 5 (0)))) okX7 (k := 5) (by decide) lkX7_42 rfl rfl rfl (scAt_put hA).1.1 (nlt rfl) rfl dX7_reset_18 ?_
  refine pw_h (scU0 hA) ?_
  refine pw_aload_n dX7_reset_21 rfl ?_
  refine pw_iconst (v := zI (0)) dX7_reset_22 (by decide) ?_
  refine pw_put (fs' := (scObj I (va_up (va_up F 5 (0)) 6 (0)))) okX7 (k := 6) (by decide) lkX7_46 rfl rfl rfl (scAt_put hA).1.1 (nlt rfl) rfl dX7_reset_23 ?_
  refine pw_h (scU0 hA) ?_
  refine pw_aload_n dX7_reset_26 rfl ?_
  refine pw_iconst (v := zI (0)) dX7_reset_27 (by decide) ?_
  refine pw_put (fs' := (scObj I (va_up (va_up (va_up F 5 (0)) 6 (0)) 7 (0)))) okX7 (k := 7) (by decide) lkX7_49 rfl (by decide) (by decide) (scAt_put hA).1.1 (nlt rfl) rfl dX7_reset_28 ?_
  refine pw_h (scU0 hA) ?_
  refine pw_aload_n dX7_reset_31 rfl ?_
  refine pw_iconst (v := zI (0)) dX7_reset_32 (by decide) ?_
  refine pw_put (fs' := (scObj I (va_up (va_up (va_up (va_up F 5 (0)) 6 (0)) 7 (0)) 8 (0)))) okX7 (k := 8) (by decide) lkX7_52 rfl rfl rfl (scAt_put hA).1.1 (nlt rfl) rfl dX7_reset_33 ?_
  refine pw_h (scU0 hA) ?_
  refine pw_aload_n dX7_reset_36 rfl ?_
  refine pw_callV (As := []) (b := (I 0)) (rm := rmD 0 0 0) (mX7_savePlaceW htr hG0 (scAt_put hA)) rfl (scAt_put hA).1.1 rfl rfl ywX7_savePlace rfl cwX7_55 ⟨nle rfl, nle rfl⟩ (nle rfl) ⟨nle rfl, nle rfl⟩ dX7_reset_37 ?_ (fun _ _ _ z => z.elim)
  intro r2 h2 n2 hq _
  rw [hq.1, hq.2.1, hq.2.2]
  show pw E YX7_reset _ _ 0 0 40 [some (.ref (I 0))] [] (scPut w H N NH I (sSave (va_up (va_up (va_up (va_up F 5 (0)) 6 (0)) 7 (0)) 8 (0))) (gkeep w H (0) (0) m) o (va_up (va_up T 3 0) 4 0) c l (scPut w H N NH I (va_up (va_up (va_up (va_up F 5 (0)) 6 (0)) 7 (0)) 8 (0)) (gkeep w H (0) (0) m) o (va_up (va_up T 3 0) 4 0) c l h)) n
  refine pw_h scPut_put ?_
  refine pw_aload_n dX7_reset_40 rfl ?_
  refine pw_iconst (v := zI (0)) dX7_reset_41 (by decide) ?_
  refine pw_put (fs' := (scObj I (va_up (sSave (va_up (va_up (va_up (va_up F 5 (0)) 6 (0)) 7 (0)) 8 (0))) 12 (0)))) okX7 (k := 12) (by decide) lkX7_58 rfl rfl rfl (scAt_put hA).1.1 (nlt rfl) rfl dX7_reset_42 ?_
  refine pw_h (scU0 hA) ?_
  refine pw_aload_n dX7_reset_45 rfl ?_
  refine pw_aload_n dX7_reset_46 rfl ?_
  refine pw_get (v := .int (zI (F 4))) okX7 (k := 4) (by decide) lkX7_61 (scAt_put hA).1.1 rfl dX7_reset_47 ?_
  refine pw_iconst (v := zI (1)) dX7_reset_50 (by decide) ?_
  refine pw_zisub dX7_reset_51 ?_
  refine pw_put (fs' := (scObj I (va_up (va_up (sSave (va_up (va_up (va_up (va_up F 5 (0)) 6 (0)) 7 (0)) 8 (0))) 12 (0)) 13 ((F 4) - (1))))) okX7 (k := 13) (by decide) lkX7_64 rfl rfl rfl (scAt_put hA).1.1 (nlt rfl) rfl dX7_reset_52 ?_
  refine pw_h (scU0 hA) ?_
  refine pw_aload_n dX7_reset_55 rfl ?_
  refine pw_iconst (v := zI (0)) dX7_reset_56 (by decide) ?_
  refine pw_put (fs' := (scObj I (va_up (va_up (va_up (sSave (va_up (va_up (va_up (va_up F 5 (0)) 6 (0)) 7 (0)) 8 (0))) 12 (0)) 13 ((F 4) - (1))) 14 (0)))) okX7 (k := 14) (by decide) lkX7_67 rfl (by decide) (by decide) (scAt_put hA).1.1 (nlt rfl) rfl dX7_reset_57 ?_
  refine pw_h (scU0 hA) ?_
  refine pw_aload_n dX7_reset_60 rfl ?_
  refine pw_iconst (v := zI (1)) dX7_reset_61 (by decide) ?_
  refine pw_put (fs' := (scObj I (va_up (va_up (va_up (va_up (sSave (va_up (va_up (va_up (va_up F 5 (0)) 6 (0)) 7 (0)) 8 (0))) 12 (0)) 13 ((F 4) - (1))) 14 (0)) 15 (1)))) okX7 (k := 15) (by decide) lkX7_70 rfl (by decide) (by decide) (scAt_put hA).1.1 (nlt rfl) rfl dX7_reset_62 ?_
  refine pw_h (scU0 hA) ?_
  refine pw_aload_n dX7_reset_65 rfl ?_
  refine pw_iconst (v := zI (1)) dX7_reset_66 (by decide) ?_
  refine pw_put (fs' := (scObj I (va_up (va_up (va_up (va_up (va_up (sSave (va_up (va_up (va_up (va_up F 5 (0)) 6 (0)) 7 (0)) 8 (0))) 12 (0)) 13 ((F 4) - (1))) 14 (0)) 15 (1)) 16 (1)))) okX7 (k := 16) (by decide) lkX7_73 rfl (by decide) (by decide) (scAt_put hA).1.1 (nlt rfl) rfl dX7_reset_67 ?_
  refine pw_h (scU0 hA) ?_
  refine pw_aload_n dX7_reset_70 rfl ?_
  refine pw_iconst (v := zI (0)) dX7_reset_71 (by decide) ?_
  refine pw_put (fs' := (scObj I (va_up (va_up (va_up (va_up (va_up (va_up (sSave (va_up (va_up (va_up (va_up F 5 (0)) 6 (0)) 7 (0)) 8 (0))) 12 (0)) 13 ((F 4) - (1))) 14 (0)) 15 (1)) 16 (1)) 17 (0)))) okX7 (k := 17) (by decide) lkX7_32 rfl (by decide) (by decide) (scAt_put hA).1.1 (nlt rfl) rfl dX7_reset_72 ?_
  refine pw_h (scU0 hA) ?_
  exact pw_vret dX7_reset_75 rfl (nle rfl) (nle rfl) ⟨rfl, rfl, rfl⟩
set_option maxHeartbeats 4000000 in
set_option maxRecDepth 100000 in
/-- Screen.resize(a, b) -/
theorem mX7_resize {E : pw_E} (htr : E.1.stackTraces = false) {h : pz_H} {n : Nat} {w H : Int} {N NH : Nat} {I : Nat → Nat} {F m o T c l : Nat → Int} (hG : geo w H N NH) (hA : scAt w H N NH I F m o T c l h) {a b : Int} (h_a : -2147483648 ≤ a ∧ a < 2147483648) (h_b : -2147483648 ≤ b ∧ b < 2147483648) (ha : 1 ≤ a ∧ a ≤ w) (hb : 1 ≤ b ∧ b ≤ H) (o3 : 0 ≤ F 3 ∧ F 3 ≤ 1000) (o4 : 0 ≤ F 4 ∧ F 4 ≤ 1000) (o5 : 0 ≤ F 5 ∧ F 5 ≤ 1000) (o6 : 0 ≤ F 6 ∧ F 6 ≤ 1000) (o9 : 0 ≤ F 9 ∧ F 9 ≤ 1000) (o10 : 0 ≤ F 10 ∧ F 10 ≤ 1000) : pw_M E yX7_resize YX7_resize (rmD 4 0 0) [.ref (I 0), .int (zI (a)), .int (zI (b))] h n (fun r h' n' => r = none ∧ h' = zP w H N NH I (zResize w H a b (F, m, o, T, c, l)) h ∧ n' = n) (fun _ _ _ => False) := by
  have hG0 := hG
  obtain ⟨gw, gH, gN, gN2, gNH⟩ := hG
  refine pw_M_of (lv := [some (.ref (I 0)), some (.int (zI (a))), some (.int (zI (b)))]) (by decide) rfl rfl htr (nle rfl) rfl (fun L => ?_)
  refine pw_h (scPut_id hA).symm ?_
  refine pw_iload_n dX7_resize_0 rfl ?_
  refine pw_aload_n dX7_resize_1 rfl ?_
  refine pw_get (v := .int (zI (F 3))) okX7 (k := 3) (by decide) lkX7_76 (scAt_put hA).1.1 rfl dX7_resize_2 ?_
  refine pw_icmp_ne (tgt := 17) dX7_resize_5 rfl (by omega) (by omega) (fun c5 => ?_) (fun c5 => ?_)
  ·
    refine pw_aload_n dX7_resize_17 rfl ?_
    refine pw_iload_n dX7_resize_18 rfl ?_
    refine pw_put (fs' := (scObj I (va_up F 3 (a)))) okX7 (k := 3) (by decide) lkX7_76 rfl rfl rfl (scAt_put hA).1.1 (nlt rfl) rfl dX7_resize_19 ?_
    refine pw_h (scU0 hA) ?_
    refine pw_aload_n dX7_resize_22 rfl ?_
    refine pw_iload_n dX7_resize_23 rfl ?_
    refine pw_put (fs' := (scObj I (va_up (va_up F 3 (a)) 4 (b)))) okX7 (k := 4) (by decide) lkX7_61 rfl rfl rfl (scAt_put hA).1.1 (nlt rfl) rfl dX7_resize_24 ?_
    refine pw_h (scU0 hA) ?_
    refine pw_aload_n dX7_resize_27 rfl ?_
    refine pw_get (v := .ref (I 6)) okX7 (k := 0) (by decide) lkX7_14 (scAt_put hA).1.1 rfl dX7_resize_28 ?_
    refine pw_aload_n dX7_resize_31 rfl ?_
    refine pw_get (v := .int (zI (a))) okX7 (k := 3) (by decide) lkX7_76 (scAt_put hA).1.1 rfl dX7_resize_32 ?_
    refine pw_aload_n dX7_resize_35 rfl ?_
    refine pw_get (v := .int (zI (b))) okX7 (k := 4) (by decide) lkX7_61 (scAt_put hA).1.1 rfl dX7_resize_36 ?_
    refine pw_callV (As := [.int (zI (a)), .int (zI (b))]) (b := (I 6)) (rm := rmD 3 0 0) (mX0_keep htr (scAt_put hA).1.2.2.2.2.2.2.1 (scAt_put hA).1.2.1 (scNe hA (by decide) (by decide) (by decide)) (by omega) (by omega) gN gN2 (by omega) (by omega)) rfl (scAt_put hA).1.2.2.2.2.2.2.1 rfl rfl ywX0_keep rfl cwX7_36 ⟨nle rfl, nle rfl⟩ (nle rfl) ⟨nle rfl, nle rfl⟩ dX7_resize_39 ?_ (fun _ _ _ z => z.elim)
    intro r2 h2 n2 hq _
    rw [hq.1, hq.2.1, hq.2.2]
    show pw E YX7_resize _ _ 0 0 42 [some (.ref (I 0)), some (.int (zI (a))), some (.int (zI (b)))] [] (va_up (scPut w H N NH I (va_up (va_up F 3 (a)) 4 (b)) m o T c l h) (I 1) (pz_z 0 N (gkeep w H (a) (b) m))) n
    refine pw_h (scU1 hA) ?_
    refine pw_aload_n dX7_resize_42 rfl ?_
    refine pw_get (v := .ref (I 7)) okX7 (k := 1) (by decide) lkX7_20 (scAt_put hA).1.1 rfl dX7_resize_43 ?_
    refine pw_aload_n dX7_resize_46 rfl ?_
    refine pw_get (v := .int (zI (a))) okX7 (k := 3) (by decide) lkX7_76 (scAt_put hA).1.1 rfl dX7_resize_47 ?_
    refine pw_aload_n dX7_resize_50 rfl ?_
    refine pw_get (v := .int (zI (b))) okX7 (k := 4) (by decide) lkX7_61 (scAt_put hA).1.1 rfl dX7_resize_51 ?_
    refine pw_callV (As := [.int (zI (a)), .int (zI (b))]) (b := (I 7)) (rm := rmD 3 0 0) (mX0_keep htr (scAt_put hA).1.2.2.2.2.2.2.2 (scAt_put hA).1.2.2.1 (scNe hA (by decide) (by decide) (by decide)) (by omega) (by omega) gN gN2 (by omega) (by omega)) rfl (scAt_put hA).1.2.2.2.2.2.2.2 rfl rfl ywX0_keep rfl cwX7_36 ⟨nle rfl, nle rfl⟩ (nle rfl) ⟨nle rfl, nle rfl⟩ dX7_resize_54 ?_ (fun _ _ _ z => z.elim)
    intro r2 h2 n2 hq _
    rw [hq.1, hq.2.1, hq.2.2]
    show pw E YX7_resize _ _ 0 0 57 [some (.ref (I 0)), some (.int (zI (a))), some (.int (zI (b)))] [] (va_up (scPut w H N NH I (va_up (va_up F 3 (a)) 4 (b)) (gkeep w H (a) (b) m) o T c l h) (I 2) (pz_z 0 N (gkeep w H (a) (b) o))) n
    refine pw_h (scU2 hA) ?_
    refine pw_aload_n dX7_resize_57 rfl ?_
    refine pw_aload_n dX7_resize_58 rfl ?_
    refine pw_get (v := .int (zI (F 5))) okX7 (k := 5) (by decide) lkX7_42 (scAt_put hA).1.1 rfl dX7_resize_59 ?_
    refine pw_aload_n dX7_resize_62 rfl ?_
    refine pw_get (v := .int (zI (F 6))) okX7 (k := 6) (by decide) lkX7_46 (scAt_put hA).1.1 rfl dX7_resize_63 ?_
    refine pw_callV (As := [.int (zI (F 5)), .int (zI (F 6))]) (b := (I 0)) (rm := rmD 2 0 0) (mX7_moveToW htr hG0 (scAt_put hA) (by omega) (by omega) (show 0 ≤ a ∧ a ≤ 1000 by omega) (show 0 ≤ b ∧ b ≤ 1000 by omega)) rfl (scAt_put hA).1.1 rfl rfl ywX7_moveTo rfl cwX7_79 ⟨nle rfl, nle rfl⟩ (nle rfl) ⟨nle rfl, nle rfl⟩ dX7_resize_66 ?_ (fun _ _ _ z => z.elim)
    intro r2 h2 n2 hq _
    rw [hq.1, hq.2.1, hq.2.2]
    show pw E YX7_resize _ _ 0 0 69 [some (.ref (I 0)), some (.int (zI (a))), some (.int (zI (b)))] [] (scPut w H N NH I (sMove (va_up (va_up F 3 (a)) 4 (b)) (F 5) (F 6)) (gkeep w H (a) (b) m) (gkeep w H (a) (b) o) T c l (scPut w H N NH I (va_up (va_up F 3 (a)) 4 (b)) (gkeep w H (a) (b) m) (gkeep w H (a) (b) o) T c l h)) n
    refine pw_h scPut_put ?_
    refine pw_aload_n dX7_resize_69 rfl ?_
    refine pw_aload_n dX7_resize_70 rfl ?_
    refine pw_get (v := .int (zI (F 9))) okX7 (k := 9) (by decide) lkX7_82 (scAt_put hA).1.1 rfl dX7_resize_71 ?_
    refine pw_iconst (v := zI (0)) dX7_resize_74 (by decide) ?_
    refine pw_aload_n dX7_resize_75 rfl ?_
    refine pw_get (v := .int (zI (a))) okX7 (k := 3) (by decide) lkX7_76 (scAt_put hA).1.1 rfl dX7_resize_76 ?_
    refine pw_iconst (v := zI (1)) dX7_resize_79 (by decide) ?_
    refine pw_zisub dX7_resize_80 ?_
    refine pw_callSN (As := [.int (zI (F 9)), .int (zI (0)), .int (zI (a - 1))]) (rm := rmD 1 0 0) (mX9_nearest htr (by omega) (by omega) (by omega)) rfl ywX9_nearest rfl cwX7_85 ⟨nle rfl, nle rfl⟩ (nle rfl) ⟨nle rfl, nle rfl⟩ dX7_resize_81 ?_
    intro r2 h2 n2 hq _
    rw [hq.1, hq.2.1, hq.2.2]
    show pw E YX7_resize _ _ 0 0 84 [some (.ref (I 0)), some (.int (zI (a))), some (.int (zI (b)))] [.int (zI (max (0) (min (a - 1) (F 9)))), .ref (I 0)] (scPut w H N NH I (sMove (va_up (va_up F 3 (a)) 4 (b)) (F 5) (F 6)) (gkeep w H (a) (b) m) (gkeep w H (a) (b) o) T c l h) n
    refine pw_put (fs' := (scObj I (va_up (sMove (va_up (va_up F 3 (a)) 4 (b)) (F 5) (F 6)) 9 (max (0) (min (a - 1) (F 9)))))) okX7 (k := 9) (by decide) lkX7_82 rfl rfl rfl (scAt_put hA).1.1 (nlt rfl) rfl dX7_resize_84 ?_
    refine pw_h (scU0 hA) ?_
    refine pw_aload_n dX7_resize_87 rfl ?_
    refine pw_aload_n dX7_resize_88 rfl ?_
    refine pw_get (v := .int (zI (F 10))) okX7 (k := 10) (by decide) lkX7_89 (scAt_put hA).1.1 rfl dX7_resize_89 ?_
    refine pw_iconst (v := zI (0)) dX7_resize_92 (by decide) ?_
    refine pw_aload_n dX7_resize_93 rfl ?_
    refine pw_get (v := .int (zI (b))) okX7 (k := 4) (by decide) lkX7_61 (scAt_put hA).1.1 rfl dX7_resize_94 ?_
    refine pw_iconst (v := zI (1)) dX7_resize_97 (by decide) ?_
    refine pw_zisub dX7_resize_98 ?_
    refine pw_callSN (As := [.int (zI (F 10)), .int (zI (0)), .int (zI (b - 1))]) (rm := rmD 1 0 0) (mX9_nearest htr (by omega) (by omega) (by omega)) rfl ywX9_nearest rfl cwX7_85 ⟨nle rfl, nle rfl⟩ (nle rfl) ⟨nle rfl, nle rfl⟩ dX7_resize_99 ?_
    intro r2 h2 n2 hq _
    rw [hq.1, hq.2.1, hq.2.2]
    show pw E YX7_resize _ _ 0 0 102 [some (.ref (I 0)), some (.int (zI (a))), some (.int (zI (b)))] [.int (zI (max (0) (min (b - 1) (F 10)))), .ref (I 0)] (scPut w H N NH I (va_up (sMove (va_up (va_up F 3 (a)) 4 (b)) (F 5) (F 6)) 9 (max (0) (min (a - 1) (F 9)))) (gkeep w H (a) (b) m) (gkeep w H (a) (b) o) T c l h) n
    refine pw_put (fs' := (scObj I (va_up (va_up (sMove (va_up (va_up F 3 (a)) 4 (b)) (F 5) (F 6)) 9 (max (0) (min (a - 1) (F 9)))) 10 (max (0) (min (b - 1) (F 10)))))) okX7 (k := 10) (by decide) lkX7_89 rfl rfl rfl (scAt_put hA).1.1 (nlt rfl) rfl dX7_resize_102 ?_
    refine pw_h (scU0 hA) ?_
    refine pw_aload_n dX7_resize_105 rfl ?_
    refine pw_iconst (v := zI (0)) dX7_resize_106 (by decide) ?_
    refine pw_put (fs' := (scObj I (va_up (va_up (va_up (sMove (va_up (va_up F 3 (a)) 4 (b)) (F 5) (F 6)) 9 (max (0) (min (a - 1) (F 9)))) 10 (max (0) (min (b - 1) (F 10)))) 12 (0)))) okX7 (k := 12) (by decide) lkX7_58 rfl rfl rfl (scAt_put hA).1.1 (nlt rfl) rfl dX7_resize_107 ?_
    refine pw_h (scU0 hA) ?_
    refine pw_aload_n dX7_resize_110 rfl ?_
    refine pw_aload_n dX7_resize_111 rfl ?_
    refine pw_get (v := .int (zI (b))) okX7 (k := 4) (by decide) lkX7_61 (scAt_put hA).1.1 rfl dX7_resize_112 ?_
    refine pw_iconst (v := zI (1)) dX7_resize_115 (by decide) ?_
    refine pw_zisub dX7_resize_116 ?_
    refine pw_put (fs' := (scObj I (va_up (va_up (va_up (va_up (sMove (va_up (va_up F 3 (a)) 4 (b)) (F 5) (F 6)) 9 (max (0) (min (a - 1) (F 9)))) 10 (max (0) (min (b - 1) (F 10)))) 12 (0)) 13 (b - 1)))) okX7 (k := 13) (by decide) lkX7_64 rfl rfl rfl (scAt_put hA).1.1 (nlt rfl) rfl dX7_resize_117 ?_
    refine pw_h (scU0 hA) ?_
    exact pw_vret dX7_resize_120 rfl (nle rfl) (nle rfl) ⟨rfl, by rw [show zResize w H a b (F, m, o, T, c, l) = (zResizeF F a b, gkeep w H a b m, gkeep w H a b o, T, c, l) from if_neg (show ¬ (a = F 3 ∧ b = F 4) by omega)]; first | done | rfl, rfl⟩
  ·
    refine pw_iload_n dX7_resize_8 rfl ?_
    refine pw_aload_n dX7_resize_9 rfl ?_
    refine pw_get (v := .int (zI (F 4))) okX7 (k := 4) (by decide) lkX7_61 (scAt_put hA).1.1 rfl dX7_resize_10 ?_
    refine pw_icmp_ne (tgt := 17) dX7_resize_13 rfl (by omega) (by omega) (fun c13 => ?_) (fun c13 => ?_)
    ·
      refine pw_aload_n dX7_resize_17 rfl ?_
      refine pw_iload_n dX7_resize_18 rfl ?_
      refine pw_put (fs' := (scObj I (va_up F 3 (a)))) okX7 (k := 3) (by decide) lkX7_76 rfl rfl rfl (scAt_put hA).1.1 (nlt rfl) rfl dX7_resize_19 ?_
      refine pw_h (scU0 hA) ?_
      refine pw_aload_n dX7_resize_22 rfl ?_
      refine pw_iload_n dX7_resize_23 rfl ?_
      refine pw_put (fs' := (scObj I (va_up (va_up F 3 (a)) 4 (b)))) okX7 (k := 4) (by decide) lkX7_61 rfl rfl rfl (scAt_put hA).1.1 (nlt rfl) rfl dX7_resize_24 ?_
      refine pw_h (scU0 hA) ?_
      refine pw_aload_n dX7_resize_27 rfl ?_
      refine pw_get (v := .ref (I 6)) okX7 (k := 0) (by decide) lkX7_14 (scAt_put hA).1.1 rfl dX7_resize_28 ?_
      refine pw_aload_n dX7_resize_31 rfl ?_
      refine pw_get (v := .int (zI (a))) okX7 (k := 3) (by decide) lkX7_76 (scAt_put hA).1.1 rfl dX7_resize_32 ?_
      refine pw_aload_n dX7_resize_35 rfl ?_
      refine pw_get (v := .int (zI (b))) okX7 (k := 4) (by decide) lkX7_61 (scAt_put hA).1.1 rfl dX7_resize_36 ?_
      refine pw_callV (As := [.int (zI (a)), .int (zI (b))]) (b := (I 6)) (rm := rmD 3 0 0) (mX0_keep htr (scAt_put hA).1.2.2.2.2.2.2.1 (scAt_put hA).1.2.1 (scNe hA (by decide) (by decide) (by decide)) (by omega) (by omega) gN gN2 (by omega) (by omega)) rfl (scAt_put hA).1.2.2.2.2.2.2.1 rfl rfl ywX0_keep rfl cwX7_36 ⟨nle rfl, nle rfl⟩ (nle rfl) ⟨nle rfl, nle rfl⟩ dX7_resize_39 ?_ (fun _ _ _ z => z.elim)
      intro r2 h2 n2 hq _
      rw [hq.1, hq.2.1, hq.2.2]
      show pw E YX7_resize _ _ 0 0 42 [some (.ref (I 0)), some (.int (zI (a))), some (.int (zI (b)))] [] (va_up (scPut w H N NH I (va_up (va_up F 3 (a)) 4 (b)) m o T c l h) (I 1) (pz_z 0 N (gkeep w H (a) (b) m))) n
      refine pw_h (scU1 hA) ?_
      refine pw_aload_n dX7_resize_42 rfl ?_
      refine pw_get (v := .ref (I 7)) okX7 (k := 1) (by decide) lkX7_20 (scAt_put hA).1.1 rfl dX7_resize_43 ?_
      refine pw_aload_n dX7_resize_46 rfl ?_
      refine pw_get (v := .int (zI (a))) okX7 (k := 3) (by decide) lkX7_76 (scAt_put hA).1.1 rfl dX7_resize_47 ?_
      refine pw_aload_n dX7_resize_50 rfl ?_
      refine pw_get (v := .int (zI (b))) okX7 (k := 4) (by decide) lkX7_61 (scAt_put hA).1.1 rfl dX7_resize_51 ?_
      refine pw_callV (As := [.int (zI (a)), .int (zI (b))]) (b := (I 7)) (rm := rmD 3 0 0) (mX0_keep htr (scAt_put hA).1.2.2.2.2.2.2.2 (scAt_put hA).1.2.2.1 (scNe hA (by decide) (by decide) (by decide)) (by omega) (by omega) gN gN2 (by omega) (by omega)) rfl (scAt_put hA).1.2.2.2.2.2.2.2 rfl rfl ywX0_keep rfl cwX7_36 ⟨nle rfl, nle rfl⟩ (nle rfl) ⟨nle rfl, nle rfl⟩ dX7_resize_54 ?_ (fun _ _ _ z => z.elim)
      intro r2 h2 n2 hq _
      rw [hq.1, hq.2.1, hq.2.2]
      show pw E YX7_resize _ _ 0 0 57 [some (.ref (I 0)), some (.int (zI (a))), some (.int (zI (b)))] [] (va_up (scPut w H N NH I (va_up (va_up F 3 (a)) 4 (b)) (gkeep w H (a) (b) m) o T c l h) (I 2) (pz_z 0 N (gkeep w H (a) (b) o))) n
      refine pw_h (scU2 hA) ?_
      refine pw_aload_n dX7_resize_57 rfl ?_
      refine pw_aload_n dX7_resize_58 rfl ?_
      refine pw_get (v := .int (zI (F 5))) okX7 (k := 5) (by decide) lkX7_42 (scAt_put hA).1.1 rfl dX7_resize_59 ?_
      refine pw_aload_n dX7_resize_62 rfl ?_
      refine pw_get (v := .int (zI (F 6))) okX7 (k := 6) (by decide) lkX7_46 (scAt_put hA).1.1 rfl dX7_resize_63 ?_
      refine pw_callV (As := [.int (zI (F 5)), .int (zI (F 6))]) (b := (I 0)) (rm := rmD 2 0 0) (mX7_moveToW htr hG0 (scAt_put hA) (by omega) (by omega) (show 0 ≤ a ∧ a ≤ 1000 by omega) (show 0 ≤ b ∧ b ≤ 1000 by omega)) rfl (scAt_put hA).1.1 rfl rfl ywX7_moveTo rfl cwX7_79 ⟨nle rfl, nle rfl⟩ (nle rfl) ⟨nle rfl, nle rfl⟩ dX7_resize_66 ?_ (fun _ _ _ z => z.elim)
      intro r2 h2 n2 hq _
      rw [hq.1, hq.2.1, hq.2.2]
      show pw E YX7_resize _ _ 0 0 69 [some (.ref (I 0)), some (.int (zI (a))), some (.int (zI (b)))] [] (scPut w H N NH I (sMove (va_up (va_up F 3 (a)) 4 (b)) (F 5) (F 6)) (gkeep w H (a) (b) m) (gkeep w H (a) (b) o) T c l (scPut w H N NH I (va_up (va_up F 3 (a)) 4 (b)) (gkeep w H (a) (b) m) (gkeep w H (a) (b) o) T c l h)) n
      refine pw_h scPut_put ?_
      refine pw_aload_n dX7_resize_69 rfl ?_
      refine pw_aload_n dX7_resize_70 rfl ?_
      refine pw_get (v := .int (zI (F 9))) okX7 (k := 9) (by decide) lkX7_82 (scAt_put hA).1.1 rfl dX7_resize_71 ?_
      refine pw_iconst (v := zI (0)) dX7_resize_74 (by decide) ?_
      refine pw_aload_n dX7_resize_75 rfl ?_
      refine pw_get (v := .int (zI (a))) okX7 (k := 3) (by decide) lkX7_76 (scAt_put hA).1.1 rfl dX7_resize_76 ?_
      refine pw_iconst (v := zI (1)) dX7_resize_79 (by decide) ?_
      refine pw_zisub dX7_resize_80 ?_
      refine pw_callSN (As := [.int (zI (F 9)), .int (zI (0)), .int (zI (a - 1))]) (rm := rmD 1 0 0) (mX9_nearest htr (by omega) (by omega) (by omega)) rfl ywX9_nearest rfl cwX7_85 ⟨nle rfl, nle rfl⟩ (nle rfl) ⟨nle rfl, nle rfl⟩ dX7_resize_81 ?_
      intro r2 h2 n2 hq _
      rw [hq.1, hq.2.1, hq.2.2]
      show pw E YX7_resize _ _ 0 0 84 [some (.ref (I 0)), some (.int (zI (a))), some (.int (zI (b)))] [.int (zI (max (0) (min (a - 1) (F 9)))), .ref (I 0)] (scPut w H N NH I (sMove (va_up (va_up F 3 (a)) 4 (b)) (F 5) (F 6)) (gkeep w H (a) (b) m) (gkeep w H (a) (b) o) T c l h) n
      refine pw_put (fs' := (scObj I (va_up (sMove (va_up (va_up F 3 (a)) 4 (b)) (F 5) (F 6)) 9 (max (0) (min (a - 1) (F 9)))))) okX7 (k := 9) (by decide) lkX7_82 rfl rfl rfl (scAt_put hA).1.1 (nlt rfl) rfl dX7_resize_84 ?_
      refine pw_h (scU0 hA) ?_
      refine pw_aload_n dX7_resize_87 rfl ?_
      refine pw_aload_n dX7_resize_88 rfl ?_
      refine pw_get (v := .int (zI (F 10))) okX7 (k := 10) (by decide) lkX7_89 (scAt_put hA).1.1 rfl dX7_resize_89 ?_
      refine pw_iconst (v := zI (0)) dX7_resize_92 (by decide) ?_
      refine pw_aload_n dX7_resize_93 rfl ?_
      refine pw_get (v := .int (zI (b))) okX7 (k := 4) (by decide) lkX7_61 (scAt_put hA).1.1 rfl dX7_resize_94 ?_
      refine pw_iconst (v := zI (1)) dX7_resize_97 (by decide) ?_
      refine pw_zisub dX7_resize_98 ?_
      refine pw_callSN (As := [.int (zI (F 10)), .int (zI (0)), .int (zI (b - 1))]) (rm := rmD 1 0 0) (mX9_nearest htr (by omega) (by omega) (by omega)) rfl ywX9_nearest rfl cwX7_85 ⟨nle rfl, nle rfl⟩ (nle rfl) ⟨nle rfl, nle rfl⟩ dX7_resize_99 ?_
      intro r2 h2 n2 hq _
      rw [hq.1, hq.2.1, hq.2.2]
      show pw E YX7_resize _ _ 0 0 102 [some (.ref (I 0)), some (.int (zI (a))), some (.int (zI (b)))] [.int (zI (max (0) (min (b - 1) (F 10)))), .ref (I 0)] (scPut w H N NH I (va_up (sMove (va_up (va_up F 3 (a)) 4 (b)) (F 5) (F 6)) 9 (max (0) (min (a - 1) (F 9)))) (gkeep w H (a) (b) m) (gkeep w H (a) (b) o) T c l h) n
      refine pw_put (fs' := (scObj I (va_up (va_up (sMove (va_up (va_up F 3 (a)) 4 (b)) (F 5) (F 6)) 9 (max (0) (min (a - 1) (F 9)))) 10 (max (0) (min (b - 1) (F 10)))))) okX7 (k := 10) (by decide) lkX7_89 rfl rfl rfl (scAt_put hA).1.1 (nlt rfl) rfl dX7_resize_102 ?_
      refine pw_h (scU0 hA) ?_
      refine pw_aload_n dX7_resize_105 rfl ?_
      refine pw_iconst (v := zI (0)) dX7_resize_106 (by decide) ?_
      refine pw_put (fs' := (scObj I (va_up (va_up (va_up (sMove (va_up (va_up F 3 (a)) 4 (b)) (F 5) (F 6)) 9 (max (0) (min (a - 1) (F 9)))) 10 (max (0) (min (b - 1) (F 10)))) 12 (0)))) okX7 (k := 12) (by decide) lkX7_58 rfl rfl rfl (scAt_put hA).1.1 (nlt rfl) rfl dX7_resize_107 ?_
      refine pw_h (scU0 hA) ?_
      refine pw_aload_n dX7_resize_110 rfl ?_
      refine pw_aload_n dX7_resize_111 rfl ?_
      refine pw_get (v := .int (zI (b))) okX7 (k := 4) (by decide) lkX7_61 (scAt_put hA).1.1 rfl dX7_resize_112 ?_
      refine pw_iconst (v := zI (1)) dX7_resize_115 (by decide) ?_
      refine pw_zisub dX7_resize_116 ?_
      refine pw_put (fs' := (scObj I (va_up (va_up (va_up (va_up (sMove (va_up (va_up F 3 (a)) 4 (b)) (F 5) (F 6)) 9 (max (0) (min (a - 1) (F 9)))) 10 (max (0) (min (b - 1) (F 10)))) 12 (0)) 13 (b - 1)))) okX7 (k := 13) (by decide) lkX7_64 rfl rfl rfl (scAt_put hA).1.1 (nlt rfl) rfl dX7_resize_117 ?_
      refine pw_h (scU0 hA) ?_
      exact pw_vret dX7_resize_120 rfl (nle rfl) (nle rfl) ⟨rfl, by rw [show zResize w H a b (F, m, o, T, c, l) = (zResizeF F a b, gkeep w H a b m, gkeep w H a b o, T, c, l) from if_neg (show ¬ (a = F 3 ∧ b = F 4) by omega)]; first | done | rfl, rfl⟩
    ·
      exact pw_vret dX7_resize_16 rfl (nle rfl) (nle rfl) ⟨rfl, by rw [show zResize w H a b (F, m, o, T, c, l) = (F, m, o, T, c, l) from if_pos (show a = F 3 ∧ b = F 4 by omega)]; first | done | rfl, rfl⟩
set_option maxHeartbeats 4000000 in
set_option maxRecDepth 100000 in
theorem lX7_write {E : pw_E} (htr : E.1.stackTraces = false) {h : pz_H} {n : Nat} {w H : Int} {N NH : Nat} {I : Nat → Nat} {F m o T c l : Nat → Int} (hG : geo w H N NH) (hA : scAt w H N NH I F m o T c l h) (hO : scOk w H F T) {ch : Int} (hch : 0 ≤ ch ∧ ch ≤ 127) {K : pw_K} (hQ : K.2.2.1 none (zP w H N NH I (zPut w H ch (F, m, o, T, c, l)) h) n) : pw E YX7_write (rmD 7 0 0) K 0 0 16 [some (.ref (I 0)), some (.int (zI ch))] [] h n := by
  have hG0 := hG
  have hO0 := hO
  obtain ⟨gw, gH, gN, gN2, gNH⟩ := hG
  obtain ⟨o3, o4, o5, o6, o7, o8, o9, o10, o11, o12, o14, o15, o16, o17, oT3, oT4⟩ := hO
  refine pw_h (scPut_idS hA).symm ?_
  refine pw_aload_n dX7_write_16 rfl ?_
  refine pw_get (v := .int (zI (F 14))) okX7 (k := 14) (by decide) lkX7_67 (scAt_put hA).1.1 rfl dX7_write_17 ?_
  refine pw_if_eq (tgt := 55) dX7_write_20 rfl (by omega) (fun c20 => ?_) (fun c20 => ?_)
  ·
    refine pw_aload_n dX7_write_55 rfl ?_
    refine pw_callV (As := []) (b := (I 0)) (rm := rmD 0 0 0) (mX7_shown htr hG0 (scAt_put hA) (hO0)) rfl (scAt_put hA).1.1 rfl rfl ywX7_shown rfl cwX7_95 ⟨nle rfl, nle rfl⟩ (nle rfl) ⟨nle rfl, nle rfl⟩ dX7_write_56 ?_ (fun _ _ _ z => z.elim)
    intro r2 h2 n2 hq _
    rw [hq.1, hq.2.1, hq.2.2]
    show pw E YX7_write _ _ 0 0 59 [some (.ref (I 0)), some (.int (zI (ch)))] [.ref (I (sq F + 5))] (scPut w H N NH I F (shM F m (shG F m o)) (shO F o (shG F m o)) T c l h) n
    refine pw_aload_n dX7_write_59 rfl ?_
    refine pw_get (v := .int (zI (F 5))) okX7 (k := 5) (by decide) lkX7_42 (scAt_put hA).1.1 rfl dX7_write_60 ?_
    refine pw_aload_n dX7_write_63 rfl ?_
    refine pw_get (v := .int (zI (F 6))) okX7 (k := 6) (by decide) lkX7_46 (scAt_put hA).1.1 rfl dX7_write_64 ?_
    refine pw_aload_n dX7_write_67 rfl ?_
    refine pw_get (v := .int (zI (F 8))) okX7 (k := 8) (by decide) lkX7_52 (scAt_put hA).1.1 rfl dX7_write_68 ?_
    refine pw_sipush (v := zI (128)) dX7_write_71 (by decide) ?_
    refine pw_zimul dX7_write_74 ?_
    refine pw_iload_n dX7_write_75 rfl ?_
    refine pw_ziadd dX7_write_76 ?_
    refine pw_callV (As := [.int (zI (F 5)), .int (zI (F 6)), .int (zI (((F 8) * (128)) + (ch)))]) (b := (I (sq F + 5))) (rm := rmD 0 0 0) (mX0_set htr (scSg (scAt_put hA)) (scSx hA) (scSne hA) (by omega) (by omega) gN gN2 (by omega) (by omega) (by omega)) rfl (scSg (scAt_put hA)) rfl rfl ywX0_set rfl cwX7_103 ⟨nle rfl, nle rfl⟩ (nle rfl) ⟨nle rfl, nle rfl⟩ dX7_write_77 ?_ (fun _ _ _ z => z.elim)
    intro r2 h2 n2 hq _
    rw [hq.1, hq.2.1, hq.2.2]
    show pw E YX7_write _ _ 0 0 80 [some (.ref (I 0)), some (.int (zI (ch)))] [] (va_up (scPut w H N NH I F (shM F m (shG F m o)) (shO F o (shG F m o)) T c l h) (I (sq F)) (pz_z 0 N (gset w H (F 5) (F 6) (((F 8) * (128)) + (ch)) (shG F m o)))) n
    refine pw_h (scUS hA) ?_
    refine pw_aload_n dX7_write_80 rfl ?_
    refine pw_get (v := .int (zI (F 5))) okX7 (k := 5) (by decide) lkX7_42 (scAt_put hA).1.1 rfl dX7_write_81 ?_
    refine pw_aload_n dX7_write_84 rfl ?_
    refine pw_get (v := .int (zI (F 3))) okX7 (k := 3) (by decide) lkX7_76 (scAt_put hA).1.1 rfl dX7_write_85 ?_
    refine pw_iconst (v := zI (1)) dX7_write_88 (by decide) ?_
    refine pw_zisub dX7_write_89 ?_
    refine pw_icmp_ge (tgt := 106) dX7_write_90 rfl (by omega) (by omega) (fun c90 => ?_) (fun c90 => ?_)
    ·
      refine pw_aload_n dX7_write_106 rfl ?_
      refine pw_aload_n dX7_write_107 rfl ?_
      refine pw_get (v := .int (zI (F 15))) okX7 (k := 15) (by decide) lkX7_70 (scAt_put hA).1.1 rfl dX7_write_108 ?_
      refine pw_put (fs' := (scObj I (va_up F 7 (F 15)))) okX7 (k := 7) (by decide) lkX7_49 rfl (zb_nar (by omega)) (zb_fit (by omega)) (scAt_put hA).1.1 (nlt rfl) rfl dX7_write_111 ?_
      refine pw_h (scU0 hA) ?_
      exact pw_vret dX7_write_114 rfl (nle rfl) (nle rfl) (by rw [show zPut w H ch (F, m, o, T, c, l) = ((va_up F 7 (F 15)), shM F m (gset w H (F 5) (F 6) (((F 8) * (128)) + (ch)) (shG F m o)), shO F o (gset w H (F 5) (F 6) (((F 8) * (128)) + (ch)) (shG F m o)), T, c, l) from by unfold zPut zPutF zPutX; first | rfl | (simp only [if_pos (show F 14 = 0 by omega)]; first | rw [if_pos (show F 5 < F 3 - 1 by omega)] | rw [if_neg (show ¬ F 5 < F 3 - 1 by omega)]) | (simp only [if_neg (show ¬ F 14 = 0 by omega)]; first | rw [if_pos (show F 5 < F 3 - 1 by omega)] | rw [if_neg (show ¬ F 5 < F 3 - 1 by omega)])] at hQ; exact hQ)
    ·
      refine pw_aload_n dX7_write_93 rfl ?_
      refine pw_dup dX7_write_94 rfl ?_
      refine pw_get (v := .int (zI (F 5))) okX7 (k := 5) (by decide) lkX7_42 (scAt_put hA).1.1 rfl dX7_write_95 ?_
      refine pw_iconst (v := zI (1)) dX7_write_98 (by decide) ?_
      refine pw_ziadd dX7_write_99 ?_
      refine pw_put (fs' := (scObj I (va_up F 5 ((F 5) + (1))))) okX7 (k := 5) (by decide) lkX7_42 rfl rfl rfl (scAt_put hA).1.1 (nlt rfl) rfl dX7_write_100 ?_
      refine pw_h (scU0 hA) ?_
      refine pw_goto (tgt := 114) dX7_write_103 rfl ?_
      exact pw_vret dX7_write_114 rfl (nle rfl) (nle rfl) (by rw [show zPut w H ch (F, m, o, T, c, l) = ((va_up F 5 ((F 5) + (1))), shM F m (gset w H (F 5) (F 6) (((F 8) * (128)) + (ch)) (shG F m o)), shO F o (gset w H (F 5) (F 6) (((F 8) * (128)) + (ch)) (shG F m o)), T, c, l) from by unfold zPut zPutF zPutX; first | rfl | (simp only [if_pos (show F 14 = 0 by omega)]; first | rw [if_pos (show F 5 < F 3 - 1 by omega)] | rw [if_neg (show ¬ F 5 < F 3 - 1 by omega)]) | (simp only [if_neg (show ¬ F 14 = 0 by omega)]; first | rw [if_pos (show F 5 < F 3 - 1 by omega)] | rw [if_neg (show ¬ F 5 < F 3 - 1 by omega)])] at hQ; exact hQ)
  ·
    refine pw_aload_n dX7_write_23 rfl ?_
    refine pw_callV (As := []) (b := (I 0)) (rm := rmD 0 0 0) (mX7_shown htr hG0 (scAt_put hA) (hO0)) rfl (scAt_put hA).1.1 rfl rfl ywX7_shown rfl cwX7_95 ⟨nle rfl, nle rfl⟩ (nle rfl) ⟨nle rfl, nle rfl⟩ dX7_write_24 ?_ (fun _ _ _ z => z.elim)
    intro r2 h2 n2 hq _
    rw [hq.1, hq.2.1, hq.2.2]
    show pw E YX7_write _ _ 0 0 27 [some (.ref (I 0)), some (.int (zI (ch)))] [.ref (I (sq F + 5))] (scPut w H N NH I F (shM F m (shG F m o)) (shO F o (shG F m o)) T c l h) n
    refine pw_aload_n dX7_write_27 rfl ?_
    refine pw_get (v := .int (zI (F 6))) okX7 (k := 6) (by decide) lkX7_46 (scAt_put hA).1.1 rfl dX7_write_28 ?_
    refine pw_aload_n dX7_write_31 rfl ?_
    refine pw_get (v := .int (zI (F 5))) okX7 (k := 5) (by decide) lkX7_42 (scAt_put hA).1.1 rfl dX7_write_32 ?_
    refine pw_aload_n dX7_write_35 rfl ?_
    refine pw_get (v := .int (zI (F 5))) okX7 (k := 5) (by decide) lkX7_42 (scAt_put hA).1.1 rfl dX7_write_36 ?_
    refine pw_iconst (v := zI (1)) dX7_write_39 (by decide) ?_
    refine pw_ziadd dX7_write_40 ?_
    refine pw_aload_n dX7_write_41 rfl ?_
    refine pw_get (v := .int (zI (F 3))) okX7 (k := 3) (by decide) lkX7_76 (scAt_put hA).1.1 rfl dX7_write_42 ?_
    refine pw_iconst (v := zI (1)) dX7_write_45 (by decide) ?_
    refine pw_zisub dX7_write_46 ?_
    refine pw_aload_n dX7_write_47 rfl ?_
    refine pw_get (v := .int (zI (F 5))) okX7 (k := 5) (by decide) lkX7_42 (scAt_put hA).1.1 rfl dX7_write_48 ?_
    refine pw_zisub dX7_write_51 ?_
    refine pw_callV (As := [.int (zI (F 6)), .int (zI (F 5)), .int (zI ((F 5) + (1))), .int (zI (((F 3) - (1)) - (F 5)))]) (b := (I (sq F + 5))) (rm := rmD 1 0 0) (mX0_moveCells htr (scSg (scAt_put hA)) (scSx hA) (scSne hA) (by omega) (by omega) gN gN2 (by omega) (by omega) (by omega) (by omega)) rfl (scSg (scAt_put hA)) rfl rfl ywX0_moveCells rfl cwX7_99 ⟨nle rfl, nle rfl⟩ (nle rfl) ⟨nle rfl, nle rfl⟩ dX7_write_52 ?_ (fun _ _ _ z => z.elim)
    intro r2 h2 n2 hq _
    rw [hq.1, hq.2.1, hq.2.2]
    show pw E YX7_write _ _ 0 0 55 [some (.ref (I 0)), some (.int (zI (ch)))] [] (va_up (scPut w H N NH I F (shM F m (shG F m o)) (shO F o (shG F m o)) T c l h) (I (sq F)) (pz_z 0 N (gmoveCells w H (F 6) (F 5) ((F 5) + (1)) (((F 3) - (1)) - (F 5)) (shG F m o)))) n
    refine pw_h (scUS hA) ?_
    refine pw_aload_n dX7_write_55 rfl ?_
    refine pw_callV (As := []) (b := (I 0)) (rm := rmD 0 0 0) (mX7_shown htr hG0 (scAt_put hA) (hO0)) rfl (scAt_put hA).1.1 rfl rfl ywX7_shown rfl cwX7_95 ⟨nle rfl, nle rfl⟩ (nle rfl) ⟨nle rfl, nle rfl⟩ dX7_write_56 ?_ (fun _ _ _ z => z.elim)
    intro r2 h2 n2 hq _
    rw [hq.1, hq.2.1, hq.2.2]
    show pw E YX7_write _ _ 0 0 59 [some (.ref (I 0)), some (.int (zI (ch)))] [.ref (I (sq F + 5))] (scPut w H N NH I F (shM F m (gmoveCells w H (F 6) (F 5) ((F 5) + (1)) (((F 3) - (1)) - (F 5)) (shG F m o))) (shO F o (gmoveCells w H (F 6) (F 5) ((F 5) + (1)) (((F 3) - (1)) - (F 5)) (shG F m o))) T c l h) n
    refine pw_aload_n dX7_write_59 rfl ?_
    refine pw_get (v := .int (zI (F 5))) okX7 (k := 5) (by decide) lkX7_42 (scAt_put hA).1.1 rfl dX7_write_60 ?_
    refine pw_aload_n dX7_write_63 rfl ?_
    refine pw_get (v := .int (zI (F 6))) okX7 (k := 6) (by decide) lkX7_46 (scAt_put hA).1.1 rfl dX7_write_64 ?_
    refine pw_aload_n dX7_write_67 rfl ?_
    refine pw_get (v := .int (zI (F 8))) okX7 (k := 8) (by decide) lkX7_52 (scAt_put hA).1.1 rfl dX7_write_68 ?_
    refine pw_sipush (v := zI (128)) dX7_write_71 (by decide) ?_
    refine pw_zimul dX7_write_74 ?_
    refine pw_iload_n dX7_write_75 rfl ?_
    refine pw_ziadd dX7_write_76 ?_
    refine pw_callV (As := [.int (zI (F 5)), .int (zI (F 6)), .int (zI (((F 8) * (128)) + (ch)))]) (b := (I (sq F + 5))) (rm := rmD 0 0 0) (mX0_set htr (scSg (scAt_put hA)) (scSx hA) (scSne hA) (by omega) (by omega) gN gN2 (by omega) (by omega) (by omega)) rfl (scSg (scAt_put hA)) rfl rfl ywX0_set rfl cwX7_103 ⟨nle rfl, nle rfl⟩ (nle rfl) ⟨nle rfl, nle rfl⟩ dX7_write_77 ?_ (fun _ _ _ z => z.elim)
    intro r2 h2 n2 hq _
    rw [hq.1, hq.2.1, hq.2.2]
    show pw E YX7_write _ _ 0 0 80 [some (.ref (I 0)), some (.int (zI (ch)))] [] (va_up (scPut w H N NH I F (shM F m (gmoveCells w H (F 6) (F 5) ((F 5) + (1)) (((F 3) - (1)) - (F 5)) (shG F m o))) (shO F o (gmoveCells w H (F 6) (F 5) ((F 5) + (1)) (((F 3) - (1)) - (F 5)) (shG F m o))) T c l h) (I (sq F)) (pz_z 0 N (gset w H (F 5) (F 6) (((F 8) * (128)) + (ch)) (gmoveCells w H (F 6) (F 5) ((F 5) + (1)) (((F 3) - (1)) - (F 5)) (shG F m o))))) n
    refine pw_h (scUS hA) ?_
    refine pw_aload_n dX7_write_80 rfl ?_
    refine pw_get (v := .int (zI (F 5))) okX7 (k := 5) (by decide) lkX7_42 (scAt_put hA).1.1 rfl dX7_write_81 ?_
    refine pw_aload_n dX7_write_84 rfl ?_
    refine pw_get (v := .int (zI (F 3))) okX7 (k := 3) (by decide) lkX7_76 (scAt_put hA).1.1 rfl dX7_write_85 ?_
    refine pw_iconst (v := zI (1)) dX7_write_88 (by decide) ?_
    refine pw_zisub dX7_write_89 ?_
    refine pw_icmp_ge (tgt := 106) dX7_write_90 rfl (by omega) (by omega) (fun c90 => ?_) (fun c90 => ?_)
    ·
      refine pw_aload_n dX7_write_106 rfl ?_
      refine pw_aload_n dX7_write_107 rfl ?_
      refine pw_get (v := .int (zI (F 15))) okX7 (k := 15) (by decide) lkX7_70 (scAt_put hA).1.1 rfl dX7_write_108 ?_
      refine pw_put (fs' := (scObj I (va_up F 7 (F 15)))) okX7 (k := 7) (by decide) lkX7_49 rfl (zb_nar (by omega)) (zb_fit (by omega)) (scAt_put hA).1.1 (nlt rfl) rfl dX7_write_111 ?_
      refine pw_h (scU0 hA) ?_
      exact pw_vret dX7_write_114 rfl (nle rfl) (nle rfl) (by rw [show zPut w H ch (F, m, o, T, c, l) = ((va_up F 7 (F 15)), shM F m (gset w H (F 5) (F 6) (((F 8) * (128)) + (ch)) (gmoveCells w H (F 6) (F 5) ((F 5) + (1)) (((F 3) - (1)) - (F 5)) (shG F m o))), shO F o (gset w H (F 5) (F 6) (((F 8) * (128)) + (ch)) (gmoveCells w H (F 6) (F 5) ((F 5) + (1)) (((F 3) - (1)) - (F 5)) (shG F m o))), T, c, l) from by unfold zPut zPutF zPutX; first | rfl | (simp only [if_pos (show F 14 = 0 by omega)]; first | rw [if_pos (show F 5 < F 3 - 1 by omega)] | rw [if_neg (show ¬ F 5 < F 3 - 1 by omega)]) | (simp only [if_neg (show ¬ F 14 = 0 by omega)]; first | rw [if_pos (show F 5 < F 3 - 1 by omega)] | rw [if_neg (show ¬ F 5 < F 3 - 1 by omega)])] at hQ; exact hQ)
    ·
      refine pw_aload_n dX7_write_93 rfl ?_
      refine pw_dup dX7_write_94 rfl ?_
      refine pw_get (v := .int (zI (F 5))) okX7 (k := 5) (by decide) lkX7_42 (scAt_put hA).1.1 rfl dX7_write_95 ?_
      refine pw_iconst (v := zI (1)) dX7_write_98 (by decide) ?_
      refine pw_ziadd dX7_write_99 ?_
      refine pw_put (fs' := (scObj I (va_up F 5 ((F 5) + (1))))) okX7 (k := 5) (by decide) lkX7_42 rfl rfl rfl (scAt_put hA).1.1 (nlt rfl) rfl dX7_write_100 ?_
      refine pw_h (scU0 hA) ?_
      refine pw_goto (tgt := 114) dX7_write_103 rfl ?_
      exact pw_vret dX7_write_114 rfl (nle rfl) (nle rfl) (by rw [show zPut w H ch (F, m, o, T, c, l) = ((va_up F 5 ((F 5) + (1))), shM F m (gset w H (F 5) (F 6) (((F 8) * (128)) + (ch)) (gmoveCells w H (F 6) (F 5) ((F 5) + (1)) (((F 3) - (1)) - (F 5)) (shG F m o))), shO F o (gset w H (F 5) (F 6) (((F 8) * (128)) + (ch)) (gmoveCells w H (F 6) (F 5) ((F 5) + (1)) (((F 3) - (1)) - (F 5)) (shG F m o))), T, c, l) from by unfold zPut zPutF zPutX; first | rfl | (simp only [if_pos (show F 14 = 0 by omega)]; first | rw [if_pos (show F 5 < F 3 - 1 by omega)] | rw [if_neg (show ¬ F 5 < F 3 - 1 by omega)]) | (simp only [if_neg (show ¬ F 14 = 0 by omega)]; first | rw [if_pos (show F 5 < F 3 - 1 by omega)] | rw [if_neg (show ¬ F 5 < F 3 - 1 by omega)])] at hQ; exact hQ)
set_option maxHeartbeats 4000000 in
set_option maxRecDepth 100000 in
/-- Screen.write(ch) -/
theorem mX7_write {E : pw_E} (htr : E.1.stackTraces = false) {h : pz_H} {n : Nat} {w H : Int} {N NH : Nat} {I : Nat → Nat} {F m o T c l : Nat → Int} (hG : geo w H N NH) (hA : scAt w H N NH I F m o T c l h) (hO : scOk w H F T) {ch : Int} (h_ch : -2147483648 ≤ ch ∧ ch < 2147483648) (hch : 0 ≤ ch ∧ ch ≤ 127) : pw_M E yX7_write YX7_write (rmD 7 0 0) [.ref (I 0), .int (zI (ch))] h n (fun r h' n' => r = none ∧ h' = zP w H N NH I (zWrite w H NH ch (F, m, o, T, c, l)) h ∧ n' = n) (fun _ _ _ => False) := by
  have hG0 := hG
  have hO0 := hO
  obtain ⟨gw, gH, gN, gN2, gNH⟩ := hG
  obtain ⟨o3, o4, o5, o6, o7, o8, o9, o10, o11, o12, o14, o15, o16, o17, oT3, oT4⟩ := hO
  refine pw_M_of (lv := [some (.ref (I 0)), some (.int (zI (ch)))]) (by decide) rfl rfl htr (nle rfl) rfl (fun L => ?_)
  refine pw_h (scPut_id hA).symm ?_
  refine pw_aload_n dX7_write_0 rfl ?_
  refine pw_get (v := .int (zI (F 7))) okX7 (k := 7) (by decide) lkX7_49 (scAt_put hA).1.1 rfl dX7_write_1 ?_
  refine pw_if_eq (tgt := 16) dX7_write_4 rfl (by omega) (fun c4 => ?_) (fun c4 => ?_)
  ·
    have hw1 : zWrite w H NH ch (F, m, o, T, c, l) = zPut w H ch (F, m, o, T, c, l) := if_pos (show F 7 = 0 by omega)
    rw [hw1]
    exact lX7_write htr hG0 (scAt_put hA) hO0 hch ⟨rfl, scPut_put, rfl⟩
  ·
    refine pw_aload_n dX7_write_7 rfl ?_
    refine pw_iconst (v := zI (0)) dX7_write_8 (by decide) ?_
    refine pw_put (fs' := (scObj I (va_up F 5 (0)))) okX7 (k := 5) (by decide) lkX7_42 rfl rfl rfl (scAt_put hA).1.1 (nlt rfl) rfl dX7_write_9 ?_
    refine pw_h (scU0 hA) ?_
    refine pw_aload_n dX7_write_12 rfl ?_
    refine pw_callV (As := []) (b := (I 0)) (rm := rmD 6 0 0) (mX7_goDown htr hG0 (scAt_put hA) (scOk_5 hO0)) rfl (scAt_put hA).1.1 rfl rfl ywX7_goDown rfl cwX7_92 ⟨nle rfl, nle rfl⟩ (nle rfl) ⟨nle rfl, nle rfl⟩ dX7_write_13 ?_ (fun _ _ _ z => z.elim)
    intro r2 h2 n2 hq _
    rw [hq.1, hq.2.1, hq.2.2]
    show pw E YX7_write _ _ 0 0 16 [some (.ref (I 0)), some (.int (zI (ch)))] [] (zP w H N NH I (zDown w H NH ((va_up F 5 (0)), m, o, T, c, l)) (scPut w H N NH I (va_up F 5 (0)) m o T c l h)) n
    refine pw_h (h' := zP w H N NH I (zDown w H NH ((va_up F 5 (0)), m, o, T, c, l)) h) scPut_put ?_
    have hz1 : zOk w H (zDown w H NH (va_up F 5 0, m, o, T, c, l)) := zDown_ok (s := (va_up F 5 0, m, o, T, c, l)) (scOk_5 hO0)
    have hw1 : zWrite w H NH ch (F, m, o, T, c, l) = zPut w H ch (zDown w H NH (va_up F 5 0, m, o, T, c, l)) := if_neg (show ¬ F 7 = 0 by omega)
    rw [hw1]
    rcases hz : zDown w H NH (va_up F 5 0, m, o, T, c, l) with ⟨F1, m1, o1, T1, c1, l1⟩
    rw [hz] at hz1
    exact lX7_write (F := F1) (m := m1) (o := o1) (T := T1) (c := c1) (l := l1) htr hG0 (scAt_put hA) hz1 hch ⟨rfl, scPut_put, rfl⟩
set_option maxHeartbeats 4000000 in
set_option maxRecDepth 100000 in
theorem lX7_erase {E : pw_E} (htr : E.1.stackTraces = false) {h : pz_H} {n : Nat} {w H : Int} {N NH : Nat} {I : Nat → Nat} {F m o T c l : Nat → Int} (hG : geo w H N NH) (hA : scAt w H N NH I F m o T c l h) (hO : scOk w H F T) {how : Int} (hhow : 0 ≤ how ∧ how ≤ 1000) {K : pw_K} : ∀ (j : Nat) (r : Int) (f : Nat → Int) (q : Option Value), (F 4 - r).toNat = j → 0 ≤ r → r ≤ F 4 → K.2.2.1 none (scPut w H N NH I F (shM F m (sErase w H F how j r f)) (shO F o (sErase w H F how j r f)) T c l h) n → pw E YX7_erase (rmD 4 0 0) K 0 0 7 [some (.ref (I 0)), some (.int (zI (how))), some (.int (zI (r))), q] [] (scPut w H N NH I F (shM F m f) (shO F o f) T c l h) n := by
  have hG0 := hG
  have hO0 := hO
  obtain ⟨gw, gH, gN, gN2, gNH⟩ := hG
  obtain ⟨o3, o4, o5, o6, o7, o8, o9, o10, o11, o12, o14, o15, o16, o17, oT3, oT4⟩ := hO
  intro j
  induction j with
  | zero =>
    intro r f q hj h1 h2 hQ
    refine pw_iload_n dX7_erase_7 rfl ?_
    refine pw_aload_n dX7_erase_8 rfl ?_
    refine pw_get (v := .int (zI (F 4))) okX7 (k := 4) (by decide) lkX7_61 (scAt_put hA).1.1 rfl dX7_erase_9 ?_
    refine pw_icmp_ge (tgt := 78) dX7_erase_12 rfl (by omega) (by omega) (fun c12 => ?_) (fun c12 => ?_)
    ·
      exact pw_vret dX7_erase_78 rfl (nle rfl) (nle rfl) (by exact hQ)
    · exfalso; omega
  | succ j ih =>
    intro r f q hj h1 h2 hQ
    refine pw_iload_n dX7_erase_7 rfl ?_
    refine pw_aload_n dX7_erase_8 rfl ?_
    refine pw_get (v := .int (zI (F 4))) okX7 (k := 4) (by decide) lkX7_61 (scAt_put hA).1.1 rfl dX7_erase_9 ?_
    refine pw_icmp_ge (tgt := 78) dX7_erase_12 rfl (by omega) (by omega) (fun c12 => ?_) (fun c12 => ?_)
    · exfalso; omega
    ·
      refine pw_iload_n dX7_erase_15 rfl ?_
      refine pw_if_ne (tgt := 27) dX7_erase_16 rfl (by omega) (fun c16 => ?_) (fun c16 => ?_)
      ·
        refine pw_iload_n dX7_erase_27 rfl ?_
        refine pw_iconst (v := zI (1)) dX7_erase_28 (by decide) ?_
        refine pw_icmp_ne (tgt := 40) dX7_erase_29 rfl (by omega) (by omega) (fun c29 => ?_) (fun c29 => ?_)
        ·
          refine pw_iload_n dX7_erase_40 rfl ?_
          refine pw_iconst (v := zI (2)) dX7_erase_41 (by decide) ?_
          refine pw_icmp_ne (tgt := 49) dX7_erase_42 rfl (by omega) (by omega) (fun c42 => ?_) (fun c42 => ?_)
          ·
            refine pw_iconst (v := zI (0)) dX7_erase_49 (by decide) ?_
            refine pw_istore_n (lv' := [some (.ref (I 0)), some (.int (zI (how))), some (.int (zI (r))), some (.int (zI (0)))]) dX7_erase_50 (by decide) rfl rfl ?_
            refine pw_iload_n dX7_erase_51 rfl ?_
            refine pw_if_eq (tgt := 72) dX7_erase_52 rfl (by omega) (fun c52 => ?_) (fun c52 => ?_)
            ·
              refine pw_ziinc (lv' := [some (.ref (I 0)), some (.int (zI (how))), some (.int (zI (r + 1))), some (.int (zI (0)))]) dX7_erase_72 rfl (by decide) rfl rfl ?_
              refine pw_goto (tgt := 7) dX7_erase_75 rfl ?_
              rw [show sErase w H F how (j + 1) r f = sErase w H F how j (r + 1) (if (how = 0 ∧ F 6 < r) ∨ (how = 1 ∧ r < F 6) ∨ how = 2 then gfill w H r 0 (F 3) (F 8 * 128 + 32) f else f) from rfl] at hQ
              first | (exfalso; omega) | (rw [if_pos (show (how = 0 ∧ F 6 < r) ∨ (how = 1 ∧ r < F 6) ∨ how = 2 by omega)] at hQ; exact ih (r + 1) _ _ (by omega) (by omega) (by omega) hQ) | (rw [if_neg (show ¬ ((how = 0 ∧ F 6 < r) ∨ (how = 1 ∧ r < F 6) ∨ how = 2) by omega)] at hQ; exact ih (r + 1) _ _ (by omega) (by omega) (by omega) hQ)
            · exfalso; omega
          ·
            refine pw_iconst (v := zI (1)) dX7_erase_45 (by decide) ?_
            refine pw_goto (tgt := 50) dX7_erase_46 rfl ?_
            refine pw_istore_n (lv' := [some (.ref (I 0)), some (.int (zI (how))), some (.int (zI (r))), some (.int (zI (1)))]) dX7_erase_50 (by decide) rfl rfl ?_
            refine pw_iload_n dX7_erase_51 rfl ?_
            refine pw_if_eq (tgt := 72) dX7_erase_52 rfl (by omega) (fun c52 => ?_) (fun c52 => ?_)
            · exfalso; omega
            ·
              refine pw_aload_n dX7_erase_55 rfl ?_
              refine pw_callV (As := []) (b := (I 0)) (rm := rmD 0 0 0) (mX7_shown htr hG0 (scAt_put hA) (hO0)) rfl (scAt_put hA).1.1 rfl rfl ywX7_shown rfl cwX7_95 ⟨nle rfl, nle rfl⟩ (nle rfl) ⟨nle rfl, nle rfl⟩ dX7_erase_56 ?_ (fun _ _ _ z => z.elim)
              intro r2 h2 n2 hq _
              rw [hq.1, hq.2.1, hq.2.2]
              show pw E YX7_erase _ _ 0 0 59 [some (.ref (I 0)), some (.int (zI (how))), some (.int (zI (r))), some (.int (zI (1)))] [.ref (I (sq F + 5))] (scPut w H N NH I F (shM F m f) (shO F o f) T c l h) n
              refine pw_iload_n dX7_erase_59 rfl ?_
              refine pw_iconst (v := zI (0)) dX7_erase_60 (by decide) ?_
              refine pw_aload_n dX7_erase_61 rfl ?_
              refine pw_get (v := .int (zI (F 3))) okX7 (k := 3) (by decide) lkX7_76 (scAt_put hA).1.1 rfl dX7_erase_62 ?_
              refine pw_aload_n dX7_erase_65 rfl ?_
              refine pw_callV (As := []) (b := (I 0)) (rm := rmD 0 0 0) (mX7_blank htr hG0 (scAt_put hA) (hO0)) rfl (scAt_put hA).1.1 rfl rfl ywX7_blank rfl cwX7_135 ⟨nle rfl, nle rfl⟩ (nle rfl) ⟨nle rfl, nle rfl⟩ dX7_erase_66 ?_ (fun _ _ _ z => z.elim)
              intro r2 h2 n2 hq _
              rw [hq.1, hq.2.1, hq.2.2]
              show pw E YX7_erase _ _ 0 0 69 [some (.ref (I 0)), some (.int (zI (how))), some (.int (zI (r))), some (.int (zI (1)))] [.int (zI (F 8 * 128 + 32)), .int (zI (F 3)), .int (zI (0)), .int (zI (r)), .ref (I (sq F + 5))] (scPut w H N NH I F (shM F m f) (shO F o f) T c l h) n
              refine pw_callV (As := [.int (zI (r)), .int (zI (0)), .int (zI (F 3)), .int (zI (F 8 * 128 + 32))]) (b := (I (sq F + 5))) (rm := rmD 2 0 0) (mX0_fill htr (scSg (scAt_put hA)) (scSx hA) (scSne hA) (by omega) (by omega) gN gN2 (by omega) (by omega) (by omega) (by omega)) rfl (scSg (scAt_put hA)) rfl rfl ywX0_fill rfl cwX7_139 ⟨nle rfl, nle rfl⟩ (nle rfl) ⟨nle rfl, nle rfl⟩ dX7_erase_69 ?_ (fun _ _ _ z => z.elim)
              intro r2 h2 n2 hq _
              rw [hq.1, hq.2.1, hq.2.2]
              show pw E YX7_erase _ _ 0 0 72 [some (.ref (I 0)), some (.int (zI (how))), some (.int (zI (r))), some (.int (zI (1)))] [] (va_up (scPut w H N NH I F (shM F m f) (shO F o f) T c l h) (I (sq F)) (pz_z 0 N (gfill w H (r) (0) (F 3) (F 8 * 128 + 32) f))) n
              refine pw_h (scUS hA) ?_
              refine pw_ziinc (lv' := [some (.ref (I 0)), some (.int (zI (how))), some (.int (zI (r + 1))), some (.int (zI (1)))]) dX7_erase_72 rfl (by decide) rfl rfl ?_
              refine pw_goto (tgt := 7) dX7_erase_75 rfl ?_
              rw [show sErase w H F how (j + 1) r f = sErase w H F how j (r + 1) (if (how = 0 ∧ F 6 < r) ∨ (how = 1 ∧ r < F 6) ∨ how = 2 then gfill w H r 0 (F 3) (F 8 * 128 + 32) f else f) from rfl] at hQ
              first | (exfalso; omega) | (rw [if_pos (show (how = 0 ∧ F 6 < r) ∨ (how = 1 ∧ r < F 6) ∨ how = 2 by omega)] at hQ; exact ih (r + 1) _ _ (by omega) (by omega) (by omega) hQ) | (rw [if_neg (show ¬ ((how = 0 ∧ F 6 < r) ∨ (how = 1 ∧ r < F 6) ∨ how = 2) by omega)] at hQ; exact ih (r + 1) _ _ (by omega) (by omega) (by omega) hQ)
        ·
          refine pw_iload_n dX7_erase_32 rfl ?_
          refine pw_aload_n dX7_erase_33 rfl ?_
          refine pw_get (v := .int (zI (F 6))) okX7 (k := 6) (by decide) lkX7_46 (scAt_put hA).1.1 rfl dX7_erase_34 ?_
          refine pw_icmp_lt (tgt := 45) dX7_erase_37 rfl (by omega) (by omega) (fun c37 => ?_) (fun c37 => ?_)
          ·
            refine pw_iconst (v := zI (1)) dX7_erase_45 (by decide) ?_
            refine pw_goto (tgt := 50) dX7_erase_46 rfl ?_
            refine pw_istore_n (lv' := [some (.ref (I 0)), some (.int (zI (how))), some (.int (zI (r))), some (.int (zI (1)))]) dX7_erase_50 (by decide) rfl rfl ?_
            refine pw_iload_n dX7_erase_51 rfl ?_
            refine pw_if_eq (tgt := 72) dX7_erase_52 rfl (by omega) (fun c52 => ?_) (fun c52 => ?_)
            · exfalso; omega
            ·
              refine pw_aload_n dX7_erase_55 rfl ?_
              refine pw_callV (As := []) (b := (I 0)) (rm := rmD 0 0 0) (mX7_shown htr hG0 (scAt_put hA) (hO0)) rfl (scAt_put hA).1.1 rfl rfl ywX7_shown rfl cwX7_95 ⟨nle rfl, nle rfl⟩ (nle rfl) ⟨nle rfl, nle rfl⟩ dX7_erase_56 ?_ (fun _ _ _ z => z.elim)
              intro r2 h2 n2 hq _
              rw [hq.1, hq.2.1, hq.2.2]
              show pw E YX7_erase _ _ 0 0 59 [some (.ref (I 0)), some (.int (zI (how))), some (.int (zI (r))), some (.int (zI (1)))] [.ref (I (sq F + 5))] (scPut w H N NH I F (shM F m f) (shO F o f) T c l h) n
              refine pw_iload_n dX7_erase_59 rfl ?_
              refine pw_iconst (v := zI (0)) dX7_erase_60 (by decide) ?_
              refine pw_aload_n dX7_erase_61 rfl ?_
              refine pw_get (v := .int (zI (F 3))) okX7 (k := 3) (by decide) lkX7_76 (scAt_put hA).1.1 rfl dX7_erase_62 ?_
              refine pw_aload_n dX7_erase_65 rfl ?_
              refine pw_callV (As := []) (b := (I 0)) (rm := rmD 0 0 0) (mX7_blank htr hG0 (scAt_put hA) (hO0)) rfl (scAt_put hA).1.1 rfl rfl ywX7_blank rfl cwX7_135 ⟨nle rfl, nle rfl⟩ (nle rfl) ⟨nle rfl, nle rfl⟩ dX7_erase_66 ?_ (fun _ _ _ z => z.elim)
              intro r2 h2 n2 hq _
              rw [hq.1, hq.2.1, hq.2.2]
              show pw E YX7_erase _ _ 0 0 69 [some (.ref (I 0)), some (.int (zI (how))), some (.int (zI (r))), some (.int (zI (1)))] [.int (zI (F 8 * 128 + 32)), .int (zI (F 3)), .int (zI (0)), .int (zI (r)), .ref (I (sq F + 5))] (scPut w H N NH I F (shM F m f) (shO F o f) T c l h) n
              refine pw_callV (As := [.int (zI (r)), .int (zI (0)), .int (zI (F 3)), .int (zI (F 8 * 128 + 32))]) (b := (I (sq F + 5))) (rm := rmD 2 0 0) (mX0_fill htr (scSg (scAt_put hA)) (scSx hA) (scSne hA) (by omega) (by omega) gN gN2 (by omega) (by omega) (by omega) (by omega)) rfl (scSg (scAt_put hA)) rfl rfl ywX0_fill rfl cwX7_139 ⟨nle rfl, nle rfl⟩ (nle rfl) ⟨nle rfl, nle rfl⟩ dX7_erase_69 ?_ (fun _ _ _ z => z.elim)
              intro r2 h2 n2 hq _
              rw [hq.1, hq.2.1, hq.2.2]
              show pw E YX7_erase _ _ 0 0 72 [some (.ref (I 0)), some (.int (zI (how))), some (.int (zI (r))), some (.int (zI (1)))] [] (va_up (scPut w H N NH I F (shM F m f) (shO F o f) T c l h) (I (sq F)) (pz_z 0 N (gfill w H (r) (0) (F 3) (F 8 * 128 + 32) f))) n
              refine pw_h (scUS hA) ?_
              refine pw_ziinc (lv' := [some (.ref (I 0)), some (.int (zI (how))), some (.int (zI (r + 1))), some (.int (zI (1)))]) dX7_erase_72 rfl (by decide) rfl rfl ?_
              refine pw_goto (tgt := 7) dX7_erase_75 rfl ?_
              rw [show sErase w H F how (j + 1) r f = sErase w H F how j (r + 1) (if (how = 0 ∧ F 6 < r) ∨ (how = 1 ∧ r < F 6) ∨ how = 2 then gfill w H r 0 (F 3) (F 8 * 128 + 32) f else f) from rfl] at hQ
              first | (exfalso; omega) | (rw [if_pos (show (how = 0 ∧ F 6 < r) ∨ (how = 1 ∧ r < F 6) ∨ how = 2 by omega)] at hQ; exact ih (r + 1) _ _ (by omega) (by omega) (by omega) hQ) | (rw [if_neg (show ¬ ((how = 0 ∧ F 6 < r) ∨ (how = 1 ∧ r < F 6) ∨ how = 2) by omega)] at hQ; exact ih (r + 1) _ _ (by omega) (by omega) (by omega) hQ)
          ·
            refine pw_iload_n dX7_erase_40 rfl ?_
            refine pw_iconst (v := zI (2)) dX7_erase_41 (by decide) ?_
            refine pw_icmp_ne (tgt := 49) dX7_erase_42 rfl (by omega) (by omega) (fun c42 => ?_) (fun c42 => ?_)
            ·
              refine pw_iconst (v := zI (0)) dX7_erase_49 (by decide) ?_
              refine pw_istore_n (lv' := [some (.ref (I 0)), some (.int (zI (how))), some (.int (zI (r))), some (.int (zI (0)))]) dX7_erase_50 (by decide) rfl rfl ?_
              refine pw_iload_n dX7_erase_51 rfl ?_
              refine pw_if_eq (tgt := 72) dX7_erase_52 rfl (by omega) (fun c52 => ?_) (fun c52 => ?_)
              ·
                refine pw_ziinc (lv' := [some (.ref (I 0)), some (.int (zI (how))), some (.int (zI (r + 1))), some (.int (zI (0)))]) dX7_erase_72 rfl (by decide) rfl rfl ?_
                refine pw_goto (tgt := 7) dX7_erase_75 rfl ?_
                rw [show sErase w H F how (j + 1) r f = sErase w H F how j (r + 1) (if (how = 0 ∧ F 6 < r) ∨ (how = 1 ∧ r < F 6) ∨ how = 2 then gfill w H r 0 (F 3) (F 8 * 128 + 32) f else f) from rfl] at hQ
                first | (exfalso; omega) | (rw [if_pos (show (how = 0 ∧ F 6 < r) ∨ (how = 1 ∧ r < F 6) ∨ how = 2 by omega)] at hQ; exact ih (r + 1) _ _ (by omega) (by omega) (by omega) hQ) | (rw [if_neg (show ¬ ((how = 0 ∧ F 6 < r) ∨ (how = 1 ∧ r < F 6) ∨ how = 2) by omega)] at hQ; exact ih (r + 1) _ _ (by omega) (by omega) (by omega) hQ)
              · exfalso; omega
            ·
              refine pw_iconst (v := zI (1)) dX7_erase_45 (by decide) ?_
              refine pw_goto (tgt := 50) dX7_erase_46 rfl ?_
              refine pw_istore_n (lv' := [some (.ref (I 0)), some (.int (zI (how))), some (.int (zI (r))), some (.int (zI (1)))]) dX7_erase_50 (by decide) rfl rfl ?_
              refine pw_iload_n dX7_erase_51 rfl ?_
              refine pw_if_eq (tgt := 72) dX7_erase_52 rfl (by omega) (fun c52 => ?_) (fun c52 => ?_)
              · exfalso; omega
              ·
                refine pw_aload_n dX7_erase_55 rfl ?_
                refine pw_callV (As := []) (b := (I 0)) (rm := rmD 0 0 0) (mX7_shown htr hG0 (scAt_put hA) (hO0)) rfl (scAt_put hA).1.1 rfl rfl ywX7_shown rfl cwX7_95 ⟨nle rfl, nle rfl⟩ (nle rfl) ⟨nle rfl, nle rfl⟩ dX7_erase_56 ?_ (fun _ _ _ z => z.elim)
                intro r2 h2 n2 hq _
                rw [hq.1, hq.2.1, hq.2.2]
                show pw E YX7_erase _ _ 0 0 59 [some (.ref (I 0)), some (.int (zI (how))), some (.int (zI (r))), some (.int (zI (1)))] [.ref (I (sq F + 5))] (scPut w H N NH I F (shM F m f) (shO F o f) T c l h) n
                refine pw_iload_n dX7_erase_59 rfl ?_
                refine pw_iconst (v := zI (0)) dX7_erase_60 (by decide) ?_
                refine pw_aload_n dX7_erase_61 rfl ?_
                refine pw_get (v := .int (zI (F 3))) okX7 (k := 3) (by decide) lkX7_76 (scAt_put hA).1.1 rfl dX7_erase_62 ?_
                refine pw_aload_n dX7_erase_65 rfl ?_
                refine pw_callV (As := []) (b := (I 0)) (rm := rmD 0 0 0) (mX7_blank htr hG0 (scAt_put hA) (hO0)) rfl (scAt_put hA).1.1 rfl rfl ywX7_blank rfl cwX7_135 ⟨nle rfl, nle rfl⟩ (nle rfl) ⟨nle rfl, nle rfl⟩ dX7_erase_66 ?_ (fun _ _ _ z => z.elim)
                intro r2 h2 n2 hq _
                rw [hq.1, hq.2.1, hq.2.2]
                show pw E YX7_erase _ _ 0 0 69 [some (.ref (I 0)), some (.int (zI (how))), some (.int (zI (r))), some (.int (zI (1)))] [.int (zI (F 8 * 128 + 32)), .int (zI (F 3)), .int (zI (0)), .int (zI (r)), .ref (I (sq F + 5))] (scPut w H N NH I F (shM F m f) (shO F o f) T c l h) n
                refine pw_callV (As := [.int (zI (r)), .int (zI (0)), .int (zI (F 3)), .int (zI (F 8 * 128 + 32))]) (b := (I (sq F + 5))) (rm := rmD 2 0 0) (mX0_fill htr (scSg (scAt_put hA)) (scSx hA) (scSne hA) (by omega) (by omega) gN gN2 (by omega) (by omega) (by omega) (by omega)) rfl (scSg (scAt_put hA)) rfl rfl ywX0_fill rfl cwX7_139 ⟨nle rfl, nle rfl⟩ (nle rfl) ⟨nle rfl, nle rfl⟩ dX7_erase_69 ?_ (fun _ _ _ z => z.elim)
                intro r2 h2 n2 hq _
                rw [hq.1, hq.2.1, hq.2.2]
                show pw E YX7_erase _ _ 0 0 72 [some (.ref (I 0)), some (.int (zI (how))), some (.int (zI (r))), some (.int (zI (1)))] [] (va_up (scPut w H N NH I F (shM F m f) (shO F o f) T c l h) (I (sq F)) (pz_z 0 N (gfill w H (r) (0) (F 3) (F 8 * 128 + 32) f))) n
                refine pw_h (scUS hA) ?_
                refine pw_ziinc (lv' := [some (.ref (I 0)), some (.int (zI (how))), some (.int (zI (r + 1))), some (.int (zI (1)))]) dX7_erase_72 rfl (by decide) rfl rfl ?_
                refine pw_goto (tgt := 7) dX7_erase_75 rfl ?_
                rw [show sErase w H F how (j + 1) r f = sErase w H F how j (r + 1) (if (how = 0 ∧ F 6 < r) ∨ (how = 1 ∧ r < F 6) ∨ how = 2 then gfill w H r 0 (F 3) (F 8 * 128 + 32) f else f) from rfl] at hQ
                first | (exfalso; omega) | (rw [if_pos (show (how = 0 ∧ F 6 < r) ∨ (how = 1 ∧ r < F 6) ∨ how = 2 by omega)] at hQ; exact ih (r + 1) _ _ (by omega) (by omega) (by omega) hQ) | (rw [if_neg (show ¬ ((how = 0 ∧ F 6 < r) ∨ (how = 1 ∧ r < F 6) ∨ how = 2) by omega)] at hQ; exact ih (r + 1) _ _ (by omega) (by omega) (by omega) hQ)
      ·
        refine pw_iload_n dX7_erase_19 rfl ?_
        refine pw_aload_n dX7_erase_20 rfl ?_
        refine pw_get (v := .int (zI (F 6))) okX7 (k := 6) (by decide) lkX7_46 (scAt_put hA).1.1 rfl dX7_erase_21 ?_
        refine pw_icmp_gt (tgt := 45) dX7_erase_24 rfl (by omega) (by omega) (fun c24 => ?_) (fun c24 => ?_)
        ·
          refine pw_iconst (v := zI (1)) dX7_erase_45 (by decide) ?_
          refine pw_goto (tgt := 50) dX7_erase_46 rfl ?_
          refine pw_istore_n (lv' := [some (.ref (I 0)), some (.int (zI (how))), some (.int (zI (r))), some (.int (zI (1)))]) dX7_erase_50 (by decide) rfl rfl ?_
          refine pw_iload_n dX7_erase_51 rfl ?_
          refine pw_if_eq (tgt := 72) dX7_erase_52 rfl (by omega) (fun c52 => ?_) (fun c52 => ?_)
          · exfalso; omega
          ·
            refine pw_aload_n dX7_erase_55 rfl ?_
            refine pw_callV (As := []) (b := (I 0)) (rm := rmD 0 0 0) (mX7_shown htr hG0 (scAt_put hA) (hO0)) rfl (scAt_put hA).1.1 rfl rfl ywX7_shown rfl cwX7_95 ⟨nle rfl, nle rfl⟩ (nle rfl) ⟨nle rfl, nle rfl⟩ dX7_erase_56 ?_ (fun _ _ _ z => z.elim)
            intro r2 h2 n2 hq _
            rw [hq.1, hq.2.1, hq.2.2]
            show pw E YX7_erase _ _ 0 0 59 [some (.ref (I 0)), some (.int (zI (how))), some (.int (zI (r))), some (.int (zI (1)))] [.ref (I (sq F + 5))] (scPut w H N NH I F (shM F m f) (shO F o f) T c l h) n
            refine pw_iload_n dX7_erase_59 rfl ?_
            refine pw_iconst (v := zI (0)) dX7_erase_60 (by decide) ?_
            refine pw_aload_n dX7_erase_61 rfl ?_
            refine pw_get (v := .int (zI (F 3))) okX7 (k := 3) (by decide) lkX7_76 (scAt_put hA).1.1 rfl dX7_erase_62 ?_
            refine pw_aload_n dX7_erase_65 rfl ?_
            refine pw_callV (As := []) (b := (I 0)) (rm := rmD 0 0 0) (mX7_blank htr hG0 (scAt_put hA) (hO0)) rfl (scAt_put hA).1.1 rfl rfl ywX7_blank rfl cwX7_135 ⟨nle rfl, nle rfl⟩ (nle rfl) ⟨nle rfl, nle rfl⟩ dX7_erase_66 ?_ (fun _ _ _ z => z.elim)
            intro r2 h2 n2 hq _
            rw [hq.1, hq.2.1, hq.2.2]
            show pw E YX7_erase _ _ 0 0 69 [some (.ref (I 0)), some (.int (zI (how))), some (.int (zI (r))), some (.int (zI (1)))] [.int (zI (F 8 * 128 + 32)), .int (zI (F 3)), .int (zI (0)), .int (zI (r)), .ref (I (sq F + 5))] (scPut w H N NH I F (shM F m f) (shO F o f) T c l h) n
            refine pw_callV (As := [.int (zI (r)), .int (zI (0)), .int (zI (F 3)), .int (zI (F 8 * 128 + 32))]) (b := (I (sq F + 5))) (rm := rmD 2 0 0) (mX0_fill htr (scSg (scAt_put hA)) (scSx hA) (scSne hA) (by omega) (by omega) gN gN2 (by omega) (by omega) (by omega) (by omega)) rfl (scSg (scAt_put hA)) rfl rfl ywX0_fill rfl cwX7_139 ⟨nle rfl, nle rfl⟩ (nle rfl) ⟨nle rfl, nle rfl⟩ dX7_erase_69 ?_ (fun _ _ _ z => z.elim)
            intro r2 h2 n2 hq _
            rw [hq.1, hq.2.1, hq.2.2]
            show pw E YX7_erase _ _ 0 0 72 [some (.ref (I 0)), some (.int (zI (how))), some (.int (zI (r))), some (.int (zI (1)))] [] (va_up (scPut w H N NH I F (shM F m f) (shO F o f) T c l h) (I (sq F)) (pz_z 0 N (gfill w H (r) (0) (F 3) (F 8 * 128 + 32) f))) n
            refine pw_h (scUS hA) ?_
            refine pw_ziinc (lv' := [some (.ref (I 0)), some (.int (zI (how))), some (.int (zI (r + 1))), some (.int (zI (1)))]) dX7_erase_72 rfl (by decide) rfl rfl ?_
            refine pw_goto (tgt := 7) dX7_erase_75 rfl ?_
            rw [show sErase w H F how (j + 1) r f = sErase w H F how j (r + 1) (if (how = 0 ∧ F 6 < r) ∨ (how = 1 ∧ r < F 6) ∨ how = 2 then gfill w H r 0 (F 3) (F 8 * 128 + 32) f else f) from rfl] at hQ
            first | (exfalso; omega) | (rw [if_pos (show (how = 0 ∧ F 6 < r) ∨ (how = 1 ∧ r < F 6) ∨ how = 2 by omega)] at hQ; exact ih (r + 1) _ _ (by omega) (by omega) (by omega) hQ) | (rw [if_neg (show ¬ ((how = 0 ∧ F 6 < r) ∨ (how = 1 ∧ r < F 6) ∨ how = 2) by omega)] at hQ; exact ih (r + 1) _ _ (by omega) (by omega) (by omega) hQ)
        ·
          refine pw_iload_n dX7_erase_27 rfl ?_
          refine pw_iconst (v := zI (1)) dX7_erase_28 (by decide) ?_
          refine pw_icmp_ne (tgt := 40) dX7_erase_29 rfl (by omega) (by omega) (fun c29 => ?_) (fun c29 => ?_)
          ·
            refine pw_iload_n dX7_erase_40 rfl ?_
            refine pw_iconst (v := zI (2)) dX7_erase_41 (by decide) ?_
            refine pw_icmp_ne (tgt := 49) dX7_erase_42 rfl (by omega) (by omega) (fun c42 => ?_) (fun c42 => ?_)
            ·
              refine pw_iconst (v := zI (0)) dX7_erase_49 (by decide) ?_
              refine pw_istore_n (lv' := [some (.ref (I 0)), some (.int (zI (how))), some (.int (zI (r))), some (.int (zI (0)))]) dX7_erase_50 (by decide) rfl rfl ?_
              refine pw_iload_n dX7_erase_51 rfl ?_
              refine pw_if_eq (tgt := 72) dX7_erase_52 rfl (by omega) (fun c52 => ?_) (fun c52 => ?_)
              ·
                refine pw_ziinc (lv' := [some (.ref (I 0)), some (.int (zI (how))), some (.int (zI (r + 1))), some (.int (zI (0)))]) dX7_erase_72 rfl (by decide) rfl rfl ?_
                refine pw_goto (tgt := 7) dX7_erase_75 rfl ?_
                rw [show sErase w H F how (j + 1) r f = sErase w H F how j (r + 1) (if (how = 0 ∧ F 6 < r) ∨ (how = 1 ∧ r < F 6) ∨ how = 2 then gfill w H r 0 (F 3) (F 8 * 128 + 32) f else f) from rfl] at hQ
                first | (exfalso; omega) | (rw [if_pos (show (how = 0 ∧ F 6 < r) ∨ (how = 1 ∧ r < F 6) ∨ how = 2 by omega)] at hQ; exact ih (r + 1) _ _ (by omega) (by omega) (by omega) hQ) | (rw [if_neg (show ¬ ((how = 0 ∧ F 6 < r) ∨ (how = 1 ∧ r < F 6) ∨ how = 2) by omega)] at hQ; exact ih (r + 1) _ _ (by omega) (by omega) (by omega) hQ)
              · exfalso; omega
            ·
              refine pw_iconst (v := zI (1)) dX7_erase_45 (by decide) ?_
              refine pw_goto (tgt := 50) dX7_erase_46 rfl ?_
              refine pw_istore_n (lv' := [some (.ref (I 0)), some (.int (zI (how))), some (.int (zI (r))), some (.int (zI (1)))]) dX7_erase_50 (by decide) rfl rfl ?_
              refine pw_iload_n dX7_erase_51 rfl ?_
              refine pw_if_eq (tgt := 72) dX7_erase_52 rfl (by omega) (fun c52 => ?_) (fun c52 => ?_)
              · exfalso; omega
              ·
                refine pw_aload_n dX7_erase_55 rfl ?_
                refine pw_callV (As := []) (b := (I 0)) (rm := rmD 0 0 0) (mX7_shown htr hG0 (scAt_put hA) (hO0)) rfl (scAt_put hA).1.1 rfl rfl ywX7_shown rfl cwX7_95 ⟨nle rfl, nle rfl⟩ (nle rfl) ⟨nle rfl, nle rfl⟩ dX7_erase_56 ?_ (fun _ _ _ z => z.elim)
                intro r2 h2 n2 hq _
                rw [hq.1, hq.2.1, hq.2.2]
                show pw E YX7_erase _ _ 0 0 59 [some (.ref (I 0)), some (.int (zI (how))), some (.int (zI (r))), some (.int (zI (1)))] [.ref (I (sq F + 5))] (scPut w H N NH I F (shM F m f) (shO F o f) T c l h) n
                refine pw_iload_n dX7_erase_59 rfl ?_
                refine pw_iconst (v := zI (0)) dX7_erase_60 (by decide) ?_
                refine pw_aload_n dX7_erase_61 rfl ?_
                refine pw_get (v := .int (zI (F 3))) okX7 (k := 3) (by decide) lkX7_76 (scAt_put hA).1.1 rfl dX7_erase_62 ?_
                refine pw_aload_n dX7_erase_65 rfl ?_
                refine pw_callV (As := []) (b := (I 0)) (rm := rmD 0 0 0) (mX7_blank htr hG0 (scAt_put hA) (hO0)) rfl (scAt_put hA).1.1 rfl rfl ywX7_blank rfl cwX7_135 ⟨nle rfl, nle rfl⟩ (nle rfl) ⟨nle rfl, nle rfl⟩ dX7_erase_66 ?_ (fun _ _ _ z => z.elim)
                intro r2 h2 n2 hq _
                rw [hq.1, hq.2.1, hq.2.2]
                show pw E YX7_erase _ _ 0 0 69 [some (.ref (I 0)), some (.int (zI (how))), some (.int (zI (r))), some (.int (zI (1)))] [.int (zI (F 8 * 128 + 32)), .int (zI (F 3)), .int (zI (0)), .int (zI (r)), .ref (I (sq F + 5))] (scPut w H N NH I F (shM F m f) (shO F o f) T c l h) n
                refine pw_callV (As := [.int (zI (r)), .int (zI (0)), .int (zI (F 3)), .int (zI (F 8 * 128 + 32))]) (b := (I (sq F + 5))) (rm := rmD 2 0 0) (mX0_fill htr (scSg (scAt_put hA)) (scSx hA) (scSne hA) (by omega) (by omega) gN gN2 (by omega) (by omega) (by omega) (by omega)) rfl (scSg (scAt_put hA)) rfl rfl ywX0_fill rfl cwX7_139 ⟨nle rfl, nle rfl⟩ (nle rfl) ⟨nle rfl, nle rfl⟩ dX7_erase_69 ?_ (fun _ _ _ z => z.elim)
                intro r2 h2 n2 hq _
                rw [hq.1, hq.2.1, hq.2.2]
                show pw E YX7_erase _ _ 0 0 72 [some (.ref (I 0)), some (.int (zI (how))), some (.int (zI (r))), some (.int (zI (1)))] [] (va_up (scPut w H N NH I F (shM F m f) (shO F o f) T c l h) (I (sq F)) (pz_z 0 N (gfill w H (r) (0) (F 3) (F 8 * 128 + 32) f))) n
                refine pw_h (scUS hA) ?_
                refine pw_ziinc (lv' := [some (.ref (I 0)), some (.int (zI (how))), some (.int (zI (r + 1))), some (.int (zI (1)))]) dX7_erase_72 rfl (by decide) rfl rfl ?_
                refine pw_goto (tgt := 7) dX7_erase_75 rfl ?_
                rw [show sErase w H F how (j + 1) r f = sErase w H F how j (r + 1) (if (how = 0 ∧ F 6 < r) ∨ (how = 1 ∧ r < F 6) ∨ how = 2 then gfill w H r 0 (F 3) (F 8 * 128 + 32) f else f) from rfl] at hQ
                first | (exfalso; omega) | (rw [if_pos (show (how = 0 ∧ F 6 < r) ∨ (how = 1 ∧ r < F 6) ∨ how = 2 by omega)] at hQ; exact ih (r + 1) _ _ (by omega) (by omega) (by omega) hQ) | (rw [if_neg (show ¬ ((how = 0 ∧ F 6 < r) ∨ (how = 1 ∧ r < F 6) ∨ how = 2) by omega)] at hQ; exact ih (r + 1) _ _ (by omega) (by omega) (by omega) hQ)
          ·
            refine pw_iload_n dX7_erase_32 rfl ?_
            refine pw_aload_n dX7_erase_33 rfl ?_
            refine pw_get (v := .int (zI (F 6))) okX7 (k := 6) (by decide) lkX7_46 (scAt_put hA).1.1 rfl dX7_erase_34 ?_
            refine pw_icmp_lt (tgt := 45) dX7_erase_37 rfl (by omega) (by omega) (fun c37 => ?_) (fun c37 => ?_)
            ·
              refine pw_iconst (v := zI (1)) dX7_erase_45 (by decide) ?_
              refine pw_goto (tgt := 50) dX7_erase_46 rfl ?_
              refine pw_istore_n (lv' := [some (.ref (I 0)), some (.int (zI (how))), some (.int (zI (r))), some (.int (zI (1)))]) dX7_erase_50 (by decide) rfl rfl ?_
              refine pw_iload_n dX7_erase_51 rfl ?_
              refine pw_if_eq (tgt := 72) dX7_erase_52 rfl (by omega) (fun c52 => ?_) (fun c52 => ?_)
              · exfalso; omega
              ·
                refine pw_aload_n dX7_erase_55 rfl ?_
                refine pw_callV (As := []) (b := (I 0)) (rm := rmD 0 0 0) (mX7_shown htr hG0 (scAt_put hA) (hO0)) rfl (scAt_put hA).1.1 rfl rfl ywX7_shown rfl cwX7_95 ⟨nle rfl, nle rfl⟩ (nle rfl) ⟨nle rfl, nle rfl⟩ dX7_erase_56 ?_ (fun _ _ _ z => z.elim)
                intro r2 h2 n2 hq _
                rw [hq.1, hq.2.1, hq.2.2]
                show pw E YX7_erase _ _ 0 0 59 [some (.ref (I 0)), some (.int (zI (how))), some (.int (zI (r))), some (.int (zI (1)))] [.ref (I (sq F + 5))] (scPut w H N NH I F (shM F m f) (shO F o f) T c l h) n
                refine pw_iload_n dX7_erase_59 rfl ?_
                refine pw_iconst (v := zI (0)) dX7_erase_60 (by decide) ?_
                refine pw_aload_n dX7_erase_61 rfl ?_
                refine pw_get (v := .int (zI (F 3))) okX7 (k := 3) (by decide) lkX7_76 (scAt_put hA).1.1 rfl dX7_erase_62 ?_
                refine pw_aload_n dX7_erase_65 rfl ?_
                refine pw_callV (As := []) (b := (I 0)) (rm := rmD 0 0 0) (mX7_blank htr hG0 (scAt_put hA) (hO0)) rfl (scAt_put hA).1.1 rfl rfl ywX7_blank rfl cwX7_135 ⟨nle rfl, nle rfl⟩ (nle rfl) ⟨nle rfl, nle rfl⟩ dX7_erase_66 ?_ (fun _ _ _ z => z.elim)
                intro r2 h2 n2 hq _
                rw [hq.1, hq.2.1, hq.2.2]
                show pw E YX7_erase _ _ 0 0 69 [some (.ref (I 0)), some (.int (zI (how))), some (.int (zI (r))), some (.int (zI (1)))] [.int (zI (F 8 * 128 + 32)), .int (zI (F 3)), .int (zI (0)), .int (zI (r)), .ref (I (sq F + 5))] (scPut w H N NH I F (shM F m f) (shO F o f) T c l h) n
                refine pw_callV (As := [.int (zI (r)), .int (zI (0)), .int (zI (F 3)), .int (zI (F 8 * 128 + 32))]) (b := (I (sq F + 5))) (rm := rmD 2 0 0) (mX0_fill htr (scSg (scAt_put hA)) (scSx hA) (scSne hA) (by omega) (by omega) gN gN2 (by omega) (by omega) (by omega) (by omega)) rfl (scSg (scAt_put hA)) rfl rfl ywX0_fill rfl cwX7_139 ⟨nle rfl, nle rfl⟩ (nle rfl) ⟨nle rfl, nle rfl⟩ dX7_erase_69 ?_ (fun _ _ _ z => z.elim)
                intro r2 h2 n2 hq _
                rw [hq.1, hq.2.1, hq.2.2]
                show pw E YX7_erase _ _ 0 0 72 [some (.ref (I 0)), some (.int (zI (how))), some (.int (zI (r))), some (.int (zI (1)))] [] (va_up (scPut w H N NH I F (shM F m f) (shO F o f) T c l h) (I (sq F)) (pz_z 0 N (gfill w H (r) (0) (F 3) (F 8 * 128 + 32) f))) n
                refine pw_h (scUS hA) ?_
                refine pw_ziinc (lv' := [some (.ref (I 0)), some (.int (zI (how))), some (.int (zI (r + 1))), some (.int (zI (1)))]) dX7_erase_72 rfl (by decide) rfl rfl ?_
                refine pw_goto (tgt := 7) dX7_erase_75 rfl ?_
                rw [show sErase w H F how (j + 1) r f = sErase w H F how j (r + 1) (if (how = 0 ∧ F 6 < r) ∨ (how = 1 ∧ r < F 6) ∨ how = 2 then gfill w H r 0 (F 3) (F 8 * 128 + 32) f else f) from rfl] at hQ
                first | (exfalso; omega) | (rw [if_pos (show (how = 0 ∧ F 6 < r) ∨ (how = 1 ∧ r < F 6) ∨ how = 2 by omega)] at hQ; exact ih (r + 1) _ _ (by omega) (by omega) (by omega) hQ) | (rw [if_neg (show ¬ ((how = 0 ∧ F 6 < r) ∨ (how = 1 ∧ r < F 6) ∨ how = 2) by omega)] at hQ; exact ih (r + 1) _ _ (by omega) (by omega) (by omega) hQ)
            ·
              refine pw_iload_n dX7_erase_40 rfl ?_
              refine pw_iconst (v := zI (2)) dX7_erase_41 (by decide) ?_
              refine pw_icmp_ne (tgt := 49) dX7_erase_42 rfl (by omega) (by omega) (fun c42 => ?_) (fun c42 => ?_)
              ·
                refine pw_iconst (v := zI (0)) dX7_erase_49 (by decide) ?_
                refine pw_istore_n (lv' := [some (.ref (I 0)), some (.int (zI (how))), some (.int (zI (r))), some (.int (zI (0)))]) dX7_erase_50 (by decide) rfl rfl ?_
                refine pw_iload_n dX7_erase_51 rfl ?_
                refine pw_if_eq (tgt := 72) dX7_erase_52 rfl (by omega) (fun c52 => ?_) (fun c52 => ?_)
                ·
                  refine pw_ziinc (lv' := [some (.ref (I 0)), some (.int (zI (how))), some (.int (zI (r + 1))), some (.int (zI (0)))]) dX7_erase_72 rfl (by decide) rfl rfl ?_
                  refine pw_goto (tgt := 7) dX7_erase_75 rfl ?_
                  rw [show sErase w H F how (j + 1) r f = sErase w H F how j (r + 1) (if (how = 0 ∧ F 6 < r) ∨ (how = 1 ∧ r < F 6) ∨ how = 2 then gfill w H r 0 (F 3) (F 8 * 128 + 32) f else f) from rfl] at hQ
                  first | (exfalso; omega) | (rw [if_pos (show (how = 0 ∧ F 6 < r) ∨ (how = 1 ∧ r < F 6) ∨ how = 2 by omega)] at hQ; exact ih (r + 1) _ _ (by omega) (by omega) (by omega) hQ) | (rw [if_neg (show ¬ ((how = 0 ∧ F 6 < r) ∨ (how = 1 ∧ r < F 6) ∨ how = 2) by omega)] at hQ; exact ih (r + 1) _ _ (by omega) (by omega) (by omega) hQ)
                · exfalso; omega
              ·
                refine pw_iconst (v := zI (1)) dX7_erase_45 (by decide) ?_
                refine pw_goto (tgt := 50) dX7_erase_46 rfl ?_
                refine pw_istore_n (lv' := [some (.ref (I 0)), some (.int (zI (how))), some (.int (zI (r))), some (.int (zI (1)))]) dX7_erase_50 (by decide) rfl rfl ?_
                refine pw_iload_n dX7_erase_51 rfl ?_
                refine pw_if_eq (tgt := 72) dX7_erase_52 rfl (by omega) (fun c52 => ?_) (fun c52 => ?_)
                · exfalso; omega
                ·
                  refine pw_aload_n dX7_erase_55 rfl ?_
                  refine pw_callV (As := []) (b := (I 0)) (rm := rmD 0 0 0) (mX7_shown htr hG0 (scAt_put hA) (hO0)) rfl (scAt_put hA).1.1 rfl rfl ywX7_shown rfl cwX7_95 ⟨nle rfl, nle rfl⟩ (nle rfl) ⟨nle rfl, nle rfl⟩ dX7_erase_56 ?_ (fun _ _ _ z => z.elim)
                  intro r2 h2 n2 hq _
                  rw [hq.1, hq.2.1, hq.2.2]
                  show pw E YX7_erase _ _ 0 0 59 [some (.ref (I 0)), some (.int (zI (how))), some (.int (zI (r))), some (.int (zI (1)))] [.ref (I (sq F + 5))] (scPut w H N NH I F (shM F m f) (shO F o f) T c l h) n
                  refine pw_iload_n dX7_erase_59 rfl ?_
                  refine pw_iconst (v := zI (0)) dX7_erase_60 (by decide) ?_
                  refine pw_aload_n dX7_erase_61 rfl ?_
                  refine pw_get (v := .int (zI (F 3))) okX7 (k := 3) (by decide) lkX7_76 (scAt_put hA).1.1 rfl dX7_erase_62 ?_
                  refine pw_aload_n dX7_erase_65 rfl ?_
                  refine pw_callV (As := []) (b := (I 0)) (rm := rmD 0 0 0) (mX7_blank htr hG0 (scAt_put hA) (hO0)) rfl (scAt_put hA).1.1 rfl rfl ywX7_blank rfl cwX7_135 ⟨nle rfl, nle rfl⟩ (nle rfl) ⟨nle rfl, nle rfl⟩ dX7_erase_66 ?_ (fun _ _ _ z => z.elim)
                  intro r2 h2 n2 hq _
                  rw [hq.1, hq.2.1, hq.2.2]
                  show pw E YX7_erase _ _ 0 0 69 [some (.ref (I 0)), some (.int (zI (how))), some (.int (zI (r))), some (.int (zI (1)))] [.int (zI (F 8 * 128 + 32)), .int (zI (F 3)), .int (zI (0)), .int (zI (r)), .ref (I (sq F + 5))] (scPut w H N NH I F (shM F m f) (shO F o f) T c l h) n
                  refine pw_callV (As := [.int (zI (r)), .int (zI (0)), .int (zI (F 3)), .int (zI (F 8 * 128 + 32))]) (b := (I (sq F + 5))) (rm := rmD 2 0 0) (mX0_fill htr (scSg (scAt_put hA)) (scSx hA) (scSne hA) (by omega) (by omega) gN gN2 (by omega) (by omega) (by omega) (by omega)) rfl (scSg (scAt_put hA)) rfl rfl ywX0_fill rfl cwX7_139 ⟨nle rfl, nle rfl⟩ (nle rfl) ⟨nle rfl, nle rfl⟩ dX7_erase_69 ?_ (fun _ _ _ z => z.elim)
                  intro r2 h2 n2 hq _
                  rw [hq.1, hq.2.1, hq.2.2]
                  show pw E YX7_erase _ _ 0 0 72 [some (.ref (I 0)), some (.int (zI (how))), some (.int (zI (r))), some (.int (zI (1)))] [] (va_up (scPut w H N NH I F (shM F m f) (shO F o f) T c l h) (I (sq F)) (pz_z 0 N (gfill w H (r) (0) (F 3) (F 8 * 128 + 32) f))) n
                  refine pw_h (scUS hA) ?_
                  refine pw_ziinc (lv' := [some (.ref (I 0)), some (.int (zI (how))), some (.int (zI (r + 1))), some (.int (zI (1)))]) dX7_erase_72 rfl (by decide) rfl rfl ?_
                  refine pw_goto (tgt := 7) dX7_erase_75 rfl ?_
                  rw [show sErase w H F how (j + 1) r f = sErase w H F how j (r + 1) (if (how = 0 ∧ F 6 < r) ∨ (how = 1 ∧ r < F 6) ∨ how = 2 then gfill w H r 0 (F 3) (F 8 * 128 + 32) f else f) from rfl] at hQ
                  first | (exfalso; omega) | (rw [if_pos (show (how = 0 ∧ F 6 < r) ∨ (how = 1 ∧ r < F 6) ∨ how = 2 by omega)] at hQ; exact ih (r + 1) _ _ (by omega) (by omega) (by omega) hQ) | (rw [if_neg (show ¬ ((how = 0 ∧ F 6 < r) ∨ (how = 1 ∧ r < F 6) ∨ how = 2) by omega)] at hQ; exact ih (r + 1) _ _ (by omega) (by omega) (by omega) hQ)
set_option maxHeartbeats 4000000 in
set_option maxRecDepth 100000 in
/-- Screen.erase(how) -/
theorem mX7_erase {E : pw_E} (htr : E.1.stackTraces = false) {h : pz_H} {n : Nat} {w H : Int} {N NH : Nat} {I : Nat → Nat} {F m o T c l : Nat → Int} (hG : geo w H N NH) (hA : scAt w H N NH I F m o T c l h) (hO : scOk w H F T) {how : Int} (h_how : -2147483648 ≤ how ∧ how < 2147483648) (hhow : 0 ≤ how ∧ how ≤ 1000) : pw_M E yX7_erase YX7_erase (rmD 4 0 0) [.ref (I 0), .int (zI (how))] h n (fun r h' n' => r = none ∧ h' = scPut w H N NH I F (shM F m (sErase w H F how (F 4).toNat 0 (sErow w H F how (shG F m o)))) (shO F o (sErase w H F how (F 4).toNat 0 (sErow w H F how (shG F m o)))) T c l h ∧ n' = n) (fun _ _ _ => False) := by
  have hG0 := hG
  have hO0 := hO
  obtain ⟨gw, gH, gN, gN2, gNH⟩ := hG
  obtain ⟨o3, o4, o5, o6, o7, o8, o9, o10, o11, o12, o14, o15, o16, o17, oT3, oT4⟩ := hO
  refine pw_M_of (lv := [some (.ref (I 0)), some (.int (zI (how))), none, none]) (by decide) rfl rfl htr (nle rfl) rfl (fun L => ?_)
  refine pw_h (scPut_id hA).symm ?_
  refine pw_aload_n dX7_erase_0 rfl ?_
  refine pw_iload_n dX7_erase_1 rfl ?_
  refine pw_callV (As := [.int (zI (how))]) (b := (I 0)) (rm := rmD 3 0 0) (mX7_eraseInRow htr hG0 (scAt_put hA) hO0 (by omega)) rfl (scAt_put hA).1.1 rfl rfl ywX7_eraseInRow rfl cwX7_142 ⟨nle rfl, nle rfl⟩ (nle rfl) ⟨nle rfl, nle rfl⟩ dX7_erase_2 ?_ (fun _ _ _ z => z.elim)
  intro r2 h2 n2 hq _
  rw [hq.1, hq.2.1, hq.2.2]
  show pw E YX7_erase _ _ 0 0 5 [some (.ref (I 0)), some (.int (zI (how))), none, none] [] (scPut w H N NH I F (shM F m (sErow w H F how (shG F m o))) (shO F o (sErow w H F how (shG F m o))) T c l (scPut w H N NH I F m o T c l h)) n
  refine pw_h scPut_put ?_
  refine pw_iconst (v := zI (0)) dX7_erase_5 (by decide) ?_
  refine pw_istore_n (lv' := [some (.ref (I 0)), some (.int (zI (how))), some (.int (zI (0))), none]) dX7_erase_6 (by decide) rfl rfl ?_
  refine pw_h (scPut_put (F := F) (m := m) (o := o) (T := T) (c := c) (l := l)).symm ?_
  exact lX7_erase (F := F) (m := m) (o := o) htr hG0 (scAt_put hA) hO0 hhow _ 0 (sErow w H F how (shG F m o)) _ rfl (by omega) (show 0 ≤ F 4 by omega) ⟨rfl, by rw [Int.sub_zero]; exact scPut_put, rfl⟩
