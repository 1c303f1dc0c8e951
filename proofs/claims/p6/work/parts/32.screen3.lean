def YX7_goDown : pw_Y := (RX7, "goDown", cX7_goDown, 1, none)
theorem ywX7_goDown : pw_y yX7_goDown YX7_goDown 0 := ⟨by decide +kernel, by decide +kernel, by decide +kernel, pw_in 961 (by decide +kernel) (by decide +kernel), pw_in 83 (by decide +kernel) (by decide +kernel)⟩
theorem cwX7_107 : Cond.methodLink RX7 107 yX7_scrollUp ∈ pw_G ∧ Cond.instanceMethod yX7_scrollUp ∈ pw_G ∧ Cond.selects RX7 yX7_scrollUp yX7_scrollUp ∈ pw_G := ⟨pw_in 962 (by decide +kernel) (by decide +kernel), pw_in 963 (by decide +kernel) (by decide +kernel), pw_in 964 (by decide +kernel) (by decide +kernel)⟩
def YX7_goUp : pw_Y := (RX7, "goUp", cX7_goUp, 1, none)
theorem ywX7_goUp : pw_y yX7_goUp YX7_goUp 0 := ⟨by decide +kernel, by decide +kernel, by decide +kernel, pw_in 1088 (by decide +kernel) (by decide +kernel), pw_in 83 (by decide +kernel) (by decide +kernel)⟩
theorem cwX7_110 : Cond.methodLink RX7 110 yX7_scrollDown ∈ pw_G ∧ Cond.instanceMethod yX7_scrollDown ∈ pw_G ∧ Cond.selects RX7 yX7_scrollDown yX7_scrollDown ∈ pw_G := ⟨pw_in 1089 (by decide +kernel) (by decide +kernel), pw_in 1052 (by decide +kernel) (by decide +kernel), pw_in 1053 (by decide +kernel) (by decide +kernel)⟩
def YX7_setRegion : pw_Y := (RX7, "setRegion", cX7_setRegion, 4, none)
theorem ywX7_setRegion : pw_y yX7_setRegion YX7_setRegion 2 := ⟨by decide +kernel, by decide +kernel, by decide +kernel, pw_in 1058 (by decide +kernel) (by decide +kernel), pw_in 83 (by decide +kernel) (by decide +kernel)⟩
set_option maxHeartbeats 4000000 in
set_option maxRecDepth 100000 in
/-- Screen.scrollUp(k) -/
theorem mX7_scrollUp {E : pw_E} (htr : E.1.stackTraces = false) {h : pz_H} {n : Nat} {w H : Int} {N NH : Nat} {I : Nat → Nat} {F m o T c l : Nat → Int} (hG : geo w H N NH) (hA : scAt w H N NH I F m o T c l h) (hO : scOk w H F T) {k : Int} (h_k : -2147483648 ≤ k ∧ k < 2147483648) (hk : 0 ≤ k ∧ k ≤ 1000) : pw_M E yX7_scrollUp YX7_scrollUp (rmD 5 0 0) [.ref (I 0), .int (zI (k))] h n (fun r h' n' => r = none ∧ h' = zP w H N NH I (zScrollUp w H NH k (F, m, o, T, c, l)) h ∧ n' = n) (fun _ _ _ => False) := by
  have hG0 := hG
  have hO0 := hO
  obtain ⟨gw, gH, gN, gN2, gNH⟩ := hG
  obtain ⟨o3, o4, o5, o6, o7, o8, o9, o10, o11, o12, o14, o15, o16, o17, oT3, oT4⟩ := hO
  refine pw_M_of (lv := [some (.ref (I 0)), some (.int (zI (k))), none, none]) (by decide) rfl rfl htr (nle rfl) rfl (fun L => ?_)
  refine pw_h (scPut_id hA).symm ?_
  refine pw_aload_n dX7_scrollUp_0 rfl ?_
  refine pw_iconst (v := zI (0)) dX7_scrollUp_1 (by decide) ?_
  refine pw_put (fs' := (scObj I (va_up F 7 (0)))) okX7 (k := 7) (by decide) lkX7_49 rfl (by decide) (by decide) (scAt_put hA).1.1 (nlt rfl) rfl dX7_scrollUp_2 ?_
  refine pw_h (scU0 hA) ?_
  refine pw_aload_n dX7_scrollUp_5 rfl ?_
  refine pw_get (v := .int (zI (F 12))) okX7 (k := 12) (by decide) lkX7_58 (scAt_put hA).1.1 rfl dX7_scrollUp_6 ?_
  refine pw_if_ne (tgt := 59) dX7_scrollUp_9 rfl (by omega) (fun c9 => ?_) (fun c9 => ?_)
  ·
    refine pw_aload_n dX7_scrollUp_59 rfl ?_
    refine pw_aload_n dX7_scrollUp_60 rfl ?_
    refine pw_get (v := .int (zI (F 12))) okX7 (k := 12) (by decide) lkX7_58 (scAt_put hA).1.1 rfl dX7_scrollUp_61 ?_
    refine pw_iload_n dX7_scrollUp_64 rfl ?_
    refine pw_callV (As := [.int (zI (F 12)), .int (zI (k))]) (b := (I 0)) (rm := rmD 3 0 0) (mX7_raiseRows htr hG0 (scAt_put hA) (scOk_7 hO0) (by omega) (by omega) ⟨by show 0 ≤ F 12; omega, by show F 12 ≤ F 13; omega⟩ (by omega)) rfl (scAt_put hA).1.1 rfl rfl ywX7_raiseRows rfl cwX7_126 ⟨nle rfl, nle rfl⟩ (nle rfl) ⟨nle rfl, nle rfl⟩ dX7_scrollUp_65 ?_ (fun _ _ _ z => z.elim)
    intro r2 h2 n2 hq _
    rw [hq.1, hq.2.1, hq.2.2]
    show pw E YX7_scrollUp _ _ 0 0 68 [some (.ref (I 0)), some (.int (zI (k))), none, none] [] (scPut w H N NH I (va_up F 7 (0)) (shM F m (sRaise w H (F 13) (F 3) (k) (F 8 * 128 + 32) (F 13 + 1 - (F 12)).toNat (F 12) (shG F m o))) (shO F o (sRaise w H (F 13) (F 3) (k) (F 8 * 128 + 32) (F 13 + 1 - (F 12)).toNat (F 12) (shG F m o))) T c l (scPut w H N NH I (va_up F 7 (0)) m o T c l h)) n
    refine pw_h scPut_put ?_
    exact pw_vret dX7_scrollUp_68 rfl (nle rfl) (nle rfl) ⟨rfl, by show _ = zP w H N NH I (_, _, _, sGone w H NH F m T c l k) h; rw [show sGone w H NH F m T c l k = (T, c, l) from if_neg (by omega)]; first | done | rfl, rfl⟩
  ·
    refine pw_aload_n dX7_scrollUp_12 rfl ?_
    refine pw_get (v := .int (zI (F 17))) okX7 (k := 17) (by decide) lkX7_32 (scAt_put hA).1.1 rfl dX7_scrollUp_13 ?_
    refine pw_if_ne (tgt := 59) dX7_scrollUp_16 rfl (by omega) (fun c16 => ?_) (fun c16 => ?_)
    ·
      refine pw_aload_n dX7_scrollUp_59 rfl ?_
      refine pw_aload_n dX7_scrollUp_60 rfl ?_
      refine pw_get (v := .int (zI (F 12))) okX7 (k := 12) (by decide) lkX7_58 (scAt_put hA).1.1 rfl dX7_scrollUp_61 ?_
      refine pw_iload_n dX7_scrollUp_64 rfl ?_
      refine pw_callV (As := [.int (zI (F 12)), .int (zI (k))]) (b := (I 0)) (rm := rmD 3 0 0) (mX7_raiseRows htr hG0 (scAt_put hA) (scOk_7 hO0) (by omega) (by omega) ⟨by show 0 ≤ F 12; omega, by show F 12 ≤ F 13; omega⟩ (by omega)) rfl (scAt_put hA).1.1 rfl rfl ywX7_raiseRows rfl cwX7_126 ⟨nle rfl, nle rfl⟩ (nle rfl) ⟨nle rfl, nle rfl⟩ dX7_scrollUp_65 ?_ (fun _ _ _ z => z.elim)
      intro r2 h2 n2 hq _
      rw [hq.1, hq.2.1, hq.2.2]
      show pw E YX7_scrollUp _ _ 0 0 68 [some (.ref (I 0)), some (.int (zI (k))), none, none] [] (scPut w H N NH I (va_up F 7 (0)) (shM F m (sRaise w H (F 13) (F 3) (k) (F 8 * 128 + 32) (F 13 + 1 - (F 12)).toNat (F 12) (shG F m o))) (shO F o (sRaise w H (F 13) (F 3) (k) (F 8 * 128 + 32) (F 13 + 1 - (F 12)).toNat (F 12) (shG F m o))) T c l (scPut w H N NH I (va_up F 7 (0)) m o T c l h)) n
      refine pw_h scPut_put ?_
      exact pw_vret dX7_scrollUp_68 rfl (nle rfl) (nle rfl) ⟨rfl, by show _ = zP w H N NH I (_, _, _, sGone w H NH F m T c l k) h; rw [show sGone w H NH F m T c l k = (T, c, l) from if_neg (by omega)]; first | done | rfl, rfl⟩
    ·
      refine pw_iload_n dX7_scrollUp_19 rfl ?_
      refine pw_aload_n dX7_scrollUp_20 rfl ?_
      refine pw_get (v := .int (zI (F 13))) okX7 (k := 13) (by decide) lkX7_64 (scAt_put hA).1.1 rfl dX7_scrollUp_21 ?_
      refine pw_iconst (v := zI (1)) dX7_scrollUp_24 (by decide) ?_
      refine pw_ziadd dX7_scrollUp_25 ?_
      refine pw_min cwX7_116 dX7_scrollUp_26 (by omega) (by omega) ⟨nle rfl, nle rfl⟩ ⟨nle rfl, nle rfl⟩ ?_
      refine pw_istore_n (lv' := [some (.ref (I 0)), some (.int (zI (k))), some (.int (zI (min (k) ((F 13) + (1))))), none]) dX7_scrollUp_29 (by decide) rfl rfl ?_
      refine pw_iconst (v := zI (0)) dX7_scrollUp_30 (by decide) ?_
      refine pw_istore_n (lv' := [some (.ref (I 0)), some (.int (zI (k))), some (.int (zI (min (k) ((F 13) + (1))))), some (.int (zI (0)))]) dX7_scrollUp_31 (by decide) rfl rfl ?_
      refine pw_h (scPut_put (F := va_up F 7 0) (m := m) (o := o) (T := T) (c := c) (l := l)).symm ?_
      refine lX7_hist (F := va_up F 7 0) (g := min k (F 13 + 1)) htr hG0 (scAt_put hA) (scOk_7 hO0) (by show min (k) (F 13 + 1) ≤ F 13 + 1; omega) (fun p hp hpe i => ?_) _ 0 (T, c, l) rfl (by omega) (by omega) ⟨oT3, oT4⟩ (by rw [Int.sub_zero])
      refine pw_h scPut_put ?_
      refine pw_aload_n dX7_scrollUp_59 rfl ?_
      refine pw_aload_n dX7_scrollUp_60 rfl ?_
      refine pw_get (v := .int (zI (F 12))) okX7 (k := 12) (by decide) lkX7_58 (scAt_put hA).1.1 rfl dX7_scrollUp_61 ?_
      refine pw_iload_n dX7_scrollUp_64 rfl ?_
      refine pw_callV (As := [.int (zI (F 12)), .int (zI (k))]) (b := (I 0)) (rm := rmD 3 0 0) (mX7_raiseRows htr hG0 (scAt_put hA) (scOk_T (scOk_7 hO0) hp) (by omega) (by omega) ⟨by show 0 ≤ F 12; omega, by show F 12 ≤ F 13; omega⟩ (by omega)) rfl (scAt_put hA).1.1 rfl rfl ywX7_raiseRows rfl cwX7_126 ⟨nle rfl, nle rfl⟩ (nle rfl) ⟨nle rfl, nle rfl⟩ dX7_scrollUp_65 ?_ (fun _ _ _ z => z.elim)
      intro r2 h2 n2 hq _
      rw [hq.1, hq.2.1, hq.2.2]
      show pw E YX7_scrollUp _ _ 0 0 68 [some (.ref (I 0)), some (.int (zI (k))), some (.int (zI (min (k) ((F 13) + (1))))), some (.int (zI (i)))] [] (scPut w H N NH I (va_up F 7 (0)) (shM F m (sRaise w H (F 13) (F 3) (k) (F 8 * 128 + 32) (F 13 + 1 - (F 12)).toNat (F 12) (shG F m o))) (shO F o (sRaise w H (F 13) (F 3) (k) (F 8 * 128 + 32) (F 13 + 1 - (F 12)).toNat (F 12) (shG F m o))) p.1 p.2.1 p.2.2 (scPut w H N NH I (va_up F 7 (0)) m o p.1 p.2.1 p.2.2 h)) n
      refine pw_h scPut_put ?_
      exact pw_vret dX7_scrollUp_68 rfl (nle rfl) (nle rfl) ⟨rfl, by subst hpe; show _ = zP w H N NH I (_, _, _, sGone w H NH F m T c l k) h; rw [show sGone w H NH F m T c l k = sHist w H NH (F 3) m (min k (F 13 + 1)).toNat 0 (T, c, l) from if_pos (by omega)]; first | done | rfl, rfl⟩
set_option maxHeartbeats 4000000 in
set_option maxRecDepth 100000 in
/-- Screen.goDown() -/
theorem mX7_goDown {E : pw_E} (htr : E.1.stackTraces = false) {h : pz_H} {n : Nat} {w H : Int} {N NH : Nat} {I : Nat → Nat} {F m o T c l : Nat → Int} (hG : geo w H N NH) (hA : scAt w H N NH I F m o T c l h) (hO : scOk w H F T) : pw_M E yX7_goDown YX7_goDown (rmD 6 0 0) [.ref (I 0)] h n (fun r h' n' => r = none ∧ h' = zP w H N NH I (zDown w H NH (F, m, o, T, c, l)) h ∧ n' = n) (fun _ _ _ => False) := by
  have hG0 := hG
  have hO0 := hO
  obtain ⟨gw, gH, gN, gN2, gNH⟩ := hG
  obtain ⟨o3, o4, o5, o6, o7, o8, o9, o10, o11, o12, o14, o15, o16, o17, oT3, oT4⟩ := hO
  refine pw_M_of (lv := [some (.ref (I 0))]) (by decide) rfl rfl htr (nle rfl) rfl (fun L => ?_)
  refine pw_h (scPut_id hA).symm ?_
  refine pw_aload_n dX7_goDown_0 rfl ?_
  refine pw_get (v := .int (zI (F 6))) okX7 (k := 6) (by decide) lkX7_46 (scAt_put hA).1.1 rfl dX7_goDown_1 ?_
  refine pw_aload_n dX7_goDown_4 rfl ?_
  refine pw_get (v := .int (zI (F 13))) okX7 (k := 13) (by decide) lkX7_64 (scAt_put hA).1.1 rfl dX7_goDown_5 ?_
  refine pw_icmp_ne (tgt := 19) dX7_goDown_8 rfl (by omega) (by omega) (fun c8 => ?_) (fun c8 => ?_)
  ·
    refine pw_aload_n dX7_goDown_19 rfl ?_
    refine pw_aload_n dX7_goDown_20 rfl ?_
    refine pw_get (v := .int (zI (F 5))) okX7 (k := 5) (by decide) lkX7_42 (scAt_put hA).1.1 rfl dX7_goDown_21 ?_
    refine pw_aload_n dX7_goDown_24 rfl ?_
    refine pw_get (v := .int (zI (F 6))) okX7 (k := 6) (by decide) lkX7_46 (scAt_put hA).1.1 rfl dX7_goDown_25 ?_
    refine pw_iconst (v := zI (1)) dX7_goDown_28 (by decide) ?_
    refine pw_ziadd dX7_goDown_29 ?_
    refine pw_callV (As := [.int (zI (F 5)), .int (zI ((F 6) + (1)))]) (b := (I 0)) (rm := rmD 2 0 0) (mX7_moveTo htr hG0 (scAt_put hA) (hO0) (by omega) (by omega)) rfl (scAt_put hA).1.1 rfl rfl ywX7_moveTo rfl cwX7_79 ⟨nle rfl, nle rfl⟩ (nle rfl) ⟨nle rfl, nle rfl⟩ dX7_goDown_30 ?_ (fun _ _ _ z => z.elim)
    intro r2 h2 n2 hq _
    rw [hq.1, hq.2.1, hq.2.2]
    show pw E YX7_goDown _ _ 0 0 33 [some (.ref (I 0))] [] (scPut w H N NH I (sMove F (F 5) ((F 6) + (1))) m o T c l (scPut w H N NH I F m o T c l h)) n
    refine pw_h scPut_put ?_
    exact pw_vret dX7_goDown_33 rfl (nle rfl) (nle rfl) ⟨rfl, by rw [show zDown w H NH (F, m, o, T, c, l) = (sMove F (F 5) (F 6 + 1), m, o, T, c, l) from if_neg (show ¬ F 6 = F 13 by omega)]; first | done | rfl, rfl⟩
  ·
    refine pw_aload_n dX7_goDown_11 rfl ?_
    refine pw_iconst (v := zI (1)) dX7_goDown_12 (by decide) ?_
    refine pw_callV (As := [.int (zI (1))]) (b := (I 0)) (rm := rmD 5 0 0) (mX7_scrollUp htr hG0 (scAt_put hA) hO0 (by omega) (by omega)) rfl (scAt_put hA).1.1 rfl rfl ywX7_scrollUp rfl cwX7_107 ⟨nle rfl, nle rfl⟩ (nle rfl) ⟨nle rfl, nle rfl⟩ dX7_goDown_13 ?_ (fun _ _ _ z => z.elim)
    intro r2 h2 n2 hq _
    rw [hq.1, hq.2.1, hq.2.2]
    show pw E YX7_goDown _ _ 0 0 16 [some (.ref (I 0))] [] (zP w H N NH I (zScrollUp w H NH (1) (F, m, o, T, c, l)) (scPut w H N NH I F m o T c l h)) n
    refine pw_h (h' := zP w H N NH I (zScrollUp w H NH (1) (F, m, o, T, c, l)) h) scPut_put ?_
    refine pw_goto (tgt := 33) dX7_goDown_16 rfl ?_
    exact pw_vret dX7_goDown_33 rfl (nle rfl) (nle rfl) ⟨rfl, by rw [show zDown w H NH (F, m, o, T, c, l) = zScrollUp w H NH 1 (F, m, o, T, c, l) from if_pos (show F 6 = F 13 by omega)], rfl⟩
set_option maxHeartbeats 4000000 in
set_option maxRecDepth 100000 in
/-- Screen.goUp() -/
theorem mX7_goUp {E : pw_E} (htr : E.1.stackTraces = false) {h : pz_H} {n : Nat} {w H : Int} {N NH : Nat} {I : Nat → Nat} {F m o T c l : Nat → Int} (hG : geo w H N NH) (hA : scAt w H N NH I F m o T c l h) (hO : scOk w H F T) : pw_M E yX7_goUp YX7_goUp (rmD 5 0 0) [.ref (I 0)] h n (fun r h' n' => r = none ∧ h' = zP w H N NH I (zUp w H (F, m, o, T, c, l)) h ∧ n' = n) (fun _ _ _ => False) := by
  have hG0 := hG
  have hO0 := hO
  obtain ⟨gw, gH, gN, gN2, gNH⟩ := hG
  obtain ⟨o3, o4, o5, o6, o7, o8, o9, o10, o11, o12, o14, o15, o16, o17, oT3, oT4⟩ := hO
  refine pw_M_of (lv := [some (.ref (I 0))]) (by decide) rfl rfl htr (nle rfl) rfl (fun L => ?_)
  refine pw_h (scPut_id hA).symm ?_
  refine pw_aload_n dX7_goUp_0 rfl ?_
  refine pw_get (v := .int (zI (F 6))) okX7 (k := 6) (by decide) lkX7_46 (scAt_put hA).1.1 rfl dX7_goUp_1 ?_
  refine pw_aload_n dX7_goUp_4 rfl ?_
  refine pw_get (v := .int (zI (F 12))) okX7 (k := 12) (by decide) lkX7_58 (scAt_put hA).1.1 rfl dX7_goUp_5 ?_
  refine pw_icmp_ne (tgt := 19) dX7_goUp_8 rfl (by omega) (by omega) (fun c8 => ?_) (fun c8 => ?_)
  ·
    refine pw_aload_n dX7_goUp_19 rfl ?_
    refine pw_aload_n dX7_goUp_20 rfl ?_
    refine pw_get (v := .int (zI (F 5))) okX7 (k := 5) (by decide) lkX7_42 (scAt_put hA).1.1 rfl dX7_goUp_21 ?_
    refine pw_aload_n dX7_goUp_24 rfl ?_
    refine pw_get (v := .int (zI (F 6))) okX7 (k := 6) (by decide) lkX7_46 (scAt_put hA).1.1 rfl dX7_goUp_25 ?_
    refine pw_iconst (v := zI (1)) dX7_goUp_28 (by decide) ?_
    refine pw_zisub dX7_goUp_29 ?_
    refine pw_callV (As := [.int (zI (F 5)), .int (zI ((F 6) - (1)))]) (b := (I 0)) (rm := rmD 2 0 0) (mX7_moveTo htr hG0 (scAt_put hA) (hO0) (by omega) (by omega)) rfl (scAt_put hA).1.1 rfl rfl ywX7_moveTo rfl cwX7_79 ⟨nle rfl, nle rfl⟩ (nle rfl) ⟨nle rfl, nle rfl⟩ dX7_goUp_30 ?_ (fun _ _ _ z => z.elim)
    intro r2 h2 n2 hq _
    rw [hq.1, hq.2.1, hq.2.2]
    show pw E YX7_goUp _ _ 0 0 33 [some (.ref (I 0))] [] (scPut w H N NH I (sMove F (F 5) ((F 6) - (1))) m o T c l (scPut w H N NH I F m o T c l h)) n
    refine pw_h scPut_put ?_
    exact pw_vret dX7_goUp_33 rfl (nle rfl) (nle rfl) ⟨rfl, by rw [show zUp w H (F, m, o, T, c, l) = (sMove F (F 5) (F 6 - 1), m, o, T, c, l) from if_neg (show ¬ F 6 = F 12 by omega)]; first | done | rfl, rfl⟩
  ·
    refine pw_aload_n dX7_goUp_11 rfl ?_
    refine pw_iconst (v := zI (1)) dX7_goUp_12 (by decide) ?_
    refine pw_callV (As := [.int (zI (1))]) (b := (I 0)) (rm := rmD 4 0 0) (mX7_scrollDown htr hG0 (scAt_put hA) hO0 (by omega) (by omega)) rfl (scAt_put hA).1.1 rfl rfl ywX7_scrollDown rfl cwX7_110 ⟨nle rfl, nle rfl⟩ (nle rfl) ⟨nle rfl, nle rfl⟩ dX7_goUp_13 ?_ (fun _ _ _ z => z.elim)
    intro r2 h2 n2 hq _
    rw [hq.1, hq.2.1, hq.2.2]
    show pw E YX7_goUp _ _ 0 0 16 [some (.ref (I 0))] [] (scPut w H N NH I (va_up F 7 0) (shM F m (sLower w H (F 12) (F 3) (1) (F 8 * 128 + 32) (F 13 + 1 - F 12).toNat (F 13) (shG F m o))) (shO F o (sLower w H (F 12) (F 3) (1) (F 8 * 128 + 32) (F 13 + 1 - F 12).toNat (F 13) (shG F m o))) T c l (scPut w H N NH I F m o T c l h)) n
    refine pw_h scPut_put ?_
    refine pw_goto (tgt := 33) dX7_goUp_16 rfl ?_
    exact pw_vret dX7_goUp_33 rfl (nle rfl) (nle rfl) ⟨rfl, by rw [show zUp w H (F, m, o, T, c, l) = zScrollDown w H 1 (F, m, o, T, c, l) from if_pos (show F 6 = F 12 by omega)]; first | done | rfl, rfl⟩
/-- r: the REGION from a to b, counted from 1 on -/
def sLast (F : Nat → Int) (b : Int) : Int := if b = 0 then F 4 else min b (F 4)
def sRegion (F : Nat → Int) (a b : Int) : Nat → Int := if a < sLast F b then sMove (va_up (va_up F 12 (a - 1)) 13 (sLast F b - 1)) 0 0 else F
theorem scOk_reg {w H : Int} {F T : Nat → Int} {x y : Int} (hO : scOk w H F T) (h1 : 0 ≤ x) (h2 : x ≤ y) (h3 : y < F 4) : scOk w H (va_up (va_up F 12 x) 13 y) T := by
  unfold scOk at *
  simp only [va_up]
  simp
  omega
set_option maxHeartbeats 4000000 in
set_option maxRecDepth 100000 in
/-- Screen.setRegion(a, b) -/
theorem mX7_setRegion {E : pw_E} (htr : E.1.stackTraces = false) {h : pz_H} {n : Nat} {w H : Int} {N NH : Nat} {I : Nat → Nat} {F m o T c l : Nat → Int} (hG : geo w H N NH) (hA : scAt w H N NH I F m o T c l h) (hO : scOk w H F T) {a b : Int} (h_a : -2147483648 ≤ a ∧ a < 2147483648) (h_b : -2147483648 ≤ b ∧ b < 2147483648) (ha : 1 ≤ a ∧ a ≤ 1000) (hb : 0 ≤ b ∧ b ≤ 1000) : pw_M E yX7_setRegion YX7_setRegion (rmD 3 0 0) [.ref (I 0), .int (zI (a)), .int (zI (b))] h n (fun r h' n' => r = none ∧ h' = scPut w H N NH I (sRegion F a b) m o T c l h ∧ n' = n) (fun _ _ _ => False) := by
  have hG0 := hG
  have hO0 := hO
  obtain ⟨gw, gH, gN, gN2, gNH⟩ := hG
  obtain ⟨o3, o4, o5, o6, o7, o8, o9, o10, o11, o12, o14, o15, o16, o17, oT3, oT4⟩ := hO
  refine pw_M_of (lv := [some (.ref (I 0)), some (.int (zI (a))), some (.int (zI (b))), none]) (by decide) rfl rfl htr (nle rfl) rfl (fun L => ?_)
  refine pw_h (scPut_id hA).symm ?_
  refine pw_iload_n dX7_setRegion_0 rfl ?_
  refine pw_if_ne (tgt := 11) dX7_setRegion_1 rfl (by omega) (fun c1 => ?_) (fun c1 => ?_)
  ·
    refine pw_iload_n dX7_setRegion_11 rfl ?_
    refine pw_aload_n dX7_setRegion_12 rfl ?_
    refine pw_get (v := .int (zI (F 4))) okX7 (k := 4) (by decide) lkX7_61 (scAt_put hA).1.1 rfl dX7_setRegion_13 ?_
    refine pw_min cwX7_116 dX7_setRegion_16 (by omega) (by omega) ⟨nle rfl, nle rfl⟩ ⟨nle rfl, nle rfl⟩ ?_
    refine pw_istore_n (lv' := [some (.ref (I 0)), some (.int (zI (a))), some (.int (zI (b))), some (.int (zI (min (b) (F 4))))]) dX7_setRegion_19 (by decide) rfl rfl ?_
    refine pw_iload_n dX7_setRegion_20 rfl ?_
    refine pw_iload_n dX7_setRegion_21 rfl ?_
    refine pw_icmp_le (tgt := 45) dX7_setRegion_22 rfl (by omega) (by omega) (fun c22 => ?_) (fun c22 => ?_)
    ·
      exact pw_vret dX7_setRegion_45 rfl (nle rfl) (nle rfl) ⟨rfl, by unfold sRegion sLast; first | (rw [if_pos (show b = 0 by omega)]; first | rw [if_pos (show a < F 4 by omega)] | rw [if_neg (show ¬ a < F 4 by omega)]) | (rw [if_neg (show ¬ b = 0 by omega)]; first | rw [if_pos (show a < min b (F 4) by omega)] | rw [if_neg (show ¬ a < min b (F 4) by omega)]), rfl⟩
    ·
      refine pw_aload_n dX7_setRegion_25 rfl ?_
      refine pw_iload_n dX7_setRegion_26 rfl ?_
      refine pw_iconst (v := zI (1)) dX7_setRegion_27 (by decide) ?_
      refine pw_zisub dX7_setRegion_28 ?_
      refine pw_put (fs' := (scObj I (va_up F 12 (a - 1)))) okX7 (k := 12) (by decide) lkX7_58 rfl rfl rfl (scAt_put hA).1.1 (nlt rfl) rfl dX7_setRegion_29 ?_
      refine pw_h (scU0 hA) ?_
      refine pw_aload_n dX7_setRegion_32 rfl ?_
      refine pw_iload_n dX7_setRegion_33 rfl ?_
      refine pw_iconst (v := zI (1)) dX7_setRegion_34 (by decide) ?_
      refine pw_zisub dX7_setRegion_35 ?_
      refine pw_put (fs' := (scObj I (va_up (va_up F 12 (a - 1)) 13 ((min (b) (F 4)) - (1))))) okX7 (k := 13) (by decide) lkX7_64 rfl rfl rfl (scAt_put hA).1.1 (nlt rfl) rfl dX7_setRegion_36 ?_
      refine pw_h (scU0 hA) ?_
      refine pw_aload_n dX7_setRegion_39 rfl ?_
      refine pw_iconst (v := zI (0)) dX7_setRegion_40 (by decide) ?_
      refine pw_iconst (v := zI (0)) dX7_setRegion_41 (by decide) ?_
      refine pw_callV (As := [.int (zI (0)), .int (zI (0))]) (b := (I 0)) (rm := rmD 2 0 0) (mX7_moveTo htr hG0 (scAt_put hA) (scOk_reg hO0 (by omega) (by omega) (by omega)) (by omega) (by omega)) rfl (scAt_put hA).1.1 rfl rfl ywX7_moveTo rfl cwX7_79 ⟨nle rfl, nle rfl⟩ (nle rfl) ⟨nle rfl, nle rfl⟩ dX7_setRegion_42 ?_ (fun _ _ _ z => z.elim)
      intro r2 h2 n2 hq _
      rw [hq.1, hq.2.1, hq.2.2]
      show pw E YX7_setRegion _ _ 0 0 45 [some (.ref (I 0)), some (.int (zI (a))), some (.int (zI (b))), some (.int (zI (min (b) (F 4))))] [] (scPut w H N NH I (sMove (va_up (va_up F 12 (a - 1)) 13 ((min (b) (F 4)) - (1))) (0) (0)) m o T c l (scPut w H N NH I (va_up (va_up F 12 (a - 1)) 13 ((min (b) (F 4)) - (1))) m o T c l h)) n
      refine pw_h scPut_put ?_
      exact pw_vret dX7_setRegion_45 rfl (nle rfl) (nle rfl) ⟨rfl, by unfold sRegion sLast; first | (rw [if_pos (show b = 0 by omega)]; first | rw [if_pos (show a < F 4 by omega)] | rw [if_neg (show ¬ a < F 4 by omega)]) | (rw [if_neg (show ¬ b = 0 by omega)]; first | rw [if_pos (show a < min b (F 4) by omega)] | rw [if_neg (show ¬ a < min b (F 4) by omega)]), rfl⟩
  ·
    refine pw_aload_n dX7_setRegion_4 rfl ?_
    refine pw_get (v := .int (zI (F 4))) okX7 (k := 4) (by decide) lkX7_61 (scAt_put hA).1.1 rfl dX7_setRegion_5 ?_
    refine pw_goto (tgt := 19) dX7_setRegion_8 rfl ?_
    refine pw_istore_n (lv' := [some (.ref (I 0)), some (.int (zI (a))), some (.int (zI (b))), some (.int (zI (F 4)))]) dX7_setRegion_19 (by decide) rfl rfl ?_
    refine pw_iload_n dX7_setRegion_20 rfl ?_
    refine pw_iload_n dX7_setRegion_21 rfl ?_
    refine pw_icmp_le (tgt := 45) dX7_setRegion_22 rfl (by omega) (by omega) (fun c22 => ?_) (fun c22 => ?_)
    ·
      exact pw_vret dX7_setRegion_45 rfl (nle rfl) (nle rfl) ⟨rfl, by unfold sRegion sLast; first | (rw [if_pos (show b = 0 by omega)]; first | rw [if_pos (show a < F 4 by omega)] | rw [if_neg (show ¬ a < F 4 by omega)]) | (rw [if_neg (show ¬ b = 0 by omega)]; first | rw [if_pos (show a < min b (F 4) by omega)] | rw [if_neg (show ¬ a < min b (F 4) by omega)]), rfl⟩
    ·
      refine pw_aload_n dX7_setRegion_25 rfl ?_
      refine pw_iload_n dX7_setRegion_26 rfl ?_
      refine pw_iconst (v := zI (1)) dX7_setRegion_27 (by decide) ?_
      refine pw_zisub dX7_setRegion_28 ?_
      refine pw_put (fs' := (scObj I (va_up F 12 (a - 1)))) okX7 (k := 12) (by decide) lkX7_58 rfl rfl rfl (scAt_put hA).1.1 (nlt rfl) rfl dX7_setRegion_29 ?_
      refine pw_h (scU0 hA) ?_
      refine pw_aload_n dX7_setRegion_32 rfl ?_
      refine pw_iload_n dX7_setRegion_33 rfl ?_
      refine pw_iconst (v := zI (1)) dX7_setRegion_34 (by decide) ?_
      refine pw_zisub dX7_setRegion_35 ?_
      refine pw_put (fs' := (scObj I (va_up (va_up F 12 (a - 1)) 13 ((F 4) - (1))))) okX7 (k := 13) (by decide) lkX7_64 rfl rfl rfl (scAt_put hA).1.1 (nlt rfl) rfl dX7_setRegion_36 ?_
      refine pw_h (scU0 hA) ?_
      refine pw_aload_n dX7_setRegion_39 rfl ?_
      refine pw_iconst (v := zI (0)) dX7_setRegion_40 (by decide) ?_
      refine pw_iconst (v := zI (0)) dX7_setRegion_41 (by decide) ?_
      refine pw_callV (As := [.int (zI (0)), .int (zI (0))]) (b := (I 0)) (rm := rmD 2 0 0) (mX7_moveTo htr hG0 (scAt_put hA) (scOk_reg hO0 (by omega) (by omega) (by omega)) (by omega) (by omega)) rfl (scAt_put hA).1.1 rfl rfl ywX7_moveTo rfl cwX7_79 ⟨nle rfl, nle rfl⟩ (nle rfl) ⟨nle rfl, nle rfl⟩ dX7_setRegion_42 ?_ (fun _ _ _ z => z.elim)
      intro r2 h2 n2 hq _
      rw [hq.1, hq.2.1, hq.2.2]
      show pw E YX7_setRegion _ _ 0 0 45 [some (.ref (I 0)), some (.int (zI (a))), some (.int (zI (b))), some (.int (zI (F 4)))] [] (scPut w H N NH I (sMove (va_up (va_up F 12 (a - 1)) 13 ((F 4) - (1))) (0) (0)) m o T c l (scPut w H N NH I (va_up (va_up F 12 (a - 1)) 13 ((F 4) - (1))) m o T c l h)) n
      refine pw_h scPut_put ?_
      exact pw_vret dX7_setRegion_45 rfl (nle rfl) (nle rfl) ⟨rfl, by unfold sRegion sLast; first | (rw [if_pos (show b = 0 by omega)]; first | rw [if_pos (show a < F 4 by omega)] | rw [if_neg (show ¬ a < F 4 by omega)]) | (rw [if_neg (show ¬ b = 0 by omega)]; first | rw [if_pos (show a < min b (F 4) by omega)] | rw [if_neg (show ¬ a < min b (F 4) by omega)]), rfl⟩
