def YX7_deleteCells : pw_Y := (RX7, "deleteCells", cX7_deleteCells, 3, none)
theorem ywX7_deleteCells : pw_y yX7_deleteCells YX7_deleteCells 1 := ⟨by decide +kernel, by decide +kernel, by decide +kernel, pw_in 1045 (by decide +kernel) (by decide +kernel), pw_in 83 (by decide +kernel) (by decide +kernel)⟩
def YX7_eraseInRow : pw_Y := (RX7, "eraseInRow", cX7_eraseInRow, 4, none)
theorem ywX7_eraseInRow : pw_y yX7_eraseInRow YX7_eraseInRow 1 := ⟨by decide +kernel, by decide +kernel, by decide +kernel, pw_in 1019 (by decide +kernel) (by decide +kernel), pw_in 83 (by decide +kernel) (by decide +kernel)⟩
theorem lkX7_64 : Cond.fieldLink RX7 64 (TX7 13).1 (TX7 13).2.1 (TX7 13).2.2.1 ∈ pw_G := pw_in 220 (by decide +kernel) (by decide +kernel)
theorem cwX7_132 : Cond.methodLink RX7 132 yX0_moveRow ∈ pw_G ∧ Cond.instanceMethod yX0_moveRow ∈ pw_G ∧ Cond.selects RX0 yX0_moveRow yX0_moveRow ∈ pw_G := ⟨pw_in 977 (by decide +kernel) (by decide +kernel), pw_in 978 (by decide +kernel) (by decide +kernel), pw_in 979 (by decide +kernel) (by decide +kernel)⟩
def YX7_raiseRows : pw_Y := (RX7, "raiseRows", cX7_raiseRows, 5, none)
theorem ywX7_raiseRows : pw_y yX7_raiseRows YX7_raiseRows 2 := ⟨by decide +kernel, by decide +kernel, by decide +kernel, pw_in 975 (by decide +kernel) (by decide +kernel), pw_in 83 (by decide +kernel) (by decide +kernel)⟩
def YX7_lowerRows : pw_Y := (RX7, "lowerRows", cX7_lowerRows, 5, none)
theorem ywX7_lowerRows : pw_y yX7_lowerRows YX7_lowerRows 2 := ⟨by decide +kernel, by decide +kernel, by decide +kernel, pw_in 1028 (by decide +kernel) (by decide +kernel), pw_in 83 (by decide +kernel) (by decide +kernel)⟩
def YX7_scrollDown : pw_Y := (RX7, "scrollDown", cX7_scrollDown, 2, none)
theorem ywX7_scrollDown : pw_y yX7_scrollDown YX7_scrollDown 1 := ⟨by decide +kernel, by decide +kernel, by decide +kernel, pw_in 1054 (by decide +kernel) (by decide +kernel), pw_in 83 (by decide +kernel) (by decide +kernel)⟩
theorem lkX7_58 : Cond.fieldLink RX7 58 (TX7 12).1 (TX7 12).2.1 (TX7 12).2.2.1 ∈ pw_G := pw_in 219 (by decide +kernel) (by decide +kernel)
theorem cwX7_129 : Cond.methodLink RX7 129 yX7_lowerRows ∈ pw_G ∧ Cond.instanceMethod yX7_lowerRows ∈ pw_G ∧ Cond.selects RX7 yX7_lowerRows yX7_lowerRows ∈ pw_G := ⟨pw_in 1025 (by decide +kernel) (by decide +kernel), pw_in 1027 (by decide +kernel) (by decide +kernel), pw_in 19 (by decide +kernel) (by decide +kernel)⟩
def YX7_insertRows : pw_Y := (RX7, "insertRows", cX7_insertRows, 2, none)
theorem ywX7_insertRows : pw_y yX7_insertRows YX7_insertRows 1 := ⟨by decide +kernel, by decide +kernel, by decide +kernel, pw_in 1024 (by decide +kernel) (by decide +kernel), pw_in 83 (by decide +kernel) (by decide +kernel)⟩
def YX7_deleteRows : pw_Y := (RX7, "deleteRows", cX7_deleteRows, 2, none)
theorem ywX7_deleteRows : pw_y yX7_deleteRows YX7_deleteRows 1 := ⟨by decide +kernel, by decide +kernel, by decide +kernel, pw_in 1032 (by decide +kernel) (by decide +kernel), pw_in 83 (by decide +kernel) (by decide +kernel)⟩
theorem cwX7_126 : Cond.methodLink RX7 126 yX7_raiseRows ∈ pw_G ∧ Cond.instanceMethod yX7_raiseRows ∈ pw_G ∧ Cond.selects RX7 yX7_raiseRows yX7_raiseRows ∈ pw_G := ⟨pw_in 972 (by decide +kernel) (by decide +kernel), pw_in 974 (by decide +kernel) (by decide +kernel), pw_in 12 (by decide +kernel) (by decide +kernel)⟩
theorem lkX7_28 : Cond.fieldLink RX7 28 (TX7 2).1 (TX7 2).2.1 (TX7 2).2.2.1 ∈ pw_G := pw_in 196 (by decide +kernel) (by decide +kernel)
theorem cwX7_122 : Cond.methodLink RX7 122 yX1_add ∈ pw_G ∧ Cond.instanceMethod yX1_add ∈ pw_G ∧ Cond.selects RX1 yX1_add yX1_add ∈ pw_G := ⟨pw_in 967 (by decide +kernel) (by decide +kernel), pw_in 968 (by decide +kernel) (by decide +kernel), pw_in 969 (by decide +kernel) (by decide +kernel)⟩
def YX7_scrollUp : pw_Y := (RX7, "scrollUp", cX7_scrollUp, 4, none)
theorem ywX7_scrollUp : pw_y yX7_scrollUp YX7_scrollUp 1 := ⟨by decide +kernel, by decide +kernel, by decide +kernel, pw_in 965 (by decide +kernel) (by decide +kernel), pw_in 83 (by decide +kernel) (by decide +kernel)⟩
set_option maxHeartbeats 4000000 in
set_option maxRecDepth 100000 in
/-- Screen.deleteCells(k) -/
theorem mX7_deleteCells {E : pw_E} (htr : E.1.stackTraces = false) {h : pz_H} {n : Nat} {w H : Int} {N NH : Nat} {I : Nat → Nat} {F m o T c l : Nat → Int} (hG : geo w H N NH) (hA : scAt w H N NH I F m o T c l h) (hO : scOk w H F T) {k : Int} (h_k : -2147483648 ≤ k ∧ k < 2147483648) (hk : 0 ≤ k ∧ k ≤ 1000) : pw_M E yX7_deleteCells YX7_deleteCells (rmD 3 0 0) [.ref (I 0), .int (zI (k))] h n (fun r h' n' => r = none ∧ h' = scPut w H N NH I F (shM F m (gfill w H (F 6) (F 3 - min k (F 3 - F 5)) (F 3) (F 8 * 128 + 32) (gmoveCells w H (F 6) (F 5 + min k (F 3 - F 5)) (F 5) (F 3 - F 5 - min k (F 3 - F 5)) (shG F m o)))) (shO F o (gfill w H (F 6) (F 3 - min k (F 3 - F 5)) (F 3) (F 8 * 128 + 32) (gmoveCells w H (F 6) (F 5 + min k (F 3 - F 5)) (F 5) (F 3 - F 5 - min k (F 3 - F 5)) (shG F m o)))) T c l h ∧ n' = n) (fun _ _ _ => False) := by
  have hG0 := hG
  have hO0 := hO
  obtain ⟨gw, gH, gN, gN2, gNH⟩ := hG
  obtain ⟨o3, o4, o5, o6, o7, o8, o9, o10, o11, o12, o14, o15, o16, o17, oT3, oT4⟩ := hO
  refine pw_M_of (lv := [some (.ref (I 0)), some (.int (zI (k))), none]) (by decide) rfl rfl htr (nle rfl) rfl (fun L => ?_)
  refine pw_h (scPut_idS hA).symm ?_
  refine pw_iload_n dX7_deleteCells_0 rfl ?_
  refine pw_aload_n dX7_deleteCells_1 rfl ?_
  refine pw_get (v := .int (zI (F 3))) okX7 (k := 3) (by decide) lkX7_76 (scAt_put hA).1.1 rfl dX7_deleteCells_2 ?_
  refine pw_aload_n dX7_deleteCells_5 rfl ?_
  refine pw_get (v := .int (zI (F 5))) okX7 (k := 5) (by decide) lkX7_42 (scAt_put hA).1.1 rfl dX7_deleteCells_6 ?_
  refine pw_zisub dX7_deleteCells_9 ?_
  refine pw_min cwX7_116 dX7_deleteCells_10 (by omega) (by omega) ⟨nle rfl, nle rfl⟩ ⟨nle rfl, nle rfl⟩ ?_
  refine pw_istore_n (lv' := [some (.ref (I 0)), some (.int (zI (k))), some (.int (zI (min (k) ((F 3) - (F 5)))))]) dX7_deleteCells_13 (by decide) rfl rfl ?_
  refine pw_aload_n dX7_deleteCells_14 rfl ?_
  refine pw_callV (As := []) (b := (I 0)) (rm := rmD 0 0 0) (mX7_shown htr hG0 (scAt_put hA) (hO0)) rfl (scAt_put hA).1.1 rfl rfl ywX7_shown rfl cwX7_95 ⟨nle rfl, nle rfl⟩ (nle rfl) ⟨nle rfl, nle rfl⟩ dX7_deleteCells_15 ?_ (fun _ _ _ z => z.elim)
  intro r2 h2 n2 hq _
  rw [hq.1, hq.2.1, hq.2.2]
  show pw E YX7_deleteCells _ _ 0 0 18 [some (.ref (I 0)), some (.int (zI (k))), some (.int (zI (min (k) ((F 3) - (F 5)))))] [.ref (I (sq F + 5))] (scPut w H N NH I F (shM F m (shG F m o)) (shO F o (shG F m o)) T c l h) n
  refine pw_aload_n dX7_deleteCells_18 rfl ?_
  refine pw_get (v := .int (zI (F 6))) okX7 (k := 6) (by decide) lkX7_46 (scAt_put hA).1.1 rfl dX7_deleteCells_19 ?_
  refine pw_aload_n dX7_deleteCells_22 rfl ?_
  refine pw_get (v := .int (zI (F 5))) okX7 (k := 5) (by decide) lkX7_42 (scAt_put hA).1.1 rfl dX7_deleteCells_23 ?_
  refine pw_iload_n dX7_deleteCells_26 rfl ?_
  refine pw_ziadd dX7_deleteCells_27 ?_
  refine pw_aload_n dX7_deleteCells_28 rfl ?_
  refine pw_get (v := .int (zI (F 5))) okX7 (k := 5) (by decide) lkX7_42 (scAt_put hA).1.1 rfl dX7_deleteCells_29 ?_
  refine pw_aload_n dX7_deleteCells_32 rfl ?_
  refine pw_get (v := .int (zI (F 3))) okX7 (k := 3) (by decide) lkX7_76 (scAt_put hA).1.1 rfl dX7_deleteCells_33 ?_
  refine pw_aload_n dX7_deleteCells_36 rfl ?_
  refine pw_get (v := .int (zI (F 5))) okX7 (k := 5) (by decide) lkX7_42 (scAt_put hA).1.1 rfl dX7_deleteCells_37 ?_
  refine pw_zisub dX7_deleteCells_40 ?_
  refine pw_iload_n dX7_deleteCells_41 rfl ?_
  refine pw_zisub dX7_deleteCells_42 ?_
  refine pw_callV (As := [.int (zI (F 6)), .int (zI ((F 5) + (min (k) ((F 3) - (F 5))))), .int (zI (F 5)), .int (zI (((F 3) - (F 5)) - (min (k) ((F 3) - (F 5)))))]) (b := (I (sq F + 5))) (rm := rmD 1 0 0) (mX0_moveCells htr (scSg (scAt_put hA)) (scSx hA) (scSne hA) (by omega) (by omega) gN gN2 (by omega) (by omega) (by omega) (by omega)) rfl (scSg (scAt_put hA)) rfl rfl ywX0_moveCells rfl cwX7_99 ⟨nle rfl, nle rfl⟩ (nle rfl) ⟨nle rfl, nle rfl⟩ dX7_deleteCells_43 ?_ (fun _ _ _ z => z.elim)
  intro r2 h2 n2 hq _
  rw [hq.1, hq.2.1, hq.2.2]
  show pw E YX7_deleteCells _ _ 0 0 46 [some (.ref (I 0)), some (.int (zI (k))), some (.int (zI (min (k) ((F 3) - (F 5)))))] [] (va_up (scPut w H N NH I F (shM F m (shG F m o)) (shO F o (shG F m o)) T c l h) (I (sq F)) (pz_z 0 N (gmoveCells w H (F 6) ((F 5) + (min (k) ((F 3) - (F 5)))) (F 5) (((F 3) - (F 5)) - (min (k) ((F 3) - (F 5)))) (shG F m o)))) n
  refine pw_h (scUS hA) ?_
  refine pw_aload_n dX7_deleteCells_46 rfl ?_
  refine pw_callV (As := []) (b := (I 0)) (rm := rmD 0 0 0) (mX7_shown htr hG0 (scAt_put hA) (hO0)) rfl (scAt_put hA).1.1 rfl rfl ywX7_shown rfl cwX7_95 ⟨nle rfl, nle rfl⟩ (nle rfl) ⟨nle rfl, nle rfl⟩ dX7_deleteCells_47 ?_ (fun _ _ _ z => z.elim)
  intro r2 h2 n2 hq _
  rw [hq.1, hq.2.1, hq.2.2]
  show pw E YX7_deleteCells _ _ 0 0 50 [some (.ref (I 0)), some (.int (zI (k))), some (.int (zI (min (k) ((F 3) - (F 5)))))] [.ref (I (sq F + 5))] (scPut w H N NH I F (shM F m (gmoveCells w H (F 6) ((F 5) + (min (k) ((F 3) - (F 5)))) (F 5) (((F 3) - (F 5)) - (min (k) ((F 3) - (F 5)))) (shG F m o))) (shO F o (gmoveCells w H (F 6) ((F 5) + (min (k) ((F 3) - (F 5)))) (F 5) (((F 3) - (F 5)) - (min (k) ((F 3) - (F 5)))) (shG F m o))) T c l h) n
  refine pw_aload_n dX7_deleteCells_50 rfl ?_
  refine pw_get (v := .int (zI (F 6))) okX7 (k := 6) (by decide) lkX7_46 (scAt_put hA).1.1 rfl dX7_deleteCells_51 ?_
  refine pw_aload_n dX7_deleteCells_54 rfl ?_
  refine pw_get (v := .int (zI (F 3))) okX7 (k := 3) (by decide) lkX7_76 (scAt_put hA).1.1 rfl dX7_deleteCells_55 ?_
  refine pw_iload_n dX7_deleteCells_58 rfl ?_
  refine pw_zisub dX7_deleteCells_59 ?_
  refine pw_aload_n dX7_deleteCells_60 rfl ?_
  refine pw_get (v := .int (zI (F 3))) okX7 (k := 3) (by decide) lkX7_76 (scAt_put hA).1.1 rfl dX7_deleteCells_61 ?_
  refine pw_aload_n dX7_deleteCells_64 rfl ?_
  refine pw_callV (As := []) (b := (I 0)) (rm := rmD 0 0 0) (mX7_blank htr hG0 (scAt_put hA) (hO0)) rfl (scAt_put hA).1.1 rfl rfl ywX7_blank rfl cwX7_135 ⟨nle rfl, nle rfl⟩ (nle rfl) ⟨nle rfl, nle rfl⟩ dX7_deleteCells_65 ?_ (fun _ _ _ z => z.elim)
  intro r2 h2 n2 hq _
  rw [hq.1, hq.2.1, hq.2.2]
  show pw E YX7_deleteCells _ _ 0 0 68 [some (.ref (I 0)), some (.int (zI (k))), some (.int (zI (min (k) ((F 3) - (F 5)))))] [.int (zI (F 8 * 128 + 32)), .int (zI (F 3)), .int (zI ((F 3) - (min (k) ((F 3) - (F 5))))), .int (zI (F 6)), .ref (I (sq F + 5))] (scPut w H N NH I F (shM F m (gmoveCells w H (F 6) ((F 5) + (min (k) ((F 3) - (F 5)))) (F 5) (((F 3) - (F 5)) - (min (k) ((F 3) - (F 5)))) (shG F m o))) (shO F o (gmoveCells w H (F 6) ((F 5) + (min (k) ((F 3) - (F 5)))) (F 5) (((F 3) - (F 5)) - (min (k) ((F 3) - (F 5)))) (shG F m o))) T c l h) n
  refine pw_callV (As := [.int (zI (F 6)), .int (zI ((F 3) - (min (k) ((F 3) - (F 5))))), .int (zI (F 3)), .int (zI (F 8 * 128 + 32))]) (b := (I (sq F + 5))) (rm := rmD 2 0 0) (mX0_fill htr (scSg (scAt_put hA)) (scSx hA) (scSne hA) (by omega) (by omega) gN gN2 (by omega) (by omega) (by omega) (by omega)) rfl (scSg (scAt_put hA)) rfl rfl ywX0_fill rfl cwX7_139 ⟨nle rfl, nle rfl⟩ (nle rfl) ⟨nle rfl, nle rfl⟩ dX7_deleteCells_68 ?_ (fun _ _ _ z => z.elim)
  intro r2 h2 n2 hq _
  rw [hq.1, hq.2.1, hq.2.2]
  show pw E YX7_deleteCells _ _ 0 0 71 [some (.ref (I 0)), some (.int (zI (k))), some (.int (zI (min (k) ((F 3) - (F 5)))))] [] (va_up (scPut w H N NH I F (shM F m (gmoveCells w H (F 6) ((F 5) + (min (k) ((F 3) - (F 5)))) (F 5) (((F 3) - (F 5)) - (min (k) ((F 3) - (F 5)))) (shG F m o))) (shO F o (gmoveCells w H (F 6) ((F 5) + (min (k) ((F 3) - (F 5)))) (F 5) (((F 3) - (F 5)) - (min (k) ((F 3) - (F 5)))) (shG F m o))) T c l h) (I (sq F)) (pz_z 0 N (gfill w H (F 6) ((F 3) - (min (k) ((F 3) - (F 5)))) (F 3) (F 8 * 128 + 32) (gmoveCells w H (F 6) ((F 5) + (min (k) ((F 3) - (F 5)))) (F 5) (((F 3) - (F 5)) - (min (k) ((F 3) - (F 5)))) (shG F m o))))) n
  refine pw_h (scUS hA) ?_
  exact pw_vret dX7_deleteCells_71 rfl (nle rfl) (nle rfl) ⟨rfl, rfl, rfl⟩
/-- cells of a row are erased: how = 0, 1, 2 -/
def sErow (w H : Int) (F : Nat → Int) (how : Int) (f : Nat → Int) : Nat → Int := if 0 ≤ how ∧ how ≤ 2 then gfill w H (F 6) (if how = 0 then F 5 else 0) (if how = 1 then F 5 + 1 else F 3) (F 8 * 128 + 32) f else f
set_option maxHeartbeats 4000000 in
set_option maxRecDepth 100000 in
/-- Screen.eraseInRow(how) -/
theorem mX7_eraseInRow {E : pw_E} (htr : E.1.stackTraces = false) {h : pz_H} {n : Nat} {w H : Int} {N NH : Nat} {I : Nat → Nat} {F m o T c l : Nat → Int} (hG : geo w H N NH) (hA : scAt w H N NH I F m o T c l h) (hO : scOk w H F T) {how : Int} (h_how : -2147483648 ≤ how ∧ how < 2147483648) : pw_M E yX7_eraseInRow YX7_eraseInRow (rmD 3 0 0) [.ref (I 0), .int (zI (how))] h n (fun r h' n' => r = none ∧ h' = scPut w H N NH I F (shM F m (sErow w H F how (shG F m o))) (shO F o (sErow w H F how (shG F m o))) T c l h ∧ n' = n) (fun _ _ _ => False) := by
  have hG0 := hG
  have hO0 := hO
  obtain ⟨gw, gH, gN, gN2, gNH⟩ := hG
  obtain ⟨o3, o4, o5, o6, o7, o8, o9, o10, o11, o12, o14, o15, o16, o17, oT3, oT4⟩ := hO
  refine pw_M_of (lv := [some (.ref (I 0)), some (.int (zI (how))), none, none]) (by decide) rfl rfl htr (nle rfl) rfl (fun L => ?_)
  refine pw_h (scPut_idS hA).symm ?_
  refine pw_iload_n dX7_eraseInRow_0 rfl ?_
  refine pw_if_lt (tgt := 58) dX7_eraseInRow_1 rfl (by omega) (fun c1 => ?_) (fun c1 => ?_)
  ·
    exact pw_vret dX7_eraseInRow_58 rfl (nle rfl) (nle rfl) ⟨rfl, by unfold sErow; rw [if_neg (by omega)], rfl⟩
  ·
    refine pw_iload_n dX7_eraseInRow_4 rfl ?_
    refine pw_iconst (v := zI (2)) dX7_eraseInRow_5 (by decide) ?_
    refine pw_icmp_gt (tgt := 58) dX7_eraseInRow_6 rfl (by omega) (by omega) (fun c6 => ?_) (fun c6 => ?_)
    ·
      exact pw_vret dX7_eraseInRow_58 rfl (nle rfl) (nle rfl) ⟨rfl, by unfold sErow; rw [if_neg (by omega)], rfl⟩
    ·
      refine pw_iload_n dX7_eraseInRow_9 rfl ?_
      refine pw_if_ne (tgt := 20) dX7_eraseInRow_10 rfl (by omega) (fun c10 => ?_) (fun c10 => ?_)
      ·
        refine pw_iconst (v := zI (0)) dX7_eraseInRow_20 (by decide) ?_
        refine pw_istore_n (lv' := [some (.ref (I 0)), some (.int (zI (how))), some (.int (zI (0))), none]) dX7_eraseInRow_21 (by decide) rfl rfl ?_
        refine pw_iload_n dX7_eraseInRow_22 rfl ?_
        refine pw_iconst (v := zI (1)) dX7_eraseInRow_23 (by decide) ?_
        refine pw_icmp_ne (tgt := 36) dX7_eraseInRow_24 rfl (by omega) (by omega) (fun c24 => ?_) (fun c24 => ?_)
        ·
          refine pw_aload_n dX7_eraseInRow_36 rfl ?_
          refine pw_get (v := .int (zI (F 3))) okX7 (k := 3) (by decide) lkX7_76 (scAt_put hA).1.1 rfl dX7_eraseInRow_37 ?_
          refine pw_istore_n (lv' := [some (.ref (I 0)), some (.int (zI (how))), some (.int (zI (0))), some (.int (zI (F 3)))]) dX7_eraseInRow_40 (by decide) rfl rfl ?_
          refine pw_aload_n dX7_eraseInRow_41 rfl ?_
          refine pw_callV (As := []) (b := (I 0)) (rm := rmD 0 0 0) (mX7_shown htr hG0 (scAt_put hA) (hO0)) rfl (scAt_put hA).1.1 rfl rfl ywX7_shown rfl cwX7_95 ⟨nle rfl, nle rfl⟩ (nle rfl) ⟨nle rfl, nle rfl⟩ dX7_eraseInRow_42 ?_ (fun _ _ _ z => z.elim)
          intro r2 h2 n2 hq _
          rw [hq.1, hq.2.1, hq.2.2]
          show pw E YX7_eraseInRow _ _ 0 0 45 [some (.ref (I 0)), some (.int (zI (how))), some (.int (zI (0))), some (.int (zI (F 3)))] [.ref (I (sq F + 5))] (scPut w H N NH I F (shM F m (shG F m o)) (shO F o (shG F m o)) T c l h) n
          refine pw_aload_n dX7_eraseInRow_45 rfl ?_
          refine pw_get (v := .int (zI (F 6))) okX7 (k := 6) (by decide) lkX7_46 (scAt_put hA).1.1 rfl dX7_eraseInRow_46 ?_
          refine pw_iload_n dX7_eraseInRow_49 rfl ?_
          refine pw_iload_n dX7_eraseInRow_50 rfl ?_
          refine pw_aload_n dX7_eraseInRow_51 rfl ?_
          refine pw_callV (As := []) (b := (I 0)) (rm := rmD 0 0 0) (mX7_blank htr hG0 (scAt_put hA) (hO0)) rfl (scAt_put hA).1.1 rfl rfl ywX7_blank rfl cwX7_135 ⟨nle rfl, nle rfl⟩ (nle rfl) ⟨nle rfl, nle rfl⟩ dX7_eraseInRow_52 ?_ (fun _ _ _ z => z.elim)
          intro r2 h2 n2 hq _
          rw [hq.1, hq.2.1, hq.2.2]
          show pw E YX7_eraseInRow _ _ 0 0 55 [some (.ref (I 0)), some (.int (zI (how))), some (.int (zI (0))), some (.int (zI (F 3)))] [.int (zI (F 8 * 128 + 32)), .int (zI (F 3)), .int (zI (0)), .int (zI (F 6)), .ref (I (sq F + 5))] (scPut w H N NH I F (shM F m (shG F m o)) (shO F o (shG F m o)) T c l h) n
          refine pw_callV (As := [.int (zI (F 6)), .int (zI (0)), .int (zI (F 3)), .int (zI (F 8 * 128 + 32))]) (b := (I (sq F + 5))) (rm := rmD 2 0 0) (mX0_fill htr (scSg (scAt_put hA)) (scSx hA) (scSne hA) (by omega) (by omega) gN gN2 (by omega) (by omega) (by omega) (by omega)) rfl (scSg (scAt_put hA)) rfl rfl ywX0_fill rfl cwX7_139 ⟨nle rfl, nle rfl⟩ (nle rfl) ⟨nle rfl, nle rfl⟩ dX7_eraseInRow_55 ?_ (fun _ _ _ z => z.elim)
          intro r2 h2 n2 hq _
          rw [hq.1, hq.2.1, hq.2.2]
          show pw E YX7_eraseInRow _ _ 0 0 58 [some (.ref (I 0)), some (.int (zI (how))), some (.int (zI (0))), some (.int (zI (F 3)))] [] (va_up (scPut w H N NH I F (shM F m (shG F m o)) (shO F o (shG F m o)) T c l h) (I (sq F)) (pz_z 0 N (gfill w H (F 6) (0) (F 3) (F 8 * 128 + 32) (shG F m o)))) n
          refine pw_h (scUS hA) ?_
          exact pw_vret dX7_eraseInRow_58 rfl (nle rfl) (nle rfl) ⟨rfl, by unfold sErow; rw [if_pos (by omega)]; first | (exfalso; omega) | rw [if_pos (show how = 0 by omega), if_neg (show ¬ how = 1 by omega)] | rw [if_neg (show ¬ how = 0 by omega), if_pos (show how = 1 by omega)] | rw [if_neg (show ¬ how = 0 by omega), if_neg (show ¬ how = 1 by omega)], rfl⟩
        ·
          refine pw_aload_n dX7_eraseInRow_27 rfl ?_
          refine pw_get (v := .int (zI (F 5))) okX7 (k := 5) (by decide) lkX7_42 (scAt_put hA).1.1 rfl dX7_eraseInRow_28 ?_
          refine pw_iconst (v := zI (1)) dX7_eraseInRow_31 (by decide) ?_
          refine pw_ziadd dX7_eraseInRow_32 ?_
          refine pw_goto (tgt := 40) dX7_eraseInRow_33 rfl ?_
          refine pw_istore_n (lv' := [some (.ref (I 0)), some (.int (zI (how))), some (.int (zI (0))), some (.int (zI ((F 5) + (1))))]) dX7_eraseInRow_40 (by decide) rfl rfl ?_
          refine pw_aload_n dX7_eraseInRow_41 rfl ?_
          refine pw_callV (As := []) (b := (I 0)) (rm := rmD 0 0 0) (mX7_shown htr hG0 (scAt_put hA) (hO0)) rfl (scAt_put hA).1.1 rfl rfl ywX7_shown rfl cwX7_95 ⟨nle rfl, nle rfl⟩ (nle rfl) ⟨nle rfl, nle rfl⟩ dX7_eraseInRow_42 ?_ (fun _ _ _ z => z.elim)
          intro r2 h2 n2 hq _
          rw [hq.1, hq.2.1, hq.2.2]
          show pw E YX7_eraseInRow _ _ 0 0 45 [some (.ref (I 0)), some (.int (zI (how))), some (.int (zI (0))), some (.int (zI ((F 5) + (1))))] [.ref (I (sq F + 5))] (scPut w H N NH I F (shM F m (shG F m o)) (shO F o (shG F m o)) T c l h) n
          refine pw_aload_n dX7_eraseInRow_45 rfl ?_
          refine pw_get (v := .int (zI (F 6))) okX7 (k := 6) (by decide) lkX7_46 (scAt_put hA).1.1 rfl dX7_eraseInRow_46 ?_
          refine pw_iload_n dX7_eraseInRow_49 rfl ?_
          refine pw_iload_n dX7_eraseInRow_50 rfl ?_
          refine pw_aload_n dX7_eraseInRow_51 rfl ?_
          refine pw_callV (As := []) (b := (I 0)) (rm := rmD 0 0 0) (mX7_blank htr hG0 (scAt_put hA) (hO0)) rfl (scAt_put hA).1.1 rfl rfl ywX7_blank rfl cwX7_135 ⟨nle rfl, nle rfl⟩ (nle rfl) ⟨nle rfl, nle rfl⟩ dX7_eraseInRow_52 ?_ (fun _ _ _ z => z.elim)
          intro r2 h2 n2 hq _
          rw [hq.1, hq.2.1, hq.2.2]
          show pw E YX7_eraseInRow _ _ 0 0 55 [some (.ref (I 0)), some (.int (zI (how))), some (.int (zI (0))), some (.int (zI ((F 5) + (1))))] [.int (zI (F 8 * 128 + 32)), .int (zI ((F 5) + (1))), .int (zI (0)), .int (zI (F 6)), .ref (I (sq F + 5))] (scPut w H N NH I F (shM F m (shG F m o)) (shO F o (shG F m o)) T c l h) n
          refine pw_callV (As := [.int (zI (F 6)), .int (zI (0)), .int (zI ((F 5) + (1))), .int (zI (F 8 * 128 + 32))]) (b := (I (sq F + 5))) (rm := rmD 2 0 0) (mX0_fill htr (scSg (scAt_put hA)) (scSx hA) (scSne hA) (by omega) (by omega) gN gN2 (by omega) (by omega) (by omega) (by omega)) rfl (scSg (scAt_put hA)) rfl rfl ywX0_fill rfl cwX7_139 ⟨nle rfl, nle rfl⟩ (nle rfl) ⟨nle rfl, nle rfl⟩ dX7_eraseInRow_55 ?_ (fun _ _ _ z => z.elim)
          intro r2 h2 n2 hq _
          rw [hq.1, hq.2.1, hq.2.2]
          show pw E YX7_eraseInRow _ _ 0 0 58 [some (.ref (I 0)), some (.int (zI (how))), some (.int (zI (0))), some (.int (zI ((F 5) + (1))))] [] (va_up (scPut w H N NH I F (shM F m (shG F m o)) (shO F o (shG F m o)) T c l h) (I (sq F)) (pz_z 0 N (gfill w H (F 6) (0) ((F 5) + (1)) (F 8 * 128 + 32) (shG F m o)))) n
          refine pw_h (scUS hA) ?_
          exact pw_vret dX7_eraseInRow_58 rfl (nle rfl) (nle rfl) ⟨rfl, by unfold sErow; rw [if_pos (by omega)]; first | (exfalso; omega) | rw [if_pos (show how = 0 by omega), if_neg (show ¬ how = 1 by omega)] | rw [if_neg (show ¬ how = 0 by omega), if_pos (show how = 1 by omega)] | rw [if_neg (show ¬ how = 0 by omega), if_neg (show ¬ how = 1 by omega)], rfl⟩
      ·
        refine pw_aload_n dX7_eraseInRow_13 rfl ?_
        refine pw_get (v := .int (zI (F 5))) okX7 (k := 5) (by decide) lkX7_42 (scAt_put hA).1.1 rfl dX7_eraseInRow_14 ?_
        refine pw_goto (tgt := 21) dX7_eraseInRow_17 rfl ?_
        refine pw_istore_n (lv' := [some (.ref (I 0)), some (.int (zI (how))), some (.int (zI (F 5))), none]) dX7_eraseInRow_21 (by decide) rfl rfl ?_
        refine pw_iload_n dX7_eraseInRow_22 rfl ?_
        refine pw_iconst (v := zI (1)) dX7_eraseInRow_23 (by decide) ?_
        refine pw_icmp_ne (tgt := 36) dX7_eraseInRow_24 rfl (by omega) (by omega) (fun c24 => ?_) (fun c24 => ?_)
        ·
          refine pw_aload_n dX7_eraseInRow_36 rfl ?_
          refine pw_get (v := .int (zI (F 3))) okX7 (k := 3) (by decide) lkX7_76 (scAt_put hA).1.1 rfl dX7_eraseInRow_37 ?_
          refine pw_istore_n (lv' := [some (.ref (I 0)), some (.int (zI (how))), some (.int (zI (F 5))), some (.int (zI (F 3)))]) dX7_eraseInRow_40 (by decide) rfl rfl ?_
          refine pw_aload_n dX7_eraseInRow_41 rfl ?_
          refine pw_callV (As := []) (b := (I 0)) (rm := rmD 0 0 0) (mX7_shown htr hG0 (scAt_put hA) (hO0)) rfl (scAt_put hA).1.1 rfl rfl ywX7_shown rfl cwX7_95 ⟨nle rfl, nle rfl⟩ (nle rfl) ⟨nle rfl, nle rfl⟩ dX7_eraseInRow_42 ?_ (fun _ _ _ z => z.elim)
          intro r2 h2 n2 hq _
          rw [hq.1, hq.2.1, hq.2.2]
          show pw E YX7_eraseInRow _ _ 0 0 45 [some (.ref (I 0)), some (.int (zI (how))), some (.int (zI (F 5))), some (.int (zI (F 3)))] [.ref (I (sq F + 5))] (scPut w H N NH I F (shM F m (shG F m o)) (shO F o (shG F m o)) T c l h) n
          refine pw_aload_n dX7_eraseInRow_45 rfl ?_
          refine pw_get (v := .int (zI (F 6))) okX7 (k := 6) (by decide) lkX7_46 (scAt_put hA).1.1 rfl dX7_eraseInRow_46 ?_
          refine pw_iload_n dX7_eraseInRow_49 rfl ?_
          refine pw_iload_n dX7_eraseInRow_50 rfl ?_
          refine pw_aload_n dX7_eraseInRow_51 rfl ?_
          refine pw_callV (As := []) (b := (I 0)) (rm := rmD 0 0 0) (mX7_blank htr hG0 (scAt_put hA) (hO0)) rfl (scAt_put hA).1.1 rfl rfl ywX7_blank rfl cwX7_135 ⟨nle rfl, nle rfl⟩ (nle rfl) ⟨nle rfl, nle rfl⟩ dX7_eraseInRow_52 ?_ (fun _ _ _ z => z.elim)
          intro r2 h2 n2 hq _
          rw [hq.1, hq.2.1, hq.2.2]
          show pw E YX7_eraseInRow _ _ 0 0 55 [some (.ref (I 0)), some (.int (zI (how))), some (.int (zI (F 5))), some (.int (zI (F 3)))] [.int (zI (F 8 * 128 + 32)), .int (zI (F 3)), .int (zI (F 5)), .int (zI (F 6)), .ref (I (sq F + 5))] (scPut w H N NH I F (shM F m (shG F m o)) (shO F o (shG F m o)) T c l h) n
          refine pw_callV (As := [.int (zI (F 6)), .int (zI (F 5)), .int (zI (F 3)), .int (zI (F 8 * 128 + 32))]) (b := (I (sq F + 5))) (rm := rmD 2 0 0) (mX0_fill htr (scSg (scAt_put hA)) (scSx hA) (scSne hA) (by omega) (by omega) gN gN2 (by omega) (by omega) (by omega) (by omega)) rfl (scSg (scAt_put hA)) rfl rfl ywX0_fill rfl cwX7_139 ⟨nle rfl, nle rfl⟩ (nle rfl) ⟨nle rfl, nle rfl⟩ dX7_eraseInRow_55 ?_ (fun _ _ _ z => z.elim)
          intro r2 h2 n2 hq _
          rw [hq.1, hq.2.1, hq.2.2]
          show pw E YX7_eraseInRow _ _ 0 0 58 [some (.ref (I 0)), some (.int (zI (how))), some (.int (zI (F 5))), some (.int (zI (F 3)))] [] (va_up (scPut w H N NH I F (shM F m (shG F m o)) (shO F o (shG F m o)) T c l h) (I (sq F)) (pz_z 0 N (gfill w H (F 6) (F 5) (F 3) (F 8 * 128 + 32) (shG F m o)))) n
          refine pw_h (scUS hA) ?_
          exact pw_vret dX7_eraseInRow_58 rfl (nle rfl) (nle rfl) ⟨rfl, by unfold sErow; rw [if_pos (by omega)]; first | (exfalso; omega) | rw [if_pos (show how = 0 by omega), if_neg (show ¬ how = 1 by omega)] | rw [if_neg (show ¬ how = 0 by omega), if_pos (show how = 1 by omega)] | rw [if_neg (show ¬ how = 0 by omega), if_neg (show ¬ how = 1 by omega)], rfl⟩
        ·
          refine pw_aload_n dX7_eraseInRow_27 rfl ?_
          refine pw_get (v := .int (zI (F 5))) okX7 (k := 5) (by decide) lkX7_42 (scAt_put hA).1.1 rfl dX7_eraseInRow_28 ?_
          refine pw_iconst (v := zI (1)) dX7_eraseInRow_31 (by decide) ?_
          refine pw_ziadd dX7_eraseInRow_32 ?_
          refine pw_goto (tgt := 40) dX7_eraseInRow_33 rfl ?_
          refine pw_istore_n (lv' := [some (.ref (I 0)), some (.int (zI (how))), some (.int (zI (F 5))), some (.int (zI ((F 5) + (1))))]) dX7_eraseInRow_40 (by decide) rfl rfl ?_
          refine pw_aload_n dX7_eraseInRow_41 rfl ?_
          refine pw_callV (As := []) (b := (I 0)) (rm := rmD 0 0 0) (mX7_shown htr hG0 (scAt_put hA) (hO0)) rfl (scAt_put hA).1.1 rfl rfl ywX7_shown rfl cwX7_95 ⟨nle rfl, nle rfl⟩ (nle rfl) ⟨nle rfl, nle rfl⟩ dX7_eraseInRow_42 ?_ (fun _ _ _ z => z.elim)
          intro r2 h2 n2 hq _
          rw [hq.1, hq.2.1, hq.2.2]
          show pw E YX7_eraseInRow _ _ 0 0 45 [some (.ref (I 0)), some (.int (zI (how))), some (.int (zI (F 5))), some (.int (zI ((F 5) + (1))))] [.ref (I (sq F + 5))] (scPut w H N NH I F (shM F m (shG F m o)) (shO F o (shG F m o)) T c l h) n
          refine pw_aload_n dX7_eraseInRow_45 rfl ?_
          refine pw_get (v := .int (zI (F 6))) okX7 (k := 6) (by decide) lkX7_46 (scAt_put hA).1.1 rfl dX7_eraseInRow_46 ?_
          refine pw_iload_n dX7_eraseInRow_49 rfl ?_
          refine pw_iload_n dX7_eraseInRow_50 rfl ?_
          refine pw_aload_n dX7_eraseInRow_51 rfl ?_
          refine pw_callV (As := []) (b := (I 0)) (rm := rmD 0 0 0) (mX7_blank htr hG0 (scAt_put hA) (hO0)) rfl (scAt_put hA).1.1 rfl rfl ywX7_blank rfl cwX7_135 ⟨nle rfl, nle rfl⟩ (nle rfl) ⟨nle rfl, nle rfl⟩ dX7_eraseInRow_52 ?_ (fun _ _ _ z => z.elim)
          intro r2 h2 n2 hq _
          rw [hq.1, hq.2.1, hq.2.2]
          show pw E YX7_eraseInRow _ _ 0 0 55 [some (.ref (I 0)), some (.int (zI (how))), some (.int (zI (F 5))), some (.int (zI ((F 5) + (1))))] [.int (zI (F 8 * 128 + 32)), .int (zI ((F 5) + (1))), .int (zI (F 5)), .int (zI (F 6)), .ref (I (sq F + 5))] (scPut w H N NH I F (shM F m (shG F m o)) (shO F o (shG F m o)) T c l h) n
          refine pw_callV (As := [.int (zI (F 6)), .int (zI (F 5)), .int (zI ((F 5) + (1))), .int (zI (F 8 * 128 + 32))]) (b := (I (sq F + 5))) (rm := rmD 2 0 0) (mX0_fill htr (scSg (scAt_put hA)) (scSx hA) (scSne hA) (by omega) (by omega) gN gN2 (by omega) (by omega) (by omega) (by omega)) rfl (scSg (scAt_put hA)) rfl rfl ywX0_fill rfl cwX7_139 ⟨nle rfl, nle rfl⟩ (nle rfl) ⟨nle rfl, nle rfl⟩ dX7_eraseInRow_55 ?_ (fun _ _ _ z => z.elim)
          intro r2 h2 n2 hq _
          rw [hq.1, hq.2.1, hq.2.2]
          show pw E YX7_eraseInRow _ _ 0 0 58 [some (.ref (I 0)), some (.int (zI (how))), some (.int (zI (F 5))), some (.int (zI ((F 5) + (1))))] [] (va_up (scPut w H N NH I F (shM F m (shG F m o)) (shO F o (shG F m o)) T c l h) (I (sq F)) (pz_z 0 N (gfill w H (F 6) (F 5) ((F 5) + (1)) (F 8 * 128 + 32) (shG F m o)))) n
          refine pw_h (scUS hA) ?_
          exact pw_vret dX7_eraseInRow_58 rfl (nle rfl) (nle rfl) ⟨rfl, by unfold sErow; rw [if_pos (by omega)]; first | (exfalso; omega) | rw [if_pos (show how = 0 by omega), if_neg (show ¬ how = 1 by omega)] | rw [if_neg (show ¬ how = 0 by omega), if_pos (show how = 1 by omega)] | rw [if_neg (show ¬ how = 0 by omega), if_neg (show ¬ how = 1 by omega)], rfl⟩
set_option maxHeartbeats 4000000 in
set_option maxRecDepth 100000 in
theorem lX7_raise {E : pw_E} (htr : E.1.stackTraces = false) {h : pz_H} {n : Nat} {w H : Int} {N NH : Nat} {I : Nat → Nat} {F m o T c l : Nat → Int} (hG : geo w H N NH) (hA : scAt w H N NH I F m o T c l h) (hO : scOk w H F T) {a k : Int} {K : pw_K} (ha : 0 ≤ a) (hk : 0 ≤ k ∧ k ≤ 1000) : ∀ (j : Nat) (r : Int) (f : Nat → Int), (F 13 + 1 - r).toNat = j → a ≤ r → r ≤ F 13 + 1 → K.2.2.1 none (scPut w H N NH I F (shM F m (sRaise w H (F 13) (F 3) k (F 8 * 128 + 32) j r f)) (shO F o (sRaise w H (F 13) (F 3) k (F 8 * 128 + 32) j r f)) T c l h) n → pw E YX7_raiseRows (rmD 3 0 0) K 0 0 8 [some (.ref (I 0)), some (.int (zI (a))), some (.int (zI (k))), some (.ref (I (sq F + 5))), some (.int (zI (r)))] [] (scPut w H N NH I F (shM F m f) (shO F o f) T c l h) n := by
  have hG0 := hG
  have hO0 := hO
  obtain ⟨gw, gH, gN, gN2, gNH⟩ := hG
  obtain ⟨o3, o4, o5, o6, o7, o8, o9, o10, o11, o12, o14, o15, o16, o17, oT3, oT4⟩ := hO
  intro j
  induction j with
  | zero =>
    intro r f hj h1 h2 hQ
    refine pw_iload dX7_raiseRows_8 rfl ?_
    refine pw_aload_n dX7_raiseRows_10 rfl ?_
    refine pw_get (v := .int (zI (F 13))) okX7 (k := 13) (by decide) lkX7_64 (scAt_put hA).1.1 rfl dX7_raiseRows_11 ?_
    refine pw_icmp_gt (tgt := 62) dX7_raiseRows_14 rfl (by omega) (by omega) (fun c14 => ?_) (fun c14 => ?_)
    ·
      exact pw_vret dX7_raiseRows_62 rfl (nle rfl) (nle rfl) (by exact hQ)
    · exfalso; omega
  | succ j ih =>
    intro r f hj h1 h2 hQ
    refine pw_iload dX7_raiseRows_8 rfl ?_
    refine pw_aload_n dX7_raiseRows_10 rfl ?_
    refine pw_get (v := .int (zI (F 13))) okX7 (k := 13) (by decide) lkX7_64 (scAt_put hA).1.1 rfl dX7_raiseRows_11 ?_
    refine pw_icmp_gt (tgt := 62) dX7_raiseRows_14 rfl (by omega) (by omega) (fun c14 => ?_) (fun c14 => ?_)
    · exfalso; omega
    ·
      refine pw_iload dX7_raiseRows_17 rfl ?_
      refine pw_iload_n dX7_raiseRows_19 rfl ?_
      refine pw_ziadd dX7_raiseRows_20 ?_
      refine pw_aload_n dX7_raiseRows_21 rfl ?_
      refine pw_get (v := .int (zI (F 13))) okX7 (k := 13) (by decide) lkX7_64 (scAt_put hA).1.1 rfl dX7_raiseRows_22 ?_
      refine pw_icmp_gt (tgt := 41) dX7_raiseRows_25 rfl (by omega) (by omega) (fun c25 => ?_) (fun c25 => ?_)
      ·
        refine pw_aload_n dX7_raiseRows_41 rfl ?_
        refine pw_iload dX7_raiseRows_42 rfl ?_
        refine pw_iconst (v := zI (0)) dX7_raiseRows_44 (by decide) ?_
        refine pw_aload_n dX7_raiseRows_45 rfl ?_
        refine pw_get (v := .int (zI (F 3))) okX7 (k := 3) (by decide) lkX7_76 (scAt_put hA).1.1 rfl dX7_raiseRows_46 ?_
        refine pw_aload_n dX7_raiseRows_49 rfl ?_
        refine pw_callV (As := []) (b := (I 0)) (rm := rmD 0 0 0) (mX7_blank htr hG0 (scAt_put hA) (hO0)) rfl (scAt_put hA).1.1 rfl rfl ywX7_blank rfl cwX7_135 ⟨nle rfl, nle rfl⟩ (nle rfl) ⟨nle rfl, nle rfl⟩ dX7_raiseRows_50 ?_ (fun _ _ _ z => z.elim)
        intro r2 h2 n2 hq _
        rw [hq.1, hq.2.1, hq.2.2]
        show pw E YX7_raiseRows _ _ 0 0 53 [some (.ref (I 0)), some (.int (zI (a))), some (.int (zI (k))), some (.ref (I (sq F + 5))), some (.int (zI (r)))] [.int (zI (F 8 * 128 + 32)), .int (zI (F 3)), .int (zI (0)), .int (zI (r)), .ref (I (sq F + 5))] (scPut w H N NH I F (shM F m f) (shO F o f) T c l h) n
        refine pw_callV (As := [.int (zI (r)), .int (zI (0)), .int (zI (F 3)), .int (zI (F 8 * 128 + 32))]) (b := (I (sq F + 5))) (rm := rmD 2 0 0) (mX0_fill htr (scSg (scAt_put hA)) (scSx hA) (scSne hA) (by omega) (by omega) gN gN2 (by omega) (by omega) (by omega) (by omega)) rfl (scSg (scAt_put hA)) rfl rfl ywX0_fill rfl cwX7_139 ⟨nle rfl, nle rfl⟩ (nle rfl) ⟨nle rfl, nle rfl⟩ dX7_raiseRows_53 ?_ (fun _ _ _ z => z.elim)
        intro r2 h2 n2 hq _
        rw [hq.1, hq.2.1, hq.2.2]
        show pw E YX7_raiseRows _ _ 0 0 56 [some (.ref (I 0)), some (.int (zI (a))), some (.int (zI (k))), some (.ref (I (sq F + 5))), some (.int (zI (r)))] [] (va_up (scPut w H N NH I F (shM F m f) (shO F o f) T c l h) (I (sq F)) (pz_z 0 N (gfill w H (r) (0) (F 3) (F 8 * 128 + 32) f))) n
        refine pw_h (scUS hA) ?_
        refine pw_ziinc (lv' := [some (.ref (I 0)), some (.int (zI (a))), some (.int (zI (k))), some (.ref (I (sq F + 5))), some (.int (zI (r + 1)))]) dX7_raiseRows_56 rfl (by decide) rfl rfl ?_
        refine pw_goto (tgt := 8) dX7_raiseRows_59 rfl ?_
        rw [show sRaise w H (F 13) (F 3) k (F 8 * 128 + 32) (j + 1) r f = sRaise w H (F 13) (F 3) k (F 8 * 128 + 32) j (r + 1) (if r + k ≤ F 13 then gmoveRow w H (r + k) r f else gfill w H r 0 (F 3) (F 8 * 128 + 32) f) from rfl] at hQ
        first | rw [if_pos (show r + k ≤ F 13 by omega)] at hQ | rw [if_neg (show ¬ r + k ≤ F 13 by omega)] at hQ
        exact ih (r + 1) _ (by omega) (by omega) (by omega) hQ
      ·
        refine pw_aload_n dX7_raiseRows_28 rfl ?_
        refine pw_iload dX7_raiseRows_29 rfl ?_
        refine pw_iload_n dX7_raiseRows_31 rfl ?_
        refine pw_ziadd dX7_raiseRows_32 ?_
        refine pw_iload dX7_raiseRows_33 rfl ?_
        refine pw_callV (As := [.int (zI (r + k)), .int (zI (r))]) (b := (I (sq F + 5))) (rm := rmD 1 0 0) (mX0_moveRow htr (scSg (scAt_put hA)) (scSx hA) (scSne hA) (by omega) (by omega) gN gN2 (by omega) (by omega)) rfl (scSg (scAt_put hA)) rfl rfl ywX0_moveRow rfl cwX7_132 ⟨nle rfl, nle rfl⟩ (nle rfl) ⟨nle rfl, nle rfl⟩ dX7_raiseRows_35 ?_ (fun _ _ _ z => z.elim)
        intro r2 h2 n2 hq _
        rw [hq.1, hq.2.1, hq.2.2]
        show pw E YX7_raiseRows _ _ 0 0 38 [some (.ref (I 0)), some (.int (zI (a))), some (.int (zI (k))), some (.ref (I (sq F + 5))), some (.int (zI (r)))] [] (va_up (scPut w H N NH I F (shM F m f) (shO F o f) T c l h) (I (sq F)) (pz_z 0 N (gmoveRow w H (r + k) (r) f))) n
        refine pw_h (scUS hA) ?_
        refine pw_goto (tgt := 56) dX7_raiseRows_38 rfl ?_
        refine pw_ziinc (lv' := [some (.ref (I 0)), some (.int (zI (a))), some (.int (zI (k))), some (.ref (I (sq F + 5))), some (.int (zI (r + 1)))]) dX7_raiseRows_56 rfl (by decide) rfl rfl ?_
        refine pw_goto (tgt := 8) dX7_raiseRows_59 rfl ?_
        rw [show sRaise w H (F 13) (F 3) k (F 8 * 128 + 32) (j + 1) r f = sRaise w H (F 13) (F 3) k (F 8 * 128 + 32) j (r + 1) (if r + k ≤ F 13 then gmoveRow w H (r + k) r f else gfill w H r 0 (F 3) (F 8 * 128 + 32) f) from rfl] at hQ
        first | rw [if_pos (show r + k ≤ F 13 by omega)] at hQ | rw [if_neg (show ¬ r + k ≤ F 13 by omega)] at hQ
        exact ih (r + 1) _ (by omega) (by omega) (by omega) hQ
set_option maxHeartbeats 4000000 in
set_option maxRecDepth 100000 in
/-- Screen.raiseRows(a, k) -/
theorem mX7_raiseRows {E : pw_E} (htr : E.1.stackTraces = false) {h : pz_H} {n : Nat} {w H : Int} {N NH : Nat} {I : Nat → Nat} {F m o T c l : Nat → Int} (hG : geo w H N NH) (hA : scAt w H N NH I F m o T c l h) (hO : scOk w H F T) {a k : Int} (h_a : -2147483648 ≤ a ∧ a < 2147483648) (h_k : -2147483648 ≤ k ∧ k < 2147483648) (ha : 0 ≤ a ∧ a ≤ F 13) (hk : 0 ≤ k ∧ k ≤ 1000) : pw_M E yX7_raiseRows YX7_raiseRows (rmD 3 0 0) [.ref (I 0), .int (zI (a)), .int (zI (k))] h n (fun r h' n' => r = none ∧ h' = scPut w H N NH I F (shM F m (sRaise w H (F 13) (F 3) k (F 8 * 128 + 32) (F 13 + 1 - a).toNat a (shG F m o))) (shO F o (sRaise w H (F 13) (F 3) k (F 8 * 128 + 32) (F 13 + 1 - a).toNat a (shG F m o))) T c l h ∧ n' = n) (fun _ _ _ => False) := by
  have hG0 := hG
  have hO0 := hO
  obtain ⟨gw, gH, gN, gN2, gNH⟩ := hG
  obtain ⟨o3, o4, o5, o6, o7, o8, o9, o10, o11, o12, o14, o15, o16, o17, oT3, oT4⟩ := hO
  refine pw_M_of (lv := [some (.ref (I 0)), some (.int (zI (a))), some (.int (zI (k))), none, none]) (by decide) rfl rfl htr (nle rfl) rfl (fun L => ?_)
  refine pw_h (scPut_idS hA).symm ?_
  refine pw_aload_n dX7_raiseRows_0 rfl ?_
  refine pw_callV (As := []) (b := (I 0)) (rm := rmD 0 0 0) (mX7_shown htr hG0 (scAt_put hA) (hO0)) rfl (scAt_put hA).1.1 rfl rfl ywX7_shown rfl cwX7_95 ⟨nle rfl, nle rfl⟩ (nle rfl) ⟨nle rfl, nle rfl⟩ dX7_raiseRows_1 ?_ (fun _ _ _ z => z.elim)
  intro r2 h2 n2 hq _
  rw [hq.1, hq.2.1, hq.2.2]
  show pw E YX7_raiseRows _ _ 0 0 4 [some (.ref (I 0)), some (.int (zI (a))), some (.int (zI (k))), none, none] [.ref (I (sq F + 5))] (scPut w H N NH I F (shM F m (shG F m o)) (shO F o (shG F m o)) T c l h) n
  refine pw_astore_n (lv' := [some (.ref (I 0)), some (.int (zI (a))), some (.int (zI (k))), some (.ref (I (sq F + 5))), none]) dX7_raiseRows_4 (by decide) rfl rfl ?_
  refine pw_iload_n dX7_raiseRows_5 rfl ?_
  refine pw_istore (lv' := [some (.ref (I 0)), some (.int (zI (a))), some (.int (zI (k))), some (.ref (I (sq F + 5))), some (.int (zI (a)))]) dX7_raiseRows_6 (by decide) rfl rfl ?_
  exact lX7_raise htr hG0 hA hO0 ha.1 hk _ _ _ rfl (by omega) (by omega) ⟨rfl, rfl, rfl⟩
set_option maxHeartbeats 4000000 in
set_option maxRecDepth 100000 in
theorem lX7_lower {E : pw_E} (htr : E.1.stackTraces = false) {h : pz_H} {n : Nat} {w H : Int} {N NH : Nat} {I : Nat → Nat} {F m o T c l : Nat → Int} (hG : geo w H N NH) (hA : scAt w H N NH I F m o T c l h) (hO : scOk w H F T) {a k : Int} {K : pw_K} (ha : 0 ≤ a) (hk : 0 ≤ k ∧ k ≤ 1000) : ∀ (j : Nat) (r : Int) (f : Nat → Int), (r + 1 - a).toNat = j → a ≤ r + 1 → r ≤ F 13 → K.2.2.1 none (scPut w H N NH I F (shM F m (sLower w H a (F 3) k (F 8 * 128 + 32) j r f)) (shO F o (sLower w H a (F 3) k (F 8 * 128 + 32) j r f)) T c l h) n → pw E YX7_lowerRows (rmD 3 0 0) K 0 0 11 [some (.ref (I 0)), some (.int (zI (a))), some (.int (zI (k))), some (.ref (I (sq F + 5))), some (.int (zI (r)))] [] (scPut w H N NH I F (shM F m f) (shO F o f) T c l h) n := by
  have hG0 := hG
  have hO0 := hO
  obtain ⟨gw, gH, gN, gN2, gNH⟩ := hG
  obtain ⟨o3, o4, o5, o6, o7, o8, o9, o10, o11, o12, o14, o15, o16, o17, oT3, oT4⟩ := hO
  intro j
  induction j with
  | zero =>
    intro r f hj h1 h2 hQ
    refine pw_iload dX7_lowerRows_11 rfl ?_
    refine pw_iload_n dX7_lowerRows_13 rfl ?_
    refine pw_icmp_lt (tgt := 59) dX7_lowerRows_14 rfl (by omega) (by omega) (fun c14 => ?_) (fun c14 => ?_)
    ·
      exact pw_vret dX7_lowerRows_59 rfl (nle rfl) (nle rfl) (by exact hQ)
    · exfalso; omega
  | succ j ih =>
    intro r f hj h1 h2 hQ
    refine pw_iload dX7_lowerRows_11 rfl ?_
    refine pw_iload_n dX7_lowerRows_13 rfl ?_
    refine pw_icmp_lt (tgt := 59) dX7_lowerRows_14 rfl (by omega) (by omega) (fun c14 => ?_) (fun c14 => ?_)
    · exfalso; omega
    ·
      refine pw_iload dX7_lowerRows_17 rfl ?_
      refine pw_iload_n dX7_lowerRows_19 rfl ?_
      refine pw_zisub dX7_lowerRows_20 ?_
      refine pw_iload_n dX7_lowerRows_21 rfl ?_
      refine pw_icmp_lt (tgt := 38) dX7_lowerRows_22 rfl (by omega) (by omega) (fun c22 => ?_) (fun c22 => ?_)
      ·
        refine pw_aload_n dX7_lowerRows_38 rfl ?_
        refine pw_iload dX7_lowerRows_39 rfl ?_
        refine pw_iconst (v := zI (0)) dX7_lowerRows_41 (by decide) ?_
        refine pw_aload_n dX7_lowerRows_42 rfl ?_
        refine pw_get (v := .int (zI (F 3))) okX7 (k := 3) (by decide) lkX7_76 (scAt_put hA).1.1 rfl dX7_lowerRows_43 ?_
        refine pw_aload_n dX7_lowerRows_46 rfl ?_
        refine pw_callV (As := []) (b := (I 0)) (rm := rmD 0 0 0) (mX7_blank htr hG0 (scAt_put hA) (hO0)) rfl (scAt_put hA).1.1 rfl rfl ywX7_blank rfl cwX7_135 ⟨nle rfl, nle rfl⟩ (nle rfl) ⟨nle rfl, nle rfl⟩ dX7_lowerRows_47 ?_ (fun _ _ _ z => z.elim)
        intro r2 h2 n2 hq _
        rw [hq.1, hq.2.1, hq.2.2]
        show pw E YX7_lowerRows _ _ 0 0 50 [some (.ref (I 0)), some (.int (zI (a))), some (.int (zI (k))), some (.ref (I (sq F + 5))), some (.int (zI (r)))] [.int (zI (F 8 * 128 + 32)), .int (zI (F 3)), .int (zI (0)), .int (zI (r)), .ref (I (sq F + 5))] (scPut w H N NH I F (shM F m f) (shO F o f) T c l h) n
        refine pw_callV (As := [.int (zI (r)), .int (zI (0)), .int (zI (F 3)), .int (zI (F 8 * 128 + 32))]) (b := (I (sq F + 5))) (rm := rmD 2 0 0) (mX0_fill htr (scSg (scAt_put hA)) (scSx hA) (scSne hA) (by omega) (by omega) gN gN2 (by omega) (by omega) (by omega) (by omega)) rfl (scSg (scAt_put hA)) rfl rfl ywX0_fill rfl cwX7_139 ⟨nle rfl, nle rfl⟩ (nle rfl) ⟨nle rfl, nle rfl⟩ dX7_lowerRows_50 ?_ (fun _ _ _ z => z.elim)
        intro r2 h2 n2 hq _
        rw [hq.1, hq.2.1, hq.2.2]
        show pw E YX7_lowerRows _ _ 0 0 53 [some (.ref (I 0)), some (.int (zI (a))), some (.int (zI (k))), some (.ref (I (sq F + 5))), some (.int (zI (r)))] [] (va_up (scPut w H N NH I F (shM F m f) (shO F o f) T c l h) (I (sq F)) (pz_z 0 N (gfill w H (r) (0) (F 3) (F 8 * 128 + 32) f))) n
        refine pw_h (scUS hA) ?_
        refine pw_ziinc (lv' := [some (.ref (I 0)), some (.int (zI (a))), some (.int (zI (k))), some (.ref (I (sq F + 5))), some (.int (zI (r + (-1))))]) dX7_lowerRows_53 rfl (by decide) rfl rfl ?_
        refine pw_goto (tgt := 11) dX7_lowerRows_56 rfl ?_
        rw [show sLower w H a (F 3) k (F 8 * 128 + 32) (j + 1) r f = sLower w H a (F 3) k (F 8 * 128 + 32) j (r + (-1)) (if a ≤ r - k then gmoveRow w H (r - k) r f else gfill w H r 0 (F 3) (F 8 * 128 + 32) f) from rfl] at hQ
        first | rw [if_pos (show a ≤ r - k by omega)] at hQ | rw [if_neg (show ¬ a ≤ r - k by omega)] at hQ
        exact ih (r + (-1)) _ (by omega) (by omega) (by omega) hQ
      ·
        refine pw_aload_n dX7_lowerRows_25 rfl ?_
        refine pw_iload dX7_lowerRows_26 rfl ?_
        refine pw_iload_n dX7_lowerRows_28 rfl ?_
        refine pw_zisub dX7_lowerRows_29 ?_
        refine pw_iload dX7_lowerRows_30 rfl ?_
        refine pw_callV (As := [.int (zI (r - k)), .int (zI (r))]) (b := (I (sq F + 5))) (rm := rmD 1 0 0) (mX0_moveRow htr (scSg (scAt_put hA)) (scSx hA) (scSne hA) (by omega) (by omega) gN gN2 (by omega) (by omega)) rfl (scSg (scAt_put hA)) rfl rfl ywX0_moveRow rfl cwX7_132 ⟨nle rfl, nle rfl⟩ (nle rfl) ⟨nle rfl, nle rfl⟩ dX7_lowerRows_32 ?_ (fun _ _ _ z => z.elim)
        intro r2 h2 n2 hq _
        rw [hq.1, hq.2.1, hq.2.2]
        show pw E YX7_lowerRows _ _ 0 0 35 [some (.ref (I 0)), some (.int (zI (a))), some (.int (zI (k))), some (.ref (I (sq F + 5))), some (.int (zI (r)))] [] (va_up (scPut w H N NH I F (shM F m f) (shO F o f) T c l h) (I (sq F)) (pz_z 0 N (gmoveRow w H (r - k) (r) f))) n
        refine pw_h (scUS hA) ?_
        refine pw_goto (tgt := 53) dX7_lowerRows_35 rfl ?_
        refine pw_ziinc (lv' := [some (.ref (I 0)), some (.int (zI (a))), some (.int (zI (k))), some (.ref (I (sq F + 5))), some (.int (zI (r + (-1))))]) dX7_lowerRows_53 rfl (by decide) rfl rfl ?_
        refine pw_goto (tgt := 11) dX7_lowerRows_56 rfl ?_
        rw [show sLower w H a (F 3) k (F 8 * 128 + 32) (j + 1) r f = sLower w H a (F 3) k (F 8 * 128 + 32) j (r + (-1)) (if a ≤ r - k then gmoveRow w H (r - k) r f else gfill w H r 0 (F 3) (F 8 * 128 + 32) f) from rfl] at hQ
        first | rw [if_pos (show a ≤ r - k by omega)] at hQ | rw [if_neg (show ¬ a ≤ r - k by omega)] at hQ
        exact ih (r + (-1)) _ (by omega) (by omega) (by omega) hQ
set_option maxHeartbeats 4000000 in
set_option maxRecDepth 100000 in
/-- Screen.lowerRows(a, k) -/
theorem mX7_lowerRows {E : pw_E} (htr : E.1.stackTraces = false) {h : pz_H} {n : Nat} {w H : Int} {N NH : Nat} {I : Nat → Nat} {F m o T c l : Nat → Int} (hG : geo w H N NH) (hA : scAt w H N NH I F m o T c l h) (hO : scOk w H F T) {a k : Int} (h_a : -2147483648 ≤ a ∧ a < 2147483648) (h_k : -2147483648 ≤ k ∧ k < 2147483648) (ha : 0 ≤ a ∧ a ≤ F 13) (hk : 0 ≤ k ∧ k ≤ 1000) : pw_M E yX7_lowerRows YX7_lowerRows (rmD 3 0 0) [.ref (I 0), .int (zI (a)), .int (zI (k))] h n (fun r h' n' => r = none ∧ h' = scPut w H N NH I F (shM F m (sLower w H a (F 3) k (F 8 * 128 + 32) (F 13 + 1 - a).toNat (F 13) (shG F m o))) (shO F o (sLower w H a (F 3) k (F 8 * 128 + 32) (F 13 + 1 - a).toNat (F 13) (shG F m o))) T c l h ∧ n' = n) (fun _ _ _ => False) := by
  have hG0 := hG
  have hO0 := hO
  obtain ⟨gw, gH, gN, gN2, gNH⟩ := hG
  obtain ⟨o3, o4, o5, o6, o7, o8, o9, o10, o11, o12, o14, o15, o16, o17, oT3, oT4⟩ := hO
  refine pw_M_of (lv := [some (.ref (I 0)), some (.int (zI (a))), some (.int (zI (k))), none, none]) (by decide) rfl rfl htr (nle rfl) rfl (fun L => ?_)
  refine pw_h (scPut_idS hA).symm ?_
  refine pw_aload_n dX7_lowerRows_0 rfl ?_
  refine pw_callV (As := []) (b := (I 0)) (rm := rmD 0 0 0) (mX7_shown htr hG0 (scAt_put hA) (hO0)) rfl (scAt_put hA).1.1 rfl rfl ywX7_shown rfl cwX7_95 ⟨nle rfl, nle rfl⟩ (nle rfl) ⟨nle rfl, nle rfl⟩ dX7_lowerRows_1 ?_ (fun _ _ _ z => z.elim)
  intro r2 h2 n2 hq _
  rw [hq.1, hq.2.1, hq.2.2]
  show pw E YX7_lowerRows _ _ 0 0 4 [some (.ref (I 0)), some (.int (zI (a))), some (.int (zI (k))), none, none] [.ref (I (sq F + 5))] (scPut w H N NH I F (shM F m (shG F m o)) (shO F o (shG F m o)) T c l h) n
  refine pw_astore_n (lv' := [some (.ref (I 0)), some (.int (zI (a))), some (.int (zI (k))), some (.ref (I (sq F + 5))), none]) dX7_lowerRows_4 (by decide) rfl rfl ?_
  refine pw_aload_n dX7_lowerRows_5 rfl ?_
  refine pw_get (v := .int (zI (F 13))) okX7 (k := 13) (by decide) lkX7_64 (scAt_put hA).1.1 rfl dX7_lowerRows_6 ?_
  refine pw_istore (lv' := [some (.ref (I 0)), some (.int (zI (a))), some (.int (zI (k))), some (.ref (I (sq F + 5))), some (.int (zI (F 13)))]) dX7_lowerRows_9 (by decide) rfl rfl ?_
  exact lX7_lower htr hG0 hA hO0 ha.1 hk _ _ _ rfl (by omega) (by omega) ⟨rfl, rfl, rfl⟩
set_option maxHeartbeats 4000000 in
set_option maxRecDepth 100000 in
/-- Screen.scrollDown(k) -/
theorem mX7_scrollDown {E : pw_E} (htr : E.1.stackTraces = false) {h : pz_H} {n : Nat} {w H : Int} {N NH : Nat} {I : Nat → Nat} {F m o T c l : Nat → Int} (hG : geo w H N NH) (hA : scAt w H N NH I F m o T c l h) (hO : scOk w H F T) {k : Int} (h_k : -2147483648 ≤ k ∧ k < 2147483648) (hk : 0 ≤ k ∧ k ≤ 1000) : pw_M E yX7_scrollDown YX7_scrollDown (rmD 4 0 0) [.ref (I 0), .int (zI (k))] h n (fun r h' n' => r = none ∧ h' = scPut w H N NH I (va_up F 7 0) (shM F m (sLower w H (F 12) (F 3) k (F 8 * 128 + 32) (F 13 + 1 - F 12).toNat (F 13) (shG F m o))) (shO F o (sLower w H (F 12) (F 3) k (F 8 * 128 + 32) (F 13 + 1 - F 12).toNat (F 13) (shG F m o))) T c l h ∧ n' = n) (fun _ _ _ => False) := by
  have hG0 := hG
  have hO0 := hO
  obtain ⟨gw, gH, gN, gN2, gNH⟩ := hG
  obtain ⟨o3, o4, o5, o6, o7, o8, o9, o10, o11, o12, o14, o15, o16, o17, oT3, oT4⟩ := hO
  refine pw_M_of (lv := [some (.ref (I 0)), some (.int (zI (k)))]) (by decide) rfl rfl htr (nle rfl) rfl (fun L => ?_)
  refine pw_h (scPut_id hA).symm ?_
  refine pw_aload_n dX7_scrollDown_0 rfl ?_
  refine pw_iconst (v := zI (0)) dX7_scrollDown_1 (by decide) ?_
  refine pw_put (fs' := (scObj I (va_up F 7 (0)))) okX7 (k := 7) (by decide) lkX7_49 rfl (by decide) (by decide) (scAt_put hA).1.1 (nlt rfl) rfl dX7_scrollDown_2 ?_
  refine pw_h (scU0 hA) ?_
  refine pw_aload_n dX7_scrollDown_5 rfl ?_
  refine pw_aload_n dX7_scrollDown_6 rfl ?_
  refine pw_get (v := .int (zI (F 12))) okX7 (k := 12) (by decide) lkX7_58 (scAt_put hA).1.1 rfl dX7_scrollDown_7 ?_
  refine pw_iload_n dX7_scrollDown_10 rfl ?_
  refine pw_callV (As := [.int (zI (F 12)), .int (zI (k))]) (b := (I 0)) (rm := rmD 3 0 0) (mX7_lowerRows htr hG0 (scAt_put hA) (scOk_7 hO0) (by omega) (by omega) ⟨by show 0 ≤ F 12; omega, by show F 12 ≤ F 13; omega⟩ (by omega)) rfl (scAt_put hA).1.1 rfl rfl ywX7_lowerRows rfl cwX7_129 ⟨nle rfl, nle rfl⟩ (nle rfl) ⟨nle rfl, nle rfl⟩ dX7_scrollDown_11 ?_ (fun _ _ _ z => z.elim)
  intro r2 h2 n2 hq _
  rw [hq.1, hq.2.1, hq.2.2]
  show pw E YX7_scrollDown _ _ 0 0 14 [some (.ref (I 0)), some (.int (zI (k)))] [] (scPut w H N NH I (va_up F 7 (0)) (shM F m (sLower w H (F 12) (F 3) (k) (F 8 * 128 + 32) (F 13 + 1 - (F 12)).toNat (F 13) (shG F m o))) (shO F o (sLower w H (F 12) (F 3) (k) (F 8 * 128 + 32) (F 13 + 1 - (F 12)).toNat (F 13) (shG F m o))) T c l (scPut w H N NH I (va_up F 7 (0)) m o T c l h)) n
  refine pw_h scPut_put ?_
  exact pw_vret dX7_scrollDown_14 rfl (nle rfl) (nle rfl) ⟨rfl, rfl, rfl⟩
theorem scOk_75 {w H : Int} {F T : Nat → Int} (hO : scOk w H F T) : scOk w H (va_up (va_up F 7 0) 5 0) T := by
  unfold scOk at *
  simp only [va_up]
  simp
  omega
/-- L and M -/
def sIn (F : Nat → Int) : Nat → Int := if F 12 ≤ F 6 ∧ F 6 ≤ F 13 then va_up F 5 0 else F
def sInX (F x y : Nat → Int) : Nat → Int := if F 12 ≤ F 6 ∧ F 6 ≤ F 13 then x else y
set_option maxHeartbeats 4000000 in
set_option maxRecDepth 100000 in
/-- Screen.insertRows(k) -/
theorem mX7_insertRows {E : pw_E} (htr : E.1.stackTraces = false) {h : pz_H} {n : Nat} {w H : Int} {N NH : Nat} {I : Nat → Nat} {F m o T c l : Nat → Int} (hG : geo w H N NH) (hA : scAt w H N NH I F m o T c l h) (hO : scOk w H F T) {k : Int} (h_k : -2147483648 ≤ k ∧ k < 2147483648) (hk : 0 ≤ k ∧ k ≤ 1000) : pw_M E yX7_insertRows YX7_insertRows (rmD 4 0 0) [.ref (I 0), .int (zI (k))] h n (fun r h' n' => r = none ∧ h' = scPut w H N NH I (sIn F) (shM F m (sInX F (sLower w H (F 6) (F 3) k (F 8 * 128 + 32) (F 13 + 1 - F 6).toNat (F 13) (shG F m o)) (shG F m o))) (shO F o (sInX F (sLower w H (F 6) (F 3) k (F 8 * 128 + 32) (F 13 + 1 - F 6).toNat (F 13) (shG F m o)) (shG F m o))) T c l h ∧ n' = n) (fun _ _ _ => False) := by
  have hG0 := hG
  have hO0 := hO
  obtain ⟨gw, gH, gN, gN2, gNH⟩ := hG
  obtain ⟨o3, o4, o5, o6, o7, o8, o9, o10, o11, o12, o14, o15, o16, o17, oT3, oT4⟩ := hO
  refine pw_M_of (lv := [some (.ref (I 0)), some (.int (zI (k)))]) (by decide) rfl rfl htr (nle rfl) rfl (fun L => ?_)
  refine pw_h (scPut_id hA).symm ?_
  refine pw_aload_n dX7_insertRows_0 rfl ?_
  refine pw_get (v := .int (zI (F 6))) okX7 (k := 6) (by decide) lkX7_46 (scAt_put hA).1.1 rfl dX7_insertRows_1 ?_
  refine pw_aload_n dX7_insertRows_4 rfl ?_
  refine pw_get (v := .int (zI (F 12))) okX7 (k := 12) (by decide) lkX7_58 (scAt_put hA).1.1 rfl dX7_insertRows_5 ?_
  refine pw_icmp_lt (tgt := 36) dX7_insertRows_8 rfl (by omega) (by omega) (fun c8 => ?_) (fun c8 => ?_)
  ·
    exact pw_vret dX7_insertRows_36 rfl (nle rfl) (nle rfl) ⟨rfl, by unfold sIn sInX; rw [if_neg (show ¬ (F 12 ≤ F 6 ∧ F 6 ≤ F 13) by omega), if_neg (show ¬ (F 12 ≤ F 6 ∧ F 6 ≤ F 13) by omega), shM_G, shO_G], rfl⟩
  ·
    refine pw_aload_n dX7_insertRows_11 rfl ?_
    refine pw_get (v := .int (zI (F 6))) okX7 (k := 6) (by decide) lkX7_46 (scAt_put hA).1.1 rfl dX7_insertRows_12 ?_
    refine pw_aload_n dX7_insertRows_15 rfl ?_
    refine pw_get (v := .int (zI (F 13))) okX7 (k := 13) (by decide) lkX7_64 (scAt_put hA).1.1 rfl dX7_insertRows_16 ?_
    refine pw_icmp_gt (tgt := 36) dX7_insertRows_19 rfl (by omega) (by omega) (fun c19 => ?_) (fun c19 => ?_)
    ·
      exact pw_vret dX7_insertRows_36 rfl (nle rfl) (nle rfl) ⟨rfl, by unfold sIn sInX; rw [if_neg (show ¬ (F 12 ≤ F 6 ∧ F 6 ≤ F 13) by omega), if_neg (show ¬ (F 12 ≤ F 6 ∧ F 6 ≤ F 13) by omega), shM_G, shO_G], rfl⟩
    ·
      refine pw_aload_n dX7_insertRows_22 rfl ?_
      refine pw_aload_n dX7_insertRows_23 rfl ?_
      refine pw_get (v := .int (zI (F 6))) okX7 (k := 6) (by decide) lkX7_46 (scAt_put hA).1.1 rfl dX7_insertRows_24 ?_
      refine pw_iload_n dX7_insertRows_27 rfl ?_
      refine pw_callV (As := [.int (zI (F 6)), .int (zI (k))]) (b := (I 0)) (rm := rmD 3 0 0) (mX7_lowerRows htr hG0 (scAt_put hA) (hO0) (by omega) (by omega) ⟨by show 0 ≤ F 6; omega, by show F 6 ≤ F 13; omega⟩ (by omega)) rfl (scAt_put hA).1.1 rfl rfl ywX7_lowerRows rfl cwX7_129 ⟨nle rfl, nle rfl⟩ (nle rfl) ⟨nle rfl, nle rfl⟩ dX7_insertRows_28 ?_ (fun _ _ _ z => z.elim)
      intro r2 h2 n2 hq _
      rw [hq.1, hq.2.1, hq.2.2]
      show pw E YX7_insertRows _ _ 0 0 31 [some (.ref (I 0)), some (.int (zI (k)))] [] (scPut w H N NH I F (shM F m (sLower w H (F 6) (F 3) (k) (F 8 * 128 + 32) (F 13 + 1 - (F 6)).toNat (F 13) (shG F m o))) (shO F o (sLower w H (F 6) (F 3) (k) (F 8 * 128 + 32) (F 13 + 1 - (F 6)).toNat (F 13) (shG F m o))) T c l (scPut w H N NH I F m o T c l h)) n
      refine pw_h scPut_put ?_
      refine pw_aload_n dX7_insertRows_31 rfl ?_
      refine pw_iconst (v := zI (0)) dX7_insertRows_32 (by decide) ?_
      refine pw_put (fs' := (scObj I (va_up F 5 (0)))) okX7 (k := 5) (by decide) lkX7_42 rfl rfl rfl (scAt_put hA).1.1 (nlt rfl) rfl dX7_insertRows_33 ?_
      refine pw_h (scU0 hA) ?_
      exact pw_vret dX7_insertRows_36 rfl (nle rfl) (nle rfl) ⟨rfl, by unfold sIn sInX; rw [if_pos (show F 12 ≤ F 6 ∧ F 6 ≤ F 13 by omega), if_pos (show F 12 ≤ F 6 ∧ F 6 ≤ F 13 by omega)], rfl⟩
set_option maxHeartbeats 4000000 in
set_option maxRecDepth 100000 in
/-- Screen.deleteRows(k) -/
theorem mX7_deleteRows {E : pw_E} (htr : E.1.stackTraces = false) {h : pz_H} {n : Nat} {w H : Int} {N NH : Nat} {I : Nat → Nat} {F m o T c l : Nat → Int} (hG : geo w H N NH) (hA : scAt w H N NH I F m o T c l h) (hO : scOk w H F T) {k : Int} (h_k : -2147483648 ≤ k ∧ k < 2147483648) (hk : 0 ≤ k ∧ k ≤ 1000) : pw_M E yX7_deleteRows YX7_deleteRows (rmD 4 0 0) [.ref (I 0), .int (zI (k))] h n (fun r h' n' => r = none ∧ h' = scPut w H N NH I (sIn F) (shM F m (sInX F (sRaise w H (F 13) (F 3) k (F 8 * 128 + 32) (F 13 + 1 - F 6).toNat (F 6) (shG F m o)) (shG F m o))) (shO F o (sInX F (sRaise w H (F 13) (F 3) k (F 8 * 128 + 32) (F 13 + 1 - F 6).toNat (F 6) (shG F m o)) (shG F m o))) T c l h ∧ n' = n) (fun _ _ _ => False) := by
  have hG0 := hG
  have hO0 := hO
  obtain ⟨gw, gH, gN, gN2, gNH⟩ := hG
  obtain ⟨o3, o4, o5, o6, o7, o8, o9, o10, o11, o12, o14, o15, o16, o17, oT3, oT4⟩ := hO
  refine pw_M_of (lv := [some (.ref (I 0)), some (.int (zI (k)))]) (by decide) rfl rfl htr (nle rfl) rfl (fun L => ?_)
  refine pw_h (scPut_id hA).symm ?_
  refine pw_aload_n dX7_deleteRows_0 rfl ?_
  refine pw_get (v := .int (zI (F 6))) okX7 (k := 6) (by decide) lkX7_46 (scAt_put hA).1.1 rfl dX7_deleteRows_1 ?_
  refine pw_aload_n dX7_deleteRows_4 rfl ?_
  refine pw_get (v := .int (zI (F 12))) okX7 (k := 12) (by decide) lkX7_58 (scAt_put hA).1.1 rfl dX7_deleteRows_5 ?_
  refine pw_icmp_lt (tgt := 36) dX7_deleteRows_8 rfl (by omega) (by omega) (fun c8 => ?_) (fun c8 => ?_)
  ·
    exact pw_vret dX7_deleteRows_36 rfl (nle rfl) (nle rfl) ⟨rfl, by unfold sIn sInX; rw [if_neg (show ¬ (F 12 ≤ F 6 ∧ F 6 ≤ F 13) by omega), if_neg (show ¬ (F 12 ≤ F 6 ∧ F 6 ≤ F 13) by omega), shM_G, shO_G], rfl⟩
  ·
    refine pw_aload_n dX7_deleteRows_11 rfl ?_
    refine pw_get (v := .int (zI (F 6))) okX7 (k := 6) (by decide) lkX7_46 (scAt_put hA).1.1 rfl dX7_deleteRows_12 ?_
    refine pw_aload_n dX7_deleteRows_15 rfl ?_
    refine pw_get (v := .int (zI (F 13))) okX7 (k := 13) (by decide) lkX7_64 (scAt_put hA).1.1 rfl dX7_deleteRows_16 ?_
    refine pw_icmp_gt (tgt := 36) dX7_deleteRows_19 rfl (by omega) (by omega) (fun c19 => ?_) (fun c19 => ?_)
    ·
      exact pw_vret dX7_deleteRows_36 rfl (nle rfl) (nle rfl) ⟨rfl, by unfold sIn sInX; rw [if_neg (show ¬ (F 12 ≤ F 6 ∧ F 6 ≤ F 13) by omega), if_neg (show ¬ (F 12 ≤ F 6 ∧ F 6 ≤ F 13) by omega), shM_G, shO_G], rfl⟩
    ·
      refine pw_aload_n dX7_deleteRows_22 rfl ?_
      refine pw_aload_n dX7_deleteRows_23 rfl ?_
      refine pw_get (v := .int (zI (F 6))) okX7 (k := 6) (by decide) lkX7_46 (scAt_put hA).1.1 rfl dX7_deleteRows_24 ?_
      refine pw_iload_n dX7_deleteRows_27 rfl ?_
      refine pw_callV (As := [.int (zI (F 6)), .int (zI (k))]) (b := (I 0)) (rm := rmD 3 0 0) (mX7_raiseRows htr hG0 (scAt_put hA) (hO0) (by omega) (by omega) ⟨by show 0 ≤ F 6; omega, by show F 6 ≤ F 13; omega⟩ (by omega)) rfl (scAt_put hA).1.1 rfl rfl ywX7_raiseRows rfl cwX7_126 ⟨nle rfl, nle rfl⟩ (nle rfl) ⟨nle rfl, nle rfl⟩ dX7_deleteRows_28 ?_ (fun _ _ _ z => z.elim)
      intro r2 h2 n2 hq _
      rw [hq.1, hq.2.1, hq.2.2]
      show pw E YX7_deleteRows _ _ 0 0 31 [some (.ref (I 0)), some (.int (zI (k)))] [] (scPut w H N NH I F (shM F m (sRaise w H (F 13) (F 3) (k) (F 8 * 128 + 32) (F 13 + 1 - (F 6)).toNat (F 6) (shG F m o))) (shO F o (sRaise w H (F 13) (F 3) (k) (F 8 * 128 + 32) (F 13 + 1 - (F 6)).toNat (F 6) (shG F m o))) T c l (scPut w H N NH I F m o T c l h)) n
      refine pw_h scPut_put ?_
      refine pw_aload_n dX7_deleteRows_31 rfl ?_
      refine pw_iconst (v := zI (0)) dX7_deleteRows_32 (by decide) ?_
      refine pw_put (fs' := (scObj I (va_up F 5 (0)))) okX7 (k := 5) (by decide) lkX7_42 rfl rfl rfl (scAt_put hA).1.1 (nlt rfl) rfl dX7_deleteRows_33 ?_
      refine pw_h (scU0 hA) ?_
      exact pw_vret dX7_deleteRows_36 rfl (nle rfl) (nle rfl) ⟨rfl, by unfold sIn sInX; rw [if_pos (show F 12 ≤ F 6 ∧ F 6 ≤ F 13 by omega), if_pos (show F 12 ≤ F 6 ∧ F 6 ≤ F 13 by omega)], rfl⟩
set_option maxHeartbeats 4000000 in
set_option maxRecDepth 100000 in
theorem lX7_hist {E : pw_E} (htr : E.1.stackTraces = false) {h : pz_H} {n : Nat} {w H : Int} {N NH : Nat} {I : Nat → Nat} {F m o T c l : Nat → Int} (hG : geo w H N NH) (hA : scAt w H N NH I F m o T c l h) (hO : scOk w H F T) {k g : Int} {K : pw_K} (hg : g ≤ F 13 + 1) (kk : ∀ p : (Nat → Int) × (Nat → Int) × (Nat → Int), hOk p.1 → p = sHist w H NH (F 3) m g.toNat 0 (T, c, l) → ∀ i : Int, pw E YX7_scrollUp (rmD 5 0 0) K 0 0 59 [some (.ref (I 0)), some (.int (zI k)), some (.int (zI g)), some (.int (zI i))] [] (scPut w H N NH I F m o p.1 p.2.1 p.2.2 h) n) : ∀ (j : Nat) (i : Int) (p : (Nat → Int) × (Nat → Int) × (Nat → Int)), (g - i).toNat = j → 0 ≤ i → i ≤ g → hOk p.1 → sHist w H NH (F 3) m j i p = sHist w H NH (F 3) m g.toNat 0 (T, c, l) → pw E YX7_scrollUp (rmD 5 0 0) K 0 0 32 [some (.ref (I 0)), some (.int (zI (k))), some (.int (zI (g))), some (.int (zI (i)))] [] (scPut w H N NH I F m o p.1 p.2.1 p.2.2 h) n := by
  have hG0 := hG
  have hO0 := hO
  obtain ⟨gw, gH, gN, gN2, gNH⟩ := hG
  obtain ⟨o3, o4, o5, o6, o7, o8, o9, o10, o11, o12, o14, o15, o16, o17, oT3, oT4⟩ := hO
  intro j
  induction j with
  | zero =>
    intro i p hj h1 h2 hp hQ
    refine pw_iload_n dX7_scrollUp_32 rfl ?_
    refine pw_iload_n dX7_scrollUp_33 rfl ?_
    refine pw_icmp_ge (tgt := 59) dX7_scrollUp_34 rfl (by omega) (by omega) (fun c34 => ?_) (fun c34 => ?_)
    ·
      exact kk p hp hQ i
    · exfalso; omega
  | succ j ih =>
    intro i p hj h1 h2 hp hQ
    refine pw_iload_n dX7_scrollUp_32 rfl ?_
    refine pw_iload_n dX7_scrollUp_33 rfl ?_
    refine pw_icmp_ge (tgt := 59) dX7_scrollUp_34 rfl (by omega) (by omega) (fun c34 => ?_) (fun c34 => ?_)
    · exfalso; omega
    ·
      refine pw_aload_n dX7_scrollUp_37 rfl ?_
      refine pw_get (v := .ref (I 3)) okX7 (k := 2) (by decide) lkX7_28 (scAt_put hA).1.1 rfl dX7_scrollUp_38 ?_
      refine pw_aload_n dX7_scrollUp_41 rfl ?_
      refine pw_get (v := .ref (I 6)) okX7 (k := 0) (by decide) lkX7_14 (scAt_put hA).1.1 rfl dX7_scrollUp_42 ?_
      refine pw_iload_n dX7_scrollUp_45 rfl ?_
      refine pw_aload_n dX7_scrollUp_46 rfl ?_
      refine pw_get (v := .int (zI (F 3))) okX7 (k := 3) (by decide) lkX7_76 (scAt_put hA).1.1 rfl dX7_scrollUp_47 ?_
      refine pw_callV (As := [.ref (I 6), .int (zI (i)), .int (zI (F 3))]) (b := (I 3)) (rm := rmD 2 0 0) (mX1_add htr (scAt_put hA).1.2.2.2.1 (scAt_put hA).1.2.2.2.2.1 (scAt_put hA).1.2.2.2.2.2.1 (scNe hA (by decide) (by decide) (by decide)) (scNe hA (by decide) (by decide) (by decide)) (scNe hA (by decide) (by decide) (by decide)) (by omega) hp.1 hp.2 gNH (scAt_put hA).1.2.2.2.2.2.2.1 (scAt_put hA).1.2.1 (scNe hA (by decide) (by decide) (by decide)) (by omega) gN gN2 (by omega) (by omega) (scNe hA (by decide) (by decide) (by decide)) (scNe hA (by decide) (by decide) (by decide)) (scNe hA (by decide) (by decide) (by decide)) (scNe hA (by decide) (by decide) (by decide)) (scNe hA (by decide) (by decide) (by decide)) (scNe hA (by decide) (by decide) (by decide))) rfl (scAt_put hA).1.2.2.2.1 rfl rfl ywX1_add rfl cwX7_122 ⟨nle rfl, nle rfl⟩ (nle rfl) ⟨nle rfl, nle rfl⟩ dX7_scrollUp_50 ?_ (fun _ _ _ z => z.elim)
      intro r2 h2 n2 hq _
      rw [hq.1, hq.2.1, hq.2.2]
      show pw E YX7_scrollUp _ _ 0 0 53 [some (.ref (I 0)), some (.int (zI (k))), some (.int (zI (g))), some (.int (zI (i)))] [] (va_up (va_up (va_up (scPut w H N NH I F m o p.1 p.2.1 p.2.2 h) (I 3) (pz_o 4 (hiObj w I (hT p.1)))) (I 5) (pz_z 0 30 (hL p.1 p.2.2 (F 3)))) (I 4) (pz_z 0 NH (hC w H NH p.1 p.2.1 (i) (F 3) m))) n
      refine pw_h (scU354 hA) ?_
      refine pw_ziinc (lv' := [some (.ref (I 0)), some (.int (zI (k))), some (.int (zI (g))), some (.int (zI (i + 1)))]) dX7_scrollUp_53 rfl (by decide) rfl rfl ?_
      refine pw_goto (tgt := 32) dX7_scrollUp_56 rfl ?_
      exact ih (i + 1) (hT p.1, hC w H NH p.1 p.2.1 i (F 3) m, hL p.1 p.2.2 (F 3)) (by omega) (by omega) (by omega) (hT_ok hp) (by exact hQ)
