theorem naLong : Cond.arrayClass .long ∈ pw_G := pw_in 1757 (by decide +kernel) (by decide +kernel)
theorem nwL_8 : Cond.classLink RL 8 RX9 ∈ pw_G ∧ Cond.instantiable RX9 11 ∈ pw_G ∧ Cond.initialized RX9 ∈ pw_G := ⟨pw_in 108 (by decide +kernel) (by decide +kernel), pw_in 109 (by decide +kernel) (by decide +kernel), pw_in 79 (by decide +kernel) (by decide +kernel)⟩
theorem nwL_70 : Cond.classLink RL 70 RX10 ∈ pw_G ∧ Cond.instantiable RX10 61 ∈ pw_G ∧ Cond.initialized RX10 ∈ pw_G := ⟨pw_in 1309 (by decide +kernel) (by decide +kernel), pw_in 1310 (by decide +kernel) (by decide +kernel), pw_in 106 (by decide +kernel) (by decide +kernel)⟩
theorem dzX9 : (∀ j, j < 11 → defaultValue (tyX9 j) = vp_V [.int (zI (0)), .int (zI (0)), .null, .null, .null, .null, .null, .null, .int (zI (0)), .int (zI (0)), .int (zI (0))] j) ∧ pz_ks 0 [.int (zI (0)), .int (zI (0)), .null, .null, .null, .null, .null, .null, .int (zI (0)), .int (zI (0)), .int (zI (0))] := ⟨fun j hj => match j, hj with
  | 0, _ => rfl
  | 1, _ => rfl
  | 2, _ => rfl
  | 3, _ => rfl
  | 4, _ => rfl
  | 5, _ => rfl
  | 6, _ => rfl
  | 7, _ => rfl
  | 8, _ => rfl
  | 9, _ => rfl
  | 10, _ => rfl
  | k + 11, hj => absurd hj (by omega), ⟨trivial, trivial, trivial, trivial, trivial, trivial, trivial, trivial, trivial, trivial, trivial, trivial⟩⟩
theorem dzX10 : (∀ j, j < 61 → defaultValue (tyX10 j) = vp_V [.int (zI (0)), .int (zI (0)), .int (zI (0)), .null, .null, .null, .null, .null, .null, .null, .null, .null, .null, .null, .int (zI (0)), .null, .null, .null, .null, .null, .null, .null, .null, .null, .null, .null, .null, .null, .null, .null, .null, .null, .null, .null, .null, .null, .null, .null, .null, .null, .null, .null, .null, .null, .null, .null, .null, .int (zI (0)), .int (zI (0)), .int (zI (0)), .null, .null, .null, .int (zI (0)), .int (zI (0)), .int (zI (0)), .int (zI (0)), .int (zI (0)), .null, .null, .null] j) ∧ pz_ks 0 [.int (zI (0)), .int (zI (0)), .int (zI (0)), .null, .null, .null, .null, .null, .null, .null, .null, .null, .null, .null, .int (zI (0)), .null, .null, .null, .null, .null, .null, .null, .null, .null, .null, .null, .null, .null, .null, .null, .null, .null, .null, .null, .null, .null, .null, .null, .null, .null, .null, .null, .null, .null, .null, .null, .null, .int (zI (0)), .int (zI (0)), .int (zI (0)), .null, .null, .null, .int (zI (0)), .int (zI (0)), .int (zI (0)), .int (zI (0)), .int (zI (0)), .null, .null, .null] := ⟨fun j hj => match j, hj with
  | 0, _ => rfl
  | 1, _ => rfl
  | 2, _ => rfl
  | 3, _ => rfl
  | 4, _ => rfl
  | 5, _ => rfl
  | 6, _ => rfl
  | 7, _ => rfl
  | 8, _ => rfl
  | 9, _ => rfl
  | 10, _ => rfl
  | 11, _ => rfl
  | 12, _ => rfl
  | 13, _ => rfl
  | 14, _ => rfl
  | 15, _ => rfl
  | 16, _ => rfl
  | 17, _ => rfl
  | 18, _ => rfl
  | 19, _ => rfl
  | 20, _ => rfl
  | 21, _ => rfl
  | 22, _ => rfl
  | 23, _ => rfl
  | 24, _ => rfl
  | 25, _ => rfl
  | 26, _ => rfl
  | 27, _ => rfl
  | 28, _ => rfl
  | 29, _ => rfl
  | 30, _ => rfl
  | 31, _ => rfl
  | 32, _ => rfl
  | 33, _ => rfl
  | 34, _ => rfl
  | 35, _ => rfl
  | 36, _ => rfl
  | 37, _ => rfl
  | 38, _ => rfl
  | 39, _ => rfl
  | 40, _ => rfl
  | 41, _ => rfl
  | 42, _ => rfl
  | 43, _ => rfl
  | 44, _ => rfl
  | 45, _ => rfl
  | 46, _ => rfl
  | 47, _ => rfl
  | 48, _ => rfl
  | 49, _ => rfl
  | 50, _ => rfl
  | 51, _ => rfl
  | 52, _ => rfl
  | 53, _ => rfl
  | 54, _ => rfl
  | 55, _ => rfl
  | 56, _ => rfl
  | 57, _ => rfl
  | 58, _ => rfl
  | 59, _ => rfl
  | 60, _ => rfl
  | k + 61, hj => absurd hj (by omega), ⟨trivial, trivial, trivial, trivial, trivial, trivial, trivial, trivial, trivial, trivial, trivial, trivial, trivial, trivial, trivial, trivial, trivial, trivial, trivial, trivial, trivial, trivial, trivial, trivial, trivial, trivial, trivial, trivial, trivial, trivial, trivial, trivial, trivial, trivial, trivial, trivial, trivial, trivial, trivial, trivial, trivial, trivial, trivial, trivial, trivial, trivial, trivial, trivial, trivial, trivial, trivial, trivial, trivial, trivial, trivial, trivial, trivial, trivial, trivial, trivial, trivial, trivial⟩⟩
theorem cwL_67 : Cond.methodLink RL 67 yX9_init ∈ pw_G ∧ Cond.instanceMethod yX9_init ∈ pw_G := ⟨pw_in 110 (by decide +kernel) (by decide +kernel), pw_in 111 (by decide +kernel) (by decide +kernel)⟩
theorem cwL_72 : Cond.methodLink RL 72 yX10_init ∈ pw_G ∧ Cond.instanceMethod yX10_init ∈ pw_G := ⟨pw_in 1311 (by decide +kernel) (by decide +kernel), pw_in 1312 (by decide +kernel) (by decide +kernel)⟩
theorem cwL_62 : Cond.methodLink RL 62 yL_cell ∈ pw_G ∧ Cond.static yL_cell ∈ pw_G := ⟨pw_in 913 (by decide +kernel) (by decide +kernel), pw_in 914 (by decide +kernel) (by decide +kernel)⟩
set_option maxHeartbeats 2000000 in
set_option maxRecDepth 100000 in
theorem lz_next {E : pw_E} {K : pw_K} {b N0 uc us : Nat} {xs : Nat → Int32} {h : pz_H} {n : Nat} {i : Int} {q5 q6 : Option Value} (kk : True → pl E YL_law (b, N0, xs) room_1 K uc us 43 [none, some (.ref 0), some (.ref 115), some (.ref 165), some (.int (zI (i + 6))), q5, q6] [] h n) : pl E YL_law (b, N0, xs) room_1 K uc us 750 [none, some (.ref 0), some (.ref 115), some (.ref 165), some (.int (zI i)), q5, q6] [] h n := by
  refine pl_ziinc (lv' := [none, some (.ref 0), some (.ref 115), some (.ref 165), some (.int (zI (i + 6))), q5, q6]) dL_law_750 rfl (by decide) (by decide) rfl rfl ?_
  exact pl_goto (tgt := 43) dL_law_753 rfl (kk trivial)

set_option maxHeartbeats 2000000 in
set_option maxRecDepth 100000 in
theorem lz_loop {E : pw_E} (htr : E.1.stackTraces = false) {K : pw_K} {b N0 : Nat} {xs : Nat → Int32} {W H : Int} {N NH NB NL : Nat} (hN0 : N0 ≤ 3074) (hG : geoH W H N NH NB NL) : ∀ (j : Nat) (i : Int) (q5 q6 : Option Value) (uc us n : Nat) (M : Int) (t : aT) (h : pz_H), 2 ≤ i → i ≤ 10000 → (N0 : Int) - i < 6 * j + 6 → uc + 4 * j ≤ 601000 ∧ us + 28 * j ≤ 7290000 → 0 ≤ M ∧ M + 400 * j ≤ 700000000 → 166 ≤ n → jJ W H M N NH NB NL n t h → pl E YL_law (b, N0, xs) room_1 K uc us 43 [none, some (.ref 0), some (.ref 115), some (.ref 165), some (.int (zI i)), q5, q6] [] h n := by
  intro j
  induction j with
  | zero =>
    intro i q5 q6 uc us n M t h i1 i2 i3 hr hM hn hJ
    refine pl_iload dL_law_43 rfl ?_
    refine pl_slen (N := N0) rfl dL_law_45 dL_law_46 ?_
    refine pl_bipush (v := zI (6)) dL_law_47 (by decide) ?_
    refine pl_zisub dL_law_49 ?_
    refine pl_icmp_gt (tgt := 756) dL_law_50 rfl (by omega) (by omega) (fun c50 => ?_) (fun c50 => ?_)
    · refine pl_iconst (v := zI (1)) dL_law_756 (by decide) ?_
      exact pl_ret ⟨rfl, rfl⟩ rfl (by omega) (by omega) dL_law_757
    · exfalso; omega
  | succ j ih =>
    intro i q5 q6 uc us n M t h i1 i2 i3 hr hM hn hJ
    refine pl_iload dL_law_43 rfl ?_
    refine pl_slen (N := N0) rfl dL_law_45 dL_law_46 ?_
    refine pl_bipush (v := zI (6)) dL_law_47 (by decide) ?_
    refine pl_zisub dL_law_49 ?_
    refine pl_icmp_gt (tgt := 756) dL_law_50 rfl (by omega) (by omega) (fun c50 => ?_) (fun c50 => ?_)
    · refine pl_iconst (v := zI (1)) dL_law_756 (by decide) ?_
      exact pl_ret ⟨rfl, rfl⟩ rfl (by omega) (by omega) dL_law_757
    refine pl_sld0 (i := i) rfl (by show 0 ≤ i ∧ i < (N0 : Int); omega) (by show N0 < 2147483648; omega) dL_law_53 dL_law_54 dL_law_56 ?_
    refine pl_bipush (v := zI (15)) dL_law_57 (by decide) ?_
    refine pl_iand dL_law_59 ?_
    rw [opc_z]
    have hob := opc_b (x := xs i.toNat)
    show pl E YL_law (b, N0, xs) room_1 K uc us 60 [none, some (.ref 0), some (.ref 115), some (.ref 165), some (.int (zI i)), q5, q6] [.int (zI (opc (xs i.toNat)))] h n
    generalize opc (xs i.toNat) = a at hob ⊢
    rcases (show a = 0 ∨ a = 1 ∨ a = 2 ∨ a = 3 ∨ a = 4 ∨ a = 5 ∨ a = 6 ∨ a = 7 ∨ a = 8 ∨ a = 9 ∨ a = 10 ∨ a = 11 ∨ a = 12 ∨ a = 13 ∨ (a < 0 ∨ 13 < a) by omega) with rfl | rfl | rfl | rfl | rfl | rfl | rfl | rfl | rfl | rfl | rfl | rfl | rfl | rfl | ht
    · refine pl_tableIn (off := 72) (tgt := 132) dL_law_60 (by omega) (by omega) (by omega) rfl rfl ?_
      exact lz_feed htr hN0 (by omega) (by omega) (by omega) hG (by omega) hn hJ (fun h9 n9 t9 q59 q69 uc9 us9 z1 z2 z3 z4 => lz_next (fun h8 => ih (i + 6) _ _ _ _ _ (M + 400) _ _ (by omega) (by omega) (by omega) (by omega) (by omega) z3 z4))
    · refine pl_tableIn (off := 153) (tgt := 213) dL_law_60 (by omega) (by omega) (by omega) rfl rfl ?_
      exact lz_key htr hN0 (by omega) (by omega) (by omega) hG (by omega) hn hJ (fun h9 n9 t9 q59 q69 uc9 us9 z1 z2 z3 z4 => lz_next (fun h8 => ih (i + 6) _ _ _ _ _ (M + 400) _ _ (by omega) (by omega) (by omega) (by omega) (by omega) z3 z4))
    · refine pl_tableIn (off := 181) (tgt := 241) dL_law_60 (by omega) (by omega) (by omega) rfl rfl ?_
      exact lz_split htr hN0 (by omega) (by omega) (by omega) hG (by omega) hn hJ (fun h9 n9 t9 q59 q69 uc9 us9 z1 z2 z3 z4 => lz_next (fun h8 => ih (i + 6) _ _ _ _ _ (M + 400) _ _ (by omega) (by omega) (by omega) (by omega) (by omega) z3 z4))
    · refine pl_tableIn (off := 237) (tgt := 297) dL_law_60 (by omega) (by omega) (by omega) rfl rfl ?_
      exact lz_close htr hN0 (by omega) (by omega) (by omega) hG (by omega) hn hJ (fun h9 n9 t9 q59 q69 uc9 us9 z1 z2 z3 z4 => lz_next (fun h8 => ih (i + 6) _ _ _ _ _ (M + 400) _ _ (by omega) (by omega) (by omega) (by omega) (by omega) z3 z4))
    · refine pl_tableIn (off := 265) (tgt := 325) dL_law_60 (by omega) (by omega) (by omega) rfl rfl ?_
      exact lz_focus htr hN0 (by omega) (by omega) (by omega) hG (by omega) hn hJ (fun h9 n9 t9 q59 q69 uc9 us9 z1 z2 z3 z4 => lz_next (fun h8 => ih (i + 6) _ _ _ _ _ (M + 400) _ _ (by omega) (by omega) (by omega) (by omega) (by omega) z3 z4))
    · refine pl_tableIn (off := 301) (tgt := 361) dL_law_60 (by omega) (by omega) (by omega) rfl rfl ?_
      exact lz_copy htr hN0 (by omega) (by omega) (by omega) hG (by omega) hn hJ (fun h9 n9 t9 q59 q69 uc9 us9 z1 z2 z3 z4 => lz_next (fun h8 => ih (i + 6) _ _ _ _ _ (M + 400) _ _ (by omega) (by omega) (by omega) (by omega) (by omega) z3 z4))
    · refine pl_tableIn (off := 369) (tgt := 429) dL_law_60 (by omega) (by omega) (by omega) rfl rfl ?_
      exact lz_select htr hN0 (by omega) (by omega) (by omega) hG (by omega) hn hJ (fun h9 n9 t9 q59 q69 uc9 us9 z1 z2 z3 z4 => lz_next (fun h8 => ih (i + 6) _ _ _ _ _ (M + 400) _ _ (by omega) (by omega) (by omega) (by omega) (by omega) z3 z4))
    · refine pl_tableIn (off := 445) (tgt := 505) dL_law_60 (by omega) (by omega) (by omega) rfl rfl ?_
      exact lz_redraw htr hN0 (by omega) (by omega) (by omega) hG (by omega) hn hJ (fun h9 n9 t9 q59 q69 uc9 us9 z1 z2 z3 z4 => lz_next (fun h8 => ih (i + 6) _ _ _ _ _ (M + 400) _ _ (by omega) (by omega) (by omega) (by omega) (by omega) z3 z4))
    · refine pl_tableIn (off := 458) (tgt := 518) dL_law_60 (by omega) (by omega) (by omega) rfl rfl ?_
      exact lz_out htr hN0 (by omega) (by omega) (by omega) hG (by omega) hn hJ (fun h9 n9 t9 q59 q69 uc9 us9 z1 z2 z3 z4 => lz_next (fun h8 => ih (i + 6) _ _ _ _ _ (M + 400) _ _ (by omega) (by omega) (by omega) (by omega) (by omega) z3 z4))
    · refine pl_tableIn (off := 486) (tgt := 546) dL_law_60 (by omega) (by omega) (by omega) rfl rfl ?_
      exact lz_cell htr hN0 (by omega) (by omega) (by omega) hG (by omega) hn hJ (fun h9 n9 t9 q59 q69 uc9 us9 z1 z2 z3 z4 => lz_next (fun h8 => ih (i + 6) _ _ _ _ _ (M + 400) _ _ (by omega) (by omega) (by omega) (by omega) (by omega) z3 z4))
    · refine pl_tableIn (off := 554) (tgt := 614) dL_law_60 (by omega) (by omega) (by omega) rfl rfl ?_
      exact lz_about htr hN0 (by omega) (by omega) (by omega) hG (by omega) hn hJ (fun h9 n9 t9 q59 q69 uc9 us9 z1 z2 z3 z4 => lz_next (fun h8 => ih (i + 6) _ _ _ _ _ (M + 400) _ _ (by omega) (by omega) (by omega) (by omega) (by omega) z3 z4))
    · refine pl_tableIn (off := 594) (tgt := 654) dL_law_60 (by omega) (by omega) (by omega) rfl rfl ?_
      exact lz_input htr hN0 (by omega) (by omega) (by omega) hG (by omega) hn hJ (fun h9 n9 t9 q59 q69 uc9 us9 z1 z2 z3 z4 => lz_next (fun h8 => ih (i + 6) _ _ _ _ _ (M + 400) _ _ (by omega) (by omega) (by omega) (by omega) (by omega) z3 z4))
    · refine pl_tableIn (off := 634) (tgt := 694) dL_law_60 (by omega) (by omega) (by omega) rfl rfl ?_
      exact lz_copied htr hN0 (by omega) (by omega) (by omega) hG (by omega) hn hJ (fun h9 n9 t9 q59 q69 uc9 us9 z1 z2 z3 z4 => lz_next (fun h8 => ih (i + 6) _ _ _ _ _ (M + 400) _ _ (by omega) (by omega) (by omega) (by omega) (by omega) z3 z4))
    · refine pl_tableIn (off := 662) (tgt := 722) dL_law_60 (by omega) (by omega) (by omega) rfl rfl ?_
      exact lz_count htr hN0 (by omega) (by omega) (by omega) hG (by omega) hn hJ (fun h9 n9 t9 q59 q69 uc9 us9 z1 z2 z3 z4 => lz_next (fun h8 => ih (i + 6) _ _ _ _ _ (M + 400) _ _ (by omega) (by omega) (by omega) (by omega) (by omega) z3 z4))
    · refine pl_tableOut (tgt := 750) dL_law_60 (by omega) (by omega) rfl ?_
      refine lz_next (fun h8 => ih (i + 6) _ _ _ _ _ (M + 400) t _ (by omega) (by omega) (by omega) (by omega) (by omega) hn ?_)
      obtain ⟨x, s, f9, hC, hA, hH, ho⟩ := hJ
      exact ⟨x, s, f9, cH_mo hC (by omega) (Nat.le_refl n), hA, rH_mo hH (by omega), ho⟩
theorem cv_b {N0 : Nat} {xs : Nat → Int32} {k : Int} : -2147483648 ≤ cv N0 xs k ∧ cv N0 xs k < 2147483648 := by
  unfold cv
  split
  · exact i32 _
  · omega
set_option maxHeartbeats 2000000 in
set_option maxRecDepth 100000 in
theorem lw_law {E : pw_E} (htr : E.1.stackTraces = false) {K : pw_K} {b N0 : Nat} {xs : Nat → Int32} {h : pz_H} (hN0 : N0 ≤ 3074) : pl E YL_law (b, N0, xs) room_1 K 0 0 0 [none, none, none, none, none, none, none] [] h 0 := by
  refine pl_new okX9 nwL_8.1 nwL_8.2.1 nwL_8.2.2 dzX9.1 dzX9.2 (nle rfl) (nle rfl) dL_law_0 ?_
  refine pl_dup dL_law_3 rfl ?_
  refine pl_cell (k := 0) (a1 := 5) (a2 := 6) rfl rfl (by omega) (by show N0 < 2147483648; omega) ⟨cwL_62.1, cwL_62.2, iniL⟩ ⟨nle rfl, nle rfl⟩ (nle rfl) ⟨nle rfl, nle rfl⟩ dL_law_4 dL_law_5 dL_law_6 ?_
  refine pl_cell (k := 1) (a1 := 10) (a2 := 11) rfl rfl (by omega) (by show N0 < 2147483648; omega) ⟨cwL_62.1, cwL_62.2, iniL⟩ ⟨nle rfl, nle rfl⟩ (nle rfl) ⟨nle rfl, nle rfl⟩ dL_law_9 dL_law_10 dL_law_11 ?_
  have g0 : -2147483648 ≤ cv N0 xs 0 ∧ cv N0 xs 0 < 2147483648 := cv_b
  have g1 : -2147483648 ≤ cv N0 xs 1 ∧ cv N0 xs 1 < 2147483648 := cv_b
  obtain ⟨w, hwe⟩ : ∃ w, w = max 8 (min 40 (cv N0 xs 0)) := ⟨_, rfl⟩
  obtain ⟨H, hHe⟩ : ∃ H, H = max 4 (min 16 (cv N0 xs 1)) := ⟨_, rfl⟩
  have hw : 8 ≤ w ∧ w ≤ 40 := by omega
  have hH : 4 ≤ H ∧ H ≤ 16 := by omega
  have p0 : 0 ≤ w * H := Int.mul_nonneg (by omega) (by omega)
  have p1 : w * H ≤ 40 * 16 := Int.mul_le_mul hw.2 hH.2 (by omega) (by omega)
  obtain ⟨N, hN⟩ : ∃ N : Nat, (N : Int) = w * H := ⟨(w * H).toNat, Int.toNat_of_nonneg p0⟩
  obtain ⟨NH, hNH⟩ : ∃ N : Nat, (N : Int) = 30 * w := ⟨(30 * w).toNat, Int.toNat_of_nonneg (by omega)⟩
  obtain ⟨NB, hNB⟩ : ∃ N : Nat, (N : Int) = w * H * 17 + (H + 1) * 8 + 6 := ⟨(w * H * 17 + (H + 1) * 8 + 6).toNat, Int.toNat_of_nonneg (by omega)⟩
  obtain ⟨NL, hNL⟩ : ∃ N : Nat, (N : Int) = w := ⟨w.toNat, Int.toNat_of_nonneg (by omega)⟩
  have hG : geoH w H N NH NB NL := ⟨⟨hw, hH, hN, by omega, hNH⟩, hNB, hNL⟩
  refine pl_callI (As := [.int (zI (cv N0 xs 0)), .int (zI (cv N0 xs 1))]) (b := 0) (rm := rmD 6 114 (hSl N NH NB NL)) (mX9_init (B := 0) htr hG hwe hHe g0 g1 (va_up_self _ _ _)) rfl ywX9_init rfl ⟨rfl, rfl⟩ cwL_67 ⟨nle rfl, nle rfl⟩ (nle rfl) ⟨nle rfl, by show 0 + 11 + hSl N NH NB NL ≤ 7293000; unfold hSl; omega⟩ dL_law_14 ?_
  intro r_9 h1 n_9 hq _
  obtain ⟨e1, hA1, -, e4⟩ := hq
  rw [e1, e4]
  show pl E YL_law (b, N0, xs) room_1 K (0 + 1 + 114) (0 + 11 + hSl N NH NB NL) 17 [none, none, none, none, none, none, none] [.ref 0] h1 115
  refine pl_astore_n (lv' := [none, some (.ref 0), none, none, none, none, none]) dL_law_17 (by decide) (by decide) rfl rfl ?_
  refine pl_new okX10 nwL_70.1 nwL_70.2.1 nwL_70.2.2 dzX10.1 dzX10.2 (nle rfl) (by show 0 + 11 + hSl N NH NB NL + 61 ≤ 7293000; unfold hSl; omega) dL_law_18 ?_
  refine pl_dup dL_law_21 rfl ?_
  refine pl_cell (k := 0) (a1 := 23) (a2 := 24) rfl rfl (by omega) (by show N0 < 2147483648; omega) ⟨cwL_62.1, cwL_62.2, iniL⟩ ⟨nle rfl, nle rfl⟩ (nle rfl) ⟨nle rfl, by show 0 + 11 + hSl N NH NB NL + 61 ≤ 7293000; unfold hSl; omega⟩ dL_law_22 dL_law_23 dL_law_24 ?_
  refine pl_cell (k := 1) (a1 := 28) (a2 := 29) rfl rfl (by omega) (by show N0 < 2147483648; omega) ⟨cwL_62.1, cwL_62.2, iniL⟩ ⟨nle rfl, nle rfl⟩ (nle rfl) ⟨nle rfl, by show 0 + 11 + hSl N NH NB NL + 61 ≤ 7293000; unfold hSl; omega⟩ dL_law_27 dL_law_28 dL_law_29 ?_
  refine pl_callI (As := [.int (zI (cv N0 xs 0)), .int (zI (cv N0 xs 1))]) (b := 115) (rm := rmD 3 49 66328) (nR_init (B := 115) htr hw hH hwe hHe g0 g1 ((va_up_self _ _ _).trans rfl)) rfl ywX10_init rfl ⟨rfl, rfl⟩ cwL_72 ⟨nle rfl, nle rfl⟩ (nle rfl) ⟨nle rfl, by show 0 + 11 + hSl N NH NB NL + 61 + 66328 ≤ 7293000; unfold hSl; omega⟩ dL_law_32 ?_
  intro r_9 h3 n_9 hq _
  obtain ⟨e1, s, hM3, hn, hF3, e4⟩ := hq
  rw [e1, e4]
  show pl E YL_law (b, N0, xs) room_1 K (0 + 1 + 114 + 1 + 49) (0 + 11 + hSl N NH NB NL + 61 + 66328) 35 [none, some (.ref 0), none, none, none, none, none] [.ref 115] h3 165
  refine pl_astore_n (lv' := [none, some (.ref 0), some (.ref 115), none, none, none, none]) dL_law_35 (by decide) (by decide) rfl rfl ?_
  refine pl_iconst (v := zI (1)) dL_law_36 (by decide) ?_
  refine pl_newl (t := 2) rfl naLong (by decide) (nle rfl) (by show 0 + 11 + hSl N NH NB NL + 61 + 66328 + 1 ≤ 7293000; unfold hSl; omega) dL_law_37 ?_
  refine pl_astore_n (lv' := [none, some (.ref 0), some (.ref 115), some (.ref 165), none, none, none]) dL_law_39 (by decide) (by decide) rfl rfl ?_
  refine pl_iconst (v := zI (2)) dL_law_40 (by decide) ?_
  refine pl_istore (lv' := [none, some (.ref 0), some (.ref 115), some (.ref 165), some (.int (zI (2))), none, none]) dL_law_41 (by decide) (by decide) rfl rfl ?_
  obtain ⟨hR0, f47, f48⟩ := t0_rH hw hH hn
  refine lz_loop htr hN0 hG 512 2 none none _ _ 166 0 (t0 w H) _ (by omega) (by omega) (by omega) ⟨nle rfl, by show 0 + 11 + hSl N NH NB NL + 61 + 66328 + 1 + 28 * 512 ≤ 7290000; unfold hSl; omega⟩ (by omega) (by omega) ⟨hNew w H N 0, s, fun _ => 0, ?_, ?_, hR0, va_up_self _ _ _⟩
  · rw [f47, f48]
    refine t0_cH hw hH (hAt_kp hA1 (fun a a1 a2 => ?_) (fun a ha => ?_))
    · show va_up h3 165 _ a = h1 a
      rw [va_up_ne _ _ (by omega), hF3 a (by omega), va_up_ne _ _ (by omega)]
    · have ea : a = 0 + 109 := of_decide_eq_true ha
      show va_up h3 165 _ a = h1 a
      rw [va_up_ne _ _ (by omega), hF3 a (by omega), va_up_ne _ _ (by omega)]
  · exact mAt_kp hM3 (fun a a1 a2 => va_up_ne _ _ (by omega))
