theorem naLong : Cond.arrayClass .long ∈ pw_G := pw_in 1757 (by decide +kernel) (by decide +kernel)
theorem nwL_8 : Cond.classLink RL 8 RX9 ∈ pw_G ∧ Cond.instantiable RX9 11 ∈ pw_G ∧ Cond.initialized RX9 ∈ pw_G := ⟨pw_in 108 (by decide +kernel) (by decide +kernel), pw_in 109 (by decide +kernel) (by decide +kernel), pw_in 79 (by decide +kernel) (by decide +kernel)⟩
theorem nwL_70 : Cond.classLink RL 70 RX10 ∈ pw_G ∧ Cond.instantiable RX10 61 ∈ pw_G ∧ Cond.initialized RX10 ∈ pw_G := ⟨pw_in 1309 (by decide +kernel) (by decide +kernel), pw_in 1310 (by decide +kernel) (by decide +kernel), pw_in 106 (by decide +kernel) (by decide +kernel)⟩
theorem dzX9 : (∀ j, j < 11 → defaultValue (tyX9 j) = vp_V [.int (zI (0)), .int (zI (0)), .null, .null, .null, .null, .null, .null, .int (zI (0)), .int (zI (0)), .int (zI (0))] j) ∧ pz_ks 0 [.int (zI (0)), .int (zI (0)), .null, .null, .null, .null, .null, .null, .int (zI (0)), .int (zI (0)), .int (zI (0))] := ⟨fun j hj => match j, hj with
  | 0, _ => rfl
  | 1, _ => rfl
  | 2, _ => rfl
  | 3, _ => rfl
  | 4, _ => rfl
  | 5, _ => rfl
  | 6, _ => rfl
  | 7, _ => rfl
  | 8, _ => rfl
  | 9, _ => rfl
  | 10, _ => rfl
  | k + 11, hj => absurd hj (by omega), ⟨trivial, trivial, trivial, trivial, trivial, trivial, trivial, trivial, trivial, trivial, trivial, trivial⟩⟩
theorem dzX10 : (∀ j, j < 61 → defaultValue (tyX10 j) = vp_V [.int (zI (0)), .int (zI (0)), .int (zI (0)), .null, .null, .null, .null, .null, .null, .null, .null, .null, .null, .null, .int (zI (0)), .null, .null, .null, .null, .null, .null, .null, .null, .null, .null, .null, .null, .null, .null, .null, .null, .null, .null, .null, .null, .null, .null, .null, .null, .null, .null, .null, .null, .null, .null, .null, .null, .int (zI (0)), .int (zI (0)), .int (zI (0)), .null, .null, .null, .int (zI (0)), .int (zI (0)), .int (zI (0)), .int (zI (0)), .int (zI (0)), .null, .null, .null] j) ∧ pz_ks 0 [.int (zI (0)), .int (zI (0)), .int (zI (0)), .null, .null, .null, .null, .null, .null, .null, .null, .null, .null, .null, .int (zI (0)), .null, .null, .null, .null, .null, .null, .null, .null, .null, .null, .null, .null, .null, .null, .null, .null, .null, .null, .null, .null, .null, .null, .null, .null, .null, .null, .null, .null, .null, .null, .null, .null, .int (zI (0)), .int (zI (0)), .int (zI (0)), .null, .null, .null, .int (zI (0)), .int (zI (0)), .int (zI (0)), .int (zI (0)), .int (zI (0)), .null, .null, .null] := ⟨fun j hj => match j, hj with
  | 0, _ => rfl
  | 1, _ => rfl
  | 2, _ => rfl
  | 3, _ => rfl
  | 4, _ => rfl
  | 5, _ => rfl
  | 6, _ => rfl
  | 7, _ => rfl
  | 8, _ => rfl
  | 9, _ => rfl
  | 10, _ => rfl
  | 11, _ => rfl
  | 12, _ => rfl
  | 13, _ => rfl
  | 14, _ => rfl
  | 15, _ => rfl
  | 16, _ => rfl
  | 17, _ => rfl
  | 18, _ => rfl
  | 19, _ => rfl
  | 20, _ => rfl
  | 21, _ => rfl
  | 22, _ => rfl
  | 23, _ => rfl
  | 24, _ => rfl
  | 25, _ => rfl
  | 26, _ => rfl
  | 27, _ => rfl
  | 28, _ => rfl
  | 29, _ => rfl
  | 30, _ => rfl
  | 31, _ => rfl
  | 32, _ => rfl
  | 33, _ => rfl
  | 34, _ => rfl
  | 35, _ => rfl
  | 36, _ => rfl
  | 37, _ => rfl
  | 38, _ => rfl
  | 39, _ => rfl
  | 40, _ => rfl
  | 41, _ => rfl
  | 42, _ => rfl
  | 43, _ => rfl
  | 44, _ => rfl
  | 45, _ => rfl
  | 46, _ => rfl
  | 47, _ => rfl
  | 48, _ => rfl
  | 49, _ => rfl
  | 50, _ => rfl
  | 51, _ => rfl
  | 52, _ => rfl
  | 53, _ => rfl
  | 54, _ => rfl
  | 55, _ => rfl
  | 56, _ => rfl
  | 57, _ => rfl
  | 58, _ => rfl
  | 59, _ => rfl
  | 60, _ => rfl
  | k + 61, hj => absurd hj (by omega), ⟨trivial, trivial, trivial, trivial, trivial, trivial, trivial, trivial, trivial, trivial, trivial, trivial, trivial, trivial, trivial, trivial, trivial, trivial, trivial, trivial, trivial, trivial, trivial, trivial, trivial, trivial, trivial, trivial, trivial, trivial, trivial, trivial, trivial, trivial, trivial, trivial, trivial, trivial, trivial, trivial, trivial, trivial, trivial, trivial, trivial, trivial, trivial, trivial, trivial, trivial, trivial, trivial, trivial, trivial, trivial, trivial, trivial, trivial, trivial, trivial, trivial, trivial⟩⟩
theorem cwL_67 : Cond.methodLink RL 67 yX9_init ∈ pw_G ∧ Cond.instanceMethod yX9_init ∈ pw_G := ⟨pw_in 110 (by decide +kernel) (by decide +kernel), pw_in 111 (by decide +kernel) (by decide +kernel)⟩
theorem cwL_72 : Cond.methodLink RL 72 yX10_init ∈ pw_G ∧ Cond.instanceMethod yX10_init ∈ pw_G := ⟨pw_in 1311 (by decide +kernel) (by decide +kernel), pw_in 1312 (by decide +kernel) (by decide +kernel)⟩
theorem cwL_62 : Cond.methodLink RL 62 yL_cell ∈ pw_G ∧ Cond.static yL_cell ∈ pw_G := ⟨pw_in 913 (by decide +kernel) (by decide +kernel), pw_in 914 (by decide +kernel) (by decide +kernel)⟩
/-! ===== the law from its start ===== -/
theorem hAt_keep {w H : Int} {N NH NB NL B : Nat} {s : hS} {h h' : pz_H} (hA : hAt w H N NH NB NL B s h) (e : ∀ a, B ≤ a → a < B + 115 → h' a = h a) (eD : ∀ a, hD s a = true → h' a = h a) : hAt w H N NH NB NL B s h' := by
  obtain ⟨a1, a2, a3, a4, a5, a6, ⟨a7, a8, a9, b1, b2, b3⟩, a10, a11, a12, a13⟩ := hA
  refine ⟨(e _ (by omega) (by omega)).trans a1, (e _ (by omega) (by omega)).trans a2, (e _ (by omega) (by omega)).trans a3, fun k hk => pnAt_of (a4 k hk) (fun a c1 c2 => e a (by omega) (by omega)), (e _ (by omega) (by omega)).trans a5, (e _ (by omega) (by omega)).trans a6, ⟨(e (B + 110) (by omega) (by omega)).trans a7, (e (B + 111) (by omega) (by omega)).trans a8, (e (B + 112) (by omega) (by omega)).trans a9, b1, b2, b3⟩, (e _ (by omega) (by omega)).trans a10, (e _ (by omega) (by omega)).trans a11, fun a ha => (eD a ha).trans (a12 a ha), a13⟩
set_option maxHeartbeats 2000000 in
set_option maxRecDepth 100000 in
theorem lw_tail {E : pw_E} {K : pw_K} {b N0 uc us : Nat} {xs : Nat → Int32} {h : pz_H} {n : Nat} {q5 q6 : Option Value} (hN : N0 ≤ 8) (hu : uc ≤ 600002) (hs : us ≤ 7302198) : pl E YL_law (b, N0, xs) room_1 K uc us 1069 [none, some (.ref 0), some (.ref 115), some (.ref 165), some (.int (zI (2))), q5, q6] [] h n := by
  refine pl_ziinc (lv' := [none, some (.ref 0), some (.ref 115), some (.ref 165), some (.int (zI (8))), q5, q6]) dL_law_1069 rfl (by decide) (by decide) rfl rfl ?_
  refine pl_goto (tgt := 43) dL_law_1072 rfl ?_
  refine pl_iload dL_law_43 rfl ?_
  refine pl_slen (N := N0) rfl dL_law_45 dL_law_46 ?_
  refine pl_bipush (v := zI (6)) dL_law_47 (by decide) ?_
  refine pl_zisub dL_law_49 ?_
  refine pl_icmp_gt (tgt := 1075) dL_law_50 rfl (by omega) (by omega) (fun c50 => ?_) (fun c50 => by exfalso; omega)
  refine pl_iconst (v := zI (1)) dL_law_1075 (by decide) ?_
  exact pl_ret ⟨rfl, rfl⟩ rfl hu hs dL_law_1076
set_option maxHeartbeats 2000000 in
set_option maxRecDepth 100000 in
theorem lw_head {E : pw_E} (htr : E.1.stackTraces = false) {K : pw_K} {b N0 uc us : Nat} {xs : Nat → Int32} {h : pz_H} {s : mS} {f : Nat → Int64} (hN0 : N0 ≤ 8) (hu : uc ≤ 1000) (hs : us ≤ 1000000) {w H : Int} {N NH NB NL : Nat} (hG : geoH w H N NH NB NL) (hA : hAt w H N NH NB NL 0 (hNew w H N 0) h) (hM : mAt 115 s h) (hn : mN w H s) (ho : h 165 = pz_j 2 1 f) : pl E YL_law (b, N0, xs) room_1 K uc us 43 [none, some (.ref 0), some (.ref 115), some (.ref 165), some (.int (zI (2))), none, none] [] h 166 := by
  refine pl_iload dL_law_43 rfl ?_
  refine pl_slen (N := N0) rfl dL_law_45 dL_law_46 ?_
  refine pl_bipush (v := zI (6)) dL_law_47 (by decide) ?_
  refine pl_zisub dL_law_49 ?_
  refine pl_icmp_gt (tgt := 1075) dL_law_50 rfl (by omega) (by omega) (fun c50 => ?_) (fun c50 => ?_)
  · refine pl_iconst (v := zI (1)) dL_law_1075 (by decide) ?_
    exact pl_ret ⟨rfl, rfl⟩ rfl (by omega) (by omega) dL_law_1076
  have e8 : N0 = 8 := by omega
  subst e8
  refine pl_sld0 (i := 2) rfl (by show (0 : Int) ≤ 2 ∧ (2 : Int) < ((8 : Nat) : Int); decide) (nlt rfl) dL_law_53 dL_law_54 dL_law_56 ?_
  refine pl_bipush (v := zI (15)) dL_law_57 (by decide) ?_
  refine pl_iand dL_law_59 ?_
  rw [opc_z]
  have hob := opc_b (x := xs 2)
  show pl E YL_law (b, 8, xs) room_1 K uc us 60 [none, some (.ref 0), some (.ref 115), some (.ref 165), some (.int (zI (2))), none, none] [.int (zI (opc (xs 2)))] h 166
  generalize opc (xs 2) = t at hob ⊢
  rcases (show t = 0 ∨ t = 1 ∨ t = 2 ∨ t = 3 ∨ t = 4 ∨ t = 5 ∨ t = 6 ∨ t = 7 ∨ t = 8 ∨ t = 9 ∨ t = 10 ∨ t = 11 ∨ t = 12 ∨ t = 13 ∨ (t < 0 ∨ 13 < t) by omega) with rfl | rfl | rfl | rfl | rfl | rfl | rfl | rfl | rfl | rfl | rfl | rfl | rfl | rfl | ht
  · refine pl_tableIn (off := 72) (tgt := 132) dL_law_60 (by omega) (by omega) (by omega) rfl rfl ?_
    exact lw_feed htr rfl hu hs hG hA hM hn ho (fun h9 n9 q59 q69 uc9 us9 z1 z2 => lw_tail (by omega) (by omega) (by omega))
  · refine pl_tableIn (off := 164) (tgt := 224) dL_law_60 (by omega) (by omega) (by omega) rfl rfl ?_
    exact lw_key htr rfl hu hs hG hA hM hn ho (fun h9 n9 q59 q69 uc9 us9 z1 z2 => lw_tail (by omega) (by omega) (by omega))
  · refine pl_tableIn (off := 220) (tgt := 280) dL_law_60 (by omega) (by omega) (by omega) rfl rfl ?_
    exact lw_split htr rfl hu hs hG hA hM hn ho (fun h9 n9 q59 q69 uc9 us9 z1 z2 => lw_tail (by omega) (by omega) (by omega))
  · refine pl_tableIn (off := 304) (tgt := 364) dL_law_60 (by omega) (by omega) (by omega) rfl rfl ?_
    exact lw_close htr rfl hu hs hG hA hM hn ho (fun h9 n9 q59 q69 uc9 us9 z1 z2 => lw_tail (by omega) (by omega) (by omega))
  · refine pl_tableIn (off := 360) (tgt := 420) dL_law_60 (by omega) (by omega) (by omega) rfl rfl ?_
    exact lw_focus htr rfl hu hs hG hA hM hn ho (fun h9 n9 q59 q69 uc9 us9 z1 z2 => lw_tail (by omega) (by omega) (by omega))
  · refine pl_tableIn (off := 396) (tgt := 456) dL_law_60 (by omega) (by omega) (by omega) rfl rfl ?_
    exact lw_copy htr rfl hu hs hG hA hM hn ho (fun h9 n9 q59 q69 uc9 us9 z1 z2 => lw_tail (by omega) (by omega) (by omega))
  · refine pl_tableIn (off := 492) (tgt := 552) dL_law_60 (by omega) (by omega) (by omega) rfl rfl ?_
    exact lw_select htr rfl hu hs hG hA hM hn ho (fun h9 n9 q59 q69 uc9 us9 z1 z2 => lw_tail (by omega) (by omega) (by omega))
  · refine pl_tableIn (off := 596) (tgt := 656) dL_law_60 (by omega) (by omega) (by omega) rfl rfl ?_
    exact lw_redraw htr rfl hu hs hG hA hM hn ho (fun h9 n9 q59 q69 uc9 us9 z1 z2 => lw_tail (by omega) (by omega) (by omega))
  · refine pl_tableIn (off := 609) (tgt := 669) dL_law_60 (by omega) (by omega) (by omega) rfl rfl ?_
    exact lw_out htr rfl hu hs hG hA hM hn ho (fun h9 n9 q59 q69 uc9 us9 z1 z2 => lw_tail (by omega) (by omega) (by omega))
  · refine pl_tableIn (off := 665) (tgt := 725) dL_law_60 (by omega) (by omega) (by omega) rfl rfl ?_
    exact lw_cell htr rfl hu hs hG hA hM hn ho (fun h9 n9 q59 q69 uc9 us9 z1 z2 => lw_tail (by omega) (by omega) (by omega))
  · refine pl_tableIn (off := 761) (tgt := 821) dL_law_60 (by omega) (by omega) (by omega) rfl rfl ?_
    exact lw_about htr rfl hu hs hG hA hM hn ho (fun h9 n9 q59 q69 uc9 us9 z1 z2 => lw_tail (by omega) (by omega) (by omega))
  · refine pl_tableIn (off := 829) (tgt := 889) dL_law_60 (by omega) (by omega) (by omega) rfl rfl ?_
    exact lw_input htr rfl hu hs hG hA hM hn ho (fun h9 n9 q59 q69 uc9 us9 z1 z2 => lw_tail (by omega) (by omega) (by omega))
  · refine pl_tableIn (off := 897) (tgt := 957) dL_law_60 (by omega) (by omega) (by omega) rfl rfl ?_
    exact lw_copied htr rfl hu hs hG hA hM hn ho (fun h9 n9 q59 q69 uc9 us9 z1 z2 => lw_tail (by omega) (by omega) (by omega))
  · refine pl_tableIn (off := 953) (tgt := 1013) dL_law_60 (by omega) (by omega) (by omega) rfl rfl ?_
    exact lw_count htr rfl hu hs hG hA hM hn ho (fun h9 n9 q59 q69 uc9 us9 z1 z2 => lw_tail (by omega) (by omega) (by omega))
  · refine pl_tableOut (tgt := 1069) dL_law_60 (by omega) (by omega) rfl ?_
    exact lw_tail (by omega) (by omega) (by omega)
theorem cv_b {N0 : Nat} {xs : Nat → Int32} {k : Int} : -2147483648 ≤ cv N0 xs k ∧ cv N0 xs k < 2147483648 := by
  unfold cv
  split
  · exact i32 _
  · omega
set_option maxHeartbeats 2000000 in
set_option maxRecDepth 100000 in
theorem lw_law {E : pw_E} (htr : E.1.stackTraces = false) {K : pw_K} {b N0 : Nat} {xs : Nat → Int32} {h : pz_H} (hN0 : N0 ≤ 8) : pl E YL_law (b, N0, xs) room_1 K 0 0 0 [none, none, none, none, none, none, none] [] h 0 := by
  refine pl_new okX9 nwL_8.1 nwL_8.2.1 nwL_8.2.2 dzX9.1 dzX9.2 (nle rfl) (nle rfl) dL_law_0 ?_
  refine pl_dup dL_law_3 rfl ?_
  refine pl_cell (k := 0) (a1 := 5) (a2 := 6) rfl rfl (by omega) (by show N0 < 2147483648; omega) ⟨cwL_62.1, cwL_62.2, iniL⟩ ⟨nle rfl, nle rfl⟩ (nle rfl) ⟨nle rfl, nle rfl⟩ dL_law_4 dL_law_5 dL_law_6 ?_
  refine pl_cell (k := 1) (a1 := 10) (a2 := 11) rfl rfl (by omega) (by show N0 < 2147483648; omega) ⟨cwL_62.1, cwL_62.2, iniL⟩ ⟨nle rfl, nle rfl⟩ (nle rfl) ⟨nle rfl, nle rfl⟩ dL_law_9 dL_law_10 dL_law_11 ?_
  have g0 : -2147483648 ≤ cv N0 xs 0 ∧ cv N0 xs 0 < 2147483648 := cv_b
  have g1 : -2147483648 ≤ cv N0 xs 1 ∧ cv N0 xs 1 < 2147483648 := cv_b
  obtain ⟨w, hwe⟩ : ∃ w, w = max 8 (min 40 (cv N0 xs 0)) := ⟨_, rfl⟩
  obtain ⟨H, hHe⟩ : ∃ H, H = max 4 (min 16 (cv N0 xs 1)) := ⟨_, rfl⟩
  have hw : 8 ≤ w ∧ w ≤ 40 := by omega
  have hH : 4 ≤ H ∧ H ≤ 16 := by omega
  have p0 : 0 ≤ w * H := Int.mul_nonneg (by omega) (by omega)
  have p1 : w * H ≤ 40 * 16 := Int.mul_le_mul hw.2 hH.2 (by omega) (by omega)
  obtain ⟨N, hN⟩ : ∃ N : Nat, (N : Int) = w * H := ⟨(w * H).toNat, Int.toNat_of_nonneg p0⟩
  obtain ⟨NH, hNH⟩ : ∃ N : Nat, (N : Int) = 30 * w := ⟨(30 * w).toNat, Int.toNat_of_nonneg (by omega)⟩
  obtain ⟨NB, hNB⟩ : ∃ N : Nat, (N : Int) = w * H * 17 + (H + 1) * 8 + 6 := ⟨(w * H * 17 + (H + 1) * 8 + 6).toNat, Int.toNat_of_nonneg (by omega)⟩
  obtain ⟨NL, hNL⟩ : ∃ N : Nat, (N : Int) = w := ⟨w.toNat, Int.toNat_of_nonneg (by omega)⟩
  have hG : geoH w H N NH NB NL := ⟨⟨hw, hH, hN, by omega, hNH⟩, hNB, hNL⟩
  refine pl_callI (As := [.int (zI (cv N0 xs 0)), .int (zI (cv N0 xs 1))]) (b := 0) (rm := rmD 6 114 (hSl N NH NB NL)) (mX9_init (B := 0) htr hG hwe hHe g0 g1 (va_up_self _ _ _)) rfl ywX9_init rfl ⟨rfl, rfl⟩ cwL_67 ⟨nle rfl, nle rfl⟩ (nle rfl) ⟨nle rfl, by show 0 + 11 + hSl N NH NB NL ≤ 7302198; unfold hSl; omega⟩ dL_law_14 ?_
  intro r_9 h1 n_9 hq _
  obtain ⟨e1, hA1, -, e4⟩ := hq
  rw [e1, e4]
  show pl E YL_law (b, N0, xs) room_1 K (0 + 1 + 114) (0 + 11 + hSl N NH NB NL) 17 [none, none, none, none, none, none, none] [.ref 0] h1 115
  refine pl_astore_n (lv' := [none, some (.ref 0), none, none, none, none, none]) dL_law_17 (by decide) (by decide) rfl rfl ?_
  refine pl_new okX10 nwL_70.1 nwL_70.2.1 nwL_70.2.2 dzX10.1 dzX10.2 (nle rfl) (by show 0 + 11 + hSl N NH NB NL + 61 ≤ 7302198; unfold hSl; omega) dL_law_18 ?_
  refine pl_dup dL_law_21 rfl ?_
  refine pl_cell (k := 0) (a1 := 23) (a2 := 24) rfl rfl (by omega) (by show N0 < 2147483648; omega) ⟨cwL_62.1, cwL_62.2, iniL⟩ ⟨nle rfl, nle rfl⟩ (nle rfl) ⟨nle rfl, by show 0 + 11 + hSl N NH NB NL + 61 ≤ 7302198; unfold hSl; omega⟩ dL_law_22 dL_law_23 dL_law_24 ?_
  refine pl_cell (k := 1) (a1 := 28) (a2 := 29) rfl rfl (by omega) (by show N0 < 2147483648; omega) ⟨cwL_62.1, cwL_62.2, iniL⟩ ⟨nle rfl, nle rfl⟩ (nle rfl) ⟨nle rfl, by show 0 + 11 + hSl N NH NB NL + 61 ≤ 7302198; unfold hSl; omega⟩ dL_law_27 dL_law_28 dL_law_29 ?_
  refine pl_callI (As := [.int (zI (cv N0 xs 0)), .int (zI (cv N0 xs 1))]) (b := 115) (rm := rmD 3 49 66328) (nR_init (B := 115) htr hw hH hwe hHe g0 g1 ((va_up_self _ _ _).trans rfl)) rfl ywX10_init rfl ⟨rfl, rfl⟩ cwL_72 ⟨nle rfl, nle rfl⟩ (nle rfl) ⟨nle rfl, by show 0 + 11 + hSl N NH NB NL + 61 + 66328 ≤ 7302198; unfold hSl; omega⟩ dL_law_32 ?_
  intro r_9 h3 n_9 hq _
  obtain ⟨e1, s, hM3, hn, hF3, e4⟩ := hq
  rw [e1, e4]
  show pl E YL_law (b, N0, xs) room_1 K (0 + 1 + 114 + 1 + 49) (0 + 11 + hSl N NH NB NL + 61 + 66328) 35 [none, some (.ref 0), none, none, none, none, none] [.ref 115] h3 165
  refine pl_astore_n (lv' := [none, some (.ref 0), some (.ref 115), none, none, none, none]) dL_law_35 (by decide) (by decide) rfl rfl ?_
  refine pl_iconst (v := zI (1)) dL_law_36 (by decide) ?_
  refine pl_newl (t := 2) rfl naLong (by decide) (nle rfl) (by show 0 + 11 + hSl N NH NB NL + 61 + 66328 + 1 ≤ 7302198; unfold hSl; omega) dL_law_37 ?_
  refine pl_astore_n (lv' := [none, some (.ref 0), some (.ref 115), some (.ref 165), none, none, none]) dL_law_39 (by decide) (by decide) rfl rfl ?_
  refine pl_iconst (v := zI (2)) dL_law_40 (by decide) ?_
  refine pl_istore (lv' := [none, some (.ref 0), some (.ref 115), some (.ref 165), some (.int (zI (2))), none, none]) dL_law_41 (by decide) (by decide) rfl rfl ?_
  refine lw_head (s := s) (f := fun _ => 0) htr hN0 (nle rfl) (by show 0 + 11 + hSl N NH NB NL + 61 + 66328 + 1 ≤ 1000000; unfold hSl; omega) hG ?_ ?_ hn ?_
  · refine hAt_keep hA1 (fun a a1 a2 => ?_) (fun a ha => ?_)
    · rw [va_up_ne _ _ (by omega), hF3 a (by omega), va_up_ne _ _ (by omega)]
    · have ea : a = 0 + 109 := of_decide_eq_true ha
      rw [va_up_ne _ _ (by omega), hF3 a (by omega), va_up_ne _ _ (by omega)]
  · exact mAt_keep hM3 (fun a a1 a2 => va_up_ne _ _ (by omega))
  · exact va_up_self _ _ _
