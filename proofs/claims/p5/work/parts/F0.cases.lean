def YL_law : pw_Y := (RL, "law", cL_law, 7, (some .boolean))
theorem iniL : Cond.initialized RL ∈ pw_G := pw_in 78 (by decide +kernel) (by decide +kernel)
theorem clong : Cond.constantLong RL 73 (4294967295 : Int64) ∈ pw_G := pw_in 1756 (by decide +kernel) (by decide +kernel)
theorem cwL_75 : Cond.methodLink RL 75 yL_feed ∈ pw_G ∧ Cond.static yL_feed ∈ pw_G := ⟨pw_in 916 (by decide +kernel) (by decide +kernel), pw_in 917 (by decide +kernel) (by decide +kernel)⟩
theorem cwL_78 : Cond.methodLink RL 78 yX10_feed ∈ pw_G ∧ Cond.instanceMethod yX10_feed ∈ pw_G ∧ Cond.selects RX10 yX10_feed yX10_feed ∈ pw_G := ⟨pw_in 1566 (by decide +kernel) (by decide +kernel), pw_in 1567 (by decide +kernel) (by decide +kernel), pw_in 1568 (by decide +kernel) (by decide +kernel)⟩
theorem cwL_79 : Cond.methodLink RL 79 yL_key ∈ pw_G ∧ Cond.static yL_key ∈ pw_G := ⟨pw_in 1105 (by decide +kernel) (by decide +kernel), pw_in 1106 (by decide +kernel) (by decide +kernel)⟩
theorem cwL_82 : Cond.methodLink RL 82 yX10_key ∈ pw_G ∧ Cond.instanceMethod yX10_key ∈ pw_G ∧ Cond.selects RX10 yX10_key yX10_key ∈ pw_G := ⟨pw_in 1664 (by decide +kernel) (by decide +kernel), pw_in 1665 (by decide +kernel) (by decide +kernel), pw_in 1666 (by decide +kernel) (by decide +kernel)⟩
theorem cwL_83 : Cond.methodLink RL 83 yL_split ∈ pw_G ∧ Cond.static yL_split ∈ pw_G := ⟨pw_in 1178 (by decide +kernel) (by decide +kernel), pw_in 1179 (by decide +kernel) (by decide +kernel)⟩
theorem cwL_86 : Cond.methodLink RL 86 yX10_split ∈ pw_G ∧ Cond.instanceMethod yX10_split ∈ pw_G ∧ Cond.selects RX10 yX10_split yX10_split ∈ pw_G := ⟨pw_in 1519 (by decide +kernel) (by decide +kernel), pw_in 1520 (by decide +kernel) (by decide +kernel), pw_in 1521 (by decide +kernel) (by decide +kernel)⟩
theorem cwL_87 : Cond.methodLink RL 87 yL_close ∈ pw_G ∧ Cond.static yL_close ∈ pw_G := ⟨pw_in 1202 (by decide +kernel) (by decide +kernel), pw_in 1203 (by decide +kernel) (by decide +kernel)⟩
theorem cwL_89 : Cond.methodLink RL 89 yX10_close ∈ pw_G ∧ Cond.instanceMethod yX10_close ∈ pw_G ∧ Cond.selects RX10 yX10_close yX10_close ∈ pw_G := ⟨pw_in 1550 (by decide +kernel) (by decide +kernel), pw_in 1551 (by decide +kernel) (by decide +kernel), pw_in 1552 (by decide +kernel) (by decide +kernel)⟩
theorem cwL_90 : Cond.methodLink RL 90 yX10_thrown ∈ pw_G ∧ Cond.instanceMethod yX10_thrown ∈ pw_G ∧ Cond.selects RX10 yX10_thrown yX10_thrown ∈ pw_G := ⟨pw_in 1515 (by decide +kernel) (by decide +kernel), pw_in 1516 (by decide +kernel) (by decide +kernel), pw_in 1517 (by decide +kernel) (by decide +kernel)⟩
theorem cwL_94 : Cond.methodLink RL 94 yL_focus ∈ pw_G ∧ Cond.static yL_focus ∈ pw_G := ⟨pw_in 1210 (by decide +kernel) (by decide +kernel), pw_in 1211 (by decide +kernel) (by decide +kernel)⟩
theorem cwL_97 : Cond.methodLink RL 97 yX10_focus ∈ pw_G ∧ Cond.instanceMethod yX10_focus ∈ pw_G ∧ Cond.selects RX10 yX10_focus yX10_focus ∈ pw_G := ⟨pw_in 1562 (by decide +kernel) (by decide +kernel), pw_in 1563 (by decide +kernel) (by decide +kernel), pw_in 1564 (by decide +kernel) (by decide +kernel)⟩
theorem cwL_98 : Cond.methodLink RL 98 yL_copy ∈ pw_G ∧ Cond.static yL_copy ∈ pw_G := ⟨pw_in 1217 (by decide +kernel) (by decide +kernel), pw_in 1218 (by decide +kernel) (by decide +kernel)⟩
theorem cwL_101 : Cond.methodLink RL 101 yX10_copy ∈ pw_G ∧ Cond.instanceMethod yX10_copy ∈ pw_G ∧ Cond.selects RX10 yX10_copy yX10_copy ∈ pw_G := ⟨pw_in 1684 (by decide +kernel) (by decide +kernel), pw_in 1685 (by decide +kernel) (by decide +kernel), pw_in 1686 (by decide +kernel) (by decide +kernel)⟩
theorem cwL_102 : Cond.methodLink RL 102 yL_select ∈ pw_G ∧ Cond.static yL_select ∈ pw_G := ⟨pw_in 1226 (by decide +kernel) (by decide +kernel), pw_in 1227 (by decide +kernel) (by decide +kernel)⟩
theorem cwL_105 : Cond.methodLink RL 105 yX10_select ∈ pw_G ∧ Cond.instanceMethod yX10_select ∈ pw_G ∧ Cond.selects RX10 yX10_select yX10_select ∈ pw_G := ⟨pw_in 1688 (by decide +kernel) (by decide +kernel), pw_in 1689 (by decide +kernel) (by decide +kernel), pw_in 1690 (by decide +kernel) (by decide +kernel)⟩
theorem cwL_106 : Cond.methodLink RL 106 yX9_redraw ∈ pw_G ∧ Cond.instanceMethod yX9_redraw ∈ pw_G ∧ Cond.selects RX9 yX9_redraw yX9_redraw ∈ pw_G := ⟨pw_in 816 (by decide +kernel) (by decide +kernel), pw_in 817 (by decide +kernel) (by decide +kernel), pw_in 818 (by decide +kernel) (by decide +kernel)⟩
theorem cwL_109 : Cond.methodLink RL 109 yX10_redraw ∈ pw_G ∧ Cond.instanceMethod yX10_redraw ∈ pw_G ∧ Cond.selects RX10 yX10_redraw yX10_redraw ∈ pw_G := ⟨pw_in 1704 (by decide +kernel) (by decide +kernel), pw_in 1705 (by decide +kernel) (by decide +kernel), pw_in 1706 (by decide +kernel) (by decide +kernel)⟩
theorem cwL_110 : Cond.methodLink RL 110 yL_out ∈ pw_G ∧ Cond.static yL_out ∈ pw_G := ⟨pw_in 1247 (by decide +kernel) (by decide +kernel), pw_in 1248 (by decide +kernel) (by decide +kernel)⟩
theorem cwL_112 : Cond.methodLink RL 112 yX10_out ∈ pw_G ∧ Cond.instanceMethod yX10_out ∈ pw_G ∧ Cond.selects RX10 yX10_out yX10_out ∈ pw_G := ⟨pw_in 1732 (by decide +kernel) (by decide +kernel), pw_in 1733 (by decide +kernel) (by decide +kernel), pw_in 1734 (by decide +kernel) (by decide +kernel)⟩
theorem cwL_113 : Cond.methodLink RL 113 yL_cell_ ∈ pw_G ∧ Cond.static yL_cell_ ∈ pw_G := ⟨pw_in 1255 (by decide +kernel) (by decide +kernel), pw_in 1256 (by decide +kernel) (by decide +kernel)⟩
theorem cwL_116 : Cond.methodLink RL 116 yX10_cell ∈ pw_G ∧ Cond.instanceMethod yX10_cell ∈ pw_G ∧ Cond.selects RX10 yX10_cell yX10_cell ∈ pw_G := ⟨pw_in 1736 (by decide +kernel) (by decide +kernel), pw_in 1737 (by decide +kernel) (by decide +kernel), pw_in 1738 (by decide +kernel) (by decide +kernel)⟩
theorem cwL_117 : Cond.methodLink RL 117 yL_about ∈ pw_G ∧ Cond.static yL_about ∈ pw_G := ⟨pw_in 1263 (by decide +kernel) (by decide +kernel), pw_in 1264 (by decide +kernel) (by decide +kernel)⟩
theorem cwL_120 : Cond.methodLink RL 120 yX10_about ∈ pw_G ∧ Cond.instanceMethod yX10_about ∈ pw_G ∧ Cond.selects RX10 yX10_about yX10_about ∈ pw_G := ⟨pw_in 1740 (by decide +kernel) (by decide +kernel), pw_in 1741 (by decide +kernel) (by decide +kernel), pw_in 1742 (by decide +kernel) (by decide +kernel)⟩
theorem cwL_121 : Cond.methodLink RL 121 yL_input ∈ pw_G ∧ Cond.static yL_input ∈ pw_G := ⟨pw_in 1271 (by decide +kernel) (by decide +kernel), pw_in 1272 (by decide +kernel) (by decide +kernel)⟩
theorem cwL_123 : Cond.methodLink RL 123 yX10_input ∈ pw_G ∧ Cond.instanceMethod yX10_input ∈ pw_G ∧ Cond.selects RX10 yX10_input yX10_input ∈ pw_G := ⟨pw_in 1744 (by decide +kernel) (by decide +kernel), pw_in 1745 (by decide +kernel) (by decide +kernel), pw_in 1746 (by decide +kernel) (by decide +kernel)⟩
theorem cwL_124 : Cond.methodLink RL 124 yL_copied ∈ pw_G ∧ Cond.static yL_copied ∈ pw_G := ⟨pw_in 1289 (by decide +kernel) (by decide +kernel), pw_in 1290 (by decide +kernel) (by decide +kernel)⟩
theorem cwL_126 : Cond.methodLink RL 126 yX10_copied ∈ pw_G ∧ Cond.instanceMethod yX10_copied ∈ pw_G ∧ Cond.selects RX10 yX10_copied yX10_copied ∈ pw_G := ⟨pw_in 1748 (by decide +kernel) (by decide +kernel), pw_in 1749 (by decide +kernel) (by decide +kernel), pw_in 1750 (by decide +kernel) (by decide +kernel)⟩
theorem cwL_127 : Cond.methodLink RL 127 yL_count ∈ pw_G ∧ Cond.static yL_count ∈ pw_G := ⟨pw_in 1297 (by decide +kernel) (by decide +kernel), pw_in 1298 (by decide +kernel) (by decide +kernel)⟩
theorem cwL_129 : Cond.methodLink RL 129 yX10_count ∈ pw_G ∧ Cond.instanceMethod yX10_count ∈ pw_G ∧ Cond.selects RX10 yX10_count yX10_count ∈ pw_G := ⟨pw_in 1752 (by decide +kernel) (by decide +kernel), pw_in 1753 (by decide +kernel) (by decide +kernel), pw_in 1754 (by decide +kernel) (by decide +kernel)⟩
/-! ===== the law, call by call ===== -/
theorem pl_pop {E : pw_E} {Y : pw_Y} {X : pl_B} {R : Room} {K : pw_K} {uc us pc : Nat} {lv : List (Option Value)} {st : List Value} {h : pz_H} {n : Nat} {v : Value} (hd : decode Y.2.2.1 pc = .ok (.pop, 1)) (hv : v.category = 1) (kk : pl E Y X R K uc us (pc + 1) lv st h n) : pl E Y X R K uc us pc lv (v :: st) h n :=
  fun p e s m args below meth c H locs L ls F d ks zz => lv_pop F.1 F.2.1 hd ((pz_cat L v).trans hv) (kk p e s m args below meth c H locs L ls F d ks.2 zz)
def opc (x : Int32) : Int := (x &&& zI 15).toInt
theorem opc_z {x : Int32} : zI x.toInt &&& zI 15 = zI (opc x) := by rw [← zI_of]; exact zI_of _
theorem opc_b {x : Int32} : 0 ≤ opc x ∧ opc x ≤ 15 := by
  unfold opc
  have h1 : (x &&& zI 15).toBitVec.toNat ≤ 15 := by
    rw [show (x &&& zI 15).toBitVec = x.toBitVec &&& (zI 15).toBitVec from rfl, BitVec.toNat_and]
    exact Nat.le_trans Nat.and_le_right (by decide)
  have h2 : (x &&& zI 15).toInt = ((x &&& zI 15).toBitVec.toNat : Int) := BitVec.toInt_eq_toNat_of_lt (by omega)
  omega
set_option maxHeartbeats 2000000 in
set_option maxRecDepth 100000 in
theorem lz_feed {E : pw_E} (htr : E.1.stackTraces = false) {K : pw_K} {b N0 uc us : Nat} {xs : Nat → Int32} {h : pz_H} {i : Int} {q5 q6 : Option Value} {W H M : Int} {N NH NB NL n : Nat} {t : aT} (hN0 : N0 ≤ 3074) (hi : 2 ≤ i ∧ i + 6 ≤ N0) (hu : uc + 4 ≤ 601024) (hs : us + 28 ≤ 7293000) (hG : geoH W H N NH NB NL) (hM : 0 ≤ M ∧ M + 400 ≤ 800000000) (hn : 166 ≤ n) (hJ : jJ W H M N NH NB NL n t h) (kk : ∀ (h' : pz_H) (n' : Nat) (t' : aT) (q5 q6 : Option Value) (uc' us' : Nat), uc' ≤ uc + 4 → us' ≤ us + 28 → 166 ≤ n' → jJ W H (M + 400) N NH NB NL n' t' h' → pl E YL_law (b, N0, xs) room_1 K uc' us' 767 [none, some (.ref 0), some (.ref 115), some (.ref 165), some (.int (zI i)), q5, q6] [] h' n') : pl E YL_law (b, N0, xs) room_1 K uc us 132 [none, some (.ref 0), some (.ref 115), some (.ref 165), some (.int (zI i)), q5, q6] [] h n := by
  have hW := hG.1.1
  have hHH := hG.1.2.1
  obtain ⟨x, s, f9, hC, hA, hH, ho⟩ := hJ
  obtain ⟨f, g, hfr, hfm, hgm, hfg⟩ := fg_ex hH.1 hH.2.1
  have hnc := cH_nc hC hn
  have r1 := i32 (xs (i + 1).toNat)
  have r2 := i32 (xs (i + 2).toNat)
  have r3 := i32 (xs (i + 3).toNat)
  have r4 := i32 (xs (i + 4).toNat)
  have r5 := i32 (xs (i + 5).toNat)
  refine pl_aload_n dL_law_132 rfl ?_
  refine pl_sld (a0 := 0) (i := i) (k := 1) (a1 := 134) (a2 := 136) (a3 := 137) (a4 := 138) rfl rfl rfl rfl rfl (by show 0 ≤ i + 1 ∧ i + 1 < (N0 : Int); omega) (by show N0 < 2147483648; omega) dL_law_133 dL_law_134 dL_law_136 dL_law_137 dL_law_138 ?_
  show pl E YL_law (b, N0, xs) room_1 K uc us 139 [none, some (.ref 0), some (.ref 115), some (.ref 165), some (.int (zI (i))), q5, q6] [.int (zI ((xs (i + 1).toNat).toInt)), .ref 0] h n
  refine pl_sld (a0 := 0) (i := i) (k := 2) (a1 := 140) (a2 := 142) (a3 := 143) (a4 := 144) rfl rfl rfl rfl rfl (by show 0 ≤ i + 2 ∧ i + 2 < (N0 : Int); omega) (by show N0 < 2147483648; omega) dL_law_139 dL_law_140 dL_law_142 dL_law_143 dL_law_144 ?_
  show pl E YL_law (b, N0, xs) room_1 K uc us 145 [none, some (.ref 0), some (.ref 115), some (.ref 165), some (.int (zI (i))), q5, q6] [.int (zI ((xs (i + 2).toNat).toInt)), .int (zI ((xs (i + 1).toNat).toInt)), .ref 0] h n
  refine pl_i2l dL_law_145 ?_
  rw [← zI_of]
  refine pl_bipush (v := zI 32) dL_law_146 (by decide) ?_
  refine pl_lshl dL_law_148 ?_
  show pl E YL_law (b, N0, xs) room_1 K uc us 149 [none, some (.ref 0), some (.ref 115), some (.ref 165), some (.int (zI (i))), q5, q6] [.long ((xs (i + 2).toNat).toInt64 <<< ((zI 32).toInt64 &&& 63)), .int (zI ((xs (i + 1).toNat).toInt)), .ref 0] h n
  refine pl_sld (a0 := 0) (i := i) (k := 3) (a1 := 150) (a2 := 152) (a3 := 153) (a4 := 154) rfl rfl rfl rfl rfl (by show 0 ≤ i + 3 ∧ i + 3 < (N0 : Int); omega) (by show N0 < 2147483648; omega) dL_law_149 dL_law_150 dL_law_152 dL_law_153 dL_law_154 ?_
  show pl E YL_law (b, N0, xs) room_1 K uc us 155 [none, some (.ref 0), some (.ref 115), some (.ref 165), some (.int (zI (i))), q5, q6] [.int (zI ((xs (i + 3).toNat).toInt)), .long ((xs (i + 2).toNat).toInt64 <<< ((zI 32).toInt64 &&& 63)), .int (zI ((xs (i + 1).toNat).toInt)), .ref 0] h n
  refine pl_i2l dL_law_155 ?_
  rw [← zI_of]
  refine pl_ldc2 clong dL_law_156 ?_
  refine pl_land dL_law_159 ?_
  refine pl_lor dL_law_160 ?_
  show pl E YL_law (b, N0, xs) room_1 K uc us 161 [none, some (.ref 0), some (.ref 115), some (.ref 165), some (.int (zI (i))), q5, q6] [.long (((xs (i + 2).toNat).toInt64 <<< ((zI 32).toInt64 &&& 63) ||| ((xs (i + 3).toNat).toInt64 &&& 4294967295))), .int (zI ((xs (i + 1).toNat).toInt)), .ref 0] h n
  refine pl_sld (a0 := 0) (i := i) (k := 4) (a1 := 162) (a2 := 164) (a3 := 165) (a4 := 166) rfl rfl rfl rfl rfl (by show 0 ≤ i + 4 ∧ i + 4 < (N0 : Int); omega) (by show N0 < 2147483648; omega) dL_law_161 dL_law_162 dL_law_164 dL_law_165 dL_law_166 ?_
  show pl E YL_law (b, N0, xs) room_1 K uc us 167 [none, some (.ref 0), some (.ref 115), some (.ref 165), some (.int (zI (i))), q5, q6] [.int (zI ((xs (i + 4).toNat).toInt)), .long (((xs (i + 2).toNat).toInt64 <<< ((zI 32).toInt64 &&& 63) ||| ((xs (i + 3).toNat).toInt64 &&& 4294967295))), .int (zI ((xs (i + 1).toNat).toInt)), .ref 0] h n
  refine pl_callSH (k := 4) (As := [.ref 0, .int (zI ((xs (i + 1).toNat).toInt)), .long (((xs (i + 2).toNat).toInt64 <<< ((zI 32).toInt64 &&& 63) ||| ((xs (i + 3).toNat).toInt64 &&& 4294967295))), .int (zI ((xs (i + 4).toNat).toInt))]) (rm := rmD (9 + 1) 2 12) (wT_feed htr hG hH.1 hC (by omega) hn hfm hgm hfg (by omega) (by omega) ho) rfl rfl whL_feed ⟨by decide +kernel, by decide +kernel, by decide +kernel⟩ ⟨cwL_75.1, cwL_75.2, iniL⟩ ⟨nle rfl, nle rfl⟩ (nle rfl) ⟨by show uc + 2 ≤ 601024; omega, by show us + 12 ≤ 7293000; omega⟩ dL_law_167 ?_
  intro r_9 h_9 n_9 hq hn9
  obtain ⟨T, hj, e1, ⟨x9, hC9⟩, hk9, ⟨g9, ho9, hV9⟩, hn1, hn2⟩ := hq
  rw [e1]
  show pl E YL_law (b, N0, xs) room_1 K (uc + 2) (us + 12) 170 [none, some (.ref 0), some (.ref 115), some (.ref 165), some (.int (zI (i))), q5, q6] [.int (zI (T))] h_9 n_9
  have hM9 : mAt 115 s h_9 := mAt_kp hA (fun a a1 a2 => hk9 a a1 (by omega))
  refine pl_istore (lv' := [none, some (.ref 0), some (.ref 115), some (.ref 165), some (.int (zI (i))), some (.int (zI (T))), q6]) dL_law_170 (by decide) (by decide) rfl rfl ?_
  refine pl_aload_n dL_law_172 rfl ?_
  refine pl_sld (a0 := 0) (i := i) (k := 1) (a1 := 174) (a2 := 176) (a3 := 177) (a4 := 178) rfl rfl rfl rfl rfl (by show 0 ≤ i + 1 ∧ i + 1 < (N0 : Int); omega) (by show N0 < 2147483648; omega) dL_law_173 dL_law_174 dL_law_176 dL_law_177 dL_law_178 ?_
  show pl E YL_law (b, N0, xs) room_1 K (uc + 2) (us + 12) 179 [none, some (.ref 0), some (.ref 115), some (.ref 165), some (.int (zI (i))), some (.int (zI (T))), q6] [.int (zI ((xs (i + 1).toNat).toInt)), .ref 115] h_9 n_9
  refine pl_sld (a0 := 0) (i := i) (k := 2) (a1 := 180) (a2 := 182) (a3 := 183) (a4 := 184) rfl rfl rfl rfl rfl (by show 0 ≤ i + 2 ∧ i + 2 < (N0 : Int); omega) (by show N0 < 2147483648; omega) dL_law_179 dL_law_180 dL_law_182 dL_law_183 dL_law_184 ?_
  show pl E YL_law (b, N0, xs) room_1 K (uc + 2) (us + 12) 185 [none, some (.ref 0), some (.ref 115), some (.ref 165), some (.int (zI (i))), some (.int (zI (T))), q6] [.int (zI ((xs (i + 2).toNat).toInt)), .int (zI ((xs (i + 1).toNat).toInt)), .ref 115] h_9 n_9
  refine pl_i2l dL_law_185 ?_
  rw [← zI_of]
  refine pl_bipush (v := zI 32) dL_law_186 (by decide) ?_
  refine pl_lshl dL_law_188 ?_
  show pl E YL_law (b, N0, xs) room_1 K (uc + 2) (us + 12) 189 [none, some (.ref 0), some (.ref 115), some (.ref 165), some (.int (zI (i))), some (.int (zI (T))), q6] [.long ((xs (i + 2).toNat).toInt64 <<< ((zI 32).toInt64 &&& 63)), .int (zI ((xs (i + 1).toNat).toInt)), .ref 115] h_9 n_9
  refine pl_sld (a0 := 0) (i := i) (k := 3) (a1 := 190) (a2 := 192) (a3 := 193) (a4 := 194) rfl rfl rfl rfl rfl (by show 0 ≤ i + 3 ∧ i + 3 < (N0 : Int); omega) (by show N0 < 2147483648; omega) dL_law_189 dL_law_190 dL_law_192 dL_law_193 dL_law_194 ?_
  show pl E YL_law (b, N0, xs) room_1 K (uc + 2) (us + 12) 195 [none, some (.ref 0), some (.ref 115), some (.ref 165), some (.int (zI (i))), some (.int (zI (T))), q6] [.int (zI ((xs (i + 3).toNat).toInt)), .long ((xs (i + 2).toNat).toInt64 <<< ((zI 32).toInt64 &&& 63)), .int (zI ((xs (i + 1).toNat).toInt)), .ref 115] h_9 n_9
  refine pl_i2l dL_law_195 ?_
  rw [← zI_of]
  refine pl_ldc2 clong dL_law_196 ?_
  refine pl_land dL_law_199 ?_
  refine pl_lor dL_law_200 ?_
  show pl E YL_law (b, N0, xs) room_1 K (uc + 2) (us + 12) 201 [none, some (.ref 0), some (.ref 115), some (.ref 165), some (.int (zI (i))), some (.int (zI (T))), q6] [.long (((xs (i + 2).toNat).toInt64 <<< ((zI 32).toInt64 &&& 63) ||| ((xs (i + 3).toNat).toInt64 &&& 4294967295))), .int (zI ((xs (i + 1).toNat).toInt)), .ref 115] h_9 n_9
  refine pl_sld (a0 := 0) (i := i) (k := 4) (a1 := 202) (a2 := 204) (a3 := 205) (a4 := 206) rfl rfl rfl rfl rfl (by show 0 ≤ i + 4 ∧ i + 4 < (N0 : Int); omega) (by show N0 < 2147483648; omega) dL_law_201 dL_law_202 dL_law_204 dL_law_205 dL_law_206 ?_
  show pl E YL_law (b, N0, xs) room_1 K (uc + 2) (us + 12) 207 [none, some (.ref 0), some (.ref 115), some (.ref 165), some (.int (zI (i))), some (.int (zI (T))), q6] [.int (zI ((xs (i + 4).toNat).toInt)), .long (((xs (i + 2).toNat).toInt64 <<< ((zI 32).toInt64 &&& 63) ||| ((xs (i + 3).toNat).toInt64 &&& 4294967295))), .int (zI ((xs (i + 1).toNat).toInt)), .ref 115] h_9 n_9
  refine pl_callV (As := [.int (zI ((xs (i + 1).toNat).toInt)), .long (((xs (i + 2).toNat).toInt64 <<< ((zI 32).toInt64 &&& 63) ||| ((xs (i + 3).toNat).toInt64 &&& 4294967295))), .int (zI ((xs (i + 4).toNat).toInt))]) (b := 115) (rm := rmD 8 0 0) (rJ_feed htr hM9 hW hHH (by omega) hH (by omega) (by omega) hj) rfl hM9.1 rfl rfl ywX10_feed rfl cwL_78 ⟨nle rfl, nle rfl⟩ (nle rfl) ⟨by show uc + 2 ≤ 601024; omega, by show us + 12 ≤ 7293000; omega⟩ dL_law_207 ?_
  intro r_8 h_8 n_8 hq _
  obtain ⟨e1, s8, hM8, hH8, ⟨f0, f47, f48⟩, hF8, e4⟩ := hq
  have hTb := jFd_T hj
  rw [e1, e4]
  show pl E YL_law (b, N0, xs) room_1 K (uc + 2) (us + 12) 210 [none, some (.ref 0), some (.ref 115), some (.ref 165), some (.int (zI (i))), some (.int (zI (T))), q6] [] h_8 n_9
  refine pl_goto (tgt := 767) dL_law_210 rfl ?_
  exact kk h_8 n_9 t _ _ (uc + 2) (us + 12) (by omega) (by omega) (by omega) (jJ_of hC9 ho9 hM8 hH8 f47 f48 hF8 (Int.le_refl _))
set_option maxHeartbeats 2000000 in
set_option maxRecDepth 100000 in
theorem lz_key {E : pw_E} (htr : E.1.stackTraces = false) {K : pw_K} {b N0 uc us : Nat} {xs : Nat → Int32} {h : pz_H} {i : Int} {q5 q6 : Option Value} {W H M : Int} {N NH NB NL n : Nat} {t : aT} (hN0 : N0 ≤ 3074) (hi : 2 ≤ i ∧ i + 6 ≤ N0) (hu : uc + 4 ≤ 601024) (hs : us + 28 ≤ 7293000) (hG : geoH W H N NH NB NL) (hM : 0 ≤ M ∧ M + 400 ≤ 800000000) (hn : 166 ≤ n) (hJ : jJ W H M N NH NB NL n t h) (kk : ∀ (h' : pz_H) (n' : Nat) (t' : aT) (q5 q6 : Option Value) (uc' us' : Nat), uc' ≤ uc + 4 → us' ≤ us + 28 → 166 ≤ n' → jJ W H (M + 400) N NH NB NL n' t' h' → pl E YL_law (b, N0, xs) room_1 K uc' us' 767 [none, some (.ref 0), some (.ref 115), some (.ref 165), some (.int (zI i)), q5, q6] [] h' n') : pl E YL_law (b, N0, xs) room_1 K uc us 213 [none, some (.ref 0), some (.ref 115), some (.ref 165), some (.int (zI i)), q5, q6] [] h n := by
  have hW := hG.1.1
  have hHH := hG.1.2.1
  obtain ⟨x, s, f9, hC, hA, hH, ho⟩ := hJ
  obtain ⟨f, g, hfr, hfm, hgm, hfg⟩ := fg_ex hH.1 hH.2.1
  have hnc := cH_nc hC hn
  have r1 := i32 (xs (i + 1).toNat)
  have r2 := i32 (xs (i + 2).toNat)
  have r3 := i32 (xs (i + 3).toNat)
  have r4 := i32 (xs (i + 4).toNat)
  have r5 := i32 (xs (i + 5).toNat)
  refine pl_aload_n dL_law_213 rfl ?_
  refine pl_sld (a0 := 0) (i := i) (k := 1) (a1 := 215) (a2 := 217) (a3 := 218) (a4 := 219) rfl rfl rfl rfl rfl (by show 0 ≤ i + 1 ∧ i + 1 < (N0 : Int); omega) (by show N0 < 2147483648; omega) dL_law_214 dL_law_215 dL_law_217 dL_law_218 dL_law_219 ?_
  show pl E YL_law (b, N0, xs) room_1 K uc us 220 [none, some (.ref 0), some (.ref 115), some (.ref 165), some (.int (zI (i))), q5, q6] [.int (zI ((xs (i + 1).toNat).toInt)), .ref 0] h n
  refine pl_aload_n dL_law_220 rfl ?_
  refine pl_callSH (k := 3) (As := [.ref 0, .int (zI ((xs (i + 1).toNat).toInt)), .ref 165]) (rm := rmD (23 + 1) 2 16) (wT_key htr hG hH.1 hC (by omega) hn hfm hgm hfg (by omega) ho) rfl rfl whL_key ⟨by decide +kernel, by decide +kernel, by decide +kernel⟩ ⟨cwL_79.1, cwL_79.2, iniL⟩ ⟨nle rfl, nle rfl⟩ (nle rfl) ⟨by show uc + 2 ≤ 601024; omega, by show us + 16 ≤ 7293000; omega⟩ dL_law_221 ?_
  intro r_9 h_9 n_9 hq hn9
  obtain ⟨T, t', fo', pr', R, hj, e1, ⟨x9, hC9⟩, hk9, ⟨g9, ho9, hV9⟩, hn1, hn2⟩ := hq
  rw [e1]
  show pl E YL_law (b, N0, xs) room_1 K (uc + 2) (us + 16) 224 [none, some (.ref 0), some (.ref 115), some (.ref 165), some (.int (zI (i))), q5, q6] [.int (zI (T))] h_9 n_9
  have hM9 : mAt 115 s h_9 := mAt_kp hA (fun a a1 a2 => hk9 a a1 (by omega))
  refine pl_istore (lv' := [none, some (.ref 0), some (.ref 115), some (.ref 165), some (.int (zI (i))), some (.int (zI (T))), q6]) dL_law_224 (by decide) (by decide) rfl rfl ?_
  refine pl_aload_n dL_law_226 rfl ?_
  refine pl_sld (a0 := 0) (i := i) (k := 1) (a1 := 228) (a2 := 230) (a3 := 231) (a4 := 232) rfl rfl rfl rfl rfl (by show 0 ≤ i + 1 ∧ i + 1 < (N0 : Int); omega) (by show N0 < 2147483648; omega) dL_law_227 dL_law_228 dL_law_230 dL_law_231 dL_law_232 ?_
  show pl E YL_law (b, N0, xs) room_1 K (uc + 2) (us + 16) 233 [none, some (.ref 0), some (.ref 115), some (.ref 165), some (.int (zI (i))), some (.int (zI (T))), q6] [.int (zI ((xs (i + 1).toNat).toInt)), .ref 115] h_9 n_9
  refine pl_callV (As := [.int (zI ((xs (i + 1).toNat).toInt))]) (b := 115) (rm := rmD 5 0 0) (rJ_key htr hM9 hW hHH (by omega) hH (by omega) hnc hfr hfm hgm hj) rfl hM9.1 rfl rfl ywX10_key rfl cwL_82 ⟨nle rfl, nle rfl⟩ (nle rfl) ⟨by show uc + 2 ≤ 601024; omega, by show us + 16 ≤ 7293000; omega⟩ dL_law_233 ?_
  intro r_8 h_8 n_8 hq _
  obtain ⟨⟨er1, er2⟩, s8, hM8, hH8, ⟨f0, f47, f48⟩, hF8, e4⟩ := hq
  obtain ⟨w8, hw8, e1, ew8⟩ := bR er1 er2 (jKy_T hj (cH_fo hC9)).2
  have hTb := (jKy_T hj (cH_fo hC9)).1
  rw [e1, e4]
  show pl E YL_law (b, N0, xs) room_1 K (uc + 2) (us + 16) 236 [none, some (.ref 0), some (.ref 115), some (.ref 165), some (.int (zI (i))), some (.int (zI (T))), q6] [.int (zI (w8))] h_8 n_9
  refine pl_istore (lv' := [none, some (.ref 0), some (.ref 115), some (.ref 165), some (.int (zI (i))), some (.int (zI (T))), some (.int (zI (w8)))]) dL_law_236 (by decide) (by decide) rfl rfl ?_
  refine pl_goto (tgt := 767) dL_law_238 rfl ?_
  exact kk h_8 n_9 t' _ _ (uc + 2) (us + 16) (by omega) (by omega) (by omega) (jJ_of hC9 ho9 hM8 hH8 f47 f48 hF8 (Int.le_refl _))
set_option maxHeartbeats 2000000 in
set_option maxRecDepth 100000 in
theorem lz_split {E : pw_E} (htr : E.1.stackTraces = false) {K : pw_K} {b N0 uc us : Nat} {xs : Nat → Int32} {h : pz_H} {i : Int} {q5 q6 : Option Value} {W H M : Int} {N NH NB NL n : Nat} {t : aT} (hN0 : N0 ≤ 3074) (hi : 2 ≤ i ∧ i + 6 ≤ N0) (hu : uc + 4 ≤ 601024) (hs : us + 28 ≤ 7293000) (hG : geoH W H N NH NB NL) (hM : 0 ≤ M ∧ M + 400 ≤ 800000000) (hn : 166 ≤ n) (hJ : jJ W H M N NH NB NL n t h) (kk : ∀ (h' : pz_H) (n' : Nat) (t' : aT) (q5 q6 : Option Value) (uc' us' : Nat), uc' ≤ uc + 4 → us' ≤ us + 28 → 166 ≤ n' → jJ W H (M + 400) N NH NB NL n' t' h' → pl E YL_law (b, N0, xs) room_1 K uc' us' 767 [none, some (.ref 0), some (.ref 115), some (.ref 165), some (.int (zI i)), q5, q6] [] h' n') : pl E YL_law (b, N0, xs) room_1 K uc us 241 [none, some (.ref 0), some (.ref 115), some (.ref 165), some (.int (zI i)), q5, q6] [] h n := by
  have hW := hG.1.1
  have hHH := hG.1.2.1
  obtain ⟨x, s, f9, hC, hA, hH, ho⟩ := hJ
  obtain ⟨f, g, hfr, hfm, hgm, hfg⟩ := fg_ex hH.1 hH.2.1
  have hnc := cH_nc hC hn
  have r1 := i32 (xs (i + 1).toNat)
  have r2 := i32 (xs (i + 2).toNat)
  have r3 := i32 (xs (i + 3).toNat)
  have r4 := i32 (xs (i + 4).toNat)
  have r5 := i32 (xs (i + 5).toNat)
  refine pl_aload_n dL_law_241 rfl ?_
  refine pl_sld (a0 := 0) (i := i) (k := 1) (a1 := 243) (a2 := 245) (a3 := 246) (a4 := 247) rfl rfl rfl rfl rfl (by show 0 ≤ i + 1 ∧ i + 1 < (N0 : Int); omega) (by show N0 < 2147483648; omega) dL_law_242 dL_law_243 dL_law_245 dL_law_246 dL_law_247 ?_
  show pl E YL_law (b, N0, xs) room_1 K uc us 248 [none, some (.ref 0), some (.ref 115), some (.ref 165), some (.int (zI (i))), q5, q6] [.int (zI ((xs (i + 1).toNat).toInt)), .ref 0] h n
  refine pl_sld (a0 := 0) (i := i) (k := 2) (a1 := 249) (a2 := 251) (a3 := 252) (a4 := 253) rfl rfl rfl rfl rfl (by show 0 ≤ i + 2 ∧ i + 2 < (N0 : Int); omega) (by show N0 < 2147483648; omega) dL_law_248 dL_law_249 dL_law_251 dL_law_252 dL_law_253 ?_
  show pl E YL_law (b, N0, xs) room_1 K uc us 254 [none, some (.ref 0), some (.ref 115), some (.ref 165), some (.int (zI (i))), q5, q6] [.int (zI ((xs (i + 2).toNat).toInt)), .int (zI ((xs (i + 1).toNat).toInt)), .ref 0] h n
  refine pl_if_eq (tgt := 261) dL_law_254 rfl (by omega) (fun c254 => ?_) (fun c254 => ?_)
  ·
    refine pl_iconst (v := zI (0)) dL_law_261 (by decide) ?_
    refine pl_aload_n dL_law_262 rfl ?_
    refine pl_callSH (k := 4) (As := [.ref 0, .int (zI ((xs (i + 1).toNat).toInt)), .int (zI (0)), .ref 165]) (rm := rmD (22 + 1) 4 28) (wT_split htr hG hH.1 hC (by omega) hn hfm hgm hfg (by omega) (by omega) (by omega) ho) rfl rfl whL_split ⟨by decide +kernel, by decide +kernel, by decide +kernel⟩ ⟨cwL_83.1, cwL_83.2, iniL⟩ ⟨nle rfl, nle rfl⟩ (nle rfl) ⟨by show uc + 4 ≤ 601024; omega, by show us + 28 ≤ 7293000; omega⟩ dL_law_263 ?_
    intro r_9 h_9 n_9 hq hn9
    obtain ⟨T, t', fo', R, hj, e1, ⟨x9, hC9⟩, hk9, ⟨g9, ho9, hV9⟩, hn1, hn2⟩ := hq
    rw [e1]
    show pl E YL_law (b, N0, xs) room_1 K (uc + 4) (us + 28) 266 [none, some (.ref 0), some (.ref 115), some (.ref 165), some (.int (zI (i))), q5, q6] [.int (zI (T))] h_9 n_9
    have hM9 : mAt 115 s h_9 := mAt_kp hA (fun a a1 a2 => hk9 a a1 (by omega))
    refine pl_istore (lv' := [none, some (.ref 0), some (.ref 115), some (.ref 165), some (.int (zI (i))), some (.int (zI (T))), q6]) dL_law_266 (by decide) (by decide) rfl rfl ?_
    refine pl_aload_n dL_law_268 rfl ?_
    refine pl_sld (a0 := 0) (i := i) (k := 1) (a1 := 270) (a2 := 272) (a3 := 273) (a4 := 274) rfl rfl rfl rfl rfl (by show 0 ≤ i + 1 ∧ i + 1 < (N0 : Int); omega) (by show N0 < 2147483648; omega) dL_law_269 dL_law_270 dL_law_272 dL_law_273 dL_law_274 ?_
    show pl E YL_law (b, N0, xs) room_1 K (uc + 4) (us + 28) 275 [none, some (.ref 0), some (.ref 115), some (.ref 165), some (.int (zI (i))), some (.int (zI (T))), q6] [.int (zI ((xs (i + 1).toNat).toInt)), .ref 115] h_9 n_9
    refine pl_sld (a0 := 0) (i := i) (k := 2) (a1 := 276) (a2 := 278) (a3 := 279) (a4 := 280) rfl rfl rfl rfl rfl (by show 0 ≤ i + 2 ∧ i + 2 < (N0 : Int); omega) (by show N0 < 2147483648; omega) dL_law_275 dL_law_276 dL_law_278 dL_law_279 dL_law_280 ?_
    show pl E YL_law (b, N0, xs) room_1 K (uc + 4) (us + 28) 281 [none, some (.ref 0), some (.ref 115), some (.ref 165), some (.int (zI (i))), some (.int (zI (T))), q6] [.int (zI ((xs (i + 2).toNat).toInt)), .int (zI ((xs (i + 1).toNat).toInt)), .ref 115] h_9 n_9
    refine pl_if_eq (tgt := 288) dL_law_281 rfl (by omega) (fun c281 => ?_) (fun c281 => ?_)
    ·
      refine pl_iconst (v := zI (0)) dL_law_288 (by decide) ?_
      refine pl_callV (As := [.int (zI ((xs (i + 1).toNat).toInt)), .int (zI (0))]) (b := 115) (rm := rmD 4 0 0) (rJ_split htr hM9 hW hHH (by omega) hH (by omega) (by omega) hnc hfr hfm hgm hj) rfl hM9.1 rfl rfl ywX10_split rfl cwL_86 ⟨nle rfl, nle rfl⟩ (nle rfl) ⟨by show uc + 4 ≤ 601024; omega, by show us + 28 ≤ 7293000; omega⟩ dL_law_289 ?_
      intro r_8 h_8 n_8 hq _
      obtain ⟨⟨er1, er2⟩, s8, hM8, hH8, ⟨f0, f47, f48⟩, hF8, e4⟩ := hq
      obtain ⟨w8, hw8, e1, ew8⟩ := bR er1 er2 (jSp_T hj).2
      have hTb := (jSp_T hj).1
      rw [e1, e4]
      show pl E YL_law (b, N0, xs) room_1 K (uc + 4) (us + 28) 292 [none, some (.ref 0), some (.ref 115), some (.ref 165), some (.int (zI (i))), some (.int (zI (T))), q6] [.int (zI (w8))] h_8 n_9
      refine pl_istore (lv' := [none, some (.ref 0), some (.ref 115), some (.ref 165), some (.int (zI (i))), some (.int (zI (T))), some (.int (zI (w8)))]) dL_law_292 (by decide) (by decide) rfl rfl ?_
      refine pl_goto (tgt := 767) dL_law_294 rfl ?_
      exact kk h_8 n_9 t' _ _ (uc + 4) (us + 28) (by omega) (by omega) (by omega) (jJ_of hC9 ho9 hM8 hH8 f47 f48 hF8 (Int.le_refl _))
    · exfalso; omega
  ·
    refine pl_iconst (v := zI (1)) dL_law_257 (by decide) ?_
    refine pl_goto (tgt := 262) dL_law_258 rfl ?_
    refine pl_aload_n dL_law_262 rfl ?_
    refine pl_callSH (k := 4) (As := [.ref 0, .int (zI ((xs (i + 1).toNat).toInt)), .int (zI (1)), .ref 165]) (rm := rmD (22 + 1) 4 28) (wT_split htr hG hH.1 hC (by omega) hn hfm hgm hfg (by omega) (by omega) (by omega) ho) rfl rfl whL_split ⟨by decide +kernel, by decide +kernel, by decide +kernel⟩ ⟨cwL_83.1, cwL_83.2, iniL⟩ ⟨nle rfl, nle rfl⟩ (nle rfl) ⟨by show uc + 4 ≤ 601024; omega, by show us + 28 ≤ 7293000; omega⟩ dL_law_263 ?_
    intro r_9 h_9 n_9 hq hn9
    obtain ⟨T, t', fo', R, hj, e1, ⟨x9, hC9⟩, hk9, ⟨g9, ho9, hV9⟩, hn1, hn2⟩ := hq
    rw [e1]
    show pl E YL_law (b, N0, xs) room_1 K (uc + 4) (us + 28) 266 [none, some (.ref 0), some (.ref 115), some (.ref 165), some (.int (zI (i))), q5, q6] [.int (zI (T))] h_9 n_9
    have hM9 : mAt 115 s h_9 := mAt_kp hA (fun a a1 a2 => hk9 a a1 (by omega))
    refine pl_istore (lv' := [none, some (.ref 0), some (.ref 115), some (.ref 165), some (.int (zI (i))), some (.int (zI (T))), q6]) dL_law_266 (by decide) (by decide) rfl rfl ?_
    refine pl_aload_n dL_law_268 rfl ?_
    refine pl_sld (a0 := 0) (i := i) (k := 1) (a1 := 270) (a2 := 272) (a3 := 273) (a4 := 274) rfl rfl rfl rfl rfl (by show 0 ≤ i + 1 ∧ i + 1 < (N0 : Int); omega) (by show N0 < 2147483648; omega) dL_law_269 dL_law_270 dL_law_272 dL_law_273 dL_law_274 ?_
    show pl E YL_law (b, N0, xs) room_1 K (uc + 4) (us + 28) 275 [none, some (.ref 0), some (.ref 115), some (.ref 165), some (.int (zI (i))), some (.int (zI (T))), q6] [.int (zI ((xs (i + 1).toNat).toInt)), .ref 115] h_9 n_9
    refine pl_sld (a0 := 0) (i := i) (k := 2) (a1 := 276) (a2 := 278) (a3 := 279) (a4 := 280) rfl rfl rfl rfl rfl (by show 0 ≤ i + 2 ∧ i + 2 < (N0 : Int); omega) (by show N0 < 2147483648; omega) dL_law_275 dL_law_276 dL_law_278 dL_law_279 dL_law_280 ?_
    show pl E YL_law (b, N0, xs) room_1 K (uc + 4) (us + 28) 281 [none, some (.ref 0), some (.ref 115), some (.ref 165), some (.int (zI (i))), some (.int (zI (T))), q6] [.int (zI ((xs (i + 2).toNat).toInt)), .int (zI ((xs (i + 1).toNat).toInt)), .ref 115] h_9 n_9
    refine pl_if_eq (tgt := 288) dL_law_281 rfl (by omega) (fun c281 => ?_) (fun c281 => ?_)
    · exfalso; omega
    ·
      refine pl_iconst (v := zI (1)) dL_law_284 (by decide) ?_
      refine pl_goto (tgt := 289) dL_law_285 rfl ?_
      refine pl_callV (As := [.int (zI ((xs (i + 1).toNat).toInt)), .int (zI (1))]) (b := 115) (rm := rmD 4 0 0) (rJ_split htr hM9 hW hHH (by omega) hH (by omega) (by omega) hnc hfr hfm hgm hj) rfl hM9.1 rfl rfl ywX10_split rfl cwL_86 ⟨nle rfl, nle rfl⟩ (nle rfl) ⟨by show uc + 4 ≤ 601024; omega, by show us + 28 ≤ 7293000; omega⟩ dL_law_289 ?_
      intro r_8 h_8 n_8 hq _
      obtain ⟨⟨er1, er2⟩, s8, hM8, hH8, ⟨f0, f47, f48⟩, hF8, e4⟩ := hq
      obtain ⟨w8, hw8, e1, ew8⟩ := bR er1 er2 (jSp_T hj).2
      have hTb := (jSp_T hj).1
      rw [e1, e4]
      show pl E YL_law (b, N0, xs) room_1 K (uc + 4) (us + 28) 292 [none, some (.ref 0), some (.ref 115), some (.ref 165), some (.int (zI (i))), some (.int (zI (T))), q6] [.int (zI (w8))] h_8 n_9
      refine pl_istore (lv' := [none, some (.ref 0), some (.ref 115), some (.ref 165), some (.int (zI (i))), some (.int (zI (T))), some (.int (zI (w8)))]) dL_law_292 (by decide) (by decide) rfl rfl ?_
      refine pl_goto (tgt := 767) dL_law_294 rfl ?_
      exact kk h_8 n_9 t' _ _ (uc + 4) (us + 28) (by omega) (by omega) (by omega) (jJ_of hC9 ho9 hM8 hH8 f47 f48 hF8 (Int.le_refl _))
set_option maxHeartbeats 2000000 in
set_option maxRecDepth 100000 in
theorem lz_close {E : pw_E} (htr : E.1.stackTraces = false) {K : pw_K} {b N0 uc us : Nat} {xs : Nat → Int32} {h : pz_H} {i : Int} {q5 q6 : Option Value} {W H M : Int} {N NH NB NL n : Nat} {t : aT} (hN0 : N0 ≤ 3074) (hi : 2 ≤ i ∧ i + 6 ≤ N0) (hu : uc + 4 ≤ 601024) (hs : us + 28 ≤ 7293000) (hG : geoH W H N NH NB NL) (hM : 0 ≤ M ∧ M + 400 ≤ 800000000) (hn : 166 ≤ n) (hJ : jJ W H M N NH NB NL n t h) (kk : ∀ (h' : pz_H) (n' : Nat) (t' : aT) (q5 q6 : Option Value) (uc' us' : Nat), uc' ≤ uc + 4 → us' ≤ us + 28 → 166 ≤ n' → jJ W H (M + 400) N NH NB NL n' t' h' → pl E YL_law (b, N0, xs) room_1 K uc' us' 767 [none, some (.ref 0), some (.ref 115), some (.ref 165), some (.int (zI i)), q5, q6] [] h' n') : pl E YL_law (b, N0, xs) room_1 K uc us 297 [none, some (.ref 0), some (.ref 115), some (.ref 165), some (.int (zI i)), q5, q6] [] h n := by
  have hW := hG.1.1
  have hHH := hG.1.2.1
  obtain ⟨x, s, f9, hC, hA, hH, ho⟩ := hJ
  obtain ⟨f, g, hfr, hfm, hgm, hfg⟩ := fg_ex hH.1 hH.2.1
  have hnc := cH_nc hC hn
  have r1 := i32 (xs (i + 1).toNat)
  have r2 := i32 (xs (i + 2).toNat)
  have r3 := i32 (xs (i + 3).toNat)
  have r4 := i32 (xs (i + 4).toNat)
  have r5 := i32 (xs (i + 5).toNat)
  refine pl_aload_n dL_law_297 rfl ?_
  refine pl_sld (a0 := 0) (i := i) (k := 1) (a1 := 299) (a2 := 301) (a3 := 302) (a4 := 303) rfl rfl rfl rfl rfl (by show 0 ≤ i + 1 ∧ i + 1 < (N0 : Int); omega) (by show N0 < 2147483648; omega) dL_law_298 dL_law_299 dL_law_301 dL_law_302 dL_law_303 ?_
  show pl E YL_law (b, N0, xs) room_1 K uc us 304 [none, some (.ref 0), some (.ref 115), some (.ref 165), some (.int (zI (i))), q5, q6] [.int (zI ((xs (i + 1).toNat).toInt)), .ref 0] h n
  refine pl_aload_n dL_law_304 rfl ?_
  refine pl_callSH (k := 3) (As := [.ref 0, .int (zI ((xs (i + 1).toNat).toInt)), .ref 165]) (rm := rmD (21 + 1) 2 12) (wT_close htr hG hH.1 hC (by omega) hn hfm hgm hfg (by omega) ho) rfl rfl whL_close ⟨by decide +kernel, by decide +kernel, by decide +kernel⟩ ⟨cwL_87.1, cwL_87.2, iniL⟩ ⟨nle rfl, nle rfl⟩ (nle rfl) ⟨by show uc + 2 ≤ 601024; omega, by show us + 12 ≤ 7293000; omega⟩ dL_law_305 ?_
  intro r_9 h_9 n_9 hq hn9
  obtain ⟨T, t', fo', R, hj, e1, ⟨x9, hC9⟩, hk9, ⟨g9, ho9, hV9⟩, hn1, hn2⟩ := hq
  rw [e1]
  show pl E YL_law (b, N0, xs) room_1 K (uc + 2) (us + 12) 308 [none, some (.ref 0), some (.ref 115), some (.ref 165), some (.int (zI (i))), q5, q6] [.int (zI (T))] h_9 n_9
  have hM9 : mAt 115 s h_9 := mAt_kp hA (fun a a1 a2 => hk9 a a1 (by omega))
  refine pl_istore (lv' := [none, some (.ref 0), some (.ref 115), some (.ref 165), some (.int (zI (i))), some (.int (zI (T))), q6]) dL_law_308 (by decide) (by decide) rfl rfl ?_
  refine pl_aload_n dL_law_310 rfl ?_
  refine pl_sld (a0 := 0) (i := i) (k := 1) (a1 := 312) (a2 := 314) (a3 := 315) (a4 := 316) rfl rfl rfl rfl rfl (by show 0 ≤ i + 1 ∧ i + 1 < (N0 : Int); omega) (by show N0 < 2147483648; omega) dL_law_311 dL_law_312 dL_law_314 dL_law_315 dL_law_316 ?_
  show pl E YL_law (b, N0, xs) room_1 K (uc + 2) (us + 12) 317 [none, some (.ref 0), some (.ref 115), some (.ref 165), some (.int (zI (i))), some (.int (zI (T))), q6] [.int (zI ((xs (i + 1).toNat).toInt)), .ref 115] h_9 n_9
  refine pl_callV (As := [.int (zI ((xs (i + 1).toNat).toInt))]) (b := 115) (rm := rmD 4 0 0) (rJ_close htr hM9 hW hHH (by omega) hH (by omega) hj) rfl hM9.1 rfl rfl ywX10_close rfl cwL_89 ⟨nle rfl, nle rfl⟩ (nle rfl) ⟨by show uc + 2 ≤ 601024; omega, by show us + 12 ≤ 7293000; omega⟩ dL_law_317 ?_
  intro r_8 h_8 n_8 hq _
  obtain ⟨⟨er1, er2⟩, s8, hM8, hH8, ⟨f0, f47, f48⟩, hF8, e4⟩ := hq
  obtain ⟨w8, hw8, e1, ew8⟩ := bR er1 er2 (jCl_T (cH_fo hC) hj).2
  have hTb := (jCl_T (cH_fo hC) hj).1
  rw [e1, e4]
  show pl E YL_law (b, N0, xs) room_1 K (uc + 2) (us + 12) 320 [none, some (.ref 0), some (.ref 115), some (.ref 165), some (.int (zI (i))), some (.int (zI (T))), q6] [.int (zI (w8))] h_8 n_9
  refine pl_istore (lv' := [none, some (.ref 0), some (.ref 115), some (.ref 165), some (.int (zI (i))), some (.int (zI (T))), some (.int (zI (w8)))]) dL_law_320 (by decide) (by decide) rfl rfl ?_
  refine pl_aload_n dL_law_322 rfl ?_
  refine pl_callV (As := []) (b := 115) (rm := rmD 0 0 0) (nR_thrown htr hM8) rfl hM8.1 rfl rfl ywX10_thrown rfl cwL_90 ⟨nle rfl, nle rfl⟩ (nle rfl) ⟨by show uc + 2 ≤ 601024; omega, by show us + 12 ≤ 7293000; omega⟩ dL_law_323 ?_
  intro r_7 h_7 n_7 hq _
  rw [hq.1, hq.2.1, hq.2.2, f0]
  show pl E YL_law (b, N0, xs) room_1 K (uc + 2) (us + 12) 326 [none, some (.ref 0), some (.ref 115), some (.ref 165), some (.int (zI (i))), some (.int (zI (T))), some (.int (zI (w8)))] [.int (zI (T))] h_8 n_9
  refine pl_iload dL_law_326 rfl ?_
  refine pl_icmp_eq (tgt := 333) dL_law_328 rfl (by omega) (by omega) (fun c328 => ?_) (fun c328 => ?_)
  ·
    refine pl_iload dL_law_333 rfl ?_
    refine pl_if_ne (tgt := 350) dL_law_335 rfl (by omega) (fun c335 => ?_) (fun c335 => ?_)
    ·
      refine pl_goto (tgt := 767) dL_law_350 rfl ?_
      exact kk h_8 n_9 t' _ _ (uc + 2) (us + 12) (by omega) (by omega) (by omega) (jJ_of hC9 ho9 hM8 hH8 f47 f48 hF8 (Int.le_refl _))
    ·
      refine pl_aload_n dL_law_338 rfl ?_
      refine pl_iconst (v := zI (0)) dL_law_339 (by decide) ?_
      have hg0 := hV9 (by omega)
      have ew9 := ew8 (by omega)
      have ho8 : h_8 165 = pz_j 2 1 g9 := (hF8 165 (by omega)).trans ho9
      refine pl_lald (t := 2) (f := g9) rfl ho8 (by omega) (by decide) dL_law_340 ?_
      rw [show g9 (Int.toNat 0) = zL R from hg0]
      show pl E YL_law (b, N0, xs) room_1 K (uc + 2) (us + 12) 341 [none, some (.ref 0), some (.ref 115), some (.ref 165), some (.int (zI (i))), some (.int (zI (T))), some (.int (zI (w8)))] [.long (zL (R))] h_8 n_9
      refine pl_iload dL_law_341 rfl ?_
      refine pl_zi2l dL_law_343 (by omega) ?_
      refine pl_zlcmp dL_law_344 (by omega) (by omega) ?_
      refine pl_if_eq (tgt := 350) dL_law_345 rfl (by omega) (fun c345 => ?_) (fun c345 => ?_)
      ·
        refine pl_goto (tgt := 767) dL_law_350 rfl ?_
        exact kk h_8 n_9 t' _ _ (uc + 2) (us + 12) (by omega) (by omega) (by omega) (jJ_of hC9 ho9 hM8 hH8 f47 f48 hF8 (Int.le_refl _))
      · exfalso; omega
  · exfalso; omega
set_option maxHeartbeats 2000000 in
set_option maxRecDepth 100000 in
theorem lz_focus {E : pw_E} (htr : E.1.stackTraces = false) {K : pw_K} {b N0 uc us : Nat} {xs : Nat → Int32} {h : pz_H} {i : Int} {q5 q6 : Option Value} {W H M : Int} {N NH NB NL n : Nat} {t : aT} (hN0 : N0 ≤ 3074) (hi : 2 ≤ i ∧ i + 6 ≤ N0) (hu : uc + 4 ≤ 601024) (hs : us + 28 ≤ 7293000) (hG : geoH W H N NH NB NL) (hM : 0 ≤ M ∧ M + 400 ≤ 800000000) (hn : 166 ≤ n) (hJ : jJ W H M N NH NB NL n t h) (kk : ∀ (h' : pz_H) (n' : Nat) (t' : aT) (q5 q6 : Option Value) (uc' us' : Nat), uc' ≤ uc + 4 → us' ≤ us + 28 → 166 ≤ n' → jJ W H (M + 400) N NH NB NL n' t' h' → pl E YL_law (b, N0, xs) room_1 K uc' us' 767 [none, some (.ref 0), some (.ref 115), some (.ref 165), some (.int (zI i)), q5, q6] [] h' n') : pl E YL_law (b, N0, xs) room_1 K uc us 353 [none, some (.ref 0), some (.ref 115), some (.ref 165), some (.int (zI i)), q5, q6] [] h n := by
  have hW := hG.1.1
  have hHH := hG.1.2.1
  obtain ⟨x, s, f9, hC, hA, hH, ho⟩ := hJ
  obtain ⟨f, g, hfr, hfm, hgm, hfg⟩ := fg_ex hH.1 hH.2.1
  have hnc := cH_nc hC hn
  have r1 := i32 (xs (i + 1).toNat)
  have r2 := i32 (xs (i + 2).toNat)
  have r3 := i32 (xs (i + 3).toNat)
  have r4 := i32 (xs (i + 4).toNat)
  have r5 := i32 (xs (i + 5).toNat)
  refine pl_aload_n dL_law_353 rfl ?_
  refine pl_sld (a0 := 0) (i := i) (k := 1) (a1 := 355) (a2 := 357) (a3 := 358) (a4 := 359) rfl rfl rfl rfl rfl (by show 0 ≤ i + 1 ∧ i + 1 < (N0 : Int); omega) (by show N0 < 2147483648; omega) dL_law_354 dL_law_355 dL_law_357 dL_law_358 dL_law_359 ?_
  show pl E YL_law (b, N0, xs) room_1 K uc us 360 [none, some (.ref 0), some (.ref 115), some (.ref 165), some (.int (zI (i))), q5, q6] [.int (zI ((xs (i + 1).toNat).toInt)), .ref 0] h n
  refine pl_callSH (k := 2) (As := [.ref 0, .int (zI ((xs (i + 1).toNat).toInt))]) (rm := rmD (7 + 1) 1 6) (wT_focus htr hG hH.1 hC (by omega) hn hfm hgm hfg (by omega) ho) rfl rfl whL_focus ⟨by decide +kernel, by decide +kernel, by decide +kernel⟩ ⟨cwL_94.1, cwL_94.2, iniL⟩ ⟨nle rfl, nle rfl⟩ (nle rfl) ⟨by show uc + 1 ≤ 601024; omega, by show us + 6 ≤ 7293000; omega⟩ dL_law_360 ?_
  intro r_9 h_9 n_9 hq hn9
  obtain ⟨T, fo', hj, e1, ⟨x9, hC9⟩, hk9, ⟨g9, ho9, hV9⟩, hn1, hn2⟩ := hq
  rw [e1]
  show pl E YL_law (b, N0, xs) room_1 K (uc + 1) (us + 6) 363 [none, some (.ref 0), some (.ref 115), some (.ref 165), some (.int (zI (i))), q5, q6] [.int (zI (T))] h_9 n_9
  have hM9 : mAt 115 s h_9 := mAt_kp hA (fun a a1 a2 => hk9 a a1 (by omega))
  refine pl_istore (lv' := [none, some (.ref 0), some (.ref 115), some (.ref 165), some (.int (zI (i))), some (.int (zI (T))), q6]) dL_law_363 (by decide) (by decide) rfl rfl ?_
  refine pl_aload_n dL_law_365 rfl ?_
  refine pl_sld (a0 := 0) (i := i) (k := 1) (a1 := 367) (a2 := 369) (a3 := 370) (a4 := 371) rfl rfl rfl rfl rfl (by show 0 ≤ i + 1 ∧ i + 1 < (N0 : Int); omega) (by show N0 < 2147483648; omega) dL_law_366 dL_law_367 dL_law_369 dL_law_370 dL_law_371 ?_
  show pl E YL_law (b, N0, xs) room_1 K (uc + 1) (us + 6) 372 [none, some (.ref 0), some (.ref 115), some (.ref 165), some (.int (zI (i))), some (.int (zI (T))), q6] [.int (zI ((xs (i + 1).toNat).toInt)), .ref 115] h_9 n_9
  refine pl_callV (As := [.int (zI ((xs (i + 1).toNat).toInt))]) (b := 115) (rm := rmD 1 0 0) (rJ_focus htr hM9 hW hHH (by omega) hH (by omega) hj) rfl hM9.1 rfl rfl ywX10_focus rfl cwL_97 ⟨nle rfl, nle rfl⟩ (nle rfl) ⟨by show uc + 1 ≤ 601024; omega, by show us + 6 ≤ 7293000; omega⟩ dL_law_372 ?_
  intro r_8 h_8 n_8 hq _
  obtain ⟨e1, s8, hM8, hH8, ⟨f0, f47, f48⟩, hF8, e4⟩ := hq
  have hTb := jFoc_T hj
  rw [e1, e4]
  show pl E YL_law (b, N0, xs) room_1 K (uc + 1) (us + 6) 375 [none, some (.ref 0), some (.ref 115), some (.ref 165), some (.int (zI (i))), some (.int (zI (T))), q6] [] h_8 n_9
  refine pl_goto (tgt := 767) dL_law_375 rfl ?_
  exact kk h_8 n_9 t _ _ (uc + 1) (us + 6) (by omega) (by omega) (by omega) (jJ_of hC9 ho9 hM8 hH8 f47 f48 hF8 (Int.le_refl _))
set_option maxHeartbeats 2000000 in
set_option maxRecDepth 100000 in
theorem lz_copy {E : pw_E} (htr : E.1.stackTraces = false) {K : pw_K} {b N0 uc us : Nat} {xs : Nat → Int32} {h : pz_H} {i : Int} {q5 q6 : Option Value} {W H M : Int} {N NH NB NL n : Nat} {t : aT} (hN0 : N0 ≤ 3074) (hi : 2 ≤ i ∧ i + 6 ≤ N0) (hu : uc + 4 ≤ 601024) (hs : us + 28 ≤ 7293000) (hG : geoH W H N NH NB NL) (hM : 0 ≤ M ∧ M + 400 ≤ 800000000) (hn : 166 ≤ n) (hJ : jJ W H M N NH NB NL n t h) (kk : ∀ (h' : pz_H) (n' : Nat) (t' : aT) (q5 q6 : Option Value) (uc' us' : Nat), uc' ≤ uc + 4 → us' ≤ us + 28 → 166 ≤ n' → jJ W H (M + 400) N NH NB NL n' t' h' → pl E YL_law (b, N0, xs) room_1 K uc' us' 767 [none, some (.ref 0), some (.ref 115), some (.ref 165), some (.int (zI i)), q5, q6] [] h' n') : pl E YL_law (b, N0, xs) room_1 K uc us 378 [none, some (.ref 0), some (.ref 115), some (.ref 165), some (.int (zI i)), q5, q6] [] h n := by
  have hW := hG.1.1
  have hHH := hG.1.2.1
  obtain ⟨x, s, f9, hC, hA, hH, ho⟩ := hJ
  obtain ⟨f, g, hfr, hfm, hgm, hfg⟩ := fg_ex hH.1 hH.2.1
  have hnc := cH_nc hC hn
  have r1 := i32 (xs (i + 1).toNat)
  have r2 := i32 (xs (i + 2).toNat)
  have r3 := i32 (xs (i + 3).toNat)
  have r4 := i32 (xs (i + 4).toNat)
  have r5 := i32 (xs (i + 5).toNat)
  refine pl_aload_n dL_law_378 rfl ?_
  refine pl_sld (a0 := 0) (i := i) (k := 1) (a1 := 380) (a2 := 382) (a3 := 383) (a4 := 384) rfl rfl rfl rfl rfl (by show 0 ≤ i + 1 ∧ i + 1 < (N0 : Int); omega) (by show N0 < 2147483648; omega) dL_law_379 dL_law_380 dL_law_382 dL_law_383 dL_law_384 ?_
  show pl E YL_law (b, N0, xs) room_1 K uc us 385 [none, some (.ref 0), some (.ref 115), some (.ref 165), some (.int (zI (i))), q5, q6] [.int (zI ((xs (i + 1).toNat).toInt)), .ref 0] h n
  refine pl_sld (a0 := 0) (i := i) (k := 2) (a1 := 386) (a2 := 388) (a3 := 389) (a4 := 390) rfl rfl rfl rfl rfl (by show 0 ≤ i + 2 ∧ i + 2 < (N0 : Int); omega) (by show N0 < 2147483648; omega) dL_law_385 dL_law_386 dL_law_388 dL_law_389 dL_law_390 ?_
  show pl E YL_law (b, N0, xs) room_1 K uc us 391 [none, some (.ref 0), some (.ref 115), some (.ref 165), some (.int (zI (i))), q5, q6] [.int (zI ((xs (i + 2).toNat).toInt)), .int (zI ((xs (i + 1).toNat).toInt)), .ref 0] h n
  refine pl_if_eq (tgt := 398) dL_law_391 rfl (by omega) (fun c391 => ?_) (fun c391 => ?_)
  ·
    refine pl_iconst (v := zI (0)) dL_law_398 (by decide) ?_
    refine pl_sld (a0 := 0) (i := i) (k := 3) (a1 := 400) (a2 := 402) (a3 := 403) (a4 := 404) rfl rfl rfl rfl rfl (by show 0 ≤ i + 3 ∧ i + 3 < (N0 : Int); omega) (by show N0 < 2147483648; omega) dL_law_399 dL_law_400 dL_law_402 dL_law_403 dL_law_404 ?_
    show pl E YL_law (b, N0, xs) room_1 K uc us 405 [none, some (.ref 0), some (.ref 115), some (.ref 165), some (.int (zI (i))), q5, q6] [.int (zI ((xs (i + 3).toNat).toInt)), .int (zI (0)), .int (zI ((xs (i + 1).toNat).toInt)), .ref 0] h n
    refine pl_aload_n dL_law_405 rfl ?_
    refine pl_callSH (k := 5) (As := [.ref 0, .int (zI ((xs (i + 1).toNat).toInt)), .int (zI (0)), .int (zI ((xs (i + 3).toNat).toInt)), .ref 165]) (rm := rmD (7 + 1) 1 6) (wV_copy htr hG hC (by omega) hn (by omega) (by omega) (by omega) (by omega) ho) rfl rfl whL_copy ⟨by decide +kernel, by decide +kernel, by decide +kernel⟩ ⟨cwL_98.1, cwL_98.2, iniL⟩ ⟨nle rfl, nle rfl⟩ (nle rfl) ⟨by show uc + 1 ≤ 601024; omega, by show us + 6 ≤ 7293000; omega⟩ dL_law_406 ?_
    intro r_9 h_9 n_9 hq hn9
    obtain ⟨⟨v9, e1⟩, ⟨x9, hC9⟩, hk9, ⟨g9, ho9, hV9⟩, hn1, hn2⟩ := hq
    rw [e1]
    show pl E YL_law (b, N0, xs) room_1 K (uc + 1) (us + 6) 409 [none, some (.ref 0), some (.ref 115), some (.ref 165), some (.int (zI (i))), q5, q6] [.int (zI (v9))] h_9 n_9
    have hM9 : mAt 115 s h_9 := mAt_kp hA (fun a a1 a2 => hk9 a a1 (by omega))
    refine pl_istore (lv' := [none, some (.ref 0), some (.ref 115), some (.ref 165), some (.int (zI (i))), some (.int (zI (v9))), q6]) dL_law_409 (by decide) (by decide) rfl rfl ?_
    refine pl_aload_n dL_law_411 rfl ?_
    refine pl_sld (a0 := 0) (i := i) (k := 1) (a1 := 413) (a2 := 415) (a3 := 416) (a4 := 417) rfl rfl rfl rfl rfl (by show 0 ≤ i + 1 ∧ i + 1 < (N0 : Int); omega) (by show N0 < 2147483648; omega) dL_law_412 dL_law_413 dL_law_415 dL_law_416 dL_law_417 ?_
    show pl E YL_law (b, N0, xs) room_1 K (uc + 1) (us + 6) 418 [none, some (.ref 0), some (.ref 115), some (.ref 165), some (.int (zI (i))), some (.int (zI (v9))), q6] [.int (zI ((xs (i + 1).toNat).toInt)), .ref 115] h_9 n_9
    refine pl_sld (a0 := 0) (i := i) (k := 2) (a1 := 419) (a2 := 421) (a3 := 422) (a4 := 423) rfl rfl rfl rfl rfl (by show 0 ≤ i + 2 ∧ i + 2 < (N0 : Int); omega) (by show N0 < 2147483648; omega) dL_law_418 dL_law_419 dL_law_421 dL_law_422 dL_law_423 ?_
    show pl E YL_law (b, N0, xs) room_1 K (uc + 1) (us + 6) 424 [none, some (.ref 0), some (.ref 115), some (.ref 165), some (.int (zI (i))), some (.int (zI (v9))), q6] [.int (zI ((xs (i + 2).toNat).toInt)), .int (zI ((xs (i + 1).toNat).toInt)), .ref 115] h_9 n_9
    refine pl_if_eq (tgt := 431) dL_law_424 rfl (by omega) (fun c424 => ?_) (fun c424 => ?_)
    ·
      refine pl_iconst (v := zI (0)) dL_law_431 (by decide) ?_
      refine pl_sld (a0 := 0) (i := i) (k := 3) (a1 := 433) (a2 := 435) (a3 := 436) (a4 := 437) rfl rfl rfl rfl rfl (by show 0 ≤ i + 3 ∧ i + 3 < (N0 : Int); omega) (by show N0 < 2147483648; omega) dL_law_432 dL_law_433 dL_law_435 dL_law_436 dL_law_437 ?_
      show pl E YL_law (b, N0, xs) room_1 K (uc + 1) (us + 6) 438 [none, some (.ref 0), some (.ref 115), some (.ref 165), some (.int (zI (i))), some (.int (zI (v9))), q6] [.int (zI ((xs (i + 3).toNat).toInt)), .int (zI (0)), .int (zI ((xs (i + 1).toNat).toInt)), .ref 115] h_9 n_9
      refine pl_callV (As := [.int (zI ((xs (i + 1).toNat).toInt)), .int (zI (0)), .int (zI ((xs (i + 3).toNat).toInt))]) (b := 115) (rm := rmD 3 0 0) (nG_copy htr hM9 hW hHH (by omega) hH (by omega) (by omega) (by omega) (by omega)) rfl hM9.1 rfl rfl ywX10_copy rfl cwL_101 ⟨nle rfl, nle rfl⟩ (nle rfl) ⟨by show uc + 1 ≤ 601024; omega, by show us + 6 ≤ 7293000; omega⟩ dL_law_438 ?_
      intro r_8 h_8 n_8 hq _
      obtain ⟨⟨w8, e1⟩, s8, hM8, hH8, ⟨f47, f48⟩, hF8, e4⟩ := hq
      rw [e1, e4]
      show pl E YL_law (b, N0, xs) room_1 K (uc + 1) (us + 6) 441 [none, some (.ref 0), some (.ref 115), some (.ref 165), some (.int (zI (i))), some (.int (zI (v9))), q6] [.int (zI (w8))] h_8 n_9
      refine pl_istore (lv' := [none, some (.ref 0), some (.ref 115), some (.ref 165), some (.int (zI (i))), some (.int (zI (v9))), some (.int (zI (w8)))]) dL_law_441 (by decide) (by decide) rfl rfl ?_
      refine pl_goto (tgt := 767) dL_law_443 rfl ?_
      exact kk h_8 n_9 t _ _ (uc + 1) (us + 6) (by omega) (by omega) (by omega) (jJ_of hC9 ho9 hM8 (rH_mo hH8 (by omega)) f47 f48 hF8 (Int.le_refl _))
    · exfalso; omega
  ·
    refine pl_iconst (v := zI (1)) dL_law_394 (by decide) ?_
    refine pl_goto (tgt := 399) dL_law_395 rfl ?_
    refine pl_sld (a0 := 0) (i := i) (k := 3) (a1 := 400) (a2 := 402) (a3 := 403) (a4 := 404) rfl rfl rfl rfl rfl (by show 0 ≤ i + 3 ∧ i + 3 < (N0 : Int); omega) (by show N0 < 2147483648; omega) dL_law_399 dL_law_400 dL_law_402 dL_law_403 dL_law_404 ?_
    show pl E YL_law (b, N0, xs) room_1 K uc us 405 [none, some (.ref 0), some (.ref 115), some (.ref 165), some (.int (zI (i))), q5, q6] [.int (zI ((xs (i + 3).toNat).toInt)), .int (zI (1)), .int (zI ((xs (i + 1).toNat).toInt)), .ref 0] h n
    refine pl_aload_n dL_law_405 rfl ?_
    refine pl_callSH (k := 5) (As := [.ref 0, .int (zI ((xs (i + 1).toNat).toInt)), .int (zI (1)), .int (zI ((xs (i + 3).toNat).toInt)), .ref 165]) (rm := rmD (7 + 1) 1 6) (wV_copy htr hG hC (by omega) hn (by omega) (by omega) (by omega) (by omega) ho) rfl rfl whL_copy ⟨by decide +kernel, by decide +kernel, by decide +kernel⟩ ⟨cwL_98.1, cwL_98.2, iniL⟩ ⟨nle rfl, nle rfl⟩ (nle rfl) ⟨by show uc + 1 ≤ 601024; omega, by show us + 6 ≤ 7293000; omega⟩ dL_law_406 ?_
    intro r_9 h_9 n_9 hq hn9
    obtain ⟨⟨v9, e1⟩, ⟨x9, hC9⟩, hk9, ⟨g9, ho9, hV9⟩, hn1, hn2⟩ := hq
    rw [e1]
    show pl E YL_law (b, N0, xs) room_1 K (uc + 1) (us + 6) 409 [none, some (.ref 0), some (.ref 115), some (.ref 165), some (.int (zI (i))), q5, q6] [.int (zI (v9))] h_9 n_9
    have hM9 : mAt 115 s h_9 := mAt_kp hA (fun a a1 a2 => hk9 a a1 (by omega))
    refine pl_istore (lv' := [none, some (.ref 0), some (.ref 115), some (.ref 165), some (.int (zI (i))), some (.int (zI (v9))), q6]) dL_law_409 (by decide) (by decide) rfl rfl ?_
    refine pl_aload_n dL_law_411 rfl ?_
    refine pl_sld (a0 := 0) (i := i) (k := 1) (a1 := 413) (a2 := 415) (a3 := 416) (a4 := 417) rfl rfl rfl rfl rfl (by show 0 ≤ i + 1 ∧ i + 1 < (N0 : Int); omega) (by show N0 < 2147483648; omega) dL_law_412 dL_law_413 dL_law_415 dL_law_416 dL_law_417 ?_
    show pl E YL_law (b, N0, xs) room_1 K (uc + 1) (us + 6) 418 [none, some (.ref 0), some (.ref 115), some (.ref 165), some (.int (zI (i))), some (.int (zI (v9))), q6] [.int (zI ((xs (i + 1).toNat).toInt)), .ref 115] h_9 n_9
    refine pl_sld (a0 := 0) (i := i) (k := 2) (a1 := 419) (a2 := 421) (a3 := 422) (a4 := 423) rfl rfl rfl rfl rfl (by show 0 ≤ i + 2 ∧ i + 2 < (N0 : Int); omega) (by show N0 < 2147483648; omega) dL_law_418 dL_law_419 dL_law_421 dL_law_422 dL_law_423 ?_
    show pl E YL_law (b, N0, xs) room_1 K (uc + 1) (us + 6) 424 [none, some (.ref 0), some (.ref 115), some (.ref 165), some (.int (zI (i))), some (.int (zI (v9))), q6] [.int (zI ((xs (i + 2).toNat).toInt)), .int (zI ((xs (i + 1).toNat).toInt)), .ref 115] h_9 n_9
    refine pl_if_eq (tgt := 431) dL_law_424 rfl (by omega) (fun c424 => ?_) (fun c424 => ?_)
    · exfalso; omega
    ·
      refine pl_iconst (v := zI (1)) dL_law_427 (by decide) ?_
      refine pl_goto (tgt := 432) dL_law_428 rfl ?_
      refine pl_sld (a0 := 0) (i := i) (k := 3) (a1 := 433) (a2 := 435) (a3 := 436) (a4 := 437) rfl rfl rfl rfl rfl (by show 0 ≤ i + 3 ∧ i + 3 < (N0 : Int); omega) (by show N0 < 2147483648; omega) dL_law_432 dL_law_433 dL_law_435 dL_law_436 dL_law_437 ?_
      show pl E YL_law (b, N0, xs) room_1 K (uc + 1) (us + 6) 438 [none, some (.ref 0), some (.ref 115), some (.ref 165), some (.int (zI (i))), some (.int (zI (v9))), q6] [.int (zI ((xs (i + 3).toNat).toInt)), .int (zI (1)), .int (zI ((xs (i + 1).toNat).toInt)), .ref 115] h_9 n_9
      refine pl_callV (As := [.int (zI ((xs (i + 1).toNat).toInt)), .int (zI (1)), .int (zI ((xs (i + 3).toNat).toInt))]) (b := 115) (rm := rmD 3 0 0) (nG_copy htr hM9 hW hHH (by omega) hH (by omega) (by omega) (by omega) (by omega)) rfl hM9.1 rfl rfl ywX10_copy rfl cwL_101 ⟨nle rfl, nle rfl⟩ (nle rfl) ⟨by show uc + 1 ≤ 601024; omega, by show us + 6 ≤ 7293000; omega⟩ dL_law_438 ?_
      intro r_8 h_8 n_8 hq _
      obtain ⟨⟨w8, e1⟩, s8, hM8, hH8, ⟨f47, f48⟩, hF8, e4⟩ := hq
      rw [e1, e4]
      show pl E YL_law (b, N0, xs) room_1 K (uc + 1) (us + 6) 441 [none, some (.ref 0), some (.ref 115), some (.ref 165), some (.int (zI (i))), some (.int (zI (v9))), q6] [.int (zI (w8))] h_8 n_9
      refine pl_istore (lv' := [none, some (.ref 0), some (.ref 115), some (.ref 165), some (.int (zI (i))), some (.int (zI (v9))), some (.int (zI (w8)))]) dL_law_441 (by decide) (by decide) rfl rfl ?_
      refine pl_goto (tgt := 767) dL_law_443 rfl ?_
      exact kk h_8 n_9 t _ _ (uc + 1) (us + 6) (by omega) (by omega) (by omega) (jJ_of hC9 ho9 hM8 (rH_mo hH8 (by omega)) f47 f48 hF8 (Int.le_refl _))
set_option maxHeartbeats 2000000 in
set_option maxRecDepth 100000 in
theorem lz_select {E : pw_E} (htr : E.1.stackTraces = false) {K : pw_K} {b N0 uc us : Nat} {xs : Nat → Int32} {h : pz_H} {i : Int} {q5 q6 : Option Value} {W H M : Int} {N NH NB NL n : Nat} {t : aT} (hN0 : N0 ≤ 3074) (hi : 2 ≤ i ∧ i + 6 ≤ N0) (hu : uc + 4 ≤ 601024) (hs : us + 28 ≤ 7293000) (hG : geoH W H N NH NB NL) (hM : 0 ≤ M ∧ M + 400 ≤ 800000000) (hn : 166 ≤ n) (hJ : jJ W H M N NH NB NL n t h) (kk : ∀ (h' : pz_H) (n' : Nat) (t' : aT) (q5 q6 : Option Value) (uc' us' : Nat), uc' ≤ uc + 4 → us' ≤ us + 28 → 166 ≤ n' → jJ W H (M + 400) N NH NB NL n' t' h' → pl E YL_law (b, N0, xs) room_1 K uc' us' 767 [none, some (.ref 0), some (.ref 115), some (.ref 165), some (.int (zI i)), q5, q6] [] h' n') : pl E YL_law (b, N0, xs) room_1 K uc us 446 [none, some (.ref 0), some (.ref 115), some (.ref 165), some (.int (zI i)), q5, q6] [] h n := by
  have hW := hG.1.1
  have hHH := hG.1.2.1
  obtain ⟨x, s, f9, hC, hA, hH, ho⟩ := hJ
  obtain ⟨f, g, hfr, hfm, hgm, hfg⟩ := fg_ex hH.1 hH.2.1
  have hnc := cH_nc hC hn
  have r1 := i32 (xs (i + 1).toNat)
  have r2 := i32 (xs (i + 2).toNat)
  have r3 := i32 (xs (i + 3).toNat)
  have r4 := i32 (xs (i + 4).toNat)
  have r5 := i32 (xs (i + 5).toNat)
  refine pl_aload_n dL_law_446 rfl ?_
  refine pl_sld (a0 := 0) (i := i) (k := 1) (a1 := 448) (a2 := 450) (a3 := 451) (a4 := 452) rfl rfl rfl rfl rfl (by show 0 ≤ i + 1 ∧ i + 1 < (N0 : Int); omega) (by show N0 < 2147483648; omega) dL_law_447 dL_law_448 dL_law_450 dL_law_451 dL_law_452 ?_
  show pl E YL_law (b, N0, xs) room_1 K uc us 453 [none, some (.ref 0), some (.ref 115), some (.ref 165), some (.int (zI (i))), q5, q6] [.int (zI ((xs (i + 1).toNat).toInt)), .ref 0] h n
  refine pl_sld (a0 := 0) (i := i) (k := 2) (a1 := 454) (a2 := 456) (a3 := 457) (a4 := 458) rfl rfl rfl rfl rfl (by show 0 ≤ i + 2 ∧ i + 2 < (N0 : Int); omega) (by show N0 < 2147483648; omega) dL_law_453 dL_law_454 dL_law_456 dL_law_457 dL_law_458 ?_
  show pl E YL_law (b, N0, xs) room_1 K uc us 459 [none, some (.ref 0), some (.ref 115), some (.ref 165), some (.int (zI (i))), q5, q6] [.int (zI ((xs (i + 2).toNat).toInt)), .int (zI ((xs (i + 1).toNat).toInt)), .ref 0] h n
  refine pl_sld (a0 := 0) (i := i) (k := 3) (a1 := 460) (a2 := 462) (a3 := 463) (a4 := 464) rfl rfl rfl rfl rfl (by show 0 ≤ i + 3 ∧ i + 3 < (N0 : Int); omega) (by show N0 < 2147483648; omega) dL_law_459 dL_law_460 dL_law_462 dL_law_463 dL_law_464 ?_
  show pl E YL_law (b, N0, xs) room_1 K uc us 465 [none, some (.ref 0), some (.ref 115), some (.ref 165), some (.int (zI (i))), q5, q6] [.int (zI ((xs (i + 3).toNat).toInt)), .int (zI ((xs (i + 2).toNat).toInt)), .int (zI ((xs (i + 1).toNat).toInt)), .ref 0] h n
  refine pl_sld (a0 := 0) (i := i) (k := 4) (a1 := 466) (a2 := 468) (a3 := 469) (a4 := 470) rfl rfl rfl rfl rfl (by show 0 ≤ i + 4 ∧ i + 4 < (N0 : Int); omega) (by show N0 < 2147483648; omega) dL_law_465 dL_law_466 dL_law_468 dL_law_469 dL_law_470 ?_
  show pl E YL_law (b, N0, xs) room_1 K uc us 471 [none, some (.ref 0), some (.ref 115), some (.ref 165), some (.int (zI (i))), q5, q6] [.int (zI ((xs (i + 4).toNat).toInt)), .int (zI ((xs (i + 3).toNat).toInt)), .int (zI ((xs (i + 2).toNat).toInt)), .int (zI ((xs (i + 1).toNat).toInt)), .ref 0] h n
  refine pl_sld (a0 := 0) (i := i) (k := 5) (a1 := 472) (a2 := 474) (a3 := 475) (a4 := 476) rfl rfl rfl rfl rfl (by show 0 ≤ i + 5 ∧ i + 5 < (N0 : Int); omega) (by show N0 < 2147483648; omega) dL_law_471 dL_law_472 dL_law_474 dL_law_475 dL_law_476 ?_
  show pl E YL_law (b, N0, xs) room_1 K uc us 477 [none, some (.ref 0), some (.ref 115), some (.ref 165), some (.int (zI (i))), q5, q6] [.int (zI ((xs (i + 5).toNat).toInt)), .int (zI ((xs (i + 4).toNat).toInt)), .int (zI ((xs (i + 3).toNat).toInt)), .int (zI ((xs (i + 2).toNat).toInt)), .int (zI ((xs (i + 1).toNat).toInt)), .ref 0] h n
  refine pl_aload_n dL_law_477 rfl ?_
  refine pl_callSH (k := 7) (As := [.ref 0, .int (zI ((xs (i + 1).toNat).toInt)), .int (zI ((xs (i + 2).toNat).toInt)), .int (zI ((xs (i + 3).toNat).toInt)), .int (zI ((xs (i + 4).toNat).toInt)), .int (zI ((xs (i + 5).toNat).toInt)), .ref 165]) (rm := rmD (7 + 1) 4 24) (wV_select htr hG hC (by omega) hn (by omega) (by omega) (by omega) (by omega) (by omega) ho) rfl rfl whL_select ⟨by decide +kernel, by decide +kernel, by decide +kernel⟩ ⟨cwL_102.1, cwL_102.2, iniL⟩ ⟨nle rfl, nle rfl⟩ (nle rfl) ⟨by show uc + 4 ≤ 601024; omega, by show us + 24 ≤ 7293000; omega⟩ dL_law_478 ?_
  intro r_9 h_9 n_9 hq hn9
  obtain ⟨⟨v9, e1⟩, ⟨x9, hC9⟩, hk9, ⟨g9, ho9, hV9⟩, hn1, hn2⟩ := hq
  rw [e1]
  show pl E YL_law (b, N0, xs) room_1 K (uc + 4) (us + 24) 481 [none, some (.ref 0), some (.ref 115), some (.ref 165), some (.int (zI (i))), q5, q6] [.int (zI (v9))] h_9 n_9
  have hM9 : mAt 115 s h_9 := mAt_kp hA (fun a a1 a2 => hk9 a a1 (by omega))
  refine pl_istore (lv' := [none, some (.ref 0), some (.ref 115), some (.ref 165), some (.int (zI (i))), some (.int (zI (v9))), q6]) dL_law_481 (by decide) (by decide) rfl rfl ?_
  refine pl_aload_n dL_law_483 rfl ?_
  refine pl_sld (a0 := 0) (i := i) (k := 1) (a1 := 485) (a2 := 487) (a3 := 488) (a4 := 489) rfl rfl rfl rfl rfl (by show 0 ≤ i + 1 ∧ i + 1 < (N0 : Int); omega) (by show N0 < 2147483648; omega) dL_law_484 dL_law_485 dL_law_487 dL_law_488 dL_law_489 ?_
  show pl E YL_law (b, N0, xs) room_1 K (uc + 4) (us + 24) 490 [none, some (.ref 0), some (.ref 115), some (.ref 165), some (.int (zI (i))), some (.int (zI (v9))), q6] [.int (zI ((xs (i + 1).toNat).toInt)), .ref 115] h_9 n_9
  refine pl_sld (a0 := 0) (i := i) (k := 2) (a1 := 491) (a2 := 493) (a3 := 494) (a4 := 495) rfl rfl rfl rfl rfl (by show 0 ≤ i + 2 ∧ i + 2 < (N0 : Int); omega) (by show N0 < 2147483648; omega) dL_law_490 dL_law_491 dL_law_493 dL_law_494 dL_law_495 ?_
  show pl E YL_law (b, N0, xs) room_1 K (uc + 4) (us + 24) 496 [none, some (.ref 0), some (.ref 115), some (.ref 165), some (.int (zI (i))), some (.int (zI (v9))), q6] [.int (zI ((xs (i + 2).toNat).toInt)), .int (zI ((xs (i + 1).toNat).toInt)), .ref 115] h_9 n_9
  refine pl_sld (a0 := 0) (i := i) (k := 3) (a1 := 497) (a2 := 499) (a3 := 500) (a4 := 501) rfl rfl rfl rfl rfl (by show 0 ≤ i + 3 ∧ i + 3 < (N0 : Int); omega) (by show N0 < 2147483648; omega) dL_law_496 dL_law_497 dL_law_499 dL_law_500 dL_law_501 ?_
  show pl E YL_law (b, N0, xs) room_1 K (uc + 4) (us + 24) 502 [none, some (.ref 0), some (.ref 115), some (.ref 165), some (.int (zI (i))), some (.int (zI (v9))), q6] [.int (zI ((xs (i + 3).toNat).toInt)), .int (zI ((xs (i + 2).toNat).toInt)), .int (zI ((xs (i + 1).toNat).toInt)), .ref 115] h_9 n_9
  refine pl_sld (a0 := 0) (i := i) (k := 4) (a1 := 503) (a2 := 505) (a3 := 506) (a4 := 507) rfl rfl rfl rfl rfl (by show 0 ≤ i + 4 ∧ i + 4 < (N0 : Int); omega) (by show N0 < 2147483648; omega) dL_law_502 dL_law_503 dL_law_505 dL_law_506 dL_law_507 ?_
  show pl E YL_law (b, N0, xs) room_1 K (uc + 4) (us + 24) 508 [none, some (.ref 0), some (.ref 115), some (.ref 165), some (.int (zI (i))), some (.int (zI (v9))), q6] [.int (zI ((xs (i + 4).toNat).toInt)), .int (zI ((xs (i + 3).toNat).toInt)), .int (zI ((xs (i + 2).toNat).toInt)), .int (zI ((xs (i + 1).toNat).toInt)), .ref 115] h_9 n_9
  refine pl_sld (a0 := 0) (i := i) (k := 5) (a1 := 509) (a2 := 511) (a3 := 512) (a4 := 513) rfl rfl rfl rfl rfl (by show 0 ≤ i + 5 ∧ i + 5 < (N0 : Int); omega) (by show N0 < 2147483648; omega) dL_law_508 dL_law_509 dL_law_511 dL_law_512 dL_law_513 ?_
  show pl E YL_law (b, N0, xs) room_1 K (uc + 4) (us + 24) 514 [none, some (.ref 0), some (.ref 115), some (.ref 165), some (.int (zI (i))), some (.int (zI (v9))), q6] [.int (zI ((xs (i + 5).toNat).toInt)), .int (zI ((xs (i + 4).toNat).toInt)), .int (zI ((xs (i + 3).toNat).toInt)), .int (zI ((xs (i + 2).toNat).toInt)), .int (zI ((xs (i + 1).toNat).toInt)), .ref 115] h_9 n_9
  refine pl_callV (As := [.int (zI ((xs (i + 1).toNat).toInt)), .int (zI ((xs (i + 2).toNat).toInt)), .int (zI ((xs (i + 3).toNat).toInt)), .int (zI ((xs (i + 4).toNat).toInt)), .int (zI ((xs (i + 5).toNat).toInt))]) (b := 115) (rm := rmD 4 0 0) (nG_select htr hM9 hW hHH (by omega) hH (by omega) (by omega) (by omega) (by omega) (by omega)) rfl hM9.1 rfl rfl ywX10_select rfl cwL_105 ⟨nle rfl, nle rfl⟩ (nle rfl) ⟨by show uc + 4 ≤ 601024; omega, by show us + 24 ≤ 7293000; omega⟩ dL_law_514 ?_
  intro r_8 h_8 n_8 hq _
  obtain ⟨⟨w8, e1⟩, s8, hM8, hH8, ⟨f47, f48⟩, hF8, e4⟩ := hq
  rw [e1, e4]
  show pl E YL_law (b, N0, xs) room_1 K (uc + 4) (us + 24) 517 [none, some (.ref 0), some (.ref 115), some (.ref 165), some (.int (zI (i))), some (.int (zI (v9))), q6] [.int (zI (w8))] h_8 n_9
  refine pl_istore (lv' := [none, some (.ref 0), some (.ref 115), some (.ref 165), some (.int (zI (i))), some (.int (zI (v9))), some (.int (zI (w8)))]) dL_law_517 (by decide) (by decide) rfl rfl ?_
  refine pl_goto (tgt := 767) dL_law_519 rfl ?_
  exact kk h_8 n_9 t _ _ (uc + 4) (us + 24) (by omega) (by omega) (by omega) (jJ_of hC9 ho9 hM8 (rH_mo hH8 (by omega)) f47 f48 hF8 (Int.le_refl _))
set_option maxHeartbeats 2000000 in
set_option maxRecDepth 100000 in
theorem lz_redraw {E : pw_E} (htr : E.1.stackTraces = false) {K : pw_K} {b N0 uc us : Nat} {xs : Nat → Int32} {h : pz_H} {i : Int} {q5 q6 : Option Value} {W H M : Int} {N NH NB NL n : Nat} {t : aT} (hN0 : N0 ≤ 3074) (hi : 2 ≤ i ∧ i + 6 ≤ N0) (hu : uc + 4 ≤ 601024) (hs : us + 28 ≤ 7293000) (hG : geoH W H N NH NB NL) (hM : 0 ≤ M ∧ M + 400 ≤ 800000000) (hn : 166 ≤ n) (hJ : jJ W H M N NH NB NL n t h) (kk : ∀ (h' : pz_H) (n' : Nat) (t' : aT) (q5 q6 : Option Value) (uc' us' : Nat), uc' ≤ uc + 4 → us' ≤ us + 28 → 166 ≤ n' → jJ W H (M + 400) N NH NB NL n' t' h' → pl E YL_law (b, N0, xs) room_1 K uc' us' 767 [none, some (.ref 0), some (.ref 115), some (.ref 165), some (.int (zI i)), q5, q6] [] h' n') : pl E YL_law (b, N0, xs) room_1 K uc us 522 [none, some (.ref 0), some (.ref 115), some (.ref 165), some (.int (zI i)), q5, q6] [] h n := by
  have hW := hG.1.1
  have hHH := hG.1.2.1
  obtain ⟨x, s, f9, hC, hA, hH, ho⟩ := hJ
  obtain ⟨f, g, hfr, hfm, hgm, hfg⟩ := fg_ex hH.1 hH.2.1
  have hnc := cH_nc hC hn
  have r1 := i32 (xs (i + 1).toNat)
  have r2 := i32 (xs (i + 2).toNat)
  have r3 := i32 (xs (i + 3).toNat)
  have r4 := i32 (xs (i + 4).toNat)
  have r5 := i32 (xs (i + 5).toNat)
  refine pl_aload_n dL_law_522 rfl ?_
  refine pl_callV (As := []) (b := 0) (rm := rmD 14 0 0) (cV_redraw htr hG hC (by omega) hn) rfl hC.1.1 rfl rfl ywX9_redraw rfl cwL_106 ⟨nle rfl, nle rfl⟩ (nle rfl) ⟨by show uc ≤ 601024; omega, by show us ≤ 7293000; omega⟩ dL_law_523 ?_
  intro r_9 h_9 n_9 hq hn9
  obtain ⟨⟨v9, -, e1⟩, ⟨x9, hC9⟩, hk9, hn1, hn2⟩ := hq
  rw [e1]
  show pl E YL_law (b, N0, xs) room_1 K uc us 526 [none, some (.ref 0), some (.ref 115), some (.ref 165), some (.int (zI (i))), q5, q6] [.int (zI (v9))] h_9 n_9
  have ho9 := (hk9 165 (by omega) (by omega)).trans ho
  have hM9 : mAt 115 s h_9 := mAt_kp hA (fun a a1 a2 => hk9 a a1 (by omega))
  refine pl_pop dL_law_526 rfl ?_
  refine pl_aload_n dL_law_527 rfl ?_
  refine pl_callV (As := []) (b := 115) (rm := rmD 4 0 0) (nG_redraw htr hM9 hW hHH (by omega) hH) rfl hM9.1 rfl rfl ywX10_redraw rfl cwL_109 ⟨nle rfl, nle rfl⟩ (nle rfl) ⟨by show uc ≤ 601024; omega, by show us ≤ 7293000; omega⟩ dL_law_528 ?_
  intro r_8 h_8 n_8 hq _
  obtain ⟨⟨w8, e1⟩, s8, hM8, hH8, ⟨f47, f48⟩, hF8, e4⟩ := hq
  rw [e1, e4]
  show pl E YL_law (b, N0, xs) room_1 K uc us 531 [none, some (.ref 0), some (.ref 115), some (.ref 165), some (.int (zI (i))), q5, q6] [.int (zI (w8))] h_8 n_9
  refine pl_pop dL_law_531 rfl ?_
  refine pl_goto (tgt := 767) dL_law_532 rfl ?_
  exact kk h_8 n_9 t _ _ (uc) (us) (by omega) (by omega) (by omega) (jJ_of hC9 ho9 hM8 (rH_mo hH8 (by omega)) f47 f48 hF8 (Int.le_refl _))
set_option maxHeartbeats 2000000 in
set_option maxRecDepth 100000 in
theorem lz_out {E : pw_E} (htr : E.1.stackTraces = false) {K : pw_K} {b N0 uc us : Nat} {xs : Nat → Int32} {h : pz_H} {i : Int} {q5 q6 : Option Value} {W H M : Int} {N NH NB NL n : Nat} {t : aT} (hN0 : N0 ≤ 3074) (hi : 2 ≤ i ∧ i + 6 ≤ N0) (hu : uc + 4 ≤ 601024) (hs : us + 28 ≤ 7293000) (hG : geoH W H N NH NB NL) (hM : 0 ≤ M ∧ M + 400 ≤ 800000000) (hn : 166 ≤ n) (hJ : jJ W H M N NH NB NL n t h) (kk : ∀ (h' : pz_H) (n' : Nat) (t' : aT) (q5 q6 : Option Value) (uc' us' : Nat), uc' ≤ uc + 4 → us' ≤ us + 28 → 166 ≤ n' → jJ W H (M + 400) N NH NB NL n' t' h' → pl E YL_law (b, N0, xs) room_1 K uc' us' 767 [none, some (.ref 0), some (.ref 115), some (.ref 165), some (.int (zI i)), q5, q6] [] h' n') : pl E YL_law (b, N0, xs) room_1 K uc us 535 [none, some (.ref 0), some (.ref 115), some (.ref 165), some (.int (zI i)), q5, q6] [] h n := by
  have hW := hG.1.1
  have hHH := hG.1.2.1
  obtain ⟨x, s, f9, hC, hA, hH, ho⟩ := hJ
  obtain ⟨f, g, hfr, hfm, hgm, hfg⟩ := fg_ex hH.1 hH.2.1
  have hnc := cH_nc hC hn
  have r1 := i32 (xs (i + 1).toNat)
  have r2 := i32 (xs (i + 2).toNat)
  have r3 := i32 (xs (i + 3).toNat)
  have r4 := i32 (xs (i + 4).toNat)
  have r5 := i32 (xs (i + 5).toNat)
  refine pl_aload_n dL_law_535 rfl ?_
  refine pl_sld (a0 := 0) (i := i) (k := 1) (a1 := 537) (a2 := 539) (a3 := 540) (a4 := 541) rfl rfl rfl rfl rfl (by show 0 ≤ i + 1 ∧ i + 1 < (N0 : Int); omega) (by show N0 < 2147483648; omega) dL_law_536 dL_law_537 dL_law_539 dL_law_540 dL_law_541 ?_
  show pl E YL_law (b, N0, xs) room_1 K uc us 542 [none, some (.ref 0), some (.ref 115), some (.ref 165), some (.int (zI (i))), q5, q6] [.int (zI ((xs (i + 1).toNat).toInt)), .ref 0] h n
  refine pl_aload_n dL_law_542 rfl ?_
  refine pl_callSH (k := 3) (As := [.ref 0, .int (zI ((xs (i + 1).toNat).toInt)), .ref 165]) (rm := rmD (6 + 1) 1 6) (wV_out htr hG hC (by omega) hn (by omega) ho) rfl rfl whL_out ⟨by decide +kernel, by decide +kernel, by decide +kernel⟩ ⟨cwL_110.1, cwL_110.2, iniL⟩ ⟨nle rfl, nle rfl⟩ (nle rfl) ⟨by show uc + 1 ≤ 601024; omega, by show us + 6 ≤ 7293000; omega⟩ dL_law_543 ?_
  intro r_9 h_9 n_9 hq hn9
  obtain ⟨⟨v9, e1⟩, ⟨x9, hC9⟩, hk9, ⟨g9, ho9, hV9⟩, hn1, hn2⟩ := hq
  rw [e1]
  show pl E YL_law (b, N0, xs) room_1 K (uc + 1) (us + 6) 546 [none, some (.ref 0), some (.ref 115), some (.ref 165), some (.int (zI (i))), q5, q6] [.int (zI (v9))] h_9 n_9
  have hM9 : mAt 115 s h_9 := mAt_kp hA (fun a a1 a2 => hk9 a a1 (by omega))
  refine pl_istore (lv' := [none, some (.ref 0), some (.ref 115), some (.ref 165), some (.int (zI (i))), some (.int (zI (v9))), q6]) dL_law_546 (by decide) (by decide) rfl rfl ?_
  refine pl_aload_n dL_law_548 rfl ?_
  refine pl_sld (a0 := 0) (i := i) (k := 1) (a1 := 550) (a2 := 552) (a3 := 553) (a4 := 554) rfl rfl rfl rfl rfl (by show 0 ≤ i + 1 ∧ i + 1 < (N0 : Int); omega) (by show N0 < 2147483648; omega) dL_law_549 dL_law_550 dL_law_552 dL_law_553 dL_law_554 ?_
  show pl E YL_law (b, N0, xs) room_1 K (uc + 1) (us + 6) 555 [none, some (.ref 0), some (.ref 115), some (.ref 165), some (.int (zI (i))), some (.int (zI (v9))), q6] [.int (zI ((xs (i + 1).toNat).toInt)), .ref 115] h_9 n_9
  refine pl_callV (As := [.int (zI ((xs (i + 1).toNat).toInt))]) (b := 115) (rm := rmD 0 0 0) (nG_out htr hM9 hW hHH (by omega) hH (by omega)) rfl hM9.1 rfl rfl ywX10_out rfl cwL_112 ⟨nle rfl, nle rfl⟩ (nle rfl) ⟨by show uc + 1 ≤ 601024; omega, by show us + 6 ≤ 7293000; omega⟩ dL_law_555 ?_
  intro r_8 h_8 n_8 hq _
  obtain ⟨⟨w8, e1⟩, s8, hM8, hH8, ⟨f47, f48⟩, hF8, e4⟩ := hq
  rw [e1, e4]
  show pl E YL_law (b, N0, xs) room_1 K (uc + 1) (us + 6) 558 [none, some (.ref 0), some (.ref 115), some (.ref 165), some (.int (zI (i))), some (.int (zI (v9))), q6] [.int (zI (w8))] h_8 n_9
  refine pl_istore (lv' := [none, some (.ref 0), some (.ref 115), some (.ref 165), some (.int (zI (i))), some (.int (zI (v9))), some (.int (zI (w8)))]) dL_law_558 (by decide) (by decide) rfl rfl ?_
  refine pl_goto (tgt := 767) dL_law_560 rfl ?_
  exact kk h_8 n_9 t _ _ (uc + 1) (us + 6) (by omega) (by omega) (by omega) (jJ_of hC9 ho9 hM8 (rH_mo hH8 (by omega)) f47 f48 hF8 (Int.le_refl _))
set_option maxHeartbeats 2000000 in
set_option maxRecDepth 100000 in
theorem lz_cell {E : pw_E} (htr : E.1.stackTraces = false) {K : pw_K} {b N0 uc us : Nat} {xs : Nat → Int32} {h : pz_H} {i : Int} {q5 q6 : Option Value} {W H M : Int} {N NH NB NL n : Nat} {t : aT} (hN0 : N0 ≤ 3074) (hi : 2 ≤ i ∧ i + 6 ≤ N0) (hu : uc + 4 ≤ 601024) (hs : us + 28 ≤ 7293000) (hG : geoH W H N NH NB NL) (hM : 0 ≤ M ∧ M + 400 ≤ 800000000) (hn : 166 ≤ n) (hJ : jJ W H M N NH NB NL n t h) (kk : ∀ (h' : pz_H) (n' : Nat) (t' : aT) (q5 q6 : Option Value) (uc' us' : Nat), uc' ≤ uc + 4 → us' ≤ us + 28 → 166 ≤ n' → jJ W H (M + 400) N NH NB NL n' t' h' → pl E YL_law (b, N0, xs) room_1 K uc' us' 767 [none, some (.ref 0), some (.ref 115), some (.ref 165), some (.int (zI i)), q5, q6] [] h' n') : pl E YL_law (b, N0, xs) room_1 K uc us 563 [none, some (.ref 0), some (.ref 115), some (.ref 165), some (.int (zI i)), q5, q6] [] h n := by
  have hW := hG.1.1
  have hHH := hG.1.2.1
  obtain ⟨x, s, f9, hC, hA, hH, ho⟩ := hJ
  obtain ⟨f, g, hfr, hfm, hgm, hfg⟩ := fg_ex hH.1 hH.2.1
  have hnc := cH_nc hC hn
  have r1 := i32 (xs (i + 1).toNat)
  have r2 := i32 (xs (i + 2).toNat)
  have r3 := i32 (xs (i + 3).toNat)
  have r4 := i32 (xs (i + 4).toNat)
  have r5 := i32 (xs (i + 5).toNat)
  refine pl_aload_n dL_law_563 rfl ?_
  refine pl_sld (a0 := 0) (i := i) (k := 1) (a1 := 565) (a2 := 567) (a3 := 568) (a4 := 569) rfl rfl rfl rfl rfl (by show 0 ≤ i + 1 ∧ i + 1 < (N0 : Int); omega) (by show N0 < 2147483648; omega) dL_law_564 dL_law_565 dL_law_567 dL_law_568 dL_law_569 ?_
  show pl E YL_law (b, N0, xs) room_1 K uc us 570 [none, some (.ref 0), some (.ref 115), some (.ref 165), some (.int (zI (i))), q5, q6] [.int (zI ((xs (i + 1).toNat).toInt)), .ref 0] h n
  refine pl_sld (a0 := 0) (i := i) (k := 2) (a1 := 571) (a2 := 573) (a3 := 574) (a4 := 575) rfl rfl rfl rfl rfl (by show 0 ≤ i + 2 ∧ i + 2 < (N0 : Int); omega) (by show N0 < 2147483648; omega) dL_law_570 dL_law_571 dL_law_573 dL_law_574 dL_law_575 ?_
  show pl E YL_law (b, N0, xs) room_1 K uc us 576 [none, some (.ref 0), some (.ref 115), some (.ref 165), some (.int (zI (i))), q5, q6] [.int (zI ((xs (i + 2).toNat).toInt)), .int (zI ((xs (i + 1).toNat).toInt)), .ref 0] h n
  refine pl_sld (a0 := 0) (i := i) (k := 3) (a1 := 577) (a2 := 579) (a3 := 580) (a4 := 581) rfl rfl rfl rfl rfl (by show 0 ≤ i + 3 ∧ i + 3 < (N0 : Int); omega) (by show N0 < 2147483648; omega) dL_law_576 dL_law_577 dL_law_579 dL_law_580 dL_law_581 ?_
  show pl E YL_law (b, N0, xs) room_1 K uc us 582 [none, some (.ref 0), some (.ref 115), some (.ref 165), some (.int (zI (i))), q5, q6] [.int (zI ((xs (i + 3).toNat).toInt)), .int (zI ((xs (i + 2).toNat).toInt)), .int (zI ((xs (i + 1).toNat).toInt)), .ref 0] h n
  refine pl_if_eq (tgt := 589) dL_law_582 rfl (by omega) (fun c582 => ?_) (fun c582 => ?_)
  ·
    refine pl_iconst (v := zI (0)) dL_law_589 (by decide) ?_
    refine pl_aload_n dL_law_590 rfl ?_
    refine pl_callSH (k := 5) (As := [.ref 0, .int (zI ((xs (i + 1).toNat).toInt)), .int (zI ((xs (i + 2).toNat).toInt)), .int (zI (0)), .ref 165]) (rm := rmD (14 + 1) 1 6) (wV_cell htr hG hC (by omega) hn (by omega) (by omega) (by omega) (by omega) ho) rfl rfl whL_cell_ ⟨by decide +kernel, by decide +kernel, by decide +kernel⟩ ⟨cwL_113.1, cwL_113.2, iniL⟩ ⟨nle rfl, nle rfl⟩ (nle rfl) ⟨by show uc + 1 ≤ 601024; omega, by show us + 6 ≤ 7293000; omega⟩ dL_law_591 ?_
    intro r_9 h_9 n_9 hq hn9
    obtain ⟨⟨v9, e1⟩, ⟨x9, hC9⟩, hk9, ⟨g9, ho9, hV9⟩, hn1, hn2⟩ := hq
    rw [e1]
    show pl E YL_law (b, N0, xs) room_1 K (uc + 1) (us + 6) 594 [none, some (.ref 0), some (.ref 115), some (.ref 165), some (.int (zI (i))), q5, q6] [.int (zI (v9))] h_9 n_9
    have hM9 : mAt 115 s h_9 := mAt_kp hA (fun a a1 a2 => hk9 a a1 (by omega))
    refine pl_istore (lv' := [none, some (.ref 0), some (.ref 115), some (.ref 165), some (.int (zI (i))), some (.int (zI (v9))), q6]) dL_law_594 (by decide) (by decide) rfl rfl ?_
    refine pl_aload_n dL_law_596 rfl ?_
    refine pl_sld (a0 := 0) (i := i) (k := 1) (a1 := 598) (a2 := 600) (a3 := 601) (a4 := 602) rfl rfl rfl rfl rfl (by show 0 ≤ i + 1 ∧ i + 1 < (N0 : Int); omega) (by show N0 < 2147483648; omega) dL_law_597 dL_law_598 dL_law_600 dL_law_601 dL_law_602 ?_
    show pl E YL_law (b, N0, xs) room_1 K (uc + 1) (us + 6) 603 [none, some (.ref 0), some (.ref 115), some (.ref 165), some (.int (zI (i))), some (.int (zI (v9))), q6] [.int (zI ((xs (i + 1).toNat).toInt)), .ref 115] h_9 n_9
    refine pl_sld (a0 := 0) (i := i) (k := 2) (a1 := 604) (a2 := 606) (a3 := 607) (a4 := 608) rfl rfl rfl rfl rfl (by show 0 ≤ i + 2 ∧ i + 2 < (N0 : Int); omega) (by show N0 < 2147483648; omega) dL_law_603 dL_law_604 dL_law_606 dL_law_607 dL_law_608 ?_
    show pl E YL_law (b, N0, xs) room_1 K (uc + 1) (us + 6) 609 [none, some (.ref 0), some (.ref 115), some (.ref 165), some (.int (zI (i))), some (.int (zI (v9))), q6] [.int (zI ((xs (i + 2).toNat).toInt)), .int (zI ((xs (i + 1).toNat).toInt)), .ref 115] h_9 n_9
    refine pl_sld (a0 := 0) (i := i) (k := 3) (a1 := 610) (a2 := 612) (a3 := 613) (a4 := 614) rfl rfl rfl rfl rfl (by show 0 ≤ i + 3 ∧ i + 3 < (N0 : Int); omega) (by show N0 < 2147483648; omega) dL_law_609 dL_law_610 dL_law_612 dL_law_613 dL_law_614 ?_
    show pl E YL_law (b, N0, xs) room_1 K (uc + 1) (us + 6) 615 [none, some (.ref 0), some (.ref 115), some (.ref 165), some (.int (zI (i))), some (.int (zI (v9))), q6] [.int (zI ((xs (i + 3).toNat).toInt)), .int (zI ((xs (i + 2).toNat).toInt)), .int (zI ((xs (i + 1).toNat).toInt)), .ref 115] h_9 n_9
    refine pl_if_eq (tgt := 622) dL_law_615 rfl (by omega) (fun c615 => ?_) (fun c615 => ?_)
    ·
      refine pl_iconst (v := zI (0)) dL_law_622 (by decide) ?_
      refine pl_callV (As := [.int (zI ((xs (i + 1).toNat).toInt)), .int (zI ((xs (i + 2).toNat).toInt)), .int (zI (0))]) (b := 115) (rm := rmD 4 0 0) (nG_cell htr hM9 hW hHH (by omega) hH (by omega) (by omega) (by omega) (by omega)) rfl hM9.1 rfl rfl ywX10_cell rfl cwL_116 ⟨nle rfl, nle rfl⟩ (nle rfl) ⟨by show uc + 1 ≤ 601024; omega, by show us + 6 ≤ 7293000; omega⟩ dL_law_623 ?_
      intro r_8 h_8 n_8 hq _
      obtain ⟨⟨w8, e1⟩, s8, hM8, hH8, ⟨f47, f48⟩, hF8, e4⟩ := hq
      rw [e1, e4]
      show pl E YL_law (b, N0, xs) room_1 K (uc + 1) (us + 6) 626 [none, some (.ref 0), some (.ref 115), some (.ref 165), some (.int (zI (i))), some (.int (zI (v9))), q6] [.int (zI (w8))] h_8 n_9
      refine pl_istore (lv' := [none, some (.ref 0), some (.ref 115), some (.ref 165), some (.int (zI (i))), some (.int (zI (v9))), some (.int (zI (w8)))]) dL_law_626 (by decide) (by decide) rfl rfl ?_
      refine pl_goto (tgt := 767) dL_law_628 rfl ?_
      exact kk h_8 n_9 t _ _ (uc + 1) (us + 6) (by omega) (by omega) (by omega) (jJ_of hC9 ho9 hM8 (rH_mo hH8 (by omega)) f47 f48 hF8 (Int.le_refl _))
    · exfalso; omega
  ·
    refine pl_iconst (v := zI (1)) dL_law_585 (by decide) ?_
    refine pl_goto (tgt := 590) dL_law_586 rfl ?_
    refine pl_aload_n dL_law_590 rfl ?_
    refine pl_callSH (k := 5) (As := [.ref 0, .int (zI ((xs (i + 1).toNat).toInt)), .int (zI ((xs (i + 2).toNat).toInt)), .int (zI (1)), .ref 165]) (rm := rmD (14 + 1) 1 6) (wV_cell htr hG hC (by omega) hn (by omega) (by omega) (by omega) (by omega) ho) rfl rfl whL_cell_ ⟨by decide +kernel, by decide +kernel, by decide +kernel⟩ ⟨cwL_113.1, cwL_113.2, iniL⟩ ⟨nle rfl, nle rfl⟩ (nle rfl) ⟨by show uc + 1 ≤ 601024; omega, by show us + 6 ≤ 7293000; omega⟩ dL_law_591 ?_
    intro r_9 h_9 n_9 hq hn9
    obtain ⟨⟨v9, e1⟩, ⟨x9, hC9⟩, hk9, ⟨g9, ho9, hV9⟩, hn1, hn2⟩ := hq
    rw [e1]
    show pl E YL_law (b, N0, xs) room_1 K (uc + 1) (us + 6) 594 [none, some (.ref 0), some (.ref 115), some (.ref 165), some (.int (zI (i))), q5, q6] [.int (zI (v9))] h_9 n_9
    have hM9 : mAt 115 s h_9 := mAt_kp hA (fun a a1 a2 => hk9 a a1 (by omega))
    refine pl_istore (lv' := [none, some (.ref 0), some (.ref 115), some (.ref 165), some (.int (zI (i))), some (.int (zI (v9))), q6]) dL_law_594 (by decide) (by decide) rfl rfl ?_
    refine pl_aload_n dL_law_596 rfl ?_
    refine pl_sld (a0 := 0) (i := i) (k := 1) (a1 := 598) (a2 := 600) (a3 := 601) (a4 := 602) rfl rfl rfl rfl rfl (by show 0 ≤ i + 1 ∧ i + 1 < (N0 : Int); omega) (by show N0 < 2147483648; omega) dL_law_597 dL_law_598 dL_law_600 dL_law_601 dL_law_602 ?_
    show pl E YL_law (b, N0, xs) room_1 K (uc + 1) (us + 6) 603 [none, some (.ref 0), some (.ref 115), some (.ref 165), some (.int (zI (i))), some (.int (zI (v9))), q6] [.int (zI ((xs (i + 1).toNat).toInt)), .ref 115] h_9 n_9
    refine pl_sld (a0 := 0) (i := i) (k := 2) (a1 := 604) (a2 := 606) (a3 := 607) (a4 := 608) rfl rfl rfl rfl rfl (by show 0 ≤ i + 2 ∧ i + 2 < (N0 : Int); omega) (by show N0 < 2147483648; omega) dL_law_603 dL_law_604 dL_law_606 dL_law_607 dL_law_608 ?_
    show pl E YL_law (b, N0, xs) room_1 K (uc + 1) (us + 6) 609 [none, some (.ref 0), some (.ref 115), some (.ref 165), some (.int (zI (i))), some (.int (zI (v9))), q6] [.int (zI ((xs (i + 2).toNat).toInt)), .int (zI ((xs (i + 1).toNat).toInt)), .ref 115] h_9 n_9
    refine pl_sld (a0 := 0) (i := i) (k := 3) (a1 := 610) (a2 := 612) (a3 := 613) (a4 := 614) rfl rfl rfl rfl rfl (by show 0 ≤ i + 3 ∧ i + 3 < (N0 : Int); omega) (by show N0 < 2147483648; omega) dL_law_609 dL_law_610 dL_law_612 dL_law_613 dL_law_614 ?_
    show pl E YL_law (b, N0, xs) room_1 K (uc + 1) (us + 6) 615 [none, some (.ref 0), some (.ref 115), some (.ref 165), some (.int (zI (i))), some (.int (zI (v9))), q6] [.int (zI ((xs (i + 3).toNat).toInt)), .int (zI ((xs (i + 2).toNat).toInt)), .int (zI ((xs (i + 1).toNat).toInt)), .ref 115] h_9 n_9
    refine pl_if_eq (tgt := 622) dL_law_615 rfl (by omega) (fun c615 => ?_) (fun c615 => ?_)
    · exfalso; omega
    ·
      refine pl_iconst (v := zI (1)) dL_law_618 (by decide) ?_
      refine pl_goto (tgt := 623) dL_law_619 rfl ?_
      refine pl_callV (As := [.int (zI ((xs (i + 1).toNat).toInt)), .int (zI ((xs (i + 2).toNat).toInt)), .int (zI (1))]) (b := 115) (rm := rmD 4 0 0) (nG_cell htr hM9 hW hHH (by omega) hH (by omega) (by omega) (by omega) (by omega)) rfl hM9.1 rfl rfl ywX10_cell rfl cwL_116 ⟨nle rfl, nle rfl⟩ (nle rfl) ⟨by show uc + 1 ≤ 601024; omega, by show us + 6 ≤ 7293000; omega⟩ dL_law_623 ?_
      intro r_8 h_8 n_8 hq _
      obtain ⟨⟨w8, e1⟩, s8, hM8, hH8, ⟨f47, f48⟩, hF8, e4⟩ := hq
      rw [e1, e4]
      show pl E YL_law (b, N0, xs) room_1 K (uc + 1) (us + 6) 626 [none, some (.ref 0), some (.ref 115), some (.ref 165), some (.int (zI (i))), some (.int (zI (v9))), q6] [.int (zI (w8))] h_8 n_9
      refine pl_istore (lv' := [none, some (.ref 0), some (.ref 115), some (.ref 165), some (.int (zI (i))), some (.int (zI (v9))), some (.int (zI (w8)))]) dL_law_626 (by decide) (by decide) rfl rfl ?_
      refine pl_goto (tgt := 767) dL_law_628 rfl ?_
      exact kk h_8 n_9 t _ _ (uc + 1) (us + 6) (by omega) (by omega) (by omega) (jJ_of hC9 ho9 hM8 (rH_mo hH8 (by omega)) f47 f48 hF8 (Int.le_refl _))
set_option maxHeartbeats 2000000 in
set_option maxRecDepth 100000 in
theorem lz_about {E : pw_E} (htr : E.1.stackTraces = false) {K : pw_K} {b N0 uc us : Nat} {xs : Nat → Int32} {h : pz_H} {i : Int} {q5 q6 : Option Value} {W H M : Int} {N NH NB NL n : Nat} {t : aT} (hN0 : N0 ≤ 3074) (hi : 2 ≤ i ∧ i + 6 ≤ N0) (hu : uc + 4 ≤ 601024) (hs : us + 28 ≤ 7293000) (hG : geoH W H N NH NB NL) (hM : 0 ≤ M ∧ M + 400 ≤ 800000000) (hn : 166 ≤ n) (hJ : jJ W H M N NH NB NL n t h) (kk : ∀ (h' : pz_H) (n' : Nat) (t' : aT) (q5 q6 : Option Value) (uc' us' : Nat), uc' ≤ uc + 4 → us' ≤ us + 28 → 166 ≤ n' → jJ W H (M + 400) N NH NB NL n' t' h' → pl E YL_law (b, N0, xs) room_1 K uc' us' 767 [none, some (.ref 0), some (.ref 115), some (.ref 165), some (.int (zI i)), q5, q6] [] h' n') : pl E YL_law (b, N0, xs) room_1 K uc us 631 [none, some (.ref 0), some (.ref 115), some (.ref 165), some (.int (zI i)), q5, q6] [] h n := by
  have hW := hG.1.1
  have hHH := hG.1.2.1
  obtain ⟨x, s, f9, hC, hA, hH, ho⟩ := hJ
  obtain ⟨f, g, hfr, hfm, hgm, hfg⟩ := fg_ex hH.1 hH.2.1
  have hnc := cH_nc hC hn
  have r1 := i32 (xs (i + 1).toNat)
  have r2 := i32 (xs (i + 2).toNat)
  have r3 := i32 (xs (i + 3).toNat)
  have r4 := i32 (xs (i + 4).toNat)
  have r5 := i32 (xs (i + 5).toNat)
  refine pl_aload_n dL_law_631 rfl ?_
  refine pl_sld (a0 := 0) (i := i) (k := 1) (a1 := 633) (a2 := 635) (a3 := 636) (a4 := 637) rfl rfl rfl rfl rfl (by show 0 ≤ i + 1 ∧ i + 1 < (N0 : Int); omega) (by show N0 < 2147483648; omega) dL_law_632 dL_law_633 dL_law_635 dL_law_636 dL_law_637 ?_
  show pl E YL_law (b, N0, xs) room_1 K uc us 638 [none, some (.ref 0), some (.ref 115), some (.ref 165), some (.int (zI (i))), q5, q6] [.int (zI ((xs (i + 1).toNat).toInt)), .ref 0] h n
  refine pl_sld (a0 := 0) (i := i) (k := 2) (a1 := 639) (a2 := 641) (a3 := 642) (a4 := 643) rfl rfl rfl rfl rfl (by show 0 ≤ i + 2 ∧ i + 2 < (N0 : Int); omega) (by show N0 < 2147483648; omega) dL_law_638 dL_law_639 dL_law_641 dL_law_642 dL_law_643 ?_
  show pl E YL_law (b, N0, xs) room_1 K uc us 644 [none, some (.ref 0), some (.ref 115), some (.ref 165), some (.int (zI (i))), q5, q6] [.int (zI ((xs (i + 2).toNat).toInt)), .int (zI ((xs (i + 1).toNat).toInt)), .ref 0] h n
  refine pl_aload_n dL_law_644 rfl ?_
  refine pl_callSH (k := 4) (As := [.ref 0, .int (zI ((xs (i + 1).toNat).toInt)), .int (zI ((xs (i + 2).toNat).toInt)), .ref 165]) (rm := rmD (7 + 1) 2 12) (wV_about htr hG hC (by omega) hn (by omega) (by omega) ho) rfl rfl whL_about ⟨by decide +kernel, by decide +kernel, by decide +kernel⟩ ⟨cwL_117.1, cwL_117.2, iniL⟩ ⟨nle rfl, nle rfl⟩ (nle rfl) ⟨by show uc + 2 ≤ 601024; omega, by show us + 12 ≤ 7293000; omega⟩ dL_law_645 ?_
  intro r_9 h_9 n_9 hq hn9
  obtain ⟨⟨v9, e1⟩, ⟨x9, hC9⟩, hk9, ⟨g9, ho9, hV9⟩, hn1, hn2⟩ := hq
  rw [e1]
  show pl E YL_law (b, N0, xs) room_1 K (uc + 2) (us + 12) 648 [none, some (.ref 0), some (.ref 115), some (.ref 165), some (.int (zI (i))), q5, q6] [.int (zI (v9))] h_9 n_9
  have hM9 : mAt 115 s h_9 := mAt_kp hA (fun a a1 a2 => hk9 a a1 (by omega))
  refine pl_istore (lv' := [none, some (.ref 0), some (.ref 115), some (.ref 165), some (.int (zI (i))), some (.int (zI (v9))), q6]) dL_law_648 (by decide) (by decide) rfl rfl ?_
  refine pl_aload_n dL_law_650 rfl ?_
  refine pl_sld (a0 := 0) (i := i) (k := 1) (a1 := 652) (a2 := 654) (a3 := 655) (a4 := 656) rfl rfl rfl rfl rfl (by show 0 ≤ i + 1 ∧ i + 1 < (N0 : Int); omega) (by show N0 < 2147483648; omega) dL_law_651 dL_law_652 dL_law_654 dL_law_655 dL_law_656 ?_
  show pl E YL_law (b, N0, xs) room_1 K (uc + 2) (us + 12) 657 [none, some (.ref 0), some (.ref 115), some (.ref 165), some (.int (zI (i))), some (.int (zI (v9))), q6] [.int (zI ((xs (i + 1).toNat).toInt)), .ref 115] h_9 n_9
  refine pl_sld (a0 := 0) (i := i) (k := 2) (a1 := 658) (a2 := 660) (a3 := 661) (a4 := 662) rfl rfl rfl rfl rfl (by show 0 ≤ i + 2 ∧ i + 2 < (N0 : Int); omega) (by show N0 < 2147483648; omega) dL_law_657 dL_law_658 dL_law_660 dL_law_661 dL_law_662 ?_
  show pl E YL_law (b, N0, xs) room_1 K (uc + 2) (us + 12) 663 [none, some (.ref 0), some (.ref 115), some (.ref 165), some (.int (zI (i))), some (.int (zI (v9))), q6] [.int (zI ((xs (i + 2).toNat).toInt)), .int (zI ((xs (i + 1).toNat).toInt)), .ref 115] h_9 n_9
  refine pl_callV (As := [.int (zI ((xs (i + 1).toNat).toInt)), .int (zI ((xs (i + 2).toNat).toInt))]) (b := 115) (rm := rmD 1 0 0) (nG_about htr hM9 hW hHH (by omega) hH (by omega) (by omega)) rfl hM9.1 rfl rfl ywX10_about rfl cwL_120 ⟨nle rfl, nle rfl⟩ (nle rfl) ⟨by show uc + 2 ≤ 601024; omega, by show us + 12 ≤ 7293000; omega⟩ dL_law_663 ?_
  intro r_8 h_8 n_8 hq _
  obtain ⟨⟨w8, e1⟩, s8, hM8, hH8, ⟨f47, f48⟩, hF8, e4⟩ := hq
  rw [e1, e4]
  show pl E YL_law (b, N0, xs) room_1 K (uc + 2) (us + 12) 666 [none, some (.ref 0), some (.ref 115), some (.ref 165), some (.int (zI (i))), some (.int (zI (v9))), q6] [.int (zI (w8))] h_8 n_9
  refine pl_istore (lv' := [none, some (.ref 0), some (.ref 115), some (.ref 165), some (.int (zI (i))), some (.int (zI (v9))), some (.int (zI (w8)))]) dL_law_666 (by decide) (by decide) rfl rfl ?_
  refine pl_goto (tgt := 767) dL_law_668 rfl ?_
  exact kk h_8 n_9 t _ _ (uc + 2) (us + 12) (by omega) (by omega) (by omega) (jJ_of hC9 ho9 hM8 (rH_mo hH8 (by omega)) f47 f48 hF8 (Int.le_refl _))
set_option maxHeartbeats 2000000 in
set_option maxRecDepth 100000 in
theorem lz_input {E : pw_E} (htr : E.1.stackTraces = false) {K : pw_K} {b N0 uc us : Nat} {xs : Nat → Int32} {h : pz_H} {i : Int} {q5 q6 : Option Value} {W H M : Int} {N NH NB NL n : Nat} {t : aT} (hN0 : N0 ≤ 3074) (hi : 2 ≤ i ∧ i + 6 ≤ N0) (hu : uc + 4 ≤ 601024) (hs : us + 28 ≤ 7293000) (hG : geoH W H N NH NB NL) (hM : 0 ≤ M ∧ M + 400 ≤ 800000000) (hn : 166 ≤ n) (hJ : jJ W H M N NH NB NL n t h) (kk : ∀ (h' : pz_H) (n' : Nat) (t' : aT) (q5 q6 : Option Value) (uc' us' : Nat), uc' ≤ uc + 4 → us' ≤ us + 28 → 166 ≤ n' → jJ W H (M + 400) N NH NB NL n' t' h' → pl E YL_law (b, N0, xs) room_1 K uc' us' 767 [none, some (.ref 0), some (.ref 115), some (.ref 165), some (.int (zI i)), q5, q6] [] h' n') : pl E YL_law (b, N0, xs) room_1 K uc us 671 [none, some (.ref 0), some (.ref 115), some (.ref 165), some (.int (zI i)), q5, q6] [] h n := by
  have hW := hG.1.1
  have hHH := hG.1.2.1
  obtain ⟨x, s, f9, hC, hA, hH, ho⟩ := hJ
  obtain ⟨f, g, hfr, hfm, hgm, hfg⟩ := fg_ex hH.1 hH.2.1
  have hnc := cH_nc hC hn
  have r1 := i32 (xs (i + 1).toNat)
  have r2 := i32 (xs (i + 2).toNat)
  have r3 := i32 (xs (i + 3).toNat)
  have r4 := i32 (xs (i + 4).toNat)
  have r5 := i32 (xs (i + 5).toNat)
  refine pl_aload_n dL_law_671 rfl ?_
  refine pl_sld (a0 := 0) (i := i) (k := 1) (a1 := 673) (a2 := 675) (a3 := 676) (a4 := 677) rfl rfl rfl rfl rfl (by show 0 ≤ i + 1 ∧ i + 1 < (N0 : Int); omega) (by show N0 < 2147483648; omega) dL_law_672 dL_law_673 dL_law_675 dL_law_676 dL_law_677 ?_
  show pl E YL_law (b, N0, xs) room_1 K uc us 678 [none, some (.ref 0), some (.ref 115), some (.ref 165), some (.int (zI (i))), q5, q6] [.int (zI ((xs (i + 1).toNat).toInt)), .ref 0] h n
  refine pl_sld (a0 := 0) (i := i) (k := 2) (a1 := 679) (a2 := 681) (a3 := 682) (a4 := 683) rfl rfl rfl rfl rfl (by show 0 ≤ i + 2 ∧ i + 2 < (N0 : Int); omega) (by show N0 < 2147483648; omega) dL_law_678 dL_law_679 dL_law_681 dL_law_682 dL_law_683 ?_
  show pl E YL_law (b, N0, xs) room_1 K uc us 684 [none, some (.ref 0), some (.ref 115), some (.ref 165), some (.int (zI (i))), q5, q6] [.int (zI ((xs (i + 2).toNat).toInt)), .int (zI ((xs (i + 1).toNat).toInt)), .ref 0] h n
  refine pl_aload_n dL_law_684 rfl ?_
  refine pl_callSH (k := 4) (As := [.ref 0, .int (zI ((xs (i + 1).toNat).toInt)), .int (zI ((xs (i + 2).toNat).toInt)), .ref 165]) (rm := rmD (7 + 1) 2 12) (wV_input htr hG hC (by omega) hn (by omega) (by omega) ho) rfl rfl whL_input ⟨by decide +kernel, by decide +kernel, by decide +kernel⟩ ⟨cwL_121.1, cwL_121.2, iniL⟩ ⟨nle rfl, nle rfl⟩ (nle rfl) ⟨by show uc + 2 ≤ 601024; omega, by show us + 12 ≤ 7293000; omega⟩ dL_law_685 ?_
  intro r_9 h_9 n_9 hq hn9
  obtain ⟨⟨v9, e1⟩, ⟨x9, hC9⟩, hk9, ⟨g9, ho9, hV9⟩, hn1, hn2⟩ := hq
  rw [e1]
  show pl E YL_law (b, N0, xs) room_1 K (uc + 2) (us + 12) 688 [none, some (.ref 0), some (.ref 115), some (.ref 165), some (.int (zI (i))), q5, q6] [.int (zI (v9))] h_9 n_9
  have hM9 : mAt 115 s h_9 := mAt_kp hA (fun a a1 a2 => hk9 a a1 (by omega))
  refine pl_istore (lv' := [none, some (.ref 0), some (.ref 115), some (.ref 165), some (.int (zI (i))), some (.int (zI (v9))), q6]) dL_law_688 (by decide) (by decide) rfl rfl ?_
  refine pl_aload_n dL_law_690 rfl ?_
  refine pl_sld (a0 := 0) (i := i) (k := 1) (a1 := 692) (a2 := 694) (a3 := 695) (a4 := 696) rfl rfl rfl rfl rfl (by show 0 ≤ i + 1 ∧ i + 1 < (N0 : Int); omega) (by show N0 < 2147483648; omega) dL_law_691 dL_law_692 dL_law_694 dL_law_695 dL_law_696 ?_
  show pl E YL_law (b, N0, xs) room_1 K (uc + 2) (us + 12) 697 [none, some (.ref 0), some (.ref 115), some (.ref 165), some (.int (zI (i))), some (.int (zI (v9))), q6] [.int (zI ((xs (i + 1).toNat).toInt)), .ref 115] h_9 n_9
  refine pl_sld (a0 := 0) (i := i) (k := 2) (a1 := 698) (a2 := 700) (a3 := 701) (a4 := 702) rfl rfl rfl rfl rfl (by show 0 ≤ i + 2 ∧ i + 2 < (N0 : Int); omega) (by show N0 < 2147483648; omega) dL_law_697 dL_law_698 dL_law_700 dL_law_701 dL_law_702 ?_
  show pl E YL_law (b, N0, xs) room_1 K (uc + 2) (us + 12) 703 [none, some (.ref 0), some (.ref 115), some (.ref 165), some (.int (zI (i))), some (.int (zI (v9))), q6] [.int (zI ((xs (i + 2).toNat).toInt)), .int (zI ((xs (i + 1).toNat).toInt)), .ref 115] h_9 n_9
  refine pl_callV (As := [.int (zI ((xs (i + 1).toNat).toInt)), .int (zI ((xs (i + 2).toNat).toInt))]) (b := 115) (rm := rmD 1 0 0) (nG_input htr hM9 hW hHH (by omega) hH (by omega) (by omega)) rfl hM9.1 rfl rfl ywX10_input rfl cwL_123 ⟨nle rfl, nle rfl⟩ (nle rfl) ⟨by show uc + 2 ≤ 601024; omega, by show us + 12 ≤ 7293000; omega⟩ dL_law_703 ?_
  intro r_8 h_8 n_8 hq _
  obtain ⟨⟨w8, e1⟩, s8, hM8, hH8, ⟨f47, f48⟩, hF8, e4⟩ := hq
  rw [e1, e4]
  show pl E YL_law (b, N0, xs) room_1 K (uc + 2) (us + 12) 706 [none, some (.ref 0), some (.ref 115), some (.ref 165), some (.int (zI (i))), some (.int (zI (v9))), q6] [.int (zI (w8))] h_8 n_9
  refine pl_istore (lv' := [none, some (.ref 0), some (.ref 115), some (.ref 165), some (.int (zI (i))), some (.int (zI (v9))), some (.int (zI (w8)))]) dL_law_706 (by decide) (by decide) rfl rfl ?_
  refine pl_goto (tgt := 767) dL_law_708 rfl ?_
  exact kk h_8 n_9 t _ _ (uc + 2) (us + 12) (by omega) (by omega) (by omega) (jJ_of hC9 ho9 hM8 (rH_mo hH8 (by omega)) f47 f48 hF8 (Int.le_refl _))
set_option maxHeartbeats 2000000 in
set_option maxRecDepth 100000 in
theorem lz_copied {E : pw_E} (htr : E.1.stackTraces = false) {K : pw_K} {b N0 uc us : Nat} {xs : Nat → Int32} {h : pz_H} {i : Int} {q5 q6 : Option Value} {W H M : Int} {N NH NB NL n : Nat} {t : aT} (hN0 : N0 ≤ 3074) (hi : 2 ≤ i ∧ i + 6 ≤ N0) (hu : uc + 4 ≤ 601024) (hs : us + 28 ≤ 7293000) (hG : geoH W H N NH NB NL) (hM : 0 ≤ M ∧ M + 400 ≤ 800000000) (hn : 166 ≤ n) (hJ : jJ W H M N NH NB NL n t h) (kk : ∀ (h' : pz_H) (n' : Nat) (t' : aT) (q5 q6 : Option Value) (uc' us' : Nat), uc' ≤ uc + 4 → us' ≤ us + 28 → 166 ≤ n' → jJ W H (M + 400) N NH NB NL n' t' h' → pl E YL_law (b, N0, xs) room_1 K uc' us' 767 [none, some (.ref 0), some (.ref 115), some (.ref 165), some (.int (zI i)), q5, q6] [] h' n') : pl E YL_law (b, N0, xs) room_1 K uc us 711 [none, some (.ref 0), some (.ref 115), some (.ref 165), some (.int (zI i)), q5, q6] [] h n := by
  have hW := hG.1.1
  have hHH := hG.1.2.1
  obtain ⟨x, s, f9, hC, hA, hH, ho⟩ := hJ
  obtain ⟨f, g, hfr, hfm, hgm, hfg⟩ := fg_ex hH.1 hH.2.1
  have hnc := cH_nc hC hn
  have r1 := i32 (xs (i + 1).toNat)
  have r2 := i32 (xs (i + 2).toNat)
  have r3 := i32 (xs (i + 3).toNat)
  have r4 := i32 (xs (i + 4).toNat)
  have r5 := i32 (xs (i + 5).toNat)
  refine pl_aload_n dL_law_711 rfl ?_
  refine pl_sld (a0 := 0) (i := i) (k := 1) (a1 := 713) (a2 := 715) (a3 := 716) (a4 := 717) rfl rfl rfl rfl rfl (by show 0 ≤ i + 1 ∧ i + 1 < (N0 : Int); omega) (by show N0 < 2147483648; omega) dL_law_712 dL_law_713 dL_law_715 dL_law_716 dL_law_717 ?_
  show pl E YL_law (b, N0, xs) room_1 K uc us 718 [none, some (.ref 0), some (.ref 115), some (.ref 165), some (.int (zI (i))), q5, q6] [.int (zI ((xs (i + 1).toNat).toInt)), .ref 0] h n
  refine pl_aload_n dL_law_718 rfl ?_
  refine pl_callSH (k := 3) (As := [.ref 0, .int (zI ((xs (i + 1).toNat).toInt)), .ref 165]) (rm := rmD (6 + 1) 1 6) (wV_copied htr hG hC (by omega) hn (by omega) ho) rfl rfl whL_copied ⟨by decide +kernel, by decide +kernel, by decide +kernel⟩ ⟨cwL_124.1, cwL_124.2, iniL⟩ ⟨nle rfl, nle rfl⟩ (nle rfl) ⟨by show uc + 1 ≤ 601024; omega, by show us + 6 ≤ 7293000; omega⟩ dL_law_719 ?_
  intro r_9 h_9 n_9 hq hn9
  obtain ⟨⟨v9, e1⟩, ⟨x9, hC9⟩, hk9, ⟨g9, ho9, hV9⟩, hn1, hn2⟩ := hq
  rw [e1]
  show pl E YL_law (b, N0, xs) room_1 K (uc + 1) (us + 6) 722 [none, some (.ref 0), some (.ref 115), some (.ref 165), some (.int (zI (i))), q5, q6] [.int (zI (v9))] h_9 n_9
  have hM9 : mAt 115 s h_9 := mAt_kp hA (fun a a1 a2 => hk9 a a1 (by omega))
  refine pl_istore (lv' := [none, some (.ref 0), some (.ref 115), some (.ref 165), some (.int (zI (i))), some (.int (zI (v9))), q6]) dL_law_722 (by decide) (by decide) rfl rfl ?_
  refine pl_aload_n dL_law_724 rfl ?_
  refine pl_sld (a0 := 0) (i := i) (k := 1) (a1 := 726) (a2 := 728) (a3 := 729) (a4 := 730) rfl rfl rfl rfl rfl (by show 0 ≤ i + 1 ∧ i + 1 < (N0 : Int); omega) (by show N0 < 2147483648; omega) dL_law_725 dL_law_726 dL_law_728 dL_law_729 dL_law_730 ?_
  show pl E YL_law (b, N0, xs) room_1 K (uc + 1) (us + 6) 731 [none, some (.ref 0), some (.ref 115), some (.ref 165), some (.int (zI (i))), some (.int (zI (v9))), q6] [.int (zI ((xs (i + 1).toNat).toInt)), .ref 115] h_9 n_9
  refine pl_callV (As := [.int (zI ((xs (i + 1).toNat).toInt))]) (b := 115) (rm := rmD 0 0 0) (nG_copied htr hM9 hW hHH (by omega) hH (by omega)) rfl hM9.1 rfl rfl ywX10_copied rfl cwL_126 ⟨nle rfl, nle rfl⟩ (nle rfl) ⟨by show uc + 1 ≤ 601024; omega, by show us + 6 ≤ 7293000; omega⟩ dL_law_731 ?_
  intro r_8 h_8 n_8 hq _
  obtain ⟨⟨w8, e1⟩, s8, hM8, hH8, ⟨f47, f48⟩, hF8, e4⟩ := hq
  rw [e1, e4]
  show pl E YL_law (b, N0, xs) room_1 K (uc + 1) (us + 6) 734 [none, some (.ref 0), some (.ref 115), some (.ref 165), some (.int (zI (i))), some (.int (zI (v9))), q6] [.int (zI (w8))] h_8 n_9
  refine pl_istore (lv' := [none, some (.ref 0), some (.ref 115), some (.ref 165), some (.int (zI (i))), some (.int (zI (v9))), some (.int (zI (w8)))]) dL_law_734 (by decide) (by decide) rfl rfl ?_
  refine pl_goto (tgt := 767) dL_law_736 rfl ?_
  exact kk h_8 n_9 t _ _ (uc + 1) (us + 6) (by omega) (by omega) (by omega) (jJ_of hC9 ho9 hM8 (rH_mo hH8 (by omega)) f47 f48 hF8 (Int.le_refl _))
set_option maxHeartbeats 2000000 in
set_option maxRecDepth 100000 in
theorem lz_count {E : pw_E} (htr : E.1.stackTraces = false) {K : pw_K} {b N0 uc us : Nat} {xs : Nat → Int32} {h : pz_H} {i : Int} {q5 q6 : Option Value} {W H M : Int} {N NH NB NL n : Nat} {t : aT} (hN0 : N0 ≤ 3074) (hi : 2 ≤ i ∧ i + 6 ≤ N0) (hu : uc + 4 ≤ 601024) (hs : us + 28 ≤ 7293000) (hG : geoH W H N NH NB NL) (hM : 0 ≤ M ∧ M + 400 ≤ 800000000) (hn : 166 ≤ n) (hJ : jJ W H M N NH NB NL n t h) (kk : ∀ (h' : pz_H) (n' : Nat) (t' : aT) (q5 q6 : Option Value) (uc' us' : Nat), uc' ≤ uc + 4 → us' ≤ us + 28 → 166 ≤ n' → jJ W H (M + 400) N NH NB NL n' t' h' → pl E YL_law (b, N0, xs) room_1 K uc' us' 767 [none, some (.ref 0), some (.ref 115), some (.ref 165), some (.int (zI i)), q5, q6] [] h' n') : pl E YL_law (b, N0, xs) room_1 K uc us 739 [none, some (.ref 0), some (.ref 115), some (.ref 165), some (.int (zI i)), q5, q6] [] h n := by
  have hW := hG.1.1
  have hHH := hG.1.2.1
  obtain ⟨x, s, f9, hC, hA, hH, ho⟩ := hJ
  obtain ⟨f, g, hfr, hfm, hgm, hfg⟩ := fg_ex hH.1 hH.2.1
  have hnc := cH_nc hC hn
  have r1 := i32 (xs (i + 1).toNat)
  have r2 := i32 (xs (i + 2).toNat)
  have r3 := i32 (xs (i + 3).toNat)
  have r4 := i32 (xs (i + 4).toNat)
  have r5 := i32 (xs (i + 5).toNat)
  refine pl_aload_n dL_law_739 rfl ?_
  refine pl_sld (a0 := 0) (i := i) (k := 1) (a1 := 741) (a2 := 743) (a3 := 744) (a4 := 745) rfl rfl rfl rfl rfl (by show 0 ≤ i + 1 ∧ i + 1 < (N0 : Int); omega) (by show N0 < 2147483648; omega) dL_law_740 dL_law_741 dL_law_743 dL_law_744 dL_law_745 ?_
  show pl E YL_law (b, N0, xs) room_1 K uc us 746 [none, some (.ref 0), some (.ref 115), some (.ref 165), some (.int (zI (i))), q5, q6] [.int (zI ((xs (i + 1).toNat).toInt)), .ref 0] h n
  refine pl_aload_n dL_law_746 rfl ?_
  refine pl_callSH (k := 3) (As := [.ref 0, .int (zI ((xs (i + 1).toNat).toInt)), .ref 165]) (rm := rmD (6 + 1) 1 6) (wV_count htr hG hC (by omega) hn (by omega) ho) rfl rfl whL_count ⟨by decide +kernel, by decide +kernel, by decide +kernel⟩ ⟨cwL_127.1, cwL_127.2, iniL⟩ ⟨nle rfl, nle rfl⟩ (nle rfl) ⟨by show uc + 1 ≤ 601024; omega, by show us + 6 ≤ 7293000; omega⟩ dL_law_747 ?_
  intro r_9 h_9 n_9 hq hn9
  obtain ⟨⟨v9, e1⟩, ⟨x9, hC9⟩, hk9, ⟨g9, ho9, hV9⟩, hn1, hn2⟩ := hq
  rw [e1]
  show pl E YL_law (b, N0, xs) room_1 K (uc + 1) (us + 6) 750 [none, some (.ref 0), some (.ref 115), some (.ref 165), some (.int (zI (i))), q5, q6] [.int (zI (v9))] h_9 n_9
  have hM9 : mAt 115 s h_9 := mAt_kp hA (fun a a1 a2 => hk9 a a1 (by omega))
  refine pl_istore (lv' := [none, some (.ref 0), some (.ref 115), some (.ref 165), some (.int (zI (i))), some (.int (zI (v9))), q6]) dL_law_750 (by decide) (by decide) rfl rfl ?_
  refine pl_aload_n dL_law_752 rfl ?_
  refine pl_sld (a0 := 0) (i := i) (k := 1) (a1 := 754) (a2 := 756) (a3 := 757) (a4 := 758) rfl rfl rfl rfl rfl (by show 0 ≤ i + 1 ∧ i + 1 < (N0 : Int); omega) (by show N0 < 2147483648; omega) dL_law_753 dL_law_754 dL_law_756 dL_law_757 dL_law_758 ?_
  show pl E YL_law (b, N0, xs) room_1 K (uc + 1) (us + 6) 759 [none, some (.ref 0), some (.ref 115), some (.ref 165), some (.int (zI (i))), some (.int (zI (v9))), q6] [.int (zI ((xs (i + 1).toNat).toInt)), .ref 115] h_9 n_9
  refine pl_callV (As := [.int (zI ((xs (i + 1).toNat).toInt))]) (b := 115) (rm := rmD 1 0 0) (nG_count htr hM9 hW hHH (by omega) hH (by omega)) rfl hM9.1 rfl rfl ywX10_count rfl cwL_129 ⟨nle rfl, nle rfl⟩ (nle rfl) ⟨by show uc + 1 ≤ 601024; omega, by show us + 6 ≤ 7293000; omega⟩ dL_law_759 ?_
  intro r_8 h_8 n_8 hq _
  obtain ⟨⟨w8, e1⟩, s8, hM8, hH8, ⟨f47, f48⟩, hF8, e4⟩ := hq
  rw [e1, e4]
  show pl E YL_law (b, N0, xs) room_1 K (uc + 1) (us + 6) 762 [none, some (.ref 0), some (.ref 115), some (.ref 165), some (.int (zI (i))), some (.int (zI (v9))), q6] [.int (zI (w8))] h_8 n_9
  refine pl_istore (lv' := [none, some (.ref 0), some (.ref 115), some (.ref 165), some (.int (zI (i))), some (.int (zI (v9))), some (.int (zI (w8)))]) dL_law_762 (by decide) (by decide) rfl rfl ?_
  refine pl_goto (tgt := 767) dL_law_764 rfl ?_
  exact kk h_8 n_9 t _ _ (uc + 1) (us + 6) (by omega) (by omega) (by omega) (jJ_of hC9 ho9 hM8 (rH_mo hH8 (by omega)) f47 f48 hF8 (Int.le_refl _))
