def YL_law : pw_Y := (RL, "law", cL_law, 7, (some .boolean))
theorem iniL : Cond.initialized RL ∈ pw_G := pw_in 78 (by decide +kernel) (by decide +kernel)
theorem clong : Cond.constantLong RL 73 (4294967295 : Int64) ∈ pw_G := pw_in 1756 (by decide +kernel) (by decide +kernel)
theorem cwL_75 : Cond.methodLink RL 75 yL_feed ∈ pw_G ∧ Cond.static yL_feed ∈ pw_G := ⟨pw_in 916 (by decide +kernel) (by decide +kernel), pw_in 917 (by decide +kernel) (by decide +kernel)⟩
theorem cwL_78 : Cond.methodLink RL 78 yX10_feed ∈ pw_G ∧ Cond.instanceMethod yX10_feed ∈ pw_G ∧ Cond.selects RX10 yX10_feed yX10_feed ∈ pw_G := ⟨pw_in 1566 (by decide +kernel) (by decide +kernel), pw_in 1567 (by decide +kernel) (by decide +kernel), pw_in 1568 (by decide +kernel) (by decide +kernel)⟩
theorem cwL_79 : Cond.methodLink RL 79 yL_key ∈ pw_G ∧ Cond.static yL_key ∈ pw_G := ⟨pw_in 1105 (by decide +kernel) (by decide +kernel), pw_in 1106 (by decide +kernel) (by decide +kernel)⟩
theorem cwL_82 : Cond.methodLink RL 82 yX10_key ∈ pw_G ∧ Cond.instanceMethod yX10_key ∈ pw_G ∧ Cond.selects RX10 yX10_key yX10_key ∈ pw_G := ⟨pw_in 1664 (by decide +kernel) (by decide +kernel), pw_in 1665 (by decide +kernel) (by decide +kernel), pw_in 1666 (by decide +kernel) (by decide +kernel)⟩
theorem cwL_83 : Cond.methodLink RL 83 yL_split ∈ pw_G ∧ Cond.static yL_split ∈ pw_G := ⟨pw_in 1178 (by decide +kernel) (by decide +kernel), pw_in 1179 (by decide +kernel) (by decide +kernel)⟩
theorem cwL_86 : Cond.methodLink RL 86 yX10_split ∈ pw_G ∧ Cond.instanceMethod yX10_split ∈ pw_G ∧ Cond.selects RX10 yX10_split yX10_split ∈ pw_G := ⟨pw_in 1519 (by decide +kernel) (by decide +kernel), pw_in 1520 (by decide +kernel) (by decide +kernel), pw_in 1521 (by decide +kernel) (by decide +kernel)⟩
theorem cwL_87 : Cond.methodLink RL 87 yL_close ∈ pw_G ∧ Cond.static yL_close ∈ pw_G := ⟨pw_in 1202 (by decide +kernel) (by decide +kernel), pw_in 1203 (by decide +kernel) (by decide +kernel)⟩
theorem cwL_89 : Cond.methodLink RL 89 yX10_close ∈ pw_G ∧ Cond.instanceMethod yX10_close ∈ pw_G ∧ Cond.selects RX10 yX10_close yX10_close ∈ pw_G := ⟨pw_in 1550 (by decide +kernel) (by decide +kernel), pw_in 1551 (by decide +kernel) (by decide +kernel), pw_in 1552 (by decide +kernel) (by decide +kernel)⟩
theorem cwL_90 : Cond.methodLink RL 90 yL_focus ∈ pw_G ∧ Cond.static yL_focus ∈ pw_G := ⟨pw_in 1210 (by decide +kernel) (by decide +kernel), pw_in 1211 (by decide +kernel) (by decide +kernel)⟩
theorem cwL_93 : Cond.methodLink RL 93 yX10_focus ∈ pw_G ∧ Cond.instanceMethod yX10_focus ∈ pw_G ∧ Cond.selects RX10 yX10_focus yX10_focus ∈ pw_G := ⟨pw_in 1562 (by decide +kernel) (by decide +kernel), pw_in 1563 (by decide +kernel) (by decide +kernel), pw_in 1564 (by decide +kernel) (by decide +kernel)⟩
theorem cwL_94 : Cond.methodLink RL 94 yX10_thrown ∈ pw_G ∧ Cond.instanceMethod yX10_thrown ∈ pw_G ∧ Cond.selects RX10 yX10_thrown yX10_thrown ∈ pw_G := ⟨pw_in 1515 (by decide +kernel) (by decide +kernel), pw_in 1516 (by decide +kernel) (by decide +kernel), pw_in 1517 (by decide +kernel) (by decide +kernel)⟩
theorem cwL_98 : Cond.methodLink RL 98 yL_copy ∈ pw_G ∧ Cond.static yL_copy ∈ pw_G := ⟨pw_in 1217 (by decide +kernel) (by decide +kernel), pw_in 1218 (by decide +kernel) (by decide +kernel)⟩
theorem cwL_101 : Cond.methodLink RL 101 yX10_copy ∈ pw_G ∧ Cond.instanceMethod yX10_copy ∈ pw_G ∧ Cond.selects RX10 yX10_copy yX10_copy ∈ pw_G := ⟨pw_in 1684 (by decide +kernel) (by decide +kernel), pw_in 1685 (by decide +kernel) (by decide +kernel), pw_in 1686 (by decide +kernel) (by decide +kernel)⟩
theorem cwL_102 : Cond.methodLink RL 102 yL_select ∈ pw_G ∧ Cond.static yL_select ∈ pw_G := ⟨pw_in 1226 (by decide +kernel) (by decide +kernel), pw_in 1227 (by decide +kernel) (by decide +kernel)⟩
theorem cwL_105 : Cond.methodLink RL 105 yX10_select ∈ pw_G ∧ Cond.instanceMethod yX10_select ∈ pw_G ∧ Cond.selects RX10 yX10_select yX10_select ∈ pw_G := ⟨pw_in 1688 (by decide +kernel) (by decide +kernel), pw_in 1689 (by decide +kernel) (by decide +kernel), pw_in 1690 (by decide +kernel) (by decide +kernel)⟩
theorem cwL_106 : Cond.methodLink RL 106 yX9_redraw ∈ pw_G ∧ Cond.instanceMethod yX9_redraw ∈ pw_G ∧ Cond.selects RX9 yX9_redraw yX9_redraw ∈ pw_G := ⟨pw_in 816 (by decide +kernel) (by decide +kernel), pw_in 817 (by decide +kernel) (by decide +kernel), pw_in 818 (by decide +kernel) (by decide +kernel)⟩
theorem cwL_109 : Cond.methodLink RL 109 yX10_redraw ∈ pw_G ∧ Cond.instanceMethod yX10_redraw ∈ pw_G ∧ Cond.selects RX10 yX10_redraw yX10_redraw ∈ pw_G := ⟨pw_in 1704 (by decide +kernel) (by decide +kernel), pw_in 1705 (by decide +kernel) (by decide +kernel), pw_in 1706 (by decide +kernel) (by decide +kernel)⟩
theorem cwL_110 : Cond.methodLink RL 110 yL_out ∈ pw_G ∧ Cond.static yL_out ∈ pw_G := ⟨pw_in 1247 (by decide +kernel) (by decide +kernel), pw_in 1248 (by decide +kernel) (by decide +kernel)⟩
theorem cwL_112 : Cond.methodLink RL 112 yX10_out ∈ pw_G ∧ Cond.instanceMethod yX10_out ∈ pw_G ∧ Cond.selects RX10 yX10_out yX10_out ∈ pw_G := ⟨pw_in 1732 (by decide +kernel) (by decide +kernel), pw_in 1733 (by decide +kernel) (by decide +kernel), pw_in 1734 (by decide +kernel) (by decide +kernel)⟩
theorem cwL_113 : Cond.methodLink RL 113 yL_cell_ ∈ pw_G ∧ Cond.static yL_cell_ ∈ pw_G := ⟨pw_in 1255 (by decide +kernel) (by decide +kernel), pw_in 1256 (by decide +kernel) (by decide +kernel)⟩
theorem cwL_116 : Cond.methodLink RL 116 yX10_cell ∈ pw_G ∧ Cond.instanceMethod yX10_cell ∈ pw_G ∧ Cond.selects RX10 yX10_cell yX10_cell ∈ pw_G := ⟨pw_in 1736 (by decide +kernel) (by decide +kernel), pw_in 1737 (by decide +kernel) (by decide +kernel), pw_in 1738 (by decide +kernel) (by decide +kernel)⟩
theorem cwL_117 : Cond.methodLink RL 117 yL_about ∈ pw_G ∧ Cond.static yL_about ∈ pw_G := ⟨pw_in 1263 (by decide +kernel) (by decide +kernel), pw_in 1264 (by decide +kernel) (by decide +kernel)⟩
theorem cwL_120 : Cond.methodLink RL 120 yX10_about ∈ pw_G ∧ Cond.instanceMethod yX10_about ∈ pw_G ∧ Cond.selects RX10 yX10_about yX10_about ∈ pw_G := ⟨pw_in 1740 (by decide +kernel) (by decide +kernel), pw_in 1741 (by decide +kernel) (by decide +kernel), pw_in 1742 (by decide +kernel) (by decide +kernel)⟩
theorem cwL_121 : Cond.methodLink RL 121 yL_input ∈ pw_G ∧ Cond.static yL_input ∈ pw_G := ⟨pw_in 1271 (by decide +kernel) (by decide +kernel), pw_in 1272 (by decide +kernel) (by decide +kernel)⟩
theorem cwL_123 : Cond.methodLink RL 123 yX10_input ∈ pw_G ∧ Cond.instanceMethod yX10_input ∈ pw_G ∧ Cond.selects RX10 yX10_input yX10_input ∈ pw_G := ⟨pw_in 1744 (by decide +kernel) (by decide +kernel), pw_in 1745 (by decide +kernel) (by decide +kernel), pw_in 1746 (by decide +kernel) (by decide +kernel)⟩
theorem cwL_124 : Cond.methodLink RL 124 yL_copied ∈ pw_G ∧ Cond.static yL_copied ∈ pw_G := ⟨pw_in 1289 (by decide +kernel) (by decide +kernel), pw_in 1290 (by decide +kernel) (by decide +kernel)⟩
theorem cwL_126 : Cond.methodLink RL 126 yX10_copied ∈ pw_G ∧ Cond.instanceMethod yX10_copied ∈ pw_G ∧ Cond.selects RX10 yX10_copied yX10_copied ∈ pw_G := ⟨pw_in 1748 (by decide +kernel) (by decide +kernel), pw_in 1749 (by decide +kernel) (by decide +kernel), pw_in 1750 (by decide +kernel) (by decide +kernel)⟩
theorem cwL_127 : Cond.methodLink RL 127 yL_count ∈ pw_G ∧ Cond.static yL_count ∈ pw_G := ⟨pw_in 1297 (by decide +kernel) (by decide +kernel), pw_in 1298 (by decide +kernel) (by decide +kernel)⟩
theorem cwL_129 : Cond.methodLink RL 129 yX10_count ∈ pw_G ∧ Cond.instanceMethod yX10_count ∈ pw_G ∧ Cond.selects RX10 yX10_count yX10_count ∈ pw_G := ⟨pw_in 1752 (by decide +kernel) (by decide +kernel), pw_in 1753 (by decide +kernel) (by decide +kernel), pw_in 1754 (by decide +kernel) (by decide +kernel)⟩
/-! ===== the law, call by call ===== -/
theorem pl_pop {E : pw_E} {Y : pw_Y} {X : pl_B} {R : Room} {K : pw_K} {uc us pc : Nat} {lv : List (Option Value)} {st : List Value} {h : pz_H} {n : Nat} {v : Value} (hd : decode Y.2.2.1 pc = .ok (.pop, 1)) (hv : v.category = 1) (kk : pl E Y X R K uc us (pc + 1) lv st h n) : pl E Y X R K uc us pc lv (v :: st) h n :=
  fun p e s m args below meth c H locs L ls F d ks zz => lv_pop F.1 F.2.1 hd ((pz_cat L v).trans hv) (kk p e s m args below meth c H locs L ls F d ks.2 zz)
def opc (x : Int32) : Int := (x &&& zI 15).toInt
theorem opc_z {x : Int32} : zI x.toInt &&& zI 15 = zI (opc x) := by rw [← zI_of]; exact zI_of _
theorem opc_b {x : Int32} : 0 ≤ opc x ∧ opc x ≤ 15 := by
  unfold opc
  have h1 : (x &&& zI 15).toBitVec.toNat ≤ 15 := by
    rw [show (x &&& zI 15).toBitVec = x.toBitVec &&& (zI 15).toBitVec from rfl, BitVec.toNat_and]
    exact Nat.le_trans Nat.and_le_right (by decide)
  have h2 : (x &&& zI 15).toInt = ((x &&& zI 15).toBitVec.toNat : Int) := BitVec.toInt_eq_toNat_of_lt (by omega)
  omega
set_option maxHeartbeats 2000000 in
set_option maxRecDepth 100000 in
theorem lz_feed {E : pw_E} (htr : E.1.stackTraces = false) {K : pw_K} {b N0 uc us : Nat} {xs : Nat → Int32} {h : pz_H} {i : Int} {q5 q6 : Option Value} {W H M : Int} {N NH NB NL n : Nat} {t : aT} (hN0 : N0 ≤ 3074) (hi : 2 ≤ i ∧ i + 6 ≤ N0) (hu : uc + 4 ≤ 601024) (hs : us + 28 ≤ 7293000) (hG : geoH W H N NH NB NL) (hM : 0 ≤ M ∧ M + 400 ≤ 800000000) (hn : 166 ≤ n) (hJ : jJ W H M N NH NB NL n t h) (kk : ∀ (h' : pz_H) (n' : Nat) (t' : aT) (q5 q6 : Option Value) (uc' us' : Nat), uc' ≤ uc + 4 → us' ≤ us + 28 → 166 ≤ n' → jJ W H (M + 400) N NH NB NL n' t' h' → pl E YL_law (b, N0, xs) room_1 K uc' us' 750 [none, some (.ref 0), some (.ref 115), some (.ref 165), some (.int (zI i)), q5, q6] [] h' n') : pl E YL_law (b, N0, xs) room_1 K uc us 132 [none, some (.ref 0), some (.ref 115), some (.ref 165), some (.int (zI i)), q5, q6] [] h n := by
  have hW := hG.1.1
  have hHH := hG.1.2.1
  obtain ⟨x, s, f9, hC, hA, hH, ho⟩ := hJ
  obtain ⟨f, g, hfr, hfm, hgm, hfg⟩ := fg_ex hH.1 hH.2.1
  have hnc := cH_nc hC hn
  have r1 := i32 (xs (i + 1).toNat)
  have r2 := i32 (xs (i + 2).toNat)
  have r3 := i32 (xs (i + 3).toNat)
  have r4 := i32 (xs (i + 4).toNat)
  have r5 := i32 (xs (i + 5).toNat)
  refine pl_aload_n dL_law_132 rfl ?_
  refine pl_sld (a0 := 0) (i := i) (k := 1) (a1 := 134) (a2 := 136) (a3 := 137) (a4 := 138) rfl rfl rfl rfl rfl (by show 0 ≤ i + 1 ∧ i + 1 < (N0 : Int); omega) (by show N0 < 2147483648; omega) dL_law_133 dL_law_134 dL_law_136 dL_law_137 dL_law_138 ?_
  show pl E YL_law (b, N0, xs) room_1 K uc us 139 [none, some (.ref 0), some (.ref 115), some (.ref 165), some (.int (zI (i))), q5, q6] [.int (zI ((xs (i + 1).toNat).toInt)), .ref 0] h n
  refine pl_sld (a0 := 0) (i := i) (k := 2) (a1 := 140) (a2 := 142) (a3 := 143) (a4 := 144) rfl rfl rfl rfl rfl (by show 0 ≤ i + 2 ∧ i + 2 < (N0 : Int); omega) (by show N0 < 2147483648; omega) dL_law_139 dL_law_140 dL_law_142 dL_law_143 dL_law_144 ?_
  show pl E YL_law (b, N0, xs) room_1 K uc us 145 [none, some (.ref 0), some (.ref 115), some (.ref 165), some (.int (zI (i))), q5, q6] [.int (zI ((xs (i + 2).toNat).toInt)), .int (zI ((xs (i + 1).toNat).toInt)), .ref 0] h n
  refine pl_i2l dL_law_145 ?_
  rw [← zI_of]
  refine pl_bipush (v := zI 32) dL_law_146 (by decide) ?_
  refine pl_lshl dL_law_148 ?_
  show pl E YL_law (b, N0, xs) room_1 K uc us 149 [none, some (.ref 0), some (.ref 115), some (.ref 165), some (.int (zI (i))), q5, q6] [.long ((xs (i + 2).toNat).toInt64 <<< ((zI 32).toInt64 &&& 63)), .int (zI ((xs (i + 1).toNat).toInt)), .ref 0] h n
  refine pl_sld (a0 := 0) (i := i) (k := 3) (a1 := 150) (a2 := 152) (a3 := 153) (a4 := 154) rfl rfl rfl rfl rfl (by show 0 ≤ i + 3 ∧ i + 3 < (N0 : Int); omega) (by show N0 < 2147483648; omega) dL_law_149 dL_law_150 dL_law_152 dL_law_153 dL_law_154 ?_
  show pl E YL_law (b, N0, xs) room_1 K uc us 155 [none, some (.ref 0), some (.ref 115), some (.ref 165), some (.int (zI (i))), q5, q6] [.int (zI ((xs (i + 3).toNat).toInt)), .long ((xs (i + 2).toNat).toInt64 <<< ((zI 32).toInt64 &&& 63)), .int (zI ((xs (i + 1).toNat).toInt)), .ref 0] h n
  refine pl_i2l dL_law_155 ?_
  rw [← zI_of]
  refine pl_ldc2 clong dL_law_156 ?_
  refine pl_land dL_law_159 ?_
  refine pl_lor dL_law_160 ?_
  show pl E YL_law (b, N0, xs) room_1 K uc us 161 [none, some (.ref 0), some (.ref 115), some (.ref 165), some (.int (zI (i))), q5, q6] [.long (((xs (i + 2).toNat).toInt64 <<< ((zI 32).toInt64 &&& 63) ||| ((xs (i + 3).toNat).toInt64 &&& 4294967295))), .int (zI ((xs (i + 1).toNat).toInt)), .ref 0] h n
  refine pl_sld (a0 := 0) (i := i) (k := 4) (a1 := 162) (a2 := 164) (a3 := 165) (a4 := 166) rfl rfl rfl rfl rfl (by show 0 ≤ i + 4 ∧ i + 4 < (N0 : Int); omega) (by show N0 < 2147483648; omega) dL_law_161 dL_law_162 dL_law_164 dL_law_165 dL_law_166 ?_
  show pl E YL_law (b, N0, xs) room_1 K uc us 167 [none, some (.ref 0), some (.ref 115), some (.ref 165), some (.int (zI (i))), q5, q6] [.int (zI ((xs (i + 4).toNat).toInt)), .long (((xs (i + 2).toNat).toInt64 <<< ((zI 32).toInt64 &&& 63) ||| ((xs (i + 3).toNat).toInt64 &&& 4294967295))), .int (zI ((xs (i + 1).toNat).toInt)), .ref 0] h n
  refine pl_callSH (k := 4) (As := [.ref 0, .int (zI ((xs (i + 1).toNat).toInt)), .long (((xs (i + 2).toNat).toInt64 <<< ((zI 32).toInt64 &&& 63) ||| ((xs (i + 3).toNat).toInt64 &&& 4294967295))), .int (zI ((xs (i + 4).toNat).toInt))]) (rm := rmD (9 + 1) 2 12) (wT_feed htr hG hH.1 hC (by omega) hn hfm hgm hfg (by omega) (by omega) ho) rfl rfl whL_feed ⟨by decide +kernel, by decide +kernel, by decide +kernel⟩ ⟨cwL_75.1, cwL_75.2, iniL⟩ ⟨nle rfl, nle rfl⟩ (nle rfl) ⟨by show uc + 2 ≤ 601024; omega, by show us + 12 ≤ 7293000; omega⟩ dL_law_167 ?_
  intro r_9 h_9 n_9 hq hn9
  obtain ⟨T, hj, e1, ⟨x9, hC9⟩, hk9, ⟨g9, ho9, hV9⟩, hn1, hn2⟩ := hq
  rw [e1]
  show pl E YL_law (b, N0, xs) room_1 K (uc + 2) (us + 12) 170 [none, some (.ref 0), some (.ref 115), some (.ref 165), some (.int (zI (i))), q5, q6] [.int (zI (T))] h_9 n_9
  have hM9 : mAt 115 s h_9 := mAt_kp hA (fun a a1 a2 => hk9 a a1 (by omega))
  refine pl_istore (lv' := [none, some (.ref 0), some (.ref 115), some (.ref 165), some (.int (zI (i))), some (.int (zI (T))), q6]) dL_law_170 (by decide) (by decide) rfl rfl ?_
  refine pl_aload_n dL_law_172 rfl ?_
  refine pl_sld (a0 := 0) (i := i) (k := 1) (a1 := 174) (a2 := 176) (a3 := 177) (a4 := 178) rfl rfl rfl rfl rfl (by show 0 ≤ i + 1 ∧ i + 1 < (N0 : Int); omega) (by show N0 < 2147483648; omega) dL_law_173 dL_law_174 dL_law_176 dL_law_177 dL_law_178 ?_
  show pl E YL_law (b, N0, xs) room_1 K (uc + 2) (us + 12) 179 [none, some (.ref 0), some (.ref 115), some (.ref 165), some (.int (zI (i))), some (.int (zI (T))), q6] [.int (zI ((xs (i + 1).toNat).toInt)), .ref 115] h_9 n_9
  refine pl_sld (a0 := 0) (i := i) (k := 2) (a1 := 180) (a2 := 182) (a3 := 183) (a4 := 184) rfl rfl rfl rfl rfl (by show 0 ≤ i + 2 ∧ i + 2 < (N0 : Int); omega) (by show N0 < 2147483648; omega) dL_law_179 dL_law_180 dL_law_182 dL_law_183 dL_law_184 ?_
  show pl E YL_law (b, N0, xs) room_1 K (uc + 2) (us + 12) 185 [none, some (.ref 0), some (.ref 115), some (.ref 165), some (.int (zI (i))), some (.int (zI (T))), q6] [.int (zI ((xs (i + 2).toNat).toInt)), .int (zI ((xs (i + 1).toNat).toInt)), .ref 115] h_9 n_9
  refine pl_i2l dL_law_185 ?_
  rw [← zI_of]
  refine pl_bipush (v := zI 32) dL_law_186 (by decide) ?_
  refine pl_lshl dL_law_188 ?_
  show pl E YL_law (b, N0, xs) room_1 K (uc + 2) (us + 12) 189 [none, some (.ref 0), some (.ref 115), some (.ref 165), some (.int (zI (i))), some (.int (zI (T))), q6] [.long ((xs (i + 2).toNat).toInt64 <<< ((zI 32).toInt64 &&& 63)), .int (zI ((xs (i + 1).toNat).toInt)), .ref 115] h_9 n_9
  refine pl_sld (a0 := 0) (i := i) (k := 3) (a1 := 190) (a2 := 192) (a3 := 193) (a4 := 194) rfl rfl rfl rfl rfl (by show 0 ≤ i + 3 ∧ i + 3 < (N0 : Int); omega) (by show N0 < 2147483648; omega) dL_law_189 dL_law_190 dL_law_192 dL_law_193 dL_law_194 ?_
  show pl E YL_law (b, N0, xs) room_1 K (uc + 2) (us + 12) 195 [none, some (.ref 0), some (.ref 115), some (.ref 165), some (.int (zI (i))), some (.int (zI (T))), q6] [.int (zI ((xs (i + 3).toNat).toInt)), .long ((xs (i + 2).toNat).toInt64 <<< ((zI 32).toInt64 &&& 63)), .int (zI ((xs (i + 1).toNat).toInt)), .ref 115] h_9 n_9
  refine pl_i2l dL_law_195 ?_
  rw [← zI_of]
  refine pl_ldc2 clong dL_law_196 ?_
  refine pl_land dL_law_199 ?_
  refine pl_lor dL_law_200 ?_
  show pl E YL_law (b, N0, xs) room_1 K (uc + 2) (us + 12) 201 [none, some (.ref 0), some (.ref 115), some (.ref 165), some (.int (zI (i))), some (.int (zI (T))), q6] [.long (((xs (i + 2).toNat).toInt64 <<< ((zI 32).toInt64 &&& 63) ||| ((xs (i + 3).toNat).toInt64 &&& 4294967295))), .int (zI ((xs (i + 1).toNat).toInt)), .ref 115] h_9 n_9
  refine pl_sld (a0 := 0) (i := i) (k := 4) (a1 := 202) (a2 := 204) (a3 := 205) (a4 := 206) rfl rfl rfl rfl rfl (by show 0 ≤ i + 4 ∧ i + 4 < (N0 : Int); omega) (by show N0 < 2147483648; omega) dL_law_201 dL_law_202 dL_law_204 dL_law_205 dL_law_206 ?_
  show pl E YL_law (b, N0, xs) room_1 K (uc + 2) (us + 12) 207 [none, some (.ref 0), some (.ref 115), some (.ref 165), some (.int (zI (i))), some (.int (zI (T))), q6] [.int (zI ((xs (i + 4).toNat).toInt)), .long (((xs (i + 2).toNat).toInt64 <<< ((zI 32).toInt64 &&& 63) ||| ((xs (i + 3).toNat).toInt64 &&& 4294967295))), .int (zI ((xs (i + 1).toNat).toInt)), .ref 115] h_9 n_9
  refine pl_callV (As := [.int (zI ((xs (i + 1).toNat).toInt)), .long (((xs (i + 2).toNat).toInt64 <<< ((zI 32).toInt64 &&& 63) ||| ((xs (i + 3).toNat).toInt64 &&& 4294967295))), .int (zI ((xs (i + 4).toNat).toInt))]) (b := 115) (rm := rmD 8 0 0) (rJ_feed htr hM9 hW hHH (by omega) hH (by omega) (by omega) hj) rfl hM9.1 rfl rfl ywX10_feed rfl cwL_78 ⟨nle rfl, nle rfl⟩ (nle rfl) ⟨by show uc + 2 ≤ 601024; omega, by show us + 12 ≤ 7293000; omega⟩ dL_law_207 ?_
  intro r_8 h_8 n_8 hq _
  obtain ⟨e1, s8, hM8, hH8, ⟨f0, f47, f48⟩, hF8, e4⟩ := hq
  have hTb := jFd_T hj
  rw [e1, e4]
  show pl E YL_law (b, N0, xs) room_1 K (uc + 2) (us + 12) 210 [none, some (.ref 0), some (.ref 115), some (.ref 165), some (.int (zI (i))), some (.int (zI (T))), q6] [] h_8 n_9
  refine pl_goto (tgt := 750) dL_law_210 rfl ?_
  exact kk h_8 n_9 t _ _ (uc + 2) (us + 12) (by omega) (by omega) (by omega) (jJ_of hC9 ho9 hM8 hH8 f47 f48 hF8 (Int.le_refl _))
set_option maxHeartbeats 2000000 in
set_option maxRecDepth 100000 in
theorem lz_key {E : pw_E} (htr : E.1.stackTraces = false) {K : pw_K} {b N0 uc us : Nat} {xs : Nat → Int32} {h : pz_H} {i : Int} {q5 q6 : Option Value} {W H M : Int} {N NH NB NL n : Nat} {t : aT} (hN0 : N0 ≤ 3074) (hi : 2 ≤ i ∧ i + 6 ≤ N0) (hu : uc + 4 ≤ 601024) (hs : us + 28 ≤ 7293000) (hG : geoH W H N NH NB NL) (hM : 0 ≤ M ∧ M + 400 ≤ 800000000) (hn : 166 ≤ n) (hJ : jJ W H M N NH NB NL n t h) (kk : ∀ (h' : pz_H) (n' : Nat) (t' : aT) (q5 q6 : Option Value) (uc' us' : Nat), uc' ≤ uc + 4 → us' ≤ us + 28 → 166 ≤ n' → jJ W H (M + 400) N NH NB NL n' t' h' → pl E YL_law (b, N0, xs) room_1 K uc' us' 750 [none, some (.ref 0), some (.ref 115), some (.ref 165), some (.int (zI i)), q5, q6] [] h' n') : pl E YL_law (b, N0, xs) room_1 K uc us 213 [none, some (.ref 0), some (.ref 115), some (.ref 165), some (.int (zI i)), q5, q6] [] h n := by
  have hW := hG.1.1
  have hHH := hG.1.2.1
  obtain ⟨x, s, f9, hC, hA, hH, ho⟩ := hJ
  obtain ⟨f, g, hfr, hfm, hgm, hfg⟩ := fg_ex hH.1 hH.2.1
  have hnc := cH_nc hC hn
  have r1 := i32 (xs (i + 1).toNat)
  have r2 := i32 (xs (i + 2).toNat)
  have r3 := i32 (xs (i + 3).toNat)
  have r4 := i32 (xs (i + 4).toNat)
  have r5 := i32 (xs (i + 5).toNat)
  refine pl_aload_n dL_law_213 rfl ?_
  refine pl_sld (a0 := 0) (i := i) (k := 1) (a1 := 215) (a2 := 217) (a3 := 218) (a4 := 219) rfl rfl rfl rfl rfl (by show 0 ≤ i + 1 ∧ i + 1 < (N0 : Int); omega) (by show N0 < 2147483648; omega) dL_law_214 dL_law_215 dL_law_217 dL_law_218 dL_law_219 ?_
  show pl E YL_law (b, N0, xs) room_1 K uc us 220 [none, some (.ref 0), some (.ref 115), some (.ref 165), some (.int (zI (i))), q5, q6] [.int (zI ((xs (i + 1).toNat).toInt)), .ref 0] h n
  refine pl_aload_n dL_law_220 rfl ?_
  refine pl_callSH (k := 3) (As := [.ref 0, .int (zI ((xs (i + 1).toNat).toInt)), .ref 165]) (rm := rmD (23 + 1) 2 16) (wT_key htr hG hH.1 hC (by omega) hn hfm hgm hfg (by omega) ho) rfl rfl whL_key ⟨by decide +kernel, by decide +kernel, by decide +kernel⟩ ⟨cwL_79.1, cwL_79.2, iniL⟩ ⟨nle rfl, nle rfl⟩ (nle rfl) ⟨by show uc + 2 ≤ 601024; omega, by show us + 16 ≤ 7293000; omega⟩ dL_law_221 ?_
  intro r_9 h_9 n_9 hq hn9
  obtain ⟨T, t', fo', pr', R, hj, e1, ⟨x9, hC9⟩, hk9, ⟨g9, ho9, hV9⟩, hn1, hn2⟩ := hq
  rw [e1]
  show pl E YL_law (b, N0, xs) room_1 K (uc + 2) (us + 16) 224 [none, some (.ref 0), some (.ref 115), some (.ref 165), some (.int (zI (i))), q5, q6] [.int (zI (T))] h_9 n_9
  have hM9 : mAt 115 s h_9 := mAt_kp hA (fun a a1 a2 => hk9 a a1 (by omega))
  refine pl_istore (lv' := [none, some (.ref 0), some (.ref 115), some (.ref 165), some (.int (zI (i))), some (.int (zI (T))), q6]) dL_law_224 (by decide) (by decide) rfl rfl ?_
  refine pl_aload_n dL_law_226 rfl ?_
  refine pl_sld (a0 := 0) (i := i) (k := 1) (a1 := 228) (a2 := 230) (a3 := 231) (a4 := 232) rfl rfl rfl rfl rfl (by show 0 ≤ i + 1 ∧ i + 1 < (N0 : Int); omega) (by show N0 < 2147483648; omega) dL_law_227 dL_law_228 dL_law_230 dL_law_231 dL_law_232 ?_
  show pl E YL_law (b, N0, xs) room_1 K (uc + 2) (us + 16) 233 [none, some (.ref 0), some (.ref 115), some (.ref 165), some (.int (zI (i))), some (.int (zI (T))), q6] [.int (zI ((xs (i + 1).toNat).toInt)), .ref 115] h_9 n_9
  refine pl_callV (As := [.int (zI ((xs (i + 1).toNat).toInt))]) (b := 115) (rm := rmD 5 0 0) (rJ_key htr hM9 hW hHH (by omega) hH (by omega) hnc hfr hfm hgm hj) rfl hM9.1 rfl rfl ywX10_key rfl cwL_82 ⟨nle rfl, nle rfl⟩ (nle rfl) ⟨by show uc + 2 ≤ 601024; omega, by show us + 16 ≤ 7293000; omega⟩ dL_law_233 ?_
  intro r_8 h_8 n_8 hq _
  obtain ⟨⟨er1, er2⟩, s8, hM8, hH8, ⟨f0, f47, f48⟩, hF8, e4⟩ := hq
  obtain ⟨w8, hw8, e1, ew8⟩ := bR er1 er2 (jKy_T hj (cH_fo hC9)).2
  have hTb := (jKy_T hj (cH_fo hC9)).1
  rw [e1, e4]
  show pl E YL_law (b, N0, xs) room_1 K (uc + 2) (us + 16) 236 [none, some (.ref 0), some (.ref 115), some (.ref 165), some (.int (zI (i))), some (.int (zI (T))), q6] [.int (zI (w8))] h_8 n_9
  refine pl_istore (lv' := [none, some (.ref 0), some (.ref 115), some (.ref 165), some (.int (zI (i))), some (.int (zI (T))), some (.int (zI (w8)))]) dL_law_236 (by decide) (by decide) rfl rfl ?_
  refine pl_goto (tgt := 750) dL_law_238 rfl ?_
  exact kk h_8 n_9 t' _ _ (uc + 2) (us + 16) (by omega) (by omega) (by omega) (jJ_of hC9 ho9 hM8 hH8 f47 f48 hF8 (Int.le_refl _))
set_option maxHeartbeats 2000000 in
set_option maxRecDepth 100000 in
theorem lz_split {E : pw_E} (htr : E.1.stackTraces = false) {K : pw_K} {b N0 uc us : Nat} {xs : Nat → Int32} {h : pz_H} {i : Int} {q5 q6 : Option Value} {W H M : Int} {N NH NB NL n : Nat} {t : aT} (hN0 : N0 ≤ 3074) (hi : 2 ≤ i ∧ i + 6 ≤ N0) (hu : uc + 4 ≤ 601024) (hs : us + 28 ≤ 7293000) (hG : geoH W H N NH NB NL) (hM : 0 ≤ M ∧ M + 400 ≤ 800000000) (hn : 166 ≤ n) (hJ : jJ W H M N NH NB NL n t h) (kk : ∀ (h' : pz_H) (n' : Nat) (t' : aT) (q5 q6 : Option Value) (uc' us' : Nat), uc' ≤ uc + 4 → us' ≤ us + 28 → 166 ≤ n' → jJ W H (M + 400) N NH NB NL n' t' h' → pl E YL_law (b, N0, xs) room_1 K uc' us' 750 [none, some (.ref 0), some (.ref 115), some (.ref 165), some (.int (zI i)), q5, q6] [] h' n') : pl E YL_law (b, N0, xs) room_1 K uc us 241 [none, some (.ref 0), some (.ref 115), some (.ref 165), some (.int (zI i)), q5, q6] [] h n := by
  have hW := hG.1.1
  have hHH := hG.1.2.1
  obtain ⟨x, s, f9, hC, hA, hH, ho⟩ := hJ
  obtain ⟨f, g, hfr, hfm, hgm, hfg⟩ := fg_ex hH.1 hH.2.1
  have hnc := cH_nc hC hn
  have r1 := i32 (xs (i + 1).toNat)
  have r2 := i32 (xs (i + 2).toNat)
  have r3 := i32 (xs (i + 3).toNat)
  have r4 := i32 (xs (i + 4).toNat)
  have r5 := i32 (xs (i + 5).toNat)
  refine pl_aload_n dL_law_241 rfl ?_
  refine pl_sld (a0 := 0) (i := i) (k := 1) (a1 := 243) (a2 := 245) (a3 := 246) (a4 := 247) rfl rfl rfl rfl rfl (by show 0 ≤ i + 1 ∧ i + 1 < (N0 : Int); omega) (by show N0 < 2147483648; omega) dL_law_242 dL_law_243 dL_law_245 dL_law_246 dL_law_247 ?_
  show pl E YL_law (b, N0, xs) room_1 K uc us 248 [none, some (.ref 0), some (.ref 115), some (.ref 165), some (.int (zI (i))), q5, q6] [.int (zI ((xs (i + 1).toNat).toInt)), .ref 0] h n
  refine pl_sld (a0 := 0) (i := i) (k := 2) (a1 := 249) (a2 := 251) (a3 := 252) (a4 := 253) rfl rfl rfl rfl rfl (by show 0 ≤ i + 2 ∧ i + 2 < (N0 : Int); omega) (by show N0 < 2147483648; omega) dL_law_248 dL_law_249 dL_law_251 dL_law_252 dL_law_253 ?_
  show pl E YL_law (b, N0, xs) room_1 K uc us 254 [none, some (.ref 0), some (.ref 115), some (.ref 165), some (.int (zI (i))), q5, q6] [.int (zI ((xs (i + 2).toNat).toInt)), .int (zI ((xs (i + 1).toNat).toInt)), .ref 0] h n
  refine pl_if_eq (tgt := 261) dL_law_254 rfl (by omega) (fun c254 => ?_) (fun c254 => ?_)
  ·
    refine pl_iconst (v := zI (0)) dL_law_261 (by decide) ?_
    refine pl_aload_n dL_law_262 rfl ?_
    refine pl_callSH (k := 4) (As := [.ref 0, .int (zI ((xs (i + 1).toNat).toInt)), .int (zI (0)), .ref 165]) (rm := rmD (22 + 1) 4 28) (wT_split htr hG hH.1 hC (by omega) hn hfm hgm hfg (by omega) (by omega) (by omega) ho) rfl rfl whL_split ⟨by decide +kernel, by decide +kernel, by decide +kernel⟩ ⟨cwL_83.1, cwL_83.2, iniL⟩ ⟨nle rfl, nle rfl⟩ (nle rfl) ⟨by show uc + 4 ≤ 601024; omega, by show us + 28 ≤ 7293000; omega⟩ dL_law_263 ?_
    intro r_9 h_9 n_9 hq hn9
    obtain ⟨T, t', fo', R, hj, e1, ⟨x9, hC9⟩, hk9, ⟨g9, ho9, hV9⟩, hn1, hn2⟩ := hq
    rw [e1]
    show pl E YL_law (b, N0, xs) room_1 K (uc + 4) (us + 28) 266 [none, some (.ref 0), some (.ref 115), some (.ref 165), some (.int (zI (i))), q5, q6] [.int (zI (T))] h_9 n_9
    have hM9 : mAt 115 s h_9 := mAt_kp hA (fun a a1 a2 => hk9 a a1 (by omega))
    refine pl_istore (lv' := [none, some (.ref 0), some (.ref 115), some (.ref 165), some (.int (zI (i))), some (.int (zI (T))), q6]) dL_law_266 (by decide) (by decide) rfl rfl ?_
    refine pl_aload_n dL_law_268 rfl ?_
    refine pl_sld (a0 := 0) (i := i) (k := 1) (a1 := 270) (a2 := 272) (a3 := 273) (a4 := 274) rfl rfl rfl rfl rfl (by show 0 ≤ i + 1 ∧ i + 1 < (N0 : Int); omega) (by show N0 < 2147483648; omega) dL_law_269 dL_law_270 dL_law_272 dL_law_273 dL_law_274 ?_
    show pl E YL_law (b, N0, xs) room_1 K (uc + 4) (us + 28) 275 [none, some (.ref 0), some (.ref 115), some (.ref 165), some (.int (zI (i))), some (.int (zI (T))), q6] [.int (zI ((xs (i + 1).toNat).toInt)), .ref 115] h_9 n_9
    refine pl_sld (a0 := 0) (i := i) (k := 2) (a1 := 276) (a2 := 278) (a3 := 279) (a4 := 280) rfl rfl rfl rfl rfl (by show 0 ≤ i + 2 ∧ i + 2 < (N0 : Int); omega) (by show N0 < 2147483648; omega) dL_law_275 dL_law_276 dL_law_278 dL_law_279 dL_law_280 ?_
    show pl E YL_law (b, N0, xs) room_1 K (uc + 4) (us + 28) 281 [none, some (.ref 0), some (.ref 115), some (.ref 165), some (.int (zI (i))), some (.int (zI (T))), q6] [.int (zI ((xs (i + 2).toNat).toInt)), .int (zI ((xs (i + 1).toNat).toInt)), .ref 115] h_9 n_9
    refine pl_if_eq (tgt := 288) dL_law_281 rfl (by omega) (fun c281 => ?_) (fun c281 => ?_)
    ·
      refine pl_iconst (v := zI (0)) dL_law_288 (by decide) ?_
      refine pl_callV (As := [.int (zI ((xs (i + 1).toNat).toInt)), .int (zI (0))]) (b := 115) (rm := rmD 4 0 0) (rJ_split htr hM9 hW hHH (by omega) hH (by omega) (by omega) hnc hfr hfm hgm hj) rfl hM9.1 rfl rfl ywX10_split rfl cwL_86 ⟨nle rfl, nle rfl⟩ (nle rfl) ⟨by show uc + 4 ≤ 601024; omega, by show us + 28 ≤ 7293000; omega⟩ dL_law_289 ?_
      intro r_8 h_8 n_8 hq _
      obtain ⟨⟨er1, er2⟩, s8, hM8, hH8, ⟨f0, f47, f48⟩, hF8, e4⟩ := hq
      obtain ⟨w8, hw8, e1, ew8⟩ := bR er1 er2 (jSp_T hj).2
      have hTb := (jSp_T hj).1
      rw [e1, e4]
      show pl E YL_law (b, N0, xs) room_1 K (uc + 4) (us + 28) 292 [none, some (.ref 0), some (.ref 115), some (.ref 165), some (.int (zI (i))), some (.int (zI (T))), q6] [.int (zI (w8))] h_8 n_9
      refine pl_istore (lv' := [none, some (.ref 0), some (.ref 115), some (.ref 165), some (.int (zI (i))), some (.int (zI (T))), some (.int (zI (w8)))]) dL_law_292 (by decide) (by decide) rfl rfl ?_
      refine pl_goto (tgt := 750) dL_law_294 rfl ?_
      exact kk h_8 n_9 t' _ _ (uc + 4) (us + 28) (by omega) (by omega) (by omega) (jJ_of hC9 ho9 hM8 hH8 f47 f48 hF8 (Int.le_refl _))
    · exfalso; omega
  ·
    refine pl_iconst (v := zI (1)) dL_law_257 (by decide) ?_
    refine pl_goto (tgt := 262) dL_law_258 rfl ?_
    refine pl_aload_n dL_law_262 rfl ?_
    refine pl_callSH (k := 4) (As := [.ref 0, .int (zI ((xs (i + 1).toNat).toInt)), .int (zI (1)), .ref 165]) (rm := rmD (22 + 1) 4 28) (wT_split htr hG hH.1 hC (by omega) hn hfm hgm hfg (by omega) (by omega) (by omega) ho) rfl rfl whL_split ⟨by decide +kernel, by decide +kernel, by decide +kernel⟩ ⟨cwL_83.1, cwL_83.2, iniL⟩ ⟨nle rfl, nle rfl⟩ (nle rfl) ⟨by show uc + 4 ≤ 601024; omega, by show us + 28 ≤ 7293000; omega⟩ dL_law_263 ?_
    intro r_9 h_9 n_9 hq hn9
    obtain ⟨T, t', fo', R, hj, e1, ⟨x9, hC9⟩, hk9, ⟨g9, ho9, hV9⟩, hn1, hn2⟩ := hq
    rw [e1]
    show pl E YL_law (b, N0, xs) room_1 K (uc + 4) (us + 28) 266 [none, some (.ref 0), some (.ref 115), some (.ref 165), some (.int (zI (i))), q5, q6] [.int (zI (T))] h_9 n_9
    have hM9 : mAt 115 s h_9 := mAt_kp hA (fun a a1 a2 => hk9 a a1 (by omega))
    refine pl_istore (lv' := [none, some (.ref 0), some (.ref 115), some (.ref 165), some (.int (zI (i))), some (.int (zI (T))), q6]) dL_law_266 (by decide) (by decide) rfl rfl ?_
    refine pl_aload_n dL_law_268 rfl ?_
    refine pl_sld (a0 := 0) (i := i) (k := 1) (a1 := 270) (a2 := 272) (a3 := 273) (a4 := 274) rfl rfl rfl rfl rfl (by show 0 ≤ i + 1 ∧ i + 1 < (N0 : Int); omega) (by show N0 < 2147483648; omega) dL_law_269 dL_law_270 dL_law_272 dL_law_273 dL_law_274 ?_
    show pl E YL_law (b, N0, xs) room_1 K (uc + 4) (us + 28) 275 [none, some (.ref 0), some (.ref 115), some (.ref 165), some (.int (zI (i))), some (.int (zI (T))), q6] [.int (zI ((xs (i + 1).toNat).toInt)), .ref 115] h_9 n_9
    refine pl_sld (a0 := 0) (i := i) (k := 2) (a1 := 276) (a2 := 278) (a3 := 279) (a4 := 280) rfl rfl rfl rfl rfl (by show 0 ≤ i + 2 ∧ i + 2 < (N0 : Int); omega) (by show N0 < 2147483648; omega) dL_law_275 dL_law_276 dL_law_278 dL_law_279 dL_law_280 ?_
    show pl E YL_law (b, N0, xs) room_1 K (uc + 4) (us + 28) 281 [none, some (.ref 0), some (.ref 115), some (.ref 165), some (.int (zI (i))), some (.int (zI (T))), q6] [.int (zI ((xs (i + 2).toNat).toInt)), .int (zI ((xs (i + 1).toNat).toInt)), .ref 115] h_9 n_9
    refine pl_if_eq (tgt := 288) dL_law_281 rfl (by omega) (fun c281 => ?_) (fun c281 => ?_)
    · exfalso; omega
    ·
      refine pl_iconst (v := zI (1)) dL_law_284 (by decide) ?_
      refine pl_goto (tgt := 289) dL_law_285 rfl ?_
      refine pl_callV (As := [.int (zI ((xs (i + 1).toNat).toInt)), .int (zI (1))]) (b := 115) (rm := rmD 4 0 0) (rJ_split htr hM9 hW hHH (by omega) hH (by omega) (by omega) hnc hfr hfm hgm hj) rfl hM9.1 rfl rfl ywX10_split rfl cwL_86 ⟨nle rfl, nle rfl⟩ (nle rfl) ⟨by show uc + 4 ≤ 601024; omega, by show us + 28 ≤ 7293000; omega⟩ dL_law_289 ?_
      intro r_8 h_8 n_8 hq _
      obtain ⟨⟨er1, er2⟩, s8, hM8, hH8, ⟨f0, f47, f48⟩, hF8, e4⟩ := hq
      obtain ⟨w8, hw8, e1, ew8⟩ := bR er1 er2 (jSp_T hj).2
      have hTb := (jSp_T hj).1
      rw [e1, e4]
      show pl E YL_law (b, N0, xs) room_1 K (uc + 4) (us + 28) 292 [none, some (.ref 0), some (.ref 115), some (.ref 165), some (.int (zI (i))), some (.int (zI (T))), q6] [.int (zI (w8))] h_8 n_9
      refine pl_istore (lv' := [none, some (.ref 0), some (.ref 115), some (.ref 165), some (.int (zI (i))), some (.int (zI (T))), some (.int (zI (w8)))]) dL_law_292 (by decide) (by decide) rfl rfl ?_
      refine pl_goto (tgt := 750) dL_law_294 rfl ?_
      exact kk h_8 n_9 t' _ _ (uc + 4) (us + 28) (by omega) (by omega) (by omega) (jJ_of hC9 ho9 hM8 hH8 f47 f48 hF8 (Int.le_refl _))
set_option maxHeartbeats 2000000 in
set_option maxRecDepth 100000 in
theorem lz_close {E : pw_E} (htr : E.1.stackTraces = false) {K : pw_K} {b N0 uc us : Nat} {xs : Nat → Int32} {h : pz_H} {i : Int} {q5 q6 : Option Value} {W H M : Int} {N NH NB NL n : Nat} {t : aT} (hN0 : N0 ≤ 3074) (hi : 2 ≤ i ∧ i + 6 ≤ N0) (hu : uc + 4 ≤ 601024) (hs : us + 28 ≤ 7293000) (hG : geoH W H N NH NB NL) (hM : 0 ≤ M ∧ M + 400 ≤ 800000000) (hn : 166 ≤ n) (hJ : jJ W H M N NH NB NL n t h) (kk : ∀ (h' : pz_H) (n' : Nat) (t' : aT) (q5 q6 : Option Value) (uc' us' : Nat), uc' ≤ uc + 4 → us' ≤ us + 28 → 166 ≤ n' → jJ W H (M + 400) N NH NB NL n' t' h' → pl E YL_law (b, N0, xs) room_1 K uc' us' 750 [none, some (.ref 0), some (.ref 115), some (.ref 165), some (.int (zI i)), q5, q6] [] h' n') : pl E YL_law (b, N0, xs) room_1 K uc us 297 [none, some (.ref 0), some (.ref 115), some (.ref 165), some (.int (zI i)), q5, q6] [] h n := by
  have hW := hG.1.1
  have hHH := hG.1.2.1
  obtain ⟨x, s, f9, hC, hA, hH, ho⟩ := hJ
  obtain ⟨f, g, hfr, hfm, hgm, hfg⟩ := fg_ex hH.1 hH.2.1
  have hnc := cH_nc hC hn
  have r1 := i32 (xs (i + 1).toNat)
  have r2 := i32 (xs (i + 2).toNat)
  have r3 := i32 (xs (i + 3).toNat)
  have r4 := i32 (xs (i + 4).toNat)
  have r5 := i32 (xs (i + 5).toNat)
  refine pl_aload_n dL_law_297 rfl ?_
  refine pl_sld (a0 := 0) (i := i) (k := 1) (a1 := 299) (a2 := 301) (a3 := 302) (a4 := 303) rfl rfl rfl rfl rfl (by show 0 ≤ i + 1 ∧ i + 1 < (N0 : Int); omega) (by show N0 < 2147483648; omega) dL_law_298 dL_law_299 dL_law_301 dL_law_302 dL_law_303 ?_
  show pl E YL_law (b, N0, xs) room_1 K uc us 304 [none, some (.ref 0), some (.ref 115), some (.ref 165), some (.int (zI (i))), q5, q6] [.int (zI ((xs (i + 1).toNat).toInt)), .ref 0] h n
  refine pl_aload_n dL_law_304 rfl ?_
  refine pl_callSH (k := 3) (As := [.ref 0, .int (zI ((xs (i + 1).toNat).toInt)), .ref 165]) (rm := rmD (21 + 1) 2 12) (wT_close htr hG hH.1 hC (by omega) hn hfm hgm hfg (by omega) ho) rfl rfl whL_close ⟨by decide +kernel, by decide +kernel, by decide +kernel⟩ ⟨cwL_87.1, cwL_87.2, iniL⟩ ⟨nle rfl, nle rfl⟩ (nle rfl) ⟨by show uc + 2 ≤ 601024; omega, by show us + 12 ≤ 7293000; omega⟩ dL_law_305 ?_
  intro r_9 h_9 n_9 hq hn9
  obtain ⟨T, t', fo', R, hj, e1, ⟨x9, hC9⟩, hk9, ⟨g9, ho9, hV9⟩, hn1, hn2⟩ := hq
  rw [e1]
  show pl E YL_law (b, N0, xs) room_1 K (uc + 2) (us + 12) 308 [none, some (.ref 0), some (.ref 115), some (.ref 165), some (.int (zI (i))), q5, q6] [.int (zI (T))] h_9 n_9
  have hM9 : mAt 115 s h_9 := mAt_kp hA (fun a a1 a2 => hk9 a a1 (by omega))
  refine pl_istore (lv' := [none, some (.ref 0), some (.ref 115), some (.ref 165), some (.int (zI (i))), some (.int (zI (T))), q6]) dL_law_308 (by decide) (by decide) rfl rfl ?_
  refine pl_aload_n dL_law_310 rfl ?_
  refine pl_sld (a0 := 0) (i := i) (k := 1) (a1 := 312) (a2 := 314) (a3 := 315) (a4 := 316) rfl rfl rfl rfl rfl (by show 0 ≤ i + 1 ∧ i + 1 < (N0 : Int); omega) (by show N0 < 2147483648; omega) dL_law_311 dL_law_312 dL_law_314 dL_law_315 dL_law_316 ?_
  show pl E YL_law (b, N0, xs) room_1 K (uc + 2) (us + 12) 317 [none, some (.ref 0), some (.ref 115), some (.ref 165), some (.int (zI (i))), some (.int (zI (T))), q6] [.int (zI ((xs (i + 1).toNat).toInt)), .ref 115] h_9 n_9
  refine pl_callV (As := [.int (zI ((xs (i + 1).toNat).toInt))]) (b := 115) (rm := rmD 4 0 0) (rJ_close htr hM9 hW hHH (by omega) hH (by omega) hj) rfl hM9.1 rfl rfl ywX10_close rfl cwL_89 ⟨nle rfl, nle rfl⟩ (nle rfl) ⟨by show uc + 2 ≤ 601024; omega, by show us + 12 ≤ 7293000; omega⟩ dL_law_317 ?_
  intro r_8 h_8 n_8 hq _
  obtain ⟨⟨er1, er2⟩, s8, hM8, hH8, ⟨f0, f47, f48⟩, hF8, e4⟩ := hq
  obtain ⟨w8, hw8, e1, ew8⟩ := bR er1 er2 (jCl_T (cH_fo hC) hj).2
  have hTb := (jCl_T (cH_fo hC) hj).1
  rw [e1, e4]
  show pl E YL_law (b, N0, xs) room_1 K (uc + 2) (us + 12) 320 [none, some (.ref 0), some (.ref 115), some (.ref 165), some (.int (zI (i))), some (.int (zI (T))), q6] [.int (zI (w8))] h_8 n_9
  refine pl_istore (lv' := [none, some (.ref 0), some (.ref 115), some (.ref 165), some (.int (zI (i))), some (.int (zI (T))), some (.int (zI (w8)))]) dL_law_320 (by decide) (by decide) rfl rfl ?_
  refine pl_goto (tgt := 750) dL_law_322 rfl ?_
  exact kk h_8 n_9 t' _ _ (uc + 2) (us + 12) (by omega) (by omega) (by omega) (jJ_of hC9 ho9 hM8 hH8 f47 f48 hF8 (Int.le_refl _))
set_option maxHeartbeats 2000000 in
set_option maxRecDepth 100000 in
theorem lz_focus {E : pw_E} (htr : E.1.stackTraces = false) {K : pw_K} {b N0 uc us : Nat} {xs : Nat → Int32} {h : pz_H} {i : Int} {q5 q6 : Option Value} {W H M : Int} {N NH NB NL n : Nat} {t : aT} (hN0 : N0 ≤ 3074) (hi : 2 ≤ i ∧ i + 6 ≤ N0) (hu : uc + 4 ≤ 601024) (hs : us + 28 ≤ 7293000) (hG : geoH W H N NH NB NL) (hM : 0 ≤ M ∧ M + 400 ≤ 800000000) (hn : 166 ≤ n) (hJ : jJ W H M N NH NB NL n t h) (kk : ∀ (h' : pz_H) (n' : Nat) (t' : aT) (q5 q6 : Option Value) (uc' us' : Nat), uc' ≤ uc + 4 → us' ≤ us + 28 → 166 ≤ n' → jJ W H (M + 400) N NH NB NL n' t' h' → pl E YL_law (b, N0, xs) room_1 K uc' us' 750 [none, some (.ref 0), some (.ref 115), some (.ref 165), some (.int (zI i)), q5, q6] [] h' n') : pl E YL_law (b, N0, xs) room_1 K uc us 325 [none, some (.ref 0), some (.ref 115), some (.ref 165), some (.int (zI i)), q5, q6] [] h n := by
  have hW := hG.1.1
  have hHH := hG.1.2.1
  obtain ⟨x, s, f9, hC, hA, hH, ho⟩ := hJ
  obtain ⟨f, g, hfr, hfm, hgm, hfg⟩ := fg_ex hH.1 hH.2.1
  have hnc := cH_nc hC hn
  have r1 := i32 (xs (i + 1).toNat)
  have r2 := i32 (xs (i + 2).toNat)
  have r3 := i32 (xs (i + 3).toNat)
  have r4 := i32 (xs (i + 4).toNat)
  have r5 := i32 (xs (i + 5).toNat)
  refine pl_aload_n dL_law_325 rfl ?_
  refine pl_sld (a0 := 0) (i := i) (k := 1) (a1 := 327) (a2 := 329) (a3 := 330) (a4 := 331) rfl rfl rfl rfl rfl (by show 0 ≤ i + 1 ∧ i + 1 < (N0 : Int); omega) (by show N0 < 2147483648; omega) dL_law_326 dL_law_327 dL_law_329 dL_law_330 dL_law_331 ?_
  show pl E YL_law (b, N0, xs) room_1 K uc us 332 [none, some (.ref 0), some (.ref 115), some (.ref 165), some (.int (zI (i))), q5, q6] [.int (zI ((xs (i + 1).toNat).toInt)), .ref 0] h n
  refine pl_callSH (k := 2) (As := [.ref 0, .int (zI ((xs (i + 1).toNat).toInt))]) (rm := rmD (7 + 1) 1 6) (wT_focus htr hG hH.1 hC (by omega) hn hfm hgm hfg (by omega) ho) rfl rfl whL_focus ⟨by decide +kernel, by decide +kernel, by decide +kernel⟩ ⟨cwL_90.1, cwL_90.2, iniL⟩ ⟨nle rfl, nle rfl⟩ (nle rfl) ⟨by show uc + 1 ≤ 601024; omega, by show us + 6 ≤ 7293000; omega⟩ dL_law_332 ?_
  intro r_9 h_9 n_9 hq hn9
  obtain ⟨T, fo', hj, e1, ⟨x9, hC9⟩, hk9, ⟨g9, ho9, hV9⟩, hn1, hn2⟩ := hq
  rw [e1]
  show pl E YL_law (b, N0, xs) room_1 K (uc + 1) (us + 6) 335 [none, some (.ref 0), some (.ref 115), some (.ref 165), some (.int (zI (i))), q5, q6] [.int (zI (T))] h_9 n_9
  have hM9 : mAt 115 s h_9 := mAt_kp hA (fun a a1 a2 => hk9 a a1 (by omega))
  refine pl_istore (lv' := [none, some (.ref 0), some (.ref 115), some (.ref 165), some (.int (zI (i))), some (.int (zI (T))), q6]) dL_law_335 (by decide) (by decide) rfl rfl ?_
  refine pl_aload_n dL_law_337 rfl ?_
  refine pl_sld (a0 := 0) (i := i) (k := 1) (a1 := 339) (a2 := 341) (a3 := 342) (a4 := 343) rfl rfl rfl rfl rfl (by show 0 ≤ i + 1 ∧ i + 1 < (N0 : Int); omega) (by show N0 < 2147483648; omega) dL_law_338 dL_law_339 dL_law_341 dL_law_342 dL_law_343 ?_
  show pl E YL_law (b, N0, xs) room_1 K (uc + 1) (us + 6) 344 [none, some (.ref 0), some (.ref 115), some (.ref 165), some (.int (zI (i))), some (.int (zI (T))), q6] [.int (zI ((xs (i + 1).toNat).toInt)), .ref 115] h_9 n_9
  refine pl_callV (As := [.int (zI ((xs (i + 1).toNat).toInt))]) (b := 115) (rm := rmD 1 0 0) (rJ_focus htr hM9 hW hHH (by omega) hH (by omega) hj) rfl hM9.1 rfl rfl ywX10_focus rfl cwL_93 ⟨nle rfl, nle rfl⟩ (nle rfl) ⟨by show uc + 1 ≤ 601024; omega, by show us + 6 ≤ 7293000; omega⟩ dL_law_344 ?_
  intro r_8 h_8 n_8 hq _
  obtain ⟨e1, s8, hM8, hH8, ⟨f0, f47, f48⟩, hF8, e4⟩ := hq
  have hTb := jFoc_T hj
  rw [e1, e4]
  show pl E YL_law (b, N0, xs) room_1 K (uc + 1) (us + 6) 347 [none, some (.ref 0), some (.ref 115), some (.ref 165), some (.int (zI (i))), some (.int (zI (T))), q6] [] h_8 n_9
  refine pl_aload_n dL_law_347 rfl ?_
  refine pl_callV (As := []) (b := 115) (rm := rmD 0 0 0) (nR_thrown htr hM8) rfl hM8.1 rfl rfl ywX10_thrown rfl cwL_94 ⟨nle rfl, nle rfl⟩ (nle rfl) ⟨by show uc + 1 ≤ 601024; omega, by show us + 6 ≤ 7293000; omega⟩ dL_law_348 ?_
  intro r_7 h_7 n_7 hq _
  rw [hq.1, hq.2.1, hq.2.2, f0]
  show pl E YL_law (b, N0, xs) room_1 K (uc + 1) (us + 6) 351 [none, some (.ref 0), some (.ref 115), some (.ref 165), some (.int (zI (i))), some (.int (zI (T))), q6] [.int (zI (T))] h_8 n_9
  refine pl_iload dL_law_351 rfl ?_
  refine pl_icmp_eq (tgt := 358) dL_law_353 rfl (by omega) (by omega) (fun c353 => ?_) (fun c353 => ?_)
  ·
    refine pl_goto (tgt := 750) dL_law_358 rfl ?_
    exact kk h_8 n_9 t _ _ (uc + 1) (us + 6) (by omega) (by omega) (by omega) (jJ_of hC9 ho9 hM8 hH8 f47 f48 hF8 (Int.le_refl _))
  · exfalso; omega
set_option maxHeartbeats 2000000 in
set_option maxRecDepth 100000 in
theorem lz_copy {E : pw_E} (htr : E.1.stackTraces = false) {K : pw_K} {b N0 uc us : Nat} {xs : Nat → Int32} {h : pz_H} {i : Int} {q5 q6 : Option Value} {W H M : Int} {N NH NB NL n : Nat} {t : aT} (hN0 : N0 ≤ 3074) (hi : 2 ≤ i ∧ i + 6 ≤ N0) (hu : uc + 4 ≤ 601024) (hs : us + 28 ≤ 7293000) (hG : geoH W H N NH NB NL) (hM : 0 ≤ M ∧ M + 400 ≤ 800000000) (hn : 166 ≤ n) (hJ : jJ W H M N NH NB NL n t h) (kk : ∀ (h' : pz_H) (n' : Nat) (t' : aT) (q5 q6 : Option Value) (uc' us' : Nat), uc' ≤ uc + 4 → us' ≤ us + 28 → 166 ≤ n' → jJ W H (M + 400) N NH NB NL n' t' h' → pl E YL_law (b, N0, xs) room_1 K uc' us' 750 [none, some (.ref 0), some (.ref 115), some (.ref 165), some (.int (zI i)), q5, q6] [] h' n') : pl E YL_law (b, N0, xs) room_1 K uc us 361 [none, some (.ref 0), some (.ref 115), some (.ref 165), some (.int (zI i)), q5, q6] [] h n := by
  have hW := hG.1.1
  have hHH := hG.1.2.1
  obtain ⟨x, s, f9, hC, hA, hH, ho⟩ := hJ
  obtain ⟨f, g, hfr, hfm, hgm, hfg⟩ := fg_ex hH.1 hH.2.1
  have hnc := cH_nc hC hn
  have r1 := i32 (xs (i + 1).toNat)
  have r2 := i32 (xs (i + 2).toNat)
  have r3 := i32 (xs (i + 3).toNat)
  have r4 := i32 (xs (i + 4).toNat)
  have r5 := i32 (xs (i + 5).toNat)
  refine pl_aload_n dL_law_361 rfl ?_
  refine pl_sld (a0 := 0) (i := i) (k := 1) (a1 := 363) (a2 := 365) (a3 := 366) (a4 := 367) rfl rfl rfl rfl rfl (by show 0 ≤ i + 1 ∧ i + 1 < (N0 : Int); omega) (by show N0 < 2147483648; omega) dL_law_362 dL_law_363 dL_law_365 dL_law_366 dL_law_367 ?_
  show pl E YL_law (b, N0, xs) room_1 K uc us 368 [none, some (.ref 0), some (.ref 115), some (.ref 165), some (.int (zI (i))), q5, q6] [.int (zI ((xs (i + 1).toNat).toInt)), .ref 0] h n
  refine pl_sld (a0 := 0) (i := i) (k := 2) (a1 := 369) (a2 := 371) (a3 := 372) (a4 := 373) rfl rfl rfl rfl rfl (by show 0 ≤ i + 2 ∧ i + 2 < (N0 : Int); omega) (by show N0 < 2147483648; omega) dL_law_368 dL_law_369 dL_law_371 dL_law_372 dL_law_373 ?_
  show pl E YL_law (b, N0, xs) room_1 K uc us 374 [none, some (.ref 0), some (.ref 115), some (.ref 165), some (.int (zI (i))), q5, q6] [.int (zI ((xs (i + 2).toNat).toInt)), .int (zI ((xs (i + 1).toNat).toInt)), .ref 0] h n
  refine pl_if_eq (tgt := 381) dL_law_374 rfl (by omega) (fun c374 => ?_) (fun c374 => ?_)
  ·
    refine pl_iconst (v := zI (0)) dL_law_381 (by decide) ?_
    refine pl_sld (a0 := 0) (i := i) (k := 3) (a1 := 383) (a2 := 385) (a3 := 386) (a4 := 387) rfl rfl rfl rfl rfl (by show 0 ≤ i + 3 ∧ i + 3 < (N0 : Int); omega) (by show N0 < 2147483648; omega) dL_law_382 dL_law_383 dL_law_385 dL_law_386 dL_law_387 ?_
    show pl E YL_law (b, N0, xs) room_1 K uc us 388 [none, some (.ref 0), some (.ref 115), some (.ref 165), some (.int (zI (i))), q5, q6] [.int (zI ((xs (i + 3).toNat).toInt)), .int (zI (0)), .int (zI ((xs (i + 1).toNat).toInt)), .ref 0] h n
    refine pl_aload_n dL_law_388 rfl ?_
    refine pl_callSH (k := 5) (As := [.ref 0, .int (zI ((xs (i + 1).toNat).toInt)), .int (zI (0)), .int (zI ((xs (i + 3).toNat).toInt)), .ref 165]) (rm := rmD (7 + 1) 1 6) (wV_copy htr hG hC (by omega) hn (by omega) (by omega) (by omega) (by omega) ho) rfl rfl whL_copy ⟨by decide +kernel, by decide +kernel, by decide +kernel⟩ ⟨cwL_98.1, cwL_98.2, iniL⟩ ⟨nle rfl, nle rfl⟩ (nle rfl) ⟨by show uc + 1 ≤ 601024; omega, by show us + 6 ≤ 7293000; omega⟩ dL_law_389 ?_
    intro r_9 h_9 n_9 hq hn9
    obtain ⟨⟨v9, e1⟩, ⟨x9, hC9⟩, hk9, ⟨g9, ho9, hV9⟩, hn1, hn2⟩ := hq
    rw [e1]
    show pl E YL_law (b, N0, xs) room_1 K (uc + 1) (us + 6) 392 [none, some (.ref 0), some (.ref 115), some (.ref 165), some (.int (zI (i))), q5, q6] [.int (zI (v9))] h_9 n_9
    have hM9 : mAt 115 s h_9 := mAt_kp hA (fun a a1 a2 => hk9 a a1 (by omega))
    refine pl_istore (lv' := [none, some (.ref 0), some (.ref 115), some (.ref 165), some (.int (zI (i))), some (.int (zI (v9))), q6]) dL_law_392 (by decide) (by decide) rfl rfl ?_
    refine pl_aload_n dL_law_394 rfl ?_
    refine pl_sld (a0 := 0) (i := i) (k := 1) (a1 := 396) (a2 := 398) (a3 := 399) (a4 := 400) rfl rfl rfl rfl rfl (by show 0 ≤ i + 1 ∧ i + 1 < (N0 : Int); omega) (by show N0 < 2147483648; omega) dL_law_395 dL_law_396 dL_law_398 dL_law_399 dL_law_400 ?_
    show pl E YL_law (b, N0, xs) room_1 K (uc + 1) (us + 6) 401 [none, some (.ref 0), some (.ref 115), some (.ref 165), some (.int (zI (i))), some (.int (zI (v9))), q6] [.int (zI ((xs (i + 1).toNat).toInt)), .ref 115] h_9 n_9
    refine pl_sld (a0 := 0) (i := i) (k := 2) (a1 := 402) (a2 := 404) (a3 := 405) (a4 := 406) rfl rfl rfl rfl rfl (by show 0 ≤ i + 2 ∧ i + 2 < (N0 : Int); omega) (by show N0 < 2147483648; omega) dL_law_401 dL_law_402 dL_law_404 dL_law_405 dL_law_406 ?_
    show pl E YL_law (b, N0, xs) room_1 K (uc + 1) (us + 6) 407 [none, some (.ref 0), some (.ref 115), some (.ref 165), some (.int (zI (i))), some (.int (zI (v9))), q6] [.int (zI ((xs (i + 2).toNat).toInt)), .int (zI ((xs (i + 1).toNat).toInt)), .ref 115] h_9 n_9
    refine pl_if_eq (tgt := 414) dL_law_407 rfl (by omega) (fun c407 => ?_) (fun c407 => ?_)
    ·
      refine pl_iconst (v := zI (0)) dL_law_414 (by decide) ?_
      refine pl_sld (a0 := 0) (i := i) (k := 3) (a1 := 416) (a2 := 418) (a3 := 419) (a4 := 420) rfl rfl rfl rfl rfl (by show 0 ≤ i + 3 ∧ i + 3 < (N0 : Int); omega) (by show N0 < 2147483648; omega) dL_law_415 dL_law_416 dL_law_418 dL_law_419 dL_law_420 ?_
      show pl E YL_law (b, N0, xs) room_1 K (uc + 1) (us + 6) 421 [none, some (.ref 0), some (.ref 115), some (.ref 165), some (.int (zI (i))), some (.int (zI (v9))), q6] [.int (zI ((xs (i + 3).toNat).toInt)), .int (zI (0)), .int (zI ((xs (i + 1).toNat).toInt)), .ref 115] h_9 n_9
      refine pl_callV (As := [.int (zI ((xs (i + 1).toNat).toInt)), .int (zI (0)), .int (zI ((xs (i + 3).toNat).toInt))]) (b := 115) (rm := rmD 3 0 0) (nG_copy htr hM9 hW hHH (by omega) hH (by omega) (by omega) (by omega) (by omega)) rfl hM9.1 rfl rfl ywX10_copy rfl cwL_101 ⟨nle rfl, nle rfl⟩ (nle rfl) ⟨by show uc + 1 ≤ 601024; omega, by show us + 6 ≤ 7293000; omega⟩ dL_law_421 ?_
      intro r_8 h_8 n_8 hq _
      obtain ⟨⟨w8, e1⟩, s8, hM8, hH8, ⟨f47, f48⟩, hF8, e4⟩ := hq
      rw [e1, e4]
      show pl E YL_law (b, N0, xs) room_1 K (uc + 1) (us + 6) 424 [none, some (.ref 0), some (.ref 115), some (.ref 165), some (.int (zI (i))), some (.int (zI (v9))), q6] [.int (zI (w8))] h_8 n_9
      refine pl_istore (lv' := [none, some (.ref 0), some (.ref 115), some (.ref 165), some (.int (zI (i))), some (.int (zI (v9))), some (.int (zI (w8)))]) dL_law_424 (by decide) (by decide) rfl rfl ?_
      refine pl_goto (tgt := 750) dL_law_426 rfl ?_
      exact kk h_8 n_9 t _ _ (uc + 1) (us + 6) (by omega) (by omega) (by omega) (jJ_of hC9 ho9 hM8 (rH_mo hH8 (by omega)) f47 f48 hF8 (Int.le_refl _))
    · exfalso; omega
  ·
    refine pl_iconst (v := zI (1)) dL_law_377 (by decide) ?_
    refine pl_goto (tgt := 382) dL_law_378 rfl ?_
    refine pl_sld (a0 := 0) (i := i) (k := 3) (a1 := 383) (a2 := 385) (a3 := 386) (a4 := 387) rfl rfl rfl rfl rfl (by show 0 ≤ i + 3 ∧ i + 3 < (N0 : Int); omega) (by show N0 < 2147483648; omega) dL_law_382 dL_law_383 dL_law_385 dL_law_386 dL_law_387 ?_
    show pl E YL_law (b, N0, xs) room_1 K uc us 388 [none, some (.ref 0), some (.ref 115), some (.ref 165), some (.int (zI (i))), q5, q6] [.int (zI ((xs (i + 3).toNat).toInt)), .int (zI (1)), .int (zI ((xs (i + 1).toNat).toInt)), .ref 0] h n
    refine pl_aload_n dL_law_388 rfl ?_
    refine pl_callSH (k := 5) (As := [.ref 0, .int (zI ((xs (i + 1).toNat).toInt)), .int (zI (1)), .int (zI ((xs (i + 3).toNat).toInt)), .ref 165]) (rm := rmD (7 + 1) 1 6) (wV_copy htr hG hC (by omega) hn (by omega) (by omega) (by omega) (by omega) ho) rfl rfl whL_copy ⟨by decide +kernel, by decide +kernel, by decide +kernel⟩ ⟨cwL_98.1, cwL_98.2, iniL⟩ ⟨nle rfl, nle rfl⟩ (nle rfl) ⟨by show uc + 1 ≤ 601024; omega, by show us + 6 ≤ 7293000; omega⟩ dL_law_389 ?_
    intro r_9 h_9 n_9 hq hn9
    obtain ⟨⟨v9, e1⟩, ⟨x9, hC9⟩, hk9, ⟨g9, ho9, hV9⟩, hn1, hn2⟩ := hq
    rw [e1]
    show pl E YL_law (b, N0, xs) room_1 K (uc + 1) (us + 6) 392 [none, some (.ref 0), some (.ref 115), some (.ref 165), some (.int (zI (i))), q5, q6] [.int (zI (v9))] h_9 n_9
    have hM9 : mAt 115 s h_9 := mAt_kp hA (fun a a1 a2 => hk9 a a1 (by omega))
    refine pl_istore (lv' := [none, some (.ref 0), some (.ref 115), some (.ref 165), some (.int (zI (i))), some (.int (zI (v9))), q6]) dL_law_392 (by decide) (by decide) rfl rfl ?_
    refine pl_aload_n dL_law_394 rfl ?_
    refine pl_sld (a0 := 0) (i := i) (k := 1) (a1 := 396) (a2 := 398) (a3 := 399) (a4 := 400) rfl rfl rfl rfl rfl (by show 0 ≤ i + 1 ∧ i + 1 < (N0 : Int); omega) (by show N0 < 2147483648; omega) dL_law_395 dL_law_396 dL_law_398 dL_law_399 dL_law_400 ?_
    show pl E YL_law (b, N0, xs) room_1 K (uc + 1) (us + 6) 401 [none, some (.ref 0), some (.ref 115), some (.ref 165), some (.int (zI (i))), some (.int (zI (v9))), q6] [.int (zI ((xs (i + 1).toNat).toInt)), .ref 115] h_9 n_9
    refine pl_sld (a0 := 0) (i := i) (k := 2) (a1 := 402) (a2 := 404) (a3 := 405) (a4 := 406) rfl rfl rfl rfl rfl (by show 0 ≤ i + 2 ∧ i + 2 < (N0 : Int); omega) (by show N0 < 2147483648; omega) dL_law_401 dL_law_402 dL_law_404 dL_law_405 dL_law_406 ?_
    show pl E YL_law (b, N0, xs) room_1 K (uc + 1) (us + 6) 407 [none, some (.ref 0), some (.ref 115), some (.ref 165), some (.int (zI (i))), some (.int (zI (v9))), q6] [.int (zI ((xs (i + 2).toNat).toInt)), .int (zI ((xs (i + 1).toNat).toInt)), .ref 115] h_9 n_9
    refine pl_if_eq (tgt := 414) dL_law_407 rfl (by omega) (fun c407 => ?_) (fun c407 => ?_)
    · exfalso; omega
    ·
      refine pl_iconst (v := zI (1)) dL_law_410 (by decide) ?_
      refine pl_goto (tgt := 415) dL_law_411 rfl ?_
      refine pl_sld (a0 := 0) (i := i) (k := 3) (a1 := 416) (a2 := 418) (a3 := 419) (a4 := 420) rfl rfl rfl rfl rfl (by show 0 ≤ i + 3 ∧ i + 3 < (N0 : Int); omega) (by show N0 < 2147483648; omega) dL_law_415 dL_law_416 dL_law_418 dL_law_419 dL_law_420 ?_
      show pl E YL_law (b, N0, xs) room_1 K (uc + 1) (us + 6) 421 [none, some (.ref 0), some (.ref 115), some (.ref 165), some (.int (zI (i))), some (.int (zI (v9))), q6] [.int (zI ((xs (i + 3).toNat).toInt)), .int (zI (1)), .int (zI ((xs (i + 1).toNat).toInt)), .ref 115] h_9 n_9
      refine pl_callV (As := [.int (zI ((xs (i + 1).toNat).toInt)), .int (zI (1)), .int (zI ((xs (i + 3).toNat).toInt))]) (b := 115) (rm := rmD 3 0 0) (nG_copy htr hM9 hW hHH (by omega) hH (by omega) (by omega) (by omega) (by omega)) rfl hM9.1 rfl rfl ywX10_copy rfl cwL_101 ⟨nle rfl, nle rfl⟩ (nle rfl) ⟨by show uc + 1 ≤ 601024; omega, by show us + 6 ≤ 7293000; omega⟩ dL_law_421 ?_
      intro r_8 h_8 n_8 hq _
      obtain ⟨⟨w8, e1⟩, s8, hM8, hH8, ⟨f47, f48⟩, hF8, e4⟩ := hq
      rw [e1, e4]
      show pl E YL_law (b, N0, xs) room_1 K (uc + 1) (us + 6) 424 [none, some (.ref 0), some (.ref 115), some (.ref 165), some (.int (zI (i))), some (.int (zI (v9))), q6] [.int (zI (w8))] h_8 n_9
      refine pl_istore (lv' := [none, some (.ref 0), some (.ref 115), some (.ref 165), some (.int (zI (i))), some (.int (zI (v9))), some (.int (zI (w8)))]) dL_law_424 (by decide) (by decide) rfl rfl ?_
      refine pl_goto (tgt := 750) dL_law_426 rfl ?_
      exact kk h_8 n_9 t _ _ (uc + 1) (us + 6) (by omega) (by omega) (by omega) (jJ_of hC9 ho9 hM8 (rH_mo hH8 (by omega)) f47 f48 hF8 (Int.le_refl _))
set_option maxHeartbeats 2000000 in
set_option maxRecDepth 100000 in
theorem lz_select {E : pw_E} (htr : E.1.stackTraces = false) {K : pw_K} {b N0 uc us : Nat} {xs : Nat → Int32} {h : pz_H} {i : Int} {q5 q6 : Option Value} {W H M : Int} {N NH NB NL n : Nat} {t : aT} (hN0 : N0 ≤ 3074) (hi : 2 ≤ i ∧ i + 6 ≤ N0) (hu : uc + 4 ≤ 601024) (hs : us + 28 ≤ 7293000) (hG : geoH W H N NH NB NL) (hM : 0 ≤ M ∧ M + 400 ≤ 800000000) (hn : 166 ≤ n) (hJ : jJ W H M N NH NB NL n t h) (kk : ∀ (h' : pz_H) (n' : Nat) (t' : aT) (q5 q6 : Option Value) (uc' us' : Nat), uc' ≤ uc + 4 → us' ≤ us + 28 → 166 ≤ n' → jJ W H (M + 400) N NH NB NL n' t' h' → pl E YL_law (b, N0, xs) room_1 K uc' us' 750 [none, some (.ref 0), some (.ref 115), some (.ref 165), some (.int (zI i)), q5, q6] [] h' n') : pl E YL_law (b, N0, xs) room_1 K uc us 429 [none, some (.ref 0), some (.ref 115), some (.ref 165), some (.int (zI i)), q5, q6] [] h n := by
  have hW := hG.1.1
  have hHH := hG.1.2.1
  obtain ⟨x, s, f9, hC, hA, hH, ho⟩ := hJ
  obtain ⟨f, g, hfr, hfm, hgm, hfg⟩ := fg_ex hH.1 hH.2.1
  have hnc := cH_nc hC hn
  have r1 := i32 (xs (i + 1).toNat)
  have r2 := i32 (xs (i + 2).toNat)
  have r3 := i32 (xs (i + 3).toNat)
  have r4 := i32 (xs (i + 4).toNat)
  have r5 := i32 (xs (i + 5).toNat)
  refine pl_aload_n dL_law_429 rfl ?_
  refine pl_sld (a0 := 0) (i := i) (k := 1) (a1 := 431) (a2 := 433) (a3 := 434) (a4 := 435) rfl rfl rfl rfl rfl (by show 0 ≤ i + 1 ∧ i + 1 < (N0 : Int); omega) (by show N0 < 2147483648; omega) dL_law_430 dL_law_431 dL_law_433 dL_law_434 dL_law_435 ?_
  show pl E YL_law (b, N0, xs) room_1 K uc us 436 [none, some (.ref 0), some (.ref 115), some (.ref 165), some (.int (zI (i))), q5, q6] [.int (zI ((xs (i + 1).toNat).toInt)), .ref 0] h n
  refine pl_sld (a0 := 0) (i := i) (k := 2) (a1 := 437) (a2 := 439) (a3 := 440) (a4 := 441) rfl rfl rfl rfl rfl (by show 0 ≤ i + 2 ∧ i + 2 < (N0 : Int); omega) (by show N0 < 2147483648; omega) dL_law_436 dL_law_437 dL_law_439 dL_law_440 dL_law_441 ?_
  show pl E YL_law (b, N0, xs) room_1 K uc us 442 [none, some (.ref 0), some (.ref 115), some (.ref 165), some (.int (zI (i))), q5, q6] [.int (zI ((xs (i + 2).toNat).toInt)), .int (zI ((xs (i + 1).toNat).toInt)), .ref 0] h n
  refine pl_sld (a0 := 0) (i := i) (k := 3) (a1 := 443) (a2 := 445) (a3 := 446) (a4 := 447) rfl rfl rfl rfl rfl (by show 0 ≤ i + 3 ∧ i + 3 < (N0 : Int); omega) (by show N0 < 2147483648; omega) dL_law_442 dL_law_443 dL_law_445 dL_law_446 dL_law_447 ?_
  show pl E YL_law (b, N0, xs) room_1 K uc us 448 [none, some (.ref 0), some (.ref 115), some (.ref 165), some (.int (zI (i))), q5, q6] [.int (zI ((xs (i + 3).toNat).toInt)), .int (zI ((xs (i + 2).toNat).toInt)), .int (zI ((xs (i + 1).toNat).toInt)), .ref 0] h n
  refine pl_sld (a0 := 0) (i := i) (k := 4) (a1 := 449) (a2 := 451) (a3 := 452) (a4 := 453) rfl rfl rfl rfl rfl (by show 0 ≤ i + 4 ∧ i + 4 < (N0 : Int); omega) (by show N0 < 2147483648; omega) dL_law_448 dL_law_449 dL_law_451 dL_law_452 dL_law_453 ?_
  show pl E YL_law (b, N0, xs) room_1 K uc us 454 [none, some (.ref 0), some (.ref 115), some (.ref 165), some (.int (zI (i))), q5, q6] [.int (zI ((xs (i + 4).toNat).toInt)), .int (zI ((xs (i + 3).toNat).toInt)), .int (zI ((xs (i + 2).toNat).toInt)), .int (zI ((xs (i + 1).toNat).toInt)), .ref 0] h n
  refine pl_sld (a0 := 0) (i := i) (k := 5) (a1 := 455) (a2 := 457) (a3 := 458) (a4 := 459) rfl rfl rfl rfl rfl (by show 0 ≤ i + 5 ∧ i + 5 < (N0 : Int); omega) (by show N0 < 2147483648; omega) dL_law_454 dL_law_455 dL_law_457 dL_law_458 dL_law_459 ?_
  show pl E YL_law (b, N0, xs) room_1 K uc us 460 [none, some (.ref 0), some (.ref 115), some (.ref 165), some (.int (zI (i))), q5, q6] [.int (zI ((xs (i + 5).toNat).toInt)), .int (zI ((xs (i + 4).toNat).toInt)), .int (zI ((xs (i + 3).toNat).toInt)), .int (zI ((xs (i + 2).toNat).toInt)), .int (zI ((xs (i + 1).toNat).toInt)), .ref 0] h n
  refine pl_aload_n dL_law_460 rfl ?_
  refine pl_callSH (k := 7) (As := [.ref 0, .int (zI ((xs (i + 1).toNat).toInt)), .int (zI ((xs (i + 2).toNat).toInt)), .int (zI ((xs (i + 3).toNat).toInt)), .int (zI ((xs (i + 4).toNat).toInt)), .int (zI ((xs (i + 5).toNat).toInt)), .ref 165]) (rm := rmD (7 + 1) 4 24) (wV_select htr hG hC (by omega) hn (by omega) (by omega) (by omega) (by omega) (by omega) ho) rfl rfl whL_select ⟨by decide +kernel, by decide +kernel, by decide +kernel⟩ ⟨cwL_102.1, cwL_102.2, iniL⟩ ⟨nle rfl, nle rfl⟩ (nle rfl) ⟨by show uc + 4 ≤ 601024; omega, by show us + 24 ≤ 7293000; omega⟩ dL_law_461 ?_
  intro r_9 h_9 n_9 hq hn9
  obtain ⟨⟨v9, e1⟩, ⟨x9, hC9⟩, hk9, ⟨g9, ho9, hV9⟩, hn1, hn2⟩ := hq
  rw [e1]
  show pl E YL_law (b, N0, xs) room_1 K (uc + 4) (us + 24) 464 [none, some (.ref 0), some (.ref 115), some (.ref 165), some (.int (zI (i))), q5, q6] [.int (zI (v9))] h_9 n_9
  have hM9 : mAt 115 s h_9 := mAt_kp hA (fun a a1 a2 => hk9 a a1 (by omega))
  refine pl_istore (lv' := [none, some (.ref 0), some (.ref 115), some (.ref 165), some (.int (zI (i))), some (.int (zI (v9))), q6]) dL_law_464 (by decide) (by decide) rfl rfl ?_
  refine pl_aload_n dL_law_466 rfl ?_
  refine pl_sld (a0 := 0) (i := i) (k := 1) (a1 := 468) (a2 := 470) (a3 := 471) (a4 := 472) rfl rfl rfl rfl rfl (by show 0 ≤ i + 1 ∧ i + 1 < (N0 : Int); omega) (by show N0 < 2147483648; omega) dL_law_467 dL_law_468 dL_law_470 dL_law_471 dL_law_472 ?_
  show pl E YL_law (b, N0, xs) room_1 K (uc + 4) (us + 24) 473 [none, some (.ref 0), some (.ref 115), some (.ref 165), some (.int (zI (i))), some (.int (zI (v9))), q6] [.int (zI ((xs (i + 1).toNat).toInt)), .ref 115] h_9 n_9
  refine pl_sld (a0 := 0) (i := i) (k := 2) (a1 := 474) (a2 := 476) (a3 := 477) (a4 := 478) rfl rfl rfl rfl rfl (by show 0 ≤ i + 2 ∧ i + 2 < (N0 : Int); omega) (by show N0 < 2147483648; omega) dL_law_473 dL_law_474 dL_law_476 dL_law_477 dL_law_478 ?_
  show pl E YL_law (b, N0, xs) room_1 K (uc + 4) (us + 24) 479 [none, some (.ref 0), some (.ref 115), some (.ref 165), some (.int (zI (i))), some (.int (zI (v9))), q6] [.int (zI ((xs (i + 2).toNat).toInt)), .int (zI ((xs (i + 1).toNat).toInt)), .ref 115] h_9 n_9
  refine pl_sld (a0 := 0) (i := i) (k := 3) (a1 := 480) (a2 := 482) (a3 := 483) (a4 := 484) rfl rfl rfl rfl rfl (by show 0 ≤ i + 3 ∧ i + 3 < (N0 : Int); omega) (by show N0 < 2147483648; omega) dL_law_479 dL_law_480 dL_law_482 dL_law_483 dL_law_484 ?_
  show pl E YL_law (b, N0, xs) room_1 K (uc + 4) (us + 24) 485 [none, some (.ref 0), some (.ref 115), some (.ref 165), some (.int (zI (i))), some (.int (zI (v9))), q6] [.int (zI ((xs (i + 3).toNat).toInt)), .int (zI ((xs (i + 2).toNat).toInt)), .int (zI ((xs (i + 1).toNat).toInt)), .ref 115] h_9 n_9
  refine pl_sld (a0 := 0) (i := i) (k := 4) (a1 := 486) (a2 := 488) (a3 := 489) (a4 := 490) rfl rfl rfl rfl rfl (by show 0 ≤ i + 4 ∧ i + 4 < (N0 : Int); omega) (by show N0 < 2147483648; omega) dL_law_485 dL_law_486 dL_law_488 dL_law_489 dL_law_490 ?_
  show pl E YL_law (b, N0, xs) room_1 K (uc + 4) (us + 24) 491 [none, some (.ref 0), some (.ref 115), some (.ref 165), some (.int (zI (i))), some (.int (zI (v9))), q6] [.int (zI ((xs (i + 4).toNat).toInt)), .int (zI ((xs (i + 3).toNat).toInt)), .int (zI ((xs (i + 2).toNat).toInt)), .int (zI ((xs (i + 1).toNat).toInt)), .ref 115] h_9 n_9
  refine pl_sld (a0 := 0) (i := i) (k := 5) (a1 := 492) (a2 := 494) (a3 := 495) (a4 := 496) rfl rfl rfl rfl rfl (by show 0 ≤ i + 5 ∧ i + 5 < (N0 : Int); omega) (by show N0 < 2147483648; omega) dL_law_491 dL_law_492 dL_law_494 dL_law_495 dL_law_496 ?_
  show pl E YL_law (b, N0, xs) room_1 K (uc + 4) (us + 24) 497 [none, some (.ref 0), some (.ref 115), some (.ref 165), some (.int (zI (i))), some (.int (zI (v9))), q6] [.int (zI ((xs (i + 5).toNat).toInt)), .int (zI ((xs (i + 4).toNat).toInt)), .int (zI ((xs (i + 3).toNat).toInt)), .int (zI ((xs (i + 2).toNat).toInt)), .int (zI ((xs (i + 1).toNat).toInt)), .ref 115] h_9 n_9
  refine pl_callV (As := [.int (zI ((xs (i + 1).toNat).toInt)), .int (zI ((xs (i + 2).toNat).toInt)), .int (zI ((xs (i + 3).toNat).toInt)), .int (zI ((xs (i + 4).toNat).toInt)), .int (zI ((xs (i + 5).toNat).toInt))]) (b := 115) (rm := rmD 4 0 0) (nG_select htr hM9 hW hHH (by omega) hH (by omega) (by omega) (by omega) (by omega) (by omega)) rfl hM9.1 rfl rfl ywX10_select rfl cwL_105 ⟨nle rfl, nle rfl⟩ (nle rfl) ⟨by show uc + 4 ≤ 601024; omega, by show us + 24 ≤ 7293000; omega⟩ dL_law_497 ?_
  intro r_8 h_8 n_8 hq _
  obtain ⟨⟨w8, e1⟩, s8, hM8, hH8, ⟨f47, f48⟩, hF8, e4⟩ := hq
  rw [e1, e4]
  show pl E YL_law (b, N0, xs) room_1 K (uc + 4) (us + 24) 500 [none, some (.ref 0), some (.ref 115), some (.ref 165), some (.int (zI (i))), some (.int (zI (v9))), q6] [.int (zI (w8))] h_8 n_9
  refine pl_istore (lv' := [none, some (.ref 0), some (.ref 115), some (.ref 165), some (.int (zI (i))), some (.int (zI (v9))), some (.int (zI (w8)))]) dL_law_500 (by decide) (by decide) rfl rfl ?_
  refine pl_goto (tgt := 750) dL_law_502 rfl ?_
  exact kk h_8 n_9 t _ _ (uc + 4) (us + 24) (by omega) (by omega) (by omega) (jJ_of hC9 ho9 hM8 (rH_mo hH8 (by omega)) f47 f48 hF8 (Int.le_refl _))
set_option maxHeartbeats 2000000 in
set_option maxRecDepth 100000 in
theorem lz_redraw {E : pw_E} (htr : E.1.stackTraces = false) {K : pw_K} {b N0 uc us : Nat} {xs : Nat → Int32} {h : pz_H} {i : Int} {q5 q6 : Option Value} {W H M : Int} {N NH NB NL n : Nat} {t : aT} (hN0 : N0 ≤ 3074) (hi : 2 ≤ i ∧ i + 6 ≤ N0) (hu : uc + 4 ≤ 601024) (hs : us + 28 ≤ 7293000) (hG : geoH W H N NH NB NL) (hM : 0 ≤ M ∧ M + 400 ≤ 800000000) (hn : 166 ≤ n) (hJ : jJ W H M N NH NB NL n t h) (kk : ∀ (h' : pz_H) (n' : Nat) (t' : aT) (q5 q6 : Option Value) (uc' us' : Nat), uc' ≤ uc + 4 → us' ≤ us + 28 → 166 ≤ n' → jJ W H (M + 400) N NH NB NL n' t' h' → pl E YL_law (b, N0, xs) room_1 K uc' us' 750 [none, some (.ref 0), some (.ref 115), some (.ref 165), some (.int (zI i)), q5, q6] [] h' n') : pl E YL_law (b, N0, xs) room_1 K uc us 505 [none, some (.ref 0), some (.ref 115), some (.ref 165), some (.int (zI i)), q5, q6] [] h n := by
  have hW := hG.1.1
  have hHH := hG.1.2.1
  obtain ⟨x, s, f9, hC, hA, hH, ho⟩ := hJ
  obtain ⟨f, g, hfr, hfm, hgm, hfg⟩ := fg_ex hH.1 hH.2.1
  have hnc := cH_nc hC hn
  have r1 := i32 (xs (i + 1).toNat)
  have r2 := i32 (xs (i + 2).toNat)
  have r3 := i32 (xs (i + 3).toNat)
  have r4 := i32 (xs (i + 4).toNat)
  have r5 := i32 (xs (i + 5).toNat)
  refine pl_aload_n dL_law_505 rfl ?_
  refine pl_callV (As := []) (b := 0) (rm := rmD 14 0 0) (cV_redraw htr hG hC (by omega) hn) rfl hC.1.1 rfl rfl ywX9_redraw rfl cwL_106 ⟨nle rfl, nle rfl⟩ (nle rfl) ⟨by show uc ≤ 601024; omega, by show us ≤ 7293000; omega⟩ dL_law_506 ?_
  intro r_9 h_9 n_9 hq hn9
  obtain ⟨⟨v9, -, e1⟩, ⟨x9, hC9⟩, hk9, hn1, hn2⟩ := hq
  rw [e1]
  show pl E YL_law (b, N0, xs) room_1 K uc us 509 [none, some (.ref 0), some (.ref 115), some (.ref 165), some (.int (zI (i))), q5, q6] [.int (zI (v9))] h_9 n_9
  have ho9 := (hk9 165 (by omega) (by omega)).trans ho
  have hM9 : mAt 115 s h_9 := mAt_kp hA (fun a a1 a2 => hk9 a a1 (by omega))
  refine pl_pop dL_law_509 rfl ?_
  refine pl_aload_n dL_law_510 rfl ?_
  refine pl_callV (As := []) (b := 115) (rm := rmD 4 0 0) (nG_redraw htr hM9 hW hHH (by omega) hH) rfl hM9.1 rfl rfl ywX10_redraw rfl cwL_109 ⟨nle rfl, nle rfl⟩ (nle rfl) ⟨by show uc ≤ 601024; omega, by show us ≤ 7293000; omega⟩ dL_law_511 ?_
  intro r_8 h_8 n_8 hq _
  obtain ⟨⟨w8, e1⟩, s8, hM8, hH8, ⟨f47, f48⟩, hF8, e4⟩ := hq
  rw [e1, e4]
  show pl E YL_law (b, N0, xs) room_1 K uc us 514 [none, some (.ref 0), some (.ref 115), some (.ref 165), some (.int (zI (i))), q5, q6] [.int (zI (w8))] h_8 n_9
  refine pl_pop dL_law_514 rfl ?_
  refine pl_goto (tgt := 750) dL_law_515 rfl ?_
  exact kk h_8 n_9 t _ _ (uc) (us) (by omega) (by omega) (by omega) (jJ_of hC9 ho9 hM8 (rH_mo hH8 (by omega)) f47 f48 hF8 (Int.le_refl _))
set_option maxHeartbeats 2000000 in
set_option maxRecDepth 100000 in
theorem lz_out {E : pw_E} (htr : E.1.stackTraces = false) {K : pw_K} {b N0 uc us : Nat} {xs : Nat → Int32} {h : pz_H} {i : Int} {q5 q6 : Option Value} {W H M : Int} {N NH NB NL n : Nat} {t : aT} (hN0 : N0 ≤ 3074) (hi : 2 ≤ i ∧ i + 6 ≤ N0) (hu : uc + 4 ≤ 601024) (hs : us + 28 ≤ 7293000) (hG : geoH W H N NH NB NL) (hM : 0 ≤ M ∧ M + 400 ≤ 800000000) (hn : 166 ≤ n) (hJ : jJ W H M N NH NB NL n t h) (kk : ∀ (h' : pz_H) (n' : Nat) (t' : aT) (q5 q6 : Option Value) (uc' us' : Nat), uc' ≤ uc + 4 → us' ≤ us + 28 → 166 ≤ n' → jJ W H (M + 400) N NH NB NL n' t' h' → pl E YL_law (b, N0, xs) room_1 K uc' us' 750 [none, some (.ref 0), some (.ref 115), some (.ref 165), some (.int (zI i)), q5, q6] [] h' n') : pl E YL_law (b, N0, xs) room_1 K uc us 518 [none, some (.ref 0), some (.ref 115), some (.ref 165), some (.int (zI i)), q5, q6] [] h n := by
  have hW := hG.1.1
  have hHH := hG.1.2.1
  obtain ⟨x, s, f9, hC, hA, hH, ho⟩ := hJ
  obtain ⟨f, g, hfr, hfm, hgm, hfg⟩ := fg_ex hH.1 hH.2.1
  have hnc := cH_nc hC hn
  have r1 := i32 (xs (i + 1).toNat)
  have r2 := i32 (xs (i + 2).toNat)
  have r3 := i32 (xs (i + 3).toNat)
  have r4 := i32 (xs (i + 4).toNat)
  have r5 := i32 (xs (i + 5).toNat)
  refine pl_aload_n dL_law_518 rfl ?_
  refine pl_sld (a0 := 0) (i := i) (k := 1) (a1 := 520) (a2 := 522) (a3 := 523) (a4 := 524) rfl rfl rfl rfl rfl (by show 0 ≤ i + 1 ∧ i + 1 < (N0 : Int); omega) (by show N0 < 2147483648; omega) dL_law_519 dL_law_520 dL_law_522 dL_law_523 dL_law_524 ?_
  show pl E YL_law (b, N0, xs) room_1 K uc us 525 [none, some (.ref 0), some (.ref 115), some (.ref 165), some (.int (zI (i))), q5, q6] [.int (zI ((xs (i + 1).toNat).toInt)), .ref 0] h n
  refine pl_aload_n dL_law_525 rfl ?_
  refine pl_callSH (k := 3) (As := [.ref 0, .int (zI ((xs (i + 1).toNat).toInt)), .ref 165]) (rm := rmD (6 + 1) 1 6) (wV_out htr hG hC (by omega) hn (by omega) ho) rfl rfl whL_out ⟨by decide +kernel, by decide +kernel, by decide +kernel⟩ ⟨cwL_110.1, cwL_110.2, iniL⟩ ⟨nle rfl, nle rfl⟩ (nle rfl) ⟨by show uc + 1 ≤ 601024; omega, by show us + 6 ≤ 7293000; omega⟩ dL_law_526 ?_
  intro r_9 h_9 n_9 hq hn9
  obtain ⟨⟨v9, e1⟩, ⟨x9, hC9⟩, hk9, ⟨g9, ho9, hV9⟩, hn1, hn2⟩ := hq
  rw [e1]
  show pl E YL_law (b, N0, xs) room_1 K (uc + 1) (us + 6) 529 [none, some (.ref 0), some (.ref 115), some (.ref 165), some (.int (zI (i))), q5, q6] [.int (zI (v9))] h_9 n_9
  have hM9 : mAt 115 s h_9 := mAt_kp hA (fun a a1 a2 => hk9 a a1 (by omega))
  refine pl_istore (lv' := [none, some (.ref 0), some (.ref 115), some (.ref 165), some (.int (zI (i))), some (.int (zI (v9))), q6]) dL_law_529 (by decide) (by decide) rfl rfl ?_
  refine pl_aload_n dL_law_531 rfl ?_
  refine pl_sld (a0 := 0) (i := i) (k := 1) (a1 := 533) (a2 := 535) (a3 := 536) (a4 := 537) rfl rfl rfl rfl rfl (by show 0 ≤ i + 1 ∧ i + 1 < (N0 : Int); omega) (by show N0 < 2147483648; omega) dL_law_532 dL_law_533 dL_law_535 dL_law_536 dL_law_537 ?_
  show pl E YL_law (b, N0, xs) room_1 K (uc + 1) (us + 6) 538 [none, some (.ref 0), some (.ref 115), some (.ref 165), some (.int (zI (i))), some (.int (zI (v9))), q6] [.int (zI ((xs (i + 1).toNat).toInt)), .ref 115] h_9 n_9
  refine pl_callV (As := [.int (zI ((xs (i + 1).toNat).toInt))]) (b := 115) (rm := rmD 0 0 0) (nG_out htr hM9 hW hHH (by omega) hH (by omega)) rfl hM9.1 rfl rfl ywX10_out rfl cwL_112 ⟨nle rfl, nle rfl⟩ (nle rfl) ⟨by show uc + 1 ≤ 601024; omega, by show us + 6 ≤ 7293000; omega⟩ dL_law_538 ?_
  intro r_8 h_8 n_8 hq _
  obtain ⟨⟨w8, e1⟩, s8, hM8, hH8, ⟨f47, f48⟩, hF8, e4⟩ := hq
  rw [e1, e4]
  show pl E YL_law (b, N0, xs) room_1 K (uc + 1) (us + 6) 541 [none, some (.ref 0), some (.ref 115), some (.ref 165), some (.int (zI (i))), some (.int (zI (v9))), q6] [.int (zI (w8))] h_8 n_9
  refine pl_istore (lv' := [none, some (.ref 0), some (.ref 115), some (.ref 165), some (.int (zI (i))), some (.int (zI (v9))), some (.int (zI (w8)))]) dL_law_541 (by decide) (by decide) rfl rfl ?_
  refine pl_goto (tgt := 750) dL_law_543 rfl ?_
  exact kk h_8 n_9 t _ _ (uc + 1) (us + 6) (by omega) (by omega) (by omega) (jJ_of hC9 ho9 hM8 (rH_mo hH8 (by omega)) f47 f48 hF8 (Int.le_refl _))
set_option maxHeartbeats 2000000 in
set_option maxRecDepth 100000 in
theorem lz_cell {E : pw_E} (htr : E.1.stackTraces = false) {K : pw_K} {b N0 uc us : Nat} {xs : Nat → Int32} {h : pz_H} {i : Int} {q5 q6 : Option Value} {W H M : Int} {N NH NB NL n : Nat} {t : aT} (hN0 : N0 ≤ 3074) (hi : 2 ≤ i ∧ i + 6 ≤ N0) (hu : uc + 4 ≤ 601024) (hs : us + 28 ≤ 7293000) (hG : geoH W H N NH NB NL) (hM : 0 ≤ M ∧ M + 400 ≤ 800000000) (hn : 166 ≤ n) (hJ : jJ W H M N NH NB NL n t h) (kk : ∀ (h' : pz_H) (n' : Nat) (t' : aT) (q5 q6 : Option Value) (uc' us' : Nat), uc' ≤ uc + 4 → us' ≤ us + 28 → 166 ≤ n' → jJ W H (M + 400) N NH NB NL n' t' h' → pl E YL_law (b, N0, xs) room_1 K uc' us' 750 [none, some (.ref 0), some (.ref 115), some (.ref 165), some (.int (zI i)), q5, q6] [] h' n') : pl E YL_law (b, N0, xs) room_1 K uc us 546 [none, some (.ref 0), some (.ref 115), some (.ref 165), some (.int (zI i)), q5, q6] [] h n := by
  have hW := hG.1.1
  have hHH := hG.1.2.1
  obtain ⟨x, s, f9, hC, hA, hH, ho⟩ := hJ
  obtain ⟨f, g, hfr, hfm, hgm, hfg⟩ := fg_ex hH.1 hH.2.1
  have hnc := cH_nc hC hn
  have r1 := i32 (xs (i + 1).toNat)
  have r2 := i32 (xs (i + 2).toNat)
  have r3 := i32 (xs (i + 3).toNat)
  have r4 := i32 (xs (i + 4).toNat)
  have r5 := i32 (xs (i + 5).toNat)
  refine pl_aload_n dL_law_546 rfl ?_
  refine pl_sld (a0 := 0) (i := i) (k := 1) (a1 := 548) (a2 := 550) (a3 := 551) (a4 := 552) rfl rfl rfl rfl rfl (by show 0 ≤ i + 1 ∧ i + 1 < (N0 : Int); omega) (by show N0 < 2147483648; omega) dL_law_547 dL_law_548 dL_law_550 dL_law_551 dL_law_552 ?_
  show pl E YL_law (b, N0, xs) room_1 K uc us 553 [none, some (.ref 0), some (.ref 115), some (.ref 165), some (.int (zI (i))), q5, q6] [.int (zI ((xs (i + 1).toNat).toInt)), .ref 0] h n
  refine pl_sld (a0 := 0) (i := i) (k := 2) (a1 := 554) (a2 := 556) (a3 := 557) (a4 := 558) rfl rfl rfl rfl rfl (by show 0 ≤ i + 2 ∧ i + 2 < (N0 : Int); omega) (by show N0 < 2147483648; omega) dL_law_553 dL_law_554 dL_law_556 dL_law_557 dL_law_558 ?_
  show pl E YL_law (b, N0, xs) room_1 K uc us 559 [none, some (.ref 0), some (.ref 115), some (.ref 165), some (.int (zI (i))), q5, q6] [.int (zI ((xs (i + 2).toNat).toInt)), .int (zI ((xs (i + 1).toNat).toInt)), .ref 0] h n
  refine pl_sld (a0 := 0) (i := i) (k := 3) (a1 := 560) (a2 := 562) (a3 := 563) (a4 := 564) rfl rfl rfl rfl rfl (by show 0 ≤ i + 3 ∧ i + 3 < (N0 : Int); omega) (by show N0 < 2147483648; omega) dL_law_559 dL_law_560 dL_law_562 dL_law_563 dL_law_564 ?_
  show pl E YL_law (b, N0, xs) room_1 K uc us 565 [none, some (.ref 0), some (.ref 115), some (.ref 165), some (.int (zI (i))), q5, q6] [.int (zI ((xs (i + 3).toNat).toInt)), .int (zI ((xs (i + 2).toNat).toInt)), .int (zI ((xs (i + 1).toNat).toInt)), .ref 0] h n
  refine pl_if_eq (tgt := 572) dL_law_565 rfl (by omega) (fun c565 => ?_) (fun c565 => ?_)
  ·
    refine pl_iconst (v := zI (0)) dL_law_572 (by decide) ?_
    refine pl_aload_n dL_law_573 rfl ?_
    refine pl_callSH (k := 5) (As := [.ref 0, .int (zI ((xs (i + 1).toNat).toInt)), .int (zI ((xs (i + 2).toNat).toInt)), .int (zI (0)), .ref 165]) (rm := rmD (14 + 1) 1 6) (wV_cell htr hG hC (by omega) hn (by omega) (by omega) (by omega) (by omega) ho) rfl rfl whL_cell_ ⟨by decide +kernel, by decide +kernel, by decide +kernel⟩ ⟨cwL_113.1, cwL_113.2, iniL⟩ ⟨nle rfl, nle rfl⟩ (nle rfl) ⟨by show uc + 1 ≤ 601024; omega, by show us + 6 ≤ 7293000; omega⟩ dL_law_574 ?_
    intro r_9 h_9 n_9 hq hn9
    obtain ⟨⟨v9, e1⟩, ⟨x9, hC9⟩, hk9, ⟨g9, ho9, hV9⟩, hn1, hn2⟩ := hq
    rw [e1]
    show pl E YL_law (b, N0, xs) room_1 K (uc + 1) (us + 6) 577 [none, some (.ref 0), some (.ref 115), some (.ref 165), some (.int (zI (i))), q5, q6] [.int (zI (v9))] h_9 n_9
    have hM9 : mAt 115 s h_9 := mAt_kp hA (fun a a1 a2 => hk9 a a1 (by omega))
    refine pl_istore (lv' := [none, some (.ref 0), some (.ref 115), some (.ref 165), some (.int (zI (i))), some (.int (zI (v9))), q6]) dL_law_577 (by decide) (by decide) rfl rfl ?_
    refine pl_aload_n dL_law_579 rfl ?_
    refine pl_sld (a0 := 0) (i := i) (k := 1) (a1 := 581) (a2 := 583) (a3 := 584) (a4 := 585) rfl rfl rfl rfl rfl (by show 0 ≤ i + 1 ∧ i + 1 < (N0 : Int); omega) (by show N0 < 2147483648; omega) dL_law_580 dL_law_581 dL_law_583 dL_law_584 dL_law_585 ?_
    show pl E YL_law (b, N0, xs) room_1 K (uc + 1) (us + 6) 586 [none, some (.ref 0), some (.ref 115), some (.ref 165), some (.int (zI (i))), some (.int (zI (v9))), q6] [.int (zI ((xs (i + 1).toNat).toInt)), .ref 115] h_9 n_9
    refine pl_sld (a0 := 0) (i := i) (k := 2) (a1 := 587) (a2 := 589) (a3 := 590) (a4 := 591) rfl rfl rfl rfl rfl (by show 0 ≤ i + 2 ∧ i + 2 < (N0 : Int); omega) (by show N0 < 2147483648; omega) dL_law_586 dL_law_587 dL_law_589 dL_law_590 dL_law_591 ?_
    show pl E YL_law (b, N0, xs) room_1 K (uc + 1) (us + 6) 592 [none, some (.ref 0), some (.ref 115), some (.ref 165), some (.int (zI (i))), some (.int (zI (v9))), q6] [.int (zI ((xs (i + 2).toNat).toInt)), .int (zI ((xs (i + 1).toNat).toInt)), .ref 115] h_9 n_9
    refine pl_sld (a0 := 0) (i := i) (k := 3) (a1 := 593) (a2 := 595) (a3 := 596) (a4 := 597) rfl rfl rfl rfl rfl (by show 0 ≤ i + 3 ∧ i + 3 < (N0 : Int); omega) (by show N0 < 2147483648; omega) dL_law_592 dL_law_593 dL_law_595 dL_law_596 dL_law_597 ?_
    show pl E YL_law (b, N0, xs) room_1 K (uc + 1) (us + 6) 598 [none, some (.ref 0), some (.ref 115), some (.ref 165), some (.int (zI (i))), some (.int (zI (v9))), q6] [.int (zI ((xs (i + 3).toNat).toInt)), .int (zI ((xs (i + 2).toNat).toInt)), .int (zI ((xs (i + 1).toNat).toInt)), .ref 115] h_9 n_9
    refine pl_if_eq (tgt := 605) dL_law_598 rfl (by omega) (fun c598 => ?_) (fun c598 => ?_)
    ·
      refine pl_iconst (v := zI (0)) dL_law_605 (by decide) ?_
      refine pl_callV (As := [.int (zI ((xs (i + 1).toNat).toInt)), .int (zI ((xs (i + 2).toNat).toInt)), .int (zI (0))]) (b := 115) (rm := rmD 4 0 0) (nG_cell htr hM9 hW hHH (by omega) hH (by omega) (by omega) (by omega) (by omega)) rfl hM9.1 rfl rfl ywX10_cell rfl cwL_116 ⟨nle rfl, nle rfl⟩ (nle rfl) ⟨by show uc + 1 ≤ 601024; omega, by show us + 6 ≤ 7293000; omega⟩ dL_law_606 ?_
      intro r_8 h_8 n_8 hq _
      obtain ⟨⟨w8, e1⟩, s8, hM8, hH8, ⟨f47, f48⟩, hF8, e4⟩ := hq
      rw [e1, e4]
      show pl E YL_law (b, N0, xs) room_1 K (uc + 1) (us + 6) 609 [none, some (.ref 0), some (.ref 115), some (.ref 165), some (.int (zI (i))), some (.int (zI (v9))), q6] [.int (zI (w8))] h_8 n_9
      refine pl_istore (lv' := [none, some (.ref 0), some (.ref 115), some (.ref 165), some (.int (zI (i))), some (.int (zI (v9))), some (.int (zI (w8)))]) dL_law_609 (by decide) (by decide) rfl rfl ?_
      refine pl_goto (tgt := 750) dL_law_611 rfl ?_
      exact kk h_8 n_9 t _ _ (uc + 1) (us + 6) (by omega) (by omega) (by omega) (jJ_of hC9 ho9 hM8 (rH_mo hH8 (by omega)) f47 f48 hF8 (Int.le_refl _))
    · exfalso; omega
  ·
    refine pl_iconst (v := zI (1)) dL_law_568 (by decide) ?_
    refine pl_goto (tgt := 573) dL_law_569 rfl ?_
    refine pl_aload_n dL_law_573 rfl ?_
    refine pl_callSH (k := 5) (As := [.ref 0, .int (zI ((xs (i + 1).toNat).toInt)), .int (zI ((xs (i + 2).toNat).toInt)), .int (zI (1)), .ref 165]) (rm := rmD (14 + 1) 1 6) (wV_cell htr hG hC (by omega) hn (by omega) (by omega) (by omega) (by omega) ho) rfl rfl whL_cell_ ⟨by decide +kernel, by decide +kernel, by decide +kernel⟩ ⟨cwL_113.1, cwL_113.2, iniL⟩ ⟨nle rfl, nle rfl⟩ (nle rfl) ⟨by show uc + 1 ≤ 601024; omega, by show us + 6 ≤ 7293000; omega⟩ dL_law_574 ?_
    intro r_9 h_9 n_9 hq hn9
    obtain ⟨⟨v9, e1⟩, ⟨x9, hC9⟩, hk9, ⟨g9, ho9, hV9⟩, hn1, hn2⟩ := hq
    rw [e1]
    show pl E YL_law (b, N0, xs) room_1 K (uc + 1) (us + 6) 577 [none, some (.ref 0), some (.ref 115), some (.ref 165), some (.int (zI (i))), q5, q6] [.int (zI (v9))] h_9 n_9
    have hM9 : mAt 115 s h_9 := mAt_kp hA (fun a a1 a2 => hk9 a a1 (by omega))
    refine pl_istore (lv' := [none, some (.ref 0), some (.ref 115), some (.ref 165), some (.int (zI (i))), some (.int (zI (v9))), q6]) dL_law_577 (by decide) (by decide) rfl rfl ?_
    refine pl_aload_n dL_law_579 rfl ?_
    refine pl_sld (a0 := 0) (i := i) (k := 1) (a1 := 581) (a2 := 583) (a3 := 584) (a4 := 585) rfl rfl rfl rfl rfl (by show 0 ≤ i + 1 ∧ i + 1 < (N0 : Int); omega) (by show N0 < 2147483648; omega) dL_law_580 dL_law_581 dL_law_583 dL_law_584 dL_law_585 ?_
    show pl E YL_law (b, N0, xs) room_1 K (uc + 1) (us + 6) 586 [none, some (.ref 0), some (.ref 115), some (.ref 165), some (.int (zI (i))), some (.int (zI (v9))), q6] [.int (zI ((xs (i + 1).toNat).toInt)), .ref 115] h_9 n_9
    refine pl_sld (a0 := 0) (i := i) (k := 2) (a1 := 587) (a2 := 589) (a3 := 590) (a4 := 591) rfl rfl rfl rfl rfl (by show 0 ≤ i + 2 ∧ i + 2 < (N0 : Int); omega) (by show N0 < 2147483648; omega) dL_law_586 dL_law_587 dL_law_589 dL_law_590 dL_law_591 ?_
    show pl E YL_law (b, N0, xs) room_1 K (uc + 1) (us + 6) 592 [none, some (.ref 0), some (.ref 115), some (.ref 165), some (.int (zI (i))), some (.int (zI (v9))), q6] [.int (zI ((xs (i + 2).toNat).toInt)), .int (zI ((xs (i + 1).toNat).toInt)), .ref 115] h_9 n_9
    refine pl_sld (a0 := 0) (i := i) (k := 3) (a1 := 593) (a2 := 595) (a3 := 596) (a4 := 597) rfl rfl rfl rfl rfl (by show 0 ≤ i + 3 ∧ i + 3 < (N0 : Int); omega) (by show N0 < 2147483648; omega) dL_law_592 dL_law_593 dL_law_595 dL_law_596 dL_law_597 ?_
    show pl E YL_law (b, N0, xs) room_1 K (uc + 1) (us + 6) 598 [none, some (.ref 0), some (.ref 115), some (.ref 165), some (.int (zI (i))), some (.int (zI (v9))), q6] [.int (zI ((xs (i + 3).toNat).toInt)), .int (zI ((xs (i + 2).toNat).toInt)), .int (zI ((xs (i + 1).toNat).toInt)), .ref 115] h_9 n_9
    refine pl_if_eq (tgt := 605) dL_law_598 rfl (by omega) (fun c598 => ?_) (fun c598 => ?_)
    · exfalso; omega
    ·
      refine pl_iconst (v := zI (1)) dL_law_601 (by decide) ?_
      refine pl_goto (tgt := 606) dL_law_602 rfl ?_
      refine pl_callV (As := [.int (zI ((xs (i + 1).toNat).toInt)), .int (zI ((xs (i + 2).toNat).toInt)), .int (zI (1))]) (b := 115) (rm := rmD 4 0 0) (nG_cell htr hM9 hW hHH (by omega) hH (by omega) (by omega) (by omega) (by omega)) rfl hM9.1 rfl rfl ywX10_cell rfl cwL_116 ⟨nle rfl, nle rfl⟩ (nle rfl) ⟨by show uc + 1 ≤ 601024; omega, by show us + 6 ≤ 7293000; omega⟩ dL_law_606 ?_
      intro r_8 h_8 n_8 hq _
      obtain ⟨⟨w8, e1⟩, s8, hM8, hH8, ⟨f47, f48⟩, hF8, e4⟩ := hq
      rw [e1, e4]
      show pl E YL_law (b, N0, xs) room_1 K (uc + 1) (us + 6) 609 [none, some (.ref 0), some (.ref 115), some (.ref 165), some (.int (zI (i))), some (.int (zI (v9))), q6] [.int (zI (w8))] h_8 n_9
      refine pl_istore (lv' := [none, some (.ref 0), some (.ref 115), some (.ref 165), some (.int (zI (i))), some (.int (zI (v9))), some (.int (zI (w8)))]) dL_law_609 (by decide) (by decide) rfl rfl ?_
      refine pl_goto (tgt := 750) dL_law_611 rfl ?_
      exact kk h_8 n_9 t _ _ (uc + 1) (us + 6) (by omega) (by omega) (by omega) (jJ_of hC9 ho9 hM8 (rH_mo hH8 (by omega)) f47 f48 hF8 (Int.le_refl _))
set_option maxHeartbeats 2000000 in
set_option maxRecDepth 100000 in
theorem lz_about {E : pw_E} (htr : E.1.stackTraces = false) {K : pw_K} {b N0 uc us : Nat} {xs : Nat → Int32} {h : pz_H} {i : Int} {q5 q6 : Option Value} {W H M : Int} {N NH NB NL n : Nat} {t : aT} (hN0 : N0 ≤ 3074) (hi : 2 ≤ i ∧ i + 6 ≤ N0) (hu : uc + 4 ≤ 601024) (hs : us + 28 ≤ 7293000) (hG : geoH W H N NH NB NL) (hM : 0 ≤ M ∧ M + 400 ≤ 800000000) (hn : 166 ≤ n) (hJ : jJ W H M N NH NB NL n t h) (kk : ∀ (h' : pz_H) (n' : Nat) (t' : aT) (q5 q6 : Option Value) (uc' us' : Nat), uc' ≤ uc + 4 → us' ≤ us + 28 → 166 ≤ n' → jJ W H (M + 400) N NH NB NL n' t' h' → pl E YL_law (b, N0, xs) room_1 K uc' us' 750 [none, some (.ref 0), some (.ref 115), some (.ref 165), some (.int (zI i)), q5, q6] [] h' n') : pl E YL_law (b, N0, xs) room_1 K uc us 614 [none, some (.ref 0), some (.ref 115), some (.ref 165), some (.int (zI i)), q5, q6] [] h n := by
  have hW := hG.1.1
  have hHH := hG.1.2.1
  obtain ⟨x, s, f9, hC, hA, hH, ho⟩ := hJ
  obtain ⟨f, g, hfr, hfm, hgm, hfg⟩ := fg_ex hH.1 hH.2.1
  have hnc := cH_nc hC hn
  have r1 := i32 (xs (i + 1).toNat)
  have r2 := i32 (xs (i + 2).toNat)
  have r3 := i32 (xs (i + 3).toNat)
  have r4 := i32 (xs (i + 4).toNat)
  have r5 := i32 (xs (i + 5).toNat)
  refine pl_aload_n dL_law_614 rfl ?_
  refine pl_sld (a0 := 0) (i := i) (k := 1) (a1 := 616) (a2 := 618) (a3 := 619) (a4 := 620) rfl rfl rfl rfl rfl (by show 0 ≤ i + 1 ∧ i + 1 < (N0 : Int); omega) (by show N0 < 2147483648; omega) dL_law_615 dL_law_616 dL_law_618 dL_law_619 dL_law_620 ?_
  show pl E YL_law (b, N0, xs) room_1 K uc us 621 [none, some (.ref 0), some (.ref 115), some (.ref 165), some (.int (zI (i))), q5, q6] [.int (zI ((xs (i + 1).toNat).toInt)), .ref 0] h n
  refine pl_sld (a0 := 0) (i := i) (k := 2) (a1 := 622) (a2 := 624) (a3 := 625) (a4 := 626) rfl rfl rfl rfl rfl (by show 0 ≤ i + 2 ∧ i + 2 < (N0 : Int); omega) (by show N0 < 2147483648; omega) dL_law_621 dL_law_622 dL_law_624 dL_law_625 dL_law_626 ?_
  show pl E YL_law (b, N0, xs) room_1 K uc us 627 [none, some (.ref 0), some (.ref 115), some (.ref 165), some (.int (zI (i))), q5, q6] [.int (zI ((xs (i + 2).toNat).toInt)), .int (zI ((xs (i + 1).toNat).toInt)), .ref 0] h n
  refine pl_aload_n dL_law_627 rfl ?_
  refine pl_callSH (k := 4) (As := [.ref 0, .int (zI ((xs (i + 1).toNat).toInt)), .int (zI ((xs (i + 2).toNat).toInt)), .ref 165]) (rm := rmD (7 + 1) 2 12) (wV_about htr hG hC (by omega) hn (by omega) (by omega) ho) rfl rfl whL_about ⟨by decide +kernel, by decide +kernel, by decide +kernel⟩ ⟨cwL_117.1, cwL_117.2, iniL⟩ ⟨nle rfl, nle rfl⟩ (nle rfl) ⟨by show uc + 2 ≤ 601024; omega, by show us + 12 ≤ 7293000; omega⟩ dL_law_628 ?_
  intro r_9 h_9 n_9 hq hn9
  obtain ⟨⟨v9, e1⟩, ⟨x9, hC9⟩, hk9, ⟨g9, ho9, hV9⟩, hn1, hn2⟩ := hq
  rw [e1]
  show pl E YL_law (b, N0, xs) room_1 K (uc + 2) (us + 12) 631 [none, some (.ref 0), some (.ref 115), some (.ref 165), some (.int (zI (i))), q5, q6] [.int (zI (v9))] h_9 n_9
  have hM9 : mAt 115 s h_9 := mAt_kp hA (fun a a1 a2 => hk9 a a1 (by omega))
  refine pl_istore (lv' := [none, some (.ref 0), some (.ref 115), some (.ref 165), some (.int (zI (i))), some (.int (zI (v9))), q6]) dL_law_631 (by decide) (by decide) rfl rfl ?_
  refine pl_aload_n dL_law_633 rfl ?_
  refine pl_sld (a0 := 0) (i := i) (k := 1) (a1 := 635) (a2 := 637) (a3 := 638) (a4 := 639) rfl rfl rfl rfl rfl (by show 0 ≤ i + 1 ∧ i + 1 < (N0 : Int); omega) (by show N0 < 2147483648; omega) dL_law_634 dL_law_635 dL_law_637 dL_law_638 dL_law_639 ?_
  show pl E YL_law (b, N0, xs) room_1 K (uc + 2) (us + 12) 640 [none, some (.ref 0), some (.ref 115), some (.ref 165), some (.int (zI (i))), some (.int (zI (v9))), q6] [.int (zI ((xs (i + 1).toNat).toInt)), .ref 115] h_9 n_9
  refine pl_sld (a0 := 0) (i := i) (k := 2) (a1 := 641) (a2 := 643) (a3 := 644) (a4 := 645) rfl rfl rfl rfl rfl (by show 0 ≤ i + 2 ∧ i + 2 < (N0 : Int); omega) (by show N0 < 2147483648; omega) dL_law_640 dL_law_641 dL_law_643 dL_law_644 dL_law_645 ?_
  show pl E YL_law (b, N0, xs) room_1 K (uc + 2) (us + 12) 646 [none, some (.ref 0), some (.ref 115), some (.ref 165), some (.int (zI (i))), some (.int (zI (v9))), q6] [.int (zI ((xs (i + 2).toNat).toInt)), .int (zI ((xs (i + 1).toNat).toInt)), .ref 115] h_9 n_9
  refine pl_callV (As := [.int (zI ((xs (i + 1).toNat).toInt)), .int (zI ((xs (i + 2).toNat).toInt))]) (b := 115) (rm := rmD 1 0 0) (nG_about htr hM9 hW hHH (by omega) hH (by omega) (by omega)) rfl hM9.1 rfl rfl ywX10_about rfl cwL_120 ⟨nle rfl, nle rfl⟩ (nle rfl) ⟨by show uc + 2 ≤ 601024; omega, by show us + 12 ≤ 7293000; omega⟩ dL_law_646 ?_
  intro r_8 h_8 n_8 hq _
  obtain ⟨⟨w8, e1⟩, s8, hM8, hH8, ⟨f47, f48⟩, hF8, e4⟩ := hq
  rw [e1, e4]
  show pl E YL_law (b, N0, xs) room_1 K (uc + 2) (us + 12) 649 [none, some (.ref 0), some (.ref 115), some (.ref 165), some (.int (zI (i))), some (.int (zI (v9))), q6] [.int (zI (w8))] h_8 n_9
  refine pl_istore (lv' := [none, some (.ref 0), some (.ref 115), some (.ref 165), some (.int (zI (i))), some (.int (zI (v9))), some (.int (zI (w8)))]) dL_law_649 (by decide) (by decide) rfl rfl ?_
  refine pl_goto (tgt := 750) dL_law_651 rfl ?_
  exact kk h_8 n_9 t _ _ (uc + 2) (us + 12) (by omega) (by omega) (by omega) (jJ_of hC9 ho9 hM8 (rH_mo hH8 (by omega)) f47 f48 hF8 (Int.le_refl _))
set_option maxHeartbeats 2000000 in
set_option maxRecDepth 100000 in
theorem lz_input {E : pw_E} (htr : E.1.stackTraces = false) {K : pw_K} {b N0 uc us : Nat} {xs : Nat → Int32} {h : pz_H} {i : Int} {q5 q6 : Option Value} {W H M : Int} {N NH NB NL n : Nat} {t : aT} (hN0 : N0 ≤ 3074) (hi : 2 ≤ i ∧ i + 6 ≤ N0) (hu : uc + 4 ≤ 601024) (hs : us + 28 ≤ 7293000) (hG : geoH W H N NH NB NL) (hM : 0 ≤ M ∧ M + 400 ≤ 800000000) (hn : 166 ≤ n) (hJ : jJ W H M N NH NB NL n t h) (kk : ∀ (h' : pz_H) (n' : Nat) (t' : aT) (q5 q6 : Option Value) (uc' us' : Nat), uc' ≤ uc + 4 → us' ≤ us + 28 → 166 ≤ n' → jJ W H (M + 400) N NH NB NL n' t' h' → pl E YL_law (b, N0, xs) room_1 K uc' us' 750 [none, some (.ref 0), some (.ref 115), some (.ref 165), some (.int (zI i)), q5, q6] [] h' n') : pl E YL_law (b, N0, xs) room_1 K uc us 654 [none, some (.ref 0), some (.ref 115), some (.ref 165), some (.int (zI i)), q5, q6] [] h n := by
  have hW := hG.1.1
  have hHH := hG.1.2.1
  obtain ⟨x, s, f9, hC, hA, hH, ho⟩ := hJ
  obtain ⟨f, g, hfr, hfm, hgm, hfg⟩ := fg_ex hH.1 hH.2.1
  have hnc := cH_nc hC hn
  have r1 := i32 (xs (i + 1).toNat)
  have r2 := i32 (xs (i + 2).toNat)
  have r3 := i32 (xs (i + 3).toNat)
  have r4 := i32 (xs (i + 4).toNat)
  have r5 := i32 (xs (i + 5).toNat)
  refine pl_aload_n dL_law_654 rfl ?_
  refine pl_sld (a0 := 0) (i := i) (k := 1) (a1 := 656) (a2 := 658) (a3 := 659) (a4 := 660) rfl rfl rfl rfl rfl (by show 0 ≤ i + 1 ∧ i + 1 < (N0 : Int); omega) (by show N0 < 2147483648; omega) dL_law_655 dL_law_656 dL_law_658 dL_law_659 dL_law_660 ?_
  show pl E YL_law (b, N0, xs) room_1 K uc us 661 [none, some (.ref 0), some (.ref 115), some (.ref 165), some (.int (zI (i))), q5, q6] [.int (zI ((xs (i + 1).toNat).toInt)), .ref 0] h n
  refine pl_sld (a0 := 0) (i := i) (k := 2) (a1 := 662) (a2 := 664) (a3 := 665) (a4 := 666) rfl rfl rfl rfl rfl (by show 0 ≤ i + 2 ∧ i + 2 < (N0 : Int); omega) (by show N0 < 2147483648; omega) dL_law_661 dL_law_662 dL_law_664 dL_law_665 dL_law_666 ?_
  show pl E YL_law (b, N0, xs) room_1 K uc us 667 [none, some (.ref 0), some (.ref 115), some (.ref 165), some (.int (zI (i))), q5, q6] [.int (zI ((xs (i + 2).toNat).toInt)), .int (zI ((xs (i + 1).toNat).toInt)), .ref 0] h n
  refine pl_aload_n dL_law_667 rfl ?_
  refine pl_callSH (k := 4) (As := [.ref 0, .int (zI ((xs (i + 1).toNat).toInt)), .int (zI ((xs (i + 2).toNat).toInt)), .ref 165]) (rm := rmD (7 + 1) 2 12) (wV_input htr hG hC (by omega) hn (by omega) (by omega) ho) rfl rfl whL_input ⟨by decide +kernel, by decide +kernel, by decide +kernel⟩ ⟨cwL_121.1, cwL_121.2, iniL⟩ ⟨nle rfl, nle rfl⟩ (nle rfl) ⟨by show uc + 2 ≤ 601024; omega, by show us + 12 ≤ 7293000; omega⟩ dL_law_668 ?_
  intro r_9 h_9 n_9 hq hn9
  obtain ⟨⟨v9, e1⟩, ⟨x9, hC9⟩, hk9, ⟨g9, ho9, hV9⟩, hn1, hn2⟩ := hq
  rw [e1]
  show pl E YL_law (b, N0, xs) room_1 K (uc + 2) (us + 12) 671 [none, some (.ref 0), some (.ref 115), some (.ref 165), some (.int (zI (i))), q5, q6] [.int (zI (v9))] h_9 n_9
  have hM9 : mAt 115 s h_9 := mAt_kp hA (fun a a1 a2 => hk9 a a1 (by omega))
  refine pl_istore (lv' := [none, some (.ref 0), some (.ref 115), some (.ref 165), some (.int (zI (i))), some (.int (zI (v9))), q6]) dL_law_671 (by decide) (by decide) rfl rfl ?_
  refine pl_aload_n dL_law_673 rfl ?_
  refine pl_sld (a0 := 0) (i := i) (k := 1) (a1 := 675) (a2 := 677) (a3 := 678) (a4 := 679) rfl rfl rfl rfl rfl (by show 0 ≤ i + 1 ∧ i + 1 < (N0 : Int); omega) (by show N0 < 2147483648; omega) dL_law_674 dL_law_675 dL_law_677 dL_law_678 dL_law_679 ?_
  show pl E YL_law (b, N0, xs) room_1 K (uc + 2) (us + 12) 680 [none, some (.ref 0), some (.ref 115), some (.ref 165), some (.int (zI (i))), some (.int (zI (v9))), q6] [.int (zI ((xs (i + 1).toNat).toInt)), .ref 115] h_9 n_9
  refine pl_sld (a0 := 0) (i := i) (k := 2) (a1 := 681) (a2 := 683) (a3 := 684) (a4 := 685) rfl rfl rfl rfl rfl (by show 0 ≤ i + 2 ∧ i + 2 < (N0 : Int); omega) (by show N0 < 2147483648; omega) dL_law_680 dL_law_681 dL_law_683 dL_law_684 dL_law_685 ?_
  show pl E YL_law (b, N0, xs) room_1 K (uc + 2) (us + 12) 686 [none, some (.ref 0), some (.ref 115), some (.ref 165), some (.int (zI (i))), some (.int (zI (v9))), q6] [.int (zI ((xs (i + 2).toNat).toInt)), .int (zI ((xs (i + 1).toNat).toInt)), .ref 115] h_9 n_9
  refine pl_callV (As := [.int (zI ((xs (i + 1).toNat).toInt)), .int (zI ((xs (i + 2).toNat).toInt))]) (b := 115) (rm := rmD 1 0 0) (nG_input htr hM9 hW hHH (by omega) hH (by omega) (by omega)) rfl hM9.1 rfl rfl ywX10_input rfl cwL_123 ⟨nle rfl, nle rfl⟩ (nle rfl) ⟨by show uc + 2 ≤ 601024; omega, by show us + 12 ≤ 7293000; omega⟩ dL_law_686 ?_
  intro r_8 h_8 n_8 hq _
  obtain ⟨⟨w8, e1⟩, s8, hM8, hH8, ⟨f47, f48⟩, hF8, e4⟩ := hq
  rw [e1, e4]
  show pl E YL_law (b, N0, xs) room_1 K (uc + 2) (us + 12) 689 [none, some (.ref 0), some (.ref 115), some (.ref 165), some (.int (zI (i))), some (.int (zI (v9))), q6] [.int (zI (w8))] h_8 n_9
  refine pl_istore (lv' := [none, some (.ref 0), some (.ref 115), some (.ref 165), some (.int (zI (i))), some (.int (zI (v9))), some (.int (zI (w8)))]) dL_law_689 (by decide) (by decide) rfl rfl ?_
  refine pl_goto (tgt := 750) dL_law_691 rfl ?_
  exact kk h_8 n_9 t _ _ (uc + 2) (us + 12) (by omega) (by omega) (by omega) (jJ_of hC9 ho9 hM8 (rH_mo hH8 (by omega)) f47 f48 hF8 (Int.le_refl _))
set_option maxHeartbeats 2000000 in
set_option maxRecDepth 100000 in
theorem lz_copied {E : pw_E} (htr : E.1.stackTraces = false) {K : pw_K} {b N0 uc us : Nat} {xs : Nat → Int32} {h : pz_H} {i : Int} {q5 q6 : Option Value} {W H M : Int} {N NH NB NL n : Nat} {t : aT} (hN0 : N0 ≤ 3074) (hi : 2 ≤ i ∧ i + 6 ≤ N0) (hu : uc + 4 ≤ 601024) (hs : us + 28 ≤ 7293000) (hG : geoH W H N NH NB NL) (hM : 0 ≤ M ∧ M + 400 ≤ 800000000) (hn : 166 ≤ n) (hJ : jJ W H M N NH NB NL n t h) (kk : ∀ (h' : pz_H) (n' : Nat) (t' : aT) (q5 q6 : Option Value) (uc' us' : Nat), uc' ≤ uc + 4 → us' ≤ us + 28 → 166 ≤ n' → jJ W H (M + 400) N NH NB NL n' t' h' → pl E YL_law (b, N0, xs) room_1 K uc' us' 750 [none, some (.ref 0), some (.ref 115), some (.ref 165), some (.int (zI i)), q5, q6] [] h' n') : pl E YL_law (b, N0, xs) room_1 K uc us 694 [none, some (.ref 0), some (.ref 115), some (.ref 165), some (.int (zI i)), q5, q6] [] h n := by
  have hW := hG.1.1
  have hHH := hG.1.2.1
  obtain ⟨x, s, f9, hC, hA, hH, ho⟩ := hJ
  obtain ⟨f, g, hfr, hfm, hgm, hfg⟩ := fg_ex hH.1 hH.2.1
  have hnc := cH_nc hC hn
  have r1 := i32 (xs (i + 1).toNat)
  have r2 := i32 (xs (i + 2).toNat)
  have r3 := i32 (xs (i + 3).toNat)
  have r4 := i32 (xs (i + 4).toNat)
  have r5 := i32 (xs (i + 5).toNat)
  refine pl_aload_n dL_law_694 rfl ?_
  refine pl_sld (a0 := 0) (i := i) (k := 1) (a1 := 696) (a2 := 698) (a3 := 699) (a4 := 700) rfl rfl rfl rfl rfl (by show 0 ≤ i + 1 ∧ i + 1 < (N0 : Int); omega) (by show N0 < 2147483648; omega) dL_law_695 dL_law_696 dL_law_698 dL_law_699 dL_law_700 ?_
  show pl E YL_law (b, N0, xs) room_1 K uc us 701 [none, some (.ref 0), some (.ref 115), some (.ref 165), some (.int (zI (i))), q5, q6] [.int (zI ((xs (i + 1).toNat).toInt)), .ref 0] h n
  refine pl_aload_n dL_law_701 rfl ?_
  refine pl_callSH (k := 3) (As := [.ref 0, .int (zI ((xs (i + 1).toNat).toInt)), .ref 165]) (rm := rmD (6 + 1) 1 6) (wV_copied htr hG hC (by omega) hn (by omega) ho) rfl rfl whL_copied ⟨by decide +kernel, by decide +kernel, by decide +kernel⟩ ⟨cwL_124.1, cwL_124.2, iniL⟩ ⟨nle rfl, nle rfl⟩ (nle rfl) ⟨by show uc + 1 ≤ 601024; omega, by show us + 6 ≤ 7293000; omega⟩ dL_law_702 ?_
  intro r_9 h_9 n_9 hq hn9
  obtain ⟨⟨v9, e1⟩, ⟨x9, hC9⟩, hk9, ⟨g9, ho9, hV9⟩, hn1, hn2⟩ := hq
  rw [e1]
  show pl E YL_law (b, N0, xs) room_1 K (uc + 1) (us + 6) 705 [none, some (.ref 0), some (.ref 115), some (.ref 165), some (.int (zI (i))), q5, q6] [.int (zI (v9))] h_9 n_9
  have hM9 : mAt 115 s h_9 := mAt_kp hA (fun a a1 a2 => hk9 a a1 (by omega))
  refine pl_istore (lv' := [none, some (.ref 0), some (.ref 115), some (.ref 165), some (.int (zI (i))), some (.int (zI (v9))), q6]) dL_law_705 (by decide) (by decide) rfl rfl ?_
  refine pl_aload_n dL_law_707 rfl ?_
  refine pl_sld (a0 := 0) (i := i) (k := 1) (a1 := 709) (a2 := 711) (a3 := 712) (a4 := 713) rfl rfl rfl rfl rfl (by show 0 ≤ i + 1 ∧ i + 1 < (N0 : Int); omega) (by show N0 < 2147483648; omega) dL_law_708 dL_law_709 dL_law_711 dL_law_712 dL_law_713 ?_
  show pl E YL_law (b, N0, xs) room_1 K (uc + 1) (us + 6) 714 [none, some (.ref 0), some (.ref 115), some (.ref 165), some (.int (zI (i))), some (.int (zI (v9))), q6] [.int (zI ((xs (i + 1).toNat).toInt)), .ref 115] h_9 n_9
  refine pl_callV (As := [.int (zI ((xs (i + 1).toNat).toInt))]) (b := 115) (rm := rmD 0 0 0) (nG_copied htr hM9 hW hHH (by omega) hH (by omega)) rfl hM9.1 rfl rfl ywX10_copied rfl cwL_126 ⟨nle rfl, nle rfl⟩ (nle rfl) ⟨by show uc + 1 ≤ 601024; omega, by show us + 6 ≤ 7293000; omega⟩ dL_law_714 ?_
  intro r_8 h_8 n_8 hq _
  obtain ⟨⟨w8, e1⟩, s8, hM8, hH8, ⟨f47, f48⟩, hF8, e4⟩ := hq
  rw [e1, e4]
  show pl E YL_law (b, N0, xs) room_1 K (uc + 1) (us + 6) 717 [none, some (.ref 0), some (.ref 115), some (.ref 165), some (.int (zI (i))), some (.int (zI (v9))), q6] [.int (zI (w8))] h_8 n_9
  refine pl_istore (lv' := [none, some (.ref 0), some (.ref 115), some (.ref 165), some (.int (zI (i))), some (.int (zI (v9))), some (.int (zI (w8)))]) dL_law_717 (by decide) (by decide) rfl rfl ?_
  refine pl_goto (tgt := 750) dL_law_719 rfl ?_
  exact kk h_8 n_9 t _ _ (uc + 1) (us + 6) (by omega) (by omega) (by omega) (jJ_of hC9 ho9 hM8 (rH_mo hH8 (by omega)) f47 f48 hF8 (Int.le_refl _))
set_option maxHeartbeats 2000000 in
set_option maxRecDepth 100000 in
theorem lz_count {E : pw_E} (htr : E.1.stackTraces = false) {K : pw_K} {b N0 uc us : Nat} {xs : Nat → Int32} {h : pz_H} {i : Int} {q5 q6 : Option Value} {W H M : Int} {N NH NB NL n : Nat} {t : aT} (hN0 : N0 ≤ 3074) (hi : 2 ≤ i ∧ i + 6 ≤ N0) (hu : uc + 4 ≤ 601024) (hs : us + 28 ≤ 7293000) (hG : geoH W H N NH NB NL) (hM : 0 ≤ M ∧ M + 400 ≤ 800000000) (hn : 166 ≤ n) (hJ : jJ W H M N NH NB NL n t h) (kk : ∀ (h' : pz_H) (n' : Nat) (t' : aT) (q5 q6 : Option Value) (uc' us' : Nat), uc' ≤ uc + 4 → us' ≤ us + 28 → 166 ≤ n' → jJ W H (M + 400) N NH NB NL n' t' h' → pl E YL_law (b, N0, xs) room_1 K uc' us' 750 [none, some (.ref 0), some (.ref 115), some (.ref 165), some (.int (zI i)), q5, q6] [] h' n') : pl E YL_law (b, N0, xs) room_1 K uc us 722 [none, some (.ref 0), some (.ref 115), some (.ref 165), some (.int (zI i)), q5, q6] [] h n := by
  have hW := hG.1.1
  have hHH := hG.1.2.1
  obtain ⟨x, s, f9, hC, hA, hH, ho⟩ := hJ
  obtain ⟨f, g, hfr, hfm, hgm, hfg⟩ := fg_ex hH.1 hH.2.1
  have hnc := cH_nc hC hn
  have r1 := i32 (xs (i + 1).toNat)
  have r2 := i32 (xs (i + 2).toNat)
  have r3 := i32 (xs (i + 3).toNat)
  have r4 := i32 (xs (i + 4).toNat)
  have r5 := i32 (xs (i + 5).toNat)
  refine pl_aload_n dL_law_722 rfl ?_
  refine pl_sld (a0 := 0) (i := i) (k := 1) (a1 := 724) (a2 := 726) (a3 := 727) (a4 := 728) rfl rfl rfl rfl rfl (by show 0 ≤ i + 1 ∧ i + 1 < (N0 : Int); omega) (by show N0 < 2147483648; omega) dL_law_723 dL_law_724 dL_law_726 dL_law_727 dL_law_728 ?_
  show pl E YL_law (b, N0, xs) room_1 K uc us 729 [none, some (.ref 0), some (.ref 115), some (.ref 165), some (.int (zI (i))), q5, q6] [.int (zI ((xs (i + 1).toNat).toInt)), .ref 0] h n
  refine pl_aload_n dL_law_729 rfl ?_
  refine pl_callSH (k := 3) (As := [.ref 0, .int (zI ((xs (i + 1).toNat).toInt)), .ref 165]) (rm := rmD (6 + 1) 1 6) (wV_count htr hG hC (by omega) hn (by omega) ho) rfl rfl whL_count ⟨by decide +kernel, by decide +kernel, by decide +kernel⟩ ⟨cwL_127.1, cwL_127.2, iniL⟩ ⟨nle rfl, nle rfl⟩ (nle rfl) ⟨by show uc + 1 ≤ 601024; omega, by show us + 6 ≤ 7293000; omega⟩ dL_law_730 ?_
  intro r_9 h_9 n_9 hq hn9
  obtain ⟨⟨v9, e1⟩, ⟨x9, hC9⟩, hk9, ⟨g9, ho9, hV9⟩, hn1, hn2⟩ := hq
  rw [e1]
  show pl E YL_law (b, N0, xs) room_1 K (uc + 1) (us + 6) 733 [none, some (.ref 0), some (.ref 115), some (.ref 165), some (.int (zI (i))), q5, q6] [.int (zI (v9))] h_9 n_9
  have hM9 : mAt 115 s h_9 := mAt_kp hA (fun a a1 a2 => hk9 a a1 (by omega))
  refine pl_istore (lv' := [none, some (.ref 0), some (.ref 115), some (.ref 165), some (.int (zI (i))), some (.int (zI (v9))), q6]) dL_law_733 (by decide) (by decide) rfl rfl ?_
  refine pl_aload_n dL_law_735 rfl ?_
  refine pl_sld (a0 := 0) (i := i) (k := 1) (a1 := 737) (a2 := 739) (a3 := 740) (a4 := 741) rfl rfl rfl rfl rfl (by show 0 ≤ i + 1 ∧ i + 1 < (N0 : Int); omega) (by show N0 < 2147483648; omega) dL_law_736 dL_law_737 dL_law_739 dL_law_740 dL_law_741 ?_
  show pl E YL_law (b, N0, xs) room_1 K (uc + 1) (us + 6) 742 [none, some (.ref 0), some (.ref 115), some (.ref 165), some (.int (zI (i))), some (.int (zI (v9))), q6] [.int (zI ((xs (i + 1).toNat).toInt)), .ref 115] h_9 n_9
  refine pl_callV (As := [.int (zI ((xs (i + 1).toNat).toInt))]) (b := 115) (rm := rmD 1 0 0) (nG_count htr hM9 hW hHH (by omega) hH (by omega)) rfl hM9.1 rfl rfl ywX10_count rfl cwL_129 ⟨nle rfl, nle rfl⟩ (nle rfl) ⟨by show uc + 1 ≤ 601024; omega, by show us + 6 ≤ 7293000; omega⟩ dL_law_742 ?_
  intro r_8 h_8 n_8 hq _
  obtain ⟨⟨w8, e1⟩, s8, hM8, hH8, ⟨f47, f48⟩, hF8, e4⟩ := hq
  rw [e1, e4]
  show pl E YL_law (b, N0, xs) room_1 K (uc + 1) (us + 6) 745 [none, some (.ref 0), some (.ref 115), some (.ref 165), some (.int (zI (i))), some (.int (zI (v9))), q6] [.int (zI (w8))] h_8 n_9
  refine pl_istore (lv' := [none, some (.ref 0), some (.ref 115), some (.ref 165), some (.int (zI (i))), some (.int (zI (v9))), some (.int (zI (w8)))]) dL_law_745 (by decide) (by decide) rfl rfl ?_
  refine pl_goto (tgt := 750) dL_law_747 rfl ?_
  exact kk h_8 n_9 t _ _ (uc + 1) (us + 6) (by omega) (by omega) (by omega) (jJ_of hC9 ho9 hM8 (rH_mo hH8 (by omega)) f47 f48 hF8 (Int.le_refl _))
