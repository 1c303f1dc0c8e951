def YL_law : pw_Y := (RL, "law", cL_law, 7, (some .boolean))
theorem iniL : Cond.initialized RL ∈ pw_G := pw_in 78 (by decide +kernel) (by decide +kernel)
theorem clong : Cond.constantLong RL 73 (4294967295 : Int64) ∈ pw_G := pw_in 1756 (by decide +kernel) (by decide +kernel)
theorem cwL_75 : Cond.methodLink RL 75 yL_feed ∈ pw_G ∧ Cond.static yL_feed ∈ pw_G := ⟨pw_in 916 (by decide +kernel) (by decide +kernel), pw_in 917 (by decide +kernel) (by decide +kernel)⟩
theorem cwL_78 : Cond.methodLink RL 78 yX10_feed ∈ pw_G ∧ Cond.instanceMethod yX10_feed ∈ pw_G ∧ Cond.selects RX10 yX10_feed yX10_feed ∈ pw_G := ⟨pw_in 1566 (by decide +kernel) (by decide +kernel), pw_in 1567 (by decide +kernel) (by decide +kernel), pw_in 1568 (by decide +kernel) (by decide +kernel)⟩
theorem cwL_79 : Cond.methodLink RL 79 yX10_thrown ∈ pw_G ∧ Cond.instanceMethod yX10_thrown ∈ pw_G ∧ Cond.selects RX10 yX10_thrown yX10_thrown ∈ pw_G := ⟨pw_in 1515 (by decide +kernel) (by decide +kernel), pw_in 1516 (by decide +kernel) (by decide +kernel), pw_in 1517 (by decide +kernel) (by decide +kernel)⟩
theorem cwL_83 : Cond.methodLink RL 83 yL_key ∈ pw_G ∧ Cond.static yL_key ∈ pw_G := ⟨pw_in 1105 (by decide +kernel) (by decide +kernel), pw_in 1106 (by decide +kernel) (by decide +kernel)⟩
theorem cwL_86 : Cond.methodLink RL 86 yX10_key ∈ pw_G ∧ Cond.instanceMethod yX10_key ∈ pw_G ∧ Cond.selects RX10 yX10_key yX10_key ∈ pw_G := ⟨pw_in 1664 (by decide +kernel) (by decide +kernel), pw_in 1665 (by decide +kernel) (by decide +kernel), pw_in 1666 (by decide +kernel) (by decide +kernel)⟩
theorem cwL_87 : Cond.methodLink RL 87 yL_split ∈ pw_G ∧ Cond.static yL_split ∈ pw_G := ⟨pw_in 1178 (by decide +kernel) (by decide +kernel), pw_in 1179 (by decide +kernel) (by decide +kernel)⟩
theorem cwL_90 : Cond.methodLink RL 90 yX10_split ∈ pw_G ∧ Cond.instanceMethod yX10_split ∈ pw_G ∧ Cond.selects RX10 yX10_split yX10_split ∈ pw_G := ⟨pw_in 1519 (by decide +kernel) (by decide +kernel), pw_in 1520 (by decide +kernel) (by decide +kernel), pw_in 1521 (by decide +kernel) (by decide +kernel)⟩
theorem cwL_91 : Cond.methodLink RL 91 yL_close ∈ pw_G ∧ Cond.static yL_close ∈ pw_G := ⟨pw_in 1202 (by decide +kernel) (by decide +kernel), pw_in 1203 (by decide +kernel) (by decide +kernel)⟩
theorem cwL_93 : Cond.methodLink RL 93 yX10_close ∈ pw_G ∧ Cond.instanceMethod yX10_close ∈ pw_G ∧ Cond.selects RX10 yX10_close yX10_close ∈ pw_G := ⟨pw_in 1550 (by decide +kernel) (by decide +kernel), pw_in 1551 (by decide +kernel) (by decide +kernel), pw_in 1552 (by decide +kernel) (by decide +kernel)⟩
theorem cwL_94 : Cond.methodLink RL 94 yL_focus ∈ pw_G ∧ Cond.static yL_focus ∈ pw_G := ⟨pw_in 1210 (by decide +kernel) (by decide +kernel), pw_in 1211 (by decide +kernel) (by decide +kernel)⟩
theorem cwL_97 : Cond.methodLink RL 97 yX10_focus ∈ pw_G ∧ Cond.instanceMethod yX10_focus ∈ pw_G ∧ Cond.selects RX10 yX10_focus yX10_focus ∈ pw_G := ⟨pw_in 1562 (by decide +kernel) (by decide +kernel), pw_in 1563 (by decide +kernel) (by decide +kernel), pw_in 1564 (by decide +kernel) (by decide +kernel)⟩
theorem cwL_98 : Cond.methodLink RL 98 yL_copy ∈ pw_G ∧ Cond.static yL_copy ∈ pw_G := ⟨pw_in 1217 (by decide +kernel) (by decide +kernel), pw_in 1218 (by decide +kernel) (by decide +kernel)⟩
theorem cwL_101 : Cond.methodLink RL 101 yX10_copy ∈ pw_G ∧ Cond.instanceMethod yX10_copy ∈ pw_G ∧ Cond.selects RX10 yX10_copy yX10_copy ∈ pw_G := ⟨pw_in 1684 (by decide +kernel) (by decide +kernel), pw_in 1685 (by decide +kernel) (by decide +kernel), pw_in 1686 (by decide +kernel) (by decide +kernel)⟩
theorem cwL_102 : Cond.methodLink RL 102 yL_select ∈ pw_G ∧ Cond.static yL_select ∈ pw_G := ⟨pw_in 1226 (by decide +kernel) (by decide +kernel), pw_in 1227 (by decide +kernel) (by decide +kernel)⟩
theorem cwL_105 : Cond.methodLink RL 105 yX10_select ∈ pw_G ∧ Cond.instanceMethod yX10_select ∈ pw_G ∧ Cond.selects RX10 yX10_select yX10_select ∈ pw_G := ⟨pw_in 1688 (by decide +kernel) (by decide +kernel), pw_in 1689 (by decide +kernel) (by decide +kernel), pw_in 1690 (by decide +kernel) (by decide +kernel)⟩
theorem cwL_106 : Cond.methodLink RL 106 yX9_redraw ∈ pw_G ∧ Cond.instanceMethod yX9_redraw ∈ pw_G ∧ Cond.selects RX9 yX9_redraw yX9_redraw ∈ pw_G := ⟨pw_in 816 (by decide +kernel) (by decide +kernel), pw_in 817 (by decide +kernel) (by decide +kernel), pw_in 818 (by decide +kernel) (by decide +kernel)⟩
theorem cwL_109 : Cond.methodLink RL 109 yX10_redraw ∈ pw_G ∧ Cond.instanceMethod yX10_redraw ∈ pw_G ∧ Cond.selects RX10 yX10_redraw yX10_redraw ∈ pw_G := ⟨pw_in 1704 (by decide +kernel) (by decide +kernel), pw_in 1705 (by decide +kernel) (by decide +kernel), pw_in 1706 (by decide +kernel) (by decide +kernel)⟩
theorem cwL_110 : Cond.methodLink RL 110 yL_out ∈ pw_G ∧ Cond.static yL_out ∈ pw_G := ⟨pw_in 1247 (by decide +kernel) (by decide +kernel), pw_in 1248 (by decide +kernel) (by decide +kernel)⟩
theorem cwL_112 : Cond.methodLink RL 112 yX10_out ∈ pw_G ∧ Cond.instanceMethod yX10_out ∈ pw_G ∧ Cond.selects RX10 yX10_out yX10_out ∈ pw_G := ⟨pw_in 1732 (by decide +kernel) (by decide +kernel), pw_in 1733 (by decide +kernel) (by decide +kernel), pw_in 1734 (by decide +kernel) (by decide +kernel)⟩
theorem cwL_113 : Cond.methodLink RL 113 yL_cell_ ∈ pw_G ∧ Cond.static yL_cell_ ∈ pw_G := ⟨pw_in 1255 (by decide +kernel) (by decide +kernel), pw_in 1256 (by decide +kernel) (by decide +kernel)⟩
theorem cwL_116 : Cond.methodLink RL 116 yX10_cell ∈ pw_G ∧ Cond.instanceMethod yX10_cell ∈ pw_G ∧ Cond.selects RX10 yX10_cell yX10_cell ∈ pw_G := ⟨pw_in 1736 (by decide +kernel) (by decide +kernel), pw_in 1737 (by decide +kernel) (by decide +kernel), pw_in 1738 (by decide +kernel) (by decide +kernel)⟩
theorem cwL_117 : Cond.methodLink RL 117 yL_about ∈ pw_G ∧ Cond.static yL_about ∈ pw_G := ⟨pw_in 1263 (by decide +kernel) (by decide +kernel), pw_in 1264 (by decide +kernel) (by decide +kernel)⟩
theorem cwL_120 : Cond.methodLink RL 120 yX10_about ∈ pw_G ∧ Cond.instanceMethod yX10_about ∈ pw_G ∧ Cond.selects RX10 yX10_about yX10_about ∈ pw_G := ⟨pw_in 1740 (by decide +kernel) (by decide +kernel), pw_in 1741 (by decide +kernel) (by decide +kernel), pw_in 1742 (by decide +kernel) (by decide +kernel)⟩
theorem cwL_121 : Cond.methodLink RL 121 yL_input ∈ pw_G ∧ Cond.static yL_input ∈ pw_G := ⟨pw_in 1271 (by decide +kernel) (by decide +kernel), pw_in 1272 (by decide +kernel) (by decide +kernel)⟩
theorem cwL_123 : Cond.methodLink RL 123 yX10_input ∈ pw_G ∧ Cond.instanceMethod yX10_input ∈ pw_G ∧ Cond.selects RX10 yX10_input yX10_input ∈ pw_G := ⟨pw_in 1744 (by decide +kernel) (by decide +kernel), pw_in 1745 (by decide +kernel) (by decide +kernel), pw_in 1746 (by decide +kernel) (by decide +kernel)⟩
theorem cwL_124 : Cond.methodLink RL 124 yL_copied ∈ pw_G ∧ Cond.static yL_copied ∈ pw_G := ⟨pw_in 1289 (by decide +kernel) (by decide +kernel), pw_in 1290 (by decide +kernel) (by decide +kernel)⟩
theorem cwL_126 : Cond.methodLink RL 126 yX10_copied ∈ pw_G ∧ Cond.instanceMethod yX10_copied ∈ pw_G ∧ Cond.selects RX10 yX10_copied yX10_copied ∈ pw_G := ⟨pw_in 1748 (by decide +kernel) (by decide +kernel), pw_in 1749 (by decide +kernel) (by decide +kernel), pw_in 1750 (by decide +kernel) (by decide +kernel)⟩
theorem cwL_127 : Cond.methodLink RL 127 yL_count ∈ pw_G ∧ Cond.static yL_count ∈ pw_G := ⟨pw_in 1297 (by decide +kernel) (by decide +kernel), pw_in 1298 (by decide +kernel) (by decide +kernel)⟩
theorem cwL_129 : Cond.methodLink RL 129 yX10_count ∈ pw_G ∧ Cond.instanceMethod yX10_count ∈ pw_G ∧ Cond.selects RX10 yX10_count yX10_count ∈ pw_G := ⟨pw_in 1752 (by decide +kernel) (by decide +kernel), pw_in 1753 (by decide +kernel) (by decide +kernel), pw_in 1754 (by decide +kernel) (by decide +kernel)⟩
/-! ===== the law over a new house and a new reference ===== -/
theorem i32 (x : Int32) : -2147483648 ≤ x.toInt ∧ x.toInt < 2147483648 := ⟨Int32.le_toInt x, Int32.toInt_lt x⟩
theorem mAt_keep {B : Nat} {s : mS} {h h' : pz_H} (hA : mAt B s h) (e : ∀ a, B ≤ a → a < B + 50 → h' a = h a) : mAt B s h' :=
  ⟨(e B (by omega) (by omega)).trans hA.1, fun q hq => (e _ (by omega) (by have := mTb_3 q hq; omega)).trans (hA.2 q hq)⟩
def opc (x : Int32) : Int := (x &&& zI 15).toInt
theorem opc_z {x : Int32} : zI x.toInt &&& zI 15 = zI (opc x) := by rw [← zI_of]; exact zI_of _
theorem opc_b {x : Int32} : 0 ≤ opc x ∧ opc x ≤ 15 := by
  unfold opc
  have h1 : (x &&& zI 15).toBitVec.toNat ≤ 15 := by
    rw [show (x &&& zI 15).toBitVec = x.toBitVec &&& (zI 15).toBitVec from rfl, BitVec.toNat_and]
    exact Nat.le_trans Nat.and_le_right (by decide)
  have h2 : (x &&& zI 15).toInt = ((x &&& zI 15).toBitVec.toNat : Int) := BitVec.toInt_eq_toNat_of_lt (by omega)
  omega
set_option maxHeartbeats 1000000 in
set_option maxRecDepth 100000 in
theorem lw_feed {E : pw_E} (htr : E.1.stackTraces = false) {K : pw_K} {b uc us : Nat} {xs : Nat → Int32} {h : pz_H} {s : mS} {f : Nat → Int64} {q5 q6 : Option Value} (hq5 : q5 = none) (hu : uc ≤ 1000) (hs : us ≤ 1000000) {w H : Int} {N NH NB NL : Nat} (hG : geoH w H N NH NB NL) (hA : hAt w H N NH NB NL 0 (hNew w H N 0) h) (hM : mAt 115 s h) (hn : mN w H s) (ho : h 165 = pz_j 2 1 f) (kk : ∀ (h' : pz_H) (n' : Nat) (q5 q6 : Option Value) (uc' us' : Nat), uc' ≤ uc + 10 → us' ≤ us + 100 → pl E YL_law (b, 8, xs) room_1 K uc' us' 1069 [none, some (.ref 0), some (.ref 115), some (.ref 165), some (.int (zI (2))), q5, q6] [] h' n') : pl E YL_law (b, 8, xs) room_1 K uc us 132 [none, some (.ref 0), some (.ref 115), some (.ref 165), some (.int (zI (2))), q5, q6] [] h 166 := by
  have hw := hG.1.1
  have hH := hG.1.2.1
  have hN := hG.1.2.2.1
  have hNL := hG.2.2
  have r3 := i32 (xs 3)
  have r4 := i32 (xs 4)
  have r5 := i32 (xs 5)
  have r6 := i32 (xs 6)
  have r7 := i32 (xs 7)
  subst hq5
  refine pl_aload_n dL_law_132 rfl ?_
  refine pl_sld (a0 := 0) (i := 2) (k := 1) (a1 := 134) (a2 := 136) (a3 := 137) (a4 := 138) rfl rfl rfl rfl rfl (by show (0 : Int) ≤ 2 + 1 ∧ (2 : Int) + 1 < ((8 : Nat) : Int); decide) (nlt rfl) dL_law_133 dL_law_134 dL_law_136 dL_law_137 dL_law_138 ?_
  show pl E YL_law (b, 8, xs) room_1 K uc us 139 [none, some (.ref 0), some (.ref 115), some (.ref 165), some (.int (zI (2))), none, q6] [.int (zI ((xs 3).toInt)), .ref 0] h 166
  refine pl_sld (a0 := 0) (i := 2) (k := 2) (a1 := 140) (a2 := 142) (a3 := 143) (a4 := 144) rfl rfl rfl rfl rfl (by show (0 : Int) ≤ 2 + 2 ∧ (2 : Int) + 2 < ((8 : Nat) : Int); decide) (nlt rfl) dL_law_139 dL_law_140 dL_law_142 dL_law_143 dL_law_144 ?_
  show pl E YL_law (b, 8, xs) room_1 K uc us 145 [none, some (.ref 0), some (.ref 115), some (.ref 165), some (.int (zI (2))), none, q6] [.int (zI ((xs 4).toInt)), .int (zI ((xs 3).toInt)), .ref 0] h 166
  refine pl_i2l dL_law_145 ?_
  rw [← zI_of]
  refine pl_bipush (v := zI 32) dL_law_146 (by decide) ?_
  refine pl_lshl dL_law_148 ?_
  show pl E YL_law (b, 8, xs) room_1 K uc us 149 [none, some (.ref 0), some (.ref 115), some (.ref 165), some (.int (zI (2))), none, q6] [.long ((xs 4).toInt64 <<< ((zI 32).toInt64 &&& 63)), .int (zI ((xs 3).toInt)), .ref 0] h 166
  refine pl_sld (a0 := 0) (i := 2) (k := 3) (a1 := 150) (a2 := 152) (a3 := 153) (a4 := 154) rfl rfl rfl rfl rfl (by show (0 : Int) ≤ 2 + 3 ∧ (2 : Int) + 3 < ((8 : Nat) : Int); decide) (nlt rfl) dL_law_149 dL_law_150 dL_law_152 dL_law_153 dL_law_154 ?_
  show pl E YL_law (b, 8, xs) room_1 K uc us 155 [none, some (.ref 0), some (.ref 115), some (.ref 165), some (.int (zI (2))), none, q6] [.int (zI ((xs 5).toInt)), .long ((xs 4).toInt64 <<< ((zI 32).toInt64 &&& 63)), .int (zI ((xs 3).toInt)), .ref 0] h 166
  refine pl_i2l dL_law_155 ?_
  rw [← zI_of]
  refine pl_ldc2 clong dL_law_156 ?_
  refine pl_land dL_law_159 ?_
  refine pl_lor dL_law_160 ?_
  show pl E YL_law (b, 8, xs) room_1 K uc us 161 [none, some (.ref 0), some (.ref 115), some (.ref 165), some (.int (zI (2))), none, q6] [.long (((xs 4).toInt64 <<< ((zI 32).toInt64 &&& 63) ||| ((xs 5).toInt64 &&& 4294967295))), .int (zI ((xs 3).toInt)), .ref 0] h 166
  refine pl_sld (a0 := 0) (i := 2) (k := 4) (a1 := 162) (a2 := 164) (a3 := 165) (a4 := 166) rfl rfl rfl rfl rfl (by show (0 : Int) ≤ 2 + 4 ∧ (2 : Int) + 4 < ((8 : Nat) : Int); decide) (nlt rfl) dL_law_161 dL_law_162 dL_law_164 dL_law_165 dL_law_166 ?_
  show pl E YL_law (b, 8, xs) room_1 K uc us 167 [none, some (.ref 0), some (.ref 115), some (.ref 165), some (.int (zI (2))), none, q6] [.int (zI ((xs 6).toInt)), .long (((xs 4).toInt64 <<< ((zI 32).toInt64 &&& 63) ||| ((xs 5).toInt64 &&& 4294967295))), .int (zI ((xs 3).toInt)), .ref 0] h 166
  refine pl_callSH (k := 4) (As := [.ref 0, .int (zI ((xs 3).toInt)), .long (((xs 4).toInt64 <<< ((zI 32).toInt64 &&& 63) ||| ((xs 5).toInt64 &&& 4294967295))), .int (zI ((xs 6).toInt))]) (rm := rmD (9 + 1) 2 12) (wF_feed htr hG hA (by omega) (by omega)) rfl rfl whL_feed ⟨by decide +kernel, by decide +kernel, by decide +kernel⟩ ⟨cwL_75.1, cwL_75.2, iniL⟩ ⟨nle rfl, nle rfl⟩ (nle rfl) ⟨by show uc + 2 ≤ 600002; omega, by show us + 12 ≤ 7302198; omega⟩ dL_law_167 ?_
  intro r_9 h_9 n_9 hq hn9
  obtain ⟨e1, hkp⟩ := hq
  rw [e1]
  show pl E YL_law (b, 8, xs) room_1 K (uc + 2) (us + 12) 170 [none, some (.ref 0), some (.ref 115), some (.ref 165), some (.int (zI (2))), none, q6] [.int (zI (if ((xs 3).toInt) = 0 then (if 1 ≤ ((xs 6).toInt) ∧ ((xs 6).toInt) ≤ 8 then 0 else 2) else 1))] h_9 n_9
  have hM9 : mAt 115 s h_9 := mAt_keep hM (fun a a1 a2 => hkp a a1 (by omega))
  refine pl_istore (lv' := [none, some (.ref 0), some (.ref 115), some (.ref 165), some (.int (zI (2))), some (.int (zI (if ((xs 3).toInt) = 0 then (if 1 ≤ ((xs 6).toInt) ∧ ((xs 6).toInt) ≤ 8 then 0 else 2) else 1))), q6]) dL_law_170 (by decide) (by decide) rfl rfl ?_
  refine pl_aload_n dL_law_172 rfl ?_
  refine pl_sld (a0 := 0) (i := 2) (k := 1) (a1 := 174) (a2 := 176) (a3 := 177) (a4 := 178) rfl rfl rfl rfl rfl (by show (0 : Int) ≤ 2 + 1 ∧ (2 : Int) + 1 < ((8 : Nat) : Int); decide) (nlt rfl) dL_law_173 dL_law_174 dL_law_176 dL_law_177 dL_law_178 ?_
  show pl E YL_law (b, 8, xs) room_1 K (uc + 2) (us + 12) 179 [none, some (.ref 0), some (.ref 115), some (.ref 165), some (.int (zI (2))), some (.int (zI (if ((xs 3).toInt) = 0 then (if 1 ≤ ((xs 6).toInt) ∧ ((xs 6).toInt) ≤ 8 then 0 else 2) else 1))), q6] [.int (zI ((xs 3).toInt)), .ref 115] h_9 n_9
  refine pl_sld (a0 := 0) (i := 2) (k := 2) (a1 := 180) (a2 := 182) (a3 := 183) (a4 := 184) rfl rfl rfl rfl rfl (by show (0 : Int) ≤ 2 + 2 ∧ (2 : Int) + 2 < ((8 : Nat) : Int); decide) (nlt rfl) dL_law_179 dL_law_180 dL_law_182 dL_law_183 dL_law_184 ?_
  show pl E YL_law (b, 8, xs) room_1 K (uc + 2) (us + 12) 185 [none, some (.ref 0), some (.ref 115), some (.ref 165), some (.int (zI (2))), some (.int (zI (if ((xs 3).toInt) = 0 then (if 1 ≤ ((xs 6).toInt) ∧ ((xs 6).toInt) ≤ 8 then 0 else 2) else 1))), q6] [.int (zI ((xs 4).toInt)), .int (zI ((xs 3).toInt)), .ref 115] h_9 n_9
  refine pl_i2l dL_law_185 ?_
  rw [← zI_of]
  refine pl_bipush (v := zI 32) dL_law_186 (by decide) ?_
  refine pl_lshl dL_law_188 ?_
  show pl E YL_law (b, 8, xs) room_1 K (uc + 2) (us + 12) 189 [none, some (.ref 0), some (.ref 115), some (.ref 165), some (.int (zI (2))), some (.int (zI (if ((xs 3).toInt) = 0 then (if 1 ≤ ((xs 6).toInt) ∧ ((xs 6).toInt) ≤ 8 then 0 else 2) else 1))), q6] [.long ((xs 4).toInt64 <<< ((zI 32).toInt64 &&& 63)), .int (zI ((xs 3).toInt)), .ref 115] h_9 n_9
  refine pl_sld (a0 := 0) (i := 2) (k := 3) (a1 := 190) (a2 := 192) (a3 := 193) (a4 := 194) rfl rfl rfl rfl rfl (by show (0 : Int) ≤ 2 + 3 ∧ (2 : Int) + 3 < ((8 : Nat) : Int); decide) (nlt rfl) dL_law_189 dL_law_190 dL_law_192 dL_law_193 dL_law_194 ?_
  show pl E YL_law (b, 8, xs) room_1 K (uc + 2) (us + 12) 195 [none, some (.ref 0), some (.ref 115), some (.ref 165), some (.int (zI (2))), some (.int (zI (if ((xs 3).toInt) = 0 then (if 1 ≤ ((xs 6).toInt) ∧ ((xs 6).toInt) ≤ 8 then 0 else 2) else 1))), q6] [.int (zI ((xs 5).toInt)), .long ((xs 4).toInt64 <<< ((zI 32).toInt64 &&& 63)), .int (zI ((xs 3).toInt)), .ref 115] h_9 n_9
  refine pl_i2l dL_law_195 ?_
  rw [← zI_of]
  refine pl_ldc2 clong dL_law_196 ?_
  refine pl_land dL_law_199 ?_
  refine pl_lor dL_law_200 ?_
  show pl E YL_law (b, 8, xs) room_1 K (uc + 2) (us + 12) 201 [none, some (.ref 0), some (.ref 115), some (.ref 165), some (.int (zI (2))), some (.int (zI (if ((xs 3).toInt) = 0 then (if 1 ≤ ((xs 6).toInt) ∧ ((xs 6).toInt) ≤ 8 then 0 else 2) else 1))), q6] [.long (((xs 4).toInt64 <<< ((zI 32).toInt64 &&& 63) ||| ((xs 5).toInt64 &&& 4294967295))), .int (zI ((xs 3).toInt)), .ref 115] h_9 n_9
  refine pl_sld (a0 := 0) (i := 2) (k := 4) (a1 := 202) (a2 := 204) (a3 := 205) (a4 := 206) rfl rfl rfl rfl rfl (by show (0 : Int) ≤ 2 + 4 ∧ (2 : Int) + 4 < ((8 : Nat) : Int); decide) (nlt rfl) dL_law_201 dL_law_202 dL_law_204 dL_law_205 dL_law_206 ?_
  show pl E YL_law (b, 8, xs) room_1 K (uc + 2) (us + 12) 207 [none, some (.ref 0), some (.ref 115), some (.ref 165), some (.int (zI (2))), some (.int (zI (if ((xs 3).toInt) = 0 then (if 1 ≤ ((xs 6).toInt) ∧ ((xs 6).toInt) ≤ 8 then 0 else 2) else 1))), q6] [.int (zI ((xs 6).toInt)), .long (((xs 4).toInt64 <<< ((zI 32).toInt64 &&& 63) ||| ((xs 5).toInt64 &&& 4294967295))), .int (zI ((xs 3).toInt)), .ref 115] h_9 n_9
  refine pl_callV (As := [.int (zI ((xs 3).toInt)), .long (((xs 4).toInt64 <<< ((zI 32).toInt64 &&& 63) ||| ((xs 5).toInt64 &&& 4294967295))), .int (zI ((xs 6).toInt))]) (b := 115) (rm := rmD 8 0 0) (nF_feed (w := w) (H := H) htr hM9 hw hH hn (by omega) (by omega)) rfl hM9.1 rfl rfl ywX10_feed rfl cwL_78 ⟨nle rfl, nle rfl⟩ (nle rfl) ⟨by show uc + 2 ≤ 600002; omega, by show us + 12 ≤ 7302198; omega⟩ dL_law_207 ?_
  intro r_8 h_8 n_8 hq _
  obtain ⟨⟨s8, hM8, eT, hF8, e4⟩, e1⟩ := hq
  rw [e1, e4]
  show pl E YL_law (b, 8, xs) room_1 K (uc + 2) (us + 12) 210 [none, some (.ref 0), some (.ref 115), some (.ref 165), some (.int (zI (2))), some (.int (zI (if ((xs 3).toInt) = 0 then (if 1 ≤ ((xs 6).toInt) ∧ ((xs 6).toInt) ≤ 8 then 0 else 2) else 1))), q6] [] h_8 n_9
  refine pl_aload_n dL_law_210 rfl ?_
  refine pl_callV (As := []) (b := 115) (rm := rmD 0 0 0) (nR_thrown htr hM8) rfl hM8.1 rfl rfl ywX10_thrown rfl cwL_79 ⟨nle rfl, nle rfl⟩ (nle rfl) ⟨by show uc + 2 ≤ 600002; omega, by show us + 12 ≤ 7302198; omega⟩ dL_law_211 ?_
  intro r_7 h_7 n_7 hq _
  rw [hq.1, hq.2.1, hq.2.2, eT]
  show pl E YL_law (b, 8, xs) room_1 K (uc + 2) (us + 12) 214 [none, some (.ref 0), some (.ref 115), some (.ref 165), some (.int (zI (2))), some (.int (zI (if ((xs 3).toInt) = 0 then (if 1 ≤ ((xs 6).toInt) ∧ ((xs 6).toInt) ≤ 8 then 0 else 2) else 1))), q6] [.int (zI (if ((xs 3).toInt) = 0 then (if 1 ≤ ((xs 6).toInt) ∧ ((xs 6).toInt) ≤ 8 then 0 else 2) else 1))] h_8 n_9
  refine pl_iload dL_law_214 rfl ?_
  refine pl_icmp_eq (tgt := 221) dL_law_216 rfl (by omega) (by omega) (fun c216 => ?_) (fun c216 => ?_)
  ·
    refine pl_goto (tgt := 1069) dL_law_221 rfl ?_
    exact kk h_8 n_9 _ _ (uc + 2) (us + 12) (by omega) (by omega)
  · exfalso; omega
set_option maxHeartbeats 1000000 in
set_option maxRecDepth 100000 in
theorem lw_key {E : pw_E} (htr : E.1.stackTraces = false) {K : pw_K} {b uc us : Nat} {xs : Nat → Int32} {h : pz_H} {s : mS} {f : Nat → Int64} {q5 q6 : Option Value} (hq5 : q5 = none) (hu : uc ≤ 1000) (hs : us ≤ 1000000) {w H : Int} {N NH NB NL : Nat} (hG : geoH w H N NH NB NL) (hA : hAt w H N NH NB NL 0 (hNew w H N 0) h) (hM : mAt 115 s h) (hn : mN w H s) (ho : h 165 = pz_j 2 1 f) (kk : ∀ (h' : pz_H) (n' : Nat) (q5 q6 : Option Value) (uc' us' : Nat), uc' ≤ uc + 10 → us' ≤ us + 100 → pl E YL_law (b, 8, xs) room_1 K uc' us' 1069 [none, some (.ref 0), some (.ref 115), some (.ref 165), some (.int (zI (2))), q5, q6] [] h' n') : pl E YL_law (b, 8, xs) room_1 K uc us 224 [none, some (.ref 0), some (.ref 115), some (.ref 165), some (.int (zI (2))), q5, q6] [] h 166 := by
  have hw := hG.1.1
  have hH := hG.1.2.1
  have hN := hG.1.2.2.1
  have hNL := hG.2.2
  have r3 := i32 (xs 3)
  have r4 := i32 (xs 4)
  have r5 := i32 (xs 5)
  have r6 := i32 (xs 6)
  have r7 := i32 (xs 7)
  subst hq5
  refine pl_aload_n dL_law_224 rfl ?_
  refine pl_sld (a0 := 0) (i := 2) (k := 1) (a1 := 226) (a2 := 228) (a3 := 229) (a4 := 230) rfl rfl rfl rfl rfl (by show (0 : Int) ≤ 2 + 1 ∧ (2 : Int) + 1 < ((8 : Nat) : Int); decide) (nlt rfl) dL_law_225 dL_law_226 dL_law_228 dL_law_229 dL_law_230 ?_
  show pl E YL_law (b, 8, xs) room_1 K uc us 231 [none, some (.ref 0), some (.ref 115), some (.ref 165), some (.int (zI (2))), none, q6] [.int (zI ((xs 3).toInt)), .ref 0] h 166
  refine pl_aload_n dL_law_231 rfl ?_
  refine pl_callSH (k := 3) (As := [.ref 0, .int (zI ((xs 3).toInt)), .ref 165]) (rm := rmD (23 + 1) 2 16) (wF_key htr hG hA (by omega) ho) rfl rfl whL_key ⟨by decide +kernel, by decide +kernel, by decide +kernel⟩ ⟨cwL_83.1, cwL_83.2, iniL⟩ ⟨nle rfl, nle rfl⟩ (nle rfl) ⟨by show uc + 2 ≤ 600002; omega, by show us + 16 ≤ 7302198; omega⟩ dL_law_232 ?_
  intro r_9 h_9 n_9 hq hn9
  obtain ⟨e1, hkp⟩ := hq
  rw [e1]
  show pl E YL_law (b, 8, xs) room_1 K (uc + 2) (us + 16) 235 [none, some (.ref 0), some (.ref 115), some (.ref 165), some (.int (zI (2))), none, q6] [.int (zI (if 0 ≤ ((xs 3).toInt) ∧ ((xs 3).toInt) ≤ 255 then 0 else 1))] h_9 n_9
  have hM9 : mAt 115 s h_9 := mAt_keep hM (fun a a1 a2 => hkp.1 a a1 (by omega))
  refine pl_istore (lv' := [none, some (.ref 0), some (.ref 115), some (.ref 165), some (.int (zI (2))), some (.int (zI (if 0 ≤ ((xs 3).toInt) ∧ ((xs 3).toInt) ≤ 255 then 0 else 1))), q6]) dL_law_235 (by decide) (by decide) rfl rfl ?_
  refine pl_aload_n dL_law_237 rfl ?_
  refine pl_sld (a0 := 0) (i := 2) (k := 1) (a1 := 239) (a2 := 241) (a3 := 242) (a4 := 243) rfl rfl rfl rfl rfl (by show (0 : Int) ≤ 2 + 1 ∧ (2 : Int) + 1 < ((8 : Nat) : Int); decide) (nlt rfl) dL_law_238 dL_law_239 dL_law_241 dL_law_242 dL_law_243 ?_
  show pl E YL_law (b, 8, xs) room_1 K (uc + 2) (us + 16) 244 [none, some (.ref 0), some (.ref 115), some (.ref 165), some (.int (zI (2))), some (.int (zI (if 0 ≤ ((xs 3).toInt) ∧ ((xs 3).toInt) ≤ 255 then 0 else 1))), q6] [.int (zI ((xs 3).toInt)), .ref 115] h_9 n_9
  refine pl_callV (As := [.int (zI ((xs 3).toInt))]) (b := 115) (rm := rmD 1 0 0) (nF_key (w := w) (H := H) htr hM9 hw hH hn (by omega)) rfl hM9.1 rfl rfl ywX10_key rfl cwL_86 ⟨nle rfl, nle rfl⟩ (nle rfl) ⟨by show uc + 2 ≤ 600002; omega, by show us + 16 ≤ 7302198; omega⟩ dL_law_244 ?_
  intro r_8 h_8 n_8 hq _
  obtain ⟨⟨s8, hM8, eT, hF8, e4⟩, e1⟩ := hq
  rw [e1, e4]
  show pl E YL_law (b, 8, xs) room_1 K (uc + 2) (us + 16) 247 [none, some (.ref 0), some (.ref 115), some (.ref 165), some (.int (zI (2))), some (.int (zI (if 0 ≤ ((xs 3).toInt) ∧ ((xs 3).toInt) ≤ 255 then 0 else 1))), q6] [.int (zI (0))] h_8 n_9
  refine pl_istore (lv' := [none, some (.ref 0), some (.ref 115), some (.ref 165), some (.int (zI (2))), some (.int (zI (if 0 ≤ ((xs 3).toInt) ∧ ((xs 3).toInt) ≤ 255 then 0 else 1))), some (.int (zI (0)))]) dL_law_247 (by decide) (by decide) rfl rfl ?_
  refine pl_aload_n dL_law_249 rfl ?_
  refine pl_callV (As := []) (b := 115) (rm := rmD 0 0 0) (nR_thrown htr hM8) rfl hM8.1 rfl rfl ywX10_thrown rfl cwL_79 ⟨nle rfl, nle rfl⟩ (nle rfl) ⟨by show uc + 2 ≤ 600002; omega, by show us + 16 ≤ 7302198; omega⟩ dL_law_250 ?_
  intro r_7 h_7 n_7 hq _
  rw [hq.1, hq.2.1, hq.2.2, eT]
  show pl E YL_law (b, 8, xs) room_1 K (uc + 2) (us + 16) 253 [none, some (.ref 0), some (.ref 115), some (.ref 165), some (.int (zI (2))), some (.int (zI (if 0 ≤ ((xs 3).toInt) ∧ ((xs 3).toInt) ≤ 255 then 0 else 1))), some (.int (zI (0)))] [.int (zI (if 0 ≤ ((xs 3).toInt) ∧ ((xs 3).toInt) ≤ 255 then 0 else 1))] h_8 n_9
  refine pl_iload dL_law_253 rfl ?_
  refine pl_icmp_eq (tgt := 260) dL_law_255 rfl (by omega) (by omega) (fun c255 => ?_) (fun c255 => ?_)
  ·
    refine pl_iload dL_law_260 rfl ?_
    refine pl_if_ne (tgt := 277) dL_law_262 rfl (by omega) (fun c262 => ?_) (fun c262 => ?_)
    ·
      refine pl_goto (tgt := 1069) dL_law_277 rfl ?_
      exact kk h_8 n_9 _ _ (uc + 2) (us + 16) (by omega) (by omega)
    ·
      refine pl_aload_n dL_law_265 rfl ?_
      refine pl_iconst (v := zI (0)) dL_law_266 (by decide) ?_
      obtain ⟨g9, hg9, hg0⟩ := hkp.2.1 (by omega)
      have ho8 : h_8 165 = pz_j 2 1 g9 := (hF8 165 (by omega)).trans hg9
      refine pl_lald (t := 2) (f := g9) rfl ho8 (by omega) (by decide) dL_law_267 ?_
      rw [show g9 (Int.toNat 0) = zL (0) from hg0]
      show pl E YL_law (b, 8, xs) room_1 K (uc + 2) (us + 16) 268 [none, some (.ref 0), some (.ref 115), some (.ref 165), some (.int (zI (2))), some (.int (zI (if 0 ≤ ((xs 3).toInt) ∧ ((xs 3).toInt) ≤ 255 then 0 else 1))), some (.int (zI (0)))] [.long (zL (0))] h_8 n_9
      refine pl_iload dL_law_268 rfl ?_
      refine pl_zi2l dL_law_270 (by omega) ?_
      refine pl_zlcmp dL_law_271 (by omega) (by omega) ?_
      refine pl_if_eq (tgt := 277) dL_law_272 rfl (by omega) (fun c272 => ?_) (fun c272 => ?_)
      ·
        refine pl_goto (tgt := 1069) dL_law_277 rfl ?_
        exact kk h_8 n_9 _ _ (uc + 2) (us + 16) (by omega) (by omega)
      · exfalso; omega
  · exfalso; omega
set_option maxHeartbeats 1000000 in
set_option maxRecDepth 100000 in
theorem lw_split {E : pw_E} (htr : E.1.stackTraces = false) {K : pw_K} {b uc us : Nat} {xs : Nat → Int32} {h : pz_H} {s : mS} {f : Nat → Int64} {q5 q6 : Option Value} (hq5 : q5 = none) (hu : uc ≤ 1000) (hs : us ≤ 1000000) {w H : Int} {N NH NB NL : Nat} (hG : geoH w H N NH NB NL) (hA : hAt w H N NH NB NL 0 (hNew w H N 0) h) (hM : mAt 115 s h) (hn : mN w H s) (ho : h 165 = pz_j 2 1 f) (kk : ∀ (h' : pz_H) (n' : Nat) (q5 q6 : Option Value) (uc' us' : Nat), uc' ≤ uc + 10 → us' ≤ us + 100 → pl E YL_law (b, 8, xs) room_1 K uc' us' 1069 [none, some (.ref 0), some (.ref 115), some (.ref 165), some (.int (zI (2))), q5, q6] [] h' n') : pl E YL_law (b, 8, xs) room_1 K uc us 280 [none, some (.ref 0), some (.ref 115), some (.ref 165), some (.int (zI (2))), q5, q6] [] h 166 := by
  have hw := hG.1.1
  have hH := hG.1.2.1
  have hN := hG.1.2.2.1
  have hNL := hG.2.2
  have r3 := i32 (xs 3)
  have r4 := i32 (xs 4)
  have r5 := i32 (xs 5)
  have r6 := i32 (xs 6)
  have r7 := i32 (xs 7)
  subst hq5
  refine pl_aload_n dL_law_280 rfl ?_
  refine pl_sld (a0 := 0) (i := 2) (k := 1) (a1 := 282) (a2 := 284) (a3 := 285) (a4 := 286) rfl rfl rfl rfl rfl (by show (0 : Int) ≤ 2 + 1 ∧ (2 : Int) + 1 < ((8 : Nat) : Int); decide) (nlt rfl) dL_law_281 dL_law_282 dL_law_284 dL_law_285 dL_law_286 ?_
  show pl E YL_law (b, 8, xs) room_1 K uc us 287 [none, some (.ref 0), some (.ref 115), some (.ref 165), some (.int (zI (2))), none, q6] [.int (zI ((xs 3).toInt)), .ref 0] h 166
  refine pl_sld (a0 := 0) (i := 2) (k := 2) (a1 := 288) (a2 := 290) (a3 := 291) (a4 := 292) rfl rfl rfl rfl rfl (by show (0 : Int) ≤ 2 + 2 ∧ (2 : Int) + 2 < ((8 : Nat) : Int); decide) (nlt rfl) dL_law_287 dL_law_288 dL_law_290 dL_law_291 dL_law_292 ?_
  show pl E YL_law (b, 8, xs) room_1 K uc us 293 [none, some (.ref 0), some (.ref 115), some (.ref 165), some (.int (zI (2))), none, q6] [.int (zI ((xs 4).toInt)), .int (zI ((xs 3).toInt)), .ref 0] h 166
  refine pl_if_eq (tgt := 300) dL_law_293 rfl (by omega) (fun c293 => ?_) (fun c293 => ?_)
  ·
    refine pl_iconst (v := zI (0)) dL_law_300 (by decide) ?_
    refine pl_aload_n dL_law_301 rfl ?_
    refine pl_callSH (k := 4) (As := [.ref 0, .int (zI ((xs 3).toInt)), .int (zI (0)), .ref 165]) (rm := rmD (22 + 1) 4 28) (wF_split htr hG hA (by omega) (by omega) (by omega) ho) rfl rfl whL_split ⟨by decide +kernel, by decide +kernel, by decide +kernel⟩ ⟨cwL_87.1, cwL_87.2, iniL⟩ ⟨nle rfl, nle rfl⟩ (nle rfl) ⟨by show uc + 4 ≤ 600002; omega, by show us + 28 ≤ 7302198; omega⟩ dL_law_302 ?_
    intro r_9 h_9 n_9 hq hn9
    obtain ⟨e1, hkp⟩ := hq
    rw [e1]
    show pl E YL_law (b, 8, xs) room_1 K (uc + 4) (us + 28) 305 [none, some (.ref 0), some (.ref 115), some (.ref 165), some (.int (zI (2))), none, q6] [.int (zI (if ((xs 3).toInt) = 0 then 0 else 1))] h_9 n_9
    have hM9 : mAt 115 s h_9 := mAt_keep hM (fun a a1 a2 => hkp.1 a a1 (by omega))
    refine pl_istore (lv' := [none, some (.ref 0), some (.ref 115), some (.ref 165), some (.int (zI (2))), some (.int (zI (if ((xs 3).toInt) = 0 then 0 else 1))), q6]) dL_law_305 (by decide) (by decide) rfl rfl ?_
    refine pl_aload_n dL_law_307 rfl ?_
    refine pl_sld (a0 := 0) (i := 2) (k := 1) (a1 := 309) (a2 := 311) (a3 := 312) (a4 := 313) rfl rfl rfl rfl rfl (by show (0 : Int) ≤ 2 + 1 ∧ (2 : Int) + 1 < ((8 : Nat) : Int); decide) (nlt rfl) dL_law_308 dL_law_309 dL_law_311 dL_law_312 dL_law_313 ?_
    show pl E YL_law (b, 8, xs) room_1 K (uc + 4) (us + 28) 314 [none, some (.ref 0), some (.ref 115), some (.ref 165), some (.int (zI (2))), some (.int (zI (if ((xs 3).toInt) = 0 then 0 else 1))), q6] [.int (zI ((xs 3).toInt)), .ref 115] h_9 n_9
    refine pl_sld (a0 := 0) (i := 2) (k := 2) (a1 := 315) (a2 := 317) (a3 := 318) (a4 := 319) rfl rfl rfl rfl rfl (by show (0 : Int) ≤ 2 + 2 ∧ (2 : Int) + 2 < ((8 : Nat) : Int); decide) (nlt rfl) dL_law_314 dL_law_315 dL_law_317 dL_law_318 dL_law_319 ?_
    show pl E YL_law (b, 8, xs) room_1 K (uc + 4) (us + 28) 320 [none, some (.ref 0), some (.ref 115), some (.ref 165), some (.int (zI (2))), some (.int (zI (if ((xs 3).toInt) = 0 then 0 else 1))), q6] [.int (zI ((xs 4).toInt)), .int (zI ((xs 3).toInt)), .ref 115] h_9 n_9
    refine pl_if_eq (tgt := 327) dL_law_320 rfl (by omega) (fun c320 => ?_) (fun c320 => ?_)
    ·
      refine pl_iconst (v := zI (0)) dL_law_327 (by decide) ?_
      refine pl_callV (As := [.int (zI ((xs 3).toInt)), .int (zI (0))]) (b := 115) (rm := rmD 4 0 0) (nF_split (w := w) (H := H) htr hM9 hw hH hn (by omega) (by omega) (by omega)) rfl hM9.1 rfl rfl ywX10_split rfl cwL_90 ⟨nle rfl, nle rfl⟩ (nle rfl) ⟨by show uc + 4 ≤ 600002; omega, by show us + 28 ≤ 7302198; omega⟩ dL_law_328 ?_
      intro r_8 h_8 n_8 hq _
      obtain ⟨⟨s8, hM8, eT, hF8, e4⟩, e1⟩ := hq
      rw [e1, e4]
      show pl E YL_law (b, 8, xs) room_1 K (uc + 4) (us + 28) 331 [none, some (.ref 0), some (.ref 115), some (.ref 165), some (.int (zI (2))), some (.int (zI (if ((xs 3).toInt) = 0 then 0 else 1))), q6] [.int (zI (if ((xs 3).toInt) = 0 then 1 else 0))] h_8 n_9
      refine pl_istore (lv' := [none, some (.ref 0), some (.ref 115), some (.ref 165), some (.int (zI (2))), some (.int (zI (if ((xs 3).toInt) = 0 then 0 else 1))), some (.int (zI (if ((xs 3).toInt) = 0 then 1 else 0)))]) dL_law_331 (by decide) (by decide) rfl rfl ?_
      refine pl_aload_n dL_law_333 rfl ?_
      refine pl_callV (As := []) (b := 115) (rm := rmD 0 0 0) (nR_thrown htr hM8) rfl hM8.1 rfl rfl ywX10_thrown rfl cwL_79 ⟨nle rfl, nle rfl⟩ (nle rfl) ⟨by show uc + 4 ≤ 600002; omega, by show us + 28 ≤ 7302198; omega⟩ dL_law_334 ?_
      intro r_7 h_7 n_7 hq _
      rw [hq.1, hq.2.1, hq.2.2, eT]
      show pl E YL_law (b, 8, xs) room_1 K (uc + 4) (us + 28) 337 [none, some (.ref 0), some (.ref 115), some (.ref 165), some (.int (zI (2))), some (.int (zI (if ((xs 3).toInt) = 0 then 0 else 1))), some (.int (zI (if ((xs 3).toInt) = 0 then 1 else 0)))] [.int (zI (if ((xs 3).toInt) = 0 then 0 else 1))] h_8 n_9
      refine pl_iload dL_law_337 rfl ?_
      refine pl_icmp_eq (tgt := 344) dL_law_339 rfl (by omega) (by omega) (fun c339 => ?_) (fun c339 => ?_)
      ·
        refine pl_iload dL_law_344 rfl ?_
        refine pl_if_ne (tgt := 361) dL_law_346 rfl (by omega) (fun c346 => ?_) (fun c346 => ?_)
        ·
          refine pl_goto (tgt := 1069) dL_law_361 rfl ?_
          exact kk h_8 n_9 _ _ (uc + 4) (us + 28) (by omega) (by omega)
        ·
          refine pl_aload_n dL_law_349 rfl ?_
          refine pl_iconst (v := zI (0)) dL_law_350 (by decide) ?_
          obtain ⟨g9, hg9, hg0⟩ := hkp.2.1 (by omega)
          have ho8 : h_8 165 = pz_j 2 1 g9 := (hF8 165 (by omega)).trans hg9
          refine pl_lald (t := 2) (f := g9) rfl ho8 (by omega) (by decide) dL_law_351 ?_
          rw [show g9 (Int.toNat 0) = zL (if ((xs 3).toInt) = 0 then 1 else 0) from hg0]
          show pl E YL_law (b, 8, xs) room_1 K (uc + 4) (us + 28) 352 [none, some (.ref 0), some (.ref 115), some (.ref 165), some (.int (zI (2))), some (.int (zI (if ((xs 3).toInt) = 0 then 0 else 1))), some (.int (zI (if ((xs 3).toInt) = 0 then 1 else 0)))] [.long (zL (if ((xs 3).toInt) = 0 then 1 else 0))] h_8 n_9
          refine pl_iload dL_law_352 rfl ?_
          refine pl_zi2l dL_law_354 (by omega) ?_
          refine pl_zlcmp dL_law_355 (by omega) (by omega) ?_
          refine pl_if_eq (tgt := 361) dL_law_356 rfl (by omega) (fun c356 => ?_) (fun c356 => ?_)
          ·
            refine pl_goto (tgt := 1069) dL_law_361 rfl ?_
            exact kk h_8 n_9 _ _ (uc + 4) (us + 28) (by omega) (by omega)
          · exfalso; omega
      · exfalso; omega
    · exfalso; omega
  ·
    refine pl_iconst (v := zI (1)) dL_law_296 (by decide) ?_
    refine pl_goto (tgt := 301) dL_law_297 rfl ?_
    refine pl_aload_n dL_law_301 rfl ?_
    refine pl_callSH (k := 4) (As := [.ref 0, .int (zI ((xs 3).toInt)), .int (zI (1)), .ref 165]) (rm := rmD (22 + 1) 4 28) (wF_split htr hG hA (by omega) (by omega) (by omega) ho) rfl rfl whL_split ⟨by decide +kernel, by decide +kernel, by decide +kernel⟩ ⟨cwL_87.1, cwL_87.2, iniL⟩ ⟨nle rfl, nle rfl⟩ (nle rfl) ⟨by show uc + 4 ≤ 600002; omega, by show us + 28 ≤ 7302198; omega⟩ dL_law_302 ?_
    intro r_9 h_9 n_9 hq hn9
    obtain ⟨e1, hkp⟩ := hq
    rw [e1]
    show pl E YL_law (b, 8, xs) room_1 K (uc + 4) (us + 28) 305 [none, some (.ref 0), some (.ref 115), some (.ref 165), some (.int (zI (2))), none, q6] [.int (zI (if ((xs 3).toInt) = 0 then 0 else 1))] h_9 n_9
    have hM9 : mAt 115 s h_9 := mAt_keep hM (fun a a1 a2 => hkp.1 a a1 (by omega))
    refine pl_istore (lv' := [none, some (.ref 0), some (.ref 115), some (.ref 165), some (.int (zI (2))), some (.int (zI (if ((xs 3).toInt) = 0 then 0 else 1))), q6]) dL_law_305 (by decide) (by decide) rfl rfl ?_
    refine pl_aload_n dL_law_307 rfl ?_
    refine pl_sld (a0 := 0) (i := 2) (k := 1) (a1 := 309) (a2 := 311) (a3 := 312) (a4 := 313) rfl rfl rfl rfl rfl (by show (0 : Int) ≤ 2 + 1 ∧ (2 : Int) + 1 < ((8 : Nat) : Int); decide) (nlt rfl) dL_law_308 dL_law_309 dL_law_311 dL_law_312 dL_law_313 ?_
    show pl E YL_law (b, 8, xs) room_1 K (uc + 4) (us + 28) 314 [none, some (.ref 0), some (.ref 115), some (.ref 165), some (.int (zI (2))), some (.int (zI (if ((xs 3).toInt) = 0 then 0 else 1))), q6] [.int (zI ((xs 3).toInt)), .ref 115] h_9 n_9
    refine pl_sld (a0 := 0) (i := 2) (k := 2) (a1 := 315) (a2 := 317) (a3 := 318) (a4 := 319) rfl rfl rfl rfl rfl (by show (0 : Int) ≤ 2 + 2 ∧ (2 : Int) + 2 < ((8 : Nat) : Int); decide) (nlt rfl) dL_law_314 dL_law_315 dL_law_317 dL_law_318 dL_law_319 ?_
    show pl E YL_law (b, 8, xs) room_1 K (uc + 4) (us + 28) 320 [none, some (.ref 0), some (.ref 115), some (.ref 165), some (.int (zI (2))), some (.int (zI (if ((xs 3).toInt) = 0 then 0 else 1))), q6] [.int (zI ((xs 4).toInt)), .int (zI ((xs 3).toInt)), .ref 115] h_9 n_9
    refine pl_if_eq (tgt := 327) dL_law_320 rfl (by omega) (fun c320 => ?_) (fun c320 => ?_)
    · exfalso; omega
    ·
      refine pl_iconst (v := zI (1)) dL_law_323 (by decide) ?_
      refine pl_goto (tgt := 328) dL_law_324 rfl ?_
      refine pl_callV (As := [.int (zI ((xs 3).toInt)), .int (zI (1))]) (b := 115) (rm := rmD 4 0 0) (nF_split (w := w) (H := H) htr hM9 hw hH hn (by omega) (by omega) (by omega)) rfl hM9.1 rfl rfl ywX10_split rfl cwL_90 ⟨nle rfl, nle rfl⟩ (nle rfl) ⟨by show uc + 4 ≤ 600002; omega, by show us + 28 ≤ 7302198; omega⟩ dL_law_328 ?_
      intro r_8 h_8 n_8 hq _
      obtain ⟨⟨s8, hM8, eT, hF8, e4⟩, e1⟩ := hq
      rw [e1, e4]
      show pl E YL_law (b, 8, xs) room_1 K (uc + 4) (us + 28) 331 [none, some (.ref 0), some (.ref 115), some (.ref 165), some (.int (zI (2))), some (.int (zI (if ((xs 3).toInt) = 0 then 0 else 1))), q6] [.int (zI (if ((xs 3).toInt) = 0 then 1 else 0))] h_8 n_9
      refine pl_istore (lv' := [none, some (.ref 0), some (.ref 115), some (.ref 165), some (.int (zI (2))), some (.int (zI (if ((xs 3).toInt) = 0 then 0 else 1))), some (.int (zI (if ((xs 3).toInt) = 0 then 1 else 0)))]) dL_law_331 (by decide) (by decide) rfl rfl ?_
      refine pl_aload_n dL_law_333 rfl ?_
      refine pl_callV (As := []) (b := 115) (rm := rmD 0 0 0) (nR_thrown htr hM8) rfl hM8.1 rfl rfl ywX10_thrown rfl cwL_79 ⟨nle rfl, nle rfl⟩ (nle rfl) ⟨by show uc + 4 ≤ 600002; omega, by show us + 28 ≤ 7302198; omega⟩ dL_law_334 ?_
      intro r_7 h_7 n_7 hq _
      rw [hq.1, hq.2.1, hq.2.2, eT]
      show pl E YL_law (b, 8, xs) room_1 K (uc + 4) (us + 28) 337 [none, some (.ref 0), some (.ref 115), some (.ref 165), some (.int (zI (2))), some (.int (zI (if ((xs 3).toInt) = 0 then 0 else 1))), some (.int (zI (if ((xs 3).toInt) = 0 then 1 else 0)))] [.int (zI (if ((xs 3).toInt) = 0 then 0 else 1))] h_8 n_9
      refine pl_iload dL_law_337 rfl ?_
      refine pl_icmp_eq (tgt := 344) dL_law_339 rfl (by omega) (by omega) (fun c339 => ?_) (fun c339 => ?_)
      ·
        refine pl_iload dL_law_344 rfl ?_
        refine pl_if_ne (tgt := 361) dL_law_346 rfl (by omega) (fun c346 => ?_) (fun c346 => ?_)
        ·
          refine pl_goto (tgt := 1069) dL_law_361 rfl ?_
          exact kk h_8 n_9 _ _ (uc + 4) (us + 28) (by omega) (by omega)
        ·
          refine pl_aload_n dL_law_349 rfl ?_
          refine pl_iconst (v := zI (0)) dL_law_350 (by decide) ?_
          obtain ⟨g9, hg9, hg0⟩ := hkp.2.1 (by omega)
          have ho8 : h_8 165 = pz_j 2 1 g9 := (hF8 165 (by omega)).trans hg9
          refine pl_lald (t := 2) (f := g9) rfl ho8 (by omega) (by decide) dL_law_351 ?_
          rw [show g9 (Int.toNat 0) = zL (if ((xs 3).toInt) = 0 then 1 else 0) from hg0]
          show pl E YL_law (b, 8, xs) room_1 K (uc + 4) (us + 28) 352 [none, some (.ref 0), some (.ref 115), some (.ref 165), some (.int (zI (2))), some (.int (zI (if ((xs 3).toInt) = 0 then 0 else 1))), some (.int (zI (if ((xs 3).toInt) = 0 then 1 else 0)))] [.long (zL (if ((xs 3).toInt) = 0 then 1 else 0))] h_8 n_9
          refine pl_iload dL_law_352 rfl ?_
          refine pl_zi2l dL_law_354 (by omega) ?_
          refine pl_zlcmp dL_law_355 (by omega) (by omega) ?_
          refine pl_if_eq (tgt := 361) dL_law_356 rfl (by omega) (fun c356 => ?_) (fun c356 => ?_)
          ·
            refine pl_goto (tgt := 1069) dL_law_361 rfl ?_
            exact kk h_8 n_9 _ _ (uc + 4) (us + 28) (by omega) (by omega)
          · exfalso; omega
      · exfalso; omega
set_option maxHeartbeats 1000000 in
set_option maxRecDepth 100000 in
theorem lw_close {E : pw_E} (htr : E.1.stackTraces = false) {K : pw_K} {b uc us : Nat} {xs : Nat → Int32} {h : pz_H} {s : mS} {f : Nat → Int64} {q5 q6 : Option Value} (hq5 : q5 = none) (hu : uc ≤ 1000) (hs : us ≤ 1000000) {w H : Int} {N NH NB NL : Nat} (hG : geoH w H N NH NB NL) (hA : hAt w H N NH NB NL 0 (hNew w H N 0) h) (hM : mAt 115 s h) (hn : mN w H s) (ho : h 165 = pz_j 2 1 f) (kk : ∀ (h' : pz_H) (n' : Nat) (q5 q6 : Option Value) (uc' us' : Nat), uc' ≤ uc + 10 → us' ≤ us + 100 → pl E YL_law (b, 8, xs) room_1 K uc' us' 1069 [none, some (.ref 0), some (.ref 115), some (.ref 165), some (.int (zI (2))), q5, q6] [] h' n') : pl E YL_law (b, 8, xs) room_1 K uc us 364 [none, some (.ref 0), some (.ref 115), some (.ref 165), some (.int (zI (2))), q5, q6] [] h 166 := by
  have hw := hG.1.1
  have hH := hG.1.2.1
  have hN := hG.1.2.2.1
  have hNL := hG.2.2
  have r3 := i32 (xs 3)
  have r4 := i32 (xs 4)
  have r5 := i32 (xs 5)
  have r6 := i32 (xs 6)
  have r7 := i32 (xs 7)
  subst hq5
  refine pl_aload_n dL_law_364 rfl ?_
  refine pl_sld (a0 := 0) (i := 2) (k := 1) (a1 := 366) (a2 := 368) (a3 := 369) (a4 := 370) rfl rfl rfl rfl rfl (by show (0 : Int) ≤ 2 + 1 ∧ (2 : Int) + 1 < ((8 : Nat) : Int); decide) (nlt rfl) dL_law_365 dL_law_366 dL_law_368 dL_law_369 dL_law_370 ?_
  show pl E YL_law (b, 8, xs) room_1 K uc us 371 [none, some (.ref 0), some (.ref 115), some (.ref 165), some (.int (zI (2))), none, q6] [.int (zI ((xs 3).toInt)), .ref 0] h 166
  refine pl_aload_n dL_law_371 rfl ?_
  refine pl_callSH (k := 3) (As := [.ref 0, .int (zI ((xs 3).toInt)), .ref 165]) (rm := rmD (21 + 1) 2 12) (wF_close htr hG hA (by omega) ho) rfl rfl whL_close ⟨by decide +kernel, by decide +kernel, by decide +kernel⟩ ⟨cwL_91.1, cwL_91.2, iniL⟩ ⟨nle rfl, nle rfl⟩ (nle rfl) ⟨by show uc + 2 ≤ 600002; omega, by show us + 12 ≤ 7302198; omega⟩ dL_law_372 ?_
  intro r_9 h_9 n_9 hq hn9
  obtain ⟨e1, hkp⟩ := hq
  rw [e1]
  show pl E YL_law (b, 8, xs) room_1 K (uc + 2) (us + 12) 375 [none, some (.ref 0), some (.ref 115), some (.ref 165), some (.int (zI (2))), none, q6] [.int (zI (if ((xs 3).toInt) = 0 then 2 else 1))] h_9 n_9
  have hM9 : mAt 115 s h_9 := mAt_keep hM (fun a a1 a2 => hkp.1 a a1 (by omega))
  refine pl_istore (lv' := [none, some (.ref 0), some (.ref 115), some (.ref 165), some (.int (zI (2))), some (.int (zI (if ((xs 3).toInt) = 0 then 2 else 1))), q6]) dL_law_375 (by decide) (by decide) rfl rfl ?_
  refine pl_aload_n dL_law_377 rfl ?_
  refine pl_sld (a0 := 0) (i := 2) (k := 1) (a1 := 379) (a2 := 381) (a3 := 382) (a4 := 383) rfl rfl rfl rfl rfl (by show (0 : Int) ≤ 2 + 1 ∧ (2 : Int) + 1 < ((8 : Nat) : Int); decide) (nlt rfl) dL_law_378 dL_law_379 dL_law_381 dL_law_382 dL_law_383 ?_
  show pl E YL_law (b, 8, xs) room_1 K (uc + 2) (us + 12) 384 [none, some (.ref 0), some (.ref 115), some (.ref 165), some (.int (zI (2))), some (.int (zI (if ((xs 3).toInt) = 0 then 2 else 1))), q6] [.int (zI ((xs 3).toInt)), .ref 115] h_9 n_9
  refine pl_callV (As := [.int (zI ((xs 3).toInt))]) (b := 115) (rm := rmD 1 0 0) (nF_close (w := w) (H := H) htr hM9 hw hH hn (by omega)) rfl hM9.1 rfl rfl ywX10_close rfl cwL_93 ⟨nle rfl, nle rfl⟩ (nle rfl) ⟨by show uc + 2 ≤ 600002; omega, by show us + 12 ≤ 7302198; omega⟩ dL_law_384 ?_
  intro r_8 h_8 n_8 hq _
  obtain ⟨⟨s8, hM8, eT, hF8, e4⟩, e1⟩ := hq
  rw [e1, e4]
  show pl E YL_law (b, 8, xs) room_1 K (uc + 2) (us + 12) 387 [none, some (.ref 0), some (.ref 115), some (.ref 165), some (.int (zI (2))), some (.int (zI (if ((xs 3).toInt) = 0 then 2 else 1))), q6] [.int (zI (0))] h_8 n_9
  refine pl_istore (lv' := [none, some (.ref 0), some (.ref 115), some (.ref 165), some (.int (zI (2))), some (.int (zI (if ((xs 3).toInt) = 0 then 2 else 1))), some (.int (zI (0)))]) dL_law_387 (by decide) (by decide) rfl rfl ?_
  refine pl_aload_n dL_law_389 rfl ?_
  refine pl_callV (As := []) (b := 115) (rm := rmD 0 0 0) (nR_thrown htr hM8) rfl hM8.1 rfl rfl ywX10_thrown rfl cwL_79 ⟨nle rfl, nle rfl⟩ (nle rfl) ⟨by show uc + 2 ≤ 600002; omega, by show us + 12 ≤ 7302198; omega⟩ dL_law_390 ?_
  intro r_7 h_7 n_7 hq _
  rw [hq.1, hq.2.1, hq.2.2, eT]
  show pl E YL_law (b, 8, xs) room_1 K (uc + 2) (us + 12) 393 [none, some (.ref 0), some (.ref 115), some (.ref 165), some (.int (zI (2))), some (.int (zI (if ((xs 3).toInt) = 0 then 2 else 1))), some (.int (zI (0)))] [.int (zI (if ((xs 3).toInt) = 0 then 2 else 1))] h_8 n_9
  refine pl_iload dL_law_393 rfl ?_
  refine pl_icmp_eq (tgt := 400) dL_law_395 rfl (by omega) (by omega) (fun c395 => ?_) (fun c395 => ?_)
  ·
    refine pl_iload dL_law_400 rfl ?_
    refine pl_if_ne (tgt := 417) dL_law_402 rfl (by omega) (fun c402 => ?_) (fun c402 => ?_)
    ·
      refine pl_goto (tgt := 1069) dL_law_417 rfl ?_
      exact kk h_8 n_9 _ _ (uc + 2) (us + 12) (by omega) (by omega)
    ·
      refine pl_aload_n dL_law_405 rfl ?_
      refine pl_iconst (v := zI (0)) dL_law_406 (by decide) ?_
      obtain ⟨g9, hg9, hg0⟩ := hkp.2.1 (by omega)
      have ho8 : h_8 165 = pz_j 2 1 g9 := (hF8 165 (by omega)).trans hg9
      refine pl_lald (t := 2) (f := g9) rfl ho8 (by omega) (by decide) dL_law_407 ?_
      rw [show g9 (Int.toNat 0) = zL (0) from hg0]
      show pl E YL_law (b, 8, xs) room_1 K (uc + 2) (us + 12) 408 [none, some (.ref 0), some (.ref 115), some (.ref 165), some (.int (zI (2))), some (.int (zI (if ((xs 3).toInt) = 0 then 2 else 1))), some (.int (zI (0)))] [.long (zL (0))] h_8 n_9
      refine pl_iload dL_law_408 rfl ?_
      refine pl_zi2l dL_law_410 (by omega) ?_
      refine pl_zlcmp dL_law_411 (by omega) (by omega) ?_
      refine pl_if_eq (tgt := 417) dL_law_412 rfl (by omega) (fun c412 => ?_) (fun c412 => ?_)
      ·
        refine pl_goto (tgt := 1069) dL_law_417 rfl ?_
        exact kk h_8 n_9 _ _ (uc + 2) (us + 12) (by omega) (by omega)
      · exfalso; omega
  · exfalso; omega
set_option maxHeartbeats 1000000 in
set_option maxRecDepth 100000 in
theorem lw_focus {E : pw_E} (htr : E.1.stackTraces = false) {K : pw_K} {b uc us : Nat} {xs : Nat → Int32} {h : pz_H} {s : mS} {f : Nat → Int64} {q5 q6 : Option Value} (hq5 : q5 = none) (hu : uc ≤ 1000) (hs : us ≤ 1000000) {w H : Int} {N NH NB NL : Nat} (hG : geoH w H N NH NB NL) (hA : hAt w H N NH NB NL 0 (hNew w H N 0) h) (hM : mAt 115 s h) (hn : mN w H s) (ho : h 165 = pz_j 2 1 f) (kk : ∀ (h' : pz_H) (n' : Nat) (q5 q6 : Option Value) (uc' us' : Nat), uc' ≤ uc + 10 → us' ≤ us + 100 → pl E YL_law (b, 8, xs) room_1 K uc' us' 1069 [none, some (.ref 0), some (.ref 115), some (.ref 165), some (.int (zI (2))), q5, q6] [] h' n') : pl E YL_law (b, 8, xs) room_1 K uc us 420 [none, some (.ref 0), some (.ref 115), some (.ref 165), some (.int (zI (2))), q5, q6] [] h 166 := by
  have hw := hG.1.1
  have hH := hG.1.2.1
  have hN := hG.1.2.2.1
  have hNL := hG.2.2
  have r3 := i32 (xs 3)
  have r4 := i32 (xs 4)
  have r5 := i32 (xs 5)
  have r6 := i32 (xs 6)
  have r7 := i32 (xs 7)
  subst hq5
  refine pl_aload_n dL_law_420 rfl ?_
  refine pl_sld (a0 := 0) (i := 2) (k := 1) (a1 := 422) (a2 := 424) (a3 := 425) (a4 := 426) rfl rfl rfl rfl rfl (by show (0 : Int) ≤ 2 + 1 ∧ (2 : Int) + 1 < ((8 : Nat) : Int); decide) (nlt rfl) dL_law_421 dL_law_422 dL_law_424 dL_law_425 dL_law_426 ?_
  show pl E YL_law (b, 8, xs) room_1 K uc us 427 [none, some (.ref 0), some (.ref 115), some (.ref 165), some (.int (zI (2))), none, q6] [.int (zI ((xs 3).toInt)), .ref 0] h 166
  refine pl_callSH (k := 2) (As := [.ref 0, .int (zI ((xs 3).toInt))]) (rm := rmD (7 + 1) 1 6) (wF_focus htr hG hA (by omega)) rfl rfl whL_focus ⟨by decide +kernel, by decide +kernel, by decide +kernel⟩ ⟨cwL_94.1, cwL_94.2, iniL⟩ ⟨nle rfl, nle rfl⟩ (nle rfl) ⟨by show uc + 1 ≤ 600002; omega, by show us + 6 ≤ 7302198; omega⟩ dL_law_427 ?_
  intro r_9 h_9 n_9 hq hn9
  obtain ⟨e1, hkp⟩ := hq
  rw [e1]
  show pl E YL_law (b, 8, xs) room_1 K (uc + 1) (us + 6) 430 [none, some (.ref 0), some (.ref 115), some (.ref 165), some (.int (zI (2))), none, q6] [.int (zI (if ((xs 3).toInt) = 0 then 0 else 1))] h_9 n_9
  have hM9 : mAt 115 s h_9 := mAt_keep hM (fun a a1 a2 => hkp a a1 (by omega))
  refine pl_istore (lv' := [none, some (.ref 0), some (.ref 115), some (.ref 165), some (.int (zI (2))), some (.int (zI (if ((xs 3).toInt) = 0 then 0 else 1))), q6]) dL_law_430 (by decide) (by decide) rfl rfl ?_
  refine pl_aload_n dL_law_432 rfl ?_
  refine pl_sld (a0 := 0) (i := 2) (k := 1) (a1 := 434) (a2 := 436) (a3 := 437) (a4 := 438) rfl rfl rfl rfl rfl (by show (0 : Int) ≤ 2 + 1 ∧ (2 : Int) + 1 < ((8 : Nat) : Int); decide) (nlt rfl) dL_law_433 dL_law_434 dL_law_436 dL_law_437 dL_law_438 ?_
  show pl E YL_law (b, 8, xs) room_1 K (uc + 1) (us + 6) 439 [none, some (.ref 0), some (.ref 115), some (.ref 165), some (.int (zI (2))), some (.int (zI (if ((xs 3).toInt) = 0 then 0 else 1))), q6] [.int (zI ((xs 3).toInt)), .ref 115] h_9 n_9
  refine pl_callV (As := [.int (zI ((xs 3).toInt))]) (b := 115) (rm := rmD 1 0 0) (nF_focus (w := w) (H := H) htr hM9 hw hH hn (by omega)) rfl hM9.1 rfl rfl ywX10_focus rfl cwL_97 ⟨nle rfl, nle rfl⟩ (nle rfl) ⟨by show uc + 1 ≤ 600002; omega, by show us + 6 ≤ 7302198; omega⟩ dL_law_439 ?_
  intro r_8 h_8 n_8 hq _
  obtain ⟨⟨s8, hM8, eT, hF8, e4⟩, e1⟩ := hq
  rw [e1, e4]
  show pl E YL_law (b, 8, xs) room_1 K (uc + 1) (us + 6) 442 [none, some (.ref 0), some (.ref 115), some (.ref 165), some (.int (zI (2))), some (.int (zI (if ((xs 3).toInt) = 0 then 0 else 1))), q6] [] h_8 n_9
  refine pl_aload_n dL_law_442 rfl ?_
  refine pl_callV (As := []) (b := 115) (rm := rmD 0 0 0) (nR_thrown htr hM8) rfl hM8.1 rfl rfl ywX10_thrown rfl cwL_79 ⟨nle rfl, nle rfl⟩ (nle rfl) ⟨by show uc + 1 ≤ 600002; omega, by show us + 6 ≤ 7302198; omega⟩ dL_law_443 ?_
  intro r_7 h_7 n_7 hq _
  rw [hq.1, hq.2.1, hq.2.2, eT]
  show pl E YL_law (b, 8, xs) room_1 K (uc + 1) (us + 6) 446 [none, some (.ref 0), some (.ref 115), some (.ref 165), some (.int (zI (2))), some (.int (zI (if ((xs 3).toInt) = 0 then 0 else 1))), q6] [.int (zI (if ((xs 3).toInt) = 0 then 0 else 1))] h_8 n_9
  refine pl_iload dL_law_446 rfl ?_
  refine pl_icmp_eq (tgt := 453) dL_law_448 rfl (by omega) (by omega) (fun c448 => ?_) (fun c448 => ?_)
  ·
    refine pl_goto (tgt := 1069) dL_law_453 rfl ?_
    exact kk h_8 n_9 _ _ (uc + 1) (us + 6) (by omega) (by omega)
  · exfalso; omega
set_option maxHeartbeats 1000000 in
set_option maxRecDepth 100000 in
theorem lw_copy {E : pw_E} (htr : E.1.stackTraces = false) {K : pw_K} {b uc us : Nat} {xs : Nat → Int32} {h : pz_H} {s : mS} {f : Nat → Int64} {q5 q6 : Option Value} (hq5 : q5 = none) (hu : uc ≤ 1000) (hs : us ≤ 1000000) {w H : Int} {N NH NB NL : Nat} (hG : geoH w H N NH NB NL) (hA : hAt w H N NH NB NL 0 (hNew w H N 0) h) (hM : mAt 115 s h) (hn : mN w H s) (ho : h 165 = pz_j 2 1 f) (kk : ∀ (h' : pz_H) (n' : Nat) (q5 q6 : Option Value) (uc' us' : Nat), uc' ≤ uc + 10 → us' ≤ us + 100 → pl E YL_law (b, 8, xs) room_1 K uc' us' 1069 [none, some (.ref 0), some (.ref 115), some (.ref 165), some (.int (zI (2))), q5, q6] [] h' n') : pl E YL_law (b, 8, xs) room_1 K uc us 456 [none, some (.ref 0), some (.ref 115), some (.ref 165), some (.int (zI (2))), q5, q6] [] h 166 := by
  have hw := hG.1.1
  have hH := hG.1.2.1
  have hN := hG.1.2.2.1
  have hNL := hG.2.2
  have r3 := i32 (xs 3)
  have r4 := i32 (xs 4)
  have r5 := i32 (xs 5)
  have r6 := i32 (xs 6)
  have r7 := i32 (xs 7)
  subst hq5
  refine pl_aload_n dL_law_456 rfl ?_
  refine pl_sld (a0 := 0) (i := 2) (k := 1) (a1 := 458) (a2 := 460) (a3 := 461) (a4 := 462) rfl rfl rfl rfl rfl (by show (0 : Int) ≤ 2 + 1 ∧ (2 : Int) + 1 < ((8 : Nat) : Int); decide) (nlt rfl) dL_law_457 dL_law_458 dL_law_460 dL_law_461 dL_law_462 ?_
  show pl E YL_law (b, 8, xs) room_1 K uc us 463 [none, some (.ref 0), some (.ref 115), some (.ref 165), some (.int (zI (2))), none, q6] [.int (zI ((xs 3).toInt)), .ref 0] h 166
  refine pl_sld (a0 := 0) (i := 2) (k := 2) (a1 := 464) (a2 := 466) (a3 := 467) (a4 := 468) rfl rfl rfl rfl rfl (by show (0 : Int) ≤ 2 + 2 ∧ (2 : Int) + 2 < ((8 : Nat) : Int); decide) (nlt rfl) dL_law_463 dL_law_464 dL_law_466 dL_law_467 dL_law_468 ?_
  show pl E YL_law (b, 8, xs) room_1 K uc us 469 [none, some (.ref 0), some (.ref 115), some (.ref 165), some (.int (zI (2))), none, q6] [.int (zI ((xs 4).toInt)), .int (zI ((xs 3).toInt)), .ref 0] h 166
  refine pl_if_eq (tgt := 476) dL_law_469 rfl (by omega) (fun c469 => ?_) (fun c469 => ?_)
  ·
    refine pl_iconst (v := zI (0)) dL_law_476 (by decide) ?_
    refine pl_sld (a0 := 0) (i := 2) (k := 3) (a1 := 478) (a2 := 480) (a3 := 481) (a4 := 482) rfl rfl rfl rfl rfl (by show (0 : Int) ≤ 2 + 3 ∧ (2 : Int) + 3 < ((8 : Nat) : Int); decide) (nlt rfl) dL_law_477 dL_law_478 dL_law_480 dL_law_481 dL_law_482 ?_
    show pl E YL_law (b, 8, xs) room_1 K uc us 483 [none, some (.ref 0), some (.ref 115), some (.ref 165), some (.int (zI (2))), none, q6] [.int (zI ((xs 5).toInt)), .int (zI (0)), .int (zI ((xs 3).toInt)), .ref 0] h 166
    refine pl_aload_n dL_law_483 rfl ?_
    refine pl_callSH (k := 5) (As := [.ref 0, .int (zI ((xs 3).toInt)), .int (zI (0)), .int (zI ((xs 5).toInt)), .ref 165]) (rm := rmD (7 + 1) 1 6) (wF_copy htr hG hA (by omega) (by omega) (by omega) (by omega) ho) rfl rfl whL_copy ⟨by decide +kernel, by decide +kernel, by decide +kernel⟩ ⟨cwL_98.1, cwL_98.2, iniL⟩ ⟨nle rfl, nle rfl⟩ (nle rfl) ⟨by show uc + 1 ≤ 600002; omega, by show us + 6 ≤ 7302198; omega⟩ dL_law_484 ?_
    intro r_9 h_9 n_9 hq hn9
    obtain ⟨e1, hkp⟩ := hq
    rw [e1]
    show pl E YL_law (b, 8, xs) room_1 K (uc + 1) (us + 6) 487 [none, some (.ref 0), some (.ref 115), some (.ref 165), some (.int (zI (2))), none, q6] [.int (zI (if ((xs 3).toInt) = 0 then 0 else 1))] h_9 n_9
    have hM9 : mAt 115 s h_9 := mAt_keep hM (fun a a1 a2 => hkp.1 a a1 (by omega))
    refine pl_istore (lv' := [none, some (.ref 0), some (.ref 115), some (.ref 165), some (.int (zI (2))), some (.int (zI (if ((xs 3).toInt) = 0 then 0 else 1))), q6]) dL_law_487 (by decide) (by decide) rfl rfl ?_
    refine pl_aload_n dL_law_489 rfl ?_
    refine pl_sld (a0 := 0) (i := 2) (k := 1) (a1 := 491) (a2 := 493) (a3 := 494) (a4 := 495) rfl rfl rfl rfl rfl (by show (0 : Int) ≤ 2 + 1 ∧ (2 : Int) + 1 < ((8 : Nat) : Int); decide) (nlt rfl) dL_law_490 dL_law_491 dL_law_493 dL_law_494 dL_law_495 ?_
    show pl E YL_law (b, 8, xs) room_1 K (uc + 1) (us + 6) 496 [none, some (.ref 0), some (.ref 115), some (.ref 165), some (.int (zI (2))), some (.int (zI (if ((xs 3).toInt) = 0 then 0 else 1))), q6] [.int (zI ((xs 3).toInt)), .ref 115] h_9 n_9
    refine pl_sld (a0 := 0) (i := 2) (k := 2) (a1 := 497) (a2 := 499) (a3 := 500) (a4 := 501) rfl rfl rfl rfl rfl (by show (0 : Int) ≤ 2 + 2 ∧ (2 : Int) + 2 < ((8 : Nat) : Int); decide) (nlt rfl) dL_law_496 dL_law_497 dL_law_499 dL_law_500 dL_law_501 ?_
    show pl E YL_law (b, 8, xs) room_1 K (uc + 1) (us + 6) 502 [none, some (.ref 0), some (.ref 115), some (.ref 165), some (.int (zI (2))), some (.int (zI (if ((xs 3).toInt) = 0 then 0 else 1))), q6] [.int (zI ((xs 4).toInt)), .int (zI ((xs 3).toInt)), .ref 115] h_9 n_9
    refine pl_if_eq (tgt := 509) dL_law_502 rfl (by omega) (fun c502 => ?_) (fun c502 => ?_)
    ·
      refine pl_iconst (v := zI (0)) dL_law_509 (by decide) ?_
      refine pl_sld (a0 := 0) (i := 2) (k := 3) (a1 := 511) (a2 := 513) (a3 := 514) (a4 := 515) rfl rfl rfl rfl rfl (by show (0 : Int) ≤ 2 + 3 ∧ (2 : Int) + 3 < ((8 : Nat) : Int); decide) (nlt rfl) dL_law_510 dL_law_511 dL_law_513 dL_law_514 dL_law_515 ?_
      show pl E YL_law (b, 8, xs) room_1 K (uc + 1) (us + 6) 516 [none, some (.ref 0), some (.ref 115), some (.ref 165), some (.int (zI (2))), some (.int (zI (if ((xs 3).toInt) = 0 then 0 else 1))), q6] [.int (zI ((xs 5).toInt)), .int (zI (0)), .int (zI ((xs 3).toInt)), .ref 115] h_9 n_9
      refine pl_callV (As := [.int (zI ((xs 3).toInt)), .int (zI (0)), .int (zI ((xs 5).toInt))]) (b := 115) (rm := rmD 3 0 0) (nF_copy (w := w) (H := H) htr hM9 hw hH hn (by omega) (by omega) (by omega) (by omega)) rfl hM9.1 rfl rfl ywX10_copy rfl cwL_101 ⟨nle rfl, nle rfl⟩ (nle rfl) ⟨by show uc + 1 ≤ 600002; omega, by show us + 6 ≤ 7302198; omega⟩ dL_law_516 ?_
      intro r_8 h_8 n_8 hq _
      obtain ⟨⟨s8, hM8, eT, hF8, e4⟩, e1⟩ := hq
      rw [e1, e4]
      show pl E YL_law (b, 8, xs) room_1 K (uc + 1) (us + 6) 519 [none, some (.ref 0), some (.ref 115), some (.ref 165), some (.int (zI (2))), some (.int (zI (if ((xs 3).toInt) = 0 then 0 else 1))), q6] [.int (zI (0))] h_8 n_9
      refine pl_istore (lv' := [none, some (.ref 0), some (.ref 115), some (.ref 165), some (.int (zI (2))), some (.int (zI (if ((xs 3).toInt) = 0 then 0 else 1))), some (.int (zI (0)))]) dL_law_519 (by decide) (by decide) rfl rfl ?_
      refine pl_aload_n dL_law_521 rfl ?_
      refine pl_callV (As := []) (b := 115) (rm := rmD 0 0 0) (nR_thrown htr hM8) rfl hM8.1 rfl rfl ywX10_thrown rfl cwL_79 ⟨nle rfl, nle rfl⟩ (nle rfl) ⟨by show uc + 1 ≤ 600002; omega, by show us + 6 ≤ 7302198; omega⟩ dL_law_522 ?_
      intro r_7 h_7 n_7 hq _
      rw [hq.1, hq.2.1, hq.2.2, eT]
      show pl E YL_law (b, 8, xs) room_1 K (uc + 1) (us + 6) 525 [none, some (.ref 0), some (.ref 115), some (.ref 165), some (.int (zI (2))), some (.int (zI (if ((xs 3).toInt) = 0 then 0 else 1))), some (.int (zI (0)))] [.int (zI (if ((xs 3).toInt) = 0 then 0 else 1))] h_8 n_9
      refine pl_iload dL_law_525 rfl ?_
      refine pl_icmp_eq (tgt := 532) dL_law_527 rfl (by omega) (by omega) (fun c527 => ?_) (fun c527 => ?_)
      ·
        refine pl_iload dL_law_532 rfl ?_
        refine pl_if_ne (tgt := 549) dL_law_534 rfl (by omega) (fun c534 => ?_) (fun c534 => ?_)
        ·
          refine pl_goto (tgt := 1069) dL_law_549 rfl ?_
          exact kk h_8 n_9 _ _ (uc + 1) (us + 6) (by omega) (by omega)
        ·
          refine pl_aload_n dL_law_537 rfl ?_
          refine pl_iconst (v := zI (0)) dL_law_538 (by decide) ?_
          obtain ⟨g9, hg9, hg0⟩ := hkp.2.1 (by omega)
          have ho8 : h_8 165 = pz_j 2 1 g9 := (hF8 165 (by omega)).trans hg9
          refine pl_lald (t := 2) (f := g9) rfl ho8 (by omega) (by decide) dL_law_539 ?_
          rw [show g9 (Int.toNat 0) = zL (0) from hg0]
          show pl E YL_law (b, 8, xs) room_1 K (uc + 1) (us + 6) 540 [none, some (.ref 0), some (.ref 115), some (.ref 165), some (.int (zI (2))), some (.int (zI (if ((xs 3).toInt) = 0 then 0 else 1))), some (.int (zI (0)))] [.long (zL (0))] h_8 n_9
          refine pl_iload dL_law_540 rfl ?_
          refine pl_zi2l dL_law_542 (by omega) ?_
          refine pl_zlcmp dL_law_543 (by omega) (by omega) ?_
          refine pl_if_eq (tgt := 549) dL_law_544 rfl (by omega) (fun c544 => ?_) (fun c544 => ?_)
          ·
            refine pl_goto (tgt := 1069) dL_law_549 rfl ?_
            exact kk h_8 n_9 _ _ (uc + 1) (us + 6) (by omega) (by omega)
          · exfalso; omega
      · exfalso; omega
    · exfalso; omega
  ·
    refine pl_iconst (v := zI (1)) dL_law_472 (by decide) ?_
    refine pl_goto (tgt := 477) dL_law_473 rfl ?_
    refine pl_sld (a0 := 0) (i := 2) (k := 3) (a1 := 478) (a2 := 480) (a3 := 481) (a4 := 482) rfl rfl rfl rfl rfl (by show (0 : Int) ≤ 2 + 3 ∧ (2 : Int) + 3 < ((8 : Nat) : Int); decide) (nlt rfl) dL_law_477 dL_law_478 dL_law_480 dL_law_481 dL_law_482 ?_
    show pl E YL_law (b, 8, xs) room_1 K uc us 483 [none, some (.ref 0), some (.ref 115), some (.ref 165), some (.int (zI (2))), none, q6] [.int (zI ((xs 5).toInt)), .int (zI (1)), .int (zI ((xs 3).toInt)), .ref 0] h 166
    refine pl_aload_n dL_law_483 rfl ?_
    refine pl_callSH (k := 5) (As := [.ref 0, .int (zI ((xs 3).toInt)), .int (zI (1)), .int (zI ((xs 5).toInt)), .ref 165]) (rm := rmD (7 + 1) 1 6) (wF_copy htr hG hA (by omega) (by omega) (by omega) (by omega) ho) rfl rfl whL_copy ⟨by decide +kernel, by decide +kernel, by decide +kernel⟩ ⟨cwL_98.1, cwL_98.2, iniL⟩ ⟨nle rfl, nle rfl⟩ (nle rfl) ⟨by show uc + 1 ≤ 600002; omega, by show us + 6 ≤ 7302198; omega⟩ dL_law_484 ?_
    intro r_9 h_9 n_9 hq hn9
    obtain ⟨e1, hkp⟩ := hq
    rw [e1]
    show pl E YL_law (b, 8, xs) room_1 K (uc + 1) (us + 6) 487 [none, some (.ref 0), some (.ref 115), some (.ref 165), some (.int (zI (2))), none, q6] [.int (zI (if ((xs 3).toInt) = 0 then 0 else 1))] h_9 n_9
    have hM9 : mAt 115 s h_9 := mAt_keep hM (fun a a1 a2 => hkp.1 a a1 (by omega))
    refine pl_istore (lv' := [none, some (.ref 0), some (.ref 115), some (.ref 165), some (.int (zI (2))), some (.int (zI (if ((xs 3).toInt) = 0 then 0 else 1))), q6]) dL_law_487 (by decide) (by decide) rfl rfl ?_
    refine pl_aload_n dL_law_489 rfl ?_
    refine pl_sld (a0 := 0) (i := 2) (k := 1) (a1 := 491) (a2 := 493) (a3 := 494) (a4 := 495) rfl rfl rfl rfl rfl (by show (0 : Int) ≤ 2 + 1 ∧ (2 : Int) + 1 < ((8 : Nat) : Int); decide) (nlt rfl) dL_law_490 dL_law_491 dL_law_493 dL_law_494 dL_law_495 ?_
    show pl E YL_law (b, 8, xs) room_1 K (uc + 1) (us + 6) 496 [none, some (.ref 0), some (.ref 115), some (.ref 165), some (.int (zI (2))), some (.int (zI (if ((xs 3).toInt) = 0 then 0 else 1))), q6] [.int (zI ((xs 3).toInt)), .ref 115] h_9 n_9
    refine pl_sld (a0 := 0) (i := 2) (k := 2) (a1 := 497) (a2 := 499) (a3 := 500) (a4 := 501) rfl rfl rfl rfl rfl (by show (0 : Int) ≤ 2 + 2 ∧ (2 : Int) + 2 < ((8 : Nat) : Int); decide) (nlt rfl) dL_law_496 dL_law_497 dL_law_499 dL_law_500 dL_law_501 ?_
    show pl E YL_law (b, 8, xs) room_1 K (uc + 1) (us + 6) 502 [none, some (.ref 0), some (.ref 115), some (.ref 165), some (.int (zI (2))), some (.int (zI (if ((xs 3).toInt) = 0 then 0 else 1))), q6] [.int (zI ((xs 4).toInt)), .int (zI ((xs 3).toInt)), .ref 115] h_9 n_9
    refine pl_if_eq (tgt := 509) dL_law_502 rfl (by omega) (fun c502 => ?_) (fun c502 => ?_)
    · exfalso; omega
    ·
      refine pl_iconst (v := zI (1)) dL_law_505 (by decide) ?_
      refine pl_goto (tgt := 510) dL_law_506 rfl ?_
      refine pl_sld (a0 := 0) (i := 2) (k := 3) (a1 := 511) (a2 := 513) (a3 := 514) (a4 := 515) rfl rfl rfl rfl rfl (by show (0 : Int) ≤ 2 + 3 ∧ (2 : Int) + 3 < ((8 : Nat) : Int); decide) (nlt rfl) dL_law_510 dL_law_511 dL_law_513 dL_law_514 dL_law_515 ?_
      show pl E YL_law (b, 8, xs) room_1 K (uc + 1) (us + 6) 516 [none, some (.ref 0), some (.ref 115), some (.ref 165), some (.int (zI (2))), some (.int (zI (if ((xs 3).toInt) = 0 then 0 else 1))), q6] [.int (zI ((xs 5).toInt)), .int (zI (1)), .int (zI ((xs 3).toInt)), .ref 115] h_9 n_9
      refine pl_callV (As := [.int (zI ((xs 3).toInt)), .int (zI (1)), .int (zI ((xs 5).toInt))]) (b := 115) (rm := rmD 3 0 0) (nF_copy (w := w) (H := H) htr hM9 hw hH hn (by omega) (by omega) (by omega) (by omega)) rfl hM9.1 rfl rfl ywX10_copy rfl cwL_101 ⟨nle rfl, nle rfl⟩ (nle rfl) ⟨by show uc + 1 ≤ 600002; omega, by show us + 6 ≤ 7302198; omega⟩ dL_law_516 ?_
      intro r_8 h_8 n_8 hq _
      obtain ⟨⟨s8, hM8, eT, hF8, e4⟩, e1⟩ := hq
      rw [e1, e4]
      show pl E YL_law (b, 8, xs) room_1 K (uc + 1) (us + 6) 519 [none, some (.ref 0), some (.ref 115), some (.ref 165), some (.int (zI (2))), some (.int (zI (if ((xs 3).toInt) = 0 then 0 else 1))), q6] [.int (zI (0))] h_8 n_9
      refine pl_istore (lv' := [none, some (.ref 0), some (.ref 115), some (.ref 165), some (.int (zI (2))), some (.int (zI (if ((xs 3).toInt) = 0 then 0 else 1))), some (.int (zI (0)))]) dL_law_519 (by decide) (by decide) rfl rfl ?_
      refine pl_aload_n dL_law_521 rfl ?_
      refine pl_callV (As := []) (b := 115) (rm := rmD 0 0 0) (nR_thrown htr hM8) rfl hM8.1 rfl rfl ywX10_thrown rfl cwL_79 ⟨nle rfl, nle rfl⟩ (nle rfl) ⟨by show uc + 1 ≤ 600002; omega, by show us + 6 ≤ 7302198; omega⟩ dL_law_522 ?_
      intro r_7 h_7 n_7 hq _
      rw [hq.1, hq.2.1, hq.2.2, eT]
      show pl E YL_law (b, 8, xs) room_1 K (uc + 1) (us + 6) 525 [none, some (.ref 0), some (.ref 115), some (.ref 165), some (.int (zI (2))), some (.int (zI (if ((xs 3).toInt) = 0 then 0 else 1))), some (.int (zI (0)))] [.int (zI (if ((xs 3).toInt) = 0 then 0 else 1))] h_8 n_9
      refine pl_iload dL_law_525 rfl ?_
      refine pl_icmp_eq (tgt := 532) dL_law_527 rfl (by omega) (by omega) (fun c527 => ?_) (fun c527 => ?_)
      ·
        refine pl_iload dL_law_532 rfl ?_
        refine pl_if_ne (tgt := 549) dL_law_534 rfl (by omega) (fun c534 => ?_) (fun c534 => ?_)
        ·
          refine pl_goto (tgt := 1069) dL_law_549 rfl ?_
          exact kk h_8 n_9 _ _ (uc + 1) (us + 6) (by omega) (by omega)
        ·
          refine pl_aload_n dL_law_537 rfl ?_
          refine pl_iconst (v := zI (0)) dL_law_538 (by decide) ?_
          obtain ⟨g9, hg9, hg0⟩ := hkp.2.1 (by omega)
          have ho8 : h_8 165 = pz_j 2 1 g9 := (hF8 165 (by omega)).trans hg9
          refine pl_lald (t := 2) (f := g9) rfl ho8 (by omega) (by decide) dL_law_539 ?_
          rw [show g9 (Int.toNat 0) = zL (0) from hg0]
          show pl E YL_law (b, 8, xs) room_1 K (uc + 1) (us + 6) 540 [none, some (.ref 0), some (.ref 115), some (.ref 165), some (.int (zI (2))), some (.int (zI (if ((xs 3).toInt) = 0 then 0 else 1))), some (.int (zI (0)))] [.long (zL (0))] h_8 n_9
          refine pl_iload dL_law_540 rfl ?_
          refine pl_zi2l dL_law_542 (by omega) ?_
          refine pl_zlcmp dL_law_543 (by omega) (by omega) ?_
          refine pl_if_eq (tgt := 549) dL_law_544 rfl (by omega) (fun c544 => ?_) (fun c544 => ?_)
          ·
            refine pl_goto (tgt := 1069) dL_law_549 rfl ?_
            exact kk h_8 n_9 _ _ (uc + 1) (us + 6) (by omega) (by omega)
          · exfalso; omega
      · exfalso; omega
set_option maxHeartbeats 1000000 in
set_option maxRecDepth 100000 in
theorem lw_select {E : pw_E} (htr : E.1.stackTraces = false) {K : pw_K} {b uc us : Nat} {xs : Nat → Int32} {h : pz_H} {s : mS} {f : Nat → Int64} {q5 q6 : Option Value} (hq5 : q5 = none) (hu : uc ≤ 1000) (hs : us ≤ 1000000) {w H : Int} {N NH NB NL : Nat} (hG : geoH w H N NH NB NL) (hA : hAt w H N NH NB NL 0 (hNew w H N 0) h) (hM : mAt 115 s h) (hn : mN w H s) (ho : h 165 = pz_j 2 1 f) (kk : ∀ (h' : pz_H) (n' : Nat) (q5 q6 : Option Value) (uc' us' : Nat), uc' ≤ uc + 10 → us' ≤ us + 100 → pl E YL_law (b, 8, xs) room_1 K uc' us' 1069 [none, some (.ref 0), some (.ref 115), some (.ref 165), some (.int (zI (2))), q5, q6] [] h' n') : pl E YL_law (b, 8, xs) room_1 K uc us 552 [none, some (.ref 0), some (.ref 115), some (.ref 165), some (.int (zI (2))), q5, q6] [] h 166 := by
  have hw := hG.1.1
  have hH := hG.1.2.1
  have hN := hG.1.2.2.1
  have hNL := hG.2.2
  have r3 := i32 (xs 3)
  have r4 := i32 (xs 4)
  have r5 := i32 (xs 5)
  have r6 := i32 (xs 6)
  have r7 := i32 (xs 7)
  subst hq5
  refine pl_aload_n dL_law_552 rfl ?_
  refine pl_sld (a0 := 0) (i := 2) (k := 1) (a1 := 554) (a2 := 556) (a3 := 557) (a4 := 558) rfl rfl rfl rfl rfl (by show (0 : Int) ≤ 2 + 1 ∧ (2 : Int) + 1 < ((8 : Nat) : Int); decide) (nlt rfl) dL_law_553 dL_law_554 dL_law_556 dL_law_557 dL_law_558 ?_
  show pl E YL_law (b, 8, xs) room_1 K uc us 559 [none, some (.ref 0), some (.ref 115), some (.ref 165), some (.int (zI (2))), none, q6] [.int (zI ((xs 3).toInt)), .ref 0] h 166
  refine pl_sld (a0 := 0) (i := 2) (k := 2) (a1 := 560) (a2 := 562) (a3 := 563) (a4 := 564) rfl rfl rfl rfl rfl (by show (0 : Int) ≤ 2 + 2 ∧ (2 : Int) + 2 < ((8 : Nat) : Int); decide) (nlt rfl) dL_law_559 dL_law_560 dL_law_562 dL_law_563 dL_law_564 ?_
  show pl E YL_law (b, 8, xs) room_1 K uc us 565 [none, some (.ref 0), some (.ref 115), some (.ref 165), some (.int (zI (2))), none, q6] [.int (zI ((xs 4).toInt)), .int (zI ((xs 3).toInt)), .ref 0] h 166
  refine pl_sld (a0 := 0) (i := 2) (k := 3) (a1 := 566) (a2 := 568) (a3 := 569) (a4 := 570) rfl rfl rfl rfl rfl (by show (0 : Int) ≤ 2 + 3 ∧ (2 : Int) + 3 < ((8 : Nat) : Int); decide) (nlt rfl) dL_law_565 dL_law_566 dL_law_568 dL_law_569 dL_law_570 ?_
  show pl E YL_law (b, 8, xs) room_1 K uc us 571 [none, some (.ref 0), some (.ref 115), some (.ref 165), some (.int (zI (2))), none, q6] [.int (zI ((xs 5).toInt)), .int (zI ((xs 4).toInt)), .int (zI ((xs 3).toInt)), .ref 0] h 166
  refine pl_sld (a0 := 0) (i := 2) (k := 4) (a1 := 572) (a2 := 574) (a3 := 575) (a4 := 576) rfl rfl rfl rfl rfl (by show (0 : Int) ≤ 2 + 4 ∧ (2 : Int) + 4 < ((8 : Nat) : Int); decide) (nlt rfl) dL_law_571 dL_law_572 dL_law_574 dL_law_575 dL_law_576 ?_
  show pl E YL_law (b, 8, xs) room_1 K uc us 577 [none, some (.ref 0), some (.ref 115), some (.ref 165), some (.int (zI (2))), none, q6] [.int (zI ((xs 6).toInt)), .int (zI ((xs 5).toInt)), .int (zI ((xs 4).toInt)), .int (zI ((xs 3).toInt)), .ref 0] h 166
  refine pl_sld (a0 := 0) (i := 2) (k := 5) (a1 := 578) (a2 := 580) (a3 := 581) (a4 := 582) rfl rfl rfl rfl rfl (by show (0 : Int) ≤ 2 + 5 ∧ (2 : Int) + 5 < ((8 : Nat) : Int); decide) (nlt rfl) dL_law_577 dL_law_578 dL_law_580 dL_law_581 dL_law_582 ?_
  show pl E YL_law (b, 8, xs) room_1 K uc us 583 [none, some (.ref 0), some (.ref 115), some (.ref 165), some (.int (zI (2))), none, q6] [.int (zI ((xs 7).toInt)), .int (zI ((xs 6).toInt)), .int (zI ((xs 5).toInt)), .int (zI ((xs 4).toInt)), .int (zI ((xs 3).toInt)), .ref 0] h 166
  refine pl_aload_n dL_law_583 rfl ?_
  refine pl_callSH (k := 7) (As := [.ref 0, .int (zI ((xs 3).toInt)), .int (zI ((xs 4).toInt)), .int (zI ((xs 5).toInt)), .int (zI ((xs 6).toInt)), .int (zI ((xs 7).toInt)), .ref 165]) (rm := rmD (7 + 1) 4 24) (wF_select htr hG hA (by omega) (by omega) (by omega) (by omega) (by omega) ho) rfl rfl whL_select ⟨by decide +kernel, by decide +kernel, by decide +kernel⟩ ⟨cwL_102.1, cwL_102.2, iniL⟩ ⟨nle rfl, nle rfl⟩ (nle rfl) ⟨by show uc + 4 ≤ 600002; omega, by show us + 24 ≤ 7302198; omega⟩ dL_law_584 ?_
  intro r_9 h_9 n_9 hq hn9
  obtain ⟨e1, hkp⟩ := hq
  rw [e1]
  show pl E YL_law (b, 8, xs) room_1 K (uc + 4) (us + 24) 587 [none, some (.ref 0), some (.ref 115), some (.ref 165), some (.int (zI (2))), none, q6] [.int (zI (if ((xs 3).toInt) = 0 ∧ (0 ≤ ((xs 4).toInt) ∧ ((xs 4).toInt) < H ∧ 0 ≤ ((xs 5).toInt) ∧ ((xs 5).toInt) < w) ∧ (0 ≤ ((xs 6).toInt) ∧ ((xs 6).toInt) < H ∧ 0 ≤ ((xs 7).toInt) ∧ ((xs 7).toInt) < w) then (if (((xs 4).toInt) < ((xs 6).toInt) ∨ (((xs 4).toInt) = ((xs 6).toInt) ∧ ((xs 5).toInt) ≤ ((xs 7).toInt))) then 0 else 2) else 1))] h_9 n_9
  have hM9 : mAt 115 s h_9 := mAt_keep hM (fun a a1 a2 => hkp.1 a a1 (by omega))
  refine pl_istore (lv' := [none, some (.ref 0), some (.ref 115), some (.ref 165), some (.int (zI (2))), some (.int (zI (if ((xs 3).toInt) = 0 ∧ (0 ≤ ((xs 4).toInt) ∧ ((xs 4).toInt) < H ∧ 0 ≤ ((xs 5).toInt) ∧ ((xs 5).toInt) < w) ∧ (0 ≤ ((xs 6).toInt) ∧ ((xs 6).toInt) < H ∧ 0 ≤ ((xs 7).toInt) ∧ ((xs 7).toInt) < w) then (if (((xs 4).toInt) < ((xs 6).toInt) ∨ (((xs 4).toInt) = ((xs 6).toInt) ∧ ((xs 5).toInt) ≤ ((xs 7).toInt))) then 0 else 2) else 1))), q6]) dL_law_587 (by decide) (by decide) rfl rfl ?_
  refine pl_aload_n dL_law_589 rfl ?_
  refine pl_sld (a0 := 0) (i := 2) (k := 1) (a1 := 591) (a2 := 593) (a3 := 594) (a4 := 595) rfl rfl rfl rfl rfl (by show (0 : Int) ≤ 2 + 1 ∧ (2 : Int) + 1 < ((8 : Nat) : Int); decide) (nlt rfl) dL_law_590 dL_law_591 dL_law_593 dL_law_594 dL_law_595 ?_
  show pl E YL_law (b, 8, xs) room_1 K (uc + 4) (us + 24) 596 [none, some (.ref 0), some (.ref 115), some (.ref 165), some (.int (zI (2))), some (.int (zI (if ((xs 3).toInt) = 0 ∧ (0 ≤ ((xs 4).toInt) ∧ ((xs 4).toInt) < H ∧ 0 ≤ ((xs 5).toInt) ∧ ((xs 5).toInt) < w) ∧ (0 ≤ ((xs 6).toInt) ∧ ((xs 6).toInt) < H ∧ 0 ≤ ((xs 7).toInt) ∧ ((xs 7).toInt) < w) then (if (((xs 4).toInt) < ((xs 6).toInt) ∨ (((xs 4).toInt) = ((xs 6).toInt) ∧ ((xs 5).toInt) ≤ ((xs 7).toInt))) then 0 else 2) else 1))), q6] [.int (zI ((xs 3).toInt)), .ref 115] h_9 n_9
  refine pl_sld (a0 := 0) (i := 2) (k := 2) (a1 := 597) (a2 := 599) (a3 := 600) (a4 := 601) rfl rfl rfl rfl rfl (by show (0 : Int) ≤ 2 + 2 ∧ (2 : Int) + 2 < ((8 : Nat) : Int); decide) (nlt rfl) dL_law_596 dL_law_597 dL_law_599 dL_law_600 dL_law_601 ?_
  show pl E YL_law (b, 8, xs) room_1 K (uc + 4) (us + 24) 602 [none, some (.ref 0), some (.ref 115), some (.ref 165), some (.int (zI (2))), some (.int (zI (if ((xs 3).toInt) = 0 ∧ (0 ≤ ((xs 4).toInt) ∧ ((xs 4).toInt) < H ∧ 0 ≤ ((xs 5).toInt) ∧ ((xs 5).toInt) < w) ∧ (0 ≤ ((xs 6).toInt) ∧ ((xs 6).toInt) < H ∧ 0 ≤ ((xs 7).toInt) ∧ ((xs 7).toInt) < w) then (if (((xs 4).toInt) < ((xs 6).toInt) ∨ (((xs 4).toInt) = ((xs 6).toInt) ∧ ((xs 5).toInt) ≤ ((xs 7).toInt))) then 0 else 2) else 1))), q6] [.int (zI ((xs 4).toInt)), .int (zI ((xs 3).toInt)), .ref 115] h_9 n_9
  refine pl_sld (a0 := 0) (i := 2) (k := 3) (a1 := 603) (a2 := 605) (a3 := 606) (a4 := 607) rfl rfl rfl rfl rfl (by show (0 : Int) ≤ 2 + 3 ∧ (2 : Int) + 3 < ((8 : Nat) : Int); decide) (nlt rfl) dL_law_602 dL_law_603 dL_law_605 dL_law_606 dL_law_607 ?_
  show pl E YL_law (b, 8, xs) room_1 K (uc + 4) (us + 24) 608 [none, some (.ref 0), some (.ref 115), some (.ref 165), some (.int (zI (2))), some (.int (zI (if ((xs 3).toInt) = 0 ∧ (0 ≤ ((xs 4).toInt) ∧ ((xs 4).toInt) < H ∧ 0 ≤ ((xs 5).toInt) ∧ ((xs 5).toInt) < w) ∧ (0 ≤ ((xs 6).toInt) ∧ ((xs 6).toInt) < H ∧ 0 ≤ ((xs 7).toInt) ∧ ((xs 7).toInt) < w) then (if (((xs 4).toInt) < ((xs 6).toInt) ∨ (((xs 4).toInt) = ((xs 6).toInt) ∧ ((xs 5).toInt) ≤ ((xs 7).toInt))) then 0 else 2) else 1))), q6] [.int (zI ((xs 5).toInt)), .int (zI ((xs 4).toInt)), .int (zI ((xs 3).toInt)), .ref 115] h_9 n_9
  refine pl_sld (a0 := 0) (i := 2) (k := 4) (a1 := 609) (a2 := 611) (a3 := 612) (a4 := 613) rfl rfl rfl rfl rfl (by show (0 : Int) ≤ 2 + 4 ∧ (2 : Int) + 4 < ((8 : Nat) : Int); decide) (nlt rfl) dL_law_608 dL_law_609 dL_law_611 dL_law_612 dL_law_613 ?_
  show pl E YL_law (b, 8, xs) room_1 K (uc + 4) (us + 24) 614 [none, some (.ref 0), some (.ref 115), some (.ref 165), some (.int (zI (2))), some (.int (zI (if ((xs 3).toInt) = 0 ∧ (0 ≤ ((xs 4).toInt) ∧ ((xs 4).toInt) < H ∧ 0 ≤ ((xs 5).toInt) ∧ ((xs 5).toInt) < w) ∧ (0 ≤ ((xs 6).toInt) ∧ ((xs 6).toInt) < H ∧ 0 ≤ ((xs 7).toInt) ∧ ((xs 7).toInt) < w) then (if (((xs 4).toInt) < ((xs 6).toInt) ∨ (((xs 4).toInt) = ((xs 6).toInt) ∧ ((xs 5).toInt) ≤ ((xs 7).toInt))) then 0 else 2) else 1))), q6] [.int (zI ((xs 6).toInt)), .int (zI ((xs 5).toInt)), .int (zI ((xs 4).toInt)), .int (zI ((xs 3).toInt)), .ref 115] h_9 n_9
  refine pl_sld (a0 := 0) (i := 2) (k := 5) (a1 := 615) (a2 := 617) (a3 := 618) (a4 := 619) rfl rfl rfl rfl rfl (by show (0 : Int) ≤ 2 + 5 ∧ (2 : Int) + 5 < ((8 : Nat) : Int); decide) (nlt rfl) dL_law_614 dL_law_615 dL_law_617 dL_law_618 dL_law_619 ?_
  show pl E YL_law (b, 8, xs) room_1 K (uc + 4) (us + 24) 620 [none, some (.ref 0), some (.ref 115), some (.ref 165), some (.int (zI (2))), some (.int (zI (if ((xs 3).toInt) = 0 ∧ (0 ≤ ((xs 4).toInt) ∧ ((xs 4).toInt) < H ∧ 0 ≤ ((xs 5).toInt) ∧ ((xs 5).toInt) < w) ∧ (0 ≤ ((xs 6).toInt) ∧ ((xs 6).toInt) < H ∧ 0 ≤ ((xs 7).toInt) ∧ ((xs 7).toInt) < w) then (if (((xs 4).toInt) < ((xs 6).toInt) ∨ (((xs 4).toInt) = ((xs 6).toInt) ∧ ((xs 5).toInt) ≤ ((xs 7).toInt))) then 0 else 2) else 1))), q6] [.int (zI ((xs 7).toInt)), .int (zI ((xs 6).toInt)), .int (zI ((xs 5).toInt)), .int (zI ((xs 4).toInt)), .int (zI ((xs 3).toInt)), .ref 115] h_9 n_9
  refine pl_callV (As := [.int (zI ((xs 3).toInt)), .int (zI ((xs 4).toInt)), .int (zI ((xs 5).toInt)), .int (zI ((xs 6).toInt)), .int (zI ((xs 7).toInt))]) (b := 115) (rm := rmD 4 0 0) (nF_select (w := w) (H := H) htr hM9 hw hH hn (by omega) (by omega) (by omega) (by omega) (by omega)) rfl hM9.1 rfl rfl ywX10_select rfl cwL_105 ⟨nle rfl, nle rfl⟩ (nle rfl) ⟨by show uc + 4 ≤ 600002; omega, by show us + 24 ≤ 7302198; omega⟩ dL_law_620 ?_
  intro r_8 h_8 n_8 hq _
  obtain ⟨⟨s8, hM8, eT, hF8, e4⟩, e1⟩ := hq
  rw [e1, e4]
  show pl E YL_law (b, 8, xs) room_1 K (uc + 4) (us + 24) 623 [none, some (.ref 0), some (.ref 115), some (.ref 165), some (.int (zI (2))), some (.int (zI (if ((xs 3).toInt) = 0 ∧ (0 ≤ ((xs 4).toInt) ∧ ((xs 4).toInt) < H ∧ 0 ≤ ((xs 5).toInt) ∧ ((xs 5).toInt) < w) ∧ (0 ≤ ((xs 6).toInt) ∧ ((xs 6).toInt) < H ∧ 0 ≤ ((xs 7).toInt) ∧ ((xs 7).toInt) < w) then (if (((xs 4).toInt) < ((xs 6).toInt) ∨ (((xs 4).toInt) = ((xs 6).toInt) ∧ ((xs 5).toInt) ≤ ((xs 7).toInt))) then 0 else 2) else 1))), q6] [.int (zI (if ((xs 3).toInt) = 0 ∧ (0 ≤ ((xs 4).toInt) ∧ ((xs 4).toInt) < H ∧ 0 ≤ ((xs 5).toInt) ∧ ((xs 5).toInt) < w) ∧ (0 ≤ ((xs 6).toInt) ∧ ((xs 6).toInt) < H ∧ 0 ≤ ((xs 7).toInt) ∧ ((xs 7).toInt) < w) ∧ (((xs 4).toInt) < ((xs 6).toInt) ∨ (((xs 4).toInt) = ((xs 6).toInt) ∧ ((xs 5).toInt) ≤ ((xs 7).toInt))) then ((xs 6).toInt) - ((xs 4).toInt) else 0))] h_8 n_9
  refine pl_istore (lv' := [none, some (.ref 0), some (.ref 115), some (.ref 165), some (.int (zI (2))), some (.int (zI (if ((xs 3).toInt) = 0 ∧ (0 ≤ ((xs 4).toInt) ∧ ((xs 4).toInt) < H ∧ 0 ≤ ((xs 5).toInt) ∧ ((xs 5).toInt) < w) ∧ (0 ≤ ((xs 6).toInt) ∧ ((xs 6).toInt) < H ∧ 0 ≤ ((xs 7).toInt) ∧ ((xs 7).toInt) < w) then (if (((xs 4).toInt) < ((xs 6).toInt) ∨ (((xs 4).toInt) = ((xs 6).toInt) ∧ ((xs 5).toInt) ≤ ((xs 7).toInt))) then 0 else 2) else 1))), some (.int (zI (if ((xs 3).toInt) = 0 ∧ (0 ≤ ((xs 4).toInt) ∧ ((xs 4).toInt) < H ∧ 0 ≤ ((xs 5).toInt) ∧ ((xs 5).toInt) < w) ∧ (0 ≤ ((xs 6).toInt) ∧ ((xs 6).toInt) < H ∧ 0 ≤ ((xs 7).toInt) ∧ ((xs 7).toInt) < w) ∧ (((xs 4).toInt) < ((xs 6).toInt) ∨ (((xs 4).toInt) = ((xs 6).toInt) ∧ ((xs 5).toInt) ≤ ((xs 7).toInt))) then ((xs 6).toInt) - ((xs 4).toInt) else 0)))]) dL_law_623 (by decide) (by decide) rfl rfl ?_
  refine pl_aload_n dL_law_625 rfl ?_
  refine pl_callV (As := []) (b := 115) (rm := rmD 0 0 0) (nR_thrown htr hM8) rfl hM8.1 rfl rfl ywX10_thrown rfl cwL_79 ⟨nle rfl, nle rfl⟩ (nle rfl) ⟨by show uc + 4 ≤ 600002; omega, by show us + 24 ≤ 7302198; omega⟩ dL_law_626 ?_
  intro r_7 h_7 n_7 hq _
  rw [hq.1, hq.2.1, hq.2.2, eT]
  show pl E YL_law (b, 8, xs) room_1 K (uc + 4) (us + 24) 629 [none, some (.ref 0), some (.ref 115), some (.ref 165), some (.int (zI (2))), some (.int (zI (if ((xs 3).toInt) = 0 ∧ (0 ≤ ((xs 4).toInt) ∧ ((xs 4).toInt) < H ∧ 0 ≤ ((xs 5).toInt) ∧ ((xs 5).toInt) < w) ∧ (0 ≤ ((xs 6).toInt) ∧ ((xs 6).toInt) < H ∧ 0 ≤ ((xs 7).toInt) ∧ ((xs 7).toInt) < w) then (if (((xs 4).toInt) < ((xs 6).toInt) ∨ (((xs 4).toInt) = ((xs 6).toInt) ∧ ((xs 5).toInt) ≤ ((xs 7).toInt))) then 0 else 2) else 1))), some (.int (zI (if ((xs 3).toInt) = 0 ∧ (0 ≤ ((xs 4).toInt) ∧ ((xs 4).toInt) < H ∧ 0 ≤ ((xs 5).toInt) ∧ ((xs 5).toInt) < w) ∧ (0 ≤ ((xs 6).toInt) ∧ ((xs 6).toInt) < H ∧ 0 ≤ ((xs 7).toInt) ∧ ((xs 7).toInt) < w) ∧ (((xs 4).toInt) < ((xs 6).toInt) ∨ (((xs 4).toInt) = ((xs 6).toInt) ∧ ((xs 5).toInt) ≤ ((xs 7).toInt))) then ((xs 6).toInt) - ((xs 4).toInt) else 0)))] [.int (zI (if ((xs 3).toInt) = 0 ∧ (0 ≤ ((xs 4).toInt) ∧ ((xs 4).toInt) < H ∧ 0 ≤ ((xs 5).toInt) ∧ ((xs 5).toInt) < w) ∧ (0 ≤ ((xs 6).toInt) ∧ ((xs 6).toInt) < H ∧ 0 ≤ ((xs 7).toInt) ∧ ((xs 7).toInt) < w) then (if (((xs 4).toInt) < ((xs 6).toInt) ∨ (((xs 4).toInt) = ((xs 6).toInt) ∧ ((xs 5).toInt) ≤ ((xs 7).toInt))) then 0 else 2) else 1))] h_8 n_9
  refine pl_iload dL_law_629 rfl ?_
  refine pl_icmp_eq (tgt := 636) dL_law_631 rfl (by omega) (by omega) (fun c631 => ?_) (fun c631 => ?_)
  ·
    refine pl_iload dL_law_636 rfl ?_
    refine pl_if_ne (tgt := 653) dL_law_638 rfl (by omega) (fun c638 => ?_) (fun c638 => ?_)
    ·
      refine pl_goto (tgt := 1069) dL_law_653 rfl ?_
      exact kk h_8 n_9 _ _ (uc + 4) (us + 24) (by omega) (by omega)
    ·
      refine pl_aload_n dL_law_641 rfl ?_
      refine pl_iconst (v := zI (0)) dL_law_642 (by decide) ?_
      obtain ⟨g9, hg9, hg0⟩ := hkp.2.1 (by omega)
      have ho8 : h_8 165 = pz_j 2 1 g9 := (hF8 165 (by omega)).trans hg9
      refine pl_lald (t := 2) (f := g9) rfl ho8 (by omega) (by decide) dL_law_643 ?_
      rw [show g9 (Int.toNat 0) = zL (if ((xs 3).toInt) = 0 ∧ (0 ≤ ((xs 4).toInt) ∧ ((xs 4).toInt) < H ∧ 0 ≤ ((xs 5).toInt) ∧ ((xs 5).toInt) < w) ∧ (0 ≤ ((xs 6).toInt) ∧ ((xs 6).toInt) < H ∧ 0 ≤ ((xs 7).toInt) ∧ ((xs 7).toInt) < w) ∧ (((xs 4).toInt) < ((xs 6).toInt) ∨ (((xs 4).toInt) = ((xs 6).toInt) ∧ ((xs 5).toInt) ≤ ((xs 7).toInt))) then ((xs 6).toInt) - ((xs 4).toInt) else 0) from hg0]
      show pl E YL_law (b, 8, xs) room_1 K (uc + 4) (us + 24) 644 [none, some (.ref 0), some (.ref 115), some (.ref 165), some (.int (zI (2))), some (.int (zI (if ((xs 3).toInt) = 0 ∧ (0 ≤ ((xs 4).toInt) ∧ ((xs 4).toInt) < H ∧ 0 ≤ ((xs 5).toInt) ∧ ((xs 5).toInt) < w) ∧ (0 ≤ ((xs 6).toInt) ∧ ((xs 6).toInt) < H ∧ 0 ≤ ((xs 7).toInt) ∧ ((xs 7).toInt) < w) then (if (((xs 4).toInt) < ((xs 6).toInt) ∨ (((xs 4).toInt) = ((xs 6).toInt) ∧ ((xs 5).toInt) ≤ ((xs 7).toInt))) then 0 else 2) else 1))), some (.int (zI (if ((xs 3).toInt) = 0 ∧ (0 ≤ ((xs 4).toInt) ∧ ((xs 4).toInt) < H ∧ 0 ≤ ((xs 5).toInt) ∧ ((xs 5).toInt) < w) ∧ (0 ≤ ((xs 6).toInt) ∧ ((xs 6).toInt) < H ∧ 0 ≤ ((xs 7).toInt) ∧ ((xs 7).toInt) < w) ∧ (((xs 4).toInt) < ((xs 6).toInt) ∨ (((xs 4).toInt) = ((xs 6).toInt) ∧ ((xs 5).toInt) ≤ ((xs 7).toInt))) then ((xs 6).toInt) - ((xs 4).toInt) else 0)))] [.long (zL (if ((xs 3).toInt) = 0 ∧ (0 ≤ ((xs 4).toInt) ∧ ((xs 4).toInt) < H ∧ 0 ≤ ((xs 5).toInt) ∧ ((xs 5).toInt) < w) ∧ (0 ≤ ((xs 6).toInt) ∧ ((xs 6).toInt) < H ∧ 0 ≤ ((xs 7).toInt) ∧ ((xs 7).toInt) < w) ∧ (((xs 4).toInt) < ((xs 6).toInt) ∨ (((xs 4).toInt) = ((xs 6).toInt) ∧ ((xs 5).toInt) ≤ ((xs 7).toInt))) then ((xs 6).toInt) - ((xs 4).toInt) else 0))] h_8 n_9
      refine pl_iload dL_law_644 rfl ?_
      refine pl_zi2l dL_law_646 (by omega) ?_
      refine pl_zlcmp dL_law_647 (by omega) (by omega) ?_
      refine pl_if_eq (tgt := 653) dL_law_648 rfl (by omega) (fun c648 => ?_) (fun c648 => ?_)
      ·
        refine pl_goto (tgt := 1069) dL_law_653 rfl ?_
        exact kk h_8 n_9 _ _ (uc + 4) (us + 24) (by omega) (by omega)
      · exfalso; omega
  · exfalso; omega
set_option maxHeartbeats 1000000 in
set_option maxRecDepth 100000 in
theorem lw_redraw {E : pw_E} (htr : E.1.stackTraces = false) {K : pw_K} {b uc us : Nat} {xs : Nat → Int32} {h : pz_H} {s : mS} {f : Nat → Int64} {q5 q6 : Option Value} (hq5 : q5 = none) (hu : uc ≤ 1000) (hs : us ≤ 1000000) {w H : Int} {N NH NB NL : Nat} (hG : geoH w H N NH NB NL) (hA : hAt w H N NH NB NL 0 (hNew w H N 0) h) (hM : mAt 115 s h) (hn : mN w H s) (ho : h 165 = pz_j 2 1 f) (kk : ∀ (h' : pz_H) (n' : Nat) (q5 q6 : Option Value) (uc' us' : Nat), uc' ≤ uc + 10 → us' ≤ us + 100 → pl E YL_law (b, 8, xs) room_1 K uc' us' 1069 [none, some (.ref 0), some (.ref 115), some (.ref 165), some (.int (zI (2))), q5, q6] [] h' n') : pl E YL_law (b, 8, xs) room_1 K uc us 656 [none, some (.ref 0), some (.ref 115), some (.ref 165), some (.int (zI (2))), q5, q6] [] h 166 := by
  have hw := hG.1.1
  have hH := hG.1.2.1
  have hN := hG.1.2.2.1
  have hNL := hG.2.2
  have r3 := i32 (xs 3)
  have r4 := i32 (xs 4)
  have r5 := i32 (xs 5)
  have r6 := i32 (xs 6)
  have r7 := i32 (xs 7)
  subst hq5
  refine pl_aload_n dL_law_656 rfl ?_
  refine pl_callV (As := []) (b := 0) (rm := rmD 14 0 0) (cF_redraw htr hG hA) rfl hA.1 rfl rfl ywX9_redraw rfl cwL_106 ⟨nle rfl, nle rfl⟩ (nle rfl) ⟨by show uc ≤ 600002; omega, by show us ≤ 7302198; omega⟩ dL_law_657 ?_
  intro r_9 h_9 n_9 hq hn9
  obtain ⟨e1, hkp⟩ := hq
  rw [e1]
  show pl E YL_law (b, 8, xs) room_1 K uc us 660 [none, some (.ref 0), some (.ref 115), some (.ref 165), some (.int (zI (2))), none, q6] [.int (zI (0))] h_9 n_9
  have hM9 : mAt 115 s h_9 := mAt_keep hM (fun a a1 a2 => hkp a a1 (by omega))
  refine pl_aload_n dL_law_660 rfl ?_
  refine pl_callV (As := []) (b := 115) (rm := rmD 4 0 0) (nF_redraw (w := w) (H := H) htr hM9 hw hH hn) rfl hM9.1 rfl rfl ywX10_redraw rfl cwL_109 ⟨nle rfl, nle rfl⟩ (nle rfl) ⟨by show uc ≤ 600002; omega, by show us ≤ 7302198; omega⟩ dL_law_661 ?_
  intro r_8 h_8 n_8 hq _
  obtain ⟨⟨s8, hM8, eT, hF8, e4⟩, e1⟩ := hq
  rw [e1, e4]
  show pl E YL_law (b, 8, xs) room_1 K uc us 664 [none, some (.ref 0), some (.ref 115), some (.ref 165), some (.int (zI (2))), none, q6] [.int (zI (0)), .int (zI (0))] h_8 n_9
  refine pl_icmp_eq (tgt := 1069) dL_law_664 rfl (by omega) (by omega) (fun c664 => ?_) (fun c664 => ?_)
  ·
    exact kk h_8 n_9 _ _ (uc) (us) (by omega) (by omega)
  · exfalso; omega
set_option maxHeartbeats 1000000 in
set_option maxRecDepth 100000 in
theorem lw_out {E : pw_E} (htr : E.1.stackTraces = false) {K : pw_K} {b uc us : Nat} {xs : Nat → Int32} {h : pz_H} {s : mS} {f : Nat → Int64} {q5 q6 : Option Value} (hq5 : q5 = none) (hu : uc ≤ 1000) (hs : us ≤ 1000000) {w H : Int} {N NH NB NL : Nat} (hG : geoH w H N NH NB NL) (hA : hAt w H N NH NB NL 0 (hNew w H N 0) h) (hM : mAt 115 s h) (hn : mN w H s) (ho : h 165 = pz_j 2 1 f) (kk : ∀ (h' : pz_H) (n' : Nat) (q5 q6 : Option Value) (uc' us' : Nat), uc' ≤ uc + 10 → us' ≤ us + 100 → pl E YL_law (b, 8, xs) room_1 K uc' us' 1069 [none, some (.ref 0), some (.ref 115), some (.ref 165), some (.int (zI (2))), q5, q6] [] h' n') : pl E YL_law (b, 8, xs) room_1 K uc us 669 [none, some (.ref 0), some (.ref 115), some (.ref 165), some (.int (zI (2))), q5, q6] [] h 166 := by
  have hw := hG.1.1
  have hH := hG.1.2.1
  have hN := hG.1.2.2.1
  have hNL := hG.2.2
  have r3 := i32 (xs 3)
  have r4 := i32 (xs 4)
  have r5 := i32 (xs 5)
  have r6 := i32 (xs 6)
  have r7 := i32 (xs 7)
  subst hq5
  refine pl_aload_n dL_law_669 rfl ?_
  refine pl_sld (a0 := 0) (i := 2) (k := 1) (a1 := 671) (a2 := 673) (a3 := 674) (a4 := 675) rfl rfl rfl rfl rfl (by show (0 : Int) ≤ 2 + 1 ∧ (2 : Int) + 1 < ((8 : Nat) : Int); decide) (nlt rfl) dL_law_670 dL_law_671 dL_law_673 dL_law_674 dL_law_675 ?_
  show pl E YL_law (b, 8, xs) room_1 K uc us 676 [none, some (.ref 0), some (.ref 115), some (.ref 165), some (.int (zI (2))), none, q6] [.int (zI ((xs 3).toInt)), .ref 0] h 166
  refine pl_aload_n dL_law_676 rfl ?_
  refine pl_callSH (k := 3) (As := [.ref 0, .int (zI ((xs 3).toInt)), .ref 165]) (rm := rmD (6 + 1) 1 6) (wF_out htr hG hA (by omega) ho) rfl rfl whL_out ⟨by decide +kernel, by decide +kernel, by decide +kernel⟩ ⟨cwL_110.1, cwL_110.2, iniL⟩ ⟨nle rfl, nle rfl⟩ (nle rfl) ⟨by show uc + 1 ≤ 600002; omega, by show us + 6 ≤ 7302198; omega⟩ dL_law_677 ?_
  intro r_9 h_9 n_9 hq hn9
  obtain ⟨e1, hkp⟩ := hq
  rw [e1]
  show pl E YL_law (b, 8, xs) room_1 K (uc + 1) (us + 6) 680 [none, some (.ref 0), some (.ref 115), some (.ref 165), some (.int (zI (2))), none, q6] [.int (zI (1))] h_9 n_9
  have hM9 : mAt 115 s h_9 := mAt_keep hM (fun a a1 a2 => hkp.1 a a1 (by omega))
  refine pl_istore (lv' := [none, some (.ref 0), some (.ref 115), some (.ref 165), some (.int (zI (2))), some (.int (zI (1))), q6]) dL_law_680 (by decide) (by decide) rfl rfl ?_
  refine pl_aload_n dL_law_682 rfl ?_
  refine pl_sld (a0 := 0) (i := 2) (k := 1) (a1 := 684) (a2 := 686) (a3 := 687) (a4 := 688) rfl rfl rfl rfl rfl (by show (0 : Int) ≤ 2 + 1 ∧ (2 : Int) + 1 < ((8 : Nat) : Int); decide) (nlt rfl) dL_law_683 dL_law_684 dL_law_686 dL_law_687 dL_law_688 ?_
  show pl E YL_law (b, 8, xs) room_1 K (uc + 1) (us + 6) 689 [none, some (.ref 0), some (.ref 115), some (.ref 165), some (.int (zI (2))), some (.int (zI (1))), q6] [.int (zI ((xs 3).toInt)), .ref 115] h_9 n_9
  refine pl_callV (As := [.int (zI ((xs 3).toInt))]) (b := 115) (rm := rmD 0 0 0) (nF_out (w := w) (H := H) htr hM9 hw hH hn (by omega)) rfl hM9.1 rfl rfl ywX10_out rfl cwL_112 ⟨nle rfl, nle rfl⟩ (nle rfl) ⟨by show uc + 1 ≤ 600002; omega, by show us + 6 ≤ 7302198; omega⟩ dL_law_689 ?_
  intro r_8 h_8 n_8 hq _
  obtain ⟨⟨s8, hM8, eT, hF8, e4⟩, e1⟩ := hq
  rw [e1, e4]
  show pl E YL_law (b, 8, xs) room_1 K (uc + 1) (us + 6) 692 [none, some (.ref 0), some (.ref 115), some (.ref 165), some (.int (zI (2))), some (.int (zI (1))), q6] [.int (zI (0))] h_8 n_9
  refine pl_istore (lv' := [none, some (.ref 0), some (.ref 115), some (.ref 165), some (.int (zI (2))), some (.int (zI (1))), some (.int (zI (0)))]) dL_law_692 (by decide) (by decide) rfl rfl ?_
  refine pl_aload_n dL_law_694 rfl ?_
  refine pl_callV (As := []) (b := 115) (rm := rmD 0 0 0) (nR_thrown htr hM8) rfl hM8.1 rfl rfl ywX10_thrown rfl cwL_79 ⟨nle rfl, nle rfl⟩ (nle rfl) ⟨by show uc + 1 ≤ 600002; omega, by show us + 6 ≤ 7302198; omega⟩ dL_law_695 ?_
  intro r_7 h_7 n_7 hq _
  rw [hq.1, hq.2.1, hq.2.2, eT]
  show pl E YL_law (b, 8, xs) room_1 K (uc + 1) (us + 6) 698 [none, some (.ref 0), some (.ref 115), some (.ref 165), some (.int (zI (2))), some (.int (zI (1))), some (.int (zI (0)))] [.int (zI (1))] h_8 n_9
  refine pl_iload dL_law_698 rfl ?_
  refine pl_icmp_eq (tgt := 705) dL_law_700 rfl (by omega) (by omega) (fun c700 => ?_) (fun c700 => ?_)
  ·
    refine pl_iload dL_law_705 rfl ?_
    refine pl_if_ne (tgt := 722) dL_law_707 rfl (by omega) (fun c707 => ?_) (fun c707 => ?_)
    ·
      refine pl_goto (tgt := 1069) dL_law_722 rfl ?_
      exact kk h_8 n_9 _ _ (uc + 1) (us + 6) (by omega) (by omega)
    · exfalso; omega
  · exfalso; omega
set_option maxHeartbeats 1000000 in
set_option maxRecDepth 100000 in
theorem lw_cell {E : pw_E} (htr : E.1.stackTraces = false) {K : pw_K} {b uc us : Nat} {xs : Nat → Int32} {h : pz_H} {s : mS} {f : Nat → Int64} {q5 q6 : Option Value} (hq5 : q5 = none) (hu : uc ≤ 1000) (hs : us ≤ 1000000) {w H : Int} {N NH NB NL : Nat} (hG : geoH w H N NH NB NL) (hA : hAt w H N NH NB NL 0 (hNew w H N 0) h) (hM : mAt 115 s h) (hn : mN w H s) (ho : h 165 = pz_j 2 1 f) (kk : ∀ (h' : pz_H) (n' : Nat) (q5 q6 : Option Value) (uc' us' : Nat), uc' ≤ uc + 10 → us' ≤ us + 100 → pl E YL_law (b, 8, xs) room_1 K uc' us' 1069 [none, some (.ref 0), some (.ref 115), some (.ref 165), some (.int (zI (2))), q5, q6] [] h' n') : pl E YL_law (b, 8, xs) room_1 K uc us 725 [none, some (.ref 0), some (.ref 115), some (.ref 165), some (.int (zI (2))), q5, q6] [] h 166 := by
  have hw := hG.1.1
  have hH := hG.1.2.1
  have hN := hG.1.2.2.1
  have hNL := hG.2.2
  have r3 := i32 (xs 3)
  have r4 := i32 (xs 4)
  have r5 := i32 (xs 5)
  have r6 := i32 (xs 6)
  have r7 := i32 (xs 7)
  subst hq5
  refine pl_aload_n dL_law_725 rfl ?_
  refine pl_sld (a0 := 0) (i := 2) (k := 1) (a1 := 727) (a2 := 729) (a3 := 730) (a4 := 731) rfl rfl rfl rfl rfl (by show (0 : Int) ≤ 2 + 1 ∧ (2 : Int) + 1 < ((8 : Nat) : Int); decide) (nlt rfl) dL_law_726 dL_law_727 dL_law_729 dL_law_730 dL_law_731 ?_
  show pl E YL_law (b, 8, xs) room_1 K uc us 732 [none, some (.ref 0), some (.ref 115), some (.ref 165), some (.int (zI (2))), none, q6] [.int (zI ((xs 3).toInt)), .ref 0] h 166
  refine pl_sld (a0 := 0) (i := 2) (k := 2) (a1 := 733) (a2 := 735) (a3 := 736) (a4 := 737) rfl rfl rfl rfl rfl (by show (0 : Int) ≤ 2 + 2 ∧ (2 : Int) + 2 < ((8 : Nat) : Int); decide) (nlt rfl) dL_law_732 dL_law_733 dL_law_735 dL_law_736 dL_law_737 ?_
  show pl E YL_law (b, 8, xs) room_1 K uc us 738 [none, some (.ref 0), some (.ref 115), some (.ref 165), some (.int (zI (2))), none, q6] [.int (zI ((xs 4).toInt)), .int (zI ((xs 3).toInt)), .ref 0] h 166
  refine pl_sld (a0 := 0) (i := 2) (k := 3) (a1 := 739) (a2 := 741) (a3 := 742) (a4 := 743) rfl rfl rfl rfl rfl (by show (0 : Int) ≤ 2 + 3 ∧ (2 : Int) + 3 < ((8 : Nat) : Int); decide) (nlt rfl) dL_law_738 dL_law_739 dL_law_741 dL_law_742 dL_law_743 ?_
  show pl E YL_law (b, 8, xs) room_1 K uc us 744 [none, some (.ref 0), some (.ref 115), some (.ref 165), some (.int (zI (2))), none, q6] [.int (zI ((xs 5).toInt)), .int (zI ((xs 4).toInt)), .int (zI ((xs 3).toInt)), .ref 0] h 166
  refine pl_if_eq (tgt := 751) dL_law_744 rfl (by omega) (fun c744 => ?_) (fun c744 => ?_)
  ·
    refine pl_iconst (v := zI (0)) dL_law_751 (by decide) ?_
    refine pl_aload_n dL_law_752 rfl ?_
    refine pl_callSH (k := 5) (As := [.ref 0, .int (zI ((xs 3).toInt)), .int (zI ((xs 4).toInt)), .int (zI (0)), .ref 165]) (rm := rmD (14 + 1) 1 6) (wF_cell htr hG hA (by omega) (by omega) (by omega) (by omega) ho) rfl rfl whL_cell_ ⟨by decide +kernel, by decide +kernel, by decide +kernel⟩ ⟨cwL_113.1, cwL_113.2, iniL⟩ ⟨nle rfl, nle rfl⟩ (nle rfl) ⟨by show uc + 1 ≤ 600002; omega, by show us + 6 ≤ 7302198; omega⟩ dL_law_753 ?_
    intro r_9 h_9 n_9 hq hn9
    obtain ⟨e1, hkp⟩ := hq
    rw [e1]
    show pl E YL_law (b, 8, xs) room_1 K (uc + 1) (us + 6) 756 [none, some (.ref 0), some (.ref 115), some (.ref 165), some (.int (zI (2))), none, q6] [.int (zI (if (0 ≤ ((xs 3).toInt) ∧ ((xs 3).toInt) < w ∧ 0 ≤ ((xs 4).toInt) ∧ ((xs 4).toInt) < H) then 0 else 1))] h_9 n_9
    have hM9 : mAt 115 s h_9 := mAt_keep hM (fun a a1 a2 => hkp.1 a a1 (by omega))
    refine pl_istore (lv' := [none, some (.ref 0), some (.ref 115), some (.ref 165), some (.int (zI (2))), some (.int (zI (if (0 ≤ ((xs 3).toInt) ∧ ((xs 3).toInt) < w ∧ 0 ≤ ((xs 4).toInt) ∧ ((xs 4).toInt) < H) then 0 else 1))), q6]) dL_law_756 (by decide) (by decide) rfl rfl ?_
    refine pl_aload_n dL_law_758 rfl ?_
    refine pl_sld (a0 := 0) (i := 2) (k := 1) (a1 := 760) (a2 := 762) (a3 := 763) (a4 := 764) rfl rfl rfl rfl rfl (by show (0 : Int) ≤ 2 + 1 ∧ (2 : Int) + 1 < ((8 : Nat) : Int); decide) (nlt rfl) dL_law_759 dL_law_760 dL_law_762 dL_law_763 dL_law_764 ?_
    show pl E YL_law (b, 8, xs) room_1 K (uc + 1) (us + 6) 765 [none, some (.ref 0), some (.ref 115), some (.ref 165), some (.int (zI (2))), some (.int (zI (if (0 ≤ ((xs 3).toInt) ∧ ((xs 3).toInt) < w ∧ 0 ≤ ((xs 4).toInt) ∧ ((xs 4).toInt) < H) then 0 else 1))), q6] [.int (zI ((xs 3).toInt)), .ref 115] h_9 n_9
    refine pl_sld (a0 := 0) (i := 2) (k := 2) (a1 := 766) (a2 := 768) (a3 := 769) (a4 := 770) rfl rfl rfl rfl rfl (by show (0 : Int) ≤ 2 + 2 ∧ (2 : Int) + 2 < ((8 : Nat) : Int); decide) (nlt rfl) dL_law_765 dL_law_766 dL_law_768 dL_law_769 dL_law_770 ?_
    show pl E YL_law (b, 8, xs) room_1 K (uc + 1) (us + 6) 771 [none, some (.ref 0), some (.ref 115), some (.ref 165), some (.int (zI (2))), some (.int (zI (if (0 ≤ ((xs 3).toInt) ∧ ((xs 3).toInt) < w ∧ 0 ≤ ((xs 4).toInt) ∧ ((xs 4).toInt) < H) then 0 else 1))), q6] [.int (zI ((xs 4).toInt)), .int (zI ((xs 3).toInt)), .ref 115] h_9 n_9
    refine pl_sld (a0 := 0) (i := 2) (k := 3) (a1 := 772) (a2 := 774) (a3 := 775) (a4 := 776) rfl rfl rfl rfl rfl (by show (0 : Int) ≤ 2 + 3 ∧ (2 : Int) + 3 < ((8 : Nat) : Int); decide) (nlt rfl) dL_law_771 dL_law_772 dL_law_774 dL_law_775 dL_law_776 ?_
    show pl E YL_law (b, 8, xs) room_1 K (uc + 1) (us + 6) 777 [none, some (.ref 0), some (.ref 115), some (.ref 165), some (.int (zI (2))), some (.int (zI (if (0 ≤ ((xs 3).toInt) ∧ ((xs 3).toInt) < w ∧ 0 ≤ ((xs 4).toInt) ∧ ((xs 4).toInt) < H) then 0 else 1))), q6] [.int (zI ((xs 5).toInt)), .int (zI ((xs 4).toInt)), .int (zI ((xs 3).toInt)), .ref 115] h_9 n_9
    refine pl_if_eq (tgt := 784) dL_law_777 rfl (by omega) (fun c777 => ?_) (fun c777 => ?_)
    ·
      refine pl_iconst (v := zI (0)) dL_law_784 (by decide) ?_
      refine pl_callV (As := [.int (zI ((xs 3).toInt)), .int (zI ((xs 4).toInt)), .int (zI (0))]) (b := 115) (rm := rmD 4 0 0) (nF_cell (w := w) (H := H) htr hM9 hw hH hn (by omega) (by omega) (by omega) (by omega)) rfl hM9.1 rfl rfl ywX10_cell rfl cwL_116 ⟨nle rfl, nle rfl⟩ (nle rfl) ⟨by show uc + 1 ≤ 600002; omega, by show us + 6 ≤ 7302198; omega⟩ dL_law_785 ?_
      intro r_8 h_8 n_8 hq _
      obtain ⟨⟨s8, hM8, eT, hF8, e4⟩, e1⟩ := hq
      rw [e1, e4]
      show pl E YL_law (b, 8, xs) room_1 K (uc + 1) (us + 6) 788 [none, some (.ref 0), some (.ref 115), some (.ref 165), some (.int (zI (2))), some (.int (zI (if (0 ≤ ((xs 3).toInt) ∧ ((xs 3).toInt) < w ∧ 0 ≤ ((xs 4).toInt) ∧ ((xs 4).toInt) < H) then 0 else 1))), q6] [.int (zI (if (0 ≤ ((xs 3).toInt) ∧ ((xs 3).toInt) < w ∧ 0 ≤ ((xs 4).toInt) ∧ ((xs 4).toInt) < H) then (if 0 = 0 then 32 else 0) else 0))] h_8 n_9
      refine pl_istore (lv' := [none, some (.ref 0), some (.ref 115), some (.ref 165), some (.int (zI (2))), some (.int (zI (if (0 ≤ ((xs 3).toInt) ∧ ((xs 3).toInt) < w ∧ 0 ≤ ((xs 4).toInt) ∧ ((xs 4).toInt) < H) then 0 else 1))), some (.int (zI (if (0 ≤ ((xs 3).toInt) ∧ ((xs 3).toInt) < w ∧ 0 ≤ ((xs 4).toInt) ∧ ((xs 4).toInt) < H) then (if 0 = 0 then 32 else 0) else 0)))]) dL_law_788 (by decide) (by decide) rfl rfl ?_
      refine pl_aload_n dL_law_790 rfl ?_
      refine pl_callV (As := []) (b := 115) (rm := rmD 0 0 0) (nR_thrown htr hM8) rfl hM8.1 rfl rfl ywX10_thrown rfl cwL_79 ⟨nle rfl, nle rfl⟩ (nle rfl) ⟨by show uc + 1 ≤ 600002; omega, by show us + 6 ≤ 7302198; omega⟩ dL_law_791 ?_
      intro r_7 h_7 n_7 hq _
      rw [hq.1, hq.2.1, hq.2.2, eT]
      show pl E YL_law (b, 8, xs) room_1 K (uc + 1) (us + 6) 794 [none, some (.ref 0), some (.ref 115), some (.ref 165), some (.int (zI (2))), some (.int (zI (if (0 ≤ ((xs 3).toInt) ∧ ((xs 3).toInt) < w ∧ 0 ≤ ((xs 4).toInt) ∧ ((xs 4).toInt) < H) then 0 else 1))), some (.int (zI (if (0 ≤ ((xs 3).toInt) ∧ ((xs 3).toInt) < w ∧ 0 ≤ ((xs 4).toInt) ∧ ((xs 4).toInt) < H) then (if 0 = 0 then 32 else 0) else 0)))] [.int (zI (if (0 ≤ ((xs 3).toInt) ∧ ((xs 3).toInt) < w ∧ 0 ≤ ((xs 4).toInt) ∧ ((xs 4).toInt) < H) then 0 else 1))] h_8 n_9
      refine pl_iload dL_law_794 rfl ?_
      refine pl_icmp_eq (tgt := 801) dL_law_796 rfl (by omega) (by omega) (fun c796 => ?_) (fun c796 => ?_)
      ·
        refine pl_iload dL_law_801 rfl ?_
        refine pl_if_ne (tgt := 818) dL_law_803 rfl (by omega) (fun c803 => ?_) (fun c803 => ?_)
        ·
          refine pl_goto (tgt := 1069) dL_law_818 rfl ?_
          exact kk h_8 n_9 _ _ (uc + 1) (us + 6) (by omega) (by omega)
        ·
          refine pl_aload_n dL_law_806 rfl ?_
          refine pl_iconst (v := zI (0)) dL_law_807 (by decide) ?_
          obtain ⟨g9, hg9, hg0⟩ := hkp.2.1 (by omega)
          have ho8 : h_8 165 = pz_j 2 1 g9 := (hF8 165 (by omega)).trans hg9
          refine pl_lald (t := 2) (f := g9) rfl ho8 (by omega) (by decide) dL_law_808 ?_
          rw [show g9 (Int.toNat 0) = zL (if (0 ≤ ((xs 3).toInt) ∧ ((xs 3).toInt) < w ∧ 0 ≤ ((xs 4).toInt) ∧ ((xs 4).toInt) < H) then (if 0 = 0 then 32 else 0) else 0) from hg0]
          show pl E YL_law (b, 8, xs) room_1 K (uc + 1) (us + 6) 809 [none, some (.ref 0), some (.ref 115), some (.ref 165), some (.int (zI (2))), some (.int (zI (if (0 ≤ ((xs 3).toInt) ∧ ((xs 3).toInt) < w ∧ 0 ≤ ((xs 4).toInt) ∧ ((xs 4).toInt) < H) then 0 else 1))), some (.int (zI (if (0 ≤ ((xs 3).toInt) ∧ ((xs 3).toInt) < w ∧ 0 ≤ ((xs 4).toInt) ∧ ((xs 4).toInt) < H) then (if 0 = 0 then 32 else 0) else 0)))] [.long (zL (if (0 ≤ ((xs 3).toInt) ∧ ((xs 3).toInt) < w ∧ 0 ≤ ((xs 4).toInt) ∧ ((xs 4).toInt) < H) then (if 0 = 0 then 32 else 0) else 0))] h_8 n_9
          refine pl_iload dL_law_809 rfl ?_
          refine pl_zi2l dL_law_811 (by omega) ?_
          refine pl_zlcmp dL_law_812 (by omega) (by omega) ?_
          refine pl_if_eq (tgt := 818) dL_law_813 rfl (by omega) (fun c813 => ?_) (fun c813 => ?_)
          ·
            refine pl_goto (tgt := 1069) dL_law_818 rfl ?_
            exact kk h_8 n_9 _ _ (uc + 1) (us + 6) (by omega) (by omega)
          · exfalso; omega
      · exfalso; omega
    · exfalso; omega
  ·
    refine pl_iconst (v := zI (1)) dL_law_747 (by decide) ?_
    refine pl_goto (tgt := 752) dL_law_748 rfl ?_
    refine pl_aload_n dL_law_752 rfl ?_
    refine pl_callSH (k := 5) (As := [.ref 0, .int (zI ((xs 3).toInt)), .int (zI ((xs 4).toInt)), .int (zI (1)), .ref 165]) (rm := rmD (14 + 1) 1 6) (wF_cell htr hG hA (by omega) (by omega) (by omega) (by omega) ho) rfl rfl whL_cell_ ⟨by decide +kernel, by decide +kernel, by decide +kernel⟩ ⟨cwL_113.1, cwL_113.2, iniL⟩ ⟨nle rfl, nle rfl⟩ (nle rfl) ⟨by show uc + 1 ≤ 600002; omega, by show us + 6 ≤ 7302198; omega⟩ dL_law_753 ?_
    intro r_9 h_9 n_9 hq hn9
    obtain ⟨e1, hkp⟩ := hq
    rw [e1]
    show pl E YL_law (b, 8, xs) room_1 K (uc + 1) (us + 6) 756 [none, some (.ref 0), some (.ref 115), some (.ref 165), some (.int (zI (2))), none, q6] [.int (zI (if (0 ≤ ((xs 3).toInt) ∧ ((xs 3).toInt) < w ∧ 0 ≤ ((xs 4).toInt) ∧ ((xs 4).toInt) < H) then 0 else 1))] h_9 n_9
    have hM9 : mAt 115 s h_9 := mAt_keep hM (fun a a1 a2 => hkp.1 a a1 (by omega))
    refine pl_istore (lv' := [none, some (.ref 0), some (.ref 115), some (.ref 165), some (.int (zI (2))), some (.int (zI (if (0 ≤ ((xs 3).toInt) ∧ ((xs 3).toInt) < w ∧ 0 ≤ ((xs 4).toInt) ∧ ((xs 4).toInt) < H) then 0 else 1))), q6]) dL_law_756 (by decide) (by decide) rfl rfl ?_
    refine pl_aload_n dL_law_758 rfl ?_
    refine pl_sld (a0 := 0) (i := 2) (k := 1) (a1 := 760) (a2 := 762) (a3 := 763) (a4 := 764) rfl rfl rfl rfl rfl (by show (0 : Int) ≤ 2 + 1 ∧ (2 : Int) + 1 < ((8 : Nat) : Int); decide) (nlt rfl) dL_law_759 dL_law_760 dL_law_762 dL_law_763 dL_law_764 ?_
    show pl E YL_law (b, 8, xs) room_1 K (uc + 1) (us + 6) 765 [none, some (.ref 0), some (.ref 115), some (.ref 165), some (.int (zI (2))), some (.int (zI (if (0 ≤ ((xs 3).toInt) ∧ ((xs 3).toInt) < w ∧ 0 ≤ ((xs 4).toInt) ∧ ((xs 4).toInt) < H) then 0 else 1))), q6] [.int (zI ((xs 3).toInt)), .ref 115] h_9 n_9
    refine pl_sld (a0 := 0) (i := 2) (k := 2) (a1 := 766) (a2 := 768) (a3 := 769) (a4 := 770) rfl rfl rfl rfl rfl (by show (0 : Int) ≤ 2 + 2 ∧ (2 : Int) + 2 < ((8 : Nat) : Int); decide) (nlt rfl) dL_law_765 dL_law_766 dL_law_768 dL_law_769 dL_law_770 ?_
    show pl E YL_law (b, 8, xs) room_1 K (uc + 1) (us + 6) 771 [none, some (.ref 0), some (.ref 115), some (.ref 165), some (.int (zI (2))), some (.int (zI (if (0 ≤ ((xs 3).toInt) ∧ ((xs 3).toInt) < w ∧ 0 ≤ ((xs 4).toInt) ∧ ((xs 4).toInt) < H) then 0 else 1))), q6] [.int (zI ((xs 4).toInt)), .int (zI ((xs 3).toInt)), .ref 115] h_9 n_9
    refine pl_sld (a0 := 0) (i := 2) (k := 3) (a1 := 772) (a2 := 774) (a3 := 775) (a4 := 776) rfl rfl rfl rfl rfl (by show (0 : Int) ≤ 2 + 3 ∧ (2 : Int) + 3 < ((8 : Nat) : Int); decide) (nlt rfl) dL_law_771 dL_law_772 dL_law_774 dL_law_775 dL_law_776 ?_
    show pl E YL_law (b, 8, xs) room_1 K (uc + 1) (us + 6) 777 [none, some (.ref 0), some (.ref 115), some (.ref 165), some (.int (zI (2))), some (.int (zI (if (0 ≤ ((xs 3).toInt) ∧ ((xs 3).toInt) < w ∧ 0 ≤ ((xs 4).toInt) ∧ ((xs 4).toInt) < H) then 0 else 1))), q6] [.int (zI ((xs 5).toInt)), .int (zI ((xs 4).toInt)), .int (zI ((xs 3).toInt)), .ref 115] h_9 n_9
    refine pl_if_eq (tgt := 784) dL_law_777 rfl (by omega) (fun c777 => ?_) (fun c777 => ?_)
    · exfalso; omega
    ·
      refine pl_iconst (v := zI (1)) dL_law_780 (by decide) ?_
      refine pl_goto (tgt := 785) dL_law_781 rfl ?_
      refine pl_callV (As := [.int (zI ((xs 3).toInt)), .int (zI ((xs 4).toInt)), .int (zI (1))]) (b := 115) (rm := rmD 4 0 0) (nF_cell (w := w) (H := H) htr hM9 hw hH hn (by omega) (by omega) (by omega) (by omega)) rfl hM9.1 rfl rfl ywX10_cell rfl cwL_116 ⟨nle rfl, nle rfl⟩ (nle rfl) ⟨by show uc + 1 ≤ 600002; omega, by show us + 6 ≤ 7302198; omega⟩ dL_law_785 ?_
      intro r_8 h_8 n_8 hq _
      obtain ⟨⟨s8, hM8, eT, hF8, e4⟩, e1⟩ := hq
      rw [e1, e4]
      show pl E YL_law (b, 8, xs) room_1 K (uc + 1) (us + 6) 788 [none, some (.ref 0), some (.ref 115), some (.ref 165), some (.int (zI (2))), some (.int (zI (if (0 ≤ ((xs 3).toInt) ∧ ((xs 3).toInt) < w ∧ 0 ≤ ((xs 4).toInt) ∧ ((xs 4).toInt) < H) then 0 else 1))), q6] [.int (zI (if (0 ≤ ((xs 3).toInt) ∧ ((xs 3).toInt) < w ∧ 0 ≤ ((xs 4).toInt) ∧ ((xs 4).toInt) < H) then (if 1 = 0 then 32 else 0) else 0))] h_8 n_9
      refine pl_istore (lv' := [none, some (.ref 0), some (.ref 115), some (.ref 165), some (.int (zI (2))), some (.int (zI (if (0 ≤ ((xs 3).toInt) ∧ ((xs 3).toInt) < w ∧ 0 ≤ ((xs 4).toInt) ∧ ((xs 4).toInt) < H) then 0 else 1))), some (.int (zI (if (0 ≤ ((xs 3).toInt) ∧ ((xs 3).toInt) < w ∧ 0 ≤ ((xs 4).toInt) ∧ ((xs 4).toInt) < H) then (if 1 = 0 then 32 else 0) else 0)))]) dL_law_788 (by decide) (by decide) rfl rfl ?_
      refine pl_aload_n dL_law_790 rfl ?_
      refine pl_callV (As := []) (b := 115) (rm := rmD 0 0 0) (nR_thrown htr hM8) rfl hM8.1 rfl rfl ywX10_thrown rfl cwL_79 ⟨nle rfl, nle rfl⟩ (nle rfl) ⟨by show uc + 1 ≤ 600002; omega, by show us + 6 ≤ 7302198; omega⟩ dL_law_791 ?_
      intro r_7 h_7 n_7 hq _
      rw [hq.1, hq.2.1, hq.2.2, eT]
      show pl E YL_law (b, 8, xs) room_1 K (uc + 1) (us + 6) 794 [none, some (.ref 0), some (.ref 115), some (.ref 165), some (.int (zI (2))), some (.int (zI (if (0 ≤ ((xs 3).toInt) ∧ ((xs 3).toInt) < w ∧ 0 ≤ ((xs 4).toInt) ∧ ((xs 4).toInt) < H) then 0 else 1))), some (.int (zI (if (0 ≤ ((xs 3).toInt) ∧ ((xs 3).toInt) < w ∧ 0 ≤ ((xs 4).toInt) ∧ ((xs 4).toInt) < H) then (if 1 = 0 then 32 else 0) else 0)))] [.int (zI (if (0 ≤ ((xs 3).toInt) ∧ ((xs 3).toInt) < w ∧ 0 ≤ ((xs 4).toInt) ∧ ((xs 4).toInt) < H) then 0 else 1))] h_8 n_9
      refine pl_iload dL_law_794 rfl ?_
      refine pl_icmp_eq (tgt := 801) dL_law_796 rfl (by omega) (by omega) (fun c796 => ?_) (fun c796 => ?_)
      ·
        refine pl_iload dL_law_801 rfl ?_
        refine pl_if_ne (tgt := 818) dL_law_803 rfl (by omega) (fun c803 => ?_) (fun c803 => ?_)
        ·
          refine pl_goto (tgt := 1069) dL_law_818 rfl ?_
          exact kk h_8 n_9 _ _ (uc + 1) (us + 6) (by omega) (by omega)
        ·
          refine pl_aload_n dL_law_806 rfl ?_
          refine pl_iconst (v := zI (0)) dL_law_807 (by decide) ?_
          obtain ⟨g9, hg9, hg0⟩ := hkp.2.1 (by omega)
          have ho8 : h_8 165 = pz_j 2 1 g9 := (hF8 165 (by omega)).trans hg9
          refine pl_lald (t := 2) (f := g9) rfl ho8 (by omega) (by decide) dL_law_808 ?_
          rw [show g9 (Int.toNat 0) = zL (if (0 ≤ ((xs 3).toInt) ∧ ((xs 3).toInt) < w ∧ 0 ≤ ((xs 4).toInt) ∧ ((xs 4).toInt) < H) then (if 1 = 0 then 32 else 0) else 0) from hg0]
          show pl E YL_law (b, 8, xs) room_1 K (uc + 1) (us + 6) 809 [none, some (.ref 0), some (.ref 115), some (.ref 165), some (.int (zI (2))), some (.int (zI (if (0 ≤ ((xs 3).toInt) ∧ ((xs 3).toInt) < w ∧ 0 ≤ ((xs 4).toInt) ∧ ((xs 4).toInt) < H) then 0 else 1))), some (.int (zI (if (0 ≤ ((xs 3).toInt) ∧ ((xs 3).toInt) < w ∧ 0 ≤ ((xs 4).toInt) ∧ ((xs 4).toInt) < H) then (if 1 = 0 then 32 else 0) else 0)))] [.long (zL (if (0 ≤ ((xs 3).toInt) ∧ ((xs 3).toInt) < w ∧ 0 ≤ ((xs 4).toInt) ∧ ((xs 4).toInt) < H) then (if 1 = 0 then 32 else 0) else 0))] h_8 n_9
          refine pl_iload dL_law_809 rfl ?_
          refine pl_zi2l dL_law_811 (by omega) ?_
          refine pl_zlcmp dL_law_812 (by omega) (by omega) ?_
          refine pl_if_eq (tgt := 818) dL_law_813 rfl (by omega) (fun c813 => ?_) (fun c813 => ?_)
          ·
            refine pl_goto (tgt := 1069) dL_law_818 rfl ?_
            exact kk h_8 n_9 _ _ (uc + 1) (us + 6) (by omega) (by omega)
          · exfalso; omega
      · exfalso; omega
set_option maxHeartbeats 1000000 in
set_option maxRecDepth 100000 in
theorem lw_about {E : pw_E} (htr : E.1.stackTraces = false) {K : pw_K} {b uc us : Nat} {xs : Nat → Int32} {h : pz_H} {s : mS} {f : Nat → Int64} {q5 q6 : Option Value} (hq5 : q5 = none) (hu : uc ≤ 1000) (hs : us ≤ 1000000) {w H : Int} {N NH NB NL : Nat} (hG : geoH w H N NH NB NL) (hA : hAt w H N NH NB NL 0 (hNew w H N 0) h) (hM : mAt 115 s h) (hn : mN w H s) (ho : h 165 = pz_j 2 1 f) (kk : ∀ (h' : pz_H) (n' : Nat) (q5 q6 : Option Value) (uc' us' : Nat), uc' ≤ uc + 10 → us' ≤ us + 100 → pl E YL_law (b, 8, xs) room_1 K uc' us' 1069 [none, some (.ref 0), some (.ref 115), some (.ref 165), some (.int (zI (2))), q5, q6] [] h' n') : pl E YL_law (b, 8, xs) room_1 K uc us 821 [none, some (.ref 0), some (.ref 115), some (.ref 165), some (.int (zI (2))), q5, q6] [] h 166 := by
  have hw := hG.1.1
  have hH := hG.1.2.1
  have hN := hG.1.2.2.1
  have hNL := hG.2.2
  have r3 := i32 (xs 3)
  have r4 := i32 (xs 4)
  have r5 := i32 (xs 5)
  have r6 := i32 (xs 6)
  have r7 := i32 (xs 7)
  subst hq5
  refine pl_aload_n dL_law_821 rfl ?_
  refine pl_sld (a0 := 0) (i := 2) (k := 1) (a1 := 823) (a2 := 825) (a3 := 826) (a4 := 827) rfl rfl rfl rfl rfl (by show (0 : Int) ≤ 2 + 1 ∧ (2 : Int) + 1 < ((8 : Nat) : Int); decide) (nlt rfl) dL_law_822 dL_law_823 dL_law_825 dL_law_826 dL_law_827 ?_
  show pl E YL_law (b, 8, xs) room_1 K uc us 828 [none, some (.ref 0), some (.ref 115), some (.ref 165), some (.int (zI (2))), none, q6] [.int (zI ((xs 3).toInt)), .ref 0] h 166
  refine pl_sld (a0 := 0) (i := 2) (k := 2) (a1 := 829) (a2 := 831) (a3 := 832) (a4 := 833) rfl rfl rfl rfl rfl (by show (0 : Int) ≤ 2 + 2 ∧ (2 : Int) + 2 < ((8 : Nat) : Int); decide) (nlt rfl) dL_law_828 dL_law_829 dL_law_831 dL_law_832 dL_law_833 ?_
  show pl E YL_law (b, 8, xs) room_1 K uc us 834 [none, some (.ref 0), some (.ref 115), some (.ref 165), some (.int (zI (2))), none, q6] [.int (zI ((xs 4).toInt)), .int (zI ((xs 3).toInt)), .ref 0] h 166
  refine pl_aload_n dL_law_834 rfl ?_
  refine pl_callSH (k := 4) (As := [.ref 0, .int (zI ((xs 3).toInt)), .int (zI ((xs 4).toInt)), .ref 165]) (rm := rmD (7 + 1) 2 12) (wF_about htr hG hA (by omega) (by omega) ho) rfl rfl whL_about ⟨by decide +kernel, by decide +kernel, by decide +kernel⟩ ⟨cwL_117.1, cwL_117.2, iniL⟩ ⟨nle rfl, nle rfl⟩ (nle rfl) ⟨by show uc + 2 ≤ 600002; omega, by show us + 12 ≤ 7302198; omega⟩ dL_law_835 ?_
  intro r_9 h_9 n_9 hq hn9
  obtain ⟨e1, hkp⟩ := hq
  rw [e1]
  show pl E YL_law (b, 8, xs) room_1 K (uc + 2) (us + 12) 838 [none, some (.ref 0), some (.ref 115), some (.ref 165), some (.int (zI (2))), none, q6] [.int (zI (if ((xs 3).toInt) = 0 then (if 0 ≤ ((xs 4).toInt) ∧ ((xs 4).toInt) ≤ 10 then 0 else 2) else 1))] h_9 n_9
  have hM9 : mAt 115 s h_9 := mAt_keep hM (fun a a1 a2 => hkp.1 a a1 (by omega))
  refine pl_istore (lv' := [none, some (.ref 0), some (.ref 115), some (.ref 165), some (.int (zI (2))), some (.int (zI (if ((xs 3).toInt) = 0 then (if 0 ≤ ((xs 4).toInt) ∧ ((xs 4).toInt) ≤ 10 then 0 else 2) else 1))), q6]) dL_law_838 (by decide) (by decide) rfl rfl ?_
  refine pl_aload_n dL_law_840 rfl ?_
  refine pl_sld (a0 := 0) (i := 2) (k := 1) (a1 := 842) (a2 := 844) (a3 := 845) (a4 := 846) rfl rfl rfl rfl rfl (by show (0 : Int) ≤ 2 + 1 ∧ (2 : Int) + 1 < ((8 : Nat) : Int); decide) (nlt rfl) dL_law_841 dL_law_842 dL_law_844 dL_law_845 dL_law_846 ?_
  show pl E YL_law (b, 8, xs) room_1 K (uc + 2) (us + 12) 847 [none, some (.ref 0), some (.ref 115), some (.ref 165), some (.int (zI (2))), some (.int (zI (if ((xs 3).toInt) = 0 then (if 0 ≤ ((xs 4).toInt) ∧ ((xs 4).toInt) ≤ 10 then 0 else 2) else 1))), q6] [.int (zI ((xs 3).toInt)), .ref 115] h_9 n_9
  refine pl_sld (a0 := 0) (i := 2) (k := 2) (a1 := 848) (a2 := 850) (a3 := 851) (a4 := 852) rfl rfl rfl rfl rfl (by show (0 : Int) ≤ 2 + 2 ∧ (2 : Int) + 2 < ((8 : Nat) : Int); decide) (nlt rfl) dL_law_847 dL_law_848 dL_law_850 dL_law_851 dL_law_852 ?_
  show pl E YL_law (b, 8, xs) room_1 K (uc + 2) (us + 12) 853 [none, some (.ref 0), some (.ref 115), some (.ref 165), some (.int (zI (2))), some (.int (zI (if ((xs 3).toInt) = 0 then (if 0 ≤ ((xs 4).toInt) ∧ ((xs 4).toInt) ≤ 10 then 0 else 2) else 1))), q6] [.int (zI ((xs 4).toInt)), .int (zI ((xs 3).toInt)), .ref 115] h_9 n_9
  refine pl_callV (As := [.int (zI ((xs 3).toInt)), .int (zI ((xs 4).toInt))]) (b := 115) (rm := rmD 1 0 0) (nF_about (w := w) (H := H) htr hM9 hw hH hn (by omega) (by omega)) rfl hM9.1 rfl rfl ywX10_about rfl cwL_120 ⟨nle rfl, nle rfl⟩ (nle rfl) ⟨by show uc + 2 ≤ 600002; omega, by show us + 12 ≤ 7302198; omega⟩ dL_law_853 ?_
  intro r_8 h_8 n_8 hq _
  obtain ⟨⟨s8, hM8, eT, hF8, e4⟩, e1⟩ := hq
  rw [e1, e4]
  show pl E YL_law (b, 8, xs) room_1 K (uc + 2) (us + 12) 856 [none, some (.ref 0), some (.ref 115), some (.ref 165), some (.int (zI (2))), some (.int (zI (if ((xs 3).toInt) = 0 then (if 0 ≤ ((xs 4).toInt) ∧ ((xs 4).toInt) ≤ 10 then 0 else 2) else 1))), q6] [.int (zI (if ((xs 3).toInt) = 0 ∧ ((xs 4).toInt) = 2 then w else if ((xs 3).toInt) = 0 ∧ ((xs 4).toInt) = 3 then H else 0))] h_8 n_9
  refine pl_istore (lv' := [none, some (.ref 0), some (.ref 115), some (.ref 165), some (.int (zI (2))), some (.int (zI (if ((xs 3).toInt) = 0 then (if 0 ≤ ((xs 4).toInt) ∧ ((xs 4).toInt) ≤ 10 then 0 else 2) else 1))), some (.int (zI (if ((xs 3).toInt) = 0 ∧ ((xs 4).toInt) = 2 then w else if ((xs 3).toInt) = 0 ∧ ((xs 4).toInt) = 3 then H else 0)))]) dL_law_856 (by decide) (by decide) rfl rfl ?_
  refine pl_aload_n dL_law_858 rfl ?_
  refine pl_callV (As := []) (b := 115) (rm := rmD 0 0 0) (nR_thrown htr hM8) rfl hM8.1 rfl rfl ywX10_thrown rfl cwL_79 ⟨nle rfl, nle rfl⟩ (nle rfl) ⟨by show uc + 2 ≤ 600002; omega, by show us + 12 ≤ 7302198; omega⟩ dL_law_859 ?_
  intro r_7 h_7 n_7 hq _
  rw [hq.1, hq.2.1, hq.2.2, eT]
  show pl E YL_law (b, 8, xs) room_1 K (uc + 2) (us + 12) 862 [none, some (.ref 0), some (.ref 115), some (.ref 165), some (.int (zI (2))), some (.int (zI (if ((xs 3).toInt) = 0 then (if 0 ≤ ((xs 4).toInt) ∧ ((xs 4).toInt) ≤ 10 then 0 else 2) else 1))), some (.int (zI (if ((xs 3).toInt) = 0 ∧ ((xs 4).toInt) = 2 then w else if ((xs 3).toInt) = 0 ∧ ((xs 4).toInt) = 3 then H else 0)))] [.int (zI (if ((xs 3).toInt) = 0 then (if 0 ≤ ((xs 4).toInt) ∧ ((xs 4).toInt) ≤ 10 then 0 else 2) else 1))] h_8 n_9
  refine pl_iload dL_law_862 rfl ?_
  refine pl_icmp_eq (tgt := 869) dL_law_864 rfl (by omega) (by omega) (fun c864 => ?_) (fun c864 => ?_)
  ·
    refine pl_iload dL_law_869 rfl ?_
    refine pl_if_ne (tgt := 886) dL_law_871 rfl (by omega) (fun c871 => ?_) (fun c871 => ?_)
    ·
      refine pl_goto (tgt := 1069) dL_law_886 rfl ?_
      exact kk h_8 n_9 _ _ (uc + 2) (us + 12) (by omega) (by omega)
    ·
      refine pl_aload_n dL_law_874 rfl ?_
      refine pl_iconst (v := zI (0)) dL_law_875 (by decide) ?_
      obtain ⟨g9, hg9, hg0⟩ := hkp.2.1 (by omega)
      have ho8 : h_8 165 = pz_j 2 1 g9 := (hF8 165 (by omega)).trans hg9
      refine pl_lald (t := 2) (f := g9) rfl ho8 (by omega) (by decide) dL_law_876 ?_
      rw [show g9 (Int.toNat 0) = zL (if ((xs 3).toInt) = 0 ∧ ((xs 4).toInt) = 2 then w else if ((xs 3).toInt) = 0 ∧ ((xs 4).toInt) = 3 then H else 0) from hg0]
      show pl E YL_law (b, 8, xs) room_1 K (uc + 2) (us + 12) 877 [none, some (.ref 0), some (.ref 115), some (.ref 165), some (.int (zI (2))), some (.int (zI (if ((xs 3).toInt) = 0 then (if 0 ≤ ((xs 4).toInt) ∧ ((xs 4).toInt) ≤ 10 then 0 else 2) else 1))), some (.int (zI (if ((xs 3).toInt) = 0 ∧ ((xs 4).toInt) = 2 then w else if ((xs 3).toInt) = 0 ∧ ((xs 4).toInt) = 3 then H else 0)))] [.long (zL (if ((xs 3).toInt) = 0 ∧ ((xs 4).toInt) = 2 then w else if ((xs 3).toInt) = 0 ∧ ((xs 4).toInt) = 3 then H else 0))] h_8 n_9
      refine pl_iload dL_law_877 rfl ?_
      refine pl_zi2l dL_law_879 (by omega) ?_
      refine pl_zlcmp dL_law_880 (by omega) (by omega) ?_
      refine pl_if_eq (tgt := 886) dL_law_881 rfl (by omega) (fun c881 => ?_) (fun c881 => ?_)
      ·
        refine pl_goto (tgt := 1069) dL_law_886 rfl ?_
        exact kk h_8 n_9 _ _ (uc + 2) (us + 12) (by omega) (by omega)
      · exfalso; omega
  · exfalso; omega
set_option maxHeartbeats 1000000 in
set_option maxRecDepth 100000 in
theorem lw_input {E : pw_E} (htr : E.1.stackTraces = false) {K : pw_K} {b uc us : Nat} {xs : Nat → Int32} {h : pz_H} {s : mS} {f : Nat → Int64} {q5 q6 : Option Value} (hq5 : q5 = none) (hu : uc ≤ 1000) (hs : us ≤ 1000000) {w H : Int} {N NH NB NL : Nat} (hG : geoH w H N NH NB NL) (hA : hAt w H N NH NB NL 0 (hNew w H N 0) h) (hM : mAt 115 s h) (hn : mN w H s) (ho : h 165 = pz_j 2 1 f) (kk : ∀ (h' : pz_H) (n' : Nat) (q5 q6 : Option Value) (uc' us' : Nat), uc' ≤ uc + 10 → us' ≤ us + 100 → pl E YL_law (b, 8, xs) room_1 K uc' us' 1069 [none, some (.ref 0), some (.ref 115), some (.ref 165), some (.int (zI (2))), q5, q6] [] h' n') : pl E YL_law (b, 8, xs) room_1 K uc us 889 [none, some (.ref 0), some (.ref 115), some (.ref 165), some (.int (zI (2))), q5, q6] [] h 166 := by
  have hw := hG.1.1
  have hH := hG.1.2.1
  have hN := hG.1.2.2.1
  have hNL := hG.2.2
  have r3 := i32 (xs 3)
  have r4 := i32 (xs 4)
  have r5 := i32 (xs 5)
  have r6 := i32 (xs 6)
  have r7 := i32 (xs 7)
  subst hq5
  refine pl_aload_n dL_law_889 rfl ?_
  refine pl_sld (a0 := 0) (i := 2) (k := 1) (a1 := 891) (a2 := 893) (a3 := 894) (a4 := 895) rfl rfl rfl rfl rfl (by show (0 : Int) ≤ 2 + 1 ∧ (2 : Int) + 1 < ((8 : Nat) : Int); decide) (nlt rfl) dL_law_890 dL_law_891 dL_law_893 dL_law_894 dL_law_895 ?_
  show pl E YL_law (b, 8, xs) room_1 K uc us 896 [none, some (.ref 0), some (.ref 115), some (.ref 165), some (.int (zI (2))), none, q6] [.int (zI ((xs 3).toInt)), .ref 0] h 166
  refine pl_sld (a0 := 0) (i := 2) (k := 2) (a1 := 897) (a2 := 899) (a3 := 900) (a4 := 901) rfl rfl rfl rfl rfl (by show (0 : Int) ≤ 2 + 2 ∧ (2 : Int) + 2 < ((8 : Nat) : Int); decide) (nlt rfl) dL_law_896 dL_law_897 dL_law_899 dL_law_900 dL_law_901 ?_
  show pl E YL_law (b, 8, xs) room_1 K uc us 902 [none, some (.ref 0), some (.ref 115), some (.ref 165), some (.int (zI (2))), none, q6] [.int (zI ((xs 4).toInt)), .int (zI ((xs 3).toInt)), .ref 0] h 166
  refine pl_aload_n dL_law_902 rfl ?_
  refine pl_callSH (k := 4) (As := [.ref 0, .int (zI ((xs 3).toInt)), .int (zI ((xs 4).toInt)), .ref 165]) (rm := rmD (7 + 1) 2 12) (wF_input htr hG hA (by omega) (by omega) ho) rfl rfl whL_input ⟨by decide +kernel, by decide +kernel, by decide +kernel⟩ ⟨cwL_121.1, cwL_121.2, iniL⟩ ⟨nle rfl, nle rfl⟩ (nle rfl) ⟨by show uc + 2 ≤ 600002; omega, by show us + 12 ≤ 7302198; omega⟩ dL_law_903 ?_
  intro r_9 h_9 n_9 hq hn9
  obtain ⟨e1, hkp⟩ := hq
  rw [e1]
  show pl E YL_law (b, 8, xs) room_1 K (uc + 2) (us + 12) 906 [none, some (.ref 0), some (.ref 115), some (.ref 165), some (.int (zI (2))), none, q6] [.int (zI (1))] h_9 n_9
  have hM9 : mAt 115 s h_9 := mAt_keep hM (fun a a1 a2 => hkp.1 a a1 (by omega))
  refine pl_istore (lv' := [none, some (.ref 0), some (.ref 115), some (.ref 165), some (.int (zI (2))), some (.int (zI (1))), q6]) dL_law_906 (by decide) (by decide) rfl rfl ?_
  refine pl_aload_n dL_law_908 rfl ?_
  refine pl_sld (a0 := 0) (i := 2) (k := 1) (a1 := 910) (a2 := 912) (a3 := 913) (a4 := 914) rfl rfl rfl rfl rfl (by show (0 : Int) ≤ 2 + 1 ∧ (2 : Int) + 1 < ((8 : Nat) : Int); decide) (nlt rfl) dL_law_909 dL_law_910 dL_law_912 dL_law_913 dL_law_914 ?_
  show pl E YL_law (b, 8, xs) room_1 K (uc + 2) (us + 12) 915 [none, some (.ref 0), some (.ref 115), some (.ref 165), some (.int (zI (2))), some (.int (zI (1))), q6] [.int (zI ((xs 3).toInt)), .ref 115] h_9 n_9
  refine pl_sld (a0 := 0) (i := 2) (k := 2) (a1 := 916) (a2 := 918) (a3 := 919) (a4 := 920) rfl rfl rfl rfl rfl (by show (0 : Int) ≤ 2 + 2 ∧ (2 : Int) + 2 < ((8 : Nat) : Int); decide) (nlt rfl) dL_law_915 dL_law_916 dL_law_918 dL_law_919 dL_law_920 ?_
  show pl E YL_law (b, 8, xs) room_1 K (uc + 2) (us + 12) 921 [none, some (.ref 0), some (.ref 115), some (.ref 165), some (.int (zI (2))), some (.int (zI (1))), q6] [.int (zI ((xs 4).toInt)), .int (zI ((xs 3).toInt)), .ref 115] h_9 n_9
  refine pl_callV (As := [.int (zI ((xs 3).toInt)), .int (zI ((xs 4).toInt))]) (b := 115) (rm := rmD 1 0 0) (nF_input (w := w) (H := H) htr hM9 hw hH hn (by omega) (by omega)) rfl hM9.1 rfl rfl ywX10_input rfl cwL_123 ⟨nle rfl, nle rfl⟩ (nle rfl) ⟨by show uc + 2 ≤ 600002; omega, by show us + 12 ≤ 7302198; omega⟩ dL_law_921 ?_
  intro r_8 h_8 n_8 hq _
  obtain ⟨⟨s8, hM8, eT, hF8, e4⟩, e1⟩ := hq
  rw [e1, e4]
  show pl E YL_law (b, 8, xs) room_1 K (uc + 2) (us + 12) 924 [none, some (.ref 0), some (.ref 115), some (.ref 165), some (.int (zI (2))), some (.int (zI (1))), q6] [.int (zI (0))] h_8 n_9
  refine pl_istore (lv' := [none, some (.ref 0), some (.ref 115), some (.ref 165), some (.int (zI (2))), some (.int (zI (1))), some (.int (zI (0)))]) dL_law_924 (by decide) (by decide) rfl rfl ?_
  refine pl_aload_n dL_law_926 rfl ?_
  refine pl_callV (As := []) (b := 115) (rm := rmD 0 0 0) (nR_thrown htr hM8) rfl hM8.1 rfl rfl ywX10_thrown rfl cwL_79 ⟨nle rfl, nle rfl⟩ (nle rfl) ⟨by show uc + 2 ≤ 600002; omega, by show us + 12 ≤ 7302198; omega⟩ dL_law_927 ?_
  intro r_7 h_7 n_7 hq _
  rw [hq.1, hq.2.1, hq.2.2, eT]
  show pl E YL_law (b, 8, xs) room_1 K (uc + 2) (us + 12) 930 [none, some (.ref 0), some (.ref 115), some (.ref 165), some (.int (zI (2))), some (.int (zI (1))), some (.int (zI (0)))] [.int (zI (1))] h_8 n_9
  refine pl_iload dL_law_930 rfl ?_
  refine pl_icmp_eq (tgt := 937) dL_law_932 rfl (by omega) (by omega) (fun c932 => ?_) (fun c932 => ?_)
  ·
    refine pl_iload dL_law_937 rfl ?_
    refine pl_if_ne (tgt := 954) dL_law_939 rfl (by omega) (fun c939 => ?_) (fun c939 => ?_)
    ·
      refine pl_goto (tgt := 1069) dL_law_954 rfl ?_
      exact kk h_8 n_9 _ _ (uc + 2) (us + 12) (by omega) (by omega)
    · exfalso; omega
  · exfalso; omega
set_option maxHeartbeats 1000000 in
set_option maxRecDepth 100000 in
theorem lw_copied {E : pw_E} (htr : E.1.stackTraces = false) {K : pw_K} {b uc us : Nat} {xs : Nat → Int32} {h : pz_H} {s : mS} {f : Nat → Int64} {q5 q6 : Option Value} (hq5 : q5 = none) (hu : uc ≤ 1000) (hs : us ≤ 1000000) {w H : Int} {N NH NB NL : Nat} (hG : geoH w H N NH NB NL) (hA : hAt w H N NH NB NL 0 (hNew w H N 0) h) (hM : mAt 115 s h) (hn : mN w H s) (ho : h 165 = pz_j 2 1 f) (kk : ∀ (h' : pz_H) (n' : Nat) (q5 q6 : Option Value) (uc' us' : Nat), uc' ≤ uc + 10 → us' ≤ us + 100 → pl E YL_law (b, 8, xs) room_1 K uc' us' 1069 [none, some (.ref 0), some (.ref 115), some (.ref 165), some (.int (zI (2))), q5, q6] [] h' n') : pl E YL_law (b, 8, xs) room_1 K uc us 957 [none, some (.ref 0), some (.ref 115), some (.ref 165), some (.int (zI (2))), q5, q6] [] h 166 := by
  have hw := hG.1.1
  have hH := hG.1.2.1
  have hN := hG.1.2.2.1
  have hNL := hG.2.2
  have r3 := i32 (xs 3)
  have r4 := i32 (xs 4)
  have r5 := i32 (xs 5)
  have r6 := i32 (xs 6)
  have r7 := i32 (xs 7)
  subst hq5
  refine pl_aload_n dL_law_957 rfl ?_
  refine pl_sld (a0 := 0) (i := 2) (k := 1) (a1 := 959) (a2 := 961) (a3 := 962) (a4 := 963) rfl rfl rfl rfl rfl (by show (0 : Int) ≤ 2 + 1 ∧ (2 : Int) + 1 < ((8 : Nat) : Int); decide) (nlt rfl) dL_law_958 dL_law_959 dL_law_961 dL_law_962 dL_law_963 ?_
  show pl E YL_law (b, 8, xs) room_1 K uc us 964 [none, some (.ref 0), some (.ref 115), some (.ref 165), some (.int (zI (2))), none, q6] [.int (zI ((xs 3).toInt)), .ref 0] h 166
  refine pl_aload_n dL_law_964 rfl ?_
  refine pl_callSH (k := 3) (As := [.ref 0, .int (zI ((xs 3).toInt)), .ref 165]) (rm := rmD (6 + 1) 1 6) (wF_copied htr hG hA (by omega) ho) rfl rfl whL_copied ⟨by decide +kernel, by decide +kernel, by decide +kernel⟩ ⟨cwL_124.1, cwL_124.2, iniL⟩ ⟨nle rfl, nle rfl⟩ (nle rfl) ⟨by show uc + 1 ≤ 600002; omega, by show us + 6 ≤ 7302198; omega⟩ dL_law_965 ?_
  intro r_9 h_9 n_9 hq hn9
  obtain ⟨e1, hkp⟩ := hq
  rw [e1]
  show pl E YL_law (b, 8, xs) room_1 K (uc + 1) (us + 6) 968 [none, some (.ref 0), some (.ref 115), some (.ref 165), some (.int (zI (2))), none, q6] [.int (zI (1))] h_9 n_9
  have hM9 : mAt 115 s h_9 := mAt_keep hM (fun a a1 a2 => hkp.1 a a1 (by omega))
  refine pl_istore (lv' := [none, some (.ref 0), some (.ref 115), some (.ref 165), some (.int (zI (2))), some (.int (zI (1))), q6]) dL_law_968 (by decide) (by decide) rfl rfl ?_
  refine pl_aload_n dL_law_970 rfl ?_
  refine pl_sld (a0 := 0) (i := 2) (k := 1) (a1 := 972) (a2 := 974) (a3 := 975) (a4 := 976) rfl rfl rfl rfl rfl (by show (0 : Int) ≤ 2 + 1 ∧ (2 : Int) + 1 < ((8 : Nat) : Int); decide) (nlt rfl) dL_law_971 dL_law_972 dL_law_974 dL_law_975 dL_law_976 ?_
  show pl E YL_law (b, 8, xs) room_1 K (uc + 1) (us + 6) 977 [none, some (.ref 0), some (.ref 115), some (.ref 165), some (.int (zI (2))), some (.int (zI (1))), q6] [.int (zI ((xs 3).toInt)), .ref 115] h_9 n_9
  refine pl_callV (As := [.int (zI ((xs 3).toInt))]) (b := 115) (rm := rmD 0 0 0) (nF_copied (w := w) (H := H) htr hM9 hw hH hn (by omega)) rfl hM9.1 rfl rfl ywX10_copied rfl cwL_126 ⟨nle rfl, nle rfl⟩ (nle rfl) ⟨by show uc + 1 ≤ 600002; omega, by show us + 6 ≤ 7302198; omega⟩ dL_law_977 ?_
  intro r_8 h_8 n_8 hq _
  obtain ⟨⟨s8, hM8, eT, hF8, e4⟩, e1⟩ := hq
  rw [e1, e4]
  show pl E YL_law (b, 8, xs) room_1 K (uc + 1) (us + 6) 980 [none, some (.ref 0), some (.ref 115), some (.ref 165), some (.int (zI (2))), some (.int (zI (1))), q6] [.int (zI (0))] h_8 n_9
  refine pl_istore (lv' := [none, some (.ref 0), some (.ref 115), some (.ref 165), some (.int (zI (2))), some (.int (zI (1))), some (.int (zI (0)))]) dL_law_980 (by decide) (by decide) rfl rfl ?_
  refine pl_aload_n dL_law_982 rfl ?_
  refine pl_callV (As := []) (b := 115) (rm := rmD 0 0 0) (nR_thrown htr hM8) rfl hM8.1 rfl rfl ywX10_thrown rfl cwL_79 ⟨nle rfl, nle rfl⟩ (nle rfl) ⟨by show uc + 1 ≤ 600002; omega, by show us + 6 ≤ 7302198; omega⟩ dL_law_983 ?_
  intro r_7 h_7 n_7 hq _
  rw [hq.1, hq.2.1, hq.2.2, eT]
  show pl E YL_law (b, 8, xs) room_1 K (uc + 1) (us + 6) 986 [none, some (.ref 0), some (.ref 115), some (.ref 165), some (.int (zI (2))), some (.int (zI (1))), some (.int (zI (0)))] [.int (zI (1))] h_8 n_9
  refine pl_iload dL_law_986 rfl ?_
  refine pl_icmp_eq (tgt := 993) dL_law_988 rfl (by omega) (by omega) (fun c988 => ?_) (fun c988 => ?_)
  ·
    refine pl_iload dL_law_993 rfl ?_
    refine pl_if_ne (tgt := 1010) dL_law_995 rfl (by omega) (fun c995 => ?_) (fun c995 => ?_)
    ·
      refine pl_goto (tgt := 1069) dL_law_1010 rfl ?_
      exact kk h_8 n_9 _ _ (uc + 1) (us + 6) (by omega) (by omega)
    · exfalso; omega
  · exfalso; omega
set_option maxHeartbeats 1000000 in
set_option maxRecDepth 100000 in
theorem lw_count {E : pw_E} (htr : E.1.stackTraces = false) {K : pw_K} {b uc us : Nat} {xs : Nat → Int32} {h : pz_H} {s : mS} {f : Nat → Int64} {q5 q6 : Option Value} (hq5 : q5 = none) (hu : uc ≤ 1000) (hs : us ≤ 1000000) {w H : Int} {N NH NB NL : Nat} (hG : geoH w H N NH NB NL) (hA : hAt w H N NH NB NL 0 (hNew w H N 0) h) (hM : mAt 115 s h) (hn : mN w H s) (ho : h 165 = pz_j 2 1 f) (kk : ∀ (h' : pz_H) (n' : Nat) (q5 q6 : Option Value) (uc' us' : Nat), uc' ≤ uc + 10 → us' ≤ us + 100 → pl E YL_law (b, 8, xs) room_1 K uc' us' 1069 [none, some (.ref 0), some (.ref 115), some (.ref 165), some (.int (zI (2))), q5, q6] [] h' n') : pl E YL_law (b, 8, xs) room_1 K uc us 1013 [none, some (.ref 0), some (.ref 115), some (.ref 165), some (.int (zI (2))), q5, q6] [] h 166 := by
  have hw := hG.1.1
  have hH := hG.1.2.1
  have hN := hG.1.2.2.1
  have hNL := hG.2.2
  have r3 := i32 (xs 3)
  have r4 := i32 (xs 4)
  have r5 := i32 (xs 5)
  have r6 := i32 (xs 6)
  have r7 := i32 (xs 7)
  subst hq5
  refine pl_aload_n dL_law_1013 rfl ?_
  refine pl_sld (a0 := 0) (i := 2) (k := 1) (a1 := 1015) (a2 := 1017) (a3 := 1018) (a4 := 1019) rfl rfl rfl rfl rfl (by show (0 : Int) ≤ 2 + 1 ∧ (2 : Int) + 1 < ((8 : Nat) : Int); decide) (nlt rfl) dL_law_1014 dL_law_1015 dL_law_1017 dL_law_1018 dL_law_1019 ?_
  show pl E YL_law (b, 8, xs) room_1 K uc us 1020 [none, some (.ref 0), some (.ref 115), some (.ref 165), some (.int (zI (2))), none, q6] [.int (zI ((xs 3).toInt)), .ref 0] h 166
  refine pl_aload_n dL_law_1020 rfl ?_
  refine pl_callSH (k := 3) (As := [.ref 0, .int (zI ((xs 3).toInt)), .ref 165]) (rm := rmD (6 + 1) 1 6) (wF_count htr hG hA (by omega) ho) rfl rfl whL_count ⟨by decide +kernel, by decide +kernel, by decide +kernel⟩ ⟨cwL_127.1, cwL_127.2, iniL⟩ ⟨nle rfl, nle rfl⟩ (nle rfl) ⟨by show uc + 1 ≤ 600002; omega, by show us + 6 ≤ 7302198; omega⟩ dL_law_1021 ?_
  intro r_9 h_9 n_9 hq hn9
  obtain ⟨e1, hkp⟩ := hq
  rw [e1]
  show pl E YL_law (b, 8, xs) room_1 K (uc + 1) (us + 6) 1024 [none, some (.ref 0), some (.ref 115), some (.ref 165), some (.int (zI (2))), none, q6] [.int (zI (if 0 ≤ ((xs 3).toInt) ∧ ((xs 3).toInt) ≤ 5 then 0 else 1))] h_9 n_9
  have hM9 : mAt 115 s h_9 := mAt_keep hM (fun a a1 a2 => hkp.1 a a1 (by omega))
  refine pl_istore (lv' := [none, some (.ref 0), some (.ref 115), some (.ref 165), some (.int (zI (2))), some (.int (zI (if 0 ≤ ((xs 3).toInt) ∧ ((xs 3).toInt) ≤ 5 then 0 else 1))), q6]) dL_law_1024 (by decide) (by decide) rfl rfl ?_
  refine pl_aload_n dL_law_1026 rfl ?_
  refine pl_sld (a0 := 0) (i := 2) (k := 1) (a1 := 1028) (a2 := 1030) (a3 := 1031) (a4 := 1032) rfl rfl rfl rfl rfl (by show (0 : Int) ≤ 2 + 1 ∧ (2 : Int) + 1 < ((8 : Nat) : Int); decide) (nlt rfl) dL_law_1027 dL_law_1028 dL_law_1030 dL_law_1031 dL_law_1032 ?_
  show pl E YL_law (b, 8, xs) room_1 K (uc + 1) (us + 6) 1033 [none, some (.ref 0), some (.ref 115), some (.ref 165), some (.int (zI (2))), some (.int (zI (if 0 ≤ ((xs 3).toInt) ∧ ((xs 3).toInt) ≤ 5 then 0 else 1))), q6] [.int (zI ((xs 3).toInt)), .ref 115] h_9 n_9
  refine pl_callV (As := [.int (zI ((xs 3).toInt))]) (b := 115) (rm := rmD 1 0 0) (nF_count (w := w) (H := H) htr hM9 hw hH hn (by omega)) rfl hM9.1 rfl rfl ywX10_count rfl cwL_129 ⟨nle rfl, nle rfl⟩ (nle rfl) ⟨by show uc + 1 ≤ 600002; omega, by show us + 6 ≤ 7302198; omega⟩ dL_law_1033 ?_
  intro r_8 h_8 n_8 hq _
  obtain ⟨⟨s8, hM8, eT, hF8, e4⟩, e1⟩ := hq
  rw [e1, e4]
  show pl E YL_law (b, 8, xs) room_1 K (uc + 1) (us + 6) 1036 [none, some (.ref 0), some (.ref 115), some (.ref 165), some (.int (zI (2))), some (.int (zI (if 0 ≤ ((xs 3).toInt) ∧ ((xs 3).toInt) ≤ 5 then 0 else 1))), q6] [.int (zI (if ((xs 3).toInt) = 0 ∨ ((xs 3).toInt) = 4 then 1 else 0))] h_8 n_9
  refine pl_istore (lv' := [none, some (.ref 0), some (.ref 115), some (.ref 165), some (.int (zI (2))), some (.int (zI (if 0 ≤ ((xs 3).toInt) ∧ ((xs 3).toInt) ≤ 5 then 0 else 1))), some (.int (zI (if ((xs 3).toInt) = 0 ∨ ((xs 3).toInt) = 4 then 1 else 0)))]) dL_law_1036 (by decide) (by decide) rfl rfl ?_
  refine pl_aload_n dL_law_1038 rfl ?_
  refine pl_callV (As := []) (b := 115) (rm := rmD 0 0 0) (nR_thrown htr hM8) rfl hM8.1 rfl rfl ywX10_thrown rfl cwL_79 ⟨nle rfl, nle rfl⟩ (nle rfl) ⟨by show uc + 1 ≤ 600002; omega, by show us + 6 ≤ 7302198; omega⟩ dL_law_1039 ?_
  intro r_7 h_7 n_7 hq _
  rw [hq.1, hq.2.1, hq.2.2, eT]
  show pl E YL_law (b, 8, xs) room_1 K (uc + 1) (us + 6) 1042 [none, some (.ref 0), some (.ref 115), some (.ref 165), some (.int (zI (2))), some (.int (zI (if 0 ≤ ((xs 3).toInt) ∧ ((xs 3).toInt) ≤ 5 then 0 else 1))), some (.int (zI (if ((xs 3).toInt) = 0 ∨ ((xs 3).toInt) = 4 then 1 else 0)))] [.int (zI (if 0 ≤ ((xs 3).toInt) ∧ ((xs 3).toInt) ≤ 5 then 0 else 1))] h_8 n_9
  refine pl_iload dL_law_1042 rfl ?_
  refine pl_icmp_eq (tgt := 1049) dL_law_1044 rfl (by omega) (by omega) (fun c1044 => ?_) (fun c1044 => ?_)
  ·
    refine pl_iload dL_law_1049 rfl ?_
    refine pl_if_ne (tgt := 1066) dL_law_1051 rfl (by omega) (fun c1051 => ?_) (fun c1051 => ?_)
    ·
      refine pl_goto (tgt := 1069) dL_law_1066 rfl ?_
      exact kk h_8 n_9 _ _ (uc + 1) (us + 6) (by omega) (by omega)
    ·
      refine pl_aload_n dL_law_1054 rfl ?_
      refine pl_iconst (v := zI (0)) dL_law_1055 (by decide) ?_
      obtain ⟨g9, hg9, hg0⟩ := hkp.2.1 (by omega)
      have ho8 : h_8 165 = pz_j 2 1 g9 := (hF8 165 (by omega)).trans hg9
      refine pl_lald (t := 2) (f := g9) rfl ho8 (by omega) (by decide) dL_law_1056 ?_
      rw [show g9 (Int.toNat 0) = zL (if ((xs 3).toInt) = 0 ∨ ((xs 3).toInt) = 4 then 1 else 0) from hg0]
      show pl E YL_law (b, 8, xs) room_1 K (uc + 1) (us + 6) 1057 [none, some (.ref 0), some (.ref 115), some (.ref 165), some (.int (zI (2))), some (.int (zI (if 0 ≤ ((xs 3).toInt) ∧ ((xs 3).toInt) ≤ 5 then 0 else 1))), some (.int (zI (if ((xs 3).toInt) = 0 ∨ ((xs 3).toInt) = 4 then 1 else 0)))] [.long (zL (if ((xs 3).toInt) = 0 ∨ ((xs 3).toInt) = 4 then 1 else 0))] h_8 n_9
      refine pl_iload dL_law_1057 rfl ?_
      refine pl_zi2l dL_law_1059 (by omega) ?_
      refine pl_zlcmp dL_law_1060 (by omega) (by omega) ?_
      refine pl_if_eq (tgt := 1066) dL_law_1061 rfl (by omega) (fun c1061 => ?_) (fun c1061 => ?_)
      ·
        refine pl_goto (tgt := 1069) dL_law_1066 rfl ?_
        exact kk h_8 n_9 _ _ (uc + 1) (us + 6) (by omega) (by omega)
      · exfalso; omega
  · exfalso; omega
