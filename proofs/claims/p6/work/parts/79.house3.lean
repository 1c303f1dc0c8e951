def YX9_about : pw_Y := (RX9, "about", cX9_about, 5, (some .int))
theorem ywX9_about : pw_y yX9_about YX9_about 2 := ⟨by decide +kernel, by decide +kernel, by decide +kernel, pw_in 1269 (by decide +kernel) (by decide +kernel), pw_in 79 (by decide +kernel) (by decide +kernel)⟩
theorem lkX9_199 : Cond.fieldLinkNest RX9 199 (TX7 7).1 (TX7 7).2.1 (TX7 7).2.2.1 "PaneHouse" ∈ pw_N := by decide +kernel
theorem lkX9_202 : Cond.fieldLinkNest RX9 202 (TX7 2).1 (TX7 2).2.1 (TX7 2).2.2.1 "PaneHouse" ∈ pw_N := by decide +kernel
theorem lkX9_206 : Cond.fieldLinkNest RX9 206 (TX1 4).1 (TX1 4).2.1 (TX1 4).2.2.1 "PaneHouse" ∈ pw_N := by decide +kernel
theorem lkX9_209 : Cond.fieldLinkNest RX9 209 (TX7 8).1 (TX7 8).2.1 (TX7 8).2.2.1 "PaneHouse" ∈ pw_N := by decide +kernel
theorem lkX9_212 : Cond.fieldLinkNest RX9 212 (TX4 3).1 (TX4 3).2.1 (TX4 3).2.2.1 "PaneHouse" ∈ pw_N := by decide +kernel
theorem lkX9_219 : Cond.fieldLinkNest RX9 219 (TX8 1).1 (TX8 1).2.1 (TX8 1).2.2.1 "PaneHouse" ∈ pw_N := by decide +kernel
def YX9_count : pw_Y := (RX9, "count", cX9_count, 2, (some .int))
theorem ywX9_count : pw_y yX9_count YX9_count 1 := ⟨by decide +kernel, by decide +kernel, by decide +kernel, pw_in 1303 (by decide +kernel) (by decide +kernel), pw_in 79 (by decide +kernel) (by decide +kernel)⟩
theorem cwX9_237 : Cond.methodLink RX9 237 yX2_panes ∈ pw_G ∧ Cond.instanceMethod yX2_panes ∈ pw_G ∧ Cond.selects RX2 yX2_panes yX2_panes ∈ pw_G := ⟨pw_in 1304 (by decide +kernel) (by decide +kernel), pw_in 1305 (by decide +kernel) (by decide +kernel), pw_in 1306 (by decide +kernel) (by decide +kernel)⟩
theorem cwX9_155 : Cond.methodLink RX9 155 yX9_cursorColumn ∈ pw_G ∧ Cond.instanceMethod yX9_cursorColumn ∈ pw_G ∧ Cond.selects RX9 yX9_cursorColumn yX9_cursorColumn ∈ pw_G := ⟨pw_in 897 (by decide +kernel) (by decide +kernel), pw_in 899 (by decide +kernel) (by decide +kernel), pw_in 9 (by decide +kernel) (by decide +kernel)⟩
theorem cwX9_158 : Cond.methodLink RX9 158 yX9_cursorRow ∈ pw_G ∧ Cond.instanceMethod yX9_cursorRow ∈ pw_G ∧ Cond.selects RX9 yX9_cursorRow yX9_cursorRow ∈ pw_G := ⟨pw_in 901 (by decide +kernel) (by decide +kernel), pw_in 903 (by decide +kernel) (by decide +kernel), pw_in 10 (by decide +kernel) (by decide +kernel)⟩
theorem cwX9_161 : Cond.methodLink RX9 161 yX4_seesCursor ∈ pw_G ∧ Cond.instanceMethod yX4_seesCursor ∈ pw_G ∧ Cond.selects RX4 yX4_seesCursor yX4_seesCursor ∈ pw_G := ⟨pw_in 905 (by decide +kernel) (by decide +kernel), pw_in 906 (by decide +kernel) (by decide +kernel), pw_in 907 (by decide +kernel) (by decide +kernel)⟩
/-- about(p, what) -/
def hAb (s : hS) (p k : Int) : Int := if k = 0 then (hP s ((hLv s p.toNat).getD 0)).1 0 else if k = 1 then (hP s ((hLv s p.toNat).getD 0)).1 1 else if k = 2 then (hX s p.toNat).1.1.1 3 else if k = 3 then (hX s p.toNat).1.1.1 4 else if k = 4 then (hX s p.toNat).1.1.1 5 else if k = 5 then (hX s p.toNat).1.1.1 6 else if k = 6 then (hX s p.toNat).1.1.1 7 else if k = 7 then (hX s p.toNat).1.1.2.2.2.1 4 else if k = 8 then (hX s p.toNat).1.1.1 8 else if k = 9 then (hX s p.toNat).2.1.1 else (hX s p.toNat).2.2.2
/-- the cursor on the screen -/
def hCc (s : hS) : Int := (hP s ((hLv s (hFoc s).toNat).getD 0)).1 0 + (hX s (hFoc s).toNat).1.1.1 5
def hCr (s : hS) : Int := (hP s ((hLv s (hFoc s).toNat).getD 0)).1 1 + (hX s (hFoc s).toNat).1.1.1 6
def hSee (s : hS) : Int := if ¬ (hX s (hFoc s).toNat).1.1.1 16 = 0 ∧ (hX s (hFoc s).toNat).2.1.1 = 0 then 1 else 0
def hCt (s : hS) (k : Int) : Int := if k = 0 then lyCount (hLv s) 8 0 else if k = 1 then hFoc s else if k = 2 then hCc s else if k = 3 then hCr s else if k = 4 then hSee s else (hClp s).2
set_option maxHeartbeats 4000000 in
set_option maxRecDepth 100000 in
/-- about(p, k) -/
theorem mX9_about {E : pw_E} (htr : E.1.stackTraces = false) {h : pz_H} {n : Nat} {w H M : Int} {N NH NB NL B : Nat} {s : hS} (hG : geoH w H N NH NB NL) (hA : hAt w H N NH NB NL B s h) (hg : hGd w H M NB s) (hM : 0 ≤ M ∧ M ≤ 900000000) {p k : Int} (h_p : -2147483648 ≤ p ∧ p < 2147483648) (h_k : -2147483648 ≤ k ∧ k < 2147483648)  : pw_M E yX9_about YX9_about (rmD 7 2 12) [.ref B, .int (zI (p)), .int (zI (k))] h n (fun r h' n' => lyHas (hLv s) p = 1 ∧ (0 ≤ k ∧ k ≤ 10) ∧ r = some (.int (zI (hAb s p k))) ∧ h' = h ∧ n' = n) (fun C h' n' => (C = "java/lang/IndexOutOfBoundsException" ∧ lyHas (hLv s) p = 0 ∧ h' = h ∧ n' = n) ∨ (C = "java/lang/IllegalArgumentException" ∧ (lyHas (hLv s) p = 1 ∧ ¬ (0 ≤ k ∧ k ≤ 10)) ∧ h' = h ∧ n' = n)) := by
  have hG0 := hG
  have hg0 := hg
  obtain ⟨gG, gNB, gNL⟩ := hG
  have gG0 := gG
  obtain ⟨gw, gH, gN, gN2, gNH⟩ := gG
  obtain ⟨gP, gL, gY, gF, gFl, gPr, gC, gO, gPi, gLi⟩ := hg
  obtain ⟨gO3, gO4, gO5, gO6, gO7, gOc⟩ := gO
  refine pw_M_of (lv := [some (.ref B), some (.int (zI (p))), some (.int (zI (k))), none, none]) (by decide) rfl rfl htr (nle rfl) rfl (fun L => ?_)
  refine pw_aload_n dX9_about_0 rfl ?_
  refine pw_iload_n dX9_about_1 rfl ?_
  refine pw_callV (As := [.int (zI (p))]) (b := B) (rm := rmD 6 1 6) (mX9_checkPane htr hA (by omega)) rfl hA.1 rfl rfl ywX9_checkPane rfl cwX9_59 ⟨nle rfl, nle rfl⟩ (nle rfl) ⟨nle rfl, nle rfl⟩ dX9_about_2 ?_ (fun _ _ _ z => Or.inl z)
  intro r2 h2 n2 hq _
  obtain ⟨hpx, e1, e2, e3⟩ := hq
  rw [e1, e2, e3]
  show pw E YX9_about _ _ (0 + 1) (0 + 6) 5 [some (.ref B), some (.int (zI (p))), some (.int (zI (k))), none, none] [] h n
  clear e1 e2 e3
  obtain ⟨hp8, hpl⟩ := lyHas_y hpx
  obtain ⟨p3, p4, p5, p6, p9, p10, pcl, pT, pR, pcm, pof, pto⟩ := gP p.toNat (by omega)
  have pg := gL p.toNat (by omega) (hpl)
  obtain ⟨⟨⟨q3, q4, q5, q6, q7, q8, q9, q10, q11, q12, q14, q15, q16, q17, qT3, qT4⟩, qcl⟩, qR⟩ := pg
  refine pw_aload_n dX9_about_5 rfl ?_
  refine pw_get (v := .ref (B + 107)) okX9 (k := 3) (by decide) lkX9_36 hA.1 rfl dX9_about_6 ?_
  refine pw_getN (v := .ref (B + 108)) okX2 (k := 0) (by decide) lkX9_182 hA.2.2.2.2.1 rfl dX9_about_9 ?_
  refine pw_iload_n dX9_about_12 rfl ?_
  refine pw_aaldO (t := 4) rfl hA.2.2.2.2.2.1 (by omega) (by decide) dX9_about_13 ?_
  refine pw_astore_nO (lv' := [some (.ref B), some (.int (zI (p))), some (.int (zI (k))), some (rv (hLv s (p).toNat)), none]) dX9_about_14 (by decide) rfl rfl ?_
  refine pw_aload_n dX9_about_15 rfl ?_
  refine pw_get (v := .ref (B + 1)) okX9 (k := 2) (by decide) lkX9_11 hA.1 rfl dX9_about_16 ?_
  refine pw_iload_n dX9_about_19 rfl ?_
  refine pw_aaldO (t := 3) rfl hA.2.1 (by omega) (by decide) dX9_about_20 ?_
  refine pw_some (hPv_s (by omega)) ?_
  refine pw_getN (v := .ref (B + 3 + 13 * p.toNat + 3)) okX4 (k := 0) (by decide) lkX9_129 (hA_pn hA (by omega)).2.1 rfl dX9_about_21 ?_
  refine pw_astore (lv' := [some (.ref B), some (.int (zI (p))), some (.int (zI (k))), some (rv (hLv s (p).toNat)), some (.ref (B + 3 + 13 * p.toNat + 3))]) dX9_about_24 (by decide) (rv_c1 rfl) rfl ?_
  refine pw_iload_n dX9_about_26 rfl ?_
  by_cases k27_0 : k = 0
  ·
    refine pw_tableIn (off := 57) (tgt := 84) dX9_about_27 (by omega) (by omega) (by omega) (by rw [k27_0]; rfl) rfl ?_
    refine pw_aload_nO dX9_about_84 rfl ?_
    refine pw_ifnonnullO (tgt := 92) dX9_about_85 rfl (fun c85 => ?_) (fun c85 => ?_)
    ·
      obtain ⟨q85, hq85⟩ := Option.ne_none_iff_exists'.mp c85
      refine pw_aload_nO dX9_about_92 rfl ?_
      refine pw_some (hq85) ?_
      refine pw_getN (v := .int (zI ((hP s q85).1 0))) okX5 (k := 0) (by decide) lkX9_186 (hA.2.2.2.2.2.2.2.2.2.1 _ (gY.2.1 _ _ hq85)) rfl dX9_about_93 ?_
      refine pw_goto (tgt := 226) dX9_about_96 rfl ?_
      exact pw_iret dX9_about_226 rfl (nle rfl) (nle rfl) ⟨hpx, by omega, by unfold hAb; rw [if_pos (by omega)]; rw [hq85]; rfl, rfl, rfl⟩
    · exact absurd (by assumption) hpl
  by_cases k27_1 : k = 1
  ·
    refine pw_tableIn (off := 72) (tgt := 99) dX9_about_27 (by omega) (by omega) (by omega) (by rw [k27_1]; rfl) rfl ?_
    refine pw_aload_nO dX9_about_99 rfl ?_
    refine pw_ifnonnullO (tgt := 107) dX9_about_100 rfl (fun c100 => ?_) (fun c100 => ?_)
    ·
      obtain ⟨q100, hq100⟩ := Option.ne_none_iff_exists'.mp c100
      refine pw_aload_nO dX9_about_107 rfl ?_
      refine pw_some (hq100) ?_
      refine pw_getN (v := .int (zI ((hP s q100).1 1))) okX5 (k := 1) (by decide) lkX9_191 (hA.2.2.2.2.2.2.2.2.2.1 _ (gY.2.1 _ _ hq100)) rfl dX9_about_108 ?_
      refine pw_goto (tgt := 226) dX9_about_111 rfl ?_
      exact pw_iret dX9_about_226 rfl (nle rfl) (nle rfl) ⟨hpx, by omega, by unfold hAb; rw [if_neg (by omega)]; rw [if_pos (by omega)]; rw [hq100]; rfl, rfl, rfl⟩
    · exact absurd (by assumption) hpl
  by_cases k27_2 : k = 2
  ·
    refine pw_tableIn (off := 87) (tgt := 114) dX9_about_27 (by omega) (by omega) (by omega) (by rw [k27_2]; rfl) rfl ?_
    refine pw_aload dX9_about_114 rfl ?_
    refine pw_getN (v := .int (zI ((hX s p.toNat).1.1.1 3))) okX7 (k := 3) (by decide) lkX9_133 (hA_pn hA (by omega)).1.1.1.1 rfl dX9_about_116 ?_
    refine pw_goto (tgt := 226) dX9_about_119 rfl ?_
    exact pw_iret dX9_about_226 rfl (nle rfl) (nle rfl) ⟨hpx, by omega, by unfold hAb; rw [if_neg (by omega)]; rw [if_neg (by omega)]; rw [if_pos (by omega)], rfl, rfl⟩
  by_cases k27_3 : k = 3
  ·
    refine pw_tableIn (off := 95) (tgt := 122) dX9_about_27 (by omega) (by omega) (by omega) (by rw [k27_3]; rfl) rfl ?_
    refine pw_aload dX9_about_122 rfl ?_
    refine pw_getN (v := .int (zI ((hX s p.toNat).1.1.1 4))) okX7 (k := 4) (by decide) lkX9_194 (hA_pn hA (by omega)).1.1.1.1 rfl dX9_about_124 ?_
    refine pw_goto (tgt := 226) dX9_about_127 rfl ?_
    exact pw_iret dX9_about_226 rfl (nle rfl) (nle rfl) ⟨hpx, by omega, by unfold hAb; rw [if_neg (by omega)]; rw [if_neg (by omega)]; rw [if_neg (by omega)]; rw [if_pos (by omega)], rfl, rfl⟩
  by_cases k27_4 : k = 4
  ·
    refine pw_tableIn (off := 103) (tgt := 130) dX9_about_27 (by omega) (by omega) (by omega) (by rw [k27_4]; rfl) rfl ?_
    refine pw_aload dX9_about_130 rfl ?_
    refine pw_getN (v := .int (zI ((hX s p.toNat).1.1.1 5))) okX7 (k := 5) (by decide) lkX9_197 (hA_pn hA (by omega)).1.1.1.1 rfl dX9_about_132 ?_
    refine pw_goto (tgt := 226) dX9_about_135 rfl ?_
    exact pw_iret dX9_about_226 rfl (nle rfl) (nle rfl) ⟨hpx, by omega, by unfold hAb; rw [if_neg (by omega)]; rw [if_neg (by omega)]; rw [if_neg (by omega)]; rw [if_neg (by omega)]; rw [if_pos (by omega)], rfl, rfl⟩
  by_cases k27_5 : k = 5
  ·
    refine pw_tableIn (off := 111) (tgt := 138) dX9_about_27 (by omega) (by omega) (by omega) (by rw [k27_5]; rfl) rfl ?_
    refine pw_aload dX9_about_138 rfl ?_
    refine pw_getN (v := .int (zI ((hX s p.toNat).1.1.1 6))) okX7 (k := 6) (by decide) lkX9_198 (hA_pn hA (by omega)).1.1.1.1 rfl dX9_about_140 ?_
    refine pw_goto (tgt := 226) dX9_about_143 rfl ?_
    exact pw_iret dX9_about_226 rfl (nle rfl) (nle rfl) ⟨hpx, by omega, by unfold hAb; rw [if_neg (by omega)]; rw [if_neg (by omega)]; rw [if_neg (by omega)]; rw [if_neg (by omega)]; rw [if_neg (by omega)]; rw [if_pos (by omega)], rfl, rfl⟩
  by_cases k27_6 : k = 6
  ·
    refine pw_tableIn (off := 119) (tgt := 146) dX9_about_27 (by omega) (by omega) (by omega) (by rw [k27_6]; rfl) rfl ?_
    refine pw_aload dX9_about_146 rfl ?_
    refine pw_getN (v := .int (zI ((hX s p.toNat).1.1.1 7))) okX7 (k := 7) (by decide) lkX9_199 (hA_pn hA (by omega)).1.1.1.1 rfl dX9_about_148 ?_
    refine pw_if_eq (tgt := 158) dX9_about_151 rfl (by omega) (fun c151 => ?_) (fun c151 => ?_)
    ·
      refine pw_iconst (v := zI (0)) dX9_about_158 (by decide) ?_
      refine pw_goto (tgt := 226) dX9_about_159 rfl ?_
      exact pw_iret dX9_about_226 rfl (nle rfl) (nle rfl) ⟨hpx, by omega, by unfold hAb; rw [if_neg (by omega)]; rw [if_neg (by omega)]; rw [if_neg (by omega)]; rw [if_neg (by omega)]; rw [if_neg (by omega)]; rw [if_neg (by omega)]; rw [if_pos (by omega)]; first | rw [show (hX s p.toNat).1.1.1 7 = 1 by omega] | rw [show (hX s p.toNat).1.1.1 7 = 0 by omega], rfl, rfl⟩
    ·
      refine pw_iconst (v := zI (1)) dX9_about_154 (by decide) ?_
      refine pw_goto (tgt := 226) dX9_about_155 rfl ?_
      exact pw_iret dX9_about_226 rfl (nle rfl) (nle rfl) ⟨hpx, by omega, by unfold hAb; rw [if_neg (by omega)]; rw [if_neg (by omega)]; rw [if_neg (by omega)]; rw [if_neg (by omega)]; rw [if_neg (by omega)]; rw [if_neg (by omega)]; rw [if_pos (by omega)]; first | rw [show (hX s p.toNat).1.1.1 7 = 1 by omega] | rw [show (hX s p.toNat).1.1.1 7 = 0 by omega], rfl, rfl⟩
  by_cases k27_7 : k = 7
  ·
    refine pw_tableIn (off := 135) (tgt := 162) dX9_about_27 (by omega) (by omega) (by omega) (by rw [k27_7]; rfl) rfl ?_
    refine pw_aload dX9_about_162 rfl ?_
    refine pw_getN (v := .ref (B + 3 + 13 * p.toNat + 8)) okX7 (k := 2) (by decide) lkX9_202 (hA_pn hA (by omega)).1.1.1.1 rfl dX9_about_164 ?_
    refine pw_getN (v := .int (zI ((hX s p.toNat).1.1.2.2.2.1 4))) okX1 (k := 4) (by decide) lkX9_206 (hA_pn hA (by omega)).1.1.1.2.2.2.1 rfl dX9_about_167 ?_
    refine pw_goto (tgt := 226) dX9_about_170 rfl ?_
    exact pw_iret dX9_about_226 rfl (nle rfl) (nle rfl) ⟨hpx, by omega, by unfold hAb; rw [if_neg (by omega)]; rw [if_neg (by omega)]; rw [if_neg (by omega)]; rw [if_neg (by omega)]; rw [if_neg (by omega)]; rw [if_neg (by omega)]; rw [if_neg (by omega)]; rw [if_pos (by omega)], rfl, rfl⟩
  by_cases k27_8 : k = 8
  ·
    refine pw_tableIn (off := 146) (tgt := 173) dX9_about_27 (by omega) (by omega) (by omega) (by rw [k27_8]; rfl) rfl ?_
    refine pw_aload dX9_about_173 rfl ?_
    refine pw_getN (v := .int (zI ((hX s p.toNat).1.1.1 8))) okX7 (k := 8) (by decide) lkX9_209 (hA_pn hA (by omega)).1.1.1.1 rfl dX9_about_175 ?_
    refine pw_goto (tgt := 226) dX9_about_178 rfl ?_
    exact pw_iret dX9_about_226 rfl (nle rfl) (nle rfl) ⟨hpx, by omega, by unfold hAb; rw [if_neg (by omega)]; rw [if_neg (by omega)]; rw [if_neg (by omega)]; rw [if_neg (by omega)]; rw [if_neg (by omega)]; rw [if_neg (by omega)]; rw [if_neg (by omega)]; rw [if_neg (by omega)]; rw [if_pos (by omega)], rfl, rfl⟩
  by_cases k27_9 : k = 9
  ·
    refine pw_tableIn (off := 154) (tgt := 181) dX9_about_27 (by omega) (by omega) (by omega) (by rw [k27_9]; rfl) rfl ?_
    refine pw_aload_n dX9_about_181 rfl ?_
    refine pw_get (v := .ref (B + 1)) okX9 (k := 2) (by decide) lkX9_11 hA.1 rfl dX9_about_182 ?_
    refine pw_iload_n dX9_about_185 rfl ?_
    refine pw_aaldO (t := 3) rfl hA.2.1 (by omega) (by decide) dX9_about_186 ?_
    refine pw_some (hPv_s (by omega)) ?_
    refine pw_getN (v := .int (zI ((hX s p.toNat).2.1.1))) okX4 (k := 3) (by decide) lkX9_212 (hA_pn hA (by omega)).2.1 rfl dX9_about_187 ?_
    refine pw_if_eq (tgt := 197) dX9_about_190 rfl (by omega) (fun c190 => ?_) (fun c190 => ?_)
    ·
      refine pw_iconst (v := zI (0)) dX9_about_197 (by decide) ?_
      refine pw_goto (tgt := 226) dX9_about_198 rfl ?_
      exact pw_iret dX9_about_226 rfl (nle rfl) (nle rfl) ⟨hpx, by omega, by unfold hAb; rw [if_neg (by omega)]; rw [if_neg (by omega)]; rw [if_neg (by omega)]; rw [if_neg (by omega)]; rw [if_neg (by omega)]; rw [if_neg (by omega)]; rw [if_neg (by omega)]; rw [if_neg (by omega)]; rw [if_neg (by omega)]; rw [if_pos (by omega)]; first | rw [show (hX s p.toNat).2.1.1 = 1 by omega] | rw [show (hX s p.toNat).2.1.1 = 0 by omega], rfl, rfl⟩
    ·
      refine pw_iconst (v := zI (1)) dX9_about_193 (by decide) ?_
      refine pw_goto (tgt := 226) dX9_about_194 rfl ?_
      exact pw_iret dX9_about_226 rfl (nle rfl) (nle rfl) ⟨hpx, by omega, by unfold hAb; rw [if_neg (by omega)]; rw [if_neg (by omega)]; rw [if_neg (by omega)]; rw [if_neg (by omega)]; rw [if_neg (by omega)]; rw [if_neg (by omega)]; rw [if_neg (by omega)]; rw [if_neg (by omega)]; rw [if_neg (by omega)]; rw [if_pos (by omega)]; first | rw [show (hX s p.toNat).2.1.1 = 1 by omega] | rw [show (hX s p.toNat).2.1.1 = 0 by omega], rfl, rfl⟩
  by_cases k27_10 : k = 10
  ·
    refine pw_tableIn (off := 174) (tgt := 201) dX9_about_27 (by omega) (by omega) (by omega) (by rw [k27_10]; rfl) rfl ?_
    refine pw_aload_n dX9_about_201 rfl ?_
    refine pw_get (v := .ref (B + 1)) okX9 (k := 2) (by decide) lkX9_11 hA.1 rfl dX9_about_202 ?_
    refine pw_iload_n dX9_about_205 rfl ?_
    refine pw_aaldO (t := 3) rfl hA.2.1 (by omega) (by decide) dX9_about_206 ?_
    refine pw_some (hPv_s (by omega)) ?_
    refine pw_getN (v := .ref (B + 3 + 13 * p.toNat + 1)) okX4 (k := 2) (by decide) lkX9_215 (hA_pn hA (by omega)).2.1 rfl dX9_about_207 ?_
    refine pw_getN (v := .int (zI ((hX s p.toNat).2.2.2))) okX8 (k := 1) (by decide) lkX9_219 (hA_pn hA (by omega)).2.2.1 rfl dX9_about_210 ?_
    refine pw_goto (tgt := 226) dX9_about_213 rfl ?_
    exact pw_iret dX9_about_226 rfl (nle rfl) (nle rfl) ⟨hpx, by omega, by unfold hAb; rw [if_neg (by omega)]; rw [if_neg (by omega)]; rw [if_neg (by omega)]; rw [if_neg (by omega)]; rw [if_neg (by omega)]; rw [if_neg (by omega)]; rw [if_neg (by omega)]; rw [if_neg (by omega)]; rw [if_neg (by omega)]; rw [if_neg (by omega)], rfl, rfl⟩
  by_cases kd : 10 < k
  ·
    refine pw_tableOut (tgt := 216) dX9_about_27 (by omega) (by omega) rfl ?_
    exact pw_throw (text := "what is not 0 .. 10") (by decide +kernel) tk_IA.1 tk_IA.2 (by decide +kernel) th_IA ⟨nle rfl, nle rfl⟩ ⟨nle rfl, nle rfl⟩ dX9_about_216 dX9_about_219 dX9_about_220 dX9_about_222 dX9_about_225 (Or.inr ⟨rfl, ⟨hpx, by omega⟩, rfl, rfl⟩)
  refine pw_tableOut (tgt := 216) dX9_about_27 (by omega) (by omega) rfl ?_
  exact pw_throw (text := "what is not 0 .. 10") (by decide +kernel) tk_IA.1 tk_IA.2 (by decide +kernel) th_IA ⟨nle rfl, nle rfl⟩ ⟨nle rfl, nle rfl⟩ dX9_about_216 dX9_about_219 dX9_about_220 dX9_about_222 dX9_about_225 (Or.inr ⟨rfl, ⟨hpx, by omega⟩, rfl, rfl⟩)
set_option maxHeartbeats 4000000 in
set_option maxRecDepth 100000 in
/-- count(k) -/
theorem mX9_count {E : pw_E} (htr : E.1.stackTraces = false) {h : pz_H} {n : Nat} {w H M : Int} {N NH NB NL B : Nat} {s : hS} (hG : geoH w H N NH NB NL) (hA : hAt w H N NH NB NL B s h) (hg : hGd w H M NB s) (hM : 0 ≤ M ∧ M ≤ 900000000) {k : Int} (h_k : -2147483648 ≤ k ∧ k < 2147483648)  : pw_M E yX9_count YX9_count (rmD 6 1 6) [.ref B, .int (zI (k))] h n (fun r h' n' => (0 ≤ k ∧ k ≤ 5) ∧ r = some (.int (zI (hCt s k))) ∧ h' = h ∧ n' = n) (fun C h' n' => C = "java/lang/IllegalArgumentException" ∧ ¬ (0 ≤ k ∧ k ≤ 5) ∧ h' = h ∧ n' = n) := by
  have hG0 := hG
  have hg0 := hg
  obtain ⟨gG, gNB, gNL⟩ := hG
  have gG0 := gG
  obtain ⟨gw, gH, gN, gN2, gNH⟩ := gG
  obtain ⟨gP, gL, gY, gF, gFl, gPr, gC, gO, gPi, gLi⟩ := hg
  obtain ⟨gO3, gO4, gO5, gO6, gO7, gOc⟩ := gO
  obtain ⟨p3, p4, p5, p6, p9, p10, pcl, pT, pR, pcm, pof, pto⟩ := gP (hFoc s).toNat (by omega)
  have pg := gL (hFoc s).toNat (by omega) gFl
  have hsee : 0 ≤ hSee s ∧ hSee s ≤ 1 := by unfold hSee; split <;> omega
  obtain ⟨le, hle⟩ := Option.ne_none_iff_exists'.mp gFl
  refine pw_M_of (lv := [some (.ref B), some (.int (zI (k)))]) (by decide) rfl rfl htr (nle rfl) rfl (fun L => ?_)
  refine pw_iload_n dX9_count_0 rfl ?_
  by_cases k1_0 : k = 0
  ·
    refine pw_tableIn (off := 39) (tgt := 40) dX9_count_1 (by omega) (by omega) (by omega) (by rw [k1_0]; rfl) rfl ?_
    refine pw_aload_n dX9_count_40 rfl ?_
    refine pw_get (v := .ref (B + 107)) okX9 (k := 3) (by decide) lkX9_36 hA.1 rfl dX9_count_41 ?_
    refine pw_callV (As := []) (b := (B + 107)) (rm := rmD 1 0 0) (mX2_panes htr hA.2.2.2.2.1 hA.2.2.2.2.2.1) rfl hA.2.2.2.2.1 rfl rfl ywX2_panes rfl cwX9_237 ⟨nle rfl, nle rfl⟩ (nle rfl) ⟨nle rfl, nle rfl⟩ dX9_count_44 ?_ (fun _ _ _ z => z.elim)
    intro r_9 h_9 n_9 hq _
    rw [hq.1, hq.2.1, hq.2.2]
    show pw E YX9_count _ _ 0 0 47 [some (.ref B), some (.int (zI (k)))] [.int (zI (lyCount (hLv s) 8 0))] h n
    refine pw_goto (tgt := 111) dX9_count_47 rfl ?_
    exact pw_iret dX9_count_111 rfl (nle rfl) (nle rfl) ⟨by omega, by unfold hCt; rw [if_pos (by omega)], rfl, rfl⟩
  by_cases k1_1 : k = 1
  ·
    refine pw_tableIn (off := 49) (tgt := 50) dX9_count_1 (by omega) (by omega) (by omega) (by rw [k1_1]; rfl) rfl ?_
    refine pw_aload_n dX9_count_50 rfl ?_
    refine pw_get (v := .int (zI (hFoc s))) okX9 (k := 9) (by decide) lkX9_88 hA.1 rfl dX9_count_51 ?_
    refine pw_goto (tgt := 111) dX9_count_54 rfl ?_
    exact pw_iret dX9_count_111 rfl (nle rfl) (nle rfl) ⟨by omega, by unfold hCt; rw [if_neg (by omega)]; rw [if_pos (by omega)], rfl, rfl⟩
  by_cases k1_2 : k = 2
  ·
    refine pw_tableIn (off := 56) (tgt := 57) dX9_count_1 (by omega) (by omega) (by omega) (by rw [k1_2]; rfl) rfl ?_
    refine pw_aload_n dX9_count_57 rfl ?_
    refine pw_callV (As := []) (b := B) (rm := rmD 0 0 0) (mX9_cursorColumn (I := pnI (B + 3 + 13 * (hFoc s).toNat)) htr hA.1 hA.2.1 hA.2.2.2.2.1 hA.2.2.2.2.2.1 (hA_pn hA (k := (hFoc s).toNat) (by omega)).2.1 (hA_pn hA (k := (hFoc s).toNat) (by omega)).1.1.1.1 (hA.2.2.2.2.2.2.2.2.2.1 _ (gY.2.1 _ _ hle)) (hPv_s gF) hle gF) rfl hA.1 rfl rfl ywX9_cursorColumn rfl cwX9_155 ⟨nle rfl, nle rfl⟩ (nle rfl) ⟨nle rfl, nle rfl⟩ dX9_count_58 ?_ (fun _ _ _ z => z.elim)
    intro r_9 h_9 n_9 hq _
    rw [hq.1, hq.2.1, hq.2.2]
    show pw E YX9_count _ _ 0 0 61 [some (.ref B), some (.int (zI (k)))] [.int (zI ((hP s le).1 0 + (hX s (hFoc s).toNat).1.1.1 5))] h n
    refine pw_goto (tgt := 111) dX9_count_61 rfl ?_
    exact pw_iret dX9_count_111 rfl (nle rfl) (nle rfl) ⟨by omega, by unfold hCt; rw [if_neg (by omega)]; rw [if_neg (by omega)]; rw [if_pos (by omega)]; unfold hCc; rw [hle]; rfl, rfl, rfl⟩
  by_cases k1_3 : k = 3
  ·
    refine pw_tableIn (off := 63) (tgt := 64) dX9_count_1 (by omega) (by omega) (by omega) (by rw [k1_3]; rfl) rfl ?_
    refine pw_aload_n dX9_count_64 rfl ?_
    refine pw_callV (As := []) (b := B) (rm := rmD 0 0 0) (mX9_cursorRow (I := pnI (B + 3 + 13 * (hFoc s).toNat)) htr hA.1 hA.2.1 hA.2.2.2.2.1 hA.2.2.2.2.2.1 (hA_pn hA (k := (hFoc s).toNat) (by omega)).2.1 (hA_pn hA (k := (hFoc s).toNat) (by omega)).1.1.1.1 (hA.2.2.2.2.2.2.2.2.2.1 _ (gY.2.1 _ _ hle)) (hPv_s gF) hle gF) rfl hA.1 rfl rfl ywX9_cursorRow rfl cwX9_158 ⟨nle rfl, nle rfl⟩ (nle rfl) ⟨nle rfl, nle rfl⟩ dX9_count_65 ?_ (fun _ _ _ z => z.elim)
    intro r_9 h_9 n_9 hq _
    rw [hq.1, hq.2.1, hq.2.2]
    show pw E YX9_count _ _ 0 0 68 [some (.ref B), some (.int (zI (k)))] [.int (zI ((hP s le).1 1 + (hX s (hFoc s).toNat).1.1.1 6))] h n
    refine pw_goto (tgt := 111) dX9_count_68 rfl ?_
    exact pw_iret dX9_count_111 rfl (nle rfl) (nle rfl) ⟨by omega, by unfold hCt; rw [if_neg (by omega)]; rw [if_neg (by omega)]; rw [if_neg (by omega)]; rw [if_pos (by omega)]; unfold hCr; rw [hle]; rfl, rfl, rfl⟩
  by_cases k1_4 : k = 4
  ·
    refine pw_tableIn (off := 70) (tgt := 71) dX9_count_1 (by omega) (by omega) (by omega) (by rw [k1_4]; rfl) rfl ?_
    refine pw_aload_n dX9_count_71 rfl ?_
    refine pw_get (v := .ref (B + 1)) okX9 (k := 2) (by decide) lkX9_11 hA.1 rfl dX9_count_72 ?_
    refine pw_aload_n dX9_count_75 rfl ?_
    refine pw_get (v := .int (zI (hFoc s))) okX9 (k := 9) (by decide) lkX9_88 hA.1 rfl dX9_count_76 ?_
    refine pw_aaldO (t := 3) rfl hA.2.1 (by omega) (by decide) dX9_count_79 ?_
    rw [show rv (hPv B (hFoc s).toNat) = Value.ref (B + 3 + 13 * (hFoc s).toNat) from by rw [hPv_s (by omega)]; rfl]
    refine pw_callV (As := []) (b := (B + 3 + 13 * (hFoc s).toNat)) (rm := rmD 0 0 0) (mX4_seesCursor htr gG0 (hA_pn hA (k := (hFoc s).toNat) (by omega)).1.1 pg.1.1 (hA_pn hA (k := (hFoc s).toNat) (by omega)).2.1 (fun i _ => pnI_ne (by omega)) (by omega) (by omega)) rfl (hA_pn hA (by omega)).2.1 rfl rfl ywX4_seesCursor rfl cwX9_161 ⟨nle rfl, nle rfl⟩ (nle rfl) ⟨nle rfl, nle rfl⟩ dX9_count_80 ?_ (fun _ _ _ z => z.elim)
    intro r_9 h_9 n_9 hq _
    rw [hq.1, hq.2.1, hq.2.2]
    show pw E YX9_count _ _ 0 0 83 [some (.ref B), some (.int (zI (k)))] [.int (zI (if ¬ (hX s (hFoc s).toNat).1.1.1 16 = 0 ∧ (hX s (hFoc s).toNat).2.1.1 = 0 then 1 else 0))] h n
    change pw E YX9_count _ _ 0 0 83 [some (.ref B), some (.int (zI (k)))] [.int (zI (hSee s))] h n
    refine pw_if_eq (tgt := 90) dX9_count_83 rfl (by omega) (fun c83 => ?_) (fun c83 => ?_)
    ·
      refine pw_iconst (v := zI (0)) dX9_count_90 (by decide) ?_
      refine pw_goto (tgt := 111) dX9_count_91 rfl ?_
      exact pw_iret dX9_count_111 rfl (nle rfl) (nle rfl) ⟨by omega, by unfold hCt; rw [if_neg (by omega)]; rw [if_neg (by omega)]; rw [if_neg (by omega)]; rw [if_neg (by omega)]; rw [if_pos (by omega)]; first | rw [show hSee s = 1 by omega] | rw [show hSee s = 0 by omega], rfl, rfl⟩
    ·
      refine pw_iconst (v := zI (1)) dX9_count_86 (by decide) ?_
      refine pw_goto (tgt := 111) dX9_count_87 rfl ?_
      exact pw_iret dX9_count_111 rfl (nle rfl) (nle rfl) ⟨by omega, by unfold hCt; rw [if_neg (by omega)]; rw [if_neg (by omega)]; rw [if_neg (by omega)]; rw [if_neg (by omega)]; rw [if_pos (by omega)]; first | rw [show hSee s = 1 by omega] | rw [show hSee s = 0 by omega], rfl, rfl⟩
  by_cases k1_5 : k = 5
  ·
    refine pw_tableIn (off := 93) (tgt := 94) dX9_count_1 (by omega) (by omega) (by omega) (by rw [k1_5]; rfl) rfl ?_
    refine pw_aload_n dX9_count_94 rfl ?_
    refine pw_get (v := .int (zI ((hClp s).2))) okX9 (k := 8) (by decide) lkX9_126 hA.1 rfl dX9_count_95 ?_
    refine pw_goto (tgt := 111) dX9_count_98 rfl ?_
    exact pw_iret dX9_count_111 rfl (nle rfl) (nle rfl) ⟨by omega, by unfold hCt; rw [if_neg (by omega)]; rw [if_neg (by omega)]; rw [if_neg (by omega)]; rw [if_neg (by omega)]; rw [if_neg (by omega)], rfl, rfl⟩
  by_cases kd : 5 < k
  ·
    refine pw_tableOut (tgt := 101) dX9_count_1 (by omega) (by omega) rfl ?_
    exact pw_throw (text := "what is not 0 .. 5") (by decide +kernel) tk_IA.1 tk_IA.2 (by decide +kernel) th_IA ⟨nle rfl, nle rfl⟩ ⟨nle rfl, nle rfl⟩ dX9_count_101 dX9_count_104 dX9_count_105 dX9_count_107 dX9_count_110 ⟨rfl, by omega, rfl, rfl⟩
  refine pw_tableOut (tgt := 101) dX9_count_1 (by omega) (by omega) rfl ?_
  exact pw_throw (text := "what is not 0 .. 5") (by decide +kernel) tk_IA.1 tk_IA.2 (by decide +kernel) th_IA ⟨nle rfl, nle rfl⟩ ⟨nle rfl, nle rfl⟩ dX9_count_101 dX9_count_104 dX9_count_105 dX9_count_107 dX9_count_110 ⟨rfl, by omega, rfl, rfl⟩
