def YX9_checkPane : pw_Y := (RX9, "checkPane", cX9_checkPane, 2, none)
theorem ywX9_checkPane : pw_y yX9_checkPane YX9_checkPane 1 := ⟨by decide +kernel, by decide +kernel, by decide +kernel, pw_in 928 (by decide +kernel) (by decide +kernel), pw_in 79 (by decide +kernel) (by decide +kernel)⟩
theorem cwX9_250 : Cond.methodLink RX9 250 yX2_has ∈ pw_G ∧ Cond.instanceMethod yX2_has ∈ pw_G ∧ Cond.selects RX2 yX2_has yX2_has ∈ pw_G := ⟨pw_in 929 (by decide +kernel) (by decide +kernel), pw_in 930 (by decide +kernel) (by decide +kernel), pw_in 931 (by decide +kernel) (by decide +kernel)⟩
def YX9_checkPlace : pw_Y := (RX9, "checkPlace", cX9_checkPlace, 5, none)
theorem ywX9_checkPlace : pw_y yX9_checkPlace YX9_checkPlace 3 := ⟨by decide +kernel, by decide +kernel, by decide +kernel, pw_in 1236 (by decide +kernel) (by decide +kernel), pw_in 79 (by decide +kernel) (by decide +kernel)⟩
theorem lkX9_194 : Cond.fieldLinkNest RX9 194 (TX7 4).1 (TX7 4).2.1 (TX7 4).2.2.1 "PaneHouse" ∈ pw_N := by decide +kernel
theorem lkX9_133 : Cond.fieldLinkNest RX9 133 (TX7 3).1 (TX7 3).2.1 (TX7 3).2.2.1 "PaneHouse" ∈ pw_N := by decide +kernel
def YX9_focus : pw_Y := (RX9, "focus", cX9_focus, 2, none)
theorem ywX9_focus : pw_y yX9_focus YX9_focus 1 := ⟨by decide +kernel, by decide +kernel, by decide +kernel, pw_in 1216 (by decide +kernel) (by decide +kernel), pw_in 79 (by decide +kernel) (by decide +kernel)⟩
theorem cwX9_59 : Cond.methodLink RX9 59 yX9_checkPane ∈ pw_G ∧ Cond.instanceMethod yX9_checkPane ∈ pw_G ∧ Cond.selects RX9 yX9_checkPane yX9_checkPane ∈ pw_G := ⟨pw_in 925 (by decide +kernel) (by decide +kernel), pw_in 927 (by decide +kernel) (by decide +kernel), pw_in 11 (by decide +kernel) (by decide +kernel)⟩
def YX9_out : pw_Y := (RX9, "out", cX9_out, 2, (some .int))
theorem ywX9_out : pw_y yX9_out YX9_out 1 := ⟨by decide +kernel, by decide +kernel, by decide +kernel, pw_in 1253 (by decide +kernel) (by decide +kernel), pw_in 79 (by decide +kernel) (by decide +kernel)⟩
theorem lkX9_43 : Cond.fieldLink RX9 43 (TX9 4).1 (TX9 4).2.1 (TX9 4).2.2.1 ∈ pw_G := pw_in 786 (by decide +kernel) (by decide +kernel)
theorem lkX9_169 : Cond.fieldLinkNest RX9 169 (TX3 3).1 (TX3 3).2.1 (TX3 3).2.2.1 "PaneHouse" ∈ pw_N := by decide +kernel
theorem lkX9_177 : Cond.fieldLinkNest RX9 177 (TX3 2).1 (TX3 2).2.1 (TX3 2).2.2.1 "PaneHouse" ∈ pw_N := by decide +kernel
def YX9_copied : pw_Y := (RX9, "copied", cX9_copied, 2, (some .int))
theorem ywX9_copied : pw_y yX9_copied YX9_copied 1 := ⟨by decide +kernel, by decide +kernel, by decide +kernel, pw_in 1295 (by decide +kernel) (by decide +kernel), pw_in 79 (by decide +kernel) (by decide +kernel)⟩
def YX9_input : pw_Y := (RX9, "input", cX9_input, 4, (some .int))
theorem ywX9_input : pw_y yX9_input YX9_input 2 := ⟨by decide +kernel, by decide +kernel, by decide +kernel, pw_in 1277 (by decide +kernel) (by decide +kernel), pw_in 79 (by decide +kernel) (by decide +kernel)⟩
theorem cwX9_226 : Cond.methodLink RX9 226 yX8_told ∈ pw_G ∧ Cond.instanceMethod yX8_told ∈ pw_G ∧ Cond.selects RX8 yX8_told yX8_told ∈ pw_G := ⟨pw_in 1278 (by decide +kernel) (by decide +kernel), pw_in 1279 (by decide +kernel) (by decide +kernel), pw_in 1280 (by decide +kernel) (by decide +kernel)⟩
theorem cwX9_231 : Cond.methodLink RX9 231 yX8_at ∈ pw_G ∧ Cond.instanceMethod yX8_at ∈ pw_G ∧ Cond.selects RX8 yX8_at yX8_at ∈ pw_G := ⟨pw_in 1284 (by decide +kernel) (by decide +kernel), pw_in 1285 (by decide +kernel) (by decide +kernel), pw_in 1286 (by decide +kernel) (by decide +kernel)⟩
set_option maxHeartbeats 4000000 in
set_option maxRecDepth 100000 in
/-- checkPane(p) -/
theorem mX9_checkPane {E : pw_E} (htr : E.1.stackTraces = false) {h : pz_H} {n : Nat} {w H : Int} {N NH NB NL B : Nat} {s : hS} (hA : hAt w H N NH NB NL B s h) {p : Int} (h_p : -2147483648 ≤ p ∧ p < 2147483648) : pw_M E yX9_checkPane YX9_checkPane (rmD 6 1 6) [.ref B, .int (zI p)] h n (fun r h' n' => lyHas (hLv s) p = 1 ∧ r = none ∧ h' = h ∧ n' = n) (fun C h' n' => C = "java/lang/IndexOutOfBoundsException" ∧ lyHas (hLv s) p = 0 ∧ h' = h ∧ n' = n) := by
  refine pw_M_of (lv := [some (.ref B), some (.int (zI (p)))]) (by decide) rfl rfl htr (nle rfl) rfl (fun L => ?_)
  refine pw_aload_n dX9_checkPane_0 rfl ?_
  refine pw_get (v := .ref (B + 107)) okX9 (k := 3) (by decide) lkX9_36 hA.1 rfl dX9_checkPane_1 ?_
  refine pw_iload_n dX9_checkPane_4 rfl ?_
  refine pw_callV (As := [.int (zI (p))]) (b := (B + 107)) (rm := rmD 0 0 0) (mX2_has htr hA.2.2.2.2.1 hA.2.2.2.2.2.1 (by omega)) rfl hA.2.2.2.2.1 rfl rfl ywX2_has rfl cwX9_250 ⟨nle rfl, nle rfl⟩ (nle rfl) ⟨nle rfl, nle rfl⟩ dX9_checkPane_5 ?_ (fun _ _ _ z => z.elim)
  intro r_9 h_9 n_9 hq _
  rw [hq.1, hq.2.1, hq.2.2]
  show pw E YX9_checkPane _ _ 0 0 8 [some (.ref B), some (.int (zI (p)))] [.int (zI (lyHas (hLv s) (p)))] h n
  have hb := @lyHas_b (hLv s) p
  refine pw_if_ne (tgt := 21) dX9_checkPane_8 rfl (by omega) (fun c8 => ?_) (fun c8 => ?_)
  ·
    exact pw_vret dX9_checkPane_21 rfl (nle rfl) (nle rfl) ⟨by omega, rfl, rfl, rfl⟩
  ·
    exact pw_throw (text := "no such pane") (by decide +kernel) tk_IO.1 tk_IO.2 (by decide +kernel) th_IO ⟨nle rfl, nle rfl⟩ ⟨nle rfl, nle rfl⟩ dX9_checkPane_11 dX9_checkPane_14 dX9_checkPane_15 dX9_checkPane_17 dX9_checkPane_20 ⟨rfl, by omega, rfl, rfl⟩
set_option maxHeartbeats 4000000 in
set_option maxRecDepth 100000 in
/-- checkPlace(p, ro, co) -/
theorem mX9_checkPlace {E : pw_E} (htr : E.1.stackTraces = false) {h : pz_H} {n : Nat} {w H M : Int} {N NH NB NL B : Nat} {s : hS} (hG : geoH w H N NH NB NL) (hA : hAt w H N NH NB NL B s h) (hg : hGd w H M NB s) (hM : 0 ≤ M ∧ M ≤ 900000000) {p ro co : Int} (h_p : -2147483648 ≤ p ∧ p < 2147483648) (h_ro : -2147483648 ≤ ro ∧ ro < 2147483648) (h_co : -2147483648 ≤ co ∧ co < 2147483648) (hp8 : 0 ≤ p ∧ p < 8) : pw_M E yX9_checkPlace YX9_checkPlace (rmD 6 1 6) [.ref B, .int (zI (p)), .int (zI (ro)), .int (zI (co))] h n (fun r h' n' => (0 ≤ ro ∧ ro < (hX s p.toNat).1.1.1 4 ∧ 0 ≤ co ∧ co < (hX s p.toNat).1.1.1 3) ∧ r = none ∧ h' = h ∧ n' = n) (fun C h' n' => C = "java/lang/IndexOutOfBoundsException" ∧ ¬ (0 ≤ ro ∧ ro < (hX s p.toNat).1.1.1 4 ∧ 0 ≤ co ∧ co < (hX s p.toNat).1.1.1 3) ∧ h' = h ∧ n' = n) := by
  have hG0 := hG
  have hg0 := hg
  obtain ⟨gG, gNB, gNL⟩ := hG
  have gG0 := gG
  obtain ⟨gw, gH, gN, gN2, gNH⟩ := gG
  obtain ⟨gP, gL, gY, gF, gFl, gPr, gC, gO, gPi, gLi⟩ := hg
  obtain ⟨gO3, gO4, gO5, gO6, gO7, gOc⟩ := gO
  obtain ⟨p3, p4, p5, p6, p9, p10, pcl, pT, pR, pcm, pof, pto⟩ := gP p.toNat (by omega)
  refine pw_M_of (lv := [some (.ref B), some (.int (zI (p))), some (.int (zI (ro))), some (.int (zI (co))), none]) (by decide) rfl rfl htr (nle rfl) rfl (fun L => ?_)
  refine pw_aload_n dX9_checkPlace_0 rfl ?_
  refine pw_get (v := .ref (B + 1)) okX9 (k := 2) (by decide) lkX9_11 hA.1 rfl dX9_checkPlace_1 ?_
  refine pw_iload_n dX9_checkPlace_4 rfl ?_
  refine pw_aaldO (t := 3) rfl hA.2.1 (by omega) (by decide) dX9_checkPlace_5 ?_
  refine pw_some (hPv_s (by omega)) ?_
  refine pw_getN (v := .ref (B + 3 + 13 * p.toNat + 3)) okX4 (k := 0) (by decide) lkX9_129 (hA_pn hA (by omega)).2.1 rfl dX9_checkPlace_6 ?_
  refine pw_astore (lv' := [some (.ref B), some (.int (zI (p))), some (.int (zI (ro))), some (.int (zI (co))), some (.ref (B + 3 + 13 * p.toNat + 3))]) dX9_checkPlace_9 (by decide) rfl rfl ?_
  refine pw_iload_n dX9_checkPlace_11 rfl ?_
  refine pw_if_lt (tgt := 37) dX9_checkPlace_12 rfl (by omega) (fun c12 => ?_) (fun c12 => ?_)
  ·
    exact pw_throw (text := "no such place in the pane") (by decide +kernel) tk_IO.1 tk_IO.2 (by decide +kernel) th_IO ⟨nle rfl, nle rfl⟩ ⟨nle rfl, nle rfl⟩ dX9_checkPlace_37 dX9_checkPlace_40 dX9_checkPlace_41 dX9_checkPlace_43 dX9_checkPlace_46 ⟨rfl, by omega, rfl, rfl⟩
  ·
    refine pw_iload_n dX9_checkPlace_15 rfl ?_
    refine pw_aload dX9_checkPlace_16 rfl ?_
    refine pw_getN (v := .int (zI ((hX s p.toNat).1.1.1 4))) okX7 (k := 4) (by decide) lkX9_194 (hA_pn hA (by omega)).1.1.1.1 rfl dX9_checkPlace_18 ?_
    refine pw_icmp_ge (tgt := 37) dX9_checkPlace_21 rfl (by omega) (by omega) (fun c21 => ?_) (fun c21 => ?_)
    ·
      exact pw_throw (text := "no such place in the pane") (by decide +kernel) tk_IO.1 tk_IO.2 (by decide +kernel) th_IO ⟨nle rfl, nle rfl⟩ ⟨nle rfl, nle rfl⟩ dX9_checkPlace_37 dX9_checkPlace_40 dX9_checkPlace_41 dX9_checkPlace_43 dX9_checkPlace_46 ⟨rfl, by omega, rfl, rfl⟩
    ·
      refine pw_iload_n dX9_checkPlace_24 rfl ?_
      refine pw_if_lt (tgt := 37) dX9_checkPlace_25 rfl (by omega) (fun c25 => ?_) (fun c25 => ?_)
      ·
        exact pw_throw (text := "no such place in the pane") (by decide +kernel) tk_IO.1 tk_IO.2 (by decide +kernel) th_IO ⟨nle rfl, nle rfl⟩ ⟨nle rfl, nle rfl⟩ dX9_checkPlace_37 dX9_checkPlace_40 dX9_checkPlace_41 dX9_checkPlace_43 dX9_checkPlace_46 ⟨rfl, by omega, rfl, rfl⟩
      ·
        refine pw_iload_n dX9_checkPlace_28 rfl ?_
        refine pw_aload dX9_checkPlace_29 rfl ?_
        refine pw_getN (v := .int (zI ((hX s p.toNat).1.1.1 3))) okX7 (k := 3) (by decide) lkX9_133 (hA_pn hA (by omega)).1.1.1.1 rfl dX9_checkPlace_31 ?_
        refine pw_icmp_lt (tgt := 47) dX9_checkPlace_34 rfl (by omega) (by omega) (fun c34 => ?_) (fun c34 => ?_)
        ·
          exact pw_vret dX9_checkPlace_47 rfl (nle rfl) (nle rfl) ⟨by omega, rfl, rfl, rfl⟩
        ·
          exact pw_throw (text := "no such place in the pane") (by decide +kernel) tk_IO.1 tk_IO.2 (by decide +kernel) th_IO ⟨nle rfl, nle rfl⟩ ⟨nle rfl, nle rfl⟩ dX9_checkPlace_37 dX9_checkPlace_40 dX9_checkPlace_41 dX9_checkPlace_43 dX9_checkPlace_46 ⟨rfl, by omega, rfl, rfl⟩
set_option maxHeartbeats 4000000 in
set_option maxRecDepth 100000 in
/-- focus(p) -/
theorem mX9_focus {E : pw_E} (htr : E.1.stackTraces = false) {h : pz_H} {n : Nat} {w H M : Int} {N NH NB NL B : Nat} {s : hS} (hG : geoH w H N NH NB NL) (hA : hAt w H N NH NB NL B s h) (hg : hGd w H M NB s) (hM : 0 ≤ M ∧ M ≤ 900000000) {p : Int} (h_p : -2147483648 ≤ p ∧ p < 2147483648)  : pw_M E yX9_focus YX9_focus (rmD 7 1 6) [.ref B, .int (zI (p))] h n (fun r h' n' => lyHas (hLv s) p = 1 ∧ r = none ∧ hAt w H N NH NB NL B (sFoc p s) h' ∧ hFr B n (hD s) h h' ∧ n' = n) (fun C h' n' => C = "java/lang/IndexOutOfBoundsException" ∧ lyHas (hLv s) p = 0 ∧ h' = h ∧ n' = n) := by
  have hG0 := hG
  have hg0 := hg
  obtain ⟨gG, gNB, gNL⟩ := hG
  have gG0 := gG
  obtain ⟨gw, gH, gN, gN2, gNH⟩ := gG
  obtain ⟨gP, gL, gY, gF, gFl, gPr, gC, gO, gPi, gLi⟩ := hg
  obtain ⟨gO3, gO4, gO5, gO6, gO7, gOc⟩ := gO
  refine pw_M_of (lv := [some (.ref B), some (.int (zI (p)))]) (by decide) rfl rfl htr (nle rfl) rfl (fun L => ?_)
  refine pw_aload_n dX9_focus_0 rfl ?_
  refine pw_iload_n dX9_focus_1 rfl ?_
  refine pw_callV (As := [.int (zI (p))]) (b := B) (rm := rmD 6 1 6) (mX9_checkPane htr hA (by omega)) rfl hA.1 rfl rfl ywX9_checkPane rfl cwX9_59 ⟨nle rfl, nle rfl⟩ (nle rfl) ⟨nle rfl, nle rfl⟩ dX9_focus_2 ?_ (fun _ _ _ z => z)
  intro r2 h2 n2 hq _
  obtain ⟨hpx, e1, e2, e3⟩ := hq
  rw [e1, e2, e3]
  show pw E YX9_focus _ _ (0 + 1) (0 + 6) 5 [some (.ref B), some (.int (zI (p)))] [] h n
  clear e1 e2 e3
  obtain ⟨hp8, hpl⟩ := lyHas_y hpx
  refine pw_aload_n dX9_focus_5 rfl ?_
  refine pw_iload_n dX9_focus_6 rfl ?_
  refine pw_put (fs' := (hoL (B + 1) (B + 107) (B + 110) (B + 113) (B + 114) (B + 2) w H ((hClp s).2) (p) (hPre s))) okX9 (k := 9) (by decide) lkX9_88 rfl rfl rfl hA.1 (nlt rfl) rfl dX9_focus_7 ?_
  have hA1 : hAt w H N NH NB NL B (sFoc (p) s) (va_up h B (pz_o 12 (hoL (B + 1) (B + 107) (B + 110) (B + 113) (B + 114) (B + 2) w H ((hClp s).2) (p) (hPre s)))) := hAt_foc hA
  have hF1 : hFr B n (hD s) h (va_up h B (pz_o 12 (hoL (B + 1) (B + 107) (B + 110) (B + 113) (B + 114) (B + 2) w H ((hClp s).2) (p) (hPre s)))) := hFr_tr hFr_rf (hFr_in (lo := B) (hi := B) (fun a ha => va_up_ne _ _ (by omega)) (by omega) (by omega))
  revert hA1 hF1
  generalize (va_up h B (pz_o 12 (hoL (B + 1) (B + 107) (B + 110) (B + 113) (B + 114) (B + 2) w H ((hClp s).2) (p) (hPre s)))) = h1
  intro hA1 hF1
  exact pw_vret dX9_focus_10 rfl (nle rfl) (nle rfl) ⟨hpx, rfl, hA1, hF1, rfl⟩
set_option maxHeartbeats 4000000 in
set_option maxRecDepth 100000 in
/-- out(i) -/
theorem mX9_out {E : pw_E} (htr : E.1.stackTraces = false) {h : pz_H} {n : Nat} {w H M : Int} {N NH NB NL B : Nat} {s : hS} (hG : geoH w H N NH NB NL) (hA : hAt w H N NH NB NL B s h) (hg : hGd w H M NB s) (hM : 0 ≤ M ∧ M ≤ 900000000) {i : Int} (h_i : -2147483648 ≤ i ∧ i < 2147483648)  : pw_M E yX9_out YX9_out (rmD 6 1 6) [.ref B, .int (zI (i))] h n (fun r h' n' => (0 ≤ i ∧ i < (hOp s).1 3) ∧ r = some (.int (zI ((hOp s).2 i.toNat))) ∧ h' = h ∧ n' = n) (fun C h' n' => C = "java/lang/IndexOutOfBoundsException" ∧ ¬ (0 ≤ i ∧ i < (hOp s).1 3) ∧ h' = h ∧ n' = n) := by
  have hG0 := hG
  have hg0 := hg
  obtain ⟨gG, gNB, gNL⟩ := hG
  have gG0 := gG
  obtain ⟨gw, gH, gN, gN2, gNH⟩ := gG
  obtain ⟨gP, gL, gY, gF, gFl, gPr, gC, gO, gPi, gLi⟩ := hg
  obtain ⟨gO3, gO4, gO5, gO6, gO7, gOc⟩ := gO
  have hNB : NB ≤ 100000 := by
    have h1 : w * H ≤ 640 := by omega
    omega
  refine pw_M_of (lv := [some (.ref B), some (.int (zI (i)))]) (by decide) rfl rfl htr (nle rfl) rfl (fun L => ?_)
  refine pw_iload_n dX9_out_0 rfl ?_
  refine pw_if_lt (tgt := 15) dX9_out_1 rfl (by omega) (fun c1 => ?_) (fun c1 => ?_)
  ·
    exact pw_throw (text := "no such byte of OUT") (by decide +kernel) tk_IO.1 tk_IO.2 (by decide +kernel) th_IO ⟨nle rfl, nle rfl⟩ ⟨nle rfl, nle rfl⟩ dX9_out_15 dX9_out_18 dX9_out_19 dX9_out_21 dX9_out_24 ⟨rfl, by omega, rfl, rfl⟩
  ·
    refine pw_iload_n dX9_out_4 rfl ?_
    refine pw_aload_n dX9_out_5 rfl ?_
    refine pw_get (v := .ref (B + 110)) okX9 (k := 4) (by decide) lkX9_43 hA.1 rfl dX9_out_6 ?_
    refine pw_getN (v := .int (zI ((hOp s).1 3))) okX3 (k := 3) (by decide) lkX9_169 hA.2.2.2.2.2.2.1.1 rfl dX9_out_9 ?_
    refine pw_icmp_lt (tgt := 25) dX9_out_12 rfl (by omega) (by omega) (fun c12 => ?_) (fun c12 => ?_)
    ·
      refine pw_aload_n dX9_out_25 rfl ?_
      refine pw_get (v := .ref (B + 110)) okX9 (k := 4) (by decide) lkX9_43 hA.1 rfl dX9_out_26 ?_
      refine pw_getN (v := .ref (B + 112)) okX3 (k := 2) (by decide) lkX9_177 hA.2.2.2.2.2.2.1.1 rfl dX9_out_29 ?_
      refine pw_iload_n dX9_out_32 rfl ?_
      refine pw_iald (t := 0) rfl hA.2.2.2.2.2.2.1.2.2.1 (by omega) (by omega) dX9_out_33 ?_
      exact pw_iret dX9_out_34 rfl (nle rfl) (nle rfl) ⟨by omega, rfl, rfl, rfl⟩
    ·
      exact pw_throw (text := "no such byte of OUT") (by decide +kernel) tk_IO.1 tk_IO.2 (by decide +kernel) th_IO ⟨nle rfl, nle rfl⟩ ⟨nle rfl, nle rfl⟩ dX9_out_15 dX9_out_18 dX9_out_19 dX9_out_21 dX9_out_24 ⟨rfl, by omega, rfl, rfl⟩
set_option maxHeartbeats 4000000 in
set_option maxRecDepth 100000 in
/-- copied(i) -/
theorem mX9_copied {E : pw_E} (htr : E.1.stackTraces = false) {h : pz_H} {n : Nat} {w H M : Int} {N NH NB NL B : Nat} {s : hS} (hG : geoH w H N NH NB NL) (hA : hAt w H N NH NB NL B s h) (hg : hGd w H M NB s) (hM : 0 ≤ M ∧ M ≤ 900000000) {i : Int} (h_i : -2147483648 ≤ i ∧ i < 2147483648)  : pw_M E yX9_copied YX9_copied (rmD 6 1 6) [.ref B, .int (zI (i))] h n (fun r h' n' => (0 ≤ i ∧ i < (hClp s).2) ∧ r = some (.int (zI ((hClp s).1 i.toNat))) ∧ h' = h ∧ n' = n) (fun C h' n' => C = "java/lang/IndexOutOfBoundsException" ∧ ¬ (0 ≤ i ∧ i < (hClp s).2) ∧ h' = h ∧ n' = n) := by
  have hG0 := hG
  have hg0 := hg
  obtain ⟨gG, gNB, gNL⟩ := hG
  have gG0 := gG
  obtain ⟨gw, gH, gN, gN2, gNH⟩ := gG
  obtain ⟨gP, gL, gY, gF, gFl, gPr, gC, gO, gPi, gLi⟩ := hg
  obtain ⟨gO3, gO4, gO5, gO6, gO7, gOc⟩ := gO
  refine pw_M_of (lv := [some (.ref B), some (.int (zI (i)))]) (by decide) rfl rfl htr (nle rfl) rfl (fun L => ?_)
  refine pw_iload_n dX9_copied_0 rfl ?_
  refine pw_if_lt (tgt := 12) dX9_copied_1 rfl (by omega) (fun c1 => ?_) (fun c1 => ?_)
  ·
    exact pw_throw (text := "no such byte of what is COPIED") (by decide +kernel) tk_IO.1 tk_IO.2 (by decide +kernel) th_IO ⟨nle rfl, nle rfl⟩ ⟨nle rfl, nle rfl⟩ dX9_copied_12 dX9_copied_15 dX9_copied_16 dX9_copied_18 dX9_copied_21 ⟨rfl, by omega, rfl, rfl⟩
  ·
    refine pw_iload_n dX9_copied_4 rfl ?_
    refine pw_aload_n dX9_copied_5 rfl ?_
    refine pw_get (v := .int (zI ((hClp s).2))) okX9 (k := 8) (by decide) lkX9_126 hA.1 rfl dX9_copied_6 ?_
    refine pw_icmp_lt (tgt := 22) dX9_copied_9 rfl (by omega) (by omega) (fun c9 => ?_) (fun c9 => ?_)
    ·
      refine pw_aload_n dX9_copied_22 rfl ?_
      refine pw_get (v := .ref (B + 2)) okX9 (k := 7) (by decide) lkX9_15 hA.1 rfl dX9_copied_23 ?_
      refine pw_iload_n dX9_copied_26 rfl ?_
      refine pw_iald (t := 0) rfl hA.2.2.1 (by omega) (by decide) dX9_copied_27 ?_
      exact pw_iret dX9_copied_28 rfl (nle rfl) (nle rfl) ⟨by omega, rfl, rfl, rfl⟩
    ·
      exact pw_throw (text := "no such byte of what is COPIED") (by decide +kernel) tk_IO.1 tk_IO.2 (by decide +kernel) th_IO ⟨nle rfl, nle rfl⟩ ⟨nle rfl, nle rfl⟩ dX9_copied_12 dX9_copied_15 dX9_copied_16 dX9_copied_18 dX9_copied_21 ⟨rfl, by omega, rfl, rfl⟩
set_option maxHeartbeats 4000000 in
set_option maxRecDepth 100000 in
/-- input(p, i) -/
theorem mX9_input {E : pw_E} (htr : E.1.stackTraces = false) {h : pz_H} {n : Nat} {w H M : Int} {N NH NB NL B : Nat} {s : hS} (hG : geoH w H N NH NB NL) (hA : hAt w H N NH NB NL B s h) (hg : hGd w H M NB s) (hM : 0 ≤ M ∧ M ≤ 900000000) {p i : Int} (h_p : -2147483648 ≤ p ∧ p < 2147483648) (h_i : -2147483648 ≤ i ∧ i < 2147483648)  : pw_M E yX9_input YX9_input (rmD 7 2 12) [.ref B, .int (zI (p)), .int (zI (i))] h n (fun r h' n' => lyHas (hLv s) p = 1 ∧ (0 ≤ i ∧ i < min (hX s p.toNat).2.2.2 64) ∧ r = some (.int (zI ((hX s p.toNat).2.2.1 (((hX s p.toNat).2.2.2 - min (hX s p.toNat).2.2.2 64 + i) % 64).toNat))) ∧ h' = h ∧ n' = n) (fun C h' n' => (C = "java/lang/IndexOutOfBoundsException" ∧ lyHas (hLv s) p = 0 ∧ h' = h ∧ n' = n) ∨ (C = "java/lang/IndexOutOfBoundsException" ∧ (lyHas (hLv s) p = 1 ∧ ¬ (0 ≤ i ∧ i < min (hX s p.toNat).2.2.2 64)) ∧ h' = h ∧ n' = n)) := by
  have hG0 := hG
  have hg0 := hg
  obtain ⟨gG, gNB, gNL⟩ := hG
  have gG0 := gG
  obtain ⟨gw, gH, gN, gN2, gNH⟩ := gG
  obtain ⟨gP, gL, gY, gF, gFl, gPr, gC, gO, gPi, gLi⟩ := hg
  obtain ⟨gO3, gO4, gO5, gO6, gO7, gOc⟩ := gO
  refine pw_M_of (lv := [some (.ref B), some (.int (zI (p))), some (.int (zI (i))), none]) (by decide) rfl rfl htr (nle rfl) rfl (fun L => ?_)
  refine pw_aload_n dX9_input_0 rfl ?_
  refine pw_iload_n dX9_input_1 rfl ?_
  refine pw_callV (As := [.int (zI (p))]) (b := B) (rm := rmD 6 1 6) (mX9_checkPane htr hA (by omega)) rfl hA.1 rfl rfl ywX9_checkPane rfl cwX9_59 ⟨nle rfl, nle rfl⟩ (nle rfl) ⟨nle rfl, nle rfl⟩ dX9_input_2 ?_ (fun _ _ _ z => Or.inl z)
  intro r2 h2 n2 hq _
  obtain ⟨hpx, e1, e2, e3⟩ := hq
  rw [e1, e2, e3]
  show pw E YX9_input _ _ (0 + 1) (0 + 6) 5 [some (.ref B), some (.int (zI (p))), some (.int (zI (i))), none] [] h n
  clear e1 e2 e3
  obtain ⟨hp8, hpl⟩ := lyHas_y hpx
  obtain ⟨p3, p4, p5, p6, p9, p10, pcl, pT, pR, pcm, pof, pto⟩ := gP p.toNat (by omega)
  refine pw_aload_n dX9_input_5 rfl ?_
  refine pw_get (v := .ref (B + 1)) okX9 (k := 2) (by decide) lkX9_11 hA.1 rfl dX9_input_6 ?_
  refine pw_iload_n dX9_input_9 rfl ?_
  refine pw_aaldO (t := 3) rfl hA.2.1 (by omega) (by decide) dX9_input_10 ?_
  refine pw_some (hPv_s (by omega)) ?_
  refine pw_getN (v := .ref (B + 3 + 13 * p.toNat + 1)) okX4 (k := 2) (by decide) lkX9_215 (hA_pn hA (by omega)).2.1 rfl dX9_input_11 ?_
  refine pw_astore_n (lv' := [some (.ref B), some (.int (zI (p))), some (.int (zI (i))), some (.ref (B + 3 + 13 * p.toNat + 1))]) dX9_input_14 (by decide) rfl rfl ?_
  refine pw_iload_n dX9_input_15 rfl ?_
  refine pw_if_lt (tgt := 27) dX9_input_16 rfl (by omega) (fun c16 => ?_) (fun c16 => ?_)
  ·
    exact pw_throw (text := "no such byte of the INPUT") (by decide +kernel) tk_IO.1 tk_IO.2 (by decide +kernel) th_IO ⟨nle rfl, nle rfl⟩ ⟨nle rfl, nle rfl⟩ dX9_input_27 dX9_input_30 dX9_input_31 dX9_input_33 dX9_input_36 (Or.inr ⟨rfl, ⟨hpx, by omega⟩, rfl, rfl⟩)
  ·
    refine pw_iload_n dX9_input_19 rfl ?_
    refine pw_aload_n dX9_input_20 rfl ?_
    refine pw_callV (As := []) (b := (B + 3 + 13 * p.toNat + 1)) (rm := rmD 1 0 0) (mX8_told htr (hA_pn hA (by omega)).2.2.1 (hA_pn hA (by omega)).2.2.2 (by omega) (by omega)) rfl (hA_pn hA (by omega)).2.2.1 rfl rfl ywX8_told rfl cwX9_226 ⟨nle rfl, nle rfl⟩ (nle rfl) ⟨nle rfl, nle rfl⟩ dX9_input_21 ?_ (fun _ _ _ z => z.elim)
    intro r_9 h_9 n_9 hq _
    rw [hq.1, hq.2.1, hq.2.2]
    show pw E YX9_input _ _ (0 + 1) (0 + 6) 24 [some (.ref B), some (.int (zI (p))), some (.int (zI (i))), some (.ref (B + 3 + 13 * p.toNat + 1))] [.int (zI (min ((hX s p.toNat).2.2.2) 64)), .int (zI (i))] h n
    refine pw_icmp_lt (tgt := 37) dX9_input_24 rfl (by omega) (by omega) (fun c24 => ?_) (fun c24 => ?_)
    ·
      refine pw_aload_n dX9_input_37 rfl ?_
      refine pw_iload_n dX9_input_38 rfl ?_
      refine pw_callV (As := [.int (zI (i))]) (b := (B + 3 + 13 * p.toNat + 1)) (rm := rmD 2 0 0) (mX8_at htr (hA_pn hA (by omega)).2.2.1 (hA_pn hA (by omega)).2.2.2 (by omega) (by omega) (by omega)) rfl (hA_pn hA (by omega)).2.2.1 rfl rfl ywX8_at rfl cwX9_231 ⟨nle rfl, nle rfl⟩ (nle rfl) ⟨nle rfl, nle rfl⟩ dX9_input_39 ?_ (fun _ _ _ z => z.elim)
      intro r_9 h_9 n_9 hq _
      rw [hq.1, hq.2.1, hq.2.2]
      show pw E YX9_input _ _ (0 + 1) (0 + 6) 42 [some (.ref B), some (.int (zI (p))), some (.int (zI (i))), some (.ref (B + 3 + 13 * p.toNat + 1))] [.int (zI ((hX s p.toNat).2.2.1 (((hX s p.toNat).2.2.2 - min (hX s p.toNat).2.2.2 64 + i) % 64).toNat))] h n
      exact pw_iret dX9_input_42 rfl (nle rfl) (nle rfl) ⟨hpx, by omega, rfl, rfl, rfl⟩
    ·
      exact pw_throw (text := "no such byte of the INPUT") (by decide +kernel) tk_IO.1 tk_IO.2 (by decide +kernel) th_IO ⟨nle rfl, nle rfl⟩ ⟨nle rfl, nle rfl⟩ dX9_input_27 dX9_input_30 dX9_input_31 dX9_input_33 dX9_input_36 (Or.inr ⟨rfl, ⟨hpx, by omega⟩, rfl, rfl⟩)
