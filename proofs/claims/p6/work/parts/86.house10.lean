def YX9_redraw : pw_Y := (RX9, "redraw", cX9_redraw, 3, (some .int))
theorem ywX9_redraw : pw_y yX9_redraw YX9_redraw 0 := ⟨by decide +kernel, by decide +kernel, by decide +kernel, pw_in 819 (by decide +kernel) (by decide +kernel), pw_in 79 (by decide +kernel) (by decide +kernel)⟩
theorem cwX9_152 : Cond.methodLink RX9 152 yX3_show ∈ pw_G ∧ Cond.instanceMethod yX3_show ∈ pw_G ∧ Cond.selects RX3 yX3_show yX3_show ∈ pw_G := ⟨pw_in 869 (by decide +kernel) (by decide +kernel), pw_in 870 (by decide +kernel) (by decide +kernel), pw_in 871 (by decide +kernel) (by decide +kernel)⟩
theorem cwX9_151 : Cond.methodLink RX9 151 yX3_begin ∈ pw_G ∧ Cond.instanceMethod yX3_begin ∈ pw_G ∧ Cond.selects RX3 yX3_begin yX3_begin ∈ pw_G := ⟨pw_in 865 (by decide +kernel) (by decide +kernel), pw_in 866 (by decide +kernel) (by decide +kernel), pw_in 867 (by decide +kernel) (by decide +kernel)⟩
theorem cwX9_165 : Cond.methodLink RX9 165 yX3_end ∈ pw_G ∧ Cond.instanceMethod yX3_end ∈ pw_G ∧ Cond.selects RX3 yX3_end yX3_end ∈ pw_G := ⟨pw_in 909 (by decide +kernel) (by decide +kernel), pw_in 910 (by decide +kernel) (by decide +kernel), pw_in 911 (by decide +kernel) (by decide +kernel)⟩
abbrev oT : Type := oPr × (Nat → Int)
/-- one cell, one row, all rows are brought up to date -/
def shC (NB : Nat) (w : Int) (pic : Nat → Int) (c r : Int) (t : oT) : oT := (if t.2 (r * w + c).toNat = pic (r * w + c).toNat then t.1 else oShowP NB w c r (pic (r * w + c).toNat) t.1, if t.2 (r * w + c).toNat = pic (r * w + c).toNat then t.2 else va_up t.2 (r * w + c).toNat (pic (r * w + c).toNat))
def shR (NB : Nat) (w : Int) (pic : Nat → Int) (r : Int) : Nat → Int → oT → oT
  | 0, _, t => t
  | j + 1, c, t => shR NB w pic r j (c + 1) (shC NB w pic c r t)
def shA (NB : Nat) (w : Int) (pic : Nat → Int) : Nat → Int → oT → oT
  | 0, _, t => t
  | j + 1, r, t => shA NB w pic j (r + 1) (shR NB w pic r w.toNat 0 t)
theorem oMove_45 {NB : Nat} {c r : Int} {p : oPr} : (oMove NB c r p).1 4 = c ∧ (oMove NB c r p).1 5 = r ∧ (oMove NB c r p).1 6 = p.1 6 := by
  unfold oMove
  split
  · next e => exact ⟨e.1, e.2, rfl⟩
  · exact ⟨rfl, rfl, rfl⟩
theorem oPen_k {NB : Nat} {a : Int} {p : oPr} : (oPen NB a p).1 6 = a ∧ (oPen NB a p).1 5 = p.1 5 ∧ (oPen NB a p).1 7 = p.1 7 := by
  unfold oPen
  split
  · next e => exact ⟨e, rfl, rfl⟩
  · exact ⟨rfl, rfl, rfl⟩
theorem oPen_h3 {NB : Nat} {a : Int} {p : oPr} (hp : 0 ≤ p.1 3 ∧ p.1 3 ≤ NB) : 0 ≤ (oPen NB a p).1 3 ∧ (oPen NB a p).1 3 ≤ NB := by
  unfold oPen
  split
  · exact hp
  · exact oApp_3 (p := (va_up p.1 6 a, p.2)) hp
theorem shC_no {NB : Nat} {w c r : Int} {pic : Nat → Int} {t : oT} (hn : oNo NB t.1 t.2) (hp : cr pic) (hc : 0 ≤ c ∧ c < w) (hw : w ≤ 40) (hr : 0 ≤ r ∧ r < 16) : oNo NB (shC NB w pic c r t).1 (shC NB w pic c r t).2 := by
  unfold shC
  by_cases e : t.2 (r * w + c).toNat = pic (r * w + c).toNat
  · rw [if_pos e, if_pos e]; exact hn
  · rw [if_neg e, if_neg e]
    have hv := hp (r * w + c).toNat
    obtain ⟨h3, h4, h5, h6, h7, hs⟩ := hn
    have m := @oMove_45 NB c r t.1
    have k := @oPen_k NB (pic (r * w + c).toNat / 128) (oMove NB c r t.1)
    refine ⟨oApp_3 (oPen_h3 (oMove_3 h3)), ?_, ?_, ?_, ?_, cr_up hs hv⟩
    · show -1 ≤ (if c = w - 1 then -1 else c + 1) ∧ (if c = w - 1 then -1 else c + 1) < 99
      split <;> omega
    · show 0 ≤ (oPen NB (pic (r * w + c).toNat / 128) (oMove NB c r t.1)).1 5 ∧ (oPen NB (pic (r * w + c).toNat / 128) (oMove NB c r t.1)).1 5 < 99
      rw [k.2.1, m.2.1]; omega
    · show 0 ≤ (oPen NB (pic (r * w + c).toNat / 128) (oMove NB c r t.1)).1 6 ∧ (oPen NB (pic (r * w + c).toNat / 128) (oMove NB c r t.1)).1 6 < 4096
      rw [k.1]; omega
    · show 0 ≤ (oPen NB (pic (r * w + c).toNat / 128) (oMove NB c r t.1)).1 7 ∧ (oPen NB (pic (r * w + c).toNat / 128) (oMove NB c r t.1)).1 7 ≤ 1
      rw [k.2.2, oMove_7]; exact h7
theorem shR_no {NB : Nat} {w r : Int} {pic : Nat → Int} (hp : cr pic) (hw : w ≤ 40) (hr : 0 ≤ r ∧ r < 16) : ∀ (j : Nat) (c : Int) (t : oT), (w - c).toNat = j → 0 ≤ c → c ≤ w → oNo NB t.1 t.2 → oNo NB (shR NB w pic r j c t).1 (shR NB w pic r j c t).2
  | 0, _, _, _, _, _, hn => hn
  | j + 1, c, t, hj, h1, h2, hn => shR_no hp hw hr j (c + 1) _ (by omega) (by omega) (by omega) (shC_no hn hp (by omega) hw hr)
theorem shA_no {NB : Nat} {w H : Int} {pic : Nat → Int} (hp : cr pic) (hw : 0 ≤ w ∧ w ≤ 40) (hH : H ≤ 16) : ∀ (j : Nat) (r : Int) (t : oT), (H - r).toNat = j → 0 ≤ r → r ≤ H → oNo NB t.1 t.2 → oNo NB (shA NB w pic j r t).1 (shA NB w pic j r t).2
  | 0, _, _, _, _, _, hn => hn
  | j + 1, r, t, hj, h1, h2, hn => shA_no hp hw hH j (r + 1) _ (by omega) (by omega) (by omega) (shR_no hp hw.2 (by omega) _ 0 t (by rw [Int.sub_zero]) (by omega) (by omega) hn)
/-- the outer screen, REDRAWN -/
def hRed (w H : Int) (N NB : Nat) (s : hS) : oT := shA NB w (hDraw w H N s) H.toNat 0 ((va_up (hOp s).1 3 0, (hOp s).2), hSh s)
def sRed (w H : Int) (N NB : Nat) (s : hS) : hS := sOut (oEnd NB (hCc s) (hCr s) (hSee s) (hRed w H N NB s).1) (hRed w H N NB s).2 (sPic (hDraw w H N s) s)
set_option maxHeartbeats 4000000 in
set_option maxRecDepth 100000 in
theorem lX9_red1 {E : pw_E} (htr : E.1.stackTraces = false) {Kk : pw_K} {n : Nat} {w H : Int} {N NH NB NL B : Nat} {s : hS} {h0 : pz_H} (hG : geoH w H N NH NB NL) (hcr : cr (hPic s)) {r : Int} (hr : 0 ≤ r ∧ r < H) : ∀ (j : Nat) (c : Int) (h : pz_H) (t : oT), (w - c).toNat = j → 0 ≤ c → c ≤ w → hAt w H N NH NB NL B (sOut t.1 t.2 s) h → hFr B n (hD s) h0 h → oNo NB t.1 t.2 → (∀ h' c', hAt w H N NH NB NL B (sOut (shR NB w (hPic s) r j c t).1 (shR NB w (hPic s) r j c t).2 s) h' → hFr B n (hD s) h0 h' → pw E YX9_redraw (rmD 14 0 0) Kk 0 0 59 [some (.ref B), some (.int (zI r)), some (.int (zI c'))] [] h' n) → pw E YX9_redraw (rmD 14 0 0) Kk 0 0 23 [some (.ref B), some (.int (zI (r))), some (.int (zI (c)))] [] h n := by
  obtain ⟨⟨gw, gH, gN, gN2, gNH⟩, gNB, gNL⟩ := hG
  have hz1 := zrow (row := r) (w := w) (H := H) (by omega) (by omega) (by omega)
  intro j
  induction j with
  | zero =>
    intro c h t hj h1 h2 hA hF hn hQ
    obtain ⟨n3, n4, n5, n6, n7, n8⟩ := hn
    refine pw_iload_n dX9_redraw_23 rfl ?_
    refine pw_aload_n dX9_redraw_24 rfl ?_
    refine pw_get (v := .int (zI (w))) okX9 (k := 0) (by decide) lkX9_23 hA.1 rfl dX9_redraw_25 ?_
    refine pw_icmp_ge (tgt := 59) dX9_redraw_28 rfl (by omega) (by omega) (fun c28 => ?_) (fun c28 => ?_)
    ·
      exact hQ h c hA hF
    · exfalso; omega
  | succ j ih =>
    intro c h t hj h1 h2 hA hF hn hQ
    obtain ⟨n3, n4, n5, n6, n7, n8⟩ := id hn
    refine pw_iload_n dX9_redraw_23 rfl ?_
    refine pw_aload_n dX9_redraw_24 rfl ?_
    refine pw_get (v := .int (zI (w))) okX9 (k := 0) (by decide) lkX9_23 hA.1 rfl dX9_redraw_25 ?_
    refine pw_icmp_ge (tgt := 59) dX9_redraw_28 rfl (by omega) (by omega) (fun c28 => ?_) (fun c28 => ?_)
    · exfalso; omega
    ·
      refine pw_aload_n dX9_redraw_31 rfl ?_
      refine pw_get (v := .ref (B + 110)) okX9 (k := 4) (by decide) lkX9_43 hA.1 rfl dX9_redraw_32 ?_
      refine pw_iload_n dX9_redraw_35 rfl ?_
      refine pw_iload_n dX9_redraw_36 rfl ?_
      refine pw_aload_n dX9_redraw_37 rfl ?_
      refine pw_get (v := .ref (B + 113)) okX9 (k := 5) (by decide) lkX9_47 hA.1 rfl dX9_redraw_38 ?_
      refine pw_iload_n dX9_redraw_41 rfl ?_
      refine pw_aload_n dX9_redraw_42 rfl ?_
      refine pw_get (v := .int (zI (w))) okX9 (k := 0) (by decide) lkX9_23 hA.1 rfl dX9_redraw_43 ?_
      refine pw_zimul dX9_redraw_46 ?_
      refine pw_iload_n dX9_redraw_47 rfl ?_
      refine pw_ziadd dX9_redraw_48 ?_
      refine pw_iald (t := 0) rfl hA.2.2.2.2.2.2.2.1 (by omega) (by omega) dX9_redraw_49 ?_
      refine pw_callV (As := [.int (zI c), .int (zI r), .int (zI (hPic s (r * w + c).toNat))]) (b := (B + 110)) (rm := rmD 4 0 0) (mX3_show htr hA.2.2.2.2.2.2.1 n3 (by omega) gw gH gN gN2 (by omega) (by omega) (hcr _) n8 n4 n5 n6) rfl hA.2.2.2.2.2.2.1.1 rfl rfl ywX3_show rfl cwX9_152 ⟨nle rfl, nle rfl⟩ (nle rfl) ⟨nle rfl, nle rfl⟩ dX9_redraw_50 ?_ (fun _ _ _ z => z.elim)
      intro r_9 h_9 n_9 hq _
      rw [hq.1, hq.2.1, hq.2.2]
      show pw E YX9_redraw _ _ 0 0 53 [some (.ref B), some (.int (zI (r))), some (.int (zI (c)))] [] (oP w N NB (hZ B) (shC NB w (hPic s) c r t).1 (shC NB w (hPic s) c r t).2 h) n
      have hA1 : hAt w H N NH NB NL B (sOut (shC NB w (hPic s) c r t).1 (shC NB w (hPic s) c r t).2 s) (oP w N NB (hZ B) (shC NB w (hPic s) c r t).1 (shC NB w (hPic s) c r t).2 h) := by have z := hAt_out (p := (shC NB w (hPic s) c r t).1) (sh := (shC NB w (hPic s) c r t).2) hA; exact z
      have hF1 : hFr B n (hD s) h0 (oP w N NB (hZ B) (shC NB w (hPic s) c r t).1 (shC NB w (hPic s) c r t).2 h) := hFr_tr hF (hFr_in (lo := B + 110) (hi := B + 112) (fun a ha => oP_out ha) (by omega) (by omega))
      revert hA1 hF1
      generalize (oP w N NB (hZ B) (shC NB w (hPic s) c r t).1 (shC NB w (hPic s) c r t).2 h) = h1
      intro hA1 hF1
      refine pw_ziinc (lv' := [some (.ref B), some (.int (zI (r))), some (.int (zI (c + 1)))]) dX9_redraw_53 rfl (by decide) rfl rfl ?_
      refine pw_goto (tgt := 23) dX9_redraw_56 rfl ?_
      exact ih (c + 1) h1 _ (by omega) (by omega) (by omega) hA1 hF1 (shC_no hn hcr (by omega) (by omega) (by omega)) hQ
set_option maxHeartbeats 4000000 in
set_option maxRecDepth 100000 in
theorem lX9_red2 {E : pw_E} (htr : E.1.stackTraces = false) {Kk : pw_K} {n : Nat} {w H : Int} {N NH NB NL B : Nat} {s : hS} {h0 : pz_H} (hG : geoH w H N NH NB NL) (hcr : cr (hPic s)) : ∀ (j : Nat) (r : Int) (h : pz_H) (t : oT) (q1 : Option Value), (H - r).toNat = j → 0 ≤ r → r ≤ H → hAt w H N NH NB NL B (sOut t.1 t.2 s) h → hFr B n (hD s) h0 h → oNo NB t.1 t.2 → (∀ h' r' q', hAt w H N NH NB NL B (sOut (shA NB w (hPic s) j r t).1 (shA NB w (hPic s) j r t).2 s) h' → hFr B n (hD s) h0 h' → pw E YX9_redraw (rmD 14 0 0) Kk 0 0 65 [some (.ref B), some (.int (zI r')), q'] [] h' n) → pw E YX9_redraw (rmD 14 0 0) Kk 0 0 13 [some (.ref B), some (.int (zI (r))), q1] [] h n := by
  obtain ⟨⟨gw, gH, gN, gN2, gNH⟩, gNB, gNL⟩ := id hG
  intro j
  induction j with
  | zero =>
    intro r h t q1 hj h1 h2 hA hF hn hQ
    refine pw_iload_n dX9_redraw_13 rfl ?_
    refine pw_aload_n dX9_redraw_14 rfl ?_
    refine pw_get (v := .int (zI (H))) okX9 (k := 1) (by decide) lkX9_27 hA.1 rfl dX9_redraw_15 ?_
    refine pw_icmp_ge (tgt := 65) dX9_redraw_18 rfl (by omega) (by omega) (fun c18 => ?_) (fun c18 => ?_)
    ·
      exact hQ h r q1 hA hF
    · exfalso; omega
  | succ j ih =>
    intro r h t q1 hj h1 h2 hA hF hn hQ
    refine pw_iload_n dX9_redraw_13 rfl ?_
    refine pw_aload_n dX9_redraw_14 rfl ?_
    refine pw_get (v := .int (zI (H))) okX9 (k := 1) (by decide) lkX9_27 hA.1 rfl dX9_redraw_15 ?_
    refine pw_icmp_ge (tgt := 65) dX9_redraw_18 rfl (by omega) (by omega) (fun c18 => ?_) (fun c18 => ?_)
    · exfalso; omega
    ·
      refine pw_iconst (v := zI (0)) dX9_redraw_21 (by decide) ?_
      refine pw_istore_n (lv' := [some (.ref B), some (.int (zI (r))), some (.int (zI (0)))]) dX9_redraw_22 (by decide) rfl rfl ?_
      refine lX9_red1 htr hG hcr (by omega) _ 0 h t rfl (by omega) (by omega) hA hF hn (fun h1 c1 hA1 hF1 => ?_)
      refine pw_ziinc (lv' := [some (.ref B), some (.int (zI (r + 1))), some (.int (zI c1))]) dX9_redraw_59 rfl (by decide) rfl rfl ?_
      refine pw_goto (tgt := 13) dX9_redraw_62 rfl ?_
      rw [Int.sub_zero] at hA1
      exact ih (r + 1) h1 _ _ (by omega) (by omega) (by omega) hA1 hF1 (shR_no hcr (by omega) (by omega) _ 0 t (by rw [Int.sub_zero]) (by omega) (by omega) hn) hQ
set_option maxHeartbeats 4000000 in
set_option maxRecDepth 100000 in
/-- redraw() -/
theorem mX9_redraw {E : pw_E} (htr : E.1.stackTraces = false) {h : pz_H} {n : Nat} {w H M : Int} {N NH NB NL B : Nat} {s : hS} (hG : geoH w H N NH NB NL) (hA : hAt w H N NH NB NL B s h) (hg : hGd w H M NB s) (hM : 0 ≤ M ∧ M ≤ 900000000)  : pw_M E yX9_redraw YX9_redraw (rmD 14 0 0) [.ref B] h n (fun r h' n' => r = some (.int (zI ((hOp (sRed w H N NB s)).1 3))) ∧ hAt w H N NH NB NL B (sRed w H N NB s) h' ∧ hFr B n (hD s) h h' ∧ n' = n) (fun _ _ _ => False) := by
  have hG0 := hG
  have hg0 := hg
  obtain ⟨gG, gNB, gNL⟩ := hG
  have gG0 := gG
  obtain ⟨gw, gH, gN, gN2, gNH⟩ := gG
  obtain ⟨gP, gL, gY, gF, gFl, gPr, gC, gO, gPi, gLi⟩ := hg
  obtain ⟨gO3, gO4, gO5, gO6, gO7, gOc⟩ := gO
  obtain ⟨p3, p4, p5, p6, p9, p10, pcl, pT, pR, pcm, pof, pto⟩ := gP (hFoc s).toNat (by omega)
  have pg := gL (hFoc s).toNat (by omega) gFl
  have hsee : 0 ≤ hSee s ∧ hSee s ≤ 1 := by unfold hSee; split <;> omega
  obtain ⟨le, hle⟩ := Option.ne_none_iff_exists'.mp gFl
  obtain ⟨a2, a3, a0, a1⟩ := gY.2.2.2.2.2 _ _ hle
  have hNB : NB ≤ 100000 := by
    have h1 : w * H ≤ 640 := by omega
    omega
  refine pw_M_of (lv := [some (.ref B), none, none]) (by decide) rfl rfl htr (nle rfl) rfl (fun L => ?_)
  refine pw_aload_n dX9_redraw_0 rfl ?_
  refine pw_callV (As := []) (b := B) (rm := rmD 13 0 0) (mX9_drawPicture htr hG0 hA hg0 hM) rfl hA.1 rfl rfl ywX9_drawPicture rfl cwX9_148 ⟨nle rfl, nle rfl⟩ (nle rfl) ⟨nle rfl, nle rfl⟩ dX9_redraw_1 ?_ (fun _ _ _ z => z.elim)
  intro r2 h2 n2 hq _
  obtain ⟨e1, hA2, hF2, e4⟩ := hq
  rw [e1, e4]
  show pw E YX9_redraw _ _ 0 0 4 [some (.ref B), none, none] [] h2 n
  refine pw_aload_n dX9_redraw_4 rfl ?_
  refine pw_get (v := .ref (B + 110)) okX9 (k := 4) (by decide) lkX9_43 hA2.1 rfl dX9_redraw_5 ?_
  refine pw_callV (As := []) (b := (B + 110)) (rm := rmD 0 0 0) (mX3_begin htr hA2.2.2.2.2.2.2.1 gO3 (by omega)) rfl hA2.2.2.2.2.2.2.1.1 rfl rfl ywX3_begin rfl cwX9_151 ⟨nle rfl, nle rfl⟩ (nle rfl) ⟨nle rfl, nle rfl⟩ dX9_redraw_8 ?_ (fun _ _ _ z => z.elim)
  intro r_9 h_9 n_9 hq _
  rw [hq.1, hq.2.1, hq.2.2]
  show pw E YX9_redraw _ _ 0 0 11 [some (.ref B), none, none] [] (oP w N NB (hZ B) (va_up (hOp s).1 3 0, (hOp s).2) (hSh s) h2) n
  have hA1 : hAt w H N NH NB NL B (sOut (va_up (hOp s).1 3 0, (hOp s).2) (hSh s) (sPic (hDraw w H N s) s)) (oP w N NB (hZ B) (va_up (hOp s).1 3 0, (hOp s).2) (hSh s) h2) := hAt_out (p := (va_up (hOp s).1 3 0, (hOp s).2)) (sh := hSh s) hA2
  have hF1 : hFr B n (hD s) h (oP w N NB (hZ B) (va_up (hOp s).1 3 0, (hOp s).2) (hSh s) h2) := hFr_tr hF2 (hFr_in (lo := B + 110) (hi := B + 112) (fun a ha => oP_out ha) (by omega) (by omega))
  revert hA1 hF1
  generalize (oP w N NB (hZ B) (va_up (hOp s).1 3 0, (hOp s).2) (hSh s) h2) = h1
  intro hA1 hF1
  refine pw_iconst (v := zI (0)) dX9_redraw_11 (by decide) ?_
  refine pw_istore_n (lv' := [some (.ref B), some (.int (zI (0))), none]) dX9_redraw_12 (by decide) rfl rfl ?_
  refine lX9_red2 (s := sPic (hDraw w H N s) s) htr hG0 (hDraw_cr hg0) _ 0 h1 ((va_up (hOp s).1 3 0, (hOp s).2), hSh s) _ rfl (by omega) (by omega) hA1 hF1 ⟨⟨by show (0 : Int) ≤ 0; decide, by show (0 : Int) ≤ NB; omega⟩, gO4, gO5, gO6, gO7, gOc⟩ (fun h5 r5 q5 hA5 hF5 => ?_)
  rw [Int.sub_zero] at hA5
  have hA5 : hAt w H N NH NB NL B (sOut (hRed w H N NB s).1 (hRed w H N NB s).2 (sPic (hDraw w H N s) s)) h5 := hA5
  have hno := shA_no (NB := NB) (hDraw_cr (N := N) hg0) ⟨by omega, gw.2⟩ gH.2 H.toNat 0 ((va_up (hOp s).1 3 0, (hOp s).2), hSh s) (by rw [Int.sub_zero]) (by omega) (by omega) ⟨⟨by show (0 : Int) ≤ 0; decide, by show (0 : Int) ≤ NB; omega⟩, gO4, gO5, gO6, gO7, gOc⟩
  have hno : oNo NB (hRed w H N NB s).1 (hRed w H N NB s).2 := hno
  obtain ⟨n3, n4, n5, n6, n7, n8⟩ := hno
  refine pw_aload_n dX9_redraw_65 rfl ?_
  refine pw_get (v := .ref (B + 110)) okX9 (k := 4) (by decide) lkX9_43 hA5.1 rfl dX9_redraw_66 ?_
  refine pw_aload_n dX9_redraw_69 rfl ?_
  refine pw_callV (As := []) (b := B) (rm := rmD 0 0 0) (mX9_cursorColumn (I := pnI (B + 3 + 13 * (hFoc s).toNat)) (F := (hX s (hFoc s).toNat).1.1.1) (x := hP s le) htr hA5.1 hA5.2.1 hA5.2.2.2.2.1 hA5.2.2.2.2.2.1 (hA_pn hA5 (k := (hFoc s).toNat) (by omega)).2.1 (hA_pn hA5 (k := (hFoc s).toNat) (by omega)).1.1.1.1 (hA5.2.2.2.2.2.2.2.2.2.1 _ (gY.2.1 _ _ hle)) (hPv_s gF) hle gF) rfl hA5.1 rfl rfl ywX9_cursorColumn rfl cwX9_155 ⟨nle rfl, nle rfl⟩ (nle rfl) ⟨nle rfl, nle rfl⟩ dX9_redraw_70 ?_ (fun _ _ _ z => z.elim)
  intro r_9 h_9 n_9 hq _
  rw [hq.1, hq.2.1, hq.2.2]
  show pw E YX9_redraw _ _ 0 0 73 [some (.ref B), some (.int (zI (r5))), q5] [.int (zI ((hP s le).1 0 + (hX s (hFoc s).toNat).1.1.1 5)), .ref (B + 110)] h5 n
  refine pw_aload_n dX9_redraw_73 rfl ?_
  refine pw_callV (As := []) (b := B) (rm := rmD 0 0 0) (mX9_cursorRow (I := pnI (B + 3 + 13 * (hFoc s).toNat)) (F := (hX s (hFoc s).toNat).1.1.1) (x := hP s le) htr hA5.1 hA5.2.1 hA5.2.2.2.2.1 hA5.2.2.2.2.2.1 (hA_pn hA5 (k := (hFoc s).toNat) (by omega)).2.1 (hA_pn hA5 (k := (hFoc s).toNat) (by omega)).1.1.1.1 (hA5.2.2.2.2.2.2.2.2.2.1 _ (gY.2.1 _ _ hle)) (hPv_s gF) hle gF) rfl hA5.1 rfl rfl ywX9_cursorRow rfl cwX9_158 ⟨nle rfl, nle rfl⟩ (nle rfl) ⟨nle rfl, nle rfl⟩ dX9_redraw_74 ?_ (fun _ _ _ z => z.elim)
  intro r_9 h_9 n_9 hq _
  rw [hq.1, hq.2.1, hq.2.2]
  show pw E YX9_redraw _ _ 0 0 77 [some (.ref B), some (.int (zI (r5))), q5] [.int (zI ((hP s le).1 1 + (hX s (hFoc s).toNat).1.1.1 6)), .int (zI ((hP s le).1 0 + (hX s (hFoc s).toNat).1.1.1 5)), .ref (B + 110)] h5 n
  refine pw_aload_n dX9_redraw_77 rfl ?_
  refine pw_get (v := .ref (B + 1)) okX9 (k := 2) (by decide) lkX9_11 hA5.1 rfl dX9_redraw_78 ?_
  refine pw_aload_n dX9_redraw_81 rfl ?_
  refine pw_get (v := .int (zI (hFoc s))) okX9 (k := 9) (by decide) lkX9_88 hA5.1 rfl dX9_redraw_82 ?_
  refine pw_aaldO (t := 3) rfl hA5.2.1 (by omega) (by decide) dX9_redraw_85 ?_
  rw [show rv (hPv B (hFoc s).toNat) = Value.ref (B + 3 + 13 * (hFoc s).toNat) from by rw [hPv_s (by omega)]; rfl]
  refine pw_callV (As := []) (b := (B + 3 + 13 * (hFoc s).toNat)) (rm := rmD 0 0 0) (mX4_seesCursor htr gG0 (hA_pn hA5 (k := (hFoc s).toNat) (by omega)).1.1 pg.1.1 (hA_pn hA5 (k := (hFoc s).toNat) (by omega)).2.1 (fun i _ => pnI_ne (by omega)) pcm ⟨pof.1, Int.le_trans pof.2 (by decide)⟩) rfl (hA_pn hA5 (by omega)).2.1 rfl rfl ywX4_seesCursor rfl cwX9_161 ⟨nle rfl, nle rfl⟩ (nle rfl) ⟨nle rfl, nle rfl⟩ dX9_redraw_86 ?_ (fun _ _ _ z => z.elim)
  intro r_9 h_9 n_9 hq _
  rw [hq.1, hq.2.1, hq.2.2]
  show pw E YX9_redraw _ _ 0 0 89 [some (.ref B), some (.int (zI (r5))), q5] [.int (zI (if ¬ (hX s (hFoc s).toNat).1.1.1 16 = 0 ∧ (hX s (hFoc s).toNat).2.1.1 = 0 then 1 else 0)), .int (zI ((hP s le).1 1 + (hX s (hFoc s).toNat).1.1.1 6)), .int (zI ((hP s le).1 0 + (hX s (hFoc s).toNat).1.1.1 5)), .ref (B + 110)] h5 n
  have ecc : hCc s = (hP s le).1 0 + (hX s (hFoc s).toNat).1.1.1 5 := by unfold hCc; rw [hle]; rfl
  have ecr : hCr s = (hP s le).1 1 + (hX s (hFoc s).toNat).1.1.1 6 := by unfold hCr; rw [hle]; rfl
  change pw E YX9_redraw _ _ 0 0 89 [some (.ref B), some (.int (zI (r5))), q5] [.int (zI (hSee s)), .int (zI ((hP s le).1 1 + (hX s (hFoc s).toNat).1.1.1 6)), .int (zI ((hP s le).1 0 + (hX s (hFoc s).toNat).1.1.1 5)), .ref (B + 110)] h5 n
  rw [← ecc, ← ecr]
  refine pw_callV (As := [.int (zI (hCc s)), .int (zI (hCr s)), .int (zI (hSee s))]) (b := (B + 110)) (rm := rmD 3 0 0) (mX3_end htr hA5.2.2.2.2.2.2.1 n3 (by omega) (by omega) (by omega) hsee n4 n5 n7) rfl hA5.2.2.2.2.2.2.1.1 rfl rfl ywX3_end rfl cwX9_165 ⟨nle rfl, nle rfl⟩ (nle rfl) ⟨nle rfl, nle rfl⟩ dX9_redraw_89 ?_ (fun _ _ _ z => z.elim)
  intro r_9 h_9 n_9 hq _
  rw [hq.1, hq.2.1, hq.2.2]
  show pw E YX9_redraw _ _ 0 0 92 [some (.ref B), some (.int (zI (r5))), q5] [] (oP w N NB (hZ B) (oEnd NB (hCc s) (hCr s) (hSee s) (hRed w H N NB s).1) (hRed w H N NB s).2 h5) n
  have hA2 : hAt w H N NH NB NL B (sRed w H N NB s) (oP w N NB (hZ B) (oEnd NB (hCc s) (hCr s) (hSee s) (hRed w H N NB s).1) (hRed w H N NB s).2 h5) := by have z := hAt_out (p := (oEnd NB (hCc s) (hCr s) (hSee s) (hRed w H N NB s).1)) (sh := (hRed w H N NB s).2) hA5; exact z
  have hF2 : hFr B n (hD s) h (oP w N NB (hZ B) (oEnd NB (hCc s) (hCr s) (hSee s) (hRed w H N NB s).1) (hRed w H N NB s).2 h5) := hFr_tr hF5 (hFr_in (lo := B + 110) (hi := B + 112) (fun a ha => oP_out ha) (by omega) (by omega))
  revert hA2 hF2
  generalize (oP w N NB (hZ B) (oEnd NB (hCc s) (hCr s) (hSee s) (hRed w H N NB s).1) (hRed w H N NB s).2 h5) = h2
  intro hA2 hF2
  refine pw_aload_n dX9_redraw_92 rfl ?_
  refine pw_get (v := .ref (B + 110)) okX9 (k := 4) (by decide) lkX9_43 hA2.1 rfl dX9_redraw_93 ?_
  refine pw_getN (v := .int (zI ((hOp (sRed w H N NB s)).1 3))) okX3 (k := 3) (by decide) lkX9_169 hA2.2.2.2.2.2.2.1.1 rfl dX9_redraw_96 ?_
  exact pw_iret dX9_redraw_99 rfl (nle rfl) (nle rfl) ⟨rfl, hA2, hF2, rfl⟩
