/-! ===== what all methods want of the house is kept ===== -/
theorem pWk_mono {w H M M' : Int} {x : pSt} (hx : pWk w H M x) (hM : M ≤ M') : pWk w H M' x := by
  obtain ⟨p3, p4, p5, p6, p9, p10, pcl, pT, pR, pcm, pof, pto⟩ := hx
  exact ⟨p3, p4, p5, p6, p9, p10, pcl, pT, pR, pcm, pof, pto.1, by omega⟩
theorem pWk_rGd {w H M : Int} {x : pSt} (hx : rGd w H x.1) (hw : w ≤ 40) (hH : H ≤ 16) (hcm : 0 ≤ x.2.1.1 ∧ x.2.1.1 ≤ 1) (hof : 0 ≤ x.2.1.2 ∧ x.2.1.2 ≤ 30) (hto : 0 ≤ x.2.2.2 ∧ x.2.2.2 ≤ M) : pWk w H M x := by
  obtain ⟨⟨hok, hcl⟩, hno⟩ := hx
  obtain ⟨a3, a4, a5, a6, a7, a8, a9, a10, a11, a12, a14, a15, a16, a17, t3, t4⟩ := id hok
  exact ⟨by omega, by omega, by omega, by omega, by omega, by omega, hcl, ⟨t3, t4⟩, hno, hcm, hof, hto⟩
theorem hGd_X {w H M M' : Int} {NB k : Nat} {s : hS} {x : pSt} (hg : hGd w H M NB s) (hM : M ≤ M') (hx : pWk w H M' x) (hr : ¬ hLv s k = none → rGd w H x.1) : hGd w H M' NB (sX k x s) := by
  obtain ⟨g1, g2, g3, g4, g5, g6, g7, g8, g9, g10⟩ := hg
  refine ⟨fun j hj => ?_, fun j hj hl => ?_, g3, g4, g5, g6, g7, g8, g9, g10⟩
  · show pWk w H M' (va_up s.1 k x j)
    by_cases e : j = k
    · subst e; rw [va_up_self]; exact hx
    · rw [va_up_ne _ _ e]; exact pWk_mono (g1 j hj) hM
  · show rGd w H (va_up s.1 k x j).1
    by_cases e : j = k
    · subst e; rw [va_up_self]; exact hr hl
    · rw [va_up_ne _ _ e]; exact g2 j hj hl
theorem hGd_mono {w H M M' : Int} {NB : Nat} {s : hS} (hg : hGd w H M NB s) (hM : M ≤ M') : hGd w H M' NB s := by
  obtain ⟨g1, g2, g3, g4, g5, g6, g7, g8, g9, g10⟩ := hg
  exact ⟨fun j hj => pWk_mono (g1 j hj) hM, g2, g3, g4, g5, g6, g7, g8, g9, g10⟩
theorem hGd_foc {w H M i : Int} {NB : Nat} {s : hS} (hg : hGd w H M NB s) (hi : 0 ≤ i ∧ i < 8) (hl : ¬ hLv s i.toNat = none) : hGd w H M NB (sFoc i s) := by
  obtain ⟨g1, g2, g3, g4, g5, g6, g7, g8, g9, g10⟩ := hg
  exact ⟨g1, g2, g3, hi, hl, g6, g7, g8, g9, g10⟩
theorem hGd_pic {w H M : Int} {NB : Nat} {s : hS} {f : Nat → Int} (hg : hGd w H M NB s) (hf : cr f) : hGd w H M NB (sPic f s) := by
  obtain ⟨g1, g2, g3, g4, g5, g6, g7, g8, g9, g10⟩ := hg
  exact ⟨g1, g2, g3, g4, g5, g6, g7, g8, hf, g10⟩
theorem hGd_lin {w H M : Int} {NB : Nat} {s : hS} {f : Nat → Int} (hg : hGd w H M NB s) (hf : cr f) : hGd w H M NB (sLin f s) := by
  obtain ⟨g1, g2, g3, g4, g5, g6, g7, g8, g9, g10⟩ := hg
  exact ⟨g1, g2, g3, g4, g5, g6, g7, g8, g9, hf⟩
theorem hGd_clp {w H M : Int} {NB : Nat} {s : hS} {c : clC} (hg : hGd w H M NB s) (hc : 0 ≤ c.2 ∧ c.2 ≤ 400) : hGd w H M NB (sClp c s) := by
  obtain ⟨g1, g2, g3, g4, g5, g6, g7, g8, g9, g10⟩ := hg
  exact ⟨g1, g2, g3, g4, g5, g6, hc, g8, g9, g10⟩
theorem hGd_out {w H M : Int} {NB : Nat} {s : hS} {p : oPr} {sh : Nat → Int} (hg : hGd w H M NB s) (ho : oNo NB p sh) : hGd w H M NB (sOut p sh s) := by
  obtain ⟨g1, g2, g3, g4, g5, g6, g7, g8, g9, g10⟩ := hg
  exact ⟨g1, g2, g3, g4, g5, g6, g7, ho, g9, g10⟩
/-- feed -/
theorem fdRun_gd {w H : Int} {NH : Nat} {v : Int64} : ∀ (j : Nat) (i : Int) (t : rSt), rGd w H t → rGd w H (fdRun w H NH v j i t)
  | 0, _, _, ht => ht
  | j + 1, i, t, ht => fdRun_gd j (i + 1) _ (rTake_gd ht)
theorem hGd_feed {w H M : Int} {NB NH : Nat} {s : hS} {v : Int64} {k p : Int} (hg : hGd w H M NB s) (hw : w ≤ 40) (hH : H ≤ 16) (hp : 0 ≤ p ∧ p < 8) (hl : ¬ hLv s p.toNat = none) : hGd w H M NB (sX p.toNat (fdRun w H NH v k.toNat 0 (hX s p.toNat).1, (hX s p.toNat).2) s) := by
  have h1 := hg.1 p.toNat (by omega)
  have h2 := fdRun_gd (NH := NH) (v := v) k.toNat 0 _ (hg.2.1 p.toNat (by omega) hl)
  obtain ⟨p3, p4, p5, p6, p9, p10, pcl, pT, pR, pcm, pof, pto⟩ := h1
  exact hGd_X hg (Int.le_refl M) (pWk_rGd h2 hw hH pcm pof pto) (fun _ => h2)
/-- copy -/
theorem pLook_b {cm of sz up : Int} (hof : 0 ≤ of ∧ of ≤ 30) (hsz : 0 ≤ sz ∧ sz ≤ 30) : 0 ≤ pLook cm of sz up ∧ pLook cm of sz up ≤ 30 := by
  unfold pLook
  split
  · exact hof
  · omega
theorem hGd_copy {w H M : Int} {NB : Nat} {s : hS} {p on up : Int} (hg : hGd w H M NB s) (hp : 0 ≤ p ∧ p < 8) (hon : 0 ≤ on ∧ on ≤ 1) : hGd w H M NB (sX p.toNat (pLk up (pCm on (hX s p.toNat))) s) := by
  obtain ⟨p3, p4, p5, p6, p9, p10, pcl, pT, pR, pcm, pof, pto⟩ := hg.1 p.toNat (by omega)
  refine hGd_X hg (Int.le_refl M) ⟨p3, p4, p5, p6, p9, p10, pcl, pT, pR, hon, ?_, pto⟩ (fun hl => hg.2.1 p.toNat (by omega) hl)
  refine pLook_b ?_ pT.2
  show 0 ≤ (if on = (hX s p.toNat).2.1.1 then (hX s p.toNat).2.1.2 else 0) ∧ (if on = (hX s p.toNat).2.1.1 then (hX s p.toNat).2.1.2 else 0) ≤ 30
  split <;> omega
/-- a key that goes to the pane -/
theorem pPr_wk {w H M k : Int} {x : pSt} (hx : pWk w H M x) : pWk w H (M + 1) (pPr k x) := by
  obtain ⟨p3, p4, p5, p6, p9, p10, pcl, pT, pR, pcm, pof, pto⟩ := hx
  unfold pPr
  split
  · exact ⟨p3, p4, p5, p6, p9, p10, pcl, pT, pR, pcm, pof, by show 0 ≤ x.2.2.2 + 1; omega, by show x.2.2.2 + 1 ≤ M + 1; omega⟩
  · have hb : (0 ≤ (pPress x.2.1.1 x.2.1.2 (x.1.1.2.2.2.1 4) k).1 ∧ (pPress x.2.1.1 x.2.1.2 (x.1.1.2.2.2.1 4) k).1 ≤ 1) ∧ (0 ≤ (pPress x.2.1.1 x.2.1.2 (x.1.1.2.2.2.1 4) k).2 ∧ (pPress x.2.1.1 x.2.1.2 (x.1.1.2.2.2.1 4) k).2 ≤ 30) := by
      unfold pPress
      split
      · exact ⟨pcm, pLook_b pof pT.2⟩
      · split
        · exact ⟨pcm, pLook_b pof pT.2⟩
        · split
          · refine ⟨⟨by show (0 : Int) ≤ 0; omega, by show (0 : Int) ≤ 1; omega⟩, ?_⟩
            show 0 ≤ (if 0 = x.2.1.1 then x.2.1.2 else 0) ∧ (if 0 = x.2.1.1 then x.2.1.2 else 0) ≤ 30
            split <;> omega
          · exact ⟨pcm, pof⟩
    exact ⟨p3, p4, p5, p6, p9, p10, pcl, pT, pR, hb.1, hb.2, pto.1, by show x.2.2.2 ≤ M + 1; omega⟩
theorem pPr_1 {k : Int} {x : pSt} : (pPr k x).1 = x.1 := by
  unfold pPr
  split <;> rfl
/-- select -/
theorem hGd_sel {w H M : Int} {NB NL : Nat} {s : hS} {p ro co tr tc : Int} (hg : hGd w H M NB s) (hp : 0 ≤ p ∧ p < 8) : hGd w H M NB (sLin (hSel w H NL p ro co tr tc s).1 (sClp (hSel w H NL p ro co tr tc s).2 s)) := by
  have h1 := slA_ok (H := H) (NL := NL) (ro := ro) (co := co) (tr := tr) (tc := tc) (la := (hX s p.toNat).1.1.1 3 - 1) (x := hX s p.toNat) (hg.1 p.toNat (by omega)).2.2.2.2.2.2.1 (tr + 1 - ro).toNat ro (hLin s, ((hClp s).1, 0)) ⟨hg.2.2.2.2.2.2.2.2.2, by show (0 : Int) ≤ 0; omega, by show (0 : Int) ≤ 400; omega⟩
  exact hGd_lin (hGd_clp hg h1.2) h1.1
/-- cell, and redraw's picture -/
theorem hGd_cell {w H M : Int} {NB N : Nat} {s : hS} (hg : hGd w H M NB s) : hGd w H M NB (sPic (hDraw w H N s) s) := hGd_pic hg (hDraw_cr hg)
/-- all panes get the sizes of their areas -/
theorem hFit_x {w H : Int} {s : hS} {k : Nat} (hk : k < 8) : hX (sFit w H s) k = hFitV w H (hP s) (hLv s k) (hX s k) := hFit_8 hk
theorem pBg_wk {w H M : Int} {x : pSt} (hx : pWk w H M x) (h3 : 1 ≤ x.1.1.1 3) (h4 : 1 ≤ x.1.1.1 4) (hw : w ≤ 40) (hH : H ≤ 16) : pWk w H M (pBg w H x) ∧ rGd w H (pBg w H x).1 := by
  obtain ⟨p3, p4, p5, p6, p9, p10, pcl, pT, pR, pcm, pof, pto⟩ := hx
  have hr : rGd w H (pBg w H x).1 := ⟨⟨zReset_ok ⟨h3, p3.2⟩ ⟨h4, p4.2⟩, zReset_cl pcl⟩, rNo_5 pR (by omega)⟩
  refine ⟨pWk_rGd hr hw hH ⟨by show (0 : Int) ≤ 0; omega, by show (0 : Int) ≤ 1; omega⟩ ?_ ⟨by show (0 : Int) ≤ 0; omega, by show (0 : Int) ≤ M; omega⟩, hr⟩
  show 0 ≤ (if 0 = x.2.1.1 then x.2.1.2 else 0) ∧ (if 0 = x.2.1.1 then x.2.1.2 else 0) ≤ 30
  split <;> omega
/-- a division keeps it, if the layout is in order behind it -/
theorem hGd_divide {w H M p dn : Int} {NB n : Nat} {s : hS} (hg : hGd w H M NB s) (hw : w ≤ 40) (hH : H ≤ 16) (hd : dvOk s p dn) (hly : lyOk w H (sDiv n p dn s)) : hGd w H M NB (sDivide w H n p dn s) := by
  obtain ⟨g1, g2, g3, g4, g5, g6, g7, g8, g9, g10⟩ := hg
  have hq := lyLeast_r (lv := hLv s) (t := 0) 8 0 (by omega)
  have hq0 := hd.2.2.1
  have hqh := lyLeast_has (lv := hLv s) (t := 0) 8 0 (by omega) hq0
  have hq8 : 0 ≤ lyLeast (hLv s) 0 8 0 ∧ lyLeast (hLv s) 0 8 0 < 8 := by omega
  have hlv : hLv (sDiv n p dn s) = va_up (hLv s) (lyLeast (hLv s) 0 8 0).toNat (some (n + 1)) := rfl
  have hlq : hLv (sDiv n p dn s) (lyLeast (hLv s) 0 8 0).toNat = some (n + 1) := by rw [hlv, va_up_self]
  have har := hly.2.2.2.2.2
  have w1 : ∀ k, k < 8 → pWk w H M (hX (sFit w H (sDiv n p dn s)) k) := hFit_wk g1 har hw hH
  have xq : hX (sFit w H (sDiv n p dn s)) (lyLeast (hLv s) 0 8 0).toNat = pRs w H ((hP (sDiv n p dn s) (n + 1)).1 2) ((hP (sDiv n p dn s) (n + 1)).1 3) (hX s (lyLeast (hLv s) 0 8 0).toNat) := by
    rw [hFit_x (by omega), hlq]
    rfl
  have aq := har _ _ hlq
  have bq := pBg_wk (w1 (lyLeast (hLv s) 0 8 0).toNat (by omega)) (by rw [xq]; show 1 ≤ (zResize w H _ _ _).1 3; rw [zResize_3.1]; exact aq.1.1) (by rw [xq]; show 1 ≤ (zResize w H _ _ _).1 4; rw [zResize_3.2]; exact aq.2.1.1) hw hH
  refine ⟨fun k hk => ?_, fun k hk hl => ?_, hly, hq8, ?_, g6, g7, g8, g9, g10⟩
  · show pWk w H M (va_up (hX (sFit w H (sDiv n p dn s))) (lyLeast (hLv s) 0 8 0).toNat (pBg w H (hX (sFit w H (sDiv n p dn s)) (lyLeast (hLv s) 0 8 0).toNat)) k)
    by_cases e : k = (lyLeast (hLv s) 0 8 0).toNat
    · rw [e, va_up_self]; exact bq.1
    · rw [va_up_ne _ _ e]; exact w1 k hk
  · show rGd w H (va_up (hX (sFit w H (sDiv n p dn s))) (lyLeast (hLv s) 0 8 0).toNat (pBg w H (hX (sFit w H (sDiv n p dn s)) (lyLeast (hLv s) 0 8 0).toNat)) k).1
    by_cases e : k = (lyLeast (hLv s) 0 8 0).toNat
    · rw [e, va_up_self]; exact bq.2
    · rw [va_up_ne _ _ e, hFit_x hk]
      have hl2 : ¬ hLv s k = none := fun z => hl (show va_up (hLv s) (lyLeast (hLv s) 0 8 0).toNat (some (n + 1)) k = none from by rw [va_up_ne _ _ e]; exact z)
      have hk2 : hLv (sDiv n p dn s) k = hLv s k := by rw [hlv, va_up_ne _ _ e]
      obtain ⟨b, hb⟩ := Option.ne_none_iff_exists'.mp hl2
      have ab := har k b (hk2.trans hb)
      rw [hk2, hb]
      exact rGd_rs (g2 k hk hl2) ab.1 ab.2.1
  · show ¬ hLv (sDiv n p dn s) (lyLeast (hLv s) 0 8 0).toNat = none
    rw [hlq]
    exact fun z => by cases z
theorem lyLeast_ex {lv : Nat → Option Nat} {t : Int} : ∀ (j : Nat) (i x : Int), 0 ≤ i → i ≤ x → x < i + j → lyHas lv x = t → ¬ lyLeast lv t j i = -1
  | 0, i, x, _, h1, h2, _ => by
    rw [show i + ((0 : Nat) : Int) = i by omega] at h2
    omega
  | j + 1, i, x, h0, h1, h2, h3 => by
    show ¬ (if lyHas lv i = t then i else lyLeast lv t j (i + 1)) = -1
    split
    · omega
    · next c =>
      refine lyLeast_ex j (i + 1) x (by omega) ?_ (by omega) h3
      rcases (show i = x ∨ i + 1 ≤ x by omega) with e | e
      · rw [e] at c; exact absurd h3 c
      · exact e
/-- a removal keeps it, if the layout is in order behind it and a pane is left -/
theorem hGd_remove {w H M p x : Int} {NB : Nat} {s : hS} (hg : hGd w H M NB s) (hw : w ≤ 40) (hH : H ≤ 16) (hp : 0 ≤ p ∧ p < 8) (hd : rmOk (hP s) (hLv s) p) (hly : lyOk w H (sRm p s)) (hx : 0 ≤ x ∧ x < 8) (hxp : ¬ x = p) (hxl : ¬ hLv s x.toNat = none) : hGd w H M NB (sRemove w H p s) := by
  obtain ⟨g1, g2, g3, g4, g5, g6, g7, g8, g9, g10⟩ := hg
  have hlv : hLv (sRm p s) = va_up (hLv s) p.toNat none := if_pos hd
  have har := hly.2.2.2.2.2
  have w1 : ∀ k, k < 8 → pWk w H M (hX (sFit w H (sRm p s)) k) := hFit_wk g1 har hw hH
  have r1 : ∀ k, k < 8 → ¬ hLv (sRm p s) k = none → rGd w H (hX (sFit w H (sRm p s)) k).1 := fun k hk hl => by
    have e : k ≠ p.toNat := fun z => hl (by rw [hlv, z, va_up_self])
    have hk2 : hLv (sRm p s) k = hLv s k := by rw [hlv, va_up_ne _ _ e]
    have hl2 : ¬ hLv s k = none := fun z => hl (hk2.trans z)
    obtain ⟨b, hb⟩ := Option.ne_none_iff_exists'.mp hl2
    have ab := har k b (hk2.trans hb)
    rw [hFit_x hk, hk2, hb]
    exact rGd_rs (g2 k hk hl2) ab.1 ab.2.1
  unfold sRemove
  split
  · next c =>
    have hhx : lyHas (rmLv (hP s) (hLv s) p) x = 1 := by
      unfold lyHas
      refine if_pos ⟨by omega, by omega, ?_⟩
      show ¬ hLv (sRm p s) x.toNat = none
      rw [hlv, va_up_ne _ _ (by omega)]
      exact hxl
    have hne := lyLeast_ex 8 0 x (by omega) (by omega) (by omega) hhx
    have hr := lyLeast_r (lv := rmLv (hP s) (hLv s) p) (t := 1) 8 0 (by omega)
    have hh := lyHas_y (lyLeast_has (lv := rmLv (hP s) (hLv s) p) (t := 1) 8 0 (by omega) hne)
    exact ⟨w1, r1, hly, hh.1, hh.2, g6, g7, g8, g9, g10⟩
  · next c =>
    refine ⟨w1, r1, hly, g4, ?_, g6, g7, g8, g9, g10⟩
    show ¬ hLv (sRm p s) (hFoc s).toNat = none
    rw [hlv, va_up_ne _ _ (by omega)]
    exact g5
