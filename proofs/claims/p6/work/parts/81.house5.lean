def YX9_fitPanes : pw_Y := (RX9, "fitPanes", cX9_fitPanes, 3, none)
theorem ywX9_fitPanes : pw_y yX9_fitPanes YX9_fitPanes 0 := ⟨by decide +kernel, by decide +kernel, by decide +kernel, pw_in 408 (by decide +kernel) (by decide +kernel), pw_in 79 (by decide +kernel) (by decide +kernel)⟩
theorem lkX9_272 : Cond.fieldLinkNest RX9 272 (TX5 2).1 (TX5 2).2.1 (TX5 2).2.2.1 "PaneHouse" ∈ pw_N := by decide +kernel
theorem lkX9_273 : Cond.fieldLinkNest RX9 273 (TX5 3).1 (TX5 3).2.1 (TX5 3).2.2.1 "PaneHouse" ∈ pw_N := by decide +kernel
theorem cwX9_274 : Cond.methodLink RX9 274 yX7_resize ∈ pw_G ∧ Cond.instanceMethod yX7_resize ∈ pw_G ∧ Cond.selects RX7 yX7_resize yX7_resize ∈ pw_G := ⟨pw_in 409 (by decide +kernel) (by decide +kernel), pw_in 410 (by decide +kernel) (by decide +kernel), pw_in 411 (by decide +kernel) (by decide +kernel)⟩
/-- a pane gets another size -/
def pRs (w H a b : Int) (x : pSt) : pSt := ((zResize w H a b x.1.1, x.1.2), x.2)
def hFit1 (w H : Int) (P : Nat → ptC) (o : Option Nat) (i : Nat) (X : Nat → pSt) : Nat → pSt := match o with
  | none => X
  | some a => va_up X i (pRs w H ((P a).1 2) ((P a).1 3) (X i))
/-- all panes get the sizes of their areas -/
def hFit (w H : Int) (P : Nat → ptC) (lv : Nat → Option Nat) : Nat → Int → (Nat → pSt) → Nat → pSt
  | 0, _, X => X
  | j + 1, i, X => hFit w H P lv j (i + 1) (hFit1 w H P (lv i.toNat) i.toNat X)
theorem zResize_3 {w H a b : Int} {s : zSt} : (zResize w H a b s).1 3 = a ∧ (zResize w H a b s).1 4 = b := by
  unfold zResize
  split
  · next c => exact ⟨c.1.symm, c.2.symm⟩
  · exact ⟨rfl, rfl⟩
theorem zResize_T {w H a b : Int} {s : zSt} : (zResize w H a b s).2.2.2 = s.2.2.2 := by
  unfold zResize
  split <;> rfl
theorem pWk_rs {w H M a b : Int} {x : pSt} (hx : pWk w H M x) (ha : 1 ≤ a ∧ a ≤ w) (hb : 1 ≤ b ∧ b ≤ H) (hw : w ≤ 40) (hH : H ≤ 16) : pWk w H M (pRs w H a b x) := by
  obtain ⟨p3, p4, p5, p6, p9, p10, pcl, pT, pR, pcm, pof, pto⟩ := hx
  refine ⟨?_, ?_, ?_, ?_, ?_, ?_, zResize_cl pcl, ?_, pR, pcm, pof, pto⟩
  · show 0 ≤ (zResize w H a b x.1.1).1 3 ∧ (zResize w H a b x.1.1).1 3 ≤ w
    rw [zResize_3.1]; omega
  · show 0 ≤ (zResize w H a b x.1.1).1 4 ∧ (zResize w H a b x.1.1).1 4 ≤ H
    rw [zResize_3.2]; omega
  · show 0 ≤ (zResize w H a b x.1.1).1 5 ∧ (zResize w H a b x.1.1).1 5 ≤ 40
    unfold zResize
    split
    · exact p5
    · show 0 ≤ max 0 (min (a - 1) (x.1.1.1 5)) ∧ max 0 (min (a - 1) (x.1.1.1 5)) ≤ 40; omega
  · show 0 ≤ (zResize w H a b x.1.1).1 6 ∧ (zResize w H a b x.1.1).1 6 ≤ 40
    unfold zResize
    split
    · exact p6
    · show 0 ≤ max 0 (min (b - 1) (x.1.1.1 6)) ∧ max 0 (min (b - 1) (x.1.1.1 6)) ≤ 40; omega
  · show 0 ≤ (zResize w H a b x.1.1).1 9 ∧ (zResize w H a b x.1.1).1 9 ≤ 40
    unfold zResize
    split
    · exact p9
    · show 0 ≤ max 0 (min (a - 1) (x.1.1.1 9)) ∧ max 0 (min (a - 1) (x.1.1.1 9)) ≤ 40; omega
  · show 0 ≤ (zResize w H a b x.1.1).1 10 ∧ (zResize w H a b x.1.1).1 10 ≤ 40
    unfold zResize
    split
    · exact p10
    · show 0 ≤ max 0 (min (b - 1) (x.1.1.1 10)) ∧ max 0 (min (b - 1) (x.1.1.1 10)) ≤ 40; omega
  · show hOk (zResize w H a b x.1.1).2.2.2.1
    rw [zResize_T]; exact pT
theorem rGd_rs {w H a b : Int} {x : pSt} (hx : rGd w H x.1) (ha : 1 ≤ a ∧ a ≤ w) (hb : 1 ≤ b ∧ b ≤ H) : rGd w H (pRs w H a b x).1 := ⟨⟨zResize_ok hx.1.1 ha hb, zResize_cl hx.1.2⟩, hx.2⟩
theorem sXX {s : hS} {X : Nat → pSt} {k : Nat} {x : pSt} : sX k x (X, s.2) = (va_up X k x, s.2) := rfl
set_option maxHeartbeats 4000000 in
set_option maxRecDepth 100000 in
theorem lX9_fit {E : pw_E} (htr : E.1.stackTraces = false) {Kk : pw_K} {n : Nat} {w H M : Int} {N NH NB NL B : Nat} {s : hS} {h0 : pz_H} (gG0 : geo w H N NH) (hlD : ∀ i b, hLv s i = some b → hD s b = true) (har : ∀ i b, hLv s i = some b → arOk w H (hP s b)) : ∀ (j : Nat) (i : Int) (h : pz_H) (X : Nat → pSt) (q : Option Value), (8 - i).toNat = j → 0 ≤ i → i ≤ 8 → hAt w H N NH NB NL B (X, s.2) h → hFr B n (hD s) h0 h → (∀ k, k < 8 → pWk w H M (X k)) → (∀ h', hAt w H N NH NB NL B (hFit w H (hP s) (hLv s) j i X, s.2) h' → hFr B n (hD s) h0 h' → Kk.2.2.1 none h' n) → pw E YX9_fitPanes (rmD 5 0 0) Kk 0 0 2 [some (.ref B), some (.int (zI (i))), q] [] h n := by
  have gG1 := gG0
  obtain ⟨gw, gH, gN, gN2, gNH⟩ := gG1
  intro j
  induction j with
  | zero =>
    intro i h X q hj h1 h2 hA hF gP hQ
    refine pw_iload_n dX9_fitPanes_2 rfl ?_
    refine pw_bipush (v := zI (8)) dX9_fitPanes_3 (by decide) ?_
    refine pw_icmp_ge (tgt := 48) dX9_fitPanes_5 rfl (by omega) (by omega) (fun c5 => ?_) (fun c5 => ?_)
    ·
      exact pw_vret dX9_fitPanes_48 rfl (nle rfl) (nle rfl) (hQ h hA hF)
    · exfalso; omega
  | succ j ih =>
    intro i h X q hj h1 h2 hA hF gP hQ
    refine pw_iload_n dX9_fitPanes_2 rfl ?_
    refine pw_bipush (v := zI (8)) dX9_fitPanes_3 (by decide) ?_
    refine pw_icmp_ge (tgt := 48) dX9_fitPanes_5 rfl (by omega) (by omega) (fun c5 => ?_) (fun c5 => ?_)
    · exfalso; omega
    ·
      refine pw_aload_n dX9_fitPanes_8 rfl ?_
      refine pw_get (v := .ref (B + 107)) okX9 (k := 3) (by decide) lkX9_36 hA.1 rfl dX9_fitPanes_9 ?_
      refine pw_getN (v := .ref (B + 108)) okX2 (k := 0) (by decide) lkX9_182 hA.2.2.2.2.1 rfl dX9_fitPanes_12 ?_
      refine pw_iload_n dX9_fitPanes_15 rfl ?_
      refine pw_aaldO (t := 4) rfl hA.2.2.2.2.2.1 (by omega) (by decide) dX9_fitPanes_16 ?_
      refine pw_astore_nO (lv' := [some (.ref B), some (.int (zI (i))), some (rv (hLv (X, s.2) (i).toNat))]) dX9_fitPanes_17 (by decide) rfl rfl ?_
      refine pw_aload_nO dX9_fitPanes_18 rfl ?_
      refine pw_ifnullO (tgt := 42) dX9_fitPanes_19 rfl (fun c19 => ?_) (fun c19 => ?_)
      ·
        refine pw_ziinc (lv' := [some (.ref B), some (.int (zI (i + 1))), some (rv (hLv (X, s.2) (i).toNat))]) dX9_fitPanes_42 rfl (by decide) rfl rfl ?_
        refine pw_goto (tgt := 2) dX9_fitPanes_45 rfl ?_
        have e1 : hFit1 w H (hP s) (hLv s i.toNat) i.toNat X = X := by have z : hLv s i.toNat = none := c19; rw [z]; rfl
        refine ih (i + 1) h X _ (by omega) (by omega) (by omega) hA hF gP (fun h' z1 z2 => hQ h' (by rw [show hFit w H (hP s) (hLv s) (j + 1) i X = hFit w H (hP s) (hLv s) j (i + 1) (hFit1 w H (hP s) (hLv s i.toNat) i.toNat X) from rfl, e1]; exact z1) z2)
      ·
        obtain ⟨q19, hq19⟩ := Option.ne_none_iff_exists'.mp c19
        obtain ⟨a3, a4, -, -⟩ := har _ _ hq19
        obtain ⟨p3, p4, p5, p6, p9, p10, pcl, pT, pR, pcm, pof, pto⟩ := gP i.toNat (by omega)
        refine pw_aload_n dX9_fitPanes_22 rfl ?_
        refine pw_get (v := .ref (B + 1)) okX9 (k := 2) (by decide) lkX9_11 hA.1 rfl dX9_fitPanes_23 ?_
        refine pw_iload_n dX9_fitPanes_26 rfl ?_
        refine pw_aaldO (t := 3) rfl hA.2.1 (by omega) (by decide) dX9_fitPanes_27 ?_
        refine pw_some (hPv_s (by omega)) ?_
        refine pw_getN (v := .ref (B + 3 + 13 * i.toNat + 3)) okX4 (k := 0) (by decide) lkX9_129 (hA_pn hA (by omega)).2.1 rfl dX9_fitPanes_28 ?_
        refine pw_aload_nO dX9_fitPanes_31 rfl ?_
        refine pw_some (hq19) ?_
        refine pw_getN (v := .int (zI ((hP s q19).1 2))) okX5 (k := 2) (by decide) lkX9_272 (hA.2.2.2.2.2.2.2.2.2.1 _ (hlD _ _ hq19)) rfl dX9_fitPanes_32 ?_
        refine pw_aload_nO dX9_fitPanes_35 rfl ?_
        refine pw_some (hq19) ?_
        refine pw_getN (v := .int (zI ((hP s q19).1 3))) okX5 (k := 3) (by decide) lkX9_273 (hA.2.2.2.2.2.2.2.2.2.1 _ (hlD _ _ hq19)) rfl dX9_fitPanes_36 ?_
        refine pw_callV (As := [.int (zI ((hP s q19).1 2)), .int (zI ((hP s q19).1 3))]) (b := (B + 3 + 13 * i.toNat + 3)) (rm := rmD 4 0 0) (mX7_resize (I := pnI (B + 3 + 13 * i.toNat)) (F := (X i.toNat).1.1.1) (m := (X i.toNat).1.1.2.1) (o := (X i.toNat).1.1.2.2.1) (T := (X i.toNat).1.1.2.2.2.1) (c := (X i.toNat).1.1.2.2.2.2.1) (l := (X i.toNat).1.1.2.2.2.2.2) htr gG0 (hA_pn hA (k := i.toNat) (by omega)).1.1 (by omega) (by omega) (by omega) (by omega) (by omega) (by omega) (by omega) (by omega) (by omega) (by omega)) rfl (hA_pn hA (by omega)).1.1.1.1 rfl rfl ywX7_resize rfl cwX9_274 ⟨nle rfl, nle rfl⟩ (nle rfl) ⟨nle rfl, nle rfl⟩ dX9_fitPanes_39 ?_ (fun _ _ _ z => z.elim)
        intro r_9 h_9 n_9 hq _
        rw [hq.1, hq.2.1, hq.2.2]
        show pw E YX9_fitPanes _ _ 0 0 42 [some (.ref B), some (.int (zI (i))), some (rv (hLv (X, s.2) (i).toNat))] [] (zP w H N NH (pnI (B + 3 + 13 * i.toNat)) (zResize w H ((hP s q19).1 2) ((hP s q19).1 3) (X i.toNat).1.1) h) n
        have hp1 : pnAt w H N NH (B + 3 + 13 * i.toNat) (pRs w H ((hP s q19).1 2) ((hP s q19).1 3) (X i.toNat)) (zP w H N NH (pnI (B + 3 + 13 * i.toNat)) (zResize w H ((hP s q19).1 2) ((hP s q19).1 3) (X i.toNat).1.1) h) := pnAt_z (hA_pn hA (k := i.toNat) (by omega))
        have hA1 : hAt w H N NH NB NL B (sX i.toNat (pRs w H ((hP s q19).1 2) ((hP s q19).1 3) (X i.toNat)) (X, s.2)) (zP w H N NH (pnI (B + 3 + 13 * i.toNat)) (zResize w H ((hP s q19).1 2) ((hP s q19).1 3) (X i.toNat).1.1) h) := hAt_X hA (by omega) hp1 (fun a ha => zP_out ha)
        have hF1 : hFr B n (hD s) h0 (zP w H N NH (pnI (B + 3 + 13 * i.toNat)) (zResize w H ((hP s q19).1 2) ((hP s q19).1 3) (X i.toNat).1.1) h) := hFr_tr hF (hFr_in (lo := (B + 3 + 13 * i.toNat)) (hi := (B + 3 + 13 * i.toNat) + 12) (fun a ha => zP_out ha) (by omega) (by omega))
        revert hp1 hA1 hF1
        generalize (zP w H N NH (pnI (B + 3 + 13 * i.toNat)) (zResize w H ((hP s q19).1 2) ((hP s q19).1 3) (X i.toNat).1.1) h) = h1
        intro hp1 hA1 hF1
        refine pw_ziinc (lv' := [some (.ref B), some (.int (zI (i + 1))), some (rv (hLv (X, s.2) (i).toNat))]) dX9_fitPanes_42 rfl (by decide) rfl rfl ?_
        refine pw_goto (tgt := 2) dX9_fitPanes_45 rfl ?_
        have e1 : hFit1 w H (hP s) (hLv s i.toNat) i.toNat X = va_up X i.toNat (pRs w H ((hP s q19).1 2) ((hP s q19).1 3) (X i.toNat)) := by have z : hLv s i.toNat = some q19 := hq19; rw [z]; rfl
        refine ih (i + 1) h1 (va_up X i.toNat (pRs w H ((hP s q19).1 2) ((hP s q19).1 3) (X i.toNat))) _ (by omega) (by omega) (by omega) hA1 hF1 ?_ (fun h' z1 z2 => hQ h' (by rw [show hFit w H (hP s) (hLv s) (j + 1) i X = hFit w H (hP s) (hLv s) j (i + 1) (hFit1 w H (hP s) (hLv s i.toNat) i.toNat X) from rfl, e1]; exact z1) z2)
        intro k9 hk9
        by_cases e9 : k9 = i.toNat
        · subst e9; rw [va_up_self]; exact pWk_rs (gP _ hk9) a3 a4 (by omega) (by omega)
        · rw [va_up_ne _ _ e9]; exact gP k9 hk9
set_option maxHeartbeats 4000000 in
set_option maxRecDepth 100000 in
/-- fitPanes() -/
theorem mX9_fitPanes {E : pw_E} (htr : E.1.stackTraces = false) {h : pz_H} {n : Nat} {w H M : Int} {N NH NB NL B : Nat} {s : hS} (gG0 : geo w H N NH) (hA : hAt w H N NH NB NL B s h) (hlD : ∀ i b, hLv s i = some b → hD s b = true) (har : ∀ i b, hLv s i = some b → arOk w H (hP s b)) (gP : ∀ k, k < 8 → pWk w H M (hX s k)) : pw_M E yX9_fitPanes YX9_fitPanes (rmD 5 0 0) [.ref B] h n (fun r h' n' => r = none ∧ hAt w H N NH NB NL B (hFit w H (hP s) (hLv s) 8 0 (hX s), s.2) h' ∧ hFr B n (hD s) h h' ∧ n' = n) (fun _ _ _ => False) := by
  refine pw_M_of (lv := [some (.ref B), none, none]) (by decide) rfl rfl htr (nle rfl) rfl (fun L => ?_)
  refine pw_iconst (v := zI (0)) dX9_fitPanes_0 (by decide) ?_
  refine pw_istore_n (lv' := [some (.ref B), some (.int (zI (0))), none]) dX9_fitPanes_1 (by decide) rfl rfl ?_
  exact lX9_fit htr gG0 hlD har _ 0 h _ _ rfl (by omega) (by omega) (by exact hA) hFr_rf gP (fun h' z1 z2 => ⟨rfl, by rw [Int.sub_zero] at z1; exact z1, z2, rfl⟩)
