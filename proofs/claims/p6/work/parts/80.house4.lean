def YX9_copy : pw_Y := (RX9, "copy", cX9_copy, 4, (some .int))
theorem ywX9_copy : pw_y yX9_copy YX9_copy 3 := ⟨by decide +kernel, by decide +kernel, by decide +kernel, pw_in 1223 (by decide +kernel) (by decide +kernel), pw_in 79 (by decide +kernel) (by decide +kernel)⟩
theorem cwX9_109 : Cond.methodLink RX9 109 yX4_setCopyMode ∈ pw_G ∧ Cond.instanceMethod yX4_setCopyMode ∈ pw_G ∧ Cond.selects RX4 yX4_setCopyMode yX4_setCopyMode ∈ pw_G := ⟨pw_in 1159 (by decide +kernel) (by decide +kernel), pw_in 779 (by decide +kernel) (by decide +kernel), pw_in 780 (by decide +kernel) (by decide +kernel)⟩
theorem cwX9_113 : Cond.methodLink RX9 113 yX4_look ∈ pw_G ∧ Cond.instanceMethod yX4_look ∈ pw_G ∧ Cond.selects RX4 yX4_look yX4_look ∈ pw_G := ⟨pw_in 1224 (by decide +kernel) (by decide +kernel), pw_in 1174 (by decide +kernel) (by decide +kernel), pw_in 1175 (by decide +kernel) (by decide +kernel)⟩
theorem cwX9_116 : Cond.methodLink RX9 116 yX4_offsetNow ∈ pw_G ∧ Cond.instanceMethod yX4_offsetNow ∈ pw_G ∧ Cond.selects RX4 yX4_offsetNow yX4_offsetNow ∈ pw_G := ⟨pw_in 1225 (by decide +kernel) (by decide +kernel), pw_in 845 (by decide +kernel) (by decide +kernel), pw_in 846 (by decide +kernel) (by decide +kernel)⟩
def YX9_feed : pw_Y := (RX9, "feed", cX9_feed, 6, none)
theorem ywX9_feed : pw_y yX9_feed YX9_feed 3 := ⟨by decide +kernel, by decide +kernel, by decide +kernel, pw_in 924 (by decide +kernel) (by decide +kernel), pw_in 79 (by decide +kernel) (by decide +kernel)⟩
theorem lkX9_70 : Cond.fieldLinkNest RX9 70 (TX4 1).1 (TX4 1).2.1 (TX4 1).2.2.1 "PaneHouse" ∈ pw_N := by decide +kernel
theorem cwX9_74 : Cond.methodLink RX9 74 yX6_take ∈ pw_G ∧ Cond.instanceMethod yX6_take ∈ pw_G ∧ Cond.selects RX6 yX6_take yX6_take ∈ pw_G := ⟨pw_in 949 (by decide +kernel) (by decide +kernel), pw_in 950 (by decide +kernel) (by decide +kernel), pw_in 951 (by decide +kernel) (by decide +kernel)⟩
/-- COPY mode on or off; so many rows up; the OFFSET -/
def pCm (on : Int) (x : pSt) : pSt := (x.1, (on, if on = x.2.1.1 then x.2.1.2 else 0), x.2.2)
def pLk (up : Int) (x : pSt) : pSt := (x.1, (x.2.1.1, pLook x.2.1.1 x.2.1.2 (x.1.1.2.2.2.1 4) up), x.2.2)
def pOf (x : pSt) : Int := min x.2.1.2 (x.1.1.2.2.2.1 4)
theorem pCm_of {on : Int} {x : pSt} (h : 0 ≤ x.2.1.2 ∧ x.2.1.2 ≤ 30) : 0 ≤ (pCm on x).2.1.2 ∧ (pCm on x).2.1.2 ≤ 30 := by
  show 0 ≤ (if on = x.2.1.1 then x.2.1.2 else 0) ∧ (if on = x.2.1.1 then x.2.1.2 else 0) ≤ 30
  split <;> omega
theorem pLk_of {up : Int} {x : pSt} (h : 0 ≤ x.2.1.2 ∧ x.2.1.2 ≤ 30) (hT : 0 ≤ x.1.1.2.2.2.1 4 ∧ x.1.1.2.2.2.1 4 ≤ 30) : 0 ≤ (pLk up x).2.1.2 ∧ (pLk up x).2.1.2 ≤ 30 := by
  show 0 ≤ pLook x.2.1.1 x.2.1.2 (x.1.1.2.2.2.1 4) up ∧ pLook x.2.1.1 x.2.1.2 (x.1.1.2.2.2.1 4) up ≤ 30
  unfold pLook
  split <;> omega
set_option maxHeartbeats 4000000 in
set_option maxRecDepth 100000 in
/-- copy(p, on, up) -/
theorem mX9_copy {E : pw_E} (htr : E.1.stackTraces = false) {h : pz_H} {n : Nat} {w H M : Int} {N NH NB NL B : Nat} {s : hS} (hG : geoH w H N NH NB NL) (hA : hAt w H N NH NB NL B s h) (hg : hGd w H M NB s) (hM : 0 ≤ M ∧ M ≤ 900000000) {p on up : Int} (h_p : -2147483648 ≤ p ∧ p < 2147483648) (h_on : -2147483648 ≤ on ∧ on < 2147483648) (h_up : -2147483648 ≤ up ∧ up < 2147483648) (hon : 0 ≤ on ∧ on ≤ 1) : pw_M E yX9_copy YX9_copy (rmD 7 1 6) [.ref B, .int (zI (p)), .int (zI (on)), .int (zI (up))] h n (fun r h' n' => lyHas (hLv s) p = 1 ∧ r = some (.int (zI (pOf (pLk up (pCm on (hX s p.toNat)))))) ∧ hAt w H N NH NB NL B (sX p.toNat (pLk up (pCm on (hX s p.toNat))) s) h' ∧ hFr B n (hD s) h h' ∧ n' = n) (fun C h' n' => C = "java/lang/IndexOutOfBoundsException" ∧ lyHas (hLv s) p = 0 ∧ h' = h ∧ n' = n) := by
  have hG0 := hG
  have hg0 := hg
  obtain ⟨gG, gNB, gNL⟩ := hG
  have gG0 := gG
  obtain ⟨gw, gH, gN, gN2, gNH⟩ := gG
  obtain ⟨gP, gL, gY, gF, gFl, gPr, gC, gO, gPi, gLi⟩ := hg
  obtain ⟨gO3, gO4, gO5, gO6, gO7, gOc⟩ := gO
  refine pw_M_of (lv := [some (.ref B), some (.int (zI (p))), some (.int (zI (on))), some (.int (zI (up)))]) (by decide) rfl rfl htr (nle rfl) rfl (fun L => ?_)
  refine pw_aload_n dX9_copy_0 rfl ?_
  refine pw_iload_n dX9_copy_1 rfl ?_
  refine pw_callV (As := [.int (zI (p))]) (b := B) (rm := rmD 6 1 6) (mX9_checkPane htr hA (by omega)) rfl hA.1 rfl rfl ywX9_checkPane rfl cwX9_59 ⟨nle rfl, nle rfl⟩ (nle rfl) ⟨nle rfl, nle rfl⟩ dX9_copy_2 ?_ (fun _ _ _ z => z)
  intro r2 h2 n2 hq _
  obtain ⟨hpx, e1, e2, e3⟩ := hq
  rw [e1, e2, e3]
  show pw E YX9_copy _ _ (0 + 1) (0 + 6) 5 [some (.ref B), some (.int (zI (p))), some (.int (zI (on))), some (.int (zI (up)))] [] h n
  clear e1 e2 e3
  obtain ⟨hp8, hpl⟩ := lyHas_y hpx
  obtain ⟨p3, p4, p5, p6, p9, p10, pcl, pT, pR, pcm, pof, pto⟩ := gP p.toNat (by omega)
  have pg := gL p.toNat (by omega) hpl
  refine pw_aload_n dX9_copy_5 rfl ?_
  refine pw_get (v := .ref (B + 1)) okX9 (k := 2) (by decide) lkX9_11 hA.1 rfl dX9_copy_6 ?_
  refine pw_iload_n dX9_copy_9 rfl ?_
  refine pw_aaldO (t := 3) rfl hA.2.1 (by omega) (by decide) dX9_copy_10 ?_
  refine pw_iload_n dX9_copy_11 rfl ?_
  rw [show rv (hPv B (p).toNat) = Value.ref (B + 3 + 13 * p.toNat) from by rw [hPv_s (by omega)]; rfl]
  refine pw_callV (As := [.int (zI (on))]) (b := (B + 3 + 13 * p.toNat)) (rm := rmD 0 0 0) (mX4_setCopyMode htr gG0 (hA_pn hA (by omega)).1.1 pg.1.1 (hA_pn hA (by omega)).2.1 (fun i _ => pnI_ne (by omega)) (by omega) (by omega) (by omega)) rfl (hA_pn hA (by omega)).2.1 rfl rfl ywX4_setCopyMode rfl cwX9_109 ⟨nle rfl, nle rfl⟩ (nle rfl) ⟨nle rfl, nle rfl⟩ dX9_copy_12 ?_ (fun _ _ _ z => z.elim)
  intro r_9 h_9 n_9 hq _
  rw [hq.1, hq.2.1, hq.2.2]
  show pw E YX9_copy _ _ (0 + 1) (0 + 6) 15 [some (.ref B), some (.int (zI (p))), some (.int (zI (on))), some (.int (zI (up)))] [] (va_up h (B + 3 + 13 * p.toNat) (pz_o 7 [.ref (B + 3 + 13 * p.toNat + 3), .ref (B + 3 + 13 * p.toNat + 11), .ref (B + 3 + 13 * p.toNat + 1), .int (zI (pCm on (hX s p.toNat)).2.1.1), .int (zI (pCm on (hX s p.toNat)).2.1.2)])) n
  have hp1 : pnAt w H N NH (B + 3 + 13 * p.toNat) (pCm on (hX s p.toNat)) (va_up h (B + 3 + 13 * p.toNat) (pz_o 7 [.ref (B + 3 + 13 * p.toNat + 3), .ref (B + 3 + 13 * p.toNat + 11), .ref (B + 3 + 13 * p.toNat + 1), .int (zI (pCm on (hX s p.toNat)).2.1.1), .int (zI (pCm on (hX s p.toNat)).2.1.2)])) := pnAt_c (hA_pn hA (by omega))
  have hA1 : hAt w H N NH NB NL B (sX p.toNat (pCm on (hX s p.toNat)) s) (va_up h (B + 3 + 13 * p.toNat) (pz_o 7 [.ref (B + 3 + 13 * p.toNat + 3), .ref (B + 3 + 13 * p.toNat + 11), .ref (B + 3 + 13 * p.toNat + 1), .int (zI (pCm on (hX s p.toNat)).2.1.1), .int (zI (pCm on (hX s p.toNat)).2.1.2)])) := hAt_X hA (by omega) hp1 (fun a ha => va_up_ne _ _ (by omega))
  have hF1 : hFr B n (hD s) h (va_up h (B + 3 + 13 * p.toNat) (pz_o 7 [.ref (B + 3 + 13 * p.toNat + 3), .ref (B + 3 + 13 * p.toNat + 11), .ref (B + 3 + 13 * p.toNat + 1), .int (zI (pCm on (hX s p.toNat)).2.1.1), .int (zI (pCm on (hX s p.toNat)).2.1.2)])) := hFr_tr hFr_rf (hFr_in (lo := (B + 3 + 13 * p.toNat)) (hi := (B + 3 + 13 * p.toNat) + 12) (fun a ha => va_up_ne _ _ (by omega)) (by omega) (by omega))
  revert hp1 hA1 hF1
  generalize (va_up h (B + 3 + 13 * p.toNat) (pz_o 7 [.ref (B + 3 + 13 * p.toNat + 3), .ref (B + 3 + 13 * p.toNat + 11), .ref (B + 3 + 13 * p.toNat + 1), .int (zI (pCm on (hX s p.toNat)).2.1.1), .int (zI (pCm on (hX s p.toNat)).2.1.2)])) = h1
  intro hp1 hA1 hF1
  refine pw_aload_n dX9_copy_15 rfl ?_
  refine pw_get (v := .ref (B + 1)) okX9 (k := 2) (by decide) lkX9_11 hA1.1 rfl dX9_copy_16 ?_
  refine pw_iload_n dX9_copy_19 rfl ?_
  refine pw_aaldO (t := 3) rfl hA1.2.1 (by omega) (by decide) dX9_copy_20 ?_
  refine pw_iload_n dX9_copy_21 rfl ?_
  rw [show rv (hPv B (p).toNat) = Value.ref (B + 3 + 13 * p.toNat) from by rw [hPv_s (by omega)]; rfl]
  refine pw_callV (As := [.int (zI (up))]) (b := (B + 3 + 13 * p.toNat)) (rm := rmD 2 0 0) (mX4_look htr gG0 hp1.1.1 pg.1.1 hp1.2.1 (fun i _ => pnI_ne (by omega)) (show 0 ≤ on ∧ on ≤ 1 by omega) (have z := pCm_of (on := on) pof; ⟨z.1, by omega⟩) (by omega)) rfl hp1.2.1 rfl rfl ywX4_look rfl cwX9_113 ⟨nle rfl, nle rfl⟩ (nle rfl) ⟨nle rfl, nle rfl⟩ dX9_copy_22 ?_ (fun _ _ _ z => z.elim)
  intro r_9 h_9 n_9 hq _
  rw [hq.1, hq.2.1, hq.2.2]
  show pw E YX9_copy _ _ (0 + 1) (0 + 6) 25 [some (.ref B), some (.int (zI (p))), some (.int (zI (on))), some (.int (zI (up)))] [] (va_up h1 (B + 3 + 13 * p.toNat) (pz_o 7 [.ref (B + 3 + 13 * p.toNat + 3), .ref (B + 3 + 13 * p.toNat + 11), .ref (B + 3 + 13 * p.toNat + 1), .int (zI (pLk up (pCm on (hX s p.toNat))).2.1.1), .int (zI (pLk up (pCm on (hX s p.toNat))).2.1.2)])) n
  have hp2 : pnAt w H N NH (B + 3 + 13 * p.toNat) (pLk up (pCm on (hX s p.toNat))) (va_up h1 (B + 3 + 13 * p.toNat) (pz_o 7 [.ref (B + 3 + 13 * p.toNat + 3), .ref (B + 3 + 13 * p.toNat + 11), .ref (B + 3 + 13 * p.toNat + 1), .int (zI (pLk up (pCm on (hX s p.toNat))).2.1.1), .int (zI (pLk up (pCm on (hX s p.toNat))).2.1.2)])) := pnAt_c hp1
  have hA2 : hAt w H N NH NB NL B (sX p.toNat (pLk up (pCm on (hX s p.toNat))) (sX p.toNat (pCm on (hX s p.toNat)) s)) (va_up h1 (B + 3 + 13 * p.toNat) (pz_o 7 [.ref (B + 3 + 13 * p.toNat + 3), .ref (B + 3 + 13 * p.toNat + 11), .ref (B + 3 + 13 * p.toNat + 1), .int (zI (pLk up (pCm on (hX s p.toNat))).2.1.1), .int (zI (pLk up (pCm on (hX s p.toNat))).2.1.2)])) := hAt_X hA1 (by omega) hp2 (fun a ha => va_up_ne _ _ (by omega))
  have hF2 : hFr B n (hD s) h (va_up h1 (B + 3 + 13 * p.toNat) (pz_o 7 [.ref (B + 3 + 13 * p.toNat + 3), .ref (B + 3 + 13 * p.toNat + 11), .ref (B + 3 + 13 * p.toNat + 1), .int (zI (pLk up (pCm on (hX s p.toNat))).2.1.1), .int (zI (pLk up (pCm on (hX s p.toNat))).2.1.2)])) := hFr_tr hF1 (hFr_in (lo := (B + 3 + 13 * p.toNat)) (hi := (B + 3 + 13 * p.toNat) + 12) (fun a ha => va_up_ne _ _ (by omega)) (by omega) (by omega))
  revert hp2 hA2 hF2
  generalize (va_up h1 (B + 3 + 13 * p.toNat) (pz_o 7 [.ref (B + 3 + 13 * p.toNat + 3), .ref (B + 3 + 13 * p.toNat + 11), .ref (B + 3 + 13 * p.toNat + 1), .int (zI (pLk up (pCm on (hX s p.toNat))).2.1.1), .int (zI (pLk up (pCm on (hX s p.toNat))).2.1.2)])) = h2
  intro hp2 hA2 hF2
  refine pw_aload_n dX9_copy_25 rfl ?_
  refine pw_get (v := .ref (B + 1)) okX9 (k := 2) (by decide) lkX9_11 hA2.1 rfl dX9_copy_26 ?_
  refine pw_iload_n dX9_copy_29 rfl ?_
  refine pw_aaldO (t := 3) rfl hA2.2.1 (by omega) (by decide) dX9_copy_30 ?_
  rw [show rv (hPv B (p).toNat) = Value.ref (B + 3 + 13 * p.toNat) from by rw [hPv_s (by omega)]; rfl]
  refine pw_callV (As := []) (b := (B + 3 + 13 * p.toNat)) (rm := rmD 1 0 0) (mX4_offsetNow htr gG0 hp2.1.1 pg.1.1 hp2.2.1 (fun i _ => pnI_ne (by omega)) (show 0 ≤ on ∧ on ≤ 1 by omega) (have z := pLk_of (up := up) (pCm_of (on := on) pof) pT.2; ⟨z.1, by omega⟩)) rfl hp2.2.1 rfl rfl ywX4_offsetNow rfl cwX9_116 ⟨nle rfl, nle rfl⟩ (nle rfl) ⟨nle rfl, nle rfl⟩ dX9_copy_31 ?_ (fun _ _ _ z => z.elim)
  intro r_9 h_9 n_9 hq _
  rw [hq.1, hq.2.1, hq.2.2]
  show pw E YX9_copy _ _ (0 + 1) (0 + 6) 34 [some (.ref B), some (.int (zI (p))), some (.int (zI (on))), some (.int (zI (up)))] [.int (zI (pOf (pLk up (pCm on (hX s p.toNat)))))] h2 n
  rw [sX_sX] at hA2
  exact pw_iret dX9_copy_34 rfl (nle rfl) (nle rfl) ⟨hpx, rfl, hA2, hF2, rfl⟩
set_option maxHeartbeats 4000000 in
set_option maxRecDepth 100000 in
theorem lX9_feed {E : pw_E} (htr : E.1.stackTraces = false) {Kk : pw_K} {n : Nat} {w H : Int} {N NH NB NL B : Nat} {s : hS} {h0 : pz_H} (gG0 : geo w H N NH) {p k : Int} {v : Int64} (hp8 : 0 ≤ p ∧ p < 8) (hk8 : 1 ≤ k ∧ k ≤ 8) {x0 : (Int × Int) × clC} : ∀ (j : Nat) (i : Int) (h : pz_H) (t : rSt), (k - i).toNat = j → 0 ≤ i → i ≤ k → hAt w H N NH NB NL B (sX p.toNat (t, x0) s) h → hFr B n (hD s) h0 h → rGd w H t → (∀ h', hAt w H N NH NB NL B (sX p.toNat (fdRun w H NH v j i t, x0) s) h' → hFr B n (hD s) h0 h' → Kk.2.2.1 none h' n) → pw E YX9_feed (rmD 9 2 12) Kk (0 + 1) (0 + 6) 31 [some (.ref B), some (.int (zI p)), some (.long v), none, some (.int (zI k)), some (.int (zI i))] [] h n := by
  intro j
  induction j with
  | zero =>
    intro i h t hj h1 h2 hA hF ht hQ
    have hp : pnAt w H N NH (B + 3 + 13 * p.toNat) (t, x0) h := by have z := hA_pn hA (k := p.toNat) (by omega); rw [show hX (sX p.toNat (t, x0) s) p.toNat = (t, x0) from va_up_self _ _ _] at z; exact z
    refine pw_iload dX9_feed_31 rfl ?_
    refine pw_iload dX9_feed_33 rfl ?_
    refine pw_icmp_ge (tgt := 68) dX9_feed_35 rfl (by omega) (by omega) (fun c35 => ?_) (fun c35 => ?_)
    ·
      exact pw_vret dX9_feed_68 rfl (nle rfl) (nle rfl) (hQ h hA hF)
    · exfalso; omega
  | succ j ih =>
    intro i h t hj h1 h2 hA hF ht hQ
    have hp : pnAt w H N NH (B + 3 + 13 * p.toNat) (t, x0) h := by have z := hA_pn hA (k := p.toNat) (by omega); rw [show hX (sX p.toNat (t, x0) s) p.toNat = (t, x0) from va_up_self _ _ _] at z; exact z
    refine pw_iload dX9_feed_31 rfl ?_
    refine pw_iload dX9_feed_33 rfl ?_
    refine pw_icmp_ge (tgt := 68) dX9_feed_35 rfl (by omega) (by omega) (fun c35 => ?_) (fun c35 => ?_)
    · exfalso; omega
    ·
      refine pw_aload_n dX9_feed_38 rfl ?_
      refine pw_get (v := .ref (B + 1)) okX9 (k := 2) (by decide) lkX9_11 hA.1 rfl dX9_feed_39 ?_
      refine pw_iload_n dX9_feed_42 rfl ?_
      refine pw_aaldO (t := 3) rfl hA.2.1 (by omega) (by decide) dX9_feed_43 ?_
      refine pw_some (hPv_s (by omega)) ?_
      refine pw_getN (v := .ref (B + 3 + 13 * p.toNat + 11)) okX4 (k := 1) (by decide) lkX9_70 hp.2.1 rfl dX9_feed_44 ?_
      refine pw_lload_n dX9_feed_47 rfl ?_
      refine pw_bipush (v := zI (8)) dX9_feed_48 (by decide) ?_
      refine pw_iload dX9_feed_50 rfl ?_
      refine pw_zimul dX9_feed_52 ?_
      refine pw_lshr dX9_feed_53 ?_
      refine pw_l2i dX9_feed_54 ?_
      refine pw_sipush (v := zI (255)) dX9_feed_55 (by decide) ?_
      refine pw_iand dX9_feed_58 ?_
      rw [fdB_z]
      refine pw_callV (As := [.int (zI (fdB v i))]) (b := (B + 3 + 13 * p.toNat + 11)) (rm := rmD 8 0 0) (mX6_take htr gG0 hp.1 (rGd_ok ht) fdB_b) rfl hp.1.2.1 rfl rfl ywX6_take rfl cwX9_74 ⟨nle rfl, nle rfl⟩ (nle rfl) ⟨nle rfl, nle rfl⟩ dX9_feed_59 ?_ (fun _ _ _ z => z.elim)
      intro r_9 h_9 n_9 hq _
      rw [hq.1, hq.2.1, hq.2.2]
      show pw E YX9_feed _ _ (0 + 1) (0 + 6) 62 [some (.ref B), some (.int (zI (p))), some (.long (v)), none, some (.int (zI (k))), some (.int (zI (i)))] [] (rP w H N NH (pnI (B + 3 + 13 * p.toNat)) (pnJ (B + 3 + 13 * p.toNat)) (rTake w H NH (fdB v i) t).1 (rTake w H NH (fdB v i) t).2.1 (rTake w H NH (fdB v i) t).2.2 h) n
      have hp1 : pnAt w H N NH (B + 3 + 13 * p.toNat) (rTake w H NH (fdB v i) t, x0) (rP w H N NH (pnI (B + 3 + 13 * p.toNat)) (pnJ (B + 3 + 13 * p.toNat)) (rTake w H NH (fdB v i) t).1 (rTake w H NH (fdB v i) t).2.1 (rTake w H NH (fdB v i) t).2.2 h) := pnAt_r hp
      have hA1 : hAt w H N NH NB NL B (sX p.toNat (rTake w H NH (fdB v i) t, x0) (sX p.toNat (t, x0) s)) (rP w H N NH (pnI (B + 3 + 13 * p.toNat)) (pnJ (B + 3 + 13 * p.toNat)) (rTake w H NH (fdB v i) t).1 (rTake w H NH (fdB v i) t).2.1 (rTake w H NH (fdB v i) t).2.2 h) := hAt_X hA (by omega) hp1 (fun a ha => rP_out ha)
      have hF1 : hFr B n (hD s) h0 (rP w H N NH (pnI (B + 3 + 13 * p.toNat)) (pnJ (B + 3 + 13 * p.toNat)) (rTake w H NH (fdB v i) t).1 (rTake w H NH (fdB v i) t).2.1 (rTake w H NH (fdB v i) t).2.2 h) := hFr_tr hF (hFr_in (lo := (B + 3 + 13 * p.toNat)) (hi := (B + 3 + 13 * p.toNat) + 12) (fun a ha => rP_out ha) (by omega) (by omega))
      revert hp1 hA1 hF1
      generalize (rP w H N NH (pnI (B + 3 + 13 * p.toNat)) (pnJ (B + 3 + 13 * p.toNat)) (rTake w H NH (fdB v i) t).1 (rTake w H NH (fdB v i) t).2.1 (rTake w H NH (fdB v i) t).2.2 h) = h1
      intro hp1 hA1 hF1
      refine pw_ziinc (lv' := [some (.ref B), some (.int (zI (p))), some (.long (v)), none, some (.int (zI (k))), some (.int (zI (i + 1)))]) dX9_feed_62 rfl (by decide) rfl rfl ?_
      refine pw_goto (tgt := 31) dX9_feed_65 rfl ?_
      rw [sX_sX] at hA1
      exact ih (i + 1) h1 _ (by omega) (by omega) (by omega) hA1 hF1 (rTake_gd ht) hQ
set_option maxHeartbeats 4000000 in
set_option maxRecDepth 100000 in
/-- feed(p, v, k) -/
theorem mX9_feed {E : pw_E} (htr : E.1.stackTraces = false) {h : pz_H} {n : Nat} {w H M : Int} {N NH NB NL B : Nat} {s : hS} (hG : geoH w H N NH NB NL) (hA : hAt w H N NH NB NL B s h) (hg : hGd w H M NB s) (hM : 0 ≤ M ∧ M ≤ 900000000) {p k : Int} (h_p : -2147483648 ≤ p ∧ p < 2147483648) (h_k : -2147483648 ≤ k ∧ k < 2147483648) {v : Int64} : pw_M E yX9_feed YX9_feed (rmD 9 2 12) [.ref B, .int (zI (p)), .long (v), .int (zI (k))] h n (fun r h' n' => lyHas (hLv s) p = 1 ∧ (1 ≤ k ∧ k ≤ 8) ∧ r = none ∧ hAt w H N NH NB NL B (sX p.toNat (fdRun w H NH v k.toNat 0 (hX s p.toNat).1, (hX s p.toNat).2) s) h' ∧ hFr B n (hD s) h h' ∧ n' = n) (fun C h' n' => (C = "java/lang/IndexOutOfBoundsException" ∧ lyHas (hLv s) p = 0 ∧ h' = h ∧ n' = n) ∨ (C = "java/lang/IllegalArgumentException" ∧ (lyHas (hLv s) p = 1 ∧ ¬ (1 ≤ k ∧ k ≤ 8)) ∧ h' = h ∧ n' = n)) := by
  have hG0 := hG
  have hg0 := hg
  obtain ⟨gG, gNB, gNL⟩ := hG
  have gG0 := gG
  obtain ⟨gw, gH, gN, gN2, gNH⟩ := gG
  obtain ⟨gP, gL, gY, gF, gFl, gPr, gC, gO, gPi, gLi⟩ := hg
  obtain ⟨gO3, gO4, gO5, gO6, gO7, gOc⟩ := gO
  refine pw_M_of (lv := [some (.ref B), some (.int (zI (p))), some (.long (v)), none, some (.int (zI (k))), none]) (by decide) rfl rfl htr (nle rfl) rfl (fun L => ?_)
  refine pw_aload_n dX9_feed_0 rfl ?_
  refine pw_iload_n dX9_feed_1 rfl ?_
  refine pw_callV (As := [.int (zI (p))]) (b := B) (rm := rmD 6 1 6) (mX9_checkPane htr hA (by omega)) rfl hA.1 rfl rfl ywX9_checkPane rfl cwX9_59 ⟨nle rfl, nle rfl⟩ (nle rfl) ⟨nle rfl, nle rfl⟩ dX9_feed_2 ?_ (fun _ _ _ z => Or.inl z)
  intro r2 h2 n2 hq _
  obtain ⟨hpx, e1, e2, e3⟩ := hq
  rw [e1, e2, e3]
  show pw E YX9_feed _ _ (0 + 1) (0 + 6) 5 [some (.ref B), some (.int (zI (p))), some (.long (v)), none, some (.int (zI (k))), none] [] h n
  clear e1 e2 e3
  obtain ⟨hp8, hpl⟩ := lyHas_y hpx
  have pg := gL p.toNat (by omega) hpl
  refine pw_iload dX9_feed_5 rfl ?_
  refine pw_iconst (v := zI (1)) dX9_feed_7 (by decide) ?_
  refine pw_icmp_lt (tgt := 18) dX9_feed_8 rfl (by omega) (by omega) (fun c8 => ?_) (fun c8 => ?_)
  ·
    exact pw_throw (text := "n is not 1 .. 8") (by decide +kernel) tk_IA.1 tk_IA.2 (by decide +kernel) th_IA ⟨nle rfl, nle rfl⟩ ⟨nle rfl, nle rfl⟩ dX9_feed_18 dX9_feed_21 dX9_feed_22 dX9_feed_24 dX9_feed_27 (Or.inr ⟨rfl, ⟨hpx, by omega⟩, rfl, rfl⟩)
  ·
    refine pw_iload dX9_feed_11 rfl ?_
    refine pw_bipush (v := zI (8)) dX9_feed_13 (by decide) ?_
    refine pw_icmp_le (tgt := 28) dX9_feed_15 rfl (by omega) (by omega) (fun c15 => ?_) (fun c15 => ?_)
    ·
      refine pw_iconst (v := zI (0)) dX9_feed_28 (by decide) ?_
      refine pw_istore (lv' := [some (.ref B), some (.int (zI (p))), some (.long (v)), none, some (.int (zI (k))), some (.int (zI (0)))]) dX9_feed_29 (by decide) rfl rfl ?_
      refine lX9_feed (s := s) (x0 := (hX s p.toNat).2) htr gG0 hp8 (by omega) _ 0 h _ rfl (by omega) (by omega) (by rw [show ((hX s p.toNat).1, (hX s p.toNat).2) = hX s p.toNat from rfl, sX_id]; exact hA) hFr_rf pg (fun h' z1 z2 => ⟨hpx, by omega, rfl, by rw [Int.sub_zero] at z1; exact z1, z2, rfl⟩)
    ·
      exact pw_throw (text := "n is not 1 .. 8") (by decide +kernel) tk_IA.1 tk_IA.2 (by decide +kernel) th_IA ⟨nle rfl, nle rfl⟩ ⟨nle rfl, nle rfl⟩ dX9_feed_18 dX9_feed_21 dX9_feed_22 dX9_feed_24 dX9_feed_27 (Or.inr ⟨rfl, ⟨hpx, by omega⟩, rfl, rfl⟩)
