def YX9_select : pw_Y := (RX9, "select", cX9_select, 8, (some .int))
theorem ywX9_select : pw_y yX9_select YX9_select 5 := ⟨by decide +kernel, by decide +kernel, by decide +kernel, pw_in 1232 (by decide +kernel) (by decide +kernel), pw_in 79 (by decide +kernel) (by decide +kernel)⟩
theorem cwX9_145 : Cond.methodLink RX9 145 yX9_clipLine ∈ pw_G ∧ Cond.instanceMethod yX9_clipLine ∈ pw_G ∧ Cond.selects RX9 yX9_clipLine yX9_clipLine ∈ pw_G := ⟨pw_in 1243 (by decide +kernel) (by decide +kernel), pw_in 1245 (by decide +kernel) (by decide +kernel), pw_in 31 (by decide +kernel) (by decide +kernel)⟩
theorem cwX9_120 : Cond.methodLink RX9 120 yX9_checkPlace ∈ pw_G ∧ Cond.instanceMethod yX9_checkPlace ∈ pw_G ∧ Cond.selects RX9 yX9_checkPlace yX9_checkPlace ∈ pw_G := ⟨pw_in 1233 (by decide +kernel) (by decide +kernel), pw_in 1235 (by decide +kernel) (by decide +kernel), pw_in 29 (by decide +kernel) (by decide +kernel)⟩
/-- one row of what is selected -/
abbrev slT : Type := (Nat → Int) × clC
def slF (ro co r : Int) : Int := if r = ro then co else 0
def slE (tr tc la r : Int) : Int := if r = tr then tc else la
def slC (l : Nat → Int) (f e : Int) (c : clC) : clC := clRun l (clEnd l (e + 1 - f).toNat e + 1 - f).toNat f c
def sl1 (w H : Int) (NL : Nat) (x : pSt) (ro co tr tc la r : Int) (t : slT) : slT := (vRow w H x.1.1 x.2.1.2 r 0 NL t.1, slC (vRow w H x.1.1 x.2.1.2 r 0 NL t.1) (slF ro co r) (slE tr tc la r) (if ro < r then clB 10 t.2 else t.2))
def slA (w H : Int) (NL : Nat) (x : pSt) (ro co tr tc la : Int) : Nat → Int → slT → slT
  | 0, _, t => t
  | j + 1, r, t => slA w H NL x ro co tr tc la j (r + 1) (sl1 w H NL x ro co tr tc la r t)
theorem clRun_ok {l : Nat → Int} : ∀ (j : Nat) (i : Int) (c : clC), 0 ≤ c.2 ∧ c.2 ≤ 400 → 0 ≤ (clRun l j i c).2 ∧ (clRun l j i c).2 ≤ 400
  | 0, _, _, hc => hc
  | j + 1, i, c, hc => clRun_ok j (i + 1) _ (clB_ok hc)
theorem slC_ok {l : Nat → Int} {f e : Int} {c : clC} (hc : 0 ≤ c.2 ∧ c.2 ≤ 400) : 0 ≤ (slC l f e c).2 ∧ (slC l f e c).2 ≤ 400 := clRun_ok _ _ _ hc
theorem sl1_ok {w H ro co tr tc la r : Int} {NL : Nat} {x : pSt} {t : slT} (hx : zCl w x.1.1) (ht : cr t.1 ∧ 0 ≤ t.2.2 ∧ t.2.2 ≤ 400) : cr (sl1 w H NL x ro co tr tc la r t).1 ∧ 0 ≤ (sl1 w H NL x ro co tr tc la r t).2.2 ∧ (sl1 w H NL x ro co tr tc la r t).2.2 ≤ 400 := by
  refine ⟨cr_vRow hx ht.1, ?_⟩
  refine slC_ok ?_
  split
  · exact clB_ok ht.2
  · exact ht.2
theorem slA_ok {w H ro co tr tc la : Int} {NL : Nat} {x : pSt} (hx : zCl w x.1.1) : ∀ (j : Nat) (r : Int) (t : slT), (cr t.1 ∧ 0 ≤ t.2.2 ∧ t.2.2 ≤ 400) → cr (slA w H NL x ro co tr tc la j r t).1 ∧ 0 ≤ (slA w H NL x ro co tr tc la j r t).2.2 ∧ (slA w H NL x ro co tr tc la j r t).2.2 ≤ 400
  | 0, _, _, ht => ht
  | j + 1, r, t, ht => slA_ok hx j (r + 1) _ (sl1_ok hx ht)
/-- what is COPIED -/
def hSel (w H : Int) (NL : Nat) (p ro co tr tc : Int) (s : hS) : slT := slA w H NL (hX s p.toNat) ro co tr tc ((hX s p.toNat).1.1.1 3 - 1) (tr + 1 - ro).toNat ro (hLin s, ((hClp s).1, 0))
set_option maxHeartbeats 800000 in
set_option maxRecDepth 100000 in
theorem lX9_sel {E : pw_E} (htr : E.1.stackTraces = false) {Kk : pw_K} {n u1 u2 : Nat} {w H M : Int} {N NH NB NL B : Nat} {s : hS} {h0 : pz_H} (hG : geoH w H N NH NB NL) {p ro co tr tc la : Int} (hp8 : 0 ≤ p ∧ p < 8) (hu : u1 ≤ 4 ∧ u2 ≤ 24) (hro : 0 ≤ ro ∧ ro < 16) (hco : 0 ≤ co ∧ co < w) (htr2 : ro ≤ tr ∧ tr < 16) (htc : 0 ≤ tc ∧ tc < w) (hla : -1 ≤ la ∧ la < w) (hpk : pWk w H M (hX s p.toNat)) (pg : rGd w H (hX s p.toNat).1) : ∀ (j : Nat) (r : Int) (h : pz_H) (t : slT), (tr + 1 - r).toNat = j → ro ≤ r → r ≤ tr + 1 → hAt w H N NH NB NL B (sLin t.1 (sClp t.2 s)) h → hFr B n (hD s) h0 h → (cr t.1 ∧ 0 ≤ t.2.2 ∧ t.2.2 ≤ 400) → (∀ h' r', hAt w H N NH NB NL B (sLin (slA w H NL (hX s p.toNat) ro co tr tc la j r t).1 (sClp (slA w H NL (hX s p.toNat) ro co tr tc la j r t).2 s)) h' → hFr B n (hD s) h0 h' → pw E YX9_select (rmD 7 4 24) Kk u1 u2 143 [some (.ref B), some (.int (zI p)), some (.int (zI ro)), some (.int (zI co)), some (.int (zI tr)), some (.int (zI tc)), some (.int (zI la)), some (.int (zI r'))] [] h' n) → pw E YX9_select (rmD 7 4 24) Kk u1 u2 73 [some (.ref B), some (.int (zI (p))), some (.int (zI (ro))), some (.int (zI (co))), some (.int (zI (tr))), some (.int (zI (tc))), some (.int (zI (la))), some (.int (zI (r)))] [] h n := by
  obtain ⟨gG0, gNB, gNL⟩ := hG
  obtain ⟨gw, gH, gN, gN2, gNH⟩ := id gG0
  obtain ⟨p3, p4, p5, p6, p9, p10, pcl, pT, pR, pcm, pof, pto⟩ := hpk
  intro j
  induction j with
  | zero =>
    intro r h t hj h1 h2 hA hF ht hQ
    refine pw_iload dX9_select_73 rfl ?_
    refine pw_iload dX9_select_75 rfl ?_
    refine pw_icmp_gt (tgt := 143) dX9_select_77 rfl (by omega) (by omega) (fun c77 => ?_) (fun c77 => ?_)
    ·
      exact hQ h r hA hF
    · exfalso; omega
  | succ j ih =>
    intro r h t hj h1 h2 hA hF ht hQ
    refine pw_iload dX9_select_73 rfl ?_
    refine pw_iload dX9_select_75 rfl ?_
    refine pw_icmp_gt (tgt := 143) dX9_select_77 rfl (by omega) (by omega) (fun c77 => ?_) (fun c77 => ?_)
    · exfalso; omega
    ·
      refine pw_iload dX9_select_80 rfl ?_
      refine pw_iload_n dX9_select_82 rfl ?_
      refine pw_icmp_le (tgt := 92) dX9_select_83 rfl (by omega) (by omega) (fun c83 => ?_) (fun c83 => ?_)
      ·
        refine pw_aload_n dX9_select_92 rfl ?_
        refine pw_get (v := .ref (B + 1)) okX9 (k := 2) (by decide) lkX9_11 hA.1 rfl dX9_select_93 ?_
        refine pw_iload_n dX9_select_96 rfl ?_
        refine pw_aaldO (t := 3) rfl hA.2.1 (by omega) (by decide) dX9_select_97 ?_
        refine pw_iload dX9_select_98 rfl ?_
        refine pw_aload_n dX9_select_100 rfl ?_
        refine pw_get (v := .ref (B + 114)) okX9 (k := 6) (by decide) lkX9_50 hA.1 rfl dX9_select_101 ?_
        refine pw_iconst (v := zI (0)) dX9_select_104 (by decide) ?_
        rw [show rv (hPv B (p).toNat) = Value.ref (B + 3 + 13 * p.toNat) from by rw [hPv_s (by omega)]; rfl]
        refine pw_callV (As := [.int (zI r), .ref (B + 114), .int (zI 0)]) (b := (B + 3 + 13 * p.toNat)) (rm := rmD 3 0 0) (mX4_viewRow htr gG0 (hA_pn hA (k := p.toNat) (by omega)).1.1 pg.1.1 (hA_pn hA (k := p.toNat) (by omega)).2.1 (fun i _ => pnI_ne (by omega)) pcm ⟨pof.1, Int.le_trans pof.2 (by decide)⟩ hA.2.2.2.2.2.2.2.2.1 (fun i _ => pnI_ne (by omega)) (by omega) pcl.2.2.2 (by omega) (by omega)) rfl (hA_pn hA (k := p.toNat) (by omega)).2.1 rfl rfl ywX4_viewRow rfl cwX9_141 ⟨nle rfl, nle rfl⟩ (nle rfl) ⟨by show u1 + 0 ≤ 4; omega, by show u2 + 0 ≤ 24; omega⟩ dX9_select_105 ?_ (fun _ _ _ z => z.elim)
        intro r_9 h_9 n_9 hq _
        rw [hq.1, hq.2.1, hq.2.2]
        show pw E YX9_select _ _ u1 u2 108 [some (.ref B), some (.int (zI (p))), some (.int (zI (ro))), some (.int (zI (co))), some (.int (zI (tr))), some (.int (zI (tc))), some (.int (zI (la))), some (.int (zI (r)))] [] (va_up h (B + 114) (pz_z 0 NL (vRow w H (hX s p.toNat).1.1 (hX s p.toNat).2.1.2 r 0 NL t.1))) n
        have hA1 : hAt w H N NH NB NL B (sLin (vRow w H (hX s p.toNat).1.1 (hX s p.toNat).2.1.2 r 0 NL t.1) (sClp t.2 s)) (va_up h (B + 114) (pz_z 0 NL (vRow w H (hX s p.toNat).1.1 (hX s p.toNat).2.1.2 r 0 NL t.1))) := by have z := hAt_lin (f := (vRow w H (hX s p.toNat).1.1 (hX s p.toNat).2.1.2 r 0 NL t.1)) hA; exact z
        have hF1 : hFr B n (hD s) h0 (va_up h (B + 114) (pz_z 0 NL (vRow w H (hX s p.toNat).1.1 (hX s p.toNat).2.1.2 r 0 NL t.1))) := hFr_tr hF (hFr_in (lo := B + 114) (hi := B + 114) (fun a ha => va_up_ne _ _ (by omega)) (by omega) (by omega))
        revert hA1 hF1
        generalize (va_up h (B + 114) (pz_z 0 NL (vRow w H (hX s p.toNat).1.1 (hX s p.toNat).2.1.2 r 0 NL t.1))) = h1
        intro hA1 hF1
        refine pw_aload_n dX9_select_108 rfl ?_
        refine pw_iload dX9_select_109 rfl ?_
        refine pw_iload_n dX9_select_111 rfl ?_
        refine pw_icmp_ne (tgt := 119) dX9_select_112 rfl (by omega) (by omega) (fun c112 => ?_) (fun c112 => ?_)
        ·
          exfalso; omega
        ·
          refine pw_iload_n dX9_select_115 rfl ?_
          refine pw_goto (tgt := 120) dX9_select_116 rfl ?_
          refine pw_iload dX9_select_120 rfl ?_
          refine pw_iload dX9_select_122 rfl ?_
          refine pw_icmp_ne (tgt := 132) dX9_select_124 rfl (by omega) (by omega) (fun c124 => ?_) (fun c124 => ?_)
          ·
            refine pw_iload dX9_select_132 rfl ?_
            have hcr1 : cr (vRow w H (hX s p.toNat).1.1 (hX s p.toNat).2.1.2 r 0 NL t.1) := cr_vRow pcl ht.1
            refine pw_callV (As := [.int (zI (co)), .int (zI (la))]) (b := B) (rm := rmD 1 0 0) (mX9_clipLine (l := (vRow w H (hX s p.toNat).1.1 (hX s p.toNat).2.1.2 r 0 NL t.1)) (NL := NL) (c := t.2) htr (by omega) (fun k9 => by have := hcr1 k9; omega) (by omega) (by omega) (by omega) hA1.1 hA1.2.2.1 hA1.2.2.2.2.2.2.2.2.1 ht.2 (by omega) (by omega)) rfl hA1.1 rfl rfl ywX9_clipLine rfl cwX9_145 ⟨nle rfl, nle rfl⟩ (nle rfl) ⟨by show u1 + 0 ≤ 4; omega, by show u2 + 0 ≤ 24; omega⟩ dX9_select_134 ?_ (fun _ _ _ z => z.elim)
            intro r_9 h_9 n_9 hq _
            rw [hq.1, hq.2.1, hq.2.2]
            show pw E YX9_select _ _ u1 u2 137 [some (.ref B), some (.int (zI (p))), some (.int (zI (ro))), some (.int (zI (co))), some (.int (zI (tr))), some (.int (zI (tc))), some (.int (zI (la))), some (.int (zI (r)))] [] (clP B (B + 1) (B + 107) (B + 110) (B + 113) (B + 114) (B + 2) w H (hFoc s) (hPre s) (slC (vRow w H (hX s p.toNat).1.1 (hX s p.toNat).2.1.2 r 0 NL t.1) (co) (la) t.2) h1) n
            have hA2 : hAt w H N NH NB NL B (sLin (vRow w H (hX s p.toNat).1.1 (hX s p.toNat).2.1.2 r 0 NL t.1) (sClp (slC (vRow w H (hX s p.toNat).1.1 (hX s p.toNat).2.1.2 r 0 NL t.1) (co) (la) t.2) s)) (clP B (B + 1) (B + 107) (B + 110) (B + 113) (B + 114) (B + 2) w H (hFoc s) (hPre s) (slC (vRow w H (hX s p.toNat).1.1 (hX s p.toNat).2.1.2 r 0 NL t.1) (co) (la) t.2) h1) := by have z := hAt_clip (c := (slC (vRow w H (hX s p.toNat).1.1 (hX s p.toNat).2.1.2 r 0 NL t.1) (co) (la) t.2)) hA1; exact z
            have hF2 : hFr B n (hD s) h0 (clP B (B + 1) (B + 107) (B + 110) (B + 113) (B + 114) (B + 2) w H (hFoc s) (hPre s) (slC (vRow w H (hX s p.toNat).1.1 (hX s p.toNat).2.1.2 r 0 NL t.1) (co) (la) t.2) h1) := hFr_tr hF1 (hFr_in (lo := B) (hi := B + 2) (fun a ha => clP_o (by omega) (by omega)) (by omega) (by omega))
            revert hA2 hF2
            generalize (clP B (B + 1) (B + 107) (B + 110) (B + 113) (B + 114) (B + 2) w H (hFoc s) (hPre s) (slC (vRow w H (hX s p.toNat).1.1 (hX s p.toNat).2.1.2 r 0 NL t.1) (co) (la) t.2) h1) = h2
            intro hA2 hF2
            refine pw_ziinc (lv' := [some (.ref B), some (.int (zI (p))), some (.int (zI (ro))), some (.int (zI (co))), some (.int (zI (tr))), some (.int (zI (tc))), some (.int (zI (la))), some (.int (zI (r + 1)))]) dX9_select_137 rfl (by decide) rfl rfl ?_
            refine pw_goto (tgt := 73) dX9_select_140 rfl ?_
            have e9 : sl1 w H NL (hX s p.toNat) ro co tr tc la r t = ((vRow w H (hX s p.toNat).1.1 (hX s p.toNat).2.1.2 r 0 NL t.1), slC (vRow w H (hX s p.toNat).1.1 (hX s p.toNat).2.1.2 r 0 NL t.1) (co) (la) t.2) := by unfold sl1 slF slE; (first | rw [if_pos (show r = ro by omega)] | rw [if_neg (show ¬ r = ro by omega)]); (first | rw [if_pos (show r = tr by omega)] | rw [if_neg (show ¬ r = tr by omega)]); (first | rw [if_pos (show ro < r by omega)] | rw [if_neg (show ¬ ro < r by omega)])
            have ht2 := sl1_ok (H := H) (NL := NL) (ro := ro) (co := co) (tr := tr) (tc := tc) (la := la) (r := r) pcl ht
            rw [show slA w H NL (hX s p.toNat) ro co tr tc la (j + 1) r t = slA w H NL (hX s p.toNat) ro co tr tc la j (r + 1) (sl1 w H NL (hX s p.toNat) ro co tr tc la r t) from rfl] at hQ
            rw [e9] at ht2 hQ
            exact ih (r + 1) h2 ((vRow w H (hX s p.toNat).1.1 (hX s p.toNat).2.1.2 r 0 NL t.1), slC (vRow w H (hX s p.toNat).1.1 (hX s p.toNat).2.1.2 r 0 NL t.1) (co) (la) t.2) (by omega) (by omega) (by omega) hA2 hF2 ht2 hQ
          ·
            refine pw_iload dX9_select_127 rfl ?_
            refine pw_goto (tgt := 134) dX9_select_129 rfl ?_
            have hcr1 : cr (vRow w H (hX s p.toNat).1.1 (hX s p.toNat).2.1.2 r 0 NL t.1) := cr_vRow pcl ht.1
            refine pw_callV (As := [.int (zI (co)), .int (zI (tc))]) (b := B) (rm := rmD 1 0 0) (mX9_clipLine (l := (vRow w H (hX s p.toNat).1.1 (hX s p.toNat).2.1.2 r 0 NL t.1)) (NL := NL) (c := t.2) htr (by omega) (fun k9 => by have := hcr1 k9; omega) (by omega) (by omega) (by omega) hA1.1 hA1.2.2.1 hA1.2.2.2.2.2.2.2.2.1 ht.2 (by omega) (by omega)) rfl hA1.1 rfl rfl ywX9_clipLine rfl cwX9_145 ⟨nle rfl, nle rfl⟩ (nle rfl) ⟨by show u1 + 0 ≤ 4; omega, by show u2 + 0 ≤ 24; omega⟩ dX9_select_134 ?_ (fun _ _ _ z => z.elim)
            intro r_9 h_9 n_9 hq _
            rw [hq.1, hq.2.1, hq.2.2]
            show pw E YX9_select _ _ u1 u2 137 [some (.ref B), some (.int (zI (p))), some (.int (zI (ro))), some (.int (zI (co))), some (.int (zI (tr))), some (.int (zI (tc))), some (.int (zI (la))), some (.int (zI (r)))] [] (clP B (B + 1) (B + 107) (B + 110) (B + 113) (B + 114) (B + 2) w H (hFoc s) (hPre s) (slC (vRow w H (hX s p.toNat).1.1 (hX s p.toNat).2.1.2 r 0 NL t.1) (co) (tc) t.2) h1) n
            have hA3 : hAt w H N NH NB NL B (sLin (vRow w H (hX s p.toNat).1.1 (hX s p.toNat).2.1.2 r 0 NL t.1) (sClp (slC (vRow w H (hX s p.toNat).1.1 (hX s p.toNat).2.1.2 r 0 NL t.1) (co) (tc) t.2) s)) (clP B (B + 1) (B + 107) (B + 110) (B + 113) (B + 114) (B + 2) w H (hFoc s) (hPre s) (slC (vRow w H (hX s p.toNat).1.1 (hX s p.toNat).2.1.2 r 0 NL t.1) (co) (tc) t.2) h1) := by have z := hAt_clip (c := (slC (vRow w H (hX s p.toNat).1.1 (hX s p.toNat).2.1.2 r 0 NL t.1) (co) (tc) t.2)) hA1; exact z
            have hF3 : hFr B n (hD s) h0 (clP B (B + 1) (B + 107) (B + 110) (B + 113) (B + 114) (B + 2) w H (hFoc s) (hPre s) (slC (vRow w H (hX s p.toNat).1.1 (hX s p.toNat).2.1.2 r 0 NL t.1) (co) (tc) t.2) h1) := hFr_tr hF1 (hFr_in (lo := B) (hi := B + 2) (fun a ha => clP_o (by omega) (by omega)) (by omega) (by omega))
            revert hA3 hF3
            generalize (clP B (B + 1) (B + 107) (B + 110) (B + 113) (B + 114) (B + 2) w H (hFoc s) (hPre s) (slC (vRow w H (hX s p.toNat).1.1 (hX s p.toNat).2.1.2 r 0 NL t.1) (co) (tc) t.2) h1) = h3
            intro hA3 hF3
            refine pw_ziinc (lv' := [some (.ref B), some (.int (zI (p))), some (.int (zI (ro))), some (.int (zI (co))), some (.int (zI (tr))), some (.int (zI (tc))), some (.int (zI (la))), some (.int (zI (r + 1)))]) dX9_select_137 rfl (by decide) rfl rfl ?_
            refine pw_goto (tgt := 73) dX9_select_140 rfl ?_
            have e9 : sl1 w H NL (hX s p.toNat) ro co tr tc la r t = ((vRow w H (hX s p.toNat).1.1 (hX s p.toNat).2.1.2 r 0 NL t.1), slC (vRow w H (hX s p.toNat).1.1 (hX s p.toNat).2.1.2 r 0 NL t.1) (co) (tc) t.2) := by unfold sl1 slF slE; (first | rw [if_pos (show r = ro by omega)] | rw [if_neg (show ¬ r = ro by omega)]); (first | rw [if_pos (show r = tr by omega)] | rw [if_neg (show ¬ r = tr by omega)]); (first | rw [if_pos (show ro < r by omega)] | rw [if_neg (show ¬ ro < r by omega)])
            have ht2 := sl1_ok (H := H) (NL := NL) (ro := ro) (co := co) (tr := tr) (tc := tc) (la := la) (r := r) pcl ht
            rw [show slA w H NL (hX s p.toNat) ro co tr tc la (j + 1) r t = slA w H NL (hX s p.toNat) ro co tr tc la j (r + 1) (sl1 w H NL (hX s p.toNat) ro co tr tc la r t) from rfl] at hQ
            rw [e9] at ht2 hQ
            exact ih (r + 1) h3 ((vRow w H (hX s p.toNat).1.1 (hX s p.toNat).2.1.2 r 0 NL t.1), slC (vRow w H (hX s p.toNat).1.1 (hX s p.toNat).2.1.2 r 0 NL t.1) (co) (tc) t.2) (by omega) (by omega) (by omega) hA3 hF3 ht2 hQ
      ·
        refine pw_aload_n dX9_select_86 rfl ?_
        refine pw_bipush (v := zI (10)) dX9_select_87 (by decide) ?_
        refine pw_callV (As := [.int (zI 10)]) (b := B) (rm := rmD 0 0 0) (mX9_clipByte htr hA.1 hA.2.2.1 (by omega) ht.2) rfl hA.1 rfl rfl ywX9_clipByte rfl cwX9_138 ⟨nle rfl, nle rfl⟩ (nle rfl) ⟨by show u1 + 0 ≤ 4; omega, by show u2 + 0 ≤ 24; omega⟩ dX9_select_89 ?_ (fun _ _ _ z => z.elim)
        intro r_9 h_9 n_9 hq _
        rw [hq.1, hq.2.1, hq.2.2]
        show pw E YX9_select _ _ u1 u2 92 [some (.ref B), some (.int (zI (p))), some (.int (zI (ro))), some (.int (zI (co))), some (.int (zI (tr))), some (.int (zI (tc))), some (.int (zI (la))), some (.int (zI (r)))] [] (clP B (B + 1) (B + 107) (B + 110) (B + 113) (B + 114) (B + 2) w H (hFoc s) (hPre s) (clB 10 t.2) h) n
        have hA4 : hAt w H N NH NB NL B (sLin t.1 (sClp (clB 10 t.2) s)) (clP B (B + 1) (B + 107) (B + 110) (B + 113) (B + 114) (B + 2) w H (hFoc s) (hPre s) (clB 10 t.2) h) := by have z := hAt_clip (c := clB 10 t.2) hA; exact z
        have hF4 : hFr B n (hD s) h0 (clP B (B + 1) (B + 107) (B + 110) (B + 113) (B + 114) (B + 2) w H (hFoc s) (hPre s) (clB 10 t.2) h) := hFr_tr hF (hFr_in (lo := B) (hi := B + 2) (fun a ha => clP_o (by omega) (by omega)) (by omega) (by omega))
        revert hA4 hF4
        generalize (clP B (B + 1) (B + 107) (B + 110) (B + 113) (B + 114) (B + 2) w H (hFoc s) (hPre s) (clB 10 t.2) h) = h4
        intro hA4 hF4
        refine pw_aload_n dX9_select_92 rfl ?_
        refine pw_get (v := .ref (B + 1)) okX9 (k := 2) (by decide) lkX9_11 hA4.1 rfl dX9_select_93 ?_
        refine pw_iload_n dX9_select_96 rfl ?_
        refine pw_aaldO (t := 3) rfl hA4.2.1 (by omega) (by decide) dX9_select_97 ?_
        refine pw_iload dX9_select_98 rfl ?_
        refine pw_aload_n dX9_select_100 rfl ?_
        refine pw_get (v := .ref (B + 114)) okX9 (k := 6) (by decide) lkX9_50 hA4.1 rfl dX9_select_101 ?_
        refine pw_iconst (v := zI (0)) dX9_select_104 (by decide) ?_
        rw [show rv (hPv B (p).toNat) = Value.ref (B + 3 + 13 * p.toNat) from by rw [hPv_s (by omega)]; rfl]
        refine pw_callV (As := [.int (zI r), .ref (B + 114), .int (zI 0)]) (b := (B + 3 + 13 * p.toNat)) (rm := rmD 3 0 0) (mX4_viewRow htr gG0 (hA_pn hA4 (k := p.toNat) (by omega)).1.1 pg.1.1 (hA_pn hA4 (k := p.toNat) (by omega)).2.1 (fun i _ => pnI_ne (by omega)) pcm ⟨pof.1, Int.le_trans pof.2 (by decide)⟩ hA4.2.2.2.2.2.2.2.2.1 (fun i _ => pnI_ne (by omega)) (by omega) pcl.2.2.2 (by omega) (by omega)) rfl (hA_pn hA4 (k := p.toNat) (by omega)).2.1 rfl rfl ywX4_viewRow rfl cwX9_141 ⟨nle rfl, nle rfl⟩ (nle rfl) ⟨by show u1 + 0 ≤ 4; omega, by show u2 + 0 ≤ 24; omega⟩ dX9_select_105 ?_ (fun _ _ _ z => z.elim)
        intro r_9 h_9 n_9 hq _
        rw [hq.1, hq.2.1, hq.2.2]
        show pw E YX9_select _ _ u1 u2 108 [some (.ref B), some (.int (zI (p))), some (.int (zI (ro))), some (.int (zI (co))), some (.int (zI (tr))), some (.int (zI (tc))), some (.int (zI (la))), some (.int (zI (r)))] [] (va_up h4 (B + 114) (pz_z 0 NL (vRow w H (hX s p.toNat).1.1 (hX s p.toNat).2.1.2 r 0 NL t.1))) n
        have hA5 : hAt w H N NH NB NL B (sLin (vRow w H (hX s p.toNat).1.1 (hX s p.toNat).2.1.2 r 0 NL t.1) (sClp (clB 10 t.2) s)) (va_up h4 (B + 114) (pz_z 0 NL (vRow w H (hX s p.toNat).1.1 (hX s p.toNat).2.1.2 r 0 NL t.1))) := by have z := hAt_lin (f := (vRow w H (hX s p.toNat).1.1 (hX s p.toNat).2.1.2 r 0 NL t.1)) hA4; exact z
        have hF5 : hFr B n (hD s) h0 (va_up h4 (B + 114) (pz_z 0 NL (vRow w H (hX s p.toNat).1.1 (hX s p.toNat).2.1.2 r 0 NL t.1))) := hFr_tr hF4 (hFr_in (lo := B + 114) (hi := B + 114) (fun a ha => va_up_ne _ _ (by omega)) (by omega) (by omega))
        revert hA5 hF5
        generalize (va_up h4 (B + 114) (pz_z 0 NL (vRow w H (hX s p.toNat).1.1 (hX s p.toNat).2.1.2 r 0 NL t.1))) = h5
        intro hA5 hF5
        refine pw_aload_n dX9_select_108 rfl ?_
        refine pw_iload dX9_select_109 rfl ?_
        refine pw_iload_n dX9_select_111 rfl ?_
        refine pw_icmp_ne (tgt := 119) dX9_select_112 rfl (by omega) (by omega) (fun c112 => ?_) (fun c112 => ?_)
        ·
          refine pw_iconst (v := zI (0)) dX9_select_119 (by decide) ?_
          refine pw_iload dX9_select_120 rfl ?_
          refine pw_iload dX9_select_122 rfl ?_
          refine pw_icmp_ne (tgt := 132) dX9_select_124 rfl (by omega) (by omega) (fun c124 => ?_) (fun c124 => ?_)
          ·
            refine pw_iload dX9_select_132 rfl ?_
            have hcr1 : cr (vRow w H (hX s p.toNat).1.1 (hX s p.toNat).2.1.2 r 0 NL t.1) := cr_vRow pcl ht.1
            refine pw_callV (As := [.int (zI (0)), .int (zI (la))]) (b := B) (rm := rmD 1 0 0) (mX9_clipLine (l := (vRow w H (hX s p.toNat).1.1 (hX s p.toNat).2.1.2 r 0 NL t.1)) (NL := NL) (c := (clB 10 t.2)) htr (by omega) (fun k9 => by have := hcr1 k9; omega) (by omega) (by omega) (by omega) hA5.1 hA5.2.2.1 hA5.2.2.2.2.2.2.2.2.1 (clB_ok ht.2) (by omega) (by omega)) rfl hA5.1 rfl rfl ywX9_clipLine rfl cwX9_145 ⟨nle rfl, nle rfl⟩ (nle rfl) ⟨by show u1 + 0 ≤ 4; omega, by show u2 + 0 ≤ 24; omega⟩ dX9_select_134 ?_ (fun _ _ _ z => z.elim)
            intro r_9 h_9 n_9 hq _
            rw [hq.1, hq.2.1, hq.2.2]
            show pw E YX9_select _ _ u1 u2 137 [some (.ref B), some (.int (zI (p))), some (.int (zI (ro))), some (.int (zI (co))), some (.int (zI (tr))), some (.int (zI (tc))), some (.int (zI (la))), some (.int (zI (r)))] [] (clP B (B + 1) (B + 107) (B + 110) (B + 113) (B + 114) (B + 2) w H (hFoc s) (hPre s) (slC (vRow w H (hX s p.toNat).1.1 (hX s p.toNat).2.1.2 r 0 NL t.1) (0) (la) (clB 10 t.2)) h5) n
            have hA6 : hAt w H N NH NB NL B (sLin (vRow w H (hX s p.toNat).1.1 (hX s p.toNat).2.1.2 r 0 NL t.1) (sClp (slC (vRow w H (hX s p.toNat).1.1 (hX s p.toNat).2.1.2 r 0 NL t.1) (0) (la) (clB 10 t.2)) s)) (clP B (B + 1) (B + 107) (B + 110) (B + 113) (B + 114) (B + 2) w H (hFoc s) (hPre s) (slC (vRow w H (hX s p.toNat).1.1 (hX s p.toNat).2.1.2 r 0 NL t.1) (0) (la) (clB 10 t.2)) h5) := by have z := hAt_clip (c := (slC (vRow w H (hX s p.toNat).1.1 (hX s p.toNat).2.1.2 r 0 NL t.1) (0) (la) (clB 10 t.2))) hA5; exact z
            have hF6 : hFr B n (hD s) h0 (clP B (B + 1) (B + 107) (B + 110) (B + 113) (B + 114) (B + 2) w H (hFoc s) (hPre s) (slC (vRow w H (hX s p.toNat).1.1 (hX s p.toNat).2.1.2 r 0 NL t.1) (0) (la) (clB 10 t.2)) h5) := hFr_tr hF5 (hFr_in (lo := B) (hi := B + 2) (fun a ha => clP_o (by omega) (by omega)) (by omega) (by omega))
            revert hA6 hF6
            generalize (clP B (B + 1) (B + 107) (B + 110) (B + 113) (B + 114) (B + 2) w H (hFoc s) (hPre s) (slC (vRow w H (hX s p.toNat).1.1 (hX s p.toNat).2.1.2 r 0 NL t.1) (0) (la) (clB 10 t.2)) h5) = h6
            intro hA6 hF6
            refine pw_ziinc (lv' := [some (.ref B), some (.int (zI (p))), some (.int (zI (ro))), some (.int (zI (co))), some (.int (zI (tr))), some (.int (zI (tc))), some (.int (zI (la))), some (.int (zI (r + 1)))]) dX9_select_137 rfl (by decide) rfl rfl ?_
            refine pw_goto (tgt := 73) dX9_select_140 rfl ?_
            have e9 : sl1 w H NL (hX s p.toNat) ro co tr tc la r t = ((vRow w H (hX s p.toNat).1.1 (hX s p.toNat).2.1.2 r 0 NL t.1), slC (vRow w H (hX s p.toNat).1.1 (hX s p.toNat).2.1.2 r 0 NL t.1) (0) (la) (clB 10 t.2)) := by unfold sl1 slF slE; (first | rw [if_pos (show r = ro by omega)] | rw [if_neg (show ¬ r = ro by omega)]); (first | rw [if_pos (show r = tr by omega)] | rw [if_neg (show ¬ r = tr by omega)]); (first | rw [if_pos (show ro < r by omega)] | rw [if_neg (show ¬ ro < r by omega)])
            have ht2 := sl1_ok (H := H) (NL := NL) (ro := ro) (co := co) (tr := tr) (tc := tc) (la := la) (r := r) pcl ht
            rw [show slA w H NL (hX s p.toNat) ro co tr tc la (j + 1) r t = slA w H NL (hX s p.toNat) ro co tr tc la j (r + 1) (sl1 w H NL (hX s p.toNat) ro co tr tc la r t) from rfl] at hQ
            rw [e9] at ht2 hQ
            exact ih (r + 1) h6 ((vRow w H (hX s p.toNat).1.1 (hX s p.toNat).2.1.2 r 0 NL t.1), slC (vRow w H (hX s p.toNat).1.1 (hX s p.toNat).2.1.2 r 0 NL t.1) (0) (la) (clB 10 t.2)) (by omega) (by omega) (by omega) hA6 hF6 ht2 hQ
          ·
            refine pw_iload dX9_select_127 rfl ?_
            refine pw_goto (tgt := 134) dX9_select_129 rfl ?_
            have hcr1 : cr (vRow w H (hX s p.toNat).1.1 (hX s p.toNat).2.1.2 r 0 NL t.1) := cr_vRow pcl ht.1
            refine pw_callV (As := [.int (zI (0)), .int (zI (tc))]) (b := B) (rm := rmD 1 0 0) (mX9_clipLine (l := (vRow w H (hX s p.toNat).1.1 (hX s p.toNat).2.1.2 r 0 NL t.1)) (NL := NL) (c := (clB 10 t.2)) htr (by omega) (fun k9 => by have := hcr1 k9; omega) (by omega) (by omega) (by omega) hA5.1 hA5.2.2.1 hA5.2.2.2.2.2.2.2.2.1 (clB_ok ht.2) (by omega) (by omega)) rfl hA5.1 rfl rfl ywX9_clipLine rfl cwX9_145 ⟨nle rfl, nle rfl⟩ (nle rfl) ⟨by show u1 + 0 ≤ 4; omega, by show u2 + 0 ≤ 24; omega⟩ dX9_select_134 ?_ (fun _ _ _ z => z.elim)
            intro r_9 h_9 n_9 hq _
            rw [hq.1, hq.2.1, hq.2.2]
            show pw E YX9_select _ _ u1 u2 137 [some (.ref B), some (.int (zI (p))), some (.int (zI (ro))), some (.int (zI (co))), some (.int (zI (tr))), some (.int (zI (tc))), some (.int (zI (la))), some (.int (zI (r)))] [] (clP B (B + 1) (B + 107) (B + 110) (B + 113) (B + 114) (B + 2) w H (hFoc s) (hPre s) (slC (vRow w H (hX s p.toNat).1.1 (hX s p.toNat).2.1.2 r 0 NL t.1) (0) (tc) (clB 10 t.2)) h5) n
            have hA7 : hAt w H N NH NB NL B (sLin (vRow w H (hX s p.toNat).1.1 (hX s p.toNat).2.1.2 r 0 NL t.1) (sClp (slC (vRow w H (hX s p.toNat).1.1 (hX s p.toNat).2.1.2 r 0 NL t.1) (0) (tc) (clB 10 t.2)) s)) (clP B (B + 1) (B + 107) (B + 110) (B + 113) (B + 114) (B + 2) w H (hFoc s) (hPre s) (slC (vRow w H (hX s p.toNat).1.1 (hX s p.toNat).2.1.2 r 0 NL t.1) (0) (tc) (clB 10 t.2)) h5) := by have z := hAt_clip (c := (slC (vRow w H (hX s p.toNat).1.1 (hX s p.toNat).2.1.2 r 0 NL t.1) (0) (tc) (clB 10 t.2))) hA5; exact z
            have hF7 : hFr B n (hD s) h0 (clP B (B + 1) (B + 107) (B + 110) (B + 113) (B + 114) (B + 2) w H (hFoc s) (hPre s) (slC (vRow w H (hX s p.toNat).1.1 (hX s p.toNat).2.1.2 r 0 NL t.1) (0) (tc) (clB 10 t.2)) h5) := hFr_tr hF5 (hFr_in (lo := B) (hi := B + 2) (fun a ha => clP_o (by omega) (by omega)) (by omega) (by omega))
            revert hA7 hF7
            generalize (clP B (B + 1) (B + 107) (B + 110) (B + 113) (B + 114) (B + 2) w H (hFoc s) (hPre s) (slC (vRow w H (hX s p.toNat).1.1 (hX s p.toNat).2.1.2 r 0 NL t.1) (0) (tc) (clB 10 t.2)) h5) = h7
            intro hA7 hF7
            refine pw_ziinc (lv' := [some (.ref B), some (.int (zI (p))), some (.int (zI (ro))), some (.int (zI (co))), some (.int (zI (tr))), some (.int (zI (tc))), some (.int (zI (la))), some (.int (zI (r + 1)))]) dX9_select_137 rfl (by decide) rfl rfl ?_
            refine pw_goto (tgt := 73) dX9_select_140 rfl ?_
            have e9 : sl1 w H NL (hX s p.toNat) ro co tr tc la r t = ((vRow w H (hX s p.toNat).1.1 (hX s p.toNat).2.1.2 r 0 NL t.1), slC (vRow w H (hX s p.toNat).1.1 (hX s p.toNat).2.1.2 r 0 NL t.1) (0) (tc) (clB 10 t.2)) := by unfold sl1 slF slE; (first | rw [if_pos (show r = ro by omega)] | rw [if_neg (show ¬ r = ro by omega)]); (first | rw [if_pos (show r = tr by omega)] | rw [if_neg (show ¬ r = tr by omega)]); (first | rw [if_pos (show ro < r by omega)] | rw [if_neg (show ¬ ro < r by omega)])
            have ht2 := sl1_ok (H := H) (NL := NL) (ro := ro) (co := co) (tr := tr) (tc := tc) (la := la) (r := r) pcl ht
            rw [show slA w H NL (hX s p.toNat) ro co tr tc la (j + 1) r t = slA w H NL (hX s p.toNat) ro co tr tc la j (r + 1) (sl1 w H NL (hX s p.toNat) ro co tr tc la r t) from rfl] at hQ
            rw [e9] at ht2 hQ
            exact ih (r + 1) h7 ((vRow w H (hX s p.toNat).1.1 (hX s p.toNat).2.1.2 r 0 NL t.1), slC (vRow w H (hX s p.toNat).1.1 (hX s p.toNat).2.1.2 r 0 NL t.1) (0) (tc) (clB 10 t.2)) (by omega) (by omega) (by omega) hA7 hF7 ht2 hQ
        ·
          exfalso; omega
set_option maxHeartbeats 800000 in
set_option maxRecDepth 100000 in
/-- select(p, ro, co, tr, tc) -/
theorem mX9_select {E : pw_E} (htr : E.1.stackTraces = false) {h : pz_H} {n : Nat} {w H M : Int} {N NH NB NL B : Nat} {s : hS} (hG : geoH w H N NH NB NL) (hA : hAt w H N NH NB NL B s h) (hg : hGd w H M NB s) (hM : 0 ≤ M ∧ M ≤ 900000000) {p ro co tr tc : Int} (h_p : -2147483648 ≤ p ∧ p < 2147483648) (h_ro : -2147483648 ≤ ro ∧ ro < 2147483648) (h_co : -2147483648 ≤ co ∧ co < 2147483648) (h_tr : -2147483648 ≤ tr ∧ tr < 2147483648) (h_tc : -2147483648 ≤ tc ∧ tc < 2147483648)  : pw_M E yX9_select YX9_select (rmD 7 4 24) [.ref B, .int (zI (p)), .int (zI (ro)), .int (zI (co)), .int (zI (tr)), .int (zI (tc))] h n (fun r h' n' => lyHas (hLv s) p = 1 ∧ ((0 ≤ ro ∧ ro < (hX s p.toNat).1.1.1 4 ∧ 0 ≤ co ∧ co < (hX s p.toNat).1.1.1 3) ∧ (0 ≤ tr ∧ tr < (hX s p.toNat).1.1.1 4 ∧ 0 ≤ tc ∧ tc < (hX s p.toNat).1.1.1 3)) ∧ (ro < tr ∨ (ro = tr ∧ co ≤ tc)) ∧ r = some (.int (zI (hSel w H NL p ro co tr tc s).2.2)) ∧ hAt w H N NH NB NL B (sLin (hSel w H NL p ro co tr tc s).1 (sClp (hSel w H NL p ro co tr tc s).2 s)) h' ∧ hFr B n (hD s) h h' ∧ n' = n) (fun C h' n' => (C = "java/lang/IndexOutOfBoundsException" ∧ lyHas (hLv s) p = 0 ∧ h' = h ∧ n' = n) ∨ (C = "java/lang/IndexOutOfBoundsException" ∧ (lyHas (hLv s) p = 1 ∧ ¬ ((0 ≤ ro ∧ ro < (hX s p.toNat).1.1.1 4 ∧ 0 ≤ co ∧ co < (hX s p.toNat).1.1.1 3) ∧ (0 ≤ tr ∧ tr < (hX s p.toNat).1.1.1 4 ∧ 0 ≤ tc ∧ tc < (hX s p.toNat).1.1.1 3))) ∧ h' = h ∧ n' = n) ∨ (C = "java/lang/IllegalArgumentException" ∧ (lyHas (hLv s) p = 1 ∧ ((0 ≤ ro ∧ ro < (hX s p.toNat).1.1.1 4 ∧ 0 ≤ co ∧ co < (hX s p.toNat).1.1.1 3) ∧ (0 ≤ tr ∧ tr < (hX s p.toNat).1.1.1 4 ∧ 0 ≤ tc ∧ tc < (hX s p.toNat).1.1.1 3)) ∧ ¬ (ro < tr ∨ (ro = tr ∧ co ≤ tc))) ∧ h' = h ∧ n' = n)) := by
  have hG0 := hG
  have hg0 := hg
  obtain ⟨gG, gNB, gNL⟩ := hG
  have gG0 := gG
  obtain ⟨gw, gH, gN, gN2, gNH⟩ := gG
  obtain ⟨gP, gL, gY, gF, gFl, gPr, gC, gO, gPi, gLi⟩ := hg
  obtain ⟨gO3, gO4, gO5, gO6, gO7, gOc⟩ := gO
  refine pw_M_of (lv := [some (.ref B), some (.int (zI (p))), some (.int (zI (ro))), some (.int (zI (co))), some (.int (zI (tr))), some (.int (zI (tc))), none, none]) (by decide) rfl rfl htr (nle rfl) rfl (fun L => ?_)
  refine pw_aload_n dX9_select_0 rfl ?_
  refine pw_iload_n dX9_select_1 rfl ?_
  refine pw_callV (As := [.int (zI (p))]) (b := B) (rm := rmD 6 1 6) (mX9_checkPane htr hA (by omega)) rfl hA.1 rfl rfl ywX9_checkPane rfl cwX9_59 ⟨nle rfl, nle rfl⟩ (nle rfl) ⟨nle rfl, nle rfl⟩ dX9_select_2 ?_ (fun _ _ _ z => Or.inl z)
  intro r2 h2 n2 hq _
  obtain ⟨hpx, e1, e2, e3⟩ := hq
  rw [e1, e2, e3]
  show pw E YX9_select _ _ (0 + 1) (0 + 6) 5 [some (.ref B), some (.int (zI (p))), some (.int (zI (ro))), some (.int (zI (co))), some (.int (zI (tr))), some (.int (zI (tc))), none, none] [] h n
  clear e1 e2 e3
  obtain ⟨hp8, hpl⟩ := lyHas_y hpx
  obtain ⟨p3, p4, p5, p6, p9, p10, pcl, pT, pR, pcm, pof, pto⟩ := gP p.toNat (by omega)
  have pg := gL p.toNat (by omega) hpl
  refine pw_aload_n dX9_select_5 rfl ?_
  refine pw_iload_n dX9_select_6 rfl ?_
  refine pw_iload_n dX9_select_7 rfl ?_
  refine pw_iload_n dX9_select_8 rfl ?_
  refine pw_callV (As := [.int (zI (p)), .int (zI (ro)), .int (zI (co))]) (b := B) (rm := rmD 6 1 6) (mX9_checkPlace htr hG0 hA hg0 hM (by omega) (by omega) (by omega) hp8) rfl hA.1 rfl rfl ywX9_checkPlace rfl cwX9_120 ⟨nle rfl, nle rfl⟩ (nle rfl) ⟨nle rfl, nle rfl⟩ dX9_select_9 ?_ (fun C h' n' z => Or.inr (Or.inl ⟨z.1, ⟨hpx, fun y => z.2.1 y.1⟩, z.2.2⟩))
  intro r2 h2 n2 hq _
  obtain ⟨hq1, e1, e2, e3⟩ := hq
  rw [e1, e2, e3]
  show pw E YX9_select _ _ 2 12 12 [some (.ref B), some (.int (zI (p))), some (.int (zI (ro))), some (.int (zI (co))), some (.int (zI (tr))), some (.int (zI (tc))), none, none] [] h n
  clear e1 e2 e3
  refine pw_aload_n dX9_select_12 rfl ?_
  refine pw_iload_n dX9_select_13 rfl ?_
  refine pw_iload dX9_select_14 rfl ?_
  refine pw_iload dX9_select_16 rfl ?_
  refine pw_callV (As := [.int (zI (p)), .int (zI (tr)), .int (zI (tc))]) (b := B) (rm := rmD 6 1 6) (mX9_checkPlace htr hG0 hA hg0 hM (by omega) (by omega) (by omega) hp8) rfl hA.1 rfl rfl ywX9_checkPlace rfl cwX9_120 ⟨nle rfl, nle rfl⟩ (nle rfl) ⟨nle rfl, nle rfl⟩ dX9_select_18 ?_ (fun C h' n' z => Or.inr (Or.inl ⟨z.1, ⟨hpx, fun y => z.2.1 y.2⟩, z.2.2⟩))
  intro r2 h2 n2 hq _
  obtain ⟨hq2, e1, e2, e3⟩ := hq
  rw [e1, e2, e3]
  show pw E YX9_select _ _ 3 18 21 [some (.ref B), some (.int (zI (p))), some (.int (zI (ro))), some (.int (zI (co))), some (.int (zI (tr))), some (.int (zI (tc))), none, none] [] h n
  clear e1 e2 e3
  refine pw_iload dX9_select_21 rfl ?_
  refine pw_iload_n dX9_select_23 rfl ?_
  refine pw_icmp_lt (tgt := 39) dX9_select_24 rfl (by omega) (by omega) (fun c24 => ?_) (fun c24 => ?_)
  ·
    exact pw_throw (text := "the second place is before the first one") (by decide +kernel) tk_IA.1 tk_IA.2 (by decide +kernel) th_IA ⟨nle rfl, nle rfl⟩ ⟨nle rfl, nle rfl⟩ dX9_select_39 dX9_select_42 dX9_select_43 dX9_select_45 dX9_select_48 (Or.inr (Or.inr ⟨rfl, ⟨hpx, ⟨hq1, hq2⟩, by omega⟩, rfl, rfl⟩))
  ·
    refine pw_iload dX9_select_27 rfl ?_
    refine pw_iload_n dX9_select_29 rfl ?_
    refine pw_icmp_ne (tgt := 49) dX9_select_30 rfl (by omega) (by omega) (fun c30 => ?_) (fun c30 => ?_)
    ·
      refine pw_aload_n dX9_select_49 rfl ?_
      refine pw_iconst (v := zI (0)) dX9_select_50 (by decide) ?_
      refine pw_put (fs' := (hoL (B + 1) (B + 107) (B + 110) (B + 113) (B + 114) (B + 2) w H (0) (hFoc s) (hPre s))) okX9 (k := 8) (by decide) lkX9_126 rfl rfl rfl hA.1 (nlt rfl) rfl dX9_select_51 ?_
      have hA1 : hAt w H N NH NB NL B (sClp ((hClp s).1, 0) s) (va_up h B (pz_o 12 (hoL (B + 1) (B + 107) (B + 110) (B + 113) (B + 114) (B + 2) w H (0) (hFoc s) (hPre s)))) := hAt_csz hA
      have hF1 : hFr B n (hD s) h (va_up h B (pz_o 12 (hoL (B + 1) (B + 107) (B + 110) (B + 113) (B + 114) (B + 2) w H (0) (hFoc s) (hPre s)))) := hFr_tr hFr_rf (hFr_in (lo := B) (hi := B) (fun a ha => va_up_ne _ _ (by omega)) (by omega) (by omega))
      revert hA1 hF1
      generalize (va_up h B (pz_o 12 (hoL (B + 1) (B + 107) (B + 110) (B + 113) (B + 114) (B + 2) w H (0) (hFoc s) (hPre s)))) = h1
      intro hA1 hF1
      refine pw_aload_n dX9_select_54 rfl ?_
      refine pw_get (v := .ref (B + 1)) okX9 (k := 2) (by decide) lkX9_11 hA1.1 rfl dX9_select_55 ?_
      refine pw_iload_n dX9_select_58 rfl ?_
      refine pw_aaldO (t := 3) rfl hA1.2.1 (by omega) (by decide) dX9_select_59 ?_
      refine pw_some (hPv_s (by omega)) ?_
      refine pw_getN (v := .ref (B + 3 + 13 * p.toNat + 3)) okX4 (k := 0) (by decide) lkX9_129 (hA_pn hA1 (by omega)).2.1 rfl dX9_select_60 ?_
      refine pw_getN (v := .int (zI ((hX s p.toNat).1.1.1 3))) okX7 (k := 3) (by decide) lkX9_133 (hA_pn hA1 (by omega)).1.1.1.1 rfl dX9_select_63 ?_
      refine pw_iconst (v := zI (1)) dX9_select_66 (by decide) ?_
      refine pw_zisub dX9_select_67 ?_
      refine pw_istore (lv' := [some (.ref B), some (.int (zI (p))), some (.int (zI (ro))), some (.int (zI (co))), some (.int (zI (tr))), some (.int (zI (tc))), some (.int (zI (((hX s p.toNat).1.1.1 3) - (1)))), none]) dX9_select_68 (by decide) rfl rfl ?_
      refine pw_iload_n dX9_select_70 rfl ?_
      refine pw_istore (lv' := [some (.ref B), some (.int (zI (p))), some (.int (zI (ro))), some (.int (zI (co))), some (.int (zI (tr))), some (.int (zI (tc))), some (.int (zI (((hX s p.toNat).1.1.1 3) - (1)))), some (.int (zI (ro)))]) dX9_select_71 (by decide) rfl rfl ?_
      refine lX9_sel htr hG0 hp8 ⟨nle rfl, nle rfl⟩ (by omega) (by omega) (by omega) (by omega) (by omega) (gP p.toNat (by omega)) pg _ ro h1 (hLin s, ((hClp s).1, 0)) rfl (by omega) (by omega) hA1 hF1 ⟨gLi, by show (0 : Int) ≤ 0; decide, by show (0 : Int) ≤ 400; decide⟩ (fun h5 r5 hA5 hF5 => ?_)
      refine pw_aload_n dX9_select_143 rfl ?_
      refine pw_get (v := .int (zI ((hClp (sLin (hSel w H NL p ro co tr tc s).1 (sClp (hSel w H NL p ro co tr tc s).2 s))).2))) okX9 (k := 8) (by decide) lkX9_126 hA5.1 rfl dX9_select_144 ?_
      exact pw_iret dX9_select_147 rfl (nle rfl) (nle rfl) ⟨hpx, ⟨hq1, hq2⟩, by omega, rfl, hA5, hF5, rfl⟩
    ·
      refine pw_iload dX9_select_33 rfl ?_
      refine pw_iload_n dX9_select_35 rfl ?_
      refine pw_icmp_ge (tgt := 49) dX9_select_36 rfl (by omega) (by omega) (fun c36 => ?_) (fun c36 => ?_)
      ·
        refine pw_aload_n dX9_select_49 rfl ?_
        refine pw_iconst (v := zI (0)) dX9_select_50 (by decide) ?_
        refine pw_put (fs' := (hoL (B + 1) (B + 107) (B + 110) (B + 113) (B + 114) (B + 2) w H (0) (hFoc s) (hPre s))) okX9 (k := 8) (by decide) lkX9_126 rfl rfl rfl hA.1 (nlt rfl) rfl dX9_select_51 ?_
        have hA2 : hAt w H N NH NB NL B (sClp ((hClp s).1, 0) s) (va_up h B (pz_o 12 (hoL (B + 1) (B + 107) (B + 110) (B + 113) (B + 114) (B + 2) w H (0) (hFoc s) (hPre s)))) := hAt_csz hA
        have hF2 : hFr B n (hD s) h (va_up h B (pz_o 12 (hoL (B + 1) (B + 107) (B + 110) (B + 113) (B + 114) (B + 2) w H (0) (hFoc s) (hPre s)))) := hFr_tr hFr_rf (hFr_in (lo := B) (hi := B) (fun a ha => va_up_ne _ _ (by omega)) (by omega) (by omega))
        revert hA2 hF2
        generalize (va_up h B (pz_o 12 (hoL (B + 1) (B + 107) (B + 110) (B + 113) (B + 114) (B + 2) w H (0) (hFoc s) (hPre s)))) = h2
        intro hA2 hF2
        refine pw_aload_n dX9_select_54 rfl ?_
        refine pw_get (v := .ref (B + 1)) okX9 (k := 2) (by decide) lkX9_11 hA2.1 rfl dX9_select_55 ?_
        refine pw_iload_n dX9_select_58 rfl ?_
        refine pw_aaldO (t := 3) rfl hA2.2.1 (by omega) (by decide) dX9_select_59 ?_
        refine pw_some (hPv_s (by omega)) ?_
        refine pw_getN (v := .ref (B + 3 + 13 * p.toNat + 3)) okX4 (k := 0) (by decide) lkX9_129 (hA_pn hA2 (by omega)).2.1 rfl dX9_select_60 ?_
        refine pw_getN (v := .int (zI ((hX s p.toNat).1.1.1 3))) okX7 (k := 3) (by decide) lkX9_133 (hA_pn hA2 (by omega)).1.1.1.1 rfl dX9_select_63 ?_
        refine pw_iconst (v := zI (1)) dX9_select_66 (by decide) ?_
        refine pw_zisub dX9_select_67 ?_
        refine pw_istore (lv' := [some (.ref B), some (.int (zI (p))), some (.int (zI (ro))), some (.int (zI (co))), some (.int (zI (tr))), some (.int (zI (tc))), some (.int (zI (((hX s p.toNat).1.1.1 3) - (1)))), none]) dX9_select_68 (by decide) rfl rfl ?_
        refine pw_iload_n dX9_select_70 rfl ?_
        refine pw_istore (lv' := [some (.ref B), some (.int (zI (p))), some (.int (zI (ro))), some (.int (zI (co))), some (.int (zI (tr))), some (.int (zI (tc))), some (.int (zI (((hX s p.toNat).1.1.1 3) - (1)))), some (.int (zI (ro)))]) dX9_select_71 (by decide) rfl rfl ?_
        refine lX9_sel htr hG0 hp8 ⟨nle rfl, nle rfl⟩ (by omega) (by omega) (by omega) (by omega) (by omega) (gP p.toNat (by omega)) pg _ ro h2 (hLin s, ((hClp s).1, 0)) rfl (by omega) (by omega) hA2 hF2 ⟨gLi, by show (0 : Int) ≤ 0; decide, by show (0 : Int) ≤ 400; decide⟩ (fun h5 r5 hA5 hF5 => ?_)
        refine pw_aload_n dX9_select_143 rfl ?_
        refine pw_get (v := .int (zI ((hClp (sLin (hSel w H NL p ro co tr tc s).1 (sClp (hSel w H NL p ro co tr tc s).2 s))).2))) okX9 (k := 8) (by decide) lkX9_126 hA5.1 rfl dX9_select_144 ?_
        exact pw_iret dX9_select_147 rfl (nle rfl) (nle rfl) ⟨hpx, ⟨hq1, hq2⟩, by omega, rfl, hA5, hF5, rfl⟩
      ·
        exact pw_throw (text := "the second place is before the first one") (by decide +kernel) tk_IA.1 tk_IA.2 (by decide +kernel) th_IA ⟨nle rfl, nle rfl⟩ ⟨nle rfl, nle rfl⟩ dX9_select_39 dX9_select_42 dX9_select_43 dX9_select_45 dX9_select_48 (Or.inr (Or.inr ⟨rfl, ⟨hpx, ⟨hq1, hq2⟩, by omega⟩, rfl, rfl⟩))
