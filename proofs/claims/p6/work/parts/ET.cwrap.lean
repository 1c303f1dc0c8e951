/-! ===== the wrappers of the methods that change the layout, FOCUS or PREFIX ===== -/
theorem cK_of {W H M M' : Int} {N NH NB NL n n' : Nat} {t t' : aT} {fo pr fo' pr' : Int} {x x' : hS} {h h' : pz_H} (hC : cH W H M N NH NB NL n t fo pr x h) (hn : 166 ≤ n) (hA : hAt W H N NH NB NL 0 x' h') (hS : cS W H M' NB n' t' fo' pr' x') (hF : hFr 0 n (hD x) h h') (h1 : n ≤ n') (h2 : n' ≤ n + 2) : cK W H M' N NH NB NL n t' fo' pr' h h' n' := ⟨⟨x', hA, hS⟩, cF_fr hC hn hF, h1, h2⟩
theorem cH_S {W H M : Int} {N NH NB NL n : Nat} {t : aT} {fo pr : Int} {x : hS} {h : pz_H} (hC : cH W H M N NH NB NL n t fo pr x h) : cS W H M NB n t fo pr x := hC.2
theorem vp_0 {f : Nat → Int64} {v : Int64} : vp_updL f (Int.toNat 0) v 0 = v := by simp [vp_updL]
set_option maxHeartbeats 1000000 in
set_option maxRecDepth 100000 in
theorem cT_focus {E : pw_E} (htr : E.1.stackTraces = false) {W H M : Int} {N NH NB NL n f g : Nat} {t : aT} {fo pr : Int} {x : hS} {h : pz_H} (hG : geoH W H N NH NB NL) (hT : aG 8 t W H) (hC : cH W H M N NH NB NL n t fo pr x h) (hM : 0 ≤ M ∧ M ≤ 800000000) (hn : 166 ≤ n) (hfm : f ∉ aX fm 8 t) (hgm : g ∉ aX fm 8 t) (hfg : f ≠ g) {p : Int} (h_p : -2147483648 ≤ p ∧ p < 2147483648)  : pw_M E yX9_focus YX9_focus (rmD 7 1 6) [.ref 0, .int (zI (p))] h n (fun r h' n' => ∃ T fo', jFoc t p fo T fo' ∧ T = 0 ∧ r = none ∧ cK W H (M + 400) N NH NB NL n t fo' pr h h' n') (fun C h' n' => ∃ T fo', jFoc t p fo T fo' ∧ ((C = "java/lang/IndexOutOfBoundsException" ∧ T = 1)) ∧ cK W H (M + 400) N NH NB NL n t fo' pr h h' n') := by
  have hS := cH_S hC
  have gw := hG.1.1
  have gH := hG.1.2.1
  have hM2 : M ≤ M + 400 := by omega
  have hfo := cS_fo hT hS
  refine pw_M_mo (mX9_focus (M := M) (B := 0) htr hG hC.1 hC.2.1 (by omega) h_p ) (fun r h' n' hq => ?_) (fun C h' n' hq => ?_)
  · obtain ⟨hs, er, hA', hF, e2⟩ := hq
    have hp := (cI_has hT hS.2.1).mp hs
    rw [e2]
    exact ⟨0, p, Or.inl ⟨hp, rfl, rfl⟩, rfl, er, cK_of hC hn hA' (cS_mo (cS_foc hT hS hp) hM2) hF (by omega) (by omega)⟩
  · obtain ⟨ec, h0, e1, e2⟩ := hq
    rw [e1, e2]
    exact ⟨1, fo, Or.inr ⟨cI_has0 hT hS.2.1 h0, rfl, rfl⟩, ⟨ec, rfl⟩, cK_s hC hM2⟩
set_option maxHeartbeats 1000000 in
set_option maxRecDepth 100000 in
theorem wT_focus {E : pw_E} (htr : E.1.stackTraces = false) {W H M : Int} {N NH NB NL n f g : Nat} {t : aT} {fo pr : Int} {x : hS} {h : pz_H} (hG : geoH W H N NH NB NL) (hT : aG 8 t W H) (hC : cH W H M N NH NB NL n t fo pr x h) (hM : 0 ≤ M ∧ M ≤ 800000000) (hn : 166 ≤ n) (hfm : f ∉ aX fm 8 t) (hgm : g ∉ aX fm 8 t) (hfg : f ≠ g) {p : Int} (h_p : -2147483648 ≤ p ∧ p < 2147483648)  {f9 : Nat → Int64} (ho : h 165 = pz_j 2 1 f9) : pw_MH E yL_focus YL_focus [(0, 5, 8, 13)] (rmD (7 + 1) 1 6) [.ref 0, .int (zI (p))] h n (fun r0 h' n' => ∃ T fo', jFoc t p fo T fo' ∧ r0 = some (.int (zI T)) ∧ cW W H (M + 400) N NH NB NL n t fo' pr (fun _ => True) h h' n') (fun _ _ _ => False) := by
  refine pw_MH_mo (wL_focus (dd := 7) (mc := 1) (ms := 6) htr hC.1.1 (cT_focus htr hG hT hC hM hn hfm hgm hfg h_p ) (fun r h' n' z => ?_) (fun C h' n' z => ?_)) (fun r0 h' n' q => ?_)
  · obtain ⟨T, fo', hj, hT0, er, k⟩ := z
    exact er
  · obtain ⟨T, fo', hj, hc, k⟩ := z
    rcases hc with ⟨hc, -⟩
    · exact hc
  · rcases q with ⟨⟨T, fo', hj, hT0, er, k⟩, e⟩ | ⟨⟨T, fo', hj, hc, k⟩, e⟩
    · exact ⟨T, fo', hj, by rw [hT0]; exact e, cW_k k ho trivial⟩
    · have hT1 : T = 1 := by
        rcases hc with ⟨hc, z⟩
        · exact z
      exact ⟨T, fo', hj, by rw [hT1]; exact e, cW_k k ho trivial⟩
set_option maxHeartbeats 1000000 in
set_option maxRecDepth 100000 in
theorem cT_feed {E : pw_E} (htr : E.1.stackTraces = false) {W H M : Int} {N NH NB NL n f g : Nat} {t : aT} {fo pr : Int} {x : hS} {h : pz_H} (hG : geoH W H N NH NB NL) (hT : aG 8 t W H) (hC : cH W H M N NH NB NL n t fo pr x h) (hM : 0 ≤ M ∧ M ≤ 800000000) (hn : 166 ≤ n) (hfm : f ∉ aX fm 8 t) (hgm : g ∉ aX fm 8 t) (hfg : f ≠ g) {p k : Int} {v : Int64} (h_p : -2147483648 ≤ p ∧ p < 2147483648) (h_k : -2147483648 ≤ k ∧ k < 2147483648)  : pw_M E yX9_feed YX9_feed (rmD 9 2 12) [.ref 0, .int (zI (p)), .long (v), .int (zI (k))] h n (fun r h' n' => ∃ T , jFd t p k T ∧ T = 0 ∧ r = none ∧ cK W H (M + 400) N NH NB NL n t fo pr h h' n') (fun C h' n' => ∃ T , jFd t p k T ∧ ((C = "java/lang/IndexOutOfBoundsException" ∧ T = 1) ∨ (C = "java/lang/IllegalArgumentException" ∧ T = 2)) ∧ cK W H (M + 400) N NH NB NL n t fo pr h h' n') := by
  have hS := cH_S hC
  have gw := hG.1.1
  have gH := hG.1.2.1
  have hM2 : M ≤ M + 400 := by omega
  have hfo := cS_fo hT hS
  refine pw_M_mo (mX9_feed (M := M) (B := 0) htr hG hC.1 hC.2.1 (by omega) h_p h_k ) (fun r h' n' hq => ?_) (fun C h' n' hq => ?_)
  · obtain ⟨hs, hk8, er, hA', hF, e2⟩ := hq
    have hp := (cI_has hT hS.2.1).mp hs
    rw [e2]
    exact ⟨0, Or.inl ⟨hp, hk8, rfl⟩, rfl, er, cK_x hC hn hA' (hGd_mono (hGd_feed hC.2.1 gw.2 gH.2 hp.1 (lyHas_y hs).2) hM2) rfl hC.2.2.2.2.1.1 hC.2.2.2.2.1.2 hF⟩
  · rcases hq with ⟨ec, h0, e1, e2⟩ | ⟨ec, ⟨h0, h1⟩, e1, e2⟩
    · rw [e1, e2]
      exact ⟨1, Or.inr (Or.inl ⟨cI_has0 hT hS.2.1 h0, rfl⟩), Or.inl ⟨ec, rfl⟩, cK_s hC hM2⟩
    · rw [e1, e2]
      exact ⟨2, Or.inr (Or.inr ⟨(cI_has hT hS.2.1).mp h0, h1, rfl⟩), Or.inr ⟨ec, rfl⟩, cK_s hC hM2⟩
set_option maxHeartbeats 1000000 in
set_option maxRecDepth 100000 in
theorem wT_feed {E : pw_E} (htr : E.1.stackTraces = false) {W H M : Int} {N NH NB NL n f g : Nat} {t : aT} {fo pr : Int} {x : hS} {h : pz_H} (hG : geoH W H N NH NB NL) (hT : aG 8 t W H) (hC : cH W H M N NH NB NL n t fo pr x h) (hM : 0 ≤ M ∧ M ≤ 800000000) (hn : 166 ≤ n) (hfm : f ∉ aX fm 8 t) (hgm : g ∉ aX fm 8 t) (hfg : f ≠ g) {p k : Int} {v : Int64} (h_p : -2147483648 ≤ p ∧ p < 2147483648) (h_k : -2147483648 ≤ k ∧ k < 2147483648)  {f9 : Nat → Int64} (ho : h 165 = pz_j 2 1 f9) : pw_MH E yL_feed YL_feed [(0, 8, 11, 13), (0, 8, 15, 15)] (rmD (9 + 1) 2 12) [.ref 0, .int (zI (p)), .long (v), .int (zI (k))] h n (fun r0 h' n' => ∃ T , jFd t p k T ∧ r0 = some (.int (zI T)) ∧ cW W H (M + 400) N NH NB NL n t fo pr (fun _ => True) h h' n') (fun _ _ _ => False) := by
  refine pw_MH_mo (wL_feed (dd := 9) (mc := 2) (ms := 12) htr hC.1.1 (cT_feed htr hG hT hC hM hn hfm hgm hfg h_p h_k ) (fun r h' n' z => ?_) (fun C h' n' z => ?_)) (fun r0 h' n' q => ?_)
  · obtain ⟨T, hj, hT0, er, k⟩ := z
    exact er
  · obtain ⟨T, hj, hc, k⟩ := z
    rcases hc with ⟨hc, -⟩ | ⟨hc, -⟩
    · exact Or.inl hc
    · exact Or.inr hc
  · rcases q with ⟨⟨T, hj, hT0, er, k⟩, e⟩ | ⟨⟨T, hj, hc, k⟩, e⟩ | ⟨⟨T, hj, hc, k⟩, e⟩
    · exact ⟨T, hj, by rw [hT0]; exact e, cW_k k ho trivial⟩
    · have hT1 : T = 1 := by
        rcases hc with ⟨hc, z⟩ | ⟨hc, z⟩
        · exact z
        · exact absurd hc (by decide)
      exact ⟨T, hj, by rw [hT1]; exact e, cW_k k ho trivial⟩
    · have hT1 : T = 2 := by
        rcases hc with ⟨hc, z⟩ | ⟨hc, z⟩
        · exact absurd hc (by decide)
        · exact z
      exact ⟨T, hj, by rw [hT1]; exact e, cW_k k ho trivial⟩
set_option maxHeartbeats 1000000 in
set_option maxRecDepth 100000 in
theorem cT_split {E : pw_E} (htr : E.1.stackTraces = false) {W H M : Int} {N NH NB NL n f g : Nat} {t : aT} {fo pr : Int} {x : hS} {h : pz_H} (hG : geoH W H N NH NB NL) (hT : aG 8 t W H) (hC : cH W H M N NH NB NL n t fo pr x h) (hM : 0 ≤ M ∧ M ≤ 800000000) (hn : 166 ≤ n) (hfm : f ∉ aX fm 8 t) (hgm : g ∉ aX fm 8 t) (hfg : f ≠ g) {p dn : Int} (h_p : -2147483648 ≤ p ∧ p < 2147483648) (h_dn : -2147483648 ≤ dn ∧ dn < 2147483648) (hdn : 0 ≤ dn ∧ dn ≤ 1) : pw_M E yX9_split YX9_split (rmD 22 4 28) [.ref 0, .int (zI (p)), .int (zI (dn))] h n (fun r h' n' => ∃ T t' fo' R, jSp t n f g p dn fo T t' fo' R ∧ T = 0 ∧ ((-2147483648 ≤ R ∧ R < 2147483648) ∧ r = some (.int (zI R))) ∧ cK W H (M + 400) N NH NB NL n t' fo' pr h h' n') (fun C h' n' => ∃ T t' fo' R, jSp t n f g p dn fo T t' fo' R ∧ ((C = "java/lang/IndexOutOfBoundsException" ∧ T = 1) ∨ (C = "java/lang/IllegalStateException" ∧ T = 2)) ∧ cK W H (M + 400) N NH NB NL n t' fo' pr h h' n') := by
  have hS := cH_S hC
  have gw := hG.1.1
  have gH := hG.1.2.1
  have hM2 : M ≤ M + 400 := by omega
  have hfo := cS_fo hT hS
  have hnw : ∀ (q : Int) (dn : Int), dn = 0 ∨ dn = 1 → dvOk x q dn → lyOk W H (sDiv n q dn x) := fun q dn hdn hd => by
    have hd2 := (cI_dv hT hS.2.1).mp hd
    obtain ⟨-, v9, hv9, ev9, hz, q1, q8, hq⟩ := id hd2
    obtain ⟨q2, hq2⟩ := lsF_ex q8 hq
    exact (cS_lyd gw.2 gH.2 hT hS hn hfm hgm hfg hdn ⟨hd2, hv9, ev9, hq2, rfl⟩).2.2.2.1
  have hBn : 0 + 115 ≤ n := by omega
  have hDn : ∀ k, n ≤ k → ¬ hD x k = true := fun k hk z => by have := hS.2.2.2.2 k z; omega
  refine pw_M_mo (mX9_split (M := M) (B := 0) htr hG hC.1 hC.2.1 (by omega) h_p h_dn hdn hBn hDn (hnw p dn (by omega))) (fun r h' n' hq => ?_) (fun C h' n' hq => ?_)
  · obtain ⟨hs, hd, er, hA', hF, e2⟩ := hq
    have hd2 := (cI_dv hT hS.2.1).mp hd
    obtain ⟨-, v9, hv9, ev9, hz, q1, q8, hq⟩ := id hd2
    obtain ⟨q2, hq2⟩ := lsF_ex q8 hq
    have hj : jDv t n f g p dn v9 q2 _ := ⟨hd2, hv9, ev9, hq2, rfl⟩
    have el := (cS_lyd gw.2 gH.2 hT hS hn hfm hgm hfg (by omega) hj).2.2.2.2
    have b8 := hq2.1
    rw [el] at er
    rw [e2]
    exact ⟨0, _, (q2 : Int), (q2 : Int), Or.inr (Or.inr ⟨rfl, v9, q2, hj, rfl, rfl⟩), rfl, ⟨by omega, er⟩, cK_of hC hn hA' (cS_mo (cS_div gw.2 gH.2 hT hS hn hfm hgm hfg (by omega) hj) hM2) hF (by omega) (by omega)⟩
  · rcases hq with ⟨ec, h0, e1, e2⟩ | ⟨ec, ⟨h0, h1⟩, hA', hF, e2⟩
    · rw [e1, e2]
      exact ⟨1, t, fo, 0, Or.inl ⟨cI_has0 hT hS.2.1 h0, rfl, rfl, rfl⟩, Or.inl ⟨ec, rfl⟩, cK_s hC hM2⟩
    · rw [e2]
      exact ⟨2, t, fo, 0, Or.inr (Or.inl ⟨(cI_has hT hS.2.1).mp h0, fun z => h1 ((cI_dv hT hS.2.1).mpr z), rfl, rfl, rfl⟩), Or.inr ⟨ec, rfl⟩, cK_of hC hn hA' (cS_mo hS hM2) hF (by omega) (by omega)⟩
set_option maxHeartbeats 1000000 in
set_option maxRecDepth 100000 in
theorem wT_split {E : pw_E} (htr : E.1.stackTraces = false) {W H M : Int} {N NH NB NL n f g : Nat} {t : aT} {fo pr : Int} {x : hS} {h : pz_H} (hG : geoH W H N NH NB NL) (hT : aG 8 t W H) (hC : cH W H M N NH NB NL n t fo pr x h) (hM : 0 ≤ M ∧ M ≤ 800000000) (hn : 166 ≤ n) (hfm : f ∉ aX fm 8 t) (hgm : g ∉ aX fm 8 t) (hfg : f ≠ g) {p dn : Int} (h_p : -2147483648 ≤ p ∧ p < 2147483648) (h_dn : -2147483648 ≤ dn ∧ dn < 2147483648) (hdn : 0 ≤ dn ∧ dn ≤ 1) {f9 : Nat → Int64} (ho : h 165 = pz_j 2 1 f9) : pw_MH E yL_split YL_split [(0, 10, 13, 13), (0, 10, 17, 25)] (rmD (22 + 1) 4 28) [.ref 0, .int (zI (p)), .int (zI (dn)), .ref 165] h n (fun r0 h' n' => ∃ T t' fo' R, jSp t n f g p dn fo T t' fo' R ∧ r0 = some (.int (zI T)) ∧ cW W H (M + 400) N NH NB NL n t' fo' pr (fun g9 => T = 0 → g9 0 = zL R) h h' n') (fun _ _ _ => False) := by
  refine pw_MH_mo (wL_split (f := f9) (dd := 22) (mc := 4) (ms := 28) htr hC.1.1 (cT_split htr hG hT hC hM hn hfm hgm hfg h_p h_dn hdn) (fun r h' n' z => ?_) (fun C h' n' z => ?_)) (fun r0 h' n' q => ?_)
  · obtain ⟨T, t', fo', R, hj, hT0, er, k⟩ := z
    exact ⟨R, er.1, er.2, (k.2.1 165 (by omega) (by omega)).trans ho⟩
  · obtain ⟨T, t', fo', R, hj, hc, k⟩ := z
    rcases hc with ⟨hc, -⟩ | ⟨hc, -⟩
    · exact Or.inl hc
    · exact Or.inr hc
  · rcases q with ⟨v9, h1, ⟨T, t', fo', R, hj, hT0, ⟨hr, er⟩, k⟩, hv, e, rfl⟩ | ⟨⟨T, t', fo', R, hj, hc, k⟩, e⟩ | ⟨⟨T, t', fo', R, hj, hc, k⟩, e⟩
    · have eR : zI v9 = zI R := by injection er with er; injection er
      have eR2 : v9 = R := (zI_eq hv hr).mp eR
      exact ⟨T, t', fo', R, hj, by rw [hT0]; exact e, cW_v k (fun _ => by rw [vp_0, eR2])⟩
    · have hT1 : T = 1 := by
        rcases hc with ⟨hc, z⟩ | ⟨hc, z⟩
        · exact z
        · exact absurd hc (by decide)
      exact ⟨T, t', fo', R, hj, by rw [hT1]; exact e, cW_k k ho (fun z => by omega)⟩
    · have hT1 : T = 2 := by
        rcases hc with ⟨hc, z⟩ | ⟨hc, z⟩
        · exact absurd hc (by decide)
        · exact z
      exact ⟨T, t', fo', R, hj, by rw [hT1]; exact e, cW_k k ho (fun z => by omega)⟩
set_option maxHeartbeats 1000000 in
set_option maxRecDepth 100000 in
theorem cT_close {E : pw_E} (htr : E.1.stackTraces = false) {W H M : Int} {N NH NB NL n f g : Nat} {t : aT} {fo pr : Int} {x : hS} {h : pz_H} (hG : geoH W H N NH NB NL) (hT : aG 8 t W H) (hC : cH W H M N NH NB NL n t fo pr x h) (hM : 0 ≤ M ∧ M ≤ 800000000) (hn : 166 ≤ n) (hfm : f ∉ aX fm 8 t) (hgm : g ∉ aX fm 8 t) (hfg : f ≠ g) {p : Int} (h_p : -2147483648 ≤ p ∧ p < 2147483648)  : pw_M E yX9_close YX9_close (rmD 21 2 12) [.ref 0, .int (zI (p))] h n (fun r h' n' => ∃ T t' fo' R, jCl t p fo T t' fo' R ∧ T = 0 ∧ ((-2147483648 ≤ R ∧ R < 2147483648) ∧ r = some (.int (zI R))) ∧ cK W H (M + 400) N NH NB NL n t' fo' pr h h' n') (fun C h' n' => ∃ T t' fo' R, jCl t p fo T t' fo' R ∧ ((C = "java/lang/IndexOutOfBoundsException" ∧ T = 1) ∨ (C = "java/lang/IllegalStateException" ∧ T = 2)) ∧ cK W H (M + 400) N NH NB NL n t' fo' pr h h' n') := by
  have hS := cH_S hC
  have gw := hG.1.1
  have gH := hG.1.2.1
  have hM2 : M ≤ M + 400 := by omega
  have hfo := cS_fo hT hS
  have hnr : ∀ q : Int, rmOk (hP x) (hLv x) q → lyOk W H (sRm q x) := fun q hd => by
    obtain ⟨hp, e⟩ := (cI_rmk gw.2 gH.2 hT hS.2.1 hS.2.2.1).mp hd
    obtain ⟨u, v9, z, r, h1, h2, h3, h4, h5⟩ := cl_ex hT hp.2 e
    exact (cS_lyr gw.2 gH.2 hT hS ⟨hp, h1, h2, h3, h4, rfl, h5⟩).2.2.2.2.1
  refine pw_M_mo (mX9_close (M := M) (B := 0) htr hG hC.1 hC.2.1 (by omega) h_p (hnr p)) (fun r h' n' hq => ?_) (fun C h' n' hq => ?_)
  · obtain ⟨hs, hd, er, hA', hF, e2⟩ := hq
    obtain ⟨hp, e⟩ := (cI_rmk gw.2 gH.2 hT hS.2.1 hS.2.2.1).mp hd
    obtain ⟨u, v9, z, r9, h1, h2, h3, h4, h5⟩ := cl_ex hT hp.2 e
    have hj : jRm t p u v9 z r9 _ := ⟨hp, h1, h2, h3, h4, rfl, h5⟩
    have hS9 := cS_rm gw.2 gH.2 hT hS hj
    rw [hS9.2.2.2.1.1] at er
    have b8 := h5.1
    have f8 := hfo.1
    rw [e2]
    exact ⟨0, _, _, _, Or.inr (Or.inr ⟨rfl, u, v9, z, r9, hj, rfl, rfl⟩), rfl, ⟨by split <;> omega, er⟩, cK_of hC hn hA' (cS_mo hS9 hM2) hF (by omega) (by omega)⟩
  · rcases hq with ⟨ec, h0, e1, e2⟩ | ⟨ec, ⟨h0, h1⟩, hA', hF, e2⟩
    · rw [e1, e2]
      exact ⟨1, t, fo, 0, Or.inl ⟨cI_has0 hT hS.2.1 h0, rfl, rfl, rfl⟩, Or.inl ⟨ec, rfl⟩, cK_s hC hM2⟩
    · rw [e2]
      have hp := (cI_has hT hS.2.1).mp h0
      exact ⟨2, t, fo, 0, Or.inr (Or.inl ⟨hp, fun z => h1 ((cI_rmk gw.2 gH.2 hT hS.2.1 hS.2.2.1).mpr ⟨hp, z⟩), rfl, rfl, rfl⟩), Or.inr ⟨ec, rfl⟩, cK_of hC hn hA' (cS_mo hS hM2) hF (by omega) (by omega)⟩
set_option maxHeartbeats 1000000 in
set_option maxRecDepth 100000 in
theorem wT_close {E : pw_E} (htr : E.1.stackTraces = false) {W H M : Int} {N NH NB NL n f g : Nat} {t : aT} {fo pr : Int} {x : hS} {h : pz_H} (hG : geoH W H N NH NB NL) (hT : aG 8 t W H) (hC : cH W H M N NH NB NL n t fo pr x h) (hM : 0 ≤ M ∧ M ≤ 800000000) (hn : 166 ≤ n) (hfm : f ∉ aX fm 8 t) (hgm : g ∉ aX fm 8 t) (hfg : f ≠ g) {p : Int} (h_p : -2147483648 ≤ p ∧ p < 2147483648)  {f9 : Nat → Int64} (ho : h 165 = pz_j 2 1 f9) : pw_MH E yL_close YL_close [(0, 9, 12, 13), (0, 9, 15, 25)] (rmD (21 + 1) 2 12) [.ref 0, .int (zI (p)), .ref 165] h n (fun r0 h' n' => ∃ T t' fo' R, jCl t p fo T t' fo' R ∧ r0 = some (.int (zI T)) ∧ cW W H (M + 400) N NH NB NL n t' fo' pr (fun g9 => T = 0 → g9 0 = zL R) h h' n') (fun _ _ _ => False) := by
  refine pw_MH_mo (wL_close (f := f9) (dd := 21) (mc := 2) (ms := 12) htr hC.1.1 (cT_close htr hG hT hC hM hn hfm hgm hfg h_p ) (fun r h' n' z => ?_) (fun C h' n' z => ?_)) (fun r0 h' n' q => ?_)
  · obtain ⟨T, t', fo', R, hj, hT0, er, k⟩ := z
    exact ⟨R, er.1, er.2, (k.2.1 165 (by omega) (by omega)).trans ho⟩
  · obtain ⟨T, t', fo', R, hj, hc, k⟩ := z
    rcases hc with ⟨hc, -⟩ | ⟨hc, -⟩
    · exact Or.inl hc
    · exact Or.inr hc
  · rcases q with ⟨v9, h1, ⟨T, t', fo', R, hj, hT0, ⟨hr, er⟩, k⟩, hv, e, rfl⟩ | ⟨⟨T, t', fo', R, hj, hc, k⟩, e⟩ | ⟨⟨T, t', fo', R, hj, hc, k⟩, e⟩
    · have eR : zI v9 = zI R := by injection er with er; injection er
      have eR2 : v9 = R := (zI_eq hv hr).mp eR
      exact ⟨T, t', fo', R, hj, by rw [hT0]; exact e, cW_v k (fun _ => by rw [vp_0, eR2])⟩
    · have hT1 : T = 1 := by
        rcases hc with ⟨hc, z⟩ | ⟨hc, z⟩
        · exact z
        · exact absurd hc (by decide)
      exact ⟨T, t', fo', R, hj, by rw [hT1]; exact e, cW_k k ho (fun z => by omega)⟩
    · have hT1 : T = 2 := by
        rcases hc with ⟨hc, z⟩ | ⟨hc, z⟩
        · exact absurd hc (by decide)
        · exact z
      exact ⟨T, t', fo', R, hj, by rw [hT1]; exact e, cW_k k ho (fun z => by omega)⟩
set_option maxHeartbeats 1000000 in
set_option maxRecDepth 100000 in
theorem cT_key {E : pw_E} (htr : E.1.stackTraces = false) {W H M : Int} {N NH NB NL n f g : Nat} {t : aT} {fo pr : Int} {x : hS} {h : pz_H} (hG : geoH W H N NH NB NL) (hT : aG 8 t W H) (hC : cH W H M N NH NB NL n t fo pr x h) (hM : 0 ≤ M ∧ M ≤ 800000000) (hn : 166 ≤ n) (hfm : f ∉ aX fm 8 t) (hgm : g ∉ aX fm 8 t) (hfg : f ≠ g) {k : Int} (h_k : -2147483648 ≤ k ∧ k < 2147483648)  : pw_M E yX9_key YX9_key (rmD 23 2 16) [.ref 0, .int (zI (k))] h n (fun r h' n' => ∃ T t' fo' pr' R, jKy t n f g fo pr k T t' fo' pr' R ∧ T = 0 ∧ ((-2147483648 ≤ R ∧ R < 2147483648) ∧ r = some (.int (zI R))) ∧ cK W H (M + 400) N NH NB NL n t' fo' pr' h h' n') (fun C h' n' => ∃ T t' fo' pr' R, jKy t n f g fo pr k T t' fo' pr' R ∧ ((C = "java/lang/IllegalArgumentException" ∧ T = 1)) ∧ cK W H (M + 400) N NH NB NL n t' fo' pr' h h' n') := by
  have hS := cH_S hC
  have gw := hG.1.1
  have gH := hG.1.2.1
  have hM2 : M ≤ M + 400 := by omega
  have hfo := cS_fo hT hS
  have hnw : ∀ (q : Int) (dn : Int), dn = 0 ∨ dn = 1 → dvOk x q dn → lyOk W H (sDiv n q dn x) := fun q dn hdn hd => by
    have hd2 := (cI_dv hT hS.2.1).mp hd
    obtain ⟨-, v9, hv9, ev9, hz, q1, q8, hq⟩ := id hd2
    obtain ⟨q2, hq2⟩ := lsF_ex q8 hq
    exact (cS_lyd gw.2 gH.2 hT hS hn hfm hgm hfg hdn ⟨hd2, hv9, ev9, hq2, rfl⟩).2.2.2.1
  have hnr : ∀ q : Int, rmOk (hP x) (hLv x) q → lyOk W H (sRm q x) := fun q hd => by
    obtain ⟨hp, e⟩ := (cI_rmk gw.2 gH.2 hT hS.2.1 hS.2.2.1).mp hd
    obtain ⟨u, v9, z, r, h1, h2, h3, h4, h5⟩ := cl_ex hT hp.2 e
    exact (cS_lyr gw.2 gH.2 hT hS ⟨hp, h1, h2, h3, h4, rfl, h5⟩).2.2.2.2.1
  have hBn : 0 + 115 ≤ n := by omega
  have hDn : ∀ k, n ≤ k → ¬ hD x k = true := fun k hk z => by have := hS.2.2.2.2 k z; omega
  refine pw_M_mo (mX9_key2 (M := M) (B := 0) htr hG hC.1 hC.2.1 (by omega) h_k hBn hDn (fun dn hd hv9 => hnw _ dn (by omega) hv9) (hnr _)) (fun r h' n' hq => ?_) (fun C h' n' hq => ?_)
  · obtain ⟨hk, er, hA', hF, e2⟩ := hq
    obtain ⟨t', fo', pr', hj, hS9, hn1, hn2⟩ := cS_key (k := k) gw.2 gH.2 hT hS hn hfm hgm hfg hM.1 hk
    have f8 := hS9.1.2.2.2.1
    rw [hS9.2.2.2.1.1] at er f8
    rw [e2]
    exact ⟨0, t', fo', pr', fo', hj, rfl, ⟨by omega, er⟩, cK_of hC hn hA' hS9 hF hn1 hn2⟩
  · obtain ⟨ec, h0, e1, e2⟩ := hq
    rw [e1, e2]
    exact ⟨1, t, fo, pr, 0, Or.inl ⟨h0, rfl, rfl, rfl, rfl⟩, ⟨ec, rfl⟩, cK_s hC hM2⟩
set_option maxHeartbeats 1000000 in
set_option maxRecDepth 100000 in
theorem wT_key {E : pw_E} (htr : E.1.stackTraces = false) {W H M : Int} {N NH NB NL n f g : Nat} {t : aT} {fo pr : Int} {x : hS} {h : pz_H} (hG : geoH W H N NH NB NL) (hT : aG 8 t W H) (hC : cH W H M N NH NB NL n t fo pr x h) (hM : 0 ≤ M ∧ M ≤ 800000000) (hn : 166 ≤ n) (hfm : f ∉ aX fm 8 t) (hgm : g ∉ aX fm 8 t) (hfg : f ≠ g) {k : Int} (h_k : -2147483648 ≤ k ∧ k < 2147483648)  {f9 : Nat → Int64} (ho : h 165 = pz_j 2 1 f9) : pw_MH E yL_key YL_key [(0, 9, 12, 15)] (rmD (23 + 1) 2 16) [.ref 0, .int (zI (k)), .ref 165] h n (fun r0 h' n' => ∃ T t' fo' pr' R, jKy t n f g fo pr k T t' fo' pr' R ∧ r0 = some (.int (zI T)) ∧ cW W H (M + 400) N NH NB NL n t' fo' pr' (fun g9 => T = 0 → g9 0 = zL R) h h' n') (fun _ _ _ => False) := by
  refine pw_MH_mo (wL_key (f := f9) (dd := 23) (mc := 2) (ms := 16) htr hC.1.1 (cT_key htr hG hT hC hM hn hfm hgm hfg h_k ) (fun r h' n' z => ?_) (fun C h' n' z => ?_)) (fun r0 h' n' q => ?_)
  · obtain ⟨T, t', fo', pr', R, hj, hT0, er, k⟩ := z
    exact ⟨R, er.1, er.2, (k.2.1 165 (by omega) (by omega)).trans ho⟩
  · obtain ⟨T, t', fo', pr', R, hj, hc, k⟩ := z
    rcases hc with ⟨hc, -⟩
    · exact hc
  · rcases q with ⟨v9, h1, ⟨T, t', fo', pr', R, hj, hT0, ⟨hr, er⟩, k⟩, hv, e, rfl⟩ | ⟨⟨T, t', fo', pr', R, hj, hc, k⟩, e⟩
    · have eR : zI v9 = zI R := by injection er with er; injection er
      have eR2 : v9 = R := (zI_eq hv hr).mp eR
      exact ⟨T, t', fo', pr', R, hj, by rw [hT0]; exact e, cW_v k (fun _ => by rw [vp_0, eR2])⟩
    · have hT1 : T = 1 := by
        rcases hc with ⟨hc, z⟩
        · exact z
      exact ⟨T, t', fo', pr', R, hj, by rw [hT1]; exact e, cW_k k ho (fun z => by omega)⟩
