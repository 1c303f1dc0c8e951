/-! ===== the class's methods that change the layout, FOCUS or PREFIX; how they answer ===== -/
def jFoc (t : aT) (p fo T fo' : Int) : Prop := (pIn t p ∧ T = 0 ∧ fo' = p) ∨ (¬ pIn t p ∧ T = 1 ∧ fo' = fo)
def jFd (t : aT) (p k T : Int) : Prop := (pIn t p ∧ (1 ≤ k ∧ k ≤ 8) ∧ T = 0) ∨ (¬ pIn t p ∧ T = 1) ∨ (pIn t p ∧ ¬ (1 ≤ k ∧ k ≤ 8) ∧ T = 2)
def jDv (t : aT) (n f g : Nat) (p dn : Int) (v : aT) (q : Nat) (t' : aT) : Prop := dOk t p dn ∧ aIn v 8 t ∧ tp v = some p.toNat ∧ lsF t q ∧ t' = aRep (tc v) (aDv n f g dn (((if dn = 0 then tw v else th v) - 1) / 2) v p.toNat q) 8 t
def jRm (t : aT) (p : Int) (u v z : aT) (r : Nat) (t' : aT) : Prop := pIn t p ∧ aIn u 8 t ∧ tp u = none ∧ aSib u v z ∧ tp v = some p.toNat ∧ t' = aRep (tc u) (aUpT 8 u z) 8 t ∧ lsU t' r
def jSp (t : aT) (n f g : Nat) (p dn fo T : Int) (t' : aT) (fo' R : Int) : Prop := (¬ pIn t p ∧ T = 1 ∧ t' = t ∧ fo' = fo) ∨ (pIn t p ∧ ¬ dOk t p dn ∧ T = 2 ∧ t' = t ∧ fo' = fo) ∨ (T = 0 ∧ ∃ v q, jDv t n f g p dn v q t' ∧ fo' = (q : Int) ∧ R = (q : Int))
def jCl (t : aT) (p fo T : Int) (t' : aT) (fo' R : Int) : Prop := (¬ pIn t p ∧ T = 1 ∧ t' = t ∧ fo' = fo) ∨ (pIn t p ∧ ¬ tp t = none ∧ T = 2 ∧ t' = t ∧ fo' = fo) ∨ (T = 0 ∧ ∃ u v z r, jRm t p u v z r t' ∧ fo' = (if fo = p then (r : Int) else fo) ∧ R = fo')
def jCm (t : aT) (n f g : Nat) (fo k : Int) (t' : aT) (fo' : Int) : Prop :=
  (∃ dn, ((k = 34 ∧ dn = 1) ∨ (k = 37 ∧ dn = 0)) ∧ ((¬ dOk t fo dn ∧ t' = t ∧ fo' = fo) ∨ ∃ v q, jDv t n f g fo dn v q t' ∧ fo' = (q : Int)))
  ∨ (k = 111 ∧ t' = t ∧ ∃ x : hS, ∃ W H, aG 8 t W H ∧ cI W H 8 t x ∧ fo' = lyNext (hLv x) fo 7 1)
  ∨ (k = 120 ∧ ((¬ tp t = none ∧ t' = t ∧ fo' = fo) ∨ ∃ u v z r, jRm t fo u v z r t' ∧ fo' = (r : Int)))
  ∨ ((¬ k = 34 ∧ ¬ k = 37 ∧ ¬ k = 111 ∧ ¬ k = 120) ∧ t' = t ∧ fo' = fo)
def jKy (t : aT) (n f g : Nat) (fo pr k T : Int) (t' : aT) (fo' pr' R : Int) : Prop :=
  (¬ (0 ≤ k ∧ k ≤ 255) ∧ T = 1 ∧ t' = t ∧ fo' = fo ∧ pr' = pr)
  ∨ ((0 ≤ k ∧ k ≤ 255) ∧ T = 0 ∧ R = fo' ∧ ((pr = 0 ∧ k = 2 ∧ t' = t ∧ fo' = fo ∧ pr' = 1) ∨ (pr = 0 ∧ ¬ k = 2 ∧ t' = t ∧ fo' = fo ∧ pr' = 0) ∨ (pr = 1 ∧ pr' = 0 ∧ jCm t n f g fo k t' fo')))
def cS (W H M : Int) (NB n : Nat) (t : aT) (fo pr : Int) (x : hS) : Prop := hGd W H M NB x ∧ cI W H 8 t x ∧ cJ x ∧ (hFoc x = fo ∧ hPre x = pr) ∧ ∀ b, hD x b = true → b = 109 ∨ (166 ≤ b ∧ b < n)
section CS
variable {W H M : Int} {NB n f g : Nat} {t t' : aT} {fo pr : Int} {x : hS}
theorem cS_fo (hG : aG 8 t W H) (hS : cS W H M NB n t fo pr x) : pIn t fo := by
  have h4 := hS.1.2.2.2.1
  have h5 := hS.1.2.2.2.2.1
  rw [hS.2.2.2.1.1] at h4 h5
  exact ⟨h4, hS.2.1.2.2.2.2 _ h5⟩
theorem cS_lyd {p dn : Int} {q : Nat} {v : aT} (hW : W ≤ 40) (hH : H ≤ 16) (hG : aG 8 t W H) (hS : cS W H M NB n t fo pr x) (hn : 166 ≤ n) (hfm : f ∉ aX fm 8 t) (hgm : g ∉ aX fm 8 t) (hfg : f ≠ g) (hdn : dn = 0 ∨ dn = 1) (hj : jDv t n f g p dn v q t') : aG 8 t' W H ∧ cI W H 8 t' (sDiv n p dn x) ∧ cJ (sDiv n p dn x) ∧ lyOk W H (sDiv n p dn x) ∧ lyLeast (hLv x) 0 8 0 = (q : Int) := by
  obtain ⟨hd, hv, hp, hq, rfl⟩ := hj
  have el := cI_lsF hG hS.2.1 hq
  obtain ⟨a1, a2, a3⟩ := cI_div (n := n) hW hH hG hS.2.1 hS.2.2.1 (fun b hb => by have := hS.2.2.2.2 b hb; omega) ((cI_dv hG hS.2.1).mpr hd) hdn hv hp hfm hgm hfg
  rw [el, Int.toNat_natCast] at a1 a2
  exact ⟨(aG_lev a1).1, cI_lev a1 a2, a3, lyOk_of a1 a2 a3, el⟩
theorem cS_div {p dn : Int} {q : Nat} {v : aT} (hW : W ≤ 40) (hH : H ≤ 16) (hG : aG 8 t W H) (hS : cS W H M NB n t fo pr x) (hn : 166 ≤ n) (hfm : f ∉ aX fm 8 t) (hgm : g ∉ aX fm 8 t) (hfg : f ≠ g) (hdn : dn = 0 ∨ dn = 1) (hj : jDv t n f g p dn v q t') : cS W H M NB (n + 2) t' q pr (sDivide W H n p dn x) := by
  obtain ⟨a1, a2, a3, a4, el⟩ := cS_lyd hW hH hG hS hn hfm hgm hfg hdn hj
  refine ⟨hGd_divide hS.1 hW hH ((cI_dv hG hS.2.1).mpr hj.1) a4, cI_eq (x := sDiv n p dn x) rfl a2, cJ_eq (x := sDiv n p dn x) rfl a3, ⟨el, hS.2.2.2.1.2⟩, fun b hb => ?_⟩
  have hb2 : va_up (va_up (hD x) n true) (n + 1) true b = true := hb
  by_cases e1 : b = n + 1
  · omega
  · rw [va_up_ne _ _ e1] at hb2
    by_cases e2 : b = n
    · omega
    · rw [va_up_ne _ _ e2] at hb2
      have := hS.2.2.2.2 b hb2
      omega
theorem cS_lyr {p : Int} {r : Nat} {u v z : aT} (hW : W ≤ 40) (hH : H ≤ 16) (hG : aG 8 t W H) (hS : cS W H M NB n t fo pr x) (hj : jRm t p u v z r t') : rmOk (hP x) (hLv x) p ∧ aG 8 t' W H ∧ cI W H 8 t' (sRm p x) ∧ cJ (sRm p x) ∧ lyOk W H (sRm p x) ∧ lyLeast (rmLv (hP x) (hLv x) p) 1 8 0 = (r : Int) := by
  obtain ⟨hp, hu, e, hs, hv, rfl, hr⟩ := hj
  obtain ⟨r1, r2, r3⟩ := cI_rm (by decide) hW hH hG hS.2.1 hS.2.2.1 hp.1 hu e hs hv
  have a1 := aG_rm hG hu e hs
  exact ⟨r1, (aG_lev a1).1, cI_lev a1 r2, r3, lyOk_of a1 r2 r3, cI_lsU (x := sRm p x) (aG_lev a1).1 (cI_lev a1 r2) hr⟩
theorem cS_rm {p : Int} {r : Nat} {u v z : aT} (hW : W ≤ 40) (hH : H ≤ 16) (hG : aG 8 t W H) (hS : cS W H M NB n t fo pr x) (hj : jRm t p u v z r t') : cS W H M NB n t' (if fo = p then (r : Int) else fo) pr (sRemove W H p x) := by
  obtain ⟨r1, a1, a2, a3, a4, el⟩ := cS_lyr hW hH hG hS hj
  have hr := hj.2.2.2.2.2.2
  have X := aX_rm hG hj.2.1 hj.2.2.1 hj.2.2.2.1 hj.2.2.2.2.1 r
  rw [← hj.2.2.2.2.2.1] at X
  obtain ⟨x1, x2⟩ := X.mp hr.2.1
  have p8 := hj.1.1
  have hx : ¬ hLv x ((r : Int)).toNat = none := by
    have := (cI_has hG hS.2.1).mpr ((pIn_nat (t := t) hr.1).mpr x1)
    exact (lyHas_y this).2
  have r8 := hr.1
  have e1 : (sRemove W H p x).2.1 = (sRm p x).2.1 := by
    unfold sRemove
    split <;> rfl
  refine ⟨hGd_remove (x := (r : Int)) hS.1 hW hH p8 r1 a4 (by omega) (by omega) hx, cI_eq e1 a2, cJ_eq e1 a3, ⟨?_, ?_⟩, fun b hb => ?_⟩
  · unfold sRemove
    rw [hS.2.2.2.1.1]
    split
    · exact el
    · exact hS.2.2.2.1.1
  · unfold sRemove
    split
    · exact hS.2.2.2.1.2
    · exact hS.2.2.2.1.2
  · rw [show hD (sRemove W H p x) = hD (sRm p x) from congrArg (fun z => z.1) e1] at hb
    exact hS.2.2.2.2 b hb
theorem cS_pre {v : Int} (hS : cS W H M NB n t fo pr x) (hv : 0 ≤ v ∧ v ≤ 1) : cS W H M NB n t fo v (sPre v x) := by
  obtain ⟨⟨g1, g2, g3, g4, g5, g6, g7, g8, g9, g10⟩, h2, h3, h4, h5⟩ := hS
  exact ⟨⟨g1, g2, g3, g4, g5, hv, g7, g8, g9, g10⟩, cI_eq (x := x) rfl h2, cJ_eq (x := x) rfl h3, ⟨h4.1, rfl⟩, h5⟩
theorem cS_X {k : Nat} {y : pSt} {M' : Int} (hS : cS W H M NB n t fo pr x) (hM : M ≤ M') (hy : pWk W H M' y) (e : y.1 = (hX x k).1) (hk : k < 8) : cS W H M' NB n t fo pr (sX k y x) :=
  ⟨hGd_X hS.1 hM hy (fun hl => by rw [e]; exact hS.1.2.1 k hk hl), cI_eq (x := x) rfl hS.2.1, cJ_eq (x := x) rfl hS.2.2.1, hS.2.2.2.1, hS.2.2.2.2⟩
theorem cS_foc {p : Int} (hG : aG 8 t W H) (hS : cS W H M NB n t fo pr x) (hp : pIn t p) : cS W H M NB n t p pr (sFoc p x) :=
  ⟨hGd_foc hS.1 hp.1 (lyHas_y ((cI_has hG hS.2.1).mpr hp)).2, cI_eq (x := x) rfl hS.2.1, cJ_eq (x := x) rfl hS.2.2.1, ⟨rfl, hS.2.2.2.1.2⟩, hS.2.2.2.2⟩
theorem cS_mo {M' : Int} (hS : cS W H M NB n t fo pr x) (hM : M ≤ M') : cS W H M' NB n t fo pr x := ⟨hGd_mono hS.1 hM, hS.2⟩
theorem tyRun_2 {g : Nat → Int} : ∀ (j : Nat) (i : Int) (c : clC), (tyRun g j i c).2 = c.2 + j
  | 0, _, c => by show c.2 = c.2 + ((0 : Nat) : Int); omega
  | j + 1, i, c => by
    have h := tyRun_2 (g := g) j (i + 1) (tyB (g i.toNat) c)
    show (tyRun g j (i + 1) (tyB (g i.toNat) c)).2 = c.2 + ((j + 1 : Nat) : Int)
    rw [h]
    show c.2 + 1 + (j : Int) = c.2 + ((j + 1 : Nat) : Int)
    omega
theorem pWk_ty {y : pSt} {c : clC} {M' : Int} (hy : pWk W H M y) (hc : 0 ≤ c.2 ∧ c.2 ≤ M') : pWk W H M' (y.1, y.2.1, c) := by
  obtain ⟨p3, p4, p5, p6, p9, p10, pcl, pT, pR, pcm, pof, pto⟩ := hy
  exact ⟨p3, p4, p5, p6, p9, p10, pcl, pT, pR, pcm, pof, hc⟩
theorem pWk_cm {y : pSt} {v : Int} (hy : pWk W H M y) (hv : 0 ≤ v ∧ v ≤ 1) : pWk W H M (pCm v y) := by
  obtain ⟨p3, p4, p5, p6, p9, p10, pcl, pT, pR, pcm, pof, pto⟩ := hy
  refine ⟨p3, p4, p5, p6, p9, p10, pcl, pT, pR, hv, ?_, pto⟩
  show 0 ≤ (if v = y.2.1.1 then y.2.1.2 else 0) ∧ (if v = y.2.1.1 then y.2.1.2 else 0) ≤ 30
  split <;> omega
/-- a key behind the PREFIX -/
theorem cS_cmd {k : Int} (hW : W ≤ 40) (hH : H ≤ 16) (hG : aG 8 t W H) (hS : cS W H M NB n t fo 0 x) (hn : 166 ≤ n) (hfm : f ∉ aX fm 8 t) (hgm : g ∉ aX fm 8 t) (hfg : f ≠ g) (hM : 0 ≤ M) : ∃ t' fo', jCm t n f g fo k t' fo' ∧ cS W H (M + 400) NB (nCmd n k x) t' fo' 0 (sCmd W H n k x) ∧ n ≤ nCmd n k x ∧ nCmd n k x ≤ n + 2 := by
  have hfo := cS_fo hG hS
  have ef : hFoc x = fo := hS.2.2.2.1.1
  have hM2 : M ≤ M + 400 := by omega
  have dv : ∀ dn : Int, dn = 0 ∨ dn = 1 → ∃ t' fo', ((¬ dOk t fo dn ∧ t' = t ∧ fo' = fo) ∨ ∃ v q, jDv t n f g fo dn v q t' ∧ fo' = (q : Int)) ∧ cS W H (M + 400) NB (nDv n (hFoc x) dn x) t' fo' 0 (sDv W H n (hFoc x) dn x) ∧ n ≤ nDv n (hFoc x) dn x ∧ nDv n (hFoc x) dn x ≤ n + 2 := fun dn hdn => by
    rw [ef]
    unfold nDv sDv
    by_cases hd : dOk t fo dn
    · rw [if_pos ((cI_dv hG hS.2.1).mpr hd), if_pos ((cI_dv hG hS.2.1).mpr hd)]
      obtain ⟨-, v, hv, ev, hz, q, q8, hq⟩ := id hd
      obtain ⟨q', hq'⟩ := lsF_ex q8 hq
      have hj : jDv t n f g fo dn v q' _ := ⟨hd, hv, ev, hq', rfl⟩
      exact ⟨_, _, Or.inr ⟨v, q', hj, rfl⟩, cS_mo (cS_div hW hH hG hS hn hfm hgm hfg hdn hj) hM2, by omega, by omega⟩
    · rw [if_neg (fun z => hd ((cI_dv hG hS.2.1).mp z)), if_neg (fun z => hd ((cI_dv hG hS.2.1).mp z))]
      exact ⟨t, fo, Or.inl ⟨hd, rfl, rfl⟩, cS_mo hS hM2, by omega, by omega⟩
  by_cases k34 : k = 34
  · obtain ⟨t', fo', h1, h2⟩ := dv 1 (Or.inr rfl)
    refine ⟨t', fo', Or.inl ⟨1, Or.inl ⟨k34, rfl⟩, h1⟩, ?_⟩
    unfold nCmd sCmd
    rw [if_pos k34, if_pos k34]
    exact h2
  by_cases k37 : k = 37
  · obtain ⟨t', fo', h1, h2⟩ := dv 0 (Or.inl rfl)
    refine ⟨t', fo', Or.inl ⟨0, Or.inr ⟨k37, rfl⟩, h1⟩, ?_⟩
    unfold nCmd sCmd
    rw [if_neg k34, if_pos k37, if_neg k34, if_pos k37]
    exact h2
  have en : nCmd n k x = n := by unfold nCmd; rw [if_neg k34, if_neg k37]
  rw [en]
  unfold sCmd
  rw [if_neg k34, if_neg k37]
  have f8 := hfo.1
  have px := hS.1.1 fo.toNat (by omega)
  have pto := px.2.2.2.2.2.2.2.2.2.2.2
  have pcm := px.2.2.2.2.2.2.2.2.2.1
  by_cases k111 : k = 111
  · rw [if_pos k111, ef]
    have hnx : pIn t (lyNext (hLv x) fo 7 1) := by
      have : ∀ (j : Nat) (i : Int), pIn t (lyNext (hLv x) fo j i) := fun j => by
        induction j with
        | zero => intro i; exact hfo
        | succ j ih =>
          intro i
          show pIn t (if lyHas (hLv x) ((fo + i) % 8) = 1 then (fo + i) % 8 else lyNext (hLv x) fo j (i + 1))
          split
          · next c => exact (cI_has hG hS.2.1).mp c
          · exact ih (i + 1)
      exact this 7 1
    exact ⟨t, _, Or.inr (Or.inl ⟨k111, rfl, x, W, H, hG, hS.2.1, rfl⟩), cS_mo (cS_foc hG hS hnx) hM2, by omega, by omega⟩
  rw [if_neg k111]
  by_cases k120 : k = 120
  · rw [if_pos k120, ef]
    unfold sRmv
    by_cases et : tp t = none
    · obtain ⟨u, v, z, r, h1, h2, h3, h4, h5⟩ := cl_ex hG hfo.2 et
      have hj : jRm t fo u v z r _ := ⟨hfo, h1, h2, h3, h4, rfl, h5⟩
      have hr := cS_rm hW hH hG hS hj
      rw [if_pos rfl] at hr
      rw [if_pos (cS_lyr hW hH hG hS hj).1]
      exact ⟨_, _, Or.inr (Or.inr (Or.inl ⟨k120, Or.inr ⟨u, v, z, r, hj, rfl⟩⟩)), cS_mo hr hM2, by omega, by omega⟩
    · rw [if_neg (fun y => et ((cI_rmk hW hH hG hS.2.1 hS.2.2.1).mp y).2)]
      exact ⟨t, fo, Or.inr (Or.inr (Or.inl ⟨k120, Or.inl ⟨et, rfl, rfl⟩⟩)), cS_mo hS hM2, by omega, by omega⟩
  rw [if_neg k120]
  refine ⟨t, fo, Or.inr (Or.inr (Or.inr ⟨⟨k34, k37, k111, k120⟩, rfl, rfl⟩)), ?_, by omega, by omega⟩
  rw [ef]
  split
  · exact cS_mo (cS_X hS (Int.le_refl M) (pWk_cm px (by omega)) rfl (by omega)) hM2
  · split
    · have hc := hS.1.2.2.2.2.2.2.1
      refine cS_X hS hM2 (pWk_ty px ?_) rfl (by omega)
      rw [tyRun_2]
      omega
    · split
      · refine cS_X hS hM2 (pWk_ty px ?_) rfl (by omega)
        show 0 ≤ (hX x fo.toNat).2.2.2 + 1 ∧ (hX x fo.toNat).2.2.2 + 1 ≤ M + 400
        omega
      · exact cS_mo hS hM2
theorem cS_key {k : Int} (hW : W ≤ 40) (hH : H ≤ 16) (hG : aG 8 t W H) (hS : cS W H M NB n t fo pr x) (hn : 166 ≤ n) (hfm : f ∉ aX fm 8 t) (hgm : g ∉ aX fm 8 t) (hfg : f ≠ g) (hM : 0 ≤ M) (hk : 0 ≤ k ∧ k ≤ 255) : ∃ t' fo' pr', jKy t n f g fo pr k 0 t' fo' pr' fo' ∧ cS W H (M + 400) NB (nKey n k x) t' fo' pr' (sKey W H n k x) ∧ n ≤ nKey n k x ∧ nKey n k x ≤ n + 2 := by
  have hfo := cS_fo hG hS
  have f8 := hfo.1
  have ef : hFoc x = fo := hS.2.2.2.1.1
  have ep : hPre x = pr := hS.2.2.2.1.2
  have hpr := hS.1.2.2.2.2.2.1
  rw [ep] at hpr
  unfold sKey nKey
  rw [ep]
  by_cases e : pr = 0
  · rw [if_neg (fun z => z e), if_neg (fun z => z e)]
    by_cases k2 : k = 2
    · rw [if_pos k2]
      exact ⟨t, fo, 1, Or.inr ⟨hk, rfl, rfl, Or.inl ⟨e, k2, rfl, rfl, rfl⟩⟩, cS_mo (cS_pre hS (by omega)) (by omega), by omega, by omega⟩
    · rw [if_neg k2, ef]
      refine ⟨t, fo, 0, Or.inr ⟨hk, rfl, rfl, Or.inr (Or.inl ⟨e, k2, rfl, rfl, rfl⟩)⟩, ?_, by omega, by omega⟩
      have h2 := cS_X (M' := M + 1) hS (by omega) (pPr_wk (k := k) (hS.1.1 fo.toNat (by omega))) pPr_1 (by omega)
      rw [e] at h2
      exact cS_mo h2 (by omega)
  · rw [if_pos e, if_pos e]
    obtain ⟨t', fo', h1, h2, h3⟩ := cS_cmd (k := k) hW hH hG (cS_pre hS (v := 0) (by omega)) hn hfm hgm hfg hM
    exact ⟨t', fo', 0, Or.inr ⟨hk, rfl, rfl, Or.inr (Or.inr ⟨by omega, rfl, h1⟩)⟩, h2, h3⟩
end CS
