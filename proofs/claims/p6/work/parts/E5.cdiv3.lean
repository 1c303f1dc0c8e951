/-! ===== the class divides ===== -/
section DV
variable {P : Nat → ptC} {old n b : Nat} {dn : Int}
theorem dvI_E (h : b ≠ n) : dvI P old n dn b = dvE P old n dn b := by
  unfold dvI; rw [ptS_o h]; unfold dvH; rw [ptS_o h]; unfold dvG; rw [ptS_o h]; unfold dvF; rw [ptS_o h]
theorem dvE_D (h : b ≠ n) : dvE P old n dn b = dvD P old n b := by unfold dvE; rw [ptS_o h, ptR_o h]
theorem dvD_C (h : b ≠ n + 1) : dvD P old n b = dvC P old n b := by unfold dvD; rw [ptR_o h, va_up_ne _ _ h]
theorem dvA_o (h : b ≠ n) : dvA P old n b = P b := by unfold dvA; rw [ptR_o h, va_up_ne _ _ h]
theorem dvI_m : dvI P old n dn (n + 1) = (pt00.1, va_up pt00.2 2 (some n)) := by
  rw [dvI_E (by omega), dvE_D (by omega)]
  unfold dvD
  rw [ptR_s, va_up_self]
theorem dvI_b (h0 : b ≠ old) (h1 : b ≠ n) (h2 : b ≠ n + 1) : dvI P old n dn b = exP (dvA P old n) old n b := by
  rw [dvI_E h1, dvE_D h1, dvD_C h2]
  unfold dvC
  rw [ptR_o h1, ptR_o h0]
theorem dvI_o (h1 : old ≠ n) (h2 : old ≠ n + 1) (hup : ∀ ab, (P old).2 2 = some ab → ab ≠ old) : dvI P old n dn old = ((P old).1, va_up (P old).2 2 (some n)) := by
  rw [dvI_E h1, dvE_D h1, dvD_C h2]
  unfold dvC
  rw [ptR_o h1, ptR_s, ex_b h1 (fun ab hab => by rw [dvA_o h1] at hab; exact (hup ab hab).symm), dvA_o h1]
theorem dvI_n2 : (dvI P old n dn n).2 = va_up (dvD P old n n).2 1 (some (n + 1)) := by
  unfold dvI dvH dvG dvF dvE
  rw [ptS_2, ptS_2, ptS_2, ptS_2, ptS_2, ptR_s]
theorem dvI_nl (h1 : old ≠ n) (hup : ∀ ab, (P old).2 2 = some ab → ab ≠ n) : (dvI P old n dn n).2 0 = some old ∧ (dvI P old n dn n).2 1 = some (n + 1) ∧ (dvI P old n dn n).2 2 = (P old).2 2 := by
  rw [dvI_n2, dvD_C (by omega)]
  unfold dvC
  rw [ptR_s, ptR_o (Ne.symm h1), ex_n (fun ab hab => by rw [dvA_o h1] at hab; exact (hup ab hab).symm), dvA_o h1]
  refine ⟨?_, va_up_self _ _ _, ?_⟩
  · show va_up (va_up _ 0 (some old)) 1 (some (n + 1)) 0 = some old
    rw [va_up_ne _ _ (by decide)]; exact va_up_self _ _ _
  · show va_up (va_up (va_up _ 2 ((P old).2 2)) 0 (some old)) 1 (some (n + 1)) 2 = (P old).2 2
    rw [va_up_ne _ _ (by decide), va_up_ne _ _ (by decide)]; exact va_up_self _ _ _
theorem dvI_n01 (h1 : old ≠ n) (h2 : old ≠ n + 1) : (dvI P old n dn n).1 0 = (P old).1 0 ∧ (dvI P old n dn n).1 1 = (P old).1 1 := by
  constructor
  · unfold dvI
    rw [ptS_n (by decide)]
    unfold dvH
    rw [ptS_n (by decide)]
    unfold dvG
    rw [ptS_n (by decide)]
    unfold dvF
    rw [ptS_s, dvE_old h1 h2]
  · unfold dvI
    rw [ptS_n (by decide)]
    unfold dvH
    rw [ptS_n (by decide)]
    unfold dvG
    rw [ptS_s]
    unfold dvF
    rw [ptS_o h1, dvE_old h1 h2]
/-- and shares -/
theorem dv_q {x y w h a : Int} (h1 : old ≠ n) (h2 : old ≠ n + 1) (hup : ∀ ab, (P old).2 2 = some ab → ab ≠ old ∧ ab ≠ n) (hr : (P old).1 0 = x ∧ (P old).1 1 = y ∧ (P old).1 2 = w ∧ (P old).1 3 = h) (hl : (P old).2 0 = none ∧ (P old).2 1 = none) (hd : dn = 0 ∨ dn = 1) : plShare 9 n a (dvI P old n dn) = plSet (plSet (dvI P old n dn) old x y (s1 dn a w h).1 (s1 dn a w h).2) (n + 1) (sx dn a x) (sy dn a y) (s2 dn a w h).1 (s2 dn a w h).2 := by
  obtain ⟨l0, l1, l2⟩ := dvI_nl (dn := dn) h1 (fun ab hab => (hup ab hab).2)
  obtain ⟨n0, n1⟩ := dvI_n01 (P := P) (dn := dn) h1 h2
  have n2 := dvI_2 (P := P) (dn := dn) h1 h2
  have n3 := dvI_3 (P := P) (dn := dn) h1 h2
  have n4 := dvI_4 (P := P) (old := old) (n := n) (dn := dn)
  have eo := dvI_o (dn := dn) h1 h2 (fun ab hab => (hup ab hab).1)
  have em := dvI_m (P := P) (old := old) (n := n) (dn := dn)
  rw [hr.1] at n0
  rw [hr.2.1] at n1
  rw [hr.2.2.1] at n2
  rw [hr.2.2.2] at n3
  have hs : ptSplit (dvI P old n dn n) := ⟨by rw [l0]; exact fun z => (by cases z), by rw [l1]; exact fun z => (by cases z)⟩
  have no : ∀ c r u q, ¬ ptSplit (plSet (dvI P old n dn) old c r u q old) := fun c r u q z => z.1 (by
    rw [ps_a.2.2.2.2.2, eo]
    show va_up (P old).2 2 (some n) 0 = none
    rw [va_up_ne _ _ (by decide)]; exact hl.1)
  have nm : ∀ c r u q c' r' u' q', ¬ ptSplit (plSet (plSet (dvI P old n dn) old c r u q) (n + 1) c' r' u' q' (n + 1)) := fun c r u q c' r' u' q' z => z.1 (by
    rw [ps_a.2.2.2.2.2, ps_b (Ne.symm h2), em]
    rfl)
  rcases hd with hd | hd
  · subst hd
    have el : ptLen (dvI P old n 0 n) 0 = w := by unfold ptLen; rw [if_pos rfl]; exact n2
    rw [plShare_r hs l0 l1 n4]
    dsimp only
    rw [n0, n1, n3, n4, el, plW_no (no _ _ _ _), ps_b (Ne.symm h1), n0, n1, n3, plW_no (nm _ _ _ _ _ _ _ _)]
    unfold s1 s2 sx sy
    rw [if_pos rfl, if_pos rfl, if_pos rfl, if_pos rfl, show x + a + 1 = x + (a + 1) by omega]
  · subst hd
    have el : ptLen (dvI P old n 1 n) 1 = h := by unfold ptLen; rw [if_neg (by decide)]; exact n3
    rw [plShare_d hs l0 l1 (by rw [n4]; decide)]
    dsimp only
    rw [n0, n1, n2, n4, el, plW_no (no _ _ _ _), ps_b (Ne.symm h1), n0, n1, n2, plW_no (nm _ _ _ _ _ _ _ _)]
    unfold s1 s2 sx sy
    rw [if_neg (by decide), if_neg (by decide), if_neg (by decide), if_neg (by decide), show y + a + 1 = y + (a + 1) by omega]
theorem dvI_pos (hP : ptPos P) (h1 : old ≠ n) (h2 : old ≠ n + 1) : ptPos (dvI P old n dn) := fun b => by
  by_cases e1 : b = n
  · subst e1
    obtain ⟨n0, n1⟩ := dvI_n01 (P := P) (dn := dn) h1 h2
    rw [n0, n1]; exact hP old
  · by_cases e2 : b = n + 1
    · subst e2
      rw [dvI_m]
      exact ⟨⟨by show (-1000 : Int) ≤ 0; omega, by show (0 : Int) ≤ 1000; omega⟩, by show (-1000 : Int) ≤ 0; omega, by show (0 : Int) ≤ 1000; omega⟩
    · rw [dvI_E e1, dvE_D e1, dvD_C e2]
      unfold dvC
      rw [ptR_1, ptR_1, exP_1f, dvA_o e1]
      exact hP b
end DV
theorem ptBd_sq {P : Nat → ptC} {L c r u q : Int} {a : Nat} (hP : ptBd L P) (hu : -L ≤ u ∧ u ≤ 100) (hq : -L ≤ q ∧ q ≤ 100) : ptBd L (plSet P a c r u q) := ⟨hP.1, fun b => by
  by_cases e : b = a
  · subst e
    obtain ⟨-, -, s2, s3, s4, -⟩ := @ps_a P b c r u q
    rw [s2, s3, s4]; exact ⟨hu, hq, (hP.2 b).2.2⟩
  · rw [ps_b e]; exact hP.2 b⟩
theorem ptPos_set {P : Nat → ptC} {c r u q : Int} {a : Nat} (hP : ptPos P) (hu : -1000 ≤ c ∧ c ≤ 1000) (hq : -1000 ≤ r ∧ r ≤ 1000) : ptPos (plSet P a c r u q) := fun b => by
  by_cases e : b = a
  · subst e
    obtain ⟨s0, s1, -, -, -, -⟩ := @ps_a P b c r u q
    rw [s0, s1]; exact ⟨hu, hq⟩
  · rw [ps_b e]; exact hP b
set_option maxHeartbeats 1000000 in
theorem cI_div {w H p dn : Int} {k n f g : Nat} {t v : aT} {s : hS} (hw : w ≤ 40) (hH : H ≤ 16) (hG : aG k t w H) (hI : cI w H k t s) (hJ : cJ s) (hn : ∀ b, hD s b = true → b < n) (hd : dvOk s p dn) (hdn : dn = 0 ∨ dn = 1) (hv : aIn v k t) (hp : tp v = some p.toNat) (hf : f ∉ aX fm k t) (hg : g ∉ aX fm k t) (hfg : f ≠ g) :
    aG (k + 1) (aRep (tc v) (aDv n f g dn (((if dn = 0 then tw v else th v) - 1) / 2) v p.toNat (lyLeast (hLv s) 0 8 0).toNat) k t) w H ∧ cI w H (k + 1) (aRep (tc v) (aDv n f g dn (((if dn = 0 then tw v else th v) - 1) / 2) v p.toNat (lyLeast (hLv s) 0 8 0).toNat) k t) (sDiv n p dn s) ∧ cJ (sDiv n p dn s) := by
  have hI0 := hI
  obtain ⟨i1, i2, i3, i4, i5⟩ := hI
  obtain ⟨ok, n1, n2, n3, n4⟩ := id hG
  have hk : 0 < k := by
    cases k with
    | zero => exact ok.elim
    | succ k => omega
  obtain ⟨d1, d2, d3, d4⟩ := hd
  have hlv : hLv s p.toNat = some (tc v) := i4 v hv _ hp
  have hQ : dvQ s p = tc v := by unfold dvQ; rw [hlv]; rfl
  obtain ⟨j, up', x', y', w', h', hj, c, o, q1, q2⟩ := cR_in k t _ _ _ _ _ i1 ok hv
  have rt := cR_root c
  have sz := aOk_sz o
  have b1 := aOk_1 o
  have wH : w' ≤ 40 ∧ h' ≤ 16 := ⟨by omega, by omega⟩
  rw [hQ] at d4
  have hlen : ptLen (hP s (tc v)) dn = if dn = 0 then w' else h' := by
    unfold ptLen
    rw [rt.2.2.1, rt.2.2.2.1]
  have hq := lyLeast_r (lv := hLv s) (t := 0) 8 0 (by omega)
  have hqh := lyLeast_has (lv := hLv s) (t := 0) 8 0 (by omega) d3
  have hq8 : 0 ≤ lyLeast (hLv s) 0 8 0 ∧ lyLeast (hLv s) 0 8 0 < 8 := by omega
  have hqn : hLv s (lyLeast (hLv s) 0 8 0).toNat = none := by
    unfold lyHas at hqh
    by_cases e : hLv s (lyLeast (hLv s) 0 8 0).toNat = none
    · exact e
    · rw [if_pos ⟨hq8.1, hq8.2, e⟩] at hqh; omega
  have hun : ∀ q', hLv s q' = none → q' ∉ aX fp k t := fun q' e hx => by
    obtain ⟨v', a1, a2⟩ := aP_in k t hx
    rw [i4 v' a1 q' a2] at e; cases e
  have hb : ∀ b, b ∈ aX fc k t → b < n := fun b hb => hn b (i3 b hb)
  rw [sz.1, sz.2]
  rw [hlen] at d4
  have ha : 1 ≤ ((if dn = 0 then w' else h') - 1) / 2 ∧ ((if dn = 0 then w' else h') - 1) / 2 ≤ (if dn = 0 then tw v else th v) - 2 := by
    rw [sz.1, sz.2]; omega
  have hu := aDv_fits (n := n) (f := f) (g := g) (p := p.toNat) (q := (lyLeast (hLv s) 0 8 0).toNat) hdn ha
  have g1 := aG_div (n := n) hG hv hp hdn ha hb hf hg hfg (hun _ hqn) (by omega)
  have hvn := hb _ (aIn_c hv)
  have hup : ∀ ab, (hP s (tc v)).2 2 = some ab → ab ≠ tc v ∧ ab < n ∧ ab ∈ aX fc k t := fun ab hab => by
    by_cases e : v = t
    · subst e
      rw [(cR_root i1).2.2.2.2] at hab; cases hab
    · obtain ⟨u, e1, e2, e3, e4⟩ := cR_par i1 ok hv e
      rw [e4] at hab
      have := Option.some.inj hab
      subst this
      obtain ⟨z1, z2, z3, -, -, -⟩ := cR_sp i1 ok n1 e1 e2
      refine ⟨?_, hb _ (aIn_c e1), aIn_c e1⟩
      rcases e3 with e3 | e3
      · rw [← e3]; exact Ne.symm z2
      · rw [← e3]; exact Ne.symm z3
  have hvl : (hP s (tc v)).2 0 = none ∧ (hP s (tc v)).2 1 = none := by
    obtain ⟨i, rfl⟩ : ∃ i, j = i + 1 := ⟨j - 1, by omega⟩
    exact c.2.1 (by rw [hp]; exact fun z => by cases z)
  have hPe : hP (sDiv n p dn s) = plSet (plSet (dvI (hP s) (tc v) n dn) (tc v) x' y' (s1 dn (((if dn = 0 then w' else h') - 1) / 2) w' h').1 (s1 dn (((if dn = 0 then w' else h') - 1) / 2) w' h').2) (n + 1) (sx dn (((if dn = 0 then w' else h') - 1) / 2) x') (sy dn (((if dn = 0 then w' else h') - 1) / 2) y') (s2 dn (((if dn = 0 then w' else h') - 1) / 2) w' h').1 (s2 dn (((if dn = 0 then w' else h') - 1) / 2) w' h').2 := by
    show plShare 9 n ((ptLen (dvI (hP s) (dvQ s p) n dn n) dn - 1) / 2) (dvI (hP s) (dvQ s p) n dn) = _
    rw [hQ, dvI_len (by omega) (by omega), hlen]
    exact dv_q (by omega) (by omega) (fun ab hab => ⟨(hup ab hab).1, by have := (hup ab hab).2.1; omega⟩) ⟨rt.1, rt.2.1, rt.2.2.1, rt.2.2.2.1⟩ hvl hdn
  have bd : ptBd 100 (hP (sDiv n p dn s)) ∧ ptPos (hP (sDiv n p dn s)) := by
    rw [hPe]
    have e1 := dvI_bd (old := tc v) (n := n) (dn := dn) hJ.2.1 (by omega) (by omega) (by omega)
    have e2 := dvI_pos (old := tc v) (n := n) (dn := dn) hJ.2.2 (by omega) (by omega)
    rcases hdn with q | q
    · subst q
      unfold s1 s2 sx sy
      rw [if_pos rfl] at ha d4
      simp only [if_pos]
      rw [if_pos rfl] at ha
      exact ⟨ptBd_sq (ptBd_sq e1 (by omega) (by omega)) (by omega) (by omega), ptPos_set (ptPos_set e2 (by omega) (by omega)) (by omega) (by omega)⟩
    · subst q
      unfold s1 s2 sx sy
      have z1 : ¬ (1 : Int) = 0 := by decide
      rw [if_neg z1] at ha d4
      simp only [if_neg z1]
      rw [if_neg z1] at ha
      exact ⟨ptBd_sq (ptBd_sq e1 (by omega) (by omega)) (by omega) (by omega), ptPos_set (ptPos_set e2 (by omega) (by omega)) (by omega) (by omega)⟩
  refine ⟨g1, ⟨?_, ?_, ?_, ?_, ?_⟩, ?_, bd⟩
  · -- the areas
    refine cR_rep (P := hP s) (v := v) (fun j up x y w0 h0 cz oz => ?_) k t none 0 0 w H ok i1 (fun v' hv' ev => aIn_one k t n1 hv' hv ev) (fun b hb0 => ?_)
    · have sz2 := aOk_sz oz
      have r2 := cR_root cz
      have ew : w0 = w' := by omega
      have eh : h0 = h' := by omega
      have ex : x = x' := by omega
      have ey : y = y' := by omega
      have eu : up = up' := r2.2.2.2.2.symm.trans rt.2.2.2.2
      subst ew eh ex ey eu
      have hj0 : 0 < j := by
        cases j with
        | zero => exact oz.elim
        | succ j => omega
      obtain ⟨i, rfl⟩ : ∃ i, j = i + 1 := ⟨j - 1, by omega⟩
      obtain ⟨l0, l1, l2⟩ := dvI_nl (P := hP s) (old := tc v) (n := n) (dn := dn) (by omega) (fun ab hab => by have := (hup ab hab).2.1; omega)
      obtain ⟨m0, m1⟩ := dvI_n01 (P := hP s) (old := tc v) (n := n) (dn := dn) (by omega) (by omega)
      have m2 := dvI_2 (P := hP s) (old := tc v) (n := n) (dn := dn) (by omega) (by omega)
      have m3 := dvI_3 (P := hP s) (old := tc v) (n := n) (dn := dn) (by omega) (by omega)
      have m4 := dvI_4 (P := hP s) (old := tc v) (n := n) (dn := dn)
      have eo := dvI_o (P := hP s) (n := n) (dn := dn) (old := tc v) (by omega) (by omega) (fun ab hab => (hup ab hab).1)
      have em := dvI_m (P := hP s) (old := tc v) (n := n) (dn := dn)
      rw [hPe]
      generalize hQ2 : plSet (plSet (dvI (hP s) (tc v) n dn) (tc v) _ _ _ _) (n + 1) _ _ _ _ = Q
      have Qn : Q n = dvI (hP s) (tc v) n dn n := by rw [← hQ2, ps_b (by omega), ps_b (by omega)]
      have Qo := @ps_a (dvI (hP s) (tc v) n dn) (tc v) x y (s1 dn (((if dn = 0 then w0 else h0) - 1) / 2) w0 h0).1 (s1 dn (((if dn = 0 then w0 else h0) - 1) / 2) w0 h0).2
      have Qo2 : Q (tc v) = plSet (dvI (hP s) (tc v) n dn) (tc v) x y (s1 dn (((if dn = 0 then w0 else h0) - 1) / 2) w0 h0).1 (s1 dn (((if dn = 0 then w0 else h0) - 1) / 2) w0 h0).2 (tc v) := by rw [← hQ2, ps_b (by omega)]
      have Qm := @ps_a (plSet (dvI (hP s) (tc v) n dn) (tc v) x y (s1 dn (((if dn = 0 then w0 else h0) - 1) / 2) w0 h0).1 (s1 dn (((if dn = 0 then w0 else h0) - 1) / 2) w0 h0).2) (n + 1) (sx dn (((if dn = 0 then w0 else h0) - 1) / 2) x) (sy dn (((if dn = 0 then w0 else h0) - 1) / 2) y) (s2 dn (((if dn = 0 then w0 else h0) - 1) / 2) w0 h0).1 (s2 dn (((if dn = 0 then w0 else h0) - 1) / 2) w0 h0).2
      rw [hQ2] at Qm
      rw [← Qo2] at Qo
      refine ⟨?_, fun z => absurd (show tp (aDv n f g dn _ v _ _) = none from rfl) z, fun _ => ⟨?_, ⟨?_, fun _ => ?_, fun z => by cases z⟩, ?_, fun _ => ?_, fun z => by cases z⟩⟩
      · show (Q n).1 0 = x ∧ (Q n).1 1 = y ∧ (Q n).1 2 = w0 ∧ (Q n).1 3 = h0 ∧ (Q n).2 2 = up
        rw [Qn, m0, m1, m2, m3, l2]
        exact rt
      · show (Q n).2 0 = some (tc v) ∧ (Q n).2 1 = some (n + 1) ∧ (Q n).1 4 = dn
        rw [Qn]; exact ⟨l0, l1, m4⟩
      · show (Q (tc v)).1 0 = x ∧ (Q (tc v)).1 1 = y ∧ (Q (tc v)).1 2 = (s1 dn (((if dn = 0 then w0 else h0) - 1) / 2) w0 h0).1 ∧ (Q (tc v)).1 3 = (s1 dn (((if dn = 0 then w0 else h0) - 1) / 2) w0 h0).2 ∧ (Q (tc v)).2 2 = some n
        refine ⟨Qo.1, Qo.2.1, Qo.2.2.1, Qo.2.2.2.1, ?_⟩
        rw [Qo.2.2.2.2.2, eo]
        show va_up (hP s (tc v)).2 2 (some n) 2 = some n
        exact va_up_self _ _ _
      · show (Q (tc v)).2 0 = none ∧ (Q (tc v)).2 1 = none
        rw [Qo.2.2.2.2.2, eo]
        show va_up (hP s (tc v)).2 2 (some n) 0 = none ∧ va_up (hP s (tc v)).2 2 (some n) 1 = none
        rw [va_up_ne _ _ (by decide), va_up_ne _ _ (by decide)]
        exact hvl
      · show (Q (n + 1)).1 0 = _ ∧ (Q (n + 1)).1 1 = _ ∧ (Q (n + 1)).1 2 = _ ∧ (Q (n + 1)).1 3 = _ ∧ (Q (n + 1)).2 2 = some n
        refine ⟨Qm.1, Qm.2.1, Qm.2.2.1, Qm.2.2.2.1, ?_⟩
        rw [Qm.2.2.2.2.2, ps_b (by omega), em]
        show va_up pt00.2 2 (some n) 2 = some n
        exact va_up_self _ _ _
      · show (Q (n + 1)).2 0 = none ∧ (Q (n + 1)).2 1 = none
        rw [Qm.2.2.2.2.2, ps_b (by omega), em]
        exact ⟨rfl, rfl⟩
    · have hbn := hb b (aXo_sub k t b hb0)
      have hbo : b ≠ tc v := fun e => aXo_dis k t w H ok n1 hv b hb0 (e ▸ aX_root hk)
      rw [hPe, ps_b (by omega), ps_b hbo, dvI_b hbo (by omega) (by omega)]
      have cA := cR_of k t none 0 0 w H i1 (Q := dvA (hP s) (tc v) n) (fun b' hb' => dvA_o (by have := hb b' hb'; omega))
      rw [ex_out (n := n) cA ok n1 hv (fun z => by have := hb _ (aXo_sub k t _ z); omega) b hb0, dvA_o (by omega)]
      rfl
  · show exR (dvA (hP s) (dvQ s p) n) (dvQ s p) n (hRt s) = _
    rw [hQ, rep_c hk]
    by_cases e : v = t
    · subst e
      rw [if_pos rfl, exR_0 (by rw [dvA_o (by omega)]; exact (cR_root i1).2.2.2.2)]
      rfl
    · obtain ⟨u, e1, e2, e3, e4⟩ := cR_par i1 ok hv e
      rw [if_neg (fun z => e (aIn_one k t n1 hv (by obtain ⟨i, rfl⟩ : ∃ i, k = i + 1 := ⟨k - 1, by omega⟩; exact Or.inl rfl) z.symm)), exR_1 (by rw [dvA_o (by omega), e4]; exact fun z => by cases z), i2]
  · intro b hb0
    show va_up (va_up (hD s) n true) (n + 1) true b = true
    rcases (aRep_iff hu k t w H ok n1 hv b).mp hb0 with y | y
    · exact ptD_1 (ptD_1 (i3 b (aXo_sub k t b y)))
    · obtain ⟨i, rfl⟩ : ∃ i, k = i + 1 := ⟨k - 1, by omega⟩
      rw [aDv_x] at y
      have hx2 : b = n ∨ b = tc v ∨ b = n + 1 := by simpa using y
      rcases hx2 with e | e | e
      · subst e; exact ptD_1 (va_up_self _ _ _)
      · subst e; exact ptD_1 (ptD_1 (i3 _ (aIn_c hv)))
      · subst e; exact va_up_self _ _ _
  · intro v' hv' p' hp'
    show va_up (hLv s) (lyLeast (hLv s) 0 8 0).toNat (some (n + 1)) p' = some (tc v')
    rcases aRep_leaf hp' k t w H ok hv' with ⟨a1, a2⟩ | ⟨j', -, j2⟩
    · have hne : p' ≠ (lyLeast (hLv s) 0 8 0).toNat := fun e => hun _ hqn (e ▸ aXo_sub k t p' a2)
      rw [va_up_ne _ _ hne]
      exact i4 v' a1 p' hp'
    · have hvl' : v' = aDv n f g dn (((if dn = 0 then w' else h') - 1) / 2) v p.toNat (lyLeast (hLv s) 0 8 0).toNat ∨ v' = aL (aDv n f g dn (((if dn = 0 then w' else h') - 1) / 2) v p.toNat (lyLeast (hLv s) 0 8 0).toNat) ∨ v' = aR (aDv n f g dn (((if dn = 0 then w' else h') - 1) / 2) v p.toNat (lyLeast (hLv s) 0 8 0).toNat) := by
        cases j' with
        | zero => exact j2.elim
        | succ j' =>
          rcases j2 with j2 | ⟨-, j2 | j2⟩
          · exact Or.inl j2
          · cases j' with
            | zero => exact j2.elim
            | succ j' =>
              rcases j2 with j2 | ⟨z, -⟩
              · exact Or.inr (Or.inl j2)
              · cases z
          · cases j' with
            | zero => exact j2.elim
            | succ j' =>
              rcases j2 with j2 | ⟨z, -⟩
              · exact Or.inr (Or.inr j2)
              · cases z
      rcases hvl' with e | e | e
      · rw [e] at hp'; cases hp'
      · rw [e] at hp' ⊢
        have : p.toNat = p' := Option.some.inj hp'
        subst this
        rw [va_up_ne _ _ (fun e => by rw [e, hqn] at hlv; cases hlv)]
        exact hlv
      · rw [e] at hp' ⊢
        have : (lyLeast (hLv s) 0 8 0).toNat = p' := Option.some.inj hp'
        subst this
        exact va_up_self _ _ _
  · intro p' hp'
    refine (aRep_iff hu k t w H ok n1 hv p').mpr ?_
    obtain ⟨i, rfl⟩ : ∃ i, k = i + 1 := ⟨k - 1, by omega⟩
    have hx3 : aX fp (i + 1 + 1) (aDv n f g dn (((if dn = 0 then w' else h') - 1) / 2) v p.toNat (lyLeast (hLv s) 0 8 0).toNat) = [p.toNat, (lyLeast (hLv s) 0 8 0).toNat] := aDv_x
    rw [hx3]
    by_cases e : p' = (lyLeast (hLv s) 0 8 0).toNat
    · right; rw [e]; exact List.mem_cons_of_mem _ List.mem_cons_self
    · have hp2 : ¬ hLv s p' = none := fun z => hp' (show va_up (hLv s) _ _ p' = none by rw [va_up_ne _ _ e]; exact z)
      rcases (aX_iff (i + 1) t w H ok n1 hv p').mp (i5 p' hp2) with y | y
      · exact Or.inl y
      · right
        rw [aX_n (by rw [hp]; exact fun z => by cases z), fp_y hp] at y
        rw [List.mem_singleton.mp y]
        exact List.mem_cons_self
  · show ptCl (dvDm (hD s) n) (plShare 9 n _ (dvI (hP s) (dvQ s p) n dn))
    rw [hQ]
    exact ptCl_same (dvI_cl hJ.1 (i3 _ (aIn_c hv))) (plShare_same _ _ _ _)
