/-! ===== splitNow and closeNow on what holds between calls ===== -/
def rD (W H M : Int) (t : aT) (B : Nat) (tr fo pr : Int) (h h' : pz_H) (n n' : Nat) : Prop := ∃ s', mAt B s' h' ∧ rH W H M t s' ∧ (s'.1 0 = tr ∧ s'.1 47 = fo ∧ s'.1 48 = pr) ∧ mFr B h h' ∧ n' = n
/-- the next two free nodes -/
def frN (s : mS) (f g : Nat) : Prop := (f < 16 ∧ s.2 3 f = 0 ∧ ∀ i, i < f → s.2 3 i = 1) ∧ (g < 16 ∧ s.2 3 g = 0 ∧ ∀ i, i < g → ¬ i = f → s.2 3 i = 1) ∧ f ≠ g
theorem least_ex {P : Nat → Prop} : ∀ n, P n → ∃ m, m ≤ n ∧ P m ∧ ∀ i, i < m → ¬ P i := by
  intro n
  induction n using Nat.strongRecOn with
  | ind n ih =>
    intro hn
    by_cases e : ∃ i, i < n ∧ P i
    · obtain ⟨i, h1, h2⟩ := e
      obtain ⟨m, a, b, c⟩ := ih i h1 h2
      exact ⟨m, by omega, b, c⟩
    · exact ⟨n, Nat.le_refl n, hn, fun i hi hp => e ⟨i, hi, hp⟩⟩
theorem all_len : ∀ (n : Nat) (l : List Nat), (∀ x, x < n → x ∈ l) → n ≤ l.length
  | 0, l, _ => Nat.zero_le _
  | n + 1, l, h => by
    have h1 := h n (by omega)
    have h2 := all_len n (l.erase n) (fun x hx => (List.mem_erase_of_ne (by omega)).mpr (h x (by omega)))
    rw [List.length_erase_of_mem h1] at h2
    have h3 : 0 < l.length := List.length_pos_of_mem h1
    omega
theorem aX_cnt : ∀ (k : Nat) (t : aT) (w h : Int), aOk k t w h → (aX fm k t).length + 1 = 2 * (aX fp k t).length
  | 0, _, _, _, z => z.elim
  | k + 1, t, w, h, z => by
    cases e : tp t with
    | none =>
      obtain ⟨-, o1, o2⟩ := z.2 e
      have a := aX_cnt k _ _ _ o1
      have b := aX_cnt k _ _ _ o2
      rw [aX_lm e, aX_lp e, List.length_cons, List.length_append, List.length_append]
      omega
    | some p =>
      have en : ¬ tp t = none := by rw [e]; exact fun y => by cases y
      rw [aX_n en, aX_n en, fp_y e]
      rfl
theorem rI_free {W H : Int} {t : aT} {s : mS} {q : Nat} (hG : aG 8 t W H) (hI : rI t s) (hq8 : q < 8) (hq : q ∉ aX fp 8 t) : ∃ f g, frN s f g ∧ f ∉ aX fm 8 t ∧ g ∉ aX fm 8 t := by
  obtain ⟨ok, n1, n2, n3, n4⟩ := hG
  have c := aX_cnt 8 t W H ok
  have l7 : (aX fp 8 t).length + 1 ≤ 8 := nd_len 8 (q :: aX fp 8 t) (List.nodup_cons.mpr ⟨hq, n3⟩) (fun x hx => by
    rcases List.mem_cons.mp hx with y | y
    · omega
    · exact n4 x y)
  have flg : ∀ i, i < 16 → i ∉ aX fm 8 t → s.2 3 i = 0 := fun i hi hn => by rw [hI.2.2.1 i hi, if_neg hn]
  have flg1 : ∀ i, i < 16 → ¬ (i < 16 ∧ i ∉ aX fm 8 t) → s.2 3 i = 1 := fun i hi hn => by
    rw [hI.2.2.1 i hi, if_pos (Classical.byContradiction (fun z => hn ⟨hi, z⟩))]
  have ex1 : ∃ i, i < 16 ∧ i ∉ aX fm 8 t := Classical.byContradiction (fun z => by
    have := all_len 16 (aX fm 8 t) (fun x hx => Classical.byContradiction (fun y => z ⟨x, hx, y⟩))
    omega)
  obtain ⟨a, ha⟩ := ex1
  obtain ⟨f, -, hf0, hf2⟩ := least_ex (P := fun i => i < 16 ∧ i ∉ aX fm 8 t) a ha
  have hf : f < 16 ∧ f ∉ aX fm 8 t := hf0
  have ex2 : ∃ i, i < 16 ∧ i ∉ f :: aX fm 8 t := Classical.byContradiction (fun z => by
    have := all_len 16 (f :: aX fm 8 t) (fun x hx => Classical.byContradiction (fun y => z ⟨x, hx, y⟩))
    rw [List.length_cons] at this
    omega)
  obtain ⟨b, hb⟩ := ex2
  obtain ⟨g, -, hg0, hg2⟩ := least_ex (P := fun i => i < 16 ∧ i ∉ f :: aX fm 8 t) b hb
  have hg : g < 16 ∧ g ∉ f :: aX fm 8 t := hg0
  have f16 := hf.1
  have g16 := hg.1
  have hgf : ¬ g = f := fun z => hg.2 (z ▸ List.mem_cons_self)
  have hgm : g ∉ aX fm 8 t := fun z => hg.2 (List.mem_cons_of_mem _ z)
  refine ⟨f, g, ⟨⟨f16, flg f f16 hf.2, fun i hi => flg1 i (by omega) (hf2 i hi)⟩, ⟨g16, flg g g16 hgm, fun i hi hne => flg1 i (by omega) (fun z => hg2 i hi ⟨z.1, fun y => ?_⟩)⟩, fun z => hgf z.symm⟩, hf.2, hgm⟩
  rcases List.mem_cons.mp y with y | y
  · exact hne y
  · exact z.2 y
theorem mLs_sp {f : Nat → Int} : ∀ (j : Nat) (i : Int), 0 ≤ i → (∀ k : Nat, i ≤ (k : Int) → (k : Int) < mLs f j i → ¬ f k = 0) ∧ (mLs f j i < i + j → f (mLs f j i).toNat = 0)
  | 0, i, hi => ⟨fun k h1 h2 => absurd h2 (by show ¬ (k : Int) < i; omega), fun z => absurd z (by show ¬ i < i + ((0 : Nat) : Int); omega)⟩
  | j + 1, i, hi => by
    have ih := mLs_sp (f := f) j (i + 1) (by omega)
    have e : mLs f (j + 1) i = if f i.toNat = 0 then i else mLs f j (i + 1) := rfl
    rw [e]
    by_cases c : f i.toNat = 0
    · rw [if_pos c]
      exact ⟨fun k h1 h2 => by omega, fun _ => c⟩
    · rw [if_neg c]
      refine ⟨fun k h1 h2 => ?_, fun z => ih.2 (by omega)⟩
      by_cases ek : (k : Int) = i
      · intro z; exact c (by rw [← ek, Int.toNat_natCast]; exact z)
      · exact ih.1 k (by omega) h2
/-- the least pane that isn't there -/
theorem rI_q {t : aT} {s : mS} (hI : rI t s) (hl : mLs (s.2 16) 8 0 < 8) : ∃ q : Nat, mLs (s.2 16) 8 0 = (q : Int) ∧ q < 8 ∧ s.2 16 q = 0 ∧ (∀ i, i < q → s.2 16 i = 1) ∧ q ∉ aX fp 8 t := by
  have b := mLs_b (f := s.2 16) 8 0
  obtain ⟨h1, h2⟩ := mLs_sp (f := s.2 16) 8 0 (by omega)
  refine ⟨(mLs (s.2 16) 8 0).toNat, by omega, by omega, h2 (by omega), fun i hi => ?_, fun z => ?_⟩
  · have h3 := h1 i (by omega) (by omega)
    have h4 := rI_us hI i (by omega)
    omega
  · have h3 := (rI_used hI (p := (mLs (s.2 16) 8 0).toNat) (by omega)).mpr z
    rw [h2 (by omega)] at h3
    omega
theorem rV_up {W H fo : Int} {t t' : aT} {s s3 : mS} (hV : rV W H t s) (e : s3.1 = s.1) (hf : (0 ≤ fo ∧ fo < 8) ∧ fo.toNat ∈ aX fp 8 t') : rV W H t' (mV 47 fo s3) := by
  obtain ⟨⟨v1, v2⟩, ⟨v47, m47⟩, v48, v49, v53, v54, v55, v56, v57⟩ := hV
  rw [← e] at v1 v2 v48 v49 v53 v54 v55 v56 v57
  exact ⟨⟨v1, v2⟩, hf, v48, v49, v53, v54, v55, v56, v57⟩
theorem m45_le {M : Int} {s s1 : mS} (h : m45 s s1) (hM : 0 ≤ M) (hs : ∀ p, p < 8 → s.2 45 p ≤ M) : ∀ p, p < 8 → s1.2 45 p ≤ M := fun p hp => by
  rcases h p with z | z
  · rw [z]; exact hs p hp
  · rw [z]; exact hM
theorem aOk_leaf {W H : Int} {t v : aT} {p k : Nat} (ok : aOk k t W H) (hv : aIn v k t) (hp : tp v = some p) : aOk 1 v (tw v) (th v) := by
  obtain ⟨j, w', h', hj, o, -⟩ := aIn_ok k t W H ok hv
  obtain ⟨e1, e2⟩ := aOk_sz o
  obtain ⟨b1, b2⟩ := aOk_1 o
  exact ⟨⟨by omega, by omega, rfl, rfl⟩, fun e => by rw [hp] at e; cases e⟩
set_option maxHeartbeats 4000000 in
theorem nG_splitNow0 {E : pw_E} (htr : E.1.stackTraces = false) {h : pz_H} {n B : Nat} {s : mS} (hA : mAt B s h) {W H M : Int} {t v : aT} {nc f g p q : Nat} (hW : 8 ≤ W ∧ W ≤ 40) (hHH : 4 ≤ H ∧ H ≤ 16) (hH : rH W H M t s) (hv : aIn v 8 t) (hp : tp v = some p) (hmay : mMay s p 0 = 1) (hnc : ∀ b, b ∈ aX fc 8 t → b < nc) (hF : frN s f g) (hfm : f ∉ aX fm 8 t) (hgm : g ∉ aX fm 8 t) (eq : mLs (s.2 16) 8 0 = (q : Int)) : pw_M E yX10_splitNow YX10_splitNow (rmD 3 0 0) [.ref B, .int (zI (p : Int)), .int (zI (0))] h n (fun r0 h' n' => r0 = some (.int (zI (q : Int))) ∧ rD W H M (aRep (tc v) (aDv nc f g 0 ((tw v - 1) / 2) v p q) 8 t) B (s.1 0) q (s.1 48) h h' n n') (fun _ _ _ => False) := by
  obtain ⟨hG, hI, hV, hM0, h45⟩ := id hH
  obtain ⟨⟨m16, ndx, ndy⟩, ⟨e12, e13⟩, hl, -⟩ := rI_in hG hI hv
  obtain ⟨p8, hpm, k4, k17, k18, k19⟩ := hl p hp
  have hm1 : mLs (s.2 16) 8 0 < 8 ∧ 2 < tw v := by
    unfold mMay at hmay
    by_cases c : mLs (s.2 16) 8 0 < 8 ∧ 2 < (if (0 : Int) = 0 then s.2 18 (p : Int).toNat else s.2 19 (p : Int).toNat)
    · refine ⟨c.1, ?_⟩
      have c2 := c.2
      rw [if_pos rfl, Int.toNat_natCast, k18, e12] at c2
      exact c2
    · rw [if_neg c] at hmay
      omega
  obtain ⟨q', eq', q8, q0, q1, qm⟩ := rI_q hI hm1.1
  have eqq : q' = q := by omega
  subst eqq
  have okv := aOk_leaf hG.1 hv hp
  have hpq : p ≠ q' := fun z => qm (z ▸ hpm)
  obtain ⟨⟨f16, f0, f1⟩, ⟨g16, g0, g1⟩, hfg⟩ := hF
  have hmf : tm v ≠ f := fun z => hfm (z ▸ aIn_m hG.1 hv)
  have hmg : tm v ≠ g := fun z => hgm (z ▸ aIn_m hG.1 hv)
  have ha : 1 ≤ (tw v - 1) / 2 ∧ (tw v - 1) / 2 ≤ (if (0 : Int) = 0 then tw v else th v) - 2 := by rw [if_pos rfl]; omega
  refine pw_M_mo (nR_splitNow0 (nc := nc) (fN := f) (gN := g) (pN := p) (qN := q') (v := v) (m := (tm v : Int)) (f := (f : Int)) (g := (g : Int)) (q := (q' : Int)) (ww := tw v) (hh := th v) (x := s.2 10 (tm v)) (y := s.2 11 (tm v)) htr hA rfl rfl rfl rfl rfl (by omega) (by omega) (by omega) (by omega) (by omega) (by omega) (by omega) (by omega) (by omega) (fun i hi => q1 i (by omega)) q0 (fun i hi => f1 i (by omega)) f0 (fun i hi he => g1 i (by omega) (by omega)) g0 k17 rfl rfl e12 e13 okv (by omega) (by omega) (hI.2.2.2.2.1 p hpm) (hI.2.2.2.2.2 q' q8) hm1.2) (fun r h' n' hq => ?_) (fun _ _ _ z => z.elim)
  obtain ⟨r1, s2, s3, hA3, hQ, hk2, hL, hR, hk3, hF3, e4⟩ := hq
  have xm : aX fm 2 (aDv nc f g 0 ((tw v - 1) / 2) v p q') = [tm v, f, g] := aDv_x (k := 0)
  have xp : aX fp 2 (aDv nc f g 0 ((tw v - 1) / 2) v p q') = [p, q'] := aDv_x (k := 0)
  rw [xm, xp] at hL
  rw [xp] at hk3
  rw [aPl_dv (by decide) ha] at hR
  have hQ' : mPq q' (spS p q' (tm v) f g ((tw v - 1) / 2) 0 s) s2 := hQ
  have rI3 := rI_div (nc := nc) hG hI hv hp (by decide) ha hnc hfm hgm hfg f16 g16 qm q8 rfl rfl hQ' hL hR hk3
  have aG9 := aG_div (n := nc) hG hv hp (dn := 0) (by decide) ha hnc hfm hgm hfg qm q8
  have hG8 := aG_lev aG9
  have e1 : s3.1 = s.1 := hL.1.trans hQ'.1
  have hfit := aDv_fits (n := nc) (f := f) (g := g) (p := p) (q := q') (dn := 0) (a := (tw v - 1) / 2) (v := v) (by decide) ha
  have hqt : q' ∈ aX fp 8 (aRep (tc v) (aDv nc f g 0 ((tw v - 1) / 2) v p q') 8 t) := by
    rw [hG8.2]
    refine (aRep_iff hfit 8 t W H hG.1 hG.2.1 hv q').mpr (Or.inr ?_)
    rw [show aX fp (8 + 1) (aDv nc f g 0 ((tw v - 1) / 2) v p q') = [p, q'] from aDv_x (k := 7)]
    exact List.mem_cons_of_mem _ List.mem_cons_self
  have m3 : m45 s s3 := m45_tr (m45_tr (m45_e (s := s) (s1 := spS p q' (tm v) f g ((tw v - 1) / 2) 0 s) rfl) hQ'.2.2.2.2) hL.2.2.2.2.2.2
  exact ⟨r1, mV 47 (q' : Int) s3, hA3, ⟨hG8.1, rI_same rI3 (fun _ _ => rfl), rV_up hV e1 ⟨by omega, by rw [Int.toNat_natCast]; exact hqt⟩, hM0, m45_le m3 hM0 h45⟩, ⟨congrFun e1 0, rfl, congrFun e1 48⟩, hF3, e4⟩
set_option maxHeartbeats 4000000 in
theorem nG_splitNow1 {E : pw_E} (htr : E.1.stackTraces = false) {h : pz_H} {n B : Nat} {s : mS} (hA : mAt B s h) {W H M : Int} {t v : aT} {nc f g p q : Nat} (hW : 8 ≤ W ∧ W ≤ 40) (hHH : 4 ≤ H ∧ H ≤ 16) (hH : rH W H M t s) (hv : aIn v 8 t) (hp : tp v = some p) (hmay : mMay s p 1 = 1) (hnc : ∀ b, b ∈ aX fc 8 t → b < nc) (hF : frN s f g) (hfm : f ∉ aX fm 8 t) (hgm : g ∉ aX fm 8 t) (eq : mLs (s.2 16) 8 0 = (q : Int)) : pw_M E yX10_splitNow YX10_splitNow (rmD 3 0 0) [.ref B, .int (zI (p : Int)), .int (zI (1))] h n (fun r0 h' n' => r0 = some (.int (zI (q : Int))) ∧ rD W H M (aRep (tc v) (aDv nc f g 1 ((th v - 1) / 2) v p q) 8 t) B (s.1 0) q (s.1 48) h h' n n') (fun _ _ _ => False) := by
  obtain ⟨hG, hI, hV, hM0, h45⟩ := id hH
  obtain ⟨⟨m16, ndx, ndy⟩, ⟨e12, e13⟩, hl, -⟩ := rI_in hG hI hv
  obtain ⟨p8, hpm, k4, k17, k18, k19⟩ := hl p hp
  have hm1 : mLs (s.2 16) 8 0 < 8 ∧ 2 < th v := by
    unfold mMay at hmay
    by_cases c : mLs (s.2 16) 8 0 < 8 ∧ 2 < (if (1 : Int) = 0 then s.2 18 (p : Int).toNat else s.2 19 (p : Int).toNat)
    · refine ⟨c.1, ?_⟩
      have c2 := c.2
      rw [if_neg (by decide), Int.toNat_natCast, k19, e13] at c2
      exact c2
    · rw [if_neg c] at hmay
      omega
  obtain ⟨q', eq', q8, q0, q1, qm⟩ := rI_q hI hm1.1
  have eqq : q' = q := by omega
  subst eqq
  have okv := aOk_leaf hG.1 hv hp
  have hpq : p ≠ q' := fun z => qm (z ▸ hpm)
  obtain ⟨⟨f16, f0, f1⟩, ⟨g16, g0, g1⟩, hfg⟩ := hF
  have hmf : tm v ≠ f := fun z => hfm (z ▸ aIn_m hG.1 hv)
  have hmg : tm v ≠ g := fun z => hgm (z ▸ aIn_m hG.1 hv)
  have ha : 1 ≤ (th v - 1) / 2 ∧ (th v - 1) / 2 ≤ (if (1 : Int) = 0 then tw v else th v) - 2 := by rw [if_neg (by decide)]; omega
  refine pw_M_mo (nR_splitNow1 (nc := nc) (fN := f) (gN := g) (pN := p) (qN := q') (v := v) (m := (tm v : Int)) (f := (f : Int)) (g := (g : Int)) (q := (q' : Int)) (ww := tw v) (hh := th v) (x := s.2 10 (tm v)) (y := s.2 11 (tm v)) htr hA rfl rfl rfl rfl rfl (by omega) (by omega) (by omega) (by omega) (by omega) (by omega) (by omega) (by omega) (by omega) (fun i hi => q1 i (by omega)) q0 (fun i hi => f1 i (by omega)) f0 (fun i hi he => g1 i (by omega) (by omega)) g0 k17 rfl rfl e12 e13 okv (by omega) (by omega) (hI.2.2.2.2.1 p hpm) (hI.2.2.2.2.2 q' q8) hm1.2) (fun r h' n' hq => ?_) (fun _ _ _ z => z.elim)
  obtain ⟨r1, s2, s3, hA3, hQ, hk2, hL, hR, hk3, hF3, e4⟩ := hq
  have xm : aX fm 2 (aDv nc f g 1 ((th v - 1) / 2) v p q') = [tm v, f, g] := aDv_x (k := 0)
  have xp : aX fp 2 (aDv nc f g 1 ((th v - 1) / 2) v p q') = [p, q'] := aDv_x (k := 0)
  rw [xm, xp] at hL
  rw [xp] at hk3
  rw [aPl_dv (by decide) ha] at hR
  have hQ' : mPq q' (spS p q' (tm v) f g ((th v - 1) / 2) 1 s) s2 := hQ
  have rI3 := rI_div (nc := nc) hG hI hv hp (by decide) ha hnc hfm hgm hfg f16 g16 qm q8 rfl rfl hQ' hL hR hk3
  have aG9 := aG_div (n := nc) hG hv hp (dn := 1) (by decide) ha hnc hfm hgm hfg qm q8
  have hG8 := aG_lev aG9
  have e1 : s3.1 = s.1 := hL.1.trans hQ'.1
  have hfit := aDv_fits (n := nc) (f := f) (g := g) (p := p) (q := q') (dn := 1) (a := (th v - 1) / 2) (v := v) (by decide) ha
  have hqt : q' ∈ aX fp 8 (aRep (tc v) (aDv nc f g 1 ((th v - 1) / 2) v p q') 8 t) := by
    rw [hG8.2]
    refine (aRep_iff hfit 8 t W H hG.1 hG.2.1 hv q').mpr (Or.inr ?_)
    rw [show aX fp (8 + 1) (aDv nc f g 1 ((th v - 1) / 2) v p q') = [p, q'] from aDv_x (k := 7)]
    exact List.mem_cons_of_mem _ List.mem_cons_self
  have m3 : m45 s s3 := m45_tr (m45_tr (m45_e (s := s) (s1 := spS p q' (tm v) f g ((th v - 1) / 2) 1 s) rfl) hQ'.2.2.2.2) hL.2.2.2.2.2.2
  exact ⟨r1, mV 47 (q' : Int) s3, hA3, ⟨hG8.1, rI_same rI3 (fun _ _ => rfl), rV_up hV e1 ⟨by omega, by rw [Int.toNat_natCast]; exact hqt⟩, hM0, m45_le m3 hM0 h45⟩, ⟨congrFun e1 0, rfl, congrFun e1 48⟩, hF3, e4⟩
theorem nG_splitNow {E : pw_E} (htr : E.1.stackTraces = false) {h : pz_H} {n B : Nat} {s : mS} (hA : mAt B s h) {W H M : Int} {t v : aT} {nc f g p q : Nat} {dn : Int} (hW : 8 ≤ W ∧ W ≤ 40) (hHH : 4 ≤ H ∧ H ≤ 16) (hH : rH W H M t s) (hv : aIn v 8 t) (hp : tp v = some p) (hdn : dn = 0 ∨ dn = 1) (hmay : mMay s p dn = 1) (hnc : ∀ b, b ∈ aX fc 8 t → b < nc) (hF : frN s f g) (hfm : f ∉ aX fm 8 t) (hgm : g ∉ aX fm 8 t) (eq : mLs (s.2 16) 8 0 = (q : Int)) : pw_M E yX10_splitNow YX10_splitNow (rmD 3 0 0) [.ref B, .int (zI (p : Int)), .int (zI (dn))] h n (fun r0 h' n' => r0 = some (.int (zI (q : Int))) ∧ rD W H M (aRep (tc v) (aDv nc f g dn (((if dn = 0 then tw v else th v) - 1) / 2) v p q) 8 t) B (s.1 0) q (s.1 48) h h' n n') (fun _ _ _ => False) := by
  rcases hdn with rfl | rfl
  · rw [if_pos rfl]; exact nG_splitNow0 htr hA hW hHH hH hv hp hmay hnc hF hfm hgm eq
  · rw [if_neg (by decide)]; exact nG_splitNow1 htr hA hW hHH hH hv hp hmay hnc hF hfm hgm eq
