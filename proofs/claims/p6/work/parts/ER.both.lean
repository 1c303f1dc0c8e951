/-! ===== class and reference see the same of a layout ===== -/
/-- pane p may be divided -/
def dOk (t : aT) (p dn : Int) : Prop := (0 ≤ p ∧ p < 8) ∧ ∃ v, aIn v 8 t ∧ tp v = some p.toNat ∧ 2 < (if dn = 0 then tw v else th v) ∧ ∃ q, q < 8 ∧ q ∉ aX fp 8 t
/-- the least pane that isn't there; the least that is -/
def lsF (t : aT) (q : Nat) : Prop := q < 8 ∧ q ∉ aX fp 8 t ∧ ∀ i, i < q → i ∈ aX fp 8 t
def lsU (t : aT) (q : Nat) : Prop := q < 8 ∧ q ∈ aX fp 8 t ∧ ∀ i, i < q → i ∉ aX fp 8 t
theorem lsF_ex {t : aT} {q : Nat} (h8 : q < 8) (hq : q ∉ aX fp 8 t) : ∃ q, lsF t q := by
  obtain ⟨m, h1, h2, h3⟩ := least_ex (P := fun i => i ∉ aX fp 8 t) q hq
  exact ⟨m, by omega, h2, fun i hi => Classical.byContradiction (h3 i hi)⟩
theorem lsU_ex {t : aT} {q : Nat} (h8 : q < 8) (hq : q ∈ aX fp 8 t) : ∃ q, lsU t q := by
  obtain ⟨m, h1, h2, h3⟩ := least_ex (P := fun i => i ∈ aX fp 8 t) q hq
  exact ⟨m, by omega, h2, h3⟩
theorem lyLeast_eq {lv : Nat → Option Nat} {tt : Int} {q : Nat} (hq : lyHas lv q = tt) : ∀ (j : Nat) (i : Int), 0 ≤ i → i ≤ q → (q : Int) < i + j → (∀ k : Nat, i ≤ k → k < q → ¬ lyHas lv k = tt) → lyLeast lv tt j i = q
  | 0, i, h0, h1, h2, _ => by
    rw [show i + ((0 : Nat) : Int) = i by omega] at h2
    omega
  | j + 1, i, h0, h1, h2, h3 => by
    show (if lyHas lv i = tt then i else lyLeast lv tt j (i + 1)) = q
    by_cases e : i = q
    · rw [e, if_pos hq]
    · have h4 := h3 i.toNat (by omega) (by omega)
      rw [show ((i.toNat : Nat) : Int) = i by omega] at h4
      rw [if_neg h4]
      exact lyLeast_eq hq j (i + 1) (by omega) (by omega) (by omega) (fun k a b => h3 k (by omega) b)
section CR
variable {W H : Int} {t : aT} {x : hS} {s : mS}
theorem pIn_nat {i : Nat} (hi : i < 8) : pIn t (i : Int) ↔ i ∈ aX fp 8 t := by
  unfold pIn
  rw [Int.toNat_natCast]
  exact ⟨fun z => z.2, fun z => ⟨by omega, z⟩⟩
theorem cI_lsF {q : Nat} (hG : aG 8 t W H) (hI : cI W H 8 t x) (hq : lsF t q) : lyLeast (hLv x) 0 8 0 = q := by
  obtain ⟨q8, qn, qa⟩ := hq
  have b := @lyHas_b (hLv x) (q : Int)
  have c := cI_has (p := (q : Int)) hG hI
  refine lyLeast_eq ?_ 8 0 (by omega) (by omega) (by omega) (fun k h1 h2 => ?_)
  · rcases (show lyHas (hLv x) (q : Int) = 0 ∨ lyHas (hLv x) (q : Int) = 1 by omega) with z | z
    · exact z
    · exact absurd ((pIn_nat q8).mp (c.mp z)) qn
  · rw [(cI_has hG hI).mpr ((pIn_nat (by omega)).mpr (qa k h2))]
    decide
theorem cI_lsU {q : Nat} (hG : aG 8 t W H) (hI : cI W H 8 t x) (hq : lsU t q) : lyLeast (hLv x) 1 8 0 = q := by
  obtain ⟨q8, qn, qa⟩ := hq
  refine lyLeast_eq ((cI_has hG hI).mpr ((pIn_nat q8).mpr qn)) 8 0 (by omega) (by omega) (by omega) (fun k h1 h2 z => ?_)
  exact qa k h2 ((pIn_nat (by omega)).mp ((cI_has hG hI).mp z))
theorem rI_lsF {q : Nat} (hI : rI t s) (hq : lsF t q) : mLs (s.2 16) 8 0 = q := by
  obtain ⟨q8, qn, qa⟩ := hq
  obtain ⟨h1, h2⟩ := mLs_sp (f := s.2 16) 8 0 (by omega)
  have b := mLs_b (f := s.2 16) 8 0
  have f0 : s.2 16 q = 0 := by rw [hI.2.2.2.1 q q8, if_neg qn]
  have f1 : ∀ i, i < q → s.2 16 i = 1 := fun i hi => (rI_used hI (by omega)).mpr (qa i hi)
  rcases (show mLs (s.2 16) 8 0 = q ∨ mLs (s.2 16) 8 0 < q ∨ (q : Int) < mLs (s.2 16) 8 0 by omega) with z | z | z
  · exact z
  · have h3 := h2 (by omega)
    rw [f1 _ (by omega)] at h3
    omega
  · exact absurd f0 (h1 q (by omega) z)
theorem cI_area {v : aT} (hG : aG 8 t W H) (hI : cI W H 8 t x) (hv : aIn v 8 t) : (hP x (tc v)).1 2 = tw v ∧ (hP x (tc v)).1 3 = th v := by
  obtain ⟨j, up', x', y', w', h', hj, c, o, -, -⟩ := cR_in 8 t none 0 0 W H hI.1 hG.1 hv
  obtain ⟨e1, e2⟩ := aOk_sz o
  obtain ⟨-, -, c2, c3, -⟩ := cR_root c
  exact ⟨by rw [c2, e1], by rw [c3, e2]⟩
theorem cI_dv {p dn : Int} (hG : aG 8 t W H) (hI : cI W H 8 t x) : dvOk x p dn ↔ dOk t p dn := by
  constructor
  · rintro ⟨hp, hl, hq, hz⟩
    have hm := hI.2.2.2.2 _ hl
    obtain ⟨v, hv, ev⟩ := aP_in 8 t hm
    refine ⟨hp, v, hv, ev, ?_, ?_⟩
    · have e : dvQ x p = tc v := by unfold dvQ; rw [hI.2.2.2.1 v hv _ ev]; rfl
      rw [e] at hz
      unfold ptLen at hz
      rw [(cI_area hG hI hv).1, (cI_area hG hI hv).2] at hz
      exact hz
    · have b := lyLeast_r (lv := hLv x) (t := 0) 8 0 (by omega)
      have h0 := lyLeast_has (lv := hLv x) (t := 0) 8 0 (by omega) hq
      refine ⟨(lyLeast (hLv x) 0 8 0).toNat, by omega, fun z => ?_⟩
      exact cI_has0 hG hI h0 ⟨by omega, z⟩
  · rintro ⟨hp, v, hv, ev, hz, q, q8, hq⟩
    obtain ⟨q', hq'⟩ := lsF_ex q8 hq
    have e : dvQ x p = tc v := by unfold dvQ; rw [hI.2.2.2.1 v hv _ ev]; rfl
    refine ⟨hp, by rw [hI.2.2.2.1 v hv _ ev]; exact fun y => (by cases y), by rw [cI_lsF hG hI hq']; omega, ?_⟩
    rw [e]
    unfold ptLen
    rw [(cI_area hG hI hv).1, (cI_area hG hI hv).2]
    exact hz
theorem rI_dv {p dn : Int} (hG : aG 8 t W H) (hI : rI t s) (hp : pIn t p) : mMay s p dn = 1 ↔ dOk t p dn := by
  obtain ⟨v, hv, ev⟩ := aP_in 8 t hp.2
  obtain ⟨-, ⟨e12, e13⟩, hl, -⟩ := rI_in hG hI hv
  obtain ⟨p8, hpm, k4, k17, k18, k19⟩ := hl _ ev
  unfold mMay
  rw [k18, k19, e12, e13]
  constructor
  · intro z
    by_cases c : mLs (s.2 16) 8 0 < 8 ∧ 2 < (if dn = 0 then tw v else th v)
    · obtain ⟨q, -, q8, -, -, qm⟩ := rI_q hI c.1
      exact ⟨hp.1, v, hv, ev, c.2, q, q8, qm⟩
    · rw [if_neg c] at z
      omega
  · rintro ⟨-, v', hv', ev', hz, q, q8, hq⟩
    obtain ⟨q', hq'⟩ := lsF_ex q8 hq
    have e1 := aIn_pc hG.1 hv ev
    have hlv : v' = v := by
      obtain ⟨a1, -⟩ := rI_in hG hI hv'
      obtain ⟨-, -, hl', -⟩ := rI_in hG hI hv'
      obtain ⟨-, -, -, k17', -, -⟩ := hl' _ ev'
      exact aIn_onem 8 t W H hG.1 hG.2.2.1 hv' hv (by omega)
    rw [hlv] at hz
    have q8' := hq'.1
    exact if_pos ⟨by rw [rI_lsF hI hq']; omega, hz⟩
theorem rI_may0 {p dn : Int} (hG : aG 8 t W H) (hI : rI t s) (hp : pIn t p) (h : ¬ dOk t p dn) : mMay s p dn = 0 := by
  have b := @mMay_b s p dn
  have c := rI_dv (dn := dn) hG hI hp
  rcases (show mMay s p dn = 0 ∨ mMay s p dn = 1 by omega) with z | z
  · exact z
  · exact absurd (c.mp z) h
theorem cI_rmk {p : Int} (hW : W ≤ 40) (hH : H ≤ 16) (hG : aG 8 t W H) (hI : cI W H 8 t x) (hJ : cJ x) : rmOk (hP x) (hLv x) p ↔ (pIn t p ∧ tp t = none) := by
  constructor
  · rintro ⟨h1, h2, -⟩
    have b := @lyHas_b (hLv x) p
    have hp := (cI_has hG hI).mp (show lyHas (hLv x) p = 1 by omega)
    refine ⟨hp, ?_⟩
    cases e : tp t with
    | none => rfl
    | some q =>
      exfalso
      have en : ¬ tp t = none := by rw [e]; exact fun y => by cases y
      obtain ⟨v, hv, ev⟩ := aP_in 8 t hp.2
      have evt : v = t := by
        rcases hv with y | ⟨y, -⟩
        · exact y
        · exact absurd y en
      have er : rmL (hLv x) p = tc t := by unfold rmL; rw [hI.2.2.2.1 v hv _ ev, evt]; rfl
      rw [er] at h2
      exact h2 (cR_root hI.1).2.2.2.2
  · rintro ⟨hp, e⟩
    obtain ⟨v, hv, ev⟩ := aP_in 8 t hp.2
    rcases aUp 8 t hv with y | ⟨u, hu, eu, hs⟩
    · rw [y, e] at ev; cases ev
    · rcases hs with hs | hs
      · exact (cI_rm (v := v) (z := aR u) (by decide) hW hH hG hI hJ hp.1 hu eu (Or.inl ⟨hs, rfl⟩) ev).1
      · exact (cI_rm (v := v) (z := aL u) (by decide) hW hH hG hI hJ hp.1 hu eu (Or.inr ⟨hs, rfl⟩) ev).1
/-- what is left when a pane is closed -/
theorem aX_rm {u v z : aT} {p : Nat} (hG : aG 8 t W H) (hu : aIn u 8 t) (e : tp u = none) (hs : aSib u v z) (hp : tp v = some p) : ∀ i, i ∈ aX fp 8 (aRep (tc u) (aUpT 8 u z) 8 t) ↔ (i ∈ aX fp 8 t ∧ i ≠ p) := by
  obtain ⟨ok, n1, n2, n3, n4⟩ := id hG
  obtain ⟨il, ir⟩ := aIn_lr 8 t W H ok hu e
  have hz : aIn z 8 t := by
    rcases hs with ⟨-, h2⟩ | ⟨-, h2⟩
    · exact h2 ▸ ir
    · exact h2 ▸ il
  obtain ⟨jz, wz, hz2, hjz, oz, -⟩ := aIn_ok 8 t W H ok hz
  have hf := aUp_fits hs e (aOk_le oz hjz.2)
  have vn : ¬ tp v = none := by rw [hp]; exact fun y => by cases y
  have xvp : aX fp 8 v = [p] := (aX_n vn).trans (fp_y hp)
  obtain ⟨s1, s2⟩ := aSib_x ok hu e hs fp
  have ndu := aIn_nd 8 t W H ok n3 hu
  intro i
  rw [(aG_lev (aG_rm hG hu e hs)).2, aRep_iff hf 8 t W H ok n1 hu i, aUp_x ok hz fp_f, aX_iff (f := fp) 8 t W H ok n1 hu i, s1 i, fp_n e, xvp]
  constructor
  · rintro (y | y)
    · refine ⟨Or.inl y, fun ei => ?_⟩
      have d := aXo_dis 8 t W H ok n3 hu i y
      exact d ((s1 i).mpr (Or.inr (Or.inl (by rw [xvp, ei]; exact List.mem_cons_self))))
    · refine ⟨Or.inr (Or.inr (Or.inr y)), fun ei => ?_⟩
      have d := (s2 ndu i y).1
      rw [xvp, ei] at d
      exact d List.mem_cons_self
  · rintro ⟨y | y | y | y, ne⟩
    · exact Or.inl y
    · cases y
    · exact absurd (List.mem_singleton.mp y) ne
    · exact Or.inr y
/-- a pane that may be closed has a split above it, and something is left -/
theorem cl_ex {p : Nat} (hG : aG 8 t W H) (hp : p ∈ aX fp 8 t) (e : tp t = none) : ∃ u v z r, aIn u 8 t ∧ tp u = none ∧ aSib u v z ∧ tp v = some p ∧ lsU (aRep (tc u) (aUpT 8 u z) 8 t) r := by
  obtain ⟨v, hv, ev⟩ := aP_in 8 t hp
  rcases aUp 8 t hv with y | ⟨u, hu, eu, hs⟩
  · rw [y, e] at ev; cases ev
  · have ex : ∃ z, aSib u v z := by
      rcases hs with hs | hs
      · exact ⟨aR u, Or.inl ⟨hs, rfl⟩⟩
      · exact ⟨aL u, Or.inr ⟨hs, rfl⟩⟩
    obtain ⟨z, hz⟩ := ex
    have hz8 : aIn z 8 t := by
      obtain ⟨il, ir⟩ := aIn_lr 8 t W H hG.1 hu eu
      rcases hz with ⟨-, h2⟩ | ⟨-, h2⟩
      · exact h2 ▸ ir
      · exact h2 ▸ il
    obtain ⟨jz, wz, hz2, hjz, oz, -⟩ := aIn_ok 8 t W H hG.1 hz8
    have l1 := (aOk_p 8 z wz hz2 (aOk_le oz hjz.2)).1
    obtain ⟨a, ha⟩ := List.exists_mem_of_length_pos (show 0 < (aX fp 8 z).length by omega)
    have d := ((aSib_x hG.1 hu eu hz fp).2 (aIn_nd 8 t W H hG.1 hG.2.2.2.1 hu) a ha).1
    have vn : ¬ tp v = none := by rw [ev]; exact fun y => by cases y
    rw [(aX_n vn).trans (fp_y ev)] at d
    have hat := aIn_x hG.1 hz8 (Nat.le_refl 8) ha
    obtain ⟨r, hr⟩ := lsU_ex (hG.2.2.2.2 a hat) ((aX_rm hG hu eu hz ev a).mpr ⟨hat, fun y => d (y ▸ List.mem_cons_self)⟩)
    exact ⟨u, v, z, r, hu, eu, hz, ev, hr⟩
theorem rI_lsU {u v z : aT} {p r : Nat} (hG : aG 8 t W H) (hI : rI t s) (hu : aIn u 8 t) (e : tp u = none) (hs : aSib u v z) (hp : tp v = some p) (hr : lsU (aRep (tc u) (aUpT 8 u z) 8 t) r) : r < 8 ∧ (∀ i, i < r → va_up (s.2 16) p 0 i = 0) ∧ va_up (s.2 16) p 0 r = 1 := by
  obtain ⟨r8, r1, r2⟩ := hr
  have X := aX_rm hG hu e hs hp
  refine ⟨r8, fun i hi => ?_, ?_⟩
  · by_cases ei : i = p
    · rw [ei, va_up_self]
    · rw [va_up_ne _ _ ei, hI.2.2.2.1 i (by omega), if_neg (fun y => r2 i hi ((X i).mpr ⟨y, ei⟩))]
  · obtain ⟨a, b⟩ := (X r).mp r1
    rw [va_up_ne _ _ b]
    exact (rI_used hI r8).mpr a
theorem next_eq {fo : Int} (hfo : 0 ≤ fo ∧ fo < 8) (hG : aG 8 t W H) (hI : cI W H 8 t x) (hR : rI t s) : lyNext (hLv x) fo 7 1 = mNx (s.2 16) fo 8 fo := by
  have e : ∀ (c a b : Int), (0 ≤ c ∧ c < 8) → (if lyHas (hLv x) c = 1 then a else b) = (if s.2 16 c.toNat = 0 then b else a) := fun c a b hc => by
    have h1 := cI_has (p := c) hG hI
    have h2 := rI_used (p := c.toNat) hR (by omega)
    have h3 := rI_us hR c.toNat (by omega)
    by_cases z : pIn t c
    · rw [if_pos (h1.mpr z), if_neg]
      have := h2.mpr z.2
      omega
    · rw [if_neg (fun y => z (h1.mp y)), if_pos]
      have h4 : ¬ s.2 16 c.toNat = 1 := fun y => z ⟨hc, h2.mp y⟩
      omega
  have e8 : (if s.2 16 ((fo + 8) % 8).toNat = 0 then fo else (fo + 8) % 8) = fo := by split <;> omega
  show (if lyHas (hLv x) ((fo + 1) % 8) = 1 then (fo + 1) % 8 else (if lyHas (hLv x) ((fo + 2) % 8) = 1 then (fo + 2) % 8 else (if lyHas (hLv x) ((fo + 3) % 8) = 1 then (fo + 3) % 8 else (if lyHas (hLv x) ((fo + 4) % 8) = 1 then (fo + 4) % 8 else (if lyHas (hLv x) ((fo + 5) % 8) = 1 then (fo + 5) % 8 else (if lyHas (hLv x) ((fo + 6) % 8) = 1 then (fo + 6) % 8 else (if lyHas (hLv x) ((fo + 7) % 8) = 1 then (fo + 7) % 8 else fo))))))) = (if s.2 16 ((fo + 1) % 8).toNat = 0 then (if s.2 16 ((fo + 2) % 8).toNat = 0 then (if s.2 16 ((fo + 3) % 8).toNat = 0 then (if s.2 16 ((fo + 4) % 8).toNat = 0 then (if s.2 16 ((fo + 5) % 8).toNat = 0 then (if s.2 16 ((fo + 6) % 8).toNat = 0 then (if s.2 16 ((fo + 7) % 8).toNat = 0 then (if s.2 16 ((fo + 8) % 8).toNat = 0 then fo else (fo + 8) % 8) else (fo + 7) % 8) else (fo + 6) % 8) else (fo + 5) % 8) else (fo + 4) % 8) else (fo + 3) % 8) else (fo + 2) % 8) else (fo + 1) % 8)
  rw [e8, e _ _ _ (by omega), e _ _ _ (by omega), e _ _ _ (by omega), e _ _ _ (by omega), e _ _ _ (by omega), e _ _ _ (by omega), e _ _ _ (by omega)]
end CR
