/-! ===== the reference's nodes as a tree; lay ===== -/
/-- how the nodes hang together, and the splits' sizes -/
def rT (s : mS) : Nat → aT → Prop
  | 0, _ => False
  | k + 1, t => tm t < 16 ∧ (∀ p, tp t = some p → p < 8 ∧ s.2 4 (tm t) = (p : Int)) ∧ (tp t = none → (s.2 4 (tm t) = -1 ∧ s.2 5 (tm t) = (tm (aL t) : Int) ∧ s.2 6 (tm t) = (tm (aR t) : Int) ∧ s.2 8 (tm t) = td t ∧ s.2 9 (tm t) = ta t ∧ s.2 12 (tm t) = tw t ∧ s.2 13 (tm t) = th t) ∧ rT s k (aL t) ∧ rT s k (aR t))
/-- their areas -/
def rA (s : mS) : Nat → aT → Int → Int → Prop
  | 0, _, _, _ => False
  | k + 1, t, x, y => (s.2 10 (tm t) = x ∧ s.2 11 (tm t) = y ∧ s.2 12 (tm t) = tw t ∧ s.2 13 (tm t) = th t) ∧ (∀ p, tp t = some p → s.2 18 p = tw t ∧ s.2 19 p = th t) ∧ (tp t = none → s.2 9 (tm t) = ta t ∧ rA s k (aL t) x y ∧ rA s k (aR t) (sx (td t) (ta t) x) (sy (td t) (ta t) y))
theorem rT_root {s : mS} {k : Nat} {t : aT} (z : rT s k t) : tm t < 16 := by
  cases k with
  | zero => exact z.elim
  | succ k => exact z.1
theorem aX_m {k : Nat} {t : aT} (hk : 0 < k) : tm t ∈ aX fm k t := by
  obtain ⟨j, rfl⟩ : ∃ j, k = j + 1 := ⟨k - 1, by omega⟩
  exact List.mem_append_left _ List.mem_cons_self
theorem aX_lm {k : Nat} {t : aT} (e : tp t = none) : aX fm (k + 1) t = tm t :: (aX fm k (aL t) ++ aX fm k (aR t)) := aX_l e
theorem aX_lp {k : Nat} {t : aT} (e : tp t = none) : aX fp (k + 1) t = aX fp k (aL t) ++ aX fp k (aR t) := by
  rw [aX_l e, fp_n e, List.nil_append]
theorem rT_of {s s' : mS} (h4 : s'.2 4 = s.2 4) (h5 : s'.2 5 = s.2 5) (h6 : s'.2 6 = s.2 6) (h8 : s'.2 8 = s.2 8) : ∀ (k : Nat) (t : aT), rT s k t → (∀ i, i ∈ aX fm k t → s'.2 9 i = s.2 9 i ∧ s'.2 12 i = s.2 12 i ∧ s'.2 13 i = s.2 13 i) → rT s' k t
  | 0, _, z, _ => z.elim
  | k + 1, t, z, e => by
    refine ⟨z.1, by rw [h4]; exact z.2.1, fun en => ?_⟩
    obtain ⟨a, b, c⟩ := z.2.2 en
    rw [aX_lm en] at e
    obtain ⟨e9, e12, e13⟩ := e (tm t) List.mem_cons_self
    rw [h4, h5, h6, h8, e9, e12, e13]
    exact ⟨a, rT_of h4 h5 h6 h8 k _ b (fun i hi => e i (List.mem_cons_of_mem _ (List.mem_append_left _ hi))), rT_of h4 h5 h6 h8 k _ c (fun i hi => e i (List.mem_cons_of_mem _ (List.mem_append_right _ hi)))⟩
theorem rA_of {s s' : mS} : ∀ (k : Nat) (t : aT) (x y : Int), rA s k t x y → (∀ i, i ∈ aX fm k t → ∀ j, 9 ≤ j → j ≤ 13 → s'.2 j i = s.2 j i) → (∀ p, p ∈ aX fp k t → s'.2 18 p = s.2 18 p ∧ s'.2 19 p = s.2 19 p) → rA s' k t x y
  | 0, _, _, _, z, _, _ => z.elim
  | k + 1, t, x, y, z, e, ep => by
    have hm := e (tm t) (aX_m (by omega))
    refine ⟨by rw [hm 10 (by decide) (by decide), hm 11 (by decide) (by decide), hm 12 (by decide) (by decide), hm 13 (by decide) (by decide)]; exact z.1, fun p hp => ?_, fun en => ?_⟩
    · have q := ep p (by rw [aX_n (by rw [hp]; exact fun y => by cases y), fp_y hp]; exact List.mem_cons_self)
      rw [q.1, q.2]; exact z.2.1 p hp
    · obtain ⟨a, b, c⟩ := z.2.2 en
      rw [aX_lm en] at e
      rw [aX_lp en] at ep
      rw [hm 9 (by decide) (by decide)]
      exact ⟨a, rA_of k _ _ _ b (fun i hi => e i (List.mem_cons_of_mem _ (List.mem_append_left _ hi))) (fun i hi => ep i (List.mem_append_left _ hi)), rA_of k _ _ _ c (fun i hi => e i (List.mem_cons_of_mem _ (List.mem_append_right _ hi))) (fun i hi => ep i (List.mem_append_right _ hi))⟩
/-- what lay may change: the numbers of some nodes, of some panes, the heap of what is to do from a place on -/
def lyF (Ms Ps : List Nat) (M1 : Nat) (s s' : mS) : Prop :=
  s'.1 = s.1 ∧ (∀ j, j ≠ 9 → j ≠ 10 → j ≠ 11 → j ≠ 12 → j ≠ 13 → j ≠ 15 → j ≠ 59 → j ≠ 60 → (j < 18 ∨ 45 < j) → s'.2 j = s.2 j) ∧ (∀ j, ((9 ≤ j ∧ j ≤ 13) ∨ j = 59 ∨ j = 60) → ∀ i, i ∉ Ms → s'.2 j i = s.2 j i) ∧ (∀ i, i < M1 → s'.2 15 i = s.2 15 i) ∧ (∀ j, 18 ≤ j → j ≤ 45 → j ≠ 20 → j ≠ 21 → j ≠ 36 → j ≠ 40 → j ≠ 41 → ∀ i, i ∉ Ps → s'.2 j i = s.2 j i) ∧ (∀ p, p ∉ Ps → ∀ i, 4 * p ≤ i → i < 4 * p + 4 → s'.2 36 i = s.2 36 i) ∧ m45 s s'
theorem lyF_tr {Ms Ps : List Nat} {M1 : Nat} {s s1 s2 : mS} (a : lyF Ms Ps M1 s s1) (b : lyF Ms Ps M1 s1 s2) : lyF Ms Ps M1 s s2 :=
  ⟨b.1.trans a.1, fun j h1 h2 h3 h4 h5 h6 h7 h8 h9 => (b.2.1 j h1 h2 h3 h4 h5 h6 h7 h8 h9).trans (a.2.1 j h1 h2 h3 h4 h5 h6 h7 h8 h9), fun j hj i hi => (b.2.2.1 j hj i hi).trans (a.2.2.1 j hj i hi), fun i hi => (b.2.2.2.1 i hi).trans (a.2.2.2.1 i hi), fun j h1 h2 h3 h4 h5 h6 h7 i hi => (b.2.2.2.2.1 j h1 h2 h3 h4 h5 h6 h7 i hi).trans (a.2.2.2.2.1 j h1 h2 h3 h4 h5 h6 h7 i hi), fun p hp i h1 h2 => (b.2.2.2.2.2.1 p hp i h1 h2).trans (a.2.2.2.2.2.1 p hp i h1 h2), m45_tr a.2.2.2.2.2.2 b.2.2.2.2.2.2⟩
theorem lyF_mo {Ms Ps Ms' Ps' : List Nat} {M1 M2 : Nat} {s s1 : mS} (a : lyF Ms Ps M1 s s1) (h1 : ∀ i, i ∈ Ms → i ∈ Ms') (h2 : ∀ i, i ∈ Ps → i ∈ Ps') (h3 : M2 ≤ M1) : lyF Ms' Ps' M2 s s1 :=
  ⟨a.1, a.2.1, fun j hj i hi => a.2.2.1 j hj i (fun z => hi (h1 i z)), fun i hi => a.2.2.2.1 i (by omega), fun j k1 k2 k3 k4 k5 k6 k7 i hi => a.2.2.2.2.1 j k1 k2 k3 k4 k5 k6 k7 i (fun z => hi (h2 i z)), fun p hp => a.2.2.2.2.2.1 p (fun z => hp (h2 p z)), a.2.2.2.2.2.2⟩
theorem lyF_pk {Ms Ps : List Nat} {M1 p : Nat} {s s1 : mS} (a : lyF Ms Ps M1 s s1) (hk : mPk s p) (hp : p ∉ Ps) : mPk s1 p := by
  have e : ∀ j, 18 ≤ j → j ≤ 45 → j ≠ 20 → j ≠ 21 → j ≠ 36 → j ≠ 40 → j ≠ 41 → s1.2 j p = s.2 j p := fun j h1 h2 h3 h4 h5 h6 h7 => a.2.2.2.2.1 j h1 h2 h3 h4 h5 h6 h7 p hp
  exact mPk_eq hk (e 18 (by decide) (by decide) (by decide) (by decide) (by decide) (by decide) (by decide)) (e 19 (by decide) (by decide) (by decide) (by decide) (by decide) (by decide) (by decide)) (e 22 (by decide) (by decide) (by decide) (by decide) (by decide) (by decide) (by decide)) (e 23 (by decide) (by decide) (by decide) (by decide) (by decide) (by decide) (by decide)) (e 24 (by decide) (by decide) (by decide) (by decide) (by decide) (by decide) (by decide)) (e 26 (by decide) (by decide) (by decide) (by decide) (by decide) (by decide) (by decide)) (e 27 (by decide) (by decide) (by decide) (by decide) (by decide) (by decide) (by decide)) (e 29 (by decide) (by decide) (by decide) (by decide) (by decide) (by decide) (by decide)) (e 30 (by decide) (by decide) (by decide) (by decide) (by decide) (by decide) (by decide)) (e 31 (by decide) (by decide) (by decide) (by decide) (by decide) (by decide) (by decide)) (e 32 (by decide) (by decide) (by decide) (by decide) (by decide) (by decide) (by decide)) (e 33 (by decide) (by decide) (by decide) (by decide) (by decide) (by decide) (by decide)) (e 34 (by decide) (by decide) (by decide) (by decide) (by decide) (by decide) (by decide)) (e 35 (by decide) (by decide) (by decide) (by decide) (by decide) (by decide) (by decide)) (e 37 (by decide) (by decide) (by decide) (by decide) (by decide) (by decide) (by decide)) (e 38 (by decide) (by decide) (by decide) (by decide) (by decide) (by decide) (by decide)) (e 39 (by decide) (by decide) (by decide) (by decide) (by decide) (by decide) (by decide)) (e 42 (by decide) (by decide) (by decide) (by decide) (by decide) (by decide) (by decide)) (e 43 (by decide) (by decide) (by decide) (by decide) (by decide) (by decide) (by decide)) (e 44 (by decide) (by decide) (by decide) (by decide) (by decide) (by decide) (by decide)) (e 45 (by decide) (by decide) (by decide) (by decide) (by decide) (by decide) (by decide)) (fun j hj => a.2.2.2.2.2.1 p hp _ (by omega) (by omega))
theorem lyF_pu {Ms Ps : List Nat} {M1 p : Nat} {s s1 : mS} (a : lyF Ms Ps M1 s s1) (hk : mPu s p) (hp : p ∉ Ps) : mPu s1 p := by
  have e : ∀ j, 18 ≤ j → j ≤ 45 → j ≠ 20 → j ≠ 21 → j ≠ 36 → j ≠ 40 → j ≠ 41 → s1.2 j p = s.2 j p := fun j h1 h2 h3 h4 h5 h6 h7 => a.2.2.2.2.1 j h1 h2 h3 h4 h5 h6 h7 p hp
  obtain ⟨ko, kwa, kin, kwr, khi, krd, knu, kgi, kas, kfr, kra⟩ := hk
  unfold mPu
  rw [e 22 (by decide) (by decide) (by decide) (by decide) (by decide) (by decide) (by decide), e 31 (by decide) (by decide) (by decide) (by decide) (by decide) (by decide) (by decide), e 32 (by decide) (by decide) (by decide) (by decide) (by decide) (by decide) (by decide), e 33 (by decide) (by decide) (by decide) (by decide) (by decide) (by decide) (by decide), e 34 (by decide) (by decide) (by decide) (by decide) (by decide) (by decide) (by decide), e 35 (by decide) (by decide) (by decide) (by decide) (by decide) (by decide) (by decide), e 37 (by decide) (by decide) (by decide) (by decide) (by decide) (by decide) (by decide), e 38 (by decide) (by decide) (by decide) (by decide) (by decide) (by decide) (by decide), e 39 (by decide) (by decide) (by decide) (by decide) (by decide) (by decide) (by decide), e 42 (by decide) (by decide) (by decide) (by decide) (by decide) (by decide) (by decide)]
  exact ⟨ko, kwa, kin, kwr, khi, krd, fun j hj => by rw [a.2.2.2.2.2.1 p hp _ (by omega) (by omega)]; exact knu j hj, kgi, kas, kfr, kra⟩
set_option maxHeartbeats 4000000 in
set_option maxRecDepth 100000 in
/-- lay's loop over what hangs at the last node of what is to do -/
theorem lN_tree {E : pw_E} (htr : E.1.stackTraces = false) {Kk : pw_K} {h0 : pz_H} {n B : Nat} {b1 b2 b3 b4 b5 : Int} : ∀ (k : Nat) (t : aT) (w h x y u q M : Int) (s : mS) (h1 : pz_H) (l7 l8 l9 l10 l11 l12 : Option Value), aOk k t w h → (aX fm k t).Nodup → (aX fp k t).Nodup → rT s k t → (∀ p, p ∈ aX fp k t → mPk s p) → 1 ≤ M → M + k ≤ 16 → s.2 15 (M + (-1)).toNat = (tm t : Int) → s.2 10 (tm t) = x → s.2 11 (tm t) = y → s.2 59 (tm t) = u → s.2 60 (tm t) = q → w ≤ u → u ≤ 40 → h ≤ q → q ≤ 16 → mAt B s h1 → mFr B h0 h1 →
    (∀ (s' : mS) (h' : pz_H) (l7 l8 l9 l10 l11 l12 : Option Value), mAt B s' h' → mFr B h0 h' → lyF (aX fm k t) (aX fp k t) (M + (-1)).toNat s s' → rA s' k (aPl k t w h u q) x y → (∀ p, p ∈ aX fp k t → mPk s' p) → pw E YX10_lay (rmD 2 0 0) Kk 0 0 40 [some (.ref B), some (.int (zI b1)), some (.int (zI b2)), some (.int (zI b3)), some (.int (zI b4)), some (.int (zI b5)), some (.int (zI (M + (-1)))), l7, l8, l9, l10, l11, l12] [] h' n) → pw E YX10_lay (rmD 2 0 0) Kk 0 0 40 [some (.ref B), some (.int (zI b1)), some (.int (zI b2)), some (.int (zI b3)), some (.int (zI b4)), some (.int (zI b5)), some (.int (zI (M))), l7, l8, l9, l10, l11, l12] [] h1 n
  | 0, _, _, _, _, _, _, _, _, _, _, _, _, _, _, _, _, z, _, _, _, _, _, _, _, _, _, _, _, _, _, _, _, _, _, _ => z.elim
  | k + 1, t, w, h, x, y, u, q, M, s, h1, l7, l8, l9, l10, l11, l12, ok, ndm, ndp, hT, hpk, hM, hMk, e15, e10, e11, e59, e60, hwu, hu, hhq, hq, hA, hF, kk => by
    have szt := aOk_sz ok
    have bt := aOk_1 ok
    by_cases e : tp t = none
    · obtain ⟨⟨f4, f5, f6, f8, f9, f12, f13⟩, tl, tr⟩ := hT.2.2 e
      rw [szt.1] at f12
      rw [szt.2] at f13
      have hk0 : 0 < k := by
        cases k with
        | zero => exact tl.elim
        | succ k => omega
      have ml := rT_root tl
      have mr := rT_root tr
      have eml : aX fm (k + 1) t = tm t :: (aX fm k (aL t) ++ aX fm k (aR t)) := aX_lm e
      have epl : aX fp (k + 1) t = aX fp k (aL t) ++ aX fp k (aR t) := aX_lp e
      rw [eml] at ndm
      rw [epl] at ndp hpk
      obtain ⟨nm, nd2⟩ := List.nodup_cons.mp ndm
      obtain ⟨nl, nr, nlr⟩ := List.nodup_append.mp nd2
      obtain ⟨pl, pr, plr⟩ := List.nodup_append.mp ndp
      have mnl : tm t ∉ aX fm k (aL t) := fun z => nm (List.mem_append_left _ z)
      have mnr : tm t ∉ aX fm k (aR t) := fun z => nm (List.mem_append_right _ z)
      have il : tm (aL t) ∈ aX fm k (aL t) := aX_m hk0
      have ir : tm (aR t) ∈ aX fm k (aR t) := aX_m hk0
      have lnr : tm (aL t) ∉ aX fm k (aR t) := fun z => nlr _ il _ z rfl
      have ne1 : tm t ≠ tm (aL t) := fun z => mnl (z ▸ il)
      have ne2 : tm t ≠ tm (aR t) := fun z => mnr (z ▸ ir)
      have ne3 : tm (aL t) ≠ tm (aR t) := fun z => lnr (z ▸ ir)
      by_cases d : td t = 0
      · obtain ⟨o1, o2⟩ := aOk_0 ok e d
        have c1 := aOk_1 o1
        have c2 := aOk_1 o2
        have kb := aKept_b (lx := ta t) (ly := w - 1 - ta t) (len := w) (now := u) c1.1 c2.1 (by omega) hwu
        unfold aKept at kb
        refine lN_sp0 (m := (tm t : Int)) (f := (tm (aL t) : Int)) (g := (tm (aR t) : Int)) (a0 := ta t) (w0 := w) (h0 := h) (x := x) (y := y) (u := u) (q := q) htr hA hF ⟨hM, by omega⟩ ⟨by omega, by have := hT.1; omega⟩ ⟨by omega, by omega⟩ ⟨by omega, by omega⟩ (by omega) (by omega) (by omega) e15 f4 f5 f6 (f8.trans d) f9 e10 e11 f12 f13 e59 e60 ⟨by omega, hu⟩ ⟨by omega, hq⟩ ⟨by omega, by omega⟩ ⟨by omega, by omega⟩ ⟨by omega, by omega⟩ (fun a s1 h2 hA1 hF1 ha v1 fo g9 g10 g11 g12 g13 g15 g59 g60 => ?_)
        have ea : aKept w u (ta t) = a := ha.2.2.symm
        rw [← ha.2.2] at kb
        have w9 : ∀ i, i ≠ tm t → s1.2 9 i = s.2 9 i ∧ s1.2 12 i = s.2 12 i ∧ s1.2 13 i = s.2 13 i := fun i hi => by
          rw [g9, g12, g13]
          exact ⟨va_up_ne _ _ hi, va_up_ne _ _ hi, va_up_ne _ _ hi⟩
        have fo4 := fo 4 (by decide) (by decide) (by decide) (by decide) (by decide) (by decide) (by decide) (by decide)
        have fo5 := fo 5 (by decide) (by decide) (by decide) (by decide) (by decide) (by decide) (by decide) (by decide)
        have fo6 := fo 6 (by decide) (by decide) (by decide) (by decide) (by decide) (by decide) (by decide) (by decide)
        have fo8 := fo 8 (by decide) (by decide) (by decide) (by decide) (by decide) (by decide) (by decide) (by decide)
        have F1 : lyF [tm t, tm (aL t), tm (aR t)] [] (M + (-1)).toNat s s1 := by
          refine ⟨v1, fun j a1 a2 a3 a4 a5 a6 a7 a8 _ => fo j a1 a2 a3 a4 a5 a6 a7 a8, fun j hj i hi => ?_, fun i hi => ?_, fun j a1 a2 _ _ _ _ _ i _ => by rw [fo j (by omega) (by omega) (by omega) (by omega) (by omega) (by omega) (by omega) (by omega)], fun p _ i _ _ => by rw [fo 36 (by decide) (by decide) (by decide) (by decide) (by decide) (by decide) (by decide) (by decide)], m45_e (fo 45 (by decide) (by decide) (by decide) (by decide) (by decide) (by decide) (by decide) (by decide))⟩
          · have hi1 : i ≠ tm t := fun z => hi (z ▸ List.mem_cons_self)
            have hi2 : i ≠ tm (aL t) := fun z => hi (z ▸ List.mem_cons_of_mem _ List.mem_cons_self)
            have hi3 : i ≠ tm (aR t) := fun z => hi (z ▸ List.mem_cons_of_mem _ (List.mem_cons_of_mem _ List.mem_cons_self))
            rcases (show j = 9 ∨ j = 10 ∨ j = 11 ∨ j = 12 ∨ j = 13 ∨ j = 59 ∨ j = 60 by omega) with rfl | rfl | rfl | rfl | rfl | rfl | rfl
            · exact (w9 i hi1).1
            · rw [g10]; exact (va_up_ne _ _ hi3).trans (va_up_ne _ _ hi2)
            · rw [g11]; exact (va_up_ne _ _ hi3).trans (va_up_ne _ _ hi2)
            · exact (w9 i hi1).2.1
            · exact (w9 i hi1).2.2
            · rw [g59]; exact (va_up_ne _ _ hi3).trans (va_up_ne _ _ hi2)
            · rw [g60]; exact (va_up_ne _ _ hi3).trans (va_up_ne _ _ hi2)
          · rw [g15, va_up_ne _ _ (by omega), va_up_ne _ _ (by omega)]
        have pk1 : ∀ p, p ∈ aX fp k (aL t) ++ aX fp k (aR t) → mPk s1 p := fun p hp => lyF_pk F1 (hpk p hp) (fun z => by cases z)
        have tr1 : rT s1 k (aR t) := rT_of fo4 fo5 fo6 fo8 k _ tr (fun i hi => w9 i (fun z => mnr (z ▸ hi)))
        refine lN_tree htr k (aR t) (w - 1 - ta t) h (x + a + 1) y (u - 1 - a) q ((M + (-1)) + (2)) s1 h2 _ _ _ _ _ _ o2 nr pr tr1 (fun p hp => pk1 p (List.mem_append_right _ hp)) (by omega) (by omega) ?_ ?_ ?_ ?_ ?_ (by omega) (by omega) hhq hq hA1 hF1 (fun s2 h3 m7 m8 m9 m10 m11 m12 hA2 hF2 F2 rA2 pk2 => ?_)
        · rw [g15, show (M + (-1) + 2 + (-1)).toNat = (M + (-1) + 1).toNat by omega]; exact va_up_self _ _ _
        · rw [g10]; exact va_up_self _ _ _
        · rw [g11]; exact va_up_self _ _ _
        · rw [g59]; exact va_up_self _ _ _
        · rw [g60]; exact va_up_self _ _ _
        have o4 := F2.2.1 4 (by decide) (by decide) (by decide) (by decide) (by decide) (by decide) (by decide) (by decide) (by decide)
        have o5 := F2.2.1 5 (by decide) (by decide) (by decide) (by decide) (by decide) (by decide) (by decide) (by decide) (by decide)
        have o6 := F2.2.1 6 (by decide) (by decide) (by decide) (by decide) (by decide) (by decide) (by decide) (by decide) (by decide)
        have o8 := F2.2.1 8 (by decide) (by decide) (by decide) (by decide) (by decide) (by decide) (by decide) (by decide) (by decide)
        have tl2 : rT s2 k (aL t) := rT_of (o4.trans fo4) (o5.trans fo5) (o6.trans fo6) (o8.trans fo8) k _ tl (fun i hi => by
          have hir : i ∉ aX fm k (aR t) := fun z => nlr _ hi _ z rfl
          obtain ⟨z1, z2, z3⟩ := w9 i (fun z => mnl (z ▸ hi))
          exact ⟨(F2.2.2.1 9 (by omega) i hir).trans z1, (F2.2.2.1 12 (by omega) i hir).trans z2, (F2.2.2.1 13 (by omega) i hir).trans z3⟩)
        refine lN_tree htr k (aL t) (ta t) h x y a q ((M + (-1)) + (2) + (-1)) s2 h3 _ _ _ _ _ _ o1 nl pl tl2 (fun p hp => lyF_pk F2 (pk1 p (List.mem_append_left _ hp)) (fun z => plr _ hp _ z rfl)) (by omega) (by omega) ?_ ?_ ?_ ?_ ?_ (by omega) (by omega) hhq hq hA2 hF2 (fun s3 h4 m7 m8 m9 m10 m11 m12 hA3 hF3 F3 rA3 pk3 => ?_)
        · rw [F2.2.2.2.1 _ (by omega), g15, show (M + (-1) + 2 + (-1) + (-1)).toNat = (M + (-1)).toNat by omega, va_up_ne _ _ (by omega)]; exact va_up_self _ _ _
        · rw [F2.2.2.1 10 (by omega) _ lnr, g10]; exact (va_up_ne _ _ (show tm (aL t) ≠ tm (aR t) from ne3)).trans (va_up_self _ _ _)
        · rw [F2.2.2.1 11 (by omega) _ lnr, g11]; exact (va_up_ne _ _ (show tm (aL t) ≠ tm (aR t) from ne3)).trans (va_up_self _ _ _)
        · rw [F2.2.2.1 59 (by omega) _ lnr, g59]; exact (va_up_ne _ _ (show tm (aL t) ≠ tm (aR t) from ne3)).trans (va_up_self _ _ _)
        · rw [F2.2.2.1 60 (by omega) _ lnr, g60]; exact (va_up_ne _ _ (show tm (aL t) ≠ tm (aR t) from ne3)).trans (va_up_self _ _ _)
        have F13 : lyF (aX fm (k + 1) t) (aX fp (k + 1) t) (M + (-1)).toNat s s3 := by
          rw [eml, epl]
          refine lyF_tr (lyF_tr (lyF_mo F1 (fun i hi => ?_) (fun i hi => by cases hi) (Nat.le_refl _)) (lyF_mo F2 (fun i hi => List.mem_cons_of_mem _ (List.mem_append_right _ hi)) (fun i hi => List.mem_append_right _ hi) (by omega))) (lyF_mo F3 (fun i hi => List.mem_cons_of_mem _ (List.mem_append_left _ hi)) (fun i hi => List.mem_append_left _ hi) (by omega))
          rcases List.mem_cons.mp hi with z | hi
          · rw [z]; exact List.mem_cons_self
          · rcases List.mem_cons.mp hi with z | hi
            · rw [z]; exact List.mem_cons_of_mem _ (List.mem_append_left _ il)
            · rw [List.mem_singleton.mp hi]; exact List.mem_cons_of_mem _ (List.mem_append_right _ ir)
        have rt3 : ∀ j, 9 ≤ j → j ≤ 13 → s3.2 j (tm t) = s1.2 j (tm t) := fun j a1 a2 => (F3.2.2.1 j (by omega) _ mnl).trans (F2.2.2.1 j (by omega) _ mnr)
        rw [show M + (-1) + 2 + (-1) + (-1) = M + (-1) by omega]
        refine kk s3 h4 _ _ _ _ _ _ hA3 hF3 F13 ?_ ?_
        · rw [aPl_0 e d, ea]
          refine ⟨⟨?_, ?_, ?_, ?_⟩, (fun p hp => by cases hp), fun _ => ⟨?_, ?_, ?_⟩⟩
          · show s3.2 10 (tm t) = x
            rw [rt3 10 (by decide) (by decide), g10]; exact ((va_up_ne _ _ (show tm t ≠ tm (aR t) from ne2)).trans (va_up_ne _ _ (show tm t ≠ tm (aL t) from ne1))).trans e10
          · show s3.2 11 (tm t) = y
            rw [rt3 11 (by decide) (by decide), g11]; exact ((va_up_ne _ _ (show tm t ≠ tm (aR t) from ne2)).trans (va_up_ne _ _ (show tm t ≠ tm (aL t) from ne1))).trans e11
          · show s3.2 12 (tm t) = u
            rw [rt3 12 (by decide) (by decide), g12]; exact va_up_self _ _ _
          · show s3.2 13 (tm t) = q
            rw [rt3 13 (by decide) (by decide), g13]; exact va_up_self _ _ _
          · show s3.2 9 (tm t) = a
            rw [rt3 9 (by decide) (by decide), g9]; exact va_up_self _ _ _
          · exact rA3
          · have z := rA_of k _ _ _ rA2 (s' := s3) (fun i hi j a1 a2 => F3.2.2.1 j (by omega) i (fun z => nlr _ z _ (by rw [aPl_x fm_f] at hi; exact hi) rfl)) (fun p hp => by
              have hp2 : p ∉ aX fp k (aL t) := fun z => plr _ z _ (by rw [aPl_x fp_f] at hp; exact hp) rfl
              exact ⟨F3.2.2.2.2.1 18 (by decide) (by decide) (by decide) (by decide) (by decide) (by decide) (by decide) p hp2, F3.2.2.2.2.1 19 (by decide) (by decide) (by decide) (by decide) (by decide) (by decide) (by decide) p hp2⟩)
            show rA s3 k _ (sx (0) a x) (sy (0) a y)
            unfold sx sy
            rw [if_pos rfl, if_pos rfl]
            exact z
        · rw [epl]
          intro p hp
          rcases List.mem_append.mp hp with z | z
          · exact pk3 p z
          · exact lyF_pk F3 (pk2 p z) (fun z2 => plr _ z2 _ z rfl)
      · obtain ⟨d1, o1, o2⟩ := aOk_d ok e d
        have c1 := aOk_1 o1
        have c2 := aOk_1 o2
        have kb := aKept_b (lx := ta t) (ly := h - 1 - ta t) (len := h) (now := q) c1.2 c2.2 (by omega) hhq
        unfold aKept at kb
        refine lN_sp1 (m := (tm t : Int)) (f := (tm (aL t) : Int)) (g := (tm (aR t) : Int)) (a0 := ta t) (w0 := w) (h0 := h) (x := x) (y := y) (u := u) (q := q) htr hA hF ⟨hM, by omega⟩ ⟨by omega, by have := hT.1; omega⟩ ⟨by omega, by omega⟩ ⟨by omega, by omega⟩ (by omega) (by omega) (by omega) e15 f4 f5 f6 (f8.trans d1) f9 e10 e11 f12 f13 e59 e60 ⟨by omega, hu⟩ ⟨by omega, hq⟩ ⟨by omega, by omega⟩ ⟨by omega, by omega⟩ ⟨by omega, by omega⟩ (fun a s1 h2 hA1 hF1 ha v1 fo g9 g10 g11 g12 g13 g15 g59 g60 => ?_)
        have ea : aKept h q (ta t) = a := ha.2.2.symm
        rw [← ha.2.2] at kb
        have w9 : ∀ i, i ≠ tm t → s1.2 9 i = s.2 9 i ∧ s1.2 12 i = s.2 12 i ∧ s1.2 13 i = s.2 13 i := fun i hi => by
          rw [g9, g12, g13]
          exact ⟨va_up_ne _ _ hi, va_up_ne _ _ hi, va_up_ne _ _ hi⟩
        have fo4 := fo 4 (by decide) (by decide) (by decide) (by decide) (by decide) (by decide) (by decide) (by decide)
        have fo5 := fo 5 (by decide) (by decide) (by decide) (by decide) (by decide) (by decide) (by decide) (by decide)
        have fo6 := fo 6 (by decide) (by decide) (by decide) (by decide) (by decide) (by decide) (by decide) (by decide)
        have fo8 := fo 8 (by decide) (by decide) (by decide) (by decide) (by decide) (by decide) (by decide) (by decide)
        have F1 : lyF [tm t, tm (aL t), tm (aR t)] [] (M + (-1)).toNat s s1 := by
          refine ⟨v1, fun j a1 a2 a3 a4 a5 a6 a7 a8 _ => fo j a1 a2 a3 a4 a5 a6 a7 a8, fun j hj i hi => ?_, fun i hi => ?_, fun j a1 a2 _ _ _ _ _ i _ => by rw [fo j (by omega) (by omega) (by omega) (by omega) (by omega) (by omega) (by omega) (by omega)], fun p _ i _ _ => by rw [fo 36 (by decide) (by decide) (by decide) (by decide) (by decide) (by decide) (by decide) (by decide)], m45_e (fo 45 (by decide) (by decide) (by decide) (by decide) (by decide) (by decide) (by decide) (by decide))⟩
          · have hi1 : i ≠ tm t := fun z => hi (z ▸ List.mem_cons_self)
            have hi2 : i ≠ tm (aL t) := fun z => hi (z ▸ List.mem_cons_of_mem _ List.mem_cons_self)
            have hi3 : i ≠ tm (aR t) := fun z => hi (z ▸ List.mem_cons_of_mem _ (List.mem_cons_of_mem _ List.mem_cons_self))
            rcases (show j = 9 ∨ j = 10 ∨ j = 11 ∨ j = 12 ∨ j = 13 ∨ j = 59 ∨ j = 60 by omega) with rfl | rfl | rfl | rfl | rfl | rfl | rfl
            · exact (w9 i hi1).1
            · rw [g10]; exact (va_up_ne _ _ hi3).trans (va_up_ne _ _ hi2)
            · rw [g11]; exact (va_up_ne _ _ hi3).trans (va_up_ne _ _ hi2)
            · exact (w9 i hi1).2.1
            · exact (w9 i hi1).2.2
            · rw [g59]; exact (va_up_ne _ _ hi3).trans (va_up_ne _ _ hi2)
            · rw [g60]; exact (va_up_ne _ _ hi3).trans (va_up_ne _ _ hi2)
          · rw [g15, va_up_ne _ _ (by omega), va_up_ne _ _ (by omega)]
        have pk1 : ∀ p, p ∈ aX fp k (aL t) ++ aX fp k (aR t) → mPk s1 p := fun p hp => lyF_pk F1 (hpk p hp) (fun z => by cases z)
        have tr1 : rT s1 k (aR t) := rT_of fo4 fo5 fo6 fo8 k _ tr (fun i hi => w9 i (fun z => mnr (z ▸ hi)))
        refine lN_tree htr k (aR t) w (h - 1 - ta t) x (y + a + 1) u (q - 1 - a) ((M + (-1)) + (2)) s1 h2 _ _ _ _ _ _ o2 nr pr tr1 (fun p hp => pk1 p (List.mem_append_right _ hp)) (by omega) (by omega) ?_ ?_ ?_ ?_ ?_ hwu hu (by omega) (by omega) hA1 hF1 (fun s2 h3 m7 m8 m9 m10 m11 m12 hA2 hF2 F2 rA2 pk2 => ?_)
        · rw [g15, show (M + (-1) + 2 + (-1)).toNat = (M + (-1) + 1).toNat by omega]; exact va_up_self _ _ _
        · rw [g10]; exact va_up_self _ _ _
        · rw [g11]; exact va_up_self _ _ _
        · rw [g59]; exact va_up_self _ _ _
        · rw [g60]; exact va_up_self _ _ _
        have o4 := F2.2.1 4 (by decide) (by decide) (by decide) (by decide) (by decide) (by decide) (by decide) (by decide) (by decide)
        have o5 := F2.2.1 5 (by decide) (by decide) (by decide) (by decide) (by decide) (by decide) (by decide) (by decide) (by decide)
        have o6 := F2.2.1 6 (by decide) (by decide) (by decide) (by decide) (by decide) (by decide) (by decide) (by decide) (by decide)
        have o8 := F2.2.1 8 (by decide) (by decide) (by decide) (by decide) (by decide) (by decide) (by decide) (by decide) (by decide)
        have tl2 : rT s2 k (aL t) := rT_of (o4.trans fo4) (o5.trans fo5) (o6.trans fo6) (o8.trans fo8) k _ tl (fun i hi => by
          have hir : i ∉ aX fm k (aR t) := fun z => nlr _ hi _ z rfl
          obtain ⟨z1, z2, z3⟩ := w9 i (fun z => mnl (z ▸ hi))
          exact ⟨(F2.2.2.1 9 (by omega) i hir).trans z1, (F2.2.2.1 12 (by omega) i hir).trans z2, (F2.2.2.1 13 (by omega) i hir).trans z3⟩)
        refine lN_tree htr k (aL t) w (ta t) x y u a ((M + (-1)) + (2) + (-1)) s2 h3 _ _ _ _ _ _ o1 nl pl tl2 (fun p hp => lyF_pk F2 (pk1 p (List.mem_append_left _ hp)) (fun z => plr _ hp _ z rfl)) (by omega) (by omega) ?_ ?_ ?_ ?_ ?_ hwu hu (by omega) (by omega) hA2 hF2 (fun s3 h4 m7 m8 m9 m10 m11 m12 hA3 hF3 F3 rA3 pk3 => ?_)
        · rw [F2.2.2.2.1 _ (by omega), g15, show (M + (-1) + 2 + (-1) + (-1)).toNat = (M + (-1)).toNat by omega, va_up_ne _ _ (by omega)]; exact va_up_self _ _ _
        · rw [F2.2.2.1 10 (by omega) _ lnr, g10]; exact (va_up_ne _ _ (show tm (aL t) ≠ tm (aR t) from ne3)).trans (va_up_self _ _ _)
        · rw [F2.2.2.1 11 (by omega) _ lnr, g11]; exact (va_up_ne _ _ (show tm (aL t) ≠ tm (aR t) from ne3)).trans (va_up_self _ _ _)
        · rw [F2.2.2.1 59 (by omega) _ lnr, g59]; exact (va_up_ne _ _ (show tm (aL t) ≠ tm (aR t) from ne3)).trans (va_up_self _ _ _)
        · rw [F2.2.2.1 60 (by omega) _ lnr, g60]; exact (va_up_ne _ _ (show tm (aL t) ≠ tm (aR t) from ne3)).trans (va_up_self _ _ _)
        have F13 : lyF (aX fm (k + 1) t) (aX fp (k + 1) t) (M + (-1)).toNat s s3 := by
          rw [eml, epl]
          refine lyF_tr (lyF_tr (lyF_mo F1 (fun i hi => ?_) (fun i hi => by cases hi) (Nat.le_refl _)) (lyF_mo F2 (fun i hi => List.mem_cons_of_mem _ (List.mem_append_right _ hi)) (fun i hi => List.mem_append_right _ hi) (by omega))) (lyF_mo F3 (fun i hi => List.mem_cons_of_mem _ (List.mem_append_left _ hi)) (fun i hi => List.mem_append_left _ hi) (by omega))
          rcases List.mem_cons.mp hi with z | hi
          · rw [z]; exact List.mem_cons_self
          · rcases List.mem_cons.mp hi with z | hi
            · rw [z]; exact List.mem_cons_of_mem _ (List.mem_append_left _ il)
            · rw [List.mem_singleton.mp hi]; exact List.mem_cons_of_mem _ (List.mem_append_right _ ir)
        have rt3 : ∀ j, 9 ≤ j → j ≤ 13 → s3.2 j (tm t) = s1.2 j (tm t) := fun j a1 a2 => (F3.2.2.1 j (by omega) _ mnl).trans (F2.2.2.1 j (by omega) _ mnr)
        rw [show M + (-1) + 2 + (-1) + (-1) = M + (-1) by omega]
        refine kk s3 h4 _ _ _ _ _ _ hA3 hF3 F13 ?_ ?_
        · rw [aPl_1 e d, ea]
          refine ⟨⟨?_, ?_, ?_, ?_⟩, (fun p hp => by cases hp), fun _ => ⟨?_, ?_, ?_⟩⟩
          · show s3.2 10 (tm t) = x
            rw [rt3 10 (by decide) (by decide), g10]; exact ((va_up_ne _ _ (show tm t ≠ tm (aR t) from ne2)).trans (va_up_ne _ _ (show tm t ≠ tm (aL t) from ne1))).trans e10
          · show s3.2 11 (tm t) = y
            rw [rt3 11 (by decide) (by decide), g11]; exact ((va_up_ne _ _ (show tm t ≠ tm (aR t) from ne2)).trans (va_up_ne _ _ (show tm t ≠ tm (aL t) from ne1))).trans e11
          · show s3.2 12 (tm t) = u
            rw [rt3 12 (by decide) (by decide), g12]; exact va_up_self _ _ _
          · show s3.2 13 (tm t) = q
            rw [rt3 13 (by decide) (by decide), g13]; exact va_up_self _ _ _
          · show s3.2 9 (tm t) = a
            rw [rt3 9 (by decide) (by decide), g9]; exact va_up_self _ _ _
          · exact rA3
          · have z := rA_of k _ _ _ rA2 (s' := s3) (fun i hi j a1 a2 => F3.2.2.1 j (by omega) i (fun z => nlr _ z _ (by rw [aPl_x fm_f] at hi; exact hi) rfl)) (fun p hp => by
              have hp2 : p ∉ aX fp k (aL t) := fun z => plr _ z _ (by rw [aPl_x fp_f] at hp; exact hp) rfl
              exact ⟨F3.2.2.2.2.1 18 (by decide) (by decide) (by decide) (by decide) (by decide) (by decide) (by decide) p hp2, F3.2.2.2.2.1 19 (by decide) (by decide) (by decide) (by decide) (by decide) (by decide) (by decide) p hp2⟩)
            show rA s3 k _ (sx (td t) a x) (sy (td t) a y)
            unfold sx sy
            rw [if_neg d, if_neg d]
            exact z
        · rw [epl]
          intro p hp
          rcases List.mem_append.mp hp with z | z
          · exact pk3 p z
          · exact lyF_pk F3 (pk2 p z) (fun z2 => plr _ z2 _ z rfl)
    · obtain ⟨p, hp⟩ := Option.ne_none_iff_exists'.mp e
      obtain ⟨p8, f4⟩ := hT.2.1 p hp
      have epl : aX fp (k + 1) t = [p] := (aX_n e).trans (fp_y hp)
      have eml : aX fm (k + 1) t = [tm t] := aX_n e
      rw [epl] at hpk
      refine lN_pn (m := (tm t : Int)) (p := (p : Int)) (u := u) (q := q) htr hA hF ⟨hM, by omega⟩ ⟨by omega, by have := hT.1; omega⟩ ⟨by omega, by omega⟩ (hpk p List.mem_cons_self) e15 f4 e59 e60 ⟨by omega, hu⟩ ⟨by omega, hq⟩ (fun s' h' hA' hF' hQ hk' hv => ?_)
      have g : ∀ j, j < 18 ∨ 45 < j → s'.2 j = (mA 13 (va_up (s.2 13) (tm t) q) (mA 12 (va_up (s.2 12) (tm t) u) s)).2 j := hQ.2.1
      have g12 : s'.2 12 = va_up (s.2 12) (tm t) u := g 12 (by decide)
      have g13 : s'.2 13 = va_up (s.2 13) (tm t) q := g 13 (by decide)
      have go : ∀ j, j ≠ 12 → j ≠ 13 → (j < 18 ∨ 45 < j) → s'.2 j = s.2 j := fun j a1 a2 a3 => (g j a3).trans ((mA_ne a2).trans (mA_ne a1))
      refine kk s' h' _ _ _ _ _ _ hA' hF' ⟨hQ.1, fun j _ _ _ a4 a5 _ _ _ a9 => go j a4 a5 a9, fun j hj i hi => ?_, fun i _ => by rw [go 15 (by decide) (by decide) (by decide)], fun j a1 a2 a3 a4 a5 a6 a7 i hi => ?_, fun p' hp' i a1 a2 => ?_, m45_tr (m45_e rfl) hQ.2.2.2.2⟩ ?_ ?_
      · rw [eml] at hi
        have him : i ≠ tm t := fun z => hi (z ▸ List.mem_cons_self)
        by_cases j12 : j = 12
        · subst j12; rw [g12, va_up_ne _ _ him]
        · by_cases j13 : j = 13
          · subst j13; rw [g13, va_up_ne _ _ him]
          · rw [go j j12 j13 (by omega)]
      · rw [epl] at hi
        have hip : i ≠ p := fun z => hi (z ▸ List.mem_cons_self)
        rw [hQ.2.2.1 j a1 a2 a3 a4 a5 a6 a7 i hip, mA_ne (by omega), mA_ne (by omega)]
      · rw [epl] at hp'
        have hip : p' ≠ p := fun z => hp' (z ▸ List.mem_cons_self)
        rw [hQ.2.2.2.1 i (by show i < 4 * p ∨ 4 * p + 4 ≤ i; omega)]
        rfl
      · rw [aPl_n e]
        refine ⟨⟨?_, ?_, ?_, ?_⟩, fun p' hp' => ?_, fun z => absurd z e⟩
        · show s'.2 10 (tm t) = x
          rw [go 10 (by decide) (by decide) (by decide)]; exact e10
        · show s'.2 11 (tm t) = y
          rw [go 11 (by decide) (by decide) (by decide)]; exact e11
        · show s'.2 12 (tm t) = u
          rw [g12, va_up_self]
        · show s'.2 13 (tm t) = q
          rw [g13, va_up_self]
        · have : p = p' := by
            have z : tp t = some p' := hp'
            rw [hp] at z
            exact Option.some.inj z
          subst this
          exact hv
      · rw [epl]
        intro p' hp'
        rw [List.mem_singleton.mp hp']
        exact hk'
