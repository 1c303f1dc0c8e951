/-! ===== the reference's nodes as a tree: their links ===== -/
def rK (s : mS) : Nat → aT → Int → Prop
  | 0, _, _ => False
  | k + 1, t, up => (tm t < 16 ∧ s.2 7 (tm t) = up) ∧ (∀ p, tp t = some p → p < 8 ∧ s.2 4 (tm t) = (p : Int) ∧ s.2 17 p = (tm t : Int)) ∧ (tp t = none → (s.2 4 (tm t) = -1 ∧ s.2 5 (tm t) = (tm (aL t) : Int) ∧ s.2 6 (tm t) = (tm (aR t) : Int) ∧ s.2 8 (tm t) = td t) ∧ rK s k (aL t) (tm t) ∧ rK s k (aR t) (tm t))
theorem rK_up {s : mS} : ∀ (k : Nat) (t : aT) (up : Int), rK s k t up → rK s (k + 1) t up
  | 0, _, _, z => z.elim
  | k + 1, t, up, z => ⟨z.1, z.2.1, fun e => ⟨(z.2.2 e).1, rK_up k _ _ (z.2.2 e).2.1, rK_up k _ _ (z.2.2 e).2.2⟩⟩
theorem rK_le {s : mS} {k j : Nat} {t : aT} {up : Int} (z : rK s k t up) (hj : k ≤ j) : rK s j t up := by
  induction hj with
  | refl => exact z
  | step _ ih => exact rK_up _ _ _ ih
theorem rK_dn {s : mS} : ∀ (k : Nat) (t : aT) (up : Int) (w' h' : Int) (j : Nat), aOk k t w' h' → rK s j t up → k ≤ j → rK s k t up
  | 0, _, _, _, _, _, z, _, _ => z.elim
  | k + 1, t, up, w', h', j, z, c, hj => by
    obtain ⟨i, rfl⟩ : ∃ i, j = i + 1 := ⟨j - 1, by omega⟩
    exact ⟨c.1, c.2.1, fun e => ⟨(c.2.2 e).1, rK_dn k _ _ _ _ i (z.2 e).2.1 (c.2.2 e).2.1 (by omega), rK_dn k _ _ _ _ i (z.2 e).2.2 (c.2.2 e).2.2 (by omega)⟩⟩
theorem rA_up {s : mS} : ∀ (k : Nat) (t : aT) (x y : Int), rA s k t x y → rA s (k + 1) t x y
  | 0, _, _, _, z => z.elim
  | k + 1, t, x, y, z => ⟨z.1, z.2.1, fun e => ⟨(z.2.2 e).1, rA_up k _ _ _ (z.2.2 e).2.1, rA_up k _ _ _ (z.2.2 e).2.2⟩⟩
theorem rA_le {s : mS} {k j : Nat} {t : aT} {x y : Int} (z : rA s k t x y) (hj : k ≤ j) : rA s j t x y := by
  induction hj with
  | refl => exact z
  | step _ ih => exact rA_up _ _ _ _ ih
theorem rA_dn {s : mS} : ∀ (k : Nat) (t : aT) (x y w' h' : Int) (j : Nat), aOk k t w' h' → rA s j t x y → k ≤ j → rA s k t x y
  | 0, _, _, _, _, _, _, z, _, _ => z.elim
  | k + 1, t, x, y, w', h', j, z, c, hj => by
    obtain ⟨i, rfl⟩ : ∃ i, j = i + 1 := ⟨j - 1, by omega⟩
    exact ⟨c.1, c.2.1, fun e => ⟨(c.2.2 e).1, rA_dn k _ _ _ _ _ i (z.2 e).2.1 (c.2.2 e).2.1 (by omega), rA_dn k _ _ _ _ _ i (z.2 e).2.2 (c.2.2 e).2.2 (by omega)⟩⟩
theorem rT_pa {s : mS} : ∀ (k : Nat) (t : aT) (up x y : Int), rK s k t up → rA s k t x y → rT s k t
  | 0, _, _, _, _, z, _ => z.elim
  | k + 1, t, up, x, y, z, a => ⟨z.1.1, fun p hp => ⟨(z.2.1 p hp).1, (z.2.1 p hp).2.1⟩, fun e => by
    obtain ⟨⟨z4, z5, z6, z8⟩, zl, zr⟩ := z.2.2 e
    obtain ⟨a9, al, ar⟩ := a.2.2 e
    exact ⟨⟨z4, z5, z6, z8, a9, a.1.2.2.1, a.1.2.2.2⟩, rT_pa k _ _ _ _ zl al, rT_pa k _ _ _ _ zr ar⟩⟩
theorem rK_root {s : mS} {k : Nat} {t : aT} {up : Int} (z : rK s k t up) : tm t < 16 ∧ s.2 7 (tm t) = up := by
  cases k with
  | zero => exact z.elim
  | succ k => exact z.1
theorem rA_root {s : mS} {k : Nat} {t : aT} {x y : Int} (z : rA s k t x y) : s.2 10 (tm t) = x ∧ s.2 11 (tm t) = y ∧ s.2 12 (tm t) = tw t ∧ s.2 13 (tm t) = th t := by
  cases k with
  | zero => exact z.elim
  | succ k => exact z.1
theorem rK_in {s : mS} {v : aT} : ∀ (k : Nat) (t : aT) (up : Int), rK s k t up → aIn v k t → ∃ j up', (0 < j ∧ j ≤ k) ∧ rK s j v up'
  | 0, _, _, z, _ => z.elim
  | k + 1, t, up, z, hv => by
    rcases hv with hv | ⟨e, hv | hv⟩
    · subst hv; exact ⟨k + 1, up, ⟨by omega, Nat.le_refl _⟩, z⟩
    · obtain ⟨j, up', hj, c⟩ := rK_in k _ _ (z.2.2 e).2.1 hv
      exact ⟨j, up', ⟨hj.1, by omega⟩, c⟩
    · obtain ⟨j, up', hj, c⟩ := rK_in k _ _ (z.2.2 e).2.2 hv
      exact ⟨j, up', ⟨hj.1, by omega⟩, c⟩
theorem rA_in {s : mS} {v : aT} : ∀ (k : Nat) (t : aT) (x y : Int), rA s k t x y → aIn v k t → ∃ j x' y', (0 < j ∧ j ≤ k) ∧ rA s j v x' y'
  | 0, _, _, _, z, _ => z.elim
  | k + 1, t, x, y, z, hv => by
    rcases hv with hv | ⟨e, hv | hv⟩
    · subst hv; exact ⟨k + 1, x, y, ⟨by omega, Nat.le_refl _⟩, z⟩
    · obtain ⟨j, x', y', hj, c⟩ := rA_in k _ _ _ (z.2.2 e).2.1 hv
      exact ⟨j, x', y', ⟨hj.1, by omega⟩, c⟩
    · obtain ⟨j, x', y', hj, c⟩ := rA_in k _ _ _ (z.2.2 e).2.2 hv
      exact ⟨j, x', y', ⟨hj.1, by omega⟩, c⟩
/-- it looks only at its own nodes and panes -/
theorem rK_of {s s' : mS} : ∀ (k : Nat) (t : aT) (up : Int), rK s k t up → (∀ i, i ∈ aX fm k t → s'.2 4 i = s.2 4 i ∧ s'.2 5 i = s.2 5 i ∧ s'.2 6 i = s.2 6 i ∧ s'.2 7 i = s.2 7 i ∧ s'.2 8 i = s.2 8 i) → (∀ p, p ∈ aX fp k t → s'.2 17 p = s.2 17 p) → rK s' k t up
  | 0, _, _, z, _, _ => z.elim
  | k + 1, t, up, z, e, ep => by
    obtain ⟨e4, e5, e6, e7, e8⟩ := e (tm t) (aX_m (by omega))
    refine ⟨by rw [e7]; exact z.1, fun p hp => ?_, fun en => ?_⟩
    · rw [e4, ep p (by rw [aX_n (by rw [hp]; exact fun y => by cases y), fp_y hp]; exact List.mem_cons_self)]
      exact z.2.1 p hp
    · obtain ⟨a, b, c⟩ := z.2.2 en
      rw [aX_lm en] at e
      rw [aX_lp en] at ep
      rw [e4, e5, e6, e8]
      exact ⟨a, rK_of k _ _ b (fun i hi => e i (List.mem_cons_of_mem _ (List.mem_append_left _ hi))) (fun i hi => ep i (List.mem_append_left _ hi)), rK_of k _ _ c (fun i hi => e i (List.mem_cons_of_mem _ (List.mem_append_right _ hi))) (fun i hi => ep i (List.mem_append_right _ hi))⟩
/-- the links of a tree placed anew -/
theorem rK_pl {s : mS} : ∀ (k j : Nat) (t : aT) (w h u q up : Int), rK s j t up → rK s j (aPl k t w h u q) up
  | 0, _, _, _, _, _, _, _, z => z
  | k + 1, 0, _, _, _, _, _, _, z => z.elim
  | k + 1, j + 1, t, w, h, u, q, up, z => by
    by_cases e : tp t = none
    · obtain ⟨⟨z4, z5, z6, z8⟩, zl, zr⟩ := z.2.2 e
      by_cases d : td t = 0
      · rw [aPl_0 e d]
        refine ⟨z.1, (fun p hp => by cases hp), fun _ => ⟨⟨z4, ?_, ?_, z8.trans d⟩, rK_pl k j _ _ _ _ _ _ zl, rK_pl k j _ _ _ _ _ _ zr⟩⟩
        · exact z5.trans (by rw [aL_mk]; exact congrArg (fun n : Nat => (n : Int)) aPl_c.2.1.symm)
        · exact z6.trans (by rw [aR_mk]; exact congrArg (fun n : Nat => (n : Int)) aPl_c.2.1.symm)
      · rw [aPl_1 e d]
        refine ⟨z.1, (fun p hp => by cases hp), fun _ => ⟨⟨z4, ?_, ?_, z8⟩, rK_pl k j _ _ _ _ _ _ zl, rK_pl k j _ _ _ _ _ _ zr⟩⟩
        · exact z5.trans (by rw [aL_mk]; exact congrArg (fun n : Nat => (n : Int)) aPl_c.2.1.symm)
        · exact z6.trans (by rw [aR_mk]; exact congrArg (fun n : Nat => (n : Int)) aPl_c.2.1.symm)
    · rw [aPl_n e]
      exact ⟨z.1, z.2.1, fun e2 => absurd e2 e⟩
/-- one place alone has the node m -/
theorem aIn_onem {u v : aT} : ∀ (k : Nat) (t : aT) (w h : Int), aOk k t w h → (aX fm k t).Nodup → aIn u k t → aIn v k t → tm u = tm v → u = v
  | 0, _, _, _, z, _, _, _, _ => z.elim
  | k + 1, t, w, h, ok, nd, h1, h2, e => by
    rcases h1 with h1 | ⟨e1, h1⟩
    · rcases h2 with h2 | ⟨e2, h2⟩
      · rw [h1, h2]
      · exfalso
        rw [aX_lm e2] at nd
        refine (List.nodup_cons.mp nd).1 ?_
        rw [show tm t = tm v from (congrArg (fun x : aT => tm x) h1.symm).trans e]
        rcases h2 with h2 | h2
        · exact List.mem_append_left _ (aIn_m (ok.2 e2).2.1 h2)
        · exact List.mem_append_right _ (aIn_m (ok.2 e2).2.2 h2)
    · rcases h2 with h2 | ⟨e2, h2⟩
      · exfalso
        rw [aX_lm e1] at nd
        refine (List.nodup_cons.mp nd).1 ?_
        rw [show tm t = tm u from (congrArg (fun x : aT => tm x) h2.symm).trans e.symm]
        rcases h1 with h1 | h1
        · exact List.mem_append_left _ (aIn_m (ok.2 e1).2.1 h1)
        · exact List.mem_append_right _ (aIn_m (ok.2 e1).2.2 h1)
      · rw [aX_lm e1] at nd
        obtain ⟨n1, n2, n3⟩ := List.nodup_append.mp (List.nodup_cons.mp nd).2
        rcases h1 with h1 | h1
        · rcases h2 with h2 | h2
          · exact aIn_onem k _ _ _ (ok.2 e1).2.1 n1 h1 h2 e
          · exact absurd e (n3 _ (aIn_m (ok.2 e1).2.1 h1) _ (aIn_m (ok.2 e1).2.2 h2))
        · rcases h2 with h2 | h2
          · exact absurd e.symm (n3 _ (aIn_m (ok.2 e1).2.1 h2) _ (aIn_m (ok.2 e1).2.2 h1))
          · exact aIn_onem k _ _ _ (ok.2 e1).2.2 n2 h1 h2 e
theorem rep_m {o k : Nat} {u t : aT} (hk : 0 < k) : tm (aRep o u k t) = if tc t = o then tm u else tm t := by
  obtain ⟨j, rfl⟩ : ∃ j, k = j + 1 := ⟨k - 1, by omega⟩
  by_cases e0 : tc t = o
  · rw [aRep_0 e0, if_pos e0]
  · rw [if_neg e0]
    by_cases e : tp t = none
    · rw [aRep_l e0 e]; rfl
    · rw [aRep_n e0 e]
theorem rK_rep {s s' : mS} {v u : aT} (hH : ∀ j up, rK s j v up → rK s' (j + 1) u up) : ∀ (k : Nat) (t : aT) (up : Int), rK s k t up → (∀ v', aIn v' k t → (tc v' = tc v → v' = v) ∧ (tm v' = tm v → v' = v)) → (∀ i, i ∈ aXo fm (tc v) k t → s'.2 4 i = s.2 4 i ∧ (s.2 4 i = -1 → s'.2 5 i = (if s.2 5 i = (tm v : Int) then (tm u : Int) else s.2 5 i) ∧ s'.2 6 i = (if s.2 6 i = (tm v : Int) then (tm u : Int) else s.2 6 i)) ∧ s'.2 7 i = s.2 7 i ∧ s'.2 8 i = s.2 8 i) → (∀ p, p ∈ aXo fp (tc v) k t → s'.2 17 p = s.2 17 p) → rK s' (k + 1) (aRep (tc v) u k t) up
  | 0, _, _, z, _, _, _ => z.elim
  | k + 1, t, up, z, h1, e, ep => by
    by_cases e0 : tc t = tc v
    · rw [aRep_0 e0]
      have et := (h1 t (Or.inl rfl)).1 e0
      subst et
      exact hH _ _ z
    · by_cases en : tp t = none
      · rw [aXo_l e0 en] at e ep
        rw [aRep_l e0 en]
        obtain ⟨e4, e56, e7, e8⟩ := e (tm t) (List.mem_append_left _ List.mem_cons_self)
        obtain ⟨⟨z4, z5, z6, z8⟩, zl, zr⟩ := z.2.2 en
        obtain ⟨e5, e6⟩ := e56 z4
        have hk : 0 < k := by
          cases k with
          | zero => exact zl.elim
          | succ k => omega
        obtain ⟨k', rfl⟩ : ∃ k', k = k' + 1 := ⟨k - 1, by omega⟩
        have i1 := rK_rep hH (k' + 1) _ _ zl (fun v' hv' => h1 v' (Or.inr ⟨en, Or.inl hv'⟩)) (fun b hb => e b (List.mem_append_right _ (List.mem_append_left _ hb))) (fun b hb => ep b (List.mem_append_right _ (List.mem_append_left _ hb)))
        have i2 := rK_rep hH (k' + 1) _ _ zr (fun v' hv' => h1 v' (Or.inr ⟨en, Or.inr hv'⟩)) (fun b hb => e b (List.mem_append_right _ (List.mem_append_right _ hb))) (fun b hb => ep b (List.mem_append_right _ (List.mem_append_right _ hb)))
        have hl := h1 (aL t) (Or.inr ⟨en, Or.inl (Or.inl rfl)⟩)
        have hr := h1 (aR t) (Or.inr ⟨en, Or.inr (Or.inl rfl)⟩)
        refine ⟨?_, fun p hp => ?_, fun _ => ⟨⟨?_, ?_, ?_, ?_⟩, i1, i2⟩⟩
        · show tm t < 16 ∧ s'.2 7 (tm t) = up
          rw [e7]; exact z.1
        · have hp2 : tp t = some p := hp
          rw [en] at hp2; cases hp2
        · show s'.2 4 (tm t) = -1
          rw [e4]; exact z4
        · show s'.2 5 (tm t) = (tm (aRep (tc v) u (k' + 1) (aL t)) : Int)
          rw [e5, rep_m hk, z5]
          by_cases q : tc (aL t) = tc v
          · rw [if_pos q, if_pos (by rw [hl.1 q])]
          · rw [if_neg q, if_neg (fun y => q (by rw [hl.2 (by omega)]))]
        · show s'.2 6 (tm t) = (tm (aRep (tc v) u (k' + 1) (aR t)) : Int)
          rw [e6, rep_m hk, z6]
          by_cases q : tc (aR t) = tc v
          · rw [if_pos q, if_pos (by rw [hr.1 q])]
          · rw [if_neg q, if_neg (fun y => q (by rw [hr.2 (by omega)]))]
        · show s'.2 8 (tm t) = td t
          rw [e8]; exact z8
      · rw [aXo_n e0 en] at e ep
        rw [aRep_n e0 en]
        obtain ⟨e4, -, e7, e8⟩ := e (tm t) List.mem_cons_self
        refine ⟨by rw [e7]; exact z.1, fun p hp => ?_, fun y => absurd y en⟩
        rw [e4, ep p (by rw [fp_y hp]; exact List.mem_cons_self)]
        exact z.2.1 p hp
theorem rA_rep {s s' : mS} {v u : aT} (hH : ∀ j x y w h, rA s j v x y → aOk j v w h → rA s' (j + 1) u x y) : ∀ (k : Nat) (t : aT) (x y w h : Int), aOk k t w h → rA s k t x y → (∀ v', aIn v' k t → tc v' = tc v → v' = v) → (∀ i, i ∈ aXo fm (tc v) k t → ∀ j, 9 ≤ j → j ≤ 13 → s'.2 j i = s.2 j i) → (∀ p, p ∈ aXo fp (tc v) k t → s'.2 18 p = s.2 18 p ∧ s'.2 19 p = s.2 19 p) → rA s' (k + 1) (aRep (tc v) u k t) x y
  | 0, _, _, _, _, _, _, z, _, _, _ => z.elim
  | k + 1, t, x, y, w, h, ok, z, h1, e, ep => by
    by_cases e0 : tc t = tc v
    · rw [aRep_0 e0]
      have et := h1 t (Or.inl rfl) e0
      subst et
      exact hH _ _ _ _ _ z ok
    · by_cases en : tp t = none
      · rw [aXo_l e0 en] at e ep
        rw [aRep_l e0 en]
        have em := e (tm t) (List.mem_append_left _ List.mem_cons_self)
        obtain ⟨z9, zl, zr⟩ := z.2.2 en
        have i1 := rA_rep hH k _ _ _ _ _ (ok.2 en).2.1 zl (fun v' hv' => h1 v' (Or.inr ⟨en, Or.inl hv'⟩)) (fun b hb => e b (List.mem_append_right _ (List.mem_append_left _ hb))) (fun b hb => ep b (List.mem_append_right _ (List.mem_append_left _ hb)))
        have i2 := rA_rep hH k _ _ _ _ _ (ok.2 en).2.2 zr (fun v' hv' => h1 v' (Or.inr ⟨en, Or.inr hv'⟩)) (fun b hb => e b (List.mem_append_right _ (List.mem_append_right _ hb))) (fun b hb => ep b (List.mem_append_right _ (List.mem_append_right _ hb)))
        refine ⟨?_, fun p hp => ?_, fun _ => ⟨?_, i1, i2⟩⟩
        · show s'.2 10 (tm t) = x ∧ s'.2 11 (tm t) = y ∧ s'.2 12 (tm t) = tw t ∧ s'.2 13 (tm t) = th t
          rw [em 10 (by decide) (by decide), em 11 (by decide) (by decide), em 12 (by decide) (by decide), em 13 (by decide) (by decide)]
          exact z.1
        · have hp2 : tp t = some p := hp
          rw [en] at hp2; cases hp2
        · show s'.2 9 (tm t) = ta t
          rw [em 9 (by decide) (by decide)]; exact z9
      · rw [aXo_n e0 en] at e ep
        rw [aRep_n e0 en]
        have em := e (tm t) List.mem_cons_self
        refine ⟨by rw [em 10 (by decide) (by decide), em 11 (by decide) (by decide), em 12 (by decide) (by decide), em 13 (by decide) (by decide)]; exact z.1, fun p hp => ?_, fun y => absurd y en⟩
        have q := ep p (by rw [fp_y hp]; exact List.mem_cons_self)
        rw [q.1, q.2]; exact z.2.1 p hp
theorem aM_in {b : Nat} : ∀ (k : Nat) (t : aT), b ∈ aX fm k t → ∃ v, aIn v k t ∧ tm v = b
  | 0, _, h => by cases h
  | k + 1, t, h => by
    rcases List.mem_append.mp h with y | y
    · exact ⟨t, Or.inl rfl, (List.mem_singleton.mp y).symm⟩
    · by_cases e : tp t = none
      · rw [if_pos e] at y
        rcases List.mem_append.mp y with y | y
        · obtain ⟨v, h1, h2⟩ := aM_in k _ y
          exact ⟨v, Or.inr ⟨e, Or.inl h1⟩, h2⟩
        · obtain ⟨v, h1, h2⟩ := aM_in k _ y
          exact ⟨v, Or.inr ⟨e, Or.inr h1⟩, h2⟩
      · rw [if_neg e] at y; cases y
theorem mPk_same {s s1 : mS} {p : Nat} (e : ∀ j, 18 ≤ j → j ≤ 45 → s1.2 j = s.2 j) (hk : mPk s p) : mPk s1 p := by
  unfold mPk
  rw [e 18 (by decide) (by decide), e 19 (by decide) (by decide), e 22 (by decide) (by decide), e 23 (by decide) (by decide), e 24 (by decide) (by decide), e 26 (by decide) (by decide), e 27 (by decide) (by decide), e 29 (by decide) (by decide), e 30 (by decide) (by decide), e 31 (by decide) (by decide), e 32 (by decide) (by decide), e 33 (by decide) (by decide), e 34 (by decide) (by decide), e 35 (by decide) (by decide), e 36 (by decide) (by decide), e 37 (by decide) (by decide), e 38 (by decide) (by decide), e 39 (by decide) (by decide), e 42 (by decide) (by decide), e 43 (by decide) (by decide), e 44 (by decide) (by decide), e 45 (by decide) (by decide)]
  exact hk
theorem mPu_same {s s1 : mS} {p : Nat} (e : ∀ j, 18 ≤ j → j ≤ 45 → s1.2 j = s.2 j) (hk : mPu s p) : mPu s1 p := by
  unfold mPu
  rw [e 22 (by decide) (by decide), e 31 (by decide) (by decide), e 32 (by decide) (by decide), e 33 (by decide) (by decide), e 34 (by decide) (by decide), e 35 (by decide) (by decide), e 36 (by decide) (by decide), e 37 (by decide) (by decide), e 38 (by decide) (by decide), e 39 (by decide) (by decide), e 42 (by decide) (by decide)]
  exact hk
