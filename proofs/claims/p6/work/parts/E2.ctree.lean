/-! ===== the class's parts as a tree ===== -/
def cR (P : Nat → ptC) : Nat → aT → Option Nat → Int → Int → Int → Int → Prop
  | 0, _, _, _, _, _, _ => False
  | k + 1, t, up, x, y, w, h => ((P (tc t)).1 0 = x ∧ (P (tc t)).1 1 = y ∧ (P (tc t)).1 2 = w ∧ (P (tc t)).1 3 = h ∧ (P (tc t)).2 2 = up) ∧ (¬ tp t = none → (P (tc t)).2 0 = none ∧ (P (tc t)).2 1 = none) ∧
      (tp t = none → ((P (tc t)).2 0 = some (tc (aL t)) ∧ (P (tc t)).2 1 = some (tc (aR t)) ∧ (P (tc t)).1 4 = td t) ∧ cR P k (aL t) (some (tc t)) x y (s1 (td t) (ta t) w h).1 (s1 (td t) (ta t) w h).2 ∧ cR P k (aR t) (some (tc t)) (sx (td t) (ta t) x) (sy (td t) (ta t) y) (s2 (td t) (ta t) w h).1 (s2 (td t) (ta t) w h).2)
theorem cR_up {P : Nat → ptC} : ∀ (k : Nat) (t : aT) (up : Option Nat) (x y w h : Int), cR P k t up x y w h → cR P (k + 1) t up x y w h
  | 0, _, _, _, _, _, _, z => z.elim
  | k + 1, t, up, x, y, w, h, z => ⟨z.1, z.2.1, fun e => ⟨(z.2.2 e).1, cR_up k _ _ _ _ _ _ (z.2.2 e).2.1, cR_up k _ _ _ _ _ _ (z.2.2 e).2.2⟩⟩
theorem cR_le {P : Nat → ptC} {k j : Nat} {t : aT} {up : Option Nat} {x y w h : Int} (z : cR P k t up x y w h) (hj : k ≤ j) : cR P j t up x y w h := by
  induction hj with
  | refl => exact z
  | step _ ih => exact cR_up _ _ _ _ _ _ _ ih
theorem cR_dn {P : Nat → ptC} : ∀ (k : Nat) (t : aT) (up : Option Nat) (x y w h w' h' : Int) (j : Nat), aOk k t w' h' → cR P j t up x y w h → k ≤ j → cR P k t up x y w h
  | 0, _, _, _, _, _, _, _, _, _, z, _, _ => z.elim
  | k + 1, t, up, x, y, w, h, w', h', j, z, c, hj => by
    obtain ⟨i, rfl⟩ : ∃ i, j = i + 1 := ⟨j - 1, by omega⟩
    exact ⟨c.1, c.2.1, fun e => ⟨(c.2.2 e).1, cR_dn k _ _ _ _ _ _ _ _ i (z.2 e).2.1 (c.2.2 e).2.1 (by omega), cR_dn k _ _ _ _ _ _ _ _ i (z.2 e).2.2 (c.2.2 e).2.2 (by omega)⟩⟩
/-- it looks only at its own parts -/
theorem cR_of {P Q : Nat → ptC} : ∀ (k : Nat) (t : aT) (up : Option Nat) (x y w h : Int), cR P k t up x y w h → (∀ b, b ∈ aX fc k t → Q b = P b) → cR Q k t up x y w h
  | 0, _, _, _, _, _, _, z, _ => z.elim
  | k + 1, t, up, x, y, w, h, z, e => by
    have ea := e (tc t) (aX_root (by omega))
    refine ⟨by rw [ea]; exact z.1, by rw [ea]; exact z.2.1, fun en => ?_⟩
    rw [aX_l en] at e
    rw [ea]
    exact ⟨(z.2.2 en).1, cR_of k _ _ _ _ _ _ (z.2.2 en).2.1 (fun b hb => e b (List.mem_append_right _ (List.mem_append_left _ hb))), cR_of k _ _ _ _ _ _ (z.2.2 en).2.2 (fun b hb => e b (List.mem_append_right _ (List.mem_append_right _ hb)))⟩
/-- what hangs in it, with its area -/
theorem cR_in {P : Nat → ptC} {v : aT} : ∀ (k : Nat) (t : aT) (up : Option Nat) (x y w h : Int), cR P k t up x y w h → aOk k t w h → aIn v k t → ∃ j up' x' y' w' h', (0 < j ∧ j ≤ k) ∧ cR P j v up' x' y' w' h' ∧ aOk j v w' h' ∧ (x ≤ x' ∧ x' + w' ≤ x + w) ∧ (y ≤ y' ∧ y' + h' ≤ y + h)
  | 0, _, _, _, _, _, _, z, _, _ => z.elim
  | k + 1, t, up, x, y, w, h, z, ok, hv => by
    rcases hv with hv | ⟨e, hv⟩
    · subst hv; exact ⟨k + 1, up, x, y, w, h, ⟨by omega, Nat.le_refl _⟩, z, ok, by omega, by omega⟩
    · have c1 := (z.2.2 e).2.1
      have c2 := (z.2.2 e).2.2
      have hd := (ok.2 e).1
      by_cases d : td t = 0
      · obtain ⟨o1, o2⟩ := aOk_0 ok e d
        have b1 := aOk_1 o1
        have b2 := aOk_1 o2
        unfold s1 at c1
        unfold s2 sx sy at c2
        rw [if_pos d] at c1
        rw [if_pos d, if_pos d, if_pos d] at c2
        rcases hv with hv | hv
        · obtain ⟨j, up', x', y', w', h', hj, a1, a2, a3, a4⟩ := cR_in k _ _ _ _ _ _ c1 o1 hv
          exact ⟨j, up', x', y', w', h', ⟨hj.1, by omega⟩, a1, a2, by omega, by omega⟩
        · obtain ⟨j, up', x', y', w', h', hj, a1, a2, a3, a4⟩ := cR_in k _ _ _ _ _ _ c2 o2 hv
          exact ⟨j, up', x', y', w', h', ⟨hj.1, by omega⟩, a1, a2, by omega, by omega⟩
      · obtain ⟨d1, o1, o2⟩ := aOk_d ok e d
        have b1 := aOk_1 o1
        have b2 := aOk_1 o2
        unfold s1 at c1
        unfold s2 sx sy at c2
        rw [if_neg d] at c1
        rw [if_neg d, if_neg d, if_neg d] at c2
        rcases hv with hv | hv
        · obtain ⟨j, up', x', y', w', h', hj, a1, a2, a3, a4⟩ := cR_in k _ _ _ _ _ _ c1 o1 hv
          exact ⟨j, up', x', y', w', h', ⟨hj.1, by omega⟩, a1, a2, by omega, by omega⟩
        · obtain ⟨j, up', x', y', w', h', hj, a1, a2, a3, a4⟩ := cR_in k _ _ _ _ _ _ c2 o2 hv
          exact ⟨j, up', x', y', w', h', ⟨hj.1, by omega⟩, a1, a2, by omega, by omega⟩
/-- every part of a tree hangs in it -/
theorem aC_in {b : Nat} : ∀ (k : Nat) (t : aT), b ∈ aX fc k t → ∃ v, aIn v k t ∧ tc v = b
  | 0, _, h => by cases h
  | k + 1, t, h => by
    rcases List.mem_append.mp h with y | y
    · exact ⟨t, Or.inl rfl, (List.mem_singleton.mp y).symm⟩
    · by_cases e : tp t = none
      · rw [if_pos e] at y
        rcases List.mem_append.mp y with y | y
        · obtain ⟨v, h1, h2⟩ := aC_in k _ y
          exact ⟨v, Or.inr ⟨e, Or.inl h1⟩, h2⟩
        · obtain ⟨v, h1, h2⟩ := aC_in k _ y
          exact ⟨v, Or.inr ⟨e, Or.inr h1⟩, h2⟩
      · rw [if_neg e] at y; cases y
/-- another part hangs at the place of one -/
def rl (o n : Nat) (x : ptC) : ptC := (x.1, fun i => if i < 2 ∧ x.2 i = some o then some n else x.2 i)
theorem rl_1 {o n : Nat} {x : ptC} : (rl o n x).1 = x.1 := rfl
theorem rl_2 {o n : Nat} {x : ptC} : (rl o n x).2 2 = x.2 2 := by
  show (if 2 < 2 ∧ x.2 2 = some o then some n else x.2 2) = x.2 2
  rw [if_neg (fun z => absurd z.1 (by decide))]
theorem rl_y {o n i : Nat} {x : ptC} (hi : i < 2) (h : x.2 i = some o) : (rl o n x).2 i = some n := if_pos ⟨hi, h⟩
theorem rl_n {o n i : Nat} {x : ptC} (h : ¬ x.2 i = some o) : (rl o n x).2 i = x.2 i := if_neg (fun z => h z.2)
theorem rep_c {o k : Nat} {u t : aT} (hk : 0 < k) : tc (aRep o u k t) = if tc t = o then tc u else tc t := by
  obtain ⟨j, rfl⟩ : ∃ j, k = j + 1 := ⟨k - 1, by omega⟩
  by_cases e0 : tc t = o
  · rw [aRep_0 e0, if_pos e0]
  · rw [if_neg e0]
    by_cases e : tp t = none
    · rw [aRep_l e0 e]; rfl
    · rw [aRep_n e0 e]
theorem cR_rep {P Q : Nat → ptC} {v u : aT} (hH : ∀ j up x y w h, cR P j v up x y w h → aOk j v w h → cR Q (j + 1) u up x y w h) : ∀ (k : Nat) (t : aT) (up : Option Nat) (x y w h : Int), aOk k t w h → cR P k t up x y w h → (∀ v', aIn v' k t → tc v' = tc v → v' = v) → (∀ b, b ∈ aXo fc (tc v) k t → Q b = rl (tc v) (tc u) (P b)) → cR Q (k + 1) (aRep (tc v) u k t) up x y w h
  | 0, _, _, _, _, _, _, z, _, _, _ => z.elim
  | k + 1, t, up, x, y, w, h, ok, z, h1, e => by
    by_cases e0 : tc t = tc v
    · rw [aRep_0 e0]
      have et := h1 t (Or.inl rfl) e0
      subst et
      exact hH _ _ _ _ _ _ z ok
    · by_cases en : tp t = none
      · rw [aXo_l e0 en] at e
        rw [aRep_l e0 en]
        have ea : Q (tc t) = rl (tc v) (tc u) (P (tc t)) := e (tc t) (List.mem_append_left _ List.mem_cons_self)
        obtain ⟨⟨l0, l1, l4⟩, c1, c2⟩ := z.2.2 en
        have hk : 0 < k := by
          cases k with
          | zero => exact c1.elim
          | succ k => omega
        have i1 := cR_rep hH k _ _ _ _ _ _ (ok.2 en).2.1 c1 (fun v' hv' => h1 v' (Or.inr ⟨en, Or.inl hv'⟩)) (fun b hb => e b (List.mem_append_right _ (List.mem_append_left _ hb)))
        have i2 := cR_rep hH k _ _ _ _ _ _ (ok.2 en).2.2 c2 (fun v' hv' => h1 v' (Or.inr ⟨en, Or.inr hv'⟩)) (fun b hb => e b (List.mem_append_right _ (List.mem_append_right _ hb)))
        refine ⟨?_, fun z => absurd (show tp (aMk (t []) _ _) = none from en) z, fun _ => ⟨?_, i1, i2⟩⟩
        · show ((Q (tc t)).1 0 = x ∧ (Q (tc t)).1 1 = y ∧ (Q (tc t)).1 2 = w ∧ (Q (tc t)).1 3 = h ∧ (Q (tc t)).2 2 = up)
          rw [ea, rl_1, rl_2]; exact z.1
        · show (Q (tc t)).2 0 = some (tc (aRep (tc v) u k (aL t))) ∧ (Q (tc t)).2 1 = some (tc (aRep (tc v) u k (aR t))) ∧ (Q (tc t)).1 4 = td t
          rw [ea, rl_1, rep_c hk, rep_c hk]
          refine ⟨?_, ?_, l4⟩
          · by_cases q : tc (aL t) = tc v
            · rw [if_pos q, rl_y (by decide) (by rw [l0, q])]
            · rw [if_neg q, rl_n (by rw [l0]; exact fun z => q (Option.some.inj z)), l0]
          · by_cases q : tc (aR t) = tc v
            · rw [if_pos q, rl_y (by decide) (by rw [l1, q])]
            · rw [if_neg q, rl_n (by rw [l1]; exact fun z => q (Option.some.inj z)), l1]
      · rw [aXo_n e0 en] at e
        rw [aRep_n e0 en]
        have ea : Q (tc t) = rl (tc v) (tc u) (P (tc t)) := e (tc t) List.mem_cons_self
        have zn := z.2.1 en
        refine ⟨by rw [ea, rl_1, rl_2]; exact z.1, fun _ => ?_, fun y => absurd y en⟩
        rw [ea, rl_n (by rw [zn.1]; exact fun q => by cases q), rl_n (by rw [zn.2]; exact fun q => by cases q)]
        exact zn
/-- placing -/
theorem ps_a {P : Nat → ptC} {a : Nat} {c r u q : Int} : (plSet P a c r u q a).1 0 = c ∧ (plSet P a c r u q a).1 1 = r ∧ (plSet P a c r u q a).1 2 = u ∧ (plSet P a c r u q a).1 3 = q ∧ (plSet P a c r u q a).1 4 = (P a).1 4 ∧ (plSet P a c r u q a).2 = (P a).2 := by
  simp [plSet, ptS, va_up]
theorem ps_b {P : Nat → ptC} {a b : Nat} {c r u q : Int} (h : b ≠ a) : plSet P a c r u q b = P b := by
  simp [plSet, ptS, va_up, h]
def plQ (P Q : Nat → ptC) (k : Nat) (t t' : aT) (up : Option Nat) (c r u q : Int) : Prop :=
  cR Q k t' up c r u q ∧ (∀ b, b ∉ aX fc k t → Q b = P b) ∧ ∀ b, (Q b).2 = (P b).2 ∧ (Q b).1 4 = (P b).1 4
theorem cR_root {P : Nat → ptC} {k : Nat} {t : aT} {up : Option Nat} {x y w h : Int} (z : cR P k t up x y w h) : (P (tc t)).1 0 = x ∧ (P (tc t)).1 1 = y ∧ (P (tc t)).1 2 = w ∧ (P (tc t)).1 3 = h ∧ (P (tc t)).2 2 = up := by
  cases k with
  | zero => exact z.elim
  | succ k => exact z.1
theorem tdiv_kept {len now a : Int} (h1 : 2 ≤ len) (h2 : 1 ≤ now) (h3 : 0 ≤ a) : (if len ≤ 1 then (1 : Int) else ((now - 1) * a).tdiv (len - 1)) = aKept len now a := by
  rw [if_neg (by omega), Int.tdiv_eq_ediv_of_nonneg (Int.mul_nonneg (by omega) h3)]
  rfl
set_option maxHeartbeats 4000000 in
theorem cR_place : ∀ (k j : Nat) (t : aT) (P : Nat → ptC) (up : Option Nat) (x y w h c r u q : Int), k ≤ j + 1 → aOk k t w h → cR P k t up x y w h → (aX fc k t).Nodup → w ≤ u → h ≤ q → plQ P (plW (plShare j) (tc t) c r u q P) k t (aPl k t w h u q) up c r u q
  | 0, _, _, _, _, _, _, _, _, _, _, _, _, _, z, _, _, _, _ => z.elim
  | k + 1, j, t, P, up, x, y, w, h, c, r, u, q, hj, ok, z, nd, hu, hq => by
    obtain ⟨s0, t1, t2, s3, s4, s5⟩ := @ps_a P (tc t) c r u q
    obtain ⟨z0, z1, z2, z3, z5⟩ := z.1
    by_cases e : tp t = none
    · obtain ⟨⟨l0, l1, l4⟩, c1, c2⟩ := z.2.2 e
      rw [aX_lc e] at nd
      obtain ⟨na, nd2⟩ := List.nodup_cons.mp nd
      obtain ⟨n1, n2, n3⟩ := List.nodup_append.mp nd2
      have a1 : tc t ∉ aX fc k (aL t) := fun y => na (List.mem_append_left _ y)
      have a2 : tc t ∉ aX fc k (aR t) := fun y => na (List.mem_append_right _ y)
      have hk : 0 < k := by
        cases k with
        | zero => exact c1.elim
        | succ k => omega
      have mx : tc (aL t) ∈ aX fc k (aL t) := aX_root hk
      have my : tc (aR t) ∈ aX fc k (aR t) := aX_root hk
      have xa : tc (aL t) ≠ tc t := fun y => a1 (y ▸ mx)
      have ya : tc (aR t) ≠ tc t := fun y => a2 (y ▸ my)
      have xy : ∀ b, b ∈ aX fc k (aL t) → b ∉ aX fc k (aR t) := fun b y1 y2 => n3 b y1 b y2 rfl
      obtain ⟨j2, rfl⟩ : ∃ j2, j = j2 + 1 := ⟨j - 1, by omega⟩
      have hs : ptSplit (plSet P (tc t) c r u q (tc t)) := ⟨by rw [s5, l0]; exact fun y => (by cases y), by rw [s5, l1]; exact fun y => (by cases y)⟩
      have hx0 : (plSet P (tc t) c r u q (tc t)).2 0 = some (tc (aL t)) := by rw [s5]; exact l0
      have hy0 : (plSet P (tc t) c r u q (tc t)).2 1 = some (tc (aR t)) := by rw [s5]; exact l1
      have u1 := cR_of k _ _ _ _ _ _ c1 (Q := plSet P (tc t) c r u q) (fun b hb => ps_b (fun y => a1 (y ▸ hb)))
      have u2 := cR_of k _ _ _ _ _ _ c2 (Q := plSet P (tc t) c r u q) (fun b hb => ps_b (fun y => a2 (y ▸ hb)))
      have px : plSet P (tc t) c r u q (tc (aL t)) = P (tc (aL t)) := ps_b xa
      have r1 := cR_root c1
      rw [plW_split hs hx0, px, s4, l4]
      by_cases d : td t = 0
      · obtain ⟨o1, o2⟩ := aOk_0 ok e d
        have b1 := aOk_1 o1
        have b2 := aOk_1 o2
        unfold s1 at r1 u1
        unfold s2 sx sy at u2
        rw [if_pos d] at r1 u1
        rw [if_pos d, if_pos d, if_pos d] at u2
        have kb := aKept_b (lx := ta t) (ly := w - 1 - ta t) (len := w) (now := u) b1.1 b2.1 (by omega) hu
        have el : ptLen (plSet P (tc t) c r u q (tc t)) (td t) = u := by unfold ptLen; rw [if_pos d]; exact t2
        have ep : ptLen (P (tc t)) (td t) = w := by unfold ptLen; rw [if_pos d]; exact z2
        have ex : ptLen (P (tc (aL t))) (td t) = ta t := by unfold ptLen; rw [if_pos d]; exact r1.2.2.1
        rw [el, ep, ex, tdiv_kept (by omega) (by omega) (by omega), show max 1 (min (u - 2) (aKept w u (ta t))) = aKept w u (ta t) by omega, aPl_0 e d]
        generalize aKept w u (ta t) = sz at kb ⊢
        rw [plShare_r hs hx0 hy0 (by rw [s4, l4]; exact d)]
        dsimp only
        rw [s0, t1, s3, s4, l4, el]
        obtain ⟨q1, q3, q4⟩ := cR_place k j2 (aL t) (plSet P (tc t) c r u q) (some (tc t)) x y (ta t) h c r sz q (by omega) o1 u1 n1 kb.1 hq
        generalize plW (plShare j2) (tc (aL t)) c r sz q (plSet P (tc t) c r u q) = P1 at q1 q3 q4 ⊢
        have pa1 : P1 (tc t) = plSet P (tc t) c r u q (tc t) := q3 (tc t) a1
        rw [pa1, s0, t1, s3]
        obtain ⟨v1, v3, v4⟩ := cR_place k j2 (aR t) P1 (some (tc t)) (x + ta t + 1) y (w - 1 - ta t) h (c + (sz + 1)) r (u - 1 - sz) q (by omega) o2 (cR_of k _ _ _ _ _ _ u2 (fun b hb => q3 b (fun y => xy b y hb))) n2 (by omega) hq
        generalize plW (plShare j2) (tc (aR t)) (c + (sz + 1)) r (u - 1 - sz) q P1 = P2 at v1 v3 v4 ⊢
        have pa2 : P2 (tc t) = plSet P (tc t) c r u q (tc t) := (v3 (tc t) a2).trans pa1
        have lk : ∀ b, (P2 b).2 = (P b).2 ∧ (P2 b).1 4 = (P b).1 4 := fun b => by
          rw [(v4 b).1, (v4 b).2, (q4 b).1, (q4 b).2]
          by_cases e : b = tc t
          · subst e; exact ⟨s5, s4⟩
          · rw [ps_b e]; exact ⟨rfl, rfl⟩
        refine ⟨⟨?_, fun y => absurd (show tp (aMk _ _ _) = none from rfl) y, fun _ => ⟨?_, ?_, ?_⟩⟩, fun b hb => ?_, lk⟩
        · show (P2 (tc t)).1 0 = c ∧ (P2 (tc t)).1 1 = r ∧ (P2 (tc t)).1 2 = u ∧ (P2 (tc t)).1 3 = q ∧ (P2 (tc t)).2 2 = up
          rw [pa2]
          exact ⟨s0, t1, t2, s3, by rw [s5]; exact z5⟩
        · show (P2 (tc t)).2 0 = some (tc (aPl k (aL t) (ta t) h sz q)) ∧ (P2 (tc t)).2 1 = some (tc (aPl k (aR t) (w - 1 - ta t) h (u - 1 - sz) q)) ∧ (P2 (tc t)).1 4 = 0
          rw [(lk (tc t)).1, (lk (tc t)).2, show tc (aPl k (aL t) (ta t) h sz q) = tc (aL t) from aPl_c.1, show tc (aPl k (aR t) (w - 1 - ta t) h (u - 1 - sz) q) = tc (aR t) from aPl_c.1]
          exact ⟨l0, l1, l4.trans d⟩
        · show cR P2 k (aPl k (aL t) (ta t) h sz q) (some (tc t)) c r sz q
          exact cR_of k _ _ _ _ _ _ q1 (fun b hb => v3 b (xy b (by rw [aPl_x fc_f] at hb; exact hb)))
        · show cR P2 k (aPl k (aR t) (w - 1 - ta t) h (u - 1 - sz) q) (some (tc t)) (c + sz + 1) r (u - 1 - sz) q
          rw [show c + sz + 1 = c + (sz + 1) by omega]
          exact v1
        · rw [aX_l e] at hb
          have hb2 : b ∉ aX fc k (aR t) := fun y => hb (List.mem_append_right _ (List.mem_append_right _ y))
          have hb1 : b ∉ aX fc k (aL t) := fun y => hb (List.mem_append_right _ (List.mem_append_left _ y))
          rw [v3 b hb2, q3 b hb1]
          exact ps_b (fun y => hb (y ▸ List.mem_append_left _ List.mem_cons_self))
      · obtain ⟨d1, o1, o2⟩ := aOk_d ok e d
        have b1 := aOk_1 o1
        have b2 := aOk_1 o2
        unfold s1 at r1 u1
        unfold s2 sx sy at u2
        rw [if_neg d] at r1 u1
        rw [if_neg d, if_neg d, if_neg d] at u2
        have kb := aKept_b (lx := ta t) (ly := h - 1 - ta t) (len := h) (now := q) b1.2 b2.2 (by omega) hq
        have el : ptLen (plSet P (tc t) c r u q (tc t)) (td t) = q := by unfold ptLen; rw [if_neg d]; exact s3
        have ep : ptLen (P (tc t)) (td t) = h := by unfold ptLen; rw [if_neg d]; exact z3
        have ex : ptLen (P (tc (aL t))) (td t) = ta t := by unfold ptLen; rw [if_neg d]; exact r1.2.2.2.1
        rw [el, ep, ex, tdiv_kept (by omega) (by omega) (by omega), show max 1 (min (q - 2) (aKept h q (ta t))) = aKept h q (ta t) by omega, aPl_1 e d]
        generalize aKept h q (ta t) = sz at kb ⊢
        rw [plShare_d hs hx0 hy0 (by rw [s4, l4]; exact d)]
        dsimp only
        rw [s0, t1, t2, s4, l4, el]
        obtain ⟨q1, q3, q4⟩ := cR_place k j2 (aL t) (plSet P (tc t) c r u q) (some (tc t)) x y w (ta t) c r u sz (by omega) o1 u1 n1 hu kb.1
        generalize plW (plShare j2) (tc (aL t)) c r u sz (plSet P (tc t) c r u q) = P1 at q1 q3 q4 ⊢
        have pa1 : P1 (tc t) = plSet P (tc t) c r u q (tc t) := q3 (tc t) a1
        rw [pa1, s0, t1, t2]
        obtain ⟨v1, v3, v4⟩ := cR_place k j2 (aR t) P1 (some (tc t)) x (y + ta t + 1) w (h - 1 - ta t) c (r + (sz + 1)) u (q - 1 - sz) (by omega) o2 (cR_of k _ _ _ _ _ _ u2 (fun b hb => q3 b (fun y => xy b y hb))) n2 hu (by omega)
        generalize plW (plShare j2) (tc (aR t)) c (r + (sz + 1)) u (q - 1 - sz) P1 = P2 at v1 v3 v4 ⊢
        have pa2 : P2 (tc t) = plSet P (tc t) c r u q (tc t) := (v3 (tc t) a2).trans pa1
        have lk : ∀ b, (P2 b).2 = (P b).2 ∧ (P2 b).1 4 = (P b).1 4 := fun b => by
          rw [(v4 b).1, (v4 b).2, (q4 b).1, (q4 b).2]
          by_cases e : b = tc t
          · subst e; exact ⟨s5, s4⟩
          · rw [ps_b e]; exact ⟨rfl, rfl⟩
        refine ⟨⟨?_, fun y => absurd (show tp (aMk _ _ _) = none from rfl) y, fun _ => ⟨?_, ?_, ?_⟩⟩, fun b hb => ?_, lk⟩
        · show (P2 (tc t)).1 0 = c ∧ (P2 (tc t)).1 1 = r ∧ (P2 (tc t)).1 2 = u ∧ (P2 (tc t)).1 3 = q ∧ (P2 (tc t)).2 2 = up
          rw [pa2]
          exact ⟨s0, t1, t2, s3, by rw [s5]; exact z5⟩
        · show (P2 (tc t)).2 0 = some (tc (aPl k (aL t) w (ta t) u sz)) ∧ (P2 (tc t)).2 1 = some (tc (aPl k (aR t) w (h - 1 - ta t) u (q - 1 - sz))) ∧ (P2 (tc t)).1 4 = td t
          rw [(lk (tc t)).1, (lk (tc t)).2, show tc (aPl k (aL t) w (ta t) u sz) = tc (aL t) from aPl_c.1, show tc (aPl k (aR t) w (h - 1 - ta t) u (q - 1 - sz)) = tc (aR t) from aPl_c.1]
          exact ⟨l0, l1, l4⟩
        · show cR P2 k (aPl k (aL t) w (ta t) u sz) (some (tc t)) c r (s1 (td t) sz u q).1 (s1 (td t) sz u q).2
          unfold s1
          rw [if_neg d]
          exact cR_of k _ _ _ _ _ _ q1 (fun b hb => v3 b (xy b (by rw [aPl_x fc_f] at hb; exact hb)))
        · show cR P2 k (aPl k (aR t) w (h - 1 - ta t) u (q - 1 - sz)) (some (tc t)) (sx (td t) sz c) (sy (td t) sz r) (s2 (td t) sz u q).1 (s2 (td t) sz u q).2
          unfold s2 sx sy
          rw [if_neg d, if_neg d, if_neg d, show r + sz + 1 = r + (sz + 1) by omega]
          exact v1
        · rw [aX_l e] at hb
          have hb2 : b ∉ aX fc k (aR t) := fun y => hb (List.mem_append_right _ (List.mem_append_right _ y))
          have hb1 : b ∉ aX fc k (aL t) := fun y => hb (List.mem_append_right _ (List.mem_append_left _ y))
          rw [v3 b hb2, q3 b hb1]
          exact ps_b (fun y => hb (y ▸ List.mem_append_left _ List.mem_cons_self))
    · have zn := z.2.1 e
      rw [plW_no (fun y => y.1 (by rw [s5]; exact zn.1)), aPl_n e]
      refine ⟨⟨⟨s0, t1, t2, s3, (congrFun s5 2).trans z5⟩, fun _ => ⟨(congrFun s5 0).trans zn.1, (congrFun s5 1).trans zn.2⟩, fun y => absurd y e⟩, fun b hb => ps_b (fun y => hb (y ▸ aX_root (by omega))), fun b => ?_⟩
      by_cases eb : b = tc t
      · subst eb; exact ⟨s5, s4⟩
      · rw [ps_b eb]; exact ⟨rfl, rfl⟩
