/-! ===== a part of the tree in another's place ===== -/
theorem aIn_lr {v : aT} : ∀ (k : Nat) (t : aT) (w h : Int), aOk k t w h → aIn v k t → tp v = none → aIn (aL v) k t ∧ aIn (aR v) k t
  | 0, _, _, _, z, _, _ => z.elim
  | k + 1, t, w, h, z, hv, e => by
    rcases hv with hv | ⟨en, hv | hv⟩
    · subst hv
      have hk : 0 < k := by
        cases k with
        | zero => exact (z.2 e).2.1.elim
        | succ k => omega
      obtain ⟨j, rfl⟩ : ∃ j, k = j + 1 := ⟨k - 1, by omega⟩
      exact ⟨Or.inr ⟨e, Or.inl (Or.inl rfl)⟩, Or.inr ⟨e, Or.inr (Or.inl rfl)⟩⟩
    · obtain ⟨a, b⟩ := aIn_lr k _ _ _ (z.2 en).2.1 hv e
      exact ⟨Or.inr ⟨en, Or.inl a⟩, Or.inr ⟨en, Or.inl b⟩⟩
    · obtain ⟨a, b⟩ := aIn_lr k _ _ _ (z.2 en).2.2 hv e
      exact ⟨Or.inr ⟨en, Or.inr a⟩, Or.inr ⟨en, Or.inr b⟩⟩
/-- a split in the tree: its two parts are others, and hang at it -/
theorem cR_sp {P : Nat → ptC} {k : Nat} {t v : aT} {up : Option Nat} {x y w h : Int} (z : cR P k t up x y w h) (ok : aOk k t w h) (nd : (aX fc k t).Nodup) (hv : aIn v k t) (e : tp v = none) : tc (aL v) ≠ tc (aR v) ∧ tc (aL v) ≠ tc v ∧ tc (aR v) ≠ tc v ∧ ((P (tc v)).2 0 = some (tc (aL v)) ∧ (P (tc v)).2 1 = some (tc (aR v))) ∧ (P (tc (aL v))).2 2 = some (tc v) ∧ (P (tc (aR v))).2 2 = some (tc v) := by
  obtain ⟨j, up', x', y', w', h', hj, c, o, -, -⟩ := cR_in k t up x y w h z ok hv
  obtain ⟨i, rfl⟩ : ∃ i, j = i + 1 := ⟨j - 1, by omega⟩
  obtain ⟨⟨l0, l1, l4⟩, c1, c2⟩ := c.2.2 e
  obtain ⟨il, ir⟩ := aIn_lr k t w h ok hv e
  have hk : 0 < i := by
    cases i with
    | zero => exact c1.elim
    | succ i => omega
  have sub : (aX fc (i + 1) v).Nodup := by
    have key : ∀ (k : Nat) (t : aT) (w h : Int), aOk k t w h → (aX fc k t).Nodup → aIn v k t → ∀ j w' h', aOk j v w' h' → (aX fc j v).Nodup := by
      intro k
      induction k with
      | zero => intro t w h z; exact z.elim
      | succ k ih =>
        intro t w h z nd hv j w' h' hok
        rcases hv with hv | ⟨en, hv | hv⟩
        · subst hv
          rcases Nat.le_total j (k + 1) with q | q
          · rw [← aX_lev j v w' h' hok (k + 1) q]; exact nd
          · rw [aX_lev (k + 1) v w h z j q]; exact nd
        · exact ih _ _ _ (z.2 en).2.1 (aNd nd en).1 hv j w' h' hok
        · exact ih _ _ _ (z.2 en).2.2 (aNd nd en).2 hv j w' h' hok
    exact key k t w h ok nd hv (i + 1) w' h' o
  rw [aX_lc e] at sub
  obtain ⟨na, nd2⟩ := List.nodup_cons.mp sub
  obtain ⟨-, -, n3⟩ := List.nodup_append.mp nd2
  refine ⟨n3 _ (aX_root hk) _ (aX_root hk), fun q => na (List.mem_append_left _ (q ▸ aX_root hk)), fun q => na (List.mem_append_right _ (q ▸ aX_root hk)), ⟨l0, l1⟩, (cR_root c1).2.2.2.2, (cR_root c2).2.2.2.2⟩
theorem rl_id {o n : Nat} {x : ptC} (h0 : ¬ x.2 0 = some o) (h1 : ¬ x.2 1 = some o) : rl o n x = x := by
  refine Prod.ext rfl (funext fun i => ?_)
  show (if i < 2 ∧ x.2 i = some o then some n else x.2 i) = x.2 i
  rw [if_neg (fun z => ?_)]
  rcases (show i = 0 ∨ i = 1 by omega) with q | q
  · subst q; exact h0 z.2
  · subst q; exact h1 z.2
theorem ptR_o {P : Nat → ptC} {a k b : Nat} {v : Option Nat} (e : b ≠ a) : ptR P a k v b = P b := by
  unfold ptR; rw [va_up_ne _ _ e]
theorem ptR_s {P : Nat → ptC} {a k : Nat} {v : Option Nat} : ptR P a k v a = ((P a).1, va_up (P a).2 k v) := by
  unfold ptR; rw [va_up_self]
theorem ex_b {P : Nat → ptC} {o n b : Nat} (h1 : b ≠ n) (h2 : ∀ ab, (P o).2 2 = some ab → b ≠ ab) : exP P o n b = P b := by
  unfold exP
  split
  · exact ptR_o h1
  · next c =>
    obtain ⟨ab, hab⟩ := Option.ne_none_iff_exists'.mp c
    rw [hab]
    show (if _ then ptR _ ab 0 _ else ptR _ ab 1 _) b = P b
    have h3 := h2 ab hab
    split
    · rw [ptR_o h3, ptR_o h1]
    · rw [ptR_o h3, ptR_o h1]
theorem ex_n {P : Nat → ptC} {o n : Nat} (h2 : ∀ ab, (P o).2 2 = some ab → n ≠ ab) : exP P o n n = ((P n).1, va_up (P n).2 2 ((P o).2 2)) := by
  unfold exP
  split
  · exact ptR_s
  · next c =>
    obtain ⟨ab, hab⟩ := Option.ne_none_iff_exists'.mp c
    rw [hab]
    show (if _ then ptR _ ab 0 _ else ptR _ ab 1 _) n = _
    have h3 := h2 ab hab
    split
    · rw [ptR_o h3, ptR_s]
    · rw [ptR_o h3, ptR_s]
theorem ex_a {P : Nat → ptC} {o n ab : Nat} (h : (P o).2 2 = some ab) (h3 : ab ≠ n) (hl : ((P ab).2 0 = some o ∧ ¬ (P ab).2 1 = some o) ∨ (¬ (P ab).2 0 = some o ∧ (P ab).2 1 = some o)) : exP P o n ab = rl o n (P ab) := by
  have e0 : (ptR P n 2 ((P o).2 2) ab) = P ab := ptR_o h3
  rcases hl with ⟨a, b⟩ | ⟨a, b⟩
  · rw [exP_1 h (by rw [e0]; exact a), ptR_s, e0]
    refine Prod.ext rfl (funext fun i => ?_)
    show va_up (P ab).2 0 (some n) i = if i < 2 ∧ (P ab).2 i = some o then some n else (P ab).2 i
    by_cases q : i = 0
    · subst q; rw [va_up_self, if_pos ⟨by decide, a⟩]
    · rw [va_up_ne _ _ q, if_neg (fun z => ?_)]
      have q1 : i = 1 := by omega
      subst q1; exact b z.2
  · rw [exP_2 h (by rw [e0]; exact a), ptR_s, e0]
    refine Prod.ext rfl (funext fun i => ?_)
    show va_up (P ab).2 1 (some n) i = if i < 2 ∧ (P ab).2 i = some o then some n else (P ab).2 i
    by_cases q : i = 1
    · subst q; rw [va_up_self, if_pos ⟨by decide, b⟩]
    · rw [va_up_ne _ _ q, if_neg (fun z => ?_)]
      have q1 : i = 0 := by omega
      subst q1; exact a z.2
/-- the split above a part of the tree -/
theorem cR_par {P : Nat → ptC} {k : Nat} {t v : aT} {up : Option Nat} {x y w h : Int} (z : cR P k t up x y w h) (ok : aOk k t w h) (hv : aIn v k t) (hne : ¬ v = t) : ∃ u, aIn u k t ∧ tp u = none ∧ (aL u = v ∨ aR u = v) ∧ (P (tc v)).2 2 = some (tc u) := by
  rcases aUp k t hv with q | ⟨u, h1, h2, h3⟩
  · exact absurd q hne
  · refine ⟨u, h1, h2, h3, ?_⟩
    obtain ⟨j, up', x', y', w', h', hj, c, o, -, -⟩ := cR_in k t up x y w h z ok h1
    obtain ⟨i, rfl⟩ : ∃ i, j = i + 1 := ⟨j - 1, by omega⟩
    obtain ⟨-, c1, c2⟩ := c.2.2 h2
    rcases h3 with h3 | h3
    · rw [← h3]; exact (cR_root c1).2.2.2.2
    · rw [← h3]; exact (cR_root c2).2.2.2.2
/-- the exchange, as those see it that don't hang there -/
theorem ex_out {P : Nat → ptC} {k n : Nat} {t v : aT} {up : Option Nat} {x y w h : Int} (z : cR P k t up x y w h) (ok : aOk k t w h) (nd : (aX fc k t).Nodup) (hv : aIn v k t) (hn : n ∉ aXo fc (tc v) k t) : ∀ b, b ∈ aXo fc (tc v) k t → exP P (tc v) n b = rl (tc v) n (P b) := by
  intro b hb
  have hbn : b ≠ n := fun q => hn (q ▸ hb)
  by_cases hne : v = t
  · subst hne
    exfalso
    cases k with
    | zero => exact hv
    | succ k => rw [aXo_0 rfl] at hb; cases hb
  · obtain ⟨u, hu, eu, h3, hp⟩ := cR_par z ok hv hne
    obtain ⟨s1, s2, s3, ⟨s4, s5⟩, -, -⟩ := cR_sp z ok nd hu eu
    by_cases q : b = tc u
    · subst q
      refine ex_a hp hbn ?_
      rcases h3 with h3 | h3
      · rw [h3] at s4 s1
        exact Or.inl ⟨s4, by rw [s5]; exact fun y => s1 (Option.some.inj y).symm⟩
      · rw [h3] at s5 s1
        exact Or.inr ⟨by rw [s4]; exact fun y => s1 (Option.some.inj y), s5⟩
    · rw [ex_b hbn (fun ab hab => by rw [hp] at hab; rw [← Option.some.inj hab]; exact q)]
      obtain ⟨v', hv', ev⟩ := aC_in k t (aXo_sub k t b hb)
      obtain ⟨j, up', x', y', w', h', hj, c, o, -, -⟩ := cR_in k t up x y w h z ok hv'
      obtain ⟨i, rfl⟩ : ∃ i, j = i + 1 := ⟨j - 1, by omega⟩
      subst ev
      by_cases en : tp v' = none
      · obtain ⟨il, ir⟩ := aIn_lr k t w h ok hv' en
        obtain ⟨-, -, -, ⟨a4, a5⟩, a6, a7⟩ := cR_sp z ok nd hv' en
        refine (rl_id ?_ ?_).symm
        · rw [a4]
          intro y
          have y2 := Option.some.inj y
          rw [y2, hp] at a6
          exact q (Option.some.inj a6).symm
        · rw [a5]
          intro y
          have y2 := Option.some.inj y
          rw [y2, hp] at a7
          exact q (Option.some.inj a7).symm
      · obtain ⟨a4, a5⟩ := c.2.1 en
        exact (rl_id (by rw [a4]; exact fun y => by cases y) (by rw [a5]; exact fun y => by cases y)).symm
