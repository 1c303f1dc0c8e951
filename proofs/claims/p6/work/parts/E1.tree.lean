/-! ===== a layout as a tree, apart from class and reference: what stands at each way down from its root ===== -/
/-- the class's part, the reference's node, the pane (none: a split), down, the first one's size, the area's width and height -/
abbrev aI : Type := Nat × Nat × Option Nat × Int × Int × Int × Int
abbrev aT : Type := List Bool → aI
def aL (t : aT) : aT := fun w => t (false :: w)
def aR (t : aT) : aT := fun w => t (true :: w)
def aMk (i : aI) (l r : aT) : aT := fun w => match w with
  | [] => i
  | false :: w => l w
  | true :: w => r w
def aLf (i : aI) : aT := fun _ => i
abbrev tc (t : aT) : Nat := (t []).1
abbrev tm (t : aT) : Nat := (t []).2.1
abbrev tp (t : aT) : Option Nat := (t []).2.2.1
abbrev td (t : aT) : Int := (t []).2.2.2.1
abbrev ta (t : aT) : Int := (t []).2.2.2.2.1
abbrev tw (t : aT) : Int := (t []).2.2.2.2.2.1
abbrev th (t : aT) : Int := (t []).2.2.2.2.2.2
/-- a pane's place, of another size -/
def aSz (t : aT) (u q : Int) : aT := aLf ((t []).1, (t []).2.1, (t []).2.2.1, (t []).2.2.2.1, (t []).2.2.2.2.1, u, q)
theorem aL_mk {i : aI} {l r : aT} : aL (aMk i l r) = l := rfl
theorem aR_mk {i : aI} {l r : aT} : aR (aMk i l r) = r := rfl
theorem aMk_0 {i : aI} {l r : aT} : aMk i l r [] = i := rfl
/-- the sizes of a split's two areas -/
def s1 (d a w h : Int) : Int × Int := if d = 0 then (a, h) else (w, a)
def s2 (d a w h : Int) : Int × Int := if d = 0 then (w - 1 - a, h) else (w, h - 1 - a)
def sx (d a x : Int) : Int := if d = 0 then x + a + 1 else x
def sy (d a y : Int) : Int := if d = 0 then y else y + a + 1
/-- a tree of at most k levels that an area of w by h holds -/
def aOk : Nat → aT → Int → Int → Prop
  | 0, _, _, _ => False
  | k + 1, t, w, h => (1 ≤ w ∧ 1 ≤ h ∧ tw t = w ∧ th t = h) ∧ (tp t = none → (0 ≤ td t ∧ td t ≤ 1) ∧ aOk k (aL t) (s1 (td t) (ta t) w h).1 (s1 (td t) (ta t) w h).2 ∧ aOk k (aR t) (s2 (td t) (ta t) w h).1 (s2 (td t) (ta t) w h).2)
theorem aOk_up : ∀ (k : Nat) (t : aT) (w h : Int), aOk k t w h → aOk (k + 1) t w h
  | 0, _, _, _, z => z.elim
  | k + 1, t, w, h, z => ⟨z.1, fun e => ⟨(z.2 e).1, aOk_up k _ _ _ (z.2 e).2.1, aOk_up k _ _ _ (z.2 e).2.2⟩⟩
theorem aOk_le {k j : Nat} {t : aT} {w h : Int} (z : aOk k t w h) (hj : k ≤ j) : aOk j t w h := by
  induction hj with
  | refl => exact z
  | step _ ih => exact aOk_up _ _ _ _ ih
/-- what stands in a tree: f of each place -/
def aX {α : Type} (f : aI → List α) : Nat → aT → List α
  | 0, _ => []
  | k + 1, t => f (t []) ++ (if tp t = none then aX f k (aL t) ++ aX f k (aR t) else [])
/-- the same, without what hangs at the part o -/
def aXo {α : Type} (f : aI → List α) (o : Nat) : Nat → aT → List α
  | 0, _ => []
  | k + 1, t => if tc t = o then [] else f (t []) ++ (if tp t = none then aXo f o k (aL t) ++ aXo f o k (aR t) else [])
abbrev fc (i : aI) : List Nat := [i.1]
abbrev fm (i : aI) : List Nat := [i.2.1]
abbrev fp (i : aI) : List Nat := i.2.2.1.toList
/-- u hangs in t -/
def aIn (u : aT) : Nat → aT → Prop
  | 0, _ => False
  | k + 1, t => u = t ∨ (tp t = none ∧ (aIn u k (aL t) ∨ aIn u k (aR t)))
/-- u in the place of what hangs at o -/
def aRep (o : Nat) (u : aT) : Nat → aT → aT
  | 0, t => t
  | k + 1, t => if tc t = o then u else if tp t = none then aMk (t []) (aRep o u k (aL t)) (aRep o u k (aR t)) else t
theorem aX_l {α : Type} {f : aI → List α} {k : Nat} {t : aT} (e : tp t = none) : aX f (k + 1) t = f (t []) ++ (aX f k (aL t) ++ aX f k (aR t)) := by
  show f (t []) ++ (if tp t = none then _ else _) = _
  rw [if_pos e]
theorem aX_lc {k : Nat} {t : aT} (e : tp t = none) : aX fc (k + 1) t = tc t :: (aX fc k (aL t) ++ aX fc k (aR t)) := aX_l e
theorem aX_n {α : Type} {f : aI → List α} {k : Nat} {t : aT} (e : ¬ tp t = none) : aX f (k + 1) t = f (t []) := by
  show f (t []) ++ (if tp t = none then _ else _) = _
  rw [if_neg e, List.append_nil]
theorem aXo_0 {α : Type} {f : aI → List α} {k o : Nat} {t : aT} (e : tc t = o) : aXo f o (k + 1) t = [] := by
  show (if tc t = o then _ else _) = _
  rw [if_pos e]
theorem aXo_l {α : Type} {f : aI → List α} {k o : Nat} {t : aT} (e0 : ¬ tc t = o) (e : tp t = none) : aXo f o (k + 1) t = f (t []) ++ (aXo f o k (aL t) ++ aXo f o k (aR t)) := by
  show (if tc t = o then _ else f (t []) ++ (if tp t = none then _ else _)) = _
  rw [if_neg e0, if_pos e]
theorem aXo_n {α : Type} {f : aI → List α} {k o : Nat} {t : aT} (e0 : ¬ tc t = o) (e : ¬ tp t = none) : aXo f o (k + 1) t = f (t []) := by
  show (if tc t = o then _ else f (t []) ++ (if tp t = none then _ else _)) = _
  rw [if_neg e0, if_neg e, List.append_nil]
theorem aRep_0 {o k : Nat} {u t : aT} (e : tc t = o) : aRep o u (k + 1) t = u := by
  show (if tc t = o then _ else _) = _
  rw [if_pos e]
theorem aRep_l {o k : Nat} {u t : aT} (e0 : ¬ tc t = o) (e : tp t = none) : aRep o u (k + 1) t = aMk (t []) (aRep o u k (aL t)) (aRep o u k (aR t)) := by
  show (if tc t = o then _ else if tp t = none then _ else _) = _
  rw [if_neg e0, if_pos e]
theorem aRep_n {o k : Nat} {u t : aT} (e0 : ¬ tc t = o) (e : ¬ tp t = none) : aRep o u (k + 1) t = t := by
  show (if tc t = o then _ else if tp t = none then _ else _) = _
  rw [if_neg e0, if_neg e]
theorem aXo_sub {α : Type} {f : aI → List α} {o : Nat} : ∀ (k : Nat) (t : aT) (b : α), b ∈ aXo f o k t → b ∈ aX f k t
  | 0, _, _, h => h
  | k + 1, t, b, h => by
    by_cases e0 : tc t = o
    · rw [aXo_0 e0] at h; cases h
    · by_cases e : tp t = none
      · rw [aXo_l e0 e] at h
        rw [aX_l e]
        rcases List.mem_append.mp h with z | z
        · exact List.mem_append_left _ z
        · refine List.mem_append_right _ (List.mem_append.mpr ?_)
          rcases List.mem_append.mp z with z | z
          · exact Or.inl (aXo_sub k _ b z)
          · exact Or.inr (aXo_sub k _ b z)
      · rw [aXo_n e0 e] at h
        rw [aX_n e]
        exact h
/-- what hangs in t stands in it -/
theorem aIn_sub {α : Type} {f : aI → List α} {u : aT} : ∀ (k : Nat) (t : aT), aIn u k t → ∃ j, 0 < j ∧ j ≤ k ∧ ∀ b, b ∈ aX f j u → b ∈ aX f k t
  | 0, _, h => h.elim
  | k + 1, t, h => by
    rcases h with h | ⟨e, h | h⟩
    · subst h; exact ⟨k + 1, by omega, Nat.le_refl _, fun b z => z⟩
    · obtain ⟨j, j0, j1, j2⟩ := aIn_sub (f := f) k _ h
      exact ⟨j, j0, by omega, fun b z => by rw [aX_l e]; exact List.mem_append_right _ (List.mem_append_left _ (j2 b z))⟩
    · obtain ⟨j, j0, j1, j2⟩ := aIn_sub (f := f) k _ h
      exact ⟨j, j0, by omega, fun b z => by rw [aX_l e]; exact List.mem_append_right _ (List.mem_append_right _ (j2 b z))⟩
theorem aX_root {k : Nat} {t : aT} (hk : 0 < k) : tc t ∈ aX fc k t := by
  obtain ⟨j, rfl⟩ : ∃ j, k = j + 1 := ⟨k - 1, by omega⟩
  exact List.mem_append_left _ List.mem_cons_self
theorem aIn_c {u : aT} {k : Nat} {t : aT} (h : aIn u k t) : tc u ∈ aX fc k t := by
  obtain ⟨j, j0, _, j2⟩ := aIn_sub (f := fc) k t h
  exact j2 _ (aX_root j0)
/-- one place alone has the part o -/
theorem aIn_one {u v : aT} : ∀ (k : Nat) (t : aT), (aX fc k t).Nodup → aIn u k t → aIn v k t → tc u = tc v → u = v
  | 0, _, _, h, _, _ => h.elim
  | k + 1, t, nd, h1, h2, e => by
    rcases h1 with h1 | ⟨e1, h1⟩
    · rcases h2 with h2 | ⟨e2, h2⟩
      · rw [h1, h2]
      · exfalso
        rw [aX_lc e2] at nd
        refine (List.nodup_cons.mp nd).1 ?_
        rw [show tc t = tc v from (congrArg (fun x : aT => tc x) h1.symm).trans e]
        rcases h2 with h2 | h2
        · exact List.mem_append_left _ (aIn_c h2)
        · exact List.mem_append_right _ (aIn_c h2)
    · rcases h2 with h2 | ⟨e2, h2⟩
      · exfalso
        rw [aX_lc e1] at nd
        refine (List.nodup_cons.mp nd).1 ?_
        rw [show tc t = tc u from (congrArg (fun x : aT => tc x) h2.symm).trans e.symm]
        rcases h1 with h1 | h1
        · exact List.mem_append_left _ (aIn_c h1)
        · exact List.mem_append_right _ (aIn_c h1)
      · rw [aX_lc e1] at nd
        obtain ⟨n1, n2, n3⟩ := List.nodup_append.mp (List.nodup_cons.mp nd).2
        rcases h1 with h1 | h1
        · rcases h2 with h2 | h2
          · exact aIn_one k _ n1 h1 h2 e
          · exact absurd e (n3 _ (aIn_c h1) _ (aIn_c h2))
        · rcases h2 with h2 | h2
          · exact absurd e.symm (n3 _ (aIn_c h2) _ (aIn_c h1))
          · exact aIn_one k _ n2 h1 h2 e
/-- more levels say no more -/
theorem aX_lev {α : Type} {f : aI → List α} : ∀ (k : Nat) (t : aT) (w h : Int), aOk k t w h → ∀ j, k ≤ j → aX f j t = aX f k t
  | 0, _, _, _, z, _, _ => z.elim
  | k + 1, t, w, h, z, j, hj => by
    obtain ⟨i, rfl⟩ : ∃ i, j = i + 1 := ⟨j - 1, by omega⟩
    by_cases e : tp t = none
    · rw [aX_l e, aX_l e, aX_lev k _ _ _ (z.2 e).2.1 i (by omega), aX_lev k _ _ _ (z.2 e).2.2 i (by omega)]
    · rw [aX_n e, aX_n e]
theorem aIn_lev {u : aT} : ∀ (k : Nat) (t : aT) (w h : Int), aOk k t w h → ∀ j, k ≤ j → (aIn u j t ↔ aIn u k t)
  | 0, _, _, _, z, _, _ => z.elim
  | k + 1, t, w, h, z, j, hj => by
    obtain ⟨i, rfl⟩ : ∃ i, j = i + 1 := ⟨j - 1, by omega⟩
    show (u = t ∨ (tp t = none ∧ (aIn u i (aL t) ∨ aIn u i (aR t)))) ↔ (u = t ∨ (tp t = none ∧ (aIn u k (aL t) ∨ aIn u k (aR t))))
    by_cases e : tp t = none
    · rw [aIn_lev k _ _ _ (z.2 e).2.1 i (by omega), aIn_lev k _ _ _ (z.2 e).2.2 i (by omega)]
    · exact ⟨fun h => h.elim Or.inl (fun h => absurd h.1 e), fun h => h.elim Or.inl (fun h => absurd h.1 e)⟩
/-- as many levels as panes are enough -/
theorem aOk_p : ∀ (k : Nat) (t : aT) (w h : Int), aOk k t w h → 1 ≤ (aX fp k t).length ∧ aOk (aX fp k t).length t w h
  | 0, _, _, _, z => z.elim
  | k + 1, t, w, h, z => by
    by_cases e : tp t = none
    · obtain ⟨a1, a2⟩ := aOk_p k _ _ _ (z.2 e).2.1
      obtain ⟨b1, b2⟩ := aOk_p k _ _ _ (z.2 e).2.2
      rw [aX_l e, show fp (t []) = [] by show (t []).2.2.1.toList = []; rw [show (t []).2.2.1 = none from e]; rfl, List.nil_append, List.length_append]
      generalize (aX fp k (aL t)).length = x at a1 a2 ⊢
      generalize (aX fp k (aR t)).length = y at b1 b2 ⊢
      obtain ⟨i, hi⟩ : ∃ i, x + y = i + 1 := ⟨x + y - 1, by omega⟩
      rw [hi]
      exact ⟨by omega, z.1, fun _ => ⟨(z.2 e).1, aOk_le a2 (by omega), aOk_le b2 (by omega)⟩⟩
    · obtain ⟨p, hp⟩ := Option.ne_none_iff_exists'.mp e
      rw [aX_n e, show fp (t []) = [p] by show (t []).2.2.1.toList = [p]; rw [show (t []).2.2.1 = some p from hp]; rfl]
      exact ⟨Nat.le_refl _, z.1, fun e2 => absurd e2 e⟩
theorem aIn_ok {v : aT} : ∀ (k : Nat) (t : aT) (w h : Int), aOk k t w h → aIn v k t → ∃ j w' h', (0 < j ∧ j ≤ k) ∧ aOk j v w' h' ∧ ∀ {α : Type} (f : aI → List α) (b : α), b ∈ aX f j v → b ∈ aX f k t
  | 0, _, _, _, z, _ => z.elim
  | k + 1, t, w, h, z, hv => by
    rcases hv with hv | ⟨e, hv | hv⟩
    · subst hv; exact ⟨k + 1, w, h, ⟨by omega, Nat.le_refl _⟩, z, fun _ _ y => y⟩
    · obtain ⟨j, w', h', hj, hok, hm⟩ := aIn_ok k _ _ _ (z.2 e).2.1 hv
      exact ⟨j, w', h', ⟨hj.1, by omega⟩, hok, fun f b y => by rw [aX_l e]; exact List.mem_append_right _ (List.mem_append_left _ (hm f b y))⟩
    · obtain ⟨j, w', h', hj, hok, hm⟩ := aIn_ok k _ _ _ (z.2 e).2.2 hv
      exact ⟨j, w', h', ⟨hj.1, by omega⟩, hok, fun f b y => by rw [aX_l e]; exact List.mem_append_right _ (List.mem_append_right _ (hm f b y))⟩
theorem aIn_x {v : aT} {k : Nat} {t : aT} {w h : Int} (z : aOk k t w h) (hv : aIn v k t) {α : Type} {f : aI → List α} {b : α} {j : Nat} (hj : k ≤ j) (hb : b ∈ aX f j v) : b ∈ aX f k t := by
  obtain ⟨i, w', h', hi, hok, hm⟩ := aIn_ok k t w h z hv
  rw [aX_lev i v w' h' hok j (by omega)] at hb
  exact hm f b hb
theorem aIn_xe {v : aT} {k : Nat} {t : aT} {w h : Int} (z : aOk k t w h) (hv : aIn v k t) {α : Type} {f : aI → List α} {j : Nat} (hj : k ≤ j) : aX f j v = aX f k v := by
  obtain ⟨i, w', h', hi, hok, hm⟩ := aIn_ok k t w h z hv
  rw [aX_lev i v w' h' hok j (by omega), aX_lev i v w' h' hok k (by omega)]
/-- nothing outside of what hangs at o hangs there -/
theorem aXo_dis {α : Type} {f : aI → List α} {v : aT} : ∀ (k : Nat) (t : aT) (w h : Int), aOk k t w h → (aX f k t).Nodup → aIn v k t → ∀ b, b ∈ aXo f (tc v) k t → b ∉ aX f k v
  | 0, _, _, _, z, _, _, _, _ => z.elim
  | k + 1, t, w, h, z, nd, hv, b, hb => by
    by_cases e0 : tc t = tc v
    · rw [aXo_0 e0] at hb; cases hb
    · rcases hv with hv | ⟨e, hv⟩
      · exact absurd (congrArg tc hv.symm) e0
      · rw [aX_l e] at nd
        rw [aXo_l e0 e] at hb
        obtain ⟨-, n2, n3⟩ := List.nodup_append.mp nd
        obtain ⟨m1, m2, m3⟩ := List.nodup_append.mp n2
        intro hx
        rcases hv with hv | hv
        · have ok1 := (z.2 e).2.1
          have hx1 := aIn_x ok1 hv (Nat.le_succ k) hx
          rcases List.mem_append.mp hb with y | y
          · exact n3 b y b (List.mem_append_left _ hx1) rfl
          · rcases List.mem_append.mp y with y | y
            · rw [aIn_xe ok1 hv (Nat.le_succ k)] at hx
              exact aXo_dis k _ _ _ ok1 m1 hv b y hx
            · exact m3 b hx1 b (aXo_sub k _ b y) rfl
        · have ok1 := (z.2 e).2.2
          have hx1 := aIn_x ok1 hv (Nat.le_succ k) hx
          rcases List.mem_append.mp hb with y | y
          · exact n3 b y b (List.mem_append_right _ hx1) rfl
          · rcases List.mem_append.mp y with y | y
            · exact m3 b (aXo_sub k _ b y) b hx1 rfl
            · rw [aIn_xe ok1 hv (Nat.le_succ k)] at hx
              exact aXo_dis k _ _ _ ok1 m2 hv b y hx
theorem aMk_eta {t : aT} : aMk (t []) (aL t) (aR t) = t := funext (fun w => match w with
  | [] => rfl
  | false :: _ => rfl
  | true :: _ => rfl)
theorem aRep_id {o : Nat} {u : aT} : ∀ (k : Nat) (t : aT), o ∉ aX fc k t → aRep o u k t = t
  | 0, _, _ => rfl
  | k + 1, t, h => by
    have e0 : ¬ tc t = o := fun z => h (z ▸ List.mem_append_left _ List.mem_cons_self)
    by_cases e : tp t = none
    · rw [aX_l e] at h
      rw [aRep_l e0 e, aRep_id k _ (fun z => h (List.mem_append_right _ (List.mem_append_left _ z))), aRep_id k _ (fun z => h (List.mem_append_right _ (List.mem_append_right _ z)))]
      exact aMk_eta
    · exact aRep_n e0 e
theorem aXo_id {α : Type} {f : aI → List α} {o : Nat} : ∀ (k : Nat) (t : aT), o ∉ aX fc k t → aXo f o k t = aX f k t
  | 0, _, _ => rfl
  | k + 1, t, h => by
    have e0 : ¬ tc t = o := fun z => h (z ▸ List.mem_append_left _ List.mem_cons_self)
    by_cases e : tp t = none
    · rw [aX_l e] at h
      rw [aXo_l e0 e, aX_l e, aXo_id k _ (fun z => h (List.mem_append_right _ (List.mem_append_left _ z))), aXo_id k _ (fun z => h (List.mem_append_right _ (List.mem_append_right _ z)))]
    · rw [aXo_n e0 e, aX_n e]
/-- the other side of a split doesn't have it -/
theorem aIn_sides {v : aT} {k : Nat} {t : aT} (nd : (aX fc (k + 1) t).Nodup) (e : tp t = none) : (aIn v k (aL t) → tc v ∉ aX fc k (aR t)) ∧ (aIn v k (aR t) → tc v ∉ aX fc k (aL t)) := by
  rw [aX_lc e] at nd
  obtain ⟨-, -, n3⟩ := List.nodup_append.mp (List.nodup_cons.mp nd).2
  exact ⟨fun h z => n3 _ (aIn_c h) _ z rfl, fun h z => n3 _ z _ (aIn_c h) rfl⟩
theorem aNd {α : Type} {f : aI → List α} {k : Nat} {t : aT} (nd : (aX f (k + 1) t).Nodup) (e : tp t = none) : (aX f k (aL t)).Nodup ∧ (aX f k (aR t)).Nodup := by
  rw [aX_l e] at nd
  obtain ⟨-, n2, -⟩ := List.nodup_append.mp nd
  obtain ⟨m1, m2, -⟩ := List.nodup_append.mp n2
  exact ⟨m1, m2⟩
/-- what is put in its place keeps to its sizes -/
abbrev aFits (v u : aT) : Prop := ∀ k w h, aOk k v w h → aOk (k + 1) u w h
theorem aRep_ok {v u : aT} (hu : aFits v u) : ∀ (k : Nat) (t : aT) (w h : Int), aOk k t w h → (aX fc k t).Nodup → aIn v k t → aOk (k + 1) (aRep (tc v) u k t) w h
  | 0, _, _, _, z, _, _ => z.elim
  | k + 1, t, w, h, z, nd, hv => by
    by_cases e0 : tc t = tc v
    · rw [aRep_0 e0]
      have et : t = v := aIn_one (k + 1) t nd (Or.inl rfl) hv e0
      subst et
      exact hu _ _ _ z
    · rcases hv with hv | ⟨e, hv⟩
      · exact absurd (congrArg tc hv.symm) e0
      · rw [aRep_l e0 e]
        obtain ⟨n1, n2⟩ := aNd nd e
        have ns := @aIn_sides v k t nd e
        refine ⟨z.1, fun _ => ⟨(z.2 e).1, ?_, ?_⟩⟩
        · rw [aL_mk]
          rcases hv with hv | hv
          · exact aRep_ok hu k _ _ _ (z.2 e).2.1 n1 hv
          · rw [aRep_id k _ (ns.2 hv)]; exact aOk_up _ _ _ _ (z.2 e).2.1
        · rw [aR_mk]
          rcases hv with hv | hv
          · rw [aRep_id k _ (ns.1 hv)]; exact aOk_up _ _ _ _ (z.2 e).2.2
          · exact aRep_ok hu k _ _ _ (z.2 e).2.2 n2 hv
theorem aX_iff {α : Type} {f : aI → List α} {v : aT} : ∀ (k : Nat) (t : aT) (w h : Int), aOk k t w h → (aX fc k t).Nodup → aIn v k t → ∀ b, b ∈ aX f k t ↔ (b ∈ aXo f (tc v) k t ∨ b ∈ aX f k v)
  | 0, _, _, _, z, _, _, _ => z.elim
  | k + 1, t, w, h, z, nd, hv, b => by
    by_cases e0 : tc t = tc v
    · have et : t = v := aIn_one (k + 1) t nd (Or.inl rfl) hv e0
      subst et
      rw [aXo_0 rfl]
      exact ⟨Or.inr, fun h => h.elim (fun h => by cases h) id⟩
    · rcases hv with hv | ⟨e, hv⟩
      · exact absurd (congrArg tc hv.symm) e0
      · obtain ⟨n1, n2⟩ := aNd nd e
        have ns := @aIn_sides v k t nd e
        rw [aX_l e, aXo_l e0 e, List.mem_append, List.mem_append, List.mem_append, List.mem_append]
        rcases hv with hv | hv
        · rw [aX_iff k _ _ _ (z.2 e).2.1 n1 hv b, aXo_id k _ (ns.1 hv), aIn_xe (z.2 e).2.1 hv (Nat.le_succ k)]
          constructor
          · rintro (y | (y | y) | y)
            · exact Or.inl (Or.inl y)
            · exact Or.inl (Or.inr (Or.inl y))
            · exact Or.inr y
            · exact Or.inl (Or.inr (Or.inr y))
          · rintro ((y | y | y) | y)
            · exact Or.inl y
            · exact Or.inr (Or.inl (Or.inl y))
            · exact Or.inr (Or.inr y)
            · exact Or.inr (Or.inl (Or.inr y))
        · rw [aX_iff k _ _ _ (z.2 e).2.2 n2 hv b, aXo_id k _ (ns.2 hv), aIn_xe (z.2 e).2.2 hv (Nat.le_succ k)]
          constructor
          · rintro (y | y | y | y)
            · exact Or.inl (Or.inl y)
            · exact Or.inl (Or.inr (Or.inl y))
            · exact Or.inl (Or.inr (Or.inr y))
            · exact Or.inr y
          · rintro ((y | y | y) | y)
            · exact Or.inl y
            · exact Or.inr (Or.inl y)
            · exact Or.inr (Or.inr (Or.inl y))
            · exact Or.inr (Or.inr (Or.inr y))
theorem aFits_x {v u : aT} (hu : aFits v u) {k : Nat} {t : aT} {w h : Int} (z : aOk k t w h) (hv : aIn v k t) {α : Type} {f : aI → List α} {j : Nat} (hj : k + 1 ≤ j) : aX f j u = aX f (k + 1) u := by
  obtain ⟨i, w', h', hi, hok, -⟩ := aIn_ok k t w h z hv
  rw [aX_lev (i + 1) u w' h' (hu _ _ _ hok) j (by omega), aX_lev (i + 1) u w' h' (hu _ _ _ hok) (k + 1) (by omega)]
theorem aRep_iff {α : Type} {f : aI → List α} {v u : aT} (hu : aFits v u) : ∀ (k : Nat) (t : aT) (w h : Int), aOk k t w h → (aX fc k t).Nodup → aIn v k t → ∀ b, b ∈ aX f (k + 1) (aRep (tc v) u k t) ↔ (b ∈ aXo f (tc v) k t ∨ b ∈ aX f (k + 1) u)
  | 0, _, _, _, z, _, _, _ => z.elim
  | k + 1, t, w, h, z, nd, hv, b => by
    by_cases e0 : tc t = tc v
    · rw [aRep_0 e0, aXo_0 e0]
      exact ⟨Or.inr, fun h => h.elim (fun h => by cases h) id⟩
    · rcases hv with hv | ⟨e, hv⟩
      · exact absurd (congrArg tc hv.symm) e0
      · obtain ⟨n1, n2⟩ := aNd nd e
        have ns := @aIn_sides v k t nd e
        rw [aRep_l e0 e, aX_l (show tp (aMk (t []) _ _) = none from e), aXo_l e0 e, aL_mk, aR_mk, aMk_0, List.mem_append, List.mem_append, List.mem_append, List.mem_append]
        rcases hv with hv | hv
        · rw [aRep_iff hu k _ _ _ (z.2 e).2.1 n1 hv b, aRep_id k _ (ns.1 hv), aXo_id k _ (ns.1 hv), aX_lev k _ _ _ (z.2 e).2.2 (k + 1) (Nat.le_succ k), aFits_x hu (z.2 e).2.1 hv (Nat.le_succ (k + 1))]
          constructor
          · rintro (y | (y | y) | y)
            · exact Or.inl (Or.inl y)
            · exact Or.inl (Or.inr (Or.inl y))
            · exact Or.inr y
            · exact Or.inl (Or.inr (Or.inr y))
          · rintro ((y | y | y) | y)
            · exact Or.inl y
            · exact Or.inr (Or.inl (Or.inl y))
            · exact Or.inr (Or.inr y)
            · exact Or.inr (Or.inl (Or.inr y))
        · rw [aRep_iff hu k _ _ _ (z.2 e).2.2 n2 hv b, aRep_id k _ (ns.2 hv), aXo_id k _ (ns.2 hv), aX_lev k _ _ _ (z.2 e).2.1 (k + 1) (Nat.le_succ k), aFits_x hu (z.2 e).2.2 hv (Nat.le_succ (k + 1))]
          constructor
          · rintro (y | y | y | y)
            · exact Or.inl (Or.inl y)
            · exact Or.inl (Or.inr (Or.inl y))
            · exact Or.inl (Or.inr (Or.inr y))
            · exact Or.inr y
          · rintro ((y | y | y) | y)
            · exact Or.inl y
            · exact Or.inr (Or.inl y)
            · exact Or.inr (Or.inr (Or.inl y))
            · exact Or.inr (Or.inr (Or.inr y))
theorem aRep_nd {α : Type} {f : aI → List α} {v u : aT} (hu : aFits v u) : ∀ (k : Nat) (t : aT) (w h : Int), aOk k t w h → (aX fc k t).Nodup → (aX f k t).Nodup → aIn v k t → (aX f (k + 1) u).Nodup → (∀ b, b ∈ aXo f (tc v) k t → b ∉ aX f (k + 1) u) → (aX f (k + 1) (aRep (tc v) u k t)).Nodup
  | 0, _, _, _, z, _, _, _, _, _ => z.elim
  | k + 1, t, w, h, z, nd, ndf, hv, ndu, hd => by
    by_cases e0 : tc t = tc v
    · rw [aRep_0 e0]; exact ndu
    · rcases hv with hv | ⟨e, hv⟩
      · exact absurd (congrArg tc hv.symm) e0
      · obtain ⟨n1, n2⟩ := aNd nd e
        have ns := @aIn_sides v k t nd e
        rw [aXo_l e0 e] at hd
        rw [aX_l e] at ndf
        obtain ⟨m1, m2, m3⟩ := List.nodup_append.mp ndf
        obtain ⟨p1, p2, p3⟩ := List.nodup_append.mp m2
        rw [aRep_l e0 e, aX_l (show tp (aMk (t []) _ _) = none from e), aL_mk, aR_mk, aMk_0]
        rcases hv with hv | hv
        · have eu := aFits_x (f := f) hu (z.2 e).2.1 hv (Nat.le_succ (k + 1))
          rw [eu] at ndu hd
          have it := aRep_iff (f := f) hu k _ _ _ (z.2 e).2.1 n1 hv
          have ih := aRep_nd (f := f) hu k _ _ _ (z.2 e).2.1 n1 p1 hv ndu (fun b hb => hd b (List.mem_append_right _ (List.mem_append_left _ hb)))
          rw [aRep_id k _ (ns.1 hv), aX_lev k _ _ _ (z.2 e).2.2 (k + 1) (Nat.le_succ k)]
          rw [aXo_id k _ (ns.1 hv)] at hd
          refine List.nodup_append.mpr ⟨m1, List.nodup_append.mpr ⟨ih, p2, fun a ha b hb ab => ?_⟩, fun a ha b hb ab => ?_⟩
          · subst ab
            rcases (it a).mp ha with y | y
            · exact p3 a (aXo_sub k _ a y) a hb rfl
            · exact hd a (List.mem_append_right _ (List.mem_append_right _ hb)) y
          · subst ab
            rcases List.mem_append.mp hb with y | y
            · rcases (it a).mp y with y | y
              · exact m3 a ha a (List.mem_append_left _ (aXo_sub k _ a y)) rfl
              · exact hd a (List.mem_append_left _ ha) y
            · exact m3 a ha a (List.mem_append_right _ y) rfl
        · have eu := aFits_x (f := f) hu (z.2 e).2.2 hv (Nat.le_succ (k + 1))
          rw [eu] at ndu hd
          have it := aRep_iff (f := f) hu k _ _ _ (z.2 e).2.2 n2 hv
          have ih := aRep_nd (f := f) hu k _ _ _ (z.2 e).2.2 n2 p2 hv ndu (fun b hb => hd b (List.mem_append_right _ (List.mem_append_right _ hb)))
          rw [aRep_id k _ (ns.2 hv), aX_lev k _ _ _ (z.2 e).2.1 (k + 1) (Nat.le_succ k)]
          rw [aXo_id k _ (ns.2 hv)] at hd
          refine List.nodup_append.mpr ⟨m1, List.nodup_append.mpr ⟨p1, ih, fun a ha b hb ab => ?_⟩, fun a ha b hb ab => ?_⟩
          · subst ab
            rcases (it a).mp hb with y | y
            · exact p3 a ha a (aXo_sub k _ a y) rfl
            · exact hd a (List.mem_append_right _ (List.mem_append_left _ ha)) y
          · subst ab
            rcases List.mem_append.mp hb with y | y
            · exact m3 a ha a (List.mem_append_left _ y) rfl
            · rcases (it a).mp y with y | y
              · exact m3 a ha a (List.mem_append_right _ (aXo_sub k _ a y)) rfl
              · exact hd a (List.mem_append_left _ ha) y
/-- a pane has its place, and unless that is the root a split above it -/
theorem aP_in {p : Nat} : ∀ (k : Nat) (t : aT), p ∈ aX fp k t → ∃ v, aIn v k t ∧ tp v = some p
  | 0, _, h => by cases h
  | k + 1, t, h => by
    by_cases e : tp t = none
    · rw [aX_l e, show fp (t []) = [] by show (t []).2.2.1.toList = []; rw [show (t []).2.2.1 = none from e]; rfl, List.nil_append] at h
      rcases List.mem_append.mp h with y | y
      · obtain ⟨v, h1, h2⟩ := aP_in k _ y
        exact ⟨v, Or.inr ⟨e, Or.inl h1⟩, h2⟩
      · obtain ⟨v, h1, h2⟩ := aP_in k _ y
        exact ⟨v, Or.inr ⟨e, Or.inr h1⟩, h2⟩
    · rw [aX_n e] at h
      refine ⟨t, Or.inl rfl, ?_⟩
      obtain ⟨q, hq⟩ := Option.ne_none_iff_exists'.mp e
      rw [show fp (t []) = [q] by show (t []).2.2.1.toList = [q]; rw [show (t []).2.2.1 = some q from hq]; rfl] at h
      rw [List.mem_singleton] at h
      rw [h]; exact hq
theorem aUp {v : aT} : ∀ (k : Nat) (t : aT), aIn v k t → v = t ∨ ∃ u, aIn u k t ∧ tp u = none ∧ (aL u = v ∨ aR u = v)
  | 0, _, h => h.elim
  | k + 1, t, h => by
    rcases h with h | ⟨e, h | h⟩
    · exact Or.inl h
    · right
      rcases aUp k _ h with y | ⟨u, h1, h2, h3⟩
      · exact ⟨t, Or.inl rfl, e, Or.inl y.symm⟩
      · exact ⟨u, Or.inr ⟨e, Or.inl h1⟩, h2, h3⟩
    · right
      rcases aUp k _ h with y | ⟨u, h1, h2, h3⟩
      · exact ⟨t, Or.inl rfl, e, Or.inr y.symm⟩
      · exact ⟨u, Or.inr ⟨e, Or.inr h1⟩, h2, h3⟩
/-! a tree placed anew -/
def aKept (len now a : Int) : Int := (now - 1) * a / (len - 1)
def aPl : Nat → aT → Int → Int → Int → Int → aT
  | 0, t, _, _, _, _ => t
  | k + 1, t, w, h, u, q => if tp t = none then (if td t = 0 then aMk ((t []).1, (t []).2.1, none, 0, aKept w u (ta t), u, q) (aPl k (aL t) (ta t) h (aKept w u (ta t)) q) (aPl k (aR t) (w - 1 - ta t) h (u - 1 - aKept w u (ta t)) q)
      else aMk ((t []).1, (t []).2.1, none, td t, aKept h q (ta t), u, q) (aPl k (aL t) w (ta t) u (aKept h q (ta t))) (aPl k (aR t) w (h - 1 - ta t) u (q - 1 - aKept h q (ta t)))) else aSz t u q
theorem aKept_b {lx ly len now : Int} (h1 : 1 ≤ lx) (h2 : 1 ≤ ly) (h3 : lx + 1 + ly = len) (h4 : len ≤ now) : lx ≤ aKept len now lx ∧ aKept len now lx ≤ now - 1 - ly := by
  unfold aKept
  constructor
  · refine (Int.le_ediv_iff_mul_le (by omega)).mpr ?_
    rw [Int.mul_comm lx]
    exact Int.mul_le_mul_of_nonneg_right (by omega) (by omega)
  · refine Int.ediv_le_of_le_mul (by omega) ?_
    have z := Int.mul_le_mul_of_nonneg_left (show lx + ly ≤ now - 1 by omega) (show 0 ≤ ly by omega)
    rw [show len - 1 = lx + ly by omega, Int.sub_mul (now - 1) ly (lx + ly), Int.mul_add (now - 1) lx ly]
    rw [Int.mul_comm ly (now - 1)] at z
    omega
theorem aPl_n {k : Nat} {t : aT} {w h u q : Int} (e : ¬ tp t = none) : aPl (k + 1) t w h u q = aSz t u q := by
  show (if tp t = none then _ else _) = _
  rw [if_neg e]
theorem aPl_0 {k : Nat} {t : aT} {w h u q : Int} (e : tp t = none) (d : td t = 0) : aPl (k + 1) t w h u q = aMk ((t []).1, (t []).2.1, none, 0, aKept w u (ta t), u, q) (aPl k (aL t) (ta t) h (aKept w u (ta t)) q) (aPl k (aR t) (w - 1 - ta t) h (u - 1 - aKept w u (ta t)) q) := by
  show (if tp t = none then (if td t = 0 then _ else _) else _) = _
  rw [if_pos e, if_pos d]
theorem aPl_1 {k : Nat} {t : aT} {w h u q : Int} (e : tp t = none) (d : ¬ td t = 0) : aPl (k + 1) t w h u q = aMk ((t []).1, (t []).2.1, none, td t, aKept h q (ta t), u, q) (aPl k (aL t) w (ta t) u (aKept h q (ta t))) (aPl k (aR t) w (h - 1 - ta t) u (q - 1 - aKept h q (ta t))) := by
  show (if tp t = none then (if td t = 0 then _ else _) else _) = _
  rw [if_pos e, if_neg d]
theorem aPl_c {k : Nat} {t : aT} {w h u q : Int} : (aPl k t w h u q []).1 = (t []).1 ∧ (aPl k t w h u q []).2.1 = (t []).2.1 ∧ (aPl k t w h u q []).2.2.1 = (t []).2.2.1 := by
  cases k with
  | zero => exact ⟨rfl, rfl, rfl⟩
  | succ k =>
    by_cases e : tp t = none
    · by_cases d : td t = 0
      · rw [aPl_0 e d]; exact ⟨rfl, rfl, e.symm⟩
      · rw [aPl_1 e d]; exact ⟨rfl, rfl, e.symm⟩
    · rw [aPl_n e]; exact ⟨rfl, rfl, rfl⟩
theorem aOk_1 {k : Nat} {t : aT} {w h : Int} (z : aOk k t w h) : 1 ≤ w ∧ 1 ≤ h := by
  cases k with
  | zero => exact z.elim
  | succ k => exact ⟨z.1.1, z.1.2.1⟩
theorem aOk_sz {k : Nat} {t : aT} {w h : Int} (z : aOk k t w h) : tw t = w ∧ th t = h := by
  cases k with
  | zero => exact z.elim
  | succ k => exact z.1.2.2
/-- the split's sizes, its direction known -/
theorem aOk_0 {k : Nat} {t : aT} {w h : Int} (z : aOk (k + 1) t w h) (e : tp t = none) (d : td t = 0) : aOk k (aL t) (ta t) h ∧ aOk k (aR t) (w - 1 - ta t) h := by
  have y := (z.2 e).2
  unfold s1 s2 at y
  rw [if_pos d, if_pos d] at y
  exact y
theorem aOk_d {k : Nat} {t : aT} {w h : Int} (z : aOk (k + 1) t w h) (e : tp t = none) (d : ¬ td t = 0) : td t = 1 ∧ aOk k (aL t) w (ta t) ∧ aOk k (aR t) w (h - 1 - ta t) := by
  have x := (z.2 e).1
  have y := (z.2 e).2
  unfold s1 s2 at y
  rw [if_neg d, if_neg d] at y
  exact ⟨by omega, y⟩
theorem aOk_m0 {k : Nat} {i : aI} {l r : aT} {w h : Int} (hp : i.2.2.1 = none) (d : i.2.2.2.1 = 0) (hw : 1 ≤ w ∧ 1 ≤ h) (hsz : i.2.2.2.2.2.1 = w ∧ i.2.2.2.2.2.2 = h) (hl : aOk k l i.2.2.2.2.1 h) (hr : aOk k r (w - 1 - i.2.2.2.2.1) h) : aOk (k + 1) (aMk i l r) w h := by
  refine ⟨⟨hw.1, hw.2, hsz.1, hsz.2⟩, fun _ => ?_⟩
  show (0 ≤ i.2.2.2.1 ∧ i.2.2.2.1 ≤ 1) ∧ aOk k l (s1 i.2.2.2.1 i.2.2.2.2.1 w h).1 (s1 i.2.2.2.1 i.2.2.2.2.1 w h).2 ∧ aOk k r (s2 i.2.2.2.1 i.2.2.2.2.1 w h).1 (s2 i.2.2.2.1 i.2.2.2.2.1 w h).2
  unfold s1 s2
  rw [if_pos d, if_pos d]
  exact ⟨by omega, hl, hr⟩
theorem aOk_m1 {k : Nat} {i : aI} {l r : aT} {w h : Int} (hp : i.2.2.1 = none) (d : i.2.2.2.1 = 1) (hw : 1 ≤ w ∧ 1 ≤ h) (hsz : i.2.2.2.2.2.1 = w ∧ i.2.2.2.2.2.2 = h) (hl : aOk k l w i.2.2.2.2.1) (hr : aOk k r w (h - 1 - i.2.2.2.2.1)) : aOk (k + 1) (aMk i l r) w h := by
  refine ⟨⟨hw.1, hw.2, hsz.1, hsz.2⟩, fun _ => ?_⟩
  show (0 ≤ i.2.2.2.1 ∧ i.2.2.2.1 ≤ 1) ∧ aOk k l (s1 i.2.2.2.1 i.2.2.2.2.1 w h).1 (s1 i.2.2.2.1 i.2.2.2.2.1 w h).2 ∧ aOk k r (s2 i.2.2.2.1 i.2.2.2.2.1 w h).1 (s2 i.2.2.2.1 i.2.2.2.2.1 w h).2
  unfold s1 s2
  rw [if_neg (by omega), if_neg (by omega)]
  exact ⟨by omega, hl, hr⟩
theorem aPl_ok : ∀ (k : Nat) (t : aT) (w h u q : Int), aOk k t w h → w ≤ u → h ≤ q → aOk k (aPl k t w h u q) u q
  | 0, _, _, _, _, _, z, _, _ => z.elim
  | k + 1, t, w, h, u, q, z, hu, hq => by
    by_cases e : tp t = none
    · by_cases d : td t = 0
      · obtain ⟨z1, z2⟩ := aOk_0 z e d
        have b1 := aOk_1 z1
        have b2 := aOk_1 z2
        have kb := aKept_b (lx := ta t) (ly := w - 1 - ta t) (len := w) (now := u) b1.1 b2.1 (by omega) hu
        rw [aPl_0 e d]
        exact aOk_m0 rfl rfl ⟨by have := z.1; omega, by have := z.1; omega⟩ ⟨rfl, rfl⟩ (aPl_ok k _ _ _ _ _ z1 kb.1 hq) (aPl_ok k _ _ _ _ _ z2 (by omega) hq)
      · obtain ⟨d1, z1, z2⟩ := aOk_d z e d
        have b1 := aOk_1 z1
        have b2 := aOk_1 z2
        have kb := aKept_b (lx := ta t) (ly := h - 1 - ta t) (len := h) (now := q) b1.2 b2.2 (by omega) hq
        rw [aPl_1 e d]
        exact aOk_m1 rfl d1 ⟨by have := z.1; omega, by have := z.1; omega⟩ ⟨rfl, rfl⟩ (aPl_ok k _ _ _ _ _ z1 hu kb.1) (aPl_ok k _ _ _ _ _ z2 hu (by omega))
    · rw [aPl_n e]
      exact ⟨⟨by have := z.1; omega, by have := z.1; omega, rfl, rfl⟩, fun e2 => absurd e2 e⟩
theorem aPl_x {α : Type} {f : aI → List α} (hf : ∀ i j : aI, i.1 = j.1 → i.2.1 = j.2.1 → i.2.2.1 = j.2.2.1 → f i = f j) : ∀ (k j : Nat) (t : aT) (w h u q : Int), aX f j (aPl k t w h u q) = aX f j t
  | 0, _, _, _, _, _, _ => rfl
  | k + 1, 0, _, _, _, _, _ => rfl
  | k + 1, j + 1, t, w, h, u, q => by
    by_cases e : tp t = none
    · by_cases d : td t = 0
      · rw [aPl_0 e d, aX_l (show tp (aMk _ _ _) = none from rfl), aX_l e, aL_mk, aR_mk, aMk_0, aPl_x hf k j, aPl_x hf k j, hf ((t []).1, (t []).2.1, none, 0, aKept w u (ta t), u, q) (t []) rfl rfl e.symm]
      · rw [aPl_1 e d, aX_l (show tp (aMk _ _ _) = none from rfl), aX_l e, aL_mk, aR_mk, aMk_0, aPl_x hf k j, aPl_x hf k j, hf ((t []).1, (t []).2.1, none, td t, aKept h q (ta t), u, q) (t []) rfl rfl e.symm]
    · rw [aPl_n e, aX_n (show ¬ tp (aSz t u q) = none from e), aX_n e]
      exact hf _ _ rfl rfl rfl
theorem fc_f : ∀ i j : aI, i.1 = j.1 → i.2.1 = j.2.1 → i.2.2.1 = j.2.2.1 → fc i = fc j := fun i j h _ _ => by show [i.1] = [j.1]; rw [h]
theorem fm_f : ∀ i j : aI, i.1 = j.1 → i.2.1 = j.2.1 → i.2.2.1 = j.2.2.1 → fm i = fm j := fun i j _ h _ => by show [i.2.1] = [j.2.1]; rw [h]
theorem fp_f : ∀ i j : aI, i.1 = j.1 → i.2.1 = j.2.1 → i.2.2.1 = j.2.2.1 → fp i = fp j := fun i j _ _ h => by show i.2.2.1.toList = j.2.2.1.toList; rw [h]
