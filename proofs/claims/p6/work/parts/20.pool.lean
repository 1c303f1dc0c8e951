/-! ===== IDS: the cells made since the law began have the ids 0, 1, 2 ..; L gives each id its address ===== -/
abbrev pz_C : Type := (Nat × List Value) ⊕ ((Nat × Nat × (Nat → Int32)) ⊕ ((Nat × Nat × (Nat → Int64)) ⊕ (Nat × Nat × (Nat → Option Nat))))
abbrev pz_H : Type := Nat → pz_C
/-- an object of class ci; ints, longs, references in an array of the type t -/
abbrev pz_o (ci : Nat) (fs : List Value) : pz_C := .inl (ci, fs)
abbrev pz_i (t n : Nat) (f : Nat → Int32) : pz_C := .inr (.inl (t, n, f))
abbrev pz_j (t n : Nat) (f : Nat → Int64) : pz_C := .inr (.inr (.inl (t, n, f)))
abbrev pz_r (t n : Nat) (g : Nat → Option Nat) : pz_C := .inr (.inr (.inr (t, n, g)))
def pz_v (L : Nat → Nat) (v : Value) : Value := match v with
  | .ref k => .ref (L k)
  | .int x => .int x
  | .long x => .long x
  | .float x => .float x
  | .double x => .double x
  | .null => .null
  | .retAddr x => .retAddr x
def pz_e (cA : Nat → ClassId) (L : Nat → Nat) (c : pz_C) : va_E := match c with
  | .inl o => .inr (o.1, o.2.map (pz_v L))
  | .inr (.inl a) => .inl (cA a.1, a.2.1, .inl a.2.2)
  | .inr (.inr (.inl a)) => .inl (cA a.1, a.2.1, .inr (.inl a.2.2))
  | .inr (.inr (.inr a)) => .inl (cA a.1, a.2.1, .inr (.inr (.inr (.inr (fun j => (a.2.2 j).map L)))))
def pz_w (cA : Nat → ClassId) (L : Nat → Nat) (n : Nat) (h : pz_H) : va_W := (List.range n).map (fun k => (L k, pz_e cA L (h k)))
theorem pz_w_get {cA : Nat → ClassId} {L : Nat → Nat} {n k : Nat} {h : pz_H} (hk : k < n) : (pz_w cA L n h)[k]? = some (L k, pz_e cA L (h k)) := by
  simp [pz_w, hk]
theorem pz_w_out {cA : Nat → ClassId} {L : Nat → Nat} {n k : Nat} {h : pz_H} (hk : n ≤ k) : (pz_w cA L n h)[k]? = none := by
  simp [pz_w, hk]
theorem pz_w_len {cA : Nat → ClassId} {L : Nat → Nat} {n : Nat} {h : pz_H} : (pz_w cA L n h).length = n := by
  simp [pz_w]
theorem pz_w_set {cA : Nat → ClassId} {L : Nat → Nat} {n k : Nat} {h : pz_H} {c : pz_C} (hk : k < n) : (pz_w cA L n h).set k (L k, pz_e cA L c) = pz_w cA L n (va_up h k c) := by
  apply List.ext_getElem?
  intro j
  by_cases hj : j = k
  · subst hj
    rw [List.getElem?_set_self (by rw [pz_w_len]; exact hk), pz_w_get hk, va_up_self]
  · rw [List.getElem?_set_ne (Ne.symm hj)]
    by_cases hn : j < n
    · rw [pz_w_get hn, pz_w_get hn, va_up_ne _ _ hj]
    · rw [pz_w_out (by omega), pz_w_out (by omega)]
/-- nothing there names an id that isn't made yet -/
def pz_k (n : Nat) (v : Value) : Prop := match v with
  | .ref k => k < n
  | _ => True
def pz_ks (n : Nat) (st : List Value) : Prop := match st with
  | [] => True
  | v :: r => pz_k n v ∧ pz_ks n r
def pz_kc (n : Nat) (c : pz_C) : Prop := match c with
  | .inl o => pz_ks n o.2
  | .inr (.inr (.inr a)) => ∀ j b, a.2.2 j = some b → b < n
  | _ => True
def pz_kh (n : Nat) (h : pz_H) : Prop := ∀ k, k < n → pz_kc n (h k)
def pz_ag (n : Nat) (L L' : Nat → Nat) : Prop := ∀ k, k < n → L' k = L k
theorem pz_ag_rf {n : Nat} {L : Nat → Nat} : pz_ag n L L := fun _ _ => rfl
theorem pz_ag_tr {n n' : Nat} {L L' L2 : Nat → Nat} (h1 : pz_ag n L L') (h2 : pz_ag n' L' L2) (hn : n ≤ n') : pz_ag n L L2 := fun k hk => (h2 k (Nat.lt_of_lt_of_le hk hn)).trans (h1 k hk)
theorem pz_ag_up {n q : Nat} {L : Nat → Nat} : pz_ag n L (va_up L n q) := fun k hk => va_up_ne L q (Nat.ne_of_lt hk)
theorem pz_k_le {n n' : Nat} {v : Value} (hn : n ≤ n') (h : pz_k n v) : pz_k n' v := by
  cases v <;> first | exact trivial | exact Nat.lt_of_lt_of_le h hn
theorem pz_ks_le {n n' : Nat} (hn : n ≤ n') : ∀ {st : List Value}, pz_ks n st → pz_ks n' st
  | [], _ => trivial
  | _ :: _, h => ⟨pz_k_le hn h.1, pz_ks_le hn h.2⟩
theorem pz_ks_mem {n : Nat} : ∀ {st : List Value}, pz_ks n st → ∀ v ∈ st, pz_k n v
  | [], _, v, hv => absurd hv List.not_mem_nil
  | a :: r, h, v, hv => by
    rcases List.mem_cons.mp hv with e | e
    · rw [e]; exact h.1
    · exact pz_ks_mem h.2 v e
theorem pz_ks_of {n : Nat} : ∀ {st : List Value}, (∀ v ∈ st, pz_k n v) → pz_ks n st
  | [], _ => trivial
  | a :: r, h => ⟨h a List.mem_cons_self, pz_ks_of (fun v hv => h v (List.mem_cons_of_mem _ hv))⟩
theorem pz_kc_le {n n' : Nat} {c : pz_C} (hn : n ≤ n') (h : pz_kc n c) : pz_kc n' c := by
  rcases c with o | a | a | a
  · exact pz_ks_le hn h
  · trivial
  · trivial
  · exact fun j b e => Nat.lt_of_lt_of_le (h j b e) hn
theorem pz_kh_up {n k : Nat} {h : pz_H} {c : pz_C} (hh : pz_kh n h) (hc : pz_kc n c) : pz_kh n (va_up h k c) := fun j hj => by
  by_cases e : j = k
  · subst e; rw [va_up_self]; exact hc
  · rw [va_up_ne _ _ e]; exact hh j hj
theorem pz_kh_push {n : Nat} {h : pz_H} {c : pz_C} (hh : pz_kh n h) (hc : pz_kc (n + 1) c) : pz_kh (n + 1) (va_up h n c) := fun j hj => by
  by_cases e : j = n
  · subst e; rw [va_up_self]; exact hc
  · rw [va_up_ne _ _ e]; exact pz_kc_le (Nat.le_succ n) (hh j (by omega))
theorem pz_v_ag {n : Nat} {L L' : Nat → Nat} {v : Value} (ha : pz_ag n L L') (hv : pz_k n v) : pz_v L' v = pz_v L v := by
  cases v <;> first | rfl | exact congrArg Value.ref (ha _ hv)
theorem pz_vs_ag {n : Nat} {L L' : Nat → Nat} (ha : pz_ag n L L') : ∀ {st : List Value}, pz_ks n st → st.map (pz_v L') = st.map (pz_v L)
  | [], _ => rfl
  | v :: r, h => by
    show pz_v L' v :: r.map (pz_v L') = pz_v L v :: r.map (pz_v L)
    rw [pz_v_ag ha h.1, pz_vs_ag ha h.2]
theorem pz_e_ag {n : Nat} {cA : Nat → ClassId} {L L' : Nat → Nat} {c : pz_C} (ha : pz_ag n L L') (hc : pz_kc n c) : pz_e cA L' c = pz_e cA L c := by
  rcases c with o | a | a | a
  · show Sum.inr (o.1, o.2.map (pz_v L')) = Sum.inr (o.1, o.2.map (pz_v L))
    rw [pz_vs_ag ha hc]
  · rfl
  · rfl
  · show Sum.inl (cA a.1, a.2.1, Sum.inr (Sum.inr (Sum.inr (Sum.inr (fun j => (a.2.2 j).map L'))))) = Sum.inl (cA a.1, a.2.1, Sum.inr (Sum.inr (Sum.inr (Sum.inr (fun j => (a.2.2 j).map L)))))
    have e : (fun j => (a.2.2 j).map L') = (fun j => (a.2.2 j).map L) := by
      funext j
      cases hb : a.2.2 j with
      | none => rfl
      | some b => exact congrArg some (ha b (hc j b hb))
    rw [e]
theorem pz_w_ag {n : Nat} {cA : Nat → ClassId} {L L' : Nat → Nat} {h : pz_H} (ha : pz_ag n L L') (hh : pz_kh n h) : pz_w cA L' n h = pz_w cA L n h := by
  apply List.map_congr_left
  intro k hk
  have hk : k < n := List.mem_range.mp hk
  rw [ha k hk, pz_e_ag ha (hh k hk)]
theorem pz_w_push {n q : Nat} {cA : Nat → ClassId} {L : Nat → Nat} {h : pz_H} {c : pz_C} (hh : pz_kh n h) : pz_w cA L n h ++ [(q, pz_e cA (va_up L n q) c)] = pz_w cA (va_up L n q) (n + 1) (va_up h n c) := by
  have e : pz_w cA (va_up L n q) (n + 1) (va_up h n c) = pz_w cA (va_up L n q) n (va_up h n c) ++ [(va_up L n q n, pz_e cA (va_up L n q) (va_up h n c n))] := by
    simp only [pz_w, List.range_succ, List.map_append, List.map_cons, List.map_nil]
  rw [e, va_up_self, va_up_self, ← pz_w_ag pz_ag_up hh]
  congr 1
  apply List.map_congr_left
  intro k hk
  have hk : k < n := List.mem_range.mp hk
  rw [va_up_ne h c (Nat.ne_of_lt hk)]
/-- the heap holds the cells of the ids below n -/
def pz_R (D : va_G) (cl : List vw_C) (cA : Nat → ClassId) (A : Nat → Prop) (L : Nat → Nat) (n : Nat) (h : pz_H) (H : Heap) : Prop := va_P D cl (pz_w cA L n h) H ∧ va_D A (pz_w cA L n h) ∧ pz_kh n h
theorem pz_inj {A : Nat → Prop} {cA : Nat → ClassId} {L : Nat → Nat} {n : Nat} {h : pz_H} (hD : va_D A (pz_w cA L n h)) {i j : Nat} (hi : i < n) (hj : j < n) (e : L i = L j) : i = j := hD.1 i j _ _ (pz_w_get hi) (pz_w_get hj) e
/-- locals by their places -/
def pz_al (L : Nat → Nat) (lv : List (Option Value)) : List (Nat × Value) := (List.range lv.length).filterMap (fun i => (lv[i]?).bind (fun o => o.map (fun v => (i, pz_v L v))))
theorem pz_al_mem {L : Nat → Nat} {lv : List (Option Value)} {q : Nat × Value} : q ∈ pz_al L lv ↔ ∃ v, lv[q.1]? = some (some v) ∧ q.2 = pz_v L v := by
  unfold pz_al
  rw [List.mem_filterMap]
  constructor
  · rintro ⟨i, hi, e⟩
    cases hb : lv[i]? with
    | none => rw [hb] at e; cases e
    | some o =>
      cases o with
      | none => rw [hb] at e; cases e
      | some v =>
        rw [hb] at e
        have e2 : (i, pz_v L v) = q := Option.some.inj e
        subst e2
        exact ⟨v, hb, rfl⟩
  · rintro ⟨v, hv, e⟩
    refine ⟨q.1, List.mem_range.mpr (List.getElem?_eq_some_iff.mp hv).1, ?_⟩
    rw [hv]
    show some (q.1, pz_v L v) = some q
    rw [← e]
def pz_kl (n : Nat) (lv : List (Option Value)) : Prop := ∀ (i : Nat) (v : Value), lv[i]? = some (some v) → pz_k n v
def pz_lv (L : Nat → Nat) (n nL : Nat) (ls : Array Slot) (lv : List (Option Value)) : Prop := lv_has ls nL (pz_al L lv) ∧ pz_kl n lv
theorem pz_lv_at {L : Nat → Nat} {n nL i : Nat} {ls : Array Slot} {lv : List (Option Value)} {v : Value} (h : pz_lv L n nL ls lv) (hv : lv[i]? = some (some v)) : ls[i]? = some (.val (pz_v L v)) :=
  h.1.2.2 (i, pz_v L v) (pz_al_mem.mpr ⟨v, hv, rfl⟩)
theorem pz_lv_ag {L L' : Nat → Nat} {n n' nL : Nat} {ls : Array Slot} {lv : List (Option Value)} (h : pz_lv L n nL ls lv) (ha : pz_ag n L L') (hn : n ≤ n') : pz_lv L' n' nL ls lv := by
  refine ⟨⟨h.1.1, h.1.2.1, fun q hq => ?_⟩, fun i v hv => pz_k_le hn (h.2 i v hv)⟩
  obtain ⟨v, hv, e⟩ := pz_al_mem.mp hq
  rw [e, pz_v_ag ha (h.2 _ v hv)]
  exact pz_lv_at h hv
/-- no long, no double ends at the place i -/
def pz_c1 (lv : List (Option Value)) (i : Nat) : Bool := match i with
  | 0 => true
  | j + 1 => match lv[j]? with
    | some (some (.long _)) => false
    | some (some (.double _)) => false
    | _ => true
theorem pz_lv_set {L : Nat → Nat} {n nL i : Nat} {ls ls' : Array Slot} {lv : List (Option Value)} {v : Value} (h : pz_lv L n nL ls lv) (hc : pz_c1 lv i = true) (hv : pz_k n v) (h' : lv_has ls' nL ((i, pz_v L v) :: (pz_al L lv).filter (fun q => !(q.1 == i) && !(q.1 + 1 == i && q.2.category == 2)))) : pz_lv L n nL ls' (lv.set i (some v)) := by
  refine ⟨⟨h'.1, h'.2.1, fun q hq => h'.2.2 q ?_⟩, fun j w hw => ?_⟩
  · obtain ⟨w, hw, e⟩ := pz_al_mem.mp hq
    by_cases hj : q.1 = i
    · have hlt : i < lv.length := by
        have := (List.getElem?_eq_some_iff.mp hw).1
        rw [List.length_set, hj] at this
        exact this
      rw [hj, List.getElem?_set_self hlt] at hw
      have ew : v = w := Option.some.inj (Option.some.inj hw)
      refine List.mem_cons.mpr (Or.inl ?_)
      rw [ew, ← e, ← hj]
    · rw [List.getElem?_set_ne (fun z => hj z.symm)] at hw
      refine List.mem_cons_of_mem _ (List.mem_filter.mpr ⟨pz_al_mem.mpr ⟨w, hw, e⟩, ?_⟩)
      have h1 : (q.1 == i) = false := by simpa using hj
      rw [h1]
      by_cases h2 : q.1 + 1 = i
      · have h3 : (q.2.category == 2) = false := by
          rw [e]
          subst h2
          unfold pz_c1 at hc
          simp only [hw] at hc
          cases w <;> first | rfl | cases hc
        simp [h3]
      · have h3 : (q.1 + 1 == i) = false := by simpa using h2
        simp [h3]
  · by_cases hj : j = i
    · subst hj
      by_cases hlt : j < lv.length
      · rw [List.getElem?_set_self hlt] at hw
        have ew : v = w := Option.some.inj (Option.some.inj hw)
        rw [← ew]; exact hv
      · rw [List.getElem?_eq_none (by rw [List.length_set]; omega)] at hw
        cases hw
    · rw [List.getElem?_set_ne (fun z => hj z.symm)] at hw
      exact h.2 j w hw
