/-! ===== a pane's place divided ===== -/
def aG (k : Nat) (t : aT) (w h : Int) : Prop := aOk k t w h ∧ (aX fc k t).Nodup ∧ (aX fm k t).Nodup ∧ (aX fp k t).Nodup ∧ ∀ p, p ∈ aX fp k t → p < 8
def aDv (n f g : Nat) (dn a : Int) (v : aT) (p q : Nat) : aT := aMk (n, tm v, none, dn, a, tw v, th v) (aLf (tc v, f, some p, 0, 0, (s1 dn a (tw v) (th v)).1, (s1 dn a (tw v) (th v)).2)) (aLf (n + 1, g, some q, 0, 0, (s2 dn a (tw v) (th v)).1, (s2 dn a (tw v) (th v)).2))
theorem aLf_ok {k : Nat} {i : aI} {p : Nat} {w h : Int} (hk : 0 < k) (hp : i.2.2.1 = some p) (h1 : 1 ≤ w) (h2 : 1 ≤ h) (h3 : i.2.2.2.2.2.1 = w) (h4 : i.2.2.2.2.2.2 = h) : aOk k (aLf i) w h := by
  obtain ⟨j, rfl⟩ : ∃ j, k = j + 1 := ⟨k - 1, by omega⟩
  exact ⟨⟨h1, h2, h3, h4⟩, fun e => by rw [show tp (aLf i) = some p from hp] at e; cases e⟩
theorem aDv_fits {n f g p q : Nat} {dn a : Int} {v : aT} (hd : dn = 0 ∨ dn = 1) (ha : 1 ≤ a ∧ a ≤ (if dn = 0 then tw v else th v) - 2) : aFits v (aDv n f g dn a v p q) := by
  intro k w h z
  obtain ⟨e1, e2⟩ := aOk_sz z
  have b := aOk_1 z
  have hk : 0 < k := by
    cases k with
    | zero => exact z.elim
    | succ k => omega
  unfold aDv s1 s2
  rw [e1, e2] at ha
  rw [e1, e2]
  rcases hd with hd | hd
  · rw [if_pos hd] at ha
    rw [if_pos hd, if_pos hd]
    exact aOk_m0 rfl hd b ⟨rfl, rfl⟩ (aLf_ok hk rfl ha.1 b.2 rfl rfl) (aLf_ok hk rfl (show 1 ≤ w - 1 - a by omega) b.2 rfl rfl)
  · rw [if_neg (by omega)] at ha
    rw [if_neg (by omega), if_neg (by omega)]
    exact aOk_m1 rfl hd b ⟨rfl, rfl⟩ (aLf_ok hk rfl b.1 ha.1 rfl rfl) (aLf_ok hk rfl b.1 (show 1 ≤ h - 1 - a by omega) rfl rfl)
theorem aDv_x {fn : aI → List Nat} {n f g p q k : Nat} {dn a : Int} {v : aT} : aX fn (k + 2) (aDv n f g dn a v p q) = fn (n, tm v, none, dn, a, tw v, th v) ++ (fn (tc v, f, some p, 0, 0, (s1 dn a (tw v) (th v)).1, (s1 dn a (tw v) (th v)).2) ++ fn (n + 1, g, some q, 0, 0, (s2 dn a (tw v) (th v)).1, (s2 dn a (tw v) (th v)).2)) := by
  unfold aDv
  rw [aX_l rfl, aL_mk, aR_mk, aMk_0, aX_n (fun z => by cases z), aX_n (fun z => by cases z)]
  rfl
/-- the leaves of a tree with a part exchanged -/
theorem aRep_leaf {o p : Nat} {u v : aT} (hp : tp v = some p) : ∀ (k : Nat) (t : aT) (w h : Int), aOk k t w h → aIn v (k + 1) (aRep o u k t) → (aIn v k t ∧ p ∈ aXo fp o k t) ∨ ∃ j, j ≤ k + 1 ∧ aIn v j u
  | 0, _, _, _, z, _ => z.elim
  | k + 1, t, w, h, z, hv => by
    by_cases e0 : tc t = o
    · rw [aRep_0 e0] at hv; exact Or.inr ⟨_, Nat.le_refl _, hv⟩
    · by_cases e : tp t = none
      · rw [aRep_l e0 e] at hv
        rw [aXo_l e0 e]
        rcases hv with hv | ⟨-, hv⟩
        · exfalso
          have q : tp v = none := by rw [hv]; exact e
          rw [hp] at q; cases q
        · rcases hv with hv | hv
          · rcases aRep_leaf hp k _ _ _ (z.2 e).2.1 hv with ⟨a, b⟩ | ⟨j, j1, j2⟩
            · exact Or.inl ⟨Or.inr ⟨e, Or.inl a⟩, List.mem_append_right _ (List.mem_append_left _ b)⟩
            · exact Or.inr ⟨j, by omega, j2⟩
          · rcases aRep_leaf hp k _ _ _ (z.2 e).2.2 hv with ⟨a, b⟩ | ⟨j, j1, j2⟩
            · exact Or.inl ⟨Or.inr ⟨e, Or.inr a⟩, List.mem_append_right _ (List.mem_append_right _ b)⟩
            · exact Or.inr ⟨j, by omega, j2⟩
      · rw [aRep_n e0 e] at hv
        rw [aXo_n e0 e]
        rcases hv with hv | ⟨q, -⟩
        · refine Or.inl ⟨Or.inl hv, ?_⟩
          rw [← hv]
          show p ∈ (v []).2.2.1.toList
          rw [show (v []).2.2.1 = some p from hp]
          exact List.mem_cons_self
        · exact absurd q e
theorem fp_y {i : aI} {p : Nat} (h : i.2.2.1 = some p) : fp i = [p] := by show i.2.2.1.toList = [p]; rw [h]; rfl
theorem fp_n {i : aI} (h : i.2.2.1 = none) : fp i = [] := by show i.2.2.1.toList = []; rw [h]; rfl
theorem aIn_p {v : aT} {p k : Nat} {t : aT} {w h : Int} (z : aOk k t w h) (hv : aIn v k t) (hp : tp v = some p) : p ∈ aX fp k t := by
  obtain ⟨j, w', h', hj, -, hm⟩ := aIn_ok k t w h z hv
  refine hm fp p ?_
  obtain ⟨i, rfl⟩ : ∃ i, j = i + 1 := ⟨j - 1, by omega⟩
  rw [aX_n (by rw [hp]; exact fun q => by cases q), fp_y hp]
  exact List.mem_cons_self
theorem aIn_m {v : aT} {k : Nat} {t : aT} {w h : Int} (z : aOk k t w h) (hv : aIn v k t) : tm v ∈ aX fm k t := by
  obtain ⟨j, w', h', hj, -, hm⟩ := aIn_ok k t w h z hv
  refine hm fm _ ?_
  obtain ⟨i, rfl⟩ : ∃ i, j = i + 1 := ⟨j - 1, by omega⟩
  exact List.mem_append_left _ List.mem_cons_self
theorem aG_div {k n f g p q : Nat} {t v : aT} {w h dn a : Int} (hG : aG k t w h) (hv : aIn v k t) (hp : tp v = some p) (hd : dn = 0 ∨ dn = 1) (ha : 1 ≤ a ∧ a ≤ (if dn = 0 then tw v else th v) - 2) (hn : ∀ b, b ∈ aX fc k t → b < n) (hf : f ∉ aX fm k t) (hg : g ∉ aX fm k t) (hfg : f ≠ g) (hq : q ∉ aX fp k t) (hq8 : q < 8) : aG (k + 1) (aRep (tc v) (aDv n f g dn a v p q) k t) w h := by
  obtain ⟨ok, n1, n2, n3, n4⟩ := hG
  have hu := aDv_fits (n := n) (f := f) (g := g) (p := p) (q := q) hd ha
  have hk : 0 < k := by
    cases k with
    | zero => exact ok.elim
    | succ k => omega
  obtain ⟨i, rfl⟩ : ∃ i, k = i + 1 := ⟨k - 1, by omega⟩
  have x1 : aX fc (i + 1) v = [tc v] := aX_n (by rw [hp]; exact fun z => by cases z)
  have x2 : aX fm (i + 1) v = [tm v] := aX_n (by rw [hp]; exact fun z => by cases z)
  have x3 : aX fp (i + 1) v = [p] := (aX_n (by rw [hp]; exact fun z => by cases z)).trans (fp_y hp)
  have hvc := aIn_c hv
  have hvm := aIn_m ok hv
  have hvp := aIn_p ok hv hp
  have hcn := hn _ hvc
  have hpq : p ≠ q := fun z => hq (z ▸ hvp)
  have hmf : tm v ≠ f := fun z => hf (z ▸ hvm)
  have hmg : tm v ≠ g := fun z => hg (z ▸ hvm)
  refine ⟨aRep_ok hu (i + 1) t w h ok n1 hv, ?_, ?_, ?_, ?_⟩
  · refine aRep_nd hu (i + 1) t w h ok n1 n1 hv ?_ (fun b hb hx => ?_)
    · rw [aDv_x]
      show [n, tc v, n + 1].Nodup
      simp
      omega
    · rw [aDv_x] at hx
      have hb2 := hn b (aXo_sub _ _ b hb)
      have hb3 := aXo_dis (i + 1) t w h ok n1 hv b hb
      rw [x1] at hb3
      have hx2 : b = n ∨ b = tc v ∨ b = n + 1 := by simpa using hx
      rcases hx2 with e | e | e
      · omega
      · exact hb3 (e ▸ List.mem_cons_self)
      · omega
  · refine aRep_nd hu (i + 1) t w h ok n1 n2 hv ?_ (fun b hb hx => ?_)
    · rw [aDv_x]
      show [tm v, f, g].Nodup
      simp
      exact ⟨⟨hmf, hmg⟩, hfg⟩
    · rw [aDv_x] at hx
      have hb2 := aXo_sub _ _ b hb
      have hb3 := aXo_dis (i + 1) t w h ok n2 hv b hb
      rw [x2] at hb3
      have hx2 : b = tm v ∨ b = f ∨ b = g := by simpa using hx
      rcases hx2 with e | e | e
      · exact hb3 (e ▸ List.mem_cons_self)
      · exact hf (e ▸ hb2)
      · exact hg (e ▸ hb2)
  · refine aRep_nd hu (i + 1) t w h ok n1 n3 hv ?_ (fun b hb hx => ?_)
    · rw [aDv_x]
      show [p, q].Nodup
      simp
      exact hpq
    · rw [aDv_x] at hx
      have hb2 := aXo_sub _ _ b hb
      have hb3 := aXo_dis (i + 1) t w h ok n3 hv b hb
      rw [x3] at hb3
      have hx2 : b = p ∨ b = q := by simpa [fp] using hx
      rcases hx2 with e | e
      · exact hb3 (e ▸ List.mem_cons_self)
      · exact hq (e ▸ hb2)
  · intro b hb
    rcases (aRep_iff hu (i + 1) t w h ok n1 hv b).mp hb with y | y
    · exact n4 b (aXo_sub _ _ b y)
    · rw [aDv_x] at y
      have hx2 : b = p ∨ b = q := by simpa [fp] using y
      rcases hx2 with e | e
      · rw [e]; exact n4 p hvp
      · rw [e]; exact hq8
/-- eight panes, eight levels -/
theorem nd_len : ∀ (n : Nat) (l : List Nat), l.Nodup → (∀ x, x ∈ l → x < n) → l.length ≤ n
  | 0, l, _, h => by
    cases l with
    | nil => exact Nat.le_refl _
    | cons a l => exact absurd (h a List.mem_cons_self) (by omega)
  | n + 1, l, nd, h => by
    by_cases c : n ∈ l
    · have z := nd_len n (l.erase n) (nd.erase n) (fun x hx => by
        have hx2 := (List.Nodup.mem_erase_iff nd).mp hx
        have := h x hx2.2
        omega)
      rw [List.length_erase_of_mem c] at z
      omega
    · have z := nd_len n l nd (fun x hx => by
        have := h x hx
        have : x ≠ n := fun e => c (e ▸ hx)
        omega)
      omega
theorem aG_lev {k : Nat} {t : aT} {w h : Int} (hG : aG k t w h) : aG 8 t w h ∧ ∀ {α : Type} (f : aI → List α), aX f 8 t = aX f k t := by
  obtain ⟨ok, n1, n2, n3, n4⟩ := hG
  obtain ⟨o1, o2⟩ := aOk_p k t w h ok
  have hl := nd_len 8 _ n3 n4
  generalize (aX fp k t).length = L at o1 o2 hl
  have e : ∀ {α : Type} (f : aI → List α), aX f 8 t = aX f k t := fun f => by
    rw [aX_lev L t w h o2 8 hl]
    rcases Nat.le_total L k with q | q
    · rw [aX_lev L t w h o2 k q]
    · rw [aX_lev k t w h ok L q]
  refine ⟨⟨aOk_le o2 hl, ?_, ?_, ?_, ?_⟩, e⟩
  · rw [e]; exact n1
  · rw [e]; exact n2
  · rw [e]; exact n3
  · rw [e]; exact n4
/-! the class -/
def cI (w H : Int) (k : Nat) (t : aT) (s : hS) : Prop := cR (hP s) k t none 0 0 w H ∧ hRt s = tc t ∧ (∀ b, b ∈ aX fc k t → hD s b = true) ∧ (∀ v, aIn v k t → ∀ p, tp v = some p → hLv s p = some (tc v)) ∧ ∀ p, ¬ hLv s p = none → p ∈ aX fp k t
def cJ (s : hS) : Prop := ptCl (hD s) (hP s) ∧ ptBd 100 (hP s) ∧ ptPos (hP s)
theorem cI_lev {w H : Int} {k : Nat} {t : aT} {s : hS} (hG : aG k t w H) (hI : cI w H k t s) : cI w H 8 t s := by
  obtain ⟨g1, g2⟩ := aG_lev hG
  obtain ⟨i1, i2, i3, i4, i5⟩ := hI
  refine ⟨?_, i2, by rw [g2]; exact i3, fun v hv => i4 v ?_, by rw [g2]; exact i5⟩
  · rcases Nat.le_total k 8 with q | q
    · exact cR_le i1 q
    · exact cR_dn 8 t _ _ _ _ _ _ _ k g1.1 i1 q
  · rcases Nat.le_total k 8 with q | q
    · exact (aIn_lev k t w H hG.1 8 q).mp hv
    · exact (aIn_lev 8 t w H g1.1 k q).mpr hv
theorem lyOk_of {w H : Int} {k : Nat} {t : aT} {s : hS} (hG : aG k t w H) (hI : cI w H k t s) (hJ : cJ s) : lyOk w H s := by
  obtain ⟨i1, i2, i3, i4, i5⟩ := hI
  have lf : ∀ i b, hLv s i = some b → ∃ v, aIn v k t ∧ tc v = b := fun i b e => by
    obtain ⟨v, h1, h2⟩ := aP_in k t (i5 i (by rw [e]; exact fun z => by cases z))
    have h3 := i4 v h1 i h2
    rw [e] at h3
    exact ⟨v, h1, (Option.some.inj h3).symm⟩
  have hk : 0 < k := by
    cases k with
    | zero => exact hG.1.elim
    | succ k => omega
  refine ⟨hJ.1, fun i b e => ?_, hJ.2.1, hJ.2.2, by rw [i2]; exact i3 _ (aX_root hk), fun i b e => ?_⟩
  · obtain ⟨v, h1, h2⟩ := lf i b e
    rw [← h2]; exact i3 _ (aIn_c h1)
  · obtain ⟨v, h1, h2⟩ := lf i b e
    obtain ⟨j, up', x', y', w', h', hj, c, o, q1, q2⟩ := cR_in k t _ _ _ _ _ i1 hG.1 h1
    have r := cR_root c
    have b1 := aOk_1 o
    rw [← h2]
    unfold arOk
    omega
