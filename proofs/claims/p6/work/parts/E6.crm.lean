/-! ===== the class removes ===== -/
abbrev fpc (i : aI) : List (Nat × Nat) := i.2.2.1.toList.map (fun p => (p, i.1))
abbrev fpm (i : aI) : List (Nat × Nat) := i.2.2.1.toList.map (fun p => (p, i.2.1))
theorem fpc_f : ∀ i j : aI, i.1 = j.1 → i.2.1 = j.2.1 → i.2.2.1 = j.2.2.1 → fpc i = fpc j := fun i j h _ h2 => by show i.2.2.1.toList.map (fun p => (p, i.1)) = j.2.2.1.toList.map (fun p => (p, j.1)); rw [h, h2]
theorem aIn_pc {v : aT} {p k : Nat} {t : aT} {w h : Int} (z : aOk k t w h) (hv : aIn v k t) (hp : tp v = some p) : (p, tc v) ∈ aX fpc k t ∧ (p, tm v) ∈ aX fpm k t := by
  obtain ⟨j, w', h', hj, -, hm⟩ := aIn_ok k t w h z hv
  obtain ⟨i, rfl⟩ : ∃ i, j = i + 1 := ⟨j - 1, by omega⟩
  have e : ¬ tp v = none := by rw [hp]; exact fun q => by cases q
  refine ⟨hm fpc _ ?_, hm fpm _ ?_⟩
  · rw [aX_n e]
    show (p, tc v) ∈ (v []).2.2.1.toList.map (fun p => (p, (v []).1))
    rw [show (v []).2.2.1 = some p from hp]
    exact List.mem_cons_self
  · rw [aX_n e]
    show (p, tm v) ∈ (v []).2.2.1.toList.map (fun p => (p, (v []).2.1))
    rw [show (v []).2.2.1 = some p from hp]
    exact List.mem_cons_self
theorem aPC_in {p c : Nat} : ∀ (k : Nat) (t : aT), (p, c) ∈ aX fpc k t → ∃ v, aIn v k t ∧ tp v = some p ∧ tc v = c
  | 0, _, h => by cases h
  | k + 1, t, h => by
    by_cases e : tp t = none
    · rw [aX_l e, show fpc (t []) = [] by show (t []).2.2.1.toList.map _ = []; rw [show (t []).2.2.1 = none from e]; rfl, List.nil_append] at h
      rcases List.mem_append.mp h with y | y
      · obtain ⟨v, h1, h2⟩ := aPC_in k _ y
        exact ⟨v, Or.inr ⟨e, Or.inl h1⟩, h2⟩
      · obtain ⟨v, h1, h2⟩ := aPC_in k _ y
        exact ⟨v, Or.inr ⟨e, Or.inr h1⟩, h2⟩
    · rw [aX_n e] at h
      obtain ⟨q, hq⟩ := Option.ne_none_iff_exists'.mp e
      rw [show fpc (t []) = [(q, tc t)] by show (t []).2.2.1.toList.map _ = [(q, tc t)]; rw [show (t []).2.2.1 = some q from hq]; rfl] at h
      have h2 := List.mem_singleton.mp h
      refine ⟨t, Or.inl rfl, ?_, ?_⟩
      · rw [hq, (Prod.mk.inj h2).1]
      · exact (Prod.mk.inj h2).2.symm
theorem aIn_nd {α : Type} {f : aI → List α} {v : aT} : ∀ (k : Nat) (t : aT) (w h : Int), aOk k t w h → (aX f k t).Nodup → aIn v k t → (aX f k v).Nodup
  | 0, _, _, _, z, _, _ => z.elim
  | k + 1, t, w, h, z, nd, hv => by
    rcases hv with hv | ⟨e, hv | hv⟩
    · subst hv; exact nd
    · rw [aIn_xe (z.2 e).2.1 hv (Nat.le_succ k)]
      exact aIn_nd k _ _ _ (z.2 e).2.1 (aNd nd e).1 hv
    · rw [aIn_xe (z.2 e).2.2 hv (Nat.le_succ k)]
      exact aIn_nd k _ _ _ (z.2 e).2.2 (aNd nd e).2 hv
/-- a split in the tree and what stands in it -/
theorem aSp_x {u : aT} {k : Nat} {t : aT} {w h : Int} (z : aOk k t w h) (hu : aIn u k t) (e : tp u = none) {α : Type} (f : aI → List α) : aX f k u = f (u []) ++ (aX f k (aL u) ++ aX f k (aR u)) := by
  obtain ⟨j, w', h', hj, o, -⟩ := aIn_ok k t w h z hu
  obtain ⟨i, rfl⟩ : ∃ i, j = i + 1 := ⟨j - 1, by omega⟩
  rw [aX_lev (i + 1) u w' h' o k hj.2, aX_l e, aX_lev i (aL u) _ _ (o.2 e).2.1 k (by omega), aX_lev i (aR u) _ _ (o.2 e).2.2 k (by omega)]
theorem aPl_lev : ∀ (k : Nat) (t : aT) (w h u q w' h' : Int), aOk k t w' h' → ∀ j, k ≤ j → aPl j t w h u q = aPl k t w h u q
  | 0, _, _, _, _, _, _, _, z, _, _ => z.elim
  | k + 1, t, w, h, u, q, w', h', z, j, hj => by
    obtain ⟨i, rfl⟩ : ∃ i, j = i + 1 := ⟨j - 1, by omega⟩
    by_cases e : tp t = none
    · by_cases d : td t = 0
      · rw [aPl_0 e d, aPl_0 e d, aPl_lev k _ _ _ _ _ _ _ (z.2 e).2.1 i (by omega), aPl_lev k _ _ _ _ _ _ _ (z.2 e).2.2 i (by omega)]
      · rw [aPl_1 e d, aPl_1 e d, aPl_lev k _ _ _ _ _ _ _ (z.2 e).2.1 i (by omega), aPl_lev k _ _ _ _ _ _ _ (z.2 e).2.2 i (by omega)]
    · rw [aPl_n e, aPl_n e]
/-- z, one of the two of u, in u's place -/
abbrev aUpT (k : Nat) (u z : aT) : aT := aPl k z (tw z) (th z) (tw u) (th u)
abbrev aSib (u v z : aT) : Prop := (aL u = v ∧ aR u = z) ∨ (aR u = v ∧ aL u = z)
theorem aSib_ok {u v z : aT} {j : Nat} {w h : Int} (hs : aSib u v z) (e : tp u = none) (o : aOk (j + 1) u w h) : aOk j z (tw z) (th z) ∧ tw z ≤ w ∧ th z ≤ h ∧ tw u = w ∧ th u = h := by
  have su := aOk_sz o
  by_cases d : td u = 0
  · obtain ⟨o1, o2⟩ := aOk_0 o e d
    have b1 := aOk_1 o1
    have b2 := aOk_1 o2
    have z1 := aOk_sz o1
    have z2 := aOk_sz o2
    rcases hs with ⟨-, hz⟩ | ⟨-, hz⟩
    · rw [hz] at o2 z2; rw [z2.1, z2.2]; exact ⟨o2, by omega, by omega, su.1, su.2⟩
    · rw [hz] at o1 z1; rw [z1.1, z1.2]; exact ⟨o1, by omega, by omega, su.1, su.2⟩
  · obtain ⟨-, o1, o2⟩ := aOk_d o e d
    have b1 := aOk_1 o1
    have b2 := aOk_1 o2
    have z1 := aOk_sz o1
    have z2 := aOk_sz o2
    rcases hs with ⟨-, hz⟩ | ⟨-, hz⟩
    · rw [hz] at o2 z2; rw [z2.1, z2.2]; exact ⟨o2, by omega, by omega, su.1, su.2⟩
    · rw [hz] at o1 z1; rw [z1.1, z1.2]; exact ⟨o1, by omega, by omega, su.1, su.2⟩
theorem aUp_fits {k : Nat} {u v z : aT} {w0 h0 : Int} (hs : aSib u v z) (e : tp u = none) (oz : aOk k z w0 h0) : aFits u (aUpT k u z) := by
  intro j w h o
  obtain ⟨i, rfl⟩ : ∃ i, j = i + 1 := ⟨j - 1, by
    cases j with
    | zero => exact o.elim
    | succ j => omega⟩
  obtain ⟨o1, b1, b2, e1, e2⟩ := aSib_ok hs e o
  have y := aPl_ok i z (tw z) (th z) w h o1 b1 b2
  unfold aUpT
  rw [e1, e2]
  have ee : aPl k z (tw z) (th z) w h = aPl i z (tw z) (th z) w h := by
    rcases Nat.le_total i k with q | q
    · rw [aPl_lev i z _ _ _ _ _ _ o1 k q]
    · rw [aPl_lev k z _ _ _ _ _ _ oz i q]
  rw [ee]
  exact aOk_le y (by omega)
theorem aUp_x {k : Nat} {t u z : aT} {w h : Int} (ok : aOk k t w h) (hz : aIn z k t) {α : Type} {f : aI → List α} (hf : ∀ i j : aI, i.1 = j.1 → i.2.1 = j.2.1 → i.2.2.1 = j.2.2.1 → f i = f j) : aX f (k + 1) (aUpT k u z) = aX f k z := by
  unfold aUpT
  rw [aPl_x hf, aIn_xe ok hz (Nat.le_succ k)]
/-- what hangs where u and its two were -/
theorem aSib_x {k : Nat} {t u v z : aT} {w h : Int} (ok : aOk k t w h) (hu : aIn u k t) (e : tp u = none) (hs : aSib u v z) {α : Type} (f : aI → List α) : (∀ b, b ∈ aX f k u ↔ (b ∈ f (u []) ∨ b ∈ aX f k v ∨ b ∈ aX f k z)) ∧ ((aX f k u).Nodup → ∀ b, b ∈ aX f k z → b ∉ aX f k v ∧ b ∉ f (u [])) := by
  rw [aSp_x ok hu e]
  constructor
  · intro b
    rw [List.mem_append, List.mem_append]
    rcases hs with ⟨h1, h2⟩ | ⟨h1, h2⟩
    · rw [h1, h2]
    · rw [h1, h2, or_comm (a := b ∈ aX f k z)]
  · intro nd b hb
    obtain ⟨-, n2, n3⟩ := List.nodup_append.mp nd
    obtain ⟨-, -, m3⟩ := List.nodup_append.mp n2
    rcases hs with ⟨h1, h2⟩ | ⟨h1, h2⟩
    · rw [h1, h2] at m3 n3
      exact ⟨fun y => m3 b y b hb rfl, fun y => n3 b y b (List.mem_append_right _ hb) rfl⟩
    · rw [h1, h2] at m3 n3
      exact ⟨fun y => m3 b hb b y rfl, fun y => n3 b y b (List.mem_append_left _ hb) rfl⟩
theorem aG_rm {k : Nat} {t u v z : aT} {w h : Int} (hG : aG k t w h) (hu : aIn u k t) (e : tp u = none) (hs : aSib u v z) : aG (k + 1) (aRep (tc u) (aUpT k u z) k t) w h := by
  obtain ⟨ok, n1, n2, n3, n4⟩ := hG
  have hz : aIn z k t := by
    obtain ⟨a, b⟩ := aIn_lr k t w h ok hu e
    rcases hs with ⟨-, h2⟩ | ⟨-, h2⟩
    · exact h2 ▸ b
    · exact h2 ▸ a
  obtain ⟨jz, wz, hz2, hjz, oz, -⟩ := aIn_ok k t w h ok hz
  have hf := aUp_fits hs e (aOk_le oz hjz.2)
  have nd : ∀ f : aI → List Nat, (∀ i j : aI, i.1 = j.1 → i.2.1 = j.2.1 → i.2.2.1 = j.2.2.1 → f i = f j) → (aX f k t).Nodup → (aX f (k + 1) (aRep (tc u) (aUpT k u z) k t)).Nodup := fun f ff nf => by
    refine aRep_nd hf k t w h ok n1 nf hu ?_ (fun b hb hx => ?_)
    · rw [aUp_x ok hz ff]; exact aIn_nd k t w h ok nf hz
    · rw [aUp_x ok hz ff] at hx
      exact aXo_dis k t w h ok nf hu b hb (((aSib_x ok hu e hs f).1 b).mpr (Or.inr (Or.inr hx)))
  refine ⟨aRep_ok hf k t w h ok n1 hu, nd fc fc_f n1, nd fm fm_f n2, nd fp fp_f n3, fun b hb => ?_⟩
  rcases (aRep_iff hf k t w h ok n1 hu b).mp hb with y | y
  · exact n4 b (aXo_sub k t b y)
  · rw [aUp_x ok hz fp_f] at y
    exact n4 b (aIn_x ok hz (Nat.le_refl k) y)
set_option maxHeartbeats 1000000 in
theorem cI_rm {w H p : Int} {k : Nat} {t u v z : aT} {s : hS} (hk9 : k ≤ 9) (hw : w ≤ 40) (hH : H ≤ 16) (hG : aG k t w H) (hI : cI w H k t s) (hJ : cJ s) (hp0 : 0 ≤ p ∧ p < 8) (hu : aIn u k t) (e : tp u = none) (hs : aSib u v z) (hp : tp v = some p.toNat) :
    rmOk (hP s) (hLv s) p ∧ cI w H (k + 1) (aRep (tc u) (aUpT k u z) k t) (sRm p s) ∧ cJ (sRm p s) := by
  obtain ⟨i1, i2, i3, i4, i5⟩ := hI
  obtain ⟨ok, n1, n2, n3, n4⟩ := id hG
  have hk : 0 < k := by
    cases k with
    | zero => exact ok.elim
    | succ k => omega
  obtain ⟨il, ir⟩ := aIn_lr k t w H ok hu e
  have hz : aIn z k t := by
    rcases hs with ⟨-, h2⟩ | ⟨-, h2⟩
    · exact h2 ▸ ir
    · exact h2 ▸ il
  have hv : aIn v k t := by
    rcases hs with ⟨h2, -⟩ | ⟨h2, -⟩
    · exact h2 ▸ il
    · exact h2 ▸ ir
  have hlv : hLv s p.toNat = some (tc v) := i4 v hv _ hp
  obtain ⟨a1, a2, a3, ⟨a4, a5⟩, a6, a7⟩ := cR_sp i1 ok n1 hu e
  have hvu : (hP s (tc v)).2 2 = some (tc u) := by
    rcases hs with ⟨h2, -⟩ | ⟨h2, -⟩
    · rw [← h2]; exact a6
    · rw [← h2]; exact a7
  have hsp : ptSplit (hP s (tc u)) := ⟨by rw [a4]; exact fun y => (by cases y), by rw [a5]; exact fun y => (by cases y)⟩
  have hhas : ¬ lyHas (hLv s) p = 0 := by
    unfold lyHas
    rw [if_pos ⟨hp0.1, hp0.2, by rw [hlv]; exact fun y => by cases y⟩]
    decide
  obtain ⟨r1, r2, r3⟩ := rm_ok (o := tc z) hhas hlv hvu hsp (by
    rcases hs with ⟨h2, h3⟩ | ⟨h2, h3⟩
    · rw [h2] at a4; rw [h3] at a5; exact Or.inl ⟨a4, a5⟩
    · rw [h2] at a1; rw [h3] at a4 a1
      exact Or.inr ⟨by rw [a4]; exact fun y => a1 (Option.some.inj y), a4⟩)
  have hPe : hP (sRm p s) = plW (plShare 8) (tc z) ((hP s (tc u)).1 0) ((hP s (tc u)).1 1) ((hP s (tc u)).1 2) ((hP s (tc u)).1 3) (exP (hP s) (tc u) (tc z)) := by
    show rmP (hP s) (hLv s) p = _
    unfold rmP
    rw [if_pos r1, r2, r3]
    unfold rmPl
    rw [exP_1f]
  have hLe : hLv (sRm p s) = va_up (hLv s) p.toNat none := if_pos r1
  have hRe : hRt (sRm p s) = exR (hP s) (tc u) (tc z) (hRt s) := by
    show rmRt (hP s) (hLv s) p (hRt s) = _
    unfold rmRt
    rw [if_pos r1, r2, r3]
  obtain ⟨j, up', x', y', w', h', hj, c, o, q1, q2⟩ := cR_in k t _ _ _ _ _ i1 ok hu
  obtain ⟨i, rfl⟩ : ∃ i, j = i + 1 := ⟨j - 1, by omega⟩
  have rt := cR_root c
  obtain ⟨oz, b1, b2, e1, e2⟩ := aSib_ok hs e o
  have bz := aOk_1 oz
  have ozk := aOk_le oz (show i ≤ k by omega)
  have hf := aUp_fits (w0 := tw z) (h0 := th z) hs e ozk
  have hi0 : 0 < i := by
    cases i with
    | zero => exact oz.elim
    | succ i => omega
  -- the other one under u
  have cz : ∃ xz yz, cR (hP s) i z (some (tc u)) xz yz (tw z) (th z) := by
    obtain ⟨-, c1, c2⟩ := c.2.2 e
    have s1 := aOk_sz (o.2 e).2.1
    have s2 := aOk_sz (o.2 e).2.2
    rcases hs with ⟨-, h3⟩ | ⟨-, h3⟩
    · rw [h3] at c2 s2; rw [s2.1, s2.2]; exact ⟨_, _, c2⟩
    · rw [h3] at c1 s1; rw [s1.1, s1.2]; exact ⟨_, _, c1⟩
  obtain ⟨xz, yz, cz⟩ := cz
  have hup : ∀ ab, (hP s (tc u)).2 2 = some ab → ab ∈ aXo fc (tc u) k t := fun ab hab => by
    by_cases et : u = t
    · subst et
      rw [(cR_root i1).2.2.2.2] at hab; cases hab
    · obtain ⟨u2, f1, f2, f3, f4⟩ := cR_par i1 ok hu et
      rw [f4] at hab
      have := Option.some.inj hab
      subst this
      rcases (aX_iff (f := fc) k t w H ok n1 hu (tc u2)).mp (aIn_c f1) with y | y
      · exact y
      · exfalso
        obtain ⟨u3, g1, g2⟩ := aC_in k u y
        obtain ⟨d1, d2, d3, -, -, -⟩ := cR_sp i1 ok n1 f1 f2
        -- u2 hangs in u, and u in u2
        have key : ∀ (k : Nat) (t : aT) (w h : Int), aOk k t w h → (aX fc k t).Nodup → aIn u2 k t → tp u2 = none → (aL u2 = u ∨ aR u2 = u) → tc u2 ∉ aX fc k u := by
          intro k t w h ok n1 g1 g2 g3 g4
          have y1 := aSp_x ok g1 g2 fc
          have y2 := aIn_nd k t w h ok n1 g1
          rw [y1] at y2
          obtain ⟨-, -, y3⟩ := List.nodup_append.mp y2
          rcases g3 with g3 | g3
          · rw [g3] at y3; exact y3 _ List.mem_cons_self _ (List.mem_append_left _ g4) rfl
          · rw [g3] at y3; exact y3 _ List.mem_cons_self _ (List.mem_append_right _ g4) rfl
        exact key k t w H ok n1 f1 f2 f3 y
  have hzu : ∀ b, b ∈ aX fc k z → b ∈ aX fc k u := fun b hb => ((aSib_x ok hu e hs fc).1 b).mpr (Or.inr (Or.inr hb))
  have hzo : ∀ b, b ∈ aX fc k z → b ∉ aXo fc (tc u) k t := fun b hb y => aXo_dis k t w H ok n1 hu b y (hzu b hb)
  have xz2 : ∀ {α : Type} (f : aI → List α), aX f k z = aX f i z := fun f => aX_lev i z _ _ oz k (by omega)
  have hnz : ∀ ab, (hP s (tc u)).2 2 = some ab → tc z ≠ ab := fun ab hab y => hzo _ (aX_root hk) (y ▸ hup ab hab)
  have cX : cR (exP (hP s) (tc u) (tc z)) i z up' xz yz (tw z) (th z) := by
    obtain ⟨i', rfl⟩ : ∃ i', i = i' + 1 := ⟨i - 1, by omega⟩
    have eX := ex_n (P := hP s) (o := tc u) hnz
    have lower : ∀ b, b ∈ aX fc (i' + 1) z → b ≠ tc z → exP (hP s) (tc u) (tc z) b = hP s b := fun b hb hne => ex_b hne (fun ab hab y => hzo b (by rw [xz2]; exact hb) (y ▸ hup ab hab))
    have ndz : (aX fc (i' + 1) z).Nodup := by rw [← xz2]; exact aIn_nd k t w H ok n1 hz
    refine ⟨?_, fun en => ?_, fun en => ?_⟩
    · rw [eX]
      have := cz.1
      refine ⟨this.1, this.2.1, this.2.2.1, this.2.2.2.1, ?_⟩
      show va_up (hP s (tc z)).2 2 ((hP s (tc u)).2 2) 2 = up'
      rw [va_up_self]; exact rt.2.2.2.2
    · rw [eX]
      show va_up (hP s (tc z)).2 2 ((hP s (tc u)).2 2) 0 = none ∧ va_up (hP s (tc z)).2 2 ((hP s (tc u)).2 2) 1 = none
      rw [va_up_ne _ _ (by decide), va_up_ne _ _ (by decide)]
      exact cz.2.1 en
    · obtain ⟨⟨l0, l1, l4⟩, c1, c2⟩ := cz.2.2 en
      rw [aX_lc en] at ndz lower
      obtain ⟨na, nd2⟩ := List.nodup_cons.mp ndz
      refine ⟨?_, cR_of i' _ _ _ _ _ _ c1 (fun b hb => lower b (List.mem_cons_of_mem _ (List.mem_append_left _ hb)) (fun y => na (y ▸ List.mem_append_left _ hb))), cR_of i' _ _ _ _ _ _ c2 (fun b hb => lower b (List.mem_cons_of_mem _ (List.mem_append_right _ hb)) (fun y => na (y ▸ List.mem_append_right _ hb)))⟩
      rw [eX]
      show va_up (hP s (tc z)).2 2 ((hP s (tc u)).2 2) 0 = _ ∧ va_up (hP s (tc z)).2 2 ((hP s (tc u)).2 2) 1 = _ ∧ (hP s (tc z)).1 4 = _
      rw [va_up_ne _ _ (by decide), va_up_ne _ _ (by decide)]
      exact ⟨l0, l1, l4⟩
  have pl := cR_place i 8 z (exP (hP s) (tc u) (tc z)) up' xz yz (tw z) (th z) x' y' w' h' (by omega) oz cX (by rw [← xz2]; exact aIn_nd k t w H ok n1 hz) b1 b2
  rw [← rt.1, ← rt.2.1, ← rt.2.2.1, ← rt.2.2.2.1, ← hPe, rt.1, rt.2.1, rt.2.2.1, rt.2.2.2.1] at pl
  obtain ⟨p1, p2, p3⟩ := pl
  have ee : aUpT k u z = aPl i z (tw z) (th z) w' h' := by
    unfold aUpT
    rw [e1, e2, aPl_lev i z _ _ _ _ _ _ oz k (by omega)]
  have tce : tc (aUpT k u z) = tc z := aPl_c.1
  refine ⟨r1, ⟨?_, ?_, ?_, ?_, ?_⟩, ?_, ?_, ?_⟩
  · refine cR_rep (P := hP s) (v := u) (fun j2 up2 x2 y2 w2 h2 c2 o2 => ?_) k t none 0 0 w H ok i1 (fun v' hv' ev => aIn_one k t n1 hv' hu ev) (fun b hb0 => ?_)
    · have r2 := cR_root c2
      have ew : w2 = w' := by omega
      have eh : h2 = h' := by omega
      have ex : x2 = x' := by omega
      have ey : y2 = y' := by omega
      have eu : up2 = up' := r2.2.2.2.2.symm.trans rt.2.2.2.2
      subst ew eh ex ey eu
      have o3 := hf j2 w2 h2 o2
      rw [← ee] at p1
      rcases Nat.le_total i (j2 + 1) with q | q
      · exact cR_le p1 q
      · exact cR_dn (j2 + 1) _ _ _ _ _ _ _ _ i o3 p1 q
    · rw [tce, p2 b (fun y => hzo b (by rw [xz2]; exact y) hb0)]
      exact ex_out i1 ok n1 hu (hzo _ (aX_root hk)) b hb0
  · rw [hRe, rep_c hk, tce]
    by_cases et : u = t
    · subst et
      rw [if_pos rfl, exR_0 (cR_root i1).2.2.2.2]
    · obtain ⟨u2, f1, f2, f3, f4⟩ := cR_par i1 ok hu et
      rw [if_neg (fun y => et (aIn_one k t n1 hu (by obtain ⟨i, rfl⟩ : ∃ i, k = i + 1 := ⟨k - 1, by omega⟩; exact Or.inl rfl) y.symm)), exR_1 (by rw [f4]; exact fun y => by cases y), i2]
  · intro b hb0
    show hD s b = true
    rcases (aRep_iff hf k t w H ok n1 hu b).mp hb0 with y | y
    · exact i3 b (aXo_sub k t b y)
    · rw [aUp_x ok hz fc_f] at y
      exact i3 b (aIn_x ok hz (Nat.le_refl k) y)
  · intro v' hv' p' hp'
    rw [hLe]
    have okn := aRep_ok hf k t w H ok n1 hu
    have hpc := (aIn_pc okn hv' hp').1
    have hin : (p', tc v') ∈ aX fpc k t := by
      rcases (aRep_iff hf k t w H ok n1 hu _).mp hpc with y | y
      · exact aXo_sub k t _ y
      · rw [aUp_x ok hz fpc_f] at y
        exact aIn_x ok hz (Nat.le_refl k) y
    obtain ⟨v2, g1, g2, g3⟩ := aPC_in k t hin
    have hl2 := i4 v2 g1 p' g2
    rw [g3] at hl2
    have hne : p' ≠ p.toNat := fun y => by
      rw [y, hlv] at hl2
      have ec : tc v = tc v' := Option.some.inj hl2
      have hc := aIn_c hv'
      rw [← ec] at hc
      have hvin : tc v ∈ aX fc k v := aX_root hk
      rcases (aRep_iff hf k t w H ok n1 hu _).mp hc with y2 | y2
      · exact aXo_dis k t w H ok n1 hu _ y2 (((aSib_x ok hu e hs fc).1 _).mpr (Or.inr (Or.inl hvin)))
      · rw [aUp_x ok hz fc_f] at y2
        exact ((aSib_x ok hu e hs fc).2 (aIn_nd k t w H ok n1 hu) _ y2).1 hvin
    rw [va_up_ne _ _ hne]
    exact hl2
  · intro p' hp'
    rw [hLe] at hp'
    have hne : p' ≠ p.toNat := fun y => hp' (by rw [y, va_up_self])
    rw [va_up_ne _ _ hne] at hp'
    refine (aRep_iff hf k t w H ok n1 hu p').mpr ?_
    rw [aUp_x ok hz fp_f]
    rcases (aX_iff k t w H ok n1 hu p').mp (i5 p' hp') with y | y
    · exact Or.inl y
    · right
      rcases ((aSib_x ok hu e hs fp).1 p').mp y with y | y | y
      · rw [fp_n e] at y; cases y
      · exfalso
        obtain ⟨k', rfl⟩ : ∃ k', k = k' + 1 := ⟨k - 1, by omega⟩
        rw [aX_n (by rw [hp]; exact fun q => by cases q), fp_y hp] at y
        exact hne (List.mem_singleton.mp y)
      · exact y
  · show ptCl (hD s) (hP (sRm p s))
    refine fun a ha i2 b hb => exP_cl hJ.1 (i3 _ (aIn_c hu)) (i3 _ (aIn_c hz)) a ha i2 b ?_
    rw [← (p3 a).1]; exact hb
  · refine ⟨hJ.2.1.1, fun b => ?_⟩
    rw [(p3 b).2, exP_1f]
    have h4 := (hJ.2.1.2 b).2.2
    by_cases hb : b ∈ aX fc i z
    · have hb2 : b ∈ aX fc i (aPl i z (tw z) (th z) w' h') := by rw [aPl_x fc_f]; exact hb
      obtain ⟨v2, g1, g2⟩ := aC_in i _ hb2
      have okp := aPl_ok i z (tw z) (th z) w' h' oz b1 b2
      obtain ⟨j3, up3, x3, y3, w3, h3, -, c3, o3, q3, q4⟩ := cR_in i _ _ _ _ _ _ p1 okp g1
      have r3 := cR_root c3
      have b3 := aOk_1 o3
      rw [g2] at r3
      exact ⟨by omega, by omega, h4⟩
    · rw [p2 b hb, exP_1f]
      exact ⟨(hJ.2.1.2 b).1, (hJ.2.1.2 b).2.1, h4⟩
  · intro b
    by_cases hb : b ∈ aX fc i z
    · have hb2 : b ∈ aX fc i (aPl i z (tw z) (th z) w' h') := by rw [aPl_x fc_f]; exact hb
      obtain ⟨v2, g1, g2⟩ := aC_in i _ hb2
      have okp := aPl_ok i z (tw z) (th z) w' h' oz b1 b2
      obtain ⟨j3, up3, x3, y3, w3, h3, -, c3, o3, q3, q4⟩ := cR_in i _ _ _ _ _ _ p1 okp g1
      have r3 := cR_root c3
      have b3 := aOk_1 o3
      rw [g2] at r3
      exact ⟨by omega, by omega⟩
    · rw [p2 b hb, exP_1f]
      exact hJ.2.2 b
