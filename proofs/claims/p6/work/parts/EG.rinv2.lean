/-! ===== .. and by a removal ===== -/
theorem clS_o {z up sp : Int} {s : mS} {j : Nat} (h5 : j ≠ 5) (h6 : j ≠ 6) (h7 : j ≠ 7) : (clS z up sp s).2 j = s.2 j := by
  unfold clS
  split
  · exact mA_ne h7
  · split
    · exact (mA_ne h5).trans (mA_ne h7)
    · exact (mA_ne h6).trans (mA_ne h7)
theorem clS_7 {z up sp : Int} {s : mS} : (clS z up sp s).2 7 = va_up (s.2 7) z.toNat up := by
  unfold clS
  split
  · rfl
  · split
    · rfl
    · rfl
theorem clE_o {p m sp : Int} {s : mS} {j : Nat} (h3 : j ≠ 3) (h16 : j ≠ 16) : (clE p m sp s).2 j = s.2 j := (mA_ne h16).trans ((mA_ne h3).trans (mA_ne h3))
theorem aX_mono {α : Type} {f : aI → List α} : ∀ (a b : Nat) (t : aT), a ≤ b → ∀ i, i ∈ aX f a t → i ∈ aX f b t
  | 0, _, _, _, _, hi => by cases hi
  | a + 1, b, t, hab, i, hi => by
    obtain ⟨b', rfl⟩ : ∃ b', b = b' + 1 := ⟨b - 1, by omega⟩
    by_cases en : tp t = none
    · rw [aX_l en] at hi ⊢
      rcases List.mem_append.mp hi with y | y
      · exact List.mem_append_left _ y
      · refine List.mem_append_right _ (List.mem_append.mpr ?_)
        rcases List.mem_append.mp y with y | y
        · exact Or.inl (aX_mono a b' _ (by omega) i y)
        · exact Or.inr (aX_mono a b' _ (by omega) i y)
    · rw [aX_n en] at hi ⊢; exact hi
theorem aX_any {α : Type} {f : aI → List α} {k j : Nat} {t : aT} {w h : Int} {i : α} (ok : aOk k t w h) (hi : i ∈ aX f j t) : i ∈ aX f k t := by
  rcases Nat.le_total j k with q | q
  · exact aX_mono j k t q i hi
  · rw [aX_lev k t w h ok j q] at hi; exact hi
set_option maxHeartbeats 1000000 in
theorem rI_rm {W H x0 y0 : Int} {p : Nat} {t u v z : aT} {s s3 : mS} (hG : aG 8 t W H) (hI : rI t s) (hu : aIn u 8 t) (e : tp u = none) (hs : aSib u v z) (hp : tp v = some p) (e10 : s.2 10 (tm u) = x0) (e11 : s.2 11 (tm u) = y0) (hL : lyF (aX fm 8 z) (aX fp 8 z) 0 (clE p (tm v) (tm u) (clS (tm z) (s.2 7 (tm u)) (tm u) s)) s3) (hR : rA s3 8 (aUpT 8 u z) x0 y0) (hk : ∀ p', p' ∈ aX fp 8 z → mPk s3 p') : rI (aRep (tc u) (aUpT 8 u z) 8 t) s3 := by
  obtain ⟨i1, i2, i3, i4, i5, i6⟩ := hI
  obtain ⟨ok, n1, n2, n3, n4⟩ := id hG
  have g1 := aG_rm hG hu e hs
  obtain ⟨il, ir⟩ := aIn_lr 8 t W H ok hu e
  have hz : aIn z 8 t := by
    rcases hs with ⟨-, h2⟩ | ⟨-, h2⟩
    · exact h2 ▸ ir
    · exact h2 ▸ il
  have hv : aIn v 8 t := by
    rcases hs with ⟨h2, -⟩ | ⟨h2, -⟩
    · exact h2 ▸ il
    · exact h2 ▸ ir
  obtain ⟨jz, wz, hz2, hjz, oz, -⟩ := aIn_ok 8 t W H ok hz
  have oz8 := aOk_le oz hjz.2
  have hf := aUp_fits hs e oz8
  have vn : ¬ tp v = none := by rw [hp]; exact fun y => by cases y
  have xv : aX fm 8 v = [tm v] := aX_n vn
  have xvp : aX fp 8 v = [p] := (aX_n vn).trans (fp_y hp)
  have tmY : tm (aUpT 8 u z) = tm z := aPl_c.2.1
  have sm := aSib_x ok hu e hs fm
  have sp_ := aSib_x ok hu e hs fp
  have ndu := aIn_nd 8 t W H ok n2 hu
  have ndup := aIn_nd 8 t W H ok n3 hu
  have zin : tm z ∈ aX fm 8 z := aX_m (by decide)
  -- what stands in the state
  have lo : ∀ j, j < 18 → j ≠ 3 → j ≠ 9 → j ≠ 10 → j ≠ 11 → j ≠ 12 → j ≠ 13 → j ≠ 15 → j ≠ 16 → s3.2 j = (clS (tm z) (s.2 7 (tm u)) (tm u) s).2 j := fun j h1 h0 h2 h3 h4 h5 h6 h7 h8 => (hL.2.1 j h2 h3 h4 h5 h6 h7 (by omega) (by omega) (Or.inl h1)).trans (clE_o h0 h8)
  have S3 : s3.2 3 = va_up (va_up (s.2 3) (tm v) 0) (tm u) 0 := (hL.2.1 3 (by decide) (by decide) (by decide) (by decide) (by decide) (by decide) (by decide) (by decide) (by decide)).trans (by
    show va_up (va_up ((clS (tm z) (s.2 7 (tm u)) (tm u) s).2 3) (tm v) 0) (tm u) 0 = _
    rw [clS_o (by decide) (by decide) (by decide)])
  have S16 : s3.2 16 = va_up (s.2 16) p 0 := (hL.2.1 16 (by decide) (by decide) (by decide) (by decide) (by decide) (by decide) (by decide) (by decide) (by decide)).trans (by
    show va_up ((clS (tm z) (s.2 7 (tm u)) (tm u) s).2 16) p 0 = _
    rw [clS_o (by decide) (by decide) (by decide)])
  have S4 : s3.2 4 = s.2 4 := (lo 4 (by decide) (by decide) (by decide) (by decide) (by decide) (by decide) (by decide) (by decide) (by decide)).trans (clS_o (by decide) (by decide) (by decide))
  have S8 : s3.2 8 = s.2 8 := (lo 8 (by decide) (by decide) (by decide) (by decide) (by decide) (by decide) (by decide) (by decide) (by decide)).trans (clS_o (by decide) (by decide) (by decide))
  have S17 : s3.2 17 = s.2 17 := (lo 17 (by decide) (by decide) (by decide) (by decide) (by decide) (by decide) (by decide) (by decide) (by decide)).trans (clS_o (by decide) (by decide) (by decide))
  have S7 : s3.2 7 = va_up (s.2 7) (tm z) (s.2 7 (tm u)) := (lo 7 (by decide) (by decide) (by decide) (by decide) (by decide) (by decide) (by decide) (by decide) (by decide)).trans clS_7
  have S5 := lo 5 (by decide) (by decide) (by decide) (by decide) (by decide) (by decide) (by decide) (by decide) (by decide)
  have S6 := lo 6 (by decide) (by decide) (by decide) (by decide) (by decide) (by decide) (by decide) (by decide) (by decide)
  have no : ∀ i, i ∈ aXo fm (tc u) 8 t → i ∉ aX fm 8 z ∧ i ≠ tm u ∧ i ≠ tm v := fun i hi => by
    have h1 := aXo_dis 8 t W H ok n2 hu i hi
    refine ⟨fun y => h1 ((sm.1 i).mpr (Or.inr (Or.inr y))), fun y => h1 ((sm.1 i).mpr (Or.inl (y ▸ List.mem_cons_self))), fun y => h1 ((sm.1 i).mpr (Or.inr (Or.inl (by rw [xv, y]; exact List.mem_cons_self))))⟩
  have po : ∀ i, i ∈ aXo fp (tc u) 8 t → i ∉ aX fp 8 z ∧ i ≠ p := fun i hi => by
    have h1 := aXo_dis 8 t W H ok n3 hu i hi
    exact ⟨fun y => h1 ((sp_.1 i).mpr (Or.inr (Or.inr y))), fun y => h1 ((sp_.1 i).mpr (Or.inr (Or.inl (by rw [xvp, y]; exact List.mem_cons_self))))⟩
  have same : ∀ j, 18 ≤ j → j ≤ 45 → (clE p (tm v) (tm u) (clS (tm z) (s.2 7 (tm u)) (tm u) s)).2 j = s.2 j := fun j h1 h2 => (clE_o (by omega) (by omega)).trans (clS_o (by omega) (by omega) (by omega))
  -- the split above, if there is one
  have up0 : u = t → s.2 7 (tm u) = -1 := fun et => by subst et; exact (rK_root i1).2
  have up1 : ¬ u = t → ∃ w', aIn w' 8 t ∧ tp w' = none ∧ (aL w' = u ∨ aR w' = u) ∧ s.2 7 (tm u) = (tm w' : Int) ∧ tm w' < 16 ∧ s.2 5 (tm w') = (tm (aL w') : Int) ∧ s.2 6 (tm w') = (tm (aR w') : Int) := fun et => by
    rcases aUp 8 t hu with y | ⟨w', h1, h2, h3⟩
    · exact absurd y et
    · obtain ⟨j, up', hj, c⟩ := rK_in 8 t _ i1 h1
      obtain ⟨i, rfl⟩ : ∃ i, j = i + 1 := ⟨j - 1, by omega⟩
      obtain ⟨⟨-, z5, z6, -⟩, zl, zr⟩ := c.2.2 h2
      refine ⟨w', h1, h2, h3, ?_, c.1.1, z5, z6⟩
      rcases h3 with h3 | h3
      · rw [← h3]; exact (rK_root zl).2
      · rw [← h3]; exact (rK_root zr).2
  refine rI_lev g1 ?_ ?_ ?_ ?_ ?_ ?_
  · refine rK_rep (fun j up y => ?_) 8 t (-1) i1 (fun v' hv' => ⟨fun e => aIn_one 8 t n1 hv' hu e, fun e => aIn_onem 8 t W H ok n2 hv' hu e⟩) (fun i hi => ?_) (fun p' _ => by rw [S17])
    · have hup := (rK_root y).2
      cases j with
      | zero => exact y.elim
      | succ j =>
        obtain ⟨-, zl, zr⟩ := y.2.2 e
        have zz : rK s j z (tm u) := by
          rcases hs with ⟨-, h2⟩ | ⟨-, h2⟩
          · exact h2 ▸ zr
          · exact h2 ▸ zl
        -- the other one, hung higher
        have key : rK s3 j z up := by
          cases j with
          | zero => exact zz.elim
          | succ j =>
            have nz : ∀ i, i ∈ aX fm (j + 1) z → s3.2 5 i = s.2 5 i ∧ s3.2 6 i = s.2 6 i := fun i hi => by
              have hi8 : i ∈ aX fm 8 z := aX_any oz8 hi
              rw [S5, S6]
              unfold clS
              by_cases et : u = t
              · rw [if_pos (up0 et)]; exact ⟨rfl, rfl⟩
              · obtain ⟨w', h1, h2, h3, h4, h5, h6, h7⟩ := up1 et
                rw [h4, if_neg (by omega)]
                have hne : i ≠ tm w' := fun y => by
                  have hw : tm w' ∈ aX fm 8 u := (sm.1 _).mpr (Or.inr (Or.inr (y ▸ hi8)))
                  have y1 := aSp_x ok h1 h2 fm
                  have y2 := aIn_nd 8 t W H ok n2 h1
                  rw [y1] at y2
                  obtain ⟨-, -, y3⟩ := List.nodup_append.mp y2
                  rcases h3 with h3 | h3
                  · rw [h3] at y3; exact y3 _ List.mem_cons_self _ (List.mem_append_left _ hw) rfl
                  · rw [h3] at y3; exact y3 _ List.mem_cons_self _ (List.mem_append_right _ hw) rfl
                split
                · exact ⟨va_up_ne _ _ hne, rfl⟩
                · exact ⟨rfl, va_up_ne _ _ hne⟩
            refine ⟨⟨zz.1.1, ?_⟩, ?_, fun en => ?_⟩
            · rw [S7, va_up_self]; exact hup
            · rw [S4, S17]; exact zz.2.1
            · obtain ⟨a1, a2, a3⟩ := zz.2.2 en
              rw [aX_lm en] at nz
              obtain ⟨q5, q6⟩ := nz (tm z) List.mem_cons_self
              rw [S4, S8, q5, q6]
              have nd8 := aIn_nd 8 t W H ok n2 hz
              rw [aX_lm (k := 7) en] at nd8
              obtain ⟨nm, -⟩ := List.nodup_cons.mp nd8
              have lowl : ∀ i, i ∈ aX fm j (aL z) → i ≠ tm z := fun i hi y => nm (List.mem_append_left _ (aX_any (oz8.2 en).2.1 (y ▸ hi)))
              have lowr : ∀ i, i ∈ aX fm j (aR z) → i ≠ tm z := fun i hi y => nm (List.mem_append_right _ (aX_any (oz8.2 en).2.2 (y ▸ hi)))
              refine ⟨a1, rK_of j _ _ a2 (fun i hi => ?_) (fun i hi => by rw [S17]), rK_of j _ _ a3 (fun i hi => ?_) (fun i hi => by rw [S17])⟩
              · obtain ⟨r5, r6⟩ := nz i (List.mem_cons_of_mem _ (List.mem_append_left _ hi))
                rw [S4, S7, S8, va_up_ne _ _ (lowl i hi)]
                exact ⟨rfl, r5, r6, rfl, rfl⟩
              · obtain ⟨r5, r6⟩ := nz i (List.mem_cons_of_mem _ (List.mem_append_right _ hi))
                rw [S4, S7, S8, va_up_ne _ _ (lowr i hi)]
                exact ⟨rfl, r5, r6, rfl, rfl⟩
        exact rK_le (rK_pl 8 j z _ _ _ _ up key) (by omega)
    · obtain ⟨h1, h2, h3⟩ := no i hi
      have hiz : i ≠ tm z := fun y => h1 (y ▸ zin)
      rw [S4, S7, S8, va_up_ne _ _ hiz]
      refine ⟨rfl, fun h4 => ?_, rfl, rfl⟩
      have et : ¬ u = t := fun et => by subst et; rw [aXo_0 rfl] at hi; cases hi
      obtain ⟨w', w1, w2, w3, w4, w5, w6, w7⟩ := up1 et
      obtain ⟨t', t1, t2⟩ := aM_in 8 t (aXo_sub 8 t i hi)
      obtain ⟨j, up', hj, c⟩ := rK_in 8 t _ i1 t1
      obtain ⟨j, rfl⟩ : ∃ j', j = j' + 1 := ⟨j - 1, by omega⟩
      have en : tp t' = none := by
        by_cases en : tp t' = none
        · exact en
        · obtain ⟨q, hq⟩ := Option.ne_none_iff_exists'.mp en
          have := (c.2.1 q hq).2.1
          rw [t2, h4] at this
          omega
      obtain ⟨⟨-, z5, z6, -⟩, zl, zr⟩ := c.2.2 en
      obtain ⟨jl, jr⟩ := aIn_lr 8 t W H ok t1 en
      rw [t2] at z5 z6 zl zr
      have wne : tm (aL w') ≠ tm (aR w') := by
        have y1 := aSp_x ok w1 w2 fm
        have y2 := aIn_nd 8 t W H ok n2 w1
        rw [y1] at y2
        obtain ⟨-, y3, -⟩ := List.nodup_append.mp y2
        obtain ⟨-, -, y4⟩ := List.nodup_append.mp y3
        exact y4 _ (aX_m (by decide)) _ (aX_m (by decide))
      rw [S5, S6, tmY]
      unfold clS
      rw [w4, if_neg (by omega)]
      by_cases hw : i = tm w'
      · subst hw
        rcases w3 with w3 | w3
        · rw [w3] at w6 wne
          have c5 : s.2 5 ((tm w' : Int)).toNat = (tm u : Int) := w6
          rw [if_pos c5, if_pos w6, if_neg (by rw [w7]; omega)]
          exact ⟨va_up_self _ _ _, rfl⟩
        · rw [w3] at w7 wne
          have c5 : ¬ s.2 5 ((tm w' : Int)).toNat = (tm u : Int) := by
            show ¬ s.2 5 (tm w') = (tm u : Int)
            rw [w6]; omega
          rw [if_neg c5, if_neg (by rw [w6]; omega), if_pos w7]
          exact ⟨rfl, va_up_self _ _ _⟩
      · have d5 : ¬ s.2 5 i = (tm u : Int) := fun y => by
          rw [z5] at y
          have := aIn_onem 8 t W H ok n2 jl hu (by omega)
          have y2 := (rK_root zl).2
          rw [this, w4] at y2
          omega
        have d6 : ¬ s.2 6 i = (tm u : Int) := fun y => by
          rw [z6] at y
          have := aIn_onem 8 t W H ok n2 jr hu (by omega)
          have y2 := (rK_root zr).2
          rw [this, w4] at y2
          omega
        rw [if_neg d5, if_neg d6]
        split
        · exact ⟨va_up_ne _ _ hw, rfl⟩
        · exact ⟨rfl, va_up_ne _ _ hw⟩
  · refine rA_rep (fun j x y w9 h9 zA oA => ?_) 8 t 0 0 W H ok i2 (fun v' hv' e => aIn_one 8 t n1 hv' hu e) (fun i hi j h4 h5 => ?_) (fun p' hp' => ?_)
    · have r := rA_root zA
      rw [e10] at r
      rw [e11] at r
      rw [← r.1, ← r.2.1]
      rcases Nat.le_total 8 (j + 1) with q | q
      · exact rA_le hR q
      · exact rA_dn (j + 1) _ _ _ _ _ 8 (hf j w9 h9 oA) hR q
    · rw [hL.2.2.1 j (Or.inl ⟨h4, h5⟩) i (no i hi).1, clE_o (by omega) (by omega), clS_o (by omega) (by omega) (by omega)]
    · rw [hL.2.2.2.2.1 18 (by decide) (by decide) (by decide) (by decide) (by decide) (by decide) (by decide) p' (po p' hp').1, hL.2.2.2.2.1 19 (by decide) (by decide) (by decide) (by decide) (by decide) (by decide) (by decide) p' (po p' hp').1, same 18 (by decide) (by decide), same 19 (by decide) (by decide)]
      exact ⟨rfl, rfl⟩
  · intro i hi
    have h9 := aRep_iff (f := fm) hf 8 t W H ok n1 hu i
    have h8 := aX_iff (f := fm) 8 t W H ok n1 hu i
    rw [aUp_x ok hz fm_f] at h9
    rw [sm.1 i, xv] at h8
    rw [S3]
    by_cases eu : i = tm u
    · subst eu
      rw [va_up_self, if_neg (fun y => ?_)]
      rcases h9.mp y with y | y
      · exact (no _ y).2.1 rfl
      · exact (sm.2 ndu _ y).2 List.mem_cons_self
    · rw [va_up_ne _ _ eu]
      by_cases ev : i = tm v
      · subst ev
        rw [va_up_self, if_neg (fun y => ?_)]
        rcases h9.mp y with y | y
        · exact (no _ y).2.2 rfl
        · exact (sm.2 ndu _ y).1 (by rw [xv]; exact List.mem_cons_self)
      · rw [va_up_ne _ _ ev, i3 i hi]
        by_cases c : i ∈ aX fm 8 t
        · rw [if_pos c, if_pos (h9.mpr ((h8.mp c).imp id (fun y => by
            rcases y with y | y | y
            · exact absurd (List.mem_singleton.mp y) eu
            · exact absurd (List.mem_singleton.mp y) ev
            · exact y)))]
        · rw [if_neg c, if_neg (fun y => c (h8.mpr ((h9.mp y).imp id (fun y => Or.inr (Or.inr y)))))]
  · intro i hi
    have h9 := aRep_iff (f := fp) hf 8 t W H ok n1 hu i
    have h8 := aX_iff (f := fp) 8 t W H ok n1 hu i
    rw [aUp_x ok hz fp_f] at h9
    rw [sp_.1 i, xvp, fp_n e] at h8
    rw [S16]
    by_cases ev : i = p
    · subst ev
      rw [va_up_self, if_neg (fun y => ?_)]
      rcases h9.mp y with y | y
      · exact (po _ y).2 rfl
      · exact (sp_.2 ndup _ y).1 (by rw [xvp]; exact List.mem_cons_self)
    · rw [va_up_ne _ _ ev, i4 i hi]
      by_cases c : i ∈ aX fp 8 t
      · rw [if_pos c, if_pos (h9.mpr ((h8.mp c).imp id (fun y => by
          rcases y with y | y | y
          · cases y
          · exact absurd (List.mem_singleton.mp y) ev
          · exact y)))]
      · rw [if_neg c, if_neg (fun y => c (h8.mpr ((h9.mp y).imp id (fun y => Or.inr (Or.inr y)))))]
  · intro p' hp'
    rcases (aRep_iff (f := fp) hf 8 t W H ok n1 hu p').mp hp' with y | y
    · exact lyF_pk hL (mPk_same same (i5 p' (aXo_sub 8 t p' y))) (po p' y).1
    · rw [aUp_x ok hz fp_f] at y; exact hk p' y
  · intro p' hp'
    by_cases c : p' ∈ aX fp 8 z
    · exact mPu_pk (hk p' c)
    · exact lyF_pu hL (mPu_same same (i6 p' hp')) c
