/-! ===== what is true of the reference's layout ===== -/
def spS (p q m f g a dn : Int) (s : mS) : mS := (mA 16 (va_up (s.2 16) (q).toNat (1)) (mA 7 (va_up (va_up (s.2 7) (f).toNat (m)) (g).toNat (m)) (mA 7 (va_up (s.2 7) (f).toNat (m)) (mA 9 (va_up (s.2 9) (m).toNat a) (mA 8 (va_up (s.2 8) (m).toNat dn) (mA 6 (va_up (s.2 6) (m).toNat (g)) (mA 5 (va_up (s.2 5) (m).toNat (f)) (mA 4 (va_up (va_up (va_up (s.2 4) (f).toNat (p)) (g).toNat (q)) (m).toNat (-1)) (mA 17 (va_up (va_up (s.2 17) (p).toNat (f)) (q).toNat (g)) (mA 17 (va_up (s.2 17) (p).toNat (f)) (mA 4 (va_up (va_up (s.2 4) (f).toNat (p)) (g).toNat (q)) (mA 4 (va_up (s.2 4) (f).toNat (p)) (mA 3 (va_up (va_up (s.2 3) (f).toNat 1) (g).toNat 1) (mA 3 (va_up (s.2 3) (f).toNat 1) s))))))))))))))
/-- links and areas, which nodes and panes are used, the panes' ranges -/
def rI (t : aT) (s : mS) : Prop := rK s 8 t (-1) ∧ rA s 8 t 0 0 ∧ (∀ i, i < 16 → s.2 3 i = if i ∈ aX fm 8 t then 1 else 0) ∧ (∀ p, p < 8 → s.2 16 p = if p ∈ aX fp 8 t then 1 else 0) ∧ (∀ p, p ∈ aX fp 8 t → mPk s p) ∧ ∀ p, p < 8 → mPu s p
theorem rI_lev {k : Nat} {t : aT} {w h : Int} {s : mS} (hG : aG k t w h) (h1 : rK s k t (-1)) (h2 : rA s k t 0 0) (h3 : ∀ i, i < 16 → s.2 3 i = if i ∈ aX fm k t then 1 else 0) (h4 : ∀ p, p < 8 → s.2 16 p = if p ∈ aX fp k t then 1 else 0) (h5 : ∀ p, p ∈ aX fp k t → mPk s p) (h6 : ∀ p, p < 8 → mPu s p) : rI t s := by
  obtain ⟨g1, g2⟩ := aG_lev hG
  refine ⟨?_, ?_, by rw [g2]; exact h3, by rw [g2]; exact h4, by rw [g2]; exact h5, h6⟩
  · rcases Nat.le_total k 8 with q | q
    · exact rK_le h1 q
    · exact rK_dn 8 t _ _ _ k g1.1 h1 q
  · rcases Nat.le_total k 8 with q | q
    · exact rA_le h2 q
    · exact rA_dn 8 t _ _ _ _ k g1.1 h2 q
theorem aKept_id {w a : Int} (h : 2 ≤ w) : aKept w w a = a := by
  unfold aKept
  exact Int.mul_ediv_cancel_left a (by omega)
theorem aPl_dv {nc f g p q : Nat} {dn a : Int} {v : aT} (hd : dn = 0 ∨ dn = 1) (ha : 1 ≤ a ∧ a ≤ (if dn = 0 then tw v else th v) - 2) : aPl 2 (aDv nc f g dn a v p q) (tw v) (th v) (tw v) (th v) = aDv nc f g dn a v p q := by
  rcases hd with hd | hd
  · subst hd
    rw [if_pos rfl] at ha
    rw [aPl_0 rfl rfl]
    have ek : aKept (tw v) (tw v) (ta (aDv nc f g 0 a v p q)) = a := aKept_id (by omega)
    rw [ek, aPl_n (fun z => by cases z), aPl_n (fun z => by cases z)]
    rfl
  · subst hd
    rw [if_neg (by decide)] at ha
    rw [aPl_1 rfl (show ¬ (1 : Int) = 0 by decide)]
    have ek : aKept (th v) (th v) (ta (aDv nc f g 1 a v p q)) = a := aKept_id (by omega)
    rw [ek, aPl_n (fun z => by cases z), aPl_n (fun z => by cases z)]
    rfl
set_option maxHeartbeats 1000000 in
theorem rI_div {W H dn a x0 y0 : Int} {nc f g p q : Nat} {t v : aT} {s s2 s3 : mS} (hG : aG 8 t W H) (hI : rI t s) (hv : aIn v 8 t) (hp : tp v = some p) (hd : dn = 0 ∨ dn = 1) (ha : 1 ≤ a ∧ a ≤ (if dn = 0 then tw v else th v) - 2) (hnc : ∀ b, b ∈ aX fc 8 t → b < nc) (hf : f ∉ aX fm 8 t) (hg : g ∉ aX fm 8 t) (hfg : f ≠ g) (hf16 : f < 16) (hg16 : g < 16) (hq : q ∉ aX fp 8 t) (hq8 : q < 8) (e10 : s.2 10 (tm v) = x0) (e11 : s.2 11 (tm v) = y0) (hQ : mPq q (spS p q (tm v) f g a dn s) s2) (hL : lyF [tm v, f, g] [p, q] 0 s2 s3) (hR : rA s3 2 (aDv nc f g dn a v p q) x0 y0) (hk : ∀ p', p' ∈ [p, q] → mPk s3 p') : rI (aRep (tc v) (aDv nc f g dn a v p q) 8 t) s3 := by
  obtain ⟨i1, i2, i3, i4, i5, i6⟩ := hI
  obtain ⟨ok, n1, n2, n3, n4⟩ := id hG
  have g1 := aG_div (n := nc) hG hv hp hd ha hnc hf hg hfg hq hq8
  have hu := aDv_fits (n := nc) (f := f) (g := g) (p := p) (q := q) hd ha
  have hvm := aIn_m ok hv
  have hvp := aIn_p ok hv hp
  have hmf : tm v ≠ f := fun z => hf (z ▸ hvm)
  have hmg : tm v ≠ g := fun z => hg (z ▸ hvm)
  have hpq : p ≠ q := fun z => hq (z ▸ hvp)
  have hp8 := n4 p hvp
  have vn : ¬ tp v = none := by rw [hp]; exact fun z => by cases z
  have xm : aX fm 9 (aDv nc f g dn a v p q) = [tm v, f, g] := aDv_x (k := 7)
  have xp : aX fp 9 (aDv nc f g dn a v p q) = [p, q] := aDv_x (k := 7)
  -- what stands in the state
  have lo : ∀ j, j < 18 → j ≠ 9 → j ≠ 10 → j ≠ 11 → j ≠ 12 → j ≠ 13 → j ≠ 15 → s3.2 j = (spS p q (tm v) f g a dn s).2 j := fun j h1 h2 h3 h4 h5 h6 h7 => (hL.2.1 j h2 h3 h4 h5 h6 h7 (by omega) (by omega) (Or.inl h1)).trans (hQ.2.1 j (Or.inl h1))
  have S3 : s3.2 3 = va_up (va_up (s.2 3) f 1) g 1 := lo 3 (by decide) (by decide) (by decide) (by decide) (by decide) (by decide) (by decide)
  have S4 : s3.2 4 = va_up (va_up (va_up (s.2 4) f p) g q) (tm v) (-1) := lo 4 (by decide) (by decide) (by decide) (by decide) (by decide) (by decide) (by decide)
  have S5 : s3.2 5 = va_up (s.2 5) (tm v) f := lo 5 (by decide) (by decide) (by decide) (by decide) (by decide) (by decide) (by decide)
  have S6 : s3.2 6 = va_up (s.2 6) (tm v) g := lo 6 (by decide) (by decide) (by decide) (by decide) (by decide) (by decide) (by decide)
  have S7 : s3.2 7 = va_up (va_up (s.2 7) f (tm v)) g (tm v) := lo 7 (by decide) (by decide) (by decide) (by decide) (by decide) (by decide) (by decide)
  have S8 : s3.2 8 = va_up (s.2 8) (tm v) dn := lo 8 (by decide) (by decide) (by decide) (by decide) (by decide) (by decide) (by decide)
  have S16 : s3.2 16 = va_up (s.2 16) q 1 := lo 16 (by decide) (by decide) (by decide) (by decide) (by decide) (by decide) (by decide)
  have S17 : s3.2 17 = va_up (va_up (s.2 17) p f) q g := lo 17 (by decide) (by decide) (by decide) (by decide) (by decide) (by decide) (by decide)
  have no : ∀ i, i ∈ aXo fm (tc v) 8 t → i ≠ tm v ∧ i ≠ f ∧ i ≠ g := fun i hi => by
    have h1 := aXo_dis 8 t W H ok n2 hv i hi
    rw [show aX fm 8 v = [tm v] from aX_n vn] at h1
    have h2 := aXo_sub 8 t i hi
    exact ⟨fun z => h1 (z ▸ List.mem_cons_self), fun z => hf (z ▸ h2), fun z => hg (z ▸ h2)⟩
  have po : ∀ i, i ∈ aXo fp (tc v) 8 t → i ≠ p ∧ i ≠ q := fun i hi => by
    have h1 := aXo_dis 8 t W H ok n3 hv i hi
    rw [show aX fp 8 v = [p] from (aX_n vn).trans (fp_y hp)] at h1
    have h2 := aXo_sub 8 t i hi
    exact ⟨fun z => h1 (z ▸ List.mem_cons_self), fun z => hq (z ▸ h2)⟩
  have out : ∀ i, i ≠ tm v → i ≠ f → i ≠ g → ∀ j, 9 ≤ j → j ≤ 13 → s3.2 j i = s.2 j i := fun i h1 h2 h3 j h4 h5 => by
    rw [hL.2.2.1 j (Or.inl ⟨h4, h5⟩) i (by simp; exact ⟨h1, h2, h3⟩), hQ.2.1 j (by omega)]
    by_cases e : j = 9
    · subst e; exact va_up_ne _ _ h1
    · rcases (show j = 10 ∨ j = 11 ∨ j = 12 ∨ j = 13 by omega) with z | z | z | z <;> (subst z; rfl)
  have pout : ∀ i, i ≠ p → i ≠ q → s3.2 18 i = s.2 18 i ∧ s3.2 19 i = s.2 19 i := fun i h1 h2 => by
    have hi : i ∉ [p, q] := by simp; exact ⟨h1, h2⟩
    rw [hL.2.2.2.2.1 18 (by decide) (by decide) (by decide) (by decide) (by decide) (by decide) (by decide) i hi, hL.2.2.2.2.1 19 (by decide) (by decide) (by decide) (by decide) (by decide) (by decide) (by decide) i hi, hQ.2.2.1 18 (by decide) (by decide) (by decide) (by decide) (by decide) (by decide) (by decide) i h2, hQ.2.2.1 19 (by decide) (by decide) (by decide) (by decide) (by decide) (by decide) (by decide) i h2]
    exact ⟨rfl, rfl⟩
  have pk : ∀ p', p' < 8 → p' ≠ p → p' ≠ q → (mPk s p' → mPk s3 p') ∧ (mPu s p' → mPu s3 p') := fun p' _ h1 h2 => by
    have hi : p' ∉ [p, q] := by simp; exact ⟨h1, h2⟩
    exact ⟨fun z => lyF_pk hL (mPk_o (show mPk (spS p q (tm v) f g a dn s) p' from z) hQ h2) hi, fun z => lyF_pu hL (mPu_o (show mPu (spS p q (tm v) f g a dn s) p' from z) hQ h2) hi⟩
  refine rI_lev g1 ?_ ?_ ?_ ?_ ?_ ?_
  · refine rK_rep (fun j up z => ?_) 8 t (-1) i1 (fun v' hv' => ⟨fun e => aIn_one 8 t n1 hv' hv e, fun e => aIn_onem 8 t W H ok n2 hv' hv e⟩) (fun i hi => ?_) (fun p' hp' => ?_)
    · cases j with
      | zero => exact z.elim
      | succ j =>
        refine ⟨⟨z.1.1, ?_⟩, (fun p' hp' => by cases hp'), fun _ => ⟨⟨?_, ?_, ?_, ?_⟩, ⟨⟨hf16, ?_⟩, fun p' hp' => ?_, (fun e => by cases e)⟩, ⟨hg16, ?_⟩, fun p' hp' => ?_, (fun e => by cases e)⟩⟩
        · show s3.2 7 (tm v) = up
          rw [S7, va_up_ne _ _ hmg, va_up_ne _ _ hmf]; exact z.1.2
        · show s3.2 4 (tm v) = -1
          rw [S4, va_up_self]
        · show s3.2 5 (tm v) = (f : Int)
          rw [S5, va_up_self]
        · show s3.2 6 (tm v) = (g : Int)
          rw [S6, va_up_self]
        · show s3.2 8 (tm v) = dn
          rw [S8, va_up_self]
        · show s3.2 7 f = (tm v : Int)
          rw [S7, va_up_ne _ _ hfg, va_up_self]
        · have e : p = p' := Option.some.inj hp'
          subst e
          refine ⟨hp8, ?_, ?_⟩
          · show s3.2 4 f = (p : Int)
            rw [S4, va_up_ne _ _ (Ne.symm hmf), va_up_ne _ _ hfg, va_up_self]
          · show s3.2 17 p = (f : Int)
            rw [S17, va_up_ne _ _ hpq, va_up_self]
        · show s3.2 7 g = (tm v : Int)
          rw [S7, va_up_self]
        · have e : q = p' := Option.some.inj hp'
          subst e
          refine ⟨hq8, ?_, ?_⟩
          · show s3.2 4 g = (q : Int)
            rw [S4, va_up_ne _ _ (Ne.symm hmg), va_up_self]
          · show s3.2 17 q = (g : Int)
            rw [S17, va_up_self]
    · obtain ⟨h1, h2, h3⟩ := no i hi
      rw [S4, S5, S6, S7, S8, va_up_ne _ _ h1, va_up_ne _ _ h3, va_up_ne _ _ h2, va_up_ne _ _ h1, va_up_ne _ _ h1, va_up_ne _ _ h3, va_up_ne _ _ h2, va_up_ne _ _ h1]
      refine ⟨rfl, fun _ => ⟨?_, ?_⟩, rfl, rfl⟩
      · show s.2 5 i = if s.2 5 i = (tm v : Int) then (tm v : Int) else s.2 5 i
        split
        · assumption
        · rfl
      · show s.2 6 i = if s.2 6 i = (tm v : Int) then (tm v : Int) else s.2 6 i
        split
        · assumption
        · rfl
    · obtain ⟨h1, h2⟩ := po p' hp'
      rw [S17, va_up_ne _ _ h2, va_up_ne _ _ h1]
  · refine rA_rep (fun j x y w9 h9 z _ => ?_) 8 t 0 0 W H ok i2 (fun v' hv' e => aIn_one 8 t n1 hv' hv e) (fun i hi j h4 h5 => out i (no i hi).1 (no i hi).2.1 (no i hi).2.2 j h4 h5) (fun p' hp' => pout p' (po p' hp').1 (po p' hp').2)
    have r := rA_root z
    rw [e10] at r
    rw [e11] at r
    rw [← r.1, ← r.2.1]
    cases j with
    | zero => exact z.elim
    | succ j => exact rA_le hR (by omega)
  · intro i hi
    have h9 := aRep_iff (f := fm) hu 8 t W H ok n1 hv i
    have h8 := aX_iff (f := fm) 8 t W H ok n1 hv i
    rw [xm] at h9
    rw [show aX fm 8 v = [tm v] from aX_n vn] at h8
    rw [S3]
    by_cases eg : i = g
    · subst eg
      rw [va_up_self, if_pos (h9.mpr (Or.inr (by simp)))]
    · rw [va_up_ne _ _ eg]
      by_cases ef : i = f
      · subst ef
        rw [va_up_self, if_pos (h9.mpr (Or.inr (by simp)))]
      · rw [va_up_ne _ _ ef, i3 i hi]
        by_cases c : i ∈ aX fm 8 t
        · rw [if_pos c, if_pos (h9.mpr ((h8.mp c).imp id (fun y => by rw [List.mem_singleton.mp y]; exact List.mem_cons_self)))]
        · rw [if_neg c, if_neg (fun y => c (h8.mpr ((h9.mp y).imp id (fun y => by
            have y2 : i = tm v ∨ i = f ∨ i = g := by simpa using y
            rcases y2 with y2 | y2 | y2
            · rw [y2]; exact List.mem_cons_self
            · exact absurd y2 ef
            · exact absurd y2 eg))))]
  · intro i hi
    have h9 := aRep_iff (f := fp) hu 8 t W H ok n1 hv i
    have h8 := aX_iff (f := fp) 8 t W H ok n1 hv i
    rw [xp] at h9
    rw [show aX fp 8 v = [p] from (aX_n vn).trans (fp_y hp)] at h8
    rw [S16]
    by_cases eq : i = q
    · subst eq
      rw [va_up_self, if_pos (h9.mpr (Or.inr (by simp)))]
    · rw [va_up_ne _ _ eq, i4 i hi]
      by_cases c : i ∈ aX fp 8 t
      · rw [if_pos c, if_pos (h9.mpr ((h8.mp c).imp id (fun y => by rw [List.mem_singleton.mp y]; exact List.mem_cons_self)))]
      · rw [if_neg c, if_neg (fun y => c (h8.mpr ((h9.mp y).imp id (fun y => by
          have y2 : i = p ∨ i = q := by simpa using y
          rcases y2 with y2 | y2
          · rw [y2]; exact List.mem_cons_self
          · exact absurd y2 eq))))]
  · intro p' hp'
    rcases (aRep_iff (f := fp) hu 8 t W H ok n1 hv p').mp hp' with y | y
    · have h2 := aXo_sub 8 t p' y
      exact (pk p' (n4 p' h2) (po p' y).1 (po p' y).2).1 (i5 p' h2)
    · rw [xp] at y; exact hk p' y
  · intro p' hp'
    by_cases e : p' ∈ [p, q]
    · exact mPu_pk (hk p' e)
    · have e2 : p' ≠ p ∧ p' ≠ q := by simpa using e
      exact (pk p' hp' e2.1 e2.2).2 (i6 p' hp')
