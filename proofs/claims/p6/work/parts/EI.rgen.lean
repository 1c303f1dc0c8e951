/-! ===== the reference in general: what holds between calls ===== -/
theorem pw_M_mo {E : pw_E} {y : MethodName} {Y : pw_Y} {rm : Room} {av : List Value} {h : pz_H} {n : Nat} {Q Q' : Option Value → pz_H → Nat → Prop} {X X' : String → pz_H → Nat → Prop} (hM : pw_M E y Y rm av h n Q X) (hQ : ∀ r h' n', Q r h' n' → Q' r h' n') (hX : ∀ C h' n', X C h' n' → X' C h' n') : pw_M E y Y rm av h n Q' X' := fun L =>
  Jvm.Free.MetFree.mono (hM L) (fun _ _ z => z) (fun _ _ _ _ _ _ => trivial) (fun a s o t _ hq => by
    rcases hq with ⟨⟨L', r, h', n', e1, e2, e3, e4, e5, e6, e7⟩, hq2⟩ | ⟨q, e0, C, ce, Ls, ⟨L', h', n', e1, e2, e3, e4, e5⟩, hr⟩
    · exact Or.inl ⟨⟨L', r, h', n', e1, e2, e3, e4, e5, hQ _ _ _ e6, e7⟩, hq2⟩
    · exact Or.inr ⟨q, e0, C, ce, Ls, ⟨L', h', n', e1, e2, e3, hX _ _ _ e4, e5⟩, hr⟩)
theorem pw_MH_mo {E : pw_E} {y : MethodName} {Y : pw_Y} {hh : List (Nat × Nat × Nat × Nat)} {rm : Room} {av : List Value} {h : pz_H} {n : Nat} {Q Q' : Option Value → pz_H → Nat → Prop} {X : String → pz_H → Nat → Prop} (hM : pw_MH E y Y hh rm av h n Q X) (hQ : ∀ r h' n', Q r h' n' → Q' r h' n') : pw_MH E y Y hh rm av h n Q' X := fun L =>
  Jvm.Free.MetFree.mono (hM L) (fun _ _ z => z) (fun _ _ _ _ _ _ => trivial) (fun a s o t _ hq => by
    rcases hq with ⟨⟨L', r, h', n', e1, e2, e3, e4, e5, e6, e7⟩, hq2⟩ | hr
    · exact Or.inl ⟨⟨L', r, h', n', e1, e2, e3, e4, e5, hQ _ _ _ e6, e7⟩, hq2⟩
    · exact Or.inr hr)
theorem i32 (x : Int32) : -2147483648 ≤ x.toInt ∧ x.toInt < 2147483648 := ⟨Int32.le_toInt x, Int32.toInt_lt x⟩
theorem zI_ex (a : Int) : ∃ v, (-2147483648 ≤ v ∧ v < 2147483648) ∧ zI a = zI v := ⟨(zI a).toInt, i32 _, zI_of _⟩
/-- an int whose range isn't known -/
theorem pw_fresh {E : pw_E} {Y : pw_Y} {R : Room} {K : pw_K} {uc us pc : Nat} {lv : List (Option Value)} {st : List Value} {h : pz_H} {n : Nat} {a : Int} (kk : ∀ v, (-2147483648 ≤ v ∧ v < 2147483648) → pw E Y R K uc us pc lv (.int (zI v) :: st) h n) : pw E Y R K uc us pc lv (.int (zI a) :: st) h n := by
  obtain ⟨v, hv, e⟩ := zI_ex a
  rw [e]
  exact kk v hv
theorem pw_freshX {E : pw_E} {Y : pw_Y} {R : Room} {K : pw_K} {uc us pc : Nat} {lv : List (Option Value)} {st : List Value} {h : pz_H} {n : Nat} {a : Int32} (kk : ∀ v, (-2147483648 ≤ v ∧ v < 2147483648) → pw E Y R K uc us pc lv (.int (zI v) :: st) h n) : pw E Y R K uc us pc lv (.int a :: st) h n := by
  rw [zI_of a]
  exact kk _ (i32 _)
/-- where what hangs in a tree lies -/
theorem rA_pos {s : mS} {v : aT} : ∀ (k : Nat) (t : aT) (x y w h : Int), rA s k t x y → aOk k t w h → aIn v k t → ∃ j x' y', (0 < j ∧ j ≤ k) ∧ rA s j v x' y' ∧ aOk j v (tw v) (th v) ∧ (x ≤ x' ∧ x' + tw v ≤ x + w) ∧ (y ≤ y' ∧ y' + th v ≤ y + h)
  | 0, _, _, _, _, _, z, _, _ => z.elim
  | k + 1, t, x, y, w, h, z, ok, hv => by
    rcases hv with hv | ⟨e, hv⟩
    · subst hv
      obtain ⟨e1, e2⟩ := aOk_sz ok
      rw [e1, e2]
      exact ⟨k + 1, x, y, ⟨by omega, Nat.le_refl _⟩, z, ok, by omega, by omega⟩
    · have c1 := (z.2.2 e).2.1
      have c2 := (z.2.2 e).2.2
      by_cases d : td t = 0
      · obtain ⟨o1, o2⟩ := aOk_0 ok e d
        have b1 := aOk_1 o1
        have b2 := aOk_1 o2
        unfold sx sy at c2
        rw [if_pos d, if_pos d] at c2
        rcases hv with hv | hv
        · obtain ⟨j, x', y', hj, a1, a2, a3, a4⟩ := rA_pos k _ _ _ _ _ c1 o1 hv
          exact ⟨j, x', y', ⟨hj.1, by omega⟩, a1, a2, by omega, by omega⟩
        · obtain ⟨j, x', y', hj, a1, a2, a3, a4⟩ := rA_pos k _ _ _ _ _ c2 o2 hv
          exact ⟨j, x', y', ⟨hj.1, by omega⟩, a1, a2, by omega, by omega⟩
      · obtain ⟨d1, o1, o2⟩ := aOk_d ok e d
        have b1 := aOk_1 o1
        have b2 := aOk_1 o2
        unfold sx sy at c2
        rw [if_neg d, if_neg d] at c2
        rcases hv with hv | hv
        · obtain ⟨j, x', y', hj, a1, a2, a3, a4⟩ := rA_pos k _ _ _ _ _ c1 o1 hv
          exact ⟨j, x', y', ⟨hj.1, by omega⟩, a1, a2, by omega, by omega⟩
        · obtain ⟨j, x', y', hj, a1, a2, a3, a4⟩ := rA_pos k _ _ _ _ _ c2 o2 hv
          exact ⟨j, x', y', ⟨hj.1, by omega⟩, a1, a2, by omega, by omega⟩
/-- a node's place -/
def ndF (W H : Int) (s : mS) (i : Nat) : Prop := i < 16 ∧ (0 ≤ s.2 10 i ∧ 1 ≤ s.2 12 i ∧ s.2 10 i + s.2 12 i ≤ W) ∧ (0 ≤ s.2 11 i ∧ 1 ≤ s.2 13 i ∧ s.2 11 i + s.2 13 i ≤ H)
theorem rI_in {W H : Int} {t v : aT} {s : mS} (hG : aG 8 t W H) (hI : rI t s) (hv : aIn v 8 t) : ndF W H s (tm v) ∧ (s.2 12 (tm v) = tw v ∧ s.2 13 (tm v) = th v) ∧ (∀ p, tp v = some p → p < 8 ∧ p ∈ aX fp 8 t ∧ s.2 4 (tm v) = (p : Int) ∧ s.2 17 p = (tm v : Int) ∧ s.2 18 p = s.2 12 (tm v) ∧ s.2 19 p = s.2 13 (tm v)) ∧ (tp v = none → s.2 4 (tm v) = -1 ∧ (0 ≤ s.2 8 (tm v) ∧ s.2 8 (tm v) ≤ 1) ∧ (0 ≤ s.2 9 (tm v) ∧ s.2 9 (tm v) ≤ W + H)) := by
  obtain ⟨j1, up, hj1, hK⟩ := rK_in 8 t _ hI.1 hv
  obtain ⟨j, x, y, hj, hA, ok, px, py⟩ := rA_pos 8 t 0 0 W H hI.2.1 hG.1 hv
  obtain ⟨a, rfl⟩ : ∃ a, j = a + 1 := ⟨j - 1, by omega⟩
  obtain ⟨b, rfl⟩ : ∃ b, j1 = b + 1 := ⟨j1 - 1, by omega⟩
  obtain ⟨⟨e10, e11, e12, e13⟩, hl, hs⟩ := hA
  obtain ⟨⟨m16, -⟩, kl, ks⟩ := hK
  have o1 := aOk_1 ok
  refine ⟨⟨m16, by rw [e10, e12]; omega, by rw [e11, e13]; omega⟩, ⟨e12, e13⟩, fun p hp => ?_, fun e => ?_⟩
  · obtain ⟨p8, k4, k17⟩ := kl p hp
    obtain ⟨l18, l19⟩ := hl p hp
    exact ⟨p8, aIn_p hG.1 hv hp, k4, k17, by rw [l18, e12], by rw [l19, e13]⟩
  · obtain ⟨⟨k4, -, -, k8⟩, -, -⟩ := ks e
    have a9 := (hs e).1
    have hd := (ok.2 e).1
    refine ⟨k4, by rw [k8]; exact hd, ?_⟩
    rw [a9]
    by_cases d : td v = 0
    · obtain ⟨o1, o2⟩ := aOk_0 ok e d
      have b1 := aOk_1 o1
      have b2 := aOk_1 o2
      omega
    · obtain ⟨d1, o1, o2⟩ := aOk_d ok e d
      have b1 := aOk_1 o1
      have b2 := aOk_1 o2
      omega
theorem rI_us {t : aT} {s : mS} (hI : rI t s) : mUs s := fun i hi => by
  rw [hI.2.2.2.1 i hi]
  split <;> omega
theorem rI_used {t : aT} {s : mS} {p : Nat} (hI : rI t s) (hp : p < 8) : s.2 16 p = 1 ↔ p ∈ aX fp 8 t := by
  rw [hI.2.2.2.1 p hp]
  constructor
  · intro z
    split at z
    · assumption
    · omega
  · intro z; exact if_pos z
theorem rI_no {t : aT} {s : mS} {p : Int} (hI : rI t s) : mNo s p = 0 ↔ (0 ≤ p ∧ p < 8) ∧ p.toNat ∈ aX fp 8 t := by
  constructor
  · intro z
    obtain ⟨a, b, c⟩ := mNo_0 z
    exact ⟨⟨a, b⟩, (rI_used hI (by omega)).mp c⟩
  · rintro ⟨⟨a, b⟩, c⟩
    unfold mNo
    exact if_pos ⟨a, b, (rI_used hI (by omega)).mpr c⟩
/-- a pane's leaf -/
theorem rI_leaf {W H : Int} {t : aT} {s : mS} {p : Nat} (hG : aG 8 t W H) (hI : rI t s) (hp : p ∈ aX fp 8 t) : p < 8 ∧ mPk s p ∧ ∃ m : Nat, s.2 17 p = (m : Int) ∧ ndF W H s m ∧ s.2 18 p = s.2 12 m ∧ s.2 19 p = s.2 13 m := by
  obtain ⟨v, hv, ev⟩ := aP_in 8 t hp
  obtain ⟨h1, -, h3, -⟩ := rI_in hG hI hv
  obtain ⟨p8, -, -, k17, k18, k19⟩ := h3 p ev
  exact ⟨p8, hI.2.2.2.2.1 p hp, tm v, k17, h1, k18, k19⟩
/-- a node of the layout -/
theorem rI_node {W H : Int} {t : aT} {s : mS} {i : Nat} (hG : aG 8 t W H) (hI : rI t s) (hi : i < 16) (h3 : s.2 3 i = 1) : ndF W H s i ∧ ((s.2 4 i = -1 ∧ (0 ≤ s.2 8 i ∧ s.2 8 i ≤ 1) ∧ (0 ≤ s.2 9 i ∧ s.2 9 i ≤ W + H)) ∨ ((0 ≤ s.2 4 i ∧ s.2 4 i < 8) ∧ mPk s (s.2 4 i).toNat ∧ s.2 18 (s.2 4 i).toNat = s.2 12 i ∧ s.2 19 (s.2 4 i).toNat = s.2 13 i)) := by
  have hm : i ∈ aX fm 8 t := by
    rw [hI.2.2.1 i hi] at h3
    split at h3
    · assumption
    · omega
  obtain ⟨v, hv, ev⟩ := aM_in 8 t hm
  obtain ⟨h1, -, h3, h4⟩ := rI_in hG hI hv
  rw [ev] at h1 h3 h4
  refine ⟨h1, ?_⟩
  cases e : tp v with
  | none => exact Or.inl (h4 e)
  | some p =>
    obtain ⟨p8, hp, k4, k17, k18, k19⟩ := h3 p e
    refine Or.inr ?_
    rw [k4, Int.toNat_natCast]
    exact ⟨by omega, hI.2.2.2.2.1 p hp, k18, k19⟩
/-- the reference's numbers -/
def rV (W H : Int) (t : aT) (s : mS) : Prop := (s.1 1 = W ∧ s.1 2 = H) ∧ ((0 ≤ s.1 47 ∧ s.1 47 < 8) ∧ (s.1 47).toNat ∈ aX fp 8 t) ∧ (0 ≤ s.1 48 ∧ s.1 48 ≤ 1) ∧ (0 ≤ s.1 49 ∧ s.1 49 ≤ 400) ∧ (-1 ≤ s.1 53 ∧ s.1 53 ≤ 100) ∧ (0 ≤ s.1 54 ∧ s.1 54 ≤ 100) ∧ (0 ≤ s.1 55 ∧ s.1 55 ≤ 1) ∧ (-2147483648 ≤ s.1 56 ∧ s.1 56 < 2147483648) ∧ (0 ≤ s.1 57 ∧ s.1 57 ≤ 24000)
/-- all that holds of it between calls -/
def rH (W H M : Int) (t : aT) (s : mS) : Prop := aG 8 t W H ∧ rI t s ∧ rV W H t s ∧ 0 ≤ M ∧ ∀ p, p < 8 → s.2 45 p ≤ M
theorem rI_same {t : aT} {s s' : mS} (hI : rI t s) (e : ∀ k, k < 46 → s'.2 k = s.2 k) : rI t s' := by
  obtain ⟨i1, i2, i3, i4, i5, i6⟩ := hI
  refine ⟨rK_of 8 t _ i1 (fun i _ => ⟨by rw [e 4 (by decide)], by rw [e 5 (by decide)], by rw [e 6 (by decide)], by rw [e 7 (by decide)], by rw [e 8 (by decide)]⟩) (fun p _ => by rw [e 17 (by decide)]), rA_of 8 t _ _ i2 (fun i _ j h1 h2 => by rw [e j (by omega)]) (fun p _ => ⟨by rw [e 18 (by decide)], by rw [e 19 (by decide)]⟩), by rw [e 3 (by decide)]; exact i3, by rw [e 16 (by decide)]; exact i4, fun p hp => mPk_same (fun j _ h2 => e j (by omega)) (i5 p hp), fun p hp => mPu_same (fun j _ h2 => e j (by omega)) (i6 p hp)⟩
theorem rH_same {W H M : Int} {t : aT} {s s' : mS} (hH : rH W H M t s) (e : ∀ k, k < 46 → s'.2 k = s.2 k) (hv : rV W H t s') : rH W H M t s' :=
  ⟨hH.1, rI_same hH.2.1 e, hv, hH.2.2.2.1, by rw [e 45 (by decide)]; exact hH.2.2.2.2⟩
theorem rV_of {W H : Int} {t : aT} {s s' : mS} (hV : rV W H t s) (e : s'.1 = s.1) : rV W H t s' := by
  unfold rV
  rw [e]
  exact hV
theorem rV_0 {W H v : Int} {t : aT} {s : mS} (hV : rV W H t s) : rV W H t (mV 0 v s) := hV
theorem rH_0 {W H M v : Int} {t : aT} {s : mS} (hH : rH W H M t s) : rH W H M t (mV 0 v s) := rH_same hH (fun _ _ => rfl) (rV_0 hH.2.2.1)
theorem rH_mo {W H M M' : Int} {t : aT} {s : mS} (hH : rH W H M t s) (hM : M ≤ M') : rH W H M' t s :=
  ⟨hH.1, hH.2.1, hH.2.2.1, by have := hH.2.2.2.1; omega, fun p hp => by have := hH.2.2.2.2 p hp; omega⟩
/-- one pane has changed, not its size -/
theorem rH_pq {W H M : Int} {t : aT} {s s' : mS} {p : Nat} (hH : rH W H M t s) (hp : p < 8) (hq : mPq p s s') (hk : mPk s' p) (e18 : s'.2 18 p = s.2 18 p) (e19 : s'.2 19 p = s.2 19 p) : rH W H M t s' := by
  obtain ⟨hG, ⟨i1, i2, i3, i4, i5, i6⟩, hV, hM, h45⟩ := hH
  have e : ∀ k, k < 18 → s'.2 k = s.2 k := fun k hk => hq.2.1 k (Or.inl hk)
  have wd : ∀ i, s'.2 18 i = s.2 18 i ∧ s'.2 19 i = s.2 19 i := fun i => by
    by_cases ei : i = p
    · rw [ei]; exact ⟨e18, e19⟩
    · exact ⟨hq.2.2.1 18 (by decide) (by decide) (by decide) (by decide) (by decide) (by decide) (by decide) i ei, hq.2.2.1 19 (by decide) (by decide) (by decide) (by decide) (by decide) (by decide) (by decide) i ei⟩
  refine ⟨hG, ⟨rK_of 8 t _ i1 (fun i _ => ⟨by rw [e 4 (by decide)], by rw [e 5 (by decide)], by rw [e 6 (by decide)], by rw [e 7 (by decide)], by rw [e 8 (by decide)]⟩) (fun p _ => by rw [e 17 (by decide)]), rA_of 8 t _ _ i2 (fun i _ j h1 h2 => by rw [e j (by omega)]) (fun i _ => wd i), by rw [e 3 (by decide)]; exact i3, by rw [e 16 (by decide)]; exact i4, fun i hi => ?_, fun i hi => ?_⟩, rV_of hV hq.1, hM, fun i hi => ?_⟩
  · by_cases ei : i = p
    · rw [ei]; exact hk
    · exact mPk_o (i5 i hi) hq ei
  · by_cases ei : i = p
    · rw [ei]; exact mPu_pk hk
    · exact mPu_o (i6 i hi) hq ei
  · rcases hq.2.2.2.2 i with z | z
    · rw [z]; exact h45 i hi
    · rw [z]; exact hM
