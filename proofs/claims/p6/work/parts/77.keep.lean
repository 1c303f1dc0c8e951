/-! ===== what stays true of a pane, whatever its bytes are ===== -/
def cr (f : Nat → Int) : Prop := ∀ j, 0 ≤ f j ∧ f j < 524288
def lr (w : Int) (l : Nat → Int) : Prop := ∀ j, 0 ≤ l j ∧ l j ≤ w
theorem cr_zfill {f : Nat → Int} {a b v : Int} (hf : cr f) (hv : 0 ≤ v ∧ v < 524288) : cr (zfill f a b v) := fun j => by
  unfold zfill
  split
  · exact hv
  · exact hf j
theorem cr_up {f : Nat → Int} {k : Nat} {v : Int} (hf : cr f) (hv : 0 ≤ v ∧ v < 524288) : cr (va_up f k v) := fun j => by
  unfold va_up
  split
  · exact hv
  · exact hf j
theorem cr_cpy {f g : Nat → Int} {a b n : Nat} (hf : cr f) (hg : cr g) : cr (va_cpy f g a b n) := fun j => by
  unfold va_cpy
  split
  · exact hf _
  · exact hg j
theorem cr_gfill {w H r a b v : Int} {f : Nat → Int} (hf : cr f) (hv : 0 ≤ v ∧ v < 524288) : cr (gfill w H r a b v f) := by
  unfold gfill
  split
  · exact cr_zfill hf hv
  · exact hf
theorem cr_gset {w H c r v : Int} {f : Nat → Int} (hf : cr f) (hv : 0 ≤ v ∧ v < 524288) : cr (gset w H c r v f) := by
  unfold gset
  split
  · exact cr_up hf hv
  · exact hf
theorem cr_ggive {w H r k a M : Int} {f g : Nat → Int} (hf : cr f) (hg : cr g) : cr (ggive w H r k a M f g) := by
  unfold ggive
  split
  · exact cr_cpy hf hg
  · exact hg
theorem cr_moveRow {w H a b : Int} {f : Nat → Int} (hf : cr f) : cr (gmoveRow w H a b f) := by
  unfold gmoveRow
  split
  · exact cr_cpy hf hf
  · exact hf
theorem cr_moveCells {w H r a b k : Int} {f : Nat → Int} (hf : cr f) : cr (gmoveCells w H r a b k f) := by
  unfold gmoveCells
  split
  · exact cr_cpy hf hf
  · exact hf
theorem cr_keepF {w H c rows : Int} : ∀ (j : Nat) (i : Int) (f : Nat → Int), cr f → cr (gkeepF w H c rows j i f)
  | 0, _, _, hf => hf
  | j + 1, i, f, hf => cr_keepF j (i + 1) _ (cr_gfill hf (by decide))
theorem cr_keep {w H c rows : Int} {f : Nat → Int} (hf : cr f) : cr (gkeep w H c rows f) := cr_keepF _ _ _ hf
theorem cr_hgive {w o z i k at_ M : Int} {len c q : Nat → Int} (hc : cr c) (hq : cr q) : cr (hgive w o z i k at_ M len c q) := by
  unfold hgive
  split
  · exact cr_zfill (cr_cpy hc hq) (by decide)
  · exact hq
theorem cr_raise {w H bot cols k v : Int} (hv : 0 ≤ v ∧ v < 524288) : ∀ (j : Nat) (r : Int) (f : Nat → Int), cr f → cr (sRaise w H bot cols k v j r f)
  | 0, _, _, hf => hf
  | j + 1, r, f, hf => by
    unfold sRaise
    refine cr_raise hv j (r + 1) _ ?_
    split
    · exact cr_moveRow hf
    · exact cr_gfill hf hv
theorem cr_lower {w H a cols k v : Int} (hv : 0 ≤ v ∧ v < 524288) : ∀ (j : Nat) (r : Int) (f : Nat → Int), cr f → cr (sLower w H a cols k v j r f)
  | 0, _, _, hf => hf
  | j + 1, r, f, hf => by
    unfold sLower
    refine cr_lower hv j (r + (-1)) _ ?_
    split
    · exact cr_moveRow hf
    · exact cr_gfill hf hv
theorem cr_erase {w H : Int} {F : Nat → Int} {how : Int} (hv : 0 ≤ F 8 * 128 + 32 ∧ F 8 * 128 + 32 < 524288) : ∀ (j : Nat) (r : Int) (f : Nat → Int), cr f → cr (sErase w H F how j r f)
  | 0, _, _, hf => hf
  | j + 1, r, f, hf => by
    unfold sErase
    refine cr_erase hv j (r + 1) _ ?_
    split
    · exact cr_gfill hf hv
    · exact hf
theorem cr_erow {w H : Int} {F f : Nat → Int} {how : Int} (hv : 0 ≤ F 8 * 128 + 32 ∧ F 8 * 128 + 32 < 524288) (hf : cr f) : cr (sErow w H F how f) := by
  unfold sErow
  split
  · exact cr_gfill hf hv
  · exact hf
theorem cr_hist {w H k : Int} {NH : Nat} {f : Nat → Int} (hf : cr f) (hk : 0 ≤ k ∧ k ≤ w) : ∀ (j : Nat) (i : Int) (p : (Nat → Int) × (Nat → Int) × (Nat → Int)), cr p.2.1 → lr w p.2.2 → cr (sHist w H NH k f j i p).2.1 ∧ lr w (sHist w H NH k f j i p).2.2
  | 0, _, _, h1, h2 => ⟨h1, h2⟩
  | j + 1, i, p, h1, h2 => by
    unfold sHist
    refine cr_hist hf hk j (i + 1) _ (cr_ggive hf h1) (fun q => ?_)
    show 0 ≤ va_up p.2.2 _ k q ∧ va_up p.2.2 _ k q ≤ w
    unfold va_up
    split
    · exact hk
    · exact h2 q
def zCl (w : Int) (s : zSt) : Prop := cr s.2.1 ∧ cr s.2.2.1 ∧ cr s.2.2.2.2.1 ∧ lr w s.2.2.2.2.2
def zGd (w H : Int) (s : zSt) : Prop := zOk w H s ∧ zCl w s
theorem if_P {α : Type} {P : α → Prop} {c : Prop} [Decidable c] {a b : α} (h1 : P a) (h2 : P b) : P (if c then a else b) := by
  split
  · exact h1
  · exact h2
section ZG
variable {w H : Int} {N NH : Nat} {s : zSt} {F T m o x : Nat → Int}
theorem zG_pen (hs : zGd w H s) : 0 ≤ s.1 8 ∧ s.1 8 < 4096 := hs.1.2.2.2.2.2.1
theorem zG_bl (hs : zGd w H s) : 0 ≤ s.1 8 * 128 + 32 ∧ s.1 8 * 128 + 32 < 524288 := by have := zG_pen hs; omega
theorem zG_cr (hs : zGd w H s) : cr (zG s) := by
  unfold zG shG
  split
  · exact hs.2.1
  · exact hs.2.2.1
theorem cr_shM (hm : cr m) (hx : cr x) : cr (shM F m x) := by
  unfold shM
  split
  · exact hx
  · exact hm
theorem cr_shO (hm : cr o) (hx : cr x) : cr (shO F o x) := by
  unfold shO
  split
  · exact hm
  · exact hx
theorem zX_gd (hs : zGd w H s) (hF : scOk w H F s.2.2.2.1) (hx : cr x) : zGd w H (zX F x s) := ⟨hF, cr_shM hs.2.1 hx, cr_shO hs.2.2.1 hx, hs.2.2.2⟩
theorem zF_gd (hs : zGd w H s) (hF : scOk w H F s.2.2.2.1) : zGd w H (F, s.2) := ⟨hF, hs.2⟩
theorem zMove_gd {a b : Int} (hs : zGd w H s) : zGd w H (zMove a b s) := zF_gd hs (sMove_ok hs.1)
theorem scOk_in {F : Nat → Int} (hO : scOk w H F T) : scOk w H (sIn F) T := by
  unfold sIn
  split
  · exact scOk_5 hO
  · exact hO
theorem zSave_gd (hs : zGd w H s) : zGd w H (zSave s) := zF_gd hs (by
  have hO := hs.1
  unfold zOk scOk at hO
  unfold scOk sSave
  simp only [va_up]
  simp
  omega)
theorem scOk_8 {v : Int} (hO : scOk w H F T) (hv : 0 ≤ v ∧ v < 4096) : scOk w H (va_up F 8 v) T := by
  unfold scOk at *
  simp only [va_up]
  simp
  omega
theorem scOk_b {v : Int} {k : Nat} (hO : scOk w H F T) (hk : 14 ≤ k ∧ k ≤ 17) (hv : 0 ≤ v ∧ v ≤ 1) : scOk w H (va_up F k v) T := by
  rcases (show k = 14 ∨ k = 15 ∨ k = 16 ∨ k = 17 by omega) with rfl | rfl | rfl | rfl <;>
  · unfold scOk at *
    simp only [va_up]
    simp
    omega
theorem zTake_gd (hs : zGd w H s) : zGd w H (zTake s) := zF_gd hs (scOk_8 (sMove_ok hs.1) hs.1.2.2.2.2.2.2.2.2.1)
theorem zSet_gd {k : Nat} {v : Int} (hs : zGd w H s) (hk : 14 ≤ k ∧ k ≤ 17) (hv : 0 ≤ v ∧ v ≤ 1) : zGd w H (zSet k v s) := zF_gd hs (scOk_b hs.1 hk hv)
theorem zEnd_gd {b : Int} (hs : zGd w H s) : zGd w H (zEnd b s) := by
  unfold zEnd
  split
  · exact zF_gd hs (scOk_7 hs.1)
  · exact hs
theorem zEraCells_gd {k : Int} (hs : zGd w H s) : zGd w H (zEraCells w H k s) := zX_gd hs hs.1 (cr_gfill (zG_cr hs) (zG_bl hs))
theorem zInsCells_gd {k : Int} (hs : zGd w H s) : zGd w H (zInsCells w H k s) := zX_gd hs hs.1 (cr_gfill (cr_moveCells (zG_cr hs)) (zG_bl hs))
theorem zDelCells_gd {k : Int} (hs : zGd w H s) : zGd w H (zDelCells w H k s) := zX_gd hs hs.1 (cr_gfill (cr_moveCells (zG_cr hs)) (zG_bl hs))
theorem zErow_gd {k : Int} (hs : zGd w H s) : zGd w H (zErow w H k s) := zX_gd hs hs.1 (cr_erow (zG_bl hs) (zG_cr hs))
theorem zErase_gd {k : Int} (hs : zGd w H s) : zGd w H (zErase w H k s) := zX_gd hs hs.1 (cr_erase (zG_bl hs) _ _ _ (cr_erow (zG_bl hs) (zG_cr hs)))
theorem sInX_cr {F x y : Nat → Int} (hx : cr x) (hy : cr y) : cr (sInX F x y) := by
  unfold sInX
  split
  · exact hx
  · exact hy
theorem zInsRows_gd {k : Int} (hs : zGd w H s) : zGd w H (zInsRows w H k s) := zX_gd hs (scOk_in hs.1) (sInX_cr (cr_lower (zG_bl hs) _ _ _ (zG_cr hs)) (zG_cr hs))
theorem zDelRows_gd {k : Int} (hs : zGd w H s) : zGd w H (zDelRows w H k s) := zX_gd hs (scOk_in hs.1) (sInX_cr (cr_raise (zG_bl hs) _ _ _ (zG_cr hs)) (zG_cr hs))
theorem zRegion_gd {a b : Int} (hs : zGd w H s) (ha : 1 ≤ a) : zGd w H (zRegion a b s) := by
  refine zF_gd hs ?_
  unfold sRegion
  split
  · next e =>
    refine sMove_ok (scOk_reg hs.1 (by omega) (by omega) ?_)
    have h4 := hs.1.2.1
    unfold sLast at e ⊢
    split <;> omega
  · exact hs.1
theorem sGone_cr {w H k : Int} {NH : Nat} {F m T c l : Nat → Int} (hm : cr m) (hc : cr c) (hl : lr w l) (h3 : 0 ≤ F 3 ∧ F 3 ≤ w) : cr (sGone w H NH F m T c l k).2.1 ∧ lr w (sGone w H NH F m T c l k).2.2 := by
  unfold sGone
  split
  · exact cr_hist hm h3 _ _ _ hc hl
  · exact ⟨hc, hl⟩
theorem zScrollUp_gd {k : Int} (hs : zGd w H s) : zGd w H (zScrollUp w H NH k s) := by
  have h3 := hs.1.1
  have hg := sGone_cr (H := H) (NH := NH) (k := k) (F := s.1) (T := s.2.2.2.1) hs.2.1 hs.2.2.2.1 hs.2.2.2.2 ⟨by omega, h3.2⟩
  exact ⟨zScrollUp_ok hs.1, cr_shM hs.2.1 (cr_raise (zG_bl hs) _ _ _ (zG_cr hs)), cr_shO hs.2.2.1 (cr_raise (zG_bl hs) _ _ _ (zG_cr hs)), hg.1, hg.2⟩
theorem zScrollDown_gd {k : Int} (hs : zGd w H s) : zGd w H (zScrollDown w H k s) := ⟨scOk_7 hs.1, cr_shM hs.2.1 (cr_lower (zG_bl hs) _ _ _ (zG_cr hs)), cr_shO hs.2.2.1 (cr_lower (zG_bl hs) _ _ _ (zG_cr hs)), hs.2.2.2⟩
theorem zDown_gd (hs : zGd w H s) : zGd w H (zDown w H NH s) := by
  unfold zDown
  split
  · exact zScrollUp_gd hs
  · exact zF_gd hs (sMove_ok hs.1)
theorem zUp_gd (hs : zGd w H s) : zGd w H (zUp w H s) := by
  unfold zUp
  split
  · exact zScrollDown_gd hs
  · exact zF_gd hs (sMove_ok hs.1)
theorem zReset_ok (h3 : 1 ≤ s.1 3 ∧ s.1 3 ≤ w) (h4 : 1 ≤ s.1 4 ∧ s.1 4 ≤ H) : zOk w H (zReset w H s) := by
  unfold zOk zReset scOk zResetF sSave
  simp only [va_up]
  simp
  omega
theorem zReset_cl (hs : zCl w s) : zCl w (zReset w H s) := ⟨cr_keep hs.1, hs.2.1, hs.2.2⟩
theorem zResize_cl {a b : Int} (hs : zCl w s) : zCl w (zResize w H a b s) := by
  unfold zResize
  split
  · exact hs
  · exact ⟨cr_keep hs.1, cr_keep hs.2.1, hs.2.2⟩
theorem zResize_ok {a b : Int} (hs : zOk w H s) (ha : 1 ≤ a ∧ a ≤ w) (hb : 1 ≤ b ∧ b ≤ H) : zOk w H (zResize w H a b s) := by
  unfold zResize
  split
  · exact hs
  · unfold zOk scOk at hs
    unfold zOk scOk zResizeF sMove
    simp only [va_up]
    simp
    omega
theorem zShow_gd {v : Int} (hs : zGd w H s) (hv : 0 ≤ v ∧ v ≤ 1) : zGd w H (zShow w H v s) := by
  refine ⟨scOk_b hs.1 (by omega) hv, hs.2.1, ?_, hs.2.2.2⟩
  show cr (if v ≠ 0 ∧ s.1 17 = 0 then gkeep w H 0 0 s.2.2.1 else s.2.2.1)
  split
  · exact cr_keep hs.2.2.1
  · exact hs.2.2.1
theorem zPut_gd {ch : Int} (hs : zGd w H s) (hc : 0 ≤ ch ∧ ch ≤ 127) : zGd w H (zPut w H ch s) := by
  have hX : cr (zPutX w H ch s.1 (zG s)) := by
    unfold zPutX
    refine cr_gset ?_ (by have := zG_pen hs; omega)
    split
    · exact zG_cr hs
    · exact cr_moveCells (zG_cr hs)
  refine ⟨?_, cr_shM hs.2.1 hX, cr_shO hs.2.2.1 hX, hs.2.2.2⟩
  have hO := hs.1
  show scOk w H (zPutF s.1) s.2.2.2.1
  unfold zOk at hO
  unfold zPutF
  split
  · unfold scOk at *
    simp only [va_up]
    simp
    omega
  · unfold scOk at *
    simp only [va_up]
    simp
    omega
theorem zWrite_gd {ch : Int} (hs : zGd w H s) (hc : 0 ≤ ch ∧ ch ≤ 127) : zGd w H (zWrite w H NH ch s) := by
  unfold zWrite
  split
  · exact zPut_gd hs hc
  · exact zPut_gd (zDown_gd (zF_gd hs (scOk_5 hs.1))) hc
theorem zPens_gd {R q : Nat → Int} (hs : zGd w H s) : zGd w H (zPens R q s) := by
  refine zF_gd hs (scOk_8 hs.1 (sPens_ok _ _ _ ?_))
  split
  · omega
  · exact zG_pen hs
theorem zAsked_gd {b : Int} {q : Nat → Int} (hs : zGd w H s) : zGd w H (zAsked w H b q s) := by
  have h1 : (0 : Int) ≤ (if b = 104 then 1 else 0) ∧ (if b = 104 then 1 else 0) ≤ (1 : Int) := by split <;> omega
  unfold zAsked
  split
  · exact hs
  split
  · exact zSet_gd hs (by omega) h1
  split
  · exact zSet_gd hs (by omega) h1
  split
  · exact zShow_gd hs h1
  exact hs
theorem zDo_gd {b : Int} {R q : Nat → Int} (hs : zGd w H s) : zGd w H (zDo w H NH b R q s) :=
  if_P (P := zGd w H) (zInsCells_gd hs) <| if_P (P := zGd w H) (zMove_gd hs) <| if_P (P := zGd w H) (zMove_gd hs) <| if_P (P := zGd w H) (zMove_gd hs) <| if_P (P := zGd w H) (zMove_gd hs) <| if_P (P := zGd w H) (zMove_gd hs) <| if_P (P := zGd w H) (zMove_gd hs) <| if_P (P := zGd w H) (zErase_gd hs) <| if_P (P := zGd w H) (zErow_gd hs) <|
  if_P (P := zGd w H) (zInsRows_gd hs) <| if_P (P := zGd w H) (zDelRows_gd hs) <| if_P (P := zGd w H) (zDelCells_gd hs) <| if_P (P := zGd w H) (zScrollUp_gd hs) <| if_P (P := zGd w H) (zScrollDown_gd hs) <| if_P (P := zGd w H) (zEraCells_gd hs) <| if_P (P := zGd w H) (zMove_gd hs) <|
  if_P (P := zGd w H) (if_P (P := zGd w H) (zSet_gd hs (by omega) (by omega)) hs) <| if_P (P := zGd w H) (if_P (P := zGd w H) (zSet_gd hs (by omega) (by omega)) hs) <| if_P (P := zGd w H) (zPens_gd hs) <| if_P (P := zGd w H) (zRegion_gd hs (by omega)) hs
end ZG
/-- a Reader's numbers -/
def rNo (R q : Nat → Int) : Prop := (0 ≤ R 2 ∧ R 2 ≤ 4) ∧ (0 ≤ R 3 ∧ R 3 ≤ 1) ∧ (0 ≤ R 4 ∧ R 4 ≤ 1) ∧ (0 ≤ R 5 ∧ R 5 ≤ 3) ∧ ∀ k : Nat, 0 ≤ q k ∧ q k ≤ 999
def rGd (w H : Int) (t : rSt) : Prop := zGd w H t.1 ∧ rNo t.2.1 t.2.2
section RG
variable {w H : Int} {N NH : Nat} {t : rSt}
theorem rGd_ok (ht : rGd w H t) : rOk w H t.1 t.2.1 t.2.2 := ⟨ht.1.1, ht.2⟩
theorem rNo_5 {R q : Nat → Int} {x : Int} (h : rNo R q) (hx : 0 ≤ x ∧ x ≤ 3) : rNo (va_up R 5 x) q := ⟨h.1, h.2.1, h.2.2.1, hx, h.2.2.2.2⟩
theorem rNo_4 {R q : Nat → Int} {x : Int} (h : rNo R q) (hx : 0 ≤ x ∧ x ≤ 1) : rNo (va_up R 4 x) q := ⟨h.1, h.2.1, hx, h.2.2.2⟩
theorem rLonger_gd {b : Int} (ht : rGd w H t) : rGd w H (rLonger w H NH b t) := by
  unfold rLonger
  split
  · next e =>
    refine ⟨ht.1, ?_⟩
    unfold rDigitR rDigit
    split
    · refine ⟨ht.2.1, (by decide : (0 : Int) ≤ 1 ∧ (1 : Int) ≤ 1), ht.2.2.2.1, ht.2.2.2.2.1, fun k => ?_⟩
      have h1 := ht.2.2.2.2.2 (t.2.1 2).toNat
      have h2 := ht.2.2.2.2.2 k
      show 0 ≤ va_up t.2.2 (t.2.1 2).toNat (min 999 (t.2.2 (t.2.1 2).toNat * 10 + (b - 48))) k ∧ va_up t.2.2 (t.2.1 2).toNat (min 999 (t.2.2 (t.2.1 2).toNat * 10 + (b - 48))) k ≤ 999
      unfold va_up
      split <;> omega
    · exact ht.2
  split
  · refine ⟨ht.1, ?_, (by decide : (0 : Int) ≤ 0 ∧ (0 : Int) ≤ 1), ht.2.2.2.1, ht.2.2.2.2.1, ht.2.2.2.2.2⟩
    have h2 := ht.2.1
    show 0 ≤ min 4 (t.2.1 2 + 1) ∧ min 4 (t.2.1 2 + 1) ≤ 4
    omega
  split
  · refine ⟨?_, rNo_5 ht.2 (by omega)⟩
    show zGd w H (if t.2.1 4 = 0 then _ else _)
    split
    · exact zDo_gd (zEnd_gd ht.1)
    · exact zAsked_gd (zEnd_gd ht.1)
  exact ht
theorem rShort_gd {b : Int} (ht : rGd w H t) : rGd w H (rShort w H NH b t) := by
  have h5 := rNo_5 (x := 0) ht.2 (by omega)
  have h3 := ht.1.1.1
  have h4 := ht.1.1.2.1
  unfold rShort
  split
  · exact ⟨zSave_gd ht.1, h5⟩
  split
  · exact ⟨zTake_gd ht.1, h5⟩
  split
  · exact ⟨zDown_gd ht.1, h5⟩
  split
  · exact ⟨zUp_gd ht.1, h5⟩
  split
  · exact ⟨⟨zReset_ok h3 h4, zReset_cl ht.1.2⟩, h5⟩
  split
  · refine ⟨ht.1, (by decide : (0 : Int) ≤ 0 ∧ (0 : Int) ≤ 4), (by decide : (0 : Int) ≤ 0 ∧ (0 : Int) ≤ 1), ht.2.2.2.1, (by decide : (0 : Int) ≤ 2 ∧ (2 : Int) ≤ 3), fun k => ?_⟩
    have h2 := ht.2.2.2.2.2 k
    show 0 ≤ zfill t.2.2 0 4 0 k ∧ zfill t.2.2 0 4 0 k ≤ 999
    unfold zfill
    split <;> omega
  exact ⟨ht.1, h5⟩
theorem rGo_gd {b : Int} (ht : rGd w H t) : rGd w H (rGo w H NH b t) := by
  unfold rGo
  split
  · exact rLonger_gd ht
  split
  · exact rShort_gd ht
  split
  · exact ⟨zWrite_gd ht.1 (by omega), ht.2⟩
  exact ht
theorem rTake_gd {b : Int} (ht : rGd w H t) : rGd w H (rTake w H NH b t) := by
  unfold rTake
  split
  · exact ⟨zMove_gd ht.1, ht.2⟩
  split
  · exact ⟨zMove_gd ht.1, ht.2⟩
  split
  · exact ⟨zDown_gd ht.1, ht.2⟩
  split
  · exact ⟨zMove_gd ht.1, ht.2⟩
  split
  · exact ⟨ht.1, rNo_5 ht.2 (by omega)⟩
  refine rGo_gd ⟨ht.1, ?_⟩
  show rNo (rOpen b t.2.1) t.2.2
  unfold rOpen
  split
  · exact rNo_5 (rNo_4 ht.2 (by split <;> omega)) (by omega)
  · exact ht.2
end RG
/-! ===== what stays true of the whole ===== -/
/-- of any pane, also of one that isn't there -/
def pWk (w H M : Int) (x : pSt) : Prop := (0 ≤ x.1.1.1 3 ∧ x.1.1.1 3 ≤ w) ∧ (0 ≤ x.1.1.1 4 ∧ x.1.1.1 4 ≤ H) ∧ (0 ≤ x.1.1.1 5 ∧ x.1.1.1 5 ≤ 40) ∧ (0 ≤ x.1.1.1 6 ∧ x.1.1.1 6 ≤ 40) ∧ (0 ≤ x.1.1.1 9 ∧ x.1.1.1 9 ≤ 40) ∧ (0 ≤ x.1.1.1 10 ∧ x.1.1.1 10 ≤ 40) ∧ zCl w x.1.1 ∧ hOk x.1.1.2.2.2.1 ∧ rNo x.1.2.1 x.1.2.2 ∧ (0 ≤ x.2.1.1 ∧ x.2.1.1 ≤ 1) ∧ (0 ≤ x.2.1.2 ∧ x.2.1.2 ≤ 30) ∧ (0 ≤ x.2.2.2 ∧ x.2.2.2 ≤ M)
/-- the outer screen's numbers -/
def oNo (NB : Nat) (p : oPr) (sh : Nat → Int) : Prop := (0 ≤ p.1 3 ∧ p.1 3 ≤ NB) ∧ (-1 ≤ p.1 4 ∧ p.1 4 < 99) ∧ (0 ≤ p.1 5 ∧ p.1 5 < 99) ∧ (0 ≤ p.1 6 ∧ p.1 6 < 4096) ∧ (0 ≤ p.1 7 ∧ p.1 7 ≤ 1) ∧ cr sh
/-- an area lies on the screen -/
def arOk (w H : Int) (x : ptC) : Prop := (1 ≤ x.1 2 ∧ x.1 2 ≤ w) ∧ (1 ≤ x.1 3 ∧ x.1 3 ≤ H) ∧ (0 ≤ x.1 0 ∧ x.1 0 + x.1 2 ≤ w) ∧ (0 ≤ x.1 1 ∧ x.1 1 + x.1 3 ≤ H)
/-- the layout, as far as the other methods want it -/
def lyOk (w H : Int) (s : hS) : Prop := ptCl (hD s) (hP s) ∧ (∀ i b, hLv s i = some b → hD s b = true) ∧ ptBd 100 (hP s) ∧ ptPos (hP s) ∧ hD s (hRt s) = true ∧ ∀ i b, hLv s i = some b → arOk w H (hP s b)
def hGd (w H M : Int) (NB : Nat) (s : hS) : Prop := (∀ k, k < 8 → pWk w H M (hX s k)) ∧ (∀ k, k < 8 → ¬ hLv s k = none → rGd w H (hX s k).1) ∧ lyOk w H s ∧ (0 ≤ hFoc s ∧ hFoc s < 8) ∧ ¬ hLv s (hFoc s).toNat = none ∧ (0 ≤ hPre s ∧ hPre s ≤ 1) ∧ (0 ≤ (hClp s).2 ∧ (hClp s).2 ≤ 400) ∧ oNo NB (hOp s) (hSh s) ∧ cr (hPic s) ∧ cr (hLin s)
theorem lyHas_y {lv : Nat → Option Nat} {p : Int} (h : lyHas lv p = 1) : (0 ≤ p ∧ p < 8) ∧ ¬ lv p.toNat = none := by
  unfold lyHas at h
  split at h
  · next c => exact ⟨⟨c.1, c.2.1⟩, c.2.2⟩
  · cases h
theorem lyLeast_r {lv : Nat → Option Nat} {t : Int} : ∀ (j : Nat) (i : Int), 0 ≤ i → -1 ≤ lyLeast lv t j i ∧ lyLeast lv t j i < i + j
  | 0, i, hi => by show (-1 : Int) ≤ -1 ∧ (-1 : Int) < i + (0 : Nat); omega
  | j + 1, i, hi => by
    have ih := lyLeast_r (lv := lv) (t := t) j (i + 1) (by omega)
    show -1 ≤ (if lyHas lv i = t then i else lyLeast lv t j (i + 1)) ∧ (if lyHas lv i = t then i else lyLeast lv t j (i + 1)) < i + (j + 1 : Nat)
    split <;> omega
theorem lyLeast_has {lv : Nat → Option Nat} {t : Int} : ∀ (j : Nat) (i : Int), 0 ≤ i → ¬ lyLeast lv t j i = -1 → lyHas lv (lyLeast lv t j i) = t
  | 0, i, _, hn => absurd rfl hn
  | j + 1, i, hi, hn => by
    have ih := lyLeast_has (lv := lv) (t := t) j (i + 1) (by omega)
    show lyHas lv (if lyHas lv i = t then i else lyLeast lv t j (i + 1)) = t
    have hn' : ¬ (if lyHas lv i = t then i else lyLeast lv t j (i + 1)) = -1 := hn
    split
    · next c => exact c
    · next c => rw [if_neg c] at hn'; exact ih hn'
section HL
variable {w H : Int} {N NH NB NL B n : Nat} {s : hS} {h h1 h2 : pz_H} {D : Nat → Bool}
theorem hD_no (hA : hAt w H N NH NB NL B s h) {a : Nat} (ha : a < B + 109 ∨ (B + 110 ≤ a ∧ a < B + 115)) : ¬ hD s a = true := fun z => by
  have := hA.2.2.2.2.2.2.2.2.2.2 a z
  omega
theorem hAt_lay2 {D : Nat → Bool} {P : Nat → ptC} {rt : Nat} {lv : Nat → Option Nat} (hA : hAt w H N NH NB NL B s h) (hDs : ∀ a, D a = true → a = B + 109 ∨ B + 115 ≤ a) : hAt w H N NH NB NL B (sLay D P rt lv s) (ptPut D P (va_up (va_up h (B + 107) (pz_o 5 [.ref (B + 108), .ref rt])) (B + 108) (pz_r 4 8 lv))) := by
  have hno : ∀ a, a < B + 109 ∨ (B + 110 ≤ a ∧ a < B + 115) → ¬ D a = true := fun a ha z => by
    have := hDs a z
    omega
  refine hAt_lay hA hDs ?_ ?_ (fun a ha => ptAt ha) (fun a ha => ?_)
  · rw [ptNo (hno _ (by omega)), va_up_ne _ _ (by omega), va_up_self]
  · rw [ptNo (hno _ (by omega)), va_up_self]
  · rw [ptNo (hno _ (by omega)), va_up_ne _ _ (by omega), va_up_ne _ _ (by omega)]
theorem hFr_lay {D D' : Nat → Bool} {P : Nat → ptC} {x y : pz_C} (hDD : ∀ a, a < n → ¬ D a = true → ¬ D' a = true) : hFr B n D h (ptPut D' P (va_up (va_up h (B + 107) x) (B + 108) y)) := fun a ha h3 h4 => by
  rw [ptNo (hDD a ha h4), va_up_ne _ _ (by omega), va_up_ne _ _ (by omega)]
theorem hFr_w {n' : Nat} {D D' : Nat → Bool} (hn : n ≤ n') (hDD : ∀ a, a < n → ¬ D a = true → ¬ D' a = true) (h3 : hFr B n' D' h h1) : hFr B n D h h1 := fun a ha h4 h5 => h3 a (by omega) h4 (hDD a ha h5)
theorem dvDm_no {a : Nat} (ha : a < n) (hd : ¬ D a = true) : ¬ dvDm D n a = true := by
  unfold dvDm
  rw [va_up_ne _ _ (by omega), va_up_ne _ _ (by omega)]
  exact hd
theorem dvDm_in (hD1 : ∀ a, D a = true → a = B + 109 ∨ B + 115 ≤ a) (hn : B + 115 ≤ n) : ∀ a, dvDm D n a = true → a = B + 109 ∨ B + 115 ≤ a := fun a ha => by
  unfold dvDm at ha
  by_cases e1 : a = n + 1
  · omega
  · rw [va_up_ne _ _ e1] at ha
    by_cases e2 : a = n
    · omega
    · rw [va_up_ne _ _ e2] at ha
      exact hD1 a ha
end HL
/-- the house behind Layout.divide, Layout.remove -/
def dvQ (s : hS) (p : Int) : Nat := (hLv s p.toNat).getD 0
abbrev dvOk (s : hS) (p dn : Int) : Prop := (0 ≤ p ∧ p < 8) ∧ ¬ hLv s p.toNat = none ∧ ¬ lyLeast (hLv s) 0 8 0 = -1 ∧ 2 < ptLen (hP s (dvQ s p)) dn
def sDiv (n : Nat) (p dn : Int) (s : hS) : hS := sLay (dvDm (hD s) n) (plShare 9 n ((ptLen (dvI (hP s) (dvQ s p) n dn n) dn - 1) / 2) (dvI (hP s) (dvQ s p) n dn)) (exR (dvA (hP s) (dvQ s p) n) (dvQ s p) n (hRt s)) (va_up (hLv s) (lyLeast (hLv s) 0 8 0).toNat (some (n + 1))) s
def sRm (p : Int) (s : hS) : hS := sLay (hD s) (rmP (hP s) (hLv s) p) (rmRt (hP s) (hLv s) p (hRt s)) (rmLv (hP s) (hLv s) p) s
