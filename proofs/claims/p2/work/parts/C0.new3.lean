/-! ===== a new house: its pane, its layout ===== -/
def x0 (w H : Int) : pSt := pBg w H (pRs w H w H pX0)
theorem nw_X {w H : Int} {N B : Nat} : hX (hNew w H N B) 0 = x0 w H := by
  show va_up (sFit w H (hS0 w H N B)).1 0 (pBg w H (hX (sFit w H (hS0 w H N B)) 0)) 0 = _
  rw [va_up_self]
  show pBg w H (hFit w H (hP (hS0 w H N B)) (hLv (hS0 w H N B)) 8 0 (hX (hS0 w H N B)) 0) = _
  rw [hFit_8 (by decide)]
  rfl
theorem nw_lv {w H : Int} {N B k : Nat} (hk : k ≠ 0) : hLv (hNew w H N B) k = none := (show va_up (fun _ => (none : Option Nat)) 0 (some (B + 109)) k = none from va_up_ne _ _ hk)
theorem nw_Xk {w H : Int} {N B k : Nat} (hk : k ≠ 0) (h8 : k < 8) : hX (hNew w H N B) k = pX0 := by
  show va_up (sFit w H (hS0 w H N B)).1 0 _ k = _
  rw [va_up_ne _ _ hk]
  show hFit w H (hP (hS0 w H N B)) (hLv (hS0 w H N B)) 8 0 (hX (hS0 w H N B)) k = _
  rw [hFit_8 h8, show hLv (hS0 w H N B) k = none from (show va_up (fun _ => (none : Option Nat)) 0 (some (B + 109)) k = none from va_up_ne _ _ hk)]
  rfl
theorem nw_3 {w H : Int} : (x0 w H).1.1.1 3 = w := (show (zResize w H w H pX0.1.1).1 3 = w from zResize_3.1)
theorem nw_4 {w H : Int} : (x0 w H).1.1.1 4 = H := (show (zResize w H w H pX0.1.1).1 4 = H from zResize_3.2)
theorem nw_5 {w H : Int} : (x0 w H).1.1.1 5 = 0 := rfl
theorem nw_6 {w H : Int} : (x0 w H).1.1.1 6 = 0 := rfl
theorem nw_7 {w H : Int} : (x0 w H).1.1.1 7 = 0 := rfl
theorem nw_8 {w H : Int} : (x0 w H).1.1.1 8 = 0 := rfl
theorem nw_9 {w H : Int} : (x0 w H).1.1.1 9 = 0 := rfl
theorem nw_10 {w H : Int} : (x0 w H).1.1.1 10 = 0 := rfl
theorem nw_16 {w H : Int} : (x0 w H).1.1.1 16 = 1 := rfl
theorem nw_17 {w H : Int} : (x0 w H).1.1.1 17 = 0 := rfl
theorem nw_sz {w H : Int} : (x0 w H).1.1.2.2.2.1 4 = 0 := rfl
theorem nw_cm {w H : Int} : (x0 w H).2.1.1 = 0 := rfl
theorem nw_of {w H : Int} : (x0 w H).2.1.2 = 0 := rfl
theorem nw_ty {w H : Int} : (x0 w H).2.2.2 = 0 := rfl
theorem nw_has {w H : Int} {N B : Nat} {p : Int} : lyHas (hLv (hNew w H N B)) p = if p = 0 then 1 else 0 := by
  unfold lyHas
  by_cases e : p = 0
  · rw [if_pos e, if_pos ⟨by omega, by omega, by rw [e]; exact (fun z => by cases z)⟩]
  · rw [if_neg e, if_neg]
    rintro ⟨h1, h2, h3⟩
    exact h3 (nw_lv (by omega))
theorem nw_cl {w H : Int} (hw : 0 ≤ w) (hH : 0 ≤ H) : zCl w (x0 w H).1.1 := zReset_cl (zResize_cl (pX0_wk (M := 0) hw hH (by decide)).2.2.2.2.2.2.1)
theorem nw_wk {w H : Int} (hw : 8 ≤ w ∧ w ≤ 40) (hH : 4 ≤ H ∧ H ≤ 16) : pWk w H 0 (x0 w H) := by
  refine ⟨?_, ?_, ?_, ?_, ?_, ?_, nw_cl (by omega) (by omega), ?_, ?_, ?_, ?_, ?_⟩
  · rw [nw_3]; omega
  · rw [nw_4]; omega
  · rw [nw_5]; omega
  · rw [nw_6]; omega
  · rw [nw_9]; omega
  · rw [nw_10]; omega
  · exact ⟨⟨by show (0 : Int) ≤ 0; omega, by show (0 : Int) < 30; omega⟩, ⟨by show (0 : Int) ≤ 0; omega, by show (0 : Int) ≤ 30; omega⟩⟩
  · exact ⟨⟨by show (0 : Int) ≤ 0; omega, by show (0 : Int) ≤ 4; omega⟩, ⟨by show (0 : Int) ≤ 0; omega, by show (0 : Int) ≤ 1; omega⟩, ⟨by show (0 : Int) ≤ 0; omega, by show (0 : Int) ≤ 1; omega⟩, ⟨by show (0 : Int) ≤ 0; omega, by show (0 : Int) ≤ 3; omega⟩, fun j => ⟨by show (0 : Int) ≤ 0; omega, by show (0 : Int) ≤ 999; omega⟩⟩
  · rw [nw_cm]; omega
  · rw [nw_of]; omega
  · rw [nw_ty]; omega
theorem nw_gd {w H : Int} (hw : 8 ≤ w ∧ w ≤ 40) (hH : 4 ≤ H ∧ H ≤ 16) : rGd w H (x0 w H).1 := by
  refine ⟨⟨zReset_ok ?_ ?_, nw_cl (by omega) (by omega)⟩, (nw_wk hw hH).2.2.2.2.2.2.2.2.1⟩
  · show 1 ≤ (zResize w H w H pX0.1.1).1 3 ∧ (zResize w H w H pX0.1.1).1 3 ≤ w
    rw [zResize_3.1]; omega
  · show 1 ≤ (zResize w H w H pX0.1.1).1 4 ∧ (zResize w H w H pX0.1.1).1 4 ≤ H
    rw [zResize_3.2]; omega
theorem nw_hGd {w H : Int} {N NB B : Nat} (hw : 8 ≤ w ∧ w ≤ 40) (hH : 4 ≤ H ∧ H ≤ 16) : hGd w H 0 NB (hNew w H N B) := by
  refine ⟨fun k hk => ?_, fun k hk hl => ?_, hS0_ly (N := N) (B := B) hw hH, ⟨by show (0 : Int) ≤ 0; omega, by show (0 : Int) < 8; omega⟩, (fun z => by cases z), ⟨by show (0 : Int) ≤ 0; omega, by show (0 : Int) ≤ 1; omega⟩, ⟨by show (0 : Int) ≤ 0; omega, by show (0 : Int) ≤ 400; omega⟩, ⟨?_, ?_, ?_, ?_, ?_, ?_⟩, ?_, ?_⟩
  · by_cases e : k = 0
    · rw [e, nw_X]; exact nw_wk hw hH
    · rw [nw_Xk e hk]; exact pX0_wk (by omega) (by omega) (by decide)
  · by_cases e : k = 0
    · rw [e, nw_X]; exact nw_gd hw hH
    · exact absurd (nw_lv e) hl
  · exact ⟨by show (0 : Int) ≤ 0; omega, by show (0 : Int) ≤ NB; omega⟩
  · exact ⟨by show (-1 : Int) ≤ 0; omega, by show (0 : Int) < 99; omega⟩
  · exact ⟨by show (0 : Int) ≤ 0; omega, by show (0 : Int) < 99; omega⟩
  · exact ⟨by show (0 : Int) ≤ 0; omega, by show (0 : Int) < 4096; omega⟩
  · exact ⟨by show (0 : Int) ≤ 1; omega, by show (1 : Int) ≤ 1; omega⟩
  · intro j
    show 0 ≤ zfill (fun _ => 0) 0 N 32 j ∧ zfill (fun _ => 0) 0 N 32 j < 524288
    unfold zfill
    split
    · omega
    · show (0 : Int) ≤ 0 ∧ (0 : Int) < 524288
      omega
  · exact fun j => ⟨by show (0 : Int) ≤ 0; omega, by show (0 : Int) < 524288; omega⟩
  · exact fun j => ⟨by show (0 : Int) ≤ 0; omega, by show (0 : Int) < 524288; omega⟩
/-- no pane can be removed -/
theorem nw_rm {w H : Int} {N B : Nat} {p : Int} : ¬ rmOk (hP (hNew w H N B)) (hLv (hNew w H N B)) p := fun z => z.2.1 rfl
theorem nw_least {w H : Int} {N B : Nat} : lyLeast (hLv (hNew w H N B)) 0 8 0 = 1 := by
  show (if lyHas (hLv (hNew w H N B)) 0 = 0 then (0 : Int) else if lyHas (hLv (hNew w H N B)) (0 + 1) = 0 then 0 + 1 else lyLeast (hLv (hNew w H N B)) 0 6 (0 + 1 + 1)) = 1
  rw [nw_has, nw_has]
  rfl
theorem nw_count {w H : Int} {N B : Nat} : lyCount (hLv (hNew w H N B)) 8 0 = 1 := by
  show lyHas (hLv (hNew w H N B)) 0 + (lyHas (hLv (hNew w H N B)) (0 + 1) + (lyHas (hLv (hNew w H N B)) (0 + 1 + 1) + (lyHas (hLv (hNew w H N B)) (0 + 1 + 1 + 1) + (lyHas (hLv (hNew w H N B)) (0 + 1 + 1 + 1 + 1) + (lyHas (hLv (hNew w H N B)) (0 + 1 + 1 + 1 + 1 + 1) + (lyHas (hLv (hNew w H N B)) (0 + 1 + 1 + 1 + 1 + 1 + 1) + (lyHas (hLv (hNew w H N B)) (0 + 1 + 1 + 1 + 1 + 1 + 1 + 1) + 0))))))) = 1
  simp only [nw_has]
  rfl
theorem nw_see {w H : Int} {N B : Nat} : hSee (hNew w H N B) = 1 := by
  unfold hSee
  rw [show (hFoc (hNew w H N B)).toNat = 0 from rfl, nw_X]
  exact if_pos ⟨by rw [nw_16]; decide, nw_cm⟩
theorem nw_cc {w H : Int} {N B : Nat} : hCc (hNew w H N B) = 0 := by
  unfold hCc
  rw [show (hFoc (hNew w H N B)).toNat = 0 from rfl, nw_X, nw_5]
  rfl
theorem nw_cr {w H : Int} {N B : Nat} : hCr (hNew w H N B) = 0 := by
  unfold hCr
  rw [show (hFoc (hNew w H N B)).toNat = 0 from rfl, nw_X, nw_6]
  rfl
theorem nw_ct {w H k : Int} {N B : Nat} : hCt (hNew w H N B) k = if k = 0 ∨ k = 4 then 1 else 0 := by
  unfold hCt
  rw [nw_count, nw_cc, nw_cr, nw_see, show hFoc (hNew w H N B) = 0 from rfl, show (hClp (hNew w H N B)).2 = 0 from rfl]
  omega
theorem nw_ab {w H k : Int} {N B : Nat} (hk : 0 ≤ k ∧ k ≤ 10) : hAb (hNew w H N B) 0 k = if k = 2 then w else if k = 3 then H else 0 := by
  unfold hAb
  rw [show Int.toNat 0 = 0 from rfl, nw_X, nw_3, nw_4, nw_5, nw_6, nw_7, nw_8, nw_sz, nw_cm, nw_ty]
  rw [show (hP (hNew w H N B) ((hLv (hNew w H N B) 0).getD 0)).1 0 = 0 from rfl, show (hP (hNew w H N B) ((hLv (hNew w H N B) 0).getD 0)).1 1 = 0 from rfl]
  omega
theorem nw_cp {w H on up : Int} : pOf (pLk up (pCm on (x0 w H))) = 0 := by
  show min (pLook on (if on = (x0 w H).2.1.1 then (x0 w H).2.1.2 else 0) ((x0 w H).1.1.2.2.2.1 4) up) ((x0 w H).1.1.2.2.2.1 4) = 0
  rw [nw_cm, nw_of, nw_sz]
  unfold pLook
  split <;> omega
theorem nw_key {w H k : Int} {N B n : Nat} : hFoc (sKey w H n k (hNew w H N B)) = 0 := by
  unfold sKey
  rw [if_neg (show ¬ ¬ hPre (hNew w H N B) = 0 from fun z => z rfl)]
  split <;> rfl
theorem nw_dv {w H dn : Int} {N B : Nat} (hw : 8 ≤ w ∧ w ≤ 40) (hH : 4 ≤ H ∧ H ≤ 16) (hdn : 0 ≤ dn ∧ dn ≤ 1) : dvOk (hNew w H N B) 0 dn := by
  refine ⟨by omega, (fun z => by cases z), by rw [nw_least]; decide, ?_⟩
  show 2 < ptLen (hP0 w H) dn
  unfold ptLen
  rcases (show dn = 0 ∨ dn = 1 by omega) with rfl | rfl
  · show 2 < w; omega
  · show 2 < H; omega
