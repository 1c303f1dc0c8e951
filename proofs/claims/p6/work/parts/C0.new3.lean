/-! ===== a new house: its pane, its layout ===== -/
def x0 (w H : Int) : pSt := pBg w H (pRs w H w H pX0)
theorem nw_X {w H : Int} {N B : Nat} : hX (hNew w H N B) 0 = x0 w H := by
  show va_up (sFit w H (hS0 w H N B)).1 0 (pBg w H (hX (sFit w H (hS0 w H N B)) 0)) 0 = _
  rw [va_up_self]
  show pBg w H (hFit w H (hP (hS0 w H N B)) (hLv (hS0 w H N B)) 8 0 (hX (hS0 w H N B)) 0) = _
  rw [hFit_8 (by decide)]
  rfl
theorem nw_lv {w H : Int} {N B k : Nat} (hk : k ≠ 0) : hLv (hNew w H N B) k = none := (show va_up (fun _ => (none : Option Nat)) 0 (some (B + 109)) k = none from va_up_ne _ _ hk)
theorem nw_Xk {w H : Int} {N B k : Nat} (hk : k ≠ 0) (h8 : k < 8) : hX (hNew w H N B) k = pX0 := by
  show va_up (sFit w H (hS0 w H N B)).1 0 _ k = _
  rw [va_up_ne _ _ hk]
  show hFit w H (hP (hS0 w H N B)) (hLv (hS0 w H N B)) 8 0 (hX (hS0 w H N B)) k = _
  rw [hFit_8 h8, show hLv (hS0 w H N B) k = none from (show va_up (fun _ => (none : Option Nat)) 0 (some (B + 109)) k = none from va_up_ne _ _ hk)]
  rfl
theorem nw_3 {w H : Int} : (x0 w H).1.1.1 3 = w := (show (zResize w H w H pX0.1.1).1 3 = w from zResize_3.1)
theorem nw_4 {w H : Int} : (x0 w H).1.1.1 4 = H := (show (zResize w H w H pX0.1.1).1 4 = H from zResize_3.2)
theorem nw_5 {w H : Int} : (x0 w H).1.1.1 5 = 0 := rfl
theorem nw_6 {w H : Int} : (x0 w H).1.1.1 6 = 0 := rfl
theorem nw_9 {w H : Int} : (x0 w H).1.1.1 9 = 0 := rfl
theorem nw_10 {w H : Int} : (x0 w H).1.1.1 10 = 0 := rfl
theorem nw_cm {w H : Int} : (x0 w H).2.1.1 = 0 := rfl
theorem nw_of {w H : Int} : (x0 w H).2.1.2 = 0 := rfl
theorem nw_ty {w H : Int} : (x0 w H).2.2.2 = 0 := rfl
theorem nw_cl {w H : Int} (hw : 0 ≤ w) (hH : 0 ≤ H) : zCl w (x0 w H).1.1 := zReset_cl (zResize_cl (pX0_wk (M := 0) hw hH (by decide)).2.2.2.2.2.2.1)
theorem nw_wk {w H : Int} (hw : 8 ≤ w ∧ w ≤ 40) (hH : 4 ≤ H ∧ H ≤ 16) : pWk w H 0 (x0 w H) := by
  refine ⟨?_, ?_, ?_, ?_, ?_, ?_, nw_cl (by omega) (by omega), ?_, ?_, ?_, ?_, ?_⟩
  · rw [nw_3]; omega
  · rw [nw_4]; omega
  · rw [nw_5]; omega
  · rw [nw_6]; omega
  · rw [nw_9]; omega
  · rw [nw_10]; omega
  · exact ⟨⟨by show (0 : Int) ≤ 0; omega, by show (0 : Int) < 30; omega⟩, ⟨by show (0 : Int) ≤ 0; omega, by show (0 : Int) ≤ 30; omega⟩⟩
  · exact ⟨⟨by show (0 : Int) ≤ 0; omega, by show (0 : Int) ≤ 4; omega⟩, ⟨by show (0 : Int) ≤ 0; omega, by show (0 : Int) ≤ 1; omega⟩, ⟨by show (0 : Int) ≤ 0; omega, by show (0 : Int) ≤ 1; omega⟩, ⟨by show (0 : Int) ≤ 0; omega, by show (0 : Int) ≤ 3; omega⟩, fun j => ⟨by show (0 : Int) ≤ 0; omega, by show (0 : Int) ≤ 999; omega⟩⟩
  · rw [nw_cm]; omega
  · rw [nw_of]; omega
  · rw [nw_ty]; omega
theorem nw_gd {w H : Int} (hw : 8 ≤ w ∧ w ≤ 40) (hH : 4 ≤ H ∧ H ≤ 16) : rGd w H (x0 w H).1 := by
  refine ⟨⟨zReset_ok ?_ ?_, nw_cl (by omega) (by omega)⟩, (nw_wk hw hH).2.2.2.2.2.2.2.2.1⟩
  · show 1 ≤ (zResize w H w H pX0.1.1).1 3 ∧ (zResize w H w H pX0.1.1).1 3 ≤ w
    rw [zResize_3.1]; omega
  · show 1 ≤ (zResize w H w H pX0.1.1).1 4 ∧ (zResize w H w H pX0.1.1).1 4 ≤ H
    rw [zResize_3.2]; omega
theorem nw_hGd {w H : Int} {N NB B : Nat} (hw : 8 ≤ w ∧ w ≤ 40) (hH : 4 ≤ H ∧ H ≤ 16) : hGd w H 0 NB (hNew w H N B) := by
  refine ⟨fun k hk => ?_, fun k hk hl => ?_, hS0_ly (N := N) (B := B) hw hH, ⟨by show (0 : Int) ≤ 0; omega, by show (0 : Int) < 8; omega⟩, (fun z => by cases z), ⟨by show (0 : Int) ≤ 0; omega, by show (0 : Int) ≤ 1; omega⟩, ⟨by show (0 : Int) ≤ 0; omega, by show (0 : Int) ≤ 400; omega⟩, ⟨?_, ?_, ?_, ?_, ?_, ?_⟩, ?_, ?_⟩
  · by_cases e : k = 0
    · rw [e, nw_X]; exact nw_wk hw hH
    · rw [nw_Xk e hk]; exact pX0_wk (by omega) (by omega) (by decide)
  · by_cases e : k = 0
    · rw [e, nw_X]; exact nw_gd hw hH
    · exact absurd (nw_lv e) hl
  · exact ⟨by show (0 : Int) ≤ 0; omega, by show (0 : Int) ≤ NB; omega⟩
  · exact ⟨by show (-1 : Int) ≤ 0; omega, by show (0 : Int) < 99; omega⟩
  · exact ⟨by show (0 : Int) ≤ 0; omega, by show (0 : Int) < 99; omega⟩
  · exact ⟨by show (0 : Int) ≤ 0; omega, by show (0 : Int) < 4096; omega⟩
  · exact ⟨by show (0 : Int) ≤ 1; omega, by show (1 : Int) ≤ 1; omega⟩
  · intro j
    show 0 ≤ zfill (fun _ => 0) 0 N 32 j ∧ zfill (fun _ => 0) 0 N 32 j < 524288
    unfold zfill
    split
    · omega
    · show (0 : Int) ≤ 0 ∧ (0 : Int) < 524288
      omega
  · exact fun j => ⟨by show (0 : Int) ≤ 0; omega, by show (0 : Int) < 524288; omega⟩
  · exact fun j => ⟨by show (0 : Int) ≤ 0; omega, by show (0 : Int) < 524288; omega⟩
