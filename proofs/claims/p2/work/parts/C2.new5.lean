/-! ===== a new house, divided: its layout is in order ===== -/
theorem dq_n {w H dn : Int} {o n : Nat} (h1 : o ≠ n) (h5 : o ≠ n + 1) : (dvI (fun _ => hP0 w H) o n dn n).1 0 = 0 ∧ (dvI (fun _ => hP0 w H) o n dn n).1 1 = 0 ∧ (dvI (fun _ => hP0 w H) o n dn n).1 2 = w ∧ (dvI (fun _ => hP0 w H) o n dn n).1 3 = H ∧ (dvI (fun _ => hP0 w H) o n dn n).1 4 = dn ∧ (dvI (fun _ => hP0 w H) o n dn n).2 0 = some o ∧ (dvI (fun _ => hP0 w H) o n dn n).2 1 = some (n + 1) ∧ (dvI (fun _ => hP0 w H) o n dn n).2 2 = none := by
  have h2 : n ≠ o := fun z => h1 z.symm
  have h3 : n ≠ n + 1 := by omega
  have h4 : n + 1 ≠ n := by omega
  have h6 : n + 1 ≠ o := fun z => h5 z.symm
  simp [dvI, dvH, dvG, dvF, dvE, dvD, dvC, dvA, exP, ptS, ptR, va_up, hP0, pt00, h1, h2, h3, h4, h5, h6]
theorem dq_o {w H dn : Int} {o n : Nat} (h1 : o ≠ n) (h5 : o ≠ n + 1) : (dvI (fun _ => hP0 w H) o n dn o).1 0 = 0 ∧ (dvI (fun _ => hP0 w H) o n dn o).1 1 = 0 ∧ (dvI (fun _ => hP0 w H) o n dn o).1 2 = w ∧ (dvI (fun _ => hP0 w H) o n dn o).1 3 = H ∧ (dvI (fun _ => hP0 w H) o n dn o).1 4 = 0 ∧ (dvI (fun _ => hP0 w H) o n dn o).2 0 = none ∧ (dvI (fun _ => hP0 w H) o n dn o).2 1 = none ∧ (dvI (fun _ => hP0 w H) o n dn o).2 2 = some n := by
  have h2 : n ≠ o := fun z => h1 z.symm
  have h3 : n ≠ n + 1 := by omega
  have h4 : n + 1 ≠ n := by omega
  have h6 : n + 1 ≠ o := fun z => h5 z.symm
  simp [dvI, dvH, dvG, dvF, dvE, dvD, dvC, dvA, exP, ptS, ptR, va_up, hP0, pt00, h1, h2, h3, h4, h5, h6]
theorem dq_m {w H dn : Int} {o n : Nat} (h1 : o ≠ n) (h5 : o ≠ n + 1) : (dvI (fun _ => hP0 w H) o n dn (n + 1)).1 0 = 0 ∧ (dvI (fun _ => hP0 w H) o n dn (n + 1)).1 1 = 0 ∧ (dvI (fun _ => hP0 w H) o n dn (n + 1)).1 2 = 0 ∧ (dvI (fun _ => hP0 w H) o n dn (n + 1)).1 3 = 0 ∧ (dvI (fun _ => hP0 w H) o n dn (n + 1)).1 4 = 0 ∧ (dvI (fun _ => hP0 w H) o n dn (n + 1)).2 0 = none ∧ (dvI (fun _ => hP0 w H) o n dn (n + 1)).2 1 = none ∧ (dvI (fun _ => hP0 w H) o n dn (n + 1)).2 2 = some n := by
  have h2 : n ≠ o := fun z => h1 z.symm
  have h3 : n ≠ n + 1 := by omega
  have h4 : n + 1 ≠ n := by omega
  have h6 : n + 1 ≠ o := fun z => h5 z.symm
  simp [dvI, dvH, dvG, dvF, dvE, dvD, dvC, dvA, exP, ptS, ptR, va_up, hP0, pt00, h1, h2, h3, h4, h5, h6]
theorem dq_b {w H dn : Int} {o n : Nat} (h1 : o ≠ n) (h5 : o ≠ n + 1) {b : Nat} (b1 : b ≠ n) (b2 : b ≠ n + 1) (b3 : b ≠ o) : (dvI (fun _ => hP0 w H) o n dn b) = hP0 w H := by
  have h2 : n ≠ o := fun z => h1 z.symm
  have h3 : n ≠ n + 1 := by omega
  have h4 : n + 1 ≠ n := by omega
  have h6 : n + 1 ≠ o := fun z => h5 z.symm
  simp [dvI, dvH, dvG, dvF, dvE, dvD, dvC, dvA, exP, ptS, ptR, va_up, hP0, pt00, h1, h2, h3, h4, h5, h6, b1, b2, b3]
theorem dq_l {w H dn : Int} {o n : Nat} (h1 : o ≠ n) (h5 : o ≠ n + 1) {i : Nat} (hi : 3 ≤ i) : ((dvI (fun _ => hP0 w H) o n dn n)).2 i = none ∧ ((dvI (fun _ => hP0 w H) o n dn o)).2 i = none ∧ ((dvI (fun _ => hP0 w H) o n dn (n + 1))).2 i = none := by
  have h2 : n ≠ o := fun z => h1 z.symm
  have h3 : n ≠ n + 1 := by omega
  have h4 : n + 1 ≠ n := by omega
  have h6 : n + 1 ≠ o := fun z => h5 z.symm
  have i0 : i ≠ 0 := by omega
  have i1 : i ≠ 1 := by omega
  have i2 : i ≠ 2 := by omega
  simp [dvI, dvH, dvG, dvF, dvE, dvD, dvC, dvA, exP, ptS, ptR, va_up, hP0, pt00, h1, h2, h3, h4, h5, h6, i0, i1, i2]
/-- the two areas -/
theorem dw_0 {w H : Int} {o n : Nat} (h1 : o ≠ n) (h5 : o ≠ n + 1) : plShare 9 n ((w - 1) / 2) (dvI (fun _ => hP0 w H) o n 0) = (plSet (plSet (dvI (fun _ => hP0 w H) o n 0) o 0 0 ((w - 1) / 2) H) (n + 1) (((w - 1) / 2) + 1) 0 (w - 1 - ((w - 1) / 2)) H) := by
  obtain ⟨a0, a1, a2, a3, a4, a5, a6, a7⟩ := dq_n (w := w) (H := H) (dn := 0) h1 h5
  obtain ⟨b0, b1, b2, b3, b4, b5, b6, b7⟩ := dq_o (w := w) (H := H) (dn := 0) h1 h5
  obtain ⟨c0, c1, c2, c3, c4, c5, c6, c7⟩ := dq_m (w := w) (H := H) (dn := 0) h1 h5
  have h2 : n ≠ o := fun z => h1 z.symm
  have h6 : n + 1 ≠ o := fun z => h5 z.symm
  have h3 : n ≠ n + 1 := by omega
  rw [plShare_r (k := 8) (x := o) (y := n + 1) ⟨by rw [a5]; exact fun z => (by cases z), by rw [a6]; exact fun z => (by cases z)⟩ a5 a6 (by rw [a4])]
  have e1 : ∀ c r u q, plW (plShare 8) o c r u q (dvI (fun _ => hP0 w H) o n 0) = plSet (dvI (fun _ => hP0 w H) o n 0) o c r u q := fun c r u q => plW_no (fun z => z.1 (by simp [plSet, ptS, va_up, b5]))
  rw [e1]
  dsimp only
  have e2 : ∀ c r u q c' r' u' q', plW (plShare 8) (n + 1) c r u q (plSet (dvI (fun _ => hP0 w H) o n 0) o c' r' u' q') = plSet (plSet (dvI (fun _ => hP0 w H) o n 0) o c' r' u' q') (n + 1) c r u q := fun c r u q c' r' u' q' => plW_no (fun z => z.1 (by simp [plSet, ptS, va_up, c5, h6]))
  rw [e2]
  have e3 : ∀ c r u q, plSet (dvI (fun _ => hP0 w H) o n 0) o c r u q n = (dvI (fun _ => hP0 w H) o n 0) n := fun c r u q => by simp [plSet, ptS, va_up, h2]
  rw [e3, a0, a1, a3, a4]
  have e4 : ptLen ((dvI (fun _ => hP0 w H) o n 0) n) 0 = w := by unfold ptLen; rw [if_pos rfl]; exact a2
  rw [e4]
  rw [Int.zero_add]
theorem dv_0 {w H : Int} {o n : Nat} (h1 : o ≠ n) (h5 : o ≠ n + 1) : ((plSet (plSet (dvI (fun _ => hP0 w H) o n 0) o 0 0 ((w - 1) / 2) H) (n + 1) (((w - 1) / 2) + 1) 0 (w - 1 - ((w - 1) / 2)) H) o).1 0 = 0 ∧ ((plSet (plSet (dvI (fun _ => hP0 w H) o n 0) o 0 0 ((w - 1) / 2) H) (n + 1) (((w - 1) / 2) + 1) 0 (w - 1 - ((w - 1) / 2)) H) o).1 1 = 0 ∧ ((plSet (plSet (dvI (fun _ => hP0 w H) o n 0) o 0 0 ((w - 1) / 2) H) (n + 1) (((w - 1) / 2) + 1) 0 (w - 1 - ((w - 1) / 2)) H) o).1 2 = ((w - 1) / 2) ∧ ((plSet (plSet (dvI (fun _ => hP0 w H) o n 0) o 0 0 ((w - 1) / 2) H) (n + 1) (((w - 1) / 2) + 1) 0 (w - 1 - ((w - 1) / 2)) H) o).1 3 = H ∧ ((plSet (plSet (dvI (fun _ => hP0 w H) o n 0) o 0 0 ((w - 1) / 2) H) (n + 1) (((w - 1) / 2) + 1) 0 (w - 1 - ((w - 1) / 2)) H) (n + 1)).1 0 = (((w - 1) / 2) + 1) ∧ ((plSet (plSet (dvI (fun _ => hP0 w H) o n 0) o 0 0 ((w - 1) / 2) H) (n + 1) (((w - 1) / 2) + 1) 0 (w - 1 - ((w - 1) / 2)) H) (n + 1)).1 1 = 0 ∧ ((plSet (plSet (dvI (fun _ => hP0 w H) o n 0) o 0 0 ((w - 1) / 2) H) (n + 1) (((w - 1) / 2) + 1) 0 (w - 1 - ((w - 1) / 2)) H) (n + 1)).1 2 = (w - 1 - ((w - 1) / 2)) ∧ ((plSet (plSet (dvI (fun _ => hP0 w H) o n 0) o 0 0 ((w - 1) / 2) H) (n + 1) (((w - 1) / 2) + 1) 0 (w - 1 - ((w - 1) / 2)) H) (n + 1)).1 3 = H ∧ (∀ b, b ≠ o → b ≠ n + 1 → (plSet (plSet (dvI (fun _ => hP0 w H) o n 0) o 0 0 ((w - 1) / 2) H) (n + 1) (((w - 1) / 2) + 1) 0 (w - 1 - ((w - 1) / 2)) H) b = (dvI (fun _ => hP0 w H) o n 0) b) ∧ (∀ b, ((plSet (plSet (dvI (fun _ => hP0 w H) o n 0) o 0 0 ((w - 1) / 2) H) (n + 1) (((w - 1) / 2) + 1) 0 (w - 1 - ((w - 1) / 2)) H) b).2 = ((dvI (fun _ => hP0 w H) o n 0) b).2 ∧ ((plSet (plSet (dvI (fun _ => hP0 w H) o n 0) o 0 0 ((w - 1) / 2) H) (n + 1) (((w - 1) / 2) + 1) 0 (w - 1 - ((w - 1) / 2)) H) b).1 4 = ((dvI (fun _ => hP0 w H) o n 0) b).1 4) := by
  have h6 : n + 1 ≠ o := fun z => h5 z.symm
  refine ⟨?_, ?_, ?_, ?_, ?_, ?_, ?_, ?_, fun b b1 b2 => ?_, fun b => ?_⟩
  all_goals try (simp [plSet, ptS, va_up, h5, h6]; done)
  · simp [plSet, ptS, va_up, b1, b2]
  · by_cases e1 : b = n + 1
    · subst e1; simp [plSet, ptS, va_up, h6]
    · by_cases e2 : b = o
      · subst e2; simp [plSet, ptS, va_up, h5]
      · simp [plSet, ptS, va_up, e1, e2]
theorem nw_ly0 {w H : Int} {N B n : Nat} (hw : 8 ≤ w ∧ w ≤ 40) (hH : 4 ≤ H ∧ H ≤ 16) (hn : B + 115 ≤ n) : lyOk w H (sDiv n 0 0 (hNew w H N B)) := by
  have h1 : B + 109 ≠ n := by omega
  have h5 : B + 109 ≠ n + 1 := by omega
  obtain ⟨a0, a1, a2, a3, a4, a5, a6, a7⟩ := dq_n (w := w) (H := H) (dn := 0) h1 h5
  obtain ⟨b0, b1, b2, b3, b4, b5, b6, b7⟩ := dq_o (w := w) (H := H) (dn := 0) h1 h5
  obtain ⟨c0, c1, c2, c3, c4, c5, c6, c7⟩ := dq_m (w := w) (H := H) (dn := 0) h1 h5
  obtain ⟨v0, v1, v2, v3, u0, u1, u2, u3, vb, vs⟩ := dv_0 (w := w) (H := H) h1 h5
  have eP : hP (sDiv n 0 0 (hNew w H N B)) = (plSet (plSet (dvI (fun _ => hP0 w H) (B + 109) n 0) (B + 109) 0 0 ((w - 1) / 2) H) (n + 1) (((w - 1) / 2) + 1) 0 (w - 1 - ((w - 1) / 2)) H) := by
    show plShare 9 n ((ptLen (dvI (fun _ => hP0 w H) (B + 109) n 0 n) 0 - 1) / 2) (dvI (fun _ => hP0 w H) (B + 109) n 0) = _
    rw [show ptLen (dvI (fun _ => hP0 w H) (B + 109) n 0 n) 0 = w by unfold ptLen; rw [if_pos rfl]; exact a2]
    exact dw_0 h1 h5
  have eD : ∀ b, hD (sDiv n 0 0 (hNew w H N B)) b = true ↔ (b = n + 1 ∨ b = n ∨ b = B + 109) := fun b => by
    show va_up (va_up (fun a => decide (a = B + 109)) n true) (n + 1) true b = true ↔ _
    simp only [va_up]
    split
    · simp_all
    · split <;> simp_all
  have eL : hLv (sDiv n 0 0 (hNew w H N B)) = va_up (va_up (fun _ => none) 0 (some (B + 109))) 1 (some (n + 1)) := by
    show va_up (hLv (hNew w H N B)) (lyLeast (hLv (hNew w H N B)) 0 8 0).toNat (some (n + 1)) = _
    rw [nw_least]
    rfl
  have eR : hRt (sDiv n 0 0 (hNew w H N B)) = n := by
    show exR (dvA (fun _ => hP0 w H) (B + 109) n) (B + 109) n (B + 109) = n
    unfold exR
    rw [if_pos]
    simp [dvA, ptR, va_up, hP0, h1]
  have hlf : ∀ i b, hLv (sDiv n 0 0 (hNew w H N B)) i = some b → b = B + 109 ∨ b = n + 1 := fun i b e => by
    rw [eL] at e
    simp only [va_up] at e
    split at e
    · exact Or.inr (Option.some.inj e).symm
    · split at e
      · exact Or.inl (Option.some.inj e).symm
      · cases e
  unfold lyOk
  rw [eP, eR]
  refine ⟨fun a ha i b e => ?_, fun i b e => (eD b).mpr ?_, ⟨by decide, fun b => ?_⟩, fun b => ?_, (eD n).mpr (Or.inr (Or.inl rfl)), fun i b e => ?_⟩
  · rw [(vs a).1] at e
    refine (eD b).mpr ?_
    by_cases hi : 3 ≤ i
    · obtain ⟨l1, l2, l3⟩ := dq_l (w := w) (H := H) (dn := 0) h1 h5 hi
      rcases (eD a).mp ha with rfl | rfl | rfl
      · rw [l3] at e; cases e
      · rw [l1] at e; cases e
      · rw [l2] at e; cases e
    · rcases (show i = 0 ∨ i = 1 ∨ i = 2 by omega) with rfl | rfl | rfl <;> rcases (eD a).mp ha with rfl | rfl | rfl
      · rw [c5] at e; cases e
      · rw [a5] at e; exact Or.inr (Or.inr (Option.some.inj e).symm)
      · rw [b5] at e; cases e
      · rw [c6] at e; cases e
      · rw [a6] at e; exact Or.inl (Option.some.inj e).symm
      · rw [b6] at e; cases e
      · rw [c7] at e; exact Or.inr (Or.inl (Option.some.inj e).symm)
      · rw [a7] at e; cases e
      · rw [b7] at e; exact Or.inr (Or.inl (Option.some.inj e).symm)
  · rcases hlf i b e with rfl | rfl
    · exact Or.inr (Or.inr rfl)
    · exact Or.inl rfl
  · by_cases e1 : b = B + 109
    · rw [e1, v2, v3, (vs (B + 109)).2, b4]; omega
    · by_cases e2 : b = n + 1
      · rw [e2, u2, u3, (vs (n + 1)).2, c4]; omega
      · rw [vb b e1 e2]
        by_cases e3 : b = n
        · rw [e3, a2, a3, a4]; omega
        · rw [dq_b h1 h5 e3 e2 e1]
          show (-100 ≤ w ∧ w ≤ 100) ∧ (-100 ≤ H ∧ H ≤ 100) ∧ ((0 : Int) ≤ 0 ∧ (0 : Int) ≤ 1)
          omega
  · by_cases e1 : b = B + 109
    · rw [e1, v0, v1]; omega
    · by_cases e2 : b = n + 1
      · rw [e2, u0, u1]; omega
      · rw [vb b e1 e2]
        by_cases e3 : b = n
        · rw [e3, a0, a1]; omega
        · rw [dq_b h1 h5 e3 e2 e1]
          show (-1000 ≤ (0 : Int) ∧ (0 : Int) ≤ 1000) ∧ (-1000 ≤ (0 : Int) ∧ (0 : Int) ≤ 1000)
          omega
  · rcases hlf i b e with rfl | rfl
    · unfold arOk
      rw [v0, v1, v2, v3]; omega
    · unfold arOk
      rw [u0, u1, u2, u3]; omega
/-- the two areas -/
theorem dw_1 {w H : Int} {o n : Nat} (h1 : o ≠ n) (h5 : o ≠ n + 1) : plShare 9 n ((H - 1) / 2) (dvI (fun _ => hP0 w H) o n 1) = (plSet (plSet (dvI (fun _ => hP0 w H) o n 1) o 0 0 w ((H - 1) / 2)) (n + 1) 0 (((H - 1) / 2) + 1) w (H - 1 - ((H - 1) / 2))) := by
  obtain ⟨a0, a1, a2, a3, a4, a5, a6, a7⟩ := dq_n (w := w) (H := H) (dn := 1) h1 h5
  obtain ⟨b0, b1, b2, b3, b4, b5, b6, b7⟩ := dq_o (w := w) (H := H) (dn := 1) h1 h5
  obtain ⟨c0, c1, c2, c3, c4, c5, c6, c7⟩ := dq_m (w := w) (H := H) (dn := 1) h1 h5
  have h2 : n ≠ o := fun z => h1 z.symm
  have h6 : n + 1 ≠ o := fun z => h5 z.symm
  have h3 : n ≠ n + 1 := by omega
  rw [plShare_d (k := 8) (x := o) (y := n + 1) ⟨by rw [a5]; exact fun z => (by cases z), by rw [a6]; exact fun z => (by cases z)⟩ a5 a6 (by rw [a4]; decide)]
  have e1 : ∀ c r u q, plW (plShare 8) o c r u q (dvI (fun _ => hP0 w H) o n 1) = plSet (dvI (fun _ => hP0 w H) o n 1) o c r u q := fun c r u q => plW_no (fun z => z.1 (by simp [plSet, ptS, va_up, b5]))
  rw [e1]
  dsimp only
  have e2 : ∀ c r u q c' r' u' q', plW (plShare 8) (n + 1) c r u q (plSet (dvI (fun _ => hP0 w H) o n 1) o c' r' u' q') = plSet (plSet (dvI (fun _ => hP0 w H) o n 1) o c' r' u' q') (n + 1) c r u q := fun c r u q c' r' u' q' => plW_no (fun z => z.1 (by simp [plSet, ptS, va_up, c5, h6]))
  rw [e2]
  have e3 : ∀ c r u q, plSet (dvI (fun _ => hP0 w H) o n 1) o c r u q n = (dvI (fun _ => hP0 w H) o n 1) n := fun c r u q => by simp [plSet, ptS, va_up, h2]
  rw [e3, a0, a1, a2, a4]
  have e4 : ptLen ((dvI (fun _ => hP0 w H) o n 1) n) 1 = H := by unfold ptLen; rw [if_neg (by decide)]; exact a3
  rw [e4]
  rw [Int.zero_add]
theorem dv_1 {w H : Int} {o n : Nat} (h1 : o ≠ n) (h5 : o ≠ n + 1) : ((plSet (plSet (dvI (fun _ => hP0 w H) o n 1) o 0 0 w ((H - 1) / 2)) (n + 1) 0 (((H - 1) / 2) + 1) w (H - 1 - ((H - 1) / 2))) o).1 0 = 0 ∧ ((plSet (plSet (dvI (fun _ => hP0 w H) o n 1) o 0 0 w ((H - 1) / 2)) (n + 1) 0 (((H - 1) / 2) + 1) w (H - 1 - ((H - 1) / 2))) o).1 1 = 0 ∧ ((plSet (plSet (dvI (fun _ => hP0 w H) o n 1) o 0 0 w ((H - 1) / 2)) (n + 1) 0 (((H - 1) / 2) + 1) w (H - 1 - ((H - 1) / 2))) o).1 2 = w ∧ ((plSet (plSet (dvI (fun _ => hP0 w H) o n 1) o 0 0 w ((H - 1) / 2)) (n + 1) 0 (((H - 1) / 2) + 1) w (H - 1 - ((H - 1) / 2))) o).1 3 = ((H - 1) / 2) ∧ ((plSet (plSet (dvI (fun _ => hP0 w H) o n 1) o 0 0 w ((H - 1) / 2)) (n + 1) 0 (((H - 1) / 2) + 1) w (H - 1 - ((H - 1) / 2))) (n + 1)).1 0 = 0 ∧ ((plSet (plSet (dvI (fun _ => hP0 w H) o n 1) o 0 0 w ((H - 1) / 2)) (n + 1) 0 (((H - 1) / 2) + 1) w (H - 1 - ((H - 1) / 2))) (n + 1)).1 1 = (((H - 1) / 2) + 1) ∧ ((plSet (plSet (dvI (fun _ => hP0 w H) o n 1) o 0 0 w ((H - 1) / 2)) (n + 1) 0 (((H - 1) / 2) + 1) w (H - 1 - ((H - 1) / 2))) (n + 1)).1 2 = w ∧ ((plSet (plSet (dvI (fun _ => hP0 w H) o n 1) o 0 0 w ((H - 1) / 2)) (n + 1) 0 (((H - 1) / 2) + 1) w (H - 1 - ((H - 1) / 2))) (n + 1)).1 3 = (H - 1 - ((H - 1) / 2)) ∧ (∀ b, b ≠ o → b ≠ n + 1 → (plSet (plSet (dvI (fun _ => hP0 w H) o n 1) o 0 0 w ((H - 1) / 2)) (n + 1) 0 (((H - 1) / 2) + 1) w (H - 1 - ((H - 1) / 2))) b = (dvI (fun _ => hP0 w H) o n 1) b) ∧ (∀ b, ((plSet (plSet (dvI (fun _ => hP0 w H) o n 1) o 0 0 w ((H - 1) / 2)) (n + 1) 0 (((H - 1) / 2) + 1) w (H - 1 - ((H - 1) / 2))) b).2 = ((dvI (fun _ => hP0 w H) o n 1) b).2 ∧ ((plSet (plSet (dvI (fun _ => hP0 w H) o n 1) o 0 0 w ((H - 1) / 2)) (n + 1) 0 (((H - 1) / 2) + 1) w (H - 1 - ((H - 1) / 2))) b).1 4 = ((dvI (fun _ => hP0 w H) o n 1) b).1 4) := by
  have h6 : n + 1 ≠ o := fun z => h5 z.symm
  refine ⟨?_, ?_, ?_, ?_, ?_, ?_, ?_, ?_, fun b b1 b2 => ?_, fun b => ?_⟩
  all_goals try (simp [plSet, ptS, va_up, h5, h6]; done)
  · simp [plSet, ptS, va_up, b1, b2]
  · by_cases e1 : b = n + 1
    · subst e1; simp [plSet, ptS, va_up, h6]
    · by_cases e2 : b = o
      · subst e2; simp [plSet, ptS, va_up, h5]
      · simp [plSet, ptS, va_up, e1, e2]
theorem nw_ly1 {w H : Int} {N B n : Nat} (hw : 8 ≤ w ∧ w ≤ 40) (hH : 4 ≤ H ∧ H ≤ 16) (hn : B + 115 ≤ n) : lyOk w H (sDiv n 0 1 (hNew w H N B)) := by
  have h1 : B + 109 ≠ n := by omega
  have h5 : B + 109 ≠ n + 1 := by omega
  obtain ⟨a0, a1, a2, a3, a4, a5, a6, a7⟩ := dq_n (w := w) (H := H) (dn := 1) h1 h5
  obtain ⟨b0, b1, b2, b3, b4, b5, b6, b7⟩ := dq_o (w := w) (H := H) (dn := 1) h1 h5
  obtain ⟨c0, c1, c2, c3, c4, c5, c6, c7⟩ := dq_m (w := w) (H := H) (dn := 1) h1 h5
  obtain ⟨v0, v1, v2, v3, u0, u1, u2, u3, vb, vs⟩ := dv_1 (w := w) (H := H) h1 h5
  have eP : hP (sDiv n 0 1 (hNew w H N B)) = (plSet (plSet (dvI (fun _ => hP0 w H) (B + 109) n 1) (B + 109) 0 0 w ((H - 1) / 2)) (n + 1) 0 (((H - 1) / 2) + 1) w (H - 1 - ((H - 1) / 2))) := by
    show plShare 9 n ((ptLen (dvI (fun _ => hP0 w H) (B + 109) n 1 n) 1 - 1) / 2) (dvI (fun _ => hP0 w H) (B + 109) n 1) = _
    rw [show ptLen (dvI (fun _ => hP0 w H) (B + 109) n 1 n) 1 = H by unfold ptLen; rw [if_neg (by decide)]; exact a3]
    exact dw_1 h1 h5
  have eD : ∀ b, hD (sDiv n 0 1 (hNew w H N B)) b = true ↔ (b = n + 1 ∨ b = n ∨ b = B + 109) := fun b => by
    show va_up (va_up (fun a => decide (a = B + 109)) n true) (n + 1) true b = true ↔ _
    simp only [va_up]
    split
    · simp_all
    · split <;> simp_all
  have eL : hLv (sDiv n 0 1 (hNew w H N B)) = va_up (va_up (fun _ => none) 0 (some (B + 109))) 1 (some (n + 1)) := by
    show va_up (hLv (hNew w H N B)) (lyLeast (hLv (hNew w H N B)) 0 8 0).toNat (some (n + 1)) = _
    rw [nw_least]
    rfl
  have eR : hRt (sDiv n 0 1 (hNew w H N B)) = n := by
    show exR (dvA (fun _ => hP0 w H) (B + 109) n) (B + 109) n (B + 109) = n
    unfold exR
    rw [if_pos]
    simp [dvA, ptR, va_up, hP0, h1]
  have hlf : ∀ i b, hLv (sDiv n 0 1 (hNew w H N B)) i = some b → b = B + 109 ∨ b = n + 1 := fun i b e => by
    rw [eL] at e
    simp only [va_up] at e
    split at e
    · exact Or.inr (Option.some.inj e).symm
    · split at e
      · exact Or.inl (Option.some.inj e).symm
      · cases e
  unfold lyOk
  rw [eP, eR]
  refine ⟨fun a ha i b e => ?_, fun i b e => (eD b).mpr ?_, ⟨by decide, fun b => ?_⟩, fun b => ?_, (eD n).mpr (Or.inr (Or.inl rfl)), fun i b e => ?_⟩
  · rw [(vs a).1] at e
    refine (eD b).mpr ?_
    by_cases hi : 3 ≤ i
    · obtain ⟨l1, l2, l3⟩ := dq_l (w := w) (H := H) (dn := 1) h1 h5 hi
      rcases (eD a).mp ha with rfl | rfl | rfl
      · rw [l3] at e; cases e
      · rw [l1] at e; cases e
      · rw [l2] at e; cases e
    · rcases (show i = 0 ∨ i = 1 ∨ i = 2 by omega) with rfl | rfl | rfl <;> rcases (eD a).mp ha with rfl | rfl | rfl
      · rw [c5] at e; cases e
      · rw [a5] at e; exact Or.inr (Or.inr (Option.some.inj e).symm)
      · rw [b5] at e; cases e
      · rw [c6] at e; cases e
      · rw [a6] at e; exact Or.inl (Option.some.inj e).symm
      · rw [b6] at e; cases e
      · rw [c7] at e; exact Or.inr (Or.inl (Option.some.inj e).symm)
      · rw [a7] at e; cases e
      · rw [b7] at e; exact Or.inr (Or.inl (Option.some.inj e).symm)
  · rcases hlf i b e with rfl | rfl
    · exact Or.inr (Or.inr rfl)
    · exact Or.inl rfl
  · by_cases e1 : b = B + 109
    · rw [e1, v2, v3, (vs (B + 109)).2, b4]; omega
    · by_cases e2 : b = n + 1
      · rw [e2, u2, u3, (vs (n + 1)).2, c4]; omega
      · rw [vb b e1 e2]
        by_cases e3 : b = n
        · rw [e3, a2, a3, a4]; omega
        · rw [dq_b h1 h5 e3 e2 e1]
          show (-100 ≤ w ∧ w ≤ 100) ∧ (-100 ≤ H ∧ H ≤ 100) ∧ ((0 : Int) ≤ 0 ∧ (0 : Int) ≤ 1)
          omega
  · by_cases e1 : b = B + 109
    · rw [e1, v0, v1]; omega
    · by_cases e2 : b = n + 1
      · rw [e2, u0, u1]; omega
      · rw [vb b e1 e2]
        by_cases e3 : b = n
        · rw [e3, a0, a1]; omega
        · rw [dq_b h1 h5 e3 e2 e1]
          show (-1000 ≤ (0 : Int) ∧ (0 : Int) ≤ 1000) ∧ (-1000 ≤ (0 : Int) ∧ (0 : Int) ≤ 1000)
          omega
  · rcases hlf i b e with rfl | rfl
    · unfold arOk
      rw [v0, v1, v2, v3]; omega
    · unfold arOk
      rw [u0, u1, u2, u3]; omega
