def YX0_keep : pw_Y := (RX0, "keep", cX0_keep, 4, none)
theorem ywX0_keep : pw_y yX0_keep YX0_keep 2 := ⟨by decide +kernel, by decide +kernel, by decide +kernel, pw_in 416 (by decide +kernel) (by decide +kernel), pw_in 84 (by decide +kernel) (by decide +kernel)⟩
theorem cwX0_22 : Cond.methodLink RX0 22 yX0_fill ∈ pw_G ∧ Cond.instanceMethod yX0_fill ∈ pw_G ∧ Cond.selects RX0 yX0_fill yX0_fill ∈ pw_G := ⟨pw_in 417 (by decide +kernel) (by decide +kernel), pw_in 418 (by decide +kernel) (by decide +kernel), pw_in 419 (by decide +kernel) (by decide +kernel)⟩
theorem lkX1_22 : Cond.fieldLink RX1 22 (TX1 3).1 (TX1 3).2.1 (TX1 3).2.2.1 ∈ pw_G := pw_in 179 (by decide +kernel) (by decide +kernel)
theorem lkX1_25 : Cond.fieldLink RX1 25 (TX1 4).1 (TX1 4).2.1 (TX1 4).2.2.1 ∈ pw_G := pw_in 180 (by decide +kernel) (by decide +kernel)
def YX1_forget : pw_Y := (RX1, "forget", cX1_forget, 1, none)
theorem ywX1_forget : pw_y yX1_forget YX1_forget 0 := ⟨by decide +kernel, by decide +kernel, by decide +kernel, pw_in 769 (by decide +kernel) (by decide +kernel), pw_in 85 (by decide +kernel) (by decide +kernel)⟩
theorem lkX1_11 : Cond.fieldLink RX1 11 (TX1 2).1 (TX1 2).2.1 (TX1 2).2.2.1 ∈ pw_G := pw_in 178 (by decide +kernel) (by decide +kernel)
theorem lkX1_19 : Cond.fieldLink RX1 19 (TX1 1).1 (TX1 1).2.1 (TX1 1).2.2.1 ∈ pw_G := pw_in 177 (by decide +kernel) (by decide +kernel)
theorem lkX1_15 : Cond.fieldLink RX1 15 (TX1 0).1 (TX1 0).2.1 (TX1 0).2.2.1 ∈ pw_G := pw_in 176 (by decide +kernel) (by decide +kernel)
theorem cwX1_28 : Cond.methodLink RX1 28 yX0_give ∈ pw_G ∧ Cond.instanceMethod yX0_give ∈ pw_G ∧ Cond.selects RX0 yX0_give yX0_give ∈ pw_G := ⟨pw_in 971 (by decide +kernel) (by decide +kernel), pw_in 861 (by decide +kernel) (by decide +kernel), pw_in 862 (by decide +kernel) (by decide +kernel)⟩
def YX1_add : pw_Y := (RX1, "add", cX1_add, 5, none)
theorem ywX1_add : pw_y yX1_add YX1_add 3 := ⟨by decide +kernel, by decide +kernel, by decide +kernel, pw_in 970 (by decide +kernel) (by decide +kernel), pw_in 85 (by decide +kernel) (by decide +kernel)⟩
theorem cwX1_34 : Cond.methodLink RX1 34 Lib.Math.min.name ∈ pw_G := pw_in 853 (by decide +kernel) (by decide +kernel)
theorem cwX1_40 : Cond.methodLink RX1 40 arraycopyName ∈ pw_G := pw_in 854 (by decide +kernel) (by decide +kernel)
theorem cwX1_46 : Cond.methodLink RX1 46 yJ7_fill_fda19 ∈ pw_G ∧ Cond.static yJ7_fill_fda19 ∈ pw_G := ⟨pw_in 855 (by decide +kernel) (by decide +kernel), pw_in 422 (by decide +kernel) (by decide +kernel)⟩
def YX1_give : pw_Y := (RX1, "give", cX1_give, 7, none)
theorem ywX1_give : pw_y yX1_give YX1_give 4 := ⟨by decide +kernel, by decide +kernel, by decide +kernel, pw_in 852 (by decide +kernel) (by decide +kernel), pw_in 85 (by decide +kernel) (by decide +kernel)⟩
theorem zI_and {a : Int} {m : Int32} (k : Nat) (hm : m.toBitVec.toNat = 2 ^ k - 1) (h0 : 0 ≤ a) (h1 : a < 2147483648) : zI a &&& m = zI (a % (2 ^ k : Nat)) := by
  obtain ⟨j, rfl⟩ := Int.eq_ofNat_of_zero_le h0
  exact pk_andN (n := j) (by omega) k hm
theorem pw_ziand {E : pw_E} {Y : pw_Y} {R : Room} {K : pw_K} {uc us pc : Nat} {lv : List (Option Value)} {st : List Value} {h : pz_H} {n : Nat} {a b : Int} (k : Nat) (hm : (zI b).toBitVec.toNat = 2 ^ k - 1) (ha : 0 ≤ a ∧ a < 2147483648) (hd : decode Y.2.2.1 pc = .ok (.iand, 1)) (kk : pw E Y R K uc us (pc + 1) lv (.int (zI (a % (2 ^ k : Nat))) :: st) h n) : pw E Y R K uc us pc lv (.int (zI b) :: .int (zI a) :: st) h n :=
  pw_iand hd (by rw [zI_and k hm ha.1 ha.2]; exact kk)
/-- where History has the row number i -/
def hslot (o i : Int) : Int := (o + i) % 30
def hgive (w o z i k at_ M : Int) (len c q : Nat → Int) : Nat → Int := if 0 ≤ i ∧ i < z ∧ 0 ≤ at_ ∧ 0 ≤ k ∧ at_ + k ≤ M then zfill (va_cpy c q ((o + i) % 30 * w).toNat at_.toNat (min k (len ((o + i) % 30).toNat)).toNat) (at_ + min k (len ((o + i) % 30).toNat)) (at_ + k) 32 else q
set_option maxHeartbeats 4000000 in
set_option maxRecDepth 100000 in
theorem lX0_keep {E : pw_E} (htr : E.1.stackTraces = false) {K : pw_K} {n g ca N : Nat} {w H c rows : Int} (hne : g ≠ ca) (hw : 0 ≤ w ∧ w ≤ 40) (hH : 0 ≤ H ∧ H ≤ 16) (hN : (N : Int) = w * H) (hN2 : N ≤ 640) (h_c : -2147483648 ≤ c ∧ c < 2147483648) (h_rows : -2147483648 ≤ rows ∧ rows < 2147483648) : ∀ (j : Nat) (i : Int) (h : pz_H) (f : Nat → Int), (H - i).toNat = j → 0 ≤ i → i ≤ H → h g = pz_o 3 [.int (zI w), .int (zI H), .ref ca] → h ca = pz_z 0 N f → K.2.2.1 none (va_up h ca (pz_z 0 N (gkeepF w H c rows j i f))) n → pw E YX0_keep (rmD 3 0 0) K 0 0 2 [some (.ref g), some (.int (zI (c))), some (.int (zI (rows))), some (.int (zI (i)))] [] h n := by
  intro j
  induction j with
  | zero =>
    intro i h f hj h1 h2 hg hc hQ
    refine pw_iload_n dX0_keep_2 rfl ?_
    refine pw_aload_n dX0_keep_3 rfl ?_
    refine pw_get (v := .int (zI (H))) okX0 (k := 1) (by decide) lkX0_15 hg rfl dX0_keep_4 ?_
    refine pw_icmp_ge (tgt := 37) dX0_keep_7 rfl (by omega) (by omega) (fun c7 => ?_) (fun c7 => ?_)
    ·
      exact pw_vret dX0_keep_37 rfl (nle rfl) (nle rfl) (by rw [show gkeepF w H c rows 0 i f = f from rfl, pz_up_id hc] at hQ; exact hQ)
    · exfalso; omega
  | succ j ih =>
    intro i h f hj h1 h2 hg hc hQ
    refine pw_iload_n dX0_keep_2 rfl ?_
    refine pw_aload_n dX0_keep_3 rfl ?_
    refine pw_get (v := .int (zI (H))) okX0 (k := 1) (by decide) lkX0_15 hg rfl dX0_keep_4 ?_
    refine pw_icmp_ge (tgt := 37) dX0_keep_7 rfl (by omega) (by omega) (fun c7 => ?_) (fun c7 => ?_)
    · exfalso; omega
    ·
      refine pw_aload_n dX0_keep_10 rfl ?_
      refine pw_iload_n dX0_keep_11 rfl ?_
      refine pw_iload_n dX0_keep_12 rfl ?_
      refine pw_iload_n dX0_keep_13 rfl ?_
      refine pw_icmp_ge (tgt := 21) dX0_keep_14 rfl (by omega) (by omega) (fun c14 => ?_) (fun c14 => ?_)
      ·
        refine pw_iconst (v := zI (0)) dX0_keep_21 (by decide) ?_
        refine pw_aload_n dX0_keep_22 rfl ?_
        refine pw_get (v := .int (zI (w))) okX0 (k := 0) (by decide) lkX0_9 hg rfl dX0_keep_23 ?_
        refine pw_bipush (v := zI (32)) dX0_keep_26 (by decide) ?_
        refine pw_callV (As := [.int (zI (i)), .int (zI (0)), .int (zI (w)), .int (zI (32))]) (b := g) (rm := rmD 2 0 0) (mX0_fill htr hg hc hne hw hH hN hN2 (by omega) (by omega) (by omega) (by omega)) rfl hg rfl rfl ywX0_fill rfl cwX0_22 ⟨nle rfl, nle rfl⟩ (nle rfl) ⟨nle rfl, nle rfl⟩ dX0_keep_28 ?_ (fun _ _ _ z => z.elim)
        intro r2 h2 n2 hq _
        rw [hq.1, hq.2.1, hq.2.2]
        show pw E YX0_keep _ _ 0 0 31 [some (.ref g), some (.int (zI (c))), some (.int (zI (rows))), some (.int (zI (i)))] [] (va_up h ca (pz_z 0 N (gfill w H (i) (0) (w) (32) f))) n
        refine pw_ziinc (lv' := [some (.ref g), some (.int (zI (c))), some (.int (zI (rows))), some (.int (zI (i + 1)))]) dX0_keep_31 rfl (by decide) rfl rfl ?_
        refine pw_goto (tgt := 2) dX0_keep_34 rfl ?_
        rw [show gkeepF w H c rows (j + 1) i f = gkeepF w H c rows j (i + 1) (gfill w H i (if i < rows then c else 0) w 32 f) from rfl] at hQ
        first | rw [if_pos (show i < rows by omega)] at hQ | rw [if_neg (show ¬ i < rows by omega)] at hQ
        exact ih (i + 1) _ _ (by omega) (by omega) (by omega) ((va_up_ne _ _ hne).trans hg) (va_up_self _ _ _) (by rw [pz_up_up]; exact hQ)
      ·
        refine pw_iload_n dX0_keep_17 rfl ?_
        refine pw_goto (tgt := 22) dX0_keep_18 rfl ?_
        refine pw_aload_n dX0_keep_22 rfl ?_
        refine pw_get (v := .int (zI (w))) okX0 (k := 0) (by decide) lkX0_9 hg rfl dX0_keep_23 ?_
        refine pw_bipush (v := zI (32)) dX0_keep_26 (by decide) ?_
        refine pw_callV (As := [.int (zI (i)), .int (zI (c)), .int (zI (w)), .int (zI (32))]) (b := g) (rm := rmD 2 0 0) (mX0_fill htr hg hc hne hw hH hN hN2 (by omega) (by omega) (by omega) (by omega)) rfl hg rfl rfl ywX0_fill rfl cwX0_22 ⟨nle rfl, nle rfl⟩ (nle rfl) ⟨nle rfl, nle rfl⟩ dX0_keep_28 ?_ (fun _ _ _ z => z.elim)
        intro r2 h2 n2 hq _
        rw [hq.1, hq.2.1, hq.2.2]
        show pw E YX0_keep _ _ 0 0 31 [some (.ref g), some (.int (zI (c))), some (.int (zI (rows))), some (.int (zI (i)))] [] (va_up h ca (pz_z 0 N (gfill w H (i) (c) (w) (32) f))) n
        refine pw_ziinc (lv' := [some (.ref g), some (.int (zI (c))), some (.int (zI (rows))), some (.int (zI (i + 1)))]) dX0_keep_31 rfl (by decide) rfl rfl ?_
        refine pw_goto (tgt := 2) dX0_keep_34 rfl ?_
        rw [show gkeepF w H c rows (j + 1) i f = gkeepF w H c rows j (i + 1) (gfill w H i (if i < rows then c else 0) w 32 f) from rfl] at hQ
        first | rw [if_pos (show i < rows by omega)] at hQ | rw [if_neg (show ¬ i < rows by omega)] at hQ
        exact ih (i + 1) _ _ (by omega) (by omega) (by omega) ((va_up_ne _ _ hne).trans hg) (va_up_self _ _ _) (by rw [pz_up_up]; exact hQ)
set_option maxHeartbeats 4000000 in
set_option maxRecDepth 100000 in
/-- Grid.keep(c, rows) -/
theorem mX0_keep {E : pw_E} (htr : E.1.stackTraces = false) {h : pz_H} {n : Nat} {g ca N : Nat} {w H : Int} {f : Nat → Int} (hg : h g = pz_o 3 [.int (zI w), .int (zI H), .ref ca]) (hc : h ca = pz_z 0 N f) (hne : g ≠ ca) (hw : 0 ≤ w ∧ w ≤ 40) (hH : 0 ≤ H ∧ H ≤ 16) (hN : (N : Int) = w * H) (hN2 : N ≤ 640) {c rows : Int} (h_c : -2147483648 ≤ c ∧ c < 2147483648) (h_rows : -2147483648 ≤ rows ∧ rows < 2147483648) : pw_M E yX0_keep YX0_keep (rmD 3 0 0) [.ref g, .int (zI c), .int (zI rows)] h n (fun r h' n' => r = none ∧ h' = va_up h ca (pz_z 0 N (gkeep w H c rows f)) ∧ n' = n) (fun _ _ _ => False) := by
  refine pw_M_of (lv := [some (.ref g), some (.int (zI (c))), some (.int (zI (rows))), none]) (by decide) rfl rfl htr (nle rfl) rfl (fun L => ?_)
  refine pw_iconst (v := zI (0)) dX0_keep_0 (by decide) ?_
  refine pw_istore_n (lv' := [some (.ref g), some (.int (zI (c))), some (.int (zI (rows))), some (.int (zI (0)))]) dX0_keep_1 (by decide) rfl rfl ?_
  exact lX0_keep htr hne hw hH hN hN2 h_c h_rows _ _ _ _ rfl (by omega) (by omega) hg hc (by rw [show (H - 0).toNat = H.toNat by omega]; exact ⟨rfl, rfl, rfl⟩)
set_option maxHeartbeats 4000000 in
set_option maxRecDepth 100000 in
/-- History.forget() -/
theorem mX1_forget {E : pw_E} (htr : E.1.stackTraces = false) {h : pz_H} {n : Nat} {hi hc hl NH : Nat} {w o z : Int} {len c : Nat → Int} (hh : h hi = pz_o 4 [.int (zI w), .ref hc, .ref hl, .int (zI o), .int (zI z)]) (hhc : h hc = pz_z 0 NH c) (hhl : h hl = pz_z 0 30 len) (n1 : hi ≠ hc) (n2 : hi ≠ hl) (n3 : hc ≠ hl) (hw : 0 ≤ w ∧ w ≤ 40) (ho : 0 ≤ o ∧ o < 30) (hz : 0 ≤ z ∧ z ≤ 30) (hNH : (NH : Int) = 30 * w) : pw_M E yX1_forget YX1_forget (rmD 0 0 0) [.ref hi] h n (fun r h' n' => r = none ∧ h' = va_up h hi (pz_o 4 [.int (zI w), .ref hc, .ref hl, .int (zI 0), .int (zI 0)]) ∧ n' = n) (fun _ _ _ => False) := by
  refine pw_M_of (lv := [some (.ref hi)]) (by decide) rfl rfl htr (nle rfl) rfl (fun L => ?_)
  refine pw_aload_n dX1_forget_0 rfl ?_
  refine pw_iconst (v := zI (0)) dX1_forget_1 (by decide) ?_
  refine pw_put (fs' := [.int (zI (w)), .ref hc, .ref hl, .int (zI (0)), .int (zI (z))]) okX1 (k := 3) (by decide) lkX1_22 rfl rfl rfl hh (nlt rfl) rfl dX1_forget_2 ?_
  refine pw_aload_n dX1_forget_5 rfl ?_
  refine pw_iconst (v := zI (0)) dX1_forget_6 (by decide) ?_
  refine pw_put (fs' := [.int (zI (w)), .ref hc, .ref hl, .int (zI (0)), .int (zI (0))]) okX1 (k := 4) (by decide) lkX1_25 rfl rfl rfl (va_up_self _ _ _) (nlt rfl) rfl dX1_forget_7 ?_
  exact pw_vret dX1_forget_10 rfl (nle rfl) (nle rfl) ⟨rfl, pz_up_up, rfl⟩
set_option maxHeartbeats 4000000 in
set_option maxRecDepth 100000 in
/-- History.add(grid, row, k) -/
theorem mX1_add {E : pw_E} (htr : E.1.stackTraces = false) {h : pz_H} {n : Nat} {hi hc hl NH : Nat} {w o z : Int} {len c : Nat → Int} (hh : h hi = pz_o 4 [.int (zI w), .ref hc, .ref hl, .int (zI o), .int (zI z)]) (hhc : h hc = pz_z 0 NH c) (hhl : h hl = pz_z 0 30 len) (n1 : hi ≠ hc) (n2 : hi ≠ hl) (n3 : hc ≠ hl) (hw : 0 ≤ w ∧ w ≤ 40) (ho : 0 ≤ o ∧ o < 30) (hz : 0 ≤ z ∧ z ≤ 30) (hNH : (NH : Int) = 30 * w) {g ca N : Nat} {H row k : Int} {f : Nat → Int} (hg : h g = pz_o 3 [.int (zI w), .int (zI H), .ref ca]) (hca : h ca = pz_z 0 N f) (hne : g ≠ ca) (hH : 0 ≤ H ∧ H ≤ 16) (hN : (N : Int) = w * H) (hN2 : N ≤ 640) (h_row : -2147483648 ≤ row ∧ row < 2147483648) (h_k : -2147483648 ≤ k ∧ k < 2147483648) (n4 : g ≠ hi) (n5 : g ≠ hl) (n6 : ca ≠ hi) (n7 : ca ≠ hl) (n8 : g ≠ hc) (n9 : ca ≠ hc) : pw_M E yX1_add YX1_add (rmD 2 0 0) [.ref hi, .ref g, .int (zI row), .int (zI k)] h n (fun r h' n' => r = none ∧ h' = va_up (va_up (va_up h hi (pz_o 4 [.int (zI w), .ref hc, .ref hl, .int (zI (if z < 30 then o else (o + 1) % 30)), .int (zI (if z < 30 then z + 1 else z))])) hl (pz_z 0 30 (va_up len ((o + z) % 30).toNat k))) hc (pz_z 0 NH (ggive w H row k ((o + z) % 30 * w) NH f c)) ∧ n' = n) (fun _ _ _ => False) := by
  refine pw_M_of (lv := [some (.ref hi), some (.ref g), some (.int (zI (row))), some (.int (zI (k))), none]) (by decide) rfl rfl htr (nle rfl) rfl (fun L => ?_)
  refine pw_aload_n dX1_add_0 rfl ?_
  refine pw_get (v := .int (zI (o))) okX1 (k := 3) (by decide) lkX1_22 hh rfl dX1_add_1 ?_
  refine pw_aload_n dX1_add_4 rfl ?_
  refine pw_get (v := .int (zI (z))) okX1 (k := 4) (by decide) lkX1_25 hh rfl dX1_add_5 ?_
  refine pw_ziadd dX1_add_8 ?_
  refine pw_bipush (v := zI (30)) dX1_add_9 (by decide) ?_
  refine pw_zirem dX1_add_11 (by omega) (by omega) ?_
  refine pw_istore (lv' := [some (.ref hi), some (.ref g), some (.int (zI (row))), some (.int (zI (k))), some (.int (zI ((o + z) % (30))))]) dX1_add_12 (by decide) rfl rfl ?_
  refine pw_aload_n dX1_add_14 rfl ?_
  refine pw_get (v := .int (zI (z))) okX1 (k := 4) (by decide) lkX1_25 hh rfl dX1_add_15 ?_
  refine pw_bipush (v := zI (30)) dX1_add_18 (by decide) ?_
  refine pw_icmp_ge (tgt := 36) dX1_add_20 rfl (by omega) (by omega) (fun c20 => ?_) (fun c20 => ?_)
  ·
    refine pw_aload_n dX1_add_36 rfl ?_
    refine pw_aload_n dX1_add_37 rfl ?_
    refine pw_get (v := .int (zI (o))) okX1 (k := 3) (by decide) lkX1_22 hh rfl dX1_add_38 ?_
    refine pw_iconst (v := zI (1)) dX1_add_41 (by decide) ?_
    refine pw_ziadd dX1_add_42 ?_
    refine pw_bipush (v := zI (30)) dX1_add_43 (by decide) ?_
    refine pw_zirem dX1_add_45 (by omega) (by omega) ?_
    refine pw_put (fs' := [.int (zI (w)), .ref hc, .ref hl, .int (zI ((o + 1) % (30))), .int (zI (z))]) okX1 (k := 3) (by decide) lkX1_22 rfl rfl rfl hh (nlt rfl) rfl dX1_add_46 ?_
    have hzz := zrow (row := (o + z) % 30) (w := w) (H := 30) (by omega) (by omega) hw.1
    refine pw_aload_n dX1_add_49 rfl ?_
    refine pw_get (v := .ref hl) okX1 (k := 2) (by decide) lkX1_11 (va_up_self _ _ _) rfl dX1_add_50 ?_
    refine pw_iload dX1_add_53 rfl ?_
    refine pw_iload_n dX1_add_55 rfl ?_
    refine pw_iast (t := 0) rfl ((va_up_ne _ _ n2.symm).trans hhl) (by omega) (by omega) dX1_add_56 ?_
    refine pw_aload_n dX1_add_57 rfl ?_
    refine pw_iload_n dX1_add_58 rfl ?_
    refine pw_iload_n dX1_add_59 rfl ?_
    refine pw_aload_n dX1_add_60 rfl ?_
    refine pw_get (v := .ref hc) okX1 (k := 1) (by decide) lkX1_19 ((va_up_ne _ _ n2).trans (va_up_self _ _ _)) rfl dX1_add_61 ?_
    refine pw_iload dX1_add_64 rfl ?_
    refine pw_aload_n dX1_add_66 rfl ?_
    refine pw_get (v := .int (zI (w))) okX1 (k := 0) (by decide) lkX1_15 ((va_up_ne _ _ n2).trans (va_up_self _ _ _)) rfl dX1_add_67 ?_
    refine pw_zimul dX1_add_70 ?_
    refine pw_callV (As := [.int (zI (row)), .int (zI (k)), .ref hc, .int (zI (((o + z) % (30)) * (w)))]) (b := g) (rm := rmD 1 0 0) (mX0_give htr ((va_up_ne _ _ n5).trans ((va_up_ne _ _ n4).trans hg)) ((va_up_ne _ _ n7).trans ((va_up_ne _ _ n6).trans hca)) hne hw hH hN hN2 (by omega) (by omega) (by omega) ((va_up_ne _ _ n3).trans ((va_up_ne _ _ n1.symm).trans hhc)) (by omega) (by omega)) rfl ((va_up_ne _ _ n5).trans ((va_up_ne _ _ n4).trans hg)) rfl rfl ywX0_give rfl cwX1_28 ⟨nle rfl, nle rfl⟩ (nle rfl) ⟨nle rfl, nle rfl⟩ dX1_add_71 ?_ (fun _ _ _ z => z.elim)
    intro r2 h2 n2 hq _
    rw [hq.1, hq.2.1, hq.2.2]
    show pw E YX1_add _ _ 0 0 74 [some (.ref hi), some (.ref g), some (.int (zI (row))), some (.int (zI (k))), some (.int (zI ((o + z) % (30))))] [] (va_up (va_up (va_up h hi (pz_o 4 [.int (zI (w)), .ref hc, .ref hl, .int (zI ((o + 1) % (30))), .int (zI (z))])) hl (pz_z 0 30 (va_up len ((o + z) % (30)).toNat (k)))) hc (pz_z 0 NH (ggive w H row k ((o + z) % 30 * w) NH f c))) n
    exact pw_vret dX1_add_74 rfl (nle rfl) (nle rfl) ⟨rfl, by first | rw [if_pos (show z < 30 by omega), if_pos (show z < 30 by omega)] | rw [if_neg (show ¬ z < 30 by omega), if_neg (show ¬ z < 30 by omega)], rfl⟩
  ·
    refine pw_aload_n dX1_add_23 rfl ?_
    refine pw_dup dX1_add_24 rfl ?_
    refine pw_get (v := .int (zI (z))) okX1 (k := 4) (by decide) lkX1_25 hh rfl dX1_add_25 ?_
    refine pw_iconst (v := zI (1)) dX1_add_28 (by decide) ?_
    refine pw_ziadd dX1_add_29 ?_
    refine pw_put (fs' := [.int (zI (w)), .ref hc, .ref hl, .int (zI (o)), .int (zI (z + 1))]) okX1 (k := 4) (by decide) lkX1_25 rfl rfl rfl hh (nlt rfl) rfl dX1_add_30 ?_
    refine pw_goto (tgt := 49) dX1_add_33 rfl ?_
    have hzz := zrow (row := (o + z) % 30) (w := w) (H := 30) (by omega) (by omega) hw.1
    refine pw_aload_n dX1_add_49 rfl ?_
    refine pw_get (v := .ref hl) okX1 (k := 2) (by decide) lkX1_11 (va_up_self _ _ _) rfl dX1_add_50 ?_
    refine pw_iload dX1_add_53 rfl ?_
    refine pw_iload_n dX1_add_55 rfl ?_
    refine pw_iast (t := 0) rfl ((va_up_ne _ _ n2.symm).trans hhl) (by omega) (by omega) dX1_add_56 ?_
    refine pw_aload_n dX1_add_57 rfl ?_
    refine pw_iload_n dX1_add_58 rfl ?_
    refine pw_iload_n dX1_add_59 rfl ?_
    refine pw_aload_n dX1_add_60 rfl ?_
    refine pw_get (v := .ref hc) okX1 (k := 1) (by decide) lkX1_19 ((va_up_ne _ _ n2).trans (va_up_self _ _ _)) rfl dX1_add_61 ?_
    refine pw_iload dX1_add_64 rfl ?_
    refine pw_aload_n dX1_add_66 rfl ?_
    refine pw_get (v := .int (zI (w))) okX1 (k := 0) (by decide) lkX1_15 ((va_up_ne _ _ n2).trans (va_up_self _ _ _)) rfl dX1_add_67 ?_
    refine pw_zimul dX1_add_70 ?_
    refine pw_callV (As := [.int (zI (row)), .int (zI (k)), .ref hc, .int (zI (((o + z) % (30)) * (w)))]) (b := g) (rm := rmD 1 0 0) (mX0_give htr ((va_up_ne _ _ n5).trans ((va_up_ne _ _ n4).trans hg)) ((va_up_ne _ _ n7).trans ((va_up_ne _ _ n6).trans hca)) hne hw hH hN hN2 (by omega) (by omega) (by omega) ((va_up_ne _ _ n3).trans ((va_up_ne _ _ n1.symm).trans hhc)) (by omega) (by omega)) rfl ((va_up_ne _ _ n5).trans ((va_up_ne _ _ n4).trans hg)) rfl rfl ywX0_give rfl cwX1_28 ⟨nle rfl, nle rfl⟩ (nle rfl) ⟨nle rfl, nle rfl⟩ dX1_add_71 ?_ (fun _ _ _ z => z.elim)
    intro r2 h2 n2 hq _
    rw [hq.1, hq.2.1, hq.2.2]
    show pw E YX1_add _ _ 0 0 74 [some (.ref hi), some (.ref g), some (.int (zI (row))), some (.int (zI (k))), some (.int (zI ((o + z) % (30))))] [] (va_up (va_up (va_up h hi (pz_o 4 [.int (zI (w)), .ref hc, .ref hl, .int (zI (o)), .int (zI (z + 1))])) hl (pz_z 0 30 (va_up len ((o + z) % (30)).toNat (k)))) hc (pz_z 0 NH (ggive w H row k ((o + z) % 30 * w) NH f c))) n
    exact pw_vret dX1_add_74 rfl (nle rfl) (nle rfl) ⟨rfl, by first | rw [if_pos (show z < 30 by omega), if_pos (show z < 30 by omega)] | rw [if_neg (show ¬ z < 30 by omega), if_neg (show ¬ z < 30 by omega)], rfl⟩
set_option maxHeartbeats 4000000 in
set_option maxRecDepth 100000 in
/-- History.give(i, k, target, at) -/
theorem mX1_give {E : pw_E} (htr : E.1.stackTraces = false) {h : pz_H} {n : Nat} {hi hc hl NH : Nat} {w o z : Int} {len c : Nat → Int} (hh : h hi = pz_o 4 [.int (zI w), .ref hc, .ref hl, .int (zI o), .int (zI z)]) (hhc : h hc = pz_z 0 NH c) (hhl : h hl = pz_z 0 30 len) (n1 : hi ≠ hc) (n2 : hi ≠ hl) (n3 : hc ≠ hl) (hw : 0 ≤ w ∧ w ≤ 40) (ho : 0 ≤ o ∧ o < 30) (hz : 0 ≤ z ∧ z ≤ 30) (hNH : (NH : Int) = 30 * w) {i k at_ : Int} (h_i : -2147483648 ≤ i ∧ i < 2147483648) (h_k : -2147483648 ≤ k ∧ k ≤ 100000) (h_at_ : -2147483648 ≤ at_ ∧ at_ ≤ 100000) {ta M : Nat} {q : Nat → Int} (ht : h ta = pz_z 0 M q) (hM : M ≤ 100000) (hlen : ∀ j : Nat, 0 ≤ len j ∧ len j ≤ w) (ta1 : hi ≠ ta) (ta2 : hc ≠ ta) (ta3 : hl ≠ ta) : pw_M E yX1_give YX1_give (rmD 2 0 0) [.ref hi, .int (zI i), .int (zI k), .ref ta, .int (zI at_)] h n (fun r h' n' => r = none ∧ h' = va_up h ta (pz_z 0 M (hgive w o z i k at_ M len c q)) ∧ n' = n) (fun _ _ _ => False) := by
  refine pw_M_of (lv := [some (.ref hi), some (.int (zI (i))), some (.int (zI (k))), some (.ref ta), some (.int (zI (at_))), none, none]) (by decide) rfl rfl htr (nle rfl) rfl (fun L => ?_)
  refine pw_iload_n dX1_give_0 rfl ?_
  refine pw_if_lt (tgt := 30) dX1_give_1 rfl (by omega) (fun c1 => ?_) (fun c1 => ?_)
  ·
    exact pw_vret dX1_give_30 rfl (nle rfl) (nle rfl) ⟨rfl, by unfold hgive; rw [if_neg (by omega), pz_up_id ht], rfl⟩
  ·
    refine pw_iload_n dX1_give_4 rfl ?_
    refine pw_aload_n dX1_give_5 rfl ?_
    refine pw_get (v := .int (zI (z))) okX1 (k := 4) (by decide) lkX1_25 hh rfl dX1_give_6 ?_
    refine pw_icmp_ge (tgt := 30) dX1_give_9 rfl (by omega) (by omega) (fun c9 => ?_) (fun c9 => ?_)
    ·
      exact pw_vret dX1_give_30 rfl (nle rfl) (nle rfl) ⟨rfl, by unfold hgive; rw [if_neg (by omega), pz_up_id ht], rfl⟩
    ·
      refine pw_iload dX1_give_12 rfl ?_
      refine pw_if_lt (tgt := 30) dX1_give_14 rfl (by omega) (fun c14 => ?_) (fun c14 => ?_)
      ·
        exact pw_vret dX1_give_30 rfl (nle rfl) (nle rfl) ⟨rfl, by unfold hgive; rw [if_neg (by omega), pz_up_id ht], rfl⟩
      ·
        refine pw_iload_n dX1_give_17 rfl ?_
        refine pw_if_lt (tgt := 30) dX1_give_18 rfl (by omega) (fun c18 => ?_) (fun c18 => ?_)
        ·
          exact pw_vret dX1_give_30 rfl (nle rfl) (nle rfl) ⟨rfl, by unfold hgive; rw [if_neg (by omega), pz_up_id ht], rfl⟩
        ·
          refine pw_iload dX1_give_21 rfl ?_
          refine pw_iload_n dX1_give_23 rfl ?_
          refine pw_ziadd dX1_give_24 ?_
          refine pw_aload_n dX1_give_25 rfl ?_
          refine pw_alenI (t := 0) rfl ht dX1_give_26 ?_
          refine pw_icmp_le (tgt := 31) dX1_give_27 rfl (by omega) (by omega) (fun c27 => ?_) (fun c27 => ?_)
          ·
            refine pw_aload_n dX1_give_31 rfl ?_
            refine pw_get (v := .int (zI (o))) okX1 (k := 3) (by decide) lkX1_22 hh rfl dX1_give_32 ?_
            refine pw_iload_n dX1_give_35 rfl ?_
            refine pw_ziadd dX1_give_36 ?_
            refine pw_bipush (v := zI (30)) dX1_give_37 (by decide) ?_
            refine pw_zirem dX1_give_39 (by omega) (by omega) ?_
            refine pw_istore (lv' := [some (.ref hi), some (.int (zI (i))), some (.int (zI (k))), some (.ref ta), some (.int (zI (at_))), some (.int (zI ((o + i) % (30)))), none]) dX1_give_40 (by decide) rfl rfl ?_
            have hzz := zrow (row := (o + i) % 30) (w := w) (H := 30) (by omega) (by omega) hw.1
            have hll := hlen ((o + i) % 30).toNat
            refine pw_iload_n dX1_give_42 rfl ?_
            refine pw_aload_n dX1_give_43 rfl ?_
            refine pw_get (v := .ref hl) okX1 (k := 2) (by decide) lkX1_11 hh rfl dX1_give_44 ?_
            refine pw_iload dX1_give_47 rfl ?_
            refine pw_iald (t := 0) rfl hhl (by omega) (by omega) dX1_give_49 ?_
            refine pw_min cwX1_34 dX1_give_50 (by omega) (by omega) ⟨nle rfl, nle rfl⟩ ⟨nle rfl, nle rfl⟩ ?_
            refine pw_istore (lv' := [some (.ref hi), some (.int (zI (i))), some (.int (zI (k))), some (.ref ta), some (.int (zI (at_))), some (.int (zI ((o + i) % (30)))), some (.int (zI (min (k) (len ((o + i) % (30)).toNat))))]) dX1_give_53 (by decide) rfl rfl ?_
            refine pw_aload_n dX1_give_55 rfl ?_
            refine pw_get (v := .ref hc) okX1 (k := 1) (by decide) lkX1_19 hh rfl dX1_give_56 ?_
            refine pw_iload dX1_give_59 rfl ?_
            refine pw_aload_n dX1_give_61 rfl ?_
            refine pw_get (v := .int (zI (w))) okX1 (k := 0) (by decide) lkX1_15 hh rfl dX1_give_62 ?_
            refine pw_zimul dX1_give_65 ?_
            refine pw_aload_n dX1_give_66 rfl ?_
            refine pw_iload dX1_give_67 rfl ?_
            refine pw_iload dX1_give_69 rfl ?_
            refine pw_copyi cwX1_40 hhc ht (by omega) (by omega) (by omega) (by omega) (by omega) ⟨nle rfl, nle rfl⟩ dX1_give_71 ?_
            refine pw_aload_n dX1_give_74 rfl ?_
            refine pw_iload dX1_give_75 rfl ?_
            refine pw_iload dX1_give_77 rfl ?_
            refine pw_ziadd dX1_give_79 ?_
            refine pw_iload dX1_give_80 rfl ?_
            refine pw_iload_n dX1_give_82 rfl ?_
            refine pw_ziadd dX1_give_83 ?_
            refine pw_bipush (v := zI (32)) dX1_give_84 (by decide) ?_
            refine pw_callS (As := [.ref ta, .int (zI ((at_) + (min (k) (len ((o + i) % (30)).toNat)))), .int (zI (at_ + k)), .int (zI (32))]) (rm := rmD 1 0 0) (mJ7_fill4 htr (va_up_self _ _ _) (by omega) (by omega) (by omega)) rfl ywJ7_fill_fda19 rfl cwX1_46 ⟨nle rfl, nle rfl⟩ (nle rfl) ⟨nle rfl, nle rfl⟩ dX1_give_86 ?_ (fun _ _ _ z => z.elim)
            intro r2 h2 n2 hq _
            rw [hq.1, hq.2.1, hq.2.2]
            show pw E YX1_give _ _ 0 0 89 [some (.ref hi), some (.int (zI (i))), some (.int (zI (k))), some (.ref ta), some (.int (zI (at_))), some (.int (zI ((o + i) % (30)))), some (.int (zI (min (k) (len ((o + i) % (30)).toNat))))] [] (va_up (va_up h ta (pz_z 0 M (va_cpy c q (((o + i) % (30)) * (w)).toNat (at_).toNat (min (k) (len ((o + i) % (30)).toNat)).toNat))) ta (pz_z 0 M (zfill (va_cpy c q ((o + i) % 30 * w).toNat at_.toNat (min k (len ((o + i) % 30).toNat)).toNat) (at_ + min k (len ((o + i) % 30).toNat)) (at_ + k) 32))) n
            exact pw_vret dX1_give_89 rfl (nle rfl) (nle rfl) ⟨rfl, by unfold hgive; rw [if_pos (by omega), pz_up_up], rfl⟩
          ·
            exact pw_vret dX1_give_30 rfl (nle rfl) (nle rfl) ⟨rfl, by unfold hgive; rw [if_neg (by omega), pz_up_id ht], rfl⟩
