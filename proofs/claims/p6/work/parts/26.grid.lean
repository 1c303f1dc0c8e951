theorem cwX9_241 : Cond.methodLink RX9 241 Lib.Math.min.name ∈ pw_G := pw_in 121 (by decide +kernel) (by decide +kernel)
theorem cwX9_247 : Cond.methodLink RX9 247 Lib.Math.max.name ∈ pw_G := pw_in 124 (by decide +kernel) (by decide +kernel)
def YX9_nearest : pw_Y := (RX9, "nearest", cX9_nearest, 3, (some .int))
theorem ywX9_nearest : pw_y yX9_nearest YX9_nearest 3 := ⟨by decide +kernel, by decide +kernel, by decide +kernel, pw_in 120 (by decide +kernel) (by decide +kernel), pw_in 79 (by decide +kernel) (by decide +kernel)⟩
def YJ7_rangeCheck_23922 : pw_Y := (RJ7, "rangeCheck", cJ7_rangeCheck_23922, 3, none)
theorem ywJ7_rangeCheck_23922 : pw_y yJ7_rangeCheck_23922 YJ7_rangeCheck_23922 3 := ⟨by decide +kernel, by decide +kernel, by decide +kernel, pw_in 426 (by decide +kernel) (by decide +kernel), pw_in 90 (by decide +kernel) (by decide +kernel)⟩
def YJ7_fill_fda19 : pw_Y := (RJ7, "fill", cJ7_fill_fda19, 5, none)
theorem ywJ7_fill_fda19 : pw_y yJ7_fill_fda19 YJ7_fill_fda19 4 := ⟨by decide +kernel, by decide +kernel, by decide +kernel, pw_in 423 (by decide +kernel) (by decide +kernel), pw_in 90 (by decide +kernel) (by decide +kernel)⟩
theorem cwJ7_13 : Cond.methodLink RJ7 13 yJ7_rangeCheck_23922 ∈ pw_G ∧ Cond.static yJ7_rangeCheck_23922 ∈ pw_G := ⟨pw_in 424 (by decide +kernel) (by decide +kernel), pw_in 425 (by decide +kernel) (by decide +kernel)⟩
def YJ7_fill_53178 : pw_Y := (RJ7, "fill", cJ7_fill_53178, 4, none)
theorem ywJ7_fill_53178 : pw_y yJ7_fill_53178 YJ7_fill_53178 2 := ⟨by decide +kernel, by decide +kernel, by decide +kernel, pw_in 377 (by decide +kernel) (by decide +kernel), pw_in 90 (by decide +kernel) (by decide +kernel)⟩
def YX0_fill : pw_Y := (RX0, "fill", cX0_fill, 5, none)
theorem ywX0_fill : pw_y yX0_fill YX0_fill 4 := ⟨by decide +kernel, by decide +kernel, by decide +kernel, pw_in 420 (by decide +kernel) (by decide +kernel), pw_in 84 (by decide +kernel) (by decide +kernel)⟩
theorem lkX0_15 : Cond.fieldLink RX0 15 (TX0 1).1 (TX0 1).2.1 (TX0 1).2.2.1 ∈ pw_G := pw_in 161 (by decide +kernel) (by decide +kernel)
theorem lkX0_9 : Cond.fieldLink RX0 9 (TX0 0).1 (TX0 0).2.1 (TX0 0).2.2.1 ∈ pw_G := pw_in 160 (by decide +kernel) (by decide +kernel)
theorem lkX0_18 : Cond.fieldLink RX0 18 (TX0 2).1 (TX0 2).2.1 (TX0 2).2.2.1 ∈ pw_G := pw_in 162 (by decide +kernel) (by decide +kernel)
theorem cwX0_26 : Cond.methodLink RX0 26 yJ7_fill_fda19 ∈ pw_G ∧ Cond.static yJ7_fill_fda19 ∈ pw_G := ⟨pw_in 421 (by decide +kernel) (by decide +kernel), pw_in 422 (by decide +kernel) (by decide +kernel)⟩
def YX0_set : pw_Y := (RX0, "set", cX0_set, 4, none)
theorem ywX0_set : pw_y yX0_set YX0_set 3 := ⟨by decide +kernel, by decide +kernel, by decide +kernel, pw_in 1104 (by decide +kernel) (by decide +kernel), pw_in 84 (by decide +kernel) (by decide +kernel)⟩
def YX0_give : pw_Y := (RX0, "give", cX0_give, 5, none)
theorem ywX0_give : pw_y yX0_give YX0_give 4 := ⟨by decide +kernel, by decide +kernel, by decide +kernel, pw_in 863 (by decide +kernel) (by decide +kernel), pw_in 84 (by decide +kernel) (by decide +kernel)⟩
theorem cwX0_31 : Cond.methodLink RX0 31 arraycopyName ∈ pw_G := pw_in 864 (by decide +kernel) (by decide +kernel)
def YX0_moveRow : pw_Y := (RX0, "moveRow", cX0_moveRow, 3, none)
theorem ywX0_moveRow : pw_y yX0_moveRow YX0_moveRow 2 := ⟨by decide +kernel, by decide +kernel, by decide +kernel, pw_in 980 (by decide +kernel) (by decide +kernel), pw_in 84 (by decide +kernel) (by decide +kernel)⟩
def YX0_moveCells : pw_Y := (RX0, "moveCells", cX0_moveCells, 6, none)
theorem ywX0_moveCells : pw_y yX0_moveCells YX0_moveCells 4 := ⟨by decide +kernel, by decide +kernel, by decide +kernel, pw_in 1040 (by decide +kernel) (by decide +kernel), pw_in 84 (by decide +kernel) (by decide +kernel)⟩
theorem cwX0_37 : Cond.methodLink RX0 37 Lib.Math.max.name ∈ pw_G := pw_in 1041 (by decide +kernel) (by decide +kernel)
/-- the places from a up to b hold v -/
def zfill (g : Nat → Int) (a b v : Int) : Nat → Int := fun k => if a ≤ (k : Int) ∧ (k : Int) < b then v else g k
theorem zfill_e {g : Nat → Int} {a b v : Int} (hc : b ≤ a) : zfill g a b v = g := by
  funext k; unfold zfill; rw [if_neg (by omega)]
theorem zfill_s {g : Nat → Int} {i b v : Int} (h0 : 0 ≤ i) (hi : i < b) : zfill (va_up g i.toNat v) (i + 1) b v = zfill g i b v := by
  funext k
  unfold zfill
  by_cases e : k = i.toNat
  · subst e; rw [va_up_self, if_neg (by omega), if_pos (by omega)]
  · rw [va_up_ne _ _ e]
    by_cases hk : i + 1 ≤ (k : Int) ∧ (k : Int) < b
    · rw [if_pos hk, if_pos (by omega)]
    · rw [if_neg hk, if_neg (by omega)]
theorem zrow {row w H : Int} (h0 : 0 ≤ row) (h1 : row < H) (hw : 0 ≤ w) : 0 ≤ row * w ∧ row * w + w ≤ w * H := by
  refine ⟨Int.mul_nonneg h0 hw, ?_⟩
  have h2 := Int.mul_le_mul_of_nonneg_right (show row + 1 ≤ H by omega) hw
  rw [Int.add_mul, Int.one_mul] at h2
  rw [Int.mul_comm w H]
  exact h2
/-- what Grid's methods do to its cells -/
def gfill (w H row a b v : Int) (f : Nat → Int) : Nat → Int := if 0 ≤ row ∧ row < H ∧ 0 ≤ a ∧ a < b ∧ b ≤ w then zfill f (row * w + a) (row * w + b) v else f
def gset (w H c row v : Int) (f : Nat → Int) : Nat → Int := if 0 ≤ c ∧ c < w ∧ 0 ≤ row ∧ row < H then va_up f (row * w + c).toNat v else f
def ggive (w H row k at_ M : Int) (f g : Nat → Int) : Nat → Int := if 0 ≤ row ∧ row < H ∧ 0 ≤ k ∧ k ≤ w ∧ 0 ≤ at_ ∧ at_ + k ≤ M then va_cpy f g (row * w).toNat at_.toNat k.toNat else g
def gmoveRow (w H a b : Int) (f : Nat → Int) : Nat → Int := if 0 ≤ a ∧ a < H ∧ 0 ≤ b ∧ b < H then va_cpy f f (a * w).toNat (b * w).toNat w.toNat else f
def gmoveCells (w H row a b k : Int) (f : Nat → Int) : Nat → Int := if 0 ≤ row ∧ row < H ∧ 0 ≤ a ∧ 0 ≤ b ∧ 0 ≤ k ∧ k ≤ w - max a b then va_cpy f f (row * w + a).toNat (row * w + b).toNat k.toNat else f
def gkeepF (w H c rows : Int) : Nat → Int → (Nat → Int) → Nat → Int
  | 0, _, f => f
  | j + 1, i, f => gkeepF w H c rows j (i + 1) (gfill w H i (if i < rows then c else 0) w 32 f)
def gkeep (w H c rows : Int) (f : Nat → Int) : Nat → Int := gkeepF w H c rows H.toNat 0 f
set_option maxHeartbeats 4000000 in
set_option maxRecDepth 100000 in
/-- nearest(v, lo, hi): of lo and (of hi and v the least) the greatest -/
theorem mX9_nearest {E : pw_E} (htr : E.1.stackTraces = false) {h : pz_H} {n : Nat} {v lo hi : Int} (h_v : -2147483648 ≤ v ∧ v < 2147483648) (h_lo : -2147483648 ≤ lo ∧ lo < 2147483648) (h_hi : -2147483648 ≤ hi ∧ hi < 2147483648) : pw_M E yX9_nearest YX9_nearest (rmD 1 0 0) [.int (zI v), .int (zI lo), .int (zI hi)] h n (fun r h' n' => r = some (.int (zI (max lo (min hi v)))) ∧ h' = h ∧ n' = n) (fun _ _ _ => False) := by
  refine pw_M_of (lv := [some (.int (zI (v))), some (.int (zI (lo))), some (.int (zI (hi)))]) (by decide) rfl rfl htr (nle rfl) rfl (fun L => ?_)
  refine pw_iload_n dX9_nearest_0 rfl ?_
  refine pw_iload_n dX9_nearest_1 rfl ?_
  refine pw_iload_n dX9_nearest_2 rfl ?_
  refine pw_min cwX9_241 dX9_nearest_3 (by omega) (by omega) ⟨nle rfl, nle rfl⟩ ⟨nle rfl, nle rfl⟩ ?_
  refine pw_max cwX9_247 dX9_nearest_6 (by omega) (by omega) ⟨nle rfl, nle rfl⟩ ⟨nle rfl, nle rfl⟩ ?_
  exact pw_iret dX9_nearest_9 rfl (nle rfl) (nle rfl) ⟨rfl, rfl, rfl⟩
set_option maxHeartbeats 4000000 in
set_option maxRecDepth 100000 in
/-- Arrays.rangeCheck(N, a, b) where it is fine -/
theorem mJ7_rangeCheck {E : pw_E} (htr : E.1.stackTraces = false) {h : pz_H} {n : Nat} {N a b : Int} (ha : 0 ≤ a ∧ a ≤ b) (hb : b ≤ N ∧ N < 2147483648) : pw_M E yJ7_rangeCheck_23922 YJ7_rangeCheck_23922 (rmD 0 0 0) [.int (zI N), .int (zI a), .int (zI b)] h n (fun r h' n' => r = none ∧ h' = h ∧ n' = n) (fun _ _ _ => False) := by
  refine pw_M_of (lv := [some (.int (zI (N))), some (.int (zI (a))), some (.int (zI (b)))]) (by decide) rfl rfl htr (nle rfl) rfl (fun L => ?_)
  refine pw_iload_n dJ7_rangeCheck_23922_0 rfl ?_
  refine pw_iload_n dJ7_rangeCheck_23922_1 rfl ?_
  refine pw_icmp_le (tgt := 46) dJ7_rangeCheck_23922_2 rfl (by omega) (by omega) (fun c2 => ?_) (fun c2 => ?_)
  ·
    refine pw_iload_n dJ7_rangeCheck_23922_46 rfl ?_
    refine pw_if_ge (tgt := 59) dJ7_rangeCheck_23922_47 rfl (by omega) (fun c47 => ?_) (fun c47 => ?_)
    ·
      refine pw_iload_n dJ7_rangeCheck_23922_59 rfl ?_
      refine pw_iload_n dJ7_rangeCheck_23922_60 rfl ?_
      refine pw_icmp_le (tgt := 73) dJ7_rangeCheck_23922_61 rfl (by omega) (by omega) (fun c61 => ?_) (fun c61 => ?_)
      ·
        exact pw_vret dJ7_rangeCheck_23922_73 rfl (nle rfl) (nle rfl) ⟨rfl, rfl, rfl⟩
      · exfalso; omega
    · exfalso; omega
  · exfalso; omega
set_option maxHeartbeats 4000000 in
set_option maxRecDepth 100000 in
theorem lJ7_fill {E : pw_E} {R : Room} {K : pw_K} {n ar N : Nat} {a b v : Int} (ha : 0 ≤ a) (hb : b ≤ N) (hN : N < 2147483648) : ∀ (j : Nat) (i : Int) (h : pz_H) (g : Nat → Int), (b - i).toNat = j → a ≤ i → i ≤ b → h ar = pz_z 0 N g → K.2.2.1 none (va_up h ar (pz_z 0 N (zfill g i b v))) n → pw E YJ7_fill_fda19 R K 0 0 10 [some (.ref ar), some (.int (zI (a))), some (.int (zI (b))), some (.int (zI (v))), some (.int (zI (i)))] [] h n := by
  intro j
  induction j with
  | zero =>
    intro i h g hj h1 h2 hg hQ
    refine pw_iload dJ7_fill_fda19_10 rfl ?_
    refine pw_iload_n dJ7_fill_fda19_12 rfl ?_
    refine pw_icmp_ge (tgt := 27) dJ7_fill_fda19_13 rfl (by omega) (by omega) (fun c13 => ?_) (fun c13 => ?_)
    ·
      exact pw_vret dJ7_fill_fda19_27 rfl (Nat.zero_le _) (Nat.zero_le _) (by rw [zfill_e (by omega), pz_up_id hg] at hQ; exact hQ)
    · exfalso; omega
  | succ j ih =>
    intro i h g hj h1 h2 hg hQ
    refine pw_iload dJ7_fill_fda19_10 rfl ?_
    refine pw_iload_n dJ7_fill_fda19_12 rfl ?_
    refine pw_icmp_ge (tgt := 27) dJ7_fill_fda19_13 rfl (by omega) (by omega) (fun c13 => ?_) (fun c13 => ?_)
    · exfalso; omega
    ·
      refine pw_aload_n dJ7_fill_fda19_16 rfl ?_
      refine pw_iload dJ7_fill_fda19_17 rfl ?_
      refine pw_iload_n dJ7_fill_fda19_19 rfl ?_
      refine pw_iast (t := 0) rfl hg (by omega) (by omega) dJ7_fill_fda19_20 ?_
      refine pw_ziinc (lv' := [some (.ref ar), some (.int (zI (a))), some (.int (zI (b))), some (.int (zI (v))), some (.int (zI (i + 1)))]) dJ7_fill_fda19_21 rfl (by decide) rfl rfl ?_
      refine pw_goto (tgt := 10) dJ7_fill_fda19_24 rfl ?_
      exact ih (i + 1) _ _ (by omega) (by omega) (by omega) (va_up_self _ _ _) (by rw [pz_up_up, zfill_s (by omega) (by omega)]; exact hQ)
set_option maxHeartbeats 4000000 in
set_option maxRecDepth 100000 in
/-- Arrays.fill(ar, a, b, v) where it is fine -/
theorem mJ7_fill4 {E : pw_E} (htr : E.1.stackTraces = false) {h : pz_H} {n : Nat} {ar N : Nat} {a b v : Int} {g : Nat → Int} (hg : h ar = pz_z 0 N g) (ha : 0 ≤ a ∧ a ≤ b) (hb : b ≤ N) (hN : N < 2147483648) : pw_M E yJ7_fill_fda19 YJ7_fill_fda19 (rmD 1 0 0) [.ref ar, .int (zI a), .int (zI b), .int (zI v)] h n (fun r h' n' => r = none ∧ h' = va_up h ar (pz_z 0 N (zfill g a b v)) ∧ n' = n) (fun _ _ _ => False) := by
  refine pw_M_of (lv := [some (.ref ar), some (.int (zI (a))), some (.int (zI (b))), some (.int (zI (v))), none]) (by decide) rfl rfl htr (nle rfl) rfl (fun L => ?_)
  refine pw_aload_n dJ7_fill_fda19_0 rfl ?_
  refine pw_alenI (t := 0) rfl hg dJ7_fill_fda19_1 ?_
  refine pw_iload_n dJ7_fill_fda19_2 rfl ?_
  refine pw_iload_n dJ7_fill_fda19_3 rfl ?_
  refine pw_callS (As := [.int (zI (N)), .int (zI (a)), .int (zI (b))]) (rm := rmD 0 0 0) (mJ7_rangeCheck htr (by omega) (by omega)) rfl ywJ7_rangeCheck_23922 rfl cwJ7_13 ⟨nle rfl, nle rfl⟩ (nle rfl) ⟨nle rfl, nle rfl⟩ dJ7_fill_fda19_4 ?_ (fun _ _ _ z => z.elim)
  intro r2 h2 n2 hq _
  rw [hq.1, hq.2.1, hq.2.2]
  show pw E YJ7_fill_fda19 _ _ 0 0 7 [some (.ref ar), some (.int (zI (a))), some (.int (zI (b))), some (.int (zI (v))), none] [] h n
  refine pw_iload_n dJ7_fill_fda19_7 rfl ?_
  refine pw_istore (lv' := [some (.ref ar), some (.int (zI (a))), some (.int (zI (b))), some (.int (zI (v))), some (.int (zI (a)))]) dJ7_fill_fda19_8 (by decide) rfl rfl ?_
  exact lJ7_fill (by omega) (by omega) hN _ _ _ _ rfl (by omega) (by omega) hg ⟨rfl, rfl, rfl⟩
set_option maxHeartbeats 4000000 in
set_option maxRecDepth 100000 in
theorem lJ7_fill2 {E : pw_E} {R : Room} {K : pw_K} {n ar N : Nat} {v : Int} (hN : N < 2147483648) : ∀ (j : Nat) (i : Int) (h : pz_H) (g : Nat → Int), ((N : Int) - i).toNat = j → 0 ≤ i → i ≤ N → h ar = pz_z 0 N g → K.2.2.1 none (va_up h ar (pz_z 0 N (zfill g i N v))) n → pw E YJ7_fill_53178 R K 0 0 5 [some (.ref ar), some (.int (zI (v))), some (.int (zI (i))), some (.int (zI (N)))] [] h n := by
  intro j
  induction j with
  | zero =>
    intro i h g hj h1 h2 hg hQ
    refine pw_iload_n dJ7_fill_53178_5 rfl ?_
    refine pw_iload_n dJ7_fill_53178_6 rfl ?_
    refine pw_icmp_ge (tgt := 20) dJ7_fill_53178_7 rfl (by omega) (by omega) (fun c7 => ?_) (fun c7 => ?_)
    ·
      exact pw_vret dJ7_fill_53178_20 rfl (Nat.zero_le _) (Nat.zero_le _) (by rw [zfill_e (by omega), pz_up_id hg] at hQ; exact hQ)
    · exfalso; omega
  | succ j ih =>
    intro i h g hj h1 h2 hg hQ
    refine pw_iload_n dJ7_fill_53178_5 rfl ?_
    refine pw_iload_n dJ7_fill_53178_6 rfl ?_
    refine pw_icmp_ge (tgt := 20) dJ7_fill_53178_7 rfl (by omega) (by omega) (fun c7 => ?_) (fun c7 => ?_)
    · exfalso; omega
    ·
      refine pw_aload_n dJ7_fill_53178_10 rfl ?_
      refine pw_iload_n dJ7_fill_53178_11 rfl ?_
      refine pw_iload_n dJ7_fill_53178_12 rfl ?_
      refine pw_iast (t := 0) rfl hg (by omega) (by omega) dJ7_fill_53178_13 ?_
      refine pw_ziinc (lv' := [some (.ref ar), some (.int (zI (v))), some (.int (zI (i + 1))), some (.int (zI (N)))]) dJ7_fill_53178_14 rfl (by decide) rfl rfl ?_
      refine pw_goto (tgt := 5) dJ7_fill_53178_17 rfl ?_
      exact ih (i + 1) _ _ (by omega) (by omega) (by omega) (va_up_self _ _ _) (by rw [pz_up_up, zfill_s (by omega) (by omega)]; exact hQ)
set_option maxHeartbeats 4000000 in
set_option maxRecDepth 100000 in
/-- Arrays.fill(ar, v) -/
theorem mJ7_fill2 {E : pw_E} (htr : E.1.stackTraces = false) {h : pz_H} {n : Nat} {ar N : Nat} {v : Int} {g : Nat → Int} (hg : h ar = pz_z 0 N g) (hN : N < 2147483648) : pw_M E yJ7_fill_53178 YJ7_fill_53178 (rmD 0 0 0) [.ref ar, .int (zI v)] h n (fun r h' n' => r = none ∧ h' = va_up h ar (pz_z 0 N (zfill g 0 N v)) ∧ n' = n) (fun _ _ _ => False) := by
  refine pw_M_of (lv := [some (.ref ar), some (.int (zI (v))), none, none]) (by decide) rfl rfl htr (nle rfl) rfl (fun L => ?_)
  refine pw_iconst (v := zI (0)) dJ7_fill_53178_0 (by decide) ?_
  refine pw_istore_n (lv' := [some (.ref ar), some (.int (zI (v))), some (.int (zI (0))), none]) dJ7_fill_53178_1 (by decide) rfl rfl ?_
  refine pw_aload_n dJ7_fill_53178_2 rfl ?_
  refine pw_alenI (t := 0) rfl hg dJ7_fill_53178_3 ?_
  refine pw_istore_n (lv' := [some (.ref ar), some (.int (zI (v))), some (.int (zI (0))), some (.int (zI (N)))]) dJ7_fill_53178_4 (by decide) rfl rfl ?_
  exact lJ7_fill2 hN _ _ _ _ rfl (by omega) (by omega) hg ⟨rfl, rfl, rfl⟩
set_option maxHeartbeats 4000000 in
set_option maxRecDepth 100000 in
/-- Grid.fill(row, a, b, v) -/
theorem mX0_fill {E : pw_E} (htr : E.1.stackTraces = false) {h : pz_H} {n : Nat} {g ca N : Nat} {w H : Int} {f : Nat → Int} (hg : h g = pz_o 3 [.int (zI w), .int (zI H), .ref ca]) (hc : h ca = pz_z 0 N f) (hne : g ≠ ca) (hw : 0 ≤ w ∧ w ≤ 40) (hH : 0 ≤ H ∧ H ≤ 16) (hN : (N : Int) = w * H) (hN2 : N ≤ 640) {row a b v : Int} (h_row : -2147483648 ≤ row ∧ row < 2147483648) (h_a : -2147483648 ≤ a ∧ a < 2147483648) (h_b : -2147483648 ≤ b ∧ b < 2147483648) (h_v : -2147483648 ≤ v ∧ v < 2147483648)  : pw_M E yX0_fill YX0_fill (rmD 2 0 0) [.ref g, .int (zI (row)), .int (zI (a)), .int (zI (b)), .int (zI (v))] h n (fun r h' n' => r = none ∧ h' = va_up h ca (pz_z 0 N (gfill w H row a b v f)) ∧ n' = n) (fun _ _ _ => False) := by
  refine pw_M_of (lv := [some (.ref g), some (.int (zI (row))), some (.int (zI (a))), some (.int (zI (b))), some (.int (zI (v)))]) (by decide) rfl rfl htr (nle rfl) rfl (fun L => ?_)
  refine pw_iload_n dX0_fill_0 rfl ?_
  refine pw_if_lt (tgt := 54) dX0_fill_1 rfl (by omega) (fun c1 => ?_) (fun c1 => ?_)
  ·
    exact pw_vret dX0_fill_54 rfl (nle rfl) (nle rfl) ⟨rfl, by unfold gfill; rw [if_neg (by omega), pz_up_id hc], rfl⟩
  ·
    refine pw_iload_n dX0_fill_4 rfl ?_
    refine pw_aload_n dX0_fill_5 rfl ?_
    refine pw_get (v := .int (zI (H))) okX0 (k := 1) (by decide) lkX0_15 hg rfl dX0_fill_6 ?_
    refine pw_icmp_ge (tgt := 54) dX0_fill_9 rfl (by omega) (by omega) (fun c9 => ?_) (fun c9 => ?_)
    ·
      exact pw_vret dX0_fill_54 rfl (nle rfl) (nle rfl) ⟨rfl, by unfold gfill; rw [if_neg (by omega), pz_up_id hc], rfl⟩
    ·
      refine pw_iload_n dX0_fill_12 rfl ?_
      refine pw_if_lt (tgt := 54) dX0_fill_13 rfl (by omega) (fun c13 => ?_) (fun c13 => ?_)
      ·
        exact pw_vret dX0_fill_54 rfl (nle rfl) (nle rfl) ⟨rfl, by unfold gfill; rw [if_neg (by omega), pz_up_id hc], rfl⟩
      ·
        refine pw_iload_n dX0_fill_16 rfl ?_
        refine pw_iload_n dX0_fill_17 rfl ?_
        refine pw_icmp_ge (tgt := 54) dX0_fill_18 rfl (by omega) (by omega) (fun c18 => ?_) (fun c18 => ?_)
        ·
          exact pw_vret dX0_fill_54 rfl (nle rfl) (nle rfl) ⟨rfl, by unfold gfill; rw [if_neg (by omega), pz_up_id hc], rfl⟩
        ·
          refine pw_iload_n dX0_fill_21 rfl ?_
          refine pw_aload_n dX0_fill_22 rfl ?_
          refine pw_get (v := .int (zI (w))) okX0 (k := 0) (by decide) lkX0_9 hg rfl dX0_fill_23 ?_
          refine pw_icmp_gt (tgt := 54) dX0_fill_26 rfl (by omega) (by omega) (fun c26 => ?_) (fun c26 => ?_)
          ·
            exact pw_vret dX0_fill_54 rfl (nle rfl) (nle rfl) ⟨rfl, by unfold gfill; rw [if_neg (by omega), pz_up_id hc], rfl⟩
          ·
            have hzrow := zrow (row := row) (w := w) (H := H) (by omega) (by omega) hw.1
            refine pw_aload_n dX0_fill_29 rfl ?_
            refine pw_get (v := .ref ca) okX0 (k := 2) (by decide) lkX0_18 hg rfl dX0_fill_30 ?_
            refine pw_iload_n dX0_fill_33 rfl ?_
            refine pw_aload_n dX0_fill_34 rfl ?_
            refine pw_get (v := .int (zI (w))) okX0 (k := 0) (by decide) lkX0_9 hg rfl dX0_fill_35 ?_
            refine pw_zimul dX0_fill_38 ?_
            refine pw_iload_n dX0_fill_39 rfl ?_
            refine pw_ziadd dX0_fill_40 ?_
            refine pw_iload_n dX0_fill_41 rfl ?_
            refine pw_aload_n dX0_fill_42 rfl ?_
            refine pw_get (v := .int (zI (w))) okX0 (k := 0) (by decide) lkX0_9 hg rfl dX0_fill_43 ?_
            refine pw_zimul dX0_fill_46 ?_
            refine pw_iload_n dX0_fill_47 rfl ?_
            refine pw_ziadd dX0_fill_48 ?_
            refine pw_iload dX0_fill_49 rfl ?_
            refine pw_callS (As := [.ref ca, .int (zI ((row * w) + (a))), .int (zI ((row * w) + (b))), .int (zI (v))]) (rm := rmD 1 0 0) (mJ7_fill4 htr hc (by omega) (by omega) (by omega)) rfl ywJ7_fill_fda19 rfl cwX0_26 ⟨nle rfl, nle rfl⟩ (nle rfl) ⟨nle rfl, nle rfl⟩ dX0_fill_51 ?_ (fun _ _ _ z => z.elim)
            intro r2 h2 n2 hq _
            rw [hq.1, hq.2.1, hq.2.2]
            show pw E YX0_fill _ _ 0 0 54 [some (.ref g), some (.int (zI (row))), some (.int (zI (a))), some (.int (zI (b))), some (.int (zI (v)))] [] (va_up h ca (pz_z 0 N (zfill f (row * w + a) (row * w + b) v))) n
            exact pw_vret dX0_fill_54 rfl (nle rfl) (nle rfl) ⟨rfl, by unfold gfill; rw [if_pos (by omega)], rfl⟩
set_option maxHeartbeats 4000000 in
set_option maxRecDepth 100000 in
/-- Grid.set(c, row, v) -/
theorem mX0_set {E : pw_E} (htr : E.1.stackTraces = false) {h : pz_H} {n : Nat} {g ca N : Nat} {w H : Int} {f : Nat → Int} (hg : h g = pz_o 3 [.int (zI w), .int (zI H), .ref ca]) (hc : h ca = pz_z 0 N f) (hne : g ≠ ca) (hw : 0 ≤ w ∧ w ≤ 40) (hH : 0 ≤ H ∧ H ≤ 16) (hN : (N : Int) = w * H) (hN2 : N ≤ 640) {c row v : Int} (h_c : -2147483648 ≤ c ∧ c < 2147483648) (h_row : -2147483648 ≤ row ∧ row < 2147483648) (h_v : -2147483648 ≤ v ∧ v < 2147483648)  : pw_M E yX0_set YX0_set (rmD 0 0 0) [.ref g, .int (zI (c)), .int (zI (row)), .int (zI (v))] h n (fun r h' n' => r = none ∧ h' = va_up h ca (pz_z 0 N (gset w H c row v f)) ∧ n' = n) (fun _ _ _ => False) := by
  refine pw_M_of (lv := [some (.ref g), some (.int (zI (c))), some (.int (zI (row))), some (.int (zI (v)))]) (by decide) rfl rfl htr (nle rfl) rfl (fun L => ?_)
  refine pw_iload_n dX0_set_0 rfl ?_
  refine pw_if_lt (tgt := 38) dX0_set_1 rfl (by omega) (fun c1 => ?_) (fun c1 => ?_)
  ·
    exact pw_vret dX0_set_38 rfl (nle rfl) (nle rfl) ⟨rfl, by unfold gset; rw [if_neg (by omega), pz_up_id hc], rfl⟩
  ·
    refine pw_iload_n dX0_set_4 rfl ?_
    refine pw_aload_n dX0_set_5 rfl ?_
    refine pw_get (v := .int (zI (w))) okX0 (k := 0) (by decide) lkX0_9 hg rfl dX0_set_6 ?_
    refine pw_icmp_ge (tgt := 38) dX0_set_9 rfl (by omega) (by omega) (fun c9 => ?_) (fun c9 => ?_)
    ·
      exact pw_vret dX0_set_38 rfl (nle rfl) (nle rfl) ⟨rfl, by unfold gset; rw [if_neg (by omega), pz_up_id hc], rfl⟩
    ·
      refine pw_iload_n dX0_set_12 rfl ?_
      refine pw_if_lt (tgt := 38) dX0_set_13 rfl (by omega) (fun c13 => ?_) (fun c13 => ?_)
      ·
        exact pw_vret dX0_set_38 rfl (nle rfl) (nle rfl) ⟨rfl, by unfold gset; rw [if_neg (by omega), pz_up_id hc], rfl⟩
      ·
        refine pw_iload_n dX0_set_16 rfl ?_
        refine pw_aload_n dX0_set_17 rfl ?_
        refine pw_get (v := .int (zI (H))) okX0 (k := 1) (by decide) lkX0_15 hg rfl dX0_set_18 ?_
        refine pw_icmp_ge (tgt := 38) dX0_set_21 rfl (by omega) (by omega) (fun c21 => ?_) (fun c21 => ?_)
        ·
          exact pw_vret dX0_set_38 rfl (nle rfl) (nle rfl) ⟨rfl, by unfold gset; rw [if_neg (by omega), pz_up_id hc], rfl⟩
        ·
          have hzrow := zrow (row := row) (w := w) (H := H) (by omega) (by omega) hw.1
          refine pw_aload_n dX0_set_24 rfl ?_
          refine pw_get (v := .ref ca) okX0 (k := 2) (by decide) lkX0_18 hg rfl dX0_set_25 ?_
          refine pw_iload_n dX0_set_28 rfl ?_
          refine pw_aload_n dX0_set_29 rfl ?_
          refine pw_get (v := .int (zI (w))) okX0 (k := 0) (by decide) lkX0_9 hg rfl dX0_set_30 ?_
          refine pw_zimul dX0_set_33 ?_
          refine pw_iload_n dX0_set_34 rfl ?_
          refine pw_ziadd dX0_set_35 ?_
          refine pw_iload_n dX0_set_36 rfl ?_
          refine pw_iast (t := 0) rfl hc (by omega) (by omega) dX0_set_37 ?_
          exact pw_vret dX0_set_38 rfl (nle rfl) (nle rfl) ⟨rfl, by unfold gset; rw [if_pos (by omega)], rfl⟩
set_option maxHeartbeats 4000000 in
set_option maxRecDepth 100000 in
/-- Grid.give(row, k, target, at) -/
theorem mX0_give {E : pw_E} (htr : E.1.stackTraces = false) {h : pz_H} {n : Nat} {g ca N : Nat} {w H : Int} {f : Nat → Int} (hg : h g = pz_o 3 [.int (zI w), .int (zI H), .ref ca]) (hc : h ca = pz_z 0 N f) (hne : g ≠ ca) (hw : 0 ≤ w ∧ w ≤ 40) (hH : 0 ≤ H ∧ H ≤ 16) (hN : (N : Int) = w * H) (hN2 : N ≤ 640) {row k at_ : Int} (h_row : -2147483648 ≤ row ∧ row < 2147483648) (h_k : -2147483648 ≤ k ∧ k < 2147483648) (h_at_ : -2147483648 ≤ at_ ∧ at_ < 2147483648) {ta M : Nat} {q : Nat → Int} (ht : h ta = pz_z 0 M q) (hM : M ≤ 100000) (hat : at_ ≤ 100000) : pw_M E yX0_give YX0_give (rmD 1 0 0) [.ref g, .int (zI (row)), .int (zI (k)), .ref ta, .int (zI (at_))] h n (fun r h' n' => r = none ∧ h' = va_up h ta (pz_z 0 M (ggive w H row k at_ M f q)) ∧ n' = n) (fun _ _ _ => False) := by
  refine pw_M_of (lv := [some (.ref g), some (.int (zI (row))), some (.int (zI (k))), some (.ref ta), some (.int (zI (at_)))]) (by decide) rfl rfl htr (nle rfl) rfl (fun L => ?_)
  refine pw_iload_n dX0_give_0 rfl ?_
  refine pw_if_lt (tgt := 55) dX0_give_1 rfl (by omega) (fun c1 => ?_) (fun c1 => ?_)
  ·
    exact pw_vret dX0_give_55 rfl (nle rfl) (nle rfl) ⟨rfl, by unfold ggive; rw [if_neg (by omega), pz_up_id ht], rfl⟩
  ·
    refine pw_iload_n dX0_give_4 rfl ?_
    refine pw_aload_n dX0_give_5 rfl ?_
    refine pw_get (v := .int (zI (H))) okX0 (k := 1) (by decide) lkX0_15 hg rfl dX0_give_6 ?_
    refine pw_icmp_ge (tgt := 55) dX0_give_9 rfl (by omega) (by omega) (fun c9 => ?_) (fun c9 => ?_)
    ·
      exact pw_vret dX0_give_55 rfl (nle rfl) (nle rfl) ⟨rfl, by unfold ggive; rw [if_neg (by omega), pz_up_id ht], rfl⟩
    ·
      refine pw_iload_n dX0_give_12 rfl ?_
      refine pw_if_lt (tgt := 55) dX0_give_13 rfl (by omega) (fun c13 => ?_) (fun c13 => ?_)
      ·
        exact pw_vret dX0_give_55 rfl (nle rfl) (nle rfl) ⟨rfl, by unfold ggive; rw [if_neg (by omega), pz_up_id ht], rfl⟩
      ·
        refine pw_iload_n dX0_give_16 rfl ?_
        refine pw_aload_n dX0_give_17 rfl ?_
        refine pw_get (v := .int (zI (w))) okX0 (k := 0) (by decide) lkX0_9 hg rfl dX0_give_18 ?_
        refine pw_icmp_gt (tgt := 55) dX0_give_21 rfl (by omega) (by omega) (fun c21 => ?_) (fun c21 => ?_)
        ·
          exact pw_vret dX0_give_55 rfl (nle rfl) (nle rfl) ⟨rfl, by unfold ggive; rw [if_neg (by omega), pz_up_id ht], rfl⟩
        ·
          refine pw_iload dX0_give_24 rfl ?_
          refine pw_if_lt (tgt := 55) dX0_give_26 rfl (by omega) (fun c26 => ?_) (fun c26 => ?_)
          ·
            exact pw_vret dX0_give_55 rfl (nle rfl) (nle rfl) ⟨rfl, by unfold ggive; rw [if_neg (by omega), pz_up_id ht], rfl⟩
          ·
            refine pw_iload dX0_give_29 rfl ?_
            refine pw_iload_n dX0_give_31 rfl ?_
            refine pw_ziadd dX0_give_32 ?_
            refine pw_aload_n dX0_give_33 rfl ?_
            refine pw_alenI (t := 0) rfl ht dX0_give_34 ?_
            refine pw_icmp_gt (tgt := 55) dX0_give_35 rfl (by omega) (by omega) (fun c35 => ?_) (fun c35 => ?_)
            ·
              exact pw_vret dX0_give_55 rfl (nle rfl) (nle rfl) ⟨rfl, by unfold ggive; rw [if_neg (by omega), pz_up_id ht], rfl⟩
            ·
              have hzrow := zrow (row := row) (w := w) (H := H) (by omega) (by omega) hw.1
              refine pw_aload_n dX0_give_38 rfl ?_
              refine pw_get (v := .ref ca) okX0 (k := 2) (by decide) lkX0_18 hg rfl dX0_give_39 ?_
              refine pw_iload_n dX0_give_42 rfl ?_
              refine pw_aload_n dX0_give_43 rfl ?_
              refine pw_get (v := .int (zI (w))) okX0 (k := 0) (by decide) lkX0_9 hg rfl dX0_give_44 ?_
              refine pw_zimul dX0_give_47 ?_
              refine pw_aload_n dX0_give_48 rfl ?_
              refine pw_iload dX0_give_49 rfl ?_
              refine pw_iload_n dX0_give_51 rfl ?_
              refine pw_copyi cwX0_31 hc ht (by omega) (by omega) (by omega) (by omega) (by omega) ⟨nle rfl, nle rfl⟩ dX0_give_52 ?_
              exact pw_vret dX0_give_55 rfl (nle rfl) (nle rfl) ⟨rfl, by unfold ggive; rw [if_pos (by omega)], rfl⟩
set_option maxHeartbeats 4000000 in
set_option maxRecDepth 100000 in
/-- Grid.moveRow(a, b) -/
theorem mX0_moveRow {E : pw_E} (htr : E.1.stackTraces = false) {h : pz_H} {n : Nat} {g ca N : Nat} {w H : Int} {f : Nat → Int} (hg : h g = pz_o 3 [.int (zI w), .int (zI H), .ref ca]) (hc : h ca = pz_z 0 N f) (hne : g ≠ ca) (hw : 0 ≤ w ∧ w ≤ 40) (hH : 0 ≤ H ∧ H ≤ 16) (hN : (N : Int) = w * H) (hN2 : N ≤ 640) {a b : Int} (h_a : -2147483648 ≤ a ∧ a < 2147483648) (h_b : -2147483648 ≤ b ∧ b < 2147483648)  : pw_M E yX0_moveRow YX0_moveRow (rmD 1 0 0) [.ref g, .int (zI (a)), .int (zI (b))] h n (fun r h' n' => r = none ∧ h' = va_up h ca (pz_z 0 N (gmoveRow w H a b f)) ∧ n' = n) (fun _ _ _ => False) := by
  refine pw_M_of (lv := [some (.ref g), some (.int (zI (a))), some (.int (zI (b)))]) (by decide) rfl rfl htr (nle rfl) rfl (fun L => ?_)
  refine pw_iload_n dX0_moveRow_0 rfl ?_
  refine pw_if_lt (tgt := 51) dX0_moveRow_1 rfl (by omega) (fun c1 => ?_) (fun c1 => ?_)
  ·
    exact pw_vret dX0_moveRow_51 rfl (nle rfl) (nle rfl) ⟨rfl, by unfold gmoveRow; rw [if_neg (by omega), pz_up_id hc], rfl⟩
  ·
    refine pw_iload_n dX0_moveRow_4 rfl ?_
    refine pw_aload_n dX0_moveRow_5 rfl ?_
    refine pw_get (v := .int (zI (H))) okX0 (k := 1) (by decide) lkX0_15 hg rfl dX0_moveRow_6 ?_
    refine pw_icmp_ge (tgt := 51) dX0_moveRow_9 rfl (by omega) (by omega) (fun c9 => ?_) (fun c9 => ?_)
    ·
      exact pw_vret dX0_moveRow_51 rfl (nle rfl) (nle rfl) ⟨rfl, by unfold gmoveRow; rw [if_neg (by omega), pz_up_id hc], rfl⟩
    ·
      refine pw_iload_n dX0_moveRow_12 rfl ?_
      refine pw_if_lt (tgt := 51) dX0_moveRow_13 rfl (by omega) (fun c13 => ?_) (fun c13 => ?_)
      ·
        exact pw_vret dX0_moveRow_51 rfl (nle rfl) (nle rfl) ⟨rfl, by unfold gmoveRow; rw [if_neg (by omega), pz_up_id hc], rfl⟩
      ·
        refine pw_iload_n dX0_moveRow_16 rfl ?_
        refine pw_aload_n dX0_moveRow_17 rfl ?_
        refine pw_get (v := .int (zI (H))) okX0 (k := 1) (by decide) lkX0_15 hg rfl dX0_moveRow_18 ?_
        refine pw_icmp_ge (tgt := 51) dX0_moveRow_21 rfl (by omega) (by omega) (fun c21 => ?_) (fun c21 => ?_)
        ·
          exact pw_vret dX0_moveRow_51 rfl (nle rfl) (nle rfl) ⟨rfl, by unfold gmoveRow; rw [if_neg (by omega), pz_up_id hc], rfl⟩
        ·
          have hza := zrow (row := a) (w := w) (H := H) (by omega) (by omega) hw.1
          have hzb := zrow (row := b) (w := w) (H := H) (by omega) (by omega) hw.1
          refine pw_aload_n dX0_moveRow_24 rfl ?_
          refine pw_get (v := .ref ca) okX0 (k := 2) (by decide) lkX0_18 hg rfl dX0_moveRow_25 ?_
          refine pw_iload_n dX0_moveRow_28 rfl ?_
          refine pw_aload_n dX0_moveRow_29 rfl ?_
          refine pw_get (v := .int (zI (w))) okX0 (k := 0) (by decide) lkX0_9 hg rfl dX0_moveRow_30 ?_
          refine pw_zimul dX0_moveRow_33 ?_
          refine pw_aload_n dX0_moveRow_34 rfl ?_
          refine pw_get (v := .ref ca) okX0 (k := 2) (by decide) lkX0_18 hg rfl dX0_moveRow_35 ?_
          refine pw_iload_n dX0_moveRow_38 rfl ?_
          refine pw_aload_n dX0_moveRow_39 rfl ?_
          refine pw_get (v := .int (zI (w))) okX0 (k := 0) (by decide) lkX0_9 hg rfl dX0_moveRow_40 ?_
          refine pw_zimul dX0_moveRow_43 ?_
          refine pw_aload_n dX0_moveRow_44 rfl ?_
          refine pw_get (v := .int (zI (w))) okX0 (k := 0) (by decide) lkX0_9 hg rfl dX0_moveRow_45 ?_
          refine pw_copyi cwX0_31 hc hc (by omega) (by omega) (by omega) (by omega) (by omega) ⟨nle rfl, nle rfl⟩ dX0_moveRow_48 ?_
          exact pw_vret dX0_moveRow_51 rfl (nle rfl) (nle rfl) ⟨rfl, by unfold gmoveRow; rw [if_pos (by omega)], rfl⟩
set_option maxHeartbeats 4000000 in
set_option maxRecDepth 100000 in
/-- Grid.moveCells(row, a, b, k) -/
theorem mX0_moveCells {E : pw_E} (htr : E.1.stackTraces = false) {h : pz_H} {n : Nat} {g ca N : Nat} {w H : Int} {f : Nat → Int} (hg : h g = pz_o 3 [.int (zI w), .int (zI H), .ref ca]) (hc : h ca = pz_z 0 N f) (hne : g ≠ ca) (hw : 0 ≤ w ∧ w ≤ 40) (hH : 0 ≤ H ∧ H ≤ 16) (hN : (N : Int) = w * H) (hN2 : N ≤ 640) {row a b k : Int} (h_row : -2147483648 ≤ row ∧ row < 2147483648) (h_a : -2147483648 ≤ a ∧ a < 2147483648) (h_b : -2147483648 ≤ b ∧ b < 2147483648) (h_k : -2147483648 ≤ k ∧ k < 2147483648)  : pw_M E yX0_moveCells YX0_moveCells (rmD 1 0 0) [.ref g, .int (zI (row)), .int (zI (a)), .int (zI (b)), .int (zI (k))] h n (fun r h' n' => r = none ∧ h' = va_up h ca (pz_z 0 N (gmoveCells w H row a b k f)) ∧ n' = n) (fun _ _ _ => False) := by
  refine pw_M_of (lv := [some (.ref g), some (.int (zI (row))), some (.int (zI (a))), some (.int (zI (b))), some (.int (zI (k))), none]) (by decide) rfl rfl htr (nle rfl) rfl (fun L => ?_)
  refine pw_aload_n dX0_moveCells_0 rfl ?_
  refine pw_get (v := .int (zI (w))) okX0 (k := 0) (by decide) lkX0_9 hg rfl dX0_moveCells_1 ?_
  refine pw_iload_n dX0_moveCells_4 rfl ?_
  refine pw_iload_n dX0_moveCells_5 rfl ?_
  refine pw_max cwX0_37 dX0_moveCells_6 (by omega) (by omega) ⟨nle rfl, nle rfl⟩ ⟨nle rfl, nle rfl⟩ ?_
  refine pw_zisub dX0_moveCells_9 ?_
  refine pw_istore (lv' := [some (.ref g), some (.int (zI (row))), some (.int (zI (a))), some (.int (zI (b))), some (.int (zI (k))), some (.int (zI ((w) - (max (a) (b)))))]) dX0_moveCells_10 (by decide) rfl rfl ?_
  refine pw_iload_n dX0_moveCells_12 rfl ?_
  refine pw_if_lt (tgt := 73) dX0_moveCells_13 rfl (by omega) (fun c13 => ?_) (fun c13 => ?_)
  ·
    exact pw_vret dX0_moveCells_73 rfl (nle rfl) (nle rfl) ⟨rfl, by unfold gmoveCells; rw [if_neg (by omega), pz_up_id hc], rfl⟩
  ·
    refine pw_iload_n dX0_moveCells_16 rfl ?_
    refine pw_aload_n dX0_moveCells_17 rfl ?_
    refine pw_get (v := .int (zI (H))) okX0 (k := 1) (by decide) lkX0_15 hg rfl dX0_moveCells_18 ?_
    refine pw_icmp_ge (tgt := 73) dX0_moveCells_21 rfl (by omega) (by omega) (fun c21 => ?_) (fun c21 => ?_)
    ·
      exact pw_vret dX0_moveCells_73 rfl (nle rfl) (nle rfl) ⟨rfl, by unfold gmoveCells; rw [if_neg (by omega), pz_up_id hc], rfl⟩
    ·
      refine pw_iload_n dX0_moveCells_24 rfl ?_
      refine pw_if_lt (tgt := 73) dX0_moveCells_25 rfl (by omega) (fun c25 => ?_) (fun c25 => ?_)
      ·
        exact pw_vret dX0_moveCells_73 rfl (nle rfl) (nle rfl) ⟨rfl, by unfold gmoveCells; rw [if_neg (by omega), pz_up_id hc], rfl⟩
      ·
        refine pw_iload_n dX0_moveCells_28 rfl ?_
        refine pw_if_lt (tgt := 73) dX0_moveCells_29 rfl (by omega) (fun c29 => ?_) (fun c29 => ?_)
        ·
          exact pw_vret dX0_moveCells_73 rfl (nle rfl) (nle rfl) ⟨rfl, by unfold gmoveCells; rw [if_neg (by omega), pz_up_id hc], rfl⟩
        ·
          refine pw_iload dX0_moveCells_32 rfl ?_
          refine pw_if_lt (tgt := 73) dX0_moveCells_34 rfl (by omega) (fun c34 => ?_) (fun c34 => ?_)
          ·
            exact pw_vret dX0_moveCells_73 rfl (nle rfl) (nle rfl) ⟨rfl, by unfold gmoveCells; rw [if_neg (by omega), pz_up_id hc], rfl⟩
          ·
            refine pw_iload dX0_moveCells_37 rfl ?_
            refine pw_iload dX0_moveCells_39 rfl ?_
            refine pw_icmp_gt (tgt := 73) dX0_moveCells_41 rfl (by omega) (by omega) (fun c41 => ?_) (fun c41 => ?_)
            ·
              exact pw_vret dX0_moveCells_73 rfl (nle rfl) (nle rfl) ⟨rfl, by unfold gmoveCells; rw [if_neg (by omega), pz_up_id hc], rfl⟩
            ·
              have hzrow := zrow (row := row) (w := w) (H := H) (by omega) (by omega) hw.1
              refine pw_aload_n dX0_moveCells_44 rfl ?_
              refine pw_get (v := .ref ca) okX0 (k := 2) (by decide) lkX0_18 hg rfl dX0_moveCells_45 ?_
              refine pw_iload_n dX0_moveCells_48 rfl ?_
              refine pw_aload_n dX0_moveCells_49 rfl ?_
              refine pw_get (v := .int (zI (w))) okX0 (k := 0) (by decide) lkX0_9 hg rfl dX0_moveCells_50 ?_
              refine pw_zimul dX0_moveCells_53 ?_
              refine pw_iload_n dX0_moveCells_54 rfl ?_
              refine pw_ziadd dX0_moveCells_55 ?_
              refine pw_aload_n dX0_moveCells_56 rfl ?_
              refine pw_get (v := .ref ca) okX0 (k := 2) (by decide) lkX0_18 hg rfl dX0_moveCells_57 ?_
              refine pw_iload_n dX0_moveCells_60 rfl ?_
              refine pw_aload_n dX0_moveCells_61 rfl ?_
              refine pw_get (v := .int (zI (w))) okX0 (k := 0) (by decide) lkX0_9 hg rfl dX0_moveCells_62 ?_
              refine pw_zimul dX0_moveCells_65 ?_
              refine pw_iload_n dX0_moveCells_66 rfl ?_
              refine pw_ziadd dX0_moveCells_67 ?_
              refine pw_iload dX0_moveCells_68 rfl ?_
              refine pw_copyi cwX0_31 hc hc (by omega) (by omega) (by omega) (by omega) (by omega) ⟨nle rfl, nle rfl⟩ dX0_moveCells_70 ?_
              exact pw_vret dX0_moveCells_73 rfl (nle rfl) (nle rfl) ⟨rfl, by unfold gmoveCells; rw [if_pos (by omega)], rfl⟩
