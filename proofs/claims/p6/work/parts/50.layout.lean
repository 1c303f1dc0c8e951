theorem lkX5_17 : Cond.fieldLink RX5 17 (TX5 2).1 (TX5 2).2.1 (TX5 2).2.2.1 ∈ pw_G := pw_in 331 (by decide +kernel) (by decide +kernel)
theorem lkX5_13 : Cond.fieldLink RX5 13 (TX5 3).1 (TX5 3).2.1 (TX5 3).2.2.1 ∈ pw_G := pw_in 334 (by decide +kernel) (by decide +kernel)
def YX5_length : pw_Y := (RX5, "length", cX5_length, 2, (some .int))
theorem ywX5_length : pw_y yX5_length YX5_length 1 := ⟨by decide +kernel, by decide +kernel, by decide +kernel, pw_in 1133 (by decide +kernel) (by decide +kernel), pw_in 88 (by decide +kernel) (by decide +kernel)⟩
theorem lkX5_20 : Cond.fieldLink RX5 20 (TX5 5).1 (TX5 5).2.1 (TX5 5).2.2.1 ∈ pw_G := pw_in 338 (by decide +kernel) (by decide +kernel)
theorem lkX5_23 : Cond.fieldLink RX5 23 (TX5 6).1 (TX5 6).2.1 (TX5 6).2.2.1 ∈ pw_G := pw_in 340 (by decide +kernel) (by decide +kernel)
def YX5_isSplit : pw_Y := (RX5, "isSplit", cX5_isSplit, 1, (some .boolean))
theorem ywX5_isSplit : pw_y yX5_isSplit YX5_isSplit 0 := ⟨by decide +kernel, by decide +kernel, by decide +kernel, pw_in 834 (by decide +kernel) (by decide +kernel), pw_in 88 (by decide +kernel) (by decide +kernel)⟩
theorem lkX2_11 : Cond.fieldLink RX2 11 (TX2 0).1 (TX2 0).2.1 (TX2 0).2.2.1 ∈ pw_G := pw_in 361 (by decide +kernel) (by decide +kernel)
def YX2_has : pw_Y := (RX2, "has", cX2_has, 2, (some .boolean))
theorem ywX2_has : pw_y yX2_has YX2_has 1 := ⟨by decide +kernel, by decide +kernel, by decide +kernel, pw_in 932 (by decide +kernel) (by decide +kernel), pw_in 87 (by decide +kernel) (by decide +kernel)⟩
theorem cwX2_31 : Cond.methodLink RX2 31 yX2_has ∈ pw_G ∧ Cond.instanceMethod yX2_has ∈ pw_G ∧ Cond.selects RX2 yX2_has yX2_has ∈ pw_G := ⟨pw_in 1129 (by decide +kernel) (by decide +kernel), pw_in 930 (by decide +kernel) (by decide +kernel), pw_in 931 (by decide +kernel) (by decide +kernel)⟩
def YX2_least : pw_Y := (RX2, "least", cX2_least, 3, (some .int))
theorem ywX2_least : pw_y yX2_least YX2_least 1 := ⟨by decide +kernel, by decide +kernel, by decide +kernel, pw_in 1128 (by decide +kernel) (by decide +kernel), pw_in 87 (by decide +kernel) (by decide +kernel)⟩
def YX2_paneBehind : pw_Y := (RX2, "paneBehind", cX2_paneBehind, 4, (some .int))
theorem ywX2_paneBehind : pw_y yX2_paneBehind YX2_paneBehind 1 := ⟨by decide +kernel, by decide +kernel, by decide +kernel, pw_in 1149 (by decide +kernel) (by decide +kernel), pw_in 87 (by decide +kernel) (by decide +kernel)⟩
def YX2_panes : pw_Y := (RX2, "panes", cX2_panes, 3, (some .int))
theorem ywX2_panes : pw_y yX2_panes YX2_panes 0 := ⟨by decide +kernel, by decide +kernel, by decide +kernel, pw_in 1307 (by decide +kernel) (by decide +kernel), pw_in 87 (by decide +kernel) (by decide +kernel)⟩
set_option maxHeartbeats 4000000 in
set_option maxRecDepth 100000 in
/-- Part.length(down) -/
theorem mX5_length {E : pw_E} (htr : E.1.stackTraces = false) {h : pz_H} {n : Nat} {a : Nat} {x : ptC} (ha : h a = pz_o 8 (ptL x)) {dn : Int} (hdn : 0 ≤ dn ∧ dn ≤ 1) : pw_M E yX5_length YX5_length (rmD 0 0 0) [.ref a, .int (zI dn)] h n (fun r h' n' => r = some (.int (zI (ptLen x dn))) ∧ h' = h ∧ n' = n) (fun _ _ _ => False) := by
  refine pw_M_of (lv := [some (.ref a), some (.int (zI (dn)))]) (by decide) rfl rfl htr (nle rfl) rfl (fun L => ?_)
  refine pw_iload_n dX5_length_0 rfl ?_
  refine pw_if_eq (tgt := 11) dX5_length_1 rfl (by omega) (fun c1 => ?_) (fun c1 => ?_)
  ·
    refine pw_aload_n dX5_length_11 rfl ?_
    refine pw_get (v := .int (zI (x.1 2))) okX5 (k := 2) (by decide) lkX5_17 ha rfl dX5_length_12 ?_
    exact pw_iret dX5_length_15 rfl (nle rfl) (nle rfl) ⟨by unfold ptLen; first | rw [if_pos (by omega)] | rw [if_neg (by omega)], rfl, rfl⟩
  ·
    refine pw_aload_n dX5_length_4 rfl ?_
    refine pw_get (v := .int (zI (x.1 3))) okX5 (k := 3) (by decide) lkX5_13 ha rfl dX5_length_5 ?_
    refine pw_goto (tgt := 15) dX5_length_8 rfl ?_
    exact pw_iret dX5_length_15 rfl (nle rfl) (nle rfl) ⟨by unfold ptLen; first | rw [if_pos (by omega)] | rw [if_neg (by omega)], rfl, rfl⟩
set_option maxHeartbeats 4000000 in
set_option maxRecDepth 100000 in
/-- Part.isSplit() -/
theorem mX5_isSplit {E : pw_E} (htr : E.1.stackTraces = false) {h : pz_H} {n : Nat} {a : Nat} {x : ptC} (ha : h a = pz_o 8 (ptL x)) : pw_M E yX5_isSplit YX5_isSplit (rmD 0 0 0) [.ref a] h n (fun r h' n' => r = some (.int (zI (if ptSplit x then 1 else 0))) ∧ h' = h ∧ n' = n) (fun _ _ _ => False) := by
  refine pw_M_of (lv := [some (.ref a)]) (by decide) rfl rfl htr (nle rfl) rfl (fun L => ?_)
  refine pw_aload_n dX5_isSplit_0 rfl ?_
  refine pw_get (v := rv (x.2 0)) okX5 (k := 5) (by decide) lkX5_20 ha rfl dX5_isSplit_1 ?_
  refine pw_ifnullO (tgt := 18) dX5_isSplit_4 rfl (fun c4 => ?_) (fun c4 => ?_)
  ·
    refine pw_iconst (v := zI (0)) dX5_isSplit_18 (by decide) ?_
    exact pw_zret dX5_isSplit_19 rfl (by decide) (nle rfl) (nle rfl) ⟨by rw [if_neg (show ¬ ptSplit x from fun z => z.1 c4)], rfl, rfl⟩
  ·
    obtain ⟨q4, hq4⟩ := Option.ne_none_iff_exists'.mp c4
    refine pw_aload_n dX5_isSplit_7 rfl ?_
    refine pw_get (v := rv (x.2 1)) okX5 (k := 6) (by decide) lkX5_23 ha rfl dX5_isSplit_8 ?_
    refine pw_ifnullO (tgt := 18) dX5_isSplit_11 rfl (fun c11 => ?_) (fun c11 => ?_)
    ·
      refine pw_iconst (v := zI (0)) dX5_isSplit_18 (by decide) ?_
      exact pw_zret dX5_isSplit_19 rfl (by decide) (nle rfl) (nle rfl) ⟨by rw [if_neg (show ¬ ptSplit x from fun z => z.2 c11)], rfl, rfl⟩
    ·
      obtain ⟨q11, hq11⟩ := Option.ne_none_iff_exists'.mp c11
      refine pw_iconst (v := zI (1)) dX5_isSplit_14 (by decide) ?_
      refine pw_goto (tgt := 19) dX5_isSplit_15 rfl ?_
      exact pw_zret dX5_isSplit_19 rfl (by decide) (nle rfl) (nle rfl) ⟨by rw [if_pos (show ptSplit x from ⟨c4, c11⟩)], rfl, rfl⟩
set_option maxHeartbeats 4000000 in
set_option maxRecDepth 100000 in
/-- Layout.has(pane) -/
theorem mX2_has {E : pw_E} (htr : E.1.stackTraces = false) {h : pz_H} {n : Nat} {ly lf : Nat} {rt : Nat} {lv : Nat → Option Nat} (hly : h ly = pz_o 5 [.ref lf, .ref rt]) (hlf : h lf = pz_r 4 8 lv) {p : Int} (h_p : -2147483648 ≤ p ∧ p < 2147483648) : pw_M E yX2_has YX2_has (rmD 0 0 0) [.ref ly, .int (zI p)] h n (fun r h' n' => r = some (.int (zI (lyHas lv p))) ∧ h' = h ∧ n' = n) (fun _ _ _ => False) := by
  refine pw_M_of (lv := [some (.ref ly), some (.int (zI (p)))]) (by decide) rfl rfl htr (nle rfl) rfl (fun L => ?_)
  refine pw_iload_n dX2_has_0 rfl ?_
  refine pw_if_lt (tgt := 23) dX2_has_1 rfl (by omega) (fun c1 => ?_) (fun c1 => ?_)
  ·
    refine pw_iconst (v := zI (0)) dX2_has_23 (by decide) ?_
    exact pw_zret dX2_has_24 rfl (by decide) (nle rfl) (nle rfl) ⟨by unfold lyHas; first | rw [if_neg (show ¬ (0 ≤ p ∧ p < 8 ∧ ¬ lv p.toNat = none) by omega)] | rw [if_neg (fun z => z.2.2 c16)], rfl, rfl⟩
  ·
    refine pw_iload_n dX2_has_4 rfl ?_
    refine pw_bipush (v := zI (8)) dX2_has_5 (by decide) ?_
    refine pw_icmp_ge (tgt := 23) dX2_has_7 rfl (by omega) (by omega) (fun c7 => ?_) (fun c7 => ?_)
    ·
      refine pw_iconst (v := zI (0)) dX2_has_23 (by decide) ?_
      exact pw_zret dX2_has_24 rfl (by decide) (nle rfl) (nle rfl) ⟨by unfold lyHas; first | rw [if_neg (show ¬ (0 ≤ p ∧ p < 8 ∧ ¬ lv p.toNat = none) by omega)] | rw [if_neg (fun z => z.2.2 c16)], rfl, rfl⟩
    ·
      refine pw_aload_n dX2_has_10 rfl ?_
      refine pw_get (v := .ref lf) okX2 (k := 0) (by decide) lkX2_11 hly rfl dX2_has_11 ?_
      refine pw_iload_n dX2_has_14 rfl ?_
      refine pw_aaldO (t := 4) rfl hlf (by omega) (by omega) dX2_has_15 ?_
      refine pw_ifnullO (tgt := 23) dX2_has_16 rfl (fun c16 => ?_) (fun c16 => ?_)
      ·
        refine pw_iconst (v := zI (0)) dX2_has_23 (by decide) ?_
        exact pw_zret dX2_has_24 rfl (by decide) (nle rfl) (nle rfl) ⟨by unfold lyHas; first | rw [if_neg (show ¬ (0 ≤ p ∧ p < 8 ∧ ¬ lv p.toNat = none) by omega)] | rw [if_neg (fun z => z.2.2 c16)], rfl, rfl⟩
      ·
        obtain ⟨q16, hq16⟩ := Option.ne_none_iff_exists'.mp c16
        refine pw_iconst (v := zI (1)) dX2_has_19 (by decide) ?_
        refine pw_goto (tgt := 24) dX2_has_20 rfl ?_
        exact pw_zret dX2_has_24 rfl (by decide) (nle rfl) (nle rfl) ⟨by unfold lyHas; rw [if_pos ⟨by omega, by omega, c16⟩], rfl, rfl⟩
set_option maxHeartbeats 4000000 in
set_option maxRecDepth 100000 in
theorem lX2_least {E : pw_E} (htr : E.1.stackTraces = false) {h : pz_H} {n : Nat} {K : pw_K} {ly lf : Nat} {rt : Nat} {lv : Nat → Option Nat} (hly : h ly = pz_o 5 [.ref lf, .ref rt]) (hlf : h lf = pz_r 4 8 lv) {t : Int} (ht : 0 ≤ t ∧ t ≤ 1) : ∀ (j : Nat) (i : Int), i = 8 - (j : Int) → 0 ≤ i → K.2.2.1 (some (.int (zI (lyLeast lv t j i)))) h n → pw E YX2_least (rmD 1 0 0) K 0 0 2 [some (.ref ly), some (.int (zI (t))), some (.int (zI (i)))] [] h n := by
  intro j
  induction j with
  | zero =>
    intro i hj h1 hQ
    have hb := lyHas_b (lv := lv) (i := i)
    refine pw_iload_n dX2_least_2 rfl ?_
    refine pw_bipush (v := zI (8)) dX2_least_3 (by decide) ?_
    refine pw_icmp_ge (tgt := 25) dX2_least_5 rfl (by omega) (by omega) (fun c5 => ?_) (fun c5 => ?_)
    ·
      refine pw_iconst (v := zI (-1)) dX2_least_25 (by decide) ?_
      exact pw_iret dX2_least_26 rfl (nle rfl) (nle rfl) hQ
    · exfalso; omega
  | succ j ih =>
    intro i hj h1 hQ
    have hb := lyHas_b (lv := lv) (i := i)
    refine pw_iload_n dX2_least_2 rfl ?_
    refine pw_bipush (v := zI (8)) dX2_least_3 (by decide) ?_
    refine pw_icmp_ge (tgt := 25) dX2_least_5 rfl (by omega) (by omega) (fun c5 => ?_) (fun c5 => ?_)
    · exfalso; omega
    ·
      refine pw_aload_n dX2_least_8 rfl ?_
      refine pw_iload_n dX2_least_9 rfl ?_
      refine pw_callV (As := [.int (zI (i))]) (b := ly) (rm := rmD 0 0 0) (mX2_has htr hly hlf (by omega)) rfl hly rfl rfl ywX2_has rfl cwX2_31 ⟨nle rfl, nle rfl⟩ (nle rfl) ⟨nle rfl, nle rfl⟩ dX2_least_10 ?_ (fun _ _ _ z => z.elim)
      intro r2 h2 n2 hq _
      rw [hq.1, hq.2.1, hq.2.2]
      show pw E YX2_least _ _ 0 0 13 [some (.ref ly), some (.int (zI (t))), some (.int (zI (i)))] [.int (zI (lyHas lv (i)))] h n
      refine pw_iload_n dX2_least_13 rfl ?_
      refine pw_icmp_ne (tgt := 19) dX2_least_14 rfl (by omega) (by omega) (fun c14 => ?_) (fun c14 => ?_)
      ·
        refine pw_ziinc (lv' := [some (.ref ly), some (.int (zI (t))), some (.int (zI (i + 1)))]) dX2_least_19 rfl (by decide) rfl rfl ?_
        refine pw_goto (tgt := 2) dX2_least_22 rfl ?_
        rw [show lyLeast lv t (j + 1) i = if lyHas lv i = t then i else lyLeast lv t j (i + 1) from rfl, if_neg (by omega)] at hQ
        exact ih (i + 1) (by omega) (by omega) hQ
      ·
        refine pw_iload_n dX2_least_17 rfl ?_
        exact pw_iret dX2_least_18 rfl (nle rfl) (nle rfl) (by rw [show lyLeast lv t (j + 1) i = if lyHas lv i = t then i else lyLeast lv t j (i + 1) from rfl, if_pos (by omega)] at hQ; exact hQ)
set_option maxHeartbeats 4000000 in
set_option maxRecDepth 100000 in
/-- Layout.least(taken) -/
theorem mX2_least {E : pw_E} (htr : E.1.stackTraces = false) {h : pz_H} {n : Nat} {ly lf : Nat} {rt : Nat} {lv : Nat → Option Nat} (hly : h ly = pz_o 5 [.ref lf, .ref rt]) (hlf : h lf = pz_r 4 8 lv) {t : Int} (ht : 0 ≤ t ∧ t ≤ 1) : pw_M E yX2_least YX2_least (rmD 1 0 0) [.ref ly, .int (zI t)] h n (fun r h' n' => r = some (.int (zI (lyLeast lv t 8 0))) ∧ h' = h ∧ n' = n) (fun _ _ _ => False) := by
  refine pw_M_of (lv := [some (.ref ly), some (.int (zI (t))), none]) (by decide) rfl rfl htr (nle rfl) rfl (fun L => ?_)
  refine pw_iconst (v := zI (0)) dX2_least_0 (by decide) ?_
  refine pw_istore_n (lv' := [some (.ref ly), some (.int (zI (t))), some (.int (zI (0)))]) dX2_least_1 (by decide) rfl rfl ?_
  exact lX2_least htr hly hlf ht 8 0 (by decide) (by decide) ⟨rfl, rfl, rfl⟩
set_option maxHeartbeats 4000000 in
set_option maxRecDepth 100000 in
theorem lX2_paneBehind {E : pw_E} (htr : E.1.stackTraces = false) {h : pz_H} {n : Nat} {K : pw_K} {ly lf : Nat} {rt : Nat} {lv : Nat → Option Nat} (hly : h ly = pz_o 5 [.ref lf, .ref rt]) (hlf : h lf = pz_r 4 8 lv) {p : Int} (hp : 0 ≤ p ∧ p < 8) : ∀ (j : Nat) (i : Int) (y : Option Value), i = 8 - (j : Int) → 0 ≤ i → K.2.2.1 (some (.int (zI (lyNext lv p j i)))) h n → pw E YX2_paneBehind (rmD 1 0 0) K 0 0 2 [some (.ref ly), some (.int (zI (p))), some (.int (zI (i))), y] [] h n := by
  intro j
  induction j with
  | zero =>
    intro i y hj h1 hQ
    have hb := lyHas_b (lv := lv) (i := (p + i) % 8)
    refine pw_iload_n dX2_paneBehind_2 rfl ?_
    refine pw_bipush (v := zI (8)) dX2_paneBehind_3 (by decide) ?_
    refine pw_icmp_ge (tgt := 31) dX2_paneBehind_5 rfl (by omega) (by omega) (fun c5 => ?_) (fun c5 => ?_)
    ·
      refine pw_iload_n dX2_paneBehind_31 rfl ?_
      exact pw_iret dX2_paneBehind_32 rfl (nle rfl) (nle rfl) hQ
    · exfalso; omega
  | succ j ih =>
    intro i y hj h1 hQ
    have hb := lyHas_b (lv := lv) (i := (p + i) % 8)
    refine pw_iload_n dX2_paneBehind_2 rfl ?_
    refine pw_bipush (v := zI (8)) dX2_paneBehind_3 (by decide) ?_
    refine pw_icmp_ge (tgt := 31) dX2_paneBehind_5 rfl (by omega) (by omega) (fun c5 => ?_) (fun c5 => ?_)
    · exfalso; omega
    ·
      refine pw_iload_n dX2_paneBehind_8 rfl ?_
      refine pw_iload_n dX2_paneBehind_9 rfl ?_
      refine pw_ziadd dX2_paneBehind_10 ?_
      refine pw_bipush (v := zI (8)) dX2_paneBehind_11 (by decide) ?_
      refine pw_zirem dX2_paneBehind_13 (by omega) (by omega) ?_
      refine pw_istore_n (lv' := [some (.ref ly), some (.int (zI (p))), some (.int (zI (i))), some (.int (zI ((p + i) % (8))))]) dX2_paneBehind_14 (by decide) rfl rfl ?_
      refine pw_aload_n dX2_paneBehind_15 rfl ?_
      refine pw_iload_n dX2_paneBehind_16 rfl ?_
      refine pw_callV (As := [.int (zI ((p + i) % (8)))]) (b := ly) (rm := rmD 0 0 0) (mX2_has htr hly hlf (by omega)) rfl hly rfl rfl ywX2_has rfl cwX2_31 ⟨nle rfl, nle rfl⟩ (nle rfl) ⟨nle rfl, nle rfl⟩ dX2_paneBehind_17 ?_ (fun _ _ _ z => z.elim)
      intro r2 h2 n2 hq _
      rw [hq.1, hq.2.1, hq.2.2]
      show pw E YX2_paneBehind _ _ 0 0 20 [some (.ref ly), some (.int (zI (p))), some (.int (zI (i))), some (.int (zI ((p + i) % (8))))] [.int (zI (lyHas lv ((p + i) % (8))))] h n
      refine pw_if_eq (tgt := 25) dX2_paneBehind_20 rfl (by omega) (fun c20 => ?_) (fun c20 => ?_)
      ·
        refine pw_ziinc (lv' := [some (.ref ly), some (.int (zI (p))), some (.int (zI (i + 1))), some (.int (zI ((p + i) % (8))))]) dX2_paneBehind_25 rfl (by decide) rfl rfl ?_
        refine pw_goto (tgt := 2) dX2_paneBehind_28 rfl ?_
        rw [show lyNext lv p (j + 1) i = if lyHas lv ((p + i) % 8) = 1 then (p + i) % 8 else lyNext lv p j (i + 1) from rfl, if_neg (by omega)] at hQ
        exact ih (i + 1) _ (by omega) (by omega) hQ
      ·
        refine pw_iload_n dX2_paneBehind_23 rfl ?_
        exact pw_iret dX2_paneBehind_24 rfl (nle rfl) (nle rfl) (by rw [show lyNext lv p (j + 1) i = if lyHas lv ((p + i) % 8) = 1 then (p + i) % 8 else lyNext lv p j (i + 1) from rfl, if_pos (by omega)] at hQ; exact hQ)
set_option maxHeartbeats 4000000 in
set_option maxRecDepth 100000 in
/-- Layout.paneBehind(pane) -/
theorem mX2_paneBehind {E : pw_E} (htr : E.1.stackTraces = false) {h : pz_H} {n : Nat} {ly lf : Nat} {rt : Nat} {lv : Nat → Option Nat} (hly : h ly = pz_o 5 [.ref lf, .ref rt]) (hlf : h lf = pz_r 4 8 lv) {p : Int} (hp : 0 ≤ p ∧ p < 8) : pw_M E yX2_paneBehind YX2_paneBehind (rmD 1 0 0) [.ref ly, .int (zI p)] h n (fun r h' n' => r = some (.int (zI (lyNext lv p 7 1))) ∧ h' = h ∧ n' = n) (fun _ _ _ => False) := by
  refine pw_M_of (lv := [some (.ref ly), some (.int (zI (p))), none, none]) (by decide) rfl rfl htr (nle rfl) rfl (fun L => ?_)
  refine pw_iconst (v := zI (1)) dX2_paneBehind_0 (by decide) ?_
  refine pw_istore_n (lv' := [some (.ref ly), some (.int (zI (p))), some (.int (zI (1))), none]) dX2_paneBehind_1 (by decide) rfl rfl ?_
  exact lX2_paneBehind htr hly hlf hp 7 1 _ (by decide) (by decide) ⟨rfl, rfl, rfl⟩
set_option maxHeartbeats 4000000 in
set_option maxRecDepth 100000 in
theorem lX2_panes {E : pw_E} (htr : E.1.stackTraces = false) {h : pz_H} {n : Nat} {K : pw_K} {ly lf : Nat} {rt : Nat} {lv : Nat → Option Nat} (hly : h ly = pz_o 5 [.ref lf, .ref rt]) (hlf : h lf = pz_r 4 8 lv)  : ∀ (j : Nat) (i f : Int), i = 8 - (j : Int) → 0 ≤ i → (0 ≤ f ∧ f ≤ i) → K.2.2.1 (some (.int (zI (f + lyCount lv j i)))) h n → pw E YX2_panes (rmD 1 0 0) K 0 0 4 [some (.ref ly), some (.int (zI (f))), some (.int (zI (i)))] [] h n := by
  intro j
  induction j with
  | zero =>
    intro i f hj h1 hf hQ
    have hb := lyHas_b (lv := lv) (i := i)
    refine pw_iload_n dX2_panes_4 rfl ?_
    refine pw_bipush (v := zI (8)) dX2_panes_5 (by decide) ?_
    refine pw_icmp_ge (tgt := 32) dX2_panes_7 rfl (by omega) (by omega) (fun c7 => ?_) (fun c7 => ?_)
    ·
      refine pw_iload_n dX2_panes_32 rfl ?_
      exact pw_iret dX2_panes_33 rfl (nle rfl) (nle rfl) (by rw [show lyCount lv 0 i = 0 from rfl, Int.add_zero] at hQ; exact hQ)
    · exfalso; omega
  | succ j ih =>
    intro i f hj h1 hf hQ
    have hb := lyHas_b (lv := lv) (i := i)
    refine pw_iload_n dX2_panes_4 rfl ?_
    refine pw_bipush (v := zI (8)) dX2_panes_5 (by decide) ?_
    refine pw_icmp_ge (tgt := 32) dX2_panes_7 rfl (by omega) (by omega) (fun c7 => ?_) (fun c7 => ?_)
    · exfalso; omega
    ·
      refine pw_iload_n dX2_panes_10 rfl ?_
      refine pw_aload_n dX2_panes_11 rfl ?_
      refine pw_iload_n dX2_panes_12 rfl ?_
      refine pw_callV (As := [.int (zI (i))]) (b := ly) (rm := rmD 0 0 0) (mX2_has htr hly hlf (by omega)) rfl hly rfl rfl ywX2_has rfl cwX2_31 ⟨nle rfl, nle rfl⟩ (nle rfl) ⟨nle rfl, nle rfl⟩ dX2_panes_13 ?_ (fun _ _ _ z => z.elim)
      intro r2 h2 n2 hq _
      rw [hq.1, hq.2.1, hq.2.2]
      show pw E YX2_panes _ _ 0 0 16 [some (.ref ly), some (.int (zI (f))), some (.int (zI (i)))] [.int (zI (lyHas lv (i))), .int (zI (f))] h n
      refine pw_if_eq (tgt := 23) dX2_panes_16 rfl (by omega) (fun c16 => ?_) (fun c16 => ?_)
      ·
        refine pw_iconst (v := zI (0)) dX2_panes_23 (by decide) ?_
        refine pw_ziadd dX2_panes_24 ?_
        refine pw_istore_n (lv' := [some (.ref ly), some (.int (zI (f + 0))), some (.int (zI (i)))]) dX2_panes_25 (by decide) rfl rfl ?_
        refine pw_ziinc (lv' := [some (.ref ly), some (.int (zI (f + 0))), some (.int (zI (i + 1)))]) dX2_panes_26 rfl (by decide) rfl rfl ?_
        refine pw_goto (tgt := 4) dX2_panes_29 rfl ?_
        rw [show lyCount lv (j + 1) i = lyHas lv i + lyCount lv j (i + 1) from rfl] at hQ
        rw [show f + (lyHas lv i + lyCount lv j (i + 1)) = (f + 0) + lyCount lv j (i + 1) by omega] at hQ
        exact ih (i + 1) _ (by omega) (by omega) (by omega) hQ
      ·
        refine pw_iconst (v := zI (1)) dX2_panes_19 (by decide) ?_
        refine pw_goto (tgt := 24) dX2_panes_20 rfl ?_
        refine pw_ziadd dX2_panes_24 ?_
        refine pw_istore_n (lv' := [some (.ref ly), some (.int (zI (f + 1))), some (.int (zI (i)))]) dX2_panes_25 (by decide) rfl rfl ?_
        refine pw_ziinc (lv' := [some (.ref ly), some (.int (zI (f + 1))), some (.int (zI (i + 1)))]) dX2_panes_26 rfl (by decide) rfl rfl ?_
        refine pw_goto (tgt := 4) dX2_panes_29 rfl ?_
        rw [show lyCount lv (j + 1) i = lyHas lv i + lyCount lv j (i + 1) from rfl] at hQ
        rw [show f + (lyHas lv i + lyCount lv j (i + 1)) = (f + 1) + lyCount lv j (i + 1) by omega] at hQ
        exact ih (i + 1) _ (by omega) (by omega) (by omega) hQ
set_option maxHeartbeats 4000000 in
set_option maxRecDepth 100000 in
/-- Layout.panes() -/
theorem mX2_panes {E : pw_E} (htr : E.1.stackTraces = false) {h : pz_H} {n : Nat} {ly lf : Nat} {rt : Nat} {lv : Nat → Option Nat} (hly : h ly = pz_o 5 [.ref lf, .ref rt]) (hlf : h lf = pz_r 4 8 lv) : pw_M E yX2_panes YX2_panes (rmD 1 0 0) [.ref ly] h n (fun r h' n' => r = some (.int (zI (lyCount lv 8 0))) ∧ h' = h ∧ n' = n) (fun _ _ _ => False) := by
  refine pw_M_of (lv := [some (.ref ly), none, none]) (by decide) rfl rfl htr (nle rfl) rfl (fun L => ?_)
  refine pw_iconst (v := zI (0)) dX2_panes_0 (by decide) ?_
  refine pw_istore_n (lv' := [some (.ref ly), some (.int (zI (0))), none]) dX2_panes_1 (by decide) rfl rfl ?_
  refine pw_iconst (v := zI (0)) dX2_panes_2 (by decide) ?_
  refine pw_istore_n (lv' := [some (.ref ly), some (.int (zI (0))), some (.int (zI (0)))]) dX2_panes_3 (by decide) rfl rfl ?_
  exact lX2_panes htr hly hlf 8 0 0 (by decide) (by decide) (by decide) ⟨by rw [Int.zero_add], rfl, rfl⟩
