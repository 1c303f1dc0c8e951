def YX8_init : pw_Y := (RX8, "<init>", cX8_init, 1, none)
theorem ywX8_init : pw_y yX8_init YX8_init 0 := ⟨by decide +kernel, by decide +kernel, by decide +kernel, pw_in 136 (by decide +kernel) (by decide +kernel), pw_in 82 (by decide +kernel) (by decide +kernel)⟩
theorem cwX8_1 : Cond.methodLink RX8 1 objectInit ∈ pw_G := pw_in 137 (by decide +kernel) (by decide +kernel)
theorem naInt : Cond.arrayClass .int ∈ pw_G := pw_in 147 (by decide +kernel) (by decide +kernel)
def YX6_init : pw_Y := (RX6, "<init>", cX6_init, 2, none)
theorem ywX6_init : pw_y yX6_init YX6_init 1 := ⟨by decide +kernel, by decide +kernel, by decide +kernel, pw_in 270 (by decide +kernel) (by decide +kernel), pw_in 86 (by decide +kernel) (by decide +kernel)⟩
theorem cwX6_1 : Cond.methodLink RX6 1 objectInit ∈ pw_G := pw_in 271 (by decide +kernel) (by decide +kernel)
def YX0_init : pw_Y := (RX0, "<init>", cX0_init, 3, none)
theorem ywX0_init : pw_y yX0_init YX0_init 2 := ⟨by decide +kernel, by decide +kernel, by decide +kernel, pw_in 158 (by decide +kernel) (by decide +kernel), pw_in 84 (by decide +kernel) (by decide +kernel)⟩
theorem cwX0_3 : Cond.methodLink RX0 3 objectInit ∈ pw_G := pw_in 159 (by decide +kernel) (by decide +kernel)
def YX1_init : pw_Y := (RX1, "<init>", cX1_init, 2, none)
theorem ywX1_init : pw_y yX1_init YX1_init 1 := ⟨by decide +kernel, by decide +kernel, by decide +kernel, pw_in 174 (by decide +kernel) (by decide +kernel), pw_in 85 (by decide +kernel) (by decide +kernel)⟩
theorem cwX1_3 : Cond.methodLink RX1 3 objectInit ∈ pw_G := pw_in 175 (by decide +kernel) (by decide +kernel)
def YX3_init : pw_Y := (RX3, "<init>", cX3_init, 3, none)
theorem ywX3_init : pw_y yX3_init YX3_init 2 := ⟨by decide +kernel, by decide +kernel, by decide +kernel, pw_in 373 (by decide +kernel) (by decide +kernel), pw_in 89 (by decide +kernel) (by decide +kernel)⟩
theorem cwX3_3 : Cond.methodLink RX3 3 objectInit ∈ pw_G := pw_in 374 (by decide +kernel) (by decide +kernel)
theorem cwX3_23 : Cond.methodLink RX3 23 yJ7_fill_53178 ∈ pw_G ∧ Cond.static yJ7_fill_53178 ∈ pw_G := ⟨pw_in 375 (by decide +kernel) (by decide +kernel), pw_in 376 (by decide +kernel) (by decide +kernel)⟩
theorem pz_up3 {h : pz_H} {a n : Nat} {x y z : pz_C} : va_up (va_up (va_up h a x) n z) a y = va_up (va_up h n z) a y := by
  funext j
  by_cases e : j = a
  · subst e; rw [va_up_self, va_up_self]
  · rw [va_up_ne _ _ e, va_up_ne _ _ e]
    by_cases e2 : j = n
    · subst e2; rw [va_up_self, va_up_self]
    · rw [va_up_ne _ _ e2, va_up_ne _ _ e2, va_up_ne _ _ e]
set_option maxHeartbeats 4000000 in
set_option maxRecDepth 100000 in
/-- new Typed() -/
theorem mX8_init {E : pw_E} (htr : E.1.stackTraces = false) {h : pz_H} {n : Nat} {a : Nat} (hobj : h a = pz_o 11 [.null, .int (zI (0))]) (ha : a < n)  : pw_M E yX8_init YX8_init (rmD 1 1 64) [.ref a] h n (fun r h' n' => r = none ∧ h' = va_up (va_up h n (pz_z 0 64 (fun _ => 0))) a (pz_o 11 [.ref n, .int (zI 0)]) ∧ n' = n + 1) (fun _ _ _ => False) := by
  refine pw_M_of (lv := [some (.ref a)]) (by decide) rfl rfl htr (nle rfl) rfl (fun L => ?_)
  refine pw_aload_n dX8_init_0 rfl ?_
  refine pw_objInit cwX8_1 dX8_init_1 ⟨nle rfl, nle rfl⟩ ?_
  refine pw_aload_n dX8_init_4 rfl ?_
  refine pw_bipush (v := zI (64)) dX8_init_5 (by decide) ?_
  refine pw_newi (t := 0) rfl naInt (by decide) (nle rfl) (nle rfl) dX8_init_7 ?_
  refine pw_h (h' := va_up h n (pz_z 0 64 (fun _ => 0))) (rfl) ?_
  refine pw_putF (fs' := [.ref n, .int (zI (0))]) okX8 (k := 0) (by decide) lkX8_9 rfl rfl rfl rfl rfl ((va_up_ne _ _ (by omega)).trans hobj) (nlt rfl) rfl dX8_init_9 ?_
  exact pw_vret dX8_init_12 rfl (nle rfl) (nle rfl) ⟨rfl, rfl, rfl⟩
set_option maxHeartbeats 4000000 in
set_option maxRecDepth 100000 in
/-- new Reader(screen) -/
theorem mX6_init {E : pw_E} (htr : E.1.stackTraces = false) {h : pz_H} {n : Nat} {a : Nat} (hobj : h a = pz_o 9 [.null, .null, .int (zI (0)), .int (zI (0)), .int (zI (0)), .int (zI (0))]) (ha : a < n) {sc : Nat} : pw_M E yX6_init YX6_init (rmD 1 1 4) [.ref a, .ref sc] h n (fun r h' n' => r = none ∧ h' = va_up (va_up h n (pz_z 0 4 (fun _ => 0))) a (pz_o 9 [.ref sc, .ref n, .int (zI 0), .int (zI 0), .int (zI 0), .int (zI 0)]) ∧ n' = n + 1) (fun _ _ _ => False) := by
  refine pw_M_of (lv := [some (.ref a), some (.ref sc)]) (by decide) rfl rfl htr (nle rfl) rfl (fun L => ?_)
  refine pw_aload_n dX6_init_0 rfl ?_
  refine pw_objInit cwX6_1 dX6_init_1 ⟨nle rfl, nle rfl⟩ ?_
  refine pw_aload_n dX6_init_4 rfl ?_
  refine pw_iconst (v := zI (4)) dX6_init_5 (by decide) ?_
  refine pw_newi (t := 0) rfl naInt (by decide) (nle rfl) (nle rfl) dX6_init_6 ?_
  refine pw_h (h' := va_up h n (pz_z 0 4 (fun _ => 0))) (rfl) ?_
  refine pw_putF (fs' := [.null, .ref n, .int (zI (0)), .int (zI (0)), .int (zI (0)), .int (zI (0))]) okX6 (k := 1) (by decide) lkX6_9 rfl rfl rfl rfl rfl ((va_up_ne _ _ (by omega)).trans hobj) (nlt rfl) rfl dX6_init_8 ?_
  refine pw_aload_n dX6_init_11 rfl ?_
  refine pw_aload_n dX6_init_12 rfl ?_
  refine pw_putF (fs' := [.ref sc, .ref n, .int (zI (0)), .int (zI (0)), .int (zI (0)), .int (zI (0))]) okX6 (k := 0) (by decide) lkX6_13 rfl rfl rfl rfl rfl (va_up_self _ _ _) (nlt rfl) rfl dX6_init_13 ?_
  exact pw_vret dX6_init_16 rfl (nle rfl) (nle rfl) ⟨rfl, by rw [pz_up_up], rfl⟩
set_option maxHeartbeats 4000000 in
set_option maxRecDepth 100000 in
/-- new Grid(width, height) -/
theorem mX0_init {E : pw_E} (htr : E.1.stackTraces = false) {h : pz_H} {n : Nat} {a : Nat} (hobj : h a = pz_o 3 [.int (zI (0)), .int (zI (0)), .null]) (ha : a < n) {w H : Int} {N : Nat} (hN : (N : Int) = w * H) (hN2 : N ≤ 100000) : pw_M E yX0_init YX0_init (rmD 1 1 N) [.ref a, .int (zI (w)), .int (zI (H))] h n (fun r h' n' => r = none ∧ h' = va_up (va_up h n (pz_z 0 N (fun _ => 0))) a (pz_o 3 [.int (zI w), .int (zI H), .ref n]) ∧ n' = n + 1) (fun _ _ _ => False) := by
  refine pw_M_of (lv := [some (.ref a), some (.int (zI (w))), some (.int (zI (H)))]) (by decide) rfl rfl htr (nle rfl) rfl (fun L => ?_)
  refine pw_aload_n dX0_init_0 rfl ?_
  refine pw_objInit cwX0_3 dX0_init_1 ⟨nle rfl, nle rfl⟩ ?_
  refine pw_aload_n dX0_init_4 rfl ?_
  refine pw_iload_n dX0_init_5 rfl ?_
  refine pw_putF (fs' := [.int (zI (w)), .int (zI (0)), .null]) okX0 (k := 0) (by decide) lkX0_9 rfl rfl rfl rfl rfl hobj (nlt rfl) rfl dX0_init_6 ?_
  refine pw_aload_n dX0_init_9 rfl ?_
  refine pw_iload_n dX0_init_10 rfl ?_
  refine pw_putF (fs' := [.int (zI (w)), .int (zI (H)), .null]) okX0 (k := 1) (by decide) lkX0_15 rfl rfl rfl rfl rfl (va_up_self _ _ _) (nlt rfl) rfl dX0_init_11 ?_
  refine pw_aload_n dX0_init_14 rfl ?_
  refine pw_iload_n dX0_init_15 rfl ?_
  refine pw_iload_n dX0_init_16 rfl ?_
  refine pw_zimul dX0_init_17 ?_
  refine pw_newi (t := 0) rfl naInt (by omega) (nle rfl) (by show 0 + (w * H).toNat ≤ N; omega) dX0_init_18 ?_
  refine pw_h (h' := va_up (va_up (va_up h a (pz_o 3 [.int (zI (w)), .int (zI (0)), .null])) a (pz_o 3 [.int (zI (w)), .int (zI (H)), .null])) n (pz_z 0 N (fun _ => 0))) (by rw [show (w * H).toNat = N by omega]) ?_
  refine pw_putF (fs' := [.int (zI (w)), .int (zI (H)), .ref n]) okX0 (k := 2) (by decide) lkX0_18 rfl rfl rfl rfl rfl ((va_up_ne _ _ (by omega)).trans (va_up_self _ _ _)) (nlt rfl) rfl dX0_init_20 ?_
  exact pw_vret dX0_init_23 rfl (nle rfl) (by show 0 + (w * H).toNat ≤ N; omega) ⟨rfl, by rw [pz_up_up, pz_up3], rfl⟩
set_option maxHeartbeats 4000000 in
set_option maxRecDepth 100000 in
/-- new History(width) -/
theorem mX1_init {E : pw_E} (htr : E.1.stackTraces = false) {h : pz_H} {n : Nat} {a : Nat} (hobj : h a = pz_o 4 [.int (zI (0)), .null, .null, .int (zI (0)), .int (zI (0))]) (ha : a < n) {w : Int} {NH : Nat} (hN : (NH : Int) = 30 * w) (hN2 : NH ≤ 100000) : pw_M E yX1_init YX1_init (rmD 1 2 (30 + NH)) [.ref a, .int (zI (w))] h n (fun r h' n' => r = none ∧ h' = va_up (va_up (va_up h n (pz_z 0 30 (fun _ => 0))) (n + 1) (pz_z 0 NH (fun _ => 0))) a (pz_o 4 [.int (zI w), .ref (n + 1), .ref n, .int (zI 0), .int (zI 0)]) ∧ n' = n + 2) (fun _ _ _ => False) := by
  refine pw_M_of (lv := [some (.ref a), some (.int (zI (w)))]) (by decide) rfl rfl htr (nle rfl) rfl (fun L => ?_)
  refine pw_aload_n dX1_init_0 rfl ?_
  refine pw_objInit cwX1_3 dX1_init_1 ⟨nle rfl, nle rfl⟩ ?_
  refine pw_aload_n dX1_init_4 rfl ?_
  refine pw_bipush (v := zI (30)) dX1_init_5 (by decide) ?_
  refine pw_newi (t := 0) rfl naInt (by decide) (nle rfl) (by show 0 + 30 ≤ 30 + NH; omega) dX1_init_7 ?_
  refine pw_h (h' := va_up h n (pz_z 0 30 (fun _ => 0))) (rfl) ?_
  refine pw_putF (fs' := [.int (zI (0)), .null, .ref n, .int (zI (0)), .int (zI (0))]) okX1 (k := 2) (by decide) lkX1_11 rfl rfl rfl rfl rfl ((va_up_ne _ _ (by omega)).trans hobj) (nlt rfl) rfl dX1_init_9 ?_
  refine pw_aload_n dX1_init_12 rfl ?_
  refine pw_iload_n dX1_init_13 rfl ?_
  refine pw_putF (fs' := [.int (zI (w)), .null, .ref n, .int (zI (0)), .int (zI (0))]) okX1 (k := 0) (by decide) lkX1_15 rfl rfl rfl rfl rfl (va_up_self _ _ _) (nlt rfl) rfl dX1_init_14 ?_
  refine pw_aload_n dX1_init_17 rfl ?_
  refine pw_bipush (v := zI (30)) dX1_init_18 (by decide) ?_
  refine pw_iload_n dX1_init_20 rfl ?_
  refine pw_zimul dX1_init_21 ?_
  refine pw_newi (t := 0) rfl naInt (by omega) (nle rfl) (by show 0 + 30 + (30 * w).toNat ≤ 30 + NH; omega) dX1_init_22 ?_
  refine pw_h (h' := va_up (va_up (va_up (va_up h n (pz_z 0 30 (fun _ => 0))) a (pz_o 4 [.int (zI (0)), .null, .ref n, .int (zI (0)), .int (zI (0))])) a (pz_o 4 [.int (zI (w)), .null, .ref n, .int (zI (0)), .int (zI (0))])) (n + 1) (pz_z 0 NH (fun _ => 0))) (by rw [show (30 * w).toNat = NH by omega]) ?_
  refine pw_putF (fs' := [.int (zI (w)), .ref (n + 1), .ref n, .int (zI (0)), .int (zI (0))]) okX1 (k := 1) (by decide) lkX1_19 rfl rfl rfl rfl rfl ((va_up_ne _ _ (by omega)).trans (va_up_self _ _ _)) (nlt rfl) rfl dX1_init_24 ?_
  exact pw_vret dX1_init_27 rfl (nle rfl) (by show 0 + 30 + (30 * w).toNat ≤ 30 + NH; omega) ⟨rfl, by rw [pz_up_up, pz_up3], rfl⟩
theorem pz_upX {h : pz_H} {a n m : Nat} {x1 x2 x3 x4 y z1 z2 : pz_C} (h1 : a ≠ n) (h2 : a ≠ m) (h3 : n ≠ m) : va_up (va_up (va_up (va_up (va_up (va_up (va_up h a x1) a x2) n z1) a x3) n y) m z2) a x4 = va_up (va_up (va_up h n y) m z2) a x4 := by
  funext j
  by_cases e : j = a
  · subst e; rw [va_up_self, va_up_self]
  · rw [va_up_ne _ _ e, va_up_ne _ _ e]
    by_cases e2 : j = m
    · subst e2; rw [va_up_self, va_up_self]
    · rw [va_up_ne _ _ e2, va_up_ne _ _ e2]
      by_cases e3 : j = n
      · subst e3; rw [va_up_self, va_up_self]
      · rw [va_up_ne _ _ e3, va_up_ne _ _ e3, va_up_ne _ _ e, va_up_ne _ _ e3, va_up_ne _ _ e, va_up_ne _ _ e]
set_option maxHeartbeats 4000000 in
set_option maxRecDepth 100000 in
/-- new Outer(width, height) -/
theorem mX3_init {E : pw_E} (htr : E.1.stackTraces = false) {h : pz_H} {n : Nat} {a : Nat} (hobj : h a = pz_o 6 [.int (zI (0)), .null, .null, .int (zI (0)), .int (zI (0)), .int (zI (0)), .int (zI (0)), .int (zI (0))]) (ha : a < n) {w H : Int} {N NB : Nat} (hN : (N : Int) = w * H) (hN2 : N ≤ 100000) (hNB : (NB : Int) = w * H * 17 + (H + 1) * 8 + 6) (hNB2 : NB ≤ 1000000) : pw_M E yX3_init YX3_init (rmD 1 2 (N + NB)) [.ref a, .int (zI (w)), .int (zI (H))] h n (fun r h' n' => r = none ∧ h' = va_up (va_up (va_up h n (pz_z 0 N (zfill (fun _ => 0) 0 N 32))) (n + 1) (pz_z 0 NB (fun _ => 0))) a (pz_o 6 [.int (zI w), .ref n, .ref (n + 1), .int (zI 0), .int (zI 0), .int (zI 0), .int (zI 0), .int (zI 1)]) ∧ n' = n + 2) (fun _ _ _ => False) := by
  refine pw_M_of (lv := [some (.ref a), some (.int (zI (w))), some (.int (zI (H)))]) (by decide) rfl rfl htr (nle rfl) rfl (fun L => ?_)
  refine pw_aload_n dX3_init_0 rfl ?_
  refine pw_objInit cwX3_3 dX3_init_1 ⟨nle rfl, nle rfl⟩ ?_
  refine pw_aload_n dX3_init_4 rfl ?_
  refine pw_iconst (v := zI (1)) dX3_init_5 (by decide) ?_
  refine pw_put (fs' := [.int (zI (0)), .null, .null, .int (zI (0)), .int (zI (0)), .int (zI (0)), .int (zI (0)), .int (zI (1))]) okX3 (k := 7) (by decide) lkX3_9 rfl (by decide) (by decide) hobj (nlt rfl) rfl dX3_init_6 ?_
  refine pw_aload_n dX3_init_9 rfl ?_
  refine pw_iload_n dX3_init_10 rfl ?_
  refine pw_putF (fs' := [.int (zI (w)), .null, .null, .int (zI (0)), .int (zI (0)), .int (zI (0)), .int (zI (0)), .int (zI (1))]) okX3 (k := 0) (by decide) lkX3_15 rfl rfl rfl rfl rfl (va_up_self _ _ _) (nlt rfl) rfl dX3_init_11 ?_
  refine pw_aload_n dX3_init_14 rfl ?_
  refine pw_iload_n dX3_init_15 rfl ?_
  refine pw_iload_n dX3_init_16 rfl ?_
  refine pw_zimul dX3_init_17 ?_
  refine pw_newi (t := 0) rfl naInt (by omega) (nle rfl) (by show 0 + (w * H).toNat ≤ N + NB; omega) dX3_init_18 ?_
  refine pw_h (h' := va_up (va_up (va_up h a (pz_o 6 [.int (zI (0)), .null, .null, .int (zI (0)), .int (zI (0)), .int (zI (0)), .int (zI (0)), .int (zI (1))])) a (pz_o 6 [.int (zI (w)), .null, .null, .int (zI (0)), .int (zI (0)), .int (zI (0)), .int (zI (0)), .int (zI (1))])) n (pz_z 0 N (fun _ => 0))) (by rw [show (w * H).toNat = N by omega]) ?_
  refine pw_putF (fs' := [.int (zI (w)), .ref n, .null, .int (zI (0)), .int (zI (0)), .int (zI (0)), .int (zI (0)), .int (zI (1))]) okX3 (k := 1) (by decide) lkX3_19 rfl rfl rfl rfl rfl ((va_up_ne _ _ (by omega)).trans (va_up_self _ _ _)) (nlt rfl) rfl dX3_init_20 ?_
  refine pw_aload_n dX3_init_23 rfl ?_
  refine pw_get (v := .ref n) okX3 (k := 1) (by decide) lkX3_19 (va_up_self _ _ _) rfl dX3_init_24 ?_
  refine pw_bipush (v := zI (32)) dX3_init_27 (by decide) ?_
  refine pw_callS (As := [.ref n, .int (zI (32))]) (rm := rmD 0 0 0) (mJ7_fill2 htr ((va_up_ne _ _ (by omega)).trans (va_up_self _ _ _)) (by omega)) rfl ywJ7_fill_53178 rfl cwX3_23 ⟨nle rfl, nle rfl⟩ (nle rfl) ⟨nle rfl, by show 0 + (w * H).toNat + 0 ≤ N + NB; omega⟩ dX3_init_29 ?_ (fun _ _ _ z => z.elim)
  intro r2 h2 n2 hq _
  rw [hq.1, hq.2.1, hq.2.2]
  show pw E YX3_init _ _ (0 + 1) (0 + (w * H : Int).toNat) 32 [some (.ref a), some (.int (zI (w))), some (.int (zI (H)))] [] (va_up (va_up (va_up (va_up (va_up h a (pz_o 6 [.int (zI (0)), .null, .null, .int (zI (0)), .int (zI (0)), .int (zI (0)), .int (zI (0)), .int (zI (1))])) a (pz_o 6 [.int (zI (w)), .null, .null, .int (zI (0)), .int (zI (0)), .int (zI (0)), .int (zI (0)), .int (zI (1))])) n (pz_z 0 N (fun _ => 0))) a (pz_o 6 [.int (zI (w)), .ref n, .null, .int (zI (0)), .int (zI (0)), .int (zI (0)), .int (zI (0)), .int (zI (1))])) n (pz_z 0 N (zfill (fun _ => 0) 0 N (32)))) (n + 1)
  refine pw_aload_n dX3_init_32 rfl ?_
  refine pw_iload_n dX3_init_33 rfl ?_
  refine pw_iload_n dX3_init_34 rfl ?_
  refine pw_zimul dX3_init_35 ?_
  refine pw_bipush (v := zI (17)) dX3_init_36 (by decide) ?_
  refine pw_zimul dX3_init_38 ?_
  refine pw_iload_n dX3_init_39 rfl ?_
  refine pw_iconst (v := zI (1)) dX3_init_40 (by decide) ?_
  refine pw_ziadd dX3_init_41 ?_
  refine pw_bipush (v := zI (8)) dX3_init_42 (by decide) ?_
  refine pw_zimul dX3_init_44 ?_
  refine pw_ziadd dX3_init_45 ?_
  refine pw_bipush (v := zI (6)) dX3_init_46 (by decide) ?_
  refine pw_ziadd dX3_init_48 ?_
  refine pw_newi (t := 0) rfl naInt (by omega) (nle rfl) (by show 0 + (w * H).toNat + 0 + (w * H * 17 + (H + 1) * 8 + 6).toNat ≤ N + NB; omega) dX3_init_49 ?_
  refine pw_h (h' := va_up (va_up (va_up (va_up (va_up (va_up h a (pz_o 6 [.int (zI (0)), .null, .null, .int (zI (0)), .int (zI (0)), .int (zI (0)), .int (zI (0)), .int (zI (1))])) a (pz_o 6 [.int (zI (w)), .null, .null, .int (zI (0)), .int (zI (0)), .int (zI (0)), .int (zI (0)), .int (zI (1))])) n (pz_z 0 N (fun _ => 0))) a (pz_o 6 [.int (zI (w)), .ref n, .null, .int (zI (0)), .int (zI (0)), .int (zI (0)), .int (zI (0)), .int (zI (1))])) n (pz_z 0 N (zfill (fun _ => 0) 0 N (32)))) (n + 1) (pz_z 0 NB (fun _ => 0))) (by rw [show (w * H * 17 + (H + 1) * 8 + 6).toNat = NB by omega]) ?_
  refine pw_putF (fs' := [.int (zI (w)), .ref n, .ref (n + 1), .int (zI (0)), .int (zI (0)), .int (zI (0)), .int (zI (0)), .int (zI (1))]) okX3 (k := 2) (by decide) lkX3_29 rfl rfl rfl rfl rfl ((va_up_ne _ _ (by omega)).trans ((va_up_ne _ _ (by omega)).trans (va_up_self _ _ _))) (nlt rfl) rfl dX3_init_51 ?_
  exact pw_vret dX3_init_54 rfl (nle rfl) (by show 0 + (w * H).toNat + 0 + (w * H * 17 + (H + 1) * 8 + 6).toNat ≤ N + NB; omega) ⟨rfl, by exact pz_upX (by omega) (by omega) (by omega), rfl⟩
