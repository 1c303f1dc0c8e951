def YX7_init : pw_Y := (RX7, "<init>", cX7_init, 3, none)
theorem ywX7_init : pw_y yX7_init YX7_init 2 := ⟨by decide +kernel, by decide +kernel, by decide +kernel, pw_in 152 (by decide +kernel) (by decide +kernel), pw_in 83 (by decide +kernel) (by decide +kernel)⟩
theorem cwX7_3 : Cond.methodLink RX7 3 objectInit ∈ pw_G := pw_in 153 (by decide +kernel) (by decide +kernel)
theorem nwX7_9 : Cond.classLink RX7 9 RX0 ∈ pw_G ∧ Cond.instantiable RX0 3 ∈ pw_G ∧ Cond.initialized RX0 ∈ pw_G := ⟨pw_in 154 (by decide +kernel) (by decide +kernel), pw_in 155 (by decide +kernel) (by decide +kernel), pw_in 84 (by decide +kernel) (by decide +kernel)⟩
theorem dzX0 : (∀ j, j < 3 → defaultValue (tyX0 j) = vp_V [.int (zI (0)), .int (zI (0)), .null] j) ∧ pz_ks 0 [.int (zI (0)), .int (zI (0)), .null] := ⟨fun j hj => match j, hj with
  | 0, _ => rfl
  | 1, _ => rfl
  | 2, _ => rfl
  | k + 3, hj => absurd hj (by omega), ⟨trivial, trivial, trivial, trivial⟩⟩
theorem cwX7_11 : Cond.methodLink RX7 11 yX0_init ∈ pw_G ∧ Cond.instanceMethod yX0_init ∈ pw_G := ⟨pw_in 156 (by decide +kernel) (by decide +kernel), pw_in 157 (by decide +kernel) (by decide +kernel)⟩
theorem nwX7_23 : Cond.classLink RX7 23 RX1 ∈ pw_G ∧ Cond.instantiable RX1 5 ∈ pw_G ∧ Cond.initialized RX1 ∈ pw_G := ⟨pw_in 170 (by decide +kernel) (by decide +kernel), pw_in 171 (by decide +kernel) (by decide +kernel), pw_in 85 (by decide +kernel) (by decide +kernel)⟩
theorem dzX1 : (∀ j, j < 5 → defaultValue (tyX1 j) = vp_V [.int (zI (0)), .null, .null, .int (zI (0)), .int (zI (0))] j) ∧ pz_ks 0 [.int (zI (0)), .null, .null, .int (zI (0)), .int (zI (0))] := ⟨fun j hj => match j, hj with
  | 0, _ => rfl
  | 1, _ => rfl
  | 2, _ => rfl
  | 3, _ => rfl
  | 4, _ => rfl
  | k + 5, hj => absurd hj (by omega), ⟨trivial, trivial, trivial, trivial, trivial, trivial⟩⟩
theorem cwX7_25 : Cond.methodLink RX7 25 yX1_init ∈ pw_G ∧ Cond.instanceMethod yX1_init ∈ pw_G := ⟨pw_in 172 (by decide +kernel) (by decide +kernel), pw_in 173 (by decide +kernel) (by decide +kernel)⟩
set_option maxHeartbeats 4000000 in
set_option maxRecDepth 100000 in
theorem pz_upS {h : pz_H} {a n : Nat} {y0 y1 y2 y3 y4 y5 y6 y7 y8 y9 y10 y11 y12 : pz_C} (ha : a < n) : va_up (va_up (va_up (va_up (va_up (va_up (va_up (va_up (va_up (va_up (va_up (va_up (va_up h (n) y0) (n + 1) y1) (n) y2) (a) y3) (n + 2) y4) (n + 3) y5) (n + 2) y6) (a) y7) (n + 4) y8) (n + 5) y9) (n + 6) y10) (n + 4) y11) (a) y12 = va_up (va_up (va_up (va_up (va_up (va_up (va_up (va_up h (n) y2) (n + 1) y1) (n + 2) y6) (n + 3) y5) (n + 4) y11) (n + 5) y9) (n + 6) y10) (a) y12 := by
  funext j
  have q0 : ∀ k, ¬ n + k = a := fun k => by omega
  have q1 : ∀ k, ¬ a = n + k := fun k => by omega
  have q2 : ¬ n = a := by omega
  have q3 : ¬ a = n := by omega
  by_cases e0 : j = a
  · subst e0; simp [va_up, q0, q1, q2, q3]
  ·
    by_cases e1 : j = n
    · subst e1; simp [va_up, q0, q1, q2, q3]
    ·
      by_cases e2 : j = n + 1
      · subst e2; simp [va_up, q0, q1, q2, q3]
      ·
        by_cases e3 : j = n + 2
        · subst e3; simp [va_up, q0, q1, q2, q3]
        ·
          by_cases e4 : j = n + 3
          · subst e4; simp [va_up, q0, q1, q2, q3]
          ·
            by_cases e5 : j = n + 4
            · subst e5; simp [va_up, q0, q1, q2, q3]
            ·
              by_cases e6 : j = n + 5
              · subst e6; simp [va_up, q0, q1, q2, q3]
              ·
                by_cases e7 : j = n + 6
                · subst e7; simp [va_up, q0, q1, q2, q3]
                ·
                  simp [va_up, e0, e1, e2, e3, e4, e5, e6, e7]
set_option maxHeartbeats 4000000 in
set_option maxRecDepth 100000 in
/-- new Screen(width, height) -/
theorem mX7_init {E : pw_E} (htr : E.1.stackTraces = false) {h : pz_H} {n : Nat} {a : Nat} (hobj : h a = pz_o 10 [.null, .null, .null, .int (zI (0)), .int (zI (0)), .int (zI (0)), .int (zI (0)), .int (zI (0)), .int (zI (0)), .int (zI (0)), .int (zI (0)), .int (zI (0)), .int (zI (0)), .int (zI (0)), .int (zI (0)), .int (zI (0)), .int (zI (0)), .int (zI (0))]) (ha : a < n) {w H : Int} {N NH : Nat} (hN : (N : Int) = w * H) (hN2 : N ≤ 100000) (hNH : (NH : Int) = 30 * w) (hNH2 : NH ≤ 100000) : pw_M E yX7_init YX7_init (rmD 2 7 (3 + N + (3 + N) + (5 + (30 + NH)))) [.ref a, .int (zI (w)), .int (zI (H))] h n (fun r h' n' => r = none ∧ h' = va_up (va_up (va_up (va_up (va_up (va_up (va_up (va_up h n (pz_o 3 [.int (zI w), .int (zI H), .ref (n + 1)])) (n + 1) (pz_z 0 N (fun _ => 0))) (n + 2) (pz_o 3 [.int (zI w), .int (zI H), .ref (n + 3)])) (n + 3) (pz_z 0 N (fun _ => 0))) (n + 4) (pz_o 4 [.int (zI w), .ref (n + 6), .ref (n + 5), .int (zI 0), .int (zI 0)])) (n + 5) (pz_z 0 30 (fun _ => 0))) (n + 6) (pz_z 0 NH (fun _ => 0))) a (pz_o 10 [.ref n, .ref (n + 2), .ref (n + 4), .int (zI 0), .int (zI 0), .int (zI 0), .int (zI 0), .int (zI 0), .int (zI 0), .int (zI 0), .int (zI 0), .int (zI 0), .int (zI 0), .int (zI 0), .int (zI 0), .int (zI 0), .int (zI 0), .int (zI 0)]) ∧ n' = n + 7) (fun _ _ _ => False) := by
  refine pw_M_of (lv := [some (.ref a), some (.int (zI (w))), some (.int (zI (H)))]) (by decide) rfl rfl htr (nle rfl) rfl (fun L => ?_)
  refine pw_aload_n dX7_init_0 rfl ?_
  refine pw_objInit cwX7_3 dX7_init_1 ⟨nle rfl, nle rfl⟩ ?_
  refine pw_aload_n dX7_init_4 rfl ?_
  refine pw_new okX0 nwX7_9.1 nwX7_9.2.1 nwX7_9.2.2 dzX0.1 dzX0.2 (nle rfl) (by show 0 + 3 ≤ 3 + N + (3 + N) + (5 + (30 + NH)); omega) dX7_init_5 ?_
  refine pw_h (h' := va_up h n (pz_o 3 [.int (zI (0)), .int (zI (0)), .null])) rfl ?_
  refine pw_dup dX7_init_8 rfl ?_
  refine pw_iload_n dX7_init_9 rfl ?_
  refine pw_iload_n dX7_init_10 rfl ?_
  refine pw_callI (As := [.int (zI (w)), .int (zI (H))]) (b := n) (rm := rmD 1 1 N) (mX0_init htr (va_up_self _ _ _) (by omega) hN hN2) rfl ywX0_init rfl ⟨rfl, rfl⟩ cwX7_11 ⟨nle rfl, nle rfl⟩ (nle rfl) ⟨nle rfl, by show 0 + 3 + N ≤ 3 + N + (3 + N) + (5 + (30 + NH)); omega⟩ dX7_init_11 ?_
  intro r2 h2 n2 hq _
  rw [hq.1, hq.2.1, hq.2.2]
  show pw E YX7_init _ _ (0 + 1 + 1) (0 + 3 + (N)) 14 [some (.ref a), some (.int (zI (w))), some (.int (zI (H)))] [.ref n, .ref a] (va_up (va_up (va_up h n (pz_o 3 [.int (zI (0)), .int (zI (0)), .null])) (n + 1) (pz_z 0 N (fun _ => 0))) n (pz_o 3 [.int (zI (w)), .int (zI (H)), .ref (n + 1)])) (n + 2)
  refine pw_putF (fs' := [.ref n, .null, .null, .int (zI (0)), .int (zI (0)), .int (zI (0)), .int (zI (0)), .int (zI (0)), .int (zI (0)), .int (zI (0)), .int (zI (0)), .int (zI (0)), .int (zI (0)), .int (zI (0)), .int (zI (0)), .int (zI (0)), .int (zI (0)), .int (zI (0))]) okX7 (k := 0) (by decide) lkX7_14 rfl rfl rfl rfl rfl ((va_up_ne _ _ (by omega)).trans ((va_up_ne _ _ (by omega)).trans ((va_up_ne _ _ (by omega)).trans hobj))) (nlt rfl) rfl dX7_init_14 ?_
  refine pw_aload_n dX7_init_17 rfl ?_
  refine pw_new okX0 nwX7_9.1 nwX7_9.2.1 nwX7_9.2.2 dzX0.1 dzX0.2 (nle rfl) (by show 0 + 3 + N + 3 ≤ 3 + N + (3 + N) + (5 + (30 + NH)); omega) dX7_init_18 ?_
  refine pw_h (h' := va_up (va_up (va_up (va_up (va_up h n (pz_o 3 [.int (zI (0)), .int (zI (0)), .null])) (n + 1) (pz_z 0 N (fun _ => 0))) n (pz_o 3 [.int (zI (w)), .int (zI (H)), .ref (n + 1)])) a (pz_o 10 [.ref n, .null, .null, .int (zI (0)), .int (zI (0)), .int (zI (0)), .int (zI (0)), .int (zI (0)), .int (zI (0)), .int (zI (0)), .int (zI (0)), .int (zI (0)), .int (zI (0)), .int (zI (0)), .int (zI (0)), .int (zI (0)), .int (zI (0)), .int (zI (0))])) (n + 2) (pz_o 3 [.int (zI (0)), .int (zI (0)), .null])) rfl ?_
  refine pw_dup dX7_init_21 rfl ?_
  refine pw_iload_n dX7_init_22 rfl ?_
  refine pw_iload_n dX7_init_23 rfl ?_
  refine pw_callI (As := [.int (zI (w)), .int (zI (H))]) (b := (n + 2)) (rm := rmD 1 1 N) (mX0_init htr (va_up_self _ _ _) (by omega) hN hN2) rfl ywX0_init rfl ⟨rfl, rfl⟩ cwX7_11 ⟨nle rfl, nle rfl⟩ (nle rfl) ⟨nle rfl, by show 0 + 3 + N + 3 + N ≤ 3 + N + (3 + N) + (5 + (30 + NH)); omega⟩ dX7_init_24 ?_
  intro r2 h2 n2 hq _
  rw [hq.1, hq.2.1, hq.2.2]
  show pw E YX7_init _ _ (0 + 1 + 1 + 1 + 1) (0 + 3 + (N) + 3 + (N)) 27 [some (.ref a), some (.int (zI (w))), some (.int (zI (H)))] [.ref (n + 2), .ref a] (va_up (va_up (va_up (va_up (va_up (va_up (va_up h n (pz_o 3 [.int (zI (0)), .int (zI (0)), .null])) (n + 1) (pz_z 0 N (fun _ => 0))) n (pz_o 3 [.int (zI (w)), .int (zI (H)), .ref (n + 1)])) a (pz_o 10 [.ref n, .null, .null, .int (zI (0)), .int (zI (0)), .int (zI (0)), .int (zI (0)), .int (zI (0)), .int (zI (0)), .int (zI (0)), .int (zI (0)), .int (zI (0)), .int (zI (0)), .int (zI (0)), .int (zI (0)), .int (zI (0)), .int (zI (0)), .int (zI (0))])) (n + 2) (pz_o 3 [.int (zI (0)), .int (zI (0)), .null])) (n + 3) (pz_z 0 N (fun _ => 0))) (n + 2) (pz_o 3 [.int (zI (w)), .int (zI (H)), .ref (n + 3)])) (n + 4)
  refine pw_putF (fs' := [.ref n, .ref (n + 2), .null, .int (zI (0)), .int (zI (0)), .int (zI (0)), .int (zI (0)), .int (zI (0)), .int (zI (0)), .int (zI (0)), .int (zI (0)), .int (zI (0)), .int (zI (0)), .int (zI (0)), .int (zI (0)), .int (zI (0)), .int (zI (0)), .int (zI (0))]) okX7 (k := 1) (by decide) lkX7_20 rfl rfl rfl rfl rfl ((va_up_ne _ _ (by omega)).trans ((va_up_ne _ _ (by omega)).trans ((va_up_ne _ _ (by omega)).trans (va_up_self _ _ _)))) (nlt rfl) rfl dX7_init_27 ?_
  refine pw_aload_n dX7_init_30 rfl ?_
  refine pw_new okX1 nwX7_23.1 nwX7_23.2.1 nwX7_23.2.2 dzX1.1 dzX1.2 (nle rfl) (by show 0 + 3 + N + 3 + N + 5 ≤ 3 + N + (3 + N) + (5 + (30 + NH)); omega) dX7_init_31 ?_
  refine pw_h (h' := va_up (va_up (va_up (va_up (va_up (va_up (va_up (va_up (va_up h n (pz_o 3 [.int (zI (0)), .int (zI (0)), .null])) (n + 1) (pz_z 0 N (fun _ => 0))) n (pz_o 3 [.int (zI (w)), .int (zI (H)), .ref (n + 1)])) a (pz_o 10 [.ref n, .null, .null, .int (zI (0)), .int (zI (0)), .int (zI (0)), .int (zI (0)), .int (zI (0)), .int (zI (0)), .int (zI (0)), .int (zI (0)), .int (zI (0)), .int (zI (0)), .int (zI (0)), .int (zI (0)), .int (zI (0)), .int (zI (0)), .int (zI (0))])) (n + 2) (pz_o 3 [.int (zI (0)), .int (zI (0)), .null])) (n + 3) (pz_z 0 N (fun _ => 0))) (n + 2) (pz_o 3 [.int (zI (w)), .int (zI (H)), .ref (n + 3)])) a (pz_o 10 [.ref n, .ref (n + 2), .null, .int (zI (0)), .int (zI (0)), .int (zI (0)), .int (zI (0)), .int (zI (0)), .int (zI (0)), .int (zI (0)), .int (zI (0)), .int (zI (0)), .int (zI (0)), .int (zI (0)), .int (zI (0)), .int (zI (0)), .int (zI (0)), .int (zI (0))])) (n + 4) (pz_o 4 [.int (zI (0)), .null, .null, .int (zI (0)), .int (zI (0))])) rfl ?_
  refine pw_dup dX7_init_34 rfl ?_
  refine pw_iload_n dX7_init_35 rfl ?_
  refine pw_callI (As := [.int (zI (w))]) (b := (n + 4)) (rm := rmD 1 2 (30 + NH)) (mX1_init htr (va_up_self _ _ _) (by omega) hNH hNH2) rfl ywX1_init rfl ⟨rfl, rfl⟩ cwX7_25 ⟨nle rfl, nle rfl⟩ (nle rfl) ⟨nle rfl, by show 0 + 3 + N + 3 + N + 5 + (30 + NH) ≤ 3 + N + (3 + N) + (5 + (30 + NH)); omega⟩ dX7_init_36 ?_
  intro r2 h2 n2 hq _
  rw [hq.1, hq.2.1, hq.2.2]
  show pw E YX7_init _ _ (0 + 1 + 1 + 1 + 1 + 1 + 2) (0 + 3 + (N) + 3 + (N) + 5 + (30 + NH)) 39 [some (.ref a), some (.int (zI (w))), some (.int (zI (H)))] [.ref (n + 4), .ref a] (va_up (va_up (va_up (va_up (va_up (va_up (va_up (va_up (va_up (va_up (va_up (va_up h n (pz_o 3 [.int (zI (0)), .int (zI (0)), .null])) (n + 1) (pz_z 0 N (fun _ => 0))) n (pz_o 3 [.int (zI (w)), .int (zI (H)), .ref (n + 1)])) a (pz_o 10 [.ref n, .null, .null, .int (zI (0)), .int (zI (0)), .int (zI (0)), .int (zI (0)), .int (zI (0)), .int (zI (0)), .int (zI (0)), .int (zI (0)), .int (zI (0)), .int (zI (0)), .int (zI (0)), .int (zI (0)), .int (zI (0)), .int (zI (0)), .int (zI (0))])) (n + 2) (pz_o 3 [.int (zI (0)), .int (zI (0)), .null])) (n + 3) (pz_z 0 N (fun _ => 0))) (n + 2) (pz_o 3 [.int (zI (w)), .int (zI (H)), .ref (n + 3)])) a (pz_o 10 [.ref n, .ref (n + 2), .null, .int (zI (0)), .int (zI (0)), .int (zI (0)), .int (zI (0)), .int (zI (0)), .int (zI (0)), .int (zI (0)), .int (zI (0)), .int (zI (0)), .int (zI (0)), .int (zI (0)), .int (zI (0)), .int (zI (0)), .int (zI (0)), .int (zI (0))])) (n + 4) (pz_o 4 [.int (zI (0)), .null, .null, .int (zI (0)), .int (zI (0))])) (n + 5) (pz_z 0 30 (fun _ => 0))) (n + 6) (pz_z 0 NH (fun _ => 0))) (n + 4) (pz_o 4 [.int (zI (w)), .ref (n + 6), .ref (n + 5), .int (zI (0)), .int (zI (0))])) (n + 7)
  refine pw_putF (fs' := [.ref n, .ref (n + 2), .ref (n + 4), .int (zI (0)), .int (zI (0)), .int (zI (0)), .int (zI (0)), .int (zI (0)), .int (zI (0)), .int (zI (0)), .int (zI (0)), .int (zI (0)), .int (zI (0)), .int (zI (0)), .int (zI (0)), .int (zI (0)), .int (zI (0)), .int (zI (0))]) okX7 (k := 2) (by decide) lkX7_28 rfl rfl rfl rfl rfl ((va_up_ne _ _ (by omega)).trans ((va_up_ne _ _ (by omega)).trans ((va_up_ne _ _ (by omega)).trans ((va_up_ne _ _ (by omega)).trans (va_up_self _ _ _))))) (nlt rfl) rfl dX7_init_39 ?_
  exact pw_vret dX7_init_42 rfl (nle rfl) (by show 0 + 3 + N + 3 + N + 5 + (30 + NH) ≤ 3 + N + (3 + N) + (5 + (30 + NH)); omega) ⟨rfl, pz_upS ha, rfl⟩
