def YX4_init : pw_Y := (RX4, "<init>", cX4_init, 3, none)
theorem ywX4_init : pw_y yX4_init YX4_init 2 := ⟨by decide +kernel, by decide +kernel, by decide +kernel, pw_in 130 (by decide +kernel) (by decide +kernel), pw_in 81 (by decide +kernel) (by decide +kernel)⟩
theorem cwX4_1 : Cond.methodLink RX4 1 objectInit ∈ pw_G := pw_in 131 (by decide +kernel) (by decide +kernel)
theorem nwX4_7 : Cond.classLink RX4 7 RX8 ∈ pw_G ∧ Cond.instantiable RX8 2 ∈ pw_G ∧ Cond.initialized RX8 ∈ pw_G := ⟨pw_in 132 (by decide +kernel) (by decide +kernel), pw_in 133 (by decide +kernel) (by decide +kernel), pw_in 82 (by decide +kernel) (by decide +kernel)⟩
theorem dzX8 : (∀ j, j < 2 → defaultValue (tyX8 j) = vp_V [.null, .int (zI (0))] j) ∧ pz_ks 0 [.null, .int (zI (0))] := ⟨fun j hj => match j, hj with
  | 0, _ => rfl
  | 1, _ => rfl
  | k + 2, hj => absurd hj (by omega), ⟨trivial, trivial, trivial⟩⟩
theorem cwX4_9 : Cond.methodLinkNest RX4 9 yX8_init "PaneHouse" ∈ pw_N ∧ Cond.instanceMethod yX8_init ∈ pw_G := ⟨by decide +kernel, pw_in 135 (by decide +kernel) (by decide +kernel)⟩
theorem nwX4_16 : Cond.classLink RX4 16 RX7 ∈ pw_G ∧ Cond.instantiable RX7 18 ∈ pw_G ∧ Cond.initialized RX7 ∈ pw_G := ⟨pw_in 148 (by decide +kernel) (by decide +kernel), pw_in 149 (by decide +kernel) (by decide +kernel), pw_in 83 (by decide +kernel) (by decide +kernel)⟩
theorem dzX7 : (∀ j, j < 18 → defaultValue (tyX7 j) = vp_V [.null, .null, .null, .int (zI (0)), .int (zI (0)), .int (zI (0)), .int (zI (0)), .int (zI (0)), .int (zI (0)), .int (zI (0)), .int (zI (0)), .int (zI (0)), .int (zI (0)), .int (zI (0)), .int (zI (0)), .int (zI (0)), .int (zI (0)), .int (zI (0))] j) ∧ pz_ks 0 [.null, .null, .null, .int (zI (0)), .int (zI (0)), .int (zI (0)), .int (zI (0)), .int (zI (0)), .int (zI (0)), .int (zI (0)), .int (zI (0)), .int (zI (0)), .int (zI (0)), .int (zI (0)), .int (zI (0)), .int (zI (0)), .int (zI (0)), .int (zI (0))] := ⟨fun j hj => match j, hj with
  | 0, _ => rfl
  | 1, _ => rfl
  | 2, _ => rfl
  | 3, _ => rfl
  | 4, _ => rfl
  | 5, _ => rfl
  | 6, _ => rfl
  | 7, _ => rfl
  | 8, _ => rfl
  | 9, _ => rfl
  | 10, _ => rfl
  | 11, _ => rfl
  | 12, _ => rfl
  | 13, _ => rfl
  | 14, _ => rfl
  | 15, _ => rfl
  | 16, _ => rfl
  | 17, _ => rfl
  | k + 18, hj => absurd hj (by omega), ⟨trivial, trivial, trivial, trivial, trivial, trivial, trivial, trivial, trivial, trivial, trivial, trivial, trivial, trivial, trivial, trivial, trivial, trivial, trivial⟩⟩
theorem cwX4_18 : Cond.methodLink RX4 18 yX7_init ∈ pw_G ∧ Cond.instanceMethod yX7_init ∈ pw_G := ⟨pw_in 150 (by decide +kernel) (by decide +kernel), pw_in 151 (by decide +kernel) (by decide +kernel)⟩
theorem nwX4_25 : Cond.classLink RX4 25 RX6 ∈ pw_G ∧ Cond.instantiable RX6 6 ∈ pw_G ∧ Cond.initialized RX6 ∈ pw_G := ⟨pw_in 266 (by decide +kernel) (by decide +kernel), pw_in 267 (by decide +kernel) (by decide +kernel), pw_in 86 (by decide +kernel) (by decide +kernel)⟩
theorem dzX6 : (∀ j, j < 6 → defaultValue (tyX6 j) = vp_V [.null, .null, .int (zI (0)), .int (zI (0)), .int (zI (0)), .int (zI (0))] j) ∧ pz_ks 0 [.null, .null, .int (zI (0)), .int (zI (0)), .int (zI (0)), .int (zI (0))] := ⟨fun j hj => match j, hj with
  | 0, _ => rfl
  | 1, _ => rfl
  | 2, _ => rfl
  | 3, _ => rfl
  | 4, _ => rfl
  | 5, _ => rfl
  | k + 6, hj => absurd hj (by omega), ⟨trivial, trivial, trivial, trivial, trivial, trivial, trivial⟩⟩
theorem cwX4_27 : Cond.methodLink RX4 27 yX6_init ∈ pw_G ∧ Cond.instanceMethod yX6_init ∈ pw_G := ⟨pw_in 268 (by decide +kernel) (by decide +kernel), pw_in 269 (by decide +kernel) (by decide +kernel)⟩
theorem lkX4_30 : Cond.fieldLink RX4 30 (TX4 1).1 (TX4 1).2.1 (TX4 1).2.2.1 ∈ pw_G := pw_in 293 (by decide +kernel) (by decide +kernel)
set_option maxHeartbeats 4000000 in
set_option maxRecDepth 100000 in
theorem pz_upV {h : pz_H} {a n : Nat} {y0 y1 y2 y3 y4 y5 y6 y7 y8 y9 y10 y11 y12 y13 y14 y15 y16 y17 : pz_C} (ha : a < n) : va_up (va_up (va_up (va_up (va_up (va_up (va_up (va_up (va_up (va_up (va_up (va_up (va_up (va_up (va_up (va_up (va_up (va_up h (n) y0) (n + 1) y1) (n) y2) (a) y3) (n + 2) y4) (n + 3) y5) (n + 4) y6) (n + 5) y7) (n + 6) y8) (n + 7) y9) (n + 8) y10) (n + 9) y11) (n + 2) y12) (a) y13) (n + 10) y14) (n + 11) y15) (n + 10) y16) (a) y17 = va_up (va_up (va_up (va_up (va_up (va_up (va_up (va_up (va_up (va_up (va_up (va_up (va_up h (n) y2) (n + 1) y1) (n + 2) y12) (n + 3) y5) (n + 4) y6) (n + 5) y7) (n + 6) y8) (n + 7) y9) (n + 8) y10) (n + 9) y11) (n + 10) y16) (n + 11) y15) (a) y17 := by
  funext j
  have q0 : ∀ k, ¬ n + k = a := fun k => by omega
  have q1 : ∀ k, ¬ a = n + k := fun k => by omega
  have q2 : ¬ n = a := by omega
  have q3 : ¬ a = n := by omega
  by_cases e0 : j = a
  · subst e0; simp [va_up, q0, q1, q2, q3]
  ·
    by_cases e1 : j = n
    · subst e1; simp [va_up, q0, q1, q2, q3]
    ·
      by_cases e2 : j = n + 1
      · subst e2; simp [va_up, q0, q1, q2, q3]
      ·
        by_cases e3 : j = n + 2
        · subst e3; simp [va_up, q0, q1, q2, q3]
        ·
          by_cases e4 : j = n + 3
          · subst e4; simp [va_up, q0, q1, q2, q3]
          ·
            by_cases e5 : j = n + 4
            · subst e5; simp [va_up, q0, q1, q2, q3]
            ·
              by_cases e6 : j = n + 5
              · subst e6; simp [va_up, q0, q1, q2, q3]
              ·
                by_cases e7 : j = n + 6
                · subst e7; simp [va_up, q0, q1, q2, q3]
                ·
                  by_cases e8 : j = n + 7
                  · subst e8; simp [va_up, q0, q1, q2, q3]
                  ·
                    by_cases e9 : j = n + 8
                    · subst e9; simp [va_up, q0, q1, q2, q3]
                    ·
                      by_cases e10 : j = n + 9
                      · subst e10; simp [va_up, q0, q1, q2, q3]
                      ·
                        by_cases e11 : j = n + 10
                        · subst e11; simp [va_up, q0, q1, q2, q3]
                        ·
                          by_cases e12 : j = n + 11
                          · subst e12; simp [va_up, q0, q1, q2, q3]
                          ·
                            simp [va_up, e0, e1, e2, e3, e4, e5, e6, e7, e8, e9, e10, e11, e12]
set_option maxHeartbeats 4000000 in
set_option maxRecDepth 100000 in
/-- new Pane(width, height) -/
theorem mX4_init {E : pw_E} (htr : E.1.stackTraces = false) {h : pz_H} {n : Nat} {a : Nat} (hobj : h a = pz_o 7 [.null, .null, .null, .int (zI (0)), .int (zI (0))]) (ha : a < n) {w H : Int} {N NH : Nat} (hN : (N : Int) = w * H) (hN2 : N ≤ 100000) (hNH : (NH : Int) = 30 * w) (hNH2 : NH ≤ 100000) : pw_M E yX4_init YX4_init (rmD 3 12 (2 + 64 + 18 + (3 + N + (3 + N) + (5 + (30 + NH))) + 6 + 4)) [.ref a, .int (zI (w)), .int (zI (H))] h n (fun r h' n' => r = none ∧ h' = va_up (va_up (va_up (va_up (va_up (va_up (va_up (va_up (va_up (va_up (va_up (va_up (va_up h (n) (pz_o 11 [.ref (n + 1), .int (zI 0)])) (n + 1) (pz_z 0 64 (fun _ => 0))) (n + 2) (pz_o 10 [.ref (n + 3), .ref (n + 5), .ref (n + 7), .int (zI 0), .int (zI 0), .int (zI 0), .int (zI 0), .int (zI 0), .int (zI 0), .int (zI 0), .int (zI 0), .int (zI 0), .int (zI 0), .int (zI 0), .int (zI 0), .int (zI 0), .int (zI 0), .int (zI 0)])) (n + 3) (pz_o 3 [.int (zI w), .int (zI H), .ref (n + 4)])) (n + 4) (pz_z 0 N (fun _ => 0))) (n + 5) (pz_o 3 [.int (zI w), .int (zI H), .ref (n + 6)])) (n + 6) (pz_z 0 N (fun _ => 0))) (n + 7) (pz_o 4 [.int (zI w), .ref (n + 9), .ref (n + 8), .int (zI 0), .int (zI 0)])) (n + 8) (pz_z 0 30 (fun _ => 0))) (n + 9) (pz_z 0 NH (fun _ => 0))) (n + 10) (pz_o 9 [.ref (n + 2), .ref (n + 11), .int (zI 0), .int (zI 0), .int (zI 0), .int (zI 0)])) (n + 11) (pz_z 0 4 (fun _ => 0))) (a) (pz_o 7 [.ref (n + 2), .ref (n + 10), .ref n, .int (zI 0), .int (zI 0)]) ∧ n' = n + 12) (fun _ _ _ => False) := by
  refine pw_M_of (lv := [some (.ref a), some (.int (zI (w))), some (.int (zI (H)))]) (by decide) rfl rfl htr (nle rfl) rfl (fun L => ?_)
  refine pw_aload_n dX4_init_0 rfl ?_
  refine pw_objInit cwX4_1 dX4_init_1 ⟨nle rfl, nle rfl⟩ ?_
  refine pw_aload_n dX4_init_4 rfl ?_
  refine pw_new okX8 nwX4_7.1 nwX4_7.2.1 nwX4_7.2.2 dzX8.1 dzX8.2 (nle rfl) (by show 0 + 2 ≤ 2 + 64 + 18 + (3 + N + (3 + N) + (5 + (30 + NH))) + 6 + 4; omega) dX4_init_5 ?_
  refine pw_h (h' := va_up h n (pz_o 11 [.null, .int (zI (0))])) rfl ?_
  refine pw_dup dX4_init_8 rfl ?_
  refine pw_callIN (As := []) (b := n) (rm := rmD 1 1 64) (mX8_init htr (va_up_self _ _ _) (by omega)) rfl ywX8_init rfl ⟨rfl, rfl⟩ cwX4_9 ⟨nle rfl, nle rfl⟩ (nle rfl) ⟨nle rfl, by show 0 + 2 + 64 ≤ 2 + 64 + 18 + (3 + N + (3 + N) + (5 + (30 + NH))) + 6 + 4; omega⟩ dX4_init_9 ?_
  intro r2 h2 n2 hq _
  rw [hq.1, hq.2.1, hq.2.2]
  show pw E YX4_init _ _ (0 + 1 + 1) (0 + 2 + (64)) 12 [some (.ref a), some (.int (zI (w))), some (.int (zI (H)))] [.ref n, .ref a] (va_up (va_up (va_up h n (pz_o 11 [.null, .int (zI (0))])) (n + 1) (pz_z 0 64 (fun _ => 0))) n (pz_o 11 [.ref (n + 1), .int (zI (0))])) (n + 2)
  refine pw_putF (fs' := [.null, .null, .ref n, .int (zI (0)), .int (zI (0))]) okX4 (k := 2) (by decide) lkX4_10 rfl rfl rfl rfl rfl ((va_up_ne _ _ (by omega)).trans ((va_up_ne _ _ (by omega)).trans ((va_up_ne _ _ (by omega)).trans hobj))) (nlt rfl) rfl dX4_init_12 ?_
  refine pw_aload_n dX4_init_15 rfl ?_
  refine pw_new okX7 nwX4_16.1 nwX4_16.2.1 nwX4_16.2.2 dzX7.1 dzX7.2 (nle rfl) (by show 0 + 2 + 64 + 18 ≤ 2 + 64 + 18 + (3 + N + (3 + N) + (5 + (30 + NH))) + 6 + 4; omega) dX4_init_16 ?_
  refine pw_h (h' := va_up (va_up (va_up (va_up (va_up h n (pz_o 11 [.null, .int (zI (0))])) (n + 1) (pz_z 0 64 (fun _ => 0))) n (pz_o 11 [.ref (n + 1), .int (zI (0))])) a (pz_o 7 [.null, .null, .ref n, .int (zI (0)), .int (zI (0))])) (n + 2) (pz_o 10 [.null, .null, .null, .int (zI (0)), .int (zI (0)), .int (zI (0)), .int (zI (0)), .int (zI (0)), .int (zI (0)), .int (zI (0)), .int (zI (0)), .int (zI (0)), .int (zI (0)), .int (zI (0)), .int (zI (0)), .int (zI (0)), .int (zI (0)), .int (zI (0))])) rfl ?_
  refine pw_dup dX4_init_19 rfl ?_
  refine pw_iload_n dX4_init_20 rfl ?_
  refine pw_iload_n dX4_init_21 rfl ?_
  refine pw_callI (As := [.int (zI (w)), .int (zI (H))]) (b := (n + 2)) (rm := rmD 2 7 (3 + N + (3 + N) + (5 + (30 + NH)))) (mX7_init htr (va_up_self _ _ _) (by omega) hN hN2 hNH hNH2) rfl ywX7_init rfl ⟨rfl, rfl⟩ cwX4_18 ⟨nle rfl, nle rfl⟩ (nle rfl) ⟨nle rfl, by show 0 + 2 + 64 + 18 + (3 + N + (3 + N) + (5 + (30 + NH))) ≤ 2 + 64 + 18 + (3 + N + (3 + N) + (5 + (30 + NH))) + 6 + 4; omega⟩ dX4_init_22 ?_
  intro r2 h2 n2 hq _
  rw [hq.1, hq.2.1, hq.2.2]
  show pw E YX4_init _ _ (0 + 1 + 1 + 1 + 7) (0 + 2 + (64) + 18 + (3 + N + (3 + N) + (5 + (30 + NH)))) 25 [some (.ref a), some (.int (zI (w))), some (.int (zI (H)))] [.ref (n + 2), .ref a] (va_up (va_up (va_up (va_up (va_up (va_up (va_up (va_up (va_up (va_up (va_up (va_up (va_up h n (pz_o 11 [.null, .int (zI (0))])) (n + 1) (pz_z 0 64 (fun _ => 0))) n (pz_o 11 [.ref (n + 1), .int (zI (0))])) a (pz_o 7 [.null, .null, .ref n, .int (zI (0)), .int (zI (0))])) (n + 2) (pz_o 10 [.null, .null, .null, .int (zI (0)), .int (zI (0)), .int (zI (0)), .int (zI (0)), .int (zI (0)), .int (zI (0)), .int (zI (0)), .int (zI (0)), .int (zI (0)), .int (zI (0)), .int (zI (0)), .int (zI (0)), .int (zI (0)), .int (zI (0)), .int (zI (0))])) (n + 3) (pz_o 3 [.int (zI w), .int (zI H), .ref (n + 4)])) (n + 4) (pz_z 0 N (fun _ => 0))) (n + 5) (pz_o 3 [.int (zI w), .int (zI H), .ref (n + 6)])) (n + 6) (pz_z 0 N (fun _ => 0))) (n + 7) (pz_o 4 [.int (zI w), .ref (n + 9), .ref (n + 8), .int (zI 0), .int (zI 0)])) (n + 8) (pz_z 0 30 (fun _ => 0))) (n + 9) (pz_z 0 NH (fun _ => 0))) (n + 2) (pz_o 10 [.ref (n + 3), .ref (n + 5), .ref (n + 7), .int (zI (0)), .int (zI (0)), .int (zI (0)), .int (zI (0)), .int (zI (0)), .int (zI (0)), .int (zI (0)), .int (zI (0)), .int (zI (0)), .int (zI (0)), .int (zI (0)), .int (zI (0)), .int (zI (0)), .int (zI (0)), .int (zI (0))])) (n + 10)
  refine pw_putF (fs' := [.ref (n + 2), .null, .ref n, .int (zI (0)), .int (zI (0))]) okX4 (k := 0) (by decide) lkX4_21 rfl rfl rfl rfl rfl ((va_up_ne _ _ (by omega)).trans ((va_up_ne _ _ (by omega)).trans ((va_up_ne _ _ (by omega)).trans ((va_up_ne _ _ (by omega)).trans ((va_up_ne _ _ (by omega)).trans ((va_up_ne _ _ (by omega)).trans ((va_up_ne _ _ (by omega)).trans ((va_up_ne _ _ (by omega)).trans ((va_up_ne _ _ (by omega)).trans (va_up_self _ _ _)))))))))) (nlt rfl) rfl dX4_init_25 ?_
  refine pw_aload_n dX4_init_28 rfl ?_
  refine pw_new okX6 nwX4_25.1 nwX4_25.2.1 nwX4_25.2.2 dzX6.1 dzX6.2 (nle rfl) (by show 0 + 2 + 64 + 18 + (3 + N + (3 + N) + (5 + (30 + NH))) + 6 ≤ 2 + 64 + 18 + (3 + N + (3 + N) + (5 + (30 + NH))) + 6 + 4; omega) dX4_init_29 ?_
  refine pw_h (h' := va_up (va_up (va_up (va_up (va_up (va_up (va_up (va_up (va_up (va_up (va_up (va_up (va_up (va_up (va_up h n (pz_o 11 [.null, .int (zI (0))])) (n + 1) (pz_z 0 64 (fun _ => 0))) n (pz_o 11 [.ref (n + 1), .int (zI (0))])) a (pz_o 7 [.null, .null, .ref n, .int (zI (0)), .int (zI (0))])) (n + 2) (pz_o 10 [.null, .null, .null, .int (zI (0)), .int (zI (0)), .int (zI (0)), .int (zI (0)), .int (zI (0)), .int (zI (0)), .int (zI (0)), .int (zI (0)), .int (zI (0)), .int (zI (0)), .int (zI (0)), .int (zI (0)), .int (zI (0)), .int (zI (0)), .int (zI (0))])) (n + 3) (pz_o 3 [.int (zI w), .int (zI H), .ref (n + 4)])) (n + 4) (pz_z 0 N (fun _ => 0))) (n + 5) (pz_o 3 [.int (zI w), .int (zI H), .ref (n + 6)])) (n + 6) (pz_z 0 N (fun _ => 0))) (n + 7) (pz_o 4 [.int (zI w), .ref (n + 9), .ref (n + 8), .int (zI 0), .int (zI 0)])) (n + 8) (pz_z 0 30 (fun _ => 0))) (n + 9) (pz_z 0 NH (fun _ => 0))) (n + 2) (pz_o 10 [.ref (n + 3), .ref (n + 5), .ref (n + 7), .int (zI (0)), .int (zI (0)), .int (zI (0)), .int (zI (0)), .int (zI (0)), .int (zI (0)), .int (zI (0)), .int (zI (0)), .int (zI (0)), .int (zI (0)), .int (zI (0)), .int (zI (0)), .int (zI (0)), .int (zI (0)), .int (zI (0))])) a (pz_o 7 [.ref (n + 2), .null, .ref n, .int (zI (0)), .int (zI (0))])) (n + 10) (pz_o 9 [.null, .null, .int (zI (0)), .int (zI (0)), .int (zI (0)), .int (zI (0))])) rfl ?_
  refine pw_dup dX4_init_32 rfl ?_
  refine pw_aload_n dX4_init_33 rfl ?_
  refine pw_get (v := .ref (n + 2)) okX4 (k := 0) (by decide) lkX4_21 ((va_up_ne _ _ (by omega)).trans (va_up_self _ _ _)) rfl dX4_init_34 ?_
  refine pw_callI (As := [.ref (n + 2)]) (b := (n + 10)) (rm := rmD 1 1 4) (mX6_init htr (va_up_self _ _ _) (by omega)) rfl ywX6_init rfl ⟨rfl, rfl⟩ cwX4_27 ⟨nle rfl, nle rfl⟩ (nle rfl) ⟨nle rfl, by show 0 + 2 + 64 + 18 + (3 + N + (3 + N) + (5 + (30 + NH))) + 6 + 4 ≤ 2 + 64 + 18 + (3 + N + (3 + N) + (5 + (30 + NH))) + 6 + 4; omega⟩ dX4_init_37 ?_
  intro r2 h2 n2 hq _
  rw [hq.1, hq.2.1, hq.2.2]
  show pw E YX4_init _ _ (0 + 1 + 1 + 1 + 7 + 1 + 1) (0 + 2 + (64) + 18 + (3 + N + (3 + N) + (5 + (30 + NH))) + 6 + (4)) 40 [some (.ref a), some (.int (zI (w))), some (.int (zI (H)))] [.ref (n + 10), .ref a] (va_up (va_up (va_up (va_up (va_up (va_up (va_up (va_up (va_up (va_up (va_up (va_up (va_up (va_up (va_up (va_up (va_up h n (pz_o 11 [.null, .int (zI (0))])) (n + 1) (pz_z 0 64 (fun _ => 0))) n (pz_o 11 [.ref (n + 1), .int (zI (0))])) a (pz_o 7 [.null, .null, .ref n, .int (zI (0)), .int (zI (0))])) (n + 2) (pz_o 10 [.null, .null, .null, .int (zI (0)), .int (zI (0)), .int (zI (0)), .int (zI (0)), .int (zI (0)), .int (zI (0)), .int (zI (0)), .int (zI (0)), .int (zI (0)), .int (zI (0)), .int (zI (0)), .int (zI (0)), .int (zI (0)), .int (zI (0)), .int (zI (0))])) (n + 3) (pz_o 3 [.int (zI w), .int (zI H), .ref (n + 4)])) (n + 4) (pz_z 0 N (fun _ => 0))) (n + 5) (pz_o 3 [.int (zI w), .int (zI H), .ref (n + 6)])) (n + 6) (pz_z 0 N (fun _ => 0))) (n + 7) (pz_o 4 [.int (zI w), .ref (n + 9), .ref (n + 8), .int (zI 0), .int (zI 0)])) (n + 8) (pz_z 0 30 (fun _ => 0))) (n + 9) (pz_z 0 NH (fun _ => 0))) (n + 2) (pz_o 10 [.ref (n + 3), .ref (n + 5), .ref (n + 7), .int (zI (0)), .int (zI (0)), .int (zI (0)), .int (zI (0)), .int (zI (0)), .int (zI (0)), .int (zI (0)), .int (zI (0)), .int (zI (0)), .int (zI (0)), .int (zI (0)), .int (zI (0)), .int (zI (0)), .int (zI (0)), .int (zI (0))])) a (pz_o 7 [.ref (n + 2), .null, .ref n, .int (zI (0)), .int (zI (0))])) (n + 10) (pz_o 9 [.null, .null, .int (zI (0)), .int (zI (0)), .int (zI (0)), .int (zI (0))])) (n + 11) (pz_z 0 4 (fun _ => 0))) (n + 10) (pz_o 9 [.ref (n + 2), .ref (n + 11), .int (zI (0)), .int (zI (0)), .int (zI (0)), .int (zI (0))])) (n + 12)
  refine pw_putF (fs' := [.ref (n + 2), .ref (n + 10), .ref n, .int (zI (0)), .int (zI (0))]) okX4 (k := 1) (by decide) lkX4_30 rfl rfl rfl rfl rfl ((va_up_ne _ _ (by omega)).trans ((va_up_ne _ _ (by omega)).trans ((va_up_ne _ _ (by omega)).trans (va_up_self _ _ _)))) (nlt rfl) rfl dX4_init_40 ?_
  exact pw_vret dX4_init_43 rfl (nle rfl) (by show 0 + 2 + 64 + 18 + (3 + N + (3 + N) + (5 + (30 + NH))) + 6 + 4 ≤ 2 + 64 + 18 + (3 + N + (3 + N) + (5 + (30 + NH))) + 6 + 4; omega) ⟨rfl, pz_upV ha, rfl⟩
