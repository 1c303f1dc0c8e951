def YX9_init : pw_Y := (RX9, "<init>", cX9_init, 4, none)
theorem ywX9_init : pw_y yX9_init YX9_init 2 := ⟨by decide +kernel, by decide +kernel, by decide +kernel, pw_in 112 (by decide +kernel) (by decide +kernel), pw_in 79 (by decide +kernel) (by decide +kernel)⟩
theorem nwX9_9 : Cond.classLink RX9 9 RX4 ∈ pw_G ∧ Cond.instantiable RX4 5 ∈ pw_G ∧ Cond.initialized RX4 ∈ pw_G := ⟨pw_in 116 (by decide +kernel) (by decide +kernel), pw_in 127 (by decide +kernel) (by decide +kernel), pw_in 81 (by decide +kernel) (by decide +kernel)⟩
theorem dzX4 : (∀ j, j < 5 → defaultValue (tyX4 j) = vp_V [.null, .null, .null, .int (zI (0)), .int (zI (0))] j) ∧ pz_ks 0 [.null, .null, .null, .int (zI (0)), .int (zI (0))] := ⟨fun j hj => match j, hj with
  | 0, _ => rfl
  | 1, _ => rfl
  | 2, _ => rfl
  | 3, _ => rfl
  | 4, _ => rfl
  | k + 5, hj => absurd hj (by omega), ⟨trivial, trivial, trivial, trivial, trivial, trivial⟩⟩
theorem cwX9_30 : Cond.methodLink RX9 30 yX4_init ∈ pw_G ∧ Cond.instanceMethod yX4_init ∈ pw_G := ⟨pw_in 128 (by decide +kernel) (by decide +kernel), pw_in 129 (by decide +kernel) (by decide +kernel)⟩
theorem cwX9_1 : Cond.methodLink RX9 1 objectInit ∈ pw_G := pw_in 113 (by decide +kernel) (by decide +kernel)
theorem naX9_9 : Cond.classLink RX9 9 "PaneHouse$Pane" ∈ pw_G := pw_in 116 (by decide +kernel) (by decide +kernel)
theorem cwX9_19 : Cond.methodLink RX9 19 yX9_nearest ∈ pw_G ∧ Cond.static yX9_nearest ∈ pw_G := ⟨pw_in 118 (by decide +kernel) (by decide +kernel), pw_in 119 (by decide +kernel) (by decide +kernel)⟩
theorem nwX9_33 : Cond.classLink RX9 33 RX2 ∈ pw_G ∧ Cond.instantiable RX2 2 ∈ pw_G ∧ Cond.initialized RX2 ∈ pw_G := ⟨pw_in 311 (by decide +kernel) (by decide +kernel), pw_in 312 (by decide +kernel) (by decide +kernel), pw_in 87 (by decide +kernel) (by decide +kernel)⟩
theorem dzX2 : (∀ j, j < 2 → defaultValue (tyX2 j) = vp_V [.null, .null] j) ∧ pz_ks 0 [.null, .null] := ⟨fun j hj => match j, hj with
  | 0, _ => rfl
  | 1, _ => rfl
  | k + 2, hj => absurd hj (by omega), ⟨trivial, trivial, trivial⟩⟩
theorem cwX9_35 : Cond.methodLink RX9 35 yX2_init ∈ pw_G ∧ Cond.instanceMethod yX2_init ∈ pw_G := ⟨pw_in 313 (by decide +kernel) (by decide +kernel), pw_in 314 (by decide +kernel) (by decide +kernel)⟩
theorem nwX9_40 : Cond.classLink RX9 40 RX3 ∈ pw_G ∧ Cond.instantiable RX3 8 ∈ pw_G ∧ Cond.initialized RX3 ∈ pw_G := ⟨pw_in 369 (by decide +kernel) (by decide +kernel), pw_in 370 (by decide +kernel) (by decide +kernel), pw_in 89 (by decide +kernel) (by decide +kernel)⟩
theorem dzX3 : (∀ j, j < 8 → defaultValue (tyX3 j) = vp_V [.int (zI (0)), .null, .null, .int (zI (0)), .int (zI (0)), .int (zI (0)), .int (zI (0)), .int (zI (0))] j) ∧ pz_ks 0 [.int (zI (0)), .null, .null, .int (zI (0)), .int (zI (0)), .int (zI (0)), .int (zI (0)), .int (zI (0))] := ⟨fun j hj => match j, hj with
  | 0, _ => rfl
  | 1, _ => rfl
  | 2, _ => rfl
  | 3, _ => rfl
  | 4, _ => rfl
  | 5, _ => rfl
  | 6, _ => rfl
  | 7, _ => rfl
  | k + 8, hj => absurd hj (by omega), ⟨trivial, trivial, trivial, trivial, trivial, trivial, trivial, trivial, trivial⟩⟩
theorem cwX9_42 : Cond.methodLink RX9 42 yX3_init ∈ pw_G ∧ Cond.instanceMethod yX3_init ∈ pw_G := ⟨pw_in 371 (by decide +kernel) (by decide +kernel), pw_in 372 (by decide +kernel) (by decide +kernel)⟩
set_option maxHeartbeats 2000000 in
set_option maxRecDepth 100000 in
theorem lX9_new {E : pw_E} (htr : E.1.stackTraces = false) {Kk : pw_K} {w H w0 h0 : Int} {N NH NB NL B : Nat} {hh : pz_H} (hG : geoH w H N NH NB NL) : ∀ (j : Nat) (i : Int) (h : pz_H), (8 - i).toNat = j → 0 ≤ i → i ≤ 8 → ciAt w H N NH B i.toNat hh h → (∀ h', ciAt w H N NH B 8 hh h' → pw E YX9_init (rmD 6 114 (hSl N NH NB NL)) Kk 106 (408 + (140 + 2 * N + NH) * 8) 80 [some (.ref B), some (.int (zI w0)), some (.int (zI h0)), some (.int (zI 8))] [] h' (B + 107)) → pw E YX9_init (rmD 6 114 (hSl N NH NB NL)) Kk (2 + 13 * i.toNat) (408 + (140 + 2 * N + NH) * i.toNat) 47 [some (.ref B), some (.int (zI (w0))), some (.int (zI (h0))), some (.int (zI (i)))] [] h (B + 3 + 13 * i.toNat) := by
  obtain ⟨⟨gw, gH, gN, gN2, gNH⟩, gNB, gNL⟩ := hG
  intro j
  induction j with
  | zero =>
    intro i h hj h1 h2 hc hQ
    have e8 : i = 8 := by omega
    subst e8
    refine pw_iload_n dX9_init_47 rfl ?_
    refine pw_bipush (v := zI (8)) dX9_init_48 (by decide) ?_
    refine pw_icmp_ge (tgt := 80) dX9_init_50 rfl (by omega) (by omega) (fun c50 => ?_) (fun c50 => ?_)
    ·
      exact hQ h hc
    · exfalso; omega
  | succ j ih =>
    intro i h hj h1 h2 hc hQ
    refine pw_iload_n dX9_init_47 rfl ?_
    refine pw_bipush (v := zI (8)) dX9_init_48 (by decide) ?_
    refine pw_icmp_ge (tgt := 80) dX9_init_50 rfl (by omega) (by omega) (fun c50 => ?_) (fun c50 => ?_)
    · exfalso; omega
    ·
      refine pw_aload_n dX9_init_53 rfl ?_
      refine pw_get (v := .ref (B + 1)) okX9 (k := 2) (by decide) lkX9_11 hc.1 rfl dX9_init_54 ?_
      refine pw_iload_n dX9_init_57 rfl ?_
      refine pw_new okX4 nwX9_9.1 nwX9_9.2.1 nwX9_9.2.2 dzX4.1 dzX4.2 (by show 2 + 13 * i.toNat + 1 ≤ 114; omega) (by show 408 + (140 + 2 * N + NH) * i.toNat + 5 ≤ hSl N NH NB NL; have z := Nat.mul_le_mul_left (140 + 2 * N + NH) (show i.toNat ≤ 7 by omega); unfold hSl; omega) dX9_init_58 ?_
      refine pw_dup dX9_init_61 rfl ?_
      refine pw_aload_n dX9_init_62 rfl ?_
      refine pw_get (v := .int (zI (w))) okX9 (k := 0) (by decide) lkX9_23 ((va_up_ne _ _ (by omega)).trans hc.1) rfl dX9_init_63 ?_
      refine pw_aload_n dX9_init_66 rfl ?_
      refine pw_get (v := .int (zI (H))) okX9 (k := 1) (by decide) lkX9_27 ((va_up_ne _ _ (by omega)).trans hc.1) rfl dX9_init_67 ?_
      refine pw_callI (As := [.int (zI (w)), .int (zI (H))]) (b := (B + 3 + 13 * i.toNat)) (rm := rmD 3 12 (2 + 64 + 18 + (3 + N + (3 + N) + (5 + (30 + NH))) + 6 + 4)) (mX4_init htr (va_up_self _ _ _) (by omega) gN (by omega) gNH (by omega)) rfl ywX4_init rfl ⟨rfl, rfl⟩ cwX9_30 ⟨nle rfl, nle rfl⟩ (nle rfl) ⟨by show 2 + 13 * i.toNat + 1 + 12 ≤ 114; omega, by show 408 + (140 + 2 * N + NH) * i.toNat + 5 + (2 + 64 + 18 + (3 + N + (3 + N) + (5 + (30 + NH))) + 6 + 4) ≤ hSl N NH NB NL; have z := Nat.mul_le_mul_left (140 + 2 * N + NH) (show i.toNat ≤ 7 by omega); unfold hSl; omega⟩ dX9_init_70 ?_
      intro r_9 h_9 n_9 hq _
      rw [hq.1, hq.2.1, hq.2.2]
      show pw E YX9_init _ _ (2 + 13 * i.toNat + 1 + 12) (408 + (140 + 2 * N + NH) * i.toNat + 5 + (2 + 64 + 18 + (3 + N + (3 + N) + (5 + (30 + NH))) + 6 + 4)) 73 [some (.ref B), some (.int (zI (w0))), some (.int (zI (h0))), some (.int (zI (i)))] [.ref (B + 3 + 13 * i.toNat), .int (zI (i)), .ref (B + 1)] (pnHp w H N NH (B + 3 + 13 * i.toNat) (va_up h (B + 3 + 13 * i.toNat) (pz_o 7 [.null, .null, .null, .int (zI (0)), .int (zI (0))]))) (B + 3 + 13 * i.toNat + 1 + 12)
      refine pw_aast (t := 3) rfl ((pnHp_out (by omega)).trans ((va_up_ne _ _ (by omega)).trans hc.2.1)) (by omega) (by decide) pn_init.2.1 rfl dX9_init_73 ?_
      refine pw_ziinc (lv' := [some (.ref B), some (.int (zI (w0))), some (.int (zI (h0))), some (.int (zI (i + 1)))]) dX9_init_74 rfl (by decide) rfl rfl ?_
      refine pw_goto (tgt := 47) dX9_init_77 rfl ?_
      have e9 : (i + 1).toNat = i.toNat + 1 := by omega
      have hc2 := ci_next (x := pz_o 7 [.null, .null, .null, .int (zI (0)), .int (zI (0))]) hc
      rw [← e9] at hc2
      refine pw_u (uc' := 2 + 13 * (i + 1).toNat) (us' := 408 + (140 + 2 * N + NH) * (i + 1).toNat) (n' := B + 3 + 13 * (i + 1).toNat) (by rw [e9]; omega) (by rw [e9, Nat.mul_succ]; omega) (by rw [e9]; omega) ?_
      exact ih (i + 1) _ (by omega) (by omega) (by omega) hc2 hQ
set_option maxHeartbeats 2000000 in
set_option maxRecDepth 100000 in
theorem lX9_new2 {E : pw_E} (htr : E.1.stackTraces = false) {Kk : pw_K} {w H w0 h0 : Int} {N NH NB NL B : Nat} {hh h : pz_H} (hG : geoH w H N NH NB NL) (hc : ciAt w H N NH B 8 hh h) (hQ : ∀ (h' : pz_H) (q : Option Value), hAt w H N NH NB NL B (hS0 w H N B) h' → (∀ a, a < B → h' a = hh a) → pw E YX9_init (rmD 6 114 (hSl N NH NB NL)) Kk 114 (hSl N NH NB NL) 143 [some (.ref B), some (.int (zI w0)), some (.int (zI h0)), q] [] h' (B + 115)) : pw E YX9_init (rmD 6 114 (hSl N NH NB NL)) Kk 106 (408 + (140 + 2 * N + NH) * 8) 80 [some (.ref B), some (.int (zI w0)), some (.int (zI h0)), some (.int (zI 8))] [] h (B + 107) := by
  obtain ⟨⟨gw, gH, gN, gN2, gNH⟩, gNB, gNL⟩ := hG
  refine pw_aload_n dX9_init_80 rfl ?_
  refine pw_new okX2 nwX9_33.1 nwX9_33.2.1 nwX9_33.2.2 dzX2.1 dzX2.2 (nle rfl) (by show 408 + (140 + 2 * N + NH) * 8 + 2 ≤ hSl N NH NB NL; unfold hSl; omega) dX9_init_81 ?_
  refine pw_h (h' := va_up h (B + 107) (pz_o 5 [.null, .null])) rfl ?_
  refine pw_dup dX9_init_84 rfl ?_
  refine pw_aload_n dX9_init_85 rfl ?_
  refine pw_get (v := .int (zI (w))) okX9 (k := 0) (by decide) lkX9_23 ((va_up_ne _ _ (by omega)).trans hc.1) rfl dX9_init_86 ?_
  refine pw_aload_n dX9_init_89 rfl ?_
  refine pw_get (v := .int (zI (H))) okX9 (k := 1) (by decide) lkX9_27 ((va_up_ne _ _ (by omega)).trans hc.1) rfl dX9_init_90 ?_
  refine pw_callI (As := [.int (zI (w)), .int (zI (H))]) (b := (B + 107)) (rm := rmD 2 2 16) (mX2_init htr (va_up_self _ _ _) (by omega)) rfl ywX2_init rfl ⟨rfl, rfl⟩ cwX9_35 ⟨nle rfl, nle rfl⟩ (nle rfl) ⟨nle rfl, by show 408 + (140 + 2 * N + NH) * 8 + 2 + 16 ≤ hSl N NH NB NL; unfold hSl; omega⟩ dX9_init_93 ?_
  intro r_9 h_9 n_9 hq _
  rw [hq.1, hq.2.1, hq.2.2]
  show pw E YX9_init _ _ (106 + 1 + 2) (408 + (140 + 2 * N + NH) * 8 + 2 + 16) 96 [some (.ref B), some (.int (zI (w0))), some (.int (zI (h0))), some (.int (zI (8)))] [.ref (B + 107), .ref B] (va_up (va_up (va_up (va_up h (B + 107) (pz_o 5 [.null, .null])) (B + 108) (pz_r 4 8 (va_up (fun _ => none) 0 (some (B + 109))))) (B + 109) (pz_o 8 [.int (zI 0), .int (zI 0), .int (zI w), .int (zI H), .int (zI 0), .null, .null, .null])) (B + 107) (pz_o 5 [.ref (B + 108), .ref (B + 109)])) (B + 110)
  refine pw_putF (fs' := [.int (zI (w)), .int (zI (H)), .ref (B + 1), .ref (B + 107), .null, .null, .null, .ref (B + 2), .int (zI (0)), .int (zI (0)), .int (zI (0))]) okX9 (k := 3) (by decide) lkX9_36 rfl rfl rfl rfl rfl ((va_up_ne _ _ (by omega)).trans ((va_up_ne _ _ (by omega)).trans ((va_up_ne _ _ (by omega)).trans ((va_up_ne _ _ (by omega)).trans hc.1)))) (nlt rfl) rfl dX9_init_96 ?_
  refine pw_aload_n dX9_init_99 rfl ?_
  refine pw_new okX3 nwX9_40.1 nwX9_40.2.1 nwX9_40.2.2 dzX3.1 dzX3.2 (nle rfl) (by show 408 + (140 + 2 * N + NH) * 8 + 2 + 16 + 8 ≤ hSl N NH NB NL; unfold hSl; omega) dX9_init_100 ?_
  refine pw_h (h' := va_up (va_up (va_up (va_up (va_up (va_up h (B + 107) (pz_o 5 [.null, .null])) (B + 108) (pz_r 4 8 (va_up (fun _ => none) 0 (some (B + 109))))) (B + 109) (pz_o 8 [.int (zI 0), .int (zI 0), .int (zI w), .int (zI H), .int (zI 0), .null, .null, .null])) (B + 107) (pz_o 5 [.ref (B + 108), .ref (B + 109)])) B (pz_o 12 [.int (zI (w)), .int (zI (H)), .ref (B + 1), .ref (B + 107), .null, .null, .null, .ref (B + 2), .int (zI (0)), .int (zI (0)), .int (zI (0))])) (B + 110) (pz_o 6 [.int (zI (0)), .null, .null, .int (zI (0)), .int (zI (0)), .int (zI (0)), .int (zI (0)), .int (zI (0))])) rfl ?_
  refine pw_dup dX9_init_103 rfl ?_
  refine pw_aload_n dX9_init_104 rfl ?_
  refine pw_get (v := .int (zI (w))) okX9 (k := 0) (by decide) lkX9_23 ((va_up_ne _ _ (by omega)).trans (va_up_self _ _ _)) rfl dX9_init_105 ?_
  refine pw_aload_n dX9_init_108 rfl ?_
  refine pw_get (v := .int (zI (H))) okX9 (k := 1) (by decide) lkX9_27 ((va_up_ne _ _ (by omega)).trans (va_up_self _ _ _)) rfl dX9_init_109 ?_
  refine pw_callI (As := [.int (zI (w)), .int (zI (H))]) (b := (B + 110)) (rm := rmD 1 2 (N + NB)) (mX3_init htr (va_up_self _ _ _) (by omega) gN (by omega) gNB (by omega)) rfl ywX3_init rfl ⟨rfl, rfl⟩ cwX9_42 ⟨nle rfl, nle rfl⟩ (nle rfl) ⟨nle rfl, by show 408 + (140 + 2 * N + NH) * 8 + 2 + 16 + 8 + (N + NB) ≤ hSl N NH NB NL; unfold hSl; omega⟩ dX9_init_112 ?_
  intro r_9 h_9 n_9 hq _
  rw [hq.1, hq.2.1, hq.2.2]
  show pw E YX9_init _ _ (106 + 1 + 2 + 1 + 2) (408 + (140 + 2 * N + NH) * 8 + 2 + 16 + 8 + (N + NB)) 115 [some (.ref B), some (.int (zI (w0))), some (.int (zI (h0))), some (.int (zI (8)))] [.ref (B + 110), .ref B] (va_up (va_up (va_up (va_up (va_up (va_up (va_up (va_up (va_up h (B + 107) (pz_o 5 [.null, .null])) (B + 108) (pz_r 4 8 (va_up (fun _ => none) 0 (some (B + 109))))) (B + 109) (pz_o 8 [.int (zI 0), .int (zI 0), .int (zI w), .int (zI H), .int (zI 0), .null, .null, .null])) (B + 107) (pz_o 5 [.ref (B + 108), .ref (B + 109)])) B (pz_o 12 [.int (zI (w)), .int (zI (H)), .ref (B + 1), .ref (B + 107), .null, .null, .null, .ref (B + 2), .int (zI (0)), .int (zI (0)), .int (zI (0))])) (B + 110) (pz_o 6 [.int (zI (0)), .null, .null, .int (zI (0)), .int (zI (0)), .int (zI (0)), .int (zI (0)), .int (zI (0))])) (B + 111) (pz_z 0 N (zfill (fun _ => 0) 0 N 32))) (B + 112) (pz_z 0 NB (fun _ => 0))) (B + 110) (pz_o 6 [.int (zI (w)), .ref (B + 111), .ref (B + 112), .int (zI (0)), .int (zI (0)), .int (zI (0)), .int (zI (0)), .int (zI (1))])) (B + 113)
  refine pw_putF (fs' := [.int (zI (w)), .int (zI (H)), .ref (B + 1), .ref (B + 107), .ref (B + 110), .null, .null, .ref (B + 2), .int (zI (0)), .int (zI (0)), .int (zI (0))]) okX9 (k := 4) (by decide) lkX9_43 rfl rfl rfl rfl rfl ((va_up_ne _ _ (by omega)).trans ((va_up_ne _ _ (by omega)).trans ((va_up_ne _ _ (by omega)).trans ((va_up_ne _ _ (by omega)).trans (va_up_self _ _ _))))) (nlt rfl) rfl dX9_init_115 ?_
  refine pw_aload_n dX9_init_118 rfl ?_
  refine pw_aload_n dX9_init_119 rfl ?_
  refine pw_get (v := .int (zI (w))) okX9 (k := 0) (by decide) lkX9_23 (va_up_self _ _ _) rfl dX9_init_120 ?_
  refine pw_aload_n dX9_init_123 rfl ?_
  refine pw_get (v := .int (zI (H))) okX9 (k := 1) (by decide) lkX9_27 (va_up_self _ _ _) rfl dX9_init_124 ?_
  refine pw_zimul dX9_init_127 ?_
  refine pw_newi (t := 0) rfl naInt (by omega) (nle rfl) (by show 408 + (140 + 2 * N + NH) * 8 + 2 + 16 + 8 + (N + NB) + (w * H).toNat ≤ hSl N NH NB NL; unfold hSl; omega) dX9_init_128 ?_
  refine pw_h (h' := va_up (va_up (va_up (va_up (va_up (va_up (va_up (va_up (va_up (va_up (va_up h (B + 107) (pz_o 5 [.null, .null])) (B + 108) (pz_r 4 8 (va_up (fun _ => none) 0 (some (B + 109))))) (B + 109) (pz_o 8 [.int (zI 0), .int (zI 0), .int (zI w), .int (zI H), .int (zI 0), .null, .null, .null])) (B + 107) (pz_o 5 [.ref (B + 108), .ref (B + 109)])) B (pz_o 12 [.int (zI (w)), .int (zI (H)), .ref (B + 1), .ref (B + 107), .null, .null, .null, .ref (B + 2), .int (zI (0)), .int (zI (0)), .int (zI (0))])) (B + 110) (pz_o 6 [.int (zI (0)), .null, .null, .int (zI (0)), .int (zI (0)), .int (zI (0)), .int (zI (0)), .int (zI (0))])) (B + 111) (pz_z 0 N (zfill (fun _ => 0) 0 N 32))) (B + 112) (pz_z 0 NB (fun _ => 0))) (B + 110) (pz_o 6 [.int (zI (w)), .ref (B + 111), .ref (B + 112), .int (zI (0)), .int (zI (0)), .int (zI (0)), .int (zI (0)), .int (zI (1))])) B (pz_o 12 [.int (zI (w)), .int (zI (H)), .ref (B + 1), .ref (B + 107), .ref (B + 110), .null, .null, .ref (B + 2), .int (zI (0)), .int (zI (0)), .int (zI (0))])) (B + 113) (pz_z 0 N (fun _ => 0))) (by rw [show (w * H).toNat = N by omega]) ?_
  refine pw_putF (fs' := [.int (zI (w)), .int (zI (H)), .ref (B + 1), .ref (B + 107), .ref (B + 110), .ref (B + 113), .null, .ref (B + 2), .int (zI (0)), .int (zI (0)), .int (zI (0))]) okX9 (k := 5) (by decide) lkX9_47 rfl rfl rfl rfl rfl ((va_up_ne _ _ (by omega)).trans (va_up_self _ _ _)) (nlt rfl) rfl dX9_init_130 ?_
  refine pw_aload_n dX9_init_133 rfl ?_
  refine pw_aload_n dX9_init_134 rfl ?_
  refine pw_get (v := .int (zI (w))) okX9 (k := 0) (by decide) lkX9_23 (va_up_self _ _ _) rfl dX9_init_135 ?_
  refine pw_newi (t := 0) rfl naInt (by omega) (nle rfl) (by show 408 + (140 + 2 * N + NH) * 8 + 2 + 16 + 8 + (N + NB) + (w * H).toNat + w.toNat ≤ hSl N NH NB NL; unfold hSl; omega) dX9_init_138 ?_
  refine pw_h (h' := va_up (va_up (va_up (va_up (va_up (va_up (va_up (va_up (va_up (va_up (va_up (va_up (va_up h (B + 107) (pz_o 5 [.null, .null])) (B + 108) (pz_r 4 8 (va_up (fun _ => none) 0 (some (B + 109))))) (B + 109) (pz_o 8 [.int (zI 0), .int (zI 0), .int (zI w), .int (zI H), .int (zI 0), .null, .null, .null])) (B + 107) (pz_o 5 [.ref (B + 108), .ref (B + 109)])) B (pz_o 12 [.int (zI (w)), .int (zI (H)), .ref (B + 1), .ref (B + 107), .null, .null, .null, .ref (B + 2), .int (zI (0)), .int (zI (0)), .int (zI (0))])) (B + 110) (pz_o 6 [.int (zI (0)), .null, .null, .int (zI (0)), .int (zI (0)), .int (zI (0)), .int (zI (0)), .int (zI (0))])) (B + 111) (pz_z 0 N (zfill (fun _ => 0) 0 N 32))) (B + 112) (pz_z 0 NB (fun _ => 0))) (B + 110) (pz_o 6 [.int (zI (w)), .ref (B + 111), .ref (B + 112), .int (zI (0)), .int (zI (0)), .int (zI (0)), .int (zI (0)), .int (zI (1))])) B (pz_o 12 [.int (zI (w)), .int (zI (H)), .ref (B + 1), .ref (B + 107), .ref (B + 110), .null, .null, .ref (B + 2), .int (zI (0)), .int (zI (0)), .int (zI (0))])) (B + 113) (pz_z 0 N (fun _ => 0))) B (pz_o 12 [.int (zI (w)), .int (zI (H)), .ref (B + 1), .ref (B + 107), .ref (B + 110), .ref (B + 113), .null, .ref (B + 2), .int (zI (0)), .int (zI (0)), .int (zI (0))])) (B + 114) (pz_z 0 NL (fun _ => 0))) (by rw [show w.toNat = NL by omega]) ?_
  refine pw_putF (fs' := [.int (zI (w)), .int (zI (H)), .ref (B + 1), .ref (B + 107), .ref (B + 110), .ref (B + 113), .ref (B + 114), .ref (B + 2), .int (zI (0)), .int (zI (0)), .int (zI (0))]) okX9 (k := 6) (by decide) lkX9_50 rfl rfl rfl rfl rfl ((va_up_ne _ _ (by omega)).trans (va_up_self _ _ _)) (nlt rfl) rfl dX9_init_140 ?_
  have hw1 : (w * H).toNat = N := by omega
  have hw2 : w.toNat = NL := by omega
  have hA : hAt w H N NH NB NL B (hS0 w H N B) (va_up (va_up (va_up (va_up (va_up (va_up (va_up (va_up (va_up (va_up (va_up (va_up (va_up (va_up h (B + 107) (pz_o 5 [.null, .null])) (B + 108) (pz_r 4 8 (va_up (fun _ => none) 0 (some (B + 109))))) (B + 109) (pz_o 8 [.int (zI 0), .int (zI 0), .int (zI w), .int (zI H), .int (zI 0), .null, .null, .null])) (B + 107) (pz_o 5 [.ref (B + 108), .ref (B + 109)])) B (pz_o 12 [.int (zI (w)), .int (zI (H)), .ref (B + 1), .ref (B + 107), .null, .null, .null, .ref (B + 2), .int (zI (0)), .int (zI (0)), .int (zI (0))])) (B + 110) (pz_o 6 [.int (zI (0)), .null, .null, .int (zI (0)), .int (zI (0)), .int (zI (0)), .int (zI (0)), .int (zI (0))])) (B + 111) (pz_z 0 N (zfill (fun _ => 0) 0 N 32))) (B + 112) (pz_z 0 NB (fun _ => 0))) (B + 110) (pz_o 6 [.int (zI (w)), .ref (B + 111), .ref (B + 112), .int (zI (0)), .int (zI (0)), .int (zI (0)), .int (zI (0)), .int (zI (1))])) B (pz_o 12 [.int (zI (w)), .int (zI (H)), .ref (B + 1), .ref (B + 107), .ref (B + 110), .null, .null, .ref (B + 2), .int (zI (0)), .int (zI (0)), .int (zI (0))])) (B + 113) (pz_z 0 N (fun _ => 0))) B (pz_o 12 [.int (zI (w)), .int (zI (H)), .ref (B + 1), .ref (B + 107), .ref (B + 110), .ref (B + 113), .null, .ref (B + 2), .int (zI (0)), .int (zI (0)), .int (zI (0))])) (B + 114) (pz_z 0 NL (fun _ => 0))) B (pz_o 12 [.int (zI (w)), .int (zI (H)), .ref (B + 1), .ref (B + 107), .ref (B + 110), .ref (B + 113), .ref (B + 114), .ref (B + 2), .int (zI (0)), .int (zI (0)), .int (zI (0))])) := by
    refine ⟨?_, ?_, ?_, fun k hk => ?_, ?_, ?_, ⟨?_, ?_, ?_, ?_, ?_, ?_⟩, ?_, ?_, fun a ha => ?_, fun a ha => ?_⟩
    · repeat (first | rw [va_up_self] | rw [va_up_ne _ _ (by omega)])
      rfl
    · repeat (first | rw [va_up_self] | rw [va_up_ne _ _ (by omega)])
      exact hc.2.1
    · repeat (first | rw [va_up_self] | rw [va_up_ne _ _ (by omega)])
      exact hc.2.2.1
    · exact pnAt_of (hc.2.2.2.1 k hk) (fun a h1 h2 => by repeat (first | rw [va_up_self] | rw [va_up_ne _ _ (by omega)]))
    · repeat (first | rw [va_up_self] | rw [va_up_ne _ _ (by omega)])
      rfl
    · repeat (first | rw [va_up_self] | rw [va_up_ne _ _ (by omega)])
      rfl
    · show (va_up (va_up (va_up (va_up (va_up (va_up (va_up (va_up (va_up (va_up (va_up (va_up (va_up (va_up h (B + 107) (pz_o 5 [.null, .null])) (B + 108) (pz_r 4 8 (va_up (fun _ => none) 0 (some (B + 109))))) (B + 109) (pz_o 8 [.int (zI 0), .int (zI 0), .int (zI w), .int (zI H), .int (zI 0), .null, .null, .null])) (B + 107) (pz_o 5 [.ref (B + 108), .ref (B + 109)])) B (pz_o 12 [.int (zI (w)), .int (zI (H)), .ref (B + 1), .ref (B + 107), .null, .null, .null, .ref (B + 2), .int (zI (0)), .int (zI (0)), .int (zI (0))])) (B + 110) (pz_o 6 [.int (zI (0)), .null, .null, .int (zI (0)), .int (zI (0)), .int (zI (0)), .int (zI (0)), .int (zI (0))])) (B + 111) (pz_z 0 N (zfill (fun _ => 0) 0 N 32))) (B + 112) (pz_z 0 NB (fun _ => 0))) (B + 110) (pz_o 6 [.int (zI (w)), .ref (B + 111), .ref (B + 112), .int (zI (0)), .int (zI (0)), .int (zI (0)), .int (zI (0)), .int (zI (1))])) B (pz_o 12 [.int (zI (w)), .int (zI (H)), .ref (B + 1), .ref (B + 107), .ref (B + 110), .null, .null, .ref (B + 2), .int (zI (0)), .int (zI (0)), .int (zI (0))])) (B + 113) (pz_z 0 N (fun _ => 0))) B (pz_o 12 [.int (zI (w)), .int (zI (H)), .ref (B + 1), .ref (B + 107), .ref (B + 110), .ref (B + 113), .null, .ref (B + 2), .int (zI (0)), .int (zI (0)), .int (zI (0))])) (B + 114) (pz_z 0 NL (fun _ => 0))) B (pz_o 12 [.int (zI (w)), .int (zI (H)), .ref (B + 1), .ref (B + 107), .ref (B + 110), .ref (B + 113), .ref (B + 114), .ref (B + 2), .int (zI (0)), .int (zI (0)), .int (zI (0))])) (B + 110) = _
      repeat (first | rw [va_up_self] | rw [va_up_ne _ _ (by omega)])
      rfl
    · show (va_up (va_up (va_up (va_up (va_up (va_up (va_up (va_up (va_up (va_up (va_up (va_up (va_up (va_up h (B + 107) (pz_o 5 [.null, .null])) (B + 108) (pz_r 4 8 (va_up (fun _ => none) 0 (some (B + 109))))) (B + 109) (pz_o 8 [.int (zI 0), .int (zI 0), .int (zI w), .int (zI H), .int (zI 0), .null, .null, .null])) (B + 107) (pz_o 5 [.ref (B + 108), .ref (B + 109)])) B (pz_o 12 [.int (zI (w)), .int (zI (H)), .ref (B + 1), .ref (B + 107), .null, .null, .null, .ref (B + 2), .int (zI (0)), .int (zI (0)), .int (zI (0))])) (B + 110) (pz_o 6 [.int (zI (0)), .null, .null, .int (zI (0)), .int (zI (0)), .int (zI (0)), .int (zI (0)), .int (zI (0))])) (B + 111) (pz_z 0 N (zfill (fun _ => 0) 0 N 32))) (B + 112) (pz_z 0 NB (fun _ => 0))) (B + 110) (pz_o 6 [.int (zI (w)), .ref (B + 111), .ref (B + 112), .int (zI (0)), .int (zI (0)), .int (zI (0)), .int (zI (0)), .int (zI (1))])) B (pz_o 12 [.int (zI (w)), .int (zI (H)), .ref (B + 1), .ref (B + 107), .ref (B + 110), .null, .null, .ref (B + 2), .int (zI (0)), .int (zI (0)), .int (zI (0))])) (B + 113) (pz_z 0 N (fun _ => 0))) B (pz_o 12 [.int (zI (w)), .int (zI (H)), .ref (B + 1), .ref (B + 107), .ref (B + 110), .ref (B + 113), .null, .ref (B + 2), .int (zI (0)), .int (zI (0)), .int (zI (0))])) (B + 114) (pz_z 0 NL (fun _ => 0))) B (pz_o 12 [.int (zI (w)), .int (zI (H)), .ref (B + 1), .ref (B + 107), .ref (B + 110), .ref (B + 113), .ref (B + 114), .ref (B + 2), .int (zI (0)), .int (zI (0)), .int (zI (0))])) (B + 111) = _
      repeat (first | rw [va_up_self] | rw [va_up_ne _ _ (by omega)])
      rfl
    · show (va_up (va_up (va_up (va_up (va_up (va_up (va_up (va_up (va_up (va_up (va_up (va_up (va_up (va_up h (B + 107) (pz_o 5 [.null, .null])) (B + 108) (pz_r 4 8 (va_up (fun _ => none) 0 (some (B + 109))))) (B + 109) (pz_o 8 [.int (zI 0), .int (zI 0), .int (zI w), .int (zI H), .int (zI 0), .null, .null, .null])) (B + 107) (pz_o 5 [.ref (B + 108), .ref (B + 109)])) B (pz_o 12 [.int (zI (w)), .int (zI (H)), .ref (B + 1), .ref (B + 107), .null, .null, .null, .ref (B + 2), .int (zI (0)), .int (zI (0)), .int (zI (0))])) (B + 110) (pz_o 6 [.int (zI (0)), .null, .null, .int (zI (0)), .int (zI (0)), .int (zI (0)), .int (zI (0)), .int (zI (0))])) (B + 111) (pz_z 0 N (zfill (fun _ => 0) 0 N 32))) (B + 112) (pz_z 0 NB (fun _ => 0))) (B + 110) (pz_o 6 [.int (zI (w)), .ref (B + 111), .ref (B + 112), .int (zI (0)), .int (zI (0)), .int (zI (0)), .int (zI (0)), .int (zI (1))])) B (pz_o 12 [.int (zI (w)), .int (zI (H)), .ref (B + 1), .ref (B + 107), .ref (B + 110), .null, .null, .ref (B + 2), .int (zI (0)), .int (zI (0)), .int (zI (0))])) (B + 113) (pz_z 0 N (fun _ => 0))) B (pz_o 12 [.int (zI (w)), .int (zI (H)), .ref (B + 1), .ref (B + 107), .ref (B + 110), .ref (B + 113), .null, .ref (B + 2), .int (zI (0)), .int (zI (0)), .int (zI (0))])) (B + 114) (pz_z 0 NL (fun _ => 0))) B (pz_o 12 [.int (zI (w)), .int (zI (H)), .ref (B + 1), .ref (B + 107), .ref (B + 110), .ref (B + 113), .ref (B + 114), .ref (B + 2), .int (zI (0)), .int (zI (0)), .int (zI (0))])) (B + 112) = _
      repeat (first | rw [va_up_self] | rw [va_up_ne _ _ (by omega)])
      rfl
    · show B + 110 ≠ B + 111; omega
    · show B + 110 ≠ B + 112; omega
    · show B + 111 ≠ B + 112; omega
    · repeat (first | rw [va_up_self] | rw [va_up_ne _ _ (by omega)])
      rfl
    · repeat (first | rw [va_up_self] | rw [va_up_ne _ _ (by omega)])
      rfl
    · have ea : a = B + 109 := of_decide_eq_true ha
      subst ea
      repeat (first | rw [va_up_self] | rw [va_up_ne _ _ (by omega)])
      rfl
    · exact Or.inl (of_decide_eq_true ha)
  have hF : ∀ a, a < B → (va_up (va_up (va_up (va_up (va_up (va_up (va_up (va_up (va_up (va_up (va_up (va_up (va_up (va_up h (B + 107) (pz_o 5 [.null, .null])) (B + 108) (pz_r 4 8 (va_up (fun _ => none) 0 (some (B + 109))))) (B + 109) (pz_o 8 [.int (zI 0), .int (zI 0), .int (zI w), .int (zI H), .int (zI 0), .null, .null, .null])) (B + 107) (pz_o 5 [.ref (B + 108), .ref (B + 109)])) B (pz_o 12 [.int (zI (w)), .int (zI (H)), .ref (B + 1), .ref (B + 107), .null, .null, .null, .ref (B + 2), .int (zI (0)), .int (zI (0)), .int (zI (0))])) (B + 110) (pz_o 6 [.int (zI (0)), .null, .null, .int (zI (0)), .int (zI (0)), .int (zI (0)), .int (zI (0)), .int (zI (0))])) (B + 111) (pz_z 0 N (zfill (fun _ => 0) 0 N 32))) (B + 112) (pz_z 0 NB (fun _ => 0))) (B + 110) (pz_o 6 [.int (zI (w)), .ref (B + 111), .ref (B + 112), .int (zI (0)), .int (zI (0)), .int (zI (0)), .int (zI (0)), .int (zI (1))])) B (pz_o 12 [.int (zI (w)), .int (zI (H)), .ref (B + 1), .ref (B + 107), .ref (B + 110), .null, .null, .ref (B + 2), .int (zI (0)), .int (zI (0)), .int (zI (0))])) (B + 113) (pz_z 0 N (fun _ => 0))) B (pz_o 12 [.int (zI (w)), .int (zI (H)), .ref (B + 1), .ref (B + 107), .ref (B + 110), .ref (B + 113), .null, .ref (B + 2), .int (zI (0)), .int (zI (0)), .int (zI (0))])) (B + 114) (pz_z 0 NL (fun _ => 0))) B (pz_o 12 [.int (zI (w)), .int (zI (H)), .ref (B + 1), .ref (B + 107), .ref (B + 110), .ref (B + 113), .ref (B + 114), .ref (B + 2), .int (zI (0)), .int (zI (0)), .int (zI (0))])) a = hh a := fun a ha => by
    repeat (first | rw [va_up_self] | rw [va_up_ne _ _ (by omega)])
    exact hc.2.2.2.2 a ha
  revert hA hF
  generalize (va_up (va_up (va_up (va_up (va_up (va_up (va_up (va_up (va_up (va_up (va_up (va_up (va_up (va_up h (B + 107) (pz_o 5 [.null, .null])) (B + 108) (pz_r 4 8 (va_up (fun _ => none) 0 (some (B + 109))))) (B + 109) (pz_o 8 [.int (zI 0), .int (zI 0), .int (zI w), .int (zI H), .int (zI 0), .null, .null, .null])) (B + 107) (pz_o 5 [.ref (B + 108), .ref (B + 109)])) B (pz_o 12 [.int (zI (w)), .int (zI (H)), .ref (B + 1), .ref (B + 107), .null, .null, .null, .ref (B + 2), .int (zI (0)), .int (zI (0)), .int (zI (0))])) (B + 110) (pz_o 6 [.int (zI (0)), .null, .null, .int (zI (0)), .int (zI (0)), .int (zI (0)), .int (zI (0)), .int (zI (0))])) (B + 111) (pz_z 0 N (zfill (fun _ => 0) 0 N 32))) (B + 112) (pz_z 0 NB (fun _ => 0))) (B + 110) (pz_o 6 [.int (zI (w)), .ref (B + 111), .ref (B + 112), .int (zI (0)), .int (zI (0)), .int (zI (0)), .int (zI (0)), .int (zI (1))])) B (pz_o 12 [.int (zI (w)), .int (zI (H)), .ref (B + 1), .ref (B + 107), .ref (B + 110), .null, .null, .ref (B + 2), .int (zI (0)), .int (zI (0)), .int (zI (0))])) (B + 113) (pz_z 0 N (fun _ => 0))) B (pz_o 12 [.int (zI (w)), .int (zI (H)), .ref (B + 1), .ref (B + 107), .ref (B + 110), .ref (B + 113), .null, .ref (B + 2), .int (zI (0)), .int (zI (0)), .int (zI (0))])) (B + 114) (pz_z 0 NL (fun _ => 0))) B (pz_o 12 [.int (zI (w)), .int (zI (H)), .ref (B + 1), .ref (B + 107), .ref (B + 110), .ref (B + 113), .ref (B + 114), .ref (B + 2), .int (zI (0)), .int (zI (0)), .int (zI (0))])) = h9
  intro hA hF
  exact pw_u (uc' := 114) (us' := hSl N NH NB NL) (n' := B + 115) rfl (by unfold hSl; omega) rfl (hQ h9 _ hA hF)
theorem pX0_wk {w H M : Int} (hw : 0 ≤ w) (hH : 0 ≤ H) (hM : 0 ≤ M) : pWk w H M pX0 := by
  refine ⟨⟨by show (0 : Int) ≤ 0; omega, hw⟩, ⟨by show (0 : Int) ≤ 0; omega, hH⟩, ⟨by show (0 : Int) ≤ 0; omega, by show (0 : Int) ≤ 40; omega⟩, ⟨by show (0 : Int) ≤ 0; omega, by show (0 : Int) ≤ 40; omega⟩, ⟨by show (0 : Int) ≤ 0; omega, by show (0 : Int) ≤ 40; omega⟩, ⟨by show (0 : Int) ≤ 0; omega, by show (0 : Int) ≤ 40; omega⟩, ⟨fun j => ⟨by show (0 : Int) ≤ 0; omega, by show (0 : Int) < 524288; omega⟩, fun j => ⟨by show (0 : Int) ≤ 0; omega, by show (0 : Int) < 524288; omega⟩, fun j => ⟨by show (0 : Int) ≤ 0; omega, by show (0 : Int) < 524288; omega⟩, fun j => ⟨by show (0 : Int) ≤ 0; omega, hw⟩⟩, ⟨⟨by show (0 : Int) ≤ 0; omega, by show (0 : Int) < 30; omega⟩, ⟨by show (0 : Int) ≤ 0; omega, by show (0 : Int) ≤ 30; omega⟩⟩, ⟨⟨by show (0 : Int) ≤ 0; omega, by show (0 : Int) ≤ 4; omega⟩, ⟨by show (0 : Int) ≤ 0; omega, by show (0 : Int) ≤ 1; omega⟩, ⟨by show (0 : Int) ≤ 0; omega, by show (0 : Int) ≤ 1; omega⟩, ⟨by show (0 : Int) ≤ 0; omega, by show (0 : Int) ≤ 3; omega⟩, fun j => ⟨by show (0 : Int) ≤ 0; omega, by show (0 : Int) ≤ 999; omega⟩⟩, ⟨by show (0 : Int) ≤ 0; omega, by show (0 : Int) ≤ 1; omega⟩, ⟨by show (0 : Int) ≤ 0; omega, by show (0 : Int) ≤ 30; omega⟩, ⟨by show (0 : Int) ≤ 0; omega, hM⟩⟩
theorem hS0_lv {w H : Int} {N B i b : Nat} (e : hLv (hS0 w H N B) i = some b) : i = 0 ∧ b = B + 109 := by
  have e2 : va_up (fun _ => (none : Option Nat)) 0 (some (B + 109)) i = some b := e
  unfold va_up at e2
  split at e2
  · next c => exact ⟨c, (Option.some.inj e2).symm⟩
  · cases e2
theorem hS0_ly {w H : Int} {N B : Nat} (hw : 8 ≤ w ∧ w ≤ 40) (hH : 4 ≤ H ∧ H ≤ 16) : lyOk w H (hS0 w H N B) := by
  refine ⟨(fun a _ i b e => absurd (show (none : Option Nat) = some b from e) (fun z => by cases z)), (fun i b e => decide_eq_true (hS0_lv e).2), ⟨(by decide), fun b => ?_⟩, fun b => ?_, decide_eq_true rfl, fun i b e => ?_⟩
  · show (-100 ≤ w ∧ w ≤ 100) ∧ (-100 ≤ H ∧ H ≤ 100) ∧ ((0 : Int) ≤ 0 ∧ (0 : Int) ≤ 1); omega
  · show (-1000 ≤ (0 : Int) ∧ (0 : Int) ≤ 1000) ∧ (-1000 ≤ (0 : Int) ∧ (0 : Int) ≤ 1000); omega
  · show (1 ≤ w ∧ w ≤ w) ∧ (1 ≤ H ∧ H ≤ H) ∧ ((0 : Int) ≤ 0 ∧ 0 + w ≤ w) ∧ ((0 : Int) ≤ 0 ∧ 0 + H ≤ H); omega
/-- a new house -/
def hNew (w H : Int) (N B : Nat) : hS := sX 0 (pBg w H (hX (sFit w H (hS0 w H N B)) 0)) (sFit w H (hS0 w H N B))
set_option maxHeartbeats 2000000 in
set_option maxRecDepth 100000 in
theorem lX9_new3 {E : pw_E} (htr : E.1.stackTraces = false) {Kk : pw_K} {w H w0 h0 : Int} {N NH NB NL B : Nat} {hh h : pz_H} {q : Option Value} (hG : geoH w H N NH NB NL) (hA : hAt w H N NH NB NL B (hS0 w H N B) h) (hF : ∀ a, a < B → h a = hh a) (hQ : ∀ h' : pz_H, hAt w H N NH NB NL B (hNew w H N B) h' → (∀ a, a < B → h' a = hh a) → Kk.2.2.1 none h' (B + 115)) : pw E YX9_init (rmD 6 114 (hSl N NH NB NL)) Kk 114 (hSl N NH NB NL) 143 [some (.ref B), some (.int (zI w0)), some (.int (zI h0)), q] [] h (B + 115) := by
  obtain ⟨gG0, gNB, gNL⟩ := hG
  obtain ⟨gw, gH, gN, gN2, gNH⟩ := id gG0
  have hly := hS0_ly (N := N) (B := B) gw gH
  refine pw_aload_n dX9_init_143 rfl ?_
  refine pw_callV (As := []) (b := B) (rm := rmD 5 0 0) (mX9_fitPanes (M := 0) htr gG0 hA hly.2.1 hly.2.2.2.2.2 (fun k _ => pX0_wk (by omega) (by omega) (by omega))) rfl hA.1 rfl rfl ywX9_fitPanes rfl cwX9_53 ⟨nle rfl, nle rfl⟩ (nle rfl) ⟨nle rfl, Nat.le_refl _⟩ dX9_init_144 ?_ (fun _ _ _ z => z.elim)
  intro r2 h2 n2 hq _
  obtain ⟨e1, hA2, hF20, e4⟩ := hq
  rw [e1, e4]
  show pw E YX9_init _ _ 114 (hSl N NH NB NL) 147 [some (.ref B), some (.int (zI (w0))), some (.int (zI (h0))), q] [] h2 (B + 115)
  have hA2 : hAt w H N NH NB NL B (sFit w H (hS0 w H N B)) h2 := hA2
  have hF2 : ∀ a, a < B → h2 a = hh a := fun a ha => (hF20 a (by omega) (Or.inl ha) (fun z => by have z2 : a = B + 109 := of_decide_eq_true z; omega)).trans (hF a ha)
  refine pw_aload_n dX9_init_147 rfl ?_
  refine pw_get (v := .ref (B + 1)) okX9 (k := 2) (by decide) lkX9_11 hA2.1 rfl dX9_init_148 ?_
  refine pw_iconst (v := zI (0)) dX9_init_151 (by decide) ?_
  refine pw_aaldO (t := 3) rfl hA2.2.1 (by decide) (by decide) dX9_init_152 ?_
  refine pw_some (a := (B + 3 + 13 * 0)) (show hPv B (Int.toNat 0) = some (B + 3 + 13 * 0) from rfl) ?_
  have hpk : pWk w H 0 (hX (sFit w H (hS0 w H N B)) 0) := hFit_wk (fun k _ => pX0_wk (by omega) (by omega) (by omega)) hly.2.2.2.2.2 (by omega) (by omega) 0 (by omega)
  have hx3 : (hX (sFit w H (hS0 w H N B)) 0).1.1.1 3 = w ∧ (hX (sFit w H (hS0 w H N B)) 0).1.1.1 4 = H := by
    rw [show (hX (sFit w H (hS0 w H N B)) 0) = hFitV w H (hP (hS0 w H N B)) (hLv (hS0 w H N B) 0) (hX (hS0 w H N B) 0) from hFit_8 (P := hP (hS0 w H N B)) (lv := hLv (hS0 w H N B)) (X := hX (hS0 w H N B)) (k := 0) (by omega)]
    exact zResize_3
  obtain ⟨p3, p4, p5, p6, p9, p10, pcl, pT, pR, pcm, pof, pto⟩ := hpk
  refine pw_callV (As := []) (b := (B + 3 + 13 * 0)) (rm := rmD 5 0 0) (mX4_begin htr gG0 (hA_pn hA2 (k := 0) (by omega)).1 pT (by omega) ⟨zReset_ok (by omega) (by omega), pR⟩ (hA_pn hA2 (k := 0) (by omega)).2.1 (hA_pn hA2 (k := 0) (by omega)).2.2.1 (fun i _ => pnI_ne (by omega)) ⟨by show (B + 3 + 13 * 0) + 11 ≠ (B + 3 + 13 * 0); omega, by show (B + 3 + 13 * 0) + 12 ≠ (B + 3 + 13 * 0); omega⟩ (fun i _ => pnI_ne (by omega)) ⟨by show (B + 3 + 13 * 0) + 11 ≠ (B + 3 + 13 * 0) + 1; omega, by show (B + 3 + 13 * 0) + 12 ≠ (B + 3 + 13 * 0) + 1; omega⟩ (by omega) (by omega) (by omega)) rfl (hA_pn hA2 (k := 0) (by omega)).2.1 rfl rfl ywX4_begin rfl cwX9_56 ⟨nle rfl, nle rfl⟩ (nle rfl) ⟨nle rfl, Nat.le_refl _⟩ dX9_init_153 ?_ (fun _ _ _ z => z.elim)
  intro r_9 h_9 n_9 hq _
  rw [hq.1, hq.2.1, hq.2.2]
  show pw E YX9_init _ _ 114 (hSl N NH NB NL) 156 [some (.ref B), some (.int (zI (w0))), some (.int (zI (h0))), q] [] (va_up (va_up (rP w H N NH (pnI (B + 3 + 13 * 0)) (pnJ (B + 3 + 13 * 0)) (zReset w H (hX (sFit w H (hS0 w H N B)) 0).1.1) (va_up (hX (sFit w H (hS0 w H N B)) 0).1.2.1 5 0) (hX (sFit w H (hS0 w H N B)) 0).1.2.2 h2) (B + 3 + 13 * 0 + 1) (pz_o 11 [.ref (B + 3 + 13 * 0 + 2), .int (zI 0)])) (B + 3 + 13 * 0) (pz_o 7 [.ref (B + 3 + 13 * 0 + 3), .ref (B + 3 + 13 * 0 + 11), .ref (B + 3 + 13 * 0 + 1), .int (zI 0), .int (zI (if 0 = (hX (sFit w H (hS0 w H N B)) 0).2.1.1 then (hX (sFit w H (hS0 w H N B)) 0).2.1.2 else 0))])) (B + 115)
  have hpB : pnAt w H N NH (B + 3 + 13 * 0) (pBg w H (hX (sFit w H (hS0 w H N B)) 0)) (va_up (va_up (rP w H N NH (pnI (B + 3 + 13 * 0)) (pnJ (B + 3 + 13 * 0)) (zReset w H (hX (sFit w H (hS0 w H N B)) 0).1.1) (va_up (hX (sFit w H (hS0 w H N B)) 0).1.2.1 5 0) (hX (sFit w H (hS0 w H N B)) 0).1.2.2 h2) (B + 3 + 13 * 0 + 1) (pz_o 11 [.ref (B + 3 + 13 * 0 + 2), .int (zI 0)])) (B + 3 + 13 * 0) (pz_o 7 [.ref (B + 3 + 13 * 0 + 3), .ref (B + 3 + 13 * 0 + 11), .ref (B + 3 + 13 * 0 + 1), .int (zI 0), .int (zI (if 0 = (hX (sFit w H (hS0 w H N B)) 0).2.1.1 then (hX (sFit w H (hS0 w H N B)) 0).2.1.2 else 0))])) := by
    have z1 := pnAt_r (s := zReset w H (hX (sFit w H (hS0 w H N B)) 0).1.1) (R := va_up (hX (sFit w H (hS0 w H N B)) 0).1.2.1 5 0) (q := (hX (sFit w H (hS0 w H N B)) 0).1.2.2) (hA_pn hA2 (k := 0) (by omega))
    have z2 := pnAt_t (c := ((hX (sFit w H (hS0 w H N B)) 0).2.2.1, 0)) z1
    have z3 := pnAt_c (cm := 0) (of := if 0 = (hX (sFit w H (hS0 w H N B)) 0).2.1.1 then (hX (sFit w H (hS0 w H N B)) 0).2.1.2 else 0) z2
    have e9 : tyP (B + 3 + 13 * 0 + 1) (B + 3 + 13 * 0 + 2) ((hX (sFit w H (hS0 w H N B)) 0).2.2.1, 0) (rP w H N NH (pnI (B + 3 + 13 * 0)) (pnJ (B + 3 + 13 * 0)) (zReset w H (hX (sFit w H (hS0 w H N B)) 0).1.1) (va_up (hX (sFit w H (hS0 w H N B)) 0).1.2.1 5 0) (hX (sFit w H (hS0 w H N B)) 0).1.2.2 h2) = va_up (rP w H N NH (pnI (B + 3 + 13 * 0)) (pnJ (B + 3 + 13 * 0)) (zReset w H (hX (sFit w H (hS0 w H N B)) 0).1.1) (va_up (hX (sFit w H (hS0 w H N B)) 0).1.2.1 5 0) (hX (sFit w H (hS0 w H N B)) 0).1.2.2 h2) (B + 3 + 13 * 0 + 1) (pz_o 11 [.ref (B + 3 + 13 * 0 + 2), .int (zI 0)]) := by unfold tyP; rw [pz_up_id z1.2.2.2]
    rw [e9] at z3
    exact z3
  have hA3 : hAt w H N NH NB NL B (hNew w H N B) (va_up (va_up (rP w H N NH (pnI (B + 3 + 13 * 0)) (pnJ (B + 3 + 13 * 0)) (zReset w H (hX (sFit w H (hS0 w H N B)) 0).1.1) (va_up (hX (sFit w H (hS0 w H N B)) 0).1.2.1 5 0) (hX (sFit w H (hS0 w H N B)) 0).1.2.2 h2) (B + 3 + 13 * 0 + 1) (pz_o 11 [.ref (B + 3 + 13 * 0 + 2), .int (zI 0)])) (B + 3 + 13 * 0) (pz_o 7 [.ref (B + 3 + 13 * 0 + 3), .ref (B + 3 + 13 * 0 + 11), .ref (B + 3 + 13 * 0 + 1), .int (zI 0), .int (zI (if 0 = (hX (sFit w H (hS0 w H N B)) 0).2.1.1 then (hX (sFit w H (hS0 w H N B)) 0).2.1.2 else 0))])) := hAt_X hA2 (by omega) hpB (fun a ha => (va_up_ne _ _ (by omega)).trans ((va_up_ne _ _ (by omega)).trans (rP_out ha)))
  have hF3 : ∀ a, a < B → (va_up (va_up (rP w H N NH (pnI (B + 3 + 13 * 0)) (pnJ (B + 3 + 13 * 0)) (zReset w H (hX (sFit w H (hS0 w H N B)) 0).1.1) (va_up (hX (sFit w H (hS0 w H N B)) 0).1.2.1 5 0) (hX (sFit w H (hS0 w H N B)) 0).1.2.2 h2) (B + 3 + 13 * 0 + 1) (pz_o 11 [.ref (B + 3 + 13 * 0 + 2), .int (zI 0)])) (B + 3 + 13 * 0) (pz_o 7 [.ref (B + 3 + 13 * 0 + 3), .ref (B + 3 + 13 * 0 + 11), .ref (B + 3 + 13 * 0 + 1), .int (zI 0), .int (zI (if 0 = (hX (sFit w H (hS0 w H N B)) 0).2.1.1 then (hX (sFit w H (hS0 w H N B)) 0).2.1.2 else 0))])) a = hh a := fun a ha => ((va_up_ne _ _ (by omega)).trans ((va_up_ne _ _ (by omega)).trans (rP_out (Or.inl (by omega))))).trans (hF2 a ha)
  revert hA3 hF3
  generalize (va_up (va_up (rP w H N NH (pnI (B + 3 + 13 * 0)) (pnJ (B + 3 + 13 * 0)) (zReset w H (hX (sFit w H (hS0 w H N B)) 0).1.1) (va_up (hX (sFit w H (hS0 w H N B)) 0).1.2.1 5 0) (hX (sFit w H (hS0 w H N B)) 0).1.2.2 h2) (B + 3 + 13 * 0 + 1) (pz_o 11 [.ref (B + 3 + 13 * 0 + 2), .int (zI 0)])) (B + 3 + 13 * 0) (pz_o 7 [.ref (B + 3 + 13 * 0 + 3), .ref (B + 3 + 13 * 0 + 11), .ref (B + 3 + 13 * 0 + 1), .int (zI 0), .int (zI (if 0 = (hX (sFit w H (hS0 w H N B)) 0).2.1.1 then (hX (sFit w H (hS0 w H N B)) 0).2.1.2 else 0))])) = h3
  intro hA3 hF3
  exact pw_vret dX9_init_156 rfl (nle rfl) (Nat.le_refl _) (hQ h3 hA3 hF3)
set_option maxHeartbeats 2000000 in
set_option maxRecDepth 100000 in
/-- new PaneHouse(w0, h0) -/
theorem mX9_init {E : pw_E} (htr : E.1.stackTraces = false) {h : pz_H} {w H w0 h0 : Int} {N NH NB NL B : Nat} (hG : geoH w H N NH NB NL) (hwe : w = max 8 (min 40 w0)) (hHe : H = max 4 (min 16 h0)) (h_w0 : -2147483648 ≤ w0 ∧ w0 < 2147483648) (h_h0 : -2147483648 ≤ h0 ∧ h0 < 2147483648) (hobj : h B = pz_o 12 [.int (zI 0), .int (zI 0), .null, .null, .null, .null, .null, .null, .int (zI 0), .int (zI 0), .int (zI 0)]) : pw_M E yX9_init YX9_init (rmD 6 114 (hSl N NH NB NL)) [.ref B, .int (zI w0), .int (zI h0)] h (B + 1) (fun r h' n' => r = none ∧ hAt w H N NH NB NL B (hNew w H N B) h' ∧ (∀ a, a < B → h' a = h a) ∧ n' = B + 115) (fun _ _ _ => False) := by
  refine pw_M_of (lv := [some (.ref B), some (.int (zI w0)), some (.int (zI h0)), none]) (by decide) rfl rfl htr (nle rfl) rfl (fun L => ?_)
  refine pw_aload_n dX9_init_0 rfl ?_
  refine pw_objInit cwX9_1 dX9_init_1 ⟨nle rfl, nle rfl⟩ ?_
  refine pw_aload_n dX9_init_4 rfl ?_
  refine pw_bipush (v := zI (8)) dX9_init_5 (by decide) ?_
  refine pw_newr (t := 3) rfl naX9_9 (by decide) (by decide) (nle rfl) (by show 0 + (8 : Int).toNat ≤ hSl N NH NB NL; unfold hSl; omega) dX9_init_7 ?_
  refine pw_h (h' := va_up h (B + 1) (pz_r 3 8 (fun _ => none))) (rfl) ?_
  refine pw_putF (fs' := [.int (zI (0)), .int (zI (0)), .ref (B + 1), .null, .null, .null, .null, .null, .int (zI (0)), .int (zI (0)), .int (zI (0))]) okX9 (k := 2) (by decide) lkX9_11 rfl rfl rfl rfl rfl ((va_up_ne _ _ (by omega)).trans hobj) (nlt rfl) rfl dX9_init_10 ?_
  refine pw_aload_n dX9_init_13 rfl ?_
  refine pw_sipush (v := zI (400)) dX9_init_14 (by decide) ?_
  refine pw_newi (t := 0) rfl naInt (by decide) (nle rfl) (by show 0 + (8 : Int).toNat + (400 : Int).toNat ≤ hSl N NH NB NL; unfold hSl; omega) dX9_init_17 ?_
  refine pw_h (h' := va_up (va_up (va_up h (B + 1) (pz_r 3 8 (fun _ => none))) B (pz_o 12 [.int (zI (0)), .int (zI (0)), .ref (B + 1), .null, .null, .null, .null, .null, .int (zI (0)), .int (zI (0)), .int (zI (0))])) (B + 2) (pz_z 0 400 (fun _ => 0))) (rfl) ?_
  refine pw_putF (fs' := [.int (zI (0)), .int (zI (0)), .ref (B + 1), .null, .null, .null, .null, .ref (B + 2), .int (zI (0)), .int (zI (0)), .int (zI (0))]) okX9 (k := 7) (by decide) lkX9_15 rfl rfl rfl rfl rfl ((va_up_ne _ _ (by omega)).trans (va_up_self _ _ _)) (nlt rfl) rfl dX9_init_19 ?_
  refine pw_aload_n dX9_init_22 rfl ?_
  refine pw_iload_n dX9_init_23 rfl ?_
  refine pw_bipush (v := zI (8)) dX9_init_24 (by decide) ?_
  refine pw_bipush (v := zI (40)) dX9_init_26 (by decide) ?_
  refine pw_callS (As := [.int (zI (w0)), .int (zI (8)), .int (zI (40))]) (rm := rmD 1 0 0) (mX9_nearest htr (by omega) (by omega) (by omega)) rfl ywX9_nearest rfl cwX9_19 ⟨nle rfl, nle rfl⟩ (nle rfl) ⟨nle rfl, by show 0 + (8 : Int).toNat + (400 : Int).toNat + 0 ≤ hSl N NH NB NL; unfold hSl; omega⟩ dX9_init_28 ?_ (fun _ _ _ z => z.elim)
  intro r_9 h_9 n_9 hq _
  rw [hq.1, hq.2.1, hq.2.2, ← hwe]
  show pw E YX9_init _ _ (0 + 1 + 1) (0 + (8 : Int).toNat + (400 : Int).toNat) 31 [some (.ref B), some (.int (zI (w0))), some (.int (zI (h0))), none] [.int (zI (w)), .ref B] (va_up (va_up (va_up (va_up h (B + 1) (pz_r 3 8 (fun _ => none))) B (pz_o 12 [.int (zI (0)), .int (zI (0)), .ref (B + 1), .null, .null, .null, .null, .null, .int (zI (0)), .int (zI (0)), .int (zI (0))])) (B + 2) (pz_z 0 400 (fun _ => 0))) B (pz_o 12 [.int (zI (0)), .int (zI (0)), .ref (B + 1), .null, .null, .null, .null, .ref (B + 2), .int (zI (0)), .int (zI (0)), .int (zI (0))])) (B + 3)
  refine pw_putF (fs' := [.int (zI (w)), .int (zI (0)), .ref (B + 1), .null, .null, .null, .null, .ref (B + 2), .int (zI (0)), .int (zI (0)), .int (zI (0))]) okX9 (k := 0) (by decide) lkX9_23 rfl rfl rfl rfl rfl (va_up_self _ _ _) (nlt rfl) rfl dX9_init_31 ?_
  refine pw_aload_n dX9_init_34 rfl ?_
  refine pw_iload_n dX9_init_35 rfl ?_
  refine pw_iconst (v := zI (4)) dX9_init_36 (by decide) ?_
  refine pw_bipush (v := zI (16)) dX9_init_37 (by decide) ?_
  refine pw_callS (As := [.int (zI (h0)), .int (zI (4)), .int (zI (16))]) (rm := rmD 1 0 0) (mX9_nearest htr (by omega) (by omega) (by omega)) rfl ywX9_nearest rfl cwX9_19 ⟨nle rfl, nle rfl⟩ (nle rfl) ⟨nle rfl, by show 0 + (8 : Int).toNat + (400 : Int).toNat + 0 ≤ hSl N NH NB NL; unfold hSl; omega⟩ dX9_init_39 ?_ (fun _ _ _ z => z.elim)
  intro r_9 h_9 n_9 hq _
  rw [hq.1, hq.2.1, hq.2.2, ← hHe]
  show pw E YX9_init _ _ (0 + 1 + 1) (0 + (8 : Int).toNat + (400 : Int).toNat) 42 [some (.ref B), some (.int (zI (w0))), some (.int (zI (h0))), none] [.int (zI (H)), .ref B] (va_up (va_up (va_up (va_up (va_up h (B + 1) (pz_r 3 8 (fun _ => none))) B (pz_o 12 [.int (zI (0)), .int (zI (0)), .ref (B + 1), .null, .null, .null, .null, .null, .int (zI (0)), .int (zI (0)), .int (zI (0))])) (B + 2) (pz_z 0 400 (fun _ => 0))) B (pz_o 12 [.int (zI (0)), .int (zI (0)), .ref (B + 1), .null, .null, .null, .null, .ref (B + 2), .int (zI (0)), .int (zI (0)), .int (zI (0))])) B (pz_o 12 [.int (zI (w)), .int (zI (0)), .ref (B + 1), .null, .null, .null, .null, .ref (B + 2), .int (zI (0)), .int (zI (0)), .int (zI (0))])) (B + 3)
  refine pw_putF (fs' := [.int (zI (w)), .int (zI (H)), .ref (B + 1), .null, .null, .null, .null, .ref (B + 2), .int (zI (0)), .int (zI (0)), .int (zI (0))]) okX9 (k := 1) (by decide) lkX9_27 rfl rfl rfl rfl rfl (va_up_self _ _ _) (nlt rfl) rfl dX9_init_42 ?_
  refine pw_iconst (v := zI (0)) dX9_init_45 (by decide) ?_
  refine pw_istore_n (lv' := [some (.ref B), some (.int (zI (w0))), some (.int (zI (h0))), some (.int (zI (0)))]) dX9_init_46 (by decide) rfl rfl ?_
  have hc : ciAt w H N NH B (0 : Int).toNat h (va_up (va_up (va_up (va_up (va_up (va_up h (B + 1) (pz_r 3 8 (fun _ => none))) B (pz_o 12 [.int (zI (0)), .int (zI (0)), .ref (B + 1), .null, .null, .null, .null, .null, .int (zI (0)), .int (zI (0)), .int (zI (0))])) (B + 2) (pz_z 0 400 (fun _ => 0))) B (pz_o 12 [.int (zI (0)), .int (zI (0)), .ref (B + 1), .null, .null, .null, .null, .ref (B + 2), .int (zI (0)), .int (zI (0)), .int (zI (0))])) B (pz_o 12 [.int (zI (w)), .int (zI (0)), .ref (B + 1), .null, .null, .null, .null, .ref (B + 2), .int (zI (0)), .int (zI (0)), .int (zI (0))])) B (pz_o 12 [.int (zI (w)), .int (zI (H)), .ref (B + 1), .null, .null, .null, .null, .ref (B + 2), .int (zI (0)), .int (zI (0)), .int (zI (0))])) := by
    refine ⟨?_, ?_, ?_, fun j hj => absurd hj (by show ¬ j < 0; omega), fun a ha => ?_⟩
    · repeat (first | rw [va_up_self] | rw [va_up_ne _ _ (by omega)])
    · (repeat (first | rw [va_up_self] | rw [va_up_ne _ _ (by omega)])); rw [show (0 : Int).toNat = 0 from rfl, hPvk_0]
    · (repeat (first | rw [va_up_self] | rw [va_up_ne _ _ (by omega)])); try rfl
    · repeat (first | rw [va_up_self] | rw [va_up_ne _ _ (by omega)])
  refine pw_u (uc' := 2 + 13 * (0 : Int).toNat) (us' := 408 + (140 + 2 * N + NH) * (0 : Int).toNat) (n' := B + 3 + 13 * (0 : Int).toNat) rfl rfl rfl ?_
  exact lX9_new htr hG _ 0 _ rfl (by omega) (by omega) hc (fun h8 hc8 => lX9_new2 htr hG hc8 (fun h9 q9 hA9 hF9 => lX9_new3 htr hG hA9 hF9 (fun h' z1 z2 => ⟨rfl, z1, z2, rfl⟩)))
