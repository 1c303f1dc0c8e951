def YX3_takePen : pw_Y := (RX3, "takePen", cX3_takePen, 4, none)
theorem ywX3_takePen : pw_y yX3_takePen YX3_takePen 1 := ⟨by decide +kernel, by decide +kernel, by decide +kernel, pw_in 888 (by decide +kernel) (by decide +kernel), pw_in 89 (by decide +kernel) (by decide +kernel)⟩
theorem lkX3_58 : Cond.fieldLink RX3 58 (TX3 6).1 (TX3 6).2.1 (TX3 6).2.2.1 ∈ pw_G := pw_in 386 (by decide +kernel) (by decide +kernel)
theorem cwX3_49 : Cond.methodLink RX3 49 yX3_beginSequence ∈ pw_G ∧ Cond.instanceMethod yX3_beginSequence ∈ pw_G ∧ Cond.selects RX3 yX3_beginSequence yX3_beginSequence ∈ pw_G := ⟨pw_in 889 (by decide +kernel) (by decide +kernel), pw_in 891 (by decide +kernel) (by decide +kernel), pw_in 7 (by decide +kernel) (by decide +kernel)⟩
theorem cwX3_61 : Cond.methodLink RX3 61 yX3_putPart ∈ pw_G ∧ Cond.instanceMethod yX3_putPart ∈ pw_G ∧ Cond.selects RX3 yX3_putPart yX3_putPart ∈ pw_G := ⟨pw_in 893 (by decide +kernel) (by decide +kernel), pw_in 895 (by decide +kernel) (by decide +kernel), pw_in 8 (by decide +kernel) (by decide +kernel)⟩
def YX3_show : pw_Y := (RX3, "show", cX3_show, 5, none)
theorem ywX3_show : pw_y yX3_show YX3_show 3 := ⟨by decide +kernel, by decide +kernel, by decide +kernel, pw_in 872 (by decide +kernel) (by decide +kernel), pw_in 89 (by decide +kernel) (by decide +kernel)⟩
theorem lkX3_15 : Cond.fieldLink RX3 15 (TX3 0).1 (TX3 0).2.1 (TX3 0).2.2.1 ∈ pw_G := pw_in 378 (by decide +kernel) (by decide +kernel)
theorem lkX3_19 : Cond.fieldLink RX3 19 (TX3 1).1 (TX3 1).2.1 (TX3 1).2.2.1 ∈ pw_G := pw_in 379 (by decide +kernel) (by decide +kernel)
theorem cwX3_35 : Cond.methodLink RX3 35 yX3_moveTo ∈ pw_G ∧ Cond.instanceMethod yX3_moveTo ∈ pw_G ∧ Cond.selects RX3 yX3_moveTo yX3_moveTo ∈ pw_G := ⟨pw_in 873 (by decide +kernel) (by decide +kernel), pw_in 875 (by decide +kernel) (by decide +kernel), pw_in 3 (by decide +kernel) (by decide +kernel)⟩
theorem cwX3_39 : Cond.methodLink RX3 39 yX3_takePen ∈ pw_G ∧ Cond.instanceMethod yX3_takePen ∈ pw_G ∧ Cond.selects RX3 yX3_takePen yX3_takePen ∈ pw_G := ⟨pw_in 885 (by decide +kernel) (by decide +kernel), pw_in 887 (by decide +kernel) (by decide +kernel), pw_in 6 (by decide +kernel) (by decide +kernel)⟩
set_option maxHeartbeats 4000000 in
set_option maxRecDepth 100000 in
/-- Outer.takePen(a) -/
theorem mX3_takePen {E : pw_E} (htr : E.1.stackTraces = false) {h : pz_H} {n : Nat} {w : Int} {N NB : Nat} {Z : Nat → Nat} {p : oPr} {sh : Nat → Int} (hA : oAt w N NB Z p sh h) (h3 : 0 ≤ p.1 3 ∧ p.1 3 ≤ NB) (hNB : NB ≤ 100000) {a : Int} (ha : 0 ≤ a ∧ a < 4096) (h6 : 0 ≤ p.1 6 ∧ p.1 6 < 4096) : pw_M E yX3_takePen YX3_takePen (rmD 3 0 0) [.ref (Z 0), .int (zI (a))] h n (fun r h' n' => r = none ∧ h' = oP w N NB Z (oPen NB a p) sh h ∧ n' = n) (fun _ _ _ => False) := by
  refine pw_M_of (lv := [some (.ref (Z 0)), some (.int (zI (a))), none, none]) (by decide) rfl rfl htr (nle rfl) rfl (fun L => ?_)
  refine pw_h (oP_id hA).symm ?_
  refine pw_aload_n dX3_takePen_0 rfl ?_
  refine pw_get (v := .int (zI (p.1 6))) okX3 (k := 6) (by decide) lkX3_58 (oAt_put hA).1 rfl dX3_takePen_1 ?_
  refine pw_iload_n dX3_takePen_4 rfl ?_
  refine pw_icmp_eq (tgt := 138) dX3_takePen_5 rfl (by omega) (by omega) (fun c5 => ?_) (fun c5 => ?_)
  ·
    exact pw_vret dX3_takePen_138 rfl (nle rfl) (nle rfl) ⟨rfl, by rw [show oPen NB a p = p from if_pos (show p.1 6 = a by omega)], rfl⟩
  ·
    refine pw_aload_n dX3_takePen_8 rfl ?_
    refine pw_iload_n dX3_takePen_9 rfl ?_
    refine pw_put (fs' := (ouObj w Z (va_up p.1 6 (a)))) okX3 (k := 6) (by decide) lkX3_58 rfl rfl rfl (oAt_put hA).1 (nlt rfl) rfl dX3_takePen_10 ?_
    refine pw_h oU0 ?_
    refine pw_aload_n dX3_takePen_13 rfl ?_
    refine pw_bipush (v := zI (48)) dX3_takePen_14 (by decide) ?_
    refine pw_callV (As := [.int (zI (48))]) (b := (Z 0)) (rm := rmD 1 0 0) (mX3_beginSequence (p := (va_up p.1 6 (a), p.2)) htr (oAt_put hA) h3 hNB) rfl (oAt_put hA).1 rfl rfl ywX3_beginSequence rfl cwX3_49 ⟨nle rfl, nle rfl⟩ (nle rfl) ⟨nle rfl, nle rfl⟩ dX3_takePen_16 ?_ (fun _ _ _ z => z.elim)
    intro r2 h2 n2 hq _
    rw [hq.1, hq.2.1, hq.2.2]
    show pw E YX3_takePen _ _ 0 0 19 [some (.ref (Z 0)), some (.int (zI (a))), none, none] [] (oP w N NB Z (oApp NB (([27] ++ [91] ++ [48])) (va_up p.1 6 (a), p.2)) sh (oP w N NB Z (va_up p.1 6 (a), p.2) sh h)) n
    refine pw_h (h' := oP w N NB Z (oApp NB (([27] ++ [91] ++ [48])) (va_up p.1 6 (a), p.2)) sh h) oP_put ?_
    refine pw_aload_n dX3_takePen_19 rfl ?_
    refine pw_aload_n dX3_takePen_20 rfl ?_
    refine pw_get (v := .int (zI (a))) okX3 (k := 6) (by decide) lkX3_58 (oAt_put hA).1 rfl dX3_takePen_21 ?_
    refine pw_iconst (v := zI (1)) dX3_takePen_24 (by decide) ?_
    refine pw_iand dX3_takePen_25 ?_
    rw [zT1 (by omega)]
    refine pw_b01 dX3_takePen_26 dX3_takePen_29 dX3_takePen_30 dX3_takePen_33 (by omega) ?_
    refine pw_iconst (v := zI (1)) dX3_takePen_34 (by decide) ?_
    refine pw_callV (As := [.int (zI (if (a) % 2 = 0 then 0 else 1)), .int (zI (1))]) (b := (Z 0)) (rm := rmD 2 0 0) (mX3_putPart (p := (oApp NB (([27] ++ [91] ++ [48])) (va_up p.1 6 (a), p.2))) htr (oAt_put hA) (oApp_3 (p := (va_up p.1 6 (a), p.2)) h3) hNB (b01 _) (by omega)) rfl (oAt_put hA).1 rfl rfl ywX3_putPart rfl cwX3_61 ⟨nle rfl, nle rfl⟩ (nle rfl) ⟨nle rfl, nle rfl⟩ dX3_takePen_35 ?_ (fun _ _ _ z => z.elim)
    intro r2 h2 n2 hq _
    rw [hq.1, hq.2.1, hq.2.2]
    show pw E YX3_takePen _ _ 0 0 38 [some (.ref (Z 0)), some (.int (zI (a))), none, none] [] (oP w N NB Z (oApp NB (partB (if (a) % 2 = 0 then 0 else 1) (1)) (oApp NB (([27] ++ [91] ++ [48])) (va_up p.1 6 (a), p.2))) sh (oP w N NB Z (oApp NB (([27] ++ [91] ++ [48])) (va_up p.1 6 (a), p.2)) sh h)) n
    rw [oApp_app (p := (va_up p.1 6 (a), p.2)) h3]
    refine pw_h (h' := oP w N NB Z (oApp NB (([27] ++ [91] ++ [48]) ++ partB (if (a) % 2 = 0 then 0 else 1) (1)) (va_up p.1 6 (a), p.2)) sh h) oP_put ?_
    refine pw_aload_n dX3_takePen_38 rfl ?_
    refine pw_aload_n dX3_takePen_39 rfl ?_
    refine pw_get (v := .int (zI (a))) okX3 (k := 6) (by decide) lkX3_58 (oAt_put hA).1 rfl dX3_takePen_40 ?_
    refine pw_iconst (v := zI (2)) dX3_takePen_43 (by decide) ?_
    refine pw_iand dX3_takePen_44 ?_
    rw [zT2 (by omega)]
    refine pw_b01 dX3_takePen_45 dX3_takePen_48 dX3_takePen_49 dX3_takePen_52 (by omega) ?_
    refine pw_iconst (v := zI (4)) dX3_takePen_53 (by decide) ?_
    refine pw_callV (As := [.int (zI (if (a) / 2 % 2 * 2 = 0 then 0 else 1)), .int (zI (4))]) (b := (Z 0)) (rm := rmD 2 0 0) (mX3_putPart (p := (oApp NB (([27] ++ [91] ++ [48]) ++ partB (if (a) % 2 = 0 then 0 else 1) (1)) (va_up p.1 6 (a), p.2))) htr (oAt_put hA) (oApp_3 (p := (va_up p.1 6 (a), p.2)) h3) hNB (b01 _) (by omega)) rfl (oAt_put hA).1 rfl rfl ywX3_putPart rfl cwX3_61 ⟨nle rfl, nle rfl⟩ (nle rfl) ⟨nle rfl, nle rfl⟩ dX3_takePen_54 ?_ (fun _ _ _ z => z.elim)
    intro r2 h2 n2 hq _
    rw [hq.1, hq.2.1, hq.2.2]
    show pw E YX3_takePen _ _ 0 0 57 [some (.ref (Z 0)), some (.int (zI (a))), none, none] [] (oP w N NB Z (oApp NB (partB (if (a) / 2 % 2 * 2 = 0 then 0 else 1) (4)) (oApp NB (([27] ++ [91] ++ [48]) ++ partB (if (a) % 2 = 0 then 0 else 1) (1)) (va_up p.1 6 (a), p.2))) sh (oP w N NB Z (oApp NB (([27] ++ [91] ++ [48]) ++ partB (if (a) % 2 = 0 then 0 else 1) (1)) (va_up p.1 6 (a), p.2)) sh h)) n
    rw [oApp_app (p := (va_up p.1 6 (a), p.2)) h3]
    refine pw_h (h' := oP w N NB Z (oApp NB (([27] ++ [91] ++ [48]) ++ partB (if (a) % 2 = 0 then 0 else 1) (1) ++ partB (if (a) / 2 % 2 * 2 = 0 then 0 else 1) (4)) (va_up p.1 6 (a), p.2)) sh h) oP_put ?_
    refine pw_aload_n dX3_takePen_57 rfl ?_
    refine pw_aload_n dX3_takePen_58 rfl ?_
    refine pw_get (v := .int (zI (a))) okX3 (k := 6) (by decide) lkX3_58 (oAt_put hA).1 rfl dX3_takePen_59 ?_
    refine pw_iconst (v := zI (4)) dX3_takePen_62 (by decide) ?_
    refine pw_iand dX3_takePen_63 ?_
    rw [zT4 (by omega)]
    refine pw_b01 dX3_takePen_64 dX3_takePen_67 dX3_takePen_68 dX3_takePen_71 (by omega) ?_
    refine pw_bipush (v := zI (7)) dX3_takePen_72 (by decide) ?_
    refine pw_callV (As := [.int (zI (if (a) / 4 % 2 * 4 = 0 then 0 else 1)), .int (zI (7))]) (b := (Z 0)) (rm := rmD 2 0 0) (mX3_putPart (p := (oApp NB (([27] ++ [91] ++ [48]) ++ partB (if (a) % 2 = 0 then 0 else 1) (1) ++ partB (if (a) / 2 % 2 * 2 = 0 then 0 else 1) (4)) (va_up p.1 6 (a), p.2))) htr (oAt_put hA) (oApp_3 (p := (va_up p.1 6 (a), p.2)) h3) hNB (b01 _) (by omega)) rfl (oAt_put hA).1 rfl rfl ywX3_putPart rfl cwX3_61 ⟨nle rfl, nle rfl⟩ (nle rfl) ⟨nle rfl, nle rfl⟩ dX3_takePen_74 ?_ (fun _ _ _ z => z.elim)
    intro r2 h2 n2 hq _
    rw [hq.1, hq.2.1, hq.2.2]
    show pw E YX3_takePen _ _ 0 0 77 [some (.ref (Z 0)), some (.int (zI (a))), none, none] [] (oP w N NB Z (oApp NB (partB (if (a) / 4 % 2 * 4 = 0 then 0 else 1) (7)) (oApp NB (([27] ++ [91] ++ [48]) ++ partB (if (a) % 2 = 0 then 0 else 1) (1) ++ partB (if (a) / 2 % 2 * 2 = 0 then 0 else 1) (4)) (va_up p.1 6 (a), p.2))) sh (oP w N NB Z (oApp NB (([27] ++ [91] ++ [48]) ++ partB (if (a) % 2 = 0 then 0 else 1) (1) ++ partB (if (a) / 2 % 2 * 2 = 0 then 0 else 1) (4)) (va_up p.1 6 (a), p.2)) sh h)) n
    rw [oApp_app (p := (va_up p.1 6 (a), p.2)) h3]
    refine pw_h (h' := oP w N NB Z (oApp NB (([27] ++ [91] ++ [48]) ++ partB (if (a) % 2 = 0 then 0 else 1) (1) ++ partB (if (a) / 2 % 2 * 2 = 0 then 0 else 1) (4) ++ partB (if (a) / 4 % 2 * 4 = 0 then 0 else 1) (7)) (va_up p.1 6 (a), p.2)) sh h) oP_put ?_
    refine pw_aload_n dX3_takePen_77 rfl ?_
    refine pw_get (v := .int (zI (a))) okX3 (k := 6) (by decide) lkX3_58 (oAt_put hA).1 rfl dX3_takePen_78 ?_
    refine pw_iconst (v := zI (4)) dX3_takePen_81 (by decide) ?_
    refine pw_ishr dX3_takePen_82 ?_
    rw [zR4 (by omega)]
    refine pw_bipush (v := zI (15)) dX3_takePen_83 (by decide) ?_
    refine pw_iand dX3_takePen_85 ?_
    rw [zT15 (by omega)]
    refine pw_istore_n (lv' := [some (.ref (Z 0)), some (.int (zI (a))), some (.int (zI (((a) / 16) % 16))), none]) dX3_takePen_86 (by decide) rfl rfl ?_
    refine pw_aload_n dX3_takePen_87 rfl ?_
    refine pw_iload_n dX3_takePen_88 rfl ?_
    refine pw_b01 dX3_takePen_89 dX3_takePen_92 dX3_takePen_93 dX3_takePen_96 (by omega) ?_
    refine pw_bipush (v := zI (29)) dX3_takePen_97 (by decide) ?_
    refine pw_iload_n dX3_takePen_99 rfl ?_
    refine pw_ziadd dX3_takePen_100 ?_
    refine pw_callV (As := [.int (zI (if ((a) / 16) % 16 = 0 then 0 else 1)), .int (zI ((29) + (((a) / 16) % 16)))]) (b := (Z 0)) (rm := rmD 2 0 0) (mX3_putPart (p := (oApp NB (([27] ++ [91] ++ [48]) ++ partB (if (a) % 2 = 0 then 0 else 1) (1) ++ partB (if (a) / 2 % 2 * 2 = 0 then 0 else 1) (4) ++ partB (if (a) / 4 % 2 * 4 = 0 then 0 else 1) (7)) (va_up p.1 6 (a), p.2))) htr (oAt_put hA) (oApp_3 (p := (va_up p.1 6 (a), p.2)) h3) hNB (b01 _) (by omega)) rfl (oAt_put hA).1 rfl rfl ywX3_putPart rfl cwX3_61 ⟨nle rfl, nle rfl⟩ (nle rfl) ⟨nle rfl, nle rfl⟩ dX3_takePen_101 ?_ (fun _ _ _ z => z.elim)
    intro r2 h2 n2 hq _
    rw [hq.1, hq.2.1, hq.2.2]
    show pw E YX3_takePen _ _ 0 0 104 [some (.ref (Z 0)), some (.int (zI (a))), some (.int (zI (((a) / 16) % 16))), none] [] (oP w N NB Z (oApp NB (partB (if ((a) / 16) % 16 = 0 then 0 else 1) ((29) + (((a) / 16) % 16))) (oApp NB (([27] ++ [91] ++ [48]) ++ partB (if (a) % 2 = 0 then 0 else 1) (1) ++ partB (if (a) / 2 % 2 * 2 = 0 then 0 else 1) (4) ++ partB (if (a) / 4 % 2 * 4 = 0 then 0 else 1) (7)) (va_up p.1 6 (a), p.2))) sh (oP w N NB Z (oApp NB (([27] ++ [91] ++ [48]) ++ partB (if (a) % 2 = 0 then 0 else 1) (1) ++ partB (if (a) / 2 % 2 * 2 = 0 then 0 else 1) (4) ++ partB (if (a) / 4 % 2 * 4 = 0 then 0 else 1) (7)) (va_up p.1 6 (a), p.2)) sh h)) n
    rw [oApp_app (p := (va_up p.1 6 (a), p.2)) h3]
    refine pw_h (h' := oP w N NB Z (oApp NB (([27] ++ [91] ++ [48]) ++ partB (if (a) % 2 = 0 then 0 else 1) (1) ++ partB (if (a) / 2 % 2 * 2 = 0 then 0 else 1) (4) ++ partB (if (a) / 4 % 2 * 4 = 0 then 0 else 1) (7) ++ partB (if ((a) / 16) % 16 = 0 then 0 else 1) ((29) + (((a) / 16) % 16))) (va_up p.1 6 (a), p.2)) sh h) oP_put ?_
    refine pw_aload_n dX3_takePen_104 rfl ?_
    refine pw_get (v := .int (zI (a))) okX3 (k := 6) (by decide) lkX3_58 (oAt_put hA).1 rfl dX3_takePen_105 ?_
    refine pw_bipush (v := zI (8)) dX3_takePen_108 (by decide) ?_
    refine pw_ishr dX3_takePen_110 ?_
    rw [zR8 (by omega)]
    refine pw_bipush (v := zI (15)) dX3_takePen_111 (by decide) ?_
    refine pw_iand dX3_takePen_113 ?_
    rw [zT15 (by omega)]
    refine pw_istore_n (lv' := [some (.ref (Z 0)), some (.int (zI (a))), some (.int (zI (((a) / 16) % 16))), some (.int (zI (((a) / 256) % 16)))]) dX3_takePen_114 (by decide) rfl rfl ?_
    refine pw_aload_n dX3_takePen_115 rfl ?_
    refine pw_iload_n dX3_takePen_116 rfl ?_
    refine pw_b01 dX3_takePen_117 dX3_takePen_120 dX3_takePen_121 dX3_takePen_124 (by omega) ?_
    refine pw_bipush (v := zI (39)) dX3_takePen_125 (by decide) ?_
    refine pw_iload_n dX3_takePen_127 rfl ?_
    refine pw_ziadd dX3_takePen_128 ?_
    refine pw_callV (As := [.int (zI (if ((a) / 256) % 16 = 0 then 0 else 1)), .int (zI ((39) + (((a) / 256) % 16)))]) (b := (Z 0)) (rm := rmD 2 0 0) (mX3_putPart (p := (oApp NB (([27] ++ [91] ++ [48]) ++ partB (if (a) % 2 = 0 then 0 else 1) (1) ++ partB (if (a) / 2 % 2 * 2 = 0 then 0 else 1) (4) ++ partB (if (a) / 4 % 2 * 4 = 0 then 0 else 1) (7) ++ partB (if ((a) / 16) % 16 = 0 then 0 else 1) ((29) + (((a) / 16) % 16))) (va_up p.1 6 (a), p.2))) htr (oAt_put hA) (oApp_3 (p := (va_up p.1 6 (a), p.2)) h3) hNB (b01 _) (by omega)) rfl (oAt_put hA).1 rfl rfl ywX3_putPart rfl cwX3_61 ⟨nle rfl, nle rfl⟩ (nle rfl) ⟨nle rfl, nle rfl⟩ dX3_takePen_129 ?_ (fun _ _ _ z => z.elim)
    intro r2 h2 n2 hq _
    rw [hq.1, hq.2.1, hq.2.2]
    show pw E YX3_takePen _ _ 0 0 132 [some (.ref (Z 0)), some (.int (zI (a))), some (.int (zI (((a) / 16) % 16))), some (.int (zI (((a) / 256) % 16)))] [] (oP w N NB Z (oApp NB (partB (if ((a) / 256) % 16 = 0 then 0 else 1) ((39) + (((a) / 256) % 16))) (oApp NB (([27] ++ [91] ++ [48]) ++ partB (if (a) % 2 = 0 then 0 else 1) (1) ++ partB (if (a) / 2 % 2 * 2 = 0 then 0 else 1) (4) ++ partB (if (a) / 4 % 2 * 4 = 0 then 0 else 1) (7) ++ partB (if ((a) / 16) % 16 = 0 then 0 else 1) ((29) + (((a) / 16) % 16))) (va_up p.1 6 (a), p.2))) sh (oP w N NB Z (oApp NB (([27] ++ [91] ++ [48]) ++ partB (if (a) % 2 = 0 then 0 else 1) (1) ++ partB (if (a) / 2 % 2 * 2 = 0 then 0 else 1) (4) ++ partB (if (a) / 4 % 2 * 4 = 0 then 0 else 1) (7) ++ partB (if ((a) / 16) % 16 = 0 then 0 else 1) ((29) + (((a) / 16) % 16))) (va_up p.1 6 (a), p.2)) sh h)) n
    rw [oApp_app (p := (va_up p.1 6 (a), p.2)) h3]
    refine pw_h (h' := oP w N NB Z (oApp NB (([27] ++ [91] ++ [48]) ++ partB (if (a) % 2 = 0 then 0 else 1) (1) ++ partB (if (a) / 2 % 2 * 2 = 0 then 0 else 1) (4) ++ partB (if (a) / 4 % 2 * 4 = 0 then 0 else 1) (7) ++ partB (if ((a) / 16) % 16 = 0 then 0 else 1) ((29) + (((a) / 16) % 16)) ++ partB (if ((a) / 256) % 16 = 0 then 0 else 1) ((39) + (((a) / 256) % 16))) (va_up p.1 6 (a), p.2)) sh h) oP_put ?_
    refine pw_aload_n dX3_takePen_132 rfl ?_
    refine pw_bipush (v := zI (109)) dX3_takePen_133 (by decide) ?_
    refine pw_callV (As := [.int (zI (109))]) (b := (Z 0)) (rm := rmD 0 0 0) (mX3_put (p := (oApp NB (([27] ++ [91] ++ [48]) ++ partB (if (a) % 2 = 0 then 0 else 1) (1) ++ partB (if (a) / 2 % 2 * 2 = 0 then 0 else 1) (4) ++ partB (if (a) / 4 % 2 * 4 = 0 then 0 else 1) (7) ++ partB (if ((a) / 16) % 16 = 0 then 0 else 1) ((29) + (((a) / 16) % 16)) ++ partB (if ((a) / 256) % 16 = 0 then 0 else 1) ((39) + (((a) / 256) % 16))) (va_up p.1 6 (a), p.2))) htr (oAt_put hA) (oApp_3 h3) hNB) rfl (oAt_put hA).1 rfl rfl ywX3_put rfl cwX3_43 ⟨nle rfl, nle rfl⟩ (nle rfl) ⟨nle rfl, nle rfl⟩ dX3_takePen_135 ?_ (fun _ _ _ z => z.elim)
    intro r2 h2 n2 hq _
    rw [hq.1, hq.2.1, hq.2.2]
    show pw E YX3_takePen _ _ 0 0 138 [some (.ref (Z 0)), some (.int (zI (a))), some (.int (zI (((a) / 16) % 16))), some (.int (zI (((a) / 256) % 16)))] [] (oP w N NB Z (oApp NB ([109]) (oApp NB (([27] ++ [91] ++ [48]) ++ partB (if (a) % 2 = 0 then 0 else 1) (1) ++ partB (if (a) / 2 % 2 * 2 = 0 then 0 else 1) (4) ++ partB (if (a) / 4 % 2 * 4 = 0 then 0 else 1) (7) ++ partB (if ((a) / 16) % 16 = 0 then 0 else 1) ((29) + (((a) / 16) % 16)) ++ partB (if ((a) / 256) % 16 = 0 then 0 else 1) ((39) + (((a) / 256) % 16))) (va_up p.1 6 (a), p.2))) sh (oP w N NB Z (oApp NB (([27] ++ [91] ++ [48]) ++ partB (if (a) % 2 = 0 then 0 else 1) (1) ++ partB (if (a) / 2 % 2 * 2 = 0 then 0 else 1) (4) ++ partB (if (a) / 4 % 2 * 4 = 0 then 0 else 1) (7) ++ partB (if ((a) / 16) % 16 = 0 then 0 else 1) ((29) + (((a) / 16) % 16)) ++ partB (if ((a) / 256) % 16 = 0 then 0 else 1) ((39) + (((a) / 256) % 16))) (va_up p.1 6 (a), p.2)) sh h)) n
    rw [oApp_app (p := (va_up p.1 6 (a), p.2)) h3]
    refine pw_h (h' := oP w N NB Z (oApp NB (([27] ++ [91] ++ [48]) ++ partB (if (a) % 2 = 0 then 0 else 1) (1) ++ partB (if (a) / 2 % 2 * 2 = 0 then 0 else 1) (4) ++ partB (if (a) / 4 % 2 * 4 = 0 then 0 else 1) (7) ++ partB (if ((a) / 16) % 16 = 0 then 0 else 1) ((29) + (((a) / 16) % 16)) ++ partB (if ((a) / 256) % 16 = 0 then 0 else 1) ((39) + (((a) / 256) % 16)) ++ [109]) (va_up p.1 6 (a), p.2)) sh h) oP_put ?_
    exact pw_vret dX3_takePen_138 rfl (nle rfl) (nle rfl) ⟨rfl, by rw [show oPen NB a p = oApp NB (penB a) (va_up p.1 6 a, p.2) from if_neg (show ¬ p.1 6 = a by omega)]; first | done | rfl, rfl⟩
set_option maxHeartbeats 4000000 in
set_option maxRecDepth 100000 in
/-- Outer.show(c, r, v) -/
theorem mX3_show {E : pw_E} (htr : E.1.stackTraces = false) {h : pz_H} {n : Nat} {w : Int} {N NB : Nat} {Z : Nat → Nat} {p : oPr} {sh : Nat → Int} (hA : oAt w N NB Z p sh h) (h3 : 0 ≤ p.1 3 ∧ p.1 3 ≤ NB) (hNB : NB ≤ 100000) {c r v : Int} {H : Int} (hw : 8 ≤ w ∧ w ≤ 40) (hH : 4 ≤ H ∧ H ≤ 16) (hN : (N : Int) = w * H) (hN2 : N ≤ 640) (hc : 0 ≤ c ∧ c < w) (hr : 0 ≤ r ∧ r < H) (hv : 0 ≤ v ∧ v < 524288) (hsh : ∀ j : Nat, 0 ≤ sh j ∧ sh j < 524288) (h4 : -1 ≤ p.1 4 ∧ p.1 4 < 99) (h5 : 0 ≤ p.1 5 ∧ p.1 5 < 99) (h6 : 0 ≤ p.1 6 ∧ p.1 6 < 4096) : pw_M E yX3_show YX3_show (rmD 4 0 0) [.ref (Z 0), .int (zI (c)), .int (zI (r)), .int (zI (v))] h n (fun r0 h' n' => r0 = none ∧ h' = oP w N NB Z (if sh (r * w + c).toNat = v then p else oShowP NB w c r v p) (if sh (r * w + c).toNat = v then sh else (va_up sh (r * w + c).toNat v)) h ∧ n' = n) (fun _ _ _ => False) := by
  refine pw_M_of (lv := [some (.ref (Z 0)), some (.int (zI (c))), some (.int (zI (r))), some (.int (zI (v))), none]) (by decide) rfl rfl htr (nle rfl) rfl (fun L => ?_)
  refine pw_h (oP_id hA).symm ?_
  have hz := zrow (row := r) (w := w) (H := H) hr.1 hr.2 (by omega)
  have hs0 := hsh (r * w + c).toNat
  refine pw_iload_n dX3_show_0 rfl ?_
  refine pw_aload_n dX3_show_1 rfl ?_
  refine pw_get (v := .int (zI (w))) okX3 (k := 0) (by decide) lkX3_15 (oAt_put hA).1 rfl dX3_show_2 ?_
  refine pw_zimul dX3_show_5 ?_
  refine pw_iload_n dX3_show_6 rfl ?_
  refine pw_ziadd dX3_show_7 ?_
  refine pw_istore (lv' := [some (.ref (Z 0)), some (.int (zI (c))), some (.int (zI (r))), some (.int (zI (v))), some (.int (zI ((r * w) + (c))))]) dX3_show_8 (by decide) rfl rfl ?_
  refine pw_iload dX3_show_10 rfl ?_
  refine pw_if_lt (tgt := 36) dX3_show_12 rfl (by omega) (fun c12 => ?_) (fun c12 => ?_)
  · exfalso; omega
  ·
    refine pw_iload dX3_show_15 rfl ?_
    refine pw_aload_n dX3_show_17 rfl ?_
    refine pw_get (v := .ref (Z 1)) okX3 (k := 1) (by decide) lkX3_19 (oAt_put hA).1 rfl dX3_show_18 ?_
    refine pw_alenI (t := 0) rfl (oAt_put hA).2.1 dX3_show_21 ?_
    refine pw_icmp_ge (tgt := 36) dX3_show_22 rfl (by omega) (by omega) (fun c22 => ?_) (fun c22 => ?_)
    · exfalso; omega
    ·
      refine pw_aload_n dX3_show_25 rfl ?_
      refine pw_get (v := .ref (Z 1)) okX3 (k := 1) (by decide) lkX3_19 (oAt_put hA).1 rfl dX3_show_26 ?_
      refine pw_iload dX3_show_29 rfl ?_
      refine pw_iald (t := 0) rfl (oAt_put hA).2.1 (by omega) (by omega) dX3_show_31 ?_
      refine pw_iload_n dX3_show_32 rfl ?_
      refine pw_icmp_ne (tgt := 37) dX3_show_33 rfl (by omega) (by omega) (fun c33 => ?_) (fun c33 => ?_)
      ·
        refine pw_aload_n dX3_show_37 rfl ?_
        refine pw_get (v := .ref (Z 1)) okX3 (k := 1) (by decide) lkX3_19 (oAt_put hA).1 rfl dX3_show_38 ?_
        refine pw_iload dX3_show_41 rfl ?_
        refine pw_iload_n dX3_show_43 rfl ?_
        refine pw_iast (t := 0) rfl (oAt_put hA).2.1 (by omega) (by omega) dX3_show_44 ?_
        refine pw_h (oU1 hA) ?_
        refine pw_aload_n dX3_show_45 rfl ?_
        refine pw_iload_n dX3_show_46 rfl ?_
        refine pw_iload_n dX3_show_47 rfl ?_
        refine pw_callV (As := [.int (zI (c)), .int (zI (r))]) (b := (Z 0)) (rm := rmD 2 0 0) (mX3_moveTo (p := p) htr (oAt_put hA) h3 hNB (by omega) (by omega) h4 h5) rfl (oAt_put hA).1 rfl rfl ywX3_moveTo rfl cwX3_35 ⟨nle rfl, nle rfl⟩ (nle rfl) ⟨nle rfl, nle rfl⟩ dX3_show_48 ?_ (fun _ _ _ z => z.elim)
        intro r2 h2 n2 hq _
        rw [hq.1, hq.2.1, hq.2.2]
        show pw E YX3_show _ _ 0 0 51 [some (.ref (Z 0)), some (.int (zI (c))), some (.int (zI (r))), some (.int (zI (v))), some (.int (zI ((r * w) + (c))))] [] (oP w N NB Z (oMove NB (c) (r) p) (va_up sh ((r * w) + (c)).toNat (v)) (oP w N NB Z p (va_up sh ((r * w) + (c)).toNat (v)) h)) n
        refine pw_h (h' := oP w N NB Z (oMove NB (c) (r) p) (va_up sh ((r * w) + (c)).toNat (v)) h) oP_put ?_
        refine pw_aload_n dX3_show_51 rfl ?_
        refine pw_iload_n dX3_show_52 rfl ?_
        refine pw_sipush (v := zI (128)) dX3_show_53 (by decide) ?_
        refine pw_zidiv dX3_show_56 (by omega) (by omega) ?_
        refine pw_callV (As := [.int (zI ((v) / (128)))]) (b := (Z 0)) (rm := rmD 3 0 0) (mX3_takePen (p := (oMove NB (c) (r) p)) htr (oAt_put hA) (oMove_3 h3) hNB (by omega) (by rw [oMove_6]; exact h6)) rfl (oAt_put hA).1 rfl rfl ywX3_takePen rfl cwX3_39 ⟨nle rfl, nle rfl⟩ (nle rfl) ⟨nle rfl, nle rfl⟩ dX3_show_57 ?_ (fun _ _ _ z => z.elim)
        intro r2 h2 n2 hq _
        rw [hq.1, hq.2.1, hq.2.2]
        show pw E YX3_show _ _ 0 0 60 [some (.ref (Z 0)), some (.int (zI (c))), some (.int (zI (r))), some (.int (zI (v))), some (.int (zI ((r * w) + (c))))] [] (oP w N NB Z (oPen NB ((v) / (128)) (oMove NB (c) (r) p)) (va_up sh ((r * w) + (c)).toNat (v)) (oP w N NB Z (oMove NB (c) (r) p) (va_up sh ((r * w) + (c)).toNat (v)) h)) n
        refine pw_h (h' := oP w N NB Z (oPen NB ((v) / (128)) (oMove NB (c) (r) p)) (va_up sh ((r * w) + (c)).toNat (v)) h) oP_put ?_
        refine pw_aload_n dX3_show_60 rfl ?_
        refine pw_iload_n dX3_show_61 rfl ?_
        refine pw_sipush (v := zI (128)) dX3_show_62 (by decide) ?_
        refine pw_zirem dX3_show_65 (by omega) (by omega) ?_
        refine pw_callV (As := [.int (zI ((v) % (128)))]) (b := (Z 0)) (rm := rmD 0 0 0) (mX3_put (p := (oPen NB ((v) / (128)) (oMove NB (c) (r) p))) htr (oAt_put hA) (oPen_3 (oMove_3 h3)) hNB) rfl (oAt_put hA).1 rfl rfl ywX3_put rfl cwX3_43 ⟨nle rfl, nle rfl⟩ (nle rfl) ⟨nle rfl, nle rfl⟩ dX3_show_66 ?_ (fun _ _ _ z => z.elim)
        intro r2 h2 n2 hq _
        rw [hq.1, hq.2.1, hq.2.2]
        show pw E YX3_show _ _ 0 0 69 [some (.ref (Z 0)), some (.int (zI (c))), some (.int (zI (r))), some (.int (zI (v))), some (.int (zI ((r * w) + (c))))] [] (oP w N NB Z (oApp NB ([(v) % (128)]) (oPen NB ((v) / (128)) (oMove NB (c) (r) p))) (va_up sh ((r * w) + (c)).toNat (v)) (oP w N NB Z (oPen NB ((v) / (128)) (oMove NB (c) (r) p)) (va_up sh ((r * w) + (c)).toNat (v)) h)) n
        refine pw_h (h' := oP w N NB Z (oApp NB ([(v) % (128)]) (oPen NB ((v) / (128)) (oMove NB (c) (r) p))) (va_up sh ((r * w) + (c)).toNat (v)) h) oP_put ?_
        refine pw_aload_n dX3_show_69 rfl ?_
        refine pw_iload_n dX3_show_70 rfl ?_
        refine pw_aload_n dX3_show_71 rfl ?_
        refine pw_get (v := .int (zI (w))) okX3 (k := 0) (by decide) lkX3_15 (oAt_put hA).1 rfl dX3_show_72 ?_
        refine pw_iconst (v := zI (1)) dX3_show_75 (by decide) ?_
        refine pw_zisub dX3_show_76 ?_
        refine pw_icmp_ne (tgt := 84) dX3_show_77 rfl (by omega) (by omega) (fun c77 => ?_) (fun c77 => ?_)
        ·
          refine pw_iload_n dX3_show_84 rfl ?_
          refine pw_iconst (v := zI (1)) dX3_show_85 (by decide) ?_
          refine pw_ziadd dX3_show_86 ?_
          refine pw_put (fs' := (ouObj w Z (va_up (oApp NB ([(v) % (128)]) (oPen NB ((v) / (128)) (oMove NB (c) (r) p))).1 4 (c + 1)))) okX3 (k := 4) (by decide) lkX3_46 rfl rfl rfl (oAt_put hA).1 (nlt rfl) rfl dX3_show_87 ?_
          refine pw_h oU0 ?_
          exact pw_vret dX3_show_90 rfl (nle rfl) (nle rfl) ⟨rfl, by rw [if_neg (show ¬ sh (r * w + c).toNat = v by omega), if_neg (show ¬ sh (r * w + c).toNat = v by omega)]; unfold oShowP; first | rw [if_pos (show c = w - 1 by omega)] | rw [if_neg (show ¬ c = w - 1 by omega)], rfl⟩
        ·
          refine pw_iconst (v := zI (-1)) dX3_show_80 (by decide) ?_
          refine pw_goto (tgt := 87) dX3_show_81 rfl ?_
          refine pw_put (fs' := (ouObj w Z (va_up (oApp NB ([(v) % (128)]) (oPen NB ((v) / (128)) (oMove NB (c) (r) p))).1 4 (-1)))) okX3 (k := 4) (by decide) lkX3_46 rfl rfl rfl (oAt_put hA).1 (nlt rfl) rfl dX3_show_87 ?_
          refine pw_h oU0 ?_
          exact pw_vret dX3_show_90 rfl (nle rfl) (nle rfl) ⟨rfl, by rw [if_neg (show ¬ sh (r * w + c).toNat = v by omega), if_neg (show ¬ sh (r * w + c).toNat = v by omega)]; unfold oShowP; first | rw [if_pos (show c = w - 1 by omega)] | rw [if_neg (show ¬ c = w - 1 by omega)], rfl⟩
      ·
        exact pw_vret dX3_show_36 rfl (nle rfl) (nle rfl) ⟨rfl, by rw [if_pos (by omega), if_pos (by omega)], rfl⟩
