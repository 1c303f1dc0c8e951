def YX6_takeLonger : pw_Y := (RX6, "takeLonger", cX6_takeLonger, 2, none)
theorem ywX6_takeLonger : pw_y yX6_takeLonger YX6_takeLonger 1 := ⟨by decide +kernel, by decide +kernel, by decide +kernel, pw_in 989 (by decide +kernel) (by decide +kernel), pw_in 86 (by decide +kernel) (by decide +kernel)⟩
theorem cwX6_89 : Cond.methodLink RX6 89 yX6_endWait ∈ pw_G ∧ Cond.instanceMethod yX6_endWait ∈ pw_G ∧ Cond.selects RX6 yX6_endWait yX6_endWait ∈ pw_G := ⟨pw_in 995 (by decide +kernel) (by decide +kernel), pw_in 997 (by decide +kernel) (by decide +kernel), pw_in 16 (by decide +kernel) (by decide +kernel)⟩
theorem lkX6_39 : Cond.fieldLink RX6 39 (TX6 4).1 (TX6 4).2.1 (TX6 4).2.2.1 ∈ pw_G := pw_in 276 (by decide +kernel) (by decide +kernel)
theorem cwX6_95 : Cond.methodLink RX6 95 yX6_doLonger ∈ pw_G ∧ Cond.instanceMethod yX6_doLonger ∈ pw_G ∧ Cond.selects RX6 yX6_doLonger yX6_doLonger ∈ pw_G := ⟨pw_in 1007 (by decide +kernel) (by decide +kernel), pw_in 1009 (by decide +kernel) (by decide +kernel), pw_in 18 (by decide +kernel) (by decide +kernel)⟩
theorem cwX6_92 : Cond.methodLink RX6 92 yX6_doAsked ∈ pw_G ∧ Cond.instanceMethod yX6_doAsked ∈ pw_G ∧ Cond.selects RX6 yX6_doAsked yX6_doAsked ∈ pw_G := ⟨pw_in 999 (by decide +kernel) (by decide +kernel), pw_in 1001 (by decide +kernel) (by decide +kernel), pw_in 17 (by decide +kernel) (by decide +kernel)⟩
theorem cwX6_80 : Cond.methodLink RX6 80 yX6_takeDigit ∈ pw_G ∧ Cond.instanceMethod yX6_takeDigit ∈ pw_G ∧ Cond.selects RX6 yX6_takeDigit yX6_takeDigit ∈ pw_G := ⟨pw_in 990 (by decide +kernel) (by decide +kernel), pw_in 992 (by decide +kernel) (by decide +kernel), pw_in 15 (by decide +kernel) (by decide +kernel)⟩
def YX6_take : pw_Y := (RX6, "take", cX6_take, 2, none)
theorem ywX6_take : pw_y yX6_take YX6_take 1 := ⟨by decide +kernel, by decide +kernel, by decide +kernel, pw_in 952 (by decide +kernel) (by decide +kernel), pw_in 86 (by decide +kernel) (by decide +kernel)⟩
theorem cwX6_50 : Cond.methodLink RX6 50 yX7_write ∈ pw_G ∧ Cond.instanceMethod yX7_write ∈ pw_G ∧ Cond.selects RX7 yX7_write yX7_write ∈ pw_G := ⟨pw_in 1096 (by decide +kernel) (by decide +kernel), pw_in 1097 (by decide +kernel) (by decide +kernel), pw_in 1098 (by decide +kernel) (by decide +kernel)⟩
theorem cwX6_47 : Cond.methodLink RX6 47 yX6_takeShort ∈ pw_G ∧ Cond.instanceMethod yX6_takeShort ∈ pw_G ∧ Cond.selects RX6 yX6_takeShort yX6_takeShort ∈ pw_G := ⟨pw_in 1076 (by decide +kernel) (by decide +kernel), pw_in 1078 (by decide +kernel) (by decide +kernel), pw_in 22 (by decide +kernel) (by decide +kernel)⟩
theorem cwX6_43 : Cond.methodLink RX6 43 yX6_takeLonger ∈ pw_G ∧ Cond.instanceMethod yX6_takeLonger ∈ pw_G ∧ Cond.selects RX6 yX6_takeLonger yX6_takeLonger ∈ pw_G := ⟨pw_in 986 (by decide +kernel) (by decide +kernel), pw_in 988 (by decide +kernel) (by decide +kernel), pw_in 14 (by decide +kernel) (by decide +kernel)⟩
theorem cwX6_33 : Cond.methodLink RX6 33 yX7_goToTab ∈ pw_G ∧ Cond.instanceMethod yX7_goToTab ∈ pw_G ∧ Cond.selects RX7 yX7_goToTab yX7_goToTab ∈ pw_G := ⟨pw_in 954 (by decide +kernel) (by decide +kernel), pw_in 955 (by decide +kernel) (by decide +kernel), pw_in 956 (by decide +kernel) (by decide +kernel)⟩
set_option maxHeartbeats 4000000 in
set_option maxRecDepth 100000 in
/-- Reader.takeLonger(b) -/
theorem mX6_takeLonger {E : pw_E} (htr : E.1.stackTraces = false) {h : pz_H} {n : Nat} {w H : Int} {N NH : Nat} {I J : Nat → Nat} {s : zSt} {R q : Nat → Int} (hG : geo w H N NH) (hA : rAt w H N NH I J s R q h) (hO : rOk w H s R q) {b : Int} (hb : 0 ≤ b ∧ b ≤ 255) : pw_M E yX6_takeLonger YX6_takeLonger (rmD 7 0 0) [.ref (J 0), .int (zI (b))] h n (fun r h' n' => r = none ∧ h' = rPt w H N NH I J (rLonger w H NH b (s, R, q)) h ∧ n' = n) (fun _ _ _ => False) := by
  have hG0 := hG
  have hO0 := hO
  obtain ⟨gw, gH, gN, gN2, gNH⟩ := hG
  obtain ⟨hz, r2, r3, r4, r5, hq⟩ := hO
  have hz0 := hz
  obtain ⟨o3, o4, o5, o6, o7, o8, o9, o10, o11, o12, o14, o15, o16, o17, oT3, oT4⟩ := hz
  have q0 := hq 0
  have q1 := hq 1
  refine pw_M_of (lv := [some (.ref (J 0)), some (.int (zI (b)))]) (by decide) rfl rfl htr (nle rfl) rfl (fun L => ?_)
  refine pw_h (rP_id hA).symm ?_
  refine pw_iload_n dX6_takeLonger_0 rfl ?_
  refine pw_bipush (v := zI (48)) dX6_takeLonger_1 (by decide) ?_
  refine pw_icmp_lt (tgt := 23) dX6_takeLonger_3 rfl (by omega) (by omega) (fun c3 => ?_) (fun c3 => ?_)
  ·
    refine pw_iload_n dX6_takeLonger_23 rfl ?_
    refine pw_bipush (v := zI (59)) dX6_takeLonger_24 (by decide) ?_
    refine pw_icmp_ne (tgt := 51) dX6_takeLonger_26 rfl (by omega) (by omega) (fun c26 => ?_) (fun c26 => ?_)
    ·
      refine pw_iload_n dX6_takeLonger_51 rfl ?_
      refine pw_bipush (v := zI (64)) dX6_takeLonger_52 (by decide) ?_
      refine pw_icmp_lt (tgt := 93) dX6_takeLonger_54 rfl (by omega) (by omega) (fun c54 => ?_) (fun c54 => ?_)
      ·
        exact pw_vret dX6_takeLonger_93 rfl (nle rfl) (nle rfl) ⟨rfl, by unfold rLonger; first | (exfalso; omega) | (repeat (first | rw [if_pos (by omega)] | rw [if_neg (by omega)])); first | done | rfl, rfl⟩
      ·
        refine pw_iload_n dX6_takeLonger_57 rfl ?_
        refine pw_bipush (v := zI (126)) dX6_takeLonger_58 (by decide) ?_
        refine pw_icmp_gt (tgt := 93) dX6_takeLonger_60 rfl (by omega) (by omega) (fun c60 => ?_) (fun c60 => ?_)
        ·
          exact pw_vret dX6_takeLonger_93 rfl (nle rfl) (nle rfl) ⟨rfl, by unfold rLonger; first | (exfalso; omega) | (repeat (first | rw [if_pos (by omega)] | rw [if_neg (by omega)])); first | done | rfl, rfl⟩
        ·
          refine pw_aload_n dX6_takeLonger_63 rfl ?_
          refine pw_iconst (v := zI (0)) dX6_takeLonger_64 (by decide) ?_
          refine pw_put (fs' := (rdObj I J (va_up R 5 (0)))) okX6 (k := 5) (by decide) lkX6_17 rfl rfl rfl (rAt_put hA).2.1 (nlt rfl) rfl dX6_takeLonger_65 ?_
          refine pw_h rU0 ?_
          refine pw_aload_n dX6_takeLonger_68 rfl ?_
          refine pw_iload_n dX6_takeLonger_69 rfl ?_
          refine pw_callV (As := [.int (zI (b))]) (b := (J 0)) (rm := rmD 0 0 0) (mX6_endWait htr hG0 (rAt_put hA) (rOk_5 hO0 (by omega)) (by omega)) rfl (rAt_put hA).2.1 rfl rfl ywX6_endWait rfl cwX6_89 ⟨nle rfl, nle rfl⟩ (nle rfl) ⟨nle rfl, nle rfl⟩ dX6_takeLonger_70 ?_ (fun _ _ _ z => z.elim)
          intro r2 h2 n2 hq _
          rw [hq.1, hq.2.1, hq.2.2]
          show pw E YX6_takeLonger _ _ 0 0 73 [some (.ref (J 0)), some (.int (zI (b)))] [] (rP w H N NH I J (zEnd b s) (va_up R 5 (0)) q (rP w H N NH I J s (va_up R 5 (0)) q h)) n
          refine pw_h (rP_put hA) ?_
          refine pw_aload_n dX6_takeLonger_73 rfl ?_
          refine pw_get (v := .int (zI (R 4))) okX6 (k := 4) (by decide) lkX6_39 (rAt_put hA).2.1 rfl dX6_takeLonger_74 ?_
          refine pw_if_eq (tgt := 88) dX6_takeLonger_77 rfl (by omega) (fun c77 => ?_) (fun c77 => ?_)
          ·
            refine pw_aload_n dX6_takeLonger_88 rfl ?_
            refine pw_iload_n dX6_takeLonger_89 rfl ?_
            refine pw_callV (As := [.int (zI (b))]) (b := (J 0)) (rm := rmD 6 0 0) (mX6_doLonger htr hG0 (rAt_put hA) (rOk_z (rOk_5 hO0 (by omega)) (zEnd_ok hz0)) (by omega)) rfl (rAt_put hA).2.1 rfl rfl ywX6_doLonger rfl cwX6_95 ⟨nle rfl, nle rfl⟩ (nle rfl) ⟨nle rfl, nle rfl⟩ dX6_takeLonger_90 ?_ (fun _ _ _ z => z.elim)
            intro r2 h2 n2 hq _
            rw [hq.1, hq.2.1, hq.2.2]
            show pw E YX6_takeLonger _ _ 0 0 93 [some (.ref (J 0)), some (.int (zI (b)))] [] (rP w H N NH I J (zDo w H NH b (va_up R 5 (0)) q (zEnd b s)) (va_up R 5 (0)) q (rP w H N NH I J (zEnd b s) (va_up R 5 (0)) q h)) n
            refine pw_h (rP_put hA) ?_
            exact pw_vret dX6_takeLonger_93 rfl (nle rfl) (nle rfl) ⟨rfl, by unfold rLonger; first | (exfalso; omega) | (repeat (first | rw [if_pos (by omega)] | rw [if_neg (by omega)])); first | done | rfl, rfl⟩
          ·
            refine pw_aload_n dX6_takeLonger_80 rfl ?_
            refine pw_iload_n dX6_takeLonger_81 rfl ?_
            refine pw_callV (As := [.int (zI (b))]) (b := (J 0)) (rm := rmD 5 0 0) (mX6_doAsked htr hG0 (rAt_put hA) (rOk_z (rOk_5 hO0 (by omega)) (zEnd_ok hz0)) (by omega)) rfl (rAt_put hA).2.1 rfl rfl ywX6_doAsked rfl cwX6_92 ⟨nle rfl, nle rfl⟩ (nle rfl) ⟨nle rfl, nle rfl⟩ dX6_takeLonger_82 ?_ (fun _ _ _ z => z.elim)
            intro r2 h2 n2 hq _
            rw [hq.1, hq.2.1, hq.2.2]
            show pw E YX6_takeLonger _ _ 0 0 85 [some (.ref (J 0)), some (.int (zI (b)))] [] (rP w H N NH I J (zAsked w H b q (zEnd b s)) (va_up R 5 (0)) q (rP w H N NH I J (zEnd b s) (va_up R 5 (0)) q h)) n
            refine pw_h (rP_put hA) ?_
            refine pw_goto (tgt := 93) dX6_takeLonger_85 rfl ?_
            exact pw_vret dX6_takeLonger_93 rfl (nle rfl) (nle rfl) ⟨rfl, by unfold rLonger; first | (exfalso; omega) | (repeat (first | rw [if_pos (by omega)] | rw [if_neg (by omega)])); first | done | rfl, rfl⟩
    ·
      refine pw_aload_n dX6_takeLonger_29 rfl ?_
      refine pw_iconst (v := zI (4)) dX6_takeLonger_30 (by decide) ?_
      refine pw_aload_n dX6_takeLonger_31 rfl ?_
      refine pw_get (v := .int (zI (R 2))) okX6 (k := 2) (by decide) lkX6_74 (rAt_put hA).2.1 rfl dX6_takeLonger_32 ?_
      refine pw_iconst (v := zI (1)) dX6_takeLonger_35 (by decide) ?_
      refine pw_ziadd dX6_takeLonger_36 ?_
      refine pw_min cwX6_83 dX6_takeLonger_37 (by omega) (by omega) ⟨nle rfl, nle rfl⟩ ⟨nle rfl, nle rfl⟩ ?_
      refine pw_put (fs' := (rdObj I J (va_up R 2 (min (4) ((R 2) + (1)))))) okX6 (k := 2) (by decide) lkX6_74 rfl rfl rfl (rAt_put hA).2.1 (nlt rfl) rfl dX6_takeLonger_40 ?_
      refine pw_h rU0 ?_
      refine pw_aload_n dX6_takeLonger_43 rfl ?_
      refine pw_iconst (v := zI (0)) dX6_takeLonger_44 (by decide) ?_
      refine pw_put (fs' := (rdObj I J (va_up (va_up R 2 (min (4) ((R 2) + (1)))) 3 (0)))) okX6 (k := 3) (by decide) lkX6_77 rfl (by decide) (by decide) (rAt_put hA).2.1 (nlt rfl) rfl dX6_takeLonger_45 ?_
      refine pw_h rU0 ?_
      refine pw_goto (tgt := 93) dX6_takeLonger_48 rfl ?_
      exact pw_vret dX6_takeLonger_93 rfl (nle rfl) (nle rfl) ⟨rfl, by unfold rLonger; first | (exfalso; omega) | (repeat (first | rw [if_pos (by omega)] | rw [if_neg (by omega)])); first | done | rfl, rfl⟩
  ·
    refine pw_iload_n dX6_takeLonger_6 rfl ?_
    refine pw_bipush (v := zI (57)) dX6_takeLonger_7 (by decide) ?_
    refine pw_icmp_gt (tgt := 23) dX6_takeLonger_9 rfl (by omega) (by omega) (fun c9 => ?_) (fun c9 => ?_)
    ·
      refine pw_iload_n dX6_takeLonger_23 rfl ?_
      refine pw_bipush (v := zI (59)) dX6_takeLonger_24 (by decide) ?_
      refine pw_icmp_ne (tgt := 51) dX6_takeLonger_26 rfl (by omega) (by omega) (fun c26 => ?_) (fun c26 => ?_)
      ·
        refine pw_iload_n dX6_takeLonger_51 rfl ?_
        refine pw_bipush (v := zI (64)) dX6_takeLonger_52 (by decide) ?_
        refine pw_icmp_lt (tgt := 93) dX6_takeLonger_54 rfl (by omega) (by omega) (fun c54 => ?_) (fun c54 => ?_)
        ·
          exact pw_vret dX6_takeLonger_93 rfl (nle rfl) (nle rfl) ⟨rfl, by unfold rLonger; first | (exfalso; omega) | (repeat (first | rw [if_pos (by omega)] | rw [if_neg (by omega)])); first | done | rfl, rfl⟩
        ·
          refine pw_iload_n dX6_takeLonger_57 rfl ?_
          refine pw_bipush (v := zI (126)) dX6_takeLonger_58 (by decide) ?_
          refine pw_icmp_gt (tgt := 93) dX6_takeLonger_60 rfl (by omega) (by omega) (fun c60 => ?_) (fun c60 => ?_)
          ·
            exact pw_vret dX6_takeLonger_93 rfl (nle rfl) (nle rfl) ⟨rfl, by unfold rLonger; first | (exfalso; omega) | (repeat (first | rw [if_pos (by omega)] | rw [if_neg (by omega)])); first | done | rfl, rfl⟩
          ·
            refine pw_aload_n dX6_takeLonger_63 rfl ?_
            refine pw_iconst (v := zI (0)) dX6_takeLonger_64 (by decide) ?_
            refine pw_put (fs' := (rdObj I J (va_up R 5 (0)))) okX6 (k := 5) (by decide) lkX6_17 rfl rfl rfl (rAt_put hA).2.1 (nlt rfl) rfl dX6_takeLonger_65 ?_
            refine pw_h rU0 ?_
            refine pw_aload_n dX6_takeLonger_68 rfl ?_
            refine pw_iload_n dX6_takeLonger_69 rfl ?_
            refine pw_callV (As := [.int (zI (b))]) (b := (J 0)) (rm := rmD 0 0 0) (mX6_endWait htr hG0 (rAt_put hA) (rOk_5 hO0 (by omega)) (by omega)) rfl (rAt_put hA).2.1 rfl rfl ywX6_endWait rfl cwX6_89 ⟨nle rfl, nle rfl⟩ (nle rfl) ⟨nle rfl, nle rfl⟩ dX6_takeLonger_70 ?_ (fun _ _ _ z => z.elim)
            intro r2 h2 n2 hq _
            rw [hq.1, hq.2.1, hq.2.2]
            show pw E YX6_takeLonger _ _ 0 0 73 [some (.ref (J 0)), some (.int (zI (b)))] [] (rP w H N NH I J (zEnd b s) (va_up R 5 (0)) q (rP w H N NH I J s (va_up R 5 (0)) q h)) n
            refine pw_h (rP_put hA) ?_
            refine pw_aload_n dX6_takeLonger_73 rfl ?_
            refine pw_get (v := .int (zI (R 4))) okX6 (k := 4) (by decide) lkX6_39 (rAt_put hA).2.1 rfl dX6_takeLonger_74 ?_
            refine pw_if_eq (tgt := 88) dX6_takeLonger_77 rfl (by omega) (fun c77 => ?_) (fun c77 => ?_)
            ·
              refine pw_aload_n dX6_takeLonger_88 rfl ?_
              refine pw_iload_n dX6_takeLonger_89 rfl ?_
              refine pw_callV (As := [.int (zI (b))]) (b := (J 0)) (rm := rmD 6 0 0) (mX6_doLonger htr hG0 (rAt_put hA) (rOk_z (rOk_5 hO0 (by omega)) (zEnd_ok hz0)) (by omega)) rfl (rAt_put hA).2.1 rfl rfl ywX6_doLonger rfl cwX6_95 ⟨nle rfl, nle rfl⟩ (nle rfl) ⟨nle rfl, nle rfl⟩ dX6_takeLonger_90 ?_ (fun _ _ _ z => z.elim)
              intro r2 h2 n2 hq _
              rw [hq.1, hq.2.1, hq.2.2]
              show pw E YX6_takeLonger _ _ 0 0 93 [some (.ref (J 0)), some (.int (zI (b)))] [] (rP w H N NH I J (zDo w H NH b (va_up R 5 (0)) q (zEnd b s)) (va_up R 5 (0)) q (rP w H N NH I J (zEnd b s) (va_up R 5 (0)) q h)) n
              refine pw_h (rP_put hA) ?_
              exact pw_vret dX6_takeLonger_93 rfl (nle rfl) (nle rfl) ⟨rfl, by unfold rLonger; first | (exfalso; omega) | (repeat (first | rw [if_pos (by omega)] | rw [if_neg (by omega)])); first | done | rfl, rfl⟩
            ·
              refine pw_aload_n dX6_takeLonger_80 rfl ?_
              refine pw_iload_n dX6_takeLonger_81 rfl ?_
              refine pw_callV (As := [.int (zI (b))]) (b := (J 0)) (rm := rmD 5 0 0) (mX6_doAsked htr hG0 (rAt_put hA) (rOk_z (rOk_5 hO0 (by omega)) (zEnd_ok hz0)) (by omega)) rfl (rAt_put hA).2.1 rfl rfl ywX6_doAsked rfl cwX6_92 ⟨nle rfl, nle rfl⟩ (nle rfl) ⟨nle rfl, nle rfl⟩ dX6_takeLonger_82 ?_ (fun _ _ _ z => z.elim)
              intro r2 h2 n2 hq _
              rw [hq.1, hq.2.1, hq.2.2]
              show pw E YX6_takeLonger _ _ 0 0 85 [some (.ref (J 0)), some (.int (zI (b)))] [] (rP w H N NH I J (zAsked w H b q (zEnd b s)) (va_up R 5 (0)) q (rP w H N NH I J (zEnd b s) (va_up R 5 (0)) q h)) n
              refine pw_h (rP_put hA) ?_
              refine pw_goto (tgt := 93) dX6_takeLonger_85 rfl ?_
              exact pw_vret dX6_takeLonger_93 rfl (nle rfl) (nle rfl) ⟨rfl, by unfold rLonger; first | (exfalso; omega) | (repeat (first | rw [if_pos (by omega)] | rw [if_neg (by omega)])); first | done | rfl, rfl⟩
      ·
        refine pw_aload_n dX6_takeLonger_29 rfl ?_
        refine pw_iconst (v := zI (4)) dX6_takeLonger_30 (by decide) ?_
        refine pw_aload_n dX6_takeLonger_31 rfl ?_
        refine pw_get (v := .int (zI (R 2))) okX6 (k := 2) (by decide) lkX6_74 (rAt_put hA).2.1 rfl dX6_takeLonger_32 ?_
        refine pw_iconst (v := zI (1)) dX6_takeLonger_35 (by decide) ?_
        refine pw_ziadd dX6_takeLonger_36 ?_
        refine pw_min cwX6_83 dX6_takeLonger_37 (by omega) (by omega) ⟨nle rfl, nle rfl⟩ ⟨nle rfl, nle rfl⟩ ?_
        refine pw_put (fs' := (rdObj I J (va_up R 2 (min (4) ((R 2) + (1)))))) okX6 (k := 2) (by decide) lkX6_74 rfl rfl rfl (rAt_put hA).2.1 (nlt rfl) rfl dX6_takeLonger_40 ?_
        refine pw_h rU0 ?_
        refine pw_aload_n dX6_takeLonger_43 rfl ?_
        refine pw_iconst (v := zI (0)) dX6_takeLonger_44 (by decide) ?_
        refine pw_put (fs' := (rdObj I J (va_up (va_up R 2 (min (4) ((R 2) + (1)))) 3 (0)))) okX6 (k := 3) (by decide) lkX6_77 rfl (by decide) (by decide) (rAt_put hA).2.1 (nlt rfl) rfl dX6_takeLonger_45 ?_
        refine pw_h rU0 ?_
        refine pw_goto (tgt := 93) dX6_takeLonger_48 rfl ?_
        exact pw_vret dX6_takeLonger_93 rfl (nle rfl) (nle rfl) ⟨rfl, by unfold rLonger; first | (exfalso; omega) | (repeat (first | rw [if_pos (by omega)] | rw [if_neg (by omega)])); first | done | rfl, rfl⟩
    ·
      refine pw_aload_n dX6_takeLonger_12 rfl ?_
      refine pw_iload_n dX6_takeLonger_13 rfl ?_
      refine pw_bipush (v := zI (48)) dX6_takeLonger_14 (by decide) ?_
      refine pw_zisub dX6_takeLonger_16 ?_
      refine pw_callV (As := [.int (zI (b - 48))]) (b := (J 0)) (rm := rmD 1 0 0) (mX6_takeDigit htr hG0 (rAt_put hA) hO0 (by omega)) rfl (rAt_put hA).2.1 rfl rfl ywX6_takeDigit rfl cwX6_80 ⟨nle rfl, nle rfl⟩ (nle rfl) ⟨nle rfl, nle rfl⟩ dX6_takeLonger_17 ?_ (fun _ _ _ z => z.elim)
      intro r2 h2 n2 hq _
      rw [hq.1, hq.2.1, hq.2.2]
      show pw E YX6_takeLonger _ _ 0 0 20 [some (.ref (J 0)), some (.int (zI (b)))] [] (rP w H N NH I J s (rDigitR R) (rDigit R q (b - 48)) (rP w H N NH I J s R q h)) n
      refine pw_h (rP_put hA) ?_
      refine pw_goto (tgt := 93) dX6_takeLonger_20 rfl ?_
      exact pw_vret dX6_takeLonger_93 rfl (nle rfl) (nle rfl) ⟨rfl, by unfold rLonger; first | (exfalso; omega) | (repeat (first | rw [if_pos (by omega)] | rw [if_neg (by omega)])); first | done | rfl, rfl⟩
set_option maxHeartbeats 4000000 in
set_option maxRecDepth 100000 in
theorem lX6_take {E : pw_E} (htr : E.1.stackTraces = false) {h : pz_H} {n : Nat} {w H : Int} {N NH : Nat} {I J : Nat → Nat} {s : zSt} {R q : Nat → Int} (hG : geo w H N NH) (hA : rAt w H N NH I J s R q h) (hO : rOk w H s R q) {b : Int} (hb : 0 ≤ b ∧ b ≤ 255) {K : pw_K} (hQ : K.2.2.1 none (rPt w H N NH I J (rGo w H NH b (s, R, q)) h) n) : pw E YX6_take (rmD 8 0 0) K 0 0 152 [some (.ref (J 0)), some (.int (zI b))] [] (rP w H N NH I J s R q h) n := by
  have hG0 := hG
  have hO0 := hO
  obtain ⟨gw, gH, gN, gN2, gNH⟩ := hG
  obtain ⟨hz, r2, r3, r4, r5, hq⟩ := hO
  have hz0 := hz
  obtain ⟨o3, o4, o5, o6, o7, o8, o9, o10, o11, o12, o14, o15, o16, o17, oT3, oT4⟩ := hz
  have q0 := hq 0
  have q1 := hq 1
  refine pw_aload_n dX6_take_152 rfl ?_
  refine pw_get (v := .int (zI (R 5))) okX6 (k := 5) (by decide) lkX6_17 (rAt_put hA).2.1 rfl dX6_take_153 ?_
  refine pw_iconst (v := zI (3)) dX6_take_156 (by decide) ?_
  refine pw_icmp_ne (tgt := 168) dX6_take_157 rfl (by omega) (by omega) (fun c157 => ?_) (fun c157 => ?_)
  ·
    refine pw_aload_n dX6_take_168 rfl ?_
    refine pw_get (v := .int (zI (R 5))) okX6 (k := 5) (by decide) lkX6_17 (rAt_put hA).2.1 rfl dX6_take_169 ?_
    refine pw_iconst (v := zI (1)) dX6_take_172 (by decide) ?_
    refine pw_icmp_ne (tgt := 184) dX6_take_173 rfl (by omega) (by omega) (fun c173 => ?_) (fun c173 => ?_)
    ·
      refine pw_iload_n dX6_take_184 rfl ?_
      refine pw_bipush (v := zI (32)) dX6_take_185 (by decide) ?_
      refine pw_icmp_lt (tgt := 204) dX6_take_187 rfl (by omega) (by omega) (fun c187 => ?_) (fun c187 => ?_)
      ·
        have e9 : rGo w H NH b (s, R, q) = (s, R, q) := by unfold rGo; first | (exfalso; omega) | (repeat (first | rw [if_pos (by omega)] | rw [if_neg (by omega)])); first | done | rfl
        rw [e9] at hQ
        exact pw_vret dX6_take_204 rfl (nle rfl) (nle rfl) hQ
      ·
        refine pw_iload_n dX6_take_190 rfl ?_
        refine pw_bipush (v := zI (126)) dX6_take_191 (by decide) ?_
        refine pw_icmp_gt (tgt := 204) dX6_take_193 rfl (by omega) (by omega) (fun c193 => ?_) (fun c193 => ?_)
        ·
          have e9 : rGo w H NH b (s, R, q) = (s, R, q) := by unfold rGo; first | (exfalso; omega) | (repeat (first | rw [if_pos (by omega)] | rw [if_neg (by omega)])); first | done | rfl
          rw [e9] at hQ
          exact pw_vret dX6_take_204 rfl (nle rfl) (nle rfl) hQ
        ·
          refine pw_aload_n dX6_take_196 rfl ?_
          refine pw_get (v := .ref (I 0)) okX6 (k := 0) (by decide) lkX6_13 (rAt_put hA).2.1 rfl dX6_take_197 ?_
          refine pw_iload_n dX6_take_200 rfl ?_
          refine pw_callV (As := [.int (zI (b))]) (b := (I 0)) (rm := rmD 7 0 0) (nX7_write htr hG0 (rAt_put hA).1 hz0 (by omega)) rfl (rAt_put hA).1.1.1 rfl rfl ywX7_write rfl cwX6_50 ⟨nle rfl, nle rfl⟩ (nle rfl) ⟨nle rfl, nle rfl⟩ dX6_take_201 ?_ (fun _ _ _ z => z.elim)
          intro r2 h2 n2 hq _
          rw [hq.1, hq.2.1, hq.2.2]
          show pw E YX6_take _ _ 0 0 204 [some (.ref (J 0)), some (.int (zI (b)))] [] (zP w H N NH I (zWrite w H NH (b) s) (rP w H N NH I J s R q h)) n
          refine pw_h (zP_rP hA) ?_
          have e9 : rGo w H NH b (s, R, q) = ((zWrite w H NH (b) s), R, q) := by unfold rGo; first | (exfalso; omega) | (repeat (first | rw [if_pos (by omega)] | rw [if_neg (by omega)])); first | done | rfl
          rw [e9] at hQ
          exact pw_vret dX6_take_204 rfl (nle rfl) (nle rfl) hQ
    ·
      refine pw_aload_n dX6_take_176 rfl ?_
      refine pw_iload_n dX6_take_177 rfl ?_
      refine pw_callV (As := [.int (zI (b))]) (b := (J 0)) (rm := rmD 7 0 0) (mX6_takeShort htr hG0 (rAt_put hA) hO0 (by omega)) rfl (rAt_put hA).2.1 rfl rfl ywX6_takeShort rfl cwX6_47 ⟨nle rfl, nle rfl⟩ (nle rfl) ⟨nle rfl, nle rfl⟩ dX6_take_178 ?_ (fun _ _ _ z => z.elim)
      intro r2 h2 n2 hq _
      rw [hq.1, hq.2.1, hq.2.2]
      show pw E YX6_take _ _ 0 0 181 [some (.ref (J 0)), some (.int (zI (b)))] [] (rP w H N NH I J (rShort w H NH b (s, R, q)).1 (rShort w H NH b (s, R, q)).2.1 (rShort w H NH b (s, R, q)).2.2 (rP w H N NH I J s R q h)) n
      refine pw_h (rP_put hA) ?_
      refine pw_goto (tgt := 204) dX6_take_181 rfl ?_
      have e9 : rGo w H NH b (s, R, q) = ((rShort w H NH b (s, R, q)).1, (rShort w H NH b (s, R, q)).2.1, (rShort w H NH b (s, R, q)).2.2) := by unfold rGo; first | (exfalso; omega) | (repeat (first | rw [if_pos (by omega)] | rw [if_neg (by omega)])); first | done | rfl
      rw [e9] at hQ
      exact pw_vret dX6_take_204 rfl (nle rfl) (nle rfl) hQ
  ·
    refine pw_aload_n dX6_take_160 rfl ?_
    refine pw_iload_n dX6_take_161 rfl ?_
    refine pw_callV (As := [.int (zI (b))]) (b := (J 0)) (rm := rmD 7 0 0) (mX6_takeLonger htr hG0 (rAt_put hA) hO0 (by omega)) rfl (rAt_put hA).2.1 rfl rfl ywX6_takeLonger rfl cwX6_43 ⟨nle rfl, nle rfl⟩ (nle rfl) ⟨nle rfl, nle rfl⟩ dX6_take_162 ?_ (fun _ _ _ z => z.elim)
    intro r2 h2 n2 hq _
    rw [hq.1, hq.2.1, hq.2.2]
    show pw E YX6_take _ _ 0 0 165 [some (.ref (J 0)), some (.int (zI (b)))] [] (rP w H N NH I J (rLonger w H NH b (s, R, q)).1 (rLonger w H NH b (s, R, q)).2.1 (rLonger w H NH b (s, R, q)).2.2 (rP w H N NH I J s R q h)) n
    refine pw_h (rP_put hA) ?_
    refine pw_goto (tgt := 204) dX6_take_165 rfl ?_
    have e9 : rGo w H NH b (s, R, q) = ((rLonger w H NH b (s, R, q)).1, (rLonger w H NH b (s, R, q)).2.1, (rLonger w H NH b (s, R, q)).2.2) := by unfold rGo; first | (exfalso; omega) | (repeat (first | rw [if_pos (by omega)] | rw [if_neg (by omega)])); first | done | rfl
    rw [e9] at hQ
    exact pw_vret dX6_take_204 rfl (nle rfl) (nle rfl) hQ
set_option maxHeartbeats 4000000 in
set_option maxRecDepth 100000 in
/-- Reader.take(b) -/
theorem mX6_take {E : pw_E} (htr : E.1.stackTraces = false) {h : pz_H} {n : Nat} {w H : Int} {N NH : Nat} {I J : Nat → Nat} {s : zSt} {R q : Nat → Int} (hG : geo w H N NH) (hA : rAt w H N NH I J s R q h) (hO : rOk w H s R q) {b : Int} (hb : 0 ≤ b ∧ b ≤ 255) : pw_M E yX6_take YX6_take (rmD 8 0 0) [.ref (J 0), .int (zI (b))] h n (fun r h' n' => r = none ∧ h' = rPt w H N NH I J (rTake w H NH b (s, R, q)) h ∧ n' = n) (fun _ _ _ => False) := by
  have hG0 := hG
  have hO0 := hO
  obtain ⟨gw, gH, gN, gN2, gNH⟩ := hG
  obtain ⟨hz, r2, r3, r4, r5, hq⟩ := hO
  have hz0 := hz
  obtain ⟨o3, o4, o5, o6, o7, o8, o9, o10, o11, o12, o14, o15, o16, o17, oT3, oT4⟩ := hz
  have q0 := hq 0
  have q1 := hq 1
  refine pw_M_of (lv := [some (.ref (J 0)), some (.int (zI (b)))]) (by decide) rfl rfl htr (nle rfl) rfl (fun L => ?_)
  refine pw_h (rP_id hA).symm ?_
  refine pw_iload_n dX6_take_0 rfl ?_
  by_cases k1_8 : (8 : Int) = b
  ·
    refine pw_lookup (off := 51) (tgt := 52) dX6_take_1 (by decide) (by omega) (by rw [← k1_8]; decide) rfl ?_
    refine pw_aload_n dX6_take_52 rfl ?_
    refine pw_get (v := .ref (I 0)) okX6 (k := 0) (by decide) lkX6_13 (rAt_put hA).2.1 rfl dX6_take_53 ?_
    refine pw_aload_n dX6_take_56 rfl ?_
    refine pw_get (v := .ref (I 0)) okX6 (k := 0) (by decide) lkX6_13 (rAt_put hA).2.1 rfl dX6_take_57 ?_
    refine pw_getN (v := .int (zI (s.1 5))) okX7 (k := 5) (by decide) lkX6_21 (rAt_put hA).1.1.1 rfl dX6_take_60 ?_
    refine pw_iconst (v := zI (1)) dX6_take_63 (by decide) ?_
    refine pw_zisub dX6_take_64 ?_
    refine pw_aload_n dX6_take_65 rfl ?_
    refine pw_get (v := .ref (I 0)) okX6 (k := 0) (by decide) lkX6_13 (rAt_put hA).2.1 rfl dX6_take_66 ?_
    refine pw_getN (v := .int (zI (s.1 6))) okX7 (k := 6) (by decide) lkX6_26 (rAt_put hA).1.1.1 rfl dX6_take_69 ?_
    refine pw_callV (As := [.int (zI ((s.1 5) - (1))), .int (zI (s.1 6))]) (b := (I 0)) (rm := rmD 2 0 0) (nX7_moveTo htr hG0 (rAt_put hA).1 hz0 (by omega) (by omega)) rfl (rAt_put hA).1.1.1 rfl rfl ywX7_moveTo rfl cwX6_29 ⟨nle rfl, nle rfl⟩ (nle rfl) ⟨nle rfl, nle rfl⟩ dX6_take_72 ?_ (fun _ _ _ z => z.elim)
    intro r2 h2 n2 hq _
    rw [hq.1, hq.2.1, hq.2.2]
    show pw E YX6_take _ _ 0 0 75 [some (.ref (J 0)), some (.int (zI (b)))] [] (zP w H N NH I (zMove ((s.1 5) - (1)) (s.1 6) s) (rP w H N NH I J s R q h)) n
    refine pw_h (zP_rP hA) ?_
    refine pw_goto (tgt := 204) dX6_take_75 rfl ?_
    exact pw_vret dX6_take_204 rfl (nle rfl) (nle rfl) ⟨rfl, by unfold rTake; first | (exfalso; omega) | (repeat (first | rw [if_pos (by omega)] | rw [if_neg (by omega)])); first | done | rfl, rfl⟩
  by_cases k1_9 : (9 : Int) = b
  ·
    clear k1_8
    refine pw_lookup (off := 77) (tgt := 78) dX6_take_1 (by decide) (by omega) (by rw [← k1_9]; decide) rfl ?_
    refine pw_aload_n dX6_take_78 rfl ?_
    refine pw_get (v := .ref (I 0)) okX6 (k := 0) (by decide) lkX6_13 (rAt_put hA).2.1 rfl dX6_take_79 ?_
    refine pw_callV (As := []) (b := (I 0)) (rm := rmD 3 0 0) (nX7_goToTab htr hG0 (rAt_put hA).1 hz0) rfl (rAt_put hA).1.1.1 rfl rfl ywX7_goToTab rfl cwX6_33 ⟨nle rfl, nle rfl⟩ (nle rfl) ⟨nle rfl, nle rfl⟩ dX6_take_82 ?_ (fun _ _ _ z => z.elim)
    intro r2 h2 n2 hq _
    rw [hq.1, hq.2.1, hq.2.2]
    show pw E YX6_take _ _ 0 0 85 [some (.ref (J 0)), some (.int (zI (b)))] [] (zP w H N NH I (zMove ((s.1 5 / 8 + 1) * 8) (s.1 6) s) (rP w H N NH I J s R q h)) n
    refine pw_h (zP_rP hA) ?_
    refine pw_goto (tgt := 204) dX6_take_85 rfl ?_
    exact pw_vret dX6_take_204 rfl (nle rfl) (nle rfl) ⟨rfl, by unfold rTake; first | (exfalso; omega) | (repeat (first | rw [if_pos (by omega)] | rw [if_neg (by omega)])); first | done | rfl, rfl⟩
  by_cases k1_10 : (10 : Int) = b
  ·
    clear k1_8 k1_9
    refine pw_lookup (off := 87) (tgt := 88) dX6_take_1 (by decide) (by omega) (by rw [← k1_10]; decide) rfl ?_
    refine pw_aload_n dX6_take_88 rfl ?_
    refine pw_get (v := .ref (I 0)) okX6 (k := 0) (by decide) lkX6_13 (rAt_put hA).2.1 rfl dX6_take_89 ?_
    refine pw_callV (As := []) (b := (I 0)) (rm := rmD 6 0 0) (nX7_goDown htr hG0 (rAt_put hA).1 hz0) rfl (rAt_put hA).1.1.1 rfl rfl ywX7_goDown rfl cwX6_36 ⟨nle rfl, nle rfl⟩ (nle rfl) ⟨nle rfl, nle rfl⟩ dX6_take_92 ?_ (fun _ _ _ z => z.elim)
    intro r2 h2 n2 hq _
    rw [hq.1, hq.2.1, hq.2.2]
    show pw E YX6_take _ _ 0 0 95 [some (.ref (J 0)), some (.int (zI (b)))] [] (zP w H N NH I (zDown w H NH s) (rP w H N NH I J s R q h)) n
    refine pw_h (zP_rP hA) ?_
    refine pw_goto (tgt := 204) dX6_take_95 rfl ?_
    exact pw_vret dX6_take_204 rfl (nle rfl) (nle rfl) ⟨rfl, by unfold rTake; first | (exfalso; omega) | (repeat (first | rw [if_pos (by omega)] | rw [if_neg (by omega)])); first | done | rfl, rfl⟩
  by_cases k1_13 : (13 : Int) = b
  ·
    clear k1_8 k1_9 k1_10
    refine pw_lookup (off := 97) (tgt := 98) dX6_take_1 (by decide) (by omega) (by rw [← k1_13]; decide) rfl ?_
    refine pw_aload_n dX6_take_98 rfl ?_
    refine pw_get (v := .ref (I 0)) okX6 (k := 0) (by decide) lkX6_13 (rAt_put hA).2.1 rfl dX6_take_99 ?_
    refine pw_iconst (v := zI (0)) dX6_take_102 (by decide) ?_
    refine pw_aload_n dX6_take_103 rfl ?_
    refine pw_get (v := .ref (I 0)) okX6 (k := 0) (by decide) lkX6_13 (rAt_put hA).2.1 rfl dX6_take_104 ?_
    refine pw_getN (v := .int (zI (s.1 6))) okX7 (k := 6) (by decide) lkX6_26 (rAt_put hA).1.1.1 rfl dX6_take_107 ?_
    refine pw_callV (As := [.int (zI (0)), .int (zI (s.1 6))]) (b := (I 0)) (rm := rmD 2 0 0) (nX7_moveTo htr hG0 (rAt_put hA).1 hz0 (by omega) (by omega)) rfl (rAt_put hA).1.1.1 rfl rfl ywX7_moveTo rfl cwX6_29 ⟨nle rfl, nle rfl⟩ (nle rfl) ⟨nle rfl, nle rfl⟩ dX6_take_110 ?_ (fun _ _ _ z => z.elim)
    intro r2 h2 n2 hq _
    rw [hq.1, hq.2.1, hq.2.2]
    show pw E YX6_take _ _ 0 0 113 [some (.ref (J 0)), some (.int (zI (b)))] [] (zP w H N NH I (zMove (0) (s.1 6) s) (rP w H N NH I J s R q h)) n
    refine pw_h (zP_rP hA) ?_
    refine pw_goto (tgt := 204) dX6_take_113 rfl ?_
    exact pw_vret dX6_take_204 rfl (nle rfl) (nle rfl) ⟨rfl, by unfold rTake; first | (exfalso; omega) | (repeat (first | rw [if_pos (by omega)] | rw [if_neg (by omega)])); first | done | rfl, rfl⟩
  by_cases k1_27 : (27 : Int) = b
  ·
    clear k1_8 k1_9 k1_10 k1_13
    refine pw_lookup (off := 115) (tgt := 116) dX6_take_1 (by decide) (by omega) (by rw [← k1_27]; decide) rfl ?_
    refine pw_aload_n dX6_take_116 rfl ?_
    refine pw_iconst (v := zI (1)) dX6_take_117 (by decide) ?_
    refine pw_put (fs' := (rdObj I J (va_up R 5 (1)))) okX6 (k := 5) (by decide) lkX6_17 rfl rfl rfl (rAt_put hA).2.1 (nlt rfl) rfl dX6_take_118 ?_
    refine pw_h rU0 ?_
    refine pw_goto (tgt := 204) dX6_take_121 rfl ?_
    exact pw_vret dX6_take_204 rfl (nle rfl) (nle rfl) ⟨rfl, by unfold rTake; first | (exfalso; omega) | (repeat (first | rw [if_pos (by omega)] | rw [if_neg (by omega)])); first | done | rfl, rfl⟩
  refine pw_lookup (off := 123) (tgt := 124) dX6_take_1 (by decide) (by omega) (by show Op.lookupswitch.offset [(8, 51), (9, 77), (10, 87), (13, 97), (27, 115)] 123 (b) = 123; simp only [Op.lookupswitch.offset_cons, Op.lookupswitch.offset_nil, if_neg k1_8, if_neg k1_9, if_neg k1_10, if_neg k1_13, if_neg k1_27]) rfl ?_
  refine pw_aload_n dX6_take_124 rfl ?_
  refine pw_get (v := .int (zI (R 5))) okX6 (k := 5) (by decide) lkX6_17 (rAt_put hA).2.1 rfl dX6_take_125 ?_
  refine pw_iconst (v := zI (2)) dX6_take_128 (by decide) ?_
  refine pw_icmp_ne (tgt := 152) dX6_take_129 rfl (by omega) (by omega) (fun c129 => ?_) (fun c129 => ?_)
  ·
    have e8 : rTake w H NH b (s, R, q) = rGo w H NH b (s, R, q) := by (unfold rTake; rw [if_neg (by omega), if_neg (by omega), if_neg (by omega), if_neg (by omega), if_neg (by omega)]; show rGo w H NH b (s, rOpen b R, q) = _); unfold rOpen; first | (exfalso; omega) | (repeat (first | rw [if_pos (by omega)] | rw [if_neg (by omega)]))
    rw [e8]
    refine pw_h (rP_put (s := s) (R := R) (q := q) hA).symm ?_
    exact lX6_take htr hG0 (rAt_put hA) (hO0) hb ⟨rfl, rP_put hA, rfl⟩
  ·
    refine pw_aload_n dX6_take_132 rfl ?_
    refine pw_iload_n dX6_take_133 rfl ?_
    refine pw_bipush (v := zI (63)) dX6_take_134 (by decide) ?_
    refine pw_icmp_ne (tgt := 143) dX6_take_136 rfl (by omega) (by omega) (fun c136 => ?_) (fun c136 => ?_)
    ·
      refine pw_iconst (v := zI (0)) dX6_take_143 (by decide) ?_
      refine pw_put (fs' := (rdObj I J (va_up R 4 (0)))) okX6 (k := 4) (by decide) lkX6_39 rfl (by decide) (by decide) (rAt_put hA).2.1 (nlt rfl) rfl dX6_take_144 ?_
      refine pw_h rU0 ?_
      refine pw_aload_n dX6_take_147 rfl ?_
      refine pw_iconst (v := zI (3)) dX6_take_148 (by decide) ?_
      refine pw_put (fs' := (rdObj I J (va_up (va_up R 4 (0)) 5 (3)))) okX6 (k := 5) (by decide) lkX6_17 rfl rfl rfl (rAt_put hA).2.1 (nlt rfl) rfl dX6_take_149 ?_
      refine pw_h rU0 ?_
      have e8 : rTake w H NH b (s, R, q) = rGo w H NH b (s, (va_up (va_up R 4 (0)) 5 (3)), q) := by (unfold rTake; rw [if_neg (by omega), if_neg (by omega), if_neg (by omega), if_neg (by omega), if_neg (by omega)]; show rGo w H NH b (s, rOpen b R, q) = _); unfold rOpen; first | (exfalso; omega) | (repeat (first | rw [if_pos (by omega)] | rw [if_neg (by omega)]))
      rw [e8]
      refine pw_h (rP_put (s := s) (R := (va_up (va_up R 4 (0)) 5 (3))) (q := q) hA).symm ?_
      exact lX6_take htr hG0 (rAt_put hA) (rOk_5 (rOk_4 hO0 (by omega)) (by omega)) hb ⟨rfl, rP_put hA, rfl⟩
    ·
      refine pw_iconst (v := zI (1)) dX6_take_139 (by decide) ?_
      refine pw_goto (tgt := 144) dX6_take_140 rfl ?_
      refine pw_put (fs' := (rdObj I J (va_up R 4 (1)))) okX6 (k := 4) (by decide) lkX6_39 rfl (by decide) (by decide) (rAt_put hA).2.1 (nlt rfl) rfl dX6_take_144 ?_
      refine pw_h rU0 ?_
      refine pw_aload_n dX6_take_147 rfl ?_
      refine pw_iconst (v := zI (3)) dX6_take_148 (by decide) ?_
      refine pw_put (fs' := (rdObj I J (va_up (va_up R 4 (1)) 5 (3)))) okX6 (k := 5) (by decide) lkX6_17 rfl rfl rfl (rAt_put hA).2.1 (nlt rfl) rfl dX6_take_149 ?_
      refine pw_h rU0 ?_
      have e8 : rTake w H NH b (s, R, q) = rGo w H NH b (s, (va_up (va_up R 4 (1)) 5 (3)), q) := by (unfold rTake; rw [if_neg (by omega), if_neg (by omega), if_neg (by omega), if_neg (by omega), if_neg (by omega)]; show rGo w H NH b (s, rOpen b R, q) = _); unfold rOpen; first | (exfalso; omega) | (repeat (first | rw [if_pos (by omega)] | rw [if_neg (by omega)]))
      rw [e8]
      refine pw_h (rP_put (s := s) (R := (va_up (va_up R 4 (1)) 5 (3))) (q := q) hA).symm ?_
      exact lX6_take htr hG0 (rAt_put hA) (rOk_5 (rOk_4 hO0 (by omega)) (by omega)) hb ⟨rfl, rP_put hA, rfl⟩
