def YX6_setPen : pw_Y := (RX6, "setPen", cX6_setPen, 4, none)
theorem ywX6_setPen : pw_y yX6_setPen YX6_setPen 0 := ⟨by decide +kernel, by decide +kernel, by decide +kernel, pw_in 1062 (by decide +kernel) (by decide +kernel), pw_in 86 (by decide +kernel) (by decide +kernel)⟩
theorem lkX6_153 : Cond.fieldLinkNest RX6 153 (TX7 8).1 (TX7 8).2.1 (TX7 8).2.2.1 "PaneHouse" ∈ pw_N := by decide +kernel
theorem cwX6_156 : Cond.methodLink RX6 156 yX6_changedPen ∈ pw_G ∧ Cond.static yX6_changedPen ∈ pw_G := ⟨pw_in 1063 (by decide +kernel) (by decide +kernel), pw_in 1064 (by decide +kernel) (by decide +kernel)⟩
def YX6_doLonger : pw_Y := (RX6, "doLonger", cX6_doLonger, 3, none)
theorem ywX6_doLonger : pw_y yX6_doLonger YX6_doLonger 1 := ⟨by decide +kernel, by decide +kernel, by decide +kernel, pw_in 1010 (by decide +kernel) (by decide +kernel), pw_in 86 (by decide +kernel) (by decide +kernel)⟩
theorem cwX6_111 : Cond.methodLink RX6 111 Lib.Math.max.name ∈ pw_G := pw_in 1011 (by decide +kernel) (by decide +kernel)
theorem cwX6_126 : Cond.methodLink RX6 126 yX7_insertCells ∈ pw_G ∧ Cond.instanceMethod yX7_insertCells ∈ pw_G ∧ Cond.selects RX7 yX7_insertCells yX7_insertCells ∈ pw_G := ⟨pw_in 1033 (by decide +kernel) (by decide +kernel), pw_in 1034 (by decide +kernel) (by decide +kernel), pw_in 1035 (by decide +kernel) (by decide +kernel)⟩
theorem lkX6_21 : Cond.fieldLinkNest RX6 21 (TX7 5).1 (TX7 5).2.1 (TX7 5).2.2.1 "PaneHouse" ∈ pw_N := by decide +kernel
theorem lkX6_26 : Cond.fieldLinkNest RX6 26 (TX7 6).1 (TX7 6).2.1 (TX7 6).2.2.1 "PaneHouse" ∈ pw_N := by decide +kernel
theorem cwX6_29 : Cond.methodLink RX6 29 yX7_moveTo ∈ pw_G ∧ Cond.instanceMethod yX7_moveTo ∈ pw_G ∧ Cond.selects RX7 yX7_moveTo yX7_moveTo ∈ pw_G := ⟨pw_in 953 (by decide +kernel) (by decide +kernel), pw_in 754 (by decide +kernel) (by decide +kernel), pw_in 755 (by decide +kernel) (by decide +kernel)⟩
theorem cwX6_114 : Cond.methodLink RX6 114 yX7_erase ∈ pw_G ∧ Cond.instanceMethod yX7_erase ∈ pw_G ∧ Cond.selects RX7 yX7_erase yX7_erase ∈ pw_G := ⟨pw_in 1012 (by decide +kernel) (by decide +kernel), pw_in 1013 (by decide +kernel) (by decide +kernel), pw_in 1014 (by decide +kernel) (by decide +kernel)⟩
theorem cwX6_117 : Cond.methodLink RX6 117 yX7_eraseInRow ∈ pw_G ∧ Cond.instanceMethod yX7_eraseInRow ∈ pw_G ∧ Cond.selects RX7 yX7_eraseInRow yX7_eraseInRow ∈ pw_G := ⟨pw_in 1020 (by decide +kernel) (by decide +kernel), pw_in 1017 (by decide +kernel) (by decide +kernel), pw_in 1018 (by decide +kernel) (by decide +kernel)⟩
theorem cwX6_120 : Cond.methodLink RX6 120 yX7_insertRows ∈ pw_G ∧ Cond.instanceMethod yX7_insertRows ∈ pw_G ∧ Cond.selects RX7 yX7_insertRows yX7_insertRows ∈ pw_G := ⟨pw_in 1021 (by decide +kernel) (by decide +kernel), pw_in 1022 (by decide +kernel) (by decide +kernel), pw_in 1023 (by decide +kernel) (by decide +kernel)⟩
theorem cwX6_123 : Cond.methodLink RX6 123 yX7_deleteRows ∈ pw_G ∧ Cond.instanceMethod yX7_deleteRows ∈ pw_G ∧ Cond.selects RX7 yX7_deleteRows yX7_deleteRows ∈ pw_G := ⟨pw_in 1029 (by decide +kernel) (by decide +kernel), pw_in 1030 (by decide +kernel) (by decide +kernel), pw_in 1031 (by decide +kernel) (by decide +kernel)⟩
theorem cwX6_129 : Cond.methodLink RX6 129 yX7_deleteCells ∈ pw_G ∧ Cond.instanceMethod yX7_deleteCells ∈ pw_G ∧ Cond.selects RX7 yX7_deleteCells yX7_deleteCells ∈ pw_G := ⟨pw_in 1042 (by decide +kernel) (by decide +kernel), pw_in 1043 (by decide +kernel) (by decide +kernel), pw_in 1044 (by decide +kernel) (by decide +kernel)⟩
theorem cwX6_135 : Cond.methodLink RX6 135 yX7_scrollUp ∈ pw_G ∧ Cond.instanceMethod yX7_scrollUp ∈ pw_G ∧ Cond.selects RX7 yX7_scrollUp yX7_scrollUp ∈ pw_G := ⟨pw_in 1050 (by decide +kernel) (by decide +kernel), pw_in 963 (by decide +kernel) (by decide +kernel), pw_in 964 (by decide +kernel) (by decide +kernel)⟩
theorem cwX6_138 : Cond.methodLink RX6 138 yX7_scrollDown ∈ pw_G ∧ Cond.instanceMethod yX7_scrollDown ∈ pw_G ∧ Cond.selects RX7 yX7_scrollDown yX7_scrollDown ∈ pw_G := ⟨pw_in 1051 (by decide +kernel) (by decide +kernel), pw_in 1052 (by decide +kernel) (by decide +kernel), pw_in 1053 (by decide +kernel) (by decide +kernel)⟩
theorem cwX6_132 : Cond.methodLink RX6 132 yX7_eraseCells ∈ pw_G ∧ Cond.instanceMethod yX7_eraseCells ∈ pw_G ∧ Cond.selects RX7 yX7_eraseCells yX7_eraseCells ∈ pw_G := ⟨pw_in 1046 (by decide +kernel) (by decide +kernel), pw_in 1047 (by decide +kernel) (by decide +kernel), pw_in 1048 (by decide +kernel) (by decide +kernel)⟩
theorem cwX6_147 : Cond.methodLink RX6 147 yX6_setInsertMode ∈ pw_G ∧ Cond.instanceMethod yX6_setInsertMode ∈ pw_G ∧ Cond.selects RX6 yX6_setInsertMode yX6_setInsertMode ∈ pw_G := ⟨pw_in 1072 (by decide +kernel) (by decide +kernel), pw_in 1074 (by decide +kernel) (by decide +kernel), pw_in 21 (by decide +kernel) (by decide +kernel)⟩
theorem cwX6_144 : Cond.methodLink RX6 144 yX6_setPen ∈ pw_G ∧ Cond.instanceMethod yX6_setPen ∈ pw_G ∧ Cond.selects RX6 yX6_setPen yX6_setPen ∈ pw_G := ⟨pw_in 1059 (by decide +kernel) (by decide +kernel), pw_in 1061 (by decide +kernel) (by decide +kernel), pw_in 20 (by decide +kernel) (by decide +kernel)⟩
theorem cwX6_141 : Cond.methodLink RX6 141 yX7_setRegion ∈ pw_G ∧ Cond.instanceMethod yX7_setRegion ∈ pw_G ∧ Cond.selects RX7 yX7_setRegion yX7_setRegion ∈ pw_G := ⟨pw_in 1055 (by decide +kernel) (by decide +kernel), pw_in 1056 (by decide +kernel) (by decide +kernel), pw_in 1057 (by decide +kernel) (by decide +kernel)⟩
def YX6_endWait : pw_Y := (RX6, "endWait", cX6_endWait, 2, none)
theorem ywX6_endWait : pw_y yX6_endWait YX6_endWait 1 := ⟨by decide +kernel, by decide +kernel, by decide +kernel, pw_in 998 (by decide +kernel) (by decide +kernel), pw_in 86 (by decide +kernel) (by decide +kernel)⟩
theorem lkX6_98 : Cond.fieldLinkNest RX6 98 (TX7 7).1 (TX7 7).2.1 (TX7 7).2.2.1 "PaneHouse" ∈ pw_N := by decide +kernel
def YX6_beginLonger : pw_Y := (RX6, "beginLonger", cX6_beginLonger, 1, none)
theorem ywX6_beginLonger : pw_y yX6_beginLonger YX6_beginLonger 0 := ⟨by decide +kernel, by decide +kernel, by decide +kernel, pw_in 1094 (by decide +kernel) (by decide +kernel), pw_in 86 (by decide +kernel) (by decide +kernel)⟩
theorem cwX6_68 : Cond.methodLink RX6 68 yJ7_fill_53178 ∈ pw_G ∧ Cond.static yJ7_fill_53178 ∈ pw_G := ⟨pw_in 1095 (by decide +kernel) (by decide +kernel), pw_in 376 (by decide +kernel) (by decide +kernel)⟩
def YX6_takeShort : pw_Y := (RX6, "takeShort", cX6_takeShort, 2, none)
theorem ywX6_takeShort : pw_y yX6_takeShort YX6_takeShort 1 := ⟨by decide +kernel, by decide +kernel, by decide +kernel, pw_in 1079 (by decide +kernel) (by decide +kernel), pw_in 86 (by decide +kernel) (by decide +kernel)⟩
theorem cwX6_53 : Cond.methodLink RX6 53 yX7_savePlace ∈ pw_G ∧ Cond.instanceMethod yX7_savePlace ∈ pw_G ∧ Cond.selects RX7 yX7_savePlace yX7_savePlace ∈ pw_G := ⟨pw_in 1080 (by decide +kernel) (by decide +kernel), pw_in 771 (by decide +kernel) (by decide +kernel), pw_in 772 (by decide +kernel) (by decide +kernel)⟩
theorem cwX6_56 : Cond.methodLink RX6 56 yX7_takePlace ∈ pw_G ∧ Cond.instanceMethod yX7_takePlace ∈ pw_G ∧ Cond.selects RX7 yX7_takePlace yX7_takePlace ∈ pw_G := ⟨pw_in 1081 (by decide +kernel) (by decide +kernel), pw_in 1082 (by decide +kernel) (by decide +kernel), pw_in 1083 (by decide +kernel) (by decide +kernel)⟩
theorem cwX6_36 : Cond.methodLink RX6 36 yX7_goDown ∈ pw_G ∧ Cond.instanceMethod yX7_goDown ∈ pw_G ∧ Cond.selects RX7 yX7_goDown yX7_goDown ∈ pw_G := ⟨pw_in 958 (by decide +kernel) (by decide +kernel), pw_in 959 (by decide +kernel) (by decide +kernel), pw_in 960 (by decide +kernel) (by decide +kernel)⟩
theorem cwX6_59 : Cond.methodLink RX6 59 yX7_goUp ∈ pw_G ∧ Cond.instanceMethod yX7_goUp ∈ pw_G ∧ Cond.selects RX7 yX7_goUp yX7_goUp ∈ pw_G := ⟨pw_in 1085 (by decide +kernel) (by decide +kernel), pw_in 1086 (by decide +kernel) (by decide +kernel), pw_in 1087 (by decide +kernel) (by decide +kernel)⟩
theorem cwX6_65 : Cond.methodLink RX6 65 yX6_beginLonger ∈ pw_G ∧ Cond.instanceMethod yX6_beginLonger ∈ pw_G ∧ Cond.selects RX6 yX6_beginLonger yX6_beginLonger ∈ pw_G := ⟨pw_in 1091 (by decide +kernel) (by decide +kernel), pw_in 1093 (by decide +kernel) (by decide +kernel), pw_in 23 (by decide +kernel) (by decide +kernel)⟩
theorem cwX6_62 : Cond.methodLink RX6 62 yX7_reset ∈ pw_G ∧ Cond.instanceMethod yX7_reset ∈ pw_G ∧ Cond.selects RX7 yX7_reset yX7_reset ∈ pw_G := ⟨pw_in 1090 (by decide +kernel) (by decide +kernel), pw_in 763 (by decide +kernel) (by decide +kernel), pw_in 764 (by decide +kernel) (by decide +kernel)⟩
set_option maxHeartbeats 4000000 in
set_option maxRecDepth 100000 in
theorem lX6_setPen {E : pw_E} (htr : E.1.stackTraces = false) {h : pz_H} {n : Nat} {w H : Int} {N NH : Nat} {I J : Nat → Nat} {s : zSt} {R q : Nat → Int} (hG : geo w H N NH) (hA : rAt w H N NH I J s R q h) (hO : rOk w H s R q) {told : Int} (ht : 0 ≤ told ∧ told ≤ 5) {K : pw_K} : ∀ (j : Nat) (i p : Int), (4 - i).toNat = j → 0 ≤ i → i ≤ 4 → 0 ≤ p ∧ p < 4096 → K.2.2.1 none (rP w H N NH I J (zSet 8 (sPens told q j i p) s) R q h) n → pw E YX6_setPen (rmD 2 0 0) K 0 0 39 [some (.ref (J 0)), some (.int (zI (told))), some (.int (zI (p))), some (.int (zI (i)))] [] (rP w H N NH I J s R q h) n := by
  have hG0 := hG
  have hO0 := hO
  obtain ⟨gw, gH, gN, gN2, gNH⟩ := hG
  obtain ⟨hz, r2, r3, r4, r5, hq⟩ := hO
  have hz0 := hz
  obtain ⟨o3, o4, o5, o6, o7, o8, o9, o10, o11, o12, o14, o15, o16, o17, oT3, oT4⟩ := hz
  have q0 := hq 0
  have q1 := hq 1
  intro j
  induction j with
  | zero =>
    intro i p hj h1 h2 hp hQ
    refine pw_iload_n dX6_setPen_39 rfl ?_
    refine pw_iconst (v := zI (4)) dX6_setPen_40 (by decide) ?_
    refine pw_icmp_ge (tgt := 66) dX6_setPen_41 rfl (by omega) (by omega) (fun c41 => ?_) (fun c41 => ?_)
    ·
      refine pw_aload_n dX6_setPen_66 rfl ?_
      refine pw_get (v := .ref (I 0)) okX6 (k := 0) (by decide) lkX6_13 (rAt_put hA).2.1 rfl dX6_setPen_67 ?_
      refine pw_iload_n dX6_setPen_70 rfl ?_
      refine pw_putN (fs' := (scObj I (va_up s.1 8 (p)))) okX7 (k := 8) (by decide) lkX6_153 rfl rfl rfl (rAt_put hA).1.1.1 (nlt rfl) rfl dX6_setPen_71 ?_
      refine pw_h (h' := rP w H N NH I J (zSet 8 (p) s) R q h) (rUF hA) ?_
      exact pw_vret dX6_setPen_74 rfl (nle rfl) (nle rfl) hQ
    · exfalso; omega
  | succ j ih =>
    intro i p hj h1 h2 hp hQ
    refine pw_iload_n dX6_setPen_39 rfl ?_
    refine pw_iconst (v := zI (4)) dX6_setPen_40 (by decide) ?_
    refine pw_icmp_ge (tgt := 66) dX6_setPen_41 rfl (by omega) (by omega) (fun c41 => ?_) (fun c41 => ?_)
    · exfalso; omega
    ·
      refine pw_iload_n dX6_setPen_44 rfl ?_
      refine pw_iload_n dX6_setPen_45 rfl ?_
      refine pw_icmp_ge (tgt := 66) dX6_setPen_46 rfl (by omega) (by omega) (fun c46 => ?_) (fun c46 => ?_)
      ·
        refine pw_aload_n dX6_setPen_66 rfl ?_
        refine pw_get (v := .ref (I 0)) okX6 (k := 0) (by decide) lkX6_13 (rAt_put hA).2.1 rfl dX6_setPen_67 ?_
        refine pw_iload_n dX6_setPen_70 rfl ?_
        refine pw_putN (fs' := (scObj I (va_up s.1 8 (p)))) okX7 (k := 8) (by decide) lkX6_153 rfl rfl rfl (rAt_put hA).1.1.1 (nlt rfl) rfl dX6_setPen_71 ?_
        refine pw_h (h' := rP w H N NH I J (zSet 8 (p) s) R q h) (rUF hA) ?_
        exact pw_vret dX6_setPen_74 rfl (nle rfl) (nle rfl) (by rw [show sPens told q (j + 1) i p = if i < told then sPens told q j (i + 1) (pChg p (q i.toNat)) else p from rfl, if_neg (show ¬ i < told by omega)] at hQ; exact hQ)
      ·
        refine pw_iload_n dX6_setPen_49 rfl ?_
        refine pw_aload_n dX6_setPen_50 rfl ?_
        refine pw_get (v := .ref (J 1)) okX6 (k := 1) (by decide) lkX6_9 (rAt_put hA).2.1 rfl dX6_setPen_51 ?_
        refine pw_iload_n dX6_setPen_54 rfl ?_
        refine pw_iald (t := 0) rfl (rAt_put hA).2.2.1 (by omega) (by omega) dX6_setPen_55 ?_
        refine pw_callS (As := [.int (zI (p)), .int (zI (q (i).toNat))]) (rm := rmD 1 0 0) (mX6_changedPen htr hp (hq _)) rfl ywX6_changedPen rfl cwX6_156 ⟨nle rfl, nle rfl⟩ (nle rfl) ⟨nle rfl, nle rfl⟩ dX6_setPen_56 ?_ (fun _ _ _ z => z.elim)
        intro r2 h2 n2 hq _
        rw [hq.1, hq.2.1, hq.2.2]
        show pw E YX6_setPen _ _ 0 0 59 [some (.ref (J 0)), some (.int (zI (told))), some (.int (zI (p))), some (.int (zI (i)))] [.int (zI (pChg (p) (q (i).toNat)))] (rP w H N NH I J s R q h) n
        refine pw_istore_n (lv' := [some (.ref (J 0)), some (.int (zI (told))), some (.int (zI (pChg (p) (q (i).toNat)))), some (.int (zI (i)))]) dX6_setPen_59 (by decide) rfl rfl ?_
        refine pw_ziinc (lv' := [some (.ref (J 0)), some (.int (zI (told))), some (.int (zI (pChg (p) (q (i).toNat)))), some (.int (zI (i + 1)))]) dX6_setPen_60 rfl (by decide) rfl rfl ?_
        refine pw_goto (tgt := 39) dX6_setPen_63 rfl ?_
        rw [show sPens told q (j + 1) i p = if i < told then sPens told q j (i + 1) (pChg p (q i.toNat)) else p from rfl, if_pos (show i < told by omega)] at hQ
        exact ih (i + 1) _ (by omega) (by omega) (by omega) (pChg_ok hp) hQ
set_option maxHeartbeats 4000000 in
set_option maxRecDepth 100000 in
/-- Reader.setPen() -/
theorem mX6_setPen {E : pw_E} (htr : E.1.stackTraces = false) {h : pz_H} {n : Nat} {w H : Int} {N NH : Nat} {I J : Nat → Nat} {s : zSt} {R q : Nat → Int} (hG : geo w H N NH) (hA : rAt w H N NH I J s R q h) (hO : rOk w H s R q) : pw_M E yX6_setPen YX6_setPen (rmD 2 0 0) [.ref (J 0)] h n (fun r h' n' => r = none ∧ h' = rP w H N NH I J (zPens R q s) R q h ∧ n' = n) (fun _ _ _ => False) := by
  have hG0 := hG
  have hO0 := hO
  obtain ⟨gw, gH, gN, gN2, gNH⟩ := hG
  obtain ⟨hz, r2, r3, r4, r5, hq⟩ := hO
  have hz0 := hz
  obtain ⟨o3, o4, o5, o6, o7, o8, o9, o10, o11, o12, o14, o15, o16, o17, oT3, oT4⟩ := hz
  have q0 := hq 0
  have q1 := hq 1
  refine pw_M_of (lv := [some (.ref (J 0)), none, none, none]) (by decide) rfl rfl htr (nle rfl) rfl (fun L => ?_)
  refine pw_h (rP_id hA).symm ?_
  refine pw_aload_n dX6_setPen_0 rfl ?_
  refine pw_get (v := .int (zI (R 3))) okX6 (k := 3) (by decide) lkX6_77 (rAt_put hA).2.1 rfl dX6_setPen_1 ?_
  refine pw_if_eq (tgt := 16) dX6_setPen_4 rfl (by omega) (fun c4 => ?_) (fun c4 => ?_)
  ·
    refine pw_aload_n dX6_setPen_16 rfl ?_
    refine pw_get (v := .int (zI (R 2))) okX6 (k := 2) (by decide) lkX6_74 (rAt_put hA).2.1 rfl dX6_setPen_17 ?_
    refine pw_istore_n (lv' := [some (.ref (J 0)), some (.int (zI (R 2))), none, none]) dX6_setPen_20 (by decide) rfl rfl ?_
    refine pw_iload_n dX6_setPen_21 rfl ?_
    refine pw_if_ne (tgt := 29) dX6_setPen_22 rfl (by omega) (fun c22 => ?_) (fun c22 => ?_)
    ·
      refine pw_aload_n dX6_setPen_29 rfl ?_
      refine pw_get (v := .ref (I 0)) okX6 (k := 0) (by decide) lkX6_13 (rAt_put hA).2.1 rfl dX6_setPen_30 ?_
      refine pw_getN (v := .int (zI (s.1 8))) okX7 (k := 8) (by decide) lkX6_153 (rAt_put hA).1.1.1 rfl dX6_setPen_33 ?_
      refine pw_istore_n (lv' := [some (.ref (J 0)), some (.int (zI (R 2))), some (.int (zI (s.1 8))), none]) dX6_setPen_36 (by decide) rfl rfl ?_
      refine pw_iconst (v := zI (0)) dX6_setPen_37 (by decide) ?_
      refine pw_istore_n (lv' := [some (.ref (J 0)), some (.int (zI (R 2))), some (.int (zI (s.1 8))), some (.int (zI (0)))]) dX6_setPen_38 (by decide) rfl rfl ?_
      have ht : rTold R = R 2 := by unfold rTold; first | (exfalso; omega) | (repeat (first | rw [if_pos (by omega)] | rw [if_neg (by omega)]))
      refine lX6_setPen htr hG0 (rAt_put hA) hO0 (told := R 2) (by omega) _ 0 (s.1 8) rfl (by omega) (by omega) (by omega) ⟨rfl, ?_, rfl⟩ |> fun z => pw_h (rP_put (s := s) (R := R) (q := q) hA).symm z
      rw [rP_put hA]
      unfold zPens; rw [ht]; first | (exfalso; omega) | (repeat (first | rw [if_pos (by omega)] | rw [if_neg (by omega)])); first | done | rfl
    ·
      refine pw_iconst (v := zI (0)) dX6_setPen_25 (by decide) ?_
      refine pw_goto (tgt := 36) dX6_setPen_26 rfl ?_
      refine pw_istore_n (lv' := [some (.ref (J 0)), some (.int (zI (R 2))), some (.int (zI (0))), none]) dX6_setPen_36 (by decide) rfl rfl ?_
      refine pw_iconst (v := zI (0)) dX6_setPen_37 (by decide) ?_
      refine pw_istore_n (lv' := [some (.ref (J 0)), some (.int (zI (R 2))), some (.int (zI (0))), some (.int (zI (0)))]) dX6_setPen_38 (by decide) rfl rfl ?_
      have ht : rTold R = R 2 := by unfold rTold; first | (exfalso; omega) | (repeat (first | rw [if_pos (by omega)] | rw [if_neg (by omega)]))
      refine lX6_setPen htr hG0 (rAt_put hA) hO0 (told := R 2) (by omega) _ 0 (0) rfl (by omega) (by omega) (by omega) ⟨rfl, ?_, rfl⟩ |> fun z => pw_h (rP_put (s := s) (R := R) (q := q) hA).symm z
      rw [rP_put hA]
      unfold zPens; rw [ht]; first | (exfalso; omega) | (repeat (first | rw [if_pos (by omega)] | rw [if_neg (by omega)])); first | done | rfl
  ·
    refine pw_aload_n dX6_setPen_7 rfl ?_
    refine pw_get (v := .int (zI (R 2))) okX6 (k := 2) (by decide) lkX6_74 (rAt_put hA).2.1 rfl dX6_setPen_8 ?_
    refine pw_iconst (v := zI (1)) dX6_setPen_11 (by decide) ?_
    refine pw_ziadd dX6_setPen_12 ?_
    refine pw_goto (tgt := 20) dX6_setPen_13 rfl ?_
    refine pw_istore_n (lv' := [some (.ref (J 0)), some (.int (zI ((R 2) + (1)))), none, none]) dX6_setPen_20 (by decide) rfl rfl ?_
    refine pw_iload_n dX6_setPen_21 rfl ?_
    refine pw_if_ne (tgt := 29) dX6_setPen_22 rfl (by omega) (fun c22 => ?_) (fun c22 => ?_)
    ·
      refine pw_aload_n dX6_setPen_29 rfl ?_
      refine pw_get (v := .ref (I 0)) okX6 (k := 0) (by decide) lkX6_13 (rAt_put hA).2.1 rfl dX6_setPen_30 ?_
      refine pw_getN (v := .int (zI (s.1 8))) okX7 (k := 8) (by decide) lkX6_153 (rAt_put hA).1.1.1 rfl dX6_setPen_33 ?_
      refine pw_istore_n (lv' := [some (.ref (J 0)), some (.int (zI ((R 2) + (1)))), some (.int (zI (s.1 8))), none]) dX6_setPen_36 (by decide) rfl rfl ?_
      refine pw_iconst (v := zI (0)) dX6_setPen_37 (by decide) ?_
      refine pw_istore_n (lv' := [some (.ref (J 0)), some (.int (zI ((R 2) + (1)))), some (.int (zI (s.1 8))), some (.int (zI (0)))]) dX6_setPen_38 (by decide) rfl rfl ?_
      have ht : rTold R = (R 2) + (1) := by unfold rTold; first | (exfalso; omega) | (repeat (first | rw [if_pos (by omega)] | rw [if_neg (by omega)]))
      refine lX6_setPen htr hG0 (rAt_put hA) hO0 (told := (R 2) + (1)) (by omega) _ 0 (s.1 8) rfl (by omega) (by omega) (by omega) ⟨rfl, ?_, rfl⟩ |> fun z => pw_h (rP_put (s := s) (R := R) (q := q) hA).symm z
      rw [rP_put hA]
      unfold zPens; rw [ht]; first | (exfalso; omega) | (repeat (first | rw [if_pos (by omega)] | rw [if_neg (by omega)])); first | done | rfl
    ·
      refine pw_iconst (v := zI (0)) dX6_setPen_25 (by decide) ?_
      refine pw_goto (tgt := 36) dX6_setPen_26 rfl ?_
      refine pw_istore_n (lv' := [some (.ref (J 0)), some (.int (zI ((R 2) + (1)))), some (.int (zI (0))), none]) dX6_setPen_36 (by decide) rfl rfl ?_
      refine pw_iconst (v := zI (0)) dX6_setPen_37 (by decide) ?_
      refine pw_istore_n (lv' := [some (.ref (J 0)), some (.int (zI ((R 2) + (1)))), some (.int (zI (0))), some (.int (zI (0)))]) dX6_setPen_38 (by decide) rfl rfl ?_
      have ht : rTold R = (R 2) + (1) := by unfold rTold; first | (exfalso; omega) | (repeat (first | rw [if_pos (by omega)] | rw [if_neg (by omega)]))
      refine lX6_setPen htr hG0 (rAt_put hA) hO0 (told := (R 2) + (1)) (by omega) _ 0 (0) rfl (by omega) (by omega) (by omega) ⟨rfl, ?_, rfl⟩ |> fun z => pw_h (rP_put (s := s) (R := R) (q := q) hA).symm z
      rw [rP_put hA]
      unfold zPens; rw [ht]; first | (exfalso; omega) | (repeat (first | rw [if_pos (by omega)] | rw [if_neg (by omega)])); first | done | rfl
set_option maxHeartbeats 4000000 in
set_option maxRecDepth 100000 in
/-- Reader.doLonger(b) -/
theorem mX6_doLonger {E : pw_E} (htr : E.1.stackTraces = false) {h : pz_H} {n : Nat} {w H : Int} {N NH : Nat} {I J : Nat → Nat} {s : zSt} {R q : Nat → Int} (hG : geo w H N NH) (hA : rAt w H N NH I J s R q h) (hO : rOk w H s R q) {b : Int} (hb : 64 ≤ b ∧ b ≤ 126) : pw_M E yX6_doLonger YX6_doLonger (rmD 6 0 0) [.ref (J 0), .int (zI (b))] h n (fun r h' n' => r = none ∧ h' = rP w H N NH I J (zDo w H NH b R q s) R q h ∧ n' = n) (fun _ _ _ => False) := by
  have hG0 := hG
  have hO0 := hO
  obtain ⟨gw, gH, gN, gN2, gNH⟩ := hG
  obtain ⟨hz, r2, r3, r4, r5, hq⟩ := hO
  have hz0 := hz
  obtain ⟨o3, o4, o5, o6, o7, o8, o9, o10, o11, o12, o14, o15, o16, o17, oT3, oT4⟩ := hz
  have q0 := hq 0
  have q1 := hq 1
  refine pw_M_of (lv := [some (.ref (J 0)), some (.int (zI (b))), none]) (by decide) rfl rfl htr (nle rfl) rfl (fun L => ?_)
  refine pw_h (rP_id hA).symm ?_
  refine pw_iconst (v := zI (1)) dX6_doLonger_0 (by decide) ?_
  refine pw_aload_n dX6_doLonger_1 rfl ?_
  refine pw_get (v := .ref (J 1)) okX6 (k := 1) (by decide) lkX6_9 (rAt_put hA).2.1 rfl dX6_doLonger_2 ?_
  refine pw_iconst (v := zI (0)) dX6_doLonger_5 (by decide) ?_
  refine pw_ialdv (v := q 0) (t := 0) rfl (rAt_put hA).2.2.1 (by omega) (by omega) rfl dX6_doLonger_6 ?_
  refine pw_max cwX6_111 dX6_doLonger_7 (by omega) (by omega) ⟨nle rfl, nle rfl⟩ ⟨nle rfl, nle rfl⟩ ?_
  refine pw_istore_n (lv' := [some (.ref (J 0)), some (.int (zI (b))), some (.int (zI (max (1) (q 0))))]) dX6_doLonger_10 (by decide) rfl rfl ?_
  refine pw_iload_n dX6_doLonger_11 rfl ?_
  by_cases k12_64 : b = 64
  ·
    refine pw_tableIn (off := 443) (tgt := 455) dX6_doLonger_12 (by omega) (by omega) (by omega) (by rw [k12_64]; rfl) rfl ?_
    refine pw_aload_n dX6_doLonger_455 rfl ?_
    refine pw_get (v := .ref (I 0)) okX6 (k := 0) (by decide) lkX6_13 (rAt_put hA).2.1 rfl dX6_doLonger_456 ?_
    refine pw_iload_n dX6_doLonger_459 rfl ?_
    refine pw_callV (As := [.int (zI (max (1) (q 0)))]) (b := (I 0)) (rm := rmD 3 0 0) (nX7_insertCells htr hG0 (rAt_put hA).1 hz0 (by omega)) rfl (rAt_put hA).1.1.1 rfl rfl ywX7_insertCells rfl cwX6_126 ⟨nle rfl, nle rfl⟩ (nle rfl) ⟨nle rfl, nle rfl⟩ dX6_doLonger_460 ?_ (fun _ _ _ z => z.elim)
    intro r2 h2 n2 hq _
    rw [hq.1, hq.2.1, hq.2.2]
    show pw E YX6_doLonger _ _ 0 0 463 [some (.ref (J 0)), some (.int (zI (b))), some (.int (zI (max (1) (q 0))))] [] (zP w H N NH I (zInsCells w H (max (1) (q 0)) s) (rP w H N NH I J s R q h)) n
    refine pw_h (zP_rP hA) ?_
    refine pw_goto (tgt := 552) dX6_doLonger_463 rfl ?_
    exact pw_vret dX6_doLonger_552 rfl (nle rfl) (nle rfl) ⟨rfl, by first | (exfalso; omega) | (rw [k12_64]; first | done | rfl), rfl⟩
  by_cases k12_65 : b = 65
  ·
    clear k12_64
    refine pw_tableIn (off := 220) (tgt := 232) dX6_doLonger_12 (by omega) (by omega) (by omega) (by rw [k12_65]; rfl) rfl ?_
    refine pw_aload_n dX6_doLonger_232 rfl ?_
    refine pw_get (v := .ref (I 0)) okX6 (k := 0) (by decide) lkX6_13 (rAt_put hA).2.1 rfl dX6_doLonger_233 ?_
    refine pw_aload_n dX6_doLonger_236 rfl ?_
    refine pw_get (v := .ref (I 0)) okX6 (k := 0) (by decide) lkX6_13 (rAt_put hA).2.1 rfl dX6_doLonger_237 ?_
    refine pw_getN (v := .int (zI (s.1 5))) okX7 (k := 5) (by decide) lkX6_21 (rAt_put hA).1.1.1 rfl dX6_doLonger_240 ?_
    refine pw_aload_n dX6_doLonger_243 rfl ?_
    refine pw_get (v := .ref (I 0)) okX6 (k := 0) (by decide) lkX6_13 (rAt_put hA).2.1 rfl dX6_doLonger_244 ?_
    refine pw_getN (v := .int (zI (s.1 6))) okX7 (k := 6) (by decide) lkX6_26 (rAt_put hA).1.1.1 rfl dX6_doLonger_247 ?_
    refine pw_iload_n dX6_doLonger_250 rfl ?_
    refine pw_zisub dX6_doLonger_251 ?_
    refine pw_callV (As := [.int (zI (s.1 5)), .int (zI ((s.1 6) - (max (1) (q 0))))]) (b := (I 0)) (rm := rmD 2 0 0) (nX7_moveTo htr hG0 (rAt_put hA).1 hz0 (by omega) (by omega)) rfl (rAt_put hA).1.1.1 rfl rfl ywX7_moveTo rfl cwX6_29 ⟨nle rfl, nle rfl⟩ (nle rfl) ⟨nle rfl, nle rfl⟩ dX6_doLonger_252 ?_ (fun _ _ _ z => z.elim)
    intro r2 h2 n2 hq _
    rw [hq.1, hq.2.1, hq.2.2]
    show pw E YX6_doLonger _ _ 0 0 255 [some (.ref (J 0)), some (.int (zI (b))), some (.int (zI (max (1) (q 0))))] [] (zP w H N NH I (zMove (s.1 5) ((s.1 6) - (max (1) (q 0))) s) (rP w H N NH I J s R q h)) n
    refine pw_h (zP_rP hA) ?_
    refine pw_goto (tgt := 552) dX6_doLonger_255 rfl ?_
    exact pw_vret dX6_doLonger_552 rfl (nle rfl) (nle rfl) ⟨rfl, by first | (exfalso; omega) | (rw [k12_65]; first | done | rfl), rfl⟩
  by_cases k12_66 : b = 66
  ·
    clear k12_64 k12_65
    refine pw_tableIn (off := 246) (tgt := 258) dX6_doLonger_12 (by omega) (by omega) (by omega) (by rw [k12_66]; rfl) rfl ?_
    refine pw_aload_n dX6_doLonger_258 rfl ?_
    refine pw_get (v := .ref (I 0)) okX6 (k := 0) (by decide) lkX6_13 (rAt_put hA).2.1 rfl dX6_doLonger_259 ?_
    refine pw_aload_n dX6_doLonger_262 rfl ?_
    refine pw_get (v := .ref (I 0)) okX6 (k := 0) (by decide) lkX6_13 (rAt_put hA).2.1 rfl dX6_doLonger_263 ?_
    refine pw_getN (v := .int (zI (s.1 5))) okX7 (k := 5) (by decide) lkX6_21 (rAt_put hA).1.1.1 rfl dX6_doLonger_266 ?_
    refine pw_aload_n dX6_doLonger_269 rfl ?_
    refine pw_get (v := .ref (I 0)) okX6 (k := 0) (by decide) lkX6_13 (rAt_put hA).2.1 rfl dX6_doLonger_270 ?_
    refine pw_getN (v := .int (zI (s.1 6))) okX7 (k := 6) (by decide) lkX6_26 (rAt_put hA).1.1.1 rfl dX6_doLonger_273 ?_
    refine pw_iload_n dX6_doLonger_276 rfl ?_
    refine pw_ziadd dX6_doLonger_277 ?_
    refine pw_callV (As := [.int (zI (s.1 5)), .int (zI ((s.1 6) + (max (1) (q 0))))]) (b := (I 0)) (rm := rmD 2 0 0) (nX7_moveTo htr hG0 (rAt_put hA).1 hz0 (by omega) (by omega)) rfl (rAt_put hA).1.1.1 rfl rfl ywX7_moveTo rfl cwX6_29 ⟨nle rfl, nle rfl⟩ (nle rfl) ⟨nle rfl, nle rfl⟩ dX6_doLonger_278 ?_ (fun _ _ _ z => z.elim)
    intro r2 h2 n2 hq _
    rw [hq.1, hq.2.1, hq.2.2]
    show pw E YX6_doLonger _ _ 0 0 281 [some (.ref (J 0)), some (.int (zI (b))), some (.int (zI (max (1) (q 0))))] [] (zP w H N NH I (zMove (s.1 5) ((s.1 6) + (max (1) (q 0))) s) (rP w H N NH I J s R q h)) n
    refine pw_h (zP_rP hA) ?_
    refine pw_goto (tgt := 552) dX6_doLonger_281 rfl ?_
    exact pw_vret dX6_doLonger_552 rfl (nle rfl) (nle rfl) ⟨rfl, by first | (exfalso; omega) | (rw [k12_66]; first | done | rfl), rfl⟩
  by_cases k12_67 : b = 67
  ·
    clear k12_64 k12_65 k12_66
    refine pw_tableIn (off := 272) (tgt := 284) dX6_doLonger_12 (by omega) (by omega) (by omega) (by rw [k12_67]; rfl) rfl ?_
    refine pw_aload_n dX6_doLonger_284 rfl ?_
    refine pw_get (v := .ref (I 0)) okX6 (k := 0) (by decide) lkX6_13 (rAt_put hA).2.1 rfl dX6_doLonger_285 ?_
    refine pw_aload_n dX6_doLonger_288 rfl ?_
    refine pw_get (v := .ref (I 0)) okX6 (k := 0) (by decide) lkX6_13 (rAt_put hA).2.1 rfl dX6_doLonger_289 ?_
    refine pw_getN (v := .int (zI (s.1 5))) okX7 (k := 5) (by decide) lkX6_21 (rAt_put hA).1.1.1 rfl dX6_doLonger_292 ?_
    refine pw_iload_n dX6_doLonger_295 rfl ?_
    refine pw_ziadd dX6_doLonger_296 ?_
    refine pw_aload_n dX6_doLonger_297 rfl ?_
    refine pw_get (v := .ref (I 0)) okX6 (k := 0) (by decide) lkX6_13 (rAt_put hA).2.1 rfl dX6_doLonger_298 ?_
    refine pw_getN (v := .int (zI (s.1 6))) okX7 (k := 6) (by decide) lkX6_26 (rAt_put hA).1.1.1 rfl dX6_doLonger_301 ?_
    refine pw_callV (As := [.int (zI ((s.1 5) + (max (1) (q 0)))), .int (zI (s.1 6))]) (b := (I 0)) (rm := rmD 2 0 0) (nX7_moveTo htr hG0 (rAt_put hA).1 hz0 (by omega) (by omega)) rfl (rAt_put hA).1.1.1 rfl rfl ywX7_moveTo rfl cwX6_29 ⟨nle rfl, nle rfl⟩ (nle rfl) ⟨nle rfl, nle rfl⟩ dX6_doLonger_304 ?_ (fun _ _ _ z => z.elim)
    intro r2 h2 n2 hq _
    rw [hq.1, hq.2.1, hq.2.2]
    show pw E YX6_doLonger _ _ 0 0 307 [some (.ref (J 0)), some (.int (zI (b))), some (.int (zI (max (1) (q 0))))] [] (zP w H N NH I (zMove ((s.1 5) + (max (1) (q 0))) (s.1 6) s) (rP w H N NH I J s R q h)) n
    refine pw_h (zP_rP hA) ?_
    refine pw_goto (tgt := 552) dX6_doLonger_307 rfl ?_
    exact pw_vret dX6_doLonger_552 rfl (nle rfl) (nle rfl) ⟨rfl, by first | (exfalso; omega) | (rw [k12_67]; first | done | rfl), rfl⟩
  by_cases k12_68 : b = 68
  ·
    clear k12_64 k12_65 k12_66 k12_67
    refine pw_tableIn (off := 298) (tgt := 310) dX6_doLonger_12 (by omega) (by omega) (by omega) (by rw [k12_68]; rfl) rfl ?_
    refine pw_aload_n dX6_doLonger_310 rfl ?_
    refine pw_get (v := .ref (I 0)) okX6 (k := 0) (by decide) lkX6_13 (rAt_put hA).2.1 rfl dX6_doLonger_311 ?_
    refine pw_aload_n dX6_doLonger_314 rfl ?_
    refine pw_get (v := .ref (I 0)) okX6 (k := 0) (by decide) lkX6_13 (rAt_put hA).2.1 rfl dX6_doLonger_315 ?_
    refine pw_getN (v := .int (zI (s.1 5))) okX7 (k := 5) (by decide) lkX6_21 (rAt_put hA).1.1.1 rfl dX6_doLonger_318 ?_
    refine pw_iload_n dX6_doLonger_321 rfl ?_
    refine pw_zisub dX6_doLonger_322 ?_
    refine pw_aload_n dX6_doLonger_323 rfl ?_
    refine pw_get (v := .ref (I 0)) okX6 (k := 0) (by decide) lkX6_13 (rAt_put hA).2.1 rfl dX6_doLonger_324 ?_
    refine pw_getN (v := .int (zI (s.1 6))) okX7 (k := 6) (by decide) lkX6_26 (rAt_put hA).1.1.1 rfl dX6_doLonger_327 ?_
    refine pw_callV (As := [.int (zI ((s.1 5) - (max (1) (q 0)))), .int (zI (s.1 6))]) (b := (I 0)) (rm := rmD 2 0 0) (nX7_moveTo htr hG0 (rAt_put hA).1 hz0 (by omega) (by omega)) rfl (rAt_put hA).1.1.1 rfl rfl ywX7_moveTo rfl cwX6_29 ⟨nle rfl, nle rfl⟩ (nle rfl) ⟨nle rfl, nle rfl⟩ dX6_doLonger_330 ?_ (fun _ _ _ z => z.elim)
    intro r2 h2 n2 hq _
    rw [hq.1, hq.2.1, hq.2.2]
    show pw E YX6_doLonger _ _ 0 0 333 [some (.ref (J 0)), some (.int (zI (b))), some (.int (zI (max (1) (q 0))))] [] (zP w H N NH I (zMove ((s.1 5) - (max (1) (q 0))) (s.1 6) s) (rP w H N NH I J s R q h)) n
    refine pw_h (zP_rP hA) ?_
    refine pw_goto (tgt := 552) dX6_doLonger_333 rfl ?_
    exact pw_vret dX6_doLonger_552 rfl (nle rfl) (nle rfl) ⟨rfl, by first | (exfalso; omega) | (rw [k12_68]; first | done | rfl), rfl⟩
  by_cases k12_71 : b = 71
  ·
    clear k12_64 k12_65 k12_66 k12_67 k12_68
    refine pw_tableIn (off := 324) (tgt := 336) dX6_doLonger_12 (by omega) (by omega) (by omega) (by rw [k12_71]; rfl) rfl ?_
    refine pw_aload_n dX6_doLonger_336 rfl ?_
    refine pw_get (v := .ref (I 0)) okX6 (k := 0) (by decide) lkX6_13 (rAt_put hA).2.1 rfl dX6_doLonger_337 ?_
    refine pw_iload_n dX6_doLonger_340 rfl ?_
    refine pw_iconst (v := zI (1)) dX6_doLonger_341 (by decide) ?_
    refine pw_zisub dX6_doLonger_342 ?_
    refine pw_aload_n dX6_doLonger_343 rfl ?_
    refine pw_get (v := .ref (I 0)) okX6 (k := 0) (by decide) lkX6_13 (rAt_put hA).2.1 rfl dX6_doLonger_344 ?_
    refine pw_getN (v := .int (zI (s.1 6))) okX7 (k := 6) (by decide) lkX6_26 (rAt_put hA).1.1.1 rfl dX6_doLonger_347 ?_
    refine pw_callV (As := [.int (zI ((max (1) (q 0)) - (1))), .int (zI (s.1 6))]) (b := (I 0)) (rm := rmD 2 0 0) (nX7_moveTo htr hG0 (rAt_put hA).1 hz0 (by omega) (by omega)) rfl (rAt_put hA).1.1.1 rfl rfl ywX7_moveTo rfl cwX6_29 ⟨nle rfl, nle rfl⟩ (nle rfl) ⟨nle rfl, nle rfl⟩ dX6_doLonger_350 ?_ (fun _ _ _ z => z.elim)
    intro r2 h2 n2 hq _
    rw [hq.1, hq.2.1, hq.2.2]
    show pw E YX6_doLonger _ _ 0 0 353 [some (.ref (J 0)), some (.int (zI (b))), some (.int (zI (max (1) (q 0))))] [] (zP w H N NH I (zMove ((max (1) (q 0)) - (1)) (s.1 6) s) (rP w H N NH I J s R q h)) n
    refine pw_h (zP_rP hA) ?_
    refine pw_goto (tgt := 552) dX6_doLonger_353 rfl ?_
    exact pw_vret dX6_doLonger_552 rfl (nle rfl) (nle rfl) ⟨rfl, by first | (exfalso; omega) | (rw [k12_71]; first | done | rfl), rfl⟩
  by_cases k12_72 : b = 72
  ·
    clear k12_64 k12_65 k12_66 k12_67 k12_68 k12_71
    refine pw_tableIn (off := 364) (tgt := 376) dX6_doLonger_12 (by omega) (by omega) (by omega) (by rw [k12_72]; rfl) rfl ?_
    refine pw_aload_n dX6_doLonger_376 rfl ?_
    refine pw_get (v := .ref (I 0)) okX6 (k := 0) (by decide) lkX6_13 (rAt_put hA).2.1 rfl dX6_doLonger_377 ?_
    refine pw_iconst (v := zI (1)) dX6_doLonger_380 (by decide) ?_
    refine pw_aload_n dX6_doLonger_381 rfl ?_
    refine pw_get (v := .ref (J 1)) okX6 (k := 1) (by decide) lkX6_9 (rAt_put hA).2.1 rfl dX6_doLonger_382 ?_
    refine pw_iconst (v := zI (1)) dX6_doLonger_385 (by decide) ?_
    refine pw_ialdv (v := q 1) (t := 0) rfl (rAt_put hA).2.2.1 (by omega) (by omega) rfl dX6_doLonger_386 ?_
    refine pw_max cwX6_111 dX6_doLonger_387 (by omega) (by omega) ⟨nle rfl, nle rfl⟩ ⟨nle rfl, nle rfl⟩ ?_
    refine pw_iconst (v := zI (1)) dX6_doLonger_390 (by decide) ?_
    refine pw_zisub dX6_doLonger_391 ?_
    refine pw_iload_n dX6_doLonger_392 rfl ?_
    refine pw_iconst (v := zI (1)) dX6_doLonger_393 (by decide) ?_
    refine pw_zisub dX6_doLonger_394 ?_
    refine pw_callV (As := [.int (zI ((max (1) (q 1)) - (1))), .int (zI ((max (1) (q 0)) - (1)))]) (b := (I 0)) (rm := rmD 2 0 0) (nX7_moveTo htr hG0 (rAt_put hA).1 hz0 (by omega) (by omega)) rfl (rAt_put hA).1.1.1 rfl rfl ywX7_moveTo rfl cwX6_29 ⟨nle rfl, nle rfl⟩ (nle rfl) ⟨nle rfl, nle rfl⟩ dX6_doLonger_395 ?_ (fun _ _ _ z => z.elim)
    intro r2 h2 n2 hq _
    rw [hq.1, hq.2.1, hq.2.2]
    show pw E YX6_doLonger _ _ 0 0 398 [some (.ref (J 0)), some (.int (zI (b))), some (.int (zI (max (1) (q 0))))] [] (zP w H N NH I (zMove ((max (1) (q 1)) - (1)) ((max (1) (q 0)) - (1)) s) (rP w H N NH I J s R q h)) n
    refine pw_h (zP_rP hA) ?_
    refine pw_goto (tgt := 552) dX6_doLonger_398 rfl ?_
    exact pw_vret dX6_doLonger_552 rfl (nle rfl) (nle rfl) ⟨rfl, by first | (exfalso; omega) | (rw [k12_72]; first | done | rfl), rfl⟩
  by_cases k12_74 : b = 74
  ·
    clear k12_64 k12_65 k12_66 k12_67 k12_68 k12_71 k12_72
    refine pw_tableIn (off := 389) (tgt := 401) dX6_doLonger_12 (by omega) (by omega) (by omega) (by rw [k12_74]; rfl) rfl ?_
    refine pw_aload_n dX6_doLonger_401 rfl ?_
    refine pw_get (v := .ref (I 0)) okX6 (k := 0) (by decide) lkX6_13 (rAt_put hA).2.1 rfl dX6_doLonger_402 ?_
    refine pw_aload_n dX6_doLonger_405 rfl ?_
    refine pw_get (v := .ref (J 1)) okX6 (k := 1) (by decide) lkX6_9 (rAt_put hA).2.1 rfl dX6_doLonger_406 ?_
    refine pw_iconst (v := zI (0)) dX6_doLonger_409 (by decide) ?_
    refine pw_ialdv (v := q 0) (t := 0) rfl (rAt_put hA).2.2.1 (by omega) (by omega) rfl dX6_doLonger_410 ?_
    refine pw_callV (As := [.int (zI (q 0))]) (b := (I 0)) (rm := rmD 4 0 0) (nX7_erase htr hG0 (rAt_put hA).1 hz0 (by omega)) rfl (rAt_put hA).1.1.1 rfl rfl ywX7_erase rfl cwX6_114 ⟨nle rfl, nle rfl⟩ (nle rfl) ⟨nle rfl, nle rfl⟩ dX6_doLonger_411 ?_ (fun _ _ _ z => z.elim)
    intro r2 h2 n2 hq _
    rw [hq.1, hq.2.1, hq.2.2]
    show pw E YX6_doLonger _ _ 0 0 414 [some (.ref (J 0)), some (.int (zI (b))), some (.int (zI (max (1) (q 0))))] [] (zP w H N NH I (zErase w H (q 0) s) (rP w H N NH I J s R q h)) n
    refine pw_h (zP_rP hA) ?_
    refine pw_goto (tgt := 552) dX6_doLonger_414 rfl ?_
    exact pw_vret dX6_doLonger_552 rfl (nle rfl) (nle rfl) ⟨rfl, by first | (exfalso; omega) | (rw [k12_74]; first | done | rfl), rfl⟩
  by_cases k12_75 : b = 75
  ·
    clear k12_64 k12_65 k12_66 k12_67 k12_68 k12_71 k12_72 k12_74
    refine pw_tableIn (off := 405) (tgt := 417) dX6_doLonger_12 (by omega) (by omega) (by omega) (by rw [k12_75]; rfl) rfl ?_
    refine pw_aload_n dX6_doLonger_417 rfl ?_
    refine pw_get (v := .ref (I 0)) okX6 (k := 0) (by decide) lkX6_13 (rAt_put hA).2.1 rfl dX6_doLonger_418 ?_
    refine pw_aload_n dX6_doLonger_421 rfl ?_
    refine pw_get (v := .ref (J 1)) okX6 (k := 1) (by decide) lkX6_9 (rAt_put hA).2.1 rfl dX6_doLonger_422 ?_
    refine pw_iconst (v := zI (0)) dX6_doLonger_425 (by decide) ?_
    refine pw_ialdv (v := q 0) (t := 0) rfl (rAt_put hA).2.2.1 (by omega) (by omega) rfl dX6_doLonger_426 ?_
    refine pw_callV (As := [.int (zI (q 0))]) (b := (I 0)) (rm := rmD 3 0 0) (nX7_eraseInRow htr hG0 (rAt_put hA).1 hz0 (by omega)) rfl (rAt_put hA).1.1.1 rfl rfl ywX7_eraseInRow rfl cwX6_117 ⟨nle rfl, nle rfl⟩ (nle rfl) ⟨nle rfl, nle rfl⟩ dX6_doLonger_427 ?_ (fun _ _ _ z => z.elim)
    intro r2 h2 n2 hq _
    rw [hq.1, hq.2.1, hq.2.2]
    show pw E YX6_doLonger _ _ 0 0 430 [some (.ref (J 0)), some (.int (zI (b))), some (.int (zI (max (1) (q 0))))] [] (zP w H N NH I (zErow w H (q 0) s) (rP w H N NH I J s R q h)) n
    refine pw_h (zP_rP hA) ?_
    refine pw_goto (tgt := 552) dX6_doLonger_430 rfl ?_
    exact pw_vret dX6_doLonger_552 rfl (nle rfl) (nle rfl) ⟨rfl, by first | (exfalso; omega) | (rw [k12_75]; first | done | rfl), rfl⟩
  by_cases k12_76 : b = 76
  ·
    clear k12_64 k12_65 k12_66 k12_67 k12_68 k12_71 k12_72 k12_74 k12_75
    refine pw_tableIn (off := 421) (tgt := 433) dX6_doLonger_12 (by omega) (by omega) (by omega) (by rw [k12_76]; rfl) rfl ?_
    refine pw_aload_n dX6_doLonger_433 rfl ?_
    refine pw_get (v := .ref (I 0)) okX6 (k := 0) (by decide) lkX6_13 (rAt_put hA).2.1 rfl dX6_doLonger_434 ?_
    refine pw_iload_n dX6_doLonger_437 rfl ?_
    refine pw_callV (As := [.int (zI (max (1) (q 0)))]) (b := (I 0)) (rm := rmD 4 0 0) (nX7_insertRows htr hG0 (rAt_put hA).1 hz0 (by omega)) rfl (rAt_put hA).1.1.1 rfl rfl ywX7_insertRows rfl cwX6_120 ⟨nle rfl, nle rfl⟩ (nle rfl) ⟨nle rfl, nle rfl⟩ dX6_doLonger_438 ?_ (fun _ _ _ z => z.elim)
    intro r2 h2 n2 hq _
    rw [hq.1, hq.2.1, hq.2.2]
    show pw E YX6_doLonger _ _ 0 0 441 [some (.ref (J 0)), some (.int (zI (b))), some (.int (zI (max (1) (q 0))))] [] (zP w H N NH I (zInsRows w H (max (1) (q 0)) s) (rP w H N NH I J s R q h)) n
    refine pw_h (zP_rP hA) ?_
    refine pw_goto (tgt := 552) dX6_doLonger_441 rfl ?_
    exact pw_vret dX6_doLonger_552 rfl (nle rfl) (nle rfl) ⟨rfl, by first | (exfalso; omega) | (rw [k12_76]; first | done | rfl), rfl⟩
  by_cases k12_77 : b = 77
  ·
    clear k12_64 k12_65 k12_66 k12_67 k12_68 k12_71 k12_72 k12_74 k12_75 k12_76
    refine pw_tableIn (off := 432) (tgt := 444) dX6_doLonger_12 (by omega) (by omega) (by omega) (by rw [k12_77]; rfl) rfl ?_
    refine pw_aload_n dX6_doLonger_444 rfl ?_
    refine pw_get (v := .ref (I 0)) okX6 (k := 0) (by decide) lkX6_13 (rAt_put hA).2.1 rfl dX6_doLonger_445 ?_
    refine pw_iload_n dX6_doLonger_448 rfl ?_
    refine pw_callV (As := [.int (zI (max (1) (q 0)))]) (b := (I 0)) (rm := rmD 4 0 0) (nX7_deleteRows htr hG0 (rAt_put hA).1 hz0 (by omega)) rfl (rAt_put hA).1.1.1 rfl rfl ywX7_deleteRows rfl cwX6_123 ⟨nle rfl, nle rfl⟩ (nle rfl) ⟨nle rfl, nle rfl⟩ dX6_doLonger_449 ?_ (fun _ _ _ z => z.elim)
    intro r2 h2 n2 hq _
    rw [hq.1, hq.2.1, hq.2.2]
    show pw E YX6_doLonger _ _ 0 0 452 [some (.ref (J 0)), some (.int (zI (b))), some (.int (zI (max (1) (q 0))))] [] (zP w H N NH I (zDelRows w H (max (1) (q 0)) s) (rP w H N NH I J s R q h)) n
    refine pw_h (zP_rP hA) ?_
    refine pw_goto (tgt := 552) dX6_doLonger_452 rfl ?_
    exact pw_vret dX6_doLonger_552 rfl (nle rfl) (nle rfl) ⟨rfl, by first | (exfalso; omega) | (rw [k12_77]; first | done | rfl), rfl⟩
  by_cases k12_80 : b = 80
  ·
    clear k12_64 k12_65 k12_66 k12_67 k12_68 k12_71 k12_72 k12_74 k12_75 k12_76 k12_77
    refine pw_tableIn (off := 454) (tgt := 466) dX6_doLonger_12 (by omega) (by omega) (by omega) (by rw [k12_80]; rfl) rfl ?_
    refine pw_aload_n dX6_doLonger_466 rfl ?_
    refine pw_get (v := .ref (I 0)) okX6 (k := 0) (by decide) lkX6_13 (rAt_put hA).2.1 rfl dX6_doLonger_467 ?_
    refine pw_iload_n dX6_doLonger_470 rfl ?_
    refine pw_callV (As := [.int (zI (max (1) (q 0)))]) (b := (I 0)) (rm := rmD 3 0 0) (nX7_deleteCells htr hG0 (rAt_put hA).1 hz0 (by omega)) rfl (rAt_put hA).1.1.1 rfl rfl ywX7_deleteCells rfl cwX6_129 ⟨nle rfl, nle rfl⟩ (nle rfl) ⟨nle rfl, nle rfl⟩ dX6_doLonger_471 ?_ (fun _ _ _ z => z.elim)
    intro r2 h2 n2 hq _
    rw [hq.1, hq.2.1, hq.2.2]
    show pw E YX6_doLonger _ _ 0 0 474 [some (.ref (J 0)), some (.int (zI (b))), some (.int (zI (max (1) (q 0))))] [] (zP w H N NH I (zDelCells w H (max (1) (q 0)) s) (rP w H N NH I J s R q h)) n
    refine pw_h (zP_rP hA) ?_
    refine pw_goto (tgt := 552) dX6_doLonger_474 rfl ?_
    exact pw_vret dX6_doLonger_552 rfl (nle rfl) (nle rfl) ⟨rfl, by first | (exfalso; omega) | (rw [k12_80]; first | done | rfl), rfl⟩
  by_cases k12_83 : b = 83
  ·
    clear k12_64 k12_65 k12_66 k12_67 k12_68 k12_71 k12_72 k12_74 k12_75 k12_76 k12_77 k12_80
    refine pw_tableIn (off := 476) (tgt := 488) dX6_doLonger_12 (by omega) (by omega) (by omega) (by rw [k12_83]; rfl) rfl ?_
    refine pw_aload_n dX6_doLonger_488 rfl ?_
    refine pw_get (v := .ref (I 0)) okX6 (k := 0) (by decide) lkX6_13 (rAt_put hA).2.1 rfl dX6_doLonger_489 ?_
    refine pw_iload_n dX6_doLonger_492 rfl ?_
    refine pw_callV (As := [.int (zI (max (1) (q 0)))]) (b := (I 0)) (rm := rmD 5 0 0) (nX7_scrollUp htr hG0 (rAt_put hA).1 hz0 (by omega)) rfl (rAt_put hA).1.1.1 rfl rfl ywX7_scrollUp rfl cwX6_135 ⟨nle rfl, nle rfl⟩ (nle rfl) ⟨nle rfl, nle rfl⟩ dX6_doLonger_493 ?_ (fun _ _ _ z => z.elim)
    intro r2 h2 n2 hq _
    rw [hq.1, hq.2.1, hq.2.2]
    show pw E YX6_doLonger _ _ 0 0 496 [some (.ref (J 0)), some (.int (zI (b))), some (.int (zI (max (1) (q 0))))] [] (zP w H N NH I (zScrollUp w H NH (max (1) (q 0)) s) (rP w H N NH I J s R q h)) n
    refine pw_h (zP_rP hA) ?_
    refine pw_goto (tgt := 552) dX6_doLonger_496 rfl ?_
    exact pw_vret dX6_doLonger_552 rfl (nle rfl) (nle rfl) ⟨rfl, by first | (exfalso; omega) | (rw [k12_83]; first | done | rfl), rfl⟩
  by_cases k12_84 : b = 84
  ·
    clear k12_64 k12_65 k12_66 k12_67 k12_68 k12_71 k12_72 k12_74 k12_75 k12_76 k12_77 k12_80 k12_83
    refine pw_tableIn (off := 487) (tgt := 499) dX6_doLonger_12 (by omega) (by omega) (by omega) (by rw [k12_84]; rfl) rfl ?_
    refine pw_aload_n dX6_doLonger_499 rfl ?_
    refine pw_get (v := .ref (I 0)) okX6 (k := 0) (by decide) lkX6_13 (rAt_put hA).2.1 rfl dX6_doLonger_500 ?_
    refine pw_iload_n dX6_doLonger_503 rfl ?_
    refine pw_callV (As := [.int (zI (max (1) (q 0)))]) (b := (I 0)) (rm := rmD 4 0 0) (nX7_scrollDown htr hG0 (rAt_put hA).1 hz0 (by omega)) rfl (rAt_put hA).1.1.1 rfl rfl ywX7_scrollDown rfl cwX6_138 ⟨nle rfl, nle rfl⟩ (nle rfl) ⟨nle rfl, nle rfl⟩ dX6_doLonger_504 ?_ (fun _ _ _ z => z.elim)
    intro r2 h2 n2 hq _
    rw [hq.1, hq.2.1, hq.2.2]
    show pw E YX6_doLonger _ _ 0 0 507 [some (.ref (J 0)), some (.int (zI (b))), some (.int (zI (max (1) (q 0))))] [] (zP w H N NH I (zScrollDown w H (max (1) (q 0)) s) (rP w H N NH I J s R q h)) n
    refine pw_h (zP_rP hA) ?_
    refine pw_goto (tgt := 552) dX6_doLonger_507 rfl ?_
    exact pw_vret dX6_doLonger_552 rfl (nle rfl) (nle rfl) ⟨rfl, by first | (exfalso; omega) | (rw [k12_84]; first | done | rfl), rfl⟩
  by_cases k12_88 : b = 88
  ·
    clear k12_64 k12_65 k12_66 k12_67 k12_68 k12_71 k12_72 k12_74 k12_75 k12_76 k12_77 k12_80 k12_83 k12_84
    refine pw_tableIn (off := 465) (tgt := 477) dX6_doLonger_12 (by omega) (by omega) (by omega) (by rw [k12_88]; rfl) rfl ?_
    refine pw_aload_n dX6_doLonger_477 rfl ?_
    refine pw_get (v := .ref (I 0)) okX6 (k := 0) (by decide) lkX6_13 (rAt_put hA).2.1 rfl dX6_doLonger_478 ?_
    refine pw_iload_n dX6_doLonger_481 rfl ?_
    refine pw_callV (As := [.int (zI (max (1) (q 0)))]) (b := (I 0)) (rm := rmD 3 0 0) (nX7_eraseCells htr hG0 (rAt_put hA).1 hz0 (by omega)) rfl (rAt_put hA).1.1.1 rfl rfl ywX7_eraseCells rfl cwX6_132 ⟨nle rfl, nle rfl⟩ (nle rfl) ⟨nle rfl, nle rfl⟩ dX6_doLonger_482 ?_ (fun _ _ _ z => z.elim)
    intro r2 h2 n2 hq _
    rw [hq.1, hq.2.1, hq.2.2]
    show pw E YX6_doLonger _ _ 0 0 485 [some (.ref (J 0)), some (.int (zI (b))), some (.int (zI (max (1) (q 0))))] [] (zP w H N NH I (zEraCells w H (max (1) (q 0)) s) (rP w H N NH I J s R q h)) n
    refine pw_h (zP_rP hA) ?_
    refine pw_goto (tgt := 552) dX6_doLonger_485 rfl ?_
    exact pw_vret dX6_doLonger_552 rfl (nle rfl) (nle rfl) ⟨rfl, by first | (exfalso; omega) | (rw [k12_88]; first | done | rfl), rfl⟩
  by_cases k12_100 : b = 100
  ·
    clear k12_64 k12_65 k12_66 k12_67 k12_68 k12_71 k12_72 k12_74 k12_75 k12_76 k12_77 k12_80 k12_83 k12_84 k12_88
    refine pw_tableIn (off := 344) (tgt := 356) dX6_doLonger_12 (by omega) (by omega) (by omega) (by rw [k12_100]; rfl) rfl ?_
    refine pw_aload_n dX6_doLonger_356 rfl ?_
    refine pw_get (v := .ref (I 0)) okX6 (k := 0) (by decide) lkX6_13 (rAt_put hA).2.1 rfl dX6_doLonger_357 ?_
    refine pw_aload_n dX6_doLonger_360 rfl ?_
    refine pw_get (v := .ref (I 0)) okX6 (k := 0) (by decide) lkX6_13 (rAt_put hA).2.1 rfl dX6_doLonger_361 ?_
    refine pw_getN (v := .int (zI (s.1 5))) okX7 (k := 5) (by decide) lkX6_21 (rAt_put hA).1.1.1 rfl dX6_doLonger_364 ?_
    refine pw_iload_n dX6_doLonger_367 rfl ?_
    refine pw_iconst (v := zI (1)) dX6_doLonger_368 (by decide) ?_
    refine pw_zisub dX6_doLonger_369 ?_
    refine pw_callV (As := [.int (zI (s.1 5)), .int (zI ((max (1) (q 0)) - (1)))]) (b := (I 0)) (rm := rmD 2 0 0) (nX7_moveTo htr hG0 (rAt_put hA).1 hz0 (by omega) (by omega)) rfl (rAt_put hA).1.1.1 rfl rfl ywX7_moveTo rfl cwX6_29 ⟨nle rfl, nle rfl⟩ (nle rfl) ⟨nle rfl, nle rfl⟩ dX6_doLonger_370 ?_ (fun _ _ _ z => z.elim)
    intro r2 h2 n2 hq _
    rw [hq.1, hq.2.1, hq.2.2]
    show pw E YX6_doLonger _ _ 0 0 373 [some (.ref (J 0)), some (.int (zI (b))), some (.int (zI (max (1) (q 0))))] [] (zP w H N NH I (zMove (s.1 5) ((max (1) (q 0)) - (1)) s) (rP w H N NH I J s R q h)) n
    refine pw_h (zP_rP hA) ?_
    refine pw_goto (tgt := 552) dX6_doLonger_373 rfl ?_
    exact pw_vret dX6_doLonger_552 rfl (nle rfl) (nle rfl) ⟨rfl, by first | (exfalso; omega) | (rw [k12_100]; first | done | rfl), rfl⟩
  by_cases k12_102 : b = 102
  ·
    clear k12_64 k12_65 k12_66 k12_67 k12_68 k12_71 k12_72 k12_74 k12_75 k12_76 k12_77 k12_80 k12_83 k12_84 k12_88 k12_100
    refine pw_tableIn (off := 364) (tgt := 376) dX6_doLonger_12 (by omega) (by omega) (by omega) (by rw [k12_102]; rfl) rfl ?_
    refine pw_aload_n dX6_doLonger_376 rfl ?_
    refine pw_get (v := .ref (I 0)) okX6 (k := 0) (by decide) lkX6_13 (rAt_put hA).2.1 rfl dX6_doLonger_377 ?_
    refine pw_iconst (v := zI (1)) dX6_doLonger_380 (by decide) ?_
    refine pw_aload_n dX6_doLonger_381 rfl ?_
    refine pw_get (v := .ref (J 1)) okX6 (k := 1) (by decide) lkX6_9 (rAt_put hA).2.1 rfl dX6_doLonger_382 ?_
    refine pw_iconst (v := zI (1)) dX6_doLonger_385 (by decide) ?_
    refine pw_ialdv (v := q 1) (t := 0) rfl (rAt_put hA).2.2.1 (by omega) (by omega) rfl dX6_doLonger_386 ?_
    refine pw_max cwX6_111 dX6_doLonger_387 (by omega) (by omega) ⟨nle rfl, nle rfl⟩ ⟨nle rfl, nle rfl⟩ ?_
    refine pw_iconst (v := zI (1)) dX6_doLonger_390 (by decide) ?_
    refine pw_zisub dX6_doLonger_391 ?_
    refine pw_iload_n dX6_doLonger_392 rfl ?_
    refine pw_iconst (v := zI (1)) dX6_doLonger_393 (by decide) ?_
    refine pw_zisub dX6_doLonger_394 ?_
    refine pw_callV (As := [.int (zI ((max (1) (q 1)) - (1))), .int (zI ((max (1) (q 0)) - (1)))]) (b := (I 0)) (rm := rmD 2 0 0) (nX7_moveTo htr hG0 (rAt_put hA).1 hz0 (by omega) (by omega)) rfl (rAt_put hA).1.1.1 rfl rfl ywX7_moveTo rfl cwX6_29 ⟨nle rfl, nle rfl⟩ (nle rfl) ⟨nle rfl, nle rfl⟩ dX6_doLonger_395 ?_ (fun _ _ _ z => z.elim)
    intro r2 h2 n2 hq _
    rw [hq.1, hq.2.1, hq.2.2]
    show pw E YX6_doLonger _ _ 0 0 398 [some (.ref (J 0)), some (.int (zI (b))), some (.int (zI (max (1) (q 0))))] [] (zP w H N NH I (zMove ((max (1) (q 1)) - (1)) ((max (1) (q 0)) - (1)) s) (rP w H N NH I J s R q h)) n
    refine pw_h (zP_rP hA) ?_
    refine pw_goto (tgt := 552) dX6_doLonger_398 rfl ?_
    exact pw_vret dX6_doLonger_552 rfl (nle rfl) (nle rfl) ⟨rfl, by first | (exfalso; omega) | (rw [k12_102]; first | done | rfl), rfl⟩
  by_cases k12_104 : b = 104
  ·
    clear k12_64 k12_65 k12_66 k12_67 k12_68 k12_71 k12_72 k12_74 k12_75 k12_76 k12_77 k12_80 k12_83 k12_84 k12_88 k12_100 k12_102
    refine pw_tableIn (off := 522) (tgt := 534) dX6_doLonger_12 (by omega) (by omega) (by omega) (by rw [k12_104]; rfl) rfl ?_
    refine pw_aload_n dX6_doLonger_534 rfl ?_
    refine pw_iload_n dX6_doLonger_535 rfl ?_
    refine pw_bipush (v := zI (104)) dX6_doLonger_536 (by decide) ?_
    refine pw_icmp_ne (tgt := 545) dX6_doLonger_538 rfl (by omega) (by omega) (fun c538 => ?_) (fun c538 => ?_)
    ·
      refine pw_iconst (v := zI (0)) dX6_doLonger_545 (by decide) ?_
      refine pw_callV (As := [.int (zI (0))]) (b := (J 0)) (rm := rmD 0 0 0) (mX6_setInsertMode htr hG0 (rAt_put hA) hO0 (by omega)) rfl (rAt_put hA).2.1 rfl rfl ywX6_setInsertMode rfl cwX6_147 ⟨nle rfl, nle rfl⟩ (nle rfl) ⟨nle rfl, nle rfl⟩ dX6_doLonger_546 ?_ (fun _ _ _ z => z.elim)
      intro r2 h2 n2 hq _
      rw [hq.1, hq.2.1, hq.2.2]
      show pw E YX6_doLonger _ _ 0 0 549 [some (.ref (J 0)), some (.int (zI (b))), some (.int (zI (max (1) (q 0))))] [] (rP w H N NH I J (if q 0 = 4 then zSet 14 (0) s else s) R q (rP w H N NH I J s R q h)) n
      refine pw_h (rP_put hA) ?_
      refine pw_goto (tgt := 552) dX6_doLonger_549 rfl ?_
      exact pw_vret dX6_doLonger_552 rfl (nle rfl) (nle rfl) ⟨rfl, by first | (exfalso; omega) | (rw [k12_104]; first | done | rfl), rfl⟩
    ·
      refine pw_iconst (v := zI (1)) dX6_doLonger_541 (by decide) ?_
      refine pw_goto (tgt := 546) dX6_doLonger_542 rfl ?_
      refine pw_callV (As := [.int (zI (1))]) (b := (J 0)) (rm := rmD 0 0 0) (mX6_setInsertMode htr hG0 (rAt_put hA) hO0 (by omega)) rfl (rAt_put hA).2.1 rfl rfl ywX6_setInsertMode rfl cwX6_147 ⟨nle rfl, nle rfl⟩ (nle rfl) ⟨nle rfl, nle rfl⟩ dX6_doLonger_546 ?_ (fun _ _ _ z => z.elim)
      intro r2 h2 n2 hq _
      rw [hq.1, hq.2.1, hq.2.2]
      show pw E YX6_doLonger _ _ 0 0 549 [some (.ref (J 0)), some (.int (zI (b))), some (.int (zI (max (1) (q 0))))] [] (rP w H N NH I J (if q 0 = 4 then zSet 14 (1) s else s) R q (rP w H N NH I J s R q h)) n
      refine pw_h (rP_put hA) ?_
      refine pw_goto (tgt := 552) dX6_doLonger_549 rfl ?_
      exact pw_vret dX6_doLonger_552 rfl (nle rfl) (nle rfl) ⟨rfl, by first | (exfalso; omega) | (rw [k12_104]; first | done | rfl), rfl⟩
  by_cases k12_108 : b = 108
  ·
    clear k12_64 k12_65 k12_66 k12_67 k12_68 k12_71 k12_72 k12_74 k12_75 k12_76 k12_77 k12_80 k12_83 k12_84 k12_88 k12_100 k12_102 k12_104
    refine pw_tableIn (off := 522) (tgt := 534) dX6_doLonger_12 (by omega) (by omega) (by omega) (by rw [k12_108]; rfl) rfl ?_
    refine pw_aload_n dX6_doLonger_534 rfl ?_
    refine pw_iload_n dX6_doLonger_535 rfl ?_
    refine pw_bipush (v := zI (104)) dX6_doLonger_536 (by decide) ?_
    refine pw_icmp_ne (tgt := 545) dX6_doLonger_538 rfl (by omega) (by omega) (fun c538 => ?_) (fun c538 => ?_)
    ·
      refine pw_iconst (v := zI (0)) dX6_doLonger_545 (by decide) ?_
      refine pw_callV (As := [.int (zI (0))]) (b := (J 0)) (rm := rmD 0 0 0) (mX6_setInsertMode htr hG0 (rAt_put hA) hO0 (by omega)) rfl (rAt_put hA).2.1 rfl rfl ywX6_setInsertMode rfl cwX6_147 ⟨nle rfl, nle rfl⟩ (nle rfl) ⟨nle rfl, nle rfl⟩ dX6_doLonger_546 ?_ (fun _ _ _ z => z.elim)
      intro r2 h2 n2 hq _
      rw [hq.1, hq.2.1, hq.2.2]
      show pw E YX6_doLonger _ _ 0 0 549 [some (.ref (J 0)), some (.int (zI (b))), some (.int (zI (max (1) (q 0))))] [] (rP w H N NH I J (if q 0 = 4 then zSet 14 (0) s else s) R q (rP w H N NH I J s R q h)) n
      refine pw_h (rP_put hA) ?_
      refine pw_goto (tgt := 552) dX6_doLonger_549 rfl ?_
      exact pw_vret dX6_doLonger_552 rfl (nle rfl) (nle rfl) ⟨rfl, by first | (exfalso; omega) | (rw [k12_108]; first | done | rfl), rfl⟩
    ·
      refine pw_iconst (v := zI (1)) dX6_doLonger_541 (by decide) ?_
      refine pw_goto (tgt := 546) dX6_doLonger_542 rfl ?_
      refine pw_callV (As := [.int (zI (1))]) (b := (J 0)) (rm := rmD 0 0 0) (mX6_setInsertMode htr hG0 (rAt_put hA) hO0 (by omega)) rfl (rAt_put hA).2.1 rfl rfl ywX6_setInsertMode rfl cwX6_147 ⟨nle rfl, nle rfl⟩ (nle rfl) ⟨nle rfl, nle rfl⟩ dX6_doLonger_546 ?_ (fun _ _ _ z => z.elim)
      intro r2 h2 n2 hq _
      rw [hq.1, hq.2.1, hq.2.2]
      show pw E YX6_doLonger _ _ 0 0 549 [some (.ref (J 0)), some (.int (zI (b))), some (.int (zI (max (1) (q 0))))] [] (rP w H N NH I J (if q 0 = 4 then zSet 14 (1) s else s) R q (rP w H N NH I J s R q h)) n
      refine pw_h (rP_put hA) ?_
      refine pw_goto (tgt := 552) dX6_doLonger_549 rfl ?_
      exact pw_vret dX6_doLonger_552 rfl (nle rfl) (nle rfl) ⟨rfl, by first | (exfalso; omega) | (rw [k12_108]; first | done | rfl), rfl⟩
  by_cases k12_109 : b = 109
  ·
    clear k12_64 k12_65 k12_66 k12_67 k12_68 k12_71 k12_72 k12_74 k12_75 k12_76 k12_77 k12_80 k12_83 k12_84 k12_88 k12_100 k12_102 k12_104 k12_108
    refine pw_tableIn (off := 515) (tgt := 527) dX6_doLonger_12 (by omega) (by omega) (by omega) (by rw [k12_109]; rfl) rfl ?_
    refine pw_aload_n dX6_doLonger_527 rfl ?_
    refine pw_callV (As := []) (b := (J 0)) (rm := rmD 2 0 0) (mX6_setPen htr hG0 (rAt_put hA) hO0) rfl (rAt_put hA).2.1 rfl rfl ywX6_setPen rfl cwX6_144 ⟨nle rfl, nle rfl⟩ (nle rfl) ⟨nle rfl, nle rfl⟩ dX6_doLonger_528 ?_ (fun _ _ _ z => z.elim)
    intro r2 h2 n2 hq _
    rw [hq.1, hq.2.1, hq.2.2]
    show pw E YX6_doLonger _ _ 0 0 531 [some (.ref (J 0)), some (.int (zI (b))), some (.int (zI (max (1) (q 0))))] [] (rP w H N NH I J (zPens R q s) R q (rP w H N NH I J s R q h)) n
    refine pw_h (rP_put hA) ?_
    refine pw_goto (tgt := 552) dX6_doLonger_531 rfl ?_
    exact pw_vret dX6_doLonger_552 rfl (nle rfl) (nle rfl) ⟨rfl, by first | (exfalso; omega) | (rw [k12_109]; first | done | rfl), rfl⟩
  by_cases k12_114 : b = 114
  ·
    clear k12_64 k12_65 k12_66 k12_67 k12_68 k12_71 k12_72 k12_74 k12_75 k12_76 k12_77 k12_80 k12_83 k12_84 k12_88 k12_100 k12_102 k12_104 k12_108 k12_109
    refine pw_tableIn (off := 498) (tgt := 510) dX6_doLonger_12 (by omega) (by omega) (by omega) (by rw [k12_114]; rfl) rfl ?_
    refine pw_aload_n dX6_doLonger_510 rfl ?_
    refine pw_get (v := .ref (I 0)) okX6 (k := 0) (by decide) lkX6_13 (rAt_put hA).2.1 rfl dX6_doLonger_511 ?_
    refine pw_iload_n dX6_doLonger_514 rfl ?_
    refine pw_aload_n dX6_doLonger_515 rfl ?_
    refine pw_get (v := .ref (J 1)) okX6 (k := 1) (by decide) lkX6_9 (rAt_put hA).2.1 rfl dX6_doLonger_516 ?_
    refine pw_iconst (v := zI (1)) dX6_doLonger_519 (by decide) ?_
    refine pw_ialdv (v := q 1) (t := 0) rfl (rAt_put hA).2.2.1 (by omega) (by omega) rfl dX6_doLonger_520 ?_
    refine pw_callV (As := [.int (zI (max (1) (q 0))), .int (zI (q 1))]) (b := (I 0)) (rm := rmD 3 0 0) (nX7_setRegion htr hG0 (rAt_put hA).1 hz0 (by omega) (by omega)) rfl (rAt_put hA).1.1.1 rfl rfl ywX7_setRegion rfl cwX6_141 ⟨nle rfl, nle rfl⟩ (nle rfl) ⟨nle rfl, nle rfl⟩ dX6_doLonger_521 ?_ (fun _ _ _ z => z.elim)
    intro r2 h2 n2 hq _
    rw [hq.1, hq.2.1, hq.2.2]
    show pw E YX6_doLonger _ _ 0 0 524 [some (.ref (J 0)), some (.int (zI (b))), some (.int (zI (max (1) (q 0))))] [] (zP w H N NH I (zRegion (max (1) (q 0)) (q 1) s) (rP w H N NH I J s R q h)) n
    refine pw_h (zP_rP hA) ?_
    refine pw_goto (tgt := 552) dX6_doLonger_524 rfl ?_
    exact pw_vret dX6_doLonger_552 rfl (nle rfl) (nle rfl) ⟨rfl, by first | (exfalso; omega) | (rw [k12_114]; first | done | rfl), rfl⟩
  by_cases kd : 114 < b
  ·
    refine pw_tableOut (tgt := 552) dX6_doLonger_12 (by omega) (by omega) rfl ?_
    exact pw_vret dX6_doLonger_552 rfl (nle rfl) (nle rfl) ⟨rfl, by unfold zDo; rw [if_neg k12_64, if_neg k12_65, if_neg k12_66, if_neg k12_67, if_neg k12_68, if_neg k12_71, if_neg (by omega), if_neg k12_74, if_neg k12_75, if_neg k12_76, if_neg k12_77, if_neg k12_80, if_neg k12_83, if_neg k12_84, if_neg k12_88, if_neg k12_100, if_neg k12_104, if_neg k12_108, if_neg k12_109, if_neg k12_114], rfl⟩
  refine pw_tableIn (off := 540) (tgt := 552) dX6_doLonger_12 (by omega) (by omega) (by omega) (by rcases (show b = 69 ∨ b = 70 ∨ b = 73 ∨ b = 78 ∨ b = 79 ∨ b = 81 ∨ b = 82 ∨ b = 85 ∨ b = 86 ∨ b = 87 ∨ b = 89 ∨ b = 90 ∨ b = 91 ∨ b = 92 ∨ b = 93 ∨ b = 94 ∨ b = 95 ∨ b = 96 ∨ b = 97 ∨ b = 98 ∨ b = 99 ∨ b = 101 ∨ b = 103 ∨ b = 105 ∨ b = 106 ∨ b = 107 ∨ b = 110 ∨ b = 111 ∨ b = 112 ∨ b = 113 by omega) with e | e | e | e | e | e | e | e | e | e | e | e | e | e | e | e | e | e | e | e | e | e | e | e | e | e | e | e | e | e <;> (rw [e]; rfl)) rfl ?_
  exact pw_vret dX6_doLonger_552 rfl (nle rfl) (nle rfl) ⟨rfl, by unfold zDo; rw [if_neg k12_64, if_neg k12_65, if_neg k12_66, if_neg k12_67, if_neg k12_68, if_neg k12_71, if_neg (by omega), if_neg k12_74, if_neg k12_75, if_neg k12_76, if_neg k12_77, if_neg k12_80, if_neg k12_83, if_neg k12_84, if_neg k12_88, if_neg k12_100, if_neg k12_104, if_neg k12_108, if_neg k12_109, if_neg k12_114], rfl⟩
set_option maxHeartbeats 4000000 in
set_option maxRecDepth 100000 in
/-- Reader.endWait(b) -/
theorem mX6_endWait {E : pw_E} (htr : E.1.stackTraces = false) {h : pz_H} {n : Nat} {w H : Int} {N NH : Nat} {I J : Nat → Nat} {s : zSt} {R q : Nat → Int} (hG : geo w H N NH) (hA : rAt w H N NH I J s R q h) (hO : rOk w H s R q) {b : Int} (hb : 64 ≤ b ∧ b ≤ 126) : pw_M E yX6_endWait YX6_endWait (rmD 0 0 0) [.ref (J 0), .int (zI (b))] h n (fun r h' n' => r = none ∧ h' = rP w H N NH I J (zEnd b s) R q h ∧ n' = n) (fun _ _ _ => False) := by
  have hG0 := hG
  have hO0 := hO
  obtain ⟨gw, gH, gN, gN2, gNH⟩ := hG
  obtain ⟨hz, r2, r3, r4, r5, hq⟩ := hO
  have hz0 := hz
  obtain ⟨o3, o4, o5, o6, o7, o8, o9, o10, o11, o12, o14, o15, o16, o17, oT3, oT4⟩ := hz
  have q0 := hq 0
  have q1 := hq 1
  refine pw_M_of (lv := [some (.ref (J 0)), some (.int (zI (b)))]) (by decide) rfl rfl htr (nle rfl) rfl (fun L => ?_)
  refine pw_h (rP_id hA).symm ?_
  refine pw_iload_n dX6_endWait_0 rfl ?_
  by_cases k1_64 : b = 64
  ·
    refine pw_tableIn (off := 219) (tgt := 220) dX6_endWait_1 (by omega) (by omega) (by omega) (by rw [k1_64]; rfl) rfl ?_
    refine pw_aload_n dX6_endWait_220 rfl ?_
    refine pw_get (v := .ref (I 0)) okX6 (k := 0) (by decide) lkX6_13 (rAt_put hA).2.1 rfl dX6_endWait_221 ?_
    refine pw_iconst (v := zI (0)) dX6_endWait_224 (by decide) ?_
    refine pw_putN (fs' := (scObj I (va_up s.1 7 (0)))) okX7 (k := 7) (by decide) lkX6_98 rfl (by decide) (by decide) (rAt_put hA).1.1.1 (nlt rfl) rfl dX6_endWait_225 ?_
    refine pw_h (h' := rP w H N NH I J (zSet 7 (0) s) R q h) (rUF hA) ?_
    refine pw_goto (tgt := 231) dX6_endWait_228 rfl ?_
    exact pw_vret dX6_endWait_231 rfl (nle rfl) (nle rfl) ⟨rfl, by unfold zEnd; first | (exfalso; omega) | (repeat (first | rw [if_pos (by omega)] | rw [if_neg (by omega)])), rfl⟩
  by_cases k1_65 : b = 65
  ·
    clear k1_64
    refine pw_tableIn (off := 219) (tgt := 220) dX6_endWait_1 (by omega) (by omega) (by omega) (by rw [k1_65]; rfl) rfl ?_
    refine pw_aload_n dX6_endWait_220 rfl ?_
    refine pw_get (v := .ref (I 0)) okX6 (k := 0) (by decide) lkX6_13 (rAt_put hA).2.1 rfl dX6_endWait_221 ?_
    refine pw_iconst (v := zI (0)) dX6_endWait_224 (by decide) ?_
    refine pw_putN (fs' := (scObj I (va_up s.1 7 (0)))) okX7 (k := 7) (by decide) lkX6_98 rfl (by decide) (by decide) (rAt_put hA).1.1.1 (nlt rfl) rfl dX6_endWait_225 ?_
    refine pw_h (h' := rP w H N NH I J (zSet 7 (0) s) R q h) (rUF hA) ?_
    refine pw_goto (tgt := 231) dX6_endWait_228 rfl ?_
    exact pw_vret dX6_endWait_231 rfl (nle rfl) (nle rfl) ⟨rfl, by unfold zEnd; first | (exfalso; omega) | (repeat (first | rw [if_pos (by omega)] | rw [if_neg (by omega)])), rfl⟩
  by_cases k1_66 : b = 66
  ·
    clear k1_64 k1_65
    refine pw_tableIn (off := 219) (tgt := 220) dX6_endWait_1 (by omega) (by omega) (by omega) (by rw [k1_66]; rfl) rfl ?_
    refine pw_aload_n dX6_endWait_220 rfl ?_
    refine pw_get (v := .ref (I 0)) okX6 (k := 0) (by decide) lkX6_13 (rAt_put hA).2.1 rfl dX6_endWait_221 ?_
    refine pw_iconst (v := zI (0)) dX6_endWait_224 (by decide) ?_
    refine pw_putN (fs' := (scObj I (va_up s.1 7 (0)))) okX7 (k := 7) (by decide) lkX6_98 rfl (by decide) (by decide) (rAt_put hA).1.1.1 (nlt rfl) rfl dX6_endWait_225 ?_
    refine pw_h (h' := rP w H N NH I J (zSet 7 (0) s) R q h) (rUF hA) ?_
    refine pw_goto (tgt := 231) dX6_endWait_228 rfl ?_
    exact pw_vret dX6_endWait_231 rfl (nle rfl) (nle rfl) ⟨rfl, by unfold zEnd; first | (exfalso; omega) | (repeat (first | rw [if_pos (by omega)] | rw [if_neg (by omega)])), rfl⟩
  by_cases k1_67 : b = 67
  ·
    clear k1_64 k1_65 k1_66
    refine pw_tableIn (off := 219) (tgt := 220) dX6_endWait_1 (by omega) (by omega) (by omega) (by rw [k1_67]; rfl) rfl ?_
    refine pw_aload_n dX6_endWait_220 rfl ?_
    refine pw_get (v := .ref (I 0)) okX6 (k := 0) (by decide) lkX6_13 (rAt_put hA).2.1 rfl dX6_endWait_221 ?_
    refine pw_iconst (v := zI (0)) dX6_endWait_224 (by decide) ?_
    refine pw_putN (fs' := (scObj I (va_up s.1 7 (0)))) okX7 (k := 7) (by decide) lkX6_98 rfl (by decide) (by decide) (rAt_put hA).1.1.1 (nlt rfl) rfl dX6_endWait_225 ?_
    refine pw_h (h' := rP w H N NH I J (zSet 7 (0) s) R q h) (rUF hA) ?_
    refine pw_goto (tgt := 231) dX6_endWait_228 rfl ?_
    exact pw_vret dX6_endWait_231 rfl (nle rfl) (nle rfl) ⟨rfl, by unfold zEnd; first | (exfalso; omega) | (repeat (first | rw [if_pos (by omega)] | rw [if_neg (by omega)])), rfl⟩
  by_cases k1_68 : b = 68
  ·
    clear k1_64 k1_65 k1_66 k1_67
    refine pw_tableIn (off := 219) (tgt := 220) dX6_endWait_1 (by omega) (by omega) (by omega) (by rw [k1_68]; rfl) rfl ?_
    refine pw_aload_n dX6_endWait_220 rfl ?_
    refine pw_get (v := .ref (I 0)) okX6 (k := 0) (by decide) lkX6_13 (rAt_put hA).2.1 rfl dX6_endWait_221 ?_
    refine pw_iconst (v := zI (0)) dX6_endWait_224 (by decide) ?_
    refine pw_putN (fs' := (scObj I (va_up s.1 7 (0)))) okX7 (k := 7) (by decide) lkX6_98 rfl (by decide) (by decide) (rAt_put hA).1.1.1 (nlt rfl) rfl dX6_endWait_225 ?_
    refine pw_h (h' := rP w H N NH I J (zSet 7 (0) s) R q h) (rUF hA) ?_
    refine pw_goto (tgt := 231) dX6_endWait_228 rfl ?_
    exact pw_vret dX6_endWait_231 rfl (nle rfl) (nle rfl) ⟨rfl, by unfold zEnd; first | (exfalso; omega) | (repeat (first | rw [if_pos (by omega)] | rw [if_neg (by omega)])), rfl⟩
  by_cases k1_71 : b = 71
  ·
    clear k1_64 k1_65 k1_66 k1_67 k1_68
    refine pw_tableIn (off := 219) (tgt := 220) dX6_endWait_1 (by omega) (by omega) (by omega) (by rw [k1_71]; rfl) rfl ?_
    refine pw_aload_n dX6_endWait_220 rfl ?_
    refine pw_get (v := .ref (I 0)) okX6 (k := 0) (by decide) lkX6_13 (rAt_put hA).2.1 rfl dX6_endWait_221 ?_
    refine pw_iconst (v := zI (0)) dX6_endWait_224 (by decide) ?_
    refine pw_putN (fs' := (scObj I (va_up s.1 7 (0)))) okX7 (k := 7) (by decide) lkX6_98 rfl (by decide) (by decide) (rAt_put hA).1.1.1 (nlt rfl) rfl dX6_endWait_225 ?_
    refine pw_h (h' := rP w H N NH I J (zSet 7 (0) s) R q h) (rUF hA) ?_
    refine pw_goto (tgt := 231) dX6_endWait_228 rfl ?_
    exact pw_vret dX6_endWait_231 rfl (nle rfl) (nle rfl) ⟨rfl, by unfold zEnd; first | (exfalso; omega) | (repeat (first | rw [if_pos (by omega)] | rw [if_neg (by omega)])), rfl⟩
  by_cases k1_72 : b = 72
  ·
    clear k1_64 k1_65 k1_66 k1_67 k1_68 k1_71
    refine pw_tableIn (off := 219) (tgt := 220) dX6_endWait_1 (by omega) (by omega) (by omega) (by rw [k1_72]; rfl) rfl ?_
    refine pw_aload_n dX6_endWait_220 rfl ?_
    refine pw_get (v := .ref (I 0)) okX6 (k := 0) (by decide) lkX6_13 (rAt_put hA).2.1 rfl dX6_endWait_221 ?_
    refine pw_iconst (v := zI (0)) dX6_endWait_224 (by decide) ?_
    refine pw_putN (fs' := (scObj I (va_up s.1 7 (0)))) okX7 (k := 7) (by decide) lkX6_98 rfl (by decide) (by decide) (rAt_put hA).1.1.1 (nlt rfl) rfl dX6_endWait_225 ?_
    refine pw_h (h' := rP w H N NH I J (zSet 7 (0) s) R q h) (rUF hA) ?_
    refine pw_goto (tgt := 231) dX6_endWait_228 rfl ?_
    exact pw_vret dX6_endWait_231 rfl (nle rfl) (nle rfl) ⟨rfl, by unfold zEnd; first | (exfalso; omega) | (repeat (first | rw [if_pos (by omega)] | rw [if_neg (by omega)])), rfl⟩
  by_cases k1_74 : b = 74
  ·
    clear k1_64 k1_65 k1_66 k1_67 k1_68 k1_71 k1_72
    refine pw_tableIn (off := 219) (tgt := 220) dX6_endWait_1 (by omega) (by omega) (by omega) (by rw [k1_74]; rfl) rfl ?_
    refine pw_aload_n dX6_endWait_220 rfl ?_
    refine pw_get (v := .ref (I 0)) okX6 (k := 0) (by decide) lkX6_13 (rAt_put hA).2.1 rfl dX6_endWait_221 ?_
    refine pw_iconst (v := zI (0)) dX6_endWait_224 (by decide) ?_
    refine pw_putN (fs' := (scObj I (va_up s.1 7 (0)))) okX7 (k := 7) (by decide) lkX6_98 rfl (by decide) (by decide) (rAt_put hA).1.1.1 (nlt rfl) rfl dX6_endWait_225 ?_
    refine pw_h (h' := rP w H N NH I J (zSet 7 (0) s) R q h) (rUF hA) ?_
    refine pw_goto (tgt := 231) dX6_endWait_228 rfl ?_
    exact pw_vret dX6_endWait_231 rfl (nle rfl) (nle rfl) ⟨rfl, by unfold zEnd; first | (exfalso; omega) | (repeat (first | rw [if_pos (by omega)] | rw [if_neg (by omega)])), rfl⟩
  by_cases k1_75 : b = 75
  ·
    clear k1_64 k1_65 k1_66 k1_67 k1_68 k1_71 k1_72 k1_74
    refine pw_tableIn (off := 219) (tgt := 220) dX6_endWait_1 (by omega) (by omega) (by omega) (by rw [k1_75]; rfl) rfl ?_
    refine pw_aload_n dX6_endWait_220 rfl ?_
    refine pw_get (v := .ref (I 0)) okX6 (k := 0) (by decide) lkX6_13 (rAt_put hA).2.1 rfl dX6_endWait_221 ?_
    refine pw_iconst (v := zI (0)) dX6_endWait_224 (by decide) ?_
    refine pw_putN (fs' := (scObj I (va_up s.1 7 (0)))) okX7 (k := 7) (by decide) lkX6_98 rfl (by decide) (by decide) (rAt_put hA).1.1.1 (nlt rfl) rfl dX6_endWait_225 ?_
    refine pw_h (h' := rP w H N NH I J (zSet 7 (0) s) R q h) (rUF hA) ?_
    refine pw_goto (tgt := 231) dX6_endWait_228 rfl ?_
    exact pw_vret dX6_endWait_231 rfl (nle rfl) (nle rfl) ⟨rfl, by unfold zEnd; first | (exfalso; omega) | (repeat (first | rw [if_pos (by omega)] | rw [if_neg (by omega)])), rfl⟩
  by_cases k1_76 : b = 76
  ·
    clear k1_64 k1_65 k1_66 k1_67 k1_68 k1_71 k1_72 k1_74 k1_75
    refine pw_tableIn (off := 219) (tgt := 220) dX6_endWait_1 (by omega) (by omega) (by omega) (by rw [k1_76]; rfl) rfl ?_
    refine pw_aload_n dX6_endWait_220 rfl ?_
    refine pw_get (v := .ref (I 0)) okX6 (k := 0) (by decide) lkX6_13 (rAt_put hA).2.1 rfl dX6_endWait_221 ?_
    refine pw_iconst (v := zI (0)) dX6_endWait_224 (by decide) ?_
    refine pw_putN (fs' := (scObj I (va_up s.1 7 (0)))) okX7 (k := 7) (by decide) lkX6_98 rfl (by decide) (by decide) (rAt_put hA).1.1.1 (nlt rfl) rfl dX6_endWait_225 ?_
    refine pw_h (h' := rP w H N NH I J (zSet 7 (0) s) R q h) (rUF hA) ?_
    refine pw_goto (tgt := 231) dX6_endWait_228 rfl ?_
    exact pw_vret dX6_endWait_231 rfl (nle rfl) (nle rfl) ⟨rfl, by unfold zEnd; first | (exfalso; omega) | (repeat (first | rw [if_pos (by omega)] | rw [if_neg (by omega)])), rfl⟩
  by_cases k1_77 : b = 77
  ·
    clear k1_64 k1_65 k1_66 k1_67 k1_68 k1_71 k1_72 k1_74 k1_75 k1_76
    refine pw_tableIn (off := 219) (tgt := 220) dX6_endWait_1 (by omega) (by omega) (by omega) (by rw [k1_77]; rfl) rfl ?_
    refine pw_aload_n dX6_endWait_220 rfl ?_
    refine pw_get (v := .ref (I 0)) okX6 (k := 0) (by decide) lkX6_13 (rAt_put hA).2.1 rfl dX6_endWait_221 ?_
    refine pw_iconst (v := zI (0)) dX6_endWait_224 (by decide) ?_
    refine pw_putN (fs' := (scObj I (va_up s.1 7 (0)))) okX7 (k := 7) (by decide) lkX6_98 rfl (by decide) (by decide) (rAt_put hA).1.1.1 (nlt rfl) rfl dX6_endWait_225 ?_
    refine pw_h (h' := rP w H N NH I J (zSet 7 (0) s) R q h) (rUF hA) ?_
    refine pw_goto (tgt := 231) dX6_endWait_228 rfl ?_
    exact pw_vret dX6_endWait_231 rfl (nle rfl) (nle rfl) ⟨rfl, by unfold zEnd; first | (exfalso; omega) | (repeat (first | rw [if_pos (by omega)] | rw [if_neg (by omega)])), rfl⟩
  by_cases k1_80 : b = 80
  ·
    clear k1_64 k1_65 k1_66 k1_67 k1_68 k1_71 k1_72 k1_74 k1_75 k1_76 k1_77
    refine pw_tableIn (off := 219) (tgt := 220) dX6_endWait_1 (by omega) (by omega) (by omega) (by rw [k1_80]; rfl) rfl ?_
    refine pw_aload_n dX6_endWait_220 rfl ?_
    refine pw_get (v := .ref (I 0)) okX6 (k := 0) (by decide) lkX6_13 (rAt_put hA).2.1 rfl dX6_endWait_221 ?_
    refine pw_iconst (v := zI (0)) dX6_endWait_224 (by decide) ?_
    refine pw_putN (fs' := (scObj I (va_up s.1 7 (0)))) okX7 (k := 7) (by decide) lkX6_98 rfl (by decide) (by decide) (rAt_put hA).1.1.1 (nlt rfl) rfl dX6_endWait_225 ?_
    refine pw_h (h' := rP w H N NH I J (zSet 7 (0) s) R q h) (rUF hA) ?_
    refine pw_goto (tgt := 231) dX6_endWait_228 rfl ?_
    exact pw_vret dX6_endWait_231 rfl (nle rfl) (nle rfl) ⟨rfl, by unfold zEnd; first | (exfalso; omega) | (repeat (first | rw [if_pos (by omega)] | rw [if_neg (by omega)])), rfl⟩
  by_cases k1_83 : b = 83
  ·
    clear k1_64 k1_65 k1_66 k1_67 k1_68 k1_71 k1_72 k1_74 k1_75 k1_76 k1_77 k1_80
    refine pw_tableIn (off := 219) (tgt := 220) dX6_endWait_1 (by omega) (by omega) (by omega) (by rw [k1_83]; rfl) rfl ?_
    refine pw_aload_n dX6_endWait_220 rfl ?_
    refine pw_get (v := .ref (I 0)) okX6 (k := 0) (by decide) lkX6_13 (rAt_put hA).2.1 rfl dX6_endWait_221 ?_
    refine pw_iconst (v := zI (0)) dX6_endWait_224 (by decide) ?_
    refine pw_putN (fs' := (scObj I (va_up s.1 7 (0)))) okX7 (k := 7) (by decide) lkX6_98 rfl (by decide) (by decide) (rAt_put hA).1.1.1 (nlt rfl) rfl dX6_endWait_225 ?_
    refine pw_h (h' := rP w H N NH I J (zSet 7 (0) s) R q h) (rUF hA) ?_
    refine pw_goto (tgt := 231) dX6_endWait_228 rfl ?_
    exact pw_vret dX6_endWait_231 rfl (nle rfl) (nle rfl) ⟨rfl, by unfold zEnd; first | (exfalso; omega) | (repeat (first | rw [if_pos (by omega)] | rw [if_neg (by omega)])), rfl⟩
  by_cases k1_84 : b = 84
  ·
    clear k1_64 k1_65 k1_66 k1_67 k1_68 k1_71 k1_72 k1_74 k1_75 k1_76 k1_77 k1_80 k1_83
    refine pw_tableIn (off := 219) (tgt := 220) dX6_endWait_1 (by omega) (by omega) (by omega) (by rw [k1_84]; rfl) rfl ?_
    refine pw_aload_n dX6_endWait_220 rfl ?_
    refine pw_get (v := .ref (I 0)) okX6 (k := 0) (by decide) lkX6_13 (rAt_put hA).2.1 rfl dX6_endWait_221 ?_
    refine pw_iconst (v := zI (0)) dX6_endWait_224 (by decide) ?_
    refine pw_putN (fs' := (scObj I (va_up s.1 7 (0)))) okX7 (k := 7) (by decide) lkX6_98 rfl (by decide) (by decide) (rAt_put hA).1.1.1 (nlt rfl) rfl dX6_endWait_225 ?_
    refine pw_h (h' := rP w H N NH I J (zSet 7 (0) s) R q h) (rUF hA) ?_
    refine pw_goto (tgt := 231) dX6_endWait_228 rfl ?_
    exact pw_vret dX6_endWait_231 rfl (nle rfl) (nle rfl) ⟨rfl, by unfold zEnd; first | (exfalso; omega) | (repeat (first | rw [if_pos (by omega)] | rw [if_neg (by omega)])), rfl⟩
  by_cases k1_88 : b = 88
  ·
    clear k1_64 k1_65 k1_66 k1_67 k1_68 k1_71 k1_72 k1_74 k1_75 k1_76 k1_77 k1_80 k1_83 k1_84
    refine pw_tableIn (off := 219) (tgt := 220) dX6_endWait_1 (by omega) (by omega) (by omega) (by rw [k1_88]; rfl) rfl ?_
    refine pw_aload_n dX6_endWait_220 rfl ?_
    refine pw_get (v := .ref (I 0)) okX6 (k := 0) (by decide) lkX6_13 (rAt_put hA).2.1 rfl dX6_endWait_221 ?_
    refine pw_iconst (v := zI (0)) dX6_endWait_224 (by decide) ?_
    refine pw_putN (fs' := (scObj I (va_up s.1 7 (0)))) okX7 (k := 7) (by decide) lkX6_98 rfl (by decide) (by decide) (rAt_put hA).1.1.1 (nlt rfl) rfl dX6_endWait_225 ?_
    refine pw_h (h' := rP w H N NH I J (zSet 7 (0) s) R q h) (rUF hA) ?_
    refine pw_goto (tgt := 231) dX6_endWait_228 rfl ?_
    exact pw_vret dX6_endWait_231 rfl (nle rfl) (nle rfl) ⟨rfl, by unfold zEnd; first | (exfalso; omega) | (repeat (first | rw [if_pos (by omega)] | rw [if_neg (by omega)])), rfl⟩
  by_cases k1_100 : b = 100
  ·
    clear k1_64 k1_65 k1_66 k1_67 k1_68 k1_71 k1_72 k1_74 k1_75 k1_76 k1_77 k1_80 k1_83 k1_84 k1_88
    refine pw_tableIn (off := 219) (tgt := 220) dX6_endWait_1 (by omega) (by omega) (by omega) (by rw [k1_100]; rfl) rfl ?_
    refine pw_aload_n dX6_endWait_220 rfl ?_
    refine pw_get (v := .ref (I 0)) okX6 (k := 0) (by decide) lkX6_13 (rAt_put hA).2.1 rfl dX6_endWait_221 ?_
    refine pw_iconst (v := zI (0)) dX6_endWait_224 (by decide) ?_
    refine pw_putN (fs' := (scObj I (va_up s.1 7 (0)))) okX7 (k := 7) (by decide) lkX6_98 rfl (by decide) (by decide) (rAt_put hA).1.1.1 (nlt rfl) rfl dX6_endWait_225 ?_
    refine pw_h (h' := rP w H N NH I J (zSet 7 (0) s) R q h) (rUF hA) ?_
    refine pw_goto (tgt := 231) dX6_endWait_228 rfl ?_
    exact pw_vret dX6_endWait_231 rfl (nle rfl) (nle rfl) ⟨rfl, by unfold zEnd; first | (exfalso; omega) | (repeat (first | rw [if_pos (by omega)] | rw [if_neg (by omega)])), rfl⟩
  by_cases k1_102 : b = 102
  ·
    clear k1_64 k1_65 k1_66 k1_67 k1_68 k1_71 k1_72 k1_74 k1_75 k1_76 k1_77 k1_80 k1_83 k1_84 k1_88 k1_100
    refine pw_tableIn (off := 219) (tgt := 220) dX6_endWait_1 (by omega) (by omega) (by omega) (by rw [k1_102]; rfl) rfl ?_
    refine pw_aload_n dX6_endWait_220 rfl ?_
    refine pw_get (v := .ref (I 0)) okX6 (k := 0) (by decide) lkX6_13 (rAt_put hA).2.1 rfl dX6_endWait_221 ?_
    refine pw_iconst (v := zI (0)) dX6_endWait_224 (by decide) ?_
    refine pw_putN (fs' := (scObj I (va_up s.1 7 (0)))) okX7 (k := 7) (by decide) lkX6_98 rfl (by decide) (by decide) (rAt_put hA).1.1.1 (nlt rfl) rfl dX6_endWait_225 ?_
    refine pw_h (h' := rP w H N NH I J (zSet 7 (0) s) R q h) (rUF hA) ?_
    refine pw_goto (tgt := 231) dX6_endWait_228 rfl ?_
    exact pw_vret dX6_endWait_231 rfl (nle rfl) (nle rfl) ⟨rfl, by unfold zEnd; first | (exfalso; omega) | (repeat (first | rw [if_pos (by omega)] | rw [if_neg (by omega)])), rfl⟩
  by_cases k1_114 : b = 114
  ·
    clear k1_64 k1_65 k1_66 k1_67 k1_68 k1_71 k1_72 k1_74 k1_75 k1_76 k1_77 k1_80 k1_83 k1_84 k1_88 k1_100 k1_102
    refine pw_tableIn (off := 219) (tgt := 220) dX6_endWait_1 (by omega) (by omega) (by omega) (by rw [k1_114]; rfl) rfl ?_
    refine pw_aload_n dX6_endWait_220 rfl ?_
    refine pw_get (v := .ref (I 0)) okX6 (k := 0) (by decide) lkX6_13 (rAt_put hA).2.1 rfl dX6_endWait_221 ?_
    refine pw_iconst (v := zI (0)) dX6_endWait_224 (by decide) ?_
    refine pw_putN (fs' := (scObj I (va_up s.1 7 (0)))) okX7 (k := 7) (by decide) lkX6_98 rfl (by decide) (by decide) (rAt_put hA).1.1.1 (nlt rfl) rfl dX6_endWait_225 ?_
    refine pw_h (h' := rP w H N NH I J (zSet 7 (0) s) R q h) (rUF hA) ?_
    refine pw_goto (tgt := 231) dX6_endWait_228 rfl ?_
    exact pw_vret dX6_endWait_231 rfl (nle rfl) (nle rfl) ⟨rfl, by unfold zEnd; first | (exfalso; omega) | (repeat (first | rw [if_pos (by omega)] | rw [if_neg (by omega)])), rfl⟩
  by_cases kd : 114 < b
  ·
    refine pw_tableOut (tgt := 231) dX6_endWait_1 (by omega) (by omega) rfl ?_
    exact pw_vret dX6_endWait_231 rfl (nle rfl) (nle rfl) ⟨rfl, by unfold zEnd; first | (exfalso; omega) | (repeat (first | rw [if_pos (by omega)] | rw [if_neg (by omega)])), rfl⟩
  refine pw_tableIn (off := 230) (tgt := 231) dX6_endWait_1 (by omega) (by omega) (by omega) (by rcases (show b = 69 ∨ b = 70 ∨ b = 73 ∨ b = 78 ∨ b = 79 ∨ b = 81 ∨ b = 82 ∨ b = 85 ∨ b = 86 ∨ b = 87 ∨ b = 89 ∨ b = 90 ∨ b = 91 ∨ b = 92 ∨ b = 93 ∨ b = 94 ∨ b = 95 ∨ b = 96 ∨ b = 97 ∨ b = 98 ∨ b = 99 ∨ b = 101 ∨ b = 103 ∨ b = 104 ∨ b = 105 ∨ b = 106 ∨ b = 107 ∨ b = 108 ∨ b = 109 ∨ b = 110 ∨ b = 111 ∨ b = 112 ∨ b = 113 by omega) with e | e | e | e | e | e | e | e | e | e | e | e | e | e | e | e | e | e | e | e | e | e | e | e | e | e | e | e | e | e | e | e | e <;> (rw [e]; rfl)) rfl ?_
  exact pw_vret dX6_endWait_231 rfl (nle rfl) (nle rfl) ⟨rfl, by unfold zEnd; first | (exfalso; omega) | (repeat (first | rw [if_pos (by omega)] | rw [if_neg (by omega)])), rfl⟩
set_option maxHeartbeats 4000000 in
set_option maxRecDepth 100000 in
/-- Reader.beginLonger() -/
theorem mX6_beginLonger {E : pw_E} (htr : E.1.stackTraces = false) {h : pz_H} {n : Nat} {w H : Int} {N NH : Nat} {I J : Nat → Nat} {s : zSt} {R q : Nat → Int} (hG : geo w H N NH) (hA : rAt w H N NH I J s R q h) (hO : rOk w H s R q) : pw_M E yX6_beginLonger YX6_beginLonger (rmD 1 0 0) [.ref (J 0)] h n (fun r h' n' => r = none ∧ h' = rP w H N NH I J s (rBegin R) (zfill q 0 4 0) h ∧ n' = n) (fun _ _ _ => False) := by
  have hG0 := hG
  have hO0 := hO
  obtain ⟨gw, gH, gN, gN2, gNH⟩ := hG
  obtain ⟨hz, r2, r3, r4, r5, hq⟩ := hO
  have hz0 := hz
  obtain ⟨o3, o4, o5, o6, o7, o8, o9, o10, o11, o12, o14, o15, o16, o17, oT3, oT4⟩ := hz
  have q0 := hq 0
  have q1 := hq 1
  refine pw_M_of (lv := [some (.ref (J 0))]) (by decide) rfl rfl htr (nle rfl) rfl (fun L => ?_)
  refine pw_h (rP_id hA).symm ?_
  refine pw_aload_n dX6_beginLonger_0 rfl ?_
  refine pw_iconst (v := zI (2)) dX6_beginLonger_1 (by decide) ?_
  refine pw_put (fs' := (rdObj I J (va_up R 5 (2)))) okX6 (k := 5) (by decide) lkX6_17 rfl rfl rfl (rAt_put hA).2.1 (nlt rfl) rfl dX6_beginLonger_2 ?_
  refine pw_h rU0 ?_
  refine pw_aload_n dX6_beginLonger_5 rfl ?_
  refine pw_get (v := .ref (J 1)) okX6 (k := 1) (by decide) lkX6_9 (rAt_put hA).2.1 rfl dX6_beginLonger_6 ?_
  refine pw_iconst (v := zI (0)) dX6_beginLonger_9 (by decide) ?_
  refine pw_callS (As := [.ref (J 1), .int (zI (0))]) (rm := rmD 0 0 0) (mJ7_fill2 htr (rAt_put hA).2.2.1 (by omega)) rfl ywJ7_fill_53178 rfl cwX6_68 ⟨nle rfl, nle rfl⟩ (nle rfl) ⟨nle rfl, nle rfl⟩ dX6_beginLonger_10 ?_ (fun _ _ _ z => z.elim)
  intro r2 h2 n2 hq _
  rw [hq.1, hq.2.1, hq.2.2]
  show pw E YX6_beginLonger _ _ 0 0 13 [some (.ref (J 0))] [] (va_up (rP w H N NH I J s (va_up R 5 (2)) q h) (J 1) (pz_z 0 4 (zfill q 0 4 0))) n
  refine pw_h (rU1 hA) ?_
  refine pw_aload_n dX6_beginLonger_13 rfl ?_
  refine pw_iconst (v := zI (0)) dX6_beginLonger_14 (by decide) ?_
  refine pw_put (fs' := (rdObj I J (va_up (va_up R 5 (2)) 2 (0)))) okX6 (k := 2) (by decide) lkX6_74 rfl rfl rfl (rAt_put hA).2.1 (nlt rfl) rfl dX6_beginLonger_15 ?_
  refine pw_h rU0 ?_
  refine pw_aload_n dX6_beginLonger_18 rfl ?_
  refine pw_iconst (v := zI (0)) dX6_beginLonger_19 (by decide) ?_
  refine pw_put (fs' := (rdObj I J (va_up (va_up (va_up R 5 (2)) 2 (0)) 3 (0)))) okX6 (k := 3) (by decide) lkX6_77 rfl (by decide) (by decide) (rAt_put hA).2.1 (nlt rfl) rfl dX6_beginLonger_20 ?_
  refine pw_h rU0 ?_
  exact pw_vret dX6_beginLonger_23 rfl (nle rfl) (nle rfl) ⟨rfl, rfl, rfl⟩
set_option maxHeartbeats 4000000 in
set_option maxRecDepth 100000 in
/-- Reader.takeShort(b) -/
theorem mX6_takeShort {E : pw_E} (htr : E.1.stackTraces = false) {h : pz_H} {n : Nat} {w H : Int} {N NH : Nat} {I J : Nat → Nat} {s : zSt} {R q : Nat → Int} (hG : geo w H N NH) (hA : rAt w H N NH I J s R q h) (hO : rOk w H s R q) {b : Int} (hb : 0 ≤ b ∧ b ≤ 255) : pw_M E yX6_takeShort YX6_takeShort (rmD 7 0 0) [.ref (J 0), .int (zI (b))] h n (fun r h' n' => r = none ∧ h' = rPt w H N NH I J (rShort w H NH b (s, R, q)) h ∧ n' = n) (fun _ _ _ => False) := by
  have hG0 := hG
  have hO0 := hO
  obtain ⟨gw, gH, gN, gN2, gNH⟩ := hG
  obtain ⟨hz, r2, r3, r4, r5, hq⟩ := hO
  have hz0 := hz
  obtain ⟨o3, o4, o5, o6, o7, o8, o9, o10, o11, o12, o14, o15, o16, o17, oT3, oT4⟩ := hz
  have q0 := hq 0
  have q1 := hq 1
  refine pw_M_of (lv := [some (.ref (J 0)), some (.int (zI (b)))]) (by decide) rfl rfl htr (nle rfl) rfl (fun L => ?_)
  refine pw_h (rP_id hA).symm ?_
  refine pw_aload_n dX6_takeShort_0 rfl ?_
  refine pw_iconst (v := zI (0)) dX6_takeShort_1 (by decide) ?_
  refine pw_put (fs' := (rdObj I J (va_up R 5 (0)))) okX6 (k := 5) (by decide) lkX6_17 rfl rfl rfl (rAt_put hA).2.1 (nlt rfl) rfl dX6_takeShort_2 ?_
  refine pw_h rU0 ?_
  refine pw_iload_n dX6_takeShort_5 rfl ?_
  by_cases k6_55 : (55 : Int) = b
  ·
    refine pw_lookup (off := 58) (tgt := 64) dX6_takeShort_6 (by decide) (by omega) (by rw [← k6_55]; decide) rfl ?_
    refine pw_aload_n dX6_takeShort_64 rfl ?_
    refine pw_get (v := .ref (I 0)) okX6 (k := 0) (by decide) lkX6_13 (rAt_put hA).2.1 rfl dX6_takeShort_65 ?_
    refine pw_callV (As := []) (b := (I 0)) (rm := rmD 0 0 0) (nX7_savePlace htr hG0 (rAt_put hA).1 hz0) rfl (rAt_put hA).1.1.1 rfl rfl ywX7_savePlace rfl cwX6_53 ⟨nle rfl, nle rfl⟩ (nle rfl) ⟨nle rfl, nle rfl⟩ dX6_takeShort_68 ?_ (fun _ _ _ z => z.elim)
    intro r2 h2 n2 hq _
    rw [hq.1, hq.2.1, hq.2.2]
    show pw E YX6_takeShort _ _ 0 0 71 [some (.ref (J 0)), some (.int (zI (b)))] [] (zP w H N NH I (zSave s) (rP w H N NH I J s (va_up R 5 (0)) q h)) n
    refine pw_h (zP_rP hA) ?_
    refine pw_goto (tgt := 121) dX6_takeShort_71 rfl ?_
    exact pw_vret dX6_takeShort_121 rfl (nle rfl) (nle rfl) ⟨rfl, by unfold rShort; first | (exfalso; omega) | (repeat (first | rw [if_pos (by omega)] | rw [if_neg (by omega)])); first | done | rfl, rfl⟩
  by_cases k6_56 : (56 : Int) = b
  ·
    clear k6_55
    refine pw_lookup (off := 68) (tgt := 74) dX6_takeShort_6 (by decide) (by omega) (by rw [← k6_56]; decide) rfl ?_
    refine pw_aload_n dX6_takeShort_74 rfl ?_
    refine pw_get (v := .ref (I 0)) okX6 (k := 0) (by decide) lkX6_13 (rAt_put hA).2.1 rfl dX6_takeShort_75 ?_
    refine pw_callV (As := []) (b := (I 0)) (rm := rmD 3 0 0) (nX7_takePlace htr hG0 (rAt_put hA).1 hz0) rfl (rAt_put hA).1.1.1 rfl rfl ywX7_takePlace rfl cwX6_56 ⟨nle rfl, nle rfl⟩ (nle rfl) ⟨nle rfl, nle rfl⟩ dX6_takeShort_78 ?_ (fun _ _ _ z => z.elim)
    intro r2 h2 n2 hq _
    rw [hq.1, hq.2.1, hq.2.2]
    show pw E YX6_takeShort _ _ 0 0 81 [some (.ref (J 0)), some (.int (zI (b)))] [] (zP w H N NH I (zTake s) (rP w H N NH I J s (va_up R 5 (0)) q h)) n
    refine pw_h (zP_rP hA) ?_
    refine pw_goto (tgt := 121) dX6_takeShort_81 rfl ?_
    exact pw_vret dX6_takeShort_121 rfl (nle rfl) (nle rfl) ⟨rfl, by unfold rShort; first | (exfalso; omega) | (repeat (first | rw [if_pos (by omega)] | rw [if_neg (by omega)])); first | done | rfl, rfl⟩
  by_cases k6_68 : (68 : Int) = b
  ·
    clear k6_55 k6_56
    refine pw_lookup (off := 78) (tgt := 84) dX6_takeShort_6 (by decide) (by omega) (by rw [← k6_68]; decide) rfl ?_
    refine pw_aload_n dX6_takeShort_84 rfl ?_
    refine pw_get (v := .ref (I 0)) okX6 (k := 0) (by decide) lkX6_13 (rAt_put hA).2.1 rfl dX6_takeShort_85 ?_
    refine pw_callV (As := []) (b := (I 0)) (rm := rmD 6 0 0) (nX7_goDown htr hG0 (rAt_put hA).1 hz0) rfl (rAt_put hA).1.1.1 rfl rfl ywX7_goDown rfl cwX6_36 ⟨nle rfl, nle rfl⟩ (nle rfl) ⟨nle rfl, nle rfl⟩ dX6_takeShort_88 ?_ (fun _ _ _ z => z.elim)
    intro r2 h2 n2 hq _
    rw [hq.1, hq.2.1, hq.2.2]
    show pw E YX6_takeShort _ _ 0 0 91 [some (.ref (J 0)), some (.int (zI (b)))] [] (zP w H N NH I (zDown w H NH s) (rP w H N NH I J s (va_up R 5 (0)) q h)) n
    refine pw_h (zP_rP hA) ?_
    refine pw_goto (tgt := 121) dX6_takeShort_91 rfl ?_
    exact pw_vret dX6_takeShort_121 rfl (nle rfl) (nle rfl) ⟨rfl, by unfold rShort; first | (exfalso; omega) | (repeat (first | rw [if_pos (by omega)] | rw [if_neg (by omega)])); first | done | rfl, rfl⟩
  by_cases k6_77 : (77 : Int) = b
  ·
    clear k6_55 k6_56 k6_68
    refine pw_lookup (off := 88) (tgt := 94) dX6_takeShort_6 (by decide) (by omega) (by rw [← k6_77]; decide) rfl ?_
    refine pw_aload_n dX6_takeShort_94 rfl ?_
    refine pw_get (v := .ref (I 0)) okX6 (k := 0) (by decide) lkX6_13 (rAt_put hA).2.1 rfl dX6_takeShort_95 ?_
    refine pw_callV (As := []) (b := (I 0)) (rm := rmD 5 0 0) (nX7_goUp htr hG0 (rAt_put hA).1 hz0) rfl (rAt_put hA).1.1.1 rfl rfl ywX7_goUp rfl cwX6_59 ⟨nle rfl, nle rfl⟩ (nle rfl) ⟨nle rfl, nle rfl⟩ dX6_takeShort_98 ?_ (fun _ _ _ z => z.elim)
    intro r2 h2 n2 hq _
    rw [hq.1, hq.2.1, hq.2.2]
    show pw E YX6_takeShort _ _ 0 0 101 [some (.ref (J 0)), some (.int (zI (b)))] [] (zP w H N NH I (zUp w H s) (rP w H N NH I J s (va_up R 5 (0)) q h)) n
    refine pw_h (zP_rP hA) ?_
    refine pw_goto (tgt := 121) dX6_takeShort_101 rfl ?_
    exact pw_vret dX6_takeShort_121 rfl (nle rfl) (nle rfl) ⟨rfl, by unfold rShort; first | (exfalso; omega) | (repeat (first | rw [if_pos (by omega)] | rw [if_neg (by omega)])); first | done | rfl, rfl⟩
  by_cases k6_91 : (91 : Int) = b
  ·
    clear k6_55 k6_56 k6_68 k6_77
    refine pw_lookup (off := 108) (tgt := 114) dX6_takeShort_6 (by decide) (by omega) (by rw [← k6_91]; decide) rfl ?_
    refine pw_aload_n dX6_takeShort_114 rfl ?_
    refine pw_callV (As := []) (b := (J 0)) (rm := rmD 1 0 0) (mX6_beginLonger htr hG0 (rAt_put hA) (rOk_5 hO0 (by omega))) rfl (rAt_put hA).2.1 rfl rfl ywX6_beginLonger rfl cwX6_65 ⟨nle rfl, nle rfl⟩ (nle rfl) ⟨nle rfl, nle rfl⟩ dX6_takeShort_115 ?_ (fun _ _ _ z => z.elim)
    intro r2 h2 n2 hq _
    rw [hq.1, hq.2.1, hq.2.2]
    show pw E YX6_takeShort _ _ 0 0 118 [some (.ref (J 0)), some (.int (zI (b)))] [] (rP w H N NH I J s (rBegin (va_up R 5 (0))) (zfill q 0 4 0) (rP w H N NH I J s (va_up R 5 (0)) q h)) n
    refine pw_h (rP_put hA) ?_
    refine pw_goto (tgt := 121) dX6_takeShort_118 rfl ?_
    exact pw_vret dX6_takeShort_121 rfl (nle rfl) (nle rfl) ⟨rfl, by unfold rShort; first | (exfalso; omega) | (repeat (first | rw [if_pos (by omega)] | rw [if_neg (by omega)])); first | done | rfl, rfl⟩
  by_cases k6_99 : (99 : Int) = b
  ·
    clear k6_55 k6_56 k6_68 k6_77 k6_91
    refine pw_lookup (off := 98) (tgt := 104) dX6_takeShort_6 (by decide) (by omega) (by rw [← k6_99]; decide) rfl ?_
    refine pw_aload_n dX6_takeShort_104 rfl ?_
    refine pw_get (v := .ref (I 0)) okX6 (k := 0) (by decide) lkX6_13 (rAt_put hA).2.1 rfl dX6_takeShort_105 ?_
    refine pw_callV (As := []) (b := (I 0)) (rm := rmD 4 0 0) (nX7_reset htr hG0 (rAt_put hA).1 ⟨oT3, oT4⟩ (by omega)) rfl (rAt_put hA).1.1.1 rfl rfl ywX7_reset rfl cwX6_62 ⟨nle rfl, nle rfl⟩ (nle rfl) ⟨nle rfl, nle rfl⟩ dX6_takeShort_108 ?_ (fun _ _ _ z => z.elim)
    intro r2 h2 n2 hq _
    rw [hq.1, hq.2.1, hq.2.2]
    show pw E YX6_takeShort _ _ 0 0 111 [some (.ref (J 0)), some (.int (zI (b)))] [] (zP w H N NH I (zReset w H s) (rP w H N NH I J s (va_up R 5 (0)) q h)) n
    refine pw_h (zP_rP hA) ?_
    refine pw_goto (tgt := 121) dX6_takeShort_111 rfl ?_
    exact pw_vret dX6_takeShort_121 rfl (nle rfl) (nle rfl) ⟨rfl, by unfold rShort; first | (exfalso; omega) | (repeat (first | rw [if_pos (by omega)] | rw [if_neg (by omega)])); first | done | rfl, rfl⟩
  refine pw_lookup (off := 115) (tgt := 121) dX6_takeShort_6 (by decide) (by omega) (by show Op.lookupswitch.offset [(55, 58), (56, 68), (68, 78), (77, 88), (91, 108), (99, 98)] 115 (b) = 115; simp only [Op.lookupswitch.offset_cons, Op.lookupswitch.offset_nil, if_neg k6_55, if_neg k6_56, if_neg k6_68, if_neg k6_77, if_neg k6_91, if_neg k6_99]) rfl ?_
  exact pw_vret dX6_takeShort_121 rfl (nle rfl) (nle rfl) ⟨rfl, by unfold rShort; first | (exfalso; omega) | (repeat (first | rw [if_pos (by omega)] | rw [if_neg (by omega)])); first | done | rfl, rfl⟩
