def YX3_end : pw_Y := (RX3, "end", cX3_end, 4, none)
theorem ywX3_end : pw_y yX3_end YX3_end 3 := ⟨by decide +kernel, by decide +kernel, by decide +kernel, pw_in 912 (by decide +kernel) (by decide +kernel), pw_in 89 (by decide +kernel) (by decide +kernel)⟩
theorem lkX3_9 : Cond.fieldLink RX3 9 (TX3 7).1 (TX3 7).2.1 (TX3 7).2.2.1 ∈ pw_G := pw_in 387 (by decide +kernel) (by decide +kernel)
theorem lkX8_9 : Cond.fieldLink RX8 9 (TX8 0).1 (TX8 0).2.1 (TX8 0).2.2.1 ∈ pw_G := pw_in 138 (by decide +kernel) (by decide +kernel)
theorem lkX8_13 : Cond.fieldLink RX8 13 (TX8 1).1 (TX8 1).2.1 (TX8 1).2.2.1 ∈ pw_G := pw_in 139 (by decide +kernel) (by decide +kernel)
def YX8_add : pw_Y := (RX8, "add", cX8_add, 2, none)
theorem ywX8_add : pw_y yX8_add YX8_add 1 := ⟨by decide +kernel, by decide +kernel, by decide +kernel, pw_in 1167 (by decide +kernel) (by decide +kernel), pw_in 82 (by decide +kernel) (by decide +kernel)⟩
theorem cwX8_17 : Cond.methodLink RX8 17 Lib.Math.min.name ∈ pw_G := pw_in 1282 (by decide +kernel) (by decide +kernel)
def YX8_told : pw_Y := (RX8, "told", cX8_told, 1, (some .int))
theorem ywX8_told : pw_y yX8_told YX8_told 0 := ⟨by decide +kernel, by decide +kernel, by decide +kernel, pw_in 1281 (by decide +kernel) (by decide +kernel), pw_in 82 (by decide +kernel) (by decide +kernel)⟩
theorem cwX8_23 : Cond.methodLink RX8 23 yX8_told ∈ pw_G ∧ Cond.instanceMethod yX8_told ∈ pw_G ∧ Cond.selects RX8 yX8_told yX8_told ∈ pw_G := ⟨pw_in 1288 (by decide +kernel) (by decide +kernel), pw_in 1279 (by decide +kernel) (by decide +kernel), pw_in 1280 (by decide +kernel) (by decide +kernel)⟩
def YX8_at : pw_Y := (RX8, "at", cX8_at, 2, (some .int))
theorem ywX8_at : pw_y yX8_at YX8_at 1 := ⟨by decide +kernel, by decide +kernel, by decide +kernel, pw_in 1287 (by decide +kernel) (by decide +kernel), pw_in 82 (by decide +kernel) (by decide +kernel)⟩
set_option maxHeartbeats 4000000 in
set_option maxRecDepth 100000 in
/-- Outer.end(c, r, b) -/
theorem mX3_end {E : pw_E} (htr : E.1.stackTraces = false) {h : pz_H} {n : Nat} {w : Int} {N NB : Nat} {Z : Nat → Nat} {p : oPr} {sh : Nat → Int} (hA : oAt w N NB Z p sh h) (h3 : 0 ≤ p.1 3 ∧ p.1 3 ≤ NB) (hNB : NB ≤ 100000) {c r b : Int} (hc : 0 ≤ c ∧ c < 99) (hr : 0 ≤ r ∧ r < 99) (hb : 0 ≤ b ∧ b ≤ 1) (h4 : -1 ≤ p.1 4 ∧ p.1 4 < 99) (h5 : 0 ≤ p.1 5 ∧ p.1 5 < 99) (h7 : 0 ≤ p.1 7 ∧ p.1 7 ≤ 1) : pw_M E yX3_end YX3_end (rmD 3 0 0) [.ref (Z 0), .int (zI (c)), .int (zI (r)), .int (zI (b))] h n (fun r0 h' n' => r0 = none ∧ h' = oP w N NB Z (oEnd NB c r b p) sh h ∧ n' = n) (fun _ _ _ => False) := by
  refine pw_M_of (lv := [some (.ref (Z 0)), some (.int (zI (c))), some (.int (zI (r))), some (.int (zI (b)))]) (by decide) rfl rfl htr (nle rfl) rfl (fun L => ?_)
  refine pw_h (oP_id hA).symm ?_
  refine pw_iload_n dX3_end_0 rfl ?_
  refine pw_if_eq (tgt := 10) dX3_end_1 rfl (by omega) (fun c1 => ?_) (fun c1 => ?_)
  ·
    refine pw_iload_n dX3_end_10 rfl ?_
    have h77 := (oMove_7 (NB := NB) (c := c) (r := r) (p := p))
    refine pw_aload_n dX3_end_11 rfl ?_
    refine pw_get (v := .int (zI (p.1 7))) okX3 (k := 7) (by decide) lkX3_9 (oAt_put hA).1 rfl dX3_end_12 ?_
    refine pw_icmp_eq (tgt := 53) dX3_end_15 rfl (by omega) (by omega) (fun c15 => ?_) (fun c15 => ?_)
    ·
      exact pw_vret dX3_end_53 rfl (nle rfl) (nle rfl) ⟨rfl, by unfold oEnd; rw [show (if b = 0 then p else oMove NB c r p) = p from if_pos (show b = 0 by omega)]; rw [if_pos (show b = (p).1 7 by omega)], rfl⟩
    ·
      refine pw_aload_n dX3_end_18 rfl ?_
      refine pw_iload_n dX3_end_19 rfl ?_
      refine pw_put (fs' := (ouObj w Z (va_up p.1 7 (b)))) okX3 (k := 7) (by decide) lkX3_9 rfl (zb_nar hb) (zb_fit hb) (oAt_put hA).1 (nlt rfl) rfl dX3_end_20 ?_
      refine pw_h oU0 ?_
      refine pw_aload_n dX3_end_23 rfl ?_
      refine pw_bipush (v := zI (63)) dX3_end_24 (by decide) ?_
      refine pw_callV (As := [.int (zI (63))]) (b := (Z 0)) (rm := rmD 1 0 0) (mX3_beginSequence (p := (va_up p.1 7 (b), p.2)) htr (oAt_put hA) h3 hNB) rfl (oAt_put hA).1 rfl rfl ywX3_beginSequence rfl cwX3_49 ⟨nle rfl, nle rfl⟩ (nle rfl) ⟨nle rfl, nle rfl⟩ dX3_end_26 ?_ (fun _ _ _ z => z.elim)
      intro r2 h2 n2 hq _
      rw [hq.1, hq.2.1, hq.2.2]
      show pw E YX3_end _ _ 0 0 29 [some (.ref (Z 0)), some (.int (zI (c))), some (.int (zI (r))), some (.int (zI (b)))] [] (oP w N NB Z (oApp NB (([27] ++ [91] ++ [63])) (va_up p.1 7 (b), p.2)) sh (oP w N NB Z (va_up p.1 7 (b), p.2) sh h)) n
      refine pw_h (h' := oP w N NB Z (oApp NB (([27] ++ [91] ++ [63])) (va_up p.1 7 (b), p.2)) sh h) oP_put ?_
      refine pw_aload_n dX3_end_29 rfl ?_
      refine pw_bipush (v := zI (25)) dX3_end_30 (by decide) ?_
      refine pw_callV (As := [.int (zI (25))]) (b := (Z 0)) (rm := rmD 1 0 0) (mX3_putNumber (p := (oApp NB (([27] ++ [91] ++ [63])) (va_up p.1 7 (b), p.2))) htr (oAt_put hA) (oApp_3 h3) hNB (by omega)) rfl (oAt_put hA).1 rfl rfl ywX3_putNumber rfl cwX3_52 ⟨nle rfl, nle rfl⟩ (nle rfl) ⟨nle rfl, nle rfl⟩ dX3_end_32 ?_ (fun _ _ _ z => z.elim)
      intro r2 h2 n2 hq _
      rw [hq.1, hq.2.1, hq.2.2]
      show pw E YX3_end _ _ 0 0 35 [some (.ref (Z 0)), some (.int (zI (c))), some (.int (zI (r))), some (.int (zI (b)))] [] (oP w N NB Z (oApp NB (numB (25)) (oApp NB (([27] ++ [91] ++ [63])) (va_up p.1 7 (b), p.2))) sh (oP w N NB Z (oApp NB (([27] ++ [91] ++ [63])) (va_up p.1 7 (b), p.2)) sh h)) n
      rw [oApp_app (p := (va_up p.1 7 (b), p.2)) h3]
      refine pw_h (h' := oP w N NB Z (oApp NB (([27] ++ [91] ++ [63]) ++ numB (25)) (va_up p.1 7 (b), p.2)) sh h) oP_put ?_
      refine pw_aload_n dX3_end_35 rfl ?_
      refine pw_aload_n dX3_end_36 rfl ?_
      refine pw_get (v := .int (zI (b))) okX3 (k := 7) (by decide) lkX3_9 (oAt_put hA).1 rfl dX3_end_37 ?_
      refine pw_if_eq (tgt := 48) dX3_end_40 rfl (by omega) (fun c40 => ?_) (fun c40 => ?_)
      ·
        refine pw_bipush (v := zI (108)) dX3_end_48 (by decide) ?_
        refine pw_callV (As := [.int (zI (108))]) (b := (Z 0)) (rm := rmD 0 0 0) (mX3_put (p := (oApp NB (([27] ++ [91] ++ [63]) ++ numB (25)) (va_up p.1 7 (b), p.2))) htr (oAt_put hA) (oApp_3 h3) hNB) rfl (oAt_put hA).1 rfl rfl ywX3_put rfl cwX3_43 ⟨nle rfl, nle rfl⟩ (nle rfl) ⟨nle rfl, nle rfl⟩ dX3_end_50 ?_ (fun _ _ _ z => z.elim)
        intro r2 h2 n2 hq _
        rw [hq.1, hq.2.1, hq.2.2]
        show pw E YX3_end _ _ 0 0 53 [some (.ref (Z 0)), some (.int (zI (c))), some (.int (zI (r))), some (.int (zI (b)))] [] (oP w N NB Z (oApp NB ([108]) (oApp NB (([27] ++ [91] ++ [63]) ++ numB (25)) (va_up p.1 7 (b), p.2))) sh (oP w N NB Z (oApp NB (([27] ++ [91] ++ [63]) ++ numB (25)) (va_up p.1 7 (b), p.2)) sh h)) n
        rw [oApp_app (p := (va_up p.1 7 (b), p.2)) h3]
        refine pw_h (h' := oP w N NB Z (oApp NB (([27] ++ [91] ++ [63]) ++ numB (25) ++ [108]) (va_up p.1 7 (b), p.2)) sh h) oP_put ?_
        exact pw_vret dX3_end_53 rfl (nle rfl) (nle rfl) ⟨rfl, by first | (exfalso; omega) | (unfold oEnd; rw [show (if b = 0 then p else oMove NB c r p) = p from if_pos (show b = 0 by omega)]; rw [if_neg (show ¬ b = (p).1 7 by omega)]; unfold seenB; rw [if_pos (show b = 0 by omega)]; first | done | rfl), rfl⟩
      ·
        refine pw_bipush (v := zI (104)) dX3_end_43 (by decide) ?_
        refine pw_goto (tgt := 50) dX3_end_45 rfl ?_
        refine pw_callV (As := [.int (zI (104))]) (b := (Z 0)) (rm := rmD 0 0 0) (mX3_put (p := (oApp NB (([27] ++ [91] ++ [63]) ++ numB (25)) (va_up p.1 7 (b), p.2))) htr (oAt_put hA) (oApp_3 h3) hNB) rfl (oAt_put hA).1 rfl rfl ywX3_put rfl cwX3_43 ⟨nle rfl, nle rfl⟩ (nle rfl) ⟨nle rfl, nle rfl⟩ dX3_end_50 ?_ (fun _ _ _ z => z.elim)
        intro r2 h2 n2 hq _
        rw [hq.1, hq.2.1, hq.2.2]
        show pw E YX3_end _ _ 0 0 53 [some (.ref (Z 0)), some (.int (zI (c))), some (.int (zI (r))), some (.int (zI (b)))] [] (oP w N NB Z (oApp NB ([104]) (oApp NB (([27] ++ [91] ++ [63]) ++ numB (25)) (va_up p.1 7 (b), p.2))) sh (oP w N NB Z (oApp NB (([27] ++ [91] ++ [63]) ++ numB (25)) (va_up p.1 7 (b), p.2)) sh h)) n
        rw [oApp_app (p := (va_up p.1 7 (b), p.2)) h3]
        refine pw_h (h' := oP w N NB Z (oApp NB (([27] ++ [91] ++ [63]) ++ numB (25) ++ [104]) (va_up p.1 7 (b), p.2)) sh h) oP_put ?_
        exact pw_vret dX3_end_53 rfl (nle rfl) (nle rfl) ⟨rfl, by first | (exfalso; omega) | (unfold oEnd; rw [show (if b = 0 then p else oMove NB c r p) = p from if_pos (show b = 0 by omega)]; rw [if_neg (show ¬ b = (p).1 7 by omega)]; unfold seenB; rw [if_pos (show b = 0 by omega)]; first | done | rfl), rfl⟩
  ·
    refine pw_aload_n dX3_end_4 rfl ?_
    refine pw_iload_n dX3_end_5 rfl ?_
    refine pw_iload_n dX3_end_6 rfl ?_
    refine pw_callV (As := [.int (zI (c)), .int (zI (r))]) (b := (Z 0)) (rm := rmD 2 0 0) (mX3_moveTo (p := p) htr (oAt_put hA) h3 hNB (by omega) (by omega) h4 h5) rfl (oAt_put hA).1 rfl rfl ywX3_moveTo rfl cwX3_35 ⟨nle rfl, nle rfl⟩ (nle rfl) ⟨nle rfl, nle rfl⟩ dX3_end_7 ?_ (fun _ _ _ z => z.elim)
    intro r2 h2 n2 hq _
    rw [hq.1, hq.2.1, hq.2.2]
    show pw E YX3_end _ _ 0 0 10 [some (.ref (Z 0)), some (.int (zI (c))), some (.int (zI (r))), some (.int (zI (b)))] [] (oP w N NB Z (oMove NB (c) (r) p) sh (oP w N NB Z p sh h)) n
    refine pw_h (h' := oP w N NB Z (oMove NB (c) (r) p) sh h) oP_put ?_
    refine pw_iload_n dX3_end_10 rfl ?_
    have h77 := (oMove_7 (NB := NB) (c := c) (r := r) (p := p))
    refine pw_aload_n dX3_end_11 rfl ?_
    refine pw_get (v := .int (zI ((oMove NB (c) (r) p).1 7))) okX3 (k := 7) (by decide) lkX3_9 (oAt_put hA).1 rfl dX3_end_12 ?_
    refine pw_icmp_eq (tgt := 53) dX3_end_15 rfl (by omega) (by omega) (fun c15 => ?_) (fun c15 => ?_)
    ·
      exact pw_vret dX3_end_53 rfl (nle rfl) (nle rfl) ⟨rfl, by unfold oEnd; rw [show (if b = 0 then p else oMove NB c r p) = oMove NB c r p from if_neg (show ¬ b = 0 by omega)]; rw [if_pos (show b = (oMove NB c r p).1 7 by omega)], rfl⟩
    ·
      refine pw_aload_n dX3_end_18 rfl ?_
      refine pw_iload_n dX3_end_19 rfl ?_
      refine pw_put (fs' := (ouObj w Z (va_up (oMove NB (c) (r) p).1 7 (b)))) okX3 (k := 7) (by decide) lkX3_9 rfl (zb_nar hb) (zb_fit hb) (oAt_put hA).1 (nlt rfl) rfl dX3_end_20 ?_
      refine pw_h oU0 ?_
      refine pw_aload_n dX3_end_23 rfl ?_
      refine pw_bipush (v := zI (63)) dX3_end_24 (by decide) ?_
      refine pw_callV (As := [.int (zI (63))]) (b := (Z 0)) (rm := rmD 1 0 0) (mX3_beginSequence (p := (va_up (oMove NB (c) (r) p).1 7 (b), (oMove NB (c) (r) p).2)) htr (oAt_put hA) (oMove_3 h3) hNB) rfl (oAt_put hA).1 rfl rfl ywX3_beginSequence rfl cwX3_49 ⟨nle rfl, nle rfl⟩ (nle rfl) ⟨nle rfl, nle rfl⟩ dX3_end_26 ?_ (fun _ _ _ z => z.elim)
      intro r2 h2 n2 hq _
      rw [hq.1, hq.2.1, hq.2.2]
      show pw E YX3_end _ _ 0 0 29 [some (.ref (Z 0)), some (.int (zI (c))), some (.int (zI (r))), some (.int (zI (b)))] [] (oP w N NB Z (oApp NB (([27] ++ [91] ++ [63])) (va_up (oMove NB (c) (r) p).1 7 (b), (oMove NB (c) (r) p).2)) sh (oP w N NB Z (va_up (oMove NB (c) (r) p).1 7 (b), (oMove NB (c) (r) p).2) sh h)) n
      refine pw_h (h' := oP w N NB Z (oApp NB (([27] ++ [91] ++ [63])) (va_up (oMove NB (c) (r) p).1 7 (b), (oMove NB (c) (r) p).2)) sh h) oP_put ?_
      refine pw_aload_n dX3_end_29 rfl ?_
      refine pw_bipush (v := zI (25)) dX3_end_30 (by decide) ?_
      refine pw_callV (As := [.int (zI (25))]) (b := (Z 0)) (rm := rmD 1 0 0) (mX3_putNumber (p := (oApp NB (([27] ++ [91] ++ [63])) (va_up (oMove NB (c) (r) p).1 7 (b), (oMove NB (c) (r) p).2))) htr (oAt_put hA) (oApp_3 (oMove_3 h3)) hNB (by omega)) rfl (oAt_put hA).1 rfl rfl ywX3_putNumber rfl cwX3_52 ⟨nle rfl, nle rfl⟩ (nle rfl) ⟨nle rfl, nle rfl⟩ dX3_end_32 ?_ (fun _ _ _ z => z.elim)
      intro r2 h2 n2 hq _
      rw [hq.1, hq.2.1, hq.2.2]
      show pw E YX3_end _ _ 0 0 35 [some (.ref (Z 0)), some (.int (zI (c))), some (.int (zI (r))), some (.int (zI (b)))] [] (oP w N NB Z (oApp NB (numB (25)) (oApp NB (([27] ++ [91] ++ [63])) (va_up (oMove NB (c) (r) p).1 7 (b), (oMove NB (c) (r) p).2))) sh (oP w N NB Z (oApp NB (([27] ++ [91] ++ [63])) (va_up (oMove NB (c) (r) p).1 7 (b), (oMove NB (c) (r) p).2)) sh h)) n
      rw [oApp_app (p := (va_up (oMove NB (c) (r) p).1 7 (b), (oMove NB (c) (r) p).2)) (oMove_3 h3)]
      refine pw_h (h' := oP w N NB Z (oApp NB (([27] ++ [91] ++ [63]) ++ numB (25)) (va_up (oMove NB (c) (r) p).1 7 (b), (oMove NB (c) (r) p).2)) sh h) oP_put ?_
      refine pw_aload_n dX3_end_35 rfl ?_
      refine pw_aload_n dX3_end_36 rfl ?_
      refine pw_get (v := .int (zI (b))) okX3 (k := 7) (by decide) lkX3_9 (oAt_put hA).1 rfl dX3_end_37 ?_
      refine pw_if_eq (tgt := 48) dX3_end_40 rfl (by omega) (fun c40 => ?_) (fun c40 => ?_)
      ·
        refine pw_bipush (v := zI (108)) dX3_end_48 (by decide) ?_
        refine pw_callV (As := [.int (zI (108))]) (b := (Z 0)) (rm := rmD 0 0 0) (mX3_put (p := (oApp NB (([27] ++ [91] ++ [63]) ++ numB (25)) (va_up (oMove NB (c) (r) p).1 7 (b), (oMove NB (c) (r) p).2))) htr (oAt_put hA) (oApp_3 (oMove_3 h3)) hNB) rfl (oAt_put hA).1 rfl rfl ywX3_put rfl cwX3_43 ⟨nle rfl, nle rfl⟩ (nle rfl) ⟨nle rfl, nle rfl⟩ dX3_end_50 ?_ (fun _ _ _ z => z.elim)
        intro r2 h2 n2 hq _
        rw [hq.1, hq.2.1, hq.2.2]
        show pw E YX3_end _ _ 0 0 53 [some (.ref (Z 0)), some (.int (zI (c))), some (.int (zI (r))), some (.int (zI (b)))] [] (oP w N NB Z (oApp NB ([108]) (oApp NB (([27] ++ [91] ++ [63]) ++ numB (25)) (va_up (oMove NB (c) (r) p).1 7 (b), (oMove NB (c) (r) p).2))) sh (oP w N NB Z (oApp NB (([27] ++ [91] ++ [63]) ++ numB (25)) (va_up (oMove NB (c) (r) p).1 7 (b), (oMove NB (c) (r) p).2)) sh h)) n
        rw [oApp_app (p := (va_up (oMove NB (c) (r) p).1 7 (b), (oMove NB (c) (r) p).2)) (oMove_3 h3)]
        refine pw_h (h' := oP w N NB Z (oApp NB (([27] ++ [91] ++ [63]) ++ numB (25) ++ [108]) (va_up (oMove NB (c) (r) p).1 7 (b), (oMove NB (c) (r) p).2)) sh h) oP_put ?_
        exact pw_vret dX3_end_53 rfl (nle rfl) (nle rfl) ⟨rfl, by first | (exfalso; omega) | (unfold oEnd; rw [show (if b = 0 then p else oMove NB c r p) = oMove NB c r p from if_neg (show ¬ b = 0 by omega)]; rw [if_neg (show ¬ b = (oMove NB c r p).1 7 by omega)]; unfold seenB; rw [if_neg (show ¬ b = 0 by omega)]; first | done | rfl), rfl⟩
      ·
        refine pw_bipush (v := zI (104)) dX3_end_43 (by decide) ?_
        refine pw_goto (tgt := 50) dX3_end_45 rfl ?_
        refine pw_callV (As := [.int (zI (104))]) (b := (Z 0)) (rm := rmD 0 0 0) (mX3_put (p := (oApp NB (([27] ++ [91] ++ [63]) ++ numB (25)) (va_up (oMove NB (c) (r) p).1 7 (b), (oMove NB (c) (r) p).2))) htr (oAt_put hA) (oApp_3 (oMove_3 h3)) hNB) rfl (oAt_put hA).1 rfl rfl ywX3_put rfl cwX3_43 ⟨nle rfl, nle rfl⟩ (nle rfl) ⟨nle rfl, nle rfl⟩ dX3_end_50 ?_ (fun _ _ _ z => z.elim)
        intro r2 h2 n2 hq _
        rw [hq.1, hq.2.1, hq.2.2]
        show pw E YX3_end _ _ 0 0 53 [some (.ref (Z 0)), some (.int (zI (c))), some (.int (zI (r))), some (.int (zI (b)))] [] (oP w N NB Z (oApp NB ([104]) (oApp NB (([27] ++ [91] ++ [63]) ++ numB (25)) (va_up (oMove NB (c) (r) p).1 7 (b), (oMove NB (c) (r) p).2))) sh (oP w N NB Z (oApp NB (([27] ++ [91] ++ [63]) ++ numB (25)) (va_up (oMove NB (c) (r) p).1 7 (b), (oMove NB (c) (r) p).2)) sh h)) n
        rw [oApp_app (p := (va_up (oMove NB (c) (r) p).1 7 (b), (oMove NB (c) (r) p).2)) (oMove_3 h3)]
        refine pw_h (h' := oP w N NB Z (oApp NB (([27] ++ [91] ++ [63]) ++ numB (25) ++ [104]) (va_up (oMove NB (c) (r) p).1 7 (b), (oMove NB (c) (r) p).2)) sh h) oP_put ?_
        exact pw_vret dX3_end_53 rfl (nle rfl) (nle rfl) ⟨rfl, by first | (exfalso; omega) | (unfold oEnd; rw [show (if b = 0 then p else oMove NB c r p) = oMove NB c r p from if_neg (show ¬ b = 0 by omega)]; rw [if_neg (show ¬ b = (oMove NB c r p).1 7 by omega)]; unfold seenB; rw [if_neg (show ¬ b = 0 by omega)]; first | done | rfl), rfl⟩
theorem z63 {a : Int} (ha : 0 ≤ a ∧ a < 2147483648) : zI a &&& zI 63 = zI (a % 64) := (zI_and 6 (by decide) ha.1 ha.2).trans rfl
set_option maxHeartbeats 4000000 in
set_option maxRecDepth 100000 in
/-- Typed.add(b) -/
theorem mX8_add {E : pw_E} (htr : E.1.stackTraces = false) {h : pz_H} {n : Nat} {ty la : Nat} {tot : Int} {f : Nat → Int} (hty : h ty = pz_o 11 [.ref la, .int (zI tot)]) (hla : h la = pz_z 0 64 f) (hne : ty ≠ la) (ht : 0 ≤ tot ∧ tot ≤ 1000000000) {b : Int} : pw_M E yX8_add YX8_add (rmD 0 0 0) [.ref ty, .int (zI b)] h n (fun r h' n' => r = none ∧ h' = va_up (va_up h la (pz_z 0 64 (va_up f (tot % 64).toNat b))) ty (pz_o 11 [.ref la, .int (zI (tot + 1))]) ∧ n' = n) (fun _ _ _ => False) := by
  refine pw_M_of (lv := [some (.ref ty), some (.int (zI (b)))]) (by decide) rfl rfl htr (nle rfl) rfl (fun L => ?_)
  refine pw_aload_n dX8_add_0 rfl ?_
  refine pw_get (v := .ref la) okX8 (k := 0) (by decide) lkX8_9 hty rfl dX8_add_1 ?_
  refine pw_aload_n dX8_add_4 rfl ?_
  refine pw_get (v := .int (zI (tot))) okX8 (k := 1) (by decide) lkX8_13 hty rfl dX8_add_5 ?_
  refine pw_bipush (v := zI (63)) dX8_add_8 (by decide) ?_
  refine pw_iand dX8_add_10 ?_
  rw [z63 (by omega)]
  refine pw_iload_n dX8_add_11 rfl ?_
  refine pw_iast (t := 0) rfl hla (by omega) (by omega) dX8_add_12 ?_
  refine pw_aload_n dX8_add_13 rfl ?_
  refine pw_dup dX8_add_14 rfl ?_
  refine pw_get (v := .int (zI (tot))) okX8 (k := 1) (by decide) lkX8_13 ((va_up_ne _ _ hne).trans hty) rfl dX8_add_15 ?_
  refine pw_iconst (v := zI (1)) dX8_add_18 (by decide) ?_
  refine pw_ziadd dX8_add_19 ?_
  refine pw_put (fs' := [.ref la, .int (zI (tot + 1))]) okX8 (k := 1) (by decide) lkX8_13 rfl rfl rfl ((va_up_ne _ _ hne).trans hty) (nlt rfl) rfl dX8_add_20 ?_
  exact pw_vret dX8_add_23 rfl (nle rfl) (nle rfl) ⟨rfl, rfl, rfl⟩
set_option maxHeartbeats 4000000 in
set_option maxRecDepth 100000 in
/-- Typed.told() -/
theorem mX8_told {E : pw_E} (htr : E.1.stackTraces = false) {h : pz_H} {n : Nat} {ty la : Nat} {tot : Int} {f : Nat → Int} (hty : h ty = pz_o 11 [.ref la, .int (zI tot)]) (hla : h la = pz_z 0 64 f) (hne : ty ≠ la) (ht : 0 ≤ tot ∧ tot ≤ 1000000000) : pw_M E yX8_told YX8_told (rmD 1 0 0) [.ref ty] h n (fun r h' n' => r = some (.int (zI (min tot 64))) ∧ h' = h ∧ n' = n) (fun _ _ _ => False) := by
  refine pw_M_of (lv := [some (.ref ty)]) (by decide) rfl rfl htr (nle rfl) rfl (fun L => ?_)
  refine pw_aload_n dX8_told_0 rfl ?_
  refine pw_get (v := .int (zI (tot))) okX8 (k := 1) (by decide) lkX8_13 hty rfl dX8_told_1 ?_
  refine pw_bipush (v := zI (64)) dX8_told_4 (by decide) ?_
  refine pw_min cwX8_17 dX8_told_6 (by omega) (by omega) ⟨nle rfl, nle rfl⟩ ⟨nle rfl, nle rfl⟩ ?_
  exact pw_iret dX8_told_9 rfl (nle rfl) (nle rfl) ⟨rfl, rfl, rfl⟩
set_option maxHeartbeats 4000000 in
set_option maxRecDepth 100000 in
/-- Typed.at(i) -/
theorem mX8_at {E : pw_E} (htr : E.1.stackTraces = false) {h : pz_H} {n : Nat} {ty la : Nat} {tot : Int} {f : Nat → Int} (hty : h ty = pz_o 11 [.ref la, .int (zI tot)]) (hla : h la = pz_z 0 64 f) (hne : ty ≠ la) (ht : 0 ≤ tot ∧ tot ≤ 1000000000) {i : Int} (hi : 0 ≤ i ∧ i < min tot 64) : pw_M E yX8_at YX8_at (rmD 2 0 0) [.ref ty, .int (zI i)] h n (fun r h' n' => r = some (.int (zI (f ((tot - min tot 64 + i) % 64).toNat))) ∧ h' = h ∧ n' = n) (fun _ _ _ => False) := by
  refine pw_M_of (lv := [some (.ref ty), some (.int (zI (i)))]) (by decide) rfl rfl htr (nle rfl) rfl (fun L => ?_)
  refine pw_aload_n dX8_at_0 rfl ?_
  refine pw_get (v := .ref la) okX8 (k := 0) (by decide) lkX8_9 hty rfl dX8_at_1 ?_
  refine pw_aload_n dX8_at_4 rfl ?_
  refine pw_get (v := .int (zI (tot))) okX8 (k := 1) (by decide) lkX8_13 hty rfl dX8_at_5 ?_
  refine pw_aload_n dX8_at_8 rfl ?_
  refine pw_callV (As := []) (b := ty) (rm := rmD 1 0 0) (mX8_told htr hty hla hne ht) rfl hty rfl rfl ywX8_told rfl cwX8_23 ⟨nle rfl, nle rfl⟩ (nle rfl) ⟨nle rfl, nle rfl⟩ dX8_at_9 ?_ (fun _ _ _ z => z.elim)
  intro r2 h2 n2 hq _
  rw [hq.1, hq.2.1, hq.2.2]
  show pw E YX8_at _ _ 0 0 12 [some (.ref ty), some (.int (zI (i)))] [.int (zI (min tot 64)), .int (zI (tot)), .ref la] h n
  refine pw_zisub dX8_at_12 ?_
  refine pw_iload_n dX8_at_13 rfl ?_
  refine pw_ziadd dX8_at_14 ?_
  refine pw_bipush (v := zI (63)) dX8_at_15 (by decide) ?_
  refine pw_iand dX8_at_17 ?_
  rw [z63 (by omega)]
  refine pw_iald (t := 0) rfl hla (by omega) (by omega) dX8_at_18 ?_
  exact pw_iret dX8_at_19 rfl (nle rfl) (nle rfl) ⟨rfl, rfl, rfl⟩
