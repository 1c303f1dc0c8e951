def YX3_put : pw_Y := (RX3, "put", cX3_put, 2, none)
theorem ywX3_put : pw_y yX3_put YX3_put 1 := ⟨by decide +kernel, by decide +kernel, by decide +kernel, pw_in 880 (by decide +kernel) (by decide +kernel), pw_in 89 (by decide +kernel) (by decide +kernel)⟩
theorem lkX3_32 : Cond.fieldLink RX3 32 (TX3 3).1 (TX3 3).2.1 (TX3 3).2.2.1 ∈ pw_G := pw_in 382 (by decide +kernel) (by decide +kernel)
theorem lkX3_29 : Cond.fieldLink RX3 29 (TX3 2).1 (TX3 2).2.1 (TX3 2).2.2.1 ∈ pw_G := pw_in 380 (by decide +kernel) (by decide +kernel)
def YX3_putNumber : pw_Y := (RX3, "putNumber", cX3_putNumber, 2, none)
theorem ywX3_putNumber : pw_y yX3_putNumber YX3_putNumber 1 := ⟨by decide +kernel, by decide +kernel, by decide +kernel, pw_in 884 (by decide +kernel) (by decide +kernel), pw_in 89 (by decide +kernel) (by decide +kernel)⟩
theorem cwX3_43 : Cond.methodLink RX3 43 yX3_put ∈ pw_G ∧ Cond.instanceMethod yX3_put ∈ pw_G ∧ Cond.selects RX3 yX3_put yX3_put ∈ pw_G := ⟨pw_in 877 (by decide +kernel) (by decide +kernel), pw_in 879 (by decide +kernel) (by decide +kernel), pw_in 4 (by decide +kernel) (by decide +kernel)⟩
def YX3_beginSequence : pw_Y := (RX3, "beginSequence", cX3_beginSequence, 2, none)
theorem ywX3_beginSequence : pw_y yX3_beginSequence YX3_beginSequence 1 := ⟨by decide +kernel, by decide +kernel, by decide +kernel, pw_in 892 (by decide +kernel) (by decide +kernel), pw_in 89 (by decide +kernel) (by decide +kernel)⟩
def YX3_putPart : pw_Y := (RX3, "putPart", cX3_putPart, 3, none)
theorem ywX3_putPart : pw_y yX3_putPart YX3_putPart 2 := ⟨by decide +kernel, by decide +kernel, by decide +kernel, pw_in 896 (by decide +kernel) (by decide +kernel), pw_in 89 (by decide +kernel) (by decide +kernel)⟩
theorem cwX3_52 : Cond.methodLink RX3 52 yX3_putNumber ∈ pw_G ∧ Cond.instanceMethod yX3_putNumber ∈ pw_G ∧ Cond.selects RX3 yX3_putNumber yX3_putNumber ∈ pw_G := ⟨pw_in 881 (by decide +kernel) (by decide +kernel), pw_in 883 (by decide +kernel) (by decide +kernel), pw_in 5 (by decide +kernel) (by decide +kernel)⟩
def YX3_begin : pw_Y := (RX3, "begin", cX3_begin, 1, none)
theorem ywX3_begin : pw_y yX3_begin YX3_begin 0 := ⟨by decide +kernel, by decide +kernel, by decide +kernel, pw_in 868 (by decide +kernel) (by decide +kernel), pw_in 89 (by decide +kernel) (by decide +kernel)⟩
def YX3_moveTo : pw_Y := (RX3, "moveTo", cX3_moveTo, 3, none)
theorem ywX3_moveTo : pw_y yX3_moveTo YX3_moveTo 2 := ⟨by decide +kernel, by decide +kernel, by decide +kernel, pw_in 876 (by decide +kernel) (by decide +kernel), pw_in 89 (by decide +kernel) (by decide +kernel)⟩
theorem lkX3_46 : Cond.fieldLink RX3 46 (TX3 4).1 (TX3 4).2.1 (TX3 4).2.2.1 ∈ pw_G := pw_in 384 (by decide +kernel) (by decide +kernel)
theorem lkX3_55 : Cond.fieldLink RX3 55 (TX3 5).1 (TX3 5).2.1 (TX3 5).2.2.1 ∈ pw_G := pw_in 385 (by decide +kernel) (by decide +kernel)
set_option maxHeartbeats 4000000 in
set_option maxRecDepth 100000 in
/-- Outer.put(b) -/
theorem mX3_put {E : pw_E} (htr : E.1.stackTraces = false) {h : pz_H} {n : Nat} {w : Int} {N NB : Nat} {Z : Nat → Nat} {p : oPr} {sh : Nat → Int} (hA : oAt w N NB Z p sh h) (h3 : 0 ≤ p.1 3 ∧ p.1 3 ≤ NB) (hNB : NB ≤ 100000) {b : Int} : pw_M E yX3_put YX3_put (rmD 0 0 0) [.ref (Z 0), .int (zI (b))] h n (fun r h' n' => r = none ∧ h' = oP w N NB Z (oApp NB [b] p) sh h ∧ n' = n) (fun _ _ _ => False) := by
  refine pw_M_of (lv := [some (.ref (Z 0)), some (.int (zI (b)))]) (by decide) rfl rfl htr (nle rfl) rfl (fun L => ?_)
  refine pw_h (oP_id hA).symm ?_
  refine pw_aload_n dX3_put_0 rfl ?_
  refine pw_get (v := .int (zI (p.1 3))) okX3 (k := 3) (by decide) lkX3_32 (oAt_put hA).1 rfl dX3_put_1 ?_
  refine pw_aload_n dX3_put_4 rfl ?_
  refine pw_get (v := .ref (Z 2)) okX3 (k := 2) (by decide) lkX3_29 (oAt_put hA).1 rfl dX3_put_5 ?_
  refine pw_alenI (t := 0) rfl (oAt_put hA).2.2.1 dX3_put_8 ?_
  refine pw_icmp_ge (tgt := 32) dX3_put_9 rfl (by omega) (by omega) (fun c9 => ?_) (fun c9 => ?_)
  ·
    exact pw_vret dX3_put_32 rfl (nle rfl) (nle rfl) ⟨rfl, by rw [oApp_no (by omega)], rfl⟩
  ·
    refine pw_aload_n dX3_put_12 rfl ?_
    refine pw_get (v := .ref (Z 2)) okX3 (k := 2) (by decide) lkX3_29 (oAt_put hA).1 rfl dX3_put_13 ?_
    refine pw_aload_n dX3_put_16 rfl ?_
    refine pw_get (v := .int (zI (p.1 3))) okX3 (k := 3) (by decide) lkX3_32 (oAt_put hA).1 rfl dX3_put_17 ?_
    refine pw_iload_n dX3_put_20 rfl ?_
    refine pw_iast (t := 0) rfl (oAt_put hA).2.2.1 (by omega) (by omega) dX3_put_21 ?_
    refine pw_h (oU2 hA) ?_
    refine pw_aload_n dX3_put_22 rfl ?_
    refine pw_dup dX3_put_23 rfl ?_
    refine pw_get (v := .int (zI (p.1 3))) okX3 (k := 3) (by decide) lkX3_32 (oAt_put hA).1 rfl dX3_put_24 ?_
    refine pw_iconst (v := zI (1)) dX3_put_27 (by decide) ?_
    refine pw_ziadd dX3_put_28 ?_
    refine pw_put (fs' := (ouObj w Z (va_up (p.1, (va_up p.2 (p.1 3).toNat (b))).1 3 ((p.1 3) + (1))))) okX3 (k := 3) (by decide) lkX3_32 rfl rfl rfl (oAt_put hA).1 (nlt rfl) rfl dX3_put_29 ?_
    refine pw_h oU0 ?_
    exact pw_vret dX3_put_32 rfl (nle rfl) (nle rfl) ⟨rfl, by rw [oApp_yes h3.1 (by omega)], rfl⟩
set_option maxHeartbeats 4000000 in
set_option maxRecDepth 100000 in
/-- Outer.putNumber(k) -/
theorem mX3_putNumber {E : pw_E} (htr : E.1.stackTraces = false) {h : pz_H} {n : Nat} {w : Int} {N NB : Nat} {Z : Nat → Nat} {p : oPr} {sh : Nat → Int} (hA : oAt w N NB Z p sh h) (h3 : 0 ≤ p.1 3 ∧ p.1 3 ≤ NB) (hNB : NB ≤ 100000) {k : Int} (hk : 0 ≤ k ∧ k < 100) : pw_M E yX3_putNumber YX3_putNumber (rmD 1 0 0) [.ref (Z 0), .int (zI (k))] h n (fun r h' n' => r = none ∧ h' = oP w N NB Z (oApp NB (numB k) p) sh h ∧ n' = n) (fun _ _ _ => False) := by
  refine pw_M_of (lv := [some (.ref (Z 0)), some (.int (zI (k)))]) (by decide) rfl rfl htr (nle rfl) rfl (fun L => ?_)
  refine pw_h (oP_id hA).symm ?_
  refine pw_iload_n dX3_putNumber_0 rfl ?_
  refine pw_bipush (v := zI (10)) dX3_putNumber_1 (by decide) ?_
  refine pw_icmp_lt (tgt := 17) dX3_putNumber_3 rfl (by omega) (by omega) (fun c3 => ?_) (fun c3 => ?_)
  ·
    refine pw_aload_n dX3_putNumber_17 rfl ?_
    refine pw_bipush (v := zI (48)) dX3_putNumber_18 (by decide) ?_
    refine pw_iload_n dX3_putNumber_20 rfl ?_
    refine pw_bipush (v := zI (10)) dX3_putNumber_21 (by decide) ?_
    refine pw_zirem dX3_putNumber_23 (by omega) (by omega) ?_
    refine pw_ziadd dX3_putNumber_24 ?_
    refine pw_callV (As := [.int (zI ((48) + ((k) % (10))))]) (b := (Z 0)) (rm := rmD 0 0 0) (mX3_put (p := p) htr (oAt_put hA) h3 hNB) rfl (oAt_put hA).1 rfl rfl ywX3_put rfl cwX3_43 ⟨nle rfl, nle rfl⟩ (nle rfl) ⟨nle rfl, nle rfl⟩ dX3_putNumber_25 ?_ (fun _ _ _ z => z.elim)
    intro r2 h2 n2 hq _
    rw [hq.1, hq.2.1, hq.2.2]
    show pw E YX3_putNumber _ _ 0 0 28 [some (.ref (Z 0)), some (.int (zI (k)))] [] (oP w N NB Z (oApp NB ([(48) + ((k) % (10))]) p) sh (oP w N NB Z p sh h)) n
    refine pw_h (h' := oP w N NB Z (oApp NB ([(48) + ((k) % (10))]) p) sh h) oP_put ?_
    exact pw_vret dX3_putNumber_28 rfl (nle rfl) (nle rfl) ⟨rfl, by unfold numB; rw [if_neg (by omega)]; first | done | rfl, rfl⟩
  ·
    refine pw_aload_n dX3_putNumber_6 rfl ?_
    refine pw_bipush (v := zI (48)) dX3_putNumber_7 (by decide) ?_
    refine pw_iload_n dX3_putNumber_9 rfl ?_
    refine pw_bipush (v := zI (10)) dX3_putNumber_10 (by decide) ?_
    refine pw_zidiv dX3_putNumber_12 (by omega) (by omega) ?_
    refine pw_ziadd dX3_putNumber_13 ?_
    refine pw_callV (As := [.int (zI ((48) + ((k) / (10))))]) (b := (Z 0)) (rm := rmD 0 0 0) (mX3_put (p := p) htr (oAt_put hA) h3 hNB) rfl (oAt_put hA).1 rfl rfl ywX3_put rfl cwX3_43 ⟨nle rfl, nle rfl⟩ (nle rfl) ⟨nle rfl, nle rfl⟩ dX3_putNumber_14 ?_ (fun _ _ _ z => z.elim)
    intro r2 h2 n2 hq _
    rw [hq.1, hq.2.1, hq.2.2]
    show pw E YX3_putNumber _ _ 0 0 17 [some (.ref (Z 0)), some (.int (zI (k)))] [] (oP w N NB Z (oApp NB ([(48) + ((k) / (10))]) p) sh (oP w N NB Z p sh h)) n
    refine pw_h (h' := oP w N NB Z (oApp NB ([(48) + ((k) / (10))]) p) sh h) oP_put ?_
    refine pw_aload_n dX3_putNumber_17 rfl ?_
    refine pw_bipush (v := zI (48)) dX3_putNumber_18 (by decide) ?_
    refine pw_iload_n dX3_putNumber_20 rfl ?_
    refine pw_bipush (v := zI (10)) dX3_putNumber_21 (by decide) ?_
    refine pw_zirem dX3_putNumber_23 (by omega) (by omega) ?_
    refine pw_ziadd dX3_putNumber_24 ?_
    refine pw_callV (As := [.int (zI ((48) + ((k) % (10))))]) (b := (Z 0)) (rm := rmD 0 0 0) (mX3_put (p := (oApp NB ([(48) + ((k) / (10))]) p)) htr (oAt_put hA) (oApp_3 h3) hNB) rfl (oAt_put hA).1 rfl rfl ywX3_put rfl cwX3_43 ⟨nle rfl, nle rfl⟩ (nle rfl) ⟨nle rfl, nle rfl⟩ dX3_putNumber_25 ?_ (fun _ _ _ z => z.elim)
    intro r2 h2 n2 hq _
    rw [hq.1, hq.2.1, hq.2.2]
    show pw E YX3_putNumber _ _ 0 0 28 [some (.ref (Z 0)), some (.int (zI (k)))] [] (oP w N NB Z (oApp NB ([(48) + ((k) % (10))]) (oApp NB ([(48) + ((k) / (10))]) p)) sh (oP w N NB Z (oApp NB ([(48) + ((k) / (10))]) p) sh h)) n
    rw [oApp_app (p := p) h3]
    refine pw_h (h' := oP w N NB Z (oApp NB ([(48) + ((k) / (10))] ++ [(48) + ((k) % (10))]) p) sh h) oP_put ?_
    exact pw_vret dX3_putNumber_28 rfl (nle rfl) (nle rfl) ⟨rfl, by unfold numB; rw [if_pos (by omega)]; first | done | rfl, rfl⟩
set_option maxHeartbeats 4000000 in
set_option maxRecDepth 100000 in
/-- Outer.beginSequence(b) -/
theorem mX3_beginSequence {E : pw_E} (htr : E.1.stackTraces = false) {h : pz_H} {n : Nat} {w : Int} {N NB : Nat} {Z : Nat → Nat} {p : oPr} {sh : Nat → Int} (hA : oAt w N NB Z p sh h) (h3 : 0 ≤ p.1 3 ∧ p.1 3 ≤ NB) (hNB : NB ≤ 100000) {b : Int} : pw_M E yX3_beginSequence YX3_beginSequence (rmD 1 0 0) [.ref (Z 0), .int (zI (b))] h n (fun r h' n' => r = none ∧ h' = oP w N NB Z (oApp NB ([27] ++ [91] ++ [b]) p) sh h ∧ n' = n) (fun _ _ _ => False) := by
  refine pw_M_of (lv := [some (.ref (Z 0)), some (.int (zI (b)))]) (by decide) rfl rfl htr (nle rfl) rfl (fun L => ?_)
  refine pw_h (oP_id hA).symm ?_
  refine pw_aload_n dX3_beginSequence_0 rfl ?_
  refine pw_bipush (v := zI (27)) dX3_beginSequence_1 (by decide) ?_
  refine pw_callV (As := [.int (zI (27))]) (b := (Z 0)) (rm := rmD 0 0 0) (mX3_put (p := p) htr (oAt_put hA) h3 hNB) rfl (oAt_put hA).1 rfl rfl ywX3_put rfl cwX3_43 ⟨nle rfl, nle rfl⟩ (nle rfl) ⟨nle rfl, nle rfl⟩ dX3_beginSequence_3 ?_ (fun _ _ _ z => z.elim)
  intro r2 h2 n2 hq _
  rw [hq.1, hq.2.1, hq.2.2]
  show pw E YX3_beginSequence _ _ 0 0 6 [some (.ref (Z 0)), some (.int (zI (b)))] [] (oP w N NB Z (oApp NB ([27]) p) sh (oP w N NB Z p sh h)) n
  refine pw_h (h' := oP w N NB Z (oApp NB ([27]) p) sh h) oP_put ?_
  refine pw_aload_n dX3_beginSequence_6 rfl ?_
  refine pw_bipush (v := zI (91)) dX3_beginSequence_7 (by decide) ?_
  refine pw_callV (As := [.int (zI (91))]) (b := (Z 0)) (rm := rmD 0 0 0) (mX3_put (p := (oApp NB ([27]) p)) htr (oAt_put hA) (oApp_3 h3) hNB) rfl (oAt_put hA).1 rfl rfl ywX3_put rfl cwX3_43 ⟨nle rfl, nle rfl⟩ (nle rfl) ⟨nle rfl, nle rfl⟩ dX3_beginSequence_9 ?_ (fun _ _ _ z => z.elim)
  intro r2 h2 n2 hq _
  rw [hq.1, hq.2.1, hq.2.2]
  show pw E YX3_beginSequence _ _ 0 0 12 [some (.ref (Z 0)), some (.int (zI (b)))] [] (oP w N NB Z (oApp NB ([91]) (oApp NB ([27]) p)) sh (oP w N NB Z (oApp NB ([27]) p) sh h)) n
  rw [oApp_app (p := p) h3]
  refine pw_h (h' := oP w N NB Z (oApp NB ([27] ++ [91]) p) sh h) oP_put ?_
  refine pw_aload_n dX3_beginSequence_12 rfl ?_
  refine pw_iload_n dX3_beginSequence_13 rfl ?_
  refine pw_callV (As := [.int (zI (b))]) (b := (Z 0)) (rm := rmD 0 0 0) (mX3_put (p := (oApp NB ([27] ++ [91]) p)) htr (oAt_put hA) (oApp_3 h3) hNB) rfl (oAt_put hA).1 rfl rfl ywX3_put rfl cwX3_43 ⟨nle rfl, nle rfl⟩ (nle rfl) ⟨nle rfl, nle rfl⟩ dX3_beginSequence_14 ?_ (fun _ _ _ z => z.elim)
  intro r2 h2 n2 hq _
  rw [hq.1, hq.2.1, hq.2.2]
  show pw E YX3_beginSequence _ _ 0 0 17 [some (.ref (Z 0)), some (.int (zI (b)))] [] (oP w N NB Z (oApp NB ([b]) (oApp NB ([27] ++ [91]) p)) sh (oP w N NB Z (oApp NB ([27] ++ [91]) p) sh h)) n
  rw [oApp_app (p := p) h3]
  refine pw_h (h' := oP w N NB Z (oApp NB ([27] ++ [91] ++ [b]) p) sh h) oP_put ?_
  exact pw_vret dX3_beginSequence_17 rfl (nle rfl) (nle rfl) ⟨rfl, rfl, rfl⟩
set_option maxHeartbeats 4000000 in
set_option maxRecDepth 100000 in
/-- Outer.putPart(there, k) -/
theorem mX3_putPart {E : pw_E} (htr : E.1.stackTraces = false) {h : pz_H} {n : Nat} {w : Int} {N NB : Nat} {Z : Nat → Nat} {p : oPr} {sh : Nat → Int} (hA : oAt w N NB Z p sh h) (h3 : 0 ≤ p.1 3 ∧ p.1 3 ≤ NB) (hNB : NB ≤ 100000) {there k : Int} (ht : 0 ≤ there ∧ there ≤ 1) (hk : 0 ≤ k ∧ k < 100) : pw_M E yX3_putPart YX3_putPart (rmD 2 0 0) [.ref (Z 0), .int (zI (there)), .int (zI (k))] h n (fun r h' n' => r = none ∧ h' = oP w N NB Z (oApp NB (partB there k) p) sh h ∧ n' = n) (fun _ _ _ => False) := by
  refine pw_M_of (lv := [some (.ref (Z 0)), some (.int (zI (there))), some (.int (zI (k)))]) (by decide) rfl rfl htr (nle rfl) rfl (fun L => ?_)
  refine pw_h (oP_id hA).symm ?_
  refine pw_iload_n dX3_putPart_0 rfl ?_
  refine pw_if_eq (tgt := 15) dX3_putPart_1 rfl (by omega) (fun c1 => ?_) (fun c1 => ?_)
  ·
    exact pw_vret dX3_putPart_15 rfl (nle rfl) (nle rfl) ⟨rfl, by unfold partB; rw [if_pos (by omega), oApp_nil h3], rfl⟩
  ·
    refine pw_aload_n dX3_putPart_4 rfl ?_
    refine pw_bipush (v := zI (59)) dX3_putPart_5 (by decide) ?_
    refine pw_callV (As := [.int (zI (59))]) (b := (Z 0)) (rm := rmD 0 0 0) (mX3_put (p := p) htr (oAt_put hA) h3 hNB) rfl (oAt_put hA).1 rfl rfl ywX3_put rfl cwX3_43 ⟨nle rfl, nle rfl⟩ (nle rfl) ⟨nle rfl, nle rfl⟩ dX3_putPart_7 ?_ (fun _ _ _ z => z.elim)
    intro r2 h2 n2 hq _
    rw [hq.1, hq.2.1, hq.2.2]
    show pw E YX3_putPart _ _ 0 0 10 [some (.ref (Z 0)), some (.int (zI (there))), some (.int (zI (k)))] [] (oP w N NB Z (oApp NB ([59]) p) sh (oP w N NB Z p sh h)) n
    refine pw_h (h' := oP w N NB Z (oApp NB ([59]) p) sh h) oP_put ?_
    refine pw_aload_n dX3_putPart_10 rfl ?_
    refine pw_iload_n dX3_putPart_11 rfl ?_
    refine pw_callV (As := [.int (zI (k))]) (b := (Z 0)) (rm := rmD 1 0 0) (mX3_putNumber (p := (oApp NB ([59]) p)) htr (oAt_put hA) (oApp_3 h3) hNB (by omega)) rfl (oAt_put hA).1 rfl rfl ywX3_putNumber rfl cwX3_52 ⟨nle rfl, nle rfl⟩ (nle rfl) ⟨nle rfl, nle rfl⟩ dX3_putPart_12 ?_ (fun _ _ _ z => z.elim)
    intro r2 h2 n2 hq _
    rw [hq.1, hq.2.1, hq.2.2]
    show pw E YX3_putPart _ _ 0 0 15 [some (.ref (Z 0)), some (.int (zI (there))), some (.int (zI (k)))] [] (oP w N NB Z (oApp NB (numB (k)) (oApp NB ([59]) p)) sh (oP w N NB Z (oApp NB ([59]) p) sh h)) n
    rw [oApp_app (p := p) h3]
    refine pw_h (h' := oP w N NB Z (oApp NB ([59] ++ numB (k)) p) sh h) oP_put ?_
    exact pw_vret dX3_putPart_15 rfl (nle rfl) (nle rfl) ⟨rfl, by unfold partB; rw [if_neg (by omega)]; first | done | rfl, rfl⟩
set_option maxHeartbeats 4000000 in
set_option maxRecDepth 100000 in
/-- Outer.begin() -/
theorem mX3_begin {E : pw_E} (htr : E.1.stackTraces = false) {h : pz_H} {n : Nat} {w : Int} {N NB : Nat} {Z : Nat → Nat} {p : oPr} {sh : Nat → Int} (hA : oAt w N NB Z p sh h) (h3 : 0 ≤ p.1 3 ∧ p.1 3 ≤ NB) (hNB : NB ≤ 100000) : pw_M E yX3_begin YX3_begin (rmD 0 0 0) [.ref (Z 0)] h n (fun r h' n' => r = none ∧ h' = oP w N NB Z (va_up p.1 3 0, p.2) sh h ∧ n' = n) (fun _ _ _ => False) := by
  refine pw_M_of (lv := [some (.ref (Z 0))]) (by decide) rfl rfl htr (nle rfl) rfl (fun L => ?_)
  refine pw_h (oP_id hA).symm ?_
  refine pw_aload_n dX3_begin_0 rfl ?_
  refine pw_iconst (v := zI (0)) dX3_begin_1 (by decide) ?_
  refine pw_put (fs' := (ouObj w Z (va_up p.1 3 (0)))) okX3 (k := 3) (by decide) lkX3_32 rfl rfl rfl (oAt_put hA).1 (nlt rfl) rfl dX3_begin_2 ?_
  refine pw_h oU0 ?_
  exact pw_vret dX3_begin_5 rfl (nle rfl) (nle rfl) ⟨rfl, rfl, rfl⟩
set_option maxHeartbeats 4000000 in
set_option maxRecDepth 100000 in
/-- Outer.moveTo(c, r) -/
theorem mX3_moveTo {E : pw_E} (htr : E.1.stackTraces = false) {h : pz_H} {n : Nat} {w : Int} {N NB : Nat} {Z : Nat → Nat} {p : oPr} {sh : Nat → Int} (hA : oAt w N NB Z p sh h) (h3 : 0 ≤ p.1 3 ∧ p.1 3 ≤ NB) (hNB : NB ≤ 100000) {c r : Int} (hc : 0 ≤ c ∧ c < 99) (hr : 0 ≤ r ∧ r < 99) (h4 : -1 ≤ p.1 4 ∧ p.1 4 < 99) (h5 : 0 ≤ p.1 5 ∧ p.1 5 < 99) : pw_M E yX3_moveTo YX3_moveTo (rmD 2 0 0) [.ref (Z 0), .int (zI (c)), .int (zI (r))] h n (fun r0 h' n' => r0 = none ∧ h' = oP w N NB Z (oMove NB c r p) sh h ∧ n' = n) (fun _ _ _ => False) := by
  refine pw_M_of (lv := [some (.ref (Z 0)), some (.int (zI (c))), some (.int (zI (r)))]) (by decide) rfl rfl htr (nle rfl) rfl (fun L => ?_)
  refine pw_h (oP_id hA).symm ?_
  refine pw_aload_n dX3_moveTo_0 rfl ?_
  refine pw_get (v := .int (zI (p.1 4))) okX3 (k := 4) (by decide) lkX3_46 (oAt_put hA).1 rfl dX3_moveTo_1 ?_
  refine pw_iload_n dX3_moveTo_4 rfl ?_
  refine pw_icmp_ne (tgt := 16) dX3_moveTo_5 rfl (by omega) (by omega) (fun c5 => ?_) (fun c5 => ?_)
  ·
    refine pw_aload_n dX3_moveTo_16 rfl ?_
    refine pw_iload_n dX3_moveTo_17 rfl ?_
    refine pw_put (fs' := (ouObj w Z (va_up p.1 4 (c)))) okX3 (k := 4) (by decide) lkX3_46 rfl rfl rfl (oAt_put hA).1 (nlt rfl) rfl dX3_moveTo_18 ?_
    refine pw_h oU0 ?_
    refine pw_aload_n dX3_moveTo_21 rfl ?_
    refine pw_iload_n dX3_moveTo_22 rfl ?_
    refine pw_put (fs' := (ouObj w Z (va_up (va_up p.1 4 (c), p.2).1 5 (r)))) okX3 (k := 5) (by decide) lkX3_55 rfl rfl rfl (oAt_put hA).1 (nlt rfl) rfl dX3_moveTo_23 ?_
    refine pw_h oU0 ?_
    refine pw_aload_n dX3_moveTo_26 rfl ?_
    refine pw_bipush (v := zI (27)) dX3_moveTo_27 (by decide) ?_
    refine pw_callV (As := [.int (zI (27))]) (b := (Z 0)) (rm := rmD 0 0 0) (mX3_put (p := (va_up (va_up p.1 4 (c), p.2).1 5 (r), (va_up p.1 4 (c), p.2).2)) htr (oAt_put hA) h3 hNB) rfl (oAt_put hA).1 rfl rfl ywX3_put rfl cwX3_43 ⟨nle rfl, nle rfl⟩ (nle rfl) ⟨nle rfl, nle rfl⟩ dX3_moveTo_29 ?_ (fun _ _ _ z => z.elim)
    intro r2 h2 n2 hq _
    rw [hq.1, hq.2.1, hq.2.2]
    show pw E YX3_moveTo _ _ 0 0 32 [some (.ref (Z 0)), some (.int (zI (c))), some (.int (zI (r)))] [] (oP w N NB Z (oApp NB ([27]) (va_up (va_up p.1 4 (c), p.2).1 5 (r), (va_up p.1 4 (c), p.2).2)) sh (oP w N NB Z (va_up (va_up p.1 4 (c), p.2).1 5 (r), (va_up p.1 4 (c), p.2).2) sh h)) n
    refine pw_h (h' := oP w N NB Z (oApp NB ([27]) (va_up (va_up p.1 4 (c), p.2).1 5 (r), (va_up p.1 4 (c), p.2).2)) sh h) oP_put ?_
    refine pw_aload_n dX3_moveTo_32 rfl ?_
    refine pw_bipush (v := zI (91)) dX3_moveTo_33 (by decide) ?_
    refine pw_callV (As := [.int (zI (91))]) (b := (Z 0)) (rm := rmD 0 0 0) (mX3_put (p := (oApp NB ([27]) (va_up (va_up p.1 4 (c), p.2).1 5 (r), (va_up p.1 4 (c), p.2).2))) htr (oAt_put hA) (oApp_3 h3) hNB) rfl (oAt_put hA).1 rfl rfl ywX3_put rfl cwX3_43 ⟨nle rfl, nle rfl⟩ (nle rfl) ⟨nle rfl, nle rfl⟩ dX3_moveTo_35 ?_ (fun _ _ _ z => z.elim)
    intro r2 h2 n2 hq _
    rw [hq.1, hq.2.1, hq.2.2]
    show pw E YX3_moveTo _ _ 0 0 38 [some (.ref (Z 0)), some (.int (zI (c))), some (.int (zI (r)))] [] (oP w N NB Z (oApp NB ([91]) (oApp NB ([27]) (va_up (va_up p.1 4 (c), p.2).1 5 (r), (va_up p.1 4 (c), p.2).2))) sh (oP w N NB Z (oApp NB ([27]) (va_up (va_up p.1 4 (c), p.2).1 5 (r), (va_up p.1 4 (c), p.2).2)) sh h)) n
    rw [oApp_app (p := (va_up (va_up p.1 4 (c), p.2).1 5 (r), (va_up p.1 4 (c), p.2).2)) h3]
    refine pw_h (h' := oP w N NB Z (oApp NB ([27] ++ [91]) (va_up (va_up p.1 4 (c), p.2).1 5 (r), (va_up p.1 4 (c), p.2).2)) sh h) oP_put ?_
    refine pw_aload_n dX3_moveTo_38 rfl ?_
    refine pw_aload_n dX3_moveTo_39 rfl ?_
    refine pw_get (v := .int (zI (r))) okX3 (k := 5) (by decide) lkX3_55 (oAt_put hA).1 rfl dX3_moveTo_40 ?_
    refine pw_iconst (v := zI (1)) dX3_moveTo_43 (by decide) ?_
    refine pw_ziadd dX3_moveTo_44 ?_
    refine pw_callV (As := [.int (zI (r + 1))]) (b := (Z 0)) (rm := rmD 1 0 0) (mX3_putNumber (p := (oApp NB ([27] ++ [91]) (va_up (va_up p.1 4 (c), p.2).1 5 (r), (va_up p.1 4 (c), p.2).2))) htr (oAt_put hA) (oApp_3 h3) hNB (by omega)) rfl (oAt_put hA).1 rfl rfl ywX3_putNumber rfl cwX3_52 ⟨nle rfl, nle rfl⟩ (nle rfl) ⟨nle rfl, nle rfl⟩ dX3_moveTo_45 ?_ (fun _ _ _ z => z.elim)
    intro r2 h2 n2 hq _
    rw [hq.1, hq.2.1, hq.2.2]
    show pw E YX3_moveTo _ _ 0 0 48 [some (.ref (Z 0)), some (.int (zI (c))), some (.int (zI (r)))] [] (oP w N NB Z (oApp NB (numB (r + 1)) (oApp NB ([27] ++ [91]) (va_up (va_up p.1 4 (c), p.2).1 5 (r), (va_up p.1 4 (c), p.2).2))) sh (oP w N NB Z (oApp NB ([27] ++ [91]) (va_up (va_up p.1 4 (c), p.2).1 5 (r), (va_up p.1 4 (c), p.2).2)) sh h)) n
    rw [oApp_app (p := (va_up (va_up p.1 4 (c), p.2).1 5 (r), (va_up p.1 4 (c), p.2).2)) h3]
    refine pw_h (h' := oP w N NB Z (oApp NB ([27] ++ [91] ++ numB (r + 1)) (va_up (va_up p.1 4 (c), p.2).1 5 (r), (va_up p.1 4 (c), p.2).2)) sh h) oP_put ?_
    refine pw_aload_n dX3_moveTo_48 rfl ?_
    refine pw_bipush (v := zI (59)) dX3_moveTo_49 (by decide) ?_
    refine pw_callV (As := [.int (zI (59))]) (b := (Z 0)) (rm := rmD 0 0 0) (mX3_put (p := (oApp NB ([27] ++ [91] ++ numB (r + 1)) (va_up (va_up p.1 4 (c), p.2).1 5 (r), (va_up p.1 4 (c), p.2).2))) htr (oAt_put hA) (oApp_3 h3) hNB) rfl (oAt_put hA).1 rfl rfl ywX3_put rfl cwX3_43 ⟨nle rfl, nle rfl⟩ (nle rfl) ⟨nle rfl, nle rfl⟩ dX3_moveTo_51 ?_ (fun _ _ _ z => z.elim)
    intro r2 h2 n2 hq _
    rw [hq.1, hq.2.1, hq.2.2]
    show pw E YX3_moveTo _ _ 0 0 54 [some (.ref (Z 0)), some (.int (zI (c))), some (.int (zI (r)))] [] (oP w N NB Z (oApp NB ([59]) (oApp NB ([27] ++ [91] ++ numB (r + 1)) (va_up (va_up p.1 4 (c), p.2).1 5 (r), (va_up p.1 4 (c), p.2).2))) sh (oP w N NB Z (oApp NB ([27] ++ [91] ++ numB (r + 1)) (va_up (va_up p.1 4 (c), p.2).1 5 (r), (va_up p.1 4 (c), p.2).2)) sh h)) n
    rw [oApp_app (p := (va_up (va_up p.1 4 (c), p.2).1 5 (r), (va_up p.1 4 (c), p.2).2)) h3]
    refine pw_h (h' := oP w N NB Z (oApp NB ([27] ++ [91] ++ numB (r + 1) ++ [59]) (va_up (va_up p.1 4 (c), p.2).1 5 (r), (va_up p.1 4 (c), p.2).2)) sh h) oP_put ?_
    refine pw_aload_n dX3_moveTo_54 rfl ?_
    refine pw_aload_n dX3_moveTo_55 rfl ?_
    refine pw_get (v := .int (zI (c))) okX3 (k := 4) (by decide) lkX3_46 (oAt_put hA).1 rfl dX3_moveTo_56 ?_
    refine pw_iconst (v := zI (1)) dX3_moveTo_59 (by decide) ?_
    refine pw_ziadd dX3_moveTo_60 ?_
    refine pw_callV (As := [.int (zI (c + 1))]) (b := (Z 0)) (rm := rmD 1 0 0) (mX3_putNumber (p := (oApp NB ([27] ++ [91] ++ numB (r + 1) ++ [59]) (va_up (va_up p.1 4 (c), p.2).1 5 (r), (va_up p.1 4 (c), p.2).2))) htr (oAt_put hA) (oApp_3 h3) hNB (by omega)) rfl (oAt_put hA).1 rfl rfl ywX3_putNumber rfl cwX3_52 ⟨nle rfl, nle rfl⟩ (nle rfl) ⟨nle rfl, nle rfl⟩ dX3_moveTo_61 ?_ (fun _ _ _ z => z.elim)
    intro r2 h2 n2 hq _
    rw [hq.1, hq.2.1, hq.2.2]
    show pw E YX3_moveTo _ _ 0 0 64 [some (.ref (Z 0)), some (.int (zI (c))), some (.int (zI (r)))] [] (oP w N NB Z (oApp NB (numB (c + 1)) (oApp NB ([27] ++ [91] ++ numB (r + 1) ++ [59]) (va_up (va_up p.1 4 (c), p.2).1 5 (r), (va_up p.1 4 (c), p.2).2))) sh (oP w N NB Z (oApp NB ([27] ++ [91] ++ numB (r + 1) ++ [59]) (va_up (va_up p.1 4 (c), p.2).1 5 (r), (va_up p.1 4 (c), p.2).2)) sh h)) n
    rw [oApp_app (p := (va_up (va_up p.1 4 (c), p.2).1 5 (r), (va_up p.1 4 (c), p.2).2)) h3]
    refine pw_h (h' := oP w N NB Z (oApp NB ([27] ++ [91] ++ numB (r + 1) ++ [59] ++ numB (c + 1)) (va_up (va_up p.1 4 (c), p.2).1 5 (r), (va_up p.1 4 (c), p.2).2)) sh h) oP_put ?_
    refine pw_aload_n dX3_moveTo_64 rfl ?_
    refine pw_bipush (v := zI (72)) dX3_moveTo_65 (by decide) ?_
    refine pw_callV (As := [.int (zI (72))]) (b := (Z 0)) (rm := rmD 0 0 0) (mX3_put (p := (oApp NB ([27] ++ [91] ++ numB (r + 1) ++ [59] ++ numB (c + 1)) (va_up (va_up p.1 4 (c), p.2).1 5 (r), (va_up p.1 4 (c), p.2).2))) htr (oAt_put hA) (oApp_3 h3) hNB) rfl (oAt_put hA).1 rfl rfl ywX3_put rfl cwX3_43 ⟨nle rfl, nle rfl⟩ (nle rfl) ⟨nle rfl, nle rfl⟩ dX3_moveTo_67 ?_ (fun _ _ _ z => z.elim)
    intro r2 h2 n2 hq _
    rw [hq.1, hq.2.1, hq.2.2]
    show pw E YX3_moveTo _ _ 0 0 70 [some (.ref (Z 0)), some (.int (zI (c))), some (.int (zI (r)))] [] (oP w N NB Z (oApp NB ([72]) (oApp NB ([27] ++ [91] ++ numB (r + 1) ++ [59] ++ numB (c + 1)) (va_up (va_up p.1 4 (c), p.2).1 5 (r), (va_up p.1 4 (c), p.2).2))) sh (oP w N NB Z (oApp NB ([27] ++ [91] ++ numB (r + 1) ++ [59] ++ numB (c + 1)) (va_up (va_up p.1 4 (c), p.2).1 5 (r), (va_up p.1 4 (c), p.2).2)) sh h)) n
    rw [oApp_app (p := (va_up (va_up p.1 4 (c), p.2).1 5 (r), (va_up p.1 4 (c), p.2).2)) h3]
    refine pw_h (h' := oP w N NB Z (oApp NB ([27] ++ [91] ++ numB (r + 1) ++ [59] ++ numB (c + 1) ++ [72]) (va_up (va_up p.1 4 (c), p.2).1 5 (r), (va_up p.1 4 (c), p.2).2)) sh h) oP_put ?_
    exact pw_vret dX3_moveTo_70 rfl (nle rfl) (nle rfl) ⟨rfl, by unfold oMove; rw [if_neg (by omega)]; first | done | rfl, rfl⟩
  ·
    refine pw_aload_n dX3_moveTo_8 rfl ?_
    refine pw_get (v := .int (zI (p.1 5))) okX3 (k := 5) (by decide) lkX3_55 (oAt_put hA).1 rfl dX3_moveTo_9 ?_
    refine pw_iload_n dX3_moveTo_12 rfl ?_
    refine pw_icmp_eq (tgt := 70) dX3_moveTo_13 rfl (by omega) (by omega) (fun c13 => ?_) (fun c13 => ?_)
    ·
      exact pw_vret dX3_moveTo_70 rfl (nle rfl) (nle rfl) ⟨rfl, by unfold oMove; rw [if_pos (by omega)]; first | done | rfl, rfl⟩
    ·
      refine pw_aload_n dX3_moveTo_16 rfl ?_
      refine pw_iload_n dX3_moveTo_17 rfl ?_
      refine pw_put (fs' := (ouObj w Z (va_up p.1 4 (c)))) okX3 (k := 4) (by decide) lkX3_46 rfl rfl rfl (oAt_put hA).1 (nlt rfl) rfl dX3_moveTo_18 ?_
      refine pw_h oU0 ?_
      refine pw_aload_n dX3_moveTo_21 rfl ?_
      refine pw_iload_n dX3_moveTo_22 rfl ?_
      refine pw_put (fs' := (ouObj w Z (va_up (va_up p.1 4 (c), p.2).1 5 (r)))) okX3 (k := 5) (by decide) lkX3_55 rfl rfl rfl (oAt_put hA).1 (nlt rfl) rfl dX3_moveTo_23 ?_
      refine pw_h oU0 ?_
      refine pw_aload_n dX3_moveTo_26 rfl ?_
      refine pw_bipush (v := zI (27)) dX3_moveTo_27 (by decide) ?_
      refine pw_callV (As := [.int (zI (27))]) (b := (Z 0)) (rm := rmD 0 0 0) (mX3_put (p := (va_up (va_up p.1 4 (c), p.2).1 5 (r), (va_up p.1 4 (c), p.2).2)) htr (oAt_put hA) h3 hNB) rfl (oAt_put hA).1 rfl rfl ywX3_put rfl cwX3_43 ⟨nle rfl, nle rfl⟩ (nle rfl) ⟨nle rfl, nle rfl⟩ dX3_moveTo_29 ?_ (fun _ _ _ z => z.elim)
      intro r2 h2 n2 hq _
      rw [hq.1, hq.2.1, hq.2.2]
      show pw E YX3_moveTo _ _ 0 0 32 [some (.ref (Z 0)), some (.int (zI (c))), some (.int (zI (r)))] [] (oP w N NB Z (oApp NB ([27]) (va_up (va_up p.1 4 (c), p.2).1 5 (r), (va_up p.1 4 (c), p.2).2)) sh (oP w N NB Z (va_up (va_up p.1 4 (c), p.2).1 5 (r), (va_up p.1 4 (c), p.2).2) sh h)) n
      refine pw_h (h' := oP w N NB Z (oApp NB ([27]) (va_up (va_up p.1 4 (c), p.2).1 5 (r), (va_up p.1 4 (c), p.2).2)) sh h) oP_put ?_
      refine pw_aload_n dX3_moveTo_32 rfl ?_
      refine pw_bipush (v := zI (91)) dX3_moveTo_33 (by decide) ?_
      refine pw_callV (As := [.int (zI (91))]) (b := (Z 0)) (rm := rmD 0 0 0) (mX3_put (p := (oApp NB ([27]) (va_up (va_up p.1 4 (c), p.2).1 5 (r), (va_up p.1 4 (c), p.2).2))) htr (oAt_put hA) (oApp_3 h3) hNB) rfl (oAt_put hA).1 rfl rfl ywX3_put rfl cwX3_43 ⟨nle rfl, nle rfl⟩ (nle rfl) ⟨nle rfl, nle rfl⟩ dX3_moveTo_35 ?_ (fun _ _ _ z => z.elim)
      intro r2 h2 n2 hq _
      rw [hq.1, hq.2.1, hq.2.2]
      show pw E YX3_moveTo _ _ 0 0 38 [some (.ref (Z 0)), some (.int (zI (c))), some (.int (zI (r)))] [] (oP w N NB Z (oApp NB ([91]) (oApp NB ([27]) (va_up (va_up p.1 4 (c), p.2).1 5 (r), (va_up p.1 4 (c), p.2).2))) sh (oP w N NB Z (oApp NB ([27]) (va_up (va_up p.1 4 (c), p.2).1 5 (r), (va_up p.1 4 (c), p.2).2)) sh h)) n
      rw [oApp_app (p := (va_up (va_up p.1 4 (c), p.2).1 5 (r), (va_up p.1 4 (c), p.2).2)) h3]
      refine pw_h (h' := oP w N NB Z (oApp NB ([27] ++ [91]) (va_up (va_up p.1 4 (c), p.2).1 5 (r), (va_up p.1 4 (c), p.2).2)) sh h) oP_put ?_
      refine pw_aload_n dX3_moveTo_38 rfl ?_
      refine pw_aload_n dX3_moveTo_39 rfl ?_
      refine pw_get (v := .int (zI (r))) okX3 (k := 5) (by decide) lkX3_55 (oAt_put hA).1 rfl dX3_moveTo_40 ?_
      refine pw_iconst (v := zI (1)) dX3_moveTo_43 (by decide) ?_
      refine pw_ziadd dX3_moveTo_44 ?_
      refine pw_callV (As := [.int (zI (r + 1))]) (b := (Z 0)) (rm := rmD 1 0 0) (mX3_putNumber (p := (oApp NB ([27] ++ [91]) (va_up (va_up p.1 4 (c), p.2).1 5 (r), (va_up p.1 4 (c), p.2).2))) htr (oAt_put hA) (oApp_3 h3) hNB (by omega)) rfl (oAt_put hA).1 rfl rfl ywX3_putNumber rfl cwX3_52 ⟨nle rfl, nle rfl⟩ (nle rfl) ⟨nle rfl, nle rfl⟩ dX3_moveTo_45 ?_ (fun _ _ _ z => z.elim)
      intro r2 h2 n2 hq _
      rw [hq.1, hq.2.1, hq.2.2]
      show pw E YX3_moveTo _ _ 0 0 48 [some (.ref (Z 0)), some (.int (zI (c))), some (.int (zI (r)))] [] (oP w N NB Z (oApp NB (numB (r + 1)) (oApp NB ([27] ++ [91]) (va_up (va_up p.1 4 (c), p.2).1 5 (r), (va_up p.1 4 (c), p.2).2))) sh (oP w N NB Z (oApp NB ([27] ++ [91]) (va_up (va_up p.1 4 (c), p.2).1 5 (r), (va_up p.1 4 (c), p.2).2)) sh h)) n
      rw [oApp_app (p := (va_up (va_up p.1 4 (c), p.2).1 5 (r), (va_up p.1 4 (c), p.2).2)) h3]
      refine pw_h (h' := oP w N NB Z (oApp NB ([27] ++ [91] ++ numB (r + 1)) (va_up (va_up p.1 4 (c), p.2).1 5 (r), (va_up p.1 4 (c), p.2).2)) sh h) oP_put ?_
      refine pw_aload_n dX3_moveTo_48 rfl ?_
      refine pw_bipush (v := zI (59)) dX3_moveTo_49 (by decide) ?_
      refine pw_callV (As := [.int (zI (59))]) (b := (Z 0)) (rm := rmD 0 0 0) (mX3_put (p := (oApp NB ([27] ++ [91] ++ numB (r + 1)) (va_up (va_up p.1 4 (c), p.2).1 5 (r), (va_up p.1 4 (c), p.2).2))) htr (oAt_put hA) (oApp_3 h3) hNB) rfl (oAt_put hA).1 rfl rfl ywX3_put rfl cwX3_43 ⟨nle rfl, nle rfl⟩ (nle rfl) ⟨nle rfl, nle rfl⟩ dX3_moveTo_51 ?_ (fun _ _ _ z => z.elim)
      intro r2 h2 n2 hq _
      rw [hq.1, hq.2.1, hq.2.2]
      show pw E YX3_moveTo _ _ 0 0 54 [some (.ref (Z 0)), some (.int (zI (c))), some (.int (zI (r)))] [] (oP w N NB Z (oApp NB ([59]) (oApp NB ([27] ++ [91] ++ numB (r + 1)) (va_up (va_up p.1 4 (c), p.2).1 5 (r), (va_up p.1 4 (c), p.2).2))) sh (oP w N NB Z (oApp NB ([27] ++ [91] ++ numB (r + 1)) (va_up (va_up p.1 4 (c), p.2).1 5 (r), (va_up p.1 4 (c), p.2).2)) sh h)) n
      rw [oApp_app (p := (va_up (va_up p.1 4 (c), p.2).1 5 (r), (va_up p.1 4 (c), p.2).2)) h3]
      refine pw_h (h' := oP w N NB Z (oApp NB ([27] ++ [91] ++ numB (r + 1) ++ [59]) (va_up (va_up p.1 4 (c), p.2).1 5 (r), (va_up p.1 4 (c), p.2).2)) sh h) oP_put ?_
      refine pw_aload_n dX3_moveTo_54 rfl ?_
      refine pw_aload_n dX3_moveTo_55 rfl ?_
      refine pw_get (v := .int (zI (c))) okX3 (k := 4) (by decide) lkX3_46 (oAt_put hA).1 rfl dX3_moveTo_56 ?_
      refine pw_iconst (v := zI (1)) dX3_moveTo_59 (by decide) ?_
      refine pw_ziadd dX3_moveTo_60 ?_
      refine pw_callV (As := [.int (zI (c + 1))]) (b := (Z 0)) (rm := rmD 1 0 0) (mX3_putNumber (p := (oApp NB ([27] ++ [91] ++ numB (r + 1) ++ [59]) (va_up (va_up p.1 4 (c), p.2).1 5 (r), (va_up p.1 4 (c), p.2).2))) htr (oAt_put hA) (oApp_3 h3) hNB (by omega)) rfl (oAt_put hA).1 rfl rfl ywX3_putNumber rfl cwX3_52 ⟨nle rfl, nle rfl⟩ (nle rfl) ⟨nle rfl, nle rfl⟩ dX3_moveTo_61 ?_ (fun _ _ _ z => z.elim)
      intro r2 h2 n2 hq _
      rw [hq.1, hq.2.1, hq.2.2]
      show pw E YX3_moveTo _ _ 0 0 64 [some (.ref (Z 0)), some (.int (zI (c))), some (.int (zI (r)))] [] (oP w N NB Z (oApp NB (numB (c + 1)) (oApp NB ([27] ++ [91] ++ numB (r + 1) ++ [59]) (va_up (va_up p.1 4 (c), p.2).1 5 (r), (va_up p.1 4 (c), p.2).2))) sh (oP w N NB Z (oApp NB ([27] ++ [91] ++ numB (r + 1) ++ [59]) (va_up (va_up p.1 4 (c), p.2).1 5 (r), (va_up p.1 4 (c), p.2).2)) sh h)) n
      rw [oApp_app (p := (va_up (va_up p.1 4 (c), p.2).1 5 (r), (va_up p.1 4 (c), p.2).2)) h3]
      refine pw_h (h' := oP w N NB Z (oApp NB ([27] ++ [91] ++ numB (r + 1) ++ [59] ++ numB (c + 1)) (va_up (va_up p.1 4 (c), p.2).1 5 (r), (va_up p.1 4 (c), p.2).2)) sh h) oP_put ?_
      refine pw_aload_n dX3_moveTo_64 rfl ?_
      refine pw_bipush (v := zI (72)) dX3_moveTo_65 (by decide) ?_
      refine pw_callV (As := [.int (zI (72))]) (b := (Z 0)) (rm := rmD 0 0 0) (mX3_put (p := (oApp NB ([27] ++ [91] ++ numB (r + 1) ++ [59] ++ numB (c + 1)) (va_up (va_up p.1 4 (c), p.2).1 5 (r), (va_up p.1 4 (c), p.2).2))) htr (oAt_put hA) (oApp_3 h3) hNB) rfl (oAt_put hA).1 rfl rfl ywX3_put rfl cwX3_43 ⟨nle rfl, nle rfl⟩ (nle rfl) ⟨nle rfl, nle rfl⟩ dX3_moveTo_67 ?_ (fun _ _ _ z => z.elim)
      intro r2 h2 n2 hq _
      rw [hq.1, hq.2.1, hq.2.2]
      show pw E YX3_moveTo _ _ 0 0 70 [some (.ref (Z 0)), some (.int (zI (c))), some (.int (zI (r)))] [] (oP w N NB Z (oApp NB ([72]) (oApp NB ([27] ++ [91] ++ numB (r + 1) ++ [59] ++ numB (c + 1)) (va_up (va_up p.1 4 (c), p.2).1 5 (r), (va_up p.1 4 (c), p.2).2))) sh (oP w N NB Z (oApp NB ([27] ++ [91] ++ numB (r + 1) ++ [59] ++ numB (c + 1)) (va_up (va_up p.1 4 (c), p.2).1 5 (r), (va_up p.1 4 (c), p.2).2)) sh h)) n
      rw [oApp_app (p := (va_up (va_up p.1 4 (c), p.2).1 5 (r), (va_up p.1 4 (c), p.2).2)) h3]
      refine pw_h (h' := oP w N NB Z (oApp NB ([27] ++ [91] ++ numB (r + 1) ++ [59] ++ numB (c + 1) ++ [72]) (va_up (va_up p.1 4 (c), p.2).1 5 (r), (va_up p.1 4 (c), p.2).2)) sh h) oP_put ?_
      exact pw_vret dX3_moveTo_70 rfl (nle rfl) (nle rfl) ⟨rfl, by unfold oMove; rw [if_neg (by omega)]; first | done | rfl, rfl⟩
