theorem lkX9_126 : Cond.fieldLink RX9 126 (TX9 8).1 (TX9 8).2.1 (TX9 8).2.2.1 ∈ pw_G := pw_in 790 (by decide +kernel) (by decide +kernel)
theorem lkX9_15 : Cond.fieldLink RX9 15 (TX9 7).1 (TX9 7).2.1 (TX9 7).2.2.1 ∈ pw_G := pw_in 789 (by decide +kernel) (by decide +kernel)
def YX9_clipByte : pw_Y := (RX9, "clipByte", cX9_clipByte, 2, none)
theorem ywX9_clipByte : pw_y yX9_clipByte YX9_clipByte 1 := ⟨by decide +kernel, by decide +kernel, by decide +kernel, pw_in 1242 (by decide +kernel) (by decide +kernel), pw_in 79 (by decide +kernel) (by decide +kernel)⟩
theorem lkX9_50 : Cond.fieldLink RX9 50 (TX9 6).1 (TX9 6).2.1 (TX9 6).2.2.1 ∈ pw_G := pw_in 788 (by decide +kernel) (by decide +kernel)
theorem cwX9_138 : Cond.methodLink RX9 138 yX9_clipByte ∈ pw_G ∧ Cond.instanceMethod yX9_clipByte ∈ pw_G ∧ Cond.selects RX9 yX9_clipByte yX9_clipByte ∈ pw_G := ⟨pw_in 1239 (by decide +kernel) (by decide +kernel), pw_in 1241 (by decide +kernel) (by decide +kernel), pw_in 30 (by decide +kernel) (by decide +kernel)⟩
def YX9_clipLine : pw_Y := (RX9, "clipLine", cX9_clipLine, 5, none)
theorem ywX9_clipLine : pw_y yX9_clipLine YX9_clipLine 2 := ⟨by decide +kernel, by decide +kernel, by decide +kernel, pw_in 1246 (by decide +kernel) (by decide +kernel), pw_in 79 (by decide +kernel) (by decide +kernel)⟩
set_option maxHeartbeats 4000000 in
set_option maxRecDepth 100000 in
/-- clipByte(b) -/
theorem mX9_clipByte {E : pw_E} (htr : E.1.stackTraces = false) {h : pz_H} {n : Nat} {ho pn ly ou pi li cl : Nat} {W HH foc pre : Int} {c : clC} (hho : h ho = pz_o 12 (hoL pn ly ou pi li cl W HH c.2 foc pre)) (hcl : h cl = pz_z 0 400 c.1) (hne : ho ≠ cl) (hcs : 0 ≤ c.2 ∧ c.2 ≤ 400) {b : Int} : pw_M E yX9_clipByte YX9_clipByte (rmD 0 0 0) [.ref ho, .int (zI b)] h n (fun r h' n' => r = none ∧ h' = clP ho pn ly ou pi li cl W HH foc pre (clB b c) h ∧ n' = n) (fun _ _ _ => False) := by
  refine pw_M_of (lv := [some (.ref ho), some (.int (zI (b)))]) (by decide) rfl rfl htr (nle rfl) rfl (fun L => ?_)
  refine pw_aload_n dX9_clipByte_0 rfl ?_
  refine pw_get (v := .int (zI (c.2))) okX9 (k := 8) (by decide) lkX9_126 hho rfl dX9_clipByte_1 ?_
  refine pw_sipush (v := zI (400)) dX9_clipByte_4 (by decide) ?_
  refine pw_icmp_ge (tgt := 30) dX9_clipByte_7 rfl (by omega) (by omega) (fun c7 => ?_) (fun c7 => ?_)
  ·
    exact pw_vret dX9_clipByte_30 rfl (nle rfl) (nle rfl) ⟨rfl, by unfold clB; rw [if_neg (show ¬ c.2 < 400 by omega), clP_id hho hcl], rfl⟩
  ·
    refine pw_aload_n dX9_clipByte_10 rfl ?_
    refine pw_get (v := .ref cl) okX9 (k := 7) (by decide) lkX9_15 hho rfl dX9_clipByte_11 ?_
    refine pw_aload_n dX9_clipByte_14 rfl ?_
    refine pw_get (v := .int (zI (c.2))) okX9 (k := 8) (by decide) lkX9_126 hho rfl dX9_clipByte_15 ?_
    refine pw_iload_n dX9_clipByte_18 rfl ?_
    refine pw_iast (t := 0) rfl hcl (by omega) (by decide) dX9_clipByte_19 ?_
    refine pw_aload_n dX9_clipByte_20 rfl ?_
    refine pw_dup dX9_clipByte_21 rfl ?_
    refine pw_get (v := .int (zI (c.2))) okX9 (k := 8) (by decide) lkX9_126 ((va_up_ne _ _ hne).trans hho) rfl dX9_clipByte_22 ?_
    refine pw_iconst (v := zI (1)) dX9_clipByte_25 (by decide) ?_
    refine pw_ziadd dX9_clipByte_26 ?_
    refine pw_put (fs' := (hoL pn ly ou pi li cl W HH ((c.2) + (1)) (foc) (pre))) okX9 (k := 8) (by decide) lkX9_126 rfl rfl rfl ((va_up_ne _ _ hne).trans hho) (nlt rfl) rfl dX9_clipByte_27 ?_
    exact pw_vret dX9_clipByte_30 rfl (nle rfl) (nle rfl) ⟨rfl, by unfold clB; rw [if_pos (show c.2 < 400 by omega)]; rfl, rfl⟩
set_option maxHeartbeats 4000000 in
set_option maxRecDepth 100000 in
theorem lX9_clip {E : pw_E} (htr : E.1.stackTraces = false) {K : pw_K} {n : Nat} {ho pn ly ou pi li cl : Nat} {W HH foc pre : Int} {NL : Nat} {l : Nat → Int} (hNL : NL ≤ 100000) (hl0 : ∀ k, 0 ≤ l k ∧ l k < 1000000) (hne : ho ≠ cl) (hn1 : li ≠ ho) (hn2 : li ≠ cl) {f to e : Int} (he : -1 ≤ e ∧ e < NL) : ∀ (j : Nat) (i : Int) (h : pz_H) (c : clC), (e + 1 - i).toNat = j → (0 ≤ i ∧ i ≤ 200000) → h ho = pz_o 12 (hoL pn ly ou pi li cl W HH c.2 foc pre) → h cl = pz_z 0 400 c.1 → h li = pz_z 0 NL l → (0 ≤ c.2 ∧ c.2 ≤ 400) → K.2.2.1 none (clP ho pn ly ou pi li cl W HH foc pre (clRun l j i c) h) n → pw E YX9_clipLine (rmD 1 0 0) K 0 0 31 [some (.ref ho), some (.int (zI (f))), some (.int (zI (to))), some (.int (zI (e))), some (.int (zI (i)))] [] h n := by
  intro j
  induction j with
  | zero =>
    intro i h c hj h1 hho hcl hli hcs hQ
    refine pw_iload dX9_clipLine_31 rfl ?_
    refine pw_iload_n dX9_clipLine_33 rfl ?_
    refine pw_icmp_gt (tgt := 58) dX9_clipLine_34 rfl (by omega) (by omega) (fun c34 => ?_) (fun c34 => ?_)
    ·
      exact pw_vret dX9_clipLine_58 rfl (nle rfl) (nle rfl) (by rw [show clRun l 0 i c = c from rfl, clP_id hho hcl] at hQ; exact hQ)
    · exfalso; omega
  | succ j ih =>
    intro i h c hj h1 hho hcl hli hcs hQ
    refine pw_iload dX9_clipLine_31 rfl ?_
    refine pw_iload_n dX9_clipLine_33 rfl ?_
    refine pw_icmp_gt (tgt := 58) dX9_clipLine_34 rfl (by omega) (by omega) (fun c34 => ?_) (fun c34 => ?_)
    · exfalso; omega
    ·
      refine pw_aload_n dX9_clipLine_37 rfl ?_
      refine pw_aload_n dX9_clipLine_38 rfl ?_
      refine pw_get (v := .ref li) okX9 (k := 6) (by decide) lkX9_50 hho rfl dX9_clipLine_39 ?_
      refine pw_iload dX9_clipLine_42 rfl ?_
      refine pw_iald (t := 0) rfl hli (by omega) (by omega) dX9_clipLine_44 ?_
      have hv := hl0 i.toNat
      refine pw_sipush (v := zI (128)) dX9_clipLine_45 (by decide) ?_
      refine pw_zirem dX9_clipLine_48 (by omega) (by omega) ?_
      refine pw_callV (As := [.int (zI ((l (i).toNat) % (128)))]) (b := ho) (rm := rmD 0 0 0) (mX9_clipByte htr hho hcl hne hcs) rfl hho rfl rfl ywX9_clipByte rfl cwX9_138 ⟨nle rfl, nle rfl⟩ (nle rfl) ⟨nle rfl, nle rfl⟩ dX9_clipLine_49 ?_ (fun _ _ _ z => z.elim)
      intro r2 h2 n2 hq _
      rw [hq.1, hq.2.1, hq.2.2]
      show pw E YX9_clipLine _ _ 0 0 52 [some (.ref ho), some (.int (zI (f))), some (.int (zI (to))), some (.int (zI (e))), some (.int (zI (i)))] [] (clP ho pn ly ou pi li cl W HH foc pre (clB ((l (i).toNat) % (128)) c) h) n
      refine pw_ziinc (lv' := [some (.ref ho), some (.int (zI (f))), some (.int (zI (to))), some (.int (zI (e))), some (.int (zI (i + 1)))]) dX9_clipLine_52 rfl (by decide) rfl rfl ?_
      refine pw_goto (tgt := 31) dX9_clipLine_55 rfl ?_
      rw [show clRun l (j + 1) i c = clRun l j (i + 1) (clB (l i.toNat % 128) c) from rfl] at hQ
      exact ih (i + 1) _ _ (by omega) (by omega) clP_ho (clP_cl hne) ((clP_o hn1 hn2).trans hli) (clB_ok hcs) (by rw [clP_put hne]; exact hQ)
set_option maxHeartbeats 4000000 in
set_option maxRecDepth 100000 in
theorem lX9_back {E : pw_E} (htr : E.1.stackTraces = false) {K : pw_K} {h : pz_H} {n : Nat} {ho pn ly ou pi li cl : Nat} {W HH foc pre : Int} {c : clC} {NL : Nat} {l : Nat → Int} (hNL : NL ≤ 100000) (hl0 : ∀ k, 0 ≤ l k ∧ l k < 1000000) (hne : ho ≠ cl) (hn1 : li ≠ ho) (hn2 : li ≠ cl) {f to : Int} (hho : h ho = pz_o 12 (hoL pn ly ou pi li cl W HH c.2 foc pre)) (hcl : h cl = pz_z 0 400 c.1) (hli : h li = pz_z 0 NL l) (hcs : 0 ≤ c.2 ∧ c.2 ≤ 400) (hf : 0 ≤ f ∧ f ≤ 100000) : ∀ (j : Nat) (e : Int) (y : Option Value), (e + 1 - f).toNat = j → (-1 ≤ e ∧ e < NL) → K.2.2.1 none (clP ho pn ly ou pi li cl W HH foc pre (clRun l (clEnd l j e + 1 - f).toNat f c) h) n → pw E YX9_clipLine (rmD 1 0 0) K 0 0 2 [some (.ref ho), some (.int (zI (f))), some (.int (zI (to))), some (.int (zI (e))), y] [] h n := by
  intro j
  induction j with
  | zero =>
    intro e y hj h1 hQ
    refine pw_iload_n dX9_clipLine_2 rfl ?_
    refine pw_iload_n dX9_clipLine_3 rfl ?_
    refine pw_icmp_lt (tgt := 28) dX9_clipLine_4 rfl (by omega) (by omega) (fun c4 => ?_) (fun c4 => ?_)
    ·
      refine pw_iload_n dX9_clipLine_28 rfl ?_
      refine pw_istore (lv' := [some (.ref ho), some (.int (zI (f))), some (.int (zI (to))), some (.int (zI (e))), some (.int (zI (f)))]) dX9_clipLine_29 (by decide) rfl rfl ?_
      exact lX9_clip htr hNL hl0 hne hn1 hn2 (by omega) _ _ _ _ rfl (by omega) hho hcl hli hcs (by rw [show clEnd l 0 e = e from rfl] at hQ; exact hQ)
    · exfalso; omega
  | succ j ih =>
    intro e y hj h1 hQ
    refine pw_iload_n dX9_clipLine_2 rfl ?_
    refine pw_iload_n dX9_clipLine_3 rfl ?_
    refine pw_icmp_lt (tgt := 28) dX9_clipLine_4 rfl (by omega) (by omega) (fun c4 => ?_) (fun c4 => ?_)
    · exfalso; omega
    ·
      refine pw_aload_n dX9_clipLine_7 rfl ?_
      refine pw_get (v := .ref li) okX9 (k := 6) (by decide) lkX9_50 hho rfl dX9_clipLine_8 ?_
      refine pw_iload_n dX9_clipLine_11 rfl ?_
      refine pw_iald (t := 0) rfl hli (by omega) (by omega) dX9_clipLine_12 ?_
      have hv := hl0 e.toNat
      refine pw_sipush (v := zI (128)) dX9_clipLine_13 (by decide) ?_
      refine pw_zirem dX9_clipLine_16 (by omega) (by omega) ?_
      refine pw_bipush (v := zI (32)) dX9_clipLine_17 (by decide) ?_
      refine pw_icmp_ne (tgt := 28) dX9_clipLine_19 rfl (by omega) (by omega) (fun c19 => ?_) (fun c19 => ?_)
      ·
        refine pw_iload_n dX9_clipLine_28 rfl ?_
        refine pw_istore (lv' := [some (.ref ho), some (.int (zI (f))), some (.int (zI (to))), some (.int (zI (e))), some (.int (zI (f)))]) dX9_clipLine_29 (by decide) rfl rfl ?_
        exact lX9_clip htr hNL hl0 hne hn1 hn2 (by omega) _ _ _ _ rfl (by omega) hho hcl hli hcs (by rw [show clEnd l (j + 1) e = if l e.toNat % 128 = 32 then clEnd l j (e - 1) else e from rfl, if_neg (by omega)] at hQ; exact hQ)
      ·
        refine pw_ziinc (lv' := [some (.ref ho), some (.int (zI (f))), some (.int (zI (to))), some (.int (zI (e + (-1)))), y]) dX9_clipLine_22 rfl (by decide) rfl rfl ?_
        refine pw_goto (tgt := 2) dX9_clipLine_25 rfl ?_
        rw [show clEnd l (j + 1) e = if l e.toNat % 128 = 32 then clEnd l j (e - 1) else e from rfl, if_pos (by omega)] at hQ
        exact ih _ y (by omega) (by omega) hQ
set_option maxHeartbeats 4000000 in
set_option maxRecDepth 100000 in
/-- clipLine(from, to) -/
theorem mX9_clipLine {E : pw_E} (htr : E.1.stackTraces = false) {h : pz_H} {n : Nat} {ho pn ly ou pi li cl : Nat} {W HH foc pre : Int} {c : clC} {NL : Nat} {l : Nat → Int} (hNL : NL ≤ 100000) (hl0 : ∀ k, 0 ≤ l k ∧ l k < 1000000) (hne : ho ≠ cl) (hn1 : li ≠ ho) (hn2 : li ≠ cl) {f to : Int} (hho : h ho = pz_o 12 (hoL pn ly ou pi li cl W HH c.2 foc pre)) (hcl : h cl = pz_z 0 400 c.1) (hli : h li = pz_z 0 NL l) (hcs : 0 ≤ c.2 ∧ c.2 ≤ 400) (hf : 0 ≤ f ∧ f ≤ 100000) (hto : -1 ≤ to ∧ to < NL) : pw_M E yX9_clipLine YX9_clipLine (rmD 1 0 0) [.ref ho, .int (zI f), .int (zI to)] h n (fun r h' n' => r = none ∧ h' = clP ho pn ly ou pi li cl W HH foc pre (clRun l (clEnd l (to + 1 - f).toNat to + 1 - f).toNat f c) h ∧ n' = n) (fun _ _ _ => False) := by
  refine pw_M_of (lv := [some (.ref ho), some (.int (zI (f))), some (.int (zI (to))), none, none]) (by decide) rfl rfl htr (nle rfl) rfl (fun L => ?_)
  refine pw_iload_n dX9_clipLine_0 rfl ?_
  refine pw_istore_n (lv' := [some (.ref ho), some (.int (zI (f))), some (.int (zI (to))), some (.int (zI (to))), none]) dX9_clipLine_1 (by decide) rfl rfl ?_
  exact lX9_back htr hNL hl0 hne hn1 hn2 hho hcl hli hcs hf _ _ _ rfl hto ⟨rfl, rfl, rfl⟩
