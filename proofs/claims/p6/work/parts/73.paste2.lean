theorem lkX9_11 : Cond.fieldLink RX9 11 (TX9 2).1 (TX9 2).2.1 (TX9 2).2.2.1 ∈ pw_G := pw_in 784 (by decide +kernel) (by decide +kernel)
theorem lkX9_88 : Cond.fieldLink RX9 88 (TX9 9).1 (TX9 9).2.1 (TX9 9).2.2.1 ∈ pw_G := pw_in 791 (by decide +kernel) (by decide +kernel)
theorem lkX9_215 : Cond.fieldLinkNest RX9 215 (TX4 2).1 (TX4 2).2.1 (TX4 2).2.2.1 "PaneHouse" ∈ pw_N := by decide +kernel
theorem cwX9_263 : Cond.methodLink RX9 263 yX8_add ∈ pw_G ∧ Cond.instanceMethod yX8_add ∈ pw_G ∧ Cond.selects RX8 yX8_add yX8_add ∈ pw_G := ⟨pw_in 1164 (by decide +kernel) (by decide +kernel), pw_in 1165 (by decide +kernel) (by decide +kernel), pw_in 1166 (by decide +kernel) (by decide +kernel)⟩
def YX9_paste : pw_Y := (RX9, "paste", cX9_paste, 2, none)
theorem ywX9_paste : pw_y yX9_paste YX9_paste 0 := ⟨by decide +kernel, by decide +kernel, by decide +kernel, pw_in 1163 (by decide +kernel) (by decide +kernel), pw_in 79 (by decide +kernel) (by decide +kernel)⟩
theorem lkX9_36 : Cond.fieldLink RX9 36 (TX9 3).1 (TX9 3).2.1 (TX9 3).2.2.1 ∈ pw_G := pw_in 785 (by decide +kernel) (by decide +kernel)
theorem lkX9_182 : Cond.fieldLinkNest RX9 182 (TX2 0).1 (TX2 0).2.1 (TX2 0).2.2.1 "PaneHouse" ∈ pw_N := by decide +kernel
theorem lkX9_186 : Cond.fieldLinkNest RX9 186 (TX5 0).1 (TX5 0).2.1 (TX5 0).2.2.1 "PaneHouse" ∈ pw_N := by decide +kernel
theorem lkX9_129 : Cond.fieldLinkNest RX9 129 (TX4 0).1 (TX4 0).2.1 (TX4 0).2.2.1 "PaneHouse" ∈ pw_N := by decide +kernel
theorem lkX9_197 : Cond.fieldLinkNest RX9 197 (TX7 5).1 (TX7 5).2.1 (TX7 5).2.2.1 "PaneHouse" ∈ pw_N := by decide +kernel
def YX9_cursorColumn : pw_Y := (RX9, "cursorColumn", cX9_cursorColumn, 2, (some .int))
theorem ywX9_cursorColumn : pw_y yX9_cursorColumn YX9_cursorColumn 0 := ⟨by decide +kernel, by decide +kernel, by decide +kernel, pw_in 900 (by decide +kernel) (by decide +kernel), pw_in 79 (by decide +kernel) (by decide +kernel)⟩
theorem lkX9_191 : Cond.fieldLinkNest RX9 191 (TX5 1).1 (TX5 1).2.1 (TX5 1).2.2.1 "PaneHouse" ∈ pw_N := by decide +kernel
theorem lkX9_198 : Cond.fieldLinkNest RX9 198 (TX7 6).1 (TX7 6).2.1 (TX7 6).2.2.1 "PaneHouse" ∈ pw_N := by decide +kernel
def YX9_cursorRow : pw_Y := (RX9, "cursorRow", cX9_cursorRow, 2, (some .int))
theorem ywX9_cursorRow : pw_y yX9_cursorRow YX9_cursorRow 0 := ⟨by decide +kernel, by decide +kernel, by decide +kernel, pw_in 904 (by decide +kernel) (by decide +kernel), pw_in 79 (by decide +kernel) (by decide +kernel)⟩
set_option maxHeartbeats 4000000 in
set_option maxRecDepth 100000 in
theorem lX9_paste {E : pw_E} (htr : E.1.stackTraces = false) {K : pw_K} {n : Nat} {ho pn ly ou pi li cl pa sc rd ty la : Nat} {W HH csz foc pre cm of : Int} {pv : Nat → Option Nat} {g : Nat → Int} (hpv : pv foc.toNat = some pa) (hfo : 0 ≤ foc ∧ foc < 8) (hcs : 0 ≤ csz ∧ csz ≤ 400) (hne : ty ≠ la) (nhot : ho ≠ ty) (nhol : ho ≠ la) (npnt : pn ≠ ty) (npnl : pn ≠ la) (nclt : cl ≠ ty) (ncll : cl ≠ la) (npat : pa ≠ ty) (npal : pa ≠ la) : ∀ (j : Nat) (i : Int) (h : pz_H) (c : clC), (csz - i).toNat = j → (0 ≤ i ∧ i ≤ 400) → h ho = pz_o 12 (hoL pn ly ou pi li cl W HH csz foc pre) → h pn = pz_r 3 8 pv → h cl = pz_z 0 400 g → h pa = pz_o 7 [.ref sc, .ref rd, .ref ty, .int (zI cm), .int (zI of)] → h ty = pz_o 11 [.ref la, .int (zI c.2)] → h la = pz_z 0 64 c.1 → (0 ≤ c.2 ∧ c.2 ≤ 900000000 + i) → K.2.2.1 none (tyP ty la (tyRun g j i c) h) n → pw E YX9_paste (rmD 1 0 0) K 0 0 2 [some (.ref ho), some (.int (zI (i)))] [] h n := by
  intro j
  induction j with
  | zero =>
    intro i h c hj h1 hho hpn hcl hpa hty hla htt hQ
    refine pw_iload_n dX9_paste_2 rfl ?_
    refine pw_aload_n dX9_paste_3 rfl ?_
    refine pw_get (v := .int (zI (csz))) okX9 (k := 8) (by decide) lkX9_126 hho rfl dX9_paste_4 ?_
    refine pw_icmp_ge (tgt := 37) dX9_paste_7 rfl (by omega) (by omega) (fun c7 => ?_) (fun c7 => ?_)
    ·
      exact pw_vret dX9_paste_37 rfl (nle rfl) (nle rfl) (by rw [show tyRun g 0 i c = c from rfl, tyP_id hty hla] at hQ; exact hQ)
    · exfalso; omega
  | succ j ih =>
    intro i h c hj h1 hho hpn hcl hpa hty hla htt hQ
    refine pw_iload_n dX9_paste_2 rfl ?_
    refine pw_aload_n dX9_paste_3 rfl ?_
    refine pw_get (v := .int (zI (csz))) okX9 (k := 8) (by decide) lkX9_126 hho rfl dX9_paste_4 ?_
    refine pw_icmp_ge (tgt := 37) dX9_paste_7 rfl (by omega) (by omega) (fun c7 => ?_) (fun c7 => ?_)
    · exfalso; omega
    ·
      refine pw_aload_n dX9_paste_10 rfl ?_
      refine pw_get (v := .ref pn) okX9 (k := 2) (by decide) lkX9_11 hho rfl dX9_paste_11 ?_
      refine pw_aload_n dX9_paste_14 rfl ?_
      refine pw_get (v := .int (zI (foc))) okX9 (k := 9) (by decide) lkX9_88 hho rfl dX9_paste_15 ?_
      refine pw_aaldO (t := 3) rfl hpn (by omega) (by decide) dX9_paste_18 ?_
      refine pw_some (hpv) ?_
      refine pw_getN (v := .ref ty) okX4 (k := 2) (by decide) lkX9_215 hpa rfl dX9_paste_19 ?_
      refine pw_aload_n dX9_paste_22 rfl ?_
      refine pw_get (v := .ref cl) okX9 (k := 7) (by decide) lkX9_15 hho rfl dX9_paste_23 ?_
      refine pw_iload_n dX9_paste_26 rfl ?_
      refine pw_iald (t := 0) rfl hcl (by omega) (by decide) dX9_paste_27 ?_
      refine pw_callV (As := [.int (zI (g (i).toNat))]) (b := ty) (rm := rmD 0 0 0) (mX8_add htr hty hla hne (by omega)) rfl hty rfl rfl ywX8_add rfl cwX9_263 ⟨nle rfl, nle rfl⟩ (nle rfl) ⟨nle rfl, nle rfl⟩ dX9_paste_28 ?_ (fun _ _ _ z => z.elim)
      intro r2 h2 n2 hq _
      rw [hq.1, hq.2.1, hq.2.2]
      show pw E YX9_paste _ _ 0 0 31 [some (.ref ho), some (.int (zI (i)))] [] (tyP ty la (tyB (g (i).toNat) c) h) n
      refine pw_ziinc (lv' := [some (.ref ho), some (.int (zI (i + 1)))]) dX9_paste_31 rfl (by decide) rfl rfl ?_
      refine pw_goto (tgt := 2) dX9_paste_34 rfl ?_
      rw [show tyRun g (j + 1) i c = tyRun g j (i + 1) (tyB (g i.toNat) c) from rfl] at hQ
      exact ih (i + 1) _ (tyB (g i.toNat) c) (by omega) (by omega) ((tyP_o nhot nhol).trans hho) ((tyP_o npnt npnl).trans hpn) ((tyP_o nclt ncll).trans hcl) ((tyP_o npat npal).trans hpa) tyP_ty (tyP_la hne) (by show 0 ≤ c.2 + 1 ∧ c.2 + 1 ≤ 900000000 + (i + 1); omega) (by rw [tyP_put]; exact hQ)
set_option maxHeartbeats 4000000 in
set_option maxRecDepth 100000 in
/-- paste() -/
theorem mX9_paste {E : pw_E} (htr : E.1.stackTraces = false) {h : pz_H} {n : Nat} {ho pn ly ou pi li cl pa sc rd ty la : Nat} {W HH csz foc pre cm of : Int} {pv : Nat → Option Nat} {g : Nat → Int} {c : clC} (hho : h ho = pz_o 12 (hoL pn ly ou pi li cl W HH csz foc pre)) (hpn : h pn = pz_r 3 8 pv) (hcl : h cl = pz_z 0 400 g) (hpa : h pa = pz_o 7 [.ref sc, .ref rd, .ref ty, .int (zI cm), .int (zI of)]) (hpv : pv foc.toNat = some pa) (hfo : 0 ≤ foc ∧ foc < 8) (hcs : 0 ≤ csz ∧ csz ≤ 400) (hne : ty ≠ la) (nhot : ho ≠ ty) (nhol : ho ≠ la) (npnt : pn ≠ ty) (npnl : pn ≠ la) (nclt : cl ≠ ty) (ncll : cl ≠ la) (npat : pa ≠ ty) (npal : pa ≠ la) (hty : h ty = pz_o 11 [.ref la, .int (zI c.2)]) (hla : h la = pz_z 0 64 c.1) (htt : 0 ≤ c.2 ∧ c.2 ≤ 900000000) : pw_M E yX9_paste YX9_paste (rmD 1 0 0) [.ref ho] h n (fun r h' n' => r = none ∧ h' = tyP ty la (tyRun g csz.toNat 0 c) h ∧ n' = n) (fun _ _ _ => False) := by
  refine pw_M_of (lv := [some (.ref ho), none]) (by decide) rfl rfl htr (nle rfl) rfl (fun L => ?_)
  refine pw_iconst (v := zI (0)) dX9_paste_0 (by decide) ?_
  refine pw_istore_n (lv' := [some (.ref ho), some (.int (zI (0)))]) dX9_paste_1 (by decide) rfl rfl ?_
  exact lX9_paste htr hpv hfo hcs hne nhot nhol npnt npnl nclt ncll npat npal _ 0 _ c rfl (by decide) hho hpn hcl hpa hty hla (by omega) ⟨rfl, by rw [Int.sub_zero], rfl⟩
set_option maxHeartbeats 4000000 in
set_option maxRecDepth 100000 in
/-- X9_cursorColumn -/
theorem mX9_cursorColumn {E : pw_E} (htr : E.1.stackTraces = false) {h : pz_H} {n : Nat} {ho pn ly ou pi li cl pa rd ty lf rt le : Nat} {W HH csz foc pre cm of : Int} {pv lv : Nat → Option Nat} {x : ptC} {I : Nat → Nat} {F : Nat → Int} (hho : h ho = pz_o 12 (hoL pn ly ou pi li cl W HH csz foc pre)) (hpn : h pn = pz_r 3 8 pv) (hly : h ly = pz_o 5 [.ref lf, .ref rt]) (hlf : h lf = pz_r 4 8 lv) (hpa : h pa = pz_o 7 [.ref (I 0), .ref rd, .ref ty, .int (zI cm), .int (zI of)]) (hsc : h (I 0) = pz_o 10 (scObj I F)) (hle : h le = pz_o 8 (ptL x)) (hpv : pv foc.toNat = some pa) (hlv : lv foc.toNat = some le) (hfo : 0 ≤ foc ∧ foc < 8) : pw_M E yX9_cursorColumn YX9_cursorColumn (rmD 0 0 0) [.ref ho] h n (fun r h' n' => r = some (.int (zI (x.1 0 + F 5))) ∧ h' = h ∧ n' = n) (fun _ _ _ => False) := by
  refine pw_M_of (lv := [some (.ref ho), none]) (by decide) rfl rfl htr (nle rfl) rfl (fun L => ?_)
  refine pw_aload_n dX9_cursorColumn_0 rfl ?_
  refine pw_get (v := .ref ly) okX9 (k := 3) (by decide) lkX9_36 hho rfl dX9_cursorColumn_1 ?_
  refine pw_getN (v := .ref lf) okX2 (k := 0) (by decide) lkX9_182 hly rfl dX9_cursorColumn_4 ?_
  refine pw_aload_n dX9_cursorColumn_7 rfl ?_
  refine pw_get (v := .int (zI (foc))) okX9 (k := 9) (by decide) lkX9_88 hho rfl dX9_cursorColumn_8 ?_
  refine pw_aaldO (t := 4) rfl hlf (by omega) (by decide) dX9_cursorColumn_11 ?_
  refine pw_astore_nO (lv' := [some (.ref ho), some (rv (lv (foc).toNat))]) dX9_cursorColumn_12 (by decide) rfl rfl ?_
  refine pw_aload_nO dX9_cursorColumn_13 rfl ?_
  refine pw_ifnonnullO (tgt := 21) dX9_cursorColumn_14 rfl (fun c14 => ?_) (fun c14 => ?_)
  ·
    obtain ⟨q14, hq14⟩ := Option.ne_none_iff_exists'.mp c14
    have e14 : q14 = le := Option.some.inj (hq14.symm.trans hlv)
    refine pw_aload_nO dX9_cursorColumn_21 rfl ?_
    refine pw_some (hq14) ?_
    refine pw_getN (v := .int (zI (x.1 0))) okX5 (k := 0) (by decide) lkX9_186 (by rw [e14]; exact hle) rfl dX9_cursorColumn_22 ?_
    refine pw_aload_n dX9_cursorColumn_25 rfl ?_
    refine pw_get (v := .ref pn) okX9 (k := 2) (by decide) lkX9_11 hho rfl dX9_cursorColumn_26 ?_
    refine pw_aload_n dX9_cursorColumn_29 rfl ?_
    refine pw_get (v := .int (zI (foc))) okX9 (k := 9) (by decide) lkX9_88 hho rfl dX9_cursorColumn_30 ?_
    refine pw_aaldO (t := 3) rfl hpn (by omega) (by decide) dX9_cursorColumn_33 ?_
    refine pw_some (hpv) ?_
    refine pw_getN (v := .ref (I 0)) okX4 (k := 0) (by decide) lkX9_129 hpa rfl dX9_cursorColumn_34 ?_
    refine pw_getN (v := .int (zI (F 5))) okX7 (k := 5) (by decide) lkX9_197 hsc rfl dX9_cursorColumn_37 ?_
    refine pw_ziadd dX9_cursorColumn_40 ?_
    exact pw_iret dX9_cursorColumn_41 rfl (nle rfl) (nle rfl) ⟨rfl, rfl, rfl⟩
  · exact absurd c14 (by rw [hlv]; exact fun z => by cases z)
set_option maxHeartbeats 4000000 in
set_option maxRecDepth 100000 in
/-- X9_cursorRow -/
theorem mX9_cursorRow {E : pw_E} (htr : E.1.stackTraces = false) {h : pz_H} {n : Nat} {ho pn ly ou pi li cl pa rd ty lf rt le : Nat} {W HH csz foc pre cm of : Int} {pv lv : Nat → Option Nat} {x : ptC} {I : Nat → Nat} {F : Nat → Int} (hho : h ho = pz_o 12 (hoL pn ly ou pi li cl W HH csz foc pre)) (hpn : h pn = pz_r 3 8 pv) (hly : h ly = pz_o 5 [.ref lf, .ref rt]) (hlf : h lf = pz_r 4 8 lv) (hpa : h pa = pz_o 7 [.ref (I 0), .ref rd, .ref ty, .int (zI cm), .int (zI of)]) (hsc : h (I 0) = pz_o 10 (scObj I F)) (hle : h le = pz_o 8 (ptL x)) (hpv : pv foc.toNat = some pa) (hlv : lv foc.toNat = some le) (hfo : 0 ≤ foc ∧ foc < 8) : pw_M E yX9_cursorRow YX9_cursorRow (rmD 0 0 0) [.ref ho] h n (fun r h' n' => r = some (.int (zI (x.1 1 + F 6))) ∧ h' = h ∧ n' = n) (fun _ _ _ => False) := by
  refine pw_M_of (lv := [some (.ref ho), none]) (by decide) rfl rfl htr (nle rfl) rfl (fun L => ?_)
  refine pw_aload_n dX9_cursorRow_0 rfl ?_
  refine pw_get (v := .ref ly) okX9 (k := 3) (by decide) lkX9_36 hho rfl dX9_cursorRow_1 ?_
  refine pw_getN (v := .ref lf) okX2 (k := 0) (by decide) lkX9_182 hly rfl dX9_cursorRow_4 ?_
  refine pw_aload_n dX9_cursorRow_7 rfl ?_
  refine pw_get (v := .int (zI (foc))) okX9 (k := 9) (by decide) lkX9_88 hho rfl dX9_cursorRow_8 ?_
  refine pw_aaldO (t := 4) rfl hlf (by omega) (by decide) dX9_cursorRow_11 ?_
  refine pw_astore_nO (lv' := [some (.ref ho), some (rv (lv (foc).toNat))]) dX9_cursorRow_12 (by decide) rfl rfl ?_
  refine pw_aload_nO dX9_cursorRow_13 rfl ?_
  refine pw_ifnonnullO (tgt := 21) dX9_cursorRow_14 rfl (fun c14 => ?_) (fun c14 => ?_)
  ·
    obtain ⟨q14, hq14⟩ := Option.ne_none_iff_exists'.mp c14
    have e14 : q14 = le := Option.some.inj (hq14.symm.trans hlv)
    refine pw_aload_nO dX9_cursorRow_21 rfl ?_
    refine pw_some (hq14) ?_
    refine pw_getN (v := .int (zI (x.1 1))) okX5 (k := 1) (by decide) lkX9_191 (by rw [e14]; exact hle) rfl dX9_cursorRow_22 ?_
    refine pw_aload_n dX9_cursorRow_25 rfl ?_
    refine pw_get (v := .ref pn) okX9 (k := 2) (by decide) lkX9_11 hho rfl dX9_cursorRow_26 ?_
    refine pw_aload_n dX9_cursorRow_29 rfl ?_
    refine pw_get (v := .int (zI (foc))) okX9 (k := 9) (by decide) lkX9_88 hho rfl dX9_cursorRow_30 ?_
    refine pw_aaldO (t := 3) rfl hpn (by omega) (by decide) dX9_cursorRow_33 ?_
    refine pw_some (hpv) ?_
    refine pw_getN (v := .ref (I 0)) okX4 (k := 0) (by decide) lkX9_129 hpa rfl dX9_cursorRow_34 ?_
    refine pw_getN (v := .int (zI (F 6))) okX7 (k := 6) (by decide) lkX9_198 hsc rfl dX9_cursorRow_37 ?_
    refine pw_ziadd dX9_cursorRow_40 ?_
    exact pw_iret dX9_cursorRow_41 rfl (nle rfl) (nle rfl) ⟨rfl, rfl, rfl⟩
  · exact absurd c14 (by rw [hlv]; exact fun z => by cases z)
