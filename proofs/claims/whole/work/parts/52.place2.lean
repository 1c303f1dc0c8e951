theorem lkX2_55 : Cond.fieldLinkNest RX2 55 (TX5 4).1 (TX5 4).2.1 (TX5 4).2.2.1 "PaneHouse" ∈ pw_N := by decide +kernel
theorem cwX2_39 : Cond.methodLink RX2 39 yX5_length ∈ pw_G ∧ Cond.instanceMethod yX5_length ∈ pw_G ∧ Cond.selects RX5 yX5_length yX5_length ∈ pw_G := ⟨pw_in 1124 (by decide +kernel) (by decide +kernel), pw_in 1125 (by decide +kernel) (by decide +kernel), pw_in 1126 (by decide +kernel) (by decide +kernel)⟩
theorem lkX2_59 : Cond.fieldLinkNest RX2 59 (TX5 0).1 (TX5 0).2.1 (TX5 0).2.2.1 "PaneHouse" ∈ pw_N := by decide +kernel
theorem lkX2_62 : Cond.fieldLinkNest RX2 62 (TX5 1).1 (TX5 1).2.1 (TX5 1).2.2.1 "PaneHouse" ∈ pw_N := by decide +kernel
theorem lkX2_24 : Cond.fieldLinkNest RX2 24 (TX5 2).1 (TX5 2).2.1 (TX5 2).2.2.1 "PaneHouse" ∈ pw_N := by decide +kernel
theorem lkX2_28 : Cond.fieldLinkNest RX2 28 (TX5 3).1 (TX5 3).2.1 (TX5 3).2.2.1 "PaneHouse" ∈ pw_N := by decide +kernel
theorem cwX2_69 : Cond.methodLink RX2 69 yX5_isSplit ∈ pw_G ∧ Cond.instanceMethod yX5_isSplit ∈ pw_G ∧ Cond.selects RX5 yX5_isSplit yX5_isSplit ∈ pw_G := ⟨pw_in 829 (by decide +kernel) (by decide +kernel), pw_in 830 (by decide +kernel) (by decide +kernel), pw_in 831 (by decide +kernel) (by decide +kernel)⟩
theorem lkX2_49 : Cond.fieldLinkNest RX2 49 (TX5 5).1 (TX5 5).2.1 (TX5 5).2.2.1 "PaneHouse" ∈ pw_N := by decide +kernel
theorem cwX2_81 : Cond.methodLink RX2 81 Lib.Math.min.name ∈ pw_G := pw_in 1138 (by decide +kernel) (by decide +kernel)
theorem cwX2_87 : Cond.methodLink RX2 87 Lib.Math.max.name ∈ pw_G := pw_in 1139 (by decide +kernel) (by decide +kernel)
theorem cwX2_65 : Cond.methodLink RX2 65 yX2_share ∈ pw_G ∧ Cond.static yX2_share ∈ pw_G := ⟨pw_in 1132 (by decide +kernel) (by decide +kernel), pw_in 1133 (by decide +kernel) (by decide +kernel)⟩
def YX2_share : pw_Y := (RX2, "share", cX2_share, 5, none)
theorem ywX2_share : pw_y yX2_share YX2_share 3 := ⟨by decide +kernel, by decide +kernel, by decide +kernel, pw_in 1134 (by decide +kernel) (by decide +kernel), pw_in 86 (by decide +kernel) (by decide +kernel)⟩
def YX2_place : pw_Y := (RX2, "place", cX2_place, 10, none)
theorem ywX2_place : pw_y yX2_place YX2_place 6 := ⟨by decide +kernel, by decide +kernel, by decide +kernel, pw_in 1137 (by decide +kernel) (by decide +kernel), pw_in 86 (by decide +kernel) (by decide +kernel)⟩
set_option maxHeartbeats 4000000 in
set_option maxRecDepth 100000 in
/-- Layout.place, out of share with one depth more -/
theorem mX2_place_of {E : pw_E} (htr : E.1.stackTraces = false) {h : pz_H} {n k : Nat} {D : Nat → Bool} (hsh : ∀ (L : Int) (a : Nat) (sz d : Int) (P : Nat → ptC), d = 9 - (k : Int) → ptBd L P → L + plE k ≤ 10000 → D a = true → ptCl D P → szOk P a sz → pw_M E yX2_share YX2_share (rmD (2 * k + 1) 0 0) [.ref a, .int (zI sz), .int (zI d)] (ptPut D P h) n (fun r h' n' => r = none ∧ h' = ptPut D (plShare k a sz P) h ∧ n' = n) (fun _ _ _ => False)) {L c r w q d : Int} {a : Nat} {P : Nat → ptC} (hd : d = 8 - (k : Int)) (hk9 : k ≤ 9) (hP : ptBd L P) (hL : L + 2 + plE k ≤ 10000) (hDa : D a = true) (hcl : ptCl D P) (hw : -(L + 2) ≤ w ∧ w ≤ 100) (hqq : -(L + 2) ≤ q ∧ q ≤ 100) : pw_M E yX2_place YX2_place (rmD (2 * k + 2) 0 0) [.ref a, .int (zI (c)), .int (zI (r)), .int (zI (w)), .int (zI (q)), .int (zI (d))] (ptPut D P h) n (fun r0 h' n' => r0 = none ∧ h' = ptPut D (plW (plShare k) a c r w q P) h ∧ n' = n) (fun _ _ _ => False) := by
  have hdn := (hP.2 a).2.2
  have hl0 := ptLn_b hP a ((P a).1 4)
  have h0 := hP.1
  have he := plE_0 k
  refine pw_M_of (lv := [some (.ref a), some (.int (zI (c))), some (.int (zI (r))), some (.int (zI (w))), some (.int (zI (q))), some (.int (zI (d))), none, none, none, none]) (by decide) rfl rfl htr (nle rfl) rfl (fun _ => ?_)
  refine pw_aload_n dX2_place_0 rfl ?_
  refine pw_aload_n dX2_place_1 rfl ?_
  refine pw_getN (v := .int (zI ((P a).1 4))) okX5 (k := 4) (by decide) lkX2_55 (ptAt hDa) rfl dX2_place_2 ?_
  refine pw_callV (As := [.int (zI ((P a).1 4))]) (b := a) (rm := rmD 0 0 0) (mX5_length htr (ptAt hDa) (hdn)) rfl (ptAt hDa) rfl rfl ywX5_length rfl cwX2_39 (rmC (by omega) (nle rfl)) (nle rfl) ⟨nle rfl, nle rfl⟩ dX2_place_5 ?_ (fun _ _ _ z => z.elim)
  intro r2 h2 n2 hq _
  rw [hq.1, hq.2.1, hq.2.2]
  show pw E YX2_place _ _ 0 0 8 [some (.ref a), some (.int (zI (c))), some (.int (zI (r))), some (.int (zI (w))), some (.int (zI (q))), some (.int (zI (d))), none, none, none, none] [.int (zI (ptLen (P a) ((P a).1 4)))] (ptPut D P h) n
  refine pw_istore (lv' := [some (.ref a), some (.int (zI (c))), some (.int (zI (r))), some (.int (zI (w))), some (.int (zI (q))), some (.int (zI (d))), some (.int (zI (ptLen (P a) ((P a).1 4)))), none, none, none]) dX2_place_8 (by decide) rfl rfl ?_
  refine pw_aload_n dX2_place_10 rfl ?_
  refine pw_iload_n dX2_place_11 rfl ?_
  refine pw_putN (fs' := (ptL (va_up (P a).1 0 (c), (P a).2))) okX5 (k := 0) (by decide) lkX2_59 rfl rfl rfl (ptAt hDa) (nlt rfl) rfl dX2_place_12 ?_
  refine pw_h (h' := ptPut D (ptS P a 0 (c)) h) (ptUp hDa) ?_
  refine pw_aload_n dX2_place_15 rfl ?_
  refine pw_iload_n dX2_place_16 rfl ?_
  refine pw_putN (fs' := (ptL (va_up ((ptS P a 0 (c)) a).1 1 (r), ((ptS P a 0 (c)) a).2))) okX5 (k := 1) (by decide) lkX2_62 rfl rfl rfl (ptAt hDa) (nlt rfl) rfl dX2_place_17 ?_
  refine pw_h (h' := ptPut D (ptS (ptS P a 0 (c)) a 1 (r)) h) (ptUp hDa) ?_
  refine pw_aload_n dX2_place_20 rfl ?_
  refine pw_iload_n dX2_place_21 rfl ?_
  refine pw_putN (fs' := (ptL (va_up ((ptS (ptS P a 0 (c)) a 1 (r)) a).1 2 (w), ((ptS (ptS P a 0 (c)) a 1 (r)) a).2))) okX5 (k := 2) (by decide) lkX2_24 rfl rfl rfl (ptAt hDa) (nlt rfl) rfl dX2_place_22 ?_
  refine pw_h (h' := ptPut D (ptS (ptS (ptS P a 0 (c)) a 1 (r)) a 2 (w)) h) (ptUp hDa) ?_
  refine pw_aload_n dX2_place_25 rfl ?_
  refine pw_iload dX2_place_26 rfl ?_
  refine pw_putN (fs' := (ptL (va_up ((ptS (ptS (ptS P a 0 (c)) a 1 (r)) a 2 (w)) a).1 3 (q), ((ptS (ptS (ptS P a 0 (c)) a 1 (r)) a 2 (w)) a).2))) okX5 (k := 3) (by decide) lkX2_28 rfl rfl rfl (ptAt hDa) (nlt rfl) rfl dX2_place_28 ?_
  refine pw_h (h' := ptPut D (ptS (ptS (ptS (ptS P a 0 (c)) a 1 (r)) a 2 (w)) a 3 (q)) h) (ptUp hDa) ?_
  have hP1 : ptBd (L + 2) (ptS (ptS (ptS (ptS P a 0 (c)) a 1 (r)) a 2 (w)) a 3 (q)) := ptBd_set hP hw hqq
  have hcl1 : ptCl D (ptS (ptS (ptS (ptS P a 0 (c)) a 1 (r)) a 2 (w)) a 3 (q)) := ptCl_same hcl ptSame_set
  have hdn1 := (hP1.2 a).2.2
  have hl1 := ptLn_b hP1 a (((ptS (ptS (ptS (ptS P a 0 (c)) a 1 (r)) a 2 (w)) a 3 (q)) a).1 4)
  refine pw_aload_n dX2_place_31 rfl ?_
  refine pw_callV (As := []) (b := a) (rm := rmD 0 0 0) (mX5_isSplit htr (ptAt hDa)) rfl (ptAt hDa) rfl rfl ywX5_isSplit rfl cwX2_69 (rmC (by omega) (nle rfl)) (nle rfl) ⟨nle rfl, nle rfl⟩ dX2_place_32 ?_ (fun _ _ _ z => z.elim)
  intro r2 h2 n2 hq _
  rw [hq.1, hq.2.1, hq.2.2]
  show pw E YX2_place _ _ 0 0 35 [some (.ref a), some (.int (zI (c))), some (.int (zI (r))), some (.int (zI (w))), some (.int (zI (q))), some (.int (zI (d))), some (.int (zI (ptLen (P a) ((P a).1 4)))), none, none, none] [.int (zI (if ptSplit ((ptS (ptS (ptS (ptS P a 0 (c)) a 1 (r)) a 2 (w)) a 3 (q)) a) then 1 else 0))] (ptPut D (ptS (ptS (ptS (ptS P a 0 (c)) a 1 (r)) a 2 (w)) a 3 (q)) h) n
  by_cases hs : ptSplit ((ptS (ptS (ptS (ptS P a 0 (c)) a 1 (r)) a 2 (w)) a 3 (q)) a)
  ·
    rw [if_pos hs]
    obtain ⟨x, hx⟩ := Option.ne_none_iff_exists'.mp hs.1
    obtain ⟨y, hy⟩ := Option.ne_none_iff_exists'.mp hs.2
    have dx := hcl1 a hDa 0 x hx
    have dy := hcl1 a hDa 1 y hy
    refine pw_if_eq (tgt := 106) dX2_place_35 rfl (by omega) (fun c35 => ?_) (fun c35 => ?_)
    · exfalso; omega
    ·
      refine pw_aload_n dX2_place_38 rfl ?_
      refine pw_aload_n dX2_place_39 rfl ?_
      refine pw_getN (v := .int (zI (((ptS (ptS (ptS (ptS P a 0 (c)) a 1 (r)) a 2 (w)) a 3 (q)) a).1 4))) okX5 (k := 4) (by decide) lkX2_55 (ptAt hDa) rfl dX2_place_40 ?_
      refine pw_callV (As := [.int (zI (((ptS (ptS (ptS (ptS P a 0 (c)) a 1 (r)) a 2 (w)) a 3 (q)) a).1 4))]) (b := a) (rm := rmD 0 0 0) (mX5_length htr (ptAt hDa) (hdn1)) rfl (ptAt hDa) rfl rfl ywX5_length rfl cwX2_39 (rmC (by omega) (nle rfl)) (nle rfl) ⟨nle rfl, nle rfl⟩ dX2_place_43 ?_ (fun _ _ _ z => z.elim)
      intro r2 h2 n2 hq _
      rw [hq.1, hq.2.1, hq.2.2]
      show pw E YX2_place _ _ 0 0 46 [some (.ref a), some (.int (zI (c))), some (.int (zI (r))), some (.int (zI (w))), some (.int (zI (q))), some (.int (zI (d))), some (.int (zI (ptLen (P a) ((P a).1 4)))), none, none, none] [.int (zI (ptLen ((ptS (ptS (ptS (ptS P a 0 (c)) a 1 (r)) a 2 (w)) a 3 (q)) a) (((ptS (ptS (ptS (ptS P a 0 (c)) a 1 (r)) a 2 (w)) a 3 (q)) a).1 4)))] (ptPut D (ptS (ptS (ptS (ptS P a 0 (c)) a 1 (r)) a 2 (w)) a 3 (q)) h) n
      refine pw_istore (lv' := [some (.ref a), some (.int (zI (c))), some (.int (zI (r))), some (.int (zI (w))), some (.int (zI (q))), some (.int (zI (d))), some (.int (zI (ptLen (P a) ((P a).1 4)))), some (.int (zI (ptLen ((ptS (ptS (ptS (ptS P a 0 (c)) a 1 (r)) a 2 (w)) a 3 (q)) a) (((ptS (ptS (ptS (ptS P a 0 (c)) a 1 (r)) a 2 (w)) a 3 (q)) a).1 4)))), none, none]) dX2_place_46 (by decide) rfl rfl ?_
      refine pw_aload_n dX2_place_48 rfl ?_
      refine pw_getN (v := rv (((ptS (ptS (ptS (ptS P a 0 (c)) a 1 (r)) a 2 (w)) a 3 (q)) a).2 0)) okX5 (k := 5) (by decide) lkX2_49 (ptAt hDa) rfl dX2_place_49 ?_
      refine pw_aload_n dX2_place_52 rfl ?_
      refine pw_getN (v := .int (zI (((ptS (ptS (ptS (ptS P a 0 (c)) a 1 (r)) a 2 (w)) a 3 (q)) a).1 4))) okX5 (k := 4) (by decide) lkX2_55 (ptAt hDa) rfl dX2_place_53 ?_
      refine pw_some2 (hx) ?_
      refine pw_callV (As := [.int (zI (((ptS (ptS (ptS (ptS P a 0 (c)) a 1 (r)) a 2 (w)) a 3 (q)) a).1 4))]) (b := x) (rm := rmD 0 0 0) (mX5_length htr (ptAt dx) (hdn1)) rfl (ptAt dx) rfl rfl ywX5_length rfl cwX2_39 (rmC (by omega) (nle rfl)) (nle rfl) ⟨nle rfl, nle rfl⟩ dX2_place_56 ?_ (fun _ _ _ z => z.elim)
      intro r2 h2 n2 hq _
      rw [hq.1, hq.2.1, hq.2.2]
      show pw E YX2_place _ _ 0 0 59 [some (.ref a), some (.int (zI (c))), some (.int (zI (r))), some (.int (zI (w))), some (.int (zI (q))), some (.int (zI (d))), some (.int (zI (ptLen (P a) ((P a).1 4)))), some (.int (zI (ptLen ((ptS (ptS (ptS (ptS P a 0 (c)) a 1 (r)) a 2 (w)) a 3 (q)) a) (((ptS (ptS (ptS (ptS P a 0 (c)) a 1 (r)) a 2 (w)) a 3 (q)) a).1 4)))), none, none] [.int (zI (ptLen ((ptS (ptS (ptS (ptS P a 0 (c)) a 1 (r)) a 2 (w)) a 3 (q)) x) (((ptS (ptS (ptS (ptS P a 0 (c)) a 1 (r)) a 2 (w)) a 3 (q)) a).1 4)))] (ptPut D (ptS (ptS (ptS (ptS P a 0 (c)) a 1 (r)) a 2 (w)) a 3 (q)) h) n
      have hl2 := ptLn_b hP1 x (((ptS (ptS (ptS (ptS P a 0 (c)) a 1 (r)) a 2 (w)) a 3 (q)) a).1 4)
      refine pw_istore (lv' := [some (.ref a), some (.int (zI (c))), some (.int (zI (r))), some (.int (zI (w))), some (.int (zI (q))), some (.int (zI (d))), some (.int (zI (ptLen (P a) ((P a).1 4)))), some (.int (zI (ptLen ((ptS (ptS (ptS (ptS P a 0 (c)) a 1 (r)) a 2 (w)) a 3 (q)) a) (((ptS (ptS (ptS (ptS P a 0 (c)) a 1 (r)) a 2 (w)) a 3 (q)) a).1 4)))), some (.int (zI (ptLen ((ptS (ptS (ptS (ptS P a 0 (c)) a 1 (r)) a 2 (w)) a 3 (q)) x) (((ptS (ptS (ptS (ptS P a 0 (c)) a 1 (r)) a 2 (w)) a 3 (q)) a).1 4)))), none]) dX2_place_59 (by decide) rfl rfl ?_
      refine pw_iload dX2_place_61 rfl ?_
      refine pw_iconst (v := zI (1)) dX2_place_63 (by decide) ?_
      refine pw_icmp_le (tgt := 82) dX2_place_64 rfl (by omega) (by omega) (fun c64 => ?_) (fun c64 => ?_)
      ·
        refine pw_iconst (v := zI (1)) dX2_place_82 (by decide) ?_
        have hk := plDiv (b := (ptLen (P a) ((P a).1 4)) - (1)) (plMul (a := ptLen ((ptS (ptS (ptS (ptS P a 0 (c)) a 1 (r)) a 2 (w)) a 3 (q)) a) (((ptS (ptS (ptS (ptS P a 0 (c)) a 1 (r)) a 2 (w)) a 3 (q)) a).1 4)) (b := ptLen ((ptS (ptS (ptS (ptS P a 0 (c)) a 1 (r)) a 2 (w)) a 3 (q)) x) (((ptS (ptS (ptS (ptS P a 0 (c)) a 1 (r)) a 2 (w)) a 3 (q)) a).1 4)) (by omega) (by omega))
        refine pw_istore (lv' := [some (.ref a), some (.int (zI (c))), some (.int (zI (r))), some (.int (zI (w))), some (.int (zI (q))), some (.int (zI (d))), some (.int (zI (ptLen (P a) ((P a).1 4)))), some (.int (zI (ptLen ((ptS (ptS (ptS (ptS P a 0 (c)) a 1 (r)) a 2 (w)) a 3 (q)) a) (((ptS (ptS (ptS (ptS P a 0 (c)) a 1 (r)) a 2 (w)) a 3 (q)) a).1 4)))), some (.int (zI (ptLen ((ptS (ptS (ptS (ptS P a 0 (c)) a 1 (r)) a 2 (w)) a 3 (q)) x) (((ptS (ptS (ptS (ptS P a 0 (c)) a 1 (r)) a 2 (w)) a 3 (q)) a).1 4)))), some (.int (zI (1)))]) dX2_place_83 (by decide) rfl rfl ?_
        refine pw_aload_n dX2_place_85 rfl ?_
        refine pw_iconst (v := zI (1)) dX2_place_86 (by decide) ?_
        refine pw_iload dX2_place_87 rfl ?_
        refine pw_iconst (v := zI (2)) dX2_place_89 (by decide) ?_
        refine pw_zisub dX2_place_90 ?_
        refine pw_iload dX2_place_91 rfl ?_
        refine pw_min cwX2_81 dX2_place_93 (by omega) (by omega) ⟨by show 1 ≤ 2 * k + 2; omega, Nat.le_trans (m := 64) (nle rfl) (by show 64 ≤ 64 * (2 * k + 2); omega)⟩ ⟨nle rfl, nle rfl⟩ ?_
        refine pw_max cwX2_87 dX2_place_96 (by omega) (by omega) ⟨by show 1 ≤ 2 * k + 2; omega, Nat.le_trans (m := 64) (nle rfl) (by show 64 ≤ 64 * (2 * k + 2); omega)⟩ ⟨nle rfl, nle rfl⟩ ?_
        refine pw_iload dX2_place_99 rfl ?_
        refine pw_iconst (v := zI (1)) dX2_place_101 (by decide) ?_
        refine pw_ziadd dX2_place_102 ?_
        refine pw_callS (As := [.ref a, .int (zI (max (1) (min ((ptLen ((ptS (ptS (ptS (ptS P a 0 (c)) a 1 (r)) a 2 (w)) a 3 (q)) a) (((ptS (ptS (ptS (ptS P a 0 (c)) a 1 (r)) a 2 (w)) a 3 (q)) a).1 4)) - (2)) (1)))), .int (zI (d + 1))]) (rm := rmD (2 * k + 1) 0 0) (hsh (L + 2) a (max (1) (min ((ptLen ((ptS (ptS (ptS (ptS P a 0 (c)) a 1 (r)) a 2 (w)) a 3 (q)) a) (((ptS (ptS (ptS (ptS P a 0 (c)) a 1 (r)) a 2 (w)) a 3 (q)) a).1 4)) - (2)) (1))) (d + 1) (ptS (ptS (ptS (ptS P a 0 (c)) a 1 (r)) a 2 (w)) a 3 (q)) (by omega) hP1 (by omega) hDa hcl1 (szOk_max hP1)) rfl ywX2_share rfl cwX2_65 (rmC (by omega) (nle rfl)) (nle rfl) ⟨nle rfl, nle rfl⟩ dX2_place_103 ?_ (fun _ _ _ z => z.elim)
        intro r2 h2 n2 hq _
        rw [hq.1, hq.2.1, hq.2.2]
        show pw E YX2_place _ _ 0 0 106 [some (.ref a), some (.int (zI (c))), some (.int (zI (r))), some (.int (zI (w))), some (.int (zI (q))), some (.int (zI (d))), some (.int (zI (ptLen (P a) ((P a).1 4)))), some (.int (zI (ptLen ((ptS (ptS (ptS (ptS P a 0 (c)) a 1 (r)) a 2 (w)) a 3 (q)) a) (((ptS (ptS (ptS (ptS P a 0 (c)) a 1 (r)) a 2 (w)) a 3 (q)) a).1 4)))), some (.int (zI (ptLen ((ptS (ptS (ptS (ptS P a 0 (c)) a 1 (r)) a 2 (w)) a 3 (q)) x) (((ptS (ptS (ptS (ptS P a 0 (c)) a 1 (r)) a 2 (w)) a 3 (q)) a).1 4)))), some (.int (zI (1)))] [] (ptPut D (plShare k a (max (1) (min ((ptLen ((ptS (ptS (ptS (ptS P a 0 (c)) a 1 (r)) a 2 (w)) a 3 (q)) a) (((ptS (ptS (ptS (ptS P a 0 (c)) a 1 (r)) a 2 (w)) a 3 (q)) a).1 4)) - (2)) (1))) (ptS (ptS (ptS (ptS P a 0 (c)) a 1 (r)) a 2 (w)) a 3 (q))) h) n
        exact pw_vret dX2_place_106 rfl (nle rfl) (nle rfl) ⟨rfl, by rw [plW_split hs hx, if_pos (by omega)], rfl⟩
      ·
        refine pw_iload dX2_place_67 rfl ?_
        refine pw_iconst (v := zI (1)) dX2_place_69 (by decide) ?_
        refine pw_zisub dX2_place_70 ?_
        refine pw_iload dX2_place_71 rfl ?_
        refine pw_zimul dX2_place_73 ?_
        refine pw_iload dX2_place_74 rfl ?_
        refine pw_iconst (v := zI (1)) dX2_place_76 (by decide) ?_
        refine pw_zisub dX2_place_77 ?_
        refine pw_zidivT dX2_place_78 (plMul (by omega) (by omega)) (by omega) ?_
        refine pw_goto (tgt := 83) dX2_place_79 rfl ?_
        have hk := plDiv (b := (ptLen (P a) ((P a).1 4)) - (1)) (plMul (a := ptLen ((ptS (ptS (ptS (ptS P a 0 (c)) a 1 (r)) a 2 (w)) a 3 (q)) a) (((ptS (ptS (ptS (ptS P a 0 (c)) a 1 (r)) a 2 (w)) a 3 (q)) a).1 4)) (b := ptLen ((ptS (ptS (ptS (ptS P a 0 (c)) a 1 (r)) a 2 (w)) a 3 (q)) x) (((ptS (ptS (ptS (ptS P a 0 (c)) a 1 (r)) a 2 (w)) a 3 (q)) a).1 4)) (by omega) (by omega))
        refine pw_istore (lv' := [some (.ref a), some (.int (zI (c))), some (.int (zI (r))), some (.int (zI (w))), some (.int (zI (q))), some (.int (zI (d))), some (.int (zI (ptLen (P a) ((P a).1 4)))), some (.int (zI (ptLen ((ptS (ptS (ptS (ptS P a 0 (c)) a 1 (r)) a 2 (w)) a 3 (q)) a) (((ptS (ptS (ptS (ptS P a 0 (c)) a 1 (r)) a 2 (w)) a 3 (q)) a).1 4)))), some (.int (zI (ptLen ((ptS (ptS (ptS (ptS P a 0 (c)) a 1 (r)) a 2 (w)) a 3 (q)) x) (((ptS (ptS (ptS (ptS P a 0 (c)) a 1 (r)) a 2 (w)) a 3 (q)) a).1 4)))), some (.int (zI (Int.tdiv (((ptLen ((ptS (ptS (ptS (ptS P a 0 (c)) a 1 (r)) a 2 (w)) a 3 (q)) a) (((ptS (ptS (ptS (ptS P a 0 (c)) a 1 (r)) a 2 (w)) a 3 (q)) a).1 4)) - (1)) * (ptLen ((ptS (ptS (ptS (ptS P a 0 (c)) a 1 (r)) a 2 (w)) a 3 (q)) x) (((ptS (ptS (ptS (ptS P a 0 (c)) a 1 (r)) a 2 (w)) a 3 (q)) a).1 4))) ((ptLen (P a) ((P a).1 4)) - (1)))))]) dX2_place_83 (by decide) rfl rfl ?_
        refine pw_aload_n dX2_place_85 rfl ?_
        refine pw_iconst (v := zI (1)) dX2_place_86 (by decide) ?_
        refine pw_iload dX2_place_87 rfl ?_
        refine pw_iconst (v := zI (2)) dX2_place_89 (by decide) ?_
        refine pw_zisub dX2_place_90 ?_
        refine pw_iload dX2_place_91 rfl ?_
        refine pw_min cwX2_81 dX2_place_93 (by omega) (by omega) ⟨by show 1 ≤ 2 * k + 2; omega, Nat.le_trans (m := 64) (nle rfl) (by show 64 ≤ 64 * (2 * k + 2); omega)⟩ ⟨nle rfl, nle rfl⟩ ?_
        refine pw_max cwX2_87 dX2_place_96 (by omega) (by omega) ⟨by show 1 ≤ 2 * k + 2; omega, Nat.le_trans (m := 64) (nle rfl) (by show 64 ≤ 64 * (2 * k + 2); omega)⟩ ⟨nle rfl, nle rfl⟩ ?_
        refine pw_iload dX2_place_99 rfl ?_
        refine pw_iconst (v := zI (1)) dX2_place_101 (by decide) ?_
        refine pw_ziadd dX2_place_102 ?_
        refine pw_callS (As := [.ref a, .int (zI (max (1) (min ((ptLen ((ptS (ptS (ptS (ptS P a 0 (c)) a 1 (r)) a 2 (w)) a 3 (q)) a) (((ptS (ptS (ptS (ptS P a 0 (c)) a 1 (r)) a 2 (w)) a 3 (q)) a).1 4)) - (2)) (Int.tdiv (((ptLen ((ptS (ptS (ptS (ptS P a 0 (c)) a 1 (r)) a 2 (w)) a 3 (q)) a) (((ptS (ptS (ptS (ptS P a 0 (c)) a 1 (r)) a 2 (w)) a 3 (q)) a).1 4)) - (1)) * (ptLen ((ptS (ptS (ptS (ptS P a 0 (c)) a 1 (r)) a 2 (w)) a 3 (q)) x) (((ptS (ptS (ptS (ptS P a 0 (c)) a 1 (r)) a 2 (w)) a 3 (q)) a).1 4))) ((ptLen (P a) ((P a).1 4)) - (1)))))), .int (zI (d + 1))]) (rm := rmD (2 * k + 1) 0 0) (hsh (L + 2) a (max (1) (min ((ptLen ((ptS (ptS (ptS (ptS P a 0 (c)) a 1 (r)) a 2 (w)) a 3 (q)) a) (((ptS (ptS (ptS (ptS P a 0 (c)) a 1 (r)) a 2 (w)) a 3 (q)) a).1 4)) - (2)) (Int.tdiv (((ptLen ((ptS (ptS (ptS (ptS P a 0 (c)) a 1 (r)) a 2 (w)) a 3 (q)) a) (((ptS (ptS (ptS (ptS P a 0 (c)) a 1 (r)) a 2 (w)) a 3 (q)) a).1 4)) - (1)) * (ptLen ((ptS (ptS (ptS (ptS P a 0 (c)) a 1 (r)) a 2 (w)) a 3 (q)) x) (((ptS (ptS (ptS (ptS P a 0 (c)) a 1 (r)) a 2 (w)) a 3 (q)) a).1 4))) ((ptLen (P a) ((P a).1 4)) - (1))))) (d + 1) (ptS (ptS (ptS (ptS P a 0 (c)) a 1 (r)) a 2 (w)) a 3 (q)) (by omega) hP1 (by omega) hDa hcl1 (szOk_max hP1)) rfl ywX2_share rfl cwX2_65 (rmC (by omega) (nle rfl)) (nle rfl) ⟨nle rfl, nle rfl⟩ dX2_place_103 ?_ (fun _ _ _ z => z.elim)
        intro r2 h2 n2 hq _
        rw [hq.1, hq.2.1, hq.2.2]
        show pw E YX2_place _ _ 0 0 106 [some (.ref a), some (.int (zI (c))), some (.int (zI (r))), some (.int (zI (w))), some (.int (zI (q))), some (.int (zI (d))), some (.int (zI (ptLen (P a) ((P a).1 4)))), some (.int (zI (ptLen ((ptS (ptS (ptS (ptS P a 0 (c)) a 1 (r)) a 2 (w)) a 3 (q)) a) (((ptS (ptS (ptS (ptS P a 0 (c)) a 1 (r)) a 2 (w)) a 3 (q)) a).1 4)))), some (.int (zI (ptLen ((ptS (ptS (ptS (ptS P a 0 (c)) a 1 (r)) a 2 (w)) a 3 (q)) x) (((ptS (ptS (ptS (ptS P a 0 (c)) a 1 (r)) a 2 (w)) a 3 (q)) a).1 4)))), some (.int (zI (Int.tdiv (((ptLen ((ptS (ptS (ptS (ptS P a 0 (c)) a 1 (r)) a 2 (w)) a 3 (q)) a) (((ptS (ptS (ptS (ptS P a 0 (c)) a 1 (r)) a 2 (w)) a 3 (q)) a).1 4)) - (1)) * (ptLen ((ptS (ptS (ptS (ptS P a 0 (c)) a 1 (r)) a 2 (w)) a 3 (q)) x) (((ptS (ptS (ptS (ptS P a 0 (c)) a 1 (r)) a 2 (w)) a 3 (q)) a).1 4))) ((ptLen (P a) ((P a).1 4)) - (1)))))] [] (ptPut D (plShare k a (max (1) (min ((ptLen ((ptS (ptS (ptS (ptS P a 0 (c)) a 1 (r)) a 2 (w)) a 3 (q)) a) (((ptS (ptS (ptS (ptS P a 0 (c)) a 1 (r)) a 2 (w)) a 3 (q)) a).1 4)) - (2)) (Int.tdiv (((ptLen ((ptS (ptS (ptS (ptS P a 0 (c)) a 1 (r)) a 2 (w)) a 3 (q)) a) (((ptS (ptS (ptS (ptS P a 0 (c)) a 1 (r)) a 2 (w)) a 3 (q)) a).1 4)) - (1)) * (ptLen ((ptS (ptS (ptS (ptS P a 0 (c)) a 1 (r)) a 2 (w)) a 3 (q)) x) (((ptS (ptS (ptS (ptS P a 0 (c)) a 1 (r)) a 2 (w)) a 3 (q)) a).1 4))) ((ptLen (P a) ((P a).1 4)) - (1))))) (ptS (ptS (ptS (ptS P a 0 (c)) a 1 (r)) a 2 (w)) a 3 (q))) h) n
        exact pw_vret dX2_place_106 rfl (nle rfl) (nle rfl) ⟨rfl, by rw [plW_split hs hx, if_neg (by omega)], rfl⟩
  ·
    rw [if_neg hs]
    refine pw_if_eq (tgt := 106) dX2_place_35 rfl (by omega) (fun c35 => ?_) (fun c35 => ?_)
    ·
      exact pw_vret dX2_place_106 rfl (nle rfl) (nle rfl) ⟨rfl, by rw [plW_no hs], rfl⟩
    · exfalso; omega
