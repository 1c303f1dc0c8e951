theorem lkX2_55 : Cond.fieldLinkNest RX2 55 (TX5 4).1 (TX5 4).2.1 (TX5 4).2.2.1 "PaneHouse" ∈ pw_N := by decide +kernel
theorem cwX2_39 : Cond.methodLink RX2 39 yX5_length ∈ pw_G ∧ Cond.instanceMethod yX5_length ∈ pw_G ∧ Cond.selects RX5 yX5_length yX5_length ∈ pw_G := ⟨pw_in 1130 (by decide +kernel) (by decide +kernel), pw_in 1131 (by decide +kernel) (by decide +kernel), pw_in 1132 (by decide +kernel) (by decide +kernel)⟩
theorem lkX2_59 : Cond.fieldLinkNest RX2 59 (TX5 0).1 (TX5 0).2.1 (TX5 0).2.2.1 "PaneHouse" ∈ pw_N := by decide +kernel
theorem lkX2_62 : Cond.fieldLinkNest RX2 62 (TX5 1).1 (TX5 1).2.1 (TX5 1).2.2.1 "PaneHouse" ∈ pw_N := by decide +kernel
theorem lkX2_24 : Cond.fieldLinkNest RX2 24 (TX5 2).1 (TX5 2).2.1 (TX5 2).2.2.1 "PaneHouse" ∈ pw_N := by decide +kernel
theorem lkX2_28 : Cond.fieldLinkNest RX2 28 (TX5 3).1 (TX5 3).2.1 (TX5 3).2.2.1 "PaneHouse" ∈ pw_N := by decide +kernel
theorem cwX2_69 : Cond.methodLink RX2 69 yX5_isSplit ∈ pw_G ∧ Cond.instanceMethod yX5_isSplit ∈ pw_G ∧ Cond.selects RX5 yX5_isSplit yX5_isSplit ∈ pw_G := ⟨pw_in 831 (by decide +kernel) (by decide +kernel), pw_in 832 (by decide +kernel) (by decide +kernel), pw_in 833 (by decide +kernel) (by decide +kernel)⟩
theorem lkX2_49 : Cond.fieldLinkNest RX2 49 (TX5 5).1 (TX5 5).2.1 (TX5 5).2.2.1 "PaneHouse" ∈ pw_N := by decide +kernel
theorem cwX2_81 : Cond.methodLink RX2 81 Lib.Math.min.name ∈ pw_G := pw_in 1144 (by decide +kernel) (by decide +kernel)
theorem cwX2_87 : Cond.methodLink RX2 87 Lib.Math.max.name ∈ pw_G := pw_in 1145 (by decide +kernel) (by decide +kernel)
theorem cwX2_65 : Cond.methodLink RX2 65 yX2_share ∈ pw_G ∧ Cond.static yX2_share ∈ pw_G := ⟨pw_in 1138 (by decide +kernel) (by decide +kernel), pw_in 1139 (by decide +kernel) (by decide +kernel)⟩
def YX2_share : pw_Y := (RX2, "share", cX2_share, 5, none)
theorem ywX2_share : pw_y yX2_share YX2_share 3 := ⟨by decide +kernel, by decide +kernel, by decide +kernel, pw_in 1140 (by decide +kernel) (by decide +kernel), pw_in 87 (by decide +kernel) (by decide +kernel)⟩
theorem cwX2_73 : Cond.methodLink RX2 73 yX2_place ∈ pw_G ∧ Cond.static yX2_place ∈ pw_G := ⟨pw_in 1141 (by decide +kernel) (by decide +kernel), pw_in 1142 (by decide +kernel) (by decide +kernel)⟩
def YX2_place : pw_Y := (RX2, "place", cX2_place, 10, none)
theorem ywX2_place : pw_y yX2_place YX2_place 6 := ⟨by decide +kernel, by decide +kernel, by decide +kernel, pw_in 1143 (by decide +kernel) (by decide +kernel), pw_in 87 (by decide +kernel) (by decide +kernel)⟩
theorem lkX2_52 : Cond.fieldLinkNest RX2 52 (TX5 6).1 (TX5 6).2.1 (TX5 6).2.2.1 "PaneHouse" ∈ pw_N := by decide +kernel
set_option maxHeartbeats 4000000 in
set_option maxRecDepth 100000 in
/-- Layout.place, out of share with one depth more -/
theorem mX2_place_of {E : pw_E} (htr : E.1.stackTraces = false) {h : pz_H} {n k : Nat} {D : Nat → Bool} (hsh : ∀ (L : Int) (a : Nat) (sz d : Int) (P : Nat → ptC), d = 9 - (k : Int) → ptBd L P → L + plE k ≤ 10000 → D a = true → ptCl D P → szOk P a sz → pw_M E yX2_share YX2_share (rmD (2 * k + 1) 0 0) [.ref a, .int (zI sz), .int (zI d)] (ptPut D P h) n (fun r h' n' => r = none ∧ h' = ptPut D (plShare k a sz P) h ∧ n' = n) (fun _ _ _ => False)) {L c r w q d : Int} {a : Nat} {P : Nat → ptC} (hd : d = 8 - (k : Int)) (hk9 : k ≤ 9) (hP : ptBd L P) (hL : L + 2 + plE k ≤ 10000) (hDa : D a = true) (hcl : ptCl D P) (hw : -(L + 2) ≤ w ∧ w ≤ 100) (hqq : -(L + 2) ≤ q ∧ q ≤ 100) : pw_M E yX2_place YX2_place (rmD (2 * k + 2) 0 0) [.ref a, .int (zI (c)), .int (zI (r)), .int (zI (w)), .int (zI (q)), .int (zI (d))] (ptPut D P h) n (fun r0 h' n' => r0 = none ∧ h' = ptPut D (plW (plShare k) a c r w q P) h ∧ n' = n) (fun _ _ _ => False) := by
  have hdn := (hP.2 a).2.2
  have hl0 := ptLn_b hP a ((P a).1 4)
  have h0 := hP.1
  have he := plE_0 k
  refine pw_M_of (lv := [some (.ref a), some (.int (zI (c))), some (.int (zI (r))), some (.int (zI (w))), some (.int (zI (q))), some (.int (zI (d))), none, none, none, none]) (by decide) rfl rfl htr (nle rfl) rfl (fun _ => ?_)
  refine pw_aload_n dX2_place_0 rfl ?_
  refine pw_aload_n dX2_place_1 rfl ?_
  refine pw_getN (v := .int (zI ((P a).1 4))) okX5 (k := 4) (by decide) lkX2_55 (ptAt hDa) rfl dX2_place_2 ?_
  refine pw_callV (As := [.int (zI ((P a).1 4))]) (b := a) (rm := rmD 0 0 0) (mX5_length htr (ptAt hDa) (hdn)) rfl (ptAt hDa) rfl rfl ywX5_length rfl cwX2_39 (rmC (by omega) (nle rfl)) (nle rfl) ⟨nle rfl, nle rfl⟩ dX2_place_5 ?_ (fun _ _ _ z => z.elim)
  intro r2 h2 n2 hq _
  rw [hq.1, hq.2.1, hq.2.2]
  show pw E YX2_place _ _ 0 0 8 [some (.ref a), some (.int (zI (c))), some (.int (zI (r))), some (.int (zI (w))), some (.int (zI (q))), some (.int (zI (d))), none, none, none, none] [.int (zI (ptLen (P a) ((P a).1 4)))] (ptPut D P h) n
  refine pw_istore (lv' := [some (.ref a), some (.int (zI (c))), some (.int (zI (r))), some (.int (zI (w))), some (.int (zI (q))), some (.int (zI (d))), some (.int (zI (ptLen (P a) ((P a).1 4)))), none, none, none]) dX2_place_8 (by decide) rfl rfl ?_
  refine pw_aload_n dX2_place_10 rfl ?_
  refine pw_iload_n dX2_place_11 rfl ?_
  refine pw_putN (fs' := (ptL (va_up (P a).1 0 (c), (P a).2))) okX5 (k := 0) (by decide) lkX2_59 rfl rfl rfl (ptAt hDa) (nlt rfl) rfl dX2_place_12 ?_
  refine pw_h (h' := ptPut D (ptS P a 0 (c)) h) (ptUp hDa) ?_
  refine pw_aload_n dX2_place_15 rfl ?_
  refine pw_iload_n dX2_place_16 rfl ?_
  refine pw_putN (fs' := (ptL (va_up ((ptS P a 0 (c)) a).1 1 (r), ((ptS P a 0 (c)) a).2))) okX5 (k := 1) (by decide) lkX2_62 rfl rfl rfl (ptAt hDa) (nlt rfl) rfl dX2_place_17 ?_
  refine pw_h (h' := ptPut D (ptS (ptS P a 0 (c)) a 1 (r)) h) (ptUp hDa) ?_
  refine pw_aload_n dX2_place_20 rfl ?_
  refine pw_iload_n dX2_place_21 rfl ?_
  refine pw_putN (fs' := (ptL (va_up ((ptS (ptS P a 0 (c)) a 1 (r)) a).1 2 (w), ((ptS (ptS P a 0 (c)) a 1 (r)) a).2))) okX5 (k := 2) (by decide) lkX2_24 rfl rfl rfl (ptAt hDa) (nlt rfl) rfl dX2_place_22 ?_
  refine pw_h (h' := ptPut D (ptS (ptS (ptS P a 0 (c)) a 1 (r)) a 2 (w)) h) (ptUp hDa) ?_
  refine pw_aload_n dX2_place_25 rfl ?_
  refine pw_iload dX2_place_26 rfl ?_
  refine pw_putN (fs' := (ptL (va_up ((ptS (ptS (ptS P a 0 (c)) a 1 (r)) a 2 (w)) a).1 3 (q), ((ptS (ptS (ptS P a 0 (c)) a 1 (r)) a 2 (w)) a).2))) okX5 (k := 3) (by decide) lkX2_28 rfl rfl rfl (ptAt hDa) (nlt rfl) rfl dX2_place_28 ?_
  refine pw_h (h' := ptPut D (ptS (ptS (ptS (ptS P a 0 (c)) a 1 (r)) a 2 (w)) a 3 (q)) h) (ptUp hDa) ?_
  have hP1 : ptBd (L + 2) (ptS (ptS (ptS (ptS P a 0 (c)) a 1 (r)) a 2 (w)) a 3 (q)) := ptBd_set hP hw hqq
  have hcl1 : ptCl D (ptS (ptS (ptS (ptS P a 0 (c)) a 1 (r)) a 2 (w)) a 3 (q)) := ptCl_same hcl ptSame_set
  have hdn1 := (hP1.2 a).2.2
  have hl1 := ptLn_b hP1 a (((ptS (ptS (ptS (ptS P a 0 (c)) a 1 (r)) a 2 (w)) a 3 (q)) a).1 4)
  refine pw_aload_n dX2_place_31 rfl ?_
  refine pw_callV (As := []) (b := a) (rm := rmD 0 0 0) (mX5_isSplit htr (ptAt hDa)) rfl (ptAt hDa) rfl rfl ywX5_isSplit rfl cwX2_69 (rmC (by omega) (nle rfl)) (nle rfl) ⟨nle rfl, nle rfl⟩ dX2_place_32 ?_ (fun _ _ _ z => z.elim)
  intro r2 h2 n2 hq _
  rw [hq.1, hq.2.1, hq.2.2]
  show pw E YX2_place _ _ 0 0 35 [some (.ref a), some (.int (zI (c))), some (.int (zI (r))), some (.int (zI (w))), some (.int (zI (q))), some (.int (zI (d))), some (.int (zI (ptLen (P a) ((P a).1 4)))), none, none, none] [.int (zI (if ptSplit ((ptS (ptS (ptS (ptS P a 0 (c)) a 1 (r)) a 2 (w)) a 3 (q)) a) then 1 else 0))] (ptPut D (ptS (ptS (ptS (ptS P a 0 (c)) a 1 (r)) a 2 (w)) a 3 (q)) h) n
  by_cases hs : ptSplit ((ptS (ptS (ptS (ptS P a 0 (c)) a 1 (r)) a 2 (w)) a 3 (q)) a)
  ·
    rw [if_pos hs]
    obtain ⟨x, hx⟩ := Option.ne_none_iff_exists'.mp hs.1
    obtain ⟨y, hy⟩ := Option.ne_none_iff_exists'.mp hs.2
    have dx := hcl1 a hDa 0 x hx
    have dy := hcl1 a hDa 1 y hy
    refine pw_if_eq (tgt := 106) dX2_place_35 rfl (by omega) (fun c35 => ?_) (fun c35 => ?_)
    · exfalso; omega
    ·
      refine pw_aload_n dX2_place_38 rfl ?_
      refine pw_aload_n dX2_place_39 rfl ?_
      refine pw_getN (v := .int (zI (((ptS (ptS (ptS (ptS P a 0 (c)) a 1 (r)) a 2 (w)) a 3 (q)) a).1 4))) okX5 (k := 4) (by decide) lkX2_55 (ptAt hDa) rfl dX2_place_40 ?_
      refine pw_callV (As := [.int (zI (((ptS (ptS (ptS (ptS P a 0 (c)) a 1 (r)) a 2 (w)) a 3 (q)) a).1 4))]) (b := a) (rm := rmD 0 0 0) (mX5_length htr (ptAt hDa) (hdn1)) rfl (ptAt hDa) rfl rfl ywX5_length rfl cwX2_39 (rmC (by omega) (nle rfl)) (nle rfl) ⟨nle rfl, nle rfl⟩ dX2_place_43 ?_ (fun _ _ _ z => z.elim)
      intro r2 h2 n2 hq _
      rw [hq.1, hq.2.1, hq.2.2]
      show pw E YX2_place _ _ 0 0 46 [some (.ref a), some (.int (zI (c))), some (.int (zI (r))), some (.int (zI (w))), some (.int (zI (q))), some (.int (zI (d))), some (.int (zI (ptLen (P a) ((P a).1 4)))), none, none, none] [.int (zI (ptLen ((ptS (ptS (ptS (ptS P a 0 (c)) a 1 (r)) a 2 (w)) a 3 (q)) a) (((ptS (ptS (ptS (ptS P a 0 (c)) a 1 (r)) a 2 (w)) a 3 (q)) a).1 4)))] (ptPut D (ptS (ptS (ptS (ptS P a 0 (c)) a 1 (r)) a 2 (w)) a 3 (q)) h) n
      refine pw_istore (lv' := [some (.ref a), some (.int (zI (c))), some (.int (zI (r))), some (.int (zI (w))), some (.int (zI (q))), some (.int (zI (d))), some (.int (zI (ptLen (P a) ((P a).1 4)))), some (.int (zI (ptLen ((ptS (ptS (ptS (ptS P a 0 (c)) a 1 (r)) a 2 (w)) a 3 (q)) a) (((ptS (ptS (ptS (ptS P a 0 (c)) a 1 (r)) a 2 (w)) a 3 (q)) a).1 4)))), none, none]) dX2_place_46 (by decide) rfl rfl ?_
      refine pw_aload_n dX2_place_48 rfl ?_
      refine pw_getN (v := rv (((ptS (ptS (ptS (ptS P a 0 (c)) a 1 (r)) a 2 (w)) a 3 (q)) a).2 0)) okX5 (k := 5) (by decide) lkX2_49 (ptAt hDa) rfl dX2_place_49 ?_
      refine pw_aload_n dX2_place_52 rfl ?_
      refine pw_getN (v := .int (zI (((ptS (ptS (ptS (ptS P a 0 (c)) a 1 (r)) a 2 (w)) a 3 (q)) a).1 4))) okX5 (k := 4) (by decide) lkX2_55 (ptAt hDa) rfl dX2_place_53 ?_
      refine pw_some2 (hx) ?_
      refine pw_callV (As := [.int (zI (((ptS (ptS (ptS (ptS P a 0 (c)) a 1 (r)) a 2 (w)) a 3 (q)) a).1 4))]) (b := x) (rm := rmD 0 0 0) (mX5_length htr (ptAt dx) (hdn1)) rfl (ptAt dx) rfl rfl ywX5_length rfl cwX2_39 (rmC (by omega) (nle rfl)) (nle rfl) ⟨nle rfl, nle rfl⟩ dX2_place_56 ?_ (fun _ _ _ z => z.elim)
      intro r2 h2 n2 hq _
      rw [hq.1, hq.2.1, hq.2.2]
      show pw E YX2_place _ _ 0 0 59 [some (.ref a), some (.int (zI (c))), some (.int (zI (r))), some (.int (zI (w))), some (.int (zI (q))), some (.int (zI (d))), some (.int (zI (ptLen (P a) ((P a).1 4)))), some (.int (zI (ptLen ((ptS (ptS (ptS (ptS P a 0 (c)) a 1 (r)) a 2 (w)) a 3 (q)) a) (((ptS (ptS (ptS (ptS P a 0 (c)) a 1 (r)) a 2 (w)) a 3 (q)) a).1 4)))), none, none] [.int (zI (ptLen ((ptS (ptS (ptS (ptS P a 0 (c)) a 1 (r)) a 2 (w)) a 3 (q)) x) (((ptS (ptS (ptS (ptS P a 0 (c)) a 1 (r)) a 2 (w)) a 3 (q)) a).1 4)))] (ptPut D (ptS (ptS (ptS (ptS P a 0 (c)) a 1 (r)) a 2 (w)) a 3 (q)) h) n
      have hl2 := ptLn_b hP1 x (((ptS (ptS (ptS (ptS P a 0 (c)) a 1 (r)) a 2 (w)) a 3 (q)) a).1 4)
      refine pw_istore (lv' := [some (.ref a), some (.int (zI (c))), some (.int (zI (r))), some (.int (zI (w))), some (.int (zI (q))), some (.int (zI (d))), some (.int (zI (ptLen (P a) ((P a).1 4)))), some (.int (zI (ptLen ((ptS (ptS (ptS (ptS P a 0 (c)) a 1 (r)) a 2 (w)) a 3 (q)) a) (((ptS (ptS (ptS (ptS P a 0 (c)) a 1 (r)) a 2 (w)) a 3 (q)) a).1 4)))), some (.int (zI (ptLen ((ptS (ptS (ptS (ptS P a 0 (c)) a 1 (r)) a 2 (w)) a 3 (q)) x) (((ptS (ptS (ptS (ptS P a 0 (c)) a 1 (r)) a 2 (w)) a 3 (q)) a).1 4)))), none]) dX2_place_59 (by decide) rfl rfl ?_
      refine pw_iload dX2_place_61 rfl ?_
      refine pw_iconst (v := zI (1)) dX2_place_63 (by decide) ?_
      refine pw_icmp_le (tgt := 82) dX2_place_64 rfl (by omega) (by omega) (fun c64 => ?_) (fun c64 => ?_)
      ·
        refine pw_iconst (v := zI (1)) dX2_place_82 (by decide) ?_
        have hk := plDiv (b := (ptLen (P a) ((P a).1 4)) - (1)) (plMul (a := ptLen ((ptS (ptS (ptS (ptS P a 0 (c)) a 1 (r)) a 2 (w)) a 3 (q)) a) (((ptS (ptS (ptS (ptS P a 0 (c)) a 1 (r)) a 2 (w)) a 3 (q)) a).1 4)) (b := ptLen ((ptS (ptS (ptS (ptS P a 0 (c)) a 1 (r)) a 2 (w)) a 3 (q)) x) (((ptS (ptS (ptS (ptS P a 0 (c)) a 1 (r)) a 2 (w)) a 3 (q)) a).1 4)) (by omega) (by omega))
        refine pw_istore (lv' := [some (.ref a), some (.int (zI (c))), some (.int (zI (r))), some (.int (zI (w))), some (.int (zI (q))), some (.int (zI (d))), some (.int (zI (ptLen (P a) ((P a).1 4)))), some (.int (zI (ptLen ((ptS (ptS (ptS (ptS P a 0 (c)) a 1 (r)) a 2 (w)) a 3 (q)) a) (((ptS (ptS (ptS (ptS P a 0 (c)) a 1 (r)) a 2 (w)) a 3 (q)) a).1 4)))), some (.int (zI (ptLen ((ptS (ptS (ptS (ptS P a 0 (c)) a 1 (r)) a 2 (w)) a 3 (q)) x) (((ptS (ptS (ptS (ptS P a 0 (c)) a 1 (r)) a 2 (w)) a 3 (q)) a).1 4)))), some (.int (zI (1)))]) dX2_place_83 (by decide) rfl rfl ?_
        refine pw_aload_n dX2_place_85 rfl ?_
        refine pw_iconst (v := zI (1)) dX2_place_86 (by decide) ?_
        refine pw_iload dX2_place_87 rfl ?_
        refine pw_iconst (v := zI (2)) dX2_place_89 (by decide) ?_
        refine pw_zisub dX2_place_90 ?_
        refine pw_iload dX2_place_91 rfl ?_
        refine pw_min cwX2_81 dX2_place_93 (by omega) (by omega) ⟨by show 1 ≤ 2 * k + 2; omega, Nat.le_trans (m := 64) (nle rfl) (by show 64 ≤ 64 * (2 * k + 2); omega)⟩ ⟨nle rfl, nle rfl⟩ ?_
        refine pw_max cwX2_87 dX2_place_96 (by omega) (by omega) ⟨by show 1 ≤ 2 * k + 2; omega, Nat.le_trans (m := 64) (nle rfl) (by show 64 ≤ 64 * (2 * k + 2); omega)⟩ ⟨nle rfl, nle rfl⟩ ?_
        refine pw_iload dX2_place_99 rfl ?_
        refine pw_iconst (v := zI (1)) dX2_place_101 (by decide) ?_
        refine pw_ziadd dX2_place_102 ?_
        refine pw_callS (As := [.ref a, .int (zI (max (1) (min ((ptLen ((ptS (ptS (ptS (ptS P a 0 (c)) a 1 (r)) a 2 (w)) a 3 (q)) a) (((ptS (ptS (ptS (ptS P a 0 (c)) a 1 (r)) a 2 (w)) a 3 (q)) a).1 4)) - (2)) (1)))), .int (zI (d + 1))]) (rm := rmD (2 * k + 1) 0 0) (hsh (L + 2) a (max (1) (min ((ptLen ((ptS (ptS (ptS (ptS P a 0 (c)) a 1 (r)) a 2 (w)) a 3 (q)) a) (((ptS (ptS (ptS (ptS P a 0 (c)) a 1 (r)) a 2 (w)) a 3 (q)) a).1 4)) - (2)) (1))) (d + 1) (ptS (ptS (ptS (ptS P a 0 (c)) a 1 (r)) a 2 (w)) a 3 (q)) (by omega) hP1 (by omega) hDa hcl1 (szOk_max hP1)) rfl ywX2_share rfl cwX2_65 (rmC (by omega) (nle rfl)) (nle rfl) ⟨nle rfl, nle rfl⟩ dX2_place_103 ?_ (fun _ _ _ z => z.elim)
        intro r2 h2 n2 hq _
        rw [hq.1, hq.2.1, hq.2.2]
        show pw E YX2_place _ _ 0 0 106 [some (.ref a), some (.int (zI (c))), some (.int (zI (r))), some (.int (zI (w))), some (.int (zI (q))), some (.int (zI (d))), some (.int (zI (ptLen (P a) ((P a).1 4)))), some (.int (zI (ptLen ((ptS (ptS (ptS (ptS P a 0 (c)) a 1 (r)) a 2 (w)) a 3 (q)) a) (((ptS (ptS (ptS (ptS P a 0 (c)) a 1 (r)) a 2 (w)) a 3 (q)) a).1 4)))), some (.int (zI (ptLen ((ptS (ptS (ptS (ptS P a 0 (c)) a 1 (r)) a 2 (w)) a 3 (q)) x) (((ptS (ptS (ptS (ptS P a 0 (c)) a 1 (r)) a 2 (w)) a 3 (q)) a).1 4)))), some (.int (zI (1)))] [] (ptPut D (plShare k a (max (1) (min ((ptLen ((ptS (ptS (ptS (ptS P a 0 (c)) a 1 (r)) a 2 (w)) a 3 (q)) a) (((ptS (ptS (ptS (ptS P a 0 (c)) a 1 (r)) a 2 (w)) a 3 (q)) a).1 4)) - (2)) (1))) (ptS (ptS (ptS (ptS P a 0 (c)) a 1 (r)) a 2 (w)) a 3 (q))) h) n
        exact pw_vret dX2_place_106 rfl (nle rfl) (nle rfl) ⟨rfl, by rw [plW_split hs hx, if_pos (by omega)], rfl⟩
      ·
        refine pw_iload dX2_place_67 rfl ?_
        refine pw_iconst (v := zI (1)) dX2_place_69 (by decide) ?_
        refine pw_zisub dX2_place_70 ?_
        refine pw_iload dX2_place_71 rfl ?_
        refine pw_zimul dX2_place_73 ?_
        refine pw_iload dX2_place_74 rfl ?_
        refine pw_iconst (v := zI (1)) dX2_place_76 (by decide) ?_
        refine pw_zisub dX2_place_77 ?_
        refine pw_zidivT dX2_place_78 (plMul (by omega) (by omega)) (by omega) ?_
        refine pw_goto (tgt := 83) dX2_place_79 rfl ?_
        have hk := plDiv (b := (ptLen (P a) ((P a).1 4)) - (1)) (plMul (a := ptLen ((ptS (ptS (ptS (ptS P a 0 (c)) a 1 (r)) a 2 (w)) a 3 (q)) a) (((ptS (ptS (ptS (ptS P a 0 (c)) a 1 (r)) a 2 (w)) a 3 (q)) a).1 4)) (b := ptLen ((ptS (ptS (ptS (ptS P a 0 (c)) a 1 (r)) a 2 (w)) a 3 (q)) x) (((ptS (ptS (ptS (ptS P a 0 (c)) a 1 (r)) a 2 (w)) a 3 (q)) a).1 4)) (by omega) (by omega))
        refine pw_istore (lv' := [some (.ref a), some (.int (zI (c))), some (.int (zI (r))), some (.int (zI (w))), some (.int (zI (q))), some (.int (zI (d))), some (.int (zI (ptLen (P a) ((P a).1 4)))), some (.int (zI (ptLen ((ptS (ptS (ptS (ptS P a 0 (c)) a 1 (r)) a 2 (w)) a 3 (q)) a) (((ptS (ptS (ptS (ptS P a 0 (c)) a 1 (r)) a 2 (w)) a 3 (q)) a).1 4)))), some (.int (zI (ptLen ((ptS (ptS (ptS (ptS P a 0 (c)) a 1 (r)) a 2 (w)) a 3 (q)) x) (((ptS (ptS (ptS (ptS P a 0 (c)) a 1 (r)) a 2 (w)) a 3 (q)) a).1 4)))), some (.int (zI (Int.tdiv (((ptLen ((ptS (ptS (ptS (ptS P a 0 (c)) a 1 (r)) a 2 (w)) a 3 (q)) a) (((ptS (ptS (ptS (ptS P a 0 (c)) a 1 (r)) a 2 (w)) a 3 (q)) a).1 4)) - (1)) * (ptLen ((ptS (ptS (ptS (ptS P a 0 (c)) a 1 (r)) a 2 (w)) a 3 (q)) x) (((ptS (ptS (ptS (ptS P a 0 (c)) a 1 (r)) a 2 (w)) a 3 (q)) a).1 4))) ((ptLen (P a) ((P a).1 4)) - (1)))))]) dX2_place_83 (by decide) rfl rfl ?_
        refine pw_aload_n dX2_place_85 rfl ?_
        refine pw_iconst (v := zI (1)) dX2_place_86 (by decide) ?_
        refine pw_iload dX2_place_87 rfl ?_
        refine pw_iconst (v := zI (2)) dX2_place_89 (by decide) ?_
        refine pw_zisub dX2_place_90 ?_
        refine pw_iload dX2_place_91 rfl ?_
        refine pw_min cwX2_81 dX2_place_93 (by omega) (by omega) ⟨by show 1 ≤ 2 * k + 2; omega, Nat.le_trans (m := 64) (nle rfl) (by show 64 ≤ 64 * (2 * k + 2); omega)⟩ ⟨nle rfl, nle rfl⟩ ?_
        refine pw_max cwX2_87 dX2_place_96 (by omega) (by omega) ⟨by show 1 ≤ 2 * k + 2; omega, Nat.le_trans (m := 64) (nle rfl) (by show 64 ≤ 64 * (2 * k + 2); omega)⟩ ⟨nle rfl, nle rfl⟩ ?_
        refine pw_iload dX2_place_99 rfl ?_
        refine pw_iconst (v := zI (1)) dX2_place_101 (by decide) ?_
        refine pw_ziadd dX2_place_102 ?_
        refine pw_callS (As := [.ref a, .int (zI (max (1) (min ((ptLen ((ptS (ptS (ptS (ptS P a 0 (c)) a 1 (r)) a 2 (w)) a 3 (q)) a) (((ptS (ptS (ptS (ptS P a 0 (c)) a 1 (r)) a 2 (w)) a 3 (q)) a).1 4)) - (2)) (Int.tdiv (((ptLen ((ptS (ptS (ptS (ptS P a 0 (c)) a 1 (r)) a 2 (w)) a 3 (q)) a) (((ptS (ptS (ptS (ptS P a 0 (c)) a 1 (r)) a 2 (w)) a 3 (q)) a).1 4)) - (1)) * (ptLen ((ptS (ptS (ptS (ptS P a 0 (c)) a 1 (r)) a 2 (w)) a 3 (q)) x) (((ptS (ptS (ptS (ptS P a 0 (c)) a 1 (r)) a 2 (w)) a 3 (q)) a).1 4))) ((ptLen (P a) ((P a).1 4)) - (1)))))), .int (zI (d + 1))]) (rm := rmD (2 * k + 1) 0 0) (hsh (L + 2) a (max (1) (min ((ptLen ((ptS (ptS (ptS (ptS P a 0 (c)) a 1 (r)) a 2 (w)) a 3 (q)) a) (((ptS (ptS (ptS (ptS P a 0 (c)) a 1 (r)) a 2 (w)) a 3 (q)) a).1 4)) - (2)) (Int.tdiv (((ptLen ((ptS (ptS (ptS (ptS P a 0 (c)) a 1 (r)) a 2 (w)) a 3 (q)) a) (((ptS (ptS (ptS (ptS P a 0 (c)) a 1 (r)) a 2 (w)) a 3 (q)) a).1 4)) - (1)) * (ptLen ((ptS (ptS (ptS (ptS P a 0 (c)) a 1 (r)) a 2 (w)) a 3 (q)) x) (((ptS (ptS (ptS (ptS P a 0 (c)) a 1 (r)) a 2 (w)) a 3 (q)) a).1 4))) ((ptLen (P a) ((P a).1 4)) - (1))))) (d + 1) (ptS (ptS (ptS (ptS P a 0 (c)) a 1 (r)) a 2 (w)) a 3 (q)) (by omega) hP1 (by omega) hDa hcl1 (szOk_max hP1)) rfl ywX2_share rfl cwX2_65 (rmC (by omega) (nle rfl)) (nle rfl) ⟨nle rfl, nle rfl⟩ dX2_place_103 ?_ (fun _ _ _ z => z.elim)
        intro r2 h2 n2 hq _
        rw [hq.1, hq.2.1, hq.2.2]
        show pw E YX2_place _ _ 0 0 106 [some (.ref a), some (.int (zI (c))), some (.int (zI (r))), some (.int (zI (w))), some (.int (zI (q))), some (.int (zI (d))), some (.int (zI (ptLen (P a) ((P a).1 4)))), some (.int (zI (ptLen ((ptS (ptS (ptS (ptS P a 0 (c)) a 1 (r)) a 2 (w)) a 3 (q)) a) (((ptS (ptS (ptS (ptS P a 0 (c)) a 1 (r)) a 2 (w)) a 3 (q)) a).1 4)))), some (.int (zI (ptLen ((ptS (ptS (ptS (ptS P a 0 (c)) a 1 (r)) a 2 (w)) a 3 (q)) x) (((ptS (ptS (ptS (ptS P a 0 (c)) a 1 (r)) a 2 (w)) a 3 (q)) a).1 4)))), some (.int (zI (Int.tdiv (((ptLen ((ptS (ptS (ptS (ptS P a 0 (c)) a 1 (r)) a 2 (w)) a 3 (q)) a) (((ptS (ptS (ptS (ptS P a 0 (c)) a 1 (r)) a 2 (w)) a 3 (q)) a).1 4)) - (1)) * (ptLen ((ptS (ptS (ptS (ptS P a 0 (c)) a 1 (r)) a 2 (w)) a 3 (q)) x) (((ptS (ptS (ptS (ptS P a 0 (c)) a 1 (r)) a 2 (w)) a 3 (q)) a).1 4))) ((ptLen (P a) ((P a).1 4)) - (1)))))] [] (ptPut D (plShare k a (max (1) (min ((ptLen ((ptS (ptS (ptS (ptS P a 0 (c)) a 1 (r)) a 2 (w)) a 3 (q)) a) (((ptS (ptS (ptS (ptS P a 0 (c)) a 1 (r)) a 2 (w)) a 3 (q)) a).1 4)) - (2)) (Int.tdiv (((ptLen ((ptS (ptS (ptS (ptS P a 0 (c)) a 1 (r)) a 2 (w)) a 3 (q)) a) (((ptS (ptS (ptS (ptS P a 0 (c)) a 1 (r)) a 2 (w)) a 3 (q)) a).1 4)) - (1)) * (ptLen ((ptS (ptS (ptS (ptS P a 0 (c)) a 1 (r)) a 2 (w)) a 3 (q)) x) (((ptS (ptS (ptS (ptS P a 0 (c)) a 1 (r)) a 2 (w)) a 3 (q)) a).1 4))) ((ptLen (P a) ((P a).1 4)) - (1))))) (ptS (ptS (ptS (ptS P a 0 (c)) a 1 (r)) a 2 (w)) a 3 (q))) h) n
        exact pw_vret dX2_place_106 rfl (nle rfl) (nle rfl) ⟨rfl, by rw [plW_split hs hx, if_neg (by omega)], rfl⟩
  ·
    rw [if_neg hs]
    refine pw_if_eq (tgt := 106) dX2_place_35 rfl (by omega) (fun c35 => ?_) (fun c35 => ?_)
    ·
      exact pw_vret dX2_place_106 rfl (nle rfl) (nle rfl) ⟨rfl, by rw [plW_no hs], rfl⟩
    · exfalso; omega
theorem pw_st {E : pw_E} {Y : pw_Y} {R : Room} {K : pw_K} {uc us pc : Nat} {lv : List (Option Value)} {st st' : List Value} {h : pz_H} {n : Nat} (e : st = st') (k : pw E Y R K uc us pc lv st' h n) : pw E Y R K uc us pc lv st h n := by rw [e]; exact k
set_option maxHeartbeats 4000000 in
set_option maxRecDepth 100000 in
/-- Layout.share -/
theorem mX2_share {E : pw_E} (htr : E.1.stackTraces = false) {h : pz_H} {n : Nat} {D : Nat → Bool} : ∀ (k : Nat), k ≤ 9 → ∀ (L : Int) (a : Nat) (sz d : Int) (P : Nat → ptC), d = 9 - (k : Int) → ptBd L P → L + plE k ≤ 10000 → D a = true → ptCl D P → szOk P a sz → pw_M E yX2_share YX2_share (rmD (2 * k + 1) 0 0) [.ref a, .int (zI sz), .int (zI d)] (ptPut D P h) n (fun r h' n' => r = none ∧ h' = ptPut D (plShare k a sz P) h ∧ n' = n) (fun _ _ _ => False) := by
  intro k
  induction k with
  | zero =>
    intro hk9
    intro L a sz d P hd hP hL hDa hcl hz
    have hdn := (hP.2 a).2.2
    have hl0 := ptLn_b hP a ((P a).1 4)
    have h0 := hP.1
    have ha := hP.2 a
    have hz1 := hz.1
    have hz2 := hz.2.1
    have hz3 : sz = 1 ∨ sz ≤ ptLen (P a) ((P a).1 4) - 2 := hz.2.2
    refine pw_M_of (lv := [some (.ref a), some (.int (zI (sz))), some (.int (zI (d))), none, none]) (by decide) rfl rfl htr (nle rfl) rfl (fun _ => ?_)
    refine pw_aload_n dX2_share_0 rfl ?_
    refine pw_callV (As := []) (b := a) (rm := rmD 0 0 0) (mX5_isSplit htr (ptAt hDa)) rfl (ptAt hDa) rfl rfl ywX5_isSplit rfl cwX2_69 (rmC (by omega) (nle rfl)) (nle rfl) ⟨nle rfl, nle rfl⟩ dX2_share_1 ?_ (fun _ _ _ z => z.elim)
    intro r2 h2 n2 hq _
    rw [hq.1, hq.2.1, hq.2.2]
    show pw E YX2_share _ _ 0 0 4 [some (.ref a), some (.int (zI (sz))), some (.int (zI (d))), none, none] [.int (zI (if ptSplit (P a) then 1 else 0))] (ptPut D P h) n
    by_cases hs : ptSplit (P a)
    ·
      rw [if_pos hs]
      obtain ⟨x, hx⟩ := Option.ne_none_iff_exists'.mp hs.1
      obtain ⟨y, hy⟩ := Option.ne_none_iff_exists'.mp hs.2
      have dx := hcl a hDa 0 x hx
      have dy := hcl a hDa 1 y hy
      refine pw_if_eq (tgt := 13) dX2_share_4 rfl (by omega) (fun c4 => ?_) (fun c4 => ?_)
      · exfalso; omega
      ·
        refine pw_iload_n dX2_share_7 rfl ?_
        refine pw_bipush (v := zI (8)) dX2_share_8 (by decide) ?_
        refine pw_icmp_le (tgt := 14) dX2_share_10 rfl (by omega) (by omega) (fun c10 => ?_) (fun c10 => ?_)
        · exfalso; omega
        ·
          exact pw_vret dX2_share_13 rfl (nle rfl) (nle rfl) ⟨rfl, rfl, rfl⟩
    ·
      rw [if_neg hs]
      refine pw_if_eq (tgt := 13) dX2_share_4 rfl (by omega) (fun c4 => ?_) (fun c4 => ?_)
      ·
        exact pw_vret dX2_share_13 rfl (nle rfl) (nle rfl) ⟨rfl, rfl, rfl⟩
      · exfalso; omega
  | succ k ih0 =>
    intro hk9
    have ih := ih0 (by omega)
    have he := plE_0 k
    have e1 : plE (k + 1) = 2 * (2 + plE k) := rfl
    intro L a sz d P hd hP hL hDa hcl hz
    have hdn := (hP.2 a).2.2
    have hl0 := ptLn_b hP a ((P a).1 4)
    have h0 := hP.1
    have ha := hP.2 a
    have hz1 := hz.1
    have hz2 := hz.2.1
    have hz3 : sz = 1 ∨ sz ≤ ptLen (P a) ((P a).1 4) - 2 := hz.2.2
    refine pw_M_of (lv := [some (.ref a), some (.int (zI (sz))), some (.int (zI (d))), none, none]) (by decide) rfl rfl htr (nle rfl) rfl (fun _ => ?_)
    refine pw_aload_n dX2_share_0 rfl ?_
    refine pw_callV (As := []) (b := a) (rm := rmD 0 0 0) (mX5_isSplit htr (ptAt hDa)) rfl (ptAt hDa) rfl rfl ywX5_isSplit rfl cwX2_69 (rmC (by omega) (nle rfl)) (nle rfl) ⟨nle rfl, nle rfl⟩ dX2_share_1 ?_ (fun _ _ _ z => z.elim)
    intro r2 h2 n2 hq _
    rw [hq.1, hq.2.1, hq.2.2]
    show pw E YX2_share _ _ 0 0 4 [some (.ref a), some (.int (zI (sz))), some (.int (zI (d))), none, none] [.int (zI (if ptSplit (P a) then 1 else 0))] (ptPut D P h) n
    by_cases hs : ptSplit (P a)
    ·
      rw [if_pos hs]
      obtain ⟨x, hx⟩ := Option.ne_none_iff_exists'.mp hs.1
      obtain ⟨y, hy⟩ := Option.ne_none_iff_exists'.mp hs.2
      have dx := hcl a hDa 0 x hx
      have dy := hcl a hDa 1 y hy
      refine pw_if_eq (tgt := 13) dX2_share_4 rfl (by omega) (fun c4 => ?_) (fun c4 => ?_)
      · exfalso; omega
      ·
        refine pw_iload_n dX2_share_7 rfl ?_
        refine pw_bipush (v := zI (8)) dX2_share_8 (by decide) ?_
        refine pw_icmp_le (tgt := 14) dX2_share_10 rfl (by omega) (by omega) (fun c10 => ?_) (fun c10 => ?_)
        ·
          refine pw_aload_n dX2_share_14 rfl ?_
          refine pw_aload_n dX2_share_15 rfl ?_
          refine pw_getN (v := .int (zI ((P a).1 4))) okX5 (k := 4) (by decide) lkX2_55 (ptAt hDa) rfl dX2_share_16 ?_
          refine pw_callV (As := [.int (zI ((P a).1 4))]) (b := a) (rm := rmD 0 0 0) (mX5_length htr (ptAt hDa) (hdn)) rfl (ptAt hDa) rfl rfl ywX5_length rfl cwX2_39 (rmC (by omega) (nle rfl)) (nle rfl) ⟨nle rfl, nle rfl⟩ dX2_share_19 ?_ (fun _ _ _ z => z.elim)
          intro r2 h2 n2 hq _
          rw [hq.1, hq.2.1, hq.2.2]
          show pw E YX2_share _ _ 0 0 22 [some (.ref a), some (.int (zI (sz))), some (.int (zI (d))), none, none] [.int (zI (ptLen (P a) ((P a).1 4)))] (ptPut D P h) n
          refine pw_iconst (v := zI (1)) dX2_share_22 (by decide) ?_
          refine pw_zisub dX2_share_23 ?_
          refine pw_iload_n dX2_share_24 rfl ?_
          refine pw_zisub dX2_share_25 ?_
          refine pw_istore_n (lv' := [some (.ref a), some (.int (zI (sz))), some (.int (zI (d))), some (.int (zI (((ptLen (P a) ((P a).1 4)) - (1)) - (sz)))), none]) dX2_share_26 (by decide) rfl rfl ?_
          refine pw_iload_n dX2_share_27 rfl ?_
          refine pw_iconst (v := zI (1)) dX2_share_28 (by decide) ?_
          refine pw_ziadd dX2_share_29 ?_
          refine pw_istore (lv' := [some (.ref a), some (.int (zI (sz))), some (.int (zI (d))), some (.int (zI (((ptLen (P a) ((P a).1 4)) - (1)) - (sz)))), some (.int (zI (sz + 1)))]) dX2_share_30 (by decide) rfl rfl ?_
          refine pw_aload_n dX2_share_32 rfl ?_
          refine pw_getN (v := .int (zI ((P a).1 4))) okX5 (k := 4) (by decide) lkX2_55 (ptAt hDa) rfl dX2_share_33 ?_
          refine pw_if_eq (tgt := 87) dX2_share_36 rfl (by omega) (fun c36 => ?_) (fun c36 => ?_)
          ·
            refine pw_aload_n dX2_share_87 rfl ?_
            refine pw_getN (v := rv ((P a).2 0)) okX5 (k := 5) (by decide) lkX2_49 (ptAt hDa) rfl dX2_share_88 ?_
            refine pw_aload_n dX2_share_91 rfl ?_
            refine pw_getN (v := .int (zI ((P a).1 0))) okX5 (k := 0) (by decide) lkX2_59 (ptAt hDa) rfl dX2_share_92 ?_
            refine pw_aload_n dX2_share_95 rfl ?_
            refine pw_getN (v := .int (zI ((P a).1 1))) okX5 (k := 1) (by decide) lkX2_62 (ptAt hDa) rfl dX2_share_96 ?_
            refine pw_iload_n dX2_share_99 rfl ?_
            refine pw_aload_n dX2_share_100 rfl ?_
            refine pw_getN (v := .int (zI ((P a).1 3))) okX5 (k := 3) (by decide) lkX2_28 (ptAt hDa) rfl dX2_share_101 ?_
            refine pw_iload_n dX2_share_104 rfl ?_
            refine pw_st (st' := [.int (zI (d)), .int (zI ((P a).1 3)), .int (zI (sz)), .int (zI ((P a).1 1)), .int (zI ((P a).1 0)), .ref x]) (by rw [hx]; rfl) ?_
            refine pw_callS (As := [.ref x, .int (zI ((P a).1 0)), .int (zI ((P a).1 1)), .int (zI (sz)), .int (zI ((P a).1 3)), .int (zI (d))]) (rm := rmD (2 * k + 2) 0 0) (mX2_place_of htr ih (L := L) (by omega) (by omega) hP (by omega) dx hcl (by omega) (by omega)) rfl ywX2_place rfl cwX2_73 (rmC (by omega) (nle rfl)) (nle rfl) ⟨nle rfl, nle rfl⟩ dX2_share_105 ?_ (fun _ _ _ z => z.elim)
            intro r2 h2 n2 hq _
            rw [hq.1, hq.2.1, hq.2.2]
            show pw E YX2_share _ _ 0 0 108 [some (.ref a), some (.int (zI (sz))), some (.int (zI (d))), some (.int (zI (((ptLen (P a) ((P a).1 4)) - (1)) - (sz)))), some (.int (zI (sz + 1)))] [] (ptPut D (plW (plShare k) x ((P a).1 0) ((P a).1 1) (sz) ((P a).1 3) P) h) n
            have hsm : ptSame P (plW (plShare k) x ((P a).1 0) ((P a).1 1) (sz) ((P a).1 3) P) := plW_same (plShare_same k)
            have hcl2 : ptCl D (plW (plShare k) x ((P a).1 0) ((P a).1 1) (sz) ((P a).1 3) P) := ptCl_same hcl hsm
            have hP2 : ptBd (L + 2 + plE k) (plW (plShare k) x ((P a).1 0) ((P a).1 1) (sz) ((P a).1 3) P) := plW_bd he (fun a sz P h1 h2 => plShare_bd k (L + 2) a sz P h1 h2) hP (by omega) (by omega)
            have hb2 := hP2.2 a
            have hy2 : ((plW (plShare k) x ((P a).1 0) ((P a).1 1) (sz) ((P a).1 3) P) a).2 1 = some y := (congrFun (hsm a).1 1).trans hy
            refine pw_aload_n dX2_share_108 rfl ?_
            refine pw_getN (v := rv (((plW (plShare k) x ((P a).1 0) ((P a).1 1) (sz) ((P a).1 3) P) a).2 1)) okX5 (k := 6) (by decide) lkX2_52 (ptAt hDa) rfl dX2_share_109 ?_
            refine pw_aload_n dX2_share_112 rfl ?_
            refine pw_getN (v := .int (zI (((plW (plShare k) x ((P a).1 0) ((P a).1 1) (sz) ((P a).1 3) P) a).1 0))) okX5 (k := 0) (by decide) lkX2_59 (ptAt hDa) rfl dX2_share_113 ?_
            refine pw_iload dX2_share_116 rfl ?_
            refine pw_ziadd dX2_share_118 ?_
            refine pw_aload_n dX2_share_119 rfl ?_
            refine pw_getN (v := .int (zI (((plW (plShare k) x ((P a).1 0) ((P a).1 1) (sz) ((P a).1 3) P) a).1 1))) okX5 (k := 1) (by decide) lkX2_62 (ptAt hDa) rfl dX2_share_120 ?_
            refine pw_iload_n dX2_share_123 rfl ?_
            refine pw_aload_n dX2_share_124 rfl ?_
            refine pw_getN (v := .int (zI (((plW (plShare k) x ((P a).1 0) ((P a).1 1) (sz) ((P a).1 3) P) a).1 3))) okX5 (k := 3) (by decide) lkX2_28 (ptAt hDa) rfl dX2_share_125 ?_
            refine pw_iload_n dX2_share_128 rfl ?_
            refine pw_st (st' := [.int (zI (d)), .int (zI (((plW (plShare k) x ((P a).1 0) ((P a).1 1) (sz) ((P a).1 3) P) a).1 3)), .int (zI (((ptLen (P a) ((P a).1 4)) - (1)) - (sz))), .int (zI (((plW (plShare k) x ((P a).1 0) ((P a).1 1) (sz) ((P a).1 3) P) a).1 1)), .int (zI ((((plW (plShare k) x ((P a).1 0) ((P a).1 1) (sz) ((P a).1 3) P) a).1 0) + (sz + 1))), .ref y]) (by rw [hy2]; rfl) ?_
            refine pw_callS (As := [.ref y, .int (zI ((((plW (plShare k) x ((P a).1 0) ((P a).1 1) (sz) ((P a).1 3) P) a).1 0) + (sz + 1))), .int (zI (((plW (plShare k) x ((P a).1 0) ((P a).1 1) (sz) ((P a).1 3) P) a).1 1)), .int (zI (((ptLen (P a) ((P a).1 4)) - (1)) - (sz))), .int (zI (((plW (plShare k) x ((P a).1 0) ((P a).1 1) (sz) ((P a).1 3) P) a).1 3)), .int (zI (d))]) (rm := rmD (2 * k + 2) 0 0) (mX2_place_of htr ih (L := L + 2 + plE k) (by omega) (by omega) hP2 (by omega) dy hcl2 (by omega) (by omega)) rfl ywX2_place rfl cwX2_73 (rmC (by omega) (nle rfl)) (nle rfl) ⟨nle rfl, nle rfl⟩ dX2_share_129 ?_ (fun _ _ _ z => z.elim)
            intro r2 h2 n2 hq _
            rw [hq.1, hq.2.1, hq.2.2]
            show pw E YX2_share _ _ 0 0 132 [some (.ref a), some (.int (zI (sz))), some (.int (zI (d))), some (.int (zI (((ptLen (P a) ((P a).1 4)) - (1)) - (sz)))), some (.int (zI (sz + 1)))] [] (ptPut D (plW (plShare k) y ((((plW (plShare k) x ((P a).1 0) ((P a).1 1) (sz) ((P a).1 3) P) a).1 0) + (sz + 1)) (((plW (plShare k) x ((P a).1 0) ((P a).1 1) (sz) ((P a).1 3) P) a).1 1) (((ptLen (P a) ((P a).1 4)) - (1)) - (sz)) (((plW (plShare k) x ((P a).1 0) ((P a).1 1) (sz) ((P a).1 3) P) a).1 3) (plW (plShare k) x ((P a).1 0) ((P a).1 1) (sz) ((P a).1 3) P)) h) n
            exact pw_vret dX2_share_132 rfl (nle rfl) (nle rfl) ⟨rfl, by rw [plShare_r hs hx hy c36], rfl⟩
          ·
            refine pw_aload_n dX2_share_39 rfl ?_
            refine pw_getN (v := rv ((P a).2 0)) okX5 (k := 5) (by decide) lkX2_49 (ptAt hDa) rfl dX2_share_40 ?_
            refine pw_aload_n dX2_share_43 rfl ?_
            refine pw_getN (v := .int (zI ((P a).1 0))) okX5 (k := 0) (by decide) lkX2_59 (ptAt hDa) rfl dX2_share_44 ?_
            refine pw_aload_n dX2_share_47 rfl ?_
            refine pw_getN (v := .int (zI ((P a).1 1))) okX5 (k := 1) (by decide) lkX2_62 (ptAt hDa) rfl dX2_share_48 ?_
            refine pw_aload_n dX2_share_51 rfl ?_
            refine pw_getN (v := .int (zI ((P a).1 2))) okX5 (k := 2) (by decide) lkX2_24 (ptAt hDa) rfl dX2_share_52 ?_
            refine pw_iload_n dX2_share_55 rfl ?_
            refine pw_iload_n dX2_share_56 rfl ?_
            refine pw_st (st' := [.int (zI (d)), .int (zI (sz)), .int (zI ((P a).1 2)), .int (zI ((P a).1 1)), .int (zI ((P a).1 0)), .ref x]) (by rw [hx]; rfl) ?_
            refine pw_callS (As := [.ref x, .int (zI ((P a).1 0)), .int (zI ((P a).1 1)), .int (zI ((P a).1 2)), .int (zI (sz)), .int (zI (d))]) (rm := rmD (2 * k + 2) 0 0) (mX2_place_of htr ih (L := L) (by omega) (by omega) hP (by omega) dx hcl (by omega) (by omega)) rfl ywX2_place rfl cwX2_73 (rmC (by omega) (nle rfl)) (nle rfl) ⟨nle rfl, nle rfl⟩ dX2_share_57 ?_ (fun _ _ _ z => z.elim)
            intro r2 h2 n2 hq _
            rw [hq.1, hq.2.1, hq.2.2]
            show pw E YX2_share _ _ 0 0 60 [some (.ref a), some (.int (zI (sz))), some (.int (zI (d))), some (.int (zI (((ptLen (P a) ((P a).1 4)) - (1)) - (sz)))), some (.int (zI (sz + 1)))] [] (ptPut D (plW (plShare k) x ((P a).1 0) ((P a).1 1) ((P a).1 2) (sz) P) h) n
            have hsm : ptSame P (plW (plShare k) x ((P a).1 0) ((P a).1 1) ((P a).1 2) (sz) P) := plW_same (plShare_same k)
            have hcl2 : ptCl D (plW (plShare k) x ((P a).1 0) ((P a).1 1) ((P a).1 2) (sz) P) := ptCl_same hcl hsm
            have hP2 : ptBd (L + 2 + plE k) (plW (plShare k) x ((P a).1 0) ((P a).1 1) ((P a).1 2) (sz) P) := plW_bd he (fun a sz P h1 h2 => plShare_bd k (L + 2) a sz P h1 h2) hP (by omega) (by omega)
            have hb2 := hP2.2 a
            have hy2 : ((plW (plShare k) x ((P a).1 0) ((P a).1 1) ((P a).1 2) (sz) P) a).2 1 = some y := (congrFun (hsm a).1 1).trans hy
            refine pw_aload_n dX2_share_60 rfl ?_
            refine pw_getN (v := rv (((plW (plShare k) x ((P a).1 0) ((P a).1 1) ((P a).1 2) (sz) P) a).2 1)) okX5 (k := 6) (by decide) lkX2_52 (ptAt hDa) rfl dX2_share_61 ?_
            refine pw_aload_n dX2_share_64 rfl ?_
            refine pw_getN (v := .int (zI (((plW (plShare k) x ((P a).1 0) ((P a).1 1) ((P a).1 2) (sz) P) a).1 0))) okX5 (k := 0) (by decide) lkX2_59 (ptAt hDa) rfl dX2_share_65 ?_
            refine pw_aload_n dX2_share_68 rfl ?_
            refine pw_getN (v := .int (zI (((plW (plShare k) x ((P a).1 0) ((P a).1 1) ((P a).1 2) (sz) P) a).1 1))) okX5 (k := 1) (by decide) lkX2_62 (ptAt hDa) rfl dX2_share_69 ?_
            refine pw_iload dX2_share_72 rfl ?_
            refine pw_ziadd dX2_share_74 ?_
            refine pw_aload_n dX2_share_75 rfl ?_
            refine pw_getN (v := .int (zI (((plW (plShare k) x ((P a).1 0) ((P a).1 1) ((P a).1 2) (sz) P) a).1 2))) okX5 (k := 2) (by decide) lkX2_24 (ptAt hDa) rfl dX2_share_76 ?_
            refine pw_iload_n dX2_share_79 rfl ?_
            refine pw_iload_n dX2_share_80 rfl ?_
            refine pw_st (st' := [.int (zI (d)), .int (zI (((ptLen (P a) ((P a).1 4)) - (1)) - (sz))), .int (zI (((plW (plShare k) x ((P a).1 0) ((P a).1 1) ((P a).1 2) (sz) P) a).1 2)), .int (zI ((((plW (plShare k) x ((P a).1 0) ((P a).1 1) ((P a).1 2) (sz) P) a).1 1) + (sz + 1))), .int (zI (((plW (plShare k) x ((P a).1 0) ((P a).1 1) ((P a).1 2) (sz) P) a).1 0)), .ref y]) (by rw [hy2]; rfl) ?_
            refine pw_callS (As := [.ref y, .int (zI (((plW (plShare k) x ((P a).1 0) ((P a).1 1) ((P a).1 2) (sz) P) a).1 0)), .int (zI ((((plW (plShare k) x ((P a).1 0) ((P a).1 1) ((P a).1 2) (sz) P) a).1 1) + (sz + 1))), .int (zI (((plW (plShare k) x ((P a).1 0) ((P a).1 1) ((P a).1 2) (sz) P) a).1 2)), .int (zI (((ptLen (P a) ((P a).1 4)) - (1)) - (sz))), .int (zI (d))]) (rm := rmD (2 * k + 2) 0 0) (mX2_place_of htr ih (L := L + 2 + plE k) (by omega) (by omega) hP2 (by omega) dy hcl2 (by omega) (by omega)) rfl ywX2_place rfl cwX2_73 (rmC (by omega) (nle rfl)) (nle rfl) ⟨nle rfl, nle rfl⟩ dX2_share_81 ?_ (fun _ _ _ z => z.elim)
            intro r2 h2 n2 hq _
            rw [hq.1, hq.2.1, hq.2.2]
            show pw E YX2_share _ _ 0 0 84 [some (.ref a), some (.int (zI (sz))), some (.int (zI (d))), some (.int (zI (((ptLen (P a) ((P a).1 4)) - (1)) - (sz)))), some (.int (zI (sz + 1)))] [] (ptPut D (plW (plShare k) y (((plW (plShare k) x ((P a).1 0) ((P a).1 1) ((P a).1 2) (sz) P) a).1 0) ((((plW (plShare k) x ((P a).1 0) ((P a).1 1) ((P a).1 2) (sz) P) a).1 1) + (sz + 1)) (((plW (plShare k) x ((P a).1 0) ((P a).1 1) ((P a).1 2) (sz) P) a).1 2) (((ptLen (P a) ((P a).1 4)) - (1)) - (sz)) (plW (plShare k) x ((P a).1 0) ((P a).1 1) ((P a).1 2) (sz) P)) h) n
            refine pw_goto (tgt := 132) dX2_share_84 rfl ?_
            exact pw_vret dX2_share_132 rfl (nle rfl) (nle rfl) ⟨rfl, by rw [plShare_d hs hx hy c36], rfl⟩
        · exfalso; omega
    ·
      rw [if_neg hs]
      refine pw_if_eq (tgt := 13) dX2_share_4 rfl (by omega) (fun c4 => ?_) (fun c4 => ?_)
      ·
        exact pw_vret dX2_share_13 rfl (nle rfl) (nle rfl) ⟨rfl, by rw [plShare_no hs], rfl⟩
      · exfalso; omega
/-- Layout.place -/
theorem mX2_place {E : pw_E} (htr : E.1.stackTraces = false) {h : pz_H} {n k : Nat} {D : Nat → Bool} {L c r w q d : Int} {a : Nat} {P : Nat → ptC} (hd : d = 8 - (k : Int)) (hk9 : k ≤ 9) (hP : ptBd L P) (hL : L + 2 + plE k ≤ 10000) (hDa : D a = true) (hcl : ptCl D P) (hw : -(L + 2) ≤ w ∧ w ≤ 100) (hqq : -(L + 2) ≤ q ∧ q ≤ 100) : pw_M E yX2_place YX2_place (rmD (2 * k + 2) 0 0) [.ref a, .int (zI c), .int (zI r), .int (zI w), .int (zI q), .int (zI d)] (ptPut D P h) n (fun r0 h' n' => r0 = none ∧ h' = ptPut D (plW (plShare k) a c r w q P) h ∧ n' = n) (fun _ _ _ => False) :=
  mX2_place_of htr (mX2_share htr k hk9) hd hk9 hP hL hDa hcl hw hqq
