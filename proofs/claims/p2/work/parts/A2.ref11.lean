def YX10_shows : pw_Y := (RX10, "shows", cX10_shows, 7, (some .int))
theorem ywX10_shows : pw_y yX10_shows YX10_shows 4 := ⟨by decide +kernel, by decide +kernel, by decide +kernel, pw_in 1699 (by decide +kernel) (by decide +kernel), pw_in 106 (by decide +kernel) (by decide +kernel)⟩
def YX10_picture : pw_Y := (RX10, "picture", cX10_picture, 6, (some .int))
theorem ywX10_picture : pw_y yX10_picture YX10_picture 3 := ⟨by decide +kernel, by decide +kernel, by decide +kernel, pw_in 1711 (by decide +kernel) (by decide +kernel), pw_in 106 (by decide +kernel) (by decide +kernel)⟩
theorem lkX10_7 : Cond.fieldLink RX10 7 (TX10 3).1 (TX10 3).2.1 (TX10 3).2.2.1 ∈ pw_G := pw_in 1333 (by decide +kernel) (by decide +kernel)
theorem lkX10_38 : Cond.fieldLink RX10 38 (TX10 12).1 (TX10 12).2.1 (TX10 12).2.2.1 ∈ pw_G := pw_in 1342 (by decide +kernel) (by decide +kernel)
theorem lkX10_41 : Cond.fieldLink RX10 41 (TX10 13).1 (TX10 13).2.1 (TX10 13).2.2.1 ∈ pw_G := pw_in 1343 (by decide +kernel) (by decide +kernel)
theorem lkX10_13 : Cond.fieldLink RX10 13 (TX10 4).1 (TX10 4).2.1 (TX10 4).2.2.1 ∈ pw_G := pw_in 1334 (by decide +kernel) (by decide +kernel)
theorem cwX10_327 : Cond.methodLink RX10 327 yX10_shows ∈ pw_G ∧ Cond.instanceMethod yX10_shows ∈ pw_G ∧ Cond.selects RX10 yX10_shows yX10_shows ∈ pw_G := ⟨pw_in 1696 (by decide +kernel) (by decide +kernel), pw_in 1698 (by decide +kernel) (by decide +kernel), pw_in 70 (by decide +kernel) (by decide +kernel)⟩
def YX10_cell : pw_Y := (RX10, "cell", cX10_cell, 4, (some .int))
theorem ywX10_cell : pw_y yX10_cell YX10_cell 3 := ⟨by decide +kernel, by decide +kernel, by decide +kernel, pw_in 1739 (by decide +kernel) (by decide +kernel), pw_in 106 (by decide +kernel) (by decide +kernel)⟩
theorem lkX10_162 : Cond.fieldLink RX10 162 (TX10 1).1 (TX10 1).2.1 (TX10 1).2.2.1 ∈ pw_G := pw_in 1331 (by decide +kernel) (by decide +kernel)
theorem lkX10_166 : Cond.fieldLink RX10 166 (TX10 2).1 (TX10 2).2.1 (TX10 2).2.2.1 ∈ pw_G := pw_in 1332 (by decide +kernel) (by decide +kernel)
theorem cwX10_352 : Cond.methodLink RX10 352 yX10_picture ∈ pw_G ∧ Cond.instanceMethod yX10_picture ∈ pw_G ∧ Cond.selects RX10 yX10_picture yX10_picture ∈ pw_G := ⟨pw_in 1708 (by decide +kernel) (by decide +kernel), pw_in 1710 (by decide +kernel) (by decide +kernel), pw_in 72 (by decide +kernel) (by decide +kernel)⟩
def YX10_goTo : pw_Y := (RX10, "goTo", cX10_goTo, 3, none)
theorem ywX10_goTo : pw_y yX10_goTo YX10_goTo 2 := ⟨by decide +kernel, by decide +kernel, by decide +kernel, pw_in 1715 (by decide +kernel) (by decide +kernel), pw_in 106 (by decide +kernel) (by decide +kernel)⟩
theorem lkX10_340 : Cond.fieldLink RX10 340 (TX10 53).1 (TX10 53).2.1 (TX10 53).2.2.1 ∈ pw_G := pw_in 1383 (by decide +kernel) (by decide +kernel)
theorem lkX10_343 : Cond.fieldLink RX10 343 (TX10 54).1 (TX10 54).2.1 (TX10 54).2.2.1 ∈ pw_G := pw_in 1384 (by decide +kernel) (by decide +kernel)
def YX10_redraw : pw_Y := (RX10, "redraw", cX10_redraw, 5, (some .int))
theorem ywX10_redraw : pw_y yX10_redraw YX10_redraw 0 := ⟨by decide +kernel, by decide +kernel, by decide +kernel, pw_in 1707 (by decide +kernel) (by decide +kernel), pw_in 106 (by decide +kernel) (by decide +kernel)⟩
theorem lkX10_143 : Cond.fieldLink RX10 143 (TX10 51).1 (TX10 51).2.1 (TX10 51).2.2.1 ∈ pw_G := pw_in 1381 (by decide +kernel) (by decide +kernel)
theorem lkX10_146 : Cond.fieldLink RX10 146 (TX10 52).1 (TX10 52).2.1 (TX10 52).2.2.1 ∈ pw_G := pw_in 1382 (by decide +kernel) (by decide +kernel)
theorem cwX10_356 : Cond.methodLink RX10 356 yX10_goTo ∈ pw_G ∧ Cond.instanceMethod yX10_goTo ∈ pw_G ∧ Cond.selects RX10 yX10_goTo yX10_goTo ∈ pw_G := ⟨pw_in 1712 (by decide +kernel) (by decide +kernel), pw_in 1714 (by decide +kernel) (by decide +kernel), pw_in 73 (by decide +kernel) (by decide +kernel)⟩
theorem lkX10_149 : Cond.fieldLink RX10 149 (TX10 55).1 (TX10 55).2.1 (TX10 55).2.2.1 ∈ pw_G := pw_in 1385 (by decide +kernel) (by decide +kernel)
def YX10_select : pw_Y := (RX10, "select", cX10_select, 10, (some .int))
theorem ywX10_select : pw_y yX10_select YX10_select 5 := ⟨by decide +kernel, by decide +kernel, by decide +kernel, pw_in 1691 (by decide +kernel) (by decide +kernel), pw_in 106 (by decide +kernel) (by decide +kernel)⟩
theorem cwX10_331 : Cond.methodLink RX10 331 yX10_copyOne ∈ pw_G ∧ Cond.instanceMethod yX10_copyOne ∈ pw_G ∧ Cond.selects RX10 yX10_copyOne yX10_copyOne ∈ pw_G := ⟨pw_in 1700 (by decide +kernel) (by decide +kernel), pw_in 1702 (by decide +kernel) (by decide +kernel), pw_in 71 (by decide +kernel) (by decide +kernel)⟩
theorem cwX10_323 : Cond.methodLink RX10 323 yX10_isIn ∈ pw_G ∧ Cond.instanceMethod yX10_isIn ∈ pw_G ∧ Cond.selects RX10 yX10_isIn yX10_isIn ∈ pw_G := ⟨pw_in 1692 (by decide +kernel) (by decide +kernel), pw_in 1694 (by decide +kernel) (by decide +kernel), pw_in 69 (by decide +kernel) (by decide +kernel)⟩
/-- nothing is drawn in pane 0, nothing has scrolled away -/
def mBl (s : mS) : Prop := s.2 43 0 = 0 ∧ s.2 22 0 = 0 ∧ s.2 42 0 = 0 ∧ s.2 44 0 = 0 ∧ (∀ i, i < 1280 → s.2 20 i = 32) ∧ ∀ i, i < 1280 → s.2 21 i = 0
theorem mN_bl {w H : Int} {s : mS} (hn : mN w H s) : mBl s := ⟨mN_43 hn, mN_22 hn, mN_42 hn, mN_44 hn, hn.2.2.1, fun i _ => by
  by_cases e : i = 0
  · rw [e]; exact mN_21 hn
  · exact mZ_21 hn (by omega)⟩
theorem mCell_0 {q r c : Int} (hq : q = 0) (hr : 0 ≤ r ∧ r < 16) (hc : 0 ≤ c ∧ c < 40) : 0 ≤ mCell 0 q r c ∧ mCell 0 q r c < 1280 := by
  unfold mCell
  omega
set_option maxHeartbeats 1000000 in
set_option maxRecDepth 100000 in
/-- shows(p, r, c, ta) -/
theorem nF_shows {E : pw_E} (htr : E.1.stackTraces = false) {h : pz_H} {n : Nat} {B : Nat} {s : mS} (hA : mAt B s h) {p r c ta : Int}  (hp0 : p = 0) (hk : mPk s 0) (hb : mBl s) (hr : 0 ≤ r ∧ r < 16) (hc : 0 ≤ c ∧ c < 40) (hta : 0 ≤ ta ∧ ta ≤ 1) : pw_M E yX10_shows YX10_shows (rmD 2 0 0) [.ref B, .int (zI (p)), .int (zI (r)), .int (zI (c)), .int (zI (ta))] h n (fun r0 h' n' => r0 = some (.int (zI (if ta = 0 then 32 else 0))) ∧ h' = h ∧ n' = n) (fun _ _ _ => False) := by
  have ep : p.toNat = 0 := by omega
  have g43 : s.2 43 p.toNat = 0 := by rw [ep]; exact hb.1
  have g42 : s.2 42 p.toNat = 0 := by rw [ep]; exact hb.2.2.1
  have g44 : s.2 44 p.toNat = 0 := by rw [ep]; exact hb.2.2.2.1
  refine pw_M_of (lv := [some (.ref B), some (.int (zI (p))), some (.int (zI (r))), some (.int (zI (c))), some (.int (zI (ta))), none, none]) (by decide) rfl rfl htr (nle rfl) rfl (fun L => ?_)
  refine pw_iload_n dX10_shows_0 rfl ?_
  refine pw_aload_n dX10_shows_1 rfl ?_
  refine pw_iload_n dX10_shows_2 rfl ?_
  refine pw_callV (As := [.int (zI (p))]) (b := B) (rm := rmD 1 0 0) (nR_offsetOf htr hA (by omega) (by rw [g43]; omega) (by rw [g44]; omega) (by rw [g42]; omega)) rfl hA.1 rfl rfl ywX10_offsetOf rfl cwX10_305 ⟨nle rfl, nle rfl⟩ (nle rfl) ⟨nle rfl, nle rfl⟩ dX10_shows_3 ?_ (fun _ _ _ z => z.elim)
  intro r_9 h_9 n_9 hq _
  have hof : mOf s p = 0 := by unfold mOf; exact if_pos g43
  rw [hq.1, hq.2.1, hq.2.2, hof]
  show pw E YX10_shows _ _ 0 0 6 [some (.ref B), some (.int (zI (p))), some (.int (zI (r))), some (.int (zI (c))), some (.int (zI (ta))), none, none] [.int (zI (0)), .int (zI (r))] h n
  refine pw_zisub dX10_shows_6 ?_
  refine pw_istore (lv' := [some (.ref B), some (.int (zI (p))), some (.int (zI (r))), some (.int (zI (c))), some (.int (zI (ta))), some (.int (zI (r - 0))), none]) dX10_shows_7 (by decide) rfl rfl ?_
  refine pw_iload dX10_shows_9 rfl ?_
  refine pw_if_ge (tgt := 53) dX10_shows_11 rfl (by omega) (fun c11 => ?_) (fun c11 => ?_)
  ·
    refine pw_iload dX10_shows_53 rfl ?_
    refine pw_if_eq (tgt := 74) dX10_shows_55 rfl (by omega) (fun c55 => ?_) (fun c55 => ?_)
    ·
      refine pw_aload_n dX10_shows_74 rfl ?_
      refine pw_get (v := .ref (B + 17)) okX10 (k := 20) (by decide) lkX10_59 hA.1 rfl dX10_shows_75 ?_
      refine pw_aload_n dX10_shows_78 rfl ?_
      refine pw_iload_n dX10_shows_79 rfl ?_
      refine pw_iload dX10_shows_80 rfl ?_
      refine pw_iload_n dX10_shows_82 rfl ?_
      refine pw_callV (As := [.int (zI (p)), .int (zI (r - 0)), .int (zI (c))]) (b := B) (rm := rmD 1 0 0) (mR_at htr hA (p := p) (by omega) (by rw [ep]; exact hk)) rfl hA.1 rfl rfl ywX10_at rfl cwX10_231 ⟨nle rfl, nle rfl⟩ (nle rfl) ⟨nle rfl, nle rfl⟩ dX10_shows_83 ?_ (fun _ _ _ z => z.elim)
      intro r_9 h_9 n_9 hq _
      rw [hq.1, hq.2.1, hq.2.2]
      show pw E YX10_shows _ _ 0 0 86 [some (.ref B), some (.int (zI (p))), some (.int (zI (r))), some (.int (zI (c))), some (.int (zI (ta))), some (.int (zI (r - 0))), none] [.int (zI (mCell (p) (s.2 22 p.toNat) (r - 0) (c))), .ref (B + 17)] h n
      refine pw_iald (g := (s.2 20)) (t := 0) rfl (mF20 (s := s) hA) (by first | omega | exact mCell_b (by omega) (by rw [ep, hb.2.1]; omega) (by omega) (by omega)) (by decide) dX10_shows_86 ?_
      have hcb : 0 ≤ mCell p (s.2 22 p.toNat) (r - 0) c ∧ mCell p (s.2 22 p.toNat) (r - 0) c < 1280 := by rw [hp0]; exact mCell_0 (by rw [show Int.toNat 0 = 0 from rfl]; exact hb.2.1) (by omega) (by omega)
      have hv : (s.2 20) (mCell (p) (s.2 22 p.toNat) (r - 0) (c)).toNat = if ta = 0 then 32 else 0 := by rw [hb.2.2.2.2.1 _ (by omega)]; omega
      exact pw_iret dX10_shows_87 rfl (nle rfl) (nle rfl) ⟨by rw [hv], rfl, rfl⟩
    ·
      refine pw_aload_n dX10_shows_58 rfl ?_
      refine pw_get (v := .ref (B + 18)) okX10 (k := 21) (by decide) lkX10_62 hA.1 rfl dX10_shows_59 ?_
      refine pw_aload_n dX10_shows_62 rfl ?_
      refine pw_iload_n dX10_shows_63 rfl ?_
      refine pw_iload dX10_shows_64 rfl ?_
      refine pw_iload_n dX10_shows_66 rfl ?_
      refine pw_callV (As := [.int (zI (p)), .int (zI (r - 0)), .int (zI (c))]) (b := B) (rm := rmD 1 0 0) (mR_at htr hA (p := p) (by omega) (by rw [ep]; exact hk)) rfl hA.1 rfl rfl ywX10_at rfl cwX10_231 ⟨nle rfl, nle rfl⟩ (nle rfl) ⟨nle rfl, nle rfl⟩ dX10_shows_67 ?_ (fun _ _ _ z => z.elim)
      intro r_9 h_9 n_9 hq _
      rw [hq.1, hq.2.1, hq.2.2]
      show pw E YX10_shows _ _ 0 0 70 [some (.ref B), some (.int (zI (p))), some (.int (zI (r))), some (.int (zI (c))), some (.int (zI (ta))), some (.int (zI (r - 0))), none] [.int (zI (mCell (p) (s.2 22 p.toNat) (r - 0) (c))), .ref (B + 18)] h n
      refine pw_iald (g := (s.2 21)) (t := 0) rfl (mF21 (s := s) hA) (by first | omega | exact mCell_b (by omega) (by rw [ep, hb.2.1]; omega) (by omega) (by omega)) (by decide) dX10_shows_70 ?_
      refine pw_goto (tgt := 87) dX10_shows_71 rfl ?_
      have hcb : 0 ≤ mCell p (s.2 22 p.toNat) (r - 0) c ∧ mCell p (s.2 22 p.toNat) (r - 0) c < 1280 := by rw [hp0]; exact mCell_0 (by rw [show Int.toNat 0 = 0 from rfl]; exact hb.2.1) (by omega) (by omega)
      have hv : (s.2 21) (mCell (p) (s.2 22 p.toNat) (r - 0) (c)).toNat = if ta = 0 then 32 else 0 := by rw [hb.2.2.2.2.2 _ (by omega)]; omega
      exact pw_iret dX10_shows_87 rfl (nle rfl) (nle rfl) ⟨by rw [hv], rfl, rfl⟩
  · exfalso; omega
set_option maxHeartbeats 1000000 in
set_option maxRecDepth 100000 in
/-- picture(x, y, ta) -/
theorem nF_picture {E : pw_E} (htr : E.1.stackTraces = false) {h : pz_H} {n : Nat} {B : Nat} {s : mS} (hA : mAt B s h) {x y ta : Int}  {w H : Int} (hw : 8 ≤ w ∧ w ≤ 40) (hH : 4 ≤ H ∧ H ≤ 16) (hk : mPk s 0) (hb : mBl s) (g3 : s.2 3 0 = 1) (g10 : s.2 10 0 = 0) (g11 : s.2 11 0 = 0) (g12 : s.2 12 0 = w) (g13 : s.2 13 0 = H) (g4 : s.2 4 0 = 0) (hx : 0 ≤ x ∧ x < w) (hy : 0 ≤ y ∧ y < H) (hta : 0 ≤ ta ∧ ta ≤ 1) : pw_M E yX10_picture YX10_picture (rmD 3 0 0) [.ref B, .int (zI (x)), .int (zI (y)), .int (zI (ta))] h n (fun r0 h' n' => r0 = some (.int (zI (if ta = 0 then 32 else 0))) ∧ h' = h ∧ n' = n) (fun _ _ _ => False) := by
  refine pw_M_of (lv := [some (.ref B), some (.int (zI (x))), some (.int (zI (y))), some (.int (zI (ta))), none, none]) (by decide) rfl rfl htr (nle rfl) rfl (fun L => ?_)
  refine pw_iconst (v := zI (0)) dX10_picture_0 (by decide) ?_
  refine pw_istore (lv' := [some (.ref B), some (.int (zI (x))), some (.int (zI (y))), some (.int (zI (ta))), some (.int (zI (0))), none]) dX10_picture_1 (by decide) rfl rfl ?_
  refine pw_iload dX10_picture_3 rfl ?_
  refine pw_bipush (v := zI (16)) dX10_picture_5 (by decide) ?_
  refine pw_icmp_ge (tgt := 222) dX10_picture_7 rfl (by omega) (by omega) (fun c7 => ?_) (fun c7 => ?_)
  · exfalso; omega
  ·
    refine pw_aload_n dX10_picture_10 rfl ?_
    refine pw_get (v := .ref (B + 1)) okX10 (k := 3) (by decide) lkX10_7 hA.1 rfl dX10_picture_11 ?_
    refine pw_iload dX10_picture_14 rfl ?_
    refine pw_zaldv (v := 1) (t := 1) rfl (mF3 (s := s) hA) (by omega) (by decide) (g3) dX10_picture_16 ?_
    refine pw_if_eq (tgt := 84) dX10_picture_17 rfl (by omega) (fun c17 => ?_) (fun c17 => ?_)
    · exfalso; omega
    ·
      refine pw_iload_n dX10_picture_20 rfl ?_
      refine pw_aload_n dX10_picture_21 rfl ?_
      refine pw_get (v := .ref (B + 8)) okX10 (k := 10) (by decide) lkX10_32 hA.1 rfl dX10_picture_22 ?_
      refine pw_iload dX10_picture_25 rfl ?_
      refine pw_ialdv (v := 0) (t := 0) rfl (mF10 (s := s) hA) (by omega) (by decide) (g10) dX10_picture_27 ?_
      refine pw_icmp_lt (tgt := 84) dX10_picture_28 rfl (by omega) (by omega) (fun c28 => ?_) (fun c28 => ?_)
      · exfalso; omega
      ·
        refine pw_iload_n dX10_picture_31 rfl ?_
        refine pw_aload_n dX10_picture_32 rfl ?_
        refine pw_get (v := .ref (B + 8)) okX10 (k := 10) (by decide) lkX10_32 hA.1 rfl dX10_picture_33 ?_
        refine pw_iload dX10_picture_36 rfl ?_
        refine pw_ialdv (v := 0) (t := 0) rfl (mF10 (s := s) hA) (by omega) (by decide) (g10) dX10_picture_38 ?_
        refine pw_aload_n dX10_picture_39 rfl ?_
        refine pw_get (v := .ref (B + 10)) okX10 (k := 12) (by decide) lkX10_38 hA.1 rfl dX10_picture_40 ?_
        refine pw_iload dX10_picture_43 rfl ?_
        refine pw_ialdv (v := w) (t := 0) rfl (mF12 (s := s) hA) (by omega) (by decide) (g12) dX10_picture_45 ?_
        refine pw_ziadd dX10_picture_46 ?_
        refine pw_icmp_ge (tgt := 84) dX10_picture_47 rfl (by omega) (by omega) (fun c47 => ?_) (fun c47 => ?_)
        · exfalso; omega
        ·
          refine pw_iload_n dX10_picture_50 rfl ?_
          refine pw_aload_n dX10_picture_51 rfl ?_
          refine pw_get (v := .ref (B + 9)) okX10 (k := 11) (by decide) lkX10_35 hA.1 rfl dX10_picture_52 ?_
          refine pw_iload dX10_picture_55 rfl ?_
          refine pw_ialdv (v := 0) (t := 0) rfl (mF11 (s := s) hA) (by omega) (by decide) (g11) dX10_picture_57 ?_
          refine pw_icmp_lt (tgt := 84) dX10_picture_58 rfl (by omega) (by omega) (fun c58 => ?_) (fun c58 => ?_)
          · exfalso; omega
          ·
            refine pw_iload_n dX10_picture_61 rfl ?_
            refine pw_aload_n dX10_picture_62 rfl ?_
            refine pw_get (v := .ref (B + 9)) okX10 (k := 11) (by decide) lkX10_35 hA.1 rfl dX10_picture_63 ?_
            refine pw_iload dX10_picture_66 rfl ?_
            refine pw_ialdv (v := 0) (t := 0) rfl (mF11 (s := s) hA) (by omega) (by decide) (g11) dX10_picture_68 ?_
            refine pw_aload_n dX10_picture_69 rfl ?_
            refine pw_get (v := .ref (B + 11)) okX10 (k := 13) (by decide) lkX10_41 hA.1 rfl dX10_picture_70 ?_
            refine pw_iload dX10_picture_73 rfl ?_
            refine pw_ialdv (v := H) (t := 0) rfl (mF13 (s := s) hA) (by omega) (by decide) (g13) dX10_picture_75 ?_
            refine pw_ziadd dX10_picture_76 ?_
            refine pw_icmp_ge (tgt := 84) dX10_picture_77 rfl (by omega) (by omega) (fun c77 => ?_) (fun c77 => ?_)
            · exfalso; omega
            ·
              refine pw_iconst (v := zI (1)) dX10_picture_80 (by decide) ?_
              refine pw_goto (tgt := 85) dX10_picture_81 rfl ?_
              refine pw_istore (lv' := [some (.ref B), some (.int (zI (x))), some (.int (zI (y))), some (.int (zI (ta))), some (.int (zI (0))), some (.int (zI (1)))]) dX10_picture_85 (by decide) rfl rfl ?_
              refine pw_iload dX10_picture_87 rfl ?_
              refine pw_if_eq (tgt := 134) dX10_picture_89 rfl (by omega) (fun c89 => ?_) (fun c89 => ?_)
              · exfalso; omega
              ·
                refine pw_aload_n dX10_picture_92 rfl ?_
                refine pw_get (v := .ref (B + 2)) okX10 (k := 4) (by decide) lkX10_13 hA.1 rfl dX10_picture_93 ?_
                refine pw_iload dX10_picture_96 rfl ?_
                refine pw_ialdv (v := 0) (t := 0) rfl (mF4 (s := s) hA) (by omega) (by decide) (g4) dX10_picture_98 ?_
                refine pw_iconst (v := zI (-1)) dX10_picture_99 (by decide) ?_
                refine pw_icmp_eq (tgt := 134) dX10_picture_100 rfl (by omega) (by omega) (fun c100 => ?_) (fun c100 => ?_)
                · exfalso; omega
                ·
                  refine pw_aload_n dX10_picture_103 rfl ?_
                  refine pw_aload_n dX10_picture_104 rfl ?_
                  refine pw_get (v := .ref (B + 2)) okX10 (k := 4) (by decide) lkX10_13 hA.1 rfl dX10_picture_105 ?_
                  refine pw_iload dX10_picture_108 rfl ?_
                  refine pw_ialdv (v := 0) (t := 0) rfl (mF4 (s := s) hA) (by omega) (by decide) (g4) dX10_picture_110 ?_
                  refine pw_iload_n dX10_picture_111 rfl ?_
                  refine pw_aload_n dX10_picture_112 rfl ?_
                  refine pw_get (v := .ref (B + 9)) okX10 (k := 11) (by decide) lkX10_35 hA.1 rfl dX10_picture_113 ?_
                  refine pw_iload dX10_picture_116 rfl ?_
                  refine pw_ialdv (v := 0) (t := 0) rfl (mF11 (s := s) hA) (by omega) (by decide) (g11) dX10_picture_118 ?_
                  refine pw_zisub dX10_picture_119 ?_
                  refine pw_iload_n dX10_picture_120 rfl ?_
                  refine pw_aload_n dX10_picture_121 rfl ?_
                  refine pw_get (v := .ref (B + 8)) okX10 (k := 10) (by decide) lkX10_32 hA.1 rfl dX10_picture_122 ?_
                  refine pw_iload dX10_picture_125 rfl ?_
                  refine pw_ialdv (v := 0) (t := 0) rfl (mF10 (s := s) hA) (by omega) (by decide) (g10) dX10_picture_127 ?_
                  refine pw_zisub dX10_picture_128 ?_
                  refine pw_iload_n dX10_picture_129 rfl ?_
                  refine pw_callV (As := [.int (zI (0)), .int (zI (y - 0)), .int (zI (x - 0)), .int (zI (ta))]) (b := B) (rm := rmD 2 0 0) (nF_shows htr hA rfl hk hb (by omega) (by omega) (by omega)) rfl hA.1 rfl rfl ywX10_shows rfl cwX10_327 ⟨nle rfl, nle rfl⟩ (nle rfl) ⟨nle rfl, nle rfl⟩ dX10_picture_130 ?_ (fun _ _ _ z => z.elim)
                  intro r_9 h_9 n_9 hq _
                  rw [hq.1, hq.2.1, hq.2.2]
                  show pw E YX10_picture _ _ 0 0 133 [some (.ref B), some (.int (zI (x))), some (.int (zI (y))), some (.int (zI (ta))), some (.int (zI (0))), some (.int (zI (1)))] [.int (zI (if ta = 0 then 32 else 0))] h n
                  exact pw_iret dX10_picture_133 rfl (nle rfl) (nle rfl) ⟨rfl, rfl, rfl⟩
set_option maxHeartbeats 1000000 in
set_option maxRecDepth 100000 in
/-- cell(x, y, ta) -/
theorem nF_cell {E : pw_E} (htr : E.1.stackTraces = false) {h : pz_H} {n : Nat} {B : Nat} {s : mS} (hA : mAt B s h) {x y ta : Int}  {w H : Int} (hw : 8 ≤ w ∧ w ≤ 40) (hH : 4 ≤ H ∧ H ≤ 16) (hn : mN w H s) (h_x : -2147483648 ≤ x ∧ x < 2147483648) (h_y : -2147483648 ≤ y ∧ y < 2147483648) (h_ta : -2147483648 ≤ ta ∧ ta < 2147483648) (hta : 0 ≤ ta ∧ ta ≤ 1) : pw_M E yX10_cell YX10_cell (rmD 4 0 0) [.ref B, .int (zI (x)), .int (zI (y)), .int (zI (ta))] h n (fun r0 h' n' => (∃ s', mAt B s' h' ∧ s'.1 0 = (if 0 ≤ x ∧ x < w ∧ 0 ≤ y ∧ y < H then 0 else 1) ∧ mFr B h h' ∧ n' = n) ∧ r0 = some (.int (zI (if 0 ≤ x ∧ x < w ∧ 0 ≤ y ∧ y < H then (if ta = 0 then 32 else 0) else 0)))) (fun _ _ _ => False) := by
  have v0 := mNv_0 hn
  have v1 := mNv_1 hn
  have v2 := mNv_2 hn
  have v14 := mNv_14 hn
  have v47 := mNv_47 hn
  have v48 := mNv_48 hn
  have v49 := mNv_49 hn
  have v53 := mNv_53 hn
  have v54 := mNv_54 hn
  have v55 := mNv_55 hn
  have v56 := mNv_56 hn
  have v57 := mNv_57 hn
  have hu := mN_us hn
  have g3 := mN_3 hn
  have g10 := mN_10 hn
  have g11 := mN_11 hn
  have g12 := mN_12 hn
  have g13 := mN_13 hn
  have g4 := mN_4 hn
  have hk := mN_pk hn hw hH
  have hb := mN_bl hn
  refine pw_M_of (lv := [some (.ref B), some (.int (zI (x))), some (.int (zI (y))), some (.int (zI (ta)))]) (by decide) rfl rfl htr (nle rfl) rfl (fun L => ?_)
  refine pw_aload_n dX10_cell_0 rfl ?_
  refine pw_iload_n dX10_cell_1 rfl ?_
  refine pw_if_lt (tgt := 25) dX10_cell_2 rfl (by omega) (fun c2 => ?_) (fun c2 => ?_)
  ·
    refine pw_iconst (v := zI (1)) dX10_cell_25 (by decide) ?_
    refine pw_goto (tgt := 30) dX10_cell_26 rfl ?_
    refine pw_put (fs' := (moL B (va_up s.1 0 (1)))) okX10 (k := 0) (by decide) lkX10_173 rfl rfl rfl hA.1 (nlt rfl) rfl dX10_cell_30 ?_
    have hA1 : mAt B (mV 0 (1) s) (va_up h B (pz_o 13 (moL B (va_up s.1 0 (1))))) := mAt_V hA
    have hF1 : mFr B h (va_up h B (pz_o 13 (moL B (va_up s.1 0 (1))))) := mFr_tr mFr_rf (mFr_up (k := 0) (by decide))
    revert hA1 hF1
    generalize (va_up h B (pz_o 13 (moL B (va_up s.1 0 (1))))) = h1
    intro hA1 hF1
    refine pw_aload_n dX10_cell_33 rfl ?_
    refine pw_get (v := .int (zI (1))) okX10 (k := 0) (by decide) lkX10_173 hA1.1 rfl dX10_cell_34 ?_
    refine pw_if_le (tgt := 44) dX10_cell_37 rfl (by omega) (fun c37 => ?_) (fun c37 => ?_)
    · exfalso; omega
    ·
      refine pw_iconst (v := zI (0)) dX10_cell_40 (by decide) ?_
      refine pw_goto (tgt := 51) dX10_cell_41 rfl ?_
      exact pw_iret dX10_cell_51 rfl (nle rfl) (nle rfl) ⟨⟨(mV 0 (1) s), hA1, (show (1 : Int) = if 0 ≤ x ∧ x < w ∧ 0 ≤ y ∧ y < H then 0 else 1 from by (first | omega | rfl)), hF1, rfl⟩, congrArg (fun z => some (Value.int (zI z))) (show (0 : Int) = if 0 ≤ x ∧ x < w ∧ 0 ≤ y ∧ y < H then (if ta = 0 then 32 else 0) else 0 from by (first | omega | rfl))⟩
  ·
    refine pw_iload_n dX10_cell_5 rfl ?_
    refine pw_aload_n dX10_cell_6 rfl ?_
    refine pw_get (v := .int (zI (s.1 1))) okX10 (k := 1) (by decide) lkX10_162 hA.1 rfl dX10_cell_7 ?_
    refine pw_icmp_ge (tgt := 25) dX10_cell_10 rfl (by omega) (by omega) (fun c10 => ?_) (fun c10 => ?_)
    ·
      refine pw_iconst (v := zI (1)) dX10_cell_25 (by decide) ?_
      refine pw_goto (tgt := 30) dX10_cell_26 rfl ?_
      refine pw_put (fs' := (moL B (va_up s.1 0 (1)))) okX10 (k := 0) (by decide) lkX10_173 rfl rfl rfl hA.1 (nlt rfl) rfl dX10_cell_30 ?_
      have hA2 : mAt B (mV 0 (1) s) (va_up h B (pz_o 13 (moL B (va_up s.1 0 (1))))) := mAt_V hA
      have hF2 : mFr B h (va_up h B (pz_o 13 (moL B (va_up s.1 0 (1))))) := mFr_tr mFr_rf (mFr_up (k := 0) (by decide))
      revert hA2 hF2
      generalize (va_up h B (pz_o 13 (moL B (va_up s.1 0 (1))))) = h2
      intro hA2 hF2
      refine pw_aload_n dX10_cell_33 rfl ?_
      refine pw_get (v := .int (zI (1))) okX10 (k := 0) (by decide) lkX10_173 hA2.1 rfl dX10_cell_34 ?_
      refine pw_if_le (tgt := 44) dX10_cell_37 rfl (by omega) (fun c37 => ?_) (fun c37 => ?_)
      · exfalso; omega
      ·
        refine pw_iconst (v := zI (0)) dX10_cell_40 (by decide) ?_
        refine pw_goto (tgt := 51) dX10_cell_41 rfl ?_
        exact pw_iret dX10_cell_51 rfl (nle rfl) (nle rfl) ⟨⟨(mV 0 (1) s), hA2, (show (1 : Int) = if 0 ≤ x ∧ x < w ∧ 0 ≤ y ∧ y < H then 0 else 1 from by (first | omega | rfl)), hF2, rfl⟩, congrArg (fun z => some (Value.int (zI z))) (show (0 : Int) = if 0 ≤ x ∧ x < w ∧ 0 ≤ y ∧ y < H then (if ta = 0 then 32 else 0) else 0 from by (first | omega | rfl))⟩
    ·
      refine pw_iload_n dX10_cell_13 rfl ?_
      refine pw_if_lt (tgt := 25) dX10_cell_14 rfl (by omega) (fun c14 => ?_) (fun c14 => ?_)
      ·
        refine pw_iconst (v := zI (1)) dX10_cell_25 (by decide) ?_
        refine pw_goto (tgt := 30) dX10_cell_26 rfl ?_
        refine pw_put (fs' := (moL B (va_up s.1 0 (1)))) okX10 (k := 0) (by decide) lkX10_173 rfl rfl rfl hA.1 (nlt rfl) rfl dX10_cell_30 ?_
        have hA3 : mAt B (mV 0 (1) s) (va_up h B (pz_o 13 (moL B (va_up s.1 0 (1))))) := mAt_V hA
        have hF3 : mFr B h (va_up h B (pz_o 13 (moL B (va_up s.1 0 (1))))) := mFr_tr mFr_rf (mFr_up (k := 0) (by decide))
        revert hA3 hF3
        generalize (va_up h B (pz_o 13 (moL B (va_up s.1 0 (1))))) = h3
        intro hA3 hF3
        refine pw_aload_n dX10_cell_33 rfl ?_
        refine pw_get (v := .int (zI (1))) okX10 (k := 0) (by decide) lkX10_173 hA3.1 rfl dX10_cell_34 ?_
        refine pw_if_le (tgt := 44) dX10_cell_37 rfl (by omega) (fun c37 => ?_) (fun c37 => ?_)
        · exfalso; omega
        ·
          refine pw_iconst (v := zI (0)) dX10_cell_40 (by decide) ?_
          refine pw_goto (tgt := 51) dX10_cell_41 rfl ?_
          exact pw_iret dX10_cell_51 rfl (nle rfl) (nle rfl) ⟨⟨(mV 0 (1) s), hA3, (show (1 : Int) = if 0 ≤ x ∧ x < w ∧ 0 ≤ y ∧ y < H then 0 else 1 from by (first | omega | rfl)), hF3, rfl⟩, congrArg (fun z => some (Value.int (zI z))) (show (0 : Int) = if 0 ≤ x ∧ x < w ∧ 0 ≤ y ∧ y < H then (if ta = 0 then 32 else 0) else 0 from by (first | omega | rfl))⟩
      ·
        refine pw_iload_n dX10_cell_17 rfl ?_
        refine pw_aload_n dX10_cell_18 rfl ?_
        refine pw_get (v := .int (zI (s.1 2))) okX10 (k := 2) (by decide) lkX10_166 hA.1 rfl dX10_cell_19 ?_
        refine pw_icmp_lt (tgt := 29) dX10_cell_22 rfl (by omega) (by omega) (fun c22 => ?_) (fun c22 => ?_)
        ·
          refine pw_iconst (v := zI (0)) dX10_cell_29 (by decide) ?_
          refine pw_put (fs' := (moL B (va_up s.1 0 (0)))) okX10 (k := 0) (by decide) lkX10_173 rfl rfl rfl hA.1 (nlt rfl) rfl dX10_cell_30 ?_
          have hA4 : mAt B (mV 0 (0) s) (va_up h B (pz_o 13 (moL B (va_up s.1 0 (0))))) := mAt_V hA
          have hF4 : mFr B h (va_up h B (pz_o 13 (moL B (va_up s.1 0 (0))))) := mFr_tr mFr_rf (mFr_up (k := 0) (by decide))
          revert hA4 hF4
          generalize (va_up h B (pz_o 13 (moL B (va_up s.1 0 (0))))) = h4
          intro hA4 hF4
          refine pw_aload_n dX10_cell_33 rfl ?_
          refine pw_get (v := .int (zI (0))) okX10 (k := 0) (by decide) lkX10_173 hA4.1 rfl dX10_cell_34 ?_
          refine pw_if_le (tgt := 44) dX10_cell_37 rfl (by omega) (fun c37 => ?_) (fun c37 => ?_)
          ·
            refine pw_aload_n dX10_cell_44 rfl ?_
            refine pw_iload_n dX10_cell_45 rfl ?_
            refine pw_iload_n dX10_cell_46 rfl ?_
            refine pw_iload_n dX10_cell_47 rfl ?_
            refine pw_callV (As := [.int (zI (x)), .int (zI (y)), .int (zI (ta))]) (b := B) (rm := rmD 3 0 0) (nF_picture (w := w) (H := H) htr hA4 hw hH hk hb g3 g10 g11 g12 g13 g4 (by omega) (by omega) (by omega)) rfl hA4.1 rfl rfl ywX10_picture rfl cwX10_352 ⟨nle rfl, nle rfl⟩ (nle rfl) ⟨nle rfl, nle rfl⟩ dX10_cell_48 ?_ (fun _ _ _ z => z.elim)
            intro r_9 h_9 n_9 hq _
            rw [hq.1, hq.2.1, hq.2.2]
            show pw E YX10_cell _ _ 0 0 51 [some (.ref B), some (.int (zI (x))), some (.int (zI (y))), some (.int (zI (ta)))] [.int (zI (if ta = 0 then 32 else 0))] h4 n
            exact pw_iret dX10_cell_51 rfl (nle rfl) (nle rfl) ⟨⟨(mV 0 (0) s), hA4, (show (0 : Int) = if 0 ≤ x ∧ x < w ∧ 0 ≤ y ∧ y < H then 0 else 1 from by (first | omega | rfl)), hF4, rfl⟩, congrArg (fun z => some (Value.int (zI z))) (show (if ta = 0 then 32 else 0 : Int) = if 0 ≤ x ∧ x < w ∧ 0 ≤ y ∧ y < H then (if ta = 0 then 32 else 0) else 0 from by (first | omega | rfl))⟩
          · exfalso; omega
        ·
          refine pw_iconst (v := zI (1)) dX10_cell_25 (by decide) ?_
          refine pw_goto (tgt := 30) dX10_cell_26 rfl ?_
          refine pw_put (fs' := (moL B (va_up s.1 0 (1)))) okX10 (k := 0) (by decide) lkX10_173 rfl rfl rfl hA.1 (nlt rfl) rfl dX10_cell_30 ?_
          have hA5 : mAt B (mV 0 (1) s) (va_up h B (pz_o 13 (moL B (va_up s.1 0 (1))))) := mAt_V hA
          have hF5 : mFr B h (va_up h B (pz_o 13 (moL B (va_up s.1 0 (1))))) := mFr_tr mFr_rf (mFr_up (k := 0) (by decide))
          revert hA5 hF5
          generalize (va_up h B (pz_o 13 (moL B (va_up s.1 0 (1))))) = h5
          intro hA5 hF5
          refine pw_aload_n dX10_cell_33 rfl ?_
          refine pw_get (v := .int (zI (1))) okX10 (k := 0) (by decide) lkX10_173 hA5.1 rfl dX10_cell_34 ?_
          refine pw_if_le (tgt := 44) dX10_cell_37 rfl (by omega) (fun c37 => ?_) (fun c37 => ?_)
          · exfalso; omega
          ·
            refine pw_iconst (v := zI (0)) dX10_cell_40 (by decide) ?_
            refine pw_goto (tgt := 51) dX10_cell_41 rfl ?_
            exact pw_iret dX10_cell_51 rfl (nle rfl) (nle rfl) ⟨⟨(mV 0 (1) s), hA5, (show (1 : Int) = if 0 ≤ x ∧ x < w ∧ 0 ≤ y ∧ y < H then 0 else 1 from by (first | omega | rfl)), hF5, rfl⟩, congrArg (fun z => some (Value.int (zI z))) (show (0 : Int) = if 0 ≤ x ∧ x < w ∧ 0 ≤ y ∧ y < H then (if ta = 0 then 32 else 0) else 0 from by (first | omega | rfl))⟩
set_option maxHeartbeats 1000000 in
set_option maxRecDepth 100000 in
/-- goTo(x, y) where the cursor is -/
theorem nF_goTo {E : pw_E} (htr : E.1.stackTraces = false) {h : pz_H} {n : Nat} {B : Nat} {s : mS} (hA : mAt B s h) {x y : Int}  (hx : s.1 53 = x) (hy : s.1 54 = y) (h_x : -2147483648 ≤ x ∧ x < 2147483648) (h_y : -2147483648 ≤ y ∧ y < 2147483648) : pw_M E yX10_goTo YX10_goTo (rmD 1 0 0) [.ref B, .int (zI (x)), .int (zI (y))] h n (fun r0 h' n' => r0 = none ∧ h' = h ∧ n' = n) (fun _ _ _ => False) := by
  refine pw_M_of (lv := [some (.ref B), some (.int (zI (x))), some (.int (zI (y)))]) (by decide) rfl rfl htr (nle rfl) rfl (fun L => ?_)
  refine pw_aload_n dX10_goTo_0 rfl ?_
  refine pw_get (v := .int (zI (s.1 53))) okX10 (k := 53) (by decide) lkX10_340 hA.1 rfl dX10_goTo_1 ?_
  refine pw_iload_n dX10_goTo_4 rfl ?_
  refine pw_icmp_ne (tgt := 16) dX10_goTo_5 rfl (by omega) (by omega) (fun c5 => ?_) (fun c5 => ?_)
  · exfalso; omega
  ·
    refine pw_aload_n dX10_goTo_8 rfl ?_
    refine pw_get (v := .int (zI (s.1 54))) okX10 (k := 54) (by decide) lkX10_343 hA.1 rfl dX10_goTo_9 ?_
    refine pw_iload_n dX10_goTo_12 rfl ?_
    refine pw_icmp_eq (tgt := 64) dX10_goTo_13 rfl (by omega) (by omega) (fun c13 => ?_) (fun c13 => ?_)
    ·
      exact pw_vret dX10_goTo_64 rfl (nle rfl) (nle rfl) ⟨rfl, rfl, rfl⟩
    · exfalso; omega
set_option maxHeartbeats 1000000 in
set_option maxRecDepth 100000 in
theorem lN_red1 {E : pw_E} (htr : E.1.stackTraces = false) {Kk : pw_K} {h : pz_H} {n B : Nat} {s : mS} {w H : Int} (hw : 8 ≤ w ∧ w ≤ 40) (hH : 4 ≤ H ∧ H ≤ 16) (hn : mN w H s) (hA : mAt B (mV 57 (0) (mV 0 (0) s)) h) {y : Int} (hy : 0 ≤ y ∧ y < H) : ∀ (j : Nat) (x : Int) (q3 q4 : Option Value), (w - x).toNat = j → 0 ≤ x → x ≤ w → (∀ (x9 : Int) (q3 q4 : Option Value), pw E YX10_redraw (rmD 4 0 0) Kk 0 0 147 [some (.ref B), some (.int (zI y)), some (.int (zI x9)), q3, q4] [] h n) → pw E YX10_redraw (rmD 4 0 0) Kk 0 0 22 [some (.ref B), some (.int (zI y)), some (.int (zI x)), q3, q4] [] h n := by
  have v0 := mNv_0 hn
  have v1 := mNv_1 hn
  have v2 := mNv_2 hn
  have v14 := mNv_14 hn
  have v47 := mNv_47 hn
  have v48 := mNv_48 hn
  have v49 := mNv_49 hn
  have v53 := mNv_53 hn
  have v54 := mNv_54 hn
  have v55 := mNv_55 hn
  have v56 := mNv_56 hn
  have v57 := mNv_57 hn
  have hu := mN_us hn
  have g3 := mN_3 hn
  have g10 := mN_10 hn
  have g11 := mN_11 hn
  have g12 := mN_12 hn
  have g13 := mN_13 hn
  have g4 := mN_4 hn
  have hk := mN_pk hn hw hH
  have hb := mN_bl hn
  intro j
  induction j with
  | zero =>
    intro x q3 q4 hj h1 h2 kk
    refine pw_iload_n dX10_redraw_22 rfl ?_
    refine pw_aload_n dX10_redraw_23 rfl ?_
    refine pw_get (v := .int (zI (s.1 1))) okX10 (k := 1) (by decide) lkX10_162 hA.1 rfl dX10_redraw_24 ?_
    refine pw_icmp_ge (tgt := 147) dX10_redraw_27 rfl (by omega) (by omega) (fun c27 => ?_) (fun c27 => ?_)
    ·
      exact kk x q3 q4
    · exfalso; omega
  | succ j ih =>
    intro x q3 q4 hj h1 h2 kk
    refine pw_iload_n dX10_redraw_22 rfl ?_
    refine pw_aload_n dX10_redraw_23 rfl ?_
    refine pw_get (v := .int (zI (s.1 1))) okX10 (k := 1) (by decide) lkX10_162 hA.1 rfl dX10_redraw_24 ?_
    refine pw_icmp_ge (tgt := 147) dX10_redraw_27 rfl (by omega) (by omega) (fun c27 => ?_) (fun c27 => ?_)
    · exfalso; omega
    ·
      refine pw_aload_n dX10_redraw_30 rfl ?_
      refine pw_iload_n dX10_redraw_31 rfl ?_
      refine pw_iload_n dX10_redraw_32 rfl ?_
      refine pw_iconst (v := zI (0)) dX10_redraw_33 (by decide) ?_
      refine pw_callV (As := [.int (zI (x)), .int (zI (y)), .int (zI (0))]) (b := B) (rm := rmD 3 0 0) (nF_picture (w := w) (H := H) htr hA hw hH hk hb g3 g10 g11 g12 g13 g4 (by omega) (by omega) (by omega)) rfl hA.1 rfl rfl ywX10_picture rfl cwX10_352 ⟨nle rfl, nle rfl⟩ (nle rfl) ⟨nle rfl, nle rfl⟩ dX10_redraw_34 ?_ (fun _ _ _ z => z.elim)
      intro r_9 h_9 n_9 hq _
      have hif : (if (0 : Int) = 0 then (32 : Int) else 0) = 32 := rfl
      rw [hq.1, hq.2.1, hq.2.2, hif]
      show pw E YX10_redraw _ _ 0 0 37 [some (.ref B), some (.int (zI (y))), some (.int (zI (x))), q3, q4] [.int (zI (32))] h n
      refine pw_istore_n (lv' := [some (.ref B), some (.int (zI (y))), some (.int (zI (x))), some (.int (zI (32))), q4]) dX10_redraw_37 (by decide) rfl rfl ?_
      refine pw_aload_n dX10_redraw_38 rfl ?_
      refine pw_iload_n dX10_redraw_39 rfl ?_
      refine pw_iload_n dX10_redraw_40 rfl ?_
      refine pw_iconst (v := zI (1)) dX10_redraw_41 (by decide) ?_
      refine pw_callV (As := [.int (zI (x)), .int (zI (y)), .int (zI (1))]) (b := B) (rm := rmD 3 0 0) (nF_picture (w := w) (H := H) htr hA hw hH hk hb g3 g10 g11 g12 g13 g4 (by omega) (by omega) (by omega)) rfl hA.1 rfl rfl ywX10_picture rfl cwX10_352 ⟨nle rfl, nle rfl⟩ (nle rfl) ⟨nle rfl, nle rfl⟩ dX10_redraw_42 ?_ (fun _ _ _ z => z.elim)
      intro r_9 h_9 n_9 hq _
      have hif : (if (1 : Int) = 0 then (32 : Int) else 0) = 0 := rfl
      rw [hq.1, hq.2.1, hq.2.2, hif]
      show pw E YX10_redraw _ _ 0 0 45 [some (.ref B), some (.int (zI (y))), some (.int (zI (x))), some (.int (zI (32))), q4] [.int (zI (0))] h n
      refine pw_istore (lv' := [some (.ref B), some (.int (zI (y))), some (.int (zI (x))), some (.int (zI (32))), some (.int (zI (0)))]) dX10_redraw_45 (by decide) rfl rfl ?_
      have o51 : s.2 51 (40 * y + x).toNat = 32 := hn.2.2.2 _ (by omega)
      have o52 : s.2 52 (40 * y + x).toNat = 0 := by rw [hn.2.1 52 (by decide)]; unfold nA; split <;> rfl
      refine pw_iload_n dX10_redraw_47 rfl ?_
      refine pw_aload_n dX10_redraw_48 rfl ?_
      refine pw_get (v := .ref (B + 45)) okX10 (k := 51) (by decide) lkX10_143 hA.1 rfl dX10_redraw_49 ?_
      refine pw_bipush (v := zI (40)) dX10_redraw_52 (by decide) ?_
      refine pw_iload_n dX10_redraw_54 rfl ?_
      refine pw_zimul dX10_redraw_55 ?_
      refine pw_iload_n dX10_redraw_56 rfl ?_
      refine pw_ziadd dX10_redraw_57 ?_
      refine pw_iald (g := (s.2 51)) (t := 0) rfl (mF51 (s := (mV 57 (0) (mV 0 (0) s))) hA) (by omega) (by decide) dX10_redraw_58 ?_
      refine pw_icmp_ne (tgt := 78) dX10_redraw_59 rfl (by omega) (by omega) (fun c59 => ?_) (fun c59 => ?_)
      · exfalso; omega
      ·
        refine pw_iload dX10_redraw_62 rfl ?_
        refine pw_aload_n dX10_redraw_64 rfl ?_
        refine pw_get (v := .ref (B + 46)) okX10 (k := 52) (by decide) lkX10_146 hA.1 rfl dX10_redraw_65 ?_
        refine pw_bipush (v := zI (40)) dX10_redraw_68 (by decide) ?_
        refine pw_iload_n dX10_redraw_70 rfl ?_
        refine pw_zimul dX10_redraw_71 ?_
        refine pw_iload_n dX10_redraw_72 rfl ?_
        refine pw_ziadd dX10_redraw_73 ?_
        refine pw_iald (g := (s.2 52)) (t := 0) rfl (mF52 (s := (mV 57 (0) (mV 0 (0) s))) hA) (by omega) (by decide) dX10_redraw_74 ?_
        refine pw_icmp_eq (tgt := 141) dX10_redraw_75 rfl (by omega) (by omega) (fun c75 => ?_) (fun c75 => ?_)
        ·
          refine pw_ziinc (lv' := [some (.ref B), some (.int (zI (y))), some (.int (zI (x + 1))), some (.int (zI (32))), some (.int (zI (0)))]) dX10_redraw_141 rfl (by decide) rfl rfl ?_
          refine pw_goto (tgt := 22) dX10_redraw_144 rfl ?_
          exact ih (x + 1) _ _ (by omega) (by omega) (by omega) kk
        · exfalso; omega
set_option maxHeartbeats 1000000 in
set_option maxRecDepth 100000 in
theorem lN_red2 {E : pw_E} (htr : E.1.stackTraces = false) {Kk : pw_K} {h : pz_H} {n B : Nat} {s : mS} {w H : Int} (hw : 8 ≤ w ∧ w ≤ 40) (hH : 4 ≤ H ∧ H ≤ 16) (hn : mN w H s) (hA : mAt B (mV 57 (0) (mV 0 (0) s)) h) : ∀ (j : Nat) (y : Int) (q2 q3 q4 : Option Value), (H - y).toNat = j → 0 ≤ y → y ≤ H → (∀ (y9 : Int) (q2 q3 q4 : Option Value), pw E YX10_redraw (rmD 4 0 0) Kk 0 0 153 [some (.ref B), some (.int (zI y9)), q2, q3, q4] [] h n) → pw E YX10_redraw (rmD 4 0 0) Kk 0 0 12 [some (.ref B), some (.int (zI y)), q2, q3, q4] [] h n := by
  have v0 := mNv_0 hn
  have v1 := mNv_1 hn
  have v2 := mNv_2 hn
  have v14 := mNv_14 hn
  have v47 := mNv_47 hn
  have v48 := mNv_48 hn
  have v49 := mNv_49 hn
  have v53 := mNv_53 hn
  have v54 := mNv_54 hn
  have v55 := mNv_55 hn
  have v56 := mNv_56 hn
  have v57 := mNv_57 hn
  have hu := mN_us hn
  intro j
  induction j with
  | zero =>
    intro y q2 q3 q4 hj h1 h2 kk
    refine pw_iload_n dX10_redraw_12 rfl ?_
    refine pw_aload_n dX10_redraw_13 rfl ?_
    refine pw_get (v := .int (zI (s.1 2))) okX10 (k := 2) (by decide) lkX10_166 hA.1 rfl dX10_redraw_14 ?_
    refine pw_icmp_ge (tgt := 153) dX10_redraw_17 rfl (by omega) (by omega) (fun c17 => ?_) (fun c17 => ?_)
    ·
      exact kk y q2 q3 q4
    · exfalso; omega
  | succ j ih =>
    intro y q2 q3 q4 hj h1 h2 kk
    refine pw_iload_n dX10_redraw_12 rfl ?_
    refine pw_aload_n dX10_redraw_13 rfl ?_
    refine pw_get (v := .int (zI (s.1 2))) okX10 (k := 2) (by decide) lkX10_166 hA.1 rfl dX10_redraw_14 ?_
    refine pw_icmp_ge (tgt := 153) dX10_redraw_17 rfl (by omega) (by omega) (fun c17 => ?_) (fun c17 => ?_)
    · exfalso; omega
    ·
      refine pw_iconst (v := zI (0)) dX10_redraw_20 (by decide) ?_
      refine pw_istore_n (lv' := [some (.ref B), some (.int (zI (y))), some (.int (zI (0))), q3, q4]) dX10_redraw_21 (by decide) rfl rfl ?_
      refine lN_red1 htr hw hH hn hA (by omega) _ 0 _ _ rfl (by omega) (by omega) (fun x9 q39 q49 => ?_)
      refine pw_ziinc (lv' := [some (.ref B), some (.int (zI (y + 1))), some (.int (zI (x9))), q39, q49]) dX10_redraw_147 rfl (by decide) rfl rfl ?_
      refine pw_goto (tgt := 12) dX10_redraw_150 rfl ?_
      exact ih (y + 1) _ _ _ (by omega) (by omega) (by omega) kk
set_option maxHeartbeats 1000000 in
set_option maxRecDepth 100000 in
/-- redraw() -/
theorem nF_redraw {E : pw_E} (htr : E.1.stackTraces = false) {h : pz_H} {n : Nat} {B : Nat} {s : mS} (hA : mAt B s h)  {w H : Int} (hw : 8 ≤ w ∧ w ≤ 40) (hH : 4 ≤ H ∧ H ≤ 16) (hn : mN w H s) : pw_M E yX10_redraw YX10_redraw (rmD 4 0 0) [.ref B] h n (fun r0 h' n' => (∃ s', mAt B s' h' ∧ s'.1 0 = (0) ∧ mFr B h h' ∧ n' = n) ∧ r0 = some (.int (zI (0)))) (fun _ _ _ => False) := by
  have v0 := mNv_0 hn
  have v1 := mNv_1 hn
  have v2 := mNv_2 hn
  have v14 := mNv_14 hn
  have v47 := mNv_47 hn
  have v48 := mNv_48 hn
  have v49 := mNv_49 hn
  have v53 := mNv_53 hn
  have v54 := mNv_54 hn
  have v55 := mNv_55 hn
  have v56 := mNv_56 hn
  have v57 := mNv_57 hn
  have hu := mN_us hn
  have g3 := mN_3 hn
  have g10 := mN_10 hn
  have g11 := mN_11 hn
  have g12 := mN_12 hn
  have g13 := mN_13 hn
  have g4 := mN_4 hn
  have hk := mN_pk hn hw hH
  have hb := mN_bl hn
  refine pw_M_of (lv := [some (.ref B), none, none, none, none]) (by decide) rfl rfl htr (nle rfl) rfl (fun L => ?_)
  refine pw_aload_n dX10_redraw_0 rfl ?_
  refine pw_iconst (v := zI (0)) dX10_redraw_1 (by decide) ?_
  refine pw_put (fs' := (moL B (va_up s.1 0 (0)))) okX10 (k := 0) (by decide) lkX10_173 rfl rfl rfl hA.1 (nlt rfl) rfl dX10_redraw_2 ?_
  have hA1 : mAt B (mV 0 (0) s) (va_up h B (pz_o 13 (moL B (va_up s.1 0 (0))))) := mAt_V hA
  have hF1 : mFr B h (va_up h B (pz_o 13 (moL B (va_up s.1 0 (0))))) := mFr_tr mFr_rf (mFr_up (k := 0) (by decide))
  revert hA1 hF1
  generalize (va_up h B (pz_o 13 (moL B (va_up s.1 0 (0))))) = h1
  intro hA1 hF1
  refine pw_aload_n dX10_redraw_5 rfl ?_
  refine pw_iconst (v := zI (0)) dX10_redraw_6 (by decide) ?_
  refine pw_put (fs' := (moL B (va_up (mV 0 (0) s).1 57 (0)))) okX10 (k := 57) (by decide) lkX10_334 rfl rfl rfl hA1.1 (nlt rfl) rfl dX10_redraw_7 ?_
  have hA2 : mAt B (mV 57 (0) (mV 0 (0) s)) (va_up h1 B (pz_o 13 (moL B (va_up (mV 0 (0) s).1 57 (0))))) := mAt_V hA1
  have hF2 : mFr B h (va_up h1 B (pz_o 13 (moL B (va_up (mV 0 (0) s).1 57 (0))))) := mFr_tr hF1 (mFr_up (k := 0) (by decide))
  revert hA2 hF2
  generalize (va_up h1 B (pz_o 13 (moL B (va_up (mV 0 (0) s).1 57 (0))))) = h2
  intro hA2 hF2
  refine pw_iconst (v := zI (0)) dX10_redraw_10 (by decide) ?_
  refine pw_istore_n (lv' := [some (.ref B), some (.int (zI (0))), none, none, none]) dX10_redraw_11 (by decide) rfl rfl ?_
  refine lN_red2 htr hw hH hn hA2 _ 0 _ _ _ rfl (by omega) (by omega) (fun y9 q29 q39 q49 => ?_)
  have g17 : s.2 17 (s.1 47).toNat = 0 := by rw [v47]; exact mN_17 hn
  have g24 : s.2 24 (s.1 47).toNat = 0 := by rw [v47]; exact mN_24 hn
  have g23 : s.2 23 (s.1 47).toNat = 0 := by rw [v47]; exact mN_23 hn
  refine pw_aload_n dX10_redraw_153 rfl ?_
  refine pw_get (v := .ref (B + 14)) okX10 (k := 17) (by decide) lkX10_50 hA2.1 rfl dX10_redraw_154 ?_
  refine pw_aload_n dX10_redraw_157 rfl ?_
  refine pw_get (v := .int (zI (s.1 47))) okX10 (k := 47) (by decide) lkX10_207 hA2.1 rfl dX10_redraw_158 ?_
  refine pw_ialdv (v := 0) (t := 0) rfl (mF17 (s := (mV 57 (0) (mV 0 (0) s))) hA2) (by omega) (by decide) (g17) dX10_redraw_161 ?_
  refine pw_istore_n (lv' := [some (.ref B), some (.int (zI (0))), q29, q39, q49]) dX10_redraw_162 (by decide) rfl rfl ?_
  refine pw_aload_n dX10_redraw_163 rfl ?_
  refine pw_callV (As := []) (b := B) (rm := rmD 0 0 0) (nR_isSeen htr hA2 (by show 0 ≤ s.1 47 ∧ s.1 47 < 8; omega) (by show 0 ≤ s.2 34 (s.1 47).toNat ∧ s.2 34 (s.1 47).toNat ≤ 1; rw [v47, show Int.toNat 0 = 0 from rfl, mN_34 hn]; omega) (by show 0 ≤ s.2 43 (s.1 47).toNat ∧ s.2 43 (s.1 47).toNat ≤ 1; rw [v47, show Int.toNat 0 = 0 from rfl, mN_43 hn]; omega)) rfl hA2.1 rfl rfl ywX10_isSeen rfl cwX10_362 ⟨nle rfl, nle rfl⟩ (nle rfl) ⟨nle rfl, nle rfl⟩ dX10_redraw_164 ?_ (fun _ _ _ z => z.elim)
  intro r_9 h_9 n_9 hq _
  have hsee : mSee (mV 57 (0) (mV 0 (0) s)) = 1 := (show mSee s = 1 from mN_see hn)
  rw [hq.1, hq.2.1, hq.2.2, hsee]
  show pw E YX10_redraw _ _ 0 0 167 [some (.ref B), some (.int (zI (0))), q29, q39, q49] [.int (zI (1))] h2 n
  refine pw_if_eq (tgt := 206) dX10_redraw_167 rfl (by omega) (fun c167 => ?_) (fun c167 => ?_)
  · exfalso; omega
  ·
    refine pw_aload_n dX10_redraw_170 rfl ?_
    refine pw_aload_n dX10_redraw_171 rfl ?_
    refine pw_get (v := .ref (B + 8)) okX10 (k := 10) (by decide) lkX10_32 hA2.1 rfl dX10_redraw_172 ?_
    refine pw_iload_n dX10_redraw_175 rfl ?_
    refine pw_ialdv (v := 0) (t := 0) rfl (mF10 (s := (mV 57 (0) (mV 0 (0) s))) hA2) (by omega) (by decide) (g10) dX10_redraw_176 ?_
    refine pw_aload_n dX10_redraw_177 rfl ?_
    refine pw_get (v := .ref (B + 21)) okX10 (k := 24) (by decide) lkX10_71 hA2.1 rfl dX10_redraw_178 ?_
    refine pw_aload_n dX10_redraw_181 rfl ?_
    refine pw_get (v := .int (zI (s.1 47))) okX10 (k := 47) (by decide) lkX10_207 hA2.1 rfl dX10_redraw_182 ?_
    refine pw_ialdv (v := 0) (t := 0) rfl (mF24 (s := (mV 57 (0) (mV 0 (0) s))) hA2) (by omega) (by decide) (g24) dX10_redraw_185 ?_
    refine pw_ziadd dX10_redraw_186 ?_
    refine pw_aload_n dX10_redraw_187 rfl ?_
    refine pw_get (v := .ref (B + 9)) okX10 (k := 11) (by decide) lkX10_35 hA2.1 rfl dX10_redraw_188 ?_
    refine pw_iload_n dX10_redraw_191 rfl ?_
    refine pw_ialdv (v := 0) (t := 0) rfl (mF11 (s := (mV 57 (0) (mV 0 (0) s))) hA2) (by omega) (by decide) (g11) dX10_redraw_192 ?_
    refine pw_aload_n dX10_redraw_193 rfl ?_
    refine pw_get (v := .ref (B + 20)) okX10 (k := 23) (by decide) lkX10_68 hA2.1 rfl dX10_redraw_194 ?_
    refine pw_aload_n dX10_redraw_197 rfl ?_
    refine pw_get (v := .int (zI (s.1 47))) okX10 (k := 47) (by decide) lkX10_207 hA2.1 rfl dX10_redraw_198 ?_
    refine pw_ialdv (v := 0) (t := 0) rfl (mF23 (s := (mV 57 (0) (mV 0 (0) s))) hA2) (by omega) (by decide) (g23) dX10_redraw_201 ?_
    refine pw_ziadd dX10_redraw_202 ?_
    refine pw_callV (As := [.int (zI (0 + 0)), .int (zI (0 + 0))]) (b := B) (rm := rmD 1 0 0) (nF_goTo htr hA2 (show s.1 53 = 0 + 0 by omega) (show s.1 54 = 0 + 0 by omega) (by omega) (by omega)) rfl hA2.1 rfl rfl ywX10_goTo rfl cwX10_356 ⟨nle rfl, nle rfl⟩ (nle rfl) ⟨nle rfl, nle rfl⟩ dX10_redraw_203 ?_ (fun _ _ _ z => z.elim)
    intro r_9 h_9 n_9 hq _
    rw [hq.1, hq.2.1, hq.2.2]
    show pw E YX10_redraw _ _ 0 0 206 [some (.ref B), some (.int (zI (0))), q29, q39, q49] [] h2 n
    refine pw_aload_n dX10_redraw_206 rfl ?_
    refine pw_callV (As := []) (b := B) (rm := rmD 0 0 0) (nR_isSeen htr hA2 (by show 0 ≤ s.1 47 ∧ s.1 47 < 8; omega) (by show 0 ≤ s.2 34 (s.1 47).toNat ∧ s.2 34 (s.1 47).toNat ≤ 1; rw [v47, show Int.toNat 0 = 0 from rfl, mN_34 hn]; omega) (by show 0 ≤ s.2 43 (s.1 47).toNat ∧ s.2 43 (s.1 47).toNat ≤ 1; rw [v47, show Int.toNat 0 = 0 from rfl, mN_43 hn]; omega)) rfl hA2.1 rfl rfl ywX10_isSeen rfl cwX10_362 ⟨nle rfl, nle rfl⟩ (nle rfl) ⟨nle rfl, nle rfl⟩ dX10_redraw_207 ?_ (fun _ _ _ z => z.elim)
    intro r_9 h_9 n_9 hq _
    have hsee : mSee (mV 57 (0) (mV 0 (0) s)) = 1 := (show mSee s = 1 from mN_see hn)
    rw [hq.1, hq.2.1, hq.2.2, hsee]
    show pw E YX10_redraw _ _ 0 0 210 [some (.ref B), some (.int (zI (0))), q29, q39, q49] [.int (zI (1))] h2 n
    refine pw_aload_n dX10_redraw_210 rfl ?_
    refine pw_get (v := .int (zI (s.1 55))) okX10 (k := 55) (by decide) lkX10_149 hA2.1 rfl dX10_redraw_211 ?_
    refine pw_icmp_eq (tgt := 273) dX10_redraw_214 rfl (by omega) (by omega) (fun c214 => ?_) (fun c214 => ?_)
    ·
      refine pw_aload_n dX10_redraw_273 rfl ?_
      refine pw_get (v := .int (zI (0))) okX10 (k := 57) (by decide) lkX10_334 hA2.1 rfl dX10_redraw_274 ?_
      exact pw_iret dX10_redraw_277 rfl (nle rfl) (nle rfl) ⟨⟨(mV 57 (0) (mV 0 (0) s)), hA2, (show (0 : Int) = 0 from by (first | omega | rfl)), hF2, rfl⟩, congrArg (fun z => some (Value.int (zI z))) (show (0 : Int) = 0 from by (first | omega | rfl))⟩
    · exfalso; omega
set_option maxHeartbeats 1000000 in
set_option maxRecDepth 100000 in
theorem lN_sel1 {E : pw_E} (htr : E.1.stackTraces = false) {Kk : pw_K} {h : pz_H} {n B : Nat} {s : mS} (hA : mAt B s h) {p r c tr tc k fr : Int} {q9 : Option Value} (hp0 : p = 0) (hk : mPk s 0) (hb : mBl s) (hkk : 0 ≤ k ∧ k < 16) (hfr : 0 ≤ fr ∧ fr < 40) : ∀ (j : Nat) (la : Int), (la + 1 - fr).toNat = j → -1 ≤ la → la < 40 → (∀ la9 : Int, (-1 ≤ la9 ∧ la9 < fr) → pw E YX10_select (rmD 4 0 0) Kk 0 0 148 [some (.ref B), some (.int (zI p)), some (.int (zI r)), some (.int (zI c)), some (.int (zI tr)), some (.int (zI tc)), some (.int (zI k)), some (.int (zI fr)), some (.int (zI la9)), q9] [] h n) → pw E YX10_select (rmD 4 0 0) Kk 0 0 120 [some (.ref B), some (.int (zI p)), some (.int (zI r)), some (.int (zI c)), some (.int (zI tr)), some (.int (zI tc)), some (.int (zI k)), some (.int (zI fr)), some (.int (zI la)), q9] [] h n := by
  intro j
  induction j with
  | zero =>
    intro la hj h1 h2 kk
    refine pw_iload dX10_select_120 rfl ?_
    refine pw_iload dX10_select_122 rfl ?_
    refine pw_icmp_lt (tgt := 148) dX10_select_124 rfl (by omega) (by omega) (fun c124 => ?_) (fun c124 => ?_)
    ·
      exact kk la (by omega)
    · exfalso; omega
  | succ j ih =>
    intro la hj h1 h2 kk
    refine pw_iload dX10_select_120 rfl ?_
    refine pw_iload dX10_select_122 rfl ?_
    refine pw_icmp_lt (tgt := 148) dX10_select_124 rfl (by omega) (by omega) (fun c124 => ?_) (fun c124 => ?_)
    · exfalso; omega
    ·
      refine pw_aload_n dX10_select_127 rfl ?_
      refine pw_iload_n dX10_select_128 rfl ?_
      refine pw_iload dX10_select_129 rfl ?_
      refine pw_iload dX10_select_131 rfl ?_
      refine pw_iconst (v := zI (0)) dX10_select_133 (by decide) ?_
      refine pw_callV (As := [.int (zI (p)), .int (zI (k)), .int (zI (la)), .int (zI (0))]) (b := B) (rm := rmD 2 0 0) (nF_shows htr hA hp0 hk hb (by omega) (by omega) (by omega)) rfl hA.1 rfl rfl ywX10_shows rfl cwX10_327 ⟨nle rfl, nle rfl⟩ (nle rfl) ⟨nle rfl, nle rfl⟩ dX10_select_134 ?_ (fun _ _ _ z => z.elim)
      intro r_9 h_9 n_9 hq _
      have hif : (if (0 : Int) = 0 then (32 : Int) else 0) = 32 := rfl
      rw [hq.1, hq.2.1, hq.2.2, hif]
      show pw E YX10_select _ _ 0 0 137 [some (.ref B), some (.int (zI (p))), some (.int (zI (r))), some (.int (zI (c))), some (.int (zI (tr))), some (.int (zI (tc))), some (.int (zI (k))), some (.int (zI (fr))), some (.int (zI (la))), q9] [.int (zI (32))] h n
      refine pw_bipush (v := zI (32)) dX10_select_137 (by decide) ?_
      refine pw_icmp_ne (tgt := 148) dX10_select_139 rfl (by omega) (by omega) (fun c139 => ?_) (fun c139 => ?_)
      · exfalso; omega
      ·
        refine pw_ziinc (lv' := [some (.ref B), some (.int (zI (p))), some (.int (zI (r))), some (.int (zI (c))), some (.int (zI (tr))), some (.int (zI (tc))), some (.int (zI (k))), some (.int (zI (fr))), some (.int (zI (la + (-1)))), q9]) dX10_select_142 rfl (by decide) rfl rfl ?_
        refine pw_goto (tgt := 120) dX10_select_145 rfl ?_
        exact ih (la + -1) (by omega) (by omega) (by omega) kk
set_option maxHeartbeats 1000000 in
set_option maxRecDepth 100000 in
theorem lN_sel2 {E : pw_E} (htr : E.1.stackTraces = false) {Kk : pw_K} {h : pz_H} {n B : Nat} {w : Int} (hw : 8 ≤ w ∧ w ≤ 40) {p r c tr tc : Int} (hp0 : p = 0) (hr : 0 ≤ r ∧ r ≤ tr) (htr2 : tr < 16) (hc : 0 ≤ c ∧ c < 40) (htc : 0 ≤ tc ∧ tc < 40) : ∀ (j : Nat) (k : Int) (q7 q8 q9 : Option Value) (s1 : mS) (h1 : pz_H), (tr + 1 - k).toNat = j → r ≤ k → k ≤ tr + 1 → mAt B s1 h1 → mFr B h h1 → mPk s1 0 → mBl s1 → s1.2 18 p.toNat = w → s1.1 0 = 0 → s1.1 49 = max 0 (k - r - 1) → (∀ (k : Int) (q7 q8 q9 : Option Value) (s2 : mS) (h2 : pz_H), mAt B s2 h2 → mFr B h h2 → s2.1 0 = 0 → s2.1 49 = tr - r → pw E YX10_select (rmD 4 0 0) Kk 0 0 197 [some (.ref B), some (.int (zI p)), some (.int (zI r)), some (.int (zI c)), some (.int (zI tr)), some (.int (zI tc)), some (.int (zI k)), q7, q8, q9] [] h2 n) → pw E YX10_select (rmD 4 0 0) Kk 0 0 78 [some (.ref B), some (.int (zI p)), some (.int (zI r)), some (.int (zI c)), some (.int (zI tr)), some (.int (zI tc)), some (.int (zI k)), q7, q8, q9] [] h1 n := by
  intro j
  induction j with
  | zero =>
    intro k q7 q8 q9 s1 h1 hj i1 i2 hA hF hk hb t18 t0 t49 kk
    refine pw_iload dX10_select_78 rfl ?_
    refine pw_iload dX10_select_80 rfl ?_
    refine pw_icmp_gt (tgt := 197) dX10_select_82 rfl (by omega) (by omega) (fun c82 => ?_) (fun c82 => ?_)
    ·
      exact kk k q7 q8 q9 s1 h1 hA hF t0 (by omega)
    · exfalso; omega
  | succ j ih =>
    intro k q7 q8 q9 s1 h1 hj i1 i2 hA hF hk hb t18 t0 t49 kk
    refine pw_iload dX10_select_78 rfl ?_
    refine pw_iload dX10_select_80 rfl ?_
    refine pw_icmp_gt (tgt := 197) dX10_select_82 rfl (by omega) (by omega) (fun c82 => ?_) (fun c82 => ?_)
    · exfalso; omega
    ·
      refine pw_iload dX10_select_85 rfl ?_
      refine pw_iload_n dX10_select_87 rfl ?_
      refine pw_icmp_ne (tgt := 95) dX10_select_88 rfl (by omega) (by omega) (fun c88 => ?_) (fun c88 => ?_)
      ·
        refine pw_iconst (v := zI (0)) dX10_select_95 (by decide) ?_
        refine pw_istore (lv' := [some (.ref B), some (.int (zI (p))), some (.int (zI (r))), some (.int (zI (c))), some (.int (zI (tr))), some (.int (zI (tc))), some (.int (zI (k))), some (.int (zI (0))), q8, q9]) dX10_select_96 (by decide) rfl rfl ?_
        refine pw_iload dX10_select_98 rfl ?_
        refine pw_iload dX10_select_100 rfl ?_
        refine pw_icmp_ne (tgt := 110) dX10_select_102 rfl (by omega) (by omega) (fun c102 => ?_) (fun c102 => ?_)
        ·
          refine pw_aload_n dX10_select_110 rfl ?_
          refine pw_get (v := .ref (B + 15)) okX10 (k := 18) (by decide) lkX10_53 hA.1 rfl dX10_select_111 ?_
          refine pw_iload_n dX10_select_114 rfl ?_
          refine pw_iald (g := (s1.2 18)) (t := 0) rfl (mF18 (s := s1) hA) (by omega) (by decide) dX10_select_115 ?_
          refine pw_iconst (v := zI (1)) dX10_select_116 (by decide) ?_
          refine pw_zisub dX10_select_117 ?_
          refine pw_istore (lv' := [some (.ref B), some (.int (zI (p))), some (.int (zI (r))), some (.int (zI (c))), some (.int (zI (tr))), some (.int (zI (tc))), some (.int (zI (k))), some (.int (zI (0))), some (.int (zI (((s1.2 18) (p).toNat) - (1)))), q9]) dX10_select_118 (by decide) rfl rfl ?_
          refine lN_sel1 (k := k) (fr := 0) htr hA hp0 hk hb (by omega) (by omega) _ (((s1.2 18) (p).toNat) - (1)) rfl (by omega) (by omega) (fun la9 hla => ?_)
          refine pw_iload dX10_select_148 rfl ?_
          refine pw_iload_n dX10_select_150 rfl ?_
          refine pw_icmp_le (tgt := 160) dX10_select_151 rfl (by omega) (by omega) (fun c151 => ?_) (fun c151 => ?_)
          ·
            refine pw_iload dX10_select_160 rfl ?_
            refine pw_istore (lv' := [some (.ref B), some (.int (zI (p))), some (.int (zI (r))), some (.int (zI (c))), some (.int (zI (tr))), some (.int (zI (tc))), some (.int (zI (k))), some (.int (zI (0))), some (.int (zI (la9))), some (.int (zI (0)))]) dX10_select_162 (by decide) rfl rfl ?_
            refine pw_iload dX10_select_164 rfl ?_
            refine pw_iload dX10_select_166 rfl ?_
            refine pw_icmp_gt (tgt := 191) dX10_select_168 rfl (by omega) (by omega) (fun c168 => ?_) (fun c168 => ?_)
            ·
              refine pw_ziinc (lv' := [some (.ref B), some (.int (zI (p))), some (.int (zI (r))), some (.int (zI (c))), some (.int (zI (tr))), some (.int (zI (tc))), some (.int (zI (k + 1))), some (.int (zI (0))), some (.int (zI (la9))), some (.int (zI (0)))]) dX10_select_191 rfl (by decide) rfl rfl ?_
              refine pw_goto (tgt := 78) dX10_select_194 rfl ?_
              exact ih (k + 1) _ _ _ s1 h1 (by omega) (by omega) (by omega) hA hF hk hb t18 (show (s1.1 0 : Int) = 0 from t0) (show (s1.1 49 : Int) = max 0 (k + 1 - r - 1) from by omega) kk
            · exfalso; omega
          ·
            refine pw_aload_n dX10_select_154 rfl ?_
            refine pw_bipush (v := zI (10)) dX10_select_155 (by decide) ?_
            refine pw_callV (As := [.int (zI (10))]) (b := B) (rm := rmD 0 0 0) (nR_copyOne htr hA (by omega)) rfl hA.1 rfl rfl ywX10_copyOne rfl cwX10_331 ⟨nle rfl, nle rfl⟩ (nle rfl) ⟨nle rfl, nle rfl⟩ dX10_select_157 ?_ (fun _ _ _ z => z.elim)
            intro r_9 h1 n_9 hq _
            obtain ⟨e1, hA1, hF10, e4⟩ := hq
            rw [e1, e4]
            show pw E YX10_select _ _ 0 0 160 [some (.ref B), some (.int (zI (p))), some (.int (zI (r))), some (.int (zI (c))), some (.int (zI (tr))), some (.int (zI (tc))), some (.int (zI (k))), some (.int (zI (0))), some (.int (zI (la9))), q9] [] h1 n
            have hF1 := mFr_tr hF hF10
            have em : mC1 10 s1 = mV 49 (s1.1 49 + 1) (mA 50 (va_up (s1.2 50) (s1.1 49).toNat 10) s1) := by unfold mC1; exact if_pos (by omega)
            rw [em] at hA1
            refine pw_iload dX10_select_160 rfl ?_
            refine pw_istore (lv' := [some (.ref B), some (.int (zI (p))), some (.int (zI (r))), some (.int (zI (c))), some (.int (zI (tr))), some (.int (zI (tc))), some (.int (zI (k))), some (.int (zI (0))), some (.int (zI (la9))), some (.int (zI (0)))]) dX10_select_162 (by decide) rfl rfl ?_
            refine pw_iload dX10_select_164 rfl ?_
            refine pw_iload dX10_select_166 rfl ?_
            refine pw_icmp_gt (tgt := 191) dX10_select_168 rfl (by omega) (by omega) (fun c168 => ?_) (fun c168 => ?_)
            ·
              refine pw_ziinc (lv' := [some (.ref B), some (.int (zI (p))), some (.int (zI (r))), some (.int (zI (c))), some (.int (zI (tr))), some (.int (zI (tc))), some (.int (zI (k + 1))), some (.int (zI (0))), some (.int (zI (la9))), some (.int (zI (0)))]) dX10_select_191 rfl (by decide) rfl rfl ?_
              refine pw_goto (tgt := 78) dX10_select_194 rfl ?_
              exact ih (k + 1) _ _ _ (mV 49 (s1.1 49 + 1) (mA 50 (va_up (s1.2 50) (s1.1 49).toNat 10) s1)) h1 (by omega) (by omega) (by omega) hA1 hF1 hk hb t18 (show (s1.1 0 : Int) = 0 from t0) (show (s1.1 49 + 1 : Int) = max 0 (k + 1 - r - 1) from by omega) kk
            · exfalso; omega
        ·
          refine pw_iload dX10_select_105 rfl ?_
          refine pw_goto (tgt := 118) dX10_select_107 rfl ?_
          refine pw_istore (lv' := [some (.ref B), some (.int (zI (p))), some (.int (zI (r))), some (.int (zI (c))), some (.int (zI (tr))), some (.int (zI (tc))), some (.int (zI (k))), some (.int (zI (0))), some (.int (zI (tc))), q9]) dX10_select_118 (by decide) rfl rfl ?_
          refine lN_sel1 (k := k) (fr := 0) htr hA hp0 hk hb (by omega) (by omega) _ (tc) rfl (by omega) (by omega) (fun la9 hla => ?_)
          refine pw_iload dX10_select_148 rfl ?_
          refine pw_iload_n dX10_select_150 rfl ?_
          refine pw_icmp_le (tgt := 160) dX10_select_151 rfl (by omega) (by omega) (fun c151 => ?_) (fun c151 => ?_)
          ·
            refine pw_iload dX10_select_160 rfl ?_
            refine pw_istore (lv' := [some (.ref B), some (.int (zI (p))), some (.int (zI (r))), some (.int (zI (c))), some (.int (zI (tr))), some (.int (zI (tc))), some (.int (zI (k))), some (.int (zI (0))), some (.int (zI (la9))), some (.int (zI (0)))]) dX10_select_162 (by decide) rfl rfl ?_
            refine pw_iload dX10_select_164 rfl ?_
            refine pw_iload dX10_select_166 rfl ?_
            refine pw_icmp_gt (tgt := 191) dX10_select_168 rfl (by omega) (by omega) (fun c168 => ?_) (fun c168 => ?_)
            ·
              refine pw_ziinc (lv' := [some (.ref B), some (.int (zI (p))), some (.int (zI (r))), some (.int (zI (c))), some (.int (zI (tr))), some (.int (zI (tc))), some (.int (zI (k + 1))), some (.int (zI (0))), some (.int (zI (la9))), some (.int (zI (0)))]) dX10_select_191 rfl (by decide) rfl rfl ?_
              refine pw_goto (tgt := 78) dX10_select_194 rfl ?_
              exact ih (k + 1) _ _ _ s1 h1 (by omega) (by omega) (by omega) hA hF hk hb t18 (show (s1.1 0 : Int) = 0 from t0) (show (s1.1 49 : Int) = max 0 (k + 1 - r - 1) from by omega) kk
            · exfalso; omega
          ·
            refine pw_aload_n dX10_select_154 rfl ?_
            refine pw_bipush (v := zI (10)) dX10_select_155 (by decide) ?_
            refine pw_callV (As := [.int (zI (10))]) (b := B) (rm := rmD 0 0 0) (nR_copyOne htr hA (by omega)) rfl hA.1 rfl rfl ywX10_copyOne rfl cwX10_331 ⟨nle rfl, nle rfl⟩ (nle rfl) ⟨nle rfl, nle rfl⟩ dX10_select_157 ?_ (fun _ _ _ z => z.elim)
            intro r_9 h2 n_9 hq _
            obtain ⟨e1, hA2, hF20, e4⟩ := hq
            rw [e1, e4]
            show pw E YX10_select _ _ 0 0 160 [some (.ref B), some (.int (zI (p))), some (.int (zI (r))), some (.int (zI (c))), some (.int (zI (tr))), some (.int (zI (tc))), some (.int (zI (k))), some (.int (zI (0))), some (.int (zI (la9))), q9] [] h2 n
            have hF2 := mFr_tr hF hF20
            have em : mC1 10 s1 = mV 49 (s1.1 49 + 1) (mA 50 (va_up (s1.2 50) (s1.1 49).toNat 10) s1) := by unfold mC1; exact if_pos (by omega)
            rw [em] at hA2
            refine pw_iload dX10_select_160 rfl ?_
            refine pw_istore (lv' := [some (.ref B), some (.int (zI (p))), some (.int (zI (r))), some (.int (zI (c))), some (.int (zI (tr))), some (.int (zI (tc))), some (.int (zI (k))), some (.int (zI (0))), some (.int (zI (la9))), some (.int (zI (0)))]) dX10_select_162 (by decide) rfl rfl ?_
            refine pw_iload dX10_select_164 rfl ?_
            refine pw_iload dX10_select_166 rfl ?_
            refine pw_icmp_gt (tgt := 191) dX10_select_168 rfl (by omega) (by omega) (fun c168 => ?_) (fun c168 => ?_)
            ·
              refine pw_ziinc (lv' := [some (.ref B), some (.int (zI (p))), some (.int (zI (r))), some (.int (zI (c))), some (.int (zI (tr))), some (.int (zI (tc))), some (.int (zI (k + 1))), some (.int (zI (0))), some (.int (zI (la9))), some (.int (zI (0)))]) dX10_select_191 rfl (by decide) rfl rfl ?_
              refine pw_goto (tgt := 78) dX10_select_194 rfl ?_
              exact ih (k + 1) _ _ _ (mV 49 (s1.1 49 + 1) (mA 50 (va_up (s1.2 50) (s1.1 49).toNat 10) s1)) h2 (by omega) (by omega) (by omega) hA2 hF2 hk hb t18 (show (s1.1 0 : Int) = 0 from t0) (show (s1.1 49 + 1 : Int) = max 0 (k + 1 - r - 1) from by omega) kk
            · exfalso; omega
      ·
        refine pw_iload_n dX10_select_91 rfl ?_
        refine pw_goto (tgt := 96) dX10_select_92 rfl ?_
        refine pw_istore (lv' := [some (.ref B), some (.int (zI (p))), some (.int (zI (r))), some (.int (zI (c))), some (.int (zI (tr))), some (.int (zI (tc))), some (.int (zI (k))), some (.int (zI (c))), q8, q9]) dX10_select_96 (by decide) rfl rfl ?_
        refine pw_iload dX10_select_98 rfl ?_
        refine pw_iload dX10_select_100 rfl ?_
        refine pw_icmp_ne (tgt := 110) dX10_select_102 rfl (by omega) (by omega) (fun c102 => ?_) (fun c102 => ?_)
        ·
          refine pw_aload_n dX10_select_110 rfl ?_
          refine pw_get (v := .ref (B + 15)) okX10 (k := 18) (by decide) lkX10_53 hA.1 rfl dX10_select_111 ?_
          refine pw_iload_n dX10_select_114 rfl ?_
          refine pw_iald (g := (s1.2 18)) (t := 0) rfl (mF18 (s := s1) hA) (by omega) (by decide) dX10_select_115 ?_
          refine pw_iconst (v := zI (1)) dX10_select_116 (by decide) ?_
          refine pw_zisub dX10_select_117 ?_
          refine pw_istore (lv' := [some (.ref B), some (.int (zI (p))), some (.int (zI (r))), some (.int (zI (c))), some (.int (zI (tr))), some (.int (zI (tc))), some (.int (zI (k))), some (.int (zI (c))), some (.int (zI (((s1.2 18) (p).toNat) - (1)))), q9]) dX10_select_118 (by decide) rfl rfl ?_
          refine lN_sel1 (k := k) (fr := c) htr hA hp0 hk hb (by omega) (by omega) _ (((s1.2 18) (p).toNat) - (1)) rfl (by omega) (by omega) (fun la9 hla => ?_)
          refine pw_iload dX10_select_148 rfl ?_
          refine pw_iload_n dX10_select_150 rfl ?_
          refine pw_icmp_le (tgt := 160) dX10_select_151 rfl (by omega) (by omega) (fun c151 => ?_) (fun c151 => ?_)
          ·
            refine pw_iload dX10_select_160 rfl ?_
            refine pw_istore (lv' := [some (.ref B), some (.int (zI (p))), some (.int (zI (r))), some (.int (zI (c))), some (.int (zI (tr))), some (.int (zI (tc))), some (.int (zI (k))), some (.int (zI (c))), some (.int (zI (la9))), some (.int (zI (c)))]) dX10_select_162 (by decide) rfl rfl ?_
            refine pw_iload dX10_select_164 rfl ?_
            refine pw_iload dX10_select_166 rfl ?_
            refine pw_icmp_gt (tgt := 191) dX10_select_168 rfl (by omega) (by omega) (fun c168 => ?_) (fun c168 => ?_)
            ·
              refine pw_ziinc (lv' := [some (.ref B), some (.int (zI (p))), some (.int (zI (r))), some (.int (zI (c))), some (.int (zI (tr))), some (.int (zI (tc))), some (.int (zI (k + 1))), some (.int (zI (c))), some (.int (zI (la9))), some (.int (zI (c)))]) dX10_select_191 rfl (by decide) rfl rfl ?_
              refine pw_goto (tgt := 78) dX10_select_194 rfl ?_
              exact ih (k + 1) _ _ _ s1 h1 (by omega) (by omega) (by omega) hA hF hk hb t18 (show (s1.1 0 : Int) = 0 from t0) (show (s1.1 49 : Int) = max 0 (k + 1 - r - 1) from by omega) kk
            · exfalso; omega
          ·
            refine pw_aload_n dX10_select_154 rfl ?_
            refine pw_bipush (v := zI (10)) dX10_select_155 (by decide) ?_
            refine pw_callV (As := [.int (zI (10))]) (b := B) (rm := rmD 0 0 0) (nR_copyOne htr hA (by omega)) rfl hA.1 rfl rfl ywX10_copyOne rfl cwX10_331 ⟨nle rfl, nle rfl⟩ (nle rfl) ⟨nle rfl, nle rfl⟩ dX10_select_157 ?_ (fun _ _ _ z => z.elim)
            intro r_9 h3 n_9 hq _
            obtain ⟨e1, hA3, hF30, e4⟩ := hq
            rw [e1, e4]
            show pw E YX10_select _ _ 0 0 160 [some (.ref B), some (.int (zI (p))), some (.int (zI (r))), some (.int (zI (c))), some (.int (zI (tr))), some (.int (zI (tc))), some (.int (zI (k))), some (.int (zI (c))), some (.int (zI (la9))), q9] [] h3 n
            have hF3 := mFr_tr hF hF30
            have em : mC1 10 s1 = mV 49 (s1.1 49 + 1) (mA 50 (va_up (s1.2 50) (s1.1 49).toNat 10) s1) := by unfold mC1; exact if_pos (by omega)
            rw [em] at hA3
            refine pw_iload dX10_select_160 rfl ?_
            refine pw_istore (lv' := [some (.ref B), some (.int (zI (p))), some (.int (zI (r))), some (.int (zI (c))), some (.int (zI (tr))), some (.int (zI (tc))), some (.int (zI (k))), some (.int (zI (c))), some (.int (zI (la9))), some (.int (zI (c)))]) dX10_select_162 (by decide) rfl rfl ?_
            refine pw_iload dX10_select_164 rfl ?_
            refine pw_iload dX10_select_166 rfl ?_
            refine pw_icmp_gt (tgt := 191) dX10_select_168 rfl (by omega) (by omega) (fun c168 => ?_) (fun c168 => ?_)
            ·
              refine pw_ziinc (lv' := [some (.ref B), some (.int (zI (p))), some (.int (zI (r))), some (.int (zI (c))), some (.int (zI (tr))), some (.int (zI (tc))), some (.int (zI (k + 1))), some (.int (zI (c))), some (.int (zI (la9))), some (.int (zI (c)))]) dX10_select_191 rfl (by decide) rfl rfl ?_
              refine pw_goto (tgt := 78) dX10_select_194 rfl ?_
              exact ih (k + 1) _ _ _ (mV 49 (s1.1 49 + 1) (mA 50 (va_up (s1.2 50) (s1.1 49).toNat 10) s1)) h3 (by omega) (by omega) (by omega) hA3 hF3 hk hb t18 (show (s1.1 0 : Int) = 0 from t0) (show (s1.1 49 + 1 : Int) = max 0 (k + 1 - r - 1) from by omega) kk
            · exfalso; omega
        ·
          refine pw_iload dX10_select_105 rfl ?_
          refine pw_goto (tgt := 118) dX10_select_107 rfl ?_
          refine pw_istore (lv' := [some (.ref B), some (.int (zI (p))), some (.int (zI (r))), some (.int (zI (c))), some (.int (zI (tr))), some (.int (zI (tc))), some (.int (zI (k))), some (.int (zI (c))), some (.int (zI (tc))), q9]) dX10_select_118 (by decide) rfl rfl ?_
          refine lN_sel1 (k := k) (fr := c) htr hA hp0 hk hb (by omega) (by omega) _ (tc) rfl (by omega) (by omega) (fun la9 hla => ?_)
          refine pw_iload dX10_select_148 rfl ?_
          refine pw_iload_n dX10_select_150 rfl ?_
          refine pw_icmp_le (tgt := 160) dX10_select_151 rfl (by omega) (by omega) (fun c151 => ?_) (fun c151 => ?_)
          ·
            refine pw_iload dX10_select_160 rfl ?_
            refine pw_istore (lv' := [some (.ref B), some (.int (zI (p))), some (.int (zI (r))), some (.int (zI (c))), some (.int (zI (tr))), some (.int (zI (tc))), some (.int (zI (k))), some (.int (zI (c))), some (.int (zI (la9))), some (.int (zI (c)))]) dX10_select_162 (by decide) rfl rfl ?_
            refine pw_iload dX10_select_164 rfl ?_
            refine pw_iload dX10_select_166 rfl ?_
            refine pw_icmp_gt (tgt := 191) dX10_select_168 rfl (by omega) (by omega) (fun c168 => ?_) (fun c168 => ?_)
            ·
              refine pw_ziinc (lv' := [some (.ref B), some (.int (zI (p))), some (.int (zI (r))), some (.int (zI (c))), some (.int (zI (tr))), some (.int (zI (tc))), some (.int (zI (k + 1))), some (.int (zI (c))), some (.int (zI (la9))), some (.int (zI (c)))]) dX10_select_191 rfl (by decide) rfl rfl ?_
              refine pw_goto (tgt := 78) dX10_select_194 rfl ?_
              exact ih (k + 1) _ _ _ s1 h1 (by omega) (by omega) (by omega) hA hF hk hb t18 (show (s1.1 0 : Int) = 0 from t0) (show (s1.1 49 : Int) = max 0 (k + 1 - r - 1) from by omega) kk
            · exfalso; omega
          ·
            refine pw_aload_n dX10_select_154 rfl ?_
            refine pw_bipush (v := zI (10)) dX10_select_155 (by decide) ?_
            refine pw_callV (As := [.int (zI (10))]) (b := B) (rm := rmD 0 0 0) (nR_copyOne htr hA (by omega)) rfl hA.1 rfl rfl ywX10_copyOne rfl cwX10_331 ⟨nle rfl, nle rfl⟩ (nle rfl) ⟨nle rfl, nle rfl⟩ dX10_select_157 ?_ (fun _ _ _ z => z.elim)
            intro r_9 h4 n_9 hq _
            obtain ⟨e1, hA4, hF40, e4⟩ := hq
            rw [e1, e4]
            show pw E YX10_select _ _ 0 0 160 [some (.ref B), some (.int (zI (p))), some (.int (zI (r))), some (.int (zI (c))), some (.int (zI (tr))), some (.int (zI (tc))), some (.int (zI (k))), some (.int (zI (c))), some (.int (zI (la9))), q9] [] h4 n
            have hF4 := mFr_tr hF hF40
            have em : mC1 10 s1 = mV 49 (s1.1 49 + 1) (mA 50 (va_up (s1.2 50) (s1.1 49).toNat 10) s1) := by unfold mC1; exact if_pos (by omega)
            rw [em] at hA4
            refine pw_iload dX10_select_160 rfl ?_
            refine pw_istore (lv' := [some (.ref B), some (.int (zI (p))), some (.int (zI (r))), some (.int (zI (c))), some (.int (zI (tr))), some (.int (zI (tc))), some (.int (zI (k))), some (.int (zI (c))), some (.int (zI (la9))), some (.int (zI (c)))]) dX10_select_162 (by decide) rfl rfl ?_
            refine pw_iload dX10_select_164 rfl ?_
            refine pw_iload dX10_select_166 rfl ?_
            refine pw_icmp_gt (tgt := 191) dX10_select_168 rfl (by omega) (by omega) (fun c168 => ?_) (fun c168 => ?_)
            ·
              refine pw_ziinc (lv' := [some (.ref B), some (.int (zI (p))), some (.int (zI (r))), some (.int (zI (c))), some (.int (zI (tr))), some (.int (zI (tc))), some (.int (zI (k + 1))), some (.int (zI (c))), some (.int (zI (la9))), some (.int (zI (c)))]) dX10_select_191 rfl (by decide) rfl rfl ?_
              refine pw_goto (tgt := 78) dX10_select_194 rfl ?_
              exact ih (k + 1) _ _ _ (mV 49 (s1.1 49 + 1) (mA 50 (va_up (s1.2 50) (s1.1 49).toNat 10) s1)) h4 (by omega) (by omega) (by omega) hA4 hF4 hk hb t18 (show (s1.1 0 : Int) = 0 from t0) (show (s1.1 49 + 1 : Int) = max 0 (k + 1 - r - 1) from by omega) kk
            · exfalso; omega
set_option maxHeartbeats 1000000 in
set_option maxRecDepth 100000 in
/-- select(p, r, c, tr, tc) -/
theorem nF_select {E : pw_E} (htr : E.1.stackTraces = false) {h : pz_H} {n : Nat} {B : Nat} {s : mS} (hA : mAt B s h) {p r c tr tc : Int}  {w H : Int} (hw : 8 ≤ w ∧ w ≤ 40) (hH : 4 ≤ H ∧ H ≤ 16) (hn : mN w H s) (h_p : -2147483648 ≤ p ∧ p < 2147483648) (h_r : -2147483648 ≤ r ∧ r < 2147483648) (h_c : -2147483648 ≤ c ∧ c < 2147483648) (h_tr : -2147483648 ≤ tr ∧ tr < 2147483648) (h_tc : -2147483648 ≤ tc ∧ tc < 2147483648) : pw_M E yX10_select YX10_select (rmD 4 0 0) [.ref B, .int (zI (p)), .int (zI (r)), .int (zI (c)), .int (zI (tr)), .int (zI (tc))] h n (fun r0 h' n' => (∃ s', mAt B s' h' ∧ s'.1 0 = (if p = 0 ∧ (0 ≤ r ∧ r < H ∧ 0 ≤ c ∧ c < w) ∧ (0 ≤ tr ∧ tr < H ∧ 0 ≤ tc ∧ tc < w) then (if (r < tr ∨ (r = tr ∧ c ≤ tc)) then 0 else 2) else 1) ∧ mFr B h h' ∧ n' = n) ∧ r0 = some (.int (zI (if p = 0 ∧ (0 ≤ r ∧ r < H ∧ 0 ≤ c ∧ c < w) ∧ (0 ≤ tr ∧ tr < H ∧ 0 ≤ tc ∧ tc < w) ∧ (r < tr ∨ (r = tr ∧ c ≤ tc)) then tr - r else 0)))) (fun _ _ _ => False) := by
  have v0 := mNv_0 hn
  have v1 := mNv_1 hn
  have v2 := mNv_2 hn
  have v14 := mNv_14 hn
  have v47 := mNv_47 hn
  have v48 := mNv_48 hn
  have v49 := mNv_49 hn
  have v53 := mNv_53 hn
  have v54 := mNv_54 hn
  have v55 := mNv_55 hn
  have v56 := mNv_56 hn
  have v57 := mNv_57 hn
  have hu := mN_us hn
  have hnb : 0 ≤ mNo s p ∧ mNo s p ≤ 1 := mNo_b
  have hk := mN_pk hn hw hH
  have hb := mN_bl hn
  have hno := @mN_no w H s hn p
  refine pw_M_of (lv := [some (.ref B), some (.int (zI (p))), some (.int (zI (r))), some (.int (zI (c))), some (.int (zI (tr))), some (.int (zI (tc))), none, none, none, none]) (by decide) rfl rfl htr (nle rfl) rfl (fun L => ?_)
  refine pw_aload_n dX10_select_0 rfl ?_
  refine pw_aload_n dX10_select_1 rfl ?_
  refine pw_iload_n dX10_select_2 rfl ?_
  refine pw_callV (As := [.int (zI (p))]) (b := B) (rm := rmD 0 0 0) (nR_noPane htr hA hu (by omega)) rfl hA.1 rfl rfl ywX10_noPane rfl cwX10_213 ⟨nle rfl, nle rfl⟩ (nle rfl) ⟨nle rfl, nle rfl⟩ dX10_select_3 ?_ (fun _ _ _ z => z.elim)
  intro r_9 h_9 n_9 hq _
  rw [hq.1, hq.2.1, hq.2.2]
  show pw E YX10_select _ _ 0 0 6 [some (.ref B), some (.int (zI (p))), some (.int (zI (r))), some (.int (zI (c))), some (.int (zI (tr))), some (.int (zI (tc))), none, none, none, none] [.int (zI (mNo s (p))), .ref B] h n
  refine pw_if_ne (tgt := 31) dX10_select_6 rfl (by omega) (fun c6 => ?_) (fun c6 => ?_)
  ·
    have hpx : p = 0 ∨ ¬ p = 0 := by omega
    refine pw_iconst (v := zI (1)) dX10_select_31 (by decide) ?_
    refine pw_goto (tgt := 58) dX10_select_32 rfl ?_
    refine pw_put (fs' := (moL B (va_up s.1 0 (1)))) okX10 (k := 0) (by decide) lkX10_173 rfl rfl rfl hA.1 (nlt rfl) rfl dX10_select_58 ?_
    have hA1 : mAt B (mV 0 (1) s) (va_up h B (pz_o 13 (moL B (va_up s.1 0 (1))))) := mAt_V hA
    have hF1 : mFr B h (va_up h B (pz_o 13 (moL B (va_up s.1 0 (1))))) := mFr_tr mFr_rf (mFr_up (k := 0) (by decide))
    revert hA1 hF1
    generalize (va_up h B (pz_o 13 (moL B (va_up s.1 0 (1))))) = h1
    intro hA1 hF1
    refine pw_aload_n dX10_select_61 rfl ?_
    refine pw_get (v := .int (zI (1))) okX10 (k := 0) (by decide) lkX10_173 hA1.1 rfl dX10_select_62 ?_
    refine pw_if_le (tgt := 70) dX10_select_65 rfl (by omega) (fun c65 => ?_) (fun c65 => ?_)
    · exfalso; omega
    ·
      refine pw_iconst (v := zI (0)) dX10_select_68 (by decide) ?_
      exact pw_iret dX10_select_69 rfl (nle rfl) (nle rfl) ⟨⟨(mV 0 (1) s), hA1, (show (1 : Int) = if p = 0 ∧ (0 ≤ r ∧ r < H ∧ 0 ≤ c ∧ c < w) ∧ (0 ≤ tr ∧ tr < H ∧ 0 ≤ tc ∧ tc < w) then (if (r < tr ∨ (r = tr ∧ c ≤ tc)) then 0 else 2) else 1 from by (first | omega | rfl)), hF1, rfl⟩, congrArg (fun z => some (Value.int (zI z))) (show (0 : Int) = if p = 0 ∧ (0 ≤ r ∧ r < H ∧ 0 ≤ c ∧ c < w) ∧ (0 ≤ tr ∧ tr < H ∧ 0 ≤ tc ∧ tc < w) ∧ (r < tr ∨ (r = tr ∧ c ≤ tc)) then tr - r else 0 from by (first | omega | rfl))⟩
  ·
    have hp0 : p = 0 := by rw [mN_no hn] at c6; revert c6; split <;> omega
    have ep : p.toNat = 0 := by omega
    have g18 : s.2 18 p.toNat = w := by rw [ep]; exact mN_18 hn
    have g19 : s.2 19 p.toNat = H := by rw [ep]; exact mN_19 hn
    refine pw_aload_n dX10_select_9 rfl ?_
    refine pw_iload_n dX10_select_10 rfl ?_
    refine pw_iload_n dX10_select_11 rfl ?_
    refine pw_iload_n dX10_select_12 rfl ?_
    refine pw_callV (As := [.int (zI (p)), .int (zI (r)), .int (zI (c))]) (b := B) (rm := rmD 0 0 0) (nR_isIn htr hA (by omega) (by rw [g18]; omega) (by rw [g19]; omega) (by omega) (by omega)) rfl hA.1 rfl rfl ywX10_isIn rfl cwX10_323 ⟨nle rfl, nle rfl⟩ (nle rfl) ⟨nle rfl, nle rfl⟩ dX10_select_13 ?_ (fun _ _ _ z => z.elim)
    intro r_9 h_9 n_9 hq _
    have hin : mIn s p r c = if 0 ≤ r ∧ r < H ∧ 0 ≤ c ∧ c < w then 1 else 0 := by unfold mIn; rw [g18, g19]
    rw [hq.1, hq.2.1, hq.2.2, hin]
    show pw E YX10_select _ _ 0 0 16 [some (.ref B), some (.int (zI (p))), some (.int (zI (r))), some (.int (zI (c))), some (.int (zI (tr))), some (.int (zI (tc))), none, none, none, none] [.int (zI (if 0 ≤ r ∧ r < H ∧ 0 ≤ c ∧ c < w then 1 else 0)), .ref B] h n
    refine pw_if_eq (tgt := 31) dX10_select_16 rfl (by omega) (fun c16 => ?_) (fun c16 => ?_)
    ·
      have hpx : p = 0 ∨ ¬ p = 0 := by omega
      refine pw_iconst (v := zI (1)) dX10_select_31 (by decide) ?_
      refine pw_goto (tgt := 58) dX10_select_32 rfl ?_
      refine pw_put (fs' := (moL B (va_up s.1 0 (1)))) okX10 (k := 0) (by decide) lkX10_173 rfl rfl rfl hA.1 (nlt rfl) rfl dX10_select_58 ?_
      have hA2 : mAt B (mV 0 (1) s) (va_up h B (pz_o 13 (moL B (va_up s.1 0 (1))))) := mAt_V hA
      have hF2 : mFr B h (va_up h B (pz_o 13 (moL B (va_up s.1 0 (1))))) := mFr_tr mFr_rf (mFr_up (k := 0) (by decide))
      revert hA2 hF2
      generalize (va_up h B (pz_o 13 (moL B (va_up s.1 0 (1))))) = h2
      intro hA2 hF2
      refine pw_aload_n dX10_select_61 rfl ?_
      refine pw_get (v := .int (zI (1))) okX10 (k := 0) (by decide) lkX10_173 hA2.1 rfl dX10_select_62 ?_
      refine pw_if_le (tgt := 70) dX10_select_65 rfl (by omega) (fun c65 => ?_) (fun c65 => ?_)
      · exfalso; omega
      ·
        refine pw_iconst (v := zI (0)) dX10_select_68 (by decide) ?_
        exact pw_iret dX10_select_69 rfl (nle rfl) (nle rfl) ⟨⟨(mV 0 (1) s), hA2, (show (1 : Int) = if p = 0 ∧ (0 ≤ r ∧ r < H ∧ 0 ≤ c ∧ c < w) ∧ (0 ≤ tr ∧ tr < H ∧ 0 ≤ tc ∧ tc < w) then (if (r < tr ∨ (r = tr ∧ c ≤ tc)) then 0 else 2) else 1 from by (first | omega | rfl)), hF2, rfl⟩, congrArg (fun z => some (Value.int (zI z))) (show (0 : Int) = if p = 0 ∧ (0 ≤ r ∧ r < H ∧ 0 ≤ c ∧ c < w) ∧ (0 ≤ tr ∧ tr < H ∧ 0 ≤ tc ∧ tc < w) ∧ (r < tr ∨ (r = tr ∧ c ≤ tc)) then tr - r else 0 from by (first | omega | rfl))⟩
    ·
      refine pw_aload_n dX10_select_19 rfl ?_
      refine pw_iload_n dX10_select_20 rfl ?_
      refine pw_iload dX10_select_21 rfl ?_
      refine pw_iload dX10_select_23 rfl ?_
      refine pw_callV (As := [.int (zI (p)), .int (zI (tr)), .int (zI (tc))]) (b := B) (rm := rmD 0 0 0) (nR_isIn htr hA (by omega) (by rw [g18]; omega) (by rw [g19]; omega) (by omega) (by omega)) rfl hA.1 rfl rfl ywX10_isIn rfl cwX10_323 ⟨nle rfl, nle rfl⟩ (nle rfl) ⟨nle rfl, nle rfl⟩ dX10_select_25 ?_ (fun _ _ _ z => z.elim)
      intro r_9 h_9 n_9 hq _
      have hin : mIn s p tr tc = if 0 ≤ tr ∧ tr < H ∧ 0 ≤ tc ∧ tc < w then 1 else 0 := by unfold mIn; rw [g18, g19]
      rw [hq.1, hq.2.1, hq.2.2, hin]
      show pw E YX10_select _ _ 0 0 28 [some (.ref B), some (.int (zI (p))), some (.int (zI (r))), some (.int (zI (c))), some (.int (zI (tr))), some (.int (zI (tc))), none, none, none, none] [.int (zI (if 0 ≤ tr ∧ tr < H ∧ 0 ≤ tc ∧ tc < w then 1 else 0)), .ref B] h n
      refine pw_if_ne (tgt := 35) dX10_select_28 rfl (by omega) (fun c28 => ?_) (fun c28 => ?_)
      ·
        refine pw_iload dX10_select_35 rfl ?_
        refine pw_iload_n dX10_select_37 rfl ?_
        refine pw_icmp_lt (tgt := 53) dX10_select_38 rfl (by omega) (by omega) (fun c38 => ?_) (fun c38 => ?_)
        ·
          refine pw_iconst (v := zI (2)) dX10_select_53 (by decide) ?_
          refine pw_goto (tgt := 58) dX10_select_54 rfl ?_
          refine pw_put (fs' := (moL B (va_up s.1 0 (2)))) okX10 (k := 0) (by decide) lkX10_173 rfl rfl rfl hA.1 (nlt rfl) rfl dX10_select_58 ?_
          have hA3 : mAt B (mV 0 (2) s) (va_up h B (pz_o 13 (moL B (va_up s.1 0 (2))))) := mAt_V hA
          have hF3 : mFr B h (va_up h B (pz_o 13 (moL B (va_up s.1 0 (2))))) := mFr_tr mFr_rf (mFr_up (k := 0) (by decide))
          revert hA3 hF3
          generalize (va_up h B (pz_o 13 (moL B (va_up s.1 0 (2))))) = h3
          intro hA3 hF3
          refine pw_aload_n dX10_select_61 rfl ?_
          refine pw_get (v := .int (zI (2))) okX10 (k := 0) (by decide) lkX10_173 hA3.1 rfl dX10_select_62 ?_
          refine pw_if_le (tgt := 70) dX10_select_65 rfl (by omega) (fun c65 => ?_) (fun c65 => ?_)
          · exfalso; omega
          ·
            refine pw_iconst (v := zI (0)) dX10_select_68 (by decide) ?_
            exact pw_iret dX10_select_69 rfl (nle rfl) (nle rfl) ⟨⟨(mV 0 (2) s), hA3, (show (2 : Int) = if p = 0 ∧ (0 ≤ r ∧ r < H ∧ 0 ≤ c ∧ c < w) ∧ (0 ≤ tr ∧ tr < H ∧ 0 ≤ tc ∧ tc < w) then (if (r < tr ∨ (r = tr ∧ c ≤ tc)) then 0 else 2) else 1 from by (first | omega | rfl)), hF3, rfl⟩, congrArg (fun z => some (Value.int (zI z))) (show (0 : Int) = if p = 0 ∧ (0 ≤ r ∧ r < H ∧ 0 ≤ c ∧ c < w) ∧ (0 ≤ tr ∧ tr < H ∧ 0 ≤ tc ∧ tc < w) ∧ (r < tr ∨ (r = tr ∧ c ≤ tc)) then tr - r else 0 from by (first | omega | rfl))⟩
        ·
          refine pw_iload dX10_select_41 rfl ?_
          refine pw_iload_n dX10_select_43 rfl ?_
          refine pw_icmp_ne (tgt := 57) dX10_select_44 rfl (by omega) (by omega) (fun c44 => ?_) (fun c44 => ?_)
          ·
            refine pw_iconst (v := zI (0)) dX10_select_57 (by decide) ?_
            refine pw_put (fs' := (moL B (va_up s.1 0 (0)))) okX10 (k := 0) (by decide) lkX10_173 rfl rfl rfl hA.1 (nlt rfl) rfl dX10_select_58 ?_
            have hA4 : mAt B (mV 0 (0) s) (va_up h B (pz_o 13 (moL B (va_up s.1 0 (0))))) := mAt_V hA
            have hF4 : mFr B h (va_up h B (pz_o 13 (moL B (va_up s.1 0 (0))))) := mFr_tr mFr_rf (mFr_up (k := 0) (by decide))
            revert hA4 hF4
            generalize (va_up h B (pz_o 13 (moL B (va_up s.1 0 (0))))) = h4
            intro hA4 hF4
            refine pw_aload_n dX10_select_61 rfl ?_
            refine pw_get (v := .int (zI (0))) okX10 (k := 0) (by decide) lkX10_173 hA4.1 rfl dX10_select_62 ?_
            refine pw_if_le (tgt := 70) dX10_select_65 rfl (by omega) (fun c65 => ?_) (fun c65 => ?_)
            ·
              refine pw_aload_n dX10_select_70 rfl ?_
              refine pw_iconst (v := zI (0)) dX10_select_71 (by decide) ?_
              refine pw_put (fs' := (moL B (va_up (mV 0 (0) s).1 49 (0)))) okX10 (k := 49) (by decide) lkX10_308 rfl rfl rfl hA4.1 (nlt rfl) rfl dX10_select_72 ?_
              have hA5 : mAt B (mV 49 (0) (mV 0 (0) s)) (va_up h4 B (pz_o 13 (moL B (va_up (mV 0 (0) s).1 49 (0))))) := mAt_V hA4
              have hF5 : mFr B h (va_up h4 B (pz_o 13 (moL B (va_up (mV 0 (0) s).1 49 (0))))) := mFr_tr hF4 (mFr_up (k := 0) (by decide))
              revert hA5 hF5
              generalize (va_up h4 B (pz_o 13 (moL B (va_up (mV 0 (0) s).1 49 (0))))) = h5
              intro hA5 hF5
              refine pw_iload_n dX10_select_75 rfl ?_
              refine pw_istore (lv' := [some (.ref B), some (.int (zI (p))), some (.int (zI (r))), some (.int (zI (c))), some (.int (zI (tr))), some (.int (zI (tc))), some (.int (zI (r))), none, none, none]) dX10_select_76 (by decide) rfl rfl ?_
              refine lN_sel2 htr hw hp0 (by omega) (by omega) (by omega) (by omega) _ r _ _ _ (mV 49 (0) (mV 0 (0) s)) h5 rfl (by omega) (by omega) hA5 hF5 hk hb g18 rfl (show (0 : Int) = max 0 (r - r - 1) by omega) (fun k9 q79 q89 q99 s9 h9 z1 z2 z3 z4 => ?_)
              refine pw_aload_n dX10_select_197 rfl ?_
              refine pw_get (v := .int (zI (s9.1 49))) okX10 (k := 49) (by decide) lkX10_308 z1.1 rfl dX10_select_198 ?_
              exact pw_iret dX10_select_201 rfl (nle rfl) (nle rfl) ⟨⟨s9, z1, z3.trans (show (0 : Int) = if p = 0 ∧ (0 ≤ r ∧ r < H ∧ 0 ≤ c ∧ c < w) ∧ (0 ≤ tr ∧ tr < H ∧ 0 ≤ tc ∧ tc < w) then (if (r < tr ∨ (r = tr ∧ c ≤ tc)) then 0 else 2) else 1 from by (first | omega | rfl)), z2, rfl⟩, congrArg (fun z => some (Value.int (zI z))) (z4.trans (show tr - r = if p = 0 ∧ (0 ≤ r ∧ r < H ∧ 0 ≤ c ∧ c < w) ∧ (0 ≤ tr ∧ tr < H ∧ 0 ≤ tc ∧ tc < w) ∧ (r < tr ∨ (r = tr ∧ c ≤ tc)) then tr - r else 0 from by (first | omega | rfl)))⟩
            · exfalso; omega
          ·
            refine pw_iload dX10_select_47 rfl ?_
            refine pw_iload_n dX10_select_49 rfl ?_
            refine pw_icmp_ge (tgt := 57) dX10_select_50 rfl (by omega) (by omega) (fun c50 => ?_) (fun c50 => ?_)
            ·
              refine pw_iconst (v := zI (0)) dX10_select_57 (by decide) ?_
              refine pw_put (fs' := (moL B (va_up s.1 0 (0)))) okX10 (k := 0) (by decide) lkX10_173 rfl rfl rfl hA.1 (nlt rfl) rfl dX10_select_58 ?_
              have hA6 : mAt B (mV 0 (0) s) (va_up h B (pz_o 13 (moL B (va_up s.1 0 (0))))) := mAt_V hA
              have hF6 : mFr B h (va_up h B (pz_o 13 (moL B (va_up s.1 0 (0))))) := mFr_tr mFr_rf (mFr_up (k := 0) (by decide))
              revert hA6 hF6
              generalize (va_up h B (pz_o 13 (moL B (va_up s.1 0 (0))))) = h6
              intro hA6 hF6
              refine pw_aload_n dX10_select_61 rfl ?_
              refine pw_get (v := .int (zI (0))) okX10 (k := 0) (by decide) lkX10_173 hA6.1 rfl dX10_select_62 ?_
              refine pw_if_le (tgt := 70) dX10_select_65 rfl (by omega) (fun c65 => ?_) (fun c65 => ?_)
              ·
                refine pw_aload_n dX10_select_70 rfl ?_
                refine pw_iconst (v := zI (0)) dX10_select_71 (by decide) ?_
                refine pw_put (fs' := (moL B (va_up (mV 0 (0) s).1 49 (0)))) okX10 (k := 49) (by decide) lkX10_308 rfl rfl rfl hA6.1 (nlt rfl) rfl dX10_select_72 ?_
                have hA7 : mAt B (mV 49 (0) (mV 0 (0) s)) (va_up h6 B (pz_o 13 (moL B (va_up (mV 0 (0) s).1 49 (0))))) := mAt_V hA6
                have hF7 : mFr B h (va_up h6 B (pz_o 13 (moL B (va_up (mV 0 (0) s).1 49 (0))))) := mFr_tr hF6 (mFr_up (k := 0) (by decide))
                revert hA7 hF7
                generalize (va_up h6 B (pz_o 13 (moL B (va_up (mV 0 (0) s).1 49 (0))))) = h7
                intro hA7 hF7
                refine pw_iload_n dX10_select_75 rfl ?_
                refine pw_istore (lv' := [some (.ref B), some (.int (zI (p))), some (.int (zI (r))), some (.int (zI (c))), some (.int (zI (tr))), some (.int (zI (tc))), some (.int (zI (r))), none, none, none]) dX10_select_76 (by decide) rfl rfl ?_
                refine lN_sel2 htr hw hp0 (by omega) (by omega) (by omega) (by omega) _ r _ _ _ (mV 49 (0) (mV 0 (0) s)) h7 rfl (by omega) (by omega) hA7 hF7 hk hb g18 rfl (show (0 : Int) = max 0 (r - r - 1) by omega) (fun k9 q79 q89 q99 s9 h9 z1 z2 z3 z4 => ?_)
                refine pw_aload_n dX10_select_197 rfl ?_
                refine pw_get (v := .int (zI (s9.1 49))) okX10 (k := 49) (by decide) lkX10_308 z1.1 rfl dX10_select_198 ?_
                exact pw_iret dX10_select_201 rfl (nle rfl) (nle rfl) ⟨⟨s9, z1, z3.trans (show (0 : Int) = if p = 0 ∧ (0 ≤ r ∧ r < H ∧ 0 ≤ c ∧ c < w) ∧ (0 ≤ tr ∧ tr < H ∧ 0 ≤ tc ∧ tc < w) then (if (r < tr ∨ (r = tr ∧ c ≤ tc)) then 0 else 2) else 1 from by (first | omega | rfl)), z2, rfl⟩, congrArg (fun z => some (Value.int (zI z))) (z4.trans (show tr - r = if p = 0 ∧ (0 ≤ r ∧ r < H ∧ 0 ≤ c ∧ c < w) ∧ (0 ≤ tr ∧ tr < H ∧ 0 ≤ tc ∧ tc < w) ∧ (r < tr ∨ (r = tr ∧ c ≤ tc)) then tr - r else 0 from by (first | omega | rfl)))⟩
              · exfalso; omega
            ·
              refine pw_iconst (v := zI (2)) dX10_select_53 (by decide) ?_
              refine pw_goto (tgt := 58) dX10_select_54 rfl ?_
              refine pw_put (fs' := (moL B (va_up s.1 0 (2)))) okX10 (k := 0) (by decide) lkX10_173 rfl rfl rfl hA.1 (nlt rfl) rfl dX10_select_58 ?_
              have hA8 : mAt B (mV 0 (2) s) (va_up h B (pz_o 13 (moL B (va_up s.1 0 (2))))) := mAt_V hA
              have hF8 : mFr B h (va_up h B (pz_o 13 (moL B (va_up s.1 0 (2))))) := mFr_tr mFr_rf (mFr_up (k := 0) (by decide))
              revert hA8 hF8
              generalize (va_up h B (pz_o 13 (moL B (va_up s.1 0 (2))))) = h8
              intro hA8 hF8
              refine pw_aload_n dX10_select_61 rfl ?_
              refine pw_get (v := .int (zI (2))) okX10 (k := 0) (by decide) lkX10_173 hA8.1 rfl dX10_select_62 ?_
              refine pw_if_le (tgt := 70) dX10_select_65 rfl (by omega) (fun c65 => ?_) (fun c65 => ?_)
              · exfalso; omega
              ·
                refine pw_iconst (v := zI (0)) dX10_select_68 (by decide) ?_
                exact pw_iret dX10_select_69 rfl (nle rfl) (nle rfl) ⟨⟨(mV 0 (2) s), hA8, (show (2 : Int) = if p = 0 ∧ (0 ≤ r ∧ r < H ∧ 0 ≤ c ∧ c < w) ∧ (0 ≤ tr ∧ tr < H ∧ 0 ≤ tc ∧ tc < w) then (if (r < tr ∨ (r = tr ∧ c ≤ tc)) then 0 else 2) else 1 from by (first | omega | rfl)), hF8, rfl⟩, congrArg (fun z => some (Value.int (zI z))) (show (0 : Int) = if p = 0 ∧ (0 ≤ r ∧ r < H ∧ 0 ≤ c ∧ c < w) ∧ (0 ≤ tr ∧ tr < H ∧ 0 ≤ tc ∧ tc < w) ∧ (r < tr ∨ (r = tr ∧ c ≤ tc)) then tr - r else 0 from by (first | omega | rfl))⟩
      ·
        have hpx : p = 0 ∨ ¬ p = 0 := by omega
        refine pw_iconst (v := zI (1)) dX10_select_31 (by decide) ?_
        refine pw_goto (tgt := 58) dX10_select_32 rfl ?_
        refine pw_put (fs' := (moL B (va_up s.1 0 (1)))) okX10 (k := 0) (by decide) lkX10_173 rfl rfl rfl hA.1 (nlt rfl) rfl dX10_select_58 ?_
        have hA9 : mAt B (mV 0 (1) s) (va_up h B (pz_o 13 (moL B (va_up s.1 0 (1))))) := mAt_V hA
        have hF9 : mFr B h (va_up h B (pz_o 13 (moL B (va_up s.1 0 (1))))) := mFr_tr mFr_rf (mFr_up (k := 0) (by decide))
        revert hA9 hF9
        generalize (va_up h B (pz_o 13 (moL B (va_up s.1 0 (1))))) = h9
        intro hA9 hF9
        refine pw_aload_n dX10_select_61 rfl ?_
        refine pw_get (v := .int (zI (1))) okX10 (k := 0) (by decide) lkX10_173 hA9.1 rfl dX10_select_62 ?_
        refine pw_if_le (tgt := 70) dX10_select_65 rfl (by omega) (fun c65 => ?_) (fun c65 => ?_)
        · exfalso; omega
        ·
          refine pw_iconst (v := zI (0)) dX10_select_68 (by decide) ?_
          exact pw_iret dX10_select_69 rfl (nle rfl) (nle rfl) ⟨⟨(mV 0 (1) s), hA9, (show (1 : Int) = if p = 0 ∧ (0 ≤ r ∧ r < H ∧ 0 ≤ c ∧ c < w) ∧ (0 ≤ tr ∧ tr < H ∧ 0 ≤ tc ∧ tc < w) then (if (r < tr ∨ (r = tr ∧ c ≤ tc)) then 0 else 2) else 1 from by (first | omega | rfl)), hF9, rfl⟩, congrArg (fun z => some (Value.int (zI z))) (show (0 : Int) = if p = 0 ∧ (0 ≤ r ∧ r < H ∧ 0 ≤ c ∧ c < w) ∧ (0 ≤ tr ∧ tr < H ∧ 0 ≤ tc ∧ tc < w) ∧ (r < tr ∨ (r = tr ∧ c ≤ tc)) then tr - r else 0 from by (first | omega | rfl))⟩
