theorem cwX10_359 : Cond.methodLink RX10 359 yX10_usePen ∈ pw_G ∧ Cond.instanceMethod yX10_usePen ∈ pw_G ∧ Cond.selects RX10 yX10_usePen yX10_usePen ∈ pw_G := ⟨pw_in 1724 (by decide +kernel) (by decide +kernel), pw_in 1726 (by decide +kernel) (by decide +kernel), pw_in 76 (by decide +kernel) (by decide +kernel)⟩
theorem mRd_sf {d : Int} {s s1 : mS} (x : mRd d s s1) : mRd 0 s1 s1 := ⟨fun _ _ _ _ => rfl, fun _ _ => rfl, x.2.2.1, x.2.2.2.1, x.2.2.2.2.1, x.2.2.2.2.2.1, Int.le_refl _, by omega⟩
theorem rH_57 {W H M : Int} {t : aT} {s : mS} (hH : rH W H M t s) : rH W H M t (mV 57 (0) (mV 0 (0) s)) := by
  refine rH_same hH (fun _ _ => rfl) ?_
  obtain ⟨⟨v1, v2⟩, ⟨v47, m47⟩, v48, v49, v53, v54, v55, v56, v57⟩ := hH.2.2.1
  exact ⟨⟨v1, v2⟩, ⟨v47, m47⟩, v48, v49, v53, v54, v55, v56, by show (0 : Int) ≤ 0; omega, by show (0 : Int) ≤ 24000; omega⟩
theorem mIn_1 {s : mS} {p r c : Int} (h : mIn s p r c = 1) : 0 ≤ r ∧ r < s.2 19 p.toNat ∧ 0 ≤ c ∧ c < s.2 18 p.toNat := by
  unfold mIn at h
  split at h
  · assumption
  · omega
set_option maxHeartbeats 4000000 in
set_option maxRecDepth 100000 in
theorem lG_red1 {E : pw_E} (htr : E.1.stackTraces = false) {Kk : pw_K} {h : pz_H} {n B : Nat} {s : mS} {W H M : Int} {t : aT} (hW : 8 ≤ W ∧ W ≤ 40) (hHH : 4 ≤ H ∧ H ≤ 16) (hH : rH W H M t s) (h57 : s.1 57 = 0) {y : Int} (hy : 0 ≤ y ∧ y < H) : ∀ (j : Nat) (x : Int) (q3 q4 : Option Value) (s1 : mS) (h1 : pz_H), (W - x).toNat = j → 0 ≤ x → x ≤ W → mAt B s1 h1 → mRd (25 * (40 * y + x)) s s1 → mFr B h h1 → (∀ (x : Int) (q3 q4 : Option Value) (s2 : mS) (h2 : pz_H), mAt B s2 h2 → mRd (25 * (40 * y + 40)) s s2 → mFr B h h2 → pw E YX10_redraw (rmD 4 0 0) Kk 0 0 147 [some (.ref B), some (.int (zI y)), some (.int (zI x)), q3, q4] [] h2 n) → pw E YX10_redraw (rmD 4 0 0) Kk 0 0 22 [some (.ref B), some (.int (zI y)), some (.int (zI x)), q3, q4] [] h1 n := by
  intro j
  induction j with
  | zero =>
    intro x q3 q4 s1 h1 hj i1 i2 hA hO hF kk
    have hB := hO.2.2.2.2.2.2
    have e1 : s1.1 1 = W := (hO.2.1 1 (by decide)).trans hH.2.2.1.1.1
    have e2 : s1.1 2 = H := (hO.2.1 2 (by decide)).trans hH.2.2.1.1.2
    refine pw_iload_n dX10_redraw_22 rfl ?_
    refine pw_aload_n dX10_redraw_23 rfl ?_
    refine pw_get (v := .int (zI (s1.1 1))) okX10 (k := 1) (by decide) lkX10_162 hA.1 rfl dX10_redraw_24 ?_
    refine pw_icmp_ge (tgt := 147) dX10_redraw_27 rfl (by omega) (by omega) (fun c27 => ?_) (fun c27 => ?_)
    ·
      exact kk x q3 q4 s1 h1 hA (mRd_mo hO (by omega)) hF
    · exfalso; omega
  | succ j ih =>
    intro x q3 q4 s1 h1 hj i1 i2 hA hO hF kk
    have hB := hO.2.2.2.2.2.2
    have e1 : s1.1 1 = W := (hO.2.1 1 (by decide)).trans hH.2.2.1.1.1
    have e2 : s1.1 2 = H := (hO.2.1 2 (by decide)).trans hH.2.2.1.1.2
    refine pw_iload_n dX10_redraw_22 rfl ?_
    refine pw_aload_n dX10_redraw_23 rfl ?_
    refine pw_get (v := .int (zI (s1.1 1))) okX10 (k := 1) (by decide) lkX10_162 hA.1 rfl dX10_redraw_24 ?_
    refine pw_icmp_ge (tgt := 147) dX10_redraw_27 rfl (by omega) (by omega) (fun c27 => ?_) (fun c27 => ?_)
    · exfalso; omega
    ·
      refine pw_aload_n dX10_redraw_30 rfl ?_
      refine pw_iload_n dX10_redraw_31 rfl ?_
      refine pw_iload_n dX10_redraw_32 rfl ?_
      refine pw_iconst (v := zI (0)) dX10_redraw_33 (by decide) ?_
      refine pw_callV (As := [.int (zI (x)), .int (zI (y)), .int (zI (0))]) (b := B) (rm := rmD 3 0 0) (nG_picture htr hA hW hHH hH.1 (rI_same hH.2.1 (fun k hk => hO.1 k (by omega) (by omega) (by omega))) (by omega) (by omega) (by omega)) rfl hA.1 rfl rfl ywX10_picture rfl cwX10_352 ⟨nle rfl, nle rfl⟩ (nle rfl) ⟨nle rfl, nle rfl⟩ dX10_redraw_34 ?_ (fun _ _ _ z => z.elim)
      intro r_9 h_9 n_9 hq9 _
      obtain ⟨⟨v2_, hv2_, e1_⟩, e2_, e4_⟩ := hq9
      rw [e1_, e2_, e4_]
      show pw E YX10_redraw _ _ 0 0 37 [some (.ref B), some (.int (zI (y))), some (.int (zI (x))), q3, q4] [.int (zI (v2_))] h1 n
      clear e1_ e2_ e4_
      refine pw_istore_n (lv' := [some (.ref B), some (.int (zI (y))), some (.int (zI (x))), some (.int (zI (v2_))), q4]) dX10_redraw_37 (by decide) rfl rfl ?_
      refine pw_aload_n dX10_redraw_38 rfl ?_
      refine pw_iload_n dX10_redraw_39 rfl ?_
      refine pw_iload_n dX10_redraw_40 rfl ?_
      refine pw_iconst (v := zI (1)) dX10_redraw_41 (by decide) ?_
      refine pw_callV (As := [.int (zI (x)), .int (zI (y)), .int (zI (1))]) (b := B) (rm := rmD 3 0 0) (nG_picture htr hA hW hHH hH.1 (rI_same hH.2.1 (fun k hk => hO.1 k (by omega) (by omega) (by omega))) (by omega) (by omega) (by omega)) rfl hA.1 rfl rfl ywX10_picture rfl cwX10_352 ⟨nle rfl, nle rfl⟩ (nle rfl) ⟨nle rfl, nle rfl⟩ dX10_redraw_42 ?_ (fun _ _ _ z => z.elim)
      intro r_9 h_9 n_9 hq9 _
      obtain ⟨⟨v3_, hv3_, e1_⟩, e2_, e4_⟩ := hq9
      rw [e1_, e2_, e4_]
      show pw E YX10_redraw _ _ 0 0 45 [some (.ref B), some (.int (zI (y))), some (.int (zI (x))), some (.int (zI (v2_))), q4] [.int (zI (v3_))] h1 n
      clear e1_ e2_ e4_
      refine pw_istore (lv' := [some (.ref B), some (.int (zI (y))), some (.int (zI (x))), some (.int (zI (v2_))), some (.int (zI (v3_)))]) dX10_redraw_45 (by decide) rfl rfl ?_
      refine pw_iload_n dX10_redraw_47 rfl ?_
      refine pw_aload_n dX10_redraw_48 rfl ?_
      refine pw_get (v := .ref (B + 45)) okX10 (k := 51) (by decide) lkX10_143 hA.1 rfl dX10_redraw_49 ?_
      refine pw_bipush (v := zI (40)) dX10_redraw_52 (by decide) ?_
      refine pw_iload_n dX10_redraw_54 rfl ?_
      refine pw_zimul dX10_redraw_55 ?_
      refine pw_iload_n dX10_redraw_56 rfl ?_
      refine pw_ziadd dX10_redraw_57 ?_
      refine pw_iald (g := (s1.2 51)) (t := 0) rfl (mF51 (s := s1) hA) (by omega) (by decide) dX10_redraw_58 ?_
      refine pw_fresh (fun u4 hu4 => ?_)
      refine pw_icmp_ne (tgt := 78) dX10_redraw_59 rfl (by omega) (by omega) (fun c59 => ?_) (fun c59 => ?_)
      ·
        refine pw_aload_n dX10_redraw_78 rfl ?_
        refine pw_iload_n dX10_redraw_79 rfl ?_
        refine pw_iload_n dX10_redraw_80 rfl ?_
        refine pw_callV (As := [.int (zI (x)), .int (zI (y))]) (b := B) (rm := rmD 2 0 0) (nG_goTo htr hA (mRd_sf hO) (by omega) (by omega) (by omega)) rfl hA.1 rfl rfl ywX10_goTo rfl cwX10_356 ⟨nle rfl, nle rfl⟩ (nle rfl) ⟨nle rfl, nle rfl⟩ dX10_redraw_81 ?_ (fun _ _ _ z => z.elim)
        intro r_9 h5 n_9 hq9 _
        obtain ⟨e1_, s5, hA5, hO5_, hF50, e4_⟩ := hq9
        rw [e1_, e4_]
        show pw E YX10_redraw _ _ 0 0 84 [some (.ref B), some (.int (zI (y))), some (.int (zI (x))), some (.int (zI (v2_))), some (.int (zI (v3_)))] [] h5 n
        clear e1_ e4_
        have hF5 := mFr_tr hF hF50
        have hO5 := mRd_tr hO hO5_
        have hB5 := hO5.2.2.2.2.2.2
        clear hO5_ hF50
        refine pw_aload_n dX10_redraw_84 rfl ?_
        refine pw_iload dX10_redraw_85 rfl ?_
        refine pw_callV (As := [.int (zI (v3_))]) (b := B) (rm := rmD 1 0 0) (nG_usePen htr hA5 hv3_ (mRd_sf hO5) (by omega)) rfl hA5.1 rfl rfl ywX10_usePen rfl cwX10_359 ⟨nle rfl, nle rfl⟩ (nle rfl) ⟨nle rfl, nle rfl⟩ dX10_redraw_87 ?_ (fun _ _ _ z => z.elim)
        intro r_9 h6 n_9 hq9 _
        obtain ⟨e1_, s6, hA6, hO6_, hF60, e4_⟩ := hq9
        rw [e1_, e4_]
        show pw E YX10_redraw _ _ 0 0 90 [some (.ref B), some (.int (zI (y))), some (.int (zI (x))), some (.int (zI (v2_))), some (.int (zI (v3_)))] [] h6 n
        clear e1_ e4_
        have hF6 := mFr_tr hF5 hF60
        have hO6 := mRd_tr hO5 hO6_
        have hB6 := hO6.2.2.2.2.2.2
        clear hO6_ hF60
        refine pw_aload_n dX10_redraw_90 rfl ?_
        refine pw_iload_n dX10_redraw_91 rfl ?_
        refine pw_callV (As := [.int (zI (v2_))]) (b := B) (rm := rmD 0 0 0) (nG_put htr hA6 (by omega)) rfl hA6.1 rfl rfl ywX10_put rfl cwX10_337 ⟨nle rfl, nle rfl⟩ (nle rfl) ⟨nle rfl, nle rfl⟩ dX10_redraw_92 ?_ (fun _ _ _ z => z.elim)
        intro r_9 h7 n_9 hq9 _
        obtain ⟨e1_, s7, hA7, hO7_, hF70, e4_⟩ := hq9
        rw [e1_, e4_]
        show pw E YX10_redraw _ _ 0 0 95 [some (.ref B), some (.int (zI (y))), some (.int (zI (x))), some (.int (zI (v2_))), some (.int (zI (v3_)))] [] h7 n
        clear e1_ e4_
        have hF7 := mFr_tr hF6 hF70
        have hO7 := mRd_ou hO6 hO7_
        have hB7 := hO7.2.2.2.2.2.2
        clear hO7_ hF70
        refine pw_aload_n dX10_redraw_95 rfl ?_
        refine pw_get (v := .ref (B + 45)) okX10 (k := 51) (by decide) lkX10_143 hA7.1 rfl dX10_redraw_96 ?_
        refine pw_bipush (v := zI (40)) dX10_redraw_99 (by decide) ?_
        refine pw_iload_n dX10_redraw_101 rfl ?_
        refine pw_zimul dX10_redraw_102 ?_
        refine pw_iload_n dX10_redraw_103 rfl ?_
        refine pw_ziadd dX10_redraw_104 ?_
        refine pw_iload_n dX10_redraw_105 rfl ?_
        refine pw_iast (g := (s7.2 51)) (t := 0) rfl (mF51 (s := s7) hA7) (by omega) (by decide) dX10_redraw_106 ?_
        have hA8 : mAt B (mA 51 (va_up (s7.2 51) ((40 * y) + (x)).toNat (v2_)) s7) (va_up h7 (B + 45) (pz_z 0 640 (va_up (s7.2 51) ((40 * y) + (x)).toNat (v2_)))) := mU51 hA7
        have hF8 : mFr B h (va_up h7 (B + 45) (pz_z 0 640 (va_up (s7.2 51) ((40 * y) + (x)).toNat (v2_)))) := mFr_tr hF7 (mFr_up (by decide))
        revert hA8 hF8
        generalize (va_up h7 (B + 45) (pz_z 0 640 (va_up (s7.2 51) ((40 * y) + (x)).toNat (v2_)))) = h8
        intro hA8 hF8
        refine pw_aload_n dX10_redraw_107 rfl ?_
        refine pw_get (v := .ref (B + 46)) okX10 (k := 52) (by decide) lkX10_146 hA8.1 rfl dX10_redraw_108 ?_
        refine pw_bipush (v := zI (40)) dX10_redraw_111 (by decide) ?_
        refine pw_iload_n dX10_redraw_113 rfl ?_
        refine pw_zimul dX10_redraw_114 ?_
        refine pw_iload_n dX10_redraw_115 rfl ?_
        refine pw_ziadd dX10_redraw_116 ?_
        refine pw_iload dX10_redraw_117 rfl ?_
        refine pw_iast (g := (s7.2 52)) (t := 0) rfl (mF52 (s := (mA 51 (va_up (s7.2 51) ((40 * y) + (x)).toNat (v2_)) s7)) hA8) (by omega) (by decide) dX10_redraw_119 ?_
        have hA9 : mAt B (mA 52 (va_up (s7.2 52) ((40 * y) + (x)).toNat (v3_)) (mA 51 (va_up (s7.2 51) ((40 * y) + (x)).toNat (v2_)) s7)) (va_up h8 (B + 46) (pz_z 0 640 (va_up (s7.2 52) ((40 * y) + (x)).toNat (v3_)))) := mU52 hA8
        have hF9 : mFr B h (va_up h8 (B + 46) (pz_z 0 640 (va_up (s7.2 52) ((40 * y) + (x)).toNat (v3_)))) := mFr_tr hF8 (mFr_up (by decide))
        revert hA9 hF9
        generalize (va_up h8 (B + 46) (pz_z 0 640 (va_up (s7.2 52) ((40 * y) + (x)).toNat (v3_)))) = h9
        intro hA9 hF9
        have e1b : s7.1 1 = W := (hO7.2.1 1 (by decide)).trans hH.2.2.1.1.1
        refine pw_aload_n dX10_redraw_120 rfl ?_
        refine pw_iload_n dX10_redraw_121 rfl ?_
        refine pw_iconst (v := zI (1)) dX10_redraw_122 (by decide) ?_
        refine pw_ziadd dX10_redraw_123 ?_
        refine pw_aload_n dX10_redraw_124 rfl ?_
        refine pw_get (v := .int (zI (s7.1 1))) okX10 (k := 1) (by decide) lkX10_162 hA9.1 rfl dX10_redraw_125 ?_
        refine pw_icmp_ne (tgt := 135) dX10_redraw_128 rfl (by omega) (by omega) (fun c128 => ?_) (fun c128 => ?_)
        ·
          refine pw_iload_n dX10_redraw_135 rfl ?_
          refine pw_iconst (v := zI (1)) dX10_redraw_136 (by decide) ?_
          refine pw_ziadd dX10_redraw_137 ?_
          refine pw_put (fs' := (moL B (va_up (mA 52 (va_up (s7.2 52) ((40 * y) + (x)).toNat (v3_)) (mA 51 (va_up (s7.2 51) ((40 * y) + (x)).toNat (v2_)) s7)).1 53 (x + 1)))) okX10 (k := 53) (by decide) lkX10_340 rfl rfl rfl hA9.1 (nlt rfl) rfl dX10_redraw_138 ?_
          have hA10 : mAt B (mV 53 (x + 1) (mA 52 (va_up (s7.2 52) ((40 * y) + (x)).toNat (v3_)) (mA 51 (va_up (s7.2 51) ((40 * y) + (x)).toNat (v2_)) s7))) (va_up h9 B (pz_o 13 (moL B (va_up (mA 52 (va_up (s7.2 52) ((40 * y) + (x)).toNat (v3_)) (mA 51 (va_up (s7.2 51) ((40 * y) + (x)).toNat (v2_)) s7)).1 53 (x + 1))))) := mAt_V hA9
          have hF10 : mFr B h (va_up h9 B (pz_o 13 (moL B (va_up (mA 52 (va_up (s7.2 52) ((40 * y) + (x)).toNat (v3_)) (mA 51 (va_up (s7.2 51) ((40 * y) + (x)).toNat (v2_)) s7)).1 53 (x + 1))))) := mFr_tr hF9 (mFr_up (k := 0) (by decide))
          revert hA10 hF10
          generalize (va_up h9 B (pz_o 13 (moL B (va_up (mA 52 (va_up (s7.2 52) ((40 * y) + (x)).toNat (v3_)) (mA 51 (va_up (s7.2 51) ((40 * y) + (x)).toNat (v2_)) s7)).1 53 (x + 1))))) = h10
          intro hA10 hF10
          refine pw_ziinc (lv' := [some (.ref B), some (.int (zI (y))), some (.int (zI (x + 1))), some (.int (zI (v2_))), some (.int (zI (v3_)))]) dX10_redraw_141 rfl (by decide) rfl rfl ?_
          refine pw_goto (tgt := 22) dX10_redraw_144 rfl ?_
          exact ih (x + 1) _ _ (mV 53 (x + 1) (mA 52 (va_up (s7.2 52) ((40 * y) + (x)).toNat (v3_)) (mA 51 (va_up (s7.2 51) ((40 * y) + (x)).toNat (v2_)) s7))) h10 (by omega) (by omega) (by omega) hA10 (⟨fun k h1 h2 h3 => (mA_ne h2).trans ((mA_ne h1).trans (hO7.1 k h1 h2 h3)), fun k hk => (va_up_ne _ _ (by omega)).trans (hO7.2.1 k hk), (show -1 ≤ x + 1 ∧ x + 1 ≤ 100 by omega), hO7.2.2.2.1, hO7.2.2.2.2.1, hO7.2.2.2.2.2.1, hO7.2.2.2.2.2.2.1, Int.le_trans hO7.2.2.2.2.2.2.2 (by omega)⟩) hF10 kk
        ·
          refine pw_iconst (v := zI (-1)) dX10_redraw_131 (by decide) ?_
          refine pw_goto (tgt := 138) dX10_redraw_132 rfl ?_
          refine pw_put (fs' := (moL B (va_up (mA 52 (va_up (s7.2 52) ((40 * y) + (x)).toNat (v3_)) (mA 51 (va_up (s7.2 51) ((40 * y) + (x)).toNat (v2_)) s7)).1 53 (-1)))) okX10 (k := 53) (by decide) lkX10_340 rfl rfl rfl hA9.1 (nlt rfl) rfl dX10_redraw_138 ?_
          have hA11 : mAt B (mV 53 (-1) (mA 52 (va_up (s7.2 52) ((40 * y) + (x)).toNat (v3_)) (mA 51 (va_up (s7.2 51) ((40 * y) + (x)).toNat (v2_)) s7))) (va_up h9 B (pz_o 13 (moL B (va_up (mA 52 (va_up (s7.2 52) ((40 * y) + (x)).toNat (v3_)) (mA 51 (va_up (s7.2 51) ((40 * y) + (x)).toNat (v2_)) s7)).1 53 (-1))))) := mAt_V hA9
          have hF11 : mFr B h (va_up h9 B (pz_o 13 (moL B (va_up (mA 52 (va_up (s7.2 52) ((40 * y) + (x)).toNat (v3_)) (mA 51 (va_up (s7.2 51) ((40 * y) + (x)).toNat (v2_)) s7)).1 53 (-1))))) := mFr_tr hF9 (mFr_up (k := 0) (by decide))
          revert hA11 hF11
          generalize (va_up h9 B (pz_o 13 (moL B (va_up (mA 52 (va_up (s7.2 52) ((40 * y) + (x)).toNat (v3_)) (mA 51 (va_up (s7.2 51) ((40 * y) + (x)).toNat (v2_)) s7)).1 53 (-1))))) = h11
          intro hA11 hF11
          refine pw_ziinc (lv' := [some (.ref B), some (.int (zI (y))), some (.int (zI (x + 1))), some (.int (zI (v2_))), some (.int (zI (v3_)))]) dX10_redraw_141 rfl (by decide) rfl rfl ?_
          refine pw_goto (tgt := 22) dX10_redraw_144 rfl ?_
          exact ih (x + 1) _ _ (mV 53 (-1) (mA 52 (va_up (s7.2 52) ((40 * y) + (x)).toNat (v3_)) (mA 51 (va_up (s7.2 51) ((40 * y) + (x)).toNat (v2_)) s7))) h11 (by omega) (by omega) (by omega) hA11 (⟨fun k h1 h2 h3 => (mA_ne h2).trans ((mA_ne h1).trans (hO7.1 k h1 h2 h3)), fun k hk => (va_up_ne _ _ (by omega)).trans (hO7.2.1 k hk), (show -1 ≤ -1 ∧ -1 ≤ 100 by omega), hO7.2.2.2.1, hO7.2.2.2.2.1, hO7.2.2.2.2.2.1, hO7.2.2.2.2.2.2.1, Int.le_trans hO7.2.2.2.2.2.2.2 (by omega)⟩) hF11 kk
      ·
        refine pw_iload dX10_redraw_62 rfl ?_
        refine pw_aload_n dX10_redraw_64 rfl ?_
        refine pw_get (v := .ref (B + 46)) okX10 (k := 52) (by decide) lkX10_146 hA.1 rfl dX10_redraw_65 ?_
        refine pw_bipush (v := zI (40)) dX10_redraw_68 (by decide) ?_
        refine pw_iload_n dX10_redraw_70 rfl ?_
        refine pw_zimul dX10_redraw_71 ?_
        refine pw_iload_n dX10_redraw_72 rfl ?_
        refine pw_ziadd dX10_redraw_73 ?_
        refine pw_iald (g := (s1.2 52)) (t := 0) rfl (mF52 (s := s1) hA) (by omega) (by decide) dX10_redraw_74 ?_
        refine pw_fresh (fun u12 hu12 => ?_)
        refine pw_icmp_eq (tgt := 141) dX10_redraw_75 rfl (by omega) (by omega) (fun c75 => ?_) (fun c75 => ?_)
        ·
          refine pw_ziinc (lv' := [some (.ref B), some (.int (zI (y))), some (.int (zI (x + 1))), some (.int (zI (v2_))), some (.int (zI (v3_)))]) dX10_redraw_141 rfl (by decide) rfl rfl ?_
          refine pw_goto (tgt := 22) dX10_redraw_144 rfl ?_
          exact ih (x + 1) _ _ s1 h1 (by omega) (by omega) (by omega) hA (mRd_mo hO (by omega)) hF kk
        ·
          refine pw_aload_n dX10_redraw_78 rfl ?_
          refine pw_iload_n dX10_redraw_79 rfl ?_
          refine pw_iload_n dX10_redraw_80 rfl ?_
          refine pw_callV (As := [.int (zI (x)), .int (zI (y))]) (b := B) (rm := rmD 2 0 0) (nG_goTo htr hA (mRd_sf hO) (by omega) (by omega) (by omega)) rfl hA.1 rfl rfl ywX10_goTo rfl cwX10_356 ⟨nle rfl, nle rfl⟩ (nle rfl) ⟨nle rfl, nle rfl⟩ dX10_redraw_81 ?_ (fun _ _ _ z => z.elim)
          intro r_9 h13 n_9 hq9 _
          obtain ⟨e1_, s13, hA13, hO13_, hF130, e4_⟩ := hq9
          rw [e1_, e4_]
          show pw E YX10_redraw _ _ 0 0 84 [some (.ref B), some (.int (zI (y))), some (.int (zI (x))), some (.int (zI (v2_))), some (.int (zI (v3_)))] [] h13 n
          clear e1_ e4_
          have hF13 := mFr_tr hF hF130
          have hO13 := mRd_tr hO hO13_
          have hB13 := hO13.2.2.2.2.2.2
          clear hO13_ hF130
          refine pw_aload_n dX10_redraw_84 rfl ?_
          refine pw_iload dX10_redraw_85 rfl ?_
          refine pw_callV (As := [.int (zI (v3_))]) (b := B) (rm := rmD 1 0 0) (nG_usePen htr hA13 hv3_ (mRd_sf hO13) (by omega)) rfl hA13.1 rfl rfl ywX10_usePen rfl cwX10_359 ⟨nle rfl, nle rfl⟩ (nle rfl) ⟨nle rfl, nle rfl⟩ dX10_redraw_87 ?_ (fun _ _ _ z => z.elim)
          intro r_9 h14 n_9 hq9 _
          obtain ⟨e1_, s14, hA14, hO14_, hF140, e4_⟩ := hq9
          rw [e1_, e4_]
          show pw E YX10_redraw _ _ 0 0 90 [some (.ref B), some (.int (zI (y))), some (.int (zI (x))), some (.int (zI (v2_))), some (.int (zI (v3_)))] [] h14 n
          clear e1_ e4_
          have hF14 := mFr_tr hF13 hF140
          have hO14 := mRd_tr hO13 hO14_
          have hB14 := hO14.2.2.2.2.2.2
          clear hO14_ hF140
          refine pw_aload_n dX10_redraw_90 rfl ?_
          refine pw_iload_n dX10_redraw_91 rfl ?_
          refine pw_callV (As := [.int (zI (v2_))]) (b := B) (rm := rmD 0 0 0) (nG_put htr hA14 (by omega)) rfl hA14.1 rfl rfl ywX10_put rfl cwX10_337 ⟨nle rfl, nle rfl⟩ (nle rfl) ⟨nle rfl, nle rfl⟩ dX10_redraw_92 ?_ (fun _ _ _ z => z.elim)
          intro r_9 h15 n_9 hq9 _
          obtain ⟨e1_, s15, hA15, hO15_, hF150, e4_⟩ := hq9
          rw [e1_, e4_]
          show pw E YX10_redraw _ _ 0 0 95 [some (.ref B), some (.int (zI (y))), some (.int (zI (x))), some (.int (zI (v2_))), some (.int (zI (v3_)))] [] h15 n
          clear e1_ e4_
          have hF15 := mFr_tr hF14 hF150
          have hO15 := mRd_ou hO14 hO15_
          have hB15 := hO15.2.2.2.2.2.2
          clear hO15_ hF150
          refine pw_aload_n dX10_redraw_95 rfl ?_
          refine pw_get (v := .ref (B + 45)) okX10 (k := 51) (by decide) lkX10_143 hA15.1 rfl dX10_redraw_96 ?_
          refine pw_bipush (v := zI (40)) dX10_redraw_99 (by decide) ?_
          refine pw_iload_n dX10_redraw_101 rfl ?_
          refine pw_zimul dX10_redraw_102 ?_
          refine pw_iload_n dX10_redraw_103 rfl ?_
          refine pw_ziadd dX10_redraw_104 ?_
          refine pw_iload_n dX10_redraw_105 rfl ?_
          refine pw_iast (g := (s15.2 51)) (t := 0) rfl (mF51 (s := s15) hA15) (by omega) (by decide) dX10_redraw_106 ?_
          have hA16 : mAt B (mA 51 (va_up (s15.2 51) ((40 * y) + (x)).toNat (v2_)) s15) (va_up h15 (B + 45) (pz_z 0 640 (va_up (s15.2 51) ((40 * y) + (x)).toNat (v2_)))) := mU51 hA15
          have hF16 : mFr B h (va_up h15 (B + 45) (pz_z 0 640 (va_up (s15.2 51) ((40 * y) + (x)).toNat (v2_)))) := mFr_tr hF15 (mFr_up (by decide))
          revert hA16 hF16
          generalize (va_up h15 (B + 45) (pz_z 0 640 (va_up (s15.2 51) ((40 * y) + (x)).toNat (v2_)))) = h16
          intro hA16 hF16
          refine pw_aload_n dX10_redraw_107 rfl ?_
          refine pw_get (v := .ref (B + 46)) okX10 (k := 52) (by decide) lkX10_146 hA16.1 rfl dX10_redraw_108 ?_
          refine pw_bipush (v := zI (40)) dX10_redraw_111 (by decide) ?_
          refine pw_iload_n dX10_redraw_113 rfl ?_
          refine pw_zimul dX10_redraw_114 ?_
          refine pw_iload_n dX10_redraw_115 rfl ?_
          refine pw_ziadd dX10_redraw_116 ?_
          refine pw_iload dX10_redraw_117 rfl ?_
          refine pw_iast (g := (s15.2 52)) (t := 0) rfl (mF52 (s := (mA 51 (va_up (s15.2 51) ((40 * y) + (x)).toNat (v2_)) s15)) hA16) (by omega) (by decide) dX10_redraw_119 ?_
          have hA17 : mAt B (mA 52 (va_up (s15.2 52) ((40 * y) + (x)).toNat (v3_)) (mA 51 (va_up (s15.2 51) ((40 * y) + (x)).toNat (v2_)) s15)) (va_up h16 (B + 46) (pz_z 0 640 (va_up (s15.2 52) ((40 * y) + (x)).toNat (v3_)))) := mU52 hA16
          have hF17 : mFr B h (va_up h16 (B + 46) (pz_z 0 640 (va_up (s15.2 52) ((40 * y) + (x)).toNat (v3_)))) := mFr_tr hF16 (mFr_up (by decide))
          revert hA17 hF17
          generalize (va_up h16 (B + 46) (pz_z 0 640 (va_up (s15.2 52) ((40 * y) + (x)).toNat (v3_)))) = h17
          intro hA17 hF17
          have e1b : s15.1 1 = W := (hO15.2.1 1 (by decide)).trans hH.2.2.1.1.1
          refine pw_aload_n dX10_redraw_120 rfl ?_
          refine pw_iload_n dX10_redraw_121 rfl ?_
          refine pw_iconst (v := zI (1)) dX10_redraw_122 (by decide) ?_
          refine pw_ziadd dX10_redraw_123 ?_
          refine pw_aload_n dX10_redraw_124 rfl ?_
          refine pw_get (v := .int (zI (s15.1 1))) okX10 (k := 1) (by decide) lkX10_162 hA17.1 rfl dX10_redraw_125 ?_
          refine pw_icmp_ne (tgt := 135) dX10_redraw_128 rfl (by omega) (by omega) (fun c128 => ?_) (fun c128 => ?_)
          ·
            refine pw_iload_n dX10_redraw_135 rfl ?_
            refine pw_iconst (v := zI (1)) dX10_redraw_136 (by decide) ?_
            refine pw_ziadd dX10_redraw_137 ?_
            refine pw_put (fs' := (moL B (va_up (mA 52 (va_up (s15.2 52) ((40 * y) + (x)).toNat (v3_)) (mA 51 (va_up (s15.2 51) ((40 * y) + (x)).toNat (v2_)) s15)).1 53 (x + 1)))) okX10 (k := 53) (by decide) lkX10_340 rfl rfl rfl hA17.1 (nlt rfl) rfl dX10_redraw_138 ?_
            have hA18 : mAt B (mV 53 (x + 1) (mA 52 (va_up (s15.2 52) ((40 * y) + (x)).toNat (v3_)) (mA 51 (va_up (s15.2 51) ((40 * y) + (x)).toNat (v2_)) s15))) (va_up h17 B (pz_o 13 (moL B (va_up (mA 52 (va_up (s15.2 52) ((40 * y) + (x)).toNat (v3_)) (mA 51 (va_up (s15.2 51) ((40 * y) + (x)).toNat (v2_)) s15)).1 53 (x + 1))))) := mAt_V hA17
            have hF18 : mFr B h (va_up h17 B (pz_o 13 (moL B (va_up (mA 52 (va_up (s15.2 52) ((40 * y) + (x)).toNat (v3_)) (mA 51 (va_up (s15.2 51) ((40 * y) + (x)).toNat (v2_)) s15)).1 53 (x + 1))))) := mFr_tr hF17 (mFr_up (k := 0) (by decide))
            revert hA18 hF18
            generalize (va_up h17 B (pz_o 13 (moL B (va_up (mA 52 (va_up (s15.2 52) ((40 * y) + (x)).toNat (v3_)) (mA 51 (va_up (s15.2 51) ((40 * y) + (x)).toNat (v2_)) s15)).1 53 (x + 1))))) = h18
            intro hA18 hF18
            refine pw_ziinc (lv' := [some (.ref B), some (.int (zI (y))), some (.int (zI (x + 1))), some (.int (zI (v2_))), some (.int (zI (v3_)))]) dX10_redraw_141 rfl (by decide) rfl rfl ?_
            refine pw_goto (tgt := 22) dX10_redraw_144 rfl ?_
            exact ih (x + 1) _ _ (mV 53 (x + 1) (mA 52 (va_up (s15.2 52) ((40 * y) + (x)).toNat (v3_)) (mA 51 (va_up (s15.2 51) ((40 * y) + (x)).toNat (v2_)) s15))) h18 (by omega) (by omega) (by omega) hA18 (⟨fun k h1 h2 h3 => (mA_ne h2).trans ((mA_ne h1).trans (hO15.1 k h1 h2 h3)), fun k hk => (va_up_ne _ _ (by omega)).trans (hO15.2.1 k hk), (show -1 ≤ x + 1 ∧ x + 1 ≤ 100 by omega), hO15.2.2.2.1, hO15.2.2.2.2.1, hO15.2.2.2.2.2.1, hO15.2.2.2.2.2.2.1, Int.le_trans hO15.2.2.2.2.2.2.2 (by omega)⟩) hF18 kk
          ·
            refine pw_iconst (v := zI (-1)) dX10_redraw_131 (by decide) ?_
            refine pw_goto (tgt := 138) dX10_redraw_132 rfl ?_
            refine pw_put (fs' := (moL B (va_up (mA 52 (va_up (s15.2 52) ((40 * y) + (x)).toNat (v3_)) (mA 51 (va_up (s15.2 51) ((40 * y) + (x)).toNat (v2_)) s15)).1 53 (-1)))) okX10 (k := 53) (by decide) lkX10_340 rfl rfl rfl hA17.1 (nlt rfl) rfl dX10_redraw_138 ?_
            have hA19 : mAt B (mV 53 (-1) (mA 52 (va_up (s15.2 52) ((40 * y) + (x)).toNat (v3_)) (mA 51 (va_up (s15.2 51) ((40 * y) + (x)).toNat (v2_)) s15))) (va_up h17 B (pz_o 13 (moL B (va_up (mA 52 (va_up (s15.2 52) ((40 * y) + (x)).toNat (v3_)) (mA 51 (va_up (s15.2 51) ((40 * y) + (x)).toNat (v2_)) s15)).1 53 (-1))))) := mAt_V hA17
            have hF19 : mFr B h (va_up h17 B (pz_o 13 (moL B (va_up (mA 52 (va_up (s15.2 52) ((40 * y) + (x)).toNat (v3_)) (mA 51 (va_up (s15.2 51) ((40 * y) + (x)).toNat (v2_)) s15)).1 53 (-1))))) := mFr_tr hF17 (mFr_up (k := 0) (by decide))
            revert hA19 hF19
            generalize (va_up h17 B (pz_o 13 (moL B (va_up (mA 52 (va_up (s15.2 52) ((40 * y) + (x)).toNat (v3_)) (mA 51 (va_up (s15.2 51) ((40 * y) + (x)).toNat (v2_)) s15)).1 53 (-1))))) = h19
            intro hA19 hF19
            refine pw_ziinc (lv' := [some (.ref B), some (.int (zI (y))), some (.int (zI (x + 1))), some (.int (zI (v2_))), some (.int (zI (v3_)))]) dX10_redraw_141 rfl (by decide) rfl rfl ?_
            refine pw_goto (tgt := 22) dX10_redraw_144 rfl ?_
            exact ih (x + 1) _ _ (mV 53 (-1) (mA 52 (va_up (s15.2 52) ((40 * y) + (x)).toNat (v3_)) (mA 51 (va_up (s15.2 51) ((40 * y) + (x)).toNat (v2_)) s15))) h19 (by omega) (by omega) (by omega) hA19 (⟨fun k h1 h2 h3 => (mA_ne h2).trans ((mA_ne h1).trans (hO15.1 k h1 h2 h3)), fun k hk => (va_up_ne _ _ (by omega)).trans (hO15.2.1 k hk), (show -1 ≤ -1 ∧ -1 ≤ 100 by omega), hO15.2.2.2.1, hO15.2.2.2.2.1, hO15.2.2.2.2.2.1, hO15.2.2.2.2.2.2.1, Int.le_trans hO15.2.2.2.2.2.2.2 (by omega)⟩) hF19 kk
set_option maxHeartbeats 1000000 in
set_option maxRecDepth 100000 in
theorem lG_red2 {E : pw_E} (htr : E.1.stackTraces = false) {Kk : pw_K} {h : pz_H} {n B : Nat} {s : mS} {W H M : Int} {t : aT} (hW : 8 ≤ W ∧ W ≤ 40) (hHH : 4 ≤ H ∧ H ≤ 16) (hH : rH W H M t s) (h57 : s.1 57 = 0) : ∀ (j : Nat) (y : Int) (q2 q3 q4 : Option Value) (s1 : mS) (h1 : pz_H), (H - y).toNat = j → 0 ≤ y → y ≤ H → mAt B s1 h1 → mRd (1000 * y) s s1 → mFr B h h1 → (∀ (y : Int) (q2 q3 q4 : Option Value) (s2 : mS) (h2 : pz_H), mAt B s2 h2 → mRd 16000 s s2 → mFr B h h2 → pw E YX10_redraw (rmD 4 0 0) Kk 0 0 153 [some (.ref B), some (.int (zI y)), q2, q3, q4] [] h2 n) → pw E YX10_redraw (rmD 4 0 0) Kk 0 0 12 [some (.ref B), some (.int (zI y)), q2, q3, q4] [] h1 n := by
  intro j
  induction j with
  | zero =>
    intro y q2 q3 q4 s1 h1 hj i1 i2 hA hO hF kk
    have hB := hO.2.2.2.2.2.2
    have e1 : s1.1 1 = W := (hO.2.1 1 (by decide)).trans hH.2.2.1.1.1
    have e2 : s1.1 2 = H := (hO.2.1 2 (by decide)).trans hH.2.2.1.1.2
    refine pw_iload_n dX10_redraw_12 rfl ?_
    refine pw_aload_n dX10_redraw_13 rfl ?_
    refine pw_get (v := .int (zI (s1.1 2))) okX10 (k := 2) (by decide) lkX10_166 hA.1 rfl dX10_redraw_14 ?_
    refine pw_icmp_ge (tgt := 153) dX10_redraw_17 rfl (by omega) (by omega) (fun c17 => ?_) (fun c17 => ?_)
    ·
      exact kk y q2 q3 q4 s1 h1 hA (mRd_mo hO (by omega)) hF
    · exfalso; omega
  | succ j ih =>
    intro y q2 q3 q4 s1 h1 hj i1 i2 hA hO hF kk
    have hB := hO.2.2.2.2.2.2
    have e1 : s1.1 1 = W := (hO.2.1 1 (by decide)).trans hH.2.2.1.1.1
    have e2 : s1.1 2 = H := (hO.2.1 2 (by decide)).trans hH.2.2.1.1.2
    refine pw_iload_n dX10_redraw_12 rfl ?_
    refine pw_aload_n dX10_redraw_13 rfl ?_
    refine pw_get (v := .int (zI (s1.1 2))) okX10 (k := 2) (by decide) lkX10_166 hA.1 rfl dX10_redraw_14 ?_
    refine pw_icmp_ge (tgt := 153) dX10_redraw_17 rfl (by omega) (by omega) (fun c17 => ?_) (fun c17 => ?_)
    · exfalso; omega
    ·
      refine pw_iconst (v := zI (0)) dX10_redraw_20 (by decide) ?_
      refine pw_istore_n (lv' := [some (.ref B), some (.int (zI (y))), some (.int (zI (0))), q3, q4]) dX10_redraw_21 (by decide) rfl rfl ?_
      refine lG_red1 htr hW hHH hH h57 (by omega) _ 0 _ _ s1 h1 rfl (by omega) (by omega) hA (mRd_mo hO (by omega)) hF (fun x9 q39 q49 s9 h9 hA9 hO9 hF9 => ?_)
      refine pw_ziinc (lv' := [some (.ref B), some (.int (zI (y + 1))), some (.int (zI (x9))), q39, q49]) dX10_redraw_147 rfl (by decide) rfl rfl ?_
      refine pw_goto (tgt := 12) dX10_redraw_150 rfl ?_
      exact ih (y + 1) _ _ _ s9 h9 (by omega) (by omega) (by omega) hA9 (mRd_mo hO9 (by omega)) hF9 kk
set_option maxHeartbeats 1000000 in
set_option maxRecDepth 100000 in
/-- redraw() -/
theorem nG_redraw {E : pw_E} (htr : E.1.stackTraces = false) {h : pz_H} {n : Nat} {B : Nat} {s : mS} (hA : mAt B s h)  {W H M : Int} {t : aT} (hW : 8 ≤ W ∧ W ≤ 40) (hHH : 4 ≤ H ∧ H ≤ 16) (hM : M ≤ 800000000) (hH : rH W H M t s) : pw_M E yX10_redraw YX10_redraw (rmD 4 0 0) [.ref B] h n (fun r0 h' n' => (∃ v, r0 = some (.int (zI v))) ∧ rN W H M t B s h h' n n') (fun _ _ _ => False) := by
  refine pw_M_of (lv := [some (.ref B), none, none, none, none]) (by decide) rfl rfl htr (nle rfl) rfl (fun L => ?_)
  refine pw_aload_n dX10_redraw_0 rfl ?_
  refine pw_iconst (v := zI (0)) dX10_redraw_1 (by decide) ?_
  refine pw_put (fs' := (moL B (va_up s.1 0 (0)))) okX10 (k := 0) (by decide) lkX10_173 rfl rfl rfl hA.1 (nlt rfl) rfl dX10_redraw_2 ?_
  have hA1 : mAt B (mV 0 (0) s) (va_up h B (pz_o 13 (moL B (va_up s.1 0 (0))))) := mAt_V hA
  have hF1 : mFr B h (va_up h B (pz_o 13 (moL B (va_up s.1 0 (0))))) := mFr_tr mFr_rf (mFr_up (k := 0) (by decide))
  revert hA1 hF1
  generalize (va_up h B (pz_o 13 (moL B (va_up s.1 0 (0))))) = h1
  intro hA1 hF1
  refine pw_aload_n dX10_redraw_5 rfl ?_
  refine pw_iconst (v := zI (0)) dX10_redraw_6 (by decide) ?_
  refine pw_put (fs' := (moL B (va_up (mV 0 (0) s).1 57 (0)))) okX10 (k := 57) (by decide) lkX10_334 rfl rfl rfl hA1.1 (nlt rfl) rfl dX10_redraw_7 ?_
  have hA2 : mAt B (mV 57 (0) (mV 0 (0) s)) (va_up h1 B (pz_o 13 (moL B (va_up (mV 0 (0) s).1 57 (0))))) := mAt_V hA1
  have hF2 : mFr B h (va_up h1 B (pz_o 13 (moL B (va_up (mV 0 (0) s).1 57 (0))))) := mFr_tr hF1 (mFr_up (k := 0) (by decide))
  revert hA2 hF2
  generalize (va_up h1 B (pz_o 13 (moL B (va_up (mV 0 (0) s).1 57 (0))))) = h2
  intro hA2 hF2
  refine pw_iconst (v := zI (0)) dX10_redraw_10 (by decide) ?_
  refine pw_istore_n (lv' := [some (.ref B), some (.int (zI (0))), none, none, none]) dX10_redraw_11 (by decide) rfl rfl ?_
  have hH0 := rH_57 hH
  refine lG_red2 (s := (mV 57 (0) (mV 0 (0) s))) htr hW hHH hH0 rfl _ 0 _ _ _ (mV 57 (0) (mV 0 (0) s)) h2 rfl (by omega) (by omega) hA2 (mRd_mo (mRd_rf hH0) (by omega)) hF2 (fun y9 q29 q39 q49 s9 h9 hA9 hO9 hF9 => ?_)
  have hB9 := hO9.2.2.2.2.2.2
  rw [show (mV 57 (0) (mV 0 (0) s)).1 57 = 0 from rfl] at hB9
  have hHx := mRd_rH hO9 hH0 (by omega)
  obtain ⟨hGx, hIx, ⟨⟨x1, x2⟩, ⟨x47, mx47⟩, x48, x49, x53, x54, x55, x56, x57⟩, xM0, x45⟩ := id hHx
  obtain ⟨p8, hpk, m, e17, nd, ew, eh⟩ := rI_leaf hGx hIx mx47
  obtain ⟨kw, kh, kr, kc, ksr, ksc, kt, ko, kwa, kin, kwr, khi, krd, knu, kgi, kas, kfr, kra, kco, kof, kip⟩ := id hpk
  obtain ⟨nd0, nd1, nd2⟩ := id nd
  have h17 : 0 ≤ s9.2 17 (s9.1 47).toNat ∧ s9.2 17 (s9.1 47).toNat < 16 := by rw [e17]; omega
  have f10 : s9.2 10 (s9.2 17 (s9.1 47).toNat).toNat = s9.2 10 m := by rw [e17, Int.toNat_natCast]
  have f11 : s9.2 11 (s9.2 17 (s9.1 47).toNat).toNat = s9.2 11 m := by rw [e17, Int.toNat_natCast]
  have hsb := @mSee_b s9
  refine pw_aload_n dX10_redraw_153 rfl ?_
  refine pw_get (v := .ref (B + 14)) okX10 (k := 17) (by decide) lkX10_50 hA9.1 rfl dX10_redraw_154 ?_
  refine pw_aload_n dX10_redraw_157 rfl ?_
  refine pw_get (v := .int (zI (s9.1 47))) okX10 (k := 47) (by decide) lkX10_207 hA9.1 rfl dX10_redraw_158 ?_
  refine pw_iald (g := (s9.2 17)) (t := 0) rfl (mF17 (s := s9) hA9) (by omega) (by decide) dX10_redraw_161 ?_
  refine pw_istore_n (lv' := [some (.ref B), some (.int (zI ((s9.2 17) (s9.1 47).toNat))), q29, q39, q49]) dX10_redraw_162 (by decide) rfl rfl ?_
  refine pw_aload_n dX10_redraw_163 rfl ?_
  refine pw_callV (As := []) (b := B) (rm := rmD 0 0 0) (nR_isSeen htr hA9 x47 khi kco) rfl hA9.1 rfl rfl ywX10_isSeen rfl cwX10_362 ⟨nle rfl, nle rfl⟩ (nle rfl) ⟨nle rfl, nle rfl⟩ dX10_redraw_164 ?_ (fun _ _ _ z => z.elim)
  intro r_9 h_9 n_9 hq _
  rw [hq.1, hq.2.1, hq.2.2]
  show pw E YX10_redraw _ _ 0 0 167 [some (.ref B), some (.int (zI ((s9.2 17) (s9.1 47).toNat))), q29, q39, q49] [.int (zI (mSee s9))] h9 n
  refine pw_if_eq (tgt := 206) dX10_redraw_167 rfl (by omega) (fun c167 => ?_) (fun c167 => ?_)
  ·
    have hHx := mRd_rH hO9 hH0 (by omega)
    obtain ⟨hGx, hIx, ⟨⟨x1, x2⟩, ⟨x47, mx47⟩, x48, x49, x53, x54, x55, x56, x57⟩, xM0, x45⟩ := id hHx
    obtain ⟨p8, hpk, m, e17, nd, ew, eh⟩ := rI_leaf hGx hIx mx47
    obtain ⟨kw, kh, kr, kc, ksr, ksc, kt, ko, kwa, kin, kwr, khi, krd, knu, kgi, kas, kfr, kra, kco, kof, kip⟩ := id hpk
    obtain ⟨nd0, nd1, nd2⟩ := id nd
    have h17 : 0 ≤ s9.2 17 (s9.1 47).toNat ∧ s9.2 17 (s9.1 47).toNat < 16 := by rw [e17]; omega
    have f10 : s9.2 10 (s9.2 17 (s9.1 47).toNat).toNat = s9.2 10 m := by rw [e17, Int.toNat_natCast]
    have f11 : s9.2 11 (s9.2 17 (s9.1 47).toNat).toNat = s9.2 11 m := by rw [e17, Int.toNat_natCast]
    have hsb := @mSee_b s9
    refine pw_aload_n dX10_redraw_206 rfl ?_
    refine pw_callV (As := []) (b := B) (rm := rmD 0 0 0) (nR_isSeen htr hA9 x47 khi kco) rfl hA9.1 rfl rfl ywX10_isSeen rfl cwX10_362 ⟨nle rfl, nle rfl⟩ (nle rfl) ⟨nle rfl, nle rfl⟩ dX10_redraw_207 ?_ (fun _ _ _ z => z.elim)
    intro r_9 h_9 n_9 hq _
    rw [hq.1, hq.2.1, hq.2.2]
    show pw E YX10_redraw _ _ 0 0 210 [some (.ref B), some (.int (zI ((s9.2 17) (s9.1 47).toNat))), q29, q39, q49] [.int (zI (mSee s9))] h9 n
    refine pw_aload_n dX10_redraw_210 rfl ?_
    refine pw_get (v := .int (zI (s9.1 55))) okX10 (k := 55) (by decide) lkX10_149 hA9.1 rfl dX10_redraw_211 ?_
    refine pw_icmp_eq (tgt := 273) dX10_redraw_214 rfl (by omega) (by omega) (fun c214 => ?_) (fun c214 => ?_)
    ·
      refine pw_aload_n dX10_redraw_273 rfl ?_
      refine pw_get (v := .int (zI (s9.1 57))) okX10 (k := 57) (by decide) lkX10_334 hA9.1 rfl dX10_redraw_274 ?_
      exact pw_iret dX10_redraw_277 rfl (nle rfl) (nle rfl) ⟨⟨_, rfl⟩, s9, hA9, mRd_rH hO9 hH0 (by omega), ⟨hO9.2.1 47 (by decide), hO9.2.1 48 (by decide)⟩, hF9, rfl⟩
    ·
      refine pw_aload_n dX10_redraw_217 rfl ?_
      refine pw_aload_n dX10_redraw_218 rfl ?_
      refine pw_callV (As := []) (b := B) (rm := rmD 0 0 0) (nR_isSeen htr hA9 x47 khi kco) rfl hA9.1 rfl rfl ywX10_isSeen rfl cwX10_362 ⟨nle rfl, nle rfl⟩ (nle rfl) ⟨nle rfl, nle rfl⟩ dX10_redraw_219 ?_ (fun _ _ _ z => z.elim)
      intro r_9 h_9 n_9 hq _
      rw [hq.1, hq.2.1, hq.2.2]
      show pw E YX10_redraw _ _ 0 0 222 [some (.ref B), some (.int (zI ((s9.2 17) (s9.1 47).toNat))), q29, q39, q49] [.int (zI (mSee s9)), .ref B] h9 n
      refine pw_put (fs' := (moL B (va_up s9.1 55 (mSee s9)))) okX10 (k := 55) (by decide) lkX10_149 rfl (zb_nar hsb) (zb_fit hsb) hA9.1 (nlt rfl) rfl dX10_redraw_222 ?_
      have hA21 : mAt B (mV 55 (mSee s9) s9) (va_up h9 B (pz_o 13 (moL B (va_up s9.1 55 (mSee s9))))) := mAt_V hA9
      have hF21 : mFr B h (va_up h9 B (pz_o 13 (moL B (va_up s9.1 55 (mSee s9))))) := mFr_tr hF9 (mFr_up (k := 0) (by decide))
      revert hA21 hF21
      generalize (va_up h9 B (pz_o 13 (moL B (va_up s9.1 55 (mSee s9))))) = h21
      intro hA21 hF21
      have hO22 : mRd _ (mV 57 (0) (mV 0 (0) s)) (mV 55 (mSee s9) s9) := ⟨hO9.1, fun k hk => (va_up_ne _ _ (by omega)).trans (hO9.2.1 k hk), hO9.2.2.1, hO9.2.2.2.1, (show 0 ≤ mSee s9 ∧ mSee s9 ≤ 1 by omega), hO9.2.2.2.2.2.1, hO9.2.2.2.2.2.2⟩
      have hA22 := hA21
      revert hO22 hA22
      generalize (mV 55 (mSee s9) s9) = s22
      intro hO22 hA22
      have hB22 := hO22.2.2.2.2.2.2
      rw [show (mV 57 (0) (mV 0 (0) s)).1 57 = 0 from rfl] at hB22
      refine pw_aload_n dX10_redraw_225 rfl ?_
      refine pw_bipush (v := zI (27)) dX10_redraw_226 (by decide) ?_
      refine pw_callV (As := [.int (zI (27))]) (b := B) (rm := rmD 0 0 0) (nG_put htr hA22 (by omega)) rfl hA22.1 rfl rfl ywX10_put rfl cwX10_337 ⟨nle rfl, nle rfl⟩ (nle rfl) ⟨nle rfl, nle rfl⟩ dX10_redraw_228 ?_ (fun _ _ _ z => z.elim)
      intro r_9 h23 n_9 hq9 _
      obtain ⟨e1_, s23, hA23, hO23_, hF230, e4_⟩ := hq9
      rw [e1_, e4_]
      show pw E YX10_redraw _ _ 0 0 231 [some (.ref B), some (.int (zI ((s9.2 17) (s9.1 47).toNat))), q29, q39, q49] [] h23 n
      clear e1_ e4_
      have hF23 := mFr_tr hF21 hF230
      have hO23 := mRd_ou hO22 hO23_
      have hB23 := hO23.2.2.2.2.2.2
      clear hO23_ hF230
      rw [show (mV 57 (0) (mV 0 (0) s)).1 57 = 0 from rfl] at hB23
      refine pw_aload_n dX10_redraw_231 rfl ?_
      refine pw_bipush (v := zI (91)) dX10_redraw_232 (by decide) ?_
      refine pw_callV (As := [.int (zI (91))]) (b := B) (rm := rmD 0 0 0) (nG_put htr hA23 (by omega)) rfl hA23.1 rfl rfl ywX10_put rfl cwX10_337 ⟨nle rfl, nle rfl⟩ (nle rfl) ⟨nle rfl, nle rfl⟩ dX10_redraw_234 ?_ (fun _ _ _ z => z.elim)
      intro r_9 h24 n_9 hq9 _
      obtain ⟨e1_, s24, hA24, hO24_, hF240, e4_⟩ := hq9
      rw [e1_, e4_]
      show pw E YX10_redraw _ _ 0 0 237 [some (.ref B), some (.int (zI ((s9.2 17) (s9.1 47).toNat))), q29, q39, q49] [] h24 n
      clear e1_ e4_
      have hF24 := mFr_tr hF23 hF240
      have hO24 := mRd_ou hO23 hO24_
      have hB24 := hO24.2.2.2.2.2.2
      clear hO24_ hF240
      rw [show (mV 57 (0) (mV 0 (0) s)).1 57 = 0 from rfl] at hB24
      refine pw_aload_n dX10_redraw_237 rfl ?_
      refine pw_bipush (v := zI (63)) dX10_redraw_238 (by decide) ?_
      refine pw_callV (As := [.int (zI (63))]) (b := B) (rm := rmD 0 0 0) (nG_put htr hA24 (by omega)) rfl hA24.1 rfl rfl ywX10_put rfl cwX10_337 ⟨nle rfl, nle rfl⟩ (nle rfl) ⟨nle rfl, nle rfl⟩ dX10_redraw_240 ?_ (fun _ _ _ z => z.elim)
      intro r_9 h25 n_9 hq9 _
      obtain ⟨e1_, s25, hA25, hO25_, hF250, e4_⟩ := hq9
      rw [e1_, e4_]
      show pw E YX10_redraw _ _ 0 0 243 [some (.ref B), some (.int (zI ((s9.2 17) (s9.1 47).toNat))), q29, q39, q49] [] h25 n
      clear e1_ e4_
      have hF25 := mFr_tr hF24 hF250
      have hO25 := mRd_ou hO24 hO25_
      have hB25 := hO25.2.2.2.2.2.2
      clear hO25_ hF250
      rw [show (mV 57 (0) (mV 0 (0) s)).1 57 = 0 from rfl] at hB25
      refine pw_aload_n dX10_redraw_243 rfl ?_
      refine pw_bipush (v := zI (50)) dX10_redraw_244 (by decide) ?_
      refine pw_callV (As := [.int (zI (50))]) (b := B) (rm := rmD 0 0 0) (nG_put htr hA25 (by omega)) rfl hA25.1 rfl rfl ywX10_put rfl cwX10_337 ⟨nle rfl, nle rfl⟩ (nle rfl) ⟨nle rfl, nle rfl⟩ dX10_redraw_246 ?_ (fun _ _ _ z => z.elim)
      intro r_9 h26 n_9 hq9 _
      obtain ⟨e1_, s26, hA26, hO26_, hF260, e4_⟩ := hq9
      rw [e1_, e4_]
      show pw E YX10_redraw _ _ 0 0 249 [some (.ref B), some (.int (zI ((s9.2 17) (s9.1 47).toNat))), q29, q39, q49] [] h26 n
      clear e1_ e4_
      have hF26 := mFr_tr hF25 hF260
      have hO26 := mRd_ou hO25 hO26_
      have hB26 := hO26.2.2.2.2.2.2
      clear hO26_ hF260
      rw [show (mV 57 (0) (mV 0 (0) s)).1 57 = 0 from rfl] at hB26
      refine pw_aload_n dX10_redraw_249 rfl ?_
      refine pw_bipush (v := zI (53)) dX10_redraw_250 (by decide) ?_
      refine pw_callV (As := [.int (zI (53))]) (b := B) (rm := rmD 0 0 0) (nG_put htr hA26 (by omega)) rfl hA26.1 rfl rfl ywX10_put rfl cwX10_337 ⟨nle rfl, nle rfl⟩ (nle rfl) ⟨nle rfl, nle rfl⟩ dX10_redraw_252 ?_ (fun _ _ _ z => z.elim)
      intro r_9 h27 n_9 hq9 _
      obtain ⟨e1_, s27, hA27, hO27_, hF270, e4_⟩ := hq9
      rw [e1_, e4_]
      show pw E YX10_redraw _ _ 0 0 255 [some (.ref B), some (.int (zI ((s9.2 17) (s9.1 47).toNat))), q29, q39, q49] [] h27 n
      clear e1_ e4_
      have hF27 := mFr_tr hF26 hF270
      have hO27 := mRd_ou hO26 hO27_
      have hB27 := hO27.2.2.2.2.2.2
      clear hO27_ hF270
      rw [show (mV 57 (0) (mV 0 (0) s)).1 57 = 0 from rfl] at hB27
      refine pw_aload_n dX10_redraw_255 rfl ?_
      refine pw_aload_n dX10_redraw_256 rfl ?_
      have f55 := hO27.2.2.2.2.1
      refine pw_get (v := .int (zI (s27.1 55))) okX10 (k := 55) (by decide) lkX10_149 hA27.1 rfl dX10_redraw_257 ?_
      refine pw_if_eq (tgt := 268) dX10_redraw_260 rfl (by omega) (fun c260 => ?_) (fun c260 => ?_)
      ·
        refine pw_bipush (v := zI (108)) dX10_redraw_268 (by decide) ?_
        refine pw_callV (As := [.int (zI (108))]) (b := B) (rm := rmD 0 0 0) (nG_put htr hA27 (by omega)) rfl hA27.1 rfl rfl ywX10_put rfl cwX10_337 ⟨nle rfl, nle rfl⟩ (nle rfl) ⟨nle rfl, nle rfl⟩ dX10_redraw_270 ?_ (fun _ _ _ z => z.elim)
        intro r_9 h28 n_9 hq9 _
        obtain ⟨e1_, s28, hA28, hO28_, hF280, e4_⟩ := hq9
        rw [e1_, e4_]
        show pw E YX10_redraw _ _ 0 0 273 [some (.ref B), some (.int (zI ((s9.2 17) (s9.1 47).toNat))), q29, q39, q49] [] h28 n
        clear e1_ e4_
        have hF28 := mFr_tr hF27 hF280
        have hO28 := mRd_ou hO27 hO28_
        have hB28 := hO28.2.2.2.2.2.2
        clear hO28_ hF280
        rw [show (mV 57 (0) (mV 0 (0) s)).1 57 = 0 from rfl] at hB28
        refine pw_aload_n dX10_redraw_273 rfl ?_
        refine pw_get (v := .int (zI (s28.1 57))) okX10 (k := 57) (by decide) lkX10_334 hA28.1 rfl dX10_redraw_274 ?_
        exact pw_iret dX10_redraw_277 rfl (nle rfl) (nle rfl) ⟨⟨_, rfl⟩, s28, hA28, mRd_rH hO28 hH0 (by omega), ⟨hO28.2.1 47 (by decide), hO28.2.1 48 (by decide)⟩, hF28, rfl⟩
      ·
        refine pw_bipush (v := zI (104)) dX10_redraw_263 (by decide) ?_
        refine pw_goto (tgt := 270) dX10_redraw_265 rfl ?_
        refine pw_callV (As := [.int (zI (104))]) (b := B) (rm := rmD 0 0 0) (nG_put htr hA27 (by omega)) rfl hA27.1 rfl rfl ywX10_put rfl cwX10_337 ⟨nle rfl, nle rfl⟩ (nle rfl) ⟨nle rfl, nle rfl⟩ dX10_redraw_270 ?_ (fun _ _ _ z => z.elim)
        intro r_9 h29 n_9 hq9 _
        obtain ⟨e1_, s29, hA29, hO29_, hF290, e4_⟩ := hq9
        rw [e1_, e4_]
        show pw E YX10_redraw _ _ 0 0 273 [some (.ref B), some (.int (zI ((s9.2 17) (s9.1 47).toNat))), q29, q39, q49] [] h29 n
        clear e1_ e4_
        have hF29 := mFr_tr hF27 hF290
        have hO29 := mRd_ou hO27 hO29_
        have hB29 := hO29.2.2.2.2.2.2
        clear hO29_ hF290
        rw [show (mV 57 (0) (mV 0 (0) s)).1 57 = 0 from rfl] at hB29
        refine pw_aload_n dX10_redraw_273 rfl ?_
        refine pw_get (v := .int (zI (s29.1 57))) okX10 (k := 57) (by decide) lkX10_334 hA29.1 rfl dX10_redraw_274 ?_
        exact pw_iret dX10_redraw_277 rfl (nle rfl) (nle rfl) ⟨⟨_, rfl⟩, s29, hA29, mRd_rH hO29 hH0 (by omega), ⟨hO29.2.1 47 (by decide), hO29.2.1 48 (by decide)⟩, hF29, rfl⟩
  ·
    refine pw_aload_n dX10_redraw_170 rfl ?_
    refine pw_aload_n dX10_redraw_171 rfl ?_
    refine pw_get (v := .ref (B + 8)) okX10 (k := 10) (by decide) lkX10_32 hA9.1 rfl dX10_redraw_172 ?_
    refine pw_iload_n dX10_redraw_175 rfl ?_
    refine pw_iald (g := (s9.2 10)) (t := 0) rfl (mF10 (s := s9) hA9) (by omega) (by decide) dX10_redraw_176 ?_
    refine pw_aload_n dX10_redraw_177 rfl ?_
    refine pw_get (v := .ref (B + 21)) okX10 (k := 24) (by decide) lkX10_71 hA9.1 rfl dX10_redraw_178 ?_
    refine pw_aload_n dX10_redraw_181 rfl ?_
    refine pw_get (v := .int (zI (s9.1 47))) okX10 (k := 47) (by decide) lkX10_207 hA9.1 rfl dX10_redraw_182 ?_
    refine pw_iald (g := (s9.2 24)) (t := 0) rfl (mF24 (s := s9) hA9) (by omega) (by decide) dX10_redraw_185 ?_
    refine pw_ziadd dX10_redraw_186 ?_
    refine pw_aload_n dX10_redraw_187 rfl ?_
    refine pw_get (v := .ref (B + 9)) okX10 (k := 11) (by decide) lkX10_35 hA9.1 rfl dX10_redraw_188 ?_
    refine pw_iload_n dX10_redraw_191 rfl ?_
    refine pw_iald (g := (s9.2 11)) (t := 0) rfl (mF11 (s := s9) hA9) (by omega) (by decide) dX10_redraw_192 ?_
    refine pw_aload_n dX10_redraw_193 rfl ?_
    refine pw_get (v := .ref (B + 20)) okX10 (k := 23) (by decide) lkX10_68 hA9.1 rfl dX10_redraw_194 ?_
    refine pw_aload_n dX10_redraw_197 rfl ?_
    refine pw_get (v := .int (zI (s9.1 47))) okX10 (k := 47) (by decide) lkX10_207 hA9.1 rfl dX10_redraw_198 ?_
    refine pw_iald (g := (s9.2 23)) (t := 0) rfl (mF23 (s := s9) hA9) (by omega) (by decide) dX10_redraw_201 ?_
    refine pw_ziadd dX10_redraw_202 ?_
    refine pw_callV (As := [.int (zI (((s9.2 10) ((s9.2 17) (s9.1 47).toNat).toNat) + ((s9.2 24) (s9.1 47).toNat))), .int (zI (((s9.2 11) ((s9.2 17) (s9.1 47).toNat).toNat) + ((s9.2 23) (s9.1 47).toNat)))]) (b := B) (rm := rmD 2 0 0) (nG_goTo htr hA9 (mRd_sf hO9) (by omega) (by omega) (by omega)) rfl hA9.1 rfl rfl ywX10_goTo rfl cwX10_356 ⟨nle rfl, nle rfl⟩ (nle rfl) ⟨nle rfl, nle rfl⟩ dX10_redraw_203 ?_ (fun _ _ _ z => z.elim)
    intro r_9 h30 n_9 hq9 _
    obtain ⟨e1_, s30, hA30, hO30_, hF300, e4_⟩ := hq9
    rw [e1_, e4_]
    show pw E YX10_redraw _ _ 0 0 206 [some (.ref B), some (.int (zI ((s9.2 17) (s9.1 47).toNat))), q29, q39, q49] [] h30 n
    clear e1_ e4_
    have hF30 := mFr_tr hF9 hF300
    have hO30 := mRd_tr hO9 hO30_
    have hB30 := hO30.2.2.2.2.2.2
    clear hO30_ hF300
    rw [show (mV 57 (0) (mV 0 (0) s)).1 57 = 0 from rfl] at hB30
    have hHx := mRd_rH hO30 hH0 (by omega)
    obtain ⟨hGx, hIx, ⟨⟨x1, x2⟩, ⟨x47, mx47⟩, x48, x49, x53, x54, x55, x56, x57⟩, xM0, x45⟩ := id hHx
    obtain ⟨p8, hpk, m, e17, nd, ew, eh⟩ := rI_leaf hGx hIx mx47
    obtain ⟨kw, kh, kr, kc, ksr, ksc, kt, ko, kwa, kin, kwr, khi, krd, knu, kgi, kas, kfr, kra, kco, kof, kip⟩ := id hpk
    obtain ⟨nd0, nd1, nd2⟩ := id nd
    have h17 : 0 ≤ s30.2 17 (s30.1 47).toNat ∧ s30.2 17 (s30.1 47).toNat < 16 := by rw [e17]; omega
    have f10 : s30.2 10 (s30.2 17 (s30.1 47).toNat).toNat = s30.2 10 m := by rw [e17, Int.toNat_natCast]
    have f11 : s30.2 11 (s30.2 17 (s30.1 47).toNat).toNat = s30.2 11 m := by rw [e17, Int.toNat_natCast]
    have hsb := @mSee_b s30
    refine pw_aload_n dX10_redraw_206 rfl ?_
    refine pw_callV (As := []) (b := B) (rm := rmD 0 0 0) (nR_isSeen htr hA30 x47 khi kco) rfl hA30.1 rfl rfl ywX10_isSeen rfl cwX10_362 ⟨nle rfl, nle rfl⟩ (nle rfl) ⟨nle rfl, nle rfl⟩ dX10_redraw_207 ?_ (fun _ _ _ z => z.elim)
    intro r_9 h_9 n_9 hq _
    rw [hq.1, hq.2.1, hq.2.2]
    show pw E YX10_redraw _ _ 0 0 210 [some (.ref B), some (.int (zI ((s9.2 17) (s9.1 47).toNat))), q29, q39, q49] [.int (zI (mSee s30))] h30 n
    refine pw_aload_n dX10_redraw_210 rfl ?_
    refine pw_get (v := .int (zI (s30.1 55))) okX10 (k := 55) (by decide) lkX10_149 hA30.1 rfl dX10_redraw_211 ?_
    refine pw_icmp_eq (tgt := 273) dX10_redraw_214 rfl (by omega) (by omega) (fun c214 => ?_) (fun c214 => ?_)
    ·
      refine pw_aload_n dX10_redraw_273 rfl ?_
      refine pw_get (v := .int (zI (s30.1 57))) okX10 (k := 57) (by decide) lkX10_334 hA30.1 rfl dX10_redraw_274 ?_
      exact pw_iret dX10_redraw_277 rfl (nle rfl) (nle rfl) ⟨⟨_, rfl⟩, s30, hA30, mRd_rH hO30 hH0 (by omega), ⟨hO30.2.1 47 (by decide), hO30.2.1 48 (by decide)⟩, hF30, rfl⟩
    ·
      refine pw_aload_n dX10_redraw_217 rfl ?_
      refine pw_aload_n dX10_redraw_218 rfl ?_
      refine pw_callV (As := []) (b := B) (rm := rmD 0 0 0) (nR_isSeen htr hA30 x47 khi kco) rfl hA30.1 rfl rfl ywX10_isSeen rfl cwX10_362 ⟨nle rfl, nle rfl⟩ (nle rfl) ⟨nle rfl, nle rfl⟩ dX10_redraw_219 ?_ (fun _ _ _ z => z.elim)
      intro r_9 h_9 n_9 hq _
      rw [hq.1, hq.2.1, hq.2.2]
      show pw E YX10_redraw _ _ 0 0 222 [some (.ref B), some (.int (zI ((s9.2 17) (s9.1 47).toNat))), q29, q39, q49] [.int (zI (mSee s30)), .ref B] h30 n
      refine pw_put (fs' := (moL B (va_up s30.1 55 (mSee s30)))) okX10 (k := 55) (by decide) lkX10_149 rfl (zb_nar hsb) (zb_fit hsb) hA30.1 (nlt rfl) rfl dX10_redraw_222 ?_
      have hA31 : mAt B (mV 55 (mSee s30) s30) (va_up h30 B (pz_o 13 (moL B (va_up s30.1 55 (mSee s30))))) := mAt_V hA30
      have hF31 : mFr B h (va_up h30 B (pz_o 13 (moL B (va_up s30.1 55 (mSee s30))))) := mFr_tr hF30 (mFr_up (k := 0) (by decide))
      revert hA31 hF31
      generalize (va_up h30 B (pz_o 13 (moL B (va_up s30.1 55 (mSee s30))))) = h31
      intro hA31 hF31
      have hO32 : mRd _ (mV 57 (0) (mV 0 (0) s)) (mV 55 (mSee s30) s30) := ⟨hO30.1, fun k hk => (va_up_ne _ _ (by omega)).trans (hO30.2.1 k hk), hO30.2.2.1, hO30.2.2.2.1, (show 0 ≤ mSee s30 ∧ mSee s30 ≤ 1 by omega), hO30.2.2.2.2.2.1, hO30.2.2.2.2.2.2⟩
      have hA32 := hA31
      revert hO32 hA32
      generalize (mV 55 (mSee s30) s30) = s32
      intro hO32 hA32
      have hB32 := hO32.2.2.2.2.2.2
      rw [show (mV 57 (0) (mV 0 (0) s)).1 57 = 0 from rfl] at hB32
      refine pw_aload_n dX10_redraw_225 rfl ?_
      refine pw_bipush (v := zI (27)) dX10_redraw_226 (by decide) ?_
      refine pw_callV (As := [.int (zI (27))]) (b := B) (rm := rmD 0 0 0) (nG_put htr hA32 (by omega)) rfl hA32.1 rfl rfl ywX10_put rfl cwX10_337 ⟨nle rfl, nle rfl⟩ (nle rfl) ⟨nle rfl, nle rfl⟩ dX10_redraw_228 ?_ (fun _ _ _ z => z.elim)
      intro r_9 h33 n_9 hq9 _
      obtain ⟨e1_, s33, hA33, hO33_, hF330, e4_⟩ := hq9
      rw [e1_, e4_]
      show pw E YX10_redraw _ _ 0 0 231 [some (.ref B), some (.int (zI ((s9.2 17) (s9.1 47).toNat))), q29, q39, q49] [] h33 n
      clear e1_ e4_
      have hF33 := mFr_tr hF31 hF330
      have hO33 := mRd_ou hO32 hO33_
      have hB33 := hO33.2.2.2.2.2.2
      clear hO33_ hF330
      rw [show (mV 57 (0) (mV 0 (0) s)).1 57 = 0 from rfl] at hB33
      refine pw_aload_n dX10_redraw_231 rfl ?_
      refine pw_bipush (v := zI (91)) dX10_redraw_232 (by decide) ?_
      refine pw_callV (As := [.int (zI (91))]) (b := B) (rm := rmD 0 0 0) (nG_put htr hA33 (by omega)) rfl hA33.1 rfl rfl ywX10_put rfl cwX10_337 ⟨nle rfl, nle rfl⟩ (nle rfl) ⟨nle rfl, nle rfl⟩ dX10_redraw_234 ?_ (fun _ _ _ z => z.elim)
      intro r_9 h34 n_9 hq9 _
      obtain ⟨e1_, s34, hA34, hO34_, hF340, e4_⟩ := hq9
      rw [e1_, e4_]
      show pw E YX10_redraw _ _ 0 0 237 [some (.ref B), some (.int (zI ((s9.2 17) (s9.1 47).toNat))), q29, q39, q49] [] h34 n
      clear e1_ e4_
      have hF34 := mFr_tr hF33 hF340
      have hO34 := mRd_ou hO33 hO34_
      have hB34 := hO34.2.2.2.2.2.2
      clear hO34_ hF340
      rw [show (mV 57 (0) (mV 0 (0) s)).1 57 = 0 from rfl] at hB34
      refine pw_aload_n dX10_redraw_237 rfl ?_
      refine pw_bipush (v := zI (63)) dX10_redraw_238 (by decide) ?_
      refine pw_callV (As := [.int (zI (63))]) (b := B) (rm := rmD 0 0 0) (nG_put htr hA34 (by omega)) rfl hA34.1 rfl rfl ywX10_put rfl cwX10_337 ⟨nle rfl, nle rfl⟩ (nle rfl) ⟨nle rfl, nle rfl⟩ dX10_redraw_240 ?_ (fun _ _ _ z => z.elim)
      intro r_9 h35 n_9 hq9 _
      obtain ⟨e1_, s35, hA35, hO35_, hF350, e4_⟩ := hq9
      rw [e1_, e4_]
      show pw E YX10_redraw _ _ 0 0 243 [some (.ref B), some (.int (zI ((s9.2 17) (s9.1 47).toNat))), q29, q39, q49] [] h35 n
      clear e1_ e4_
      have hF35 := mFr_tr hF34 hF350
      have hO35 := mRd_ou hO34 hO35_
      have hB35 := hO35.2.2.2.2.2.2
      clear hO35_ hF350
      rw [show (mV 57 (0) (mV 0 (0) s)).1 57 = 0 from rfl] at hB35
      refine pw_aload_n dX10_redraw_243 rfl ?_
      refine pw_bipush (v := zI (50)) dX10_redraw_244 (by decide) ?_
      refine pw_callV (As := [.int (zI (50))]) (b := B) (rm := rmD 0 0 0) (nG_put htr hA35 (by omega)) rfl hA35.1 rfl rfl ywX10_put rfl cwX10_337 ⟨nle rfl, nle rfl⟩ (nle rfl) ⟨nle rfl, nle rfl⟩ dX10_redraw_246 ?_ (fun _ _ _ z => z.elim)
      intro r_9 h36 n_9 hq9 _
      obtain ⟨e1_, s36, hA36, hO36_, hF360, e4_⟩ := hq9
      rw [e1_, e4_]
      show pw E YX10_redraw _ _ 0 0 249 [some (.ref B), some (.int (zI ((s9.2 17) (s9.1 47).toNat))), q29, q39, q49] [] h36 n
      clear e1_ e4_
      have hF36 := mFr_tr hF35 hF360
      have hO36 := mRd_ou hO35 hO36_
      have hB36 := hO36.2.2.2.2.2.2
      clear hO36_ hF360
      rw [show (mV 57 (0) (mV 0 (0) s)).1 57 = 0 from rfl] at hB36
      refine pw_aload_n dX10_redraw_249 rfl ?_
      refine pw_bipush (v := zI (53)) dX10_redraw_250 (by decide) ?_
      refine pw_callV (As := [.int (zI (53))]) (b := B) (rm := rmD 0 0 0) (nG_put htr hA36 (by omega)) rfl hA36.1 rfl rfl ywX10_put rfl cwX10_337 ⟨nle rfl, nle rfl⟩ (nle rfl) ⟨nle rfl, nle rfl⟩ dX10_redraw_252 ?_ (fun _ _ _ z => z.elim)
      intro r_9 h37 n_9 hq9 _
      obtain ⟨e1_, s37, hA37, hO37_, hF370, e4_⟩ := hq9
      rw [e1_, e4_]
      show pw E YX10_redraw _ _ 0 0 255 [some (.ref B), some (.int (zI ((s9.2 17) (s9.1 47).toNat))), q29, q39, q49] [] h37 n
      clear e1_ e4_
      have hF37 := mFr_tr hF36 hF370
      have hO37 := mRd_ou hO36 hO37_
      have hB37 := hO37.2.2.2.2.2.2
      clear hO37_ hF370
      rw [show (mV 57 (0) (mV 0 (0) s)).1 57 = 0 from rfl] at hB37
      refine pw_aload_n dX10_redraw_255 rfl ?_
      refine pw_aload_n dX10_redraw_256 rfl ?_
      have f55 := hO37.2.2.2.2.1
      refine pw_get (v := .int (zI (s37.1 55))) okX10 (k := 55) (by decide) lkX10_149 hA37.1 rfl dX10_redraw_257 ?_
      refine pw_if_eq (tgt := 268) dX10_redraw_260 rfl (by omega) (fun c260 => ?_) (fun c260 => ?_)
      ·
        refine pw_bipush (v := zI (108)) dX10_redraw_268 (by decide) ?_
        refine pw_callV (As := [.int (zI (108))]) (b := B) (rm := rmD 0 0 0) (nG_put htr hA37 (by omega)) rfl hA37.1 rfl rfl ywX10_put rfl cwX10_337 ⟨nle rfl, nle rfl⟩ (nle rfl) ⟨nle rfl, nle rfl⟩ dX10_redraw_270 ?_ (fun _ _ _ z => z.elim)
        intro r_9 h38 n_9 hq9 _
        obtain ⟨e1_, s38, hA38, hO38_, hF380, e4_⟩ := hq9
        rw [e1_, e4_]
        show pw E YX10_redraw _ _ 0 0 273 [some (.ref B), some (.int (zI ((s9.2 17) (s9.1 47).toNat))), q29, q39, q49] [] h38 n
        clear e1_ e4_
        have hF38 := mFr_tr hF37 hF380
        have hO38 := mRd_ou hO37 hO38_
        have hB38 := hO38.2.2.2.2.2.2
        clear hO38_ hF380
        rw [show (mV 57 (0) (mV 0 (0) s)).1 57 = 0 from rfl] at hB38
        refine pw_aload_n dX10_redraw_273 rfl ?_
        refine pw_get (v := .int (zI (s38.1 57))) okX10 (k := 57) (by decide) lkX10_334 hA38.1 rfl dX10_redraw_274 ?_
        exact pw_iret dX10_redraw_277 rfl (nle rfl) (nle rfl) ⟨⟨_, rfl⟩, s38, hA38, mRd_rH hO38 hH0 (by omega), ⟨hO38.2.1 47 (by decide), hO38.2.1 48 (by decide)⟩, hF38, rfl⟩
      ·
        refine pw_bipush (v := zI (104)) dX10_redraw_263 (by decide) ?_
        refine pw_goto (tgt := 270) dX10_redraw_265 rfl ?_
        refine pw_callV (As := [.int (zI (104))]) (b := B) (rm := rmD 0 0 0) (nG_put htr hA37 (by omega)) rfl hA37.1 rfl rfl ywX10_put rfl cwX10_337 ⟨nle rfl, nle rfl⟩ (nle rfl) ⟨nle rfl, nle rfl⟩ dX10_redraw_270 ?_ (fun _ _ _ z => z.elim)
        intro r_9 h39 n_9 hq9 _
        obtain ⟨e1_, s39, hA39, hO39_, hF390, e4_⟩ := hq9
        rw [e1_, e4_]
        show pw E YX10_redraw _ _ 0 0 273 [some (.ref B), some (.int (zI ((s9.2 17) (s9.1 47).toNat))), q29, q39, q49] [] h39 n
        clear e1_ e4_
        have hF39 := mFr_tr hF37 hF390
        have hO39 := mRd_ou hO37 hO39_
        have hB39 := hO39.2.2.2.2.2.2
        clear hO39_ hF390
        rw [show (mV 57 (0) (mV 0 (0) s)).1 57 = 0 from rfl] at hB39
        refine pw_aload_n dX10_redraw_273 rfl ?_
        refine pw_get (v := .int (zI (s39.1 57))) okX10 (k := 57) (by decide) lkX10_334 hA39.1 rfl dX10_redraw_274 ?_
        exact pw_iret dX10_redraw_277 rfl (nle rfl) (nle rfl) ⟨⟨_, rfl⟩, s39, hA39, mRd_rH hO39 hH0 (by omega), ⟨hO39.2.1 47 (by decide), hO39.2.1 48 (by decide)⟩, hF39, rfl⟩
set_option maxHeartbeats 1000000 in
set_option maxRecDepth 100000 in
theorem lG_sel1 {E : pw_E} (htr : E.1.stackTraces = false) {Kk : pw_K} {h : pz_H} {n B : Nat} {s : mS} (hA : mAt B s h) {p r c tr tc k fr : Int} {q9 : Option Value} (hp : 0 ≤ p ∧ p < 8) (hk : mPk s p.toNat) (hkk : 0 ≤ k ∧ k < s.2 19 p.toNat) (hfr : 0 ≤ fr ∧ fr < 40) : ∀ (j : Nat) (la : Int), (la + 1 - fr).toNat = j → -1 ≤ la → la < s.2 18 p.toNat → (∀ la9 : Int, (-1 ≤ la9 ∧ la9 < s.2 18 p.toNat) → pw E YX10_select (rmD 4 0 0) Kk 0 0 148 [some (.ref B), some (.int (zI p)), some (.int (zI r)), some (.int (zI c)), some (.int (zI tr)), some (.int (zI tc)), some (.int (zI k)), some (.int (zI fr)), some (.int (zI la9)), q9] [] h n) → pw E YX10_select (rmD 4 0 0) Kk 0 0 120 [some (.ref B), some (.int (zI p)), some (.int (zI r)), some (.int (zI c)), some (.int (zI tr)), some (.int (zI tc)), some (.int (zI k)), some (.int (zI fr)), some (.int (zI la)), q9] [] h n := by
  obtain ⟨kw, kh, kr, kc, ksr, ksc, kt, ko, kwa, kin, kwr, khi, krd, knu, kgi, kas, kfr, kra, kco, kof, kip⟩ := id hk
  intro j
  induction j with
  | zero =>
    intro la hj h1 h2 kk
    refine pw_iload dX10_select_120 rfl ?_
    refine pw_iload dX10_select_122 rfl ?_
    refine pw_icmp_lt (tgt := 148) dX10_select_124 rfl (by omega) (by omega) (fun c124 => ?_) (fun c124 => ?_)
    ·
      exact kk la (by omega)
    · exfalso; omega
  | succ j ih =>
    intro la hj h1 h2 kk
    refine pw_iload dX10_select_120 rfl ?_
    refine pw_iload dX10_select_122 rfl ?_
    refine pw_icmp_lt (tgt := 148) dX10_select_124 rfl (by omega) (by omega) (fun c124 => ?_) (fun c124 => ?_)
    · exfalso; omega
    ·
      refine pw_aload_n dX10_select_127 rfl ?_
      refine pw_iload_n dX10_select_128 rfl ?_
      refine pw_iload dX10_select_129 rfl ?_
      refine pw_iload dX10_select_131 rfl ?_
      refine pw_iconst (v := zI (0)) dX10_select_133 (by decide) ?_
      refine pw_callV (As := [.int (zI (p)), .int (zI (k)), .int (zI (la)), .int (zI (0))]) (b := B) (rm := rmD 2 0 0) (nG_shows htr hA hp hk (by omega) (by omega) (by omega)) rfl hA.1 rfl rfl ywX10_shows rfl cwX10_327 ⟨nle rfl, nle rfl⟩ (nle rfl) ⟨nle rfl, nle rfl⟩ dX10_select_134 ?_ (fun _ _ _ z => z.elim)
      intro r_9 h_9 n_9 hq9 _
      obtain ⟨⟨v1_, hv1_, e1_⟩, e2_, e4_⟩ := hq9
      rw [e1_, e2_, e4_]
      show pw E YX10_select _ _ 0 0 137 [some (.ref B), some (.int (zI (p))), some (.int (zI (r))), some (.int (zI (c))), some (.int (zI (tr))), some (.int (zI (tc))), some (.int (zI (k))), some (.int (zI (fr))), some (.int (zI (la))), q9] [.int (zI (v1_))] h n
      clear e1_ e2_ e4_
      refine pw_bipush (v := zI (32)) dX10_select_137 (by decide) ?_
      refine pw_icmp_ne (tgt := 148) dX10_select_139 rfl (by omega) (by omega) (fun c139 => ?_) (fun c139 => ?_)
      ·
        exact kk la (by omega)
      ·
        refine pw_ziinc (lv' := [some (.ref B), some (.int (zI (p))), some (.int (zI (r))), some (.int (zI (c))), some (.int (zI (tr))), some (.int (zI (tc))), some (.int (zI (k))), some (.int (zI (fr))), some (.int (zI (la + (-1)))), q9]) dX10_select_142 rfl (by decide) rfl rfl ?_
        refine pw_goto (tgt := 120) dX10_select_145 rfl ?_
        exact ih (la + -1) (by omega) (by omega) (by omega) kk
set_option maxHeartbeats 1000000 in
set_option maxRecDepth 100000 in
theorem lG_sel3 {E : pw_E} (htr : E.1.stackTraces = false) {Kk : pw_K} {h : pz_H} {n B : Nat} {s : mS} {p r c tr tc k fr la : Int} (hp : 0 ≤ p ∧ p < 8) (hk : mPk s p.toNat) (hkk : 0 ≤ k ∧ k < s.2 19 p.toNat) (hla : -1 ≤ la ∧ la < s.2 18 p.toNat) : ∀ (j : Nat) (i : Int) (s1 : mS) (h1 : pz_H), (la + 1 - i).toNat = j → (0 ≤ i ∧ i ≤ 100) → mAt B s1 h1 → mCp s s1 → mFr B h h1 → (∀ (i : Int) (s2 : mS) (h2 : pz_H), mAt B s2 h2 → mCp s s2 → mFr B h h2 → pw E YX10_select (rmD 4 0 0) Kk 0 0 191 [some (.ref B), some (.int (zI p)), some (.int (zI r)), some (.int (zI c)), some (.int (zI tr)), some (.int (zI tc)), some (.int (zI k)), some (.int (zI fr)), some (.int (zI la)), some (.int (zI i))] [] h2 n) → pw E YX10_select (rmD 4 0 0) Kk 0 0 164 [some (.ref B), some (.int (zI p)), some (.int (zI r)), some (.int (zI c)), some (.int (zI tr)), some (.int (zI tc)), some (.int (zI k)), some (.int (zI fr)), some (.int (zI la)), some (.int (zI i))] [] h1 n := by
  obtain ⟨kw, kh, kr, kc, ksr, ksc, kt, ko, kwa, kin, kwr, khi, krd, knu, kgi, kas, kfr, kra, kco, kof, kip⟩ := id hk
  intro j
  induction j with
  | zero =>
    intro i s1 h1 hj i1 hA hC hF kk
    refine pw_iload dX10_select_164 rfl ?_
    refine pw_iload dX10_select_166 rfl ?_
    refine pw_icmp_gt (tgt := 191) dX10_select_168 rfl (by omega) (by omega) (fun c168 => ?_) (fun c168 => ?_)
    ·
      exact kk i s1 h1 hA hC hF
    · exfalso; omega
  | succ j ih =>
    intro i s1 h1 hj i1 hA hC hF kk
    refine pw_iload dX10_select_164 rfl ?_
    refine pw_iload dX10_select_166 rfl ?_
    refine pw_icmp_gt (tgt := 191) dX10_select_168 rfl (by omega) (by omega) (fun c168 => ?_) (fun c168 => ?_)
    · exfalso; omega
    ·
      refine pw_aload_n dX10_select_171 rfl ?_
      refine pw_aload_n dX10_select_172 rfl ?_
      refine pw_iload_n dX10_select_173 rfl ?_
      refine pw_iload dX10_select_174 rfl ?_
      refine pw_iload dX10_select_176 rfl ?_
      refine pw_iconst (v := zI (0)) dX10_select_178 (by decide) ?_
      have hk1 : mPk s1 p.toNat := mPk_same (fun j _ h2 => hC.1 j (by omega)) hk
      have g19 : s1.2 19 = s.2 19 := hC.1 19 (by decide)
      have g18 : s1.2 18 = s.2 18 := hC.1 18 (by decide)
      refine pw_callV (As := [.int (zI (p)), .int (zI (k)), .int (zI (i)), .int (zI (0))]) (b := B) (rm := rmD 2 0 0) (nG_shows htr hA hp hk1 (by rw [g19]; omega) (by rw [g18]; omega) (by omega)) rfl hA.1 rfl rfl ywX10_shows rfl cwX10_327 ⟨nle rfl, nle rfl⟩ (nle rfl) ⟨nle rfl, nle rfl⟩ dX10_select_179 ?_ (fun _ _ _ z => z.elim)
      intro r_9 h_9 n_9 hq9 _
      obtain ⟨⟨v2_, hv2_, e1_⟩, e2_, e4_⟩ := hq9
      rw [e1_, e2_, e4_]
      show pw E YX10_select _ _ 0 0 182 [some (.ref B), some (.int (zI (p))), some (.int (zI (r))), some (.int (zI (c))), some (.int (zI (tr))), some (.int (zI (tc))), some (.int (zI (k))), some (.int (zI (fr))), some (.int (zI (la))), some (.int (zI (i)))] [.int (zI (v2_)), .ref B] h1 n
      clear e1_ e2_ e4_
      refine pw_callV (As := [.int (zI (v2_))]) (b := B) (rm := rmD 0 0 0) (nR_copyOne htr hA hC.2.2) rfl hA.1 rfl rfl ywX10_copyOne rfl cwX10_331 ⟨nle rfl, nle rfl⟩ (nle rfl) ⟨nle rfl, nle rfl⟩ dX10_select_182 ?_ (fun _ _ _ z => z.elim)
      intro r_9 h3 n_9 hq9 _
      obtain ⟨e1_, hA3, hF30, e4_⟩ := hq9
      rw [e1_, e4_]
      show pw E YX10_select _ _ 0 0 185 [some (.ref B), some (.int (zI (p))), some (.int (zI (r))), some (.int (zI (c))), some (.int (zI (tr))), some (.int (zI (tc))), some (.int (zI (k))), some (.int (zI (fr))), some (.int (zI (la))), some (.int (zI (i)))] [] h3 n
      clear e1_ e4_
      have hF3 := mFr_tr hF hF30
      have hC3 := mCp_1 (b := v2_) hC
      revert hA3 hC3
      generalize mC1 (v2_) s1 = s3
      intro hA3 hC3
      refine pw_ziinc (lv' := [some (.ref B), some (.int (zI (p))), some (.int (zI (r))), some (.int (zI (c))), some (.int (zI (tr))), some (.int (zI (tc))), some (.int (zI (k))), some (.int (zI (fr))), some (.int (zI (la))), some (.int (zI (i + 1)))]) dX10_select_185 rfl (by decide) rfl rfl ?_
      refine pw_goto (tgt := 164) dX10_select_188 rfl ?_
      exact ih (i + 1) s3 h3 (by omega) (by omega) hA3 hC3 hF3 kk
set_option maxHeartbeats 1000000 in
set_option maxRecDepth 100000 in
theorem lG_sel2 {E : pw_E} (htr : E.1.stackTraces = false) {Kk : pw_K} {h : pz_H} {n B : Nat} {s : mS} {p r c tr tc : Int} (hp : 0 ≤ p ∧ p < 8) (hk : mPk s p.toNat) (hr : 0 ≤ r ∧ r ≤ tr) (htr2 : tr < s.2 19 p.toNat) (hc : 0 ≤ c ∧ c < s.2 18 p.toNat) (htc : 0 ≤ tc ∧ tc < s.2 18 p.toNat) : ∀ (j : Nat) (k : Int) (q7 q8 q9 : Option Value) (s1 : mS) (h1 : pz_H), (tr + 1 - k).toNat = j → r ≤ k → k ≤ tr + 1 → mAt B s1 h1 → mCp s s1 → mFr B h h1 → (∀ (k : Int) (q7 q8 q9 : Option Value) (s2 : mS) (h2 : pz_H), mAt B s2 h2 → mCp s s2 → mFr B h h2 → pw E YX10_select (rmD 4 0 0) Kk 0 0 197 [some (.ref B), some (.int (zI p)), some (.int (zI r)), some (.int (zI c)), some (.int (zI tr)), some (.int (zI tc)), some (.int (zI k)), q7, q8, q9] [] h2 n) → pw E YX10_select (rmD 4 0 0) Kk 0 0 78 [some (.ref B), some (.int (zI p)), some (.int (zI r)), some (.int (zI c)), some (.int (zI tr)), some (.int (zI tc)), some (.int (zI k)), q7, q8, q9] [] h1 n := by
  obtain ⟨kw, kh, kr, kc, ksr, ksc, kt, ko, kwa, kin, kwr, khi, krd, knu, kgi, kas, kfr, kra, kco, kof, kip⟩ := id hk
  intro j
  induction j with
  | zero =>
    intro k q7 q8 q9 s1 h1 hj i1 i2 hA hC hF kk
    have g19 : s1.2 19 = s.2 19 := hC.1 19 (by decide)
    have g18 : s1.2 18 = s.2 18 := hC.1 18 (by decide)
    have g18b := congrFun g18 p.toNat
    refine pw_iload dX10_select_78 rfl ?_
    refine pw_iload dX10_select_80 rfl ?_
    refine pw_icmp_gt (tgt := 197) dX10_select_82 rfl (by omega) (by omega) (fun c82 => ?_) (fun c82 => ?_)
    ·
      exact kk k q7 q8 q9 s1 h1 hA hC hF
    · exfalso; omega
  | succ j ih =>
    intro k q7 q8 q9 s1 h1 hj i1 i2 hA hC hF kk
    have g19 : s1.2 19 = s.2 19 := hC.1 19 (by decide)
    have g18 : s1.2 18 = s.2 18 := hC.1 18 (by decide)
    have g18b := congrFun g18 p.toNat
    refine pw_iload dX10_select_78 rfl ?_
    refine pw_iload dX10_select_80 rfl ?_
    refine pw_icmp_gt (tgt := 197) dX10_select_82 rfl (by omega) (by omega) (fun c82 => ?_) (fun c82 => ?_)
    · exfalso; omega
    ·
      refine pw_iload dX10_select_85 rfl ?_
      refine pw_iload_n dX10_select_87 rfl ?_
      refine pw_icmp_ne (tgt := 95) dX10_select_88 rfl (by omega) (by omega) (fun c88 => ?_) (fun c88 => ?_)
      ·
        refine pw_iconst (v := zI (0)) dX10_select_95 (by decide) ?_
        refine pw_istore (lv' := [some (.ref B), some (.int (zI (p))), some (.int (zI (r))), some (.int (zI (c))), some (.int (zI (tr))), some (.int (zI (tc))), some (.int (zI (k))), some (.int (zI (0))), q8, q9]) dX10_select_96 (by decide) rfl rfl ?_
        refine pw_iload dX10_select_98 rfl ?_
        refine pw_iload dX10_select_100 rfl ?_
        refine pw_icmp_ne (tgt := 110) dX10_select_102 rfl (by omega) (by omega) (fun c102 => ?_) (fun c102 => ?_)
        ·
          refine pw_aload_n dX10_select_110 rfl ?_
          refine pw_get (v := .ref (B + 15)) okX10 (k := 18) (by decide) lkX10_53 hA.1 rfl dX10_select_111 ?_
          refine pw_iload_n dX10_select_114 rfl ?_
          refine pw_iald (g := (s1.2 18)) (t := 0) rfl (mF18 (s := s1) hA) (by omega) (by decide) dX10_select_115 ?_
          refine pw_iconst (v := zI (1)) dX10_select_116 (by decide) ?_
          refine pw_zisub dX10_select_117 ?_
          refine pw_istore (lv' := [some (.ref B), some (.int (zI (p))), some (.int (zI (r))), some (.int (zI (c))), some (.int (zI (tr))), some (.int (zI (tc))), some (.int (zI (k))), some (.int (zI (0))), some (.int (zI (((s1.2 18) (p).toNat) - (1)))), q9]) dX10_select_118 (by decide) rfl rfl ?_
          have hk1 : mPk s1 p.toNat := mPk_same (fun j _ h2 => hC.1 j (by omega)) hk
          refine lG_sel1 (k := k) (fr := 0) htr hA hp hk1 (by rw [g19]; omega) (by omega) _ (((s1.2 18) (p).toNat) - (1)) rfl (by omega) (by rw [g18]; omega) (fun la9 hla => ?_)
          rw [g18] at hla
          refine pw_iload dX10_select_148 rfl ?_
          refine pw_iload_n dX10_select_150 rfl ?_
          refine pw_icmp_le (tgt := 160) dX10_select_151 rfl (by omega) (by omega) (fun c151 => ?_) (fun c151 => ?_)
          ·
            refine pw_iload dX10_select_160 rfl ?_
            refine pw_istore (lv' := [some (.ref B), some (.int (zI (p))), some (.int (zI (r))), some (.int (zI (c))), some (.int (zI (tr))), some (.int (zI (tc))), some (.int (zI (k))), some (.int (zI (0))), some (.int (zI (la9))), some (.int (zI (0)))]) dX10_select_162 (by decide) rfl rfl ?_
            refine lG_sel3 (s := s) htr hp hk (by omega) hla _ (0) s1 h1 rfl (by omega) hA hC hF (fun i8 s8 h8 hA8 hC8 hF8 => ?_)
            refine pw_ziinc (lv' := [some (.ref B), some (.int (zI (p))), some (.int (zI (r))), some (.int (zI (c))), some (.int (zI (tr))), some (.int (zI (tc))), some (.int (zI (k + 1))), some (.int (zI (0))), some (.int (zI (la9))), some (.int (zI (i8)))]) dX10_select_191 rfl (by decide) rfl rfl ?_
            refine pw_goto (tgt := 78) dX10_select_194 rfl ?_
            exact ih (k + 1) _ _ _ s8 h8 (by omega) (by omega) (by omega) hA8 hC8 hF8 kk
          ·
            refine pw_aload_n dX10_select_154 rfl ?_
            refine pw_bipush (v := zI (10)) dX10_select_155 (by decide) ?_
            refine pw_callV (As := [.int (zI (10))]) (b := B) (rm := rmD 0 0 0) (nR_copyOne htr hA hC.2.2) rfl hA.1 rfl rfl ywX10_copyOne rfl cwX10_331 ⟨nle rfl, nle rfl⟩ (nle rfl) ⟨nle rfl, nle rfl⟩ dX10_select_157 ?_ (fun _ _ _ z => z.elim)
            intro r_9 h2 n_9 hq9 _
            obtain ⟨e1_, hA2, hF20, e4_⟩ := hq9
            rw [e1_, e4_]
            show pw E YX10_select _ _ 0 0 160 [some (.ref B), some (.int (zI (p))), some (.int (zI (r))), some (.int (zI (c))), some (.int (zI (tr))), some (.int (zI (tc))), some (.int (zI (k))), some (.int (zI (0))), some (.int (zI (la9))), q9] [] h2 n
            clear e1_ e4_
            have hF2 := mFr_tr hF hF20
            have hC2 := mCp_1 (b := 10) hC
            revert hA2 hC2
            generalize mC1 (10) s1 = s2
            intro hA2 hC2
            refine pw_iload dX10_select_160 rfl ?_
            refine pw_istore (lv' := [some (.ref B), some (.int (zI (p))), some (.int (zI (r))), some (.int (zI (c))), some (.int (zI (tr))), some (.int (zI (tc))), some (.int (zI (k))), some (.int (zI (0))), some (.int (zI (la9))), some (.int (zI (0)))]) dX10_select_162 (by decide) rfl rfl ?_
            refine lG_sel3 (s := s) htr hp hk (by omega) hla _ (0) s2 h2 rfl (by omega) hA2 hC2 hF2 (fun i8 s8 h8 hA8 hC8 hF8 => ?_)
            refine pw_ziinc (lv' := [some (.ref B), some (.int (zI (p))), some (.int (zI (r))), some (.int (zI (c))), some (.int (zI (tr))), some (.int (zI (tc))), some (.int (zI (k + 1))), some (.int (zI (0))), some (.int (zI (la9))), some (.int (zI (i8)))]) dX10_select_191 rfl (by decide) rfl rfl ?_
            refine pw_goto (tgt := 78) dX10_select_194 rfl ?_
            exact ih (k + 1) _ _ _ s8 h8 (by omega) (by omega) (by omega) hA8 hC8 hF8 kk
        ·
          refine pw_iload dX10_select_105 rfl ?_
          refine pw_goto (tgt := 118) dX10_select_107 rfl ?_
          refine pw_istore (lv' := [some (.ref B), some (.int (zI (p))), some (.int (zI (r))), some (.int (zI (c))), some (.int (zI (tr))), some (.int (zI (tc))), some (.int (zI (k))), some (.int (zI (0))), some (.int (zI (tc))), q9]) dX10_select_118 (by decide) rfl rfl ?_
          have hk1 : mPk s1 p.toNat := mPk_same (fun j _ h2 => hC.1 j (by omega)) hk
          refine lG_sel1 (k := k) (fr := 0) htr hA hp hk1 (by rw [g19]; omega) (by omega) _ (tc) rfl (by omega) (by rw [g18]; omega) (fun la9 hla => ?_)
          rw [g18] at hla
          refine pw_iload dX10_select_148 rfl ?_
          refine pw_iload_n dX10_select_150 rfl ?_
          refine pw_icmp_le (tgt := 160) dX10_select_151 rfl (by omega) (by omega) (fun c151 => ?_) (fun c151 => ?_)
          ·
            refine pw_iload dX10_select_160 rfl ?_
            refine pw_istore (lv' := [some (.ref B), some (.int (zI (p))), some (.int (zI (r))), some (.int (zI (c))), some (.int (zI (tr))), some (.int (zI (tc))), some (.int (zI (k))), some (.int (zI (0))), some (.int (zI (la9))), some (.int (zI (0)))]) dX10_select_162 (by decide) rfl rfl ?_
            refine lG_sel3 (s := s) htr hp hk (by omega) hla _ (0) s1 h1 rfl (by omega) hA hC hF (fun i8 s8 h8 hA8 hC8 hF8 => ?_)
            refine pw_ziinc (lv' := [some (.ref B), some (.int (zI (p))), some (.int (zI (r))), some (.int (zI (c))), some (.int (zI (tr))), some (.int (zI (tc))), some (.int (zI (k + 1))), some (.int (zI (0))), some (.int (zI (la9))), some (.int (zI (i8)))]) dX10_select_191 rfl (by decide) rfl rfl ?_
            refine pw_goto (tgt := 78) dX10_select_194 rfl ?_
            exact ih (k + 1) _ _ _ s8 h8 (by omega) (by omega) (by omega) hA8 hC8 hF8 kk
          ·
            refine pw_aload_n dX10_select_154 rfl ?_
            refine pw_bipush (v := zI (10)) dX10_select_155 (by decide) ?_
            refine pw_callV (As := [.int (zI (10))]) (b := B) (rm := rmD 0 0 0) (nR_copyOne htr hA hC.2.2) rfl hA.1 rfl rfl ywX10_copyOne rfl cwX10_331 ⟨nle rfl, nle rfl⟩ (nle rfl) ⟨nle rfl, nle rfl⟩ dX10_select_157 ?_ (fun _ _ _ z => z.elim)
            intro r_9 h3 n_9 hq9 _
            obtain ⟨e1_, hA3, hF30, e4_⟩ := hq9
            rw [e1_, e4_]
            show pw E YX10_select _ _ 0 0 160 [some (.ref B), some (.int (zI (p))), some (.int (zI (r))), some (.int (zI (c))), some (.int (zI (tr))), some (.int (zI (tc))), some (.int (zI (k))), some (.int (zI (0))), some (.int (zI (la9))), q9] [] h3 n
            clear e1_ e4_
            have hF3 := mFr_tr hF hF30
            have hC3 := mCp_1 (b := 10) hC
            revert hA3 hC3
            generalize mC1 (10) s1 = s3
            intro hA3 hC3
            refine pw_iload dX10_select_160 rfl ?_
            refine pw_istore (lv' := [some (.ref B), some (.int (zI (p))), some (.int (zI (r))), some (.int (zI (c))), some (.int (zI (tr))), some (.int (zI (tc))), some (.int (zI (k))), some (.int (zI (0))), some (.int (zI (la9))), some (.int (zI (0)))]) dX10_select_162 (by decide) rfl rfl ?_
            refine lG_sel3 (s := s) htr hp hk (by omega) hla _ (0) s3 h3 rfl (by omega) hA3 hC3 hF3 (fun i8 s8 h8 hA8 hC8 hF8 => ?_)
            refine pw_ziinc (lv' := [some (.ref B), some (.int (zI (p))), some (.int (zI (r))), some (.int (zI (c))), some (.int (zI (tr))), some (.int (zI (tc))), some (.int (zI (k + 1))), some (.int (zI (0))), some (.int (zI (la9))), some (.int (zI (i8)))]) dX10_select_191 rfl (by decide) rfl rfl ?_
            refine pw_goto (tgt := 78) dX10_select_194 rfl ?_
            exact ih (k + 1) _ _ _ s8 h8 (by omega) (by omega) (by omega) hA8 hC8 hF8 kk
      ·
        refine pw_iload_n dX10_select_91 rfl ?_
        refine pw_goto (tgt := 96) dX10_select_92 rfl ?_
        refine pw_istore (lv' := [some (.ref B), some (.int (zI (p))), some (.int (zI (r))), some (.int (zI (c))), some (.int (zI (tr))), some (.int (zI (tc))), some (.int (zI (k))), some (.int (zI (c))), q8, q9]) dX10_select_96 (by decide) rfl rfl ?_
        refine pw_iload dX10_select_98 rfl ?_
        refine pw_iload dX10_select_100 rfl ?_
        refine pw_icmp_ne (tgt := 110) dX10_select_102 rfl (by omega) (by omega) (fun c102 => ?_) (fun c102 => ?_)
        ·
          refine pw_aload_n dX10_select_110 rfl ?_
          refine pw_get (v := .ref (B + 15)) okX10 (k := 18) (by decide) lkX10_53 hA.1 rfl dX10_select_111 ?_
          refine pw_iload_n dX10_select_114 rfl ?_
          refine pw_iald (g := (s1.2 18)) (t := 0) rfl (mF18 (s := s1) hA) (by omega) (by decide) dX10_select_115 ?_
          refine pw_iconst (v := zI (1)) dX10_select_116 (by decide) ?_
          refine pw_zisub dX10_select_117 ?_
          refine pw_istore (lv' := [some (.ref B), some (.int (zI (p))), some (.int (zI (r))), some (.int (zI (c))), some (.int (zI (tr))), some (.int (zI (tc))), some (.int (zI (k))), some (.int (zI (c))), some (.int (zI (((s1.2 18) (p).toNat) - (1)))), q9]) dX10_select_118 (by decide) rfl rfl ?_
          have hk1 : mPk s1 p.toNat := mPk_same (fun j _ h2 => hC.1 j (by omega)) hk
          refine lG_sel1 (k := k) (fr := c) htr hA hp hk1 (by rw [g19]; omega) (by omega) _ (((s1.2 18) (p).toNat) - (1)) rfl (by omega) (by rw [g18]; omega) (fun la9 hla => ?_)
          rw [g18] at hla
          refine pw_iload dX10_select_148 rfl ?_
          refine pw_iload_n dX10_select_150 rfl ?_
          refine pw_icmp_le (tgt := 160) dX10_select_151 rfl (by omega) (by omega) (fun c151 => ?_) (fun c151 => ?_)
          ·
            refine pw_iload dX10_select_160 rfl ?_
            refine pw_istore (lv' := [some (.ref B), some (.int (zI (p))), some (.int (zI (r))), some (.int (zI (c))), some (.int (zI (tr))), some (.int (zI (tc))), some (.int (zI (k))), some (.int (zI (c))), some (.int (zI (la9))), some (.int (zI (c)))]) dX10_select_162 (by decide) rfl rfl ?_
            refine lG_sel3 (s := s) htr hp hk (by omega) hla _ (c) s1 h1 rfl (by omega) hA hC hF (fun i8 s8 h8 hA8 hC8 hF8 => ?_)
            refine pw_ziinc (lv' := [some (.ref B), some (.int (zI (p))), some (.int (zI (r))), some (.int (zI (c))), some (.int (zI (tr))), some (.int (zI (tc))), some (.int (zI (k + 1))), some (.int (zI (c))), some (.int (zI (la9))), some (.int (zI (i8)))]) dX10_select_191 rfl (by decide) rfl rfl ?_
            refine pw_goto (tgt := 78) dX10_select_194 rfl ?_
            exact ih (k + 1) _ _ _ s8 h8 (by omega) (by omega) (by omega) hA8 hC8 hF8 kk
          ·
            refine pw_aload_n dX10_select_154 rfl ?_
            refine pw_bipush (v := zI (10)) dX10_select_155 (by decide) ?_
            refine pw_callV (As := [.int (zI (10))]) (b := B) (rm := rmD 0 0 0) (nR_copyOne htr hA hC.2.2) rfl hA.1 rfl rfl ywX10_copyOne rfl cwX10_331 ⟨nle rfl, nle rfl⟩ (nle rfl) ⟨nle rfl, nle rfl⟩ dX10_select_157 ?_ (fun _ _ _ z => z.elim)
            intro r_9 h4 n_9 hq9 _
            obtain ⟨e1_, hA4, hF40, e4_⟩ := hq9
            rw [e1_, e4_]
            show pw E YX10_select _ _ 0 0 160 [some (.ref B), some (.int (zI (p))), some (.int (zI (r))), some (.int (zI (c))), some (.int (zI (tr))), some (.int (zI (tc))), some (.int (zI (k))), some (.int (zI (c))), some (.int (zI (la9))), q9] [] h4 n
            clear e1_ e4_
            have hF4 := mFr_tr hF hF40
            have hC4 := mCp_1 (b := 10) hC
            revert hA4 hC4
            generalize mC1 (10) s1 = s4
            intro hA4 hC4
            refine pw_iload dX10_select_160 rfl ?_
            refine pw_istore (lv' := [some (.ref B), some (.int (zI (p))), some (.int (zI (r))), some (.int (zI (c))), some (.int (zI (tr))), some (.int (zI (tc))), some (.int (zI (k))), some (.int (zI (c))), some (.int (zI (la9))), some (.int (zI (c)))]) dX10_select_162 (by decide) rfl rfl ?_
            refine lG_sel3 (s := s) htr hp hk (by omega) hla _ (c) s4 h4 rfl (by omega) hA4 hC4 hF4 (fun i8 s8 h8 hA8 hC8 hF8 => ?_)
            refine pw_ziinc (lv' := [some (.ref B), some (.int (zI (p))), some (.int (zI (r))), some (.int (zI (c))), some (.int (zI (tr))), some (.int (zI (tc))), some (.int (zI (k + 1))), some (.int (zI (c))), some (.int (zI (la9))), some (.int (zI (i8)))]) dX10_select_191 rfl (by decide) rfl rfl ?_
            refine pw_goto (tgt := 78) dX10_select_194 rfl ?_
            exact ih (k + 1) _ _ _ s8 h8 (by omega) (by omega) (by omega) hA8 hC8 hF8 kk
        ·
          refine pw_iload dX10_select_105 rfl ?_
          refine pw_goto (tgt := 118) dX10_select_107 rfl ?_
          refine pw_istore (lv' := [some (.ref B), some (.int (zI (p))), some (.int (zI (r))), some (.int (zI (c))), some (.int (zI (tr))), some (.int (zI (tc))), some (.int (zI (k))), some (.int (zI (c))), some (.int (zI (tc))), q9]) dX10_select_118 (by decide) rfl rfl ?_
          have hk1 : mPk s1 p.toNat := mPk_same (fun j _ h2 => hC.1 j (by omega)) hk
          refine lG_sel1 (k := k) (fr := c) htr hA hp hk1 (by rw [g19]; omega) (by omega) _ (tc) rfl (by omega) (by rw [g18]; omega) (fun la9 hla => ?_)
          rw [g18] at hla
          refine pw_iload dX10_select_148 rfl ?_
          refine pw_iload_n dX10_select_150 rfl ?_
          refine pw_icmp_le (tgt := 160) dX10_select_151 rfl (by omega) (by omega) (fun c151 => ?_) (fun c151 => ?_)
          ·
            refine pw_iload dX10_select_160 rfl ?_
            refine pw_istore (lv' := [some (.ref B), some (.int (zI (p))), some (.int (zI (r))), some (.int (zI (c))), some (.int (zI (tr))), some (.int (zI (tc))), some (.int (zI (k))), some (.int (zI (c))), some (.int (zI (la9))), some (.int (zI (c)))]) dX10_select_162 (by decide) rfl rfl ?_
            refine lG_sel3 (s := s) htr hp hk (by omega) hla _ (c) s1 h1 rfl (by omega) hA hC hF (fun i8 s8 h8 hA8 hC8 hF8 => ?_)
            refine pw_ziinc (lv' := [some (.ref B), some (.int (zI (p))), some (.int (zI (r))), some (.int (zI (c))), some (.int (zI (tr))), some (.int (zI (tc))), some (.int (zI (k + 1))), some (.int (zI (c))), some (.int (zI (la9))), some (.int (zI (i8)))]) dX10_select_191 rfl (by decide) rfl rfl ?_
            refine pw_goto (tgt := 78) dX10_select_194 rfl ?_
            exact ih (k + 1) _ _ _ s8 h8 (by omega) (by omega) (by omega) hA8 hC8 hF8 kk
          ·
            refine pw_aload_n dX10_select_154 rfl ?_
            refine pw_bipush (v := zI (10)) dX10_select_155 (by decide) ?_
            refine pw_callV (As := [.int (zI (10))]) (b := B) (rm := rmD 0 0 0) (nR_copyOne htr hA hC.2.2) rfl hA.1 rfl rfl ywX10_copyOne rfl cwX10_331 ⟨nle rfl, nle rfl⟩ (nle rfl) ⟨nle rfl, nle rfl⟩ dX10_select_157 ?_ (fun _ _ _ z => z.elim)
            intro r_9 h5 n_9 hq9 _
            obtain ⟨e1_, hA5, hF50, e4_⟩ := hq9
            rw [e1_, e4_]
            show pw E YX10_select _ _ 0 0 160 [some (.ref B), some (.int (zI (p))), some (.int (zI (r))), some (.int (zI (c))), some (.int (zI (tr))), some (.int (zI (tc))), some (.int (zI (k))), some (.int (zI (c))), some (.int (zI (la9))), q9] [] h5 n
            clear e1_ e4_
            have hF5 := mFr_tr hF hF50
            have hC5 := mCp_1 (b := 10) hC
            revert hA5 hC5
            generalize mC1 (10) s1 = s5
            intro hA5 hC5
            refine pw_iload dX10_select_160 rfl ?_
            refine pw_istore (lv' := [some (.ref B), some (.int (zI (p))), some (.int (zI (r))), some (.int (zI (c))), some (.int (zI (tr))), some (.int (zI (tc))), some (.int (zI (k))), some (.int (zI (c))), some (.int (zI (la9))), some (.int (zI (c)))]) dX10_select_162 (by decide) rfl rfl ?_
            refine lG_sel3 (s := s) htr hp hk (by omega) hla _ (c) s5 h5 rfl (by omega) hA5 hC5 hF5 (fun i8 s8 h8 hA8 hC8 hF8 => ?_)
            refine pw_ziinc (lv' := [some (.ref B), some (.int (zI (p))), some (.int (zI (r))), some (.int (zI (c))), some (.int (zI (tr))), some (.int (zI (tc))), some (.int (zI (k + 1))), some (.int (zI (c))), some (.int (zI (la9))), some (.int (zI (i8)))]) dX10_select_191 rfl (by decide) rfl rfl ?_
            refine pw_goto (tgt := 78) dX10_select_194 rfl ?_
            exact ih (k + 1) _ _ _ s8 h8 (by omega) (by omega) (by omega) hA8 hC8 hF8 kk
set_option maxHeartbeats 1000000 in
set_option maxRecDepth 100000 in
/-- select(p, r, c, tr, tc) -/
theorem nG_select {E : pw_E} (htr : E.1.stackTraces = false) {h : pz_H} {n : Nat} {B : Nat} {s : mS} (hA : mAt B s h) {p r c tr tc : Int}  {W H M : Int} {t : aT} (hW : 8 ≤ W ∧ W ≤ 40) (hHH : 4 ≤ H ∧ H ≤ 16) (hM : M ≤ 800000000) (hH : rH W H M t s) (h_p : -2147483648 ≤ p ∧ p < 2147483648) (h_r : -2147483648 ≤ r ∧ r < 2147483648) (h_c : -2147483648 ≤ c ∧ c < 2147483648) (h_tr : -2147483648 ≤ tr ∧ tr < 2147483648) (h_tc : -2147483648 ≤ tc ∧ tc < 2147483648) : pw_M E yX10_select YX10_select (rmD 4 0 0) [.ref B, .int (zI (p)), .int (zI (r)), .int (zI (c)), .int (zI (tr)), .int (zI (tc))] h n (fun r0 h' n' => (∃ v, r0 = some (.int (zI v))) ∧ rN W H M t B s h h' n n') (fun _ _ _ => False) := by
  obtain ⟨hG, hI, ⟨⟨v1, v2⟩, ⟨v47, m47⟩, v48, v49, v53, v54, v55, v56, v57⟩, hM0, h45⟩ := id hH
  have hu := rI_us hI
  have hnb : 0 ≤ mNo s p ∧ mNo s p ≤ 1 := mNo_b
  have ib1 := @mIn_b s p r c
  have ib2 := @mIn_b s p tr tc
  refine pw_M_of (lv := [some (.ref B), some (.int (zI (p))), some (.int (zI (r))), some (.int (zI (c))), some (.int (zI (tr))), some (.int (zI (tc))), none, none, none, none]) (by decide) rfl rfl htr (nle rfl) rfl (fun L => ?_)
  refine pw_aload_n dX10_select_0 rfl ?_
  refine pw_aload_n dX10_select_1 rfl ?_
  refine pw_iload_n dX10_select_2 rfl ?_
  refine pw_callV (As := [.int (zI (p))]) (b := B) (rm := rmD 0 0 0) (nR_noPane htr hA hu (by omega)) rfl hA.1 rfl rfl ywX10_noPane rfl cwX10_213 ⟨nle rfl, nle rfl⟩ (nle rfl) ⟨nle rfl, nle rfl⟩ dX10_select_3 ?_ (fun _ _ _ z => z.elim)
  intro r_9 h_9 n_9 hq _
  rw [hq.1, hq.2.1, hq.2.2]
  show pw E YX10_select _ _ 0 0 6 [some (.ref B), some (.int (zI (p))), some (.int (zI (r))), some (.int (zI (c))), some (.int (zI (tr))), some (.int (zI (tc))), none, none, none, none] [.int (zI (mNo s (p))), .ref B] h n
  refine pw_if_ne (tgt := 31) dX10_select_6 rfl (by omega) (fun c6 => ?_) (fun c6 => ?_)
  ·
    refine pw_iconst (v := zI (1)) dX10_select_31 (by decide) ?_
    refine pw_goto (tgt := 58) dX10_select_32 rfl ?_
    refine pw_put (fs' := (moL B (va_up s.1 0 (1)))) okX10 (k := 0) (by decide) lkX10_173 rfl rfl rfl hA.1 (nlt rfl) rfl dX10_select_58 ?_
    have hA1 : mAt B (mV 0 (1) s) (va_up h B (pz_o 13 (moL B (va_up s.1 0 (1))))) := mAt_V hA
    have hF1 : mFr B h (va_up h B (pz_o 13 (moL B (va_up s.1 0 (1))))) := mFr_tr mFr_rf (mFr_up (k := 0) (by decide))
    revert hA1 hF1
    generalize (va_up h B (pz_o 13 (moL B (va_up s.1 0 (1))))) = h1
    intro hA1 hF1
    refine pw_aload_n dX10_select_61 rfl ?_
    refine pw_get (v := .int (zI (1))) okX10 (k := 0) (by decide) lkX10_173 hA1.1 rfl dX10_select_62 ?_
    refine pw_if_le (tgt := 70) dX10_select_65 rfl (by omega) (fun c65 => ?_) (fun c65 => ?_)
    · exfalso; omega
    ·
      refine pw_iconst (v := zI (0)) dX10_select_68 (by decide) ?_
      exact pw_iret dX10_select_69 rfl (nle rfl) (nle rfl) ⟨⟨_, rfl⟩, (mV 0 (1) s), hA1, rH_0 hH, ⟨rfl, rfl⟩, hF1, rfl⟩
  ·
    have hp1 := (rI_no hI).mp (show mNo s p = 0 by omega)
    have hp0 := hp1.1
    have hpm := hp1.2
    obtain ⟨p8, hpk, m, e17, nd, ew, eh⟩ := rI_leaf hG hI hpm
    obtain ⟨kw, kh, kr, kc, ksr, ksc, kt, ko, kwa, kin, kwr, khi, krd, knu, kgi, kas, kfr, kra, kco, kof, kip⟩ := id hpk
    obtain ⟨nd0, nd1, nd2⟩ := id nd
    have h17 : 0 ≤ s.2 17 p.toNat ∧ s.2 17 p.toNat < 16 := by rw [e17]; omega
    refine pw_aload_n dX10_select_9 rfl ?_
    refine pw_iload_n dX10_select_10 rfl ?_
    refine pw_iload_n dX10_select_11 rfl ?_
    refine pw_iload_n dX10_select_12 rfl ?_
    refine pw_callV (As := [.int (zI (p)), .int (zI (r)), .int (zI (c))]) (b := B) (rm := rmD 0 0 0) (nR_isIn htr hA hp0 kw kh (by omega) (by omega)) rfl hA.1 rfl rfl ywX10_isIn rfl cwX10_323 ⟨nle rfl, nle rfl⟩ (nle rfl) ⟨nle rfl, nle rfl⟩ dX10_select_13 ?_ (fun _ _ _ z => z.elim)
    intro r_9 h_9 n_9 hq _
    rw [hq.1, hq.2.1, hq.2.2]
    show pw E YX10_select _ _ 0 0 16 [some (.ref B), some (.int (zI (p))), some (.int (zI (r))), some (.int (zI (c))), some (.int (zI (tr))), some (.int (zI (tc))), none, none, none, none] [.int (zI (mIn s p (r) (c))), .ref B] h n
    refine pw_if_eq (tgt := 31) dX10_select_16 rfl (by omega) (fun c16 => ?_) (fun c16 => ?_)
    ·
      refine pw_iconst (v := zI (1)) dX10_select_31 (by decide) ?_
      refine pw_goto (tgt := 58) dX10_select_32 rfl ?_
      refine pw_put (fs' := (moL B (va_up s.1 0 (1)))) okX10 (k := 0) (by decide) lkX10_173 rfl rfl rfl hA.1 (nlt rfl) rfl dX10_select_58 ?_
      have hA2 : mAt B (mV 0 (1) s) (va_up h B (pz_o 13 (moL B (va_up s.1 0 (1))))) := mAt_V hA
      have hF2 : mFr B h (va_up h B (pz_o 13 (moL B (va_up s.1 0 (1))))) := mFr_tr mFr_rf (mFr_up (k := 0) (by decide))
      revert hA2 hF2
      generalize (va_up h B (pz_o 13 (moL B (va_up s.1 0 (1))))) = h2
      intro hA2 hF2
      refine pw_aload_n dX10_select_61 rfl ?_
      refine pw_get (v := .int (zI (1))) okX10 (k := 0) (by decide) lkX10_173 hA2.1 rfl dX10_select_62 ?_
      refine pw_if_le (tgt := 70) dX10_select_65 rfl (by omega) (fun c65 => ?_) (fun c65 => ?_)
      · exfalso; omega
      ·
        refine pw_iconst (v := zI (0)) dX10_select_68 (by decide) ?_
        exact pw_iret dX10_select_69 rfl (nle rfl) (nle rfl) ⟨⟨_, rfl⟩, (mV 0 (1) s), hA2, rH_0 hH, ⟨rfl, rfl⟩, hF2, rfl⟩
    ·
      refine pw_aload_n dX10_select_19 rfl ?_
      refine pw_iload_n dX10_select_20 rfl ?_
      refine pw_iload dX10_select_21 rfl ?_
      refine pw_iload dX10_select_23 rfl ?_
      refine pw_callV (As := [.int (zI (p)), .int (zI (tr)), .int (zI (tc))]) (b := B) (rm := rmD 0 0 0) (nR_isIn htr hA hp0 kw kh (by omega) (by omega)) rfl hA.1 rfl rfl ywX10_isIn rfl cwX10_323 ⟨nle rfl, nle rfl⟩ (nle rfl) ⟨nle rfl, nle rfl⟩ dX10_select_25 ?_ (fun _ _ _ z => z.elim)
      intro r_9 h_9 n_9 hq _
      rw [hq.1, hq.2.1, hq.2.2]
      show pw E YX10_select _ _ 0 0 28 [some (.ref B), some (.int (zI (p))), some (.int (zI (r))), some (.int (zI (c))), some (.int (zI (tr))), some (.int (zI (tc))), none, none, none, none] [.int (zI (mIn s p (tr) (tc))), .ref B] h n
      refine pw_if_ne (tgt := 35) dX10_select_28 rfl (by omega) (fun c28 => ?_) (fun c28 => ?_)
      ·
        have q1 := mIn_1 (show mIn s p r c = 1 by omega)
        have q2 := mIn_1 (show mIn s p tr tc = 1 by omega)
        refine pw_iload dX10_select_35 rfl ?_
        refine pw_iload_n dX10_select_37 rfl ?_
        refine pw_icmp_lt (tgt := 53) dX10_select_38 rfl (by omega) (by omega) (fun c38 => ?_) (fun c38 => ?_)
        ·
          refine pw_iconst (v := zI (2)) dX10_select_53 (by decide) ?_
          refine pw_goto (tgt := 58) dX10_select_54 rfl ?_
          refine pw_put (fs' := (moL B (va_up s.1 0 (2)))) okX10 (k := 0) (by decide) lkX10_173 rfl rfl rfl hA.1 (nlt rfl) rfl dX10_select_58 ?_
          have hA3 : mAt B (mV 0 (2) s) (va_up h B (pz_o 13 (moL B (va_up s.1 0 (2))))) := mAt_V hA
          have hF3 : mFr B h (va_up h B (pz_o 13 (moL B (va_up s.1 0 (2))))) := mFr_tr mFr_rf (mFr_up (k := 0) (by decide))
          revert hA3 hF3
          generalize (va_up h B (pz_o 13 (moL B (va_up s.1 0 (2))))) = h3
          intro hA3 hF3
          refine pw_aload_n dX10_select_61 rfl ?_
          refine pw_get (v := .int (zI (2))) okX10 (k := 0) (by decide) lkX10_173 hA3.1 rfl dX10_select_62 ?_
          refine pw_if_le (tgt := 70) dX10_select_65 rfl (by omega) (fun c65 => ?_) (fun c65 => ?_)
          · exfalso; omega
          ·
            refine pw_iconst (v := zI (0)) dX10_select_68 (by decide) ?_
            exact pw_iret dX10_select_69 rfl (nle rfl) (nle rfl) ⟨⟨_, rfl⟩, (mV 0 (2) s), hA3, rH_0 hH, ⟨rfl, rfl⟩, hF3, rfl⟩
        ·
          refine pw_iload dX10_select_41 rfl ?_
          refine pw_iload_n dX10_select_43 rfl ?_
          refine pw_icmp_ne (tgt := 57) dX10_select_44 rfl (by omega) (by omega) (fun c44 => ?_) (fun c44 => ?_)
          ·
            refine pw_iconst (v := zI (0)) dX10_select_57 (by decide) ?_
            refine pw_put (fs' := (moL B (va_up s.1 0 (0)))) okX10 (k := 0) (by decide) lkX10_173 rfl rfl rfl hA.1 (nlt rfl) rfl dX10_select_58 ?_
            have hA4 : mAt B (mV 0 (0) s) (va_up h B (pz_o 13 (moL B (va_up s.1 0 (0))))) := mAt_V hA
            have hF4 : mFr B h (va_up h B (pz_o 13 (moL B (va_up s.1 0 (0))))) := mFr_tr mFr_rf (mFr_up (k := 0) (by decide))
            revert hA4 hF4
            generalize (va_up h B (pz_o 13 (moL B (va_up s.1 0 (0))))) = h4
            intro hA4 hF4
            refine pw_aload_n dX10_select_61 rfl ?_
            refine pw_get (v := .int (zI (0))) okX10 (k := 0) (by decide) lkX10_173 hA4.1 rfl dX10_select_62 ?_
            refine pw_if_le (tgt := 70) dX10_select_65 rfl (by omega) (fun c65 => ?_) (fun c65 => ?_)
            ·
              refine pw_aload_n dX10_select_70 rfl ?_
              refine pw_iconst (v := zI (0)) dX10_select_71 (by decide) ?_
              refine pw_put (fs' := (moL B (va_up (mV 0 (0) s).1 49 (0)))) okX10 (k := 49) (by decide) lkX10_308 rfl rfl rfl hA4.1 (nlt rfl) rfl dX10_select_72 ?_
              have hA5 : mAt B (mV 49 (0) (mV 0 (0) s)) (va_up h4 B (pz_o 13 (moL B (va_up (mV 0 (0) s).1 49 (0))))) := mAt_V hA4
              have hF5 : mFr B h (va_up h4 B (pz_o 13 (moL B (va_up (mV 0 (0) s).1 49 (0))))) := mFr_tr hF4 (mFr_up (k := 0) (by decide))
              revert hA5 hF5
              generalize (va_up h4 B (pz_o 13 (moL B (va_up (mV 0 (0) s).1 49 (0))))) = h5
              intro hA5 hF5
              refine pw_iload_n dX10_select_75 rfl ?_
              refine pw_istore (lv' := [some (.ref B), some (.int (zI (p))), some (.int (zI (r))), some (.int (zI (c))), some (.int (zI (tr))), some (.int (zI (tc))), some (.int (zI (r))), none, none, none]) dX10_select_76 (by decide) rfl rfl ?_
              refine lG_sel2 (s := (mV 49 (0) (mV 0 (0) s))) htr hp0 hpk (by omega) (show tr < s.2 19 p.toNat by omega) (show 0 ≤ c ∧ c < s.2 18 p.toNat by omega) (show 0 ≤ tc ∧ tc < s.2 18 p.toNat by omega) _ r _ _ _ (mV 49 (0) (mV 0 (0) s)) h5 rfl (by omega) (by omega) hA5 ⟨fun _ _ => rfl, fun _ _ => rfl, (show (0 : Int) ≤ 0 ∧ (0 : Int) ≤ 400 by omega)⟩ hF5 (fun k9 q79 q89 q99 s9 h9 z1 z2 z3 => ?_)
              have hH9 : rH W H M t s9 := mCp_rH z2 (rH_same (s' := (mV 49 (0) (mV 0 (0) s))) hH (fun _ _ => rfl) ⟨⟨v1, v2⟩, ⟨v47, m47⟩, v48, (show (0 : Int) ≤ 0 ∧ (0 : Int) ≤ 400 by omega), v53, v54, v55, v56, v57⟩)
              refine pw_aload_n dX10_select_197 rfl ?_
              refine pw_get (v := .int (zI (s9.1 49))) okX10 (k := 49) (by decide) lkX10_308 z1.1 rfl dX10_select_198 ?_
              exact pw_iret dX10_select_201 rfl (nle rfl) (nle rfl) ⟨⟨_, rfl⟩, s9, z1, hH9, ⟨z2.2.1 47 (by decide), z2.2.1 48 (by decide)⟩, z3, rfl⟩
            · exfalso; omega
          ·
            refine pw_iload dX10_select_47 rfl ?_
            refine pw_iload_n dX10_select_49 rfl ?_
            refine pw_icmp_ge (tgt := 57) dX10_select_50 rfl (by omega) (by omega) (fun c50 => ?_) (fun c50 => ?_)
            ·
              refine pw_iconst (v := zI (0)) dX10_select_57 (by decide) ?_
              refine pw_put (fs' := (moL B (va_up s.1 0 (0)))) okX10 (k := 0) (by decide) lkX10_173 rfl rfl rfl hA.1 (nlt rfl) rfl dX10_select_58 ?_
              have hA6 : mAt B (mV 0 (0) s) (va_up h B (pz_o 13 (moL B (va_up s.1 0 (0))))) := mAt_V hA
              have hF6 : mFr B h (va_up h B (pz_o 13 (moL B (va_up s.1 0 (0))))) := mFr_tr mFr_rf (mFr_up (k := 0) (by decide))
              revert hA6 hF6
              generalize (va_up h B (pz_o 13 (moL B (va_up s.1 0 (0))))) = h6
              intro hA6 hF6
              refine pw_aload_n dX10_select_61 rfl ?_
              refine pw_get (v := .int (zI (0))) okX10 (k := 0) (by decide) lkX10_173 hA6.1 rfl dX10_select_62 ?_
              refine pw_if_le (tgt := 70) dX10_select_65 rfl (by omega) (fun c65 => ?_) (fun c65 => ?_)
              ·
                refine pw_aload_n dX10_select_70 rfl ?_
                refine pw_iconst (v := zI (0)) dX10_select_71 (by decide) ?_
                refine pw_put (fs' := (moL B (va_up (mV 0 (0) s).1 49 (0)))) okX10 (k := 49) (by decide) lkX10_308 rfl rfl rfl hA6.1 (nlt rfl) rfl dX10_select_72 ?_
                have hA7 : mAt B (mV 49 (0) (mV 0 (0) s)) (va_up h6 B (pz_o 13 (moL B (va_up (mV 0 (0) s).1 49 (0))))) := mAt_V hA6
                have hF7 : mFr B h (va_up h6 B (pz_o 13 (moL B (va_up (mV 0 (0) s).1 49 (0))))) := mFr_tr hF6 (mFr_up (k := 0) (by decide))
                revert hA7 hF7
                generalize (va_up h6 B (pz_o 13 (moL B (va_up (mV 0 (0) s).1 49 (0))))) = h7
                intro hA7 hF7
                refine pw_iload_n dX10_select_75 rfl ?_
                refine pw_istore (lv' := [some (.ref B), some (.int (zI (p))), some (.int (zI (r))), some (.int (zI (c))), some (.int (zI (tr))), some (.int (zI (tc))), some (.int (zI (r))), none, none, none]) dX10_select_76 (by decide) rfl rfl ?_
                refine lG_sel2 (s := (mV 49 (0) (mV 0 (0) s))) htr hp0 hpk (by omega) (show tr < s.2 19 p.toNat by omega) (show 0 ≤ c ∧ c < s.2 18 p.toNat by omega) (show 0 ≤ tc ∧ tc < s.2 18 p.toNat by omega) _ r _ _ _ (mV 49 (0) (mV 0 (0) s)) h7 rfl (by omega) (by omega) hA7 ⟨fun _ _ => rfl, fun _ _ => rfl, (show (0 : Int) ≤ 0 ∧ (0 : Int) ≤ 400 by omega)⟩ hF7 (fun k9 q79 q89 q99 s9 h9 z1 z2 z3 => ?_)
                have hH9 : rH W H M t s9 := mCp_rH z2 (rH_same (s' := (mV 49 (0) (mV 0 (0) s))) hH (fun _ _ => rfl) ⟨⟨v1, v2⟩, ⟨v47, m47⟩, v48, (show (0 : Int) ≤ 0 ∧ (0 : Int) ≤ 400 by omega), v53, v54, v55, v56, v57⟩)
                refine pw_aload_n dX10_select_197 rfl ?_
                refine pw_get (v := .int (zI (s9.1 49))) okX10 (k := 49) (by decide) lkX10_308 z1.1 rfl dX10_select_198 ?_
                exact pw_iret dX10_select_201 rfl (nle rfl) (nle rfl) ⟨⟨_, rfl⟩, s9, z1, hH9, ⟨z2.2.1 47 (by decide), z2.2.1 48 (by decide)⟩, z3, rfl⟩
              · exfalso; omega
            ·
              refine pw_iconst (v := zI (2)) dX10_select_53 (by decide) ?_
              refine pw_goto (tgt := 58) dX10_select_54 rfl ?_
              refine pw_put (fs' := (moL B (va_up s.1 0 (2)))) okX10 (k := 0) (by decide) lkX10_173 rfl rfl rfl hA.1 (nlt rfl) rfl dX10_select_58 ?_
              have hA8 : mAt B (mV 0 (2) s) (va_up h B (pz_o 13 (moL B (va_up s.1 0 (2))))) := mAt_V hA
              have hF8 : mFr B h (va_up h B (pz_o 13 (moL B (va_up s.1 0 (2))))) := mFr_tr mFr_rf (mFr_up (k := 0) (by decide))
              revert hA8 hF8
              generalize (va_up h B (pz_o 13 (moL B (va_up s.1 0 (2))))) = h8
              intro hA8 hF8
              refine pw_aload_n dX10_select_61 rfl ?_
              refine pw_get (v := .int (zI (2))) okX10 (k := 0) (by decide) lkX10_173 hA8.1 rfl dX10_select_62 ?_
              refine pw_if_le (tgt := 70) dX10_select_65 rfl (by omega) (fun c65 => ?_) (fun c65 => ?_)
              · exfalso; omega
              ·
                refine pw_iconst (v := zI (0)) dX10_select_68 (by decide) ?_
                exact pw_iret dX10_select_69 rfl (nle rfl) (nle rfl) ⟨⟨_, rfl⟩, (mV 0 (2) s), hA8, rH_0 hH, ⟨rfl, rfl⟩, hF8, rfl⟩
      ·
        refine pw_iconst (v := zI (1)) dX10_select_31 (by decide) ?_
        refine pw_goto (tgt := 58) dX10_select_32 rfl ?_
        refine pw_put (fs' := (moL B (va_up s.1 0 (1)))) okX10 (k := 0) (by decide) lkX10_173 rfl rfl rfl hA.1 (nlt rfl) rfl dX10_select_58 ?_
        have hA9 : mAt B (mV 0 (1) s) (va_up h B (pz_o 13 (moL B (va_up s.1 0 (1))))) := mAt_V hA
        have hF9 : mFr B h (va_up h B (pz_o 13 (moL B (va_up s.1 0 (1))))) := mFr_tr mFr_rf (mFr_up (k := 0) (by decide))
        revert hA9 hF9
        generalize (va_up h B (pz_o 13 (moL B (va_up s.1 0 (1))))) = h9
        intro hA9 hF9
        refine pw_aload_n dX10_select_61 rfl ?_
        refine pw_get (v := .int (zI (1))) okX10 (k := 0) (by decide) lkX10_173 hA9.1 rfl dX10_select_62 ?_
        refine pw_if_le (tgt := 70) dX10_select_65 rfl (by omega) (fun c65 => ?_) (fun c65 => ?_)
        · exfalso; omega
        ·
          refine pw_iconst (v := zI (0)) dX10_select_68 (by decide) ?_
          exact pw_iret dX10_select_69 rfl (nle rfl) (nle rfl) ⟨⟨_, rfl⟩, (mV 0 (1) s), hA9, rH_0 hH, ⟨rfl, rfl⟩, hF9, rfl⟩
