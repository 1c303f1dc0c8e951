def YX10_resize : pw_Y := (RX10, "resize", cX10_resize, 7, none)
theorem ywX10_resize : pw_y yX10_resize YX10_resize 3 := ⟨by decide +kernel, by decide +kernel, by decide +kernel, pw_in 1546 (by decide +kernel) (by decide +kernel), pw_in 106 (by decide +kernel) (by decide +kernel)⟩
def YX10_freeNode : pw_Y := (RX10, "freeNode", cX10_freeNode, 2, (some .int))
theorem ywX10_freeNode : pw_y yX10_freeNode YX10_freeNode 0 := ⟨by decide +kernel, by decide +kernel, by decide +kernel, pw_in 1538 (by decide +kernel) (by decide +kernel), pw_in 106 (by decide +kernel) (by decide +kernel)⟩
/-! ===== the reference: begin, resize, lay, split ===== -/
/-- the same state, but for the panes' arrays -/
def mG (s : mS) (g : Nat → Nat → Int) : mS := (s.1, fun k => if k < 18 ∨ 45 < k then s.2 k else g k)
theorem mG_of {s s1 : mS} (h1 : s1.1 = s.1) (h2 : ∀ k, (k < 18 ∨ 45 < k) → s1.2 k = s.2 k) : mG s s1.2 = s1 := by
  refine Prod.ext h1.symm (funext fun k => ?_)
  show (if k < 18 ∨ 45 < k then s.2 k else s1.2 k) = s1.2 k
  split
  · next c => exact (h2 k c).symm
  · rfl
def mRo (p : Nat) (s s1 : mS) : Prop := ∀ i, i ≠ p → s1.2 18 i = s.2 18 i ∧ s1.2 19 i = s.2 19 i ∧ s1.2 23 i = s.2 23 i ∧ s1.2 24 i = s.2 24 i ∧ s1.2 26 i = s.2 26 i ∧ s1.2 27 i = s.2 27 i
/-- only cells have been blanked -/
def mEq (s s1 : mS) : Prop := s1.1 = s.1 ∧ ∀ k, k ≠ 20 → k ≠ 21 → s1.2 k = s.2 k
def mPu (s : mS) (p : Nat) : Prop := (0 ≤ s.2 22 p ∧ s.2 22 p ≤ 1) ∧ (0 ≤ s.2 31 p ∧ s.2 31 p ≤ 1) ∧ (0 ≤ s.2 32 p ∧ s.2 32 p ≤ 1) ∧ (0 ≤ s.2 33 p ∧ s.2 33 p ≤ 1) ∧ (0 ≤ s.2 34 p ∧ s.2 34 p ≤ 1) ∧ (0 ≤ s.2 35 p ∧ s.2 35 p ≤ 2) ∧ (∀ j, j < 4 → 0 ≤ s.2 36 (4 * p + j) ∧ s.2 36 (4 * p + j) ≤ 999) ∧ (0 ≤ s.2 37 p ∧ s.2 37 p ≤ 5) ∧ (0 ≤ s.2 38 p ∧ s.2 38 p ≤ 1) ∧ (0 ≤ s.2 39 p ∧ s.2 39 p ≤ 1) ∧ (0 ≤ s.2 42 p ∧ s.2 42 p ≤ 30)
set_option maxHeartbeats 1000000 in
set_option maxRecDepth 100000 in
theorem lN_rz1 {E : pw_E} (htr : E.1.stackTraces = false) {Kk : pw_K} {h : pz_H} {n B : Nat} {s : mS} {p ww hh wh r : Int} (hp : 0 ≤ p ∧ p < 8) (hww : 1 ≤ ww ∧ ww ≤ 40) (hhh : 1 ≤ hh ∧ hh ≤ 16) (hwh : 0 ≤ wh ∧ wh < 2) (hr : 0 ≤ r ∧ r < 16) : ∀ (j : Nat) (c : Int) (s1 : mS) (h1 : pz_H), (40 - c).toNat = j → 0 ≤ c → c ≤ 40 → mAt B s1 h1 → mEq s s1 → mFr B h h1 → (∀ (c9 : Int) (s2 : mS) (h2 : pz_H), mAt B s2 h2 → mEq s s2 → mFr B h h2 → pw E YX10_resize (rmD 1 0 0) Kk 0 0 97 [some (.ref B), some (.int (zI (p))), some (.int (zI (ww))), some (.int (zI (hh))), some (.int (zI (wh))), some (.int (zI (r))), some (.int (zI (c9)))] [] h2 n) → pw E YX10_resize (rmD 1 0 0) Kk 0 0 57 [some (.ref B), some (.int (zI (p))), some (.int (zI (ww))), some (.int (zI (hh))), some (.int (zI (wh))), some (.int (zI (r))), some (.int (zI (c)))] [] h1 n := by
  intro j
  induction j with
  | zero =>
    intro c  s1 h1 hj i1 i2 hA hE hF kk
    refine pw_iload dX10_resize_57 rfl ?_
    refine pw_bipush (v := zI (40)) dX10_resize_59 (by decide) ?_
    refine pw_icmp_ge (tgt := 97) dX10_resize_61 rfl (by omega) (by omega) (fun c61 => ?_) (fun c61 => ?_)
    ·
      exact kk c  s1 h1 hA hE hF
    · exfalso; omega
  | succ j ih =>
    intro c  s1 h1 hj i1 i2 hA hE hF kk
    refine pw_iload dX10_resize_57 rfl ?_
    refine pw_bipush (v := zI (40)) dX10_resize_59 (by decide) ?_
    refine pw_icmp_ge (tgt := 97) dX10_resize_61 rfl (by omega) (by omega) (fun c61 => ?_) (fun c61 => ?_)
    · exfalso; omega
    ·
      refine pw_iload dX10_resize_64 rfl ?_
      refine pw_iload_n dX10_resize_66 rfl ?_
      refine pw_icmp_ge (tgt := 76) dX10_resize_67 rfl (by omega) (by omega) (fun c67 => ?_) (fun c67 => ?_)
      ·
        refine pw_aload_n dX10_resize_76 rfl ?_
        refine pw_iload_n dX10_resize_77 rfl ?_
        refine pw_iload dX10_resize_78 rfl ?_
        refine pw_iload dX10_resize_80 rfl ?_
        refine pw_iload dX10_resize_82 rfl ?_
        refine pw_callS (As := [.int (zI (p)), .int (zI (wh)), .int (zI (r)), .int (zI (c))]) (rm := rmD 0 0 0) (mR_cellOf htr) rfl ywX10_cellOf rfl cwX10_180 ⟨nle rfl, nle rfl⟩ (nle rfl) ⟨nle rfl, nle rfl⟩ dX10_resize_84 ?_ (fun _ _ _ z => z.elim)
        intro r_9 h_9 n_9 hq _
        rw [hq.1, hq.2.1, hq.2.2]
        show pw E YX10_resize _ _ 0 0 87 [some (.ref B), some (.int (zI (p))), some (.int (zI (ww))), some (.int (zI (hh))), some (.int (zI (wh))), some (.int (zI (r))), some (.int (zI (c)))] [.int (zI (mCell (p) (wh) (r) (c))), .ref B] h1 n
        refine pw_iconst (v := zI (0)) dX10_resize_87 (by decide) ?_
        refine pw_callV (As := [.int (zI (mCell (p) (wh) (r) (c))), .int (zI (0))]) (b := B) (rm := rmD 0 0 0) (nR_blank htr hA (by unfold mCell; omega)) rfl hA.1 rfl rfl ywX10_blank rfl cwX10_184 ⟨nle rfl, nle rfl⟩ (nle rfl) ⟨nle rfl, nle rfl⟩ dX10_resize_88 ?_ (fun _ _ _ z => z.elim)
        intro r_9 h2 n_9 hq _
        obtain ⟨e1, hA2, hF20, e4⟩ := hq
        rw [e1, e4]
        show pw E YX10_resize _ _ 0 0 91 [some (.ref B), some (.int (zI (p))), some (.int (zI (ww))), some (.int (zI (hh))), some (.int (zI (wh))), some (.int (zI (r))), some (.int (zI (c)))] [] h2 n
        have hF2 := mFr_tr hF hF20
        have hE2 : mEq s (mA 21 (va_up (s1.2 21) (mCell (p) (wh) (r) (c)).toNat 0) (mA 20 (va_up (s1.2 20) (mCell (p) (wh) (r) (c)).toNat 32) s1)) := ⟨hE.1, fun k h1 h2 => ((va_up_ne _ _ h2).trans (va_up_ne _ _ h1)).trans (hE.2 k h1 h2)⟩
        refine pw_ziinc (lv' := [some (.ref B), some (.int (zI (p))), some (.int (zI (ww))), some (.int (zI (hh))), some (.int (zI (wh))), some (.int (zI (r))), some (.int (zI (c + 1)))]) dX10_resize_91 rfl (by decide) rfl rfl ?_
        refine pw_goto (tgt := 57) dX10_resize_94 rfl ?_
        exact ih (c + 1) (mA 21 (va_up (s1.2 21) (mCell (p) (wh) (r) (c)).toNat 0) (mA 20 (va_up (s1.2 20) (mCell (p) (wh) (r) (c)).toNat 32) s1)) h2 (by omega) (by omega) (by omega) hA2 hE2 hF2 kk
      ·
        refine pw_iload dX10_resize_70 rfl ?_
        refine pw_iload_n dX10_resize_72 rfl ?_
        refine pw_icmp_lt (tgt := 91) dX10_resize_73 rfl (by omega) (by omega) (fun c73 => ?_) (fun c73 => ?_)
        ·
          refine pw_ziinc (lv' := [some (.ref B), some (.int (zI (p))), some (.int (zI (ww))), some (.int (zI (hh))), some (.int (zI (wh))), some (.int (zI (r))), some (.int (zI (c + 1)))]) dX10_resize_91 rfl (by decide) rfl rfl ?_
          refine pw_goto (tgt := 57) dX10_resize_94 rfl ?_
          exact ih (c + 1) s1 h1 (by omega) (by omega) (by omega) hA hE hF kk
        ·
          refine pw_aload_n dX10_resize_76 rfl ?_
          refine pw_iload_n dX10_resize_77 rfl ?_
          refine pw_iload dX10_resize_78 rfl ?_
          refine pw_iload dX10_resize_80 rfl ?_
          refine pw_iload dX10_resize_82 rfl ?_
          refine pw_callS (As := [.int (zI (p)), .int (zI (wh)), .int (zI (r)), .int (zI (c))]) (rm := rmD 0 0 0) (mR_cellOf htr) rfl ywX10_cellOf rfl cwX10_180 ⟨nle rfl, nle rfl⟩ (nle rfl) ⟨nle rfl, nle rfl⟩ dX10_resize_84 ?_ (fun _ _ _ z => z.elim)
          intro r_9 h_9 n_9 hq _
          rw [hq.1, hq.2.1, hq.2.2]
          show pw E YX10_resize _ _ 0 0 87 [some (.ref B), some (.int (zI (p))), some (.int (zI (ww))), some (.int (zI (hh))), some (.int (zI (wh))), some (.int (zI (r))), some (.int (zI (c)))] [.int (zI (mCell (p) (wh) (r) (c))), .ref B] h1 n
          refine pw_iconst (v := zI (0)) dX10_resize_87 (by decide) ?_
          refine pw_callV (As := [.int (zI (mCell (p) (wh) (r) (c))), .int (zI (0))]) (b := B) (rm := rmD 0 0 0) (nR_blank htr hA (by unfold mCell; omega)) rfl hA.1 rfl rfl ywX10_blank rfl cwX10_184 ⟨nle rfl, nle rfl⟩ (nle rfl) ⟨nle rfl, nle rfl⟩ dX10_resize_88 ?_ (fun _ _ _ z => z.elim)
          intro r_9 h3 n_9 hq _
          obtain ⟨e1, hA3, hF30, e4⟩ := hq
          rw [e1, e4]
          show pw E YX10_resize _ _ 0 0 91 [some (.ref B), some (.int (zI (p))), some (.int (zI (ww))), some (.int (zI (hh))), some (.int (zI (wh))), some (.int (zI (r))), some (.int (zI (c)))] [] h3 n
          have hF3 := mFr_tr hF hF30
          have hE3 : mEq s (mA 21 (va_up (s1.2 21) (mCell (p) (wh) (r) (c)).toNat 0) (mA 20 (va_up (s1.2 20) (mCell (p) (wh) (r) (c)).toNat 32) s1)) := ⟨hE.1, fun k h1 h2 => ((va_up_ne _ _ h2).trans (va_up_ne _ _ h1)).trans (hE.2 k h1 h2)⟩
          refine pw_ziinc (lv' := [some (.ref B), some (.int (zI (p))), some (.int (zI (ww))), some (.int (zI (hh))), some (.int (zI (wh))), some (.int (zI (r))), some (.int (zI (c + 1)))]) dX10_resize_91 rfl (by decide) rfl rfl ?_
          refine pw_goto (tgt := 57) dX10_resize_94 rfl ?_
          exact ih (c + 1) (mA 21 (va_up (s1.2 21) (mCell (p) (wh) (r) (c)).toNat 0) (mA 20 (va_up (s1.2 20) (mCell (p) (wh) (r) (c)).toNat 32) s1)) h3 (by omega) (by omega) (by omega) hA3 hE3 hF3 kk
set_option maxHeartbeats 1000000 in
set_option maxRecDepth 100000 in
theorem lN_rz2 {E : pw_E} (htr : E.1.stackTraces = false) {Kk : pw_K} {h : pz_H} {n B : Nat} {s : mS} {p ww hh wh : Int} (hp : 0 ≤ p ∧ p < 8) (hww : 1 ≤ ww ∧ ww ≤ 40) (hhh : 1 ≤ hh ∧ hh ≤ 16) (hwh : 0 ≤ wh ∧ wh < 2) : ∀ (j : Nat) (r : Int) (q6 : Option Value) (s1 : mS) (h1 : pz_H), (16 - r).toNat = j → 0 ≤ r → r ≤ 16 → mAt B s1 h1 → mEq s s1 → mFr B h h1 → (∀ (r9 : Int) (q6 : Option Value) (s2 : mS) (h2 : pz_H), mAt B s2 h2 → mEq s s2 → mFr B h h2 → pw E YX10_resize (rmD 1 0 0) Kk 0 0 103 [some (.ref B), some (.int (zI (p))), some (.int (zI (ww))), some (.int (zI (hh))), some (.int (zI (wh))), some (.int (zI (r9))), q6] [] h2 n) → pw E YX10_resize (rmD 1 0 0) Kk 0 0 47 [some (.ref B), some (.int (zI (p))), some (.int (zI (ww))), some (.int (zI (hh))), some (.int (zI (wh))), some (.int (zI (r))), q6] [] h1 n := by
  intro j
  induction j with
  | zero =>
    intro r q6 s1 h1 hj i1 i2 hA hE hF kk
    refine pw_iload dX10_resize_47 rfl ?_
    refine pw_bipush (v := zI (16)) dX10_resize_49 (by decide) ?_
    refine pw_icmp_ge (tgt := 103) dX10_resize_51 rfl (by omega) (by omega) (fun c51 => ?_) (fun c51 => ?_)
    ·
      exact kk r q6 s1 h1 hA hE hF
    · exfalso; omega
  | succ j ih =>
    intro r q6 s1 h1 hj i1 i2 hA hE hF kk
    refine pw_iload dX10_resize_47 rfl ?_
    refine pw_bipush (v := zI (16)) dX10_resize_49 (by decide) ?_
    refine pw_icmp_ge (tgt := 103) dX10_resize_51 rfl (by omega) (by omega) (fun c51 => ?_) (fun c51 => ?_)
    · exfalso; omega
    ·
      refine pw_iconst (v := zI (0)) dX10_resize_54 (by decide) ?_
      refine pw_istore (lv' := [some (.ref B), some (.int (zI (p))), some (.int (zI (ww))), some (.int (zI (hh))), some (.int (zI (wh))), some (.int (zI (r))), some (.int (zI (0)))]) dX10_resize_55 (by decide) rfl rfl ?_
      refine lN_rz1 htr hp hww hhh hwh (by omega) _ 0 s1 h1 rfl (by omega) (by omega) hA hE hF (fun v9  s9 h9 hA9 hE9 hF9 => ?_)
      refine pw_ziinc (lv' := [some (.ref B), some (.int (zI (p))), some (.int (zI (ww))), some (.int (zI (hh))), some (.int (zI (wh))), some (.int (zI (r + 1))), some (.int (zI (v9)))]) dX10_resize_97 rfl (by decide) rfl rfl ?_
      refine pw_goto (tgt := 47) dX10_resize_100 rfl ?_
      exact ih (r + 1) _ s9 h9 (by omega) (by omega) (by omega) hA9 hE9 hF9 kk
set_option maxHeartbeats 1000000 in
set_option maxRecDepth 100000 in
theorem lN_rz3 {E : pw_E} (htr : E.1.stackTraces = false) {Kk : pw_K} {h : pz_H} {n B : Nat} {s : mS} {p ww hh  : Int} (hp : 0 ≤ p ∧ p < 8) (hww : 1 ≤ ww ∧ ww ≤ 40) (hhh : 1 ≤ hh ∧ hh ≤ 16)  : ∀ (j : Nat) (wh : Int) (q5 : Option Value) (q6 : Option Value) (s1 : mS) (h1 : pz_H), (2 - wh).toNat = j → 0 ≤ wh → wh ≤ 2 → mAt B s1 h1 → mEq s s1 → mFr B h h1 → (∀ (wh9 : Int) (q5 : Option Value) (q6 : Option Value) (s2 : mS) (h2 : pz_H), mAt B s2 h2 → mEq s s2 → mFr B h h2 → pw E YX10_resize (rmD 1 0 0) Kk 0 0 109 [some (.ref B), some (.int (zI (p))), some (.int (zI (ww))), some (.int (zI (hh))), some (.int (zI (wh9))), q5, q6] [] h2 n) → pw E YX10_resize (rmD 1 0 0) Kk 0 0 38 [some (.ref B), some (.int (zI (p))), some (.int (zI (ww))), some (.int (zI (hh))), some (.int (zI (wh))), q5, q6] [] h1 n := by
  intro j
  induction j with
  | zero =>
    intro wh q5 q6 s1 h1 hj i1 i2 hA hE hF kk
    refine pw_iload dX10_resize_38 rfl ?_
    refine pw_iconst (v := zI (2)) dX10_resize_40 (by decide) ?_
    refine pw_icmp_ge (tgt := 109) dX10_resize_41 rfl (by omega) (by omega) (fun c41 => ?_) (fun c41 => ?_)
    ·
      exact kk wh q5 q6 s1 h1 hA hE hF
    · exfalso; omega
  | succ j ih =>
    intro wh q5 q6 s1 h1 hj i1 i2 hA hE hF kk
    refine pw_iload dX10_resize_38 rfl ?_
    refine pw_iconst (v := zI (2)) dX10_resize_40 (by decide) ?_
    refine pw_icmp_ge (tgt := 109) dX10_resize_41 rfl (by omega) (by omega) (fun c41 => ?_) (fun c41 => ?_)
    · exfalso; omega
    ·
      refine pw_iconst (v := zI (0)) dX10_resize_44 (by decide) ?_
      refine pw_istore (lv' := [some (.ref B), some (.int (zI (p))), some (.int (zI (ww))), some (.int (zI (hh))), some (.int (zI (wh))), some (.int (zI (0))), q6]) dX10_resize_45 (by decide) rfl rfl ?_
      refine lN_rz2 htr hp hww hhh (by omega) _ 0 _ s1 h1 rfl (by omega) (by omega) hA hE hF (fun v9 q68 s9 h9 hA9 hE9 hF9 => ?_)
      refine pw_ziinc (lv' := [some (.ref B), some (.int (zI (p))), some (.int (zI (ww))), some (.int (zI (hh))), some (.int (zI (wh + 1))), some (.int (zI (v9))), q68]) dX10_resize_103 rfl (by decide) rfl rfl ?_
      refine pw_goto (tgt := 38) dX10_resize_106 rfl ?_
      exact ih (wh + 1) _ _ s9 h9 (by omega) (by omega) (by omega) hA9 hE9 hF9 kk
set_option maxHeartbeats 1000000 in
set_option maxRecDepth 100000 in
theorem lN_free {E : pw_E} (htr : E.1.stackTraces = false) {Kk : pw_K} {h : pz_H} {n : Nat} {B : Nat} {s : mS} (hA : mAt B s h) {m : Int} (hm : 0 ≤ m ∧ m < 16) (h1 : ∀ i, i < m.toNat → s.2 3 i = 1) (h0 : s.2 3 m.toNat = 0) (hQ : ∀ h', mAt B (mA 3 (va_up (s.2 3) m.toNat 1) s) h' → mFr B h h' → Kk.2.2.1 (some (.int (zI m))) h' n) : ∀ (j : Nat) (i : Int), (m - i).toNat = j → 0 ≤ i → i ≤ m → pw E YX10_freeNode (rmD 0 0 0) Kk 0 0 2 [some (.ref B), some (.int (zI i))] [] h n := by
  intro j
  induction j with
  | zero =>
    intro i hj i1 i2
    have hz : s.2 3 i.toNat = 0 := by rw [show i = m by omega]; exact h0
    refine pw_aload_n dX10_freeNode_2 rfl ?_
    refine pw_get (v := .ref (B + 1)) okX10 (k := 3) (by decide) lkX10_7 hA.1 rfl dX10_freeNode_3 ?_
    refine pw_iload_n dX10_freeNode_6 rfl ?_
    refine pw_zald (g := (s.2 3)) (t := 1) rfl (mF3 (s := s) hA) (by omega) (by decide) dX10_freeNode_7 ?_
    refine pw_if_eq (tgt := 17) dX10_freeNode_8 rfl (by omega) (fun c8 => ?_) (fun c8 => ?_)
    ·
      refine pw_aload_n dX10_freeNode_17 rfl ?_
      refine pw_get (v := .ref (B + 1)) okX10 (k := 3) (by decide) lkX10_7 hA.1 rfl dX10_freeNode_18 ?_
      refine pw_iload_n dX10_freeNode_21 rfl ?_
      refine pw_iconst (v := zI (1)) dX10_freeNode_22 (by decide) ?_
      refine pw_zast (g := (s.2 3)) (t := 1) rfl (mF3 (s := s) hA) (by omega) (by decide) (by omega) dX10_freeNode_23 ?_
      have hA1 : mAt B (mA 3 (va_up (s.2 3) (i).toNat (1)) s) (va_up h (B + 1) (pz_z 1 16 (va_up (s.2 3) (i).toNat (1)))) := mU3 hA
      have hF1 : mFr B h (va_up h (B + 1) (pz_z 1 16 (va_up (s.2 3) (i).toNat (1)))) := mFr_tr mFr_rf (mFr_up (by decide))
      revert hA1 hF1
      generalize (va_up h (B + 1) (pz_z 1 16 (va_up (s.2 3) (i).toNat (1)))) = h1
      intro hA1 hF1
      refine pw_iload_n dX10_freeNode_24 rfl ?_
      have em : i = m := by omega
      subst em
      exact pw_iret dX10_freeNode_25 rfl (nle rfl) (nle rfl) (hQ _ hA1 hF1)
    · exfalso; omega
  | succ j ih =>
    intro i hj i1 i2
    have hz : s.2 3 i.toNat = 1 := h1 i.toNat (by omega)
    refine pw_aload_n dX10_freeNode_2 rfl ?_
    refine pw_get (v := .ref (B + 1)) okX10 (k := 3) (by decide) lkX10_7 hA.1 rfl dX10_freeNode_3 ?_
    refine pw_iload_n dX10_freeNode_6 rfl ?_
    refine pw_zald (g := (s.2 3)) (t := 1) rfl (mF3 (s := s) hA) (by omega) (by decide) dX10_freeNode_7 ?_
    refine pw_if_eq (tgt := 17) dX10_freeNode_8 rfl (by omega) (fun c8 => ?_) (fun c8 => ?_)
    · exfalso; omega
    ·
      refine pw_ziinc (lv' := [some (.ref B), some (.int (zI (i + 1)))]) dX10_freeNode_11 rfl (by decide) rfl rfl ?_
      refine pw_goto (tgt := 2) dX10_freeNode_14 rfl ?_
      exact ih (i + 1) (by omega) (by omega) (by omega)
set_option maxHeartbeats 1000000 in
set_option maxRecDepth 100000 in
/-- freeNode() -/
theorem nR_freeNode {E : pw_E} (htr : E.1.stackTraces = false) {h : pz_H} {n : Nat} {B : Nat} {s : mS} (hA : mAt B s h)  {m : Int} (hm : 0 ≤ m ∧ m < 16) (h1 : ∀ i, i < m.toNat → s.2 3 i = 1) (h0 : s.2 3 m.toNat = 0) : pw_M E yX10_freeNode YX10_freeNode (rmD 0 0 0) [.ref B] h n (fun r0 h' n' => r0 = some (.int (zI m)) ∧ mAt B (mA 3 (va_up (s.2 3) m.toNat 1) s) h' ∧ mFr B h h' ∧ n' = n) (fun _ _ _ => False) := by
  refine pw_M_of (lv := [some (.ref B), none]) (by decide) rfl rfl htr (nle rfl) rfl (fun L => ?_)
  refine pw_iconst (v := zI (0)) dX10_freeNode_0 (by decide) ?_
  refine pw_istore_n (lv' := [some (.ref B), some (.int (zI (0)))]) dX10_freeNode_1 (by decide) rfl rfl ?_
  exact lN_free htr hA hm h1 h0 (fun h' z1 z2 => by exact ⟨rfl, z1, z2, rfl⟩) _ 0 rfl (by omega) (by omega)
