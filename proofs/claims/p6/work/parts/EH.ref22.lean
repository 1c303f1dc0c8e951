
/-! ===== the reference's face methods in general ===== -/
def mLs (f : Nat → Int) : Nat → Int → Int
  | 0, i => i
  | j + 1, i => if f i.toNat = 0 then i else mLs f j (i + 1)
theorem mLs_b {f : Nat → Int} : ∀ (j : Nat) (i : Int), i ≤ mLs f j i ∧ mLs f j i ≤ i + j
  | 0, i => by show i ≤ i ∧ i ≤ i + ((0 : Nat) : Int); omega
  | j + 1, i => by
    have h := mLs_b (f := f) j (i + 1)
    show i ≤ (if f i.toNat = 0 then i else mLs f j (i + 1)) ∧ (if f i.toNat = 0 then i else mLs f j (i + 1)) ≤ i + ((j + 1 : Nat) : Int)
    split <;> omega
def mMay (s : mS) (p dn : Int) : Int := if mLs (s.2 16) 8 0 < 8 ∧ 2 < (if dn = 0 then s.2 18 p.toNat else s.2 19 p.toNat) then 1 else 0
theorem mMay_b {s : mS} {p dn : Int} : 0 ≤ mMay s p dn ∧ mMay s p dn ≤ 1 := by
  unfold mMay
  split <;> omega
set_option maxHeartbeats 1000000 in
set_option maxRecDepth 100000 in
theorem lG_may {E : pw_E} (htr : E.1.stackTraces = false) {Kk : pw_K} {h : pz_H} {n : Nat} {B : Nat} {s : mS} (hA : mAt B s h) (hu : mUs s) {p dn : Int} : ∀ (j : Nat) (i : Int), (8 - i).toNat = j → 0 ≤ i → i ≤ 8 → pw E YX10_maySplit (rmD 0 0 0) Kk 0 0 23 [some (.ref B), some (.int (zI (p))), some (.int (zI (dn))), some (.int (zI (mLs (s.2 16) j i)))] [] h n → pw E YX10_maySplit (rmD 0 0 0) Kk 0 0 2 [some (.ref B), some (.int (zI (p))), some (.int (zI (dn))), some (.int (zI (i)))] [] h n := by
  intro j
  induction j with
  | zero =>
    intro i hj h1 h2 kk
    refine pw_iload_n dX10_maySplit_2 rfl ?_
    refine pw_bipush (v := zI (8)) dX10_maySplit_3 (by decide) ?_
    refine pw_icmp_ge (tgt := 23) dX10_maySplit_5 rfl (by omega) (by omega) (fun c5 => ?_) (fun c5 => ?_)
    ·
      exact kk
    · exfalso; omega
  | succ j ih =>
    intro i hj h1 h2 kk
    refine pw_iload_n dX10_maySplit_2 rfl ?_
    refine pw_bipush (v := zI (8)) dX10_maySplit_3 (by decide) ?_
    refine pw_icmp_ge (tgt := 23) dX10_maySplit_5 rfl (by omega) (by omega) (fun c5 => ?_) (fun c5 => ?_)
    · exfalso; omega
    ·
      have hu1 := hu i.toNat (by omega)
      refine pw_aload_n dX10_maySplit_8 rfl ?_
      refine pw_get (v := .ref (B + 13)) okX10 (k := 16) (by decide) lkX10_47 hA.1 rfl dX10_maySplit_9 ?_
      refine pw_iload_n dX10_maySplit_12 rfl ?_
      refine pw_zald (g := (s.2 16)) (t := 1) rfl (mF16 (s := s) hA) (by omega) (by decide) dX10_maySplit_13 ?_
      refine pw_if_eq (tgt := 23) dX10_maySplit_14 rfl (by omega) (fun c14 => ?_) (fun c14 => ?_)
      ·
        exact (by rw [show mLs (s.2 16) (j + 1) i = if s.2 16 i.toNat = 0 then i else mLs (s.2 16) j (i + 1) from rfl, if_pos (by omega)] at kk; exact kk)
      ·
        refine pw_ziinc (lv' := [some (.ref B), some (.int (zI (p))), some (.int (zI (dn))), some (.int (zI (i + 1)))]) dX10_maySplit_17 rfl (by decide) rfl rfl ?_
        refine pw_goto (tgt := 2) dX10_maySplit_20 rfl ?_
        exact ih (i + 1) (by omega) (by omega) (by omega) (by rw [show mLs (s.2 16) (j + 1) i = if s.2 16 i.toNat = 0 then i else mLs (s.2 16) j (i + 1) from rfl, if_neg (by omega)] at kk; exact kk)
set_option maxHeartbeats 1000000 in
set_option maxRecDepth 100000 in
/-- maySplit(p, dn) -/
theorem nG_maySplit {E : pw_E} (htr : E.1.stackTraces = false) {h : pz_H} {n : Nat} {B : Nat} {s : mS} (hA : mAt B s h) {p dn : Int}  (hu : mUs s) (hp : 0 ≤ p ∧ p < 8) (hdn : 0 ≤ dn ∧ dn ≤ 1) (hk : mPk s p.toNat) : pw_M E yX10_maySplit YX10_maySplit (rmD 0 0 0) [.ref B, .int (zI (p)), .int (zI (dn))] h n (fun r0 h' n' => r0 = some (.int (zI (mMay s p dn))) ∧ h' = h ∧ n' = n) (fun _ _ _ => False) := by
  obtain ⟨kw, kh, kr, kc, ksr, ksc, kt, ko, kwa, kin, kwr, khi, krd, knu, kgi, kas, kfr, kra, kco, kof, kip⟩ := id hk
  have hlb := mLs_b (f := s.2 16) 8 0
  refine pw_M_of (lv := [some (.ref B), some (.int (zI (p))), some (.int (zI (dn))), none]) (by decide) rfl rfl htr (nle rfl) rfl (fun L => ?_)
  refine pw_iconst (v := zI (0)) dX10_maySplit_0 (by decide) ?_
  refine pw_istore_n (lv' := [some (.ref B), some (.int (zI (p))), some (.int (zI (dn))), some (.int (zI (0)))]) dX10_maySplit_1 (by decide) rfl rfl ?_
  refine lG_may htr hA hu 8 0 rfl (by omega) (by omega) ?_
  refine pw_iload_n dX10_maySplit_23 rfl ?_
  refine pw_bipush (v := zI (8)) dX10_maySplit_24 (by decide) ?_
  refine pw_icmp_ge (tgt := 56) dX10_maySplit_26 rfl (by omega) (by omega) (fun c26 => ?_) (fun c26 => ?_)
  ·
    refine pw_iconst (v := zI (0)) dX10_maySplit_56 (by decide) ?_
    exact pw_zret dX10_maySplit_57 rfl (by decide) (nle rfl) (nle rfl) ⟨by unfold mMay; (repeat (first | rw [if_pos (by omega)] | rw [if_neg (by omega)])), rfl, rfl⟩
  ·
    refine pw_iload_n dX10_maySplit_29 rfl ?_
    refine pw_if_eq (tgt := 42) dX10_maySplit_30 rfl (by omega) (fun c30 => ?_) (fun c30 => ?_)
    ·
      refine pw_aload_n dX10_maySplit_42 rfl ?_
      refine pw_get (v := .ref (B + 15)) okX10 (k := 18) (by decide) lkX10_53 hA.1 rfl dX10_maySplit_43 ?_
      refine pw_iload_n dX10_maySplit_46 rfl ?_
      refine pw_iald (g := (s.2 18)) (t := 0) rfl (mF18 (s := s) hA) (by omega) (by decide) dX10_maySplit_47 ?_
      refine pw_iconst (v := zI (2)) dX10_maySplit_48 (by decide) ?_
      refine pw_icmp_le (tgt := 56) dX10_maySplit_49 rfl (by omega) (by omega) (fun c49 => ?_) (fun c49 => ?_)
      ·
        refine pw_iconst (v := zI (0)) dX10_maySplit_56 (by decide) ?_
        exact pw_zret dX10_maySplit_57 rfl (by decide) (nle rfl) (nle rfl) ⟨by unfold mMay; (repeat (first | rw [if_pos (by omega)] | rw [if_neg (by omega)])), rfl, rfl⟩
      ·
        refine pw_iconst (v := zI (1)) dX10_maySplit_52 (by decide) ?_
        refine pw_goto (tgt := 57) dX10_maySplit_53 rfl ?_
        exact pw_zret dX10_maySplit_57 rfl (by decide) (nle rfl) (nle rfl) ⟨by unfold mMay; (repeat (first | rw [if_pos (by omega)] | rw [if_neg (by omega)])), rfl, rfl⟩
    ·
      refine pw_aload_n dX10_maySplit_33 rfl ?_
      refine pw_get (v := .ref (B + 16)) okX10 (k := 19) (by decide) lkX10_56 hA.1 rfl dX10_maySplit_34 ?_
      refine pw_iload_n dX10_maySplit_37 rfl ?_
      refine pw_iald (g := (s.2 19)) (t := 0) rfl (mF19 (s := s) hA) (by omega) (by decide) dX10_maySplit_38 ?_
      refine pw_goto (tgt := 48) dX10_maySplit_39 rfl ?_
      refine pw_iconst (v := zI (2)) dX10_maySplit_48 (by decide) ?_
      refine pw_icmp_le (tgt := 56) dX10_maySplit_49 rfl (by omega) (by omega) (fun c49 => ?_) (fun c49 => ?_)
      ·
        refine pw_iconst (v := zI (0)) dX10_maySplit_56 (by decide) ?_
        exact pw_zret dX10_maySplit_57 rfl (by decide) (nle rfl) (nle rfl) ⟨by unfold mMay; (repeat (first | rw [if_pos (by omega)] | rw [if_neg (by omega)])), rfl, rfl⟩
      ·
        refine pw_iconst (v := zI (1)) dX10_maySplit_52 (by decide) ?_
        refine pw_goto (tgt := 57) dX10_maySplit_53 rfl ?_
        exact pw_zret dX10_maySplit_57 rfl (by decide) (nle rfl) (nle rfl) ⟨by unfold mMay; (repeat (first | rw [if_pos (by omega)] | rw [if_neg (by omega)])), rfl, rfl⟩
set_option maxHeartbeats 1000000 in
set_option maxRecDepth 100000 in
/-- split(p, dn), no such pane -/
theorem nG_split1 {E : pw_E} (htr : E.1.stackTraces = false) {h : pz_H} {n : Nat} {B : Nat} {s : mS} (hA : mAt B s h) {p dn : Int}  (hu : mUs s) (hno : mNo s p = 1) (h_p : -2147483648 ≤ p ∧ p < 2147483648) : pw_M E yX10_split YX10_split (rmD 4 0 0) [.ref B, .int (zI (p)), .int (zI (dn))] h n (fun r0 h' n' => r0 = some (.int (zI 0)) ∧ mAt B (mV 0 (1) s) h' ∧ mFr B h h' ∧ n' = n) (fun _ _ _ => False) := by
  have hnb : 0 ≤ mNo s p ∧ mNo s p ≤ 1 := mNo_b
  have hp0 := @mNo_0 s p
  refine pw_M_of (lv := [some (.ref B), some (.int (zI (p))), some (.int (zI (dn)))]) (by decide) rfl rfl htr (nle rfl) rfl (fun L => ?_)
  refine pw_aload_n dX10_split_0 rfl ?_
  refine pw_aload_n dX10_split_1 rfl ?_
  refine pw_iload_n dX10_split_2 rfl ?_
  refine pw_callV (As := [.int (zI (p))]) (b := B) (rm := rmD 0 0 0) (nR_noPane htr hA hu (by omega)) rfl hA.1 rfl rfl ywX10_noPane rfl cwX10_213 ⟨nle rfl, nle rfl⟩ (nle rfl) ⟨nle rfl, nle rfl⟩ dX10_split_3 ?_ (fun _ _ _ z => z.elim)
  intro r_9 h_9 n_9 hq _
  rw [hq.1, hq.2.1, hq.2.2]
  show pw E YX10_split _ _ 0 0 6 [some (.ref B), some (.int (zI (p))), some (.int (zI (dn)))] [.int (zI (mNo s (p))), .ref B] h n
  refine pw_if_eq (tgt := 13) dX10_split_6 rfl (by omega) (fun c6 => ?_) (fun c6 => ?_)
  · exfalso; omega
  ·
    refine pw_iconst (v := zI (1)) dX10_split_9 (by decide) ?_
    refine pw_goto (tgt := 27) dX10_split_10 rfl ?_
    refine pw_put (fs' := (moL B (va_up s.1 0 (1)))) okX10 (k := 0) (by decide) lkX10_173 rfl rfl rfl hA.1 (nlt rfl) rfl dX10_split_27 ?_
    have hA1 : mAt B (mV 0 (1) s) (va_up h B (pz_o 13 (moL B (va_up s.1 0 (1))))) := mAt_V hA
    have hF1 : mFr B h (va_up h B (pz_o 13 (moL B (va_up s.1 0 (1))))) := mFr_tr mFr_rf (mFr_up (k := 0) (by decide))
    revert hA1 hF1
    generalize (va_up h B (pz_o 13 (moL B (va_up s.1 0 (1))))) = h1
    intro hA1 hF1
    refine pw_aload_n dX10_split_30 rfl ?_
    refine pw_get (v := .int (zI (1))) okX10 (k := 0) (by decide) lkX10_173 hA1.1 rfl dX10_split_31 ?_
    refine pw_if_le (tgt := 41) dX10_split_34 rfl (by omega) (fun c34 => ?_) (fun c34 => ?_)
    · exfalso; omega
    ·
      refine pw_iconst (v := zI (0)) dX10_split_37 (by decide) ?_
      refine pw_goto (tgt := 47) dX10_split_38 rfl ?_
      exact pw_iret dX10_split_47 rfl (nle rfl) (nle rfl) ⟨rfl, hA1, hF1, rfl⟩
set_option maxHeartbeats 1000000 in
set_option maxRecDepth 100000 in
/-- split(p, dn), too small or too many -/
theorem nG_split2 {E : pw_E} (htr : E.1.stackTraces = false) {h : pz_H} {n : Nat} {B : Nat} {s : mS} (hA : mAt B s h) {p dn : Int}  (hu : mUs s) (hno : mNo s p = 0) (hk : mNo s p = 0 → mPk s p.toNat) (hdn : 0 ≤ dn ∧ dn ≤ 1) (hmy : mMay s p dn = 0) (h_p : -2147483648 ≤ p ∧ p < 2147483648) : pw_M E yX10_split YX10_split (rmD 4 0 0) [.ref B, .int (zI (p)), .int (zI (dn))] h n (fun r0 h' n' => r0 = some (.int (zI 0)) ∧ mAt B (mV 0 (2) s) h' ∧ mFr B h h' ∧ n' = n) (fun _ _ _ => False) := by
  have hnb : 0 ≤ mNo s p ∧ mNo s p ≤ 1 := mNo_b
  have hp0 := @mNo_0 s p
  have hp1 := hp0 hno
  refine pw_M_of (lv := [some (.ref B), some (.int (zI (p))), some (.int (zI (dn)))]) (by decide) rfl rfl htr (nle rfl) rfl (fun L => ?_)
  refine pw_aload_n dX10_split_0 rfl ?_
  refine pw_aload_n dX10_split_1 rfl ?_
  refine pw_iload_n dX10_split_2 rfl ?_
  refine pw_callV (As := [.int (zI (p))]) (b := B) (rm := rmD 0 0 0) (nR_noPane htr hA hu (by omega)) rfl hA.1 rfl rfl ywX10_noPane rfl cwX10_213 ⟨nle rfl, nle rfl⟩ (nle rfl) ⟨nle rfl, nle rfl⟩ dX10_split_3 ?_ (fun _ _ _ z => z.elim)
  intro r_9 h_9 n_9 hq _
  rw [hq.1, hq.2.1, hq.2.2]
  show pw E YX10_split _ _ 0 0 6 [some (.ref B), some (.int (zI (p))), some (.int (zI (dn)))] [.int (zI (mNo s (p))), .ref B] h n
  refine pw_if_eq (tgt := 13) dX10_split_6 rfl (by omega) (fun c6 => ?_) (fun c6 => ?_)
  ·
    refine pw_aload_n dX10_split_13 rfl ?_
    refine pw_iload_n dX10_split_14 rfl ?_
    refine pw_iload_n dX10_split_15 rfl ?_
    refine pw_callV (As := [.int (zI (p)), .int (zI (dn))]) (b := B) (rm := rmD 0 0 0) (nG_maySplit htr hA hu (by omega) hdn (hk (by omega))) rfl hA.1 rfl rfl ywX10_maySplit rfl cwX10_217 ⟨nle rfl, nle rfl⟩ (nle rfl) ⟨nle rfl, nle rfl⟩ dX10_split_16 ?_ (fun _ _ _ z => z.elim)
    intro r_9 h_9 n_9 hq _
    rw [hq.1, hq.2.1, hq.2.2]
    show pw E YX10_split _ _ 0 0 19 [some (.ref B), some (.int (zI (p))), some (.int (zI (dn)))] [.int (zI (mMay s p dn)), .ref B] h n
    refine pw_if_eq (tgt := 26) dX10_split_19 rfl (by omega) (fun c19 => ?_) (fun c19 => ?_)
    ·
      refine pw_iconst (v := zI (2)) dX10_split_26 (by decide) ?_
      refine pw_put (fs' := (moL B (va_up s.1 0 (2)))) okX10 (k := 0) (by decide) lkX10_173 rfl rfl rfl hA.1 (nlt rfl) rfl dX10_split_27 ?_
      have hA1 : mAt B (mV 0 (2) s) (va_up h B (pz_o 13 (moL B (va_up s.1 0 (2))))) := mAt_V hA
      have hF1 : mFr B h (va_up h B (pz_o 13 (moL B (va_up s.1 0 (2))))) := mFr_tr mFr_rf (mFr_up (k := 0) (by decide))
      revert hA1 hF1
      generalize (va_up h B (pz_o 13 (moL B (va_up s.1 0 (2))))) = h1
      intro hA1 hF1
      refine pw_aload_n dX10_split_30 rfl ?_
      refine pw_get (v := .int (zI (2))) okX10 (k := 0) (by decide) lkX10_173 hA1.1 rfl dX10_split_31 ?_
      refine pw_if_le (tgt := 41) dX10_split_34 rfl (by omega) (fun c34 => ?_) (fun c34 => ?_)
      · exfalso; omega
      ·
        refine pw_iconst (v := zI (0)) dX10_split_37 (by decide) ?_
        refine pw_goto (tgt := 47) dX10_split_38 rfl ?_
        exact pw_iret dX10_split_47 rfl (nle rfl) (nle rfl) ⟨rfl, hA1, hF1, rfl⟩
    · exfalso; omega
  · exfalso; omega
set_option maxHeartbeats 1000000 in
set_option maxRecDepth 100000 in
/-- focus(p) -/
theorem nG_focus {E : pw_E} (htr : E.1.stackTraces = false) {h : pz_H} {n : Nat} {B : Nat} {s : mS} (hA : mAt B s h) {p : Int}  (hu : mUs s) (h47 : 0 ≤ s.1 47 ∧ s.1 47 < 8) (h_p : -2147483648 ≤ p ∧ p < 2147483648) : pw_M E yX10_focus YX10_focus (rmD 1 0 0) [.ref B, .int (zI (p))] h n (fun r0 h' n' => r0 = none ∧ mAt B (mV 47 (if mNo s p = 0 then p else s.1 47) (mV 0 (mNo s p) s)) h' ∧ mFr B h h' ∧ n' = n) (fun _ _ _ => False) := by
  have hnb : 0 ≤ mNo s p ∧ mNo s p ≤ 1 := mNo_b
  have hp0 := @mNo_0 s p
  refine pw_M_of (lv := [some (.ref B), some (.int (zI (p)))]) (by decide) rfl rfl htr (nle rfl) rfl (fun L => ?_)
  refine pw_aload_n dX10_focus_0 rfl ?_
  refine pw_aload_n dX10_focus_1 rfl ?_
  refine pw_iload_n dX10_focus_2 rfl ?_
  refine pw_callV (As := [.int (zI (p))]) (b := B) (rm := rmD 0 0 0) (nR_noPane htr hA hu (by omega)) rfl hA.1 rfl rfl ywX10_noPane rfl cwX10_213 ⟨nle rfl, nle rfl⟩ (nle rfl) ⟨nle rfl, nle rfl⟩ dX10_focus_3 ?_ (fun _ _ _ z => z.elim)
  intro r_9 h_9 n_9 hq _
  rw [hq.1, hq.2.1, hq.2.2]
  show pw E YX10_focus _ _ 0 0 6 [some (.ref B), some (.int (zI (p)))] [.int (zI (mNo s (p))), .ref B] h n
  refine pw_if_eq (tgt := 13) dX10_focus_6 rfl (by omega) (fun c6 => ?_) (fun c6 => ?_)
  ·
    refine pw_iconst (v := zI (0)) dX10_focus_13 (by decide) ?_
    refine pw_put (fs' := (moL B (va_up s.1 0 (0)))) okX10 (k := 0) (by decide) lkX10_173 rfl rfl rfl hA.1 (nlt rfl) rfl dX10_focus_14 ?_
    have hA1 : mAt B (mV 0 (0) s) (va_up h B (pz_o 13 (moL B (va_up s.1 0 (0))))) := mAt_V hA
    have hF1 : mFr B h (va_up h B (pz_o 13 (moL B (va_up s.1 0 (0))))) := mFr_tr mFr_rf (mFr_up (k := 0) (by decide))
    revert hA1 hF1
    generalize (va_up h B (pz_o 13 (moL B (va_up s.1 0 (0))))) = h1
    intro hA1 hF1
    refine pw_aload_n dX10_focus_17 rfl ?_
    refine pw_aload_n dX10_focus_18 rfl ?_
    refine pw_get (v := .int (zI (0))) okX10 (k := 0) (by decide) lkX10_173 hA1.1 rfl dX10_focus_19 ?_
    refine pw_if_le (tgt := 32) dX10_focus_22 rfl (by omega) (fun c22 => ?_) (fun c22 => ?_)
    ·
      refine pw_iload_n dX10_focus_32 rfl ?_
      refine pw_put (fs' := (moL B (va_up (mV 0 (0) s).1 47 (p)))) okX10 (k := 47) (by decide) lkX10_207 rfl rfl rfl hA1.1 (nlt rfl) rfl dX10_focus_33 ?_
      have hA2 : mAt B (mV 47 (p) (mV 0 (0) s)) (va_up h1 B (pz_o 13 (moL B (va_up (mV 0 (0) s).1 47 (p))))) := mAt_V hA1
      have hF2 : mFr B h (va_up h1 B (pz_o 13 (moL B (va_up (mV 0 (0) s).1 47 (p))))) := mFr_tr hF1 (mFr_up (k := 0) (by decide))
      revert hA2 hF2
      generalize (va_up h1 B (pz_o 13 (moL B (va_up (mV 0 (0) s).1 47 (p))))) = h2
      intro hA2 hF2
      have eS : mV 47 (if mNo s p = 0 then p else s.1 47) (mV 0 (mNo s p) s) = (mV 47 (p) (mV 0 (0) s)) := by first | rw [if_pos (by omega), show mNo s p = 0 by omega] | rw [if_neg (by omega), show mNo s p = 1 by omega]
      exact pw_vret dX10_focus_36 rfl (nle rfl) (nle rfl) ⟨rfl, (by rw [eS]; exact hA2), hF2, rfl⟩
    · exfalso; omega
  ·
    refine pw_iconst (v := zI (1)) dX10_focus_9 (by decide) ?_
    refine pw_goto (tgt := 14) dX10_focus_10 rfl ?_
    refine pw_put (fs' := (moL B (va_up s.1 0 (1)))) okX10 (k := 0) (by decide) lkX10_173 rfl rfl rfl hA.1 (nlt rfl) rfl dX10_focus_14 ?_
    have hA3 : mAt B (mV 0 (1) s) (va_up h B (pz_o 13 (moL B (va_up s.1 0 (1))))) := mAt_V hA
    have hF3 : mFr B h (va_up h B (pz_o 13 (moL B (va_up s.1 0 (1))))) := mFr_tr mFr_rf (mFr_up (k := 0) (by decide))
    revert hA3 hF3
    generalize (va_up h B (pz_o 13 (moL B (va_up s.1 0 (1))))) = h3
    intro hA3 hF3
    refine pw_aload_n dX10_focus_17 rfl ?_
    refine pw_aload_n dX10_focus_18 rfl ?_
    refine pw_get (v := .int (zI (1))) okX10 (k := 0) (by decide) lkX10_173 hA3.1 rfl dX10_focus_19 ?_
    refine pw_if_le (tgt := 32) dX10_focus_22 rfl (by omega) (fun c22 => ?_) (fun c22 => ?_)
    · exfalso; omega
    ·
      refine pw_aload_n dX10_focus_25 rfl ?_
      refine pw_get (v := .int (zI (s.1 47))) okX10 (k := 47) (by decide) lkX10_207 hA3.1 rfl dX10_focus_26 ?_
      refine pw_goto (tgt := 33) dX10_focus_29 rfl ?_
      refine pw_put (fs' := (moL B (va_up (mV 0 (1) s).1 47 (s.1 47)))) okX10 (k := 47) (by decide) lkX10_207 rfl rfl rfl hA3.1 (nlt rfl) rfl dX10_focus_33 ?_
      have hA4 : mAt B (mV 47 (s.1 47) (mV 0 (1) s)) (va_up h3 B (pz_o 13 (moL B (va_up (mV 0 (1) s).1 47 (s.1 47))))) := mAt_V hA3
      have hF4 : mFr B h (va_up h3 B (pz_o 13 (moL B (va_up (mV 0 (1) s).1 47 (s.1 47))))) := mFr_tr hF3 (mFr_up (k := 0) (by decide))
      revert hA4 hF4
      generalize (va_up h3 B (pz_o 13 (moL B (va_up (mV 0 (1) s).1 47 (s.1 47))))) = h4
      intro hA4 hF4
      have eS : mV 47 (if mNo s p = 0 then p else s.1 47) (mV 0 (mNo s p) s) = (mV 47 (s.1 47) (mV 0 (1) s)) := by first | rw [if_pos (by omega), show mNo s p = 0 by omega] | rw [if_neg (by omega), show mNo s p = 1 by omega]
      exact pw_vret dX10_focus_36 rfl (nle rfl) (nle rfl) ⟨rfl, (by rw [eS]; exact hA4), hF4, rfl⟩
set_option maxHeartbeats 1000000 in
set_option maxRecDepth 100000 in
theorem lG_feed {E : pw_E} (htr : E.1.stackTraces = false) {Kk : pw_K} {h : pz_H} {n B : Nat} {s0 : mS} {p k : Int} {v : Int64} (hp : 0 ≤ p ∧ p < 8) (hk8 : 1 ≤ k ∧ k ≤ 8) : ∀ (j : Nat) (i : Int) (s1 : mS) (h1 : pz_H), (k - i).toNat = j → 0 ≤ i → i ≤ k → s1.1 0 = 0 → mAt B s1 h1 → mPk s1 p.toNat → mPr p.toNat s0 s1 → mFr B h h1 → (∀ (s2 : mS) (h2 : pz_H), mAt B s2 h2 → mPk s2 p.toNat → mPr p.toNat s0 s2 → mFr B h h2 → Kk.2.2.1 none h2 n) → pw E YX10_feed (rmD 8 0 0) Kk 0 0 37 [some (.ref B), some (.int (zI (p))), some (.long (v)), none, some (.int (zI (k))), some (.int (zI (i)))] [] h1 n := by
  intro j
  induction j with
  | zero =>
    intro i s1 h1 hj i1 i2 t0 hA hk hR hF hQ
    refine pw_iload dX10_feed_37 rfl ?_
    refine pw_iload dX10_feed_39 rfl ?_
    refine pw_icmp_ge (tgt := 74) dX10_feed_41 rfl (by omega) (by omega) (fun c41 => ?_) (fun c41 => ?_)
    ·
      exact pw_vret dX10_feed_74 rfl (nle rfl) (nle rfl) (hQ s1 h1 hA hk hR hF)
    · exfalso; omega
  | succ j ih =>
    intro i s1 h1 hj i1 i2 t0 hA hk hR hF hQ
    obtain ⟨kw, kh, kr, kc, ksr, ksc, kt, ko, kwa, kin, kwr, khi, krd, knu, kgi, kas, kfr, kra, kco, kof, kip⟩ := id hk
    refine pw_iload dX10_feed_37 rfl ?_
    refine pw_iload dX10_feed_39 rfl ?_
    refine pw_icmp_ge (tgt := 74) dX10_feed_41 rfl (by omega) (by omega) (fun c41 => ?_) (fun c41 => ?_)
    · exfalso; omega
    ·
      refine pw_aload_n dX10_feed_44 rfl ?_
      refine pw_get (v := .int (zI (s1.1 0))) okX10 (k := 0) (by decide) lkX10_173 hA.1 rfl dX10_feed_45 ?_
      refine pw_if_ne (tgt := 74) dX10_feed_48 rfl (by omega) (fun c48 => ?_) (fun c48 => ?_)
      · exfalso; omega
      ·
        refine pw_aload_n dX10_feed_51 rfl ?_
        refine pw_iload_n dX10_feed_52 rfl ?_
        refine pw_lload_n dX10_feed_53 rfl ?_
        refine pw_bipush (v := zI (8)) dX10_feed_54 (by decide) ?_
        refine pw_iload dX10_feed_56 rfl ?_
        refine pw_zimul dX10_feed_58 ?_
        refine pw_lshr dX10_feed_59 ?_
        refine pw_l2i dX10_feed_60 ?_
        refine pw_sipush (v := zI (255)) dX10_feed_61 (by decide) ?_
        refine pw_iand dX10_feed_64 ?_
        rw [fdB_z]
        have hfb : 0 ≤ fdB v i ∧ fdB v i ≤ 255 := fdB_b
        refine pw_callV (As := [.int (zI (p)), .int (zI (fdB v i))]) (b := B) (rm := rmD 7 0 0) (mR_take htr hA hp hk (by omega)) rfl hA.1 rfl rfl ywX10_take rfl cwX10_302 ⟨nle rfl, nle rfl⟩ (nle rfl) ⟨nle rfl, nle rfl⟩ dX10_feed_65 ?_ (fun _ _ _ z => z.elim)
        intro r_9 h2 n_9 hq _
        obtain ⟨e1, s2, hA2, hk2, hr20, hF20, e4⟩ := hq
        rw [e1, e4]
        show pw E YX10_feed _ _ 0 0 68 [some (.ref B), some (.int (zI (p))), some (.long (v)), none, some (.int (zI (k))), some (.int (zI (i)))] [] h2 n
        have hr2 := mPr_tr mPr_rf hr20
        have hF2 := mFr_tr mFr_rf hF20
        obtain ⟨kw, kh, kr, kc, ksr, ksc, kt, ko, kwa, kin, kwr, khi, krd, knu, kgi, kas, kfr, kra, kco, kof, kip⟩ := id hk2
        have e18 := congrFun (hr2.2.1 18 (by decide)) p.toNat
        have e19 := congrFun (hr2.2.1 19 (by decide)) p.toNat
        refine pw_ziinc (lv' := [some (.ref B), some (.int (zI (p))), some (.long (v)), none, some (.int (zI (k))), some (.int (zI (i + 1)))]) dX10_feed_68 rfl (by decide) rfl rfl ?_
        refine pw_goto (tgt := 37) dX10_feed_71 rfl ?_
        exact ih (i + 1) s2 h2 (by omega) (by omega) (by omega) (by rw [congrFun hr2.1 0]; exact t0) hA2 hk2 (mPr_tr hR hr2) (mFr_tr hF hF2) hQ
def mFd (s : mS) (p k : Int) : Int := if mNo s p = 0 then (if 1 ≤ k ∧ k ≤ 8 then 0 else 2) else 1
set_option maxHeartbeats 1000000 in
set_option maxRecDepth 100000 in
/-- feed(p, v, k) -/
theorem nG_feed {E : pw_E} (htr : E.1.stackTraces = false) {h : pz_H} {n : Nat} {B : Nat} {s : mS} (hA : mAt B s h) {p k : Int} {v : Int64}  (hu : mUs s) (hk : mNo s p = 0 → mPk s p.toNat) (h_p : -2147483648 ≤ p ∧ p < 2147483648) (h_k : -2147483648 ≤ k ∧ k < 2147483648) : pw_M E yX10_feed YX10_feed (rmD 8 0 0) [.ref B, .int (zI (p)), .long (v), .int (zI (k))] h n (fun r0 h' n' => r0 = none ∧ ∃ s', mAt B s' h' ∧ s'.1 0 = (mFd s p k) ∧ ((¬ (mFd s p k) = 0 ∧ s' = mV 0 (mFd s p k) s) ∨ ((mFd s p k) = 0 ∧ mPk s' p.toNat ∧ mPr p.toNat (mV 0 0 s) s')) ∧ mFr B h h' ∧ n' = n) (fun _ _ _ => False) := by
  have hnb : 0 ≤ mNo s p ∧ mNo s p ≤ 1 := mNo_b
  have hp0 := @mNo_0 s p
  refine pw_M_of (lv := [some (.ref B), some (.int (zI (p))), some (.long (v)), none, some (.int (zI (k))), none]) (by decide) rfl rfl htr (nle rfl) rfl (fun L => ?_)
  refine pw_aload_n dX10_feed_0 rfl ?_
  refine pw_aload_n dX10_feed_1 rfl ?_
  refine pw_iload_n dX10_feed_2 rfl ?_
  refine pw_callV (As := [.int (zI (p))]) (b := B) (rm := rmD 0 0 0) (nR_noPane htr hA hu (by omega)) rfl hA.1 rfl rfl ywX10_noPane rfl cwX10_213 ⟨nle rfl, nle rfl⟩ (nle rfl) ⟨nle rfl, nle rfl⟩ dX10_feed_3 ?_ (fun _ _ _ z => z.elim)
  intro r_9 h_9 n_9 hq _
  rw [hq.1, hq.2.1, hq.2.2]
  show pw E YX10_feed _ _ 0 0 6 [some (.ref B), some (.int (zI (p))), some (.long (v)), none, some (.int (zI (k))), none] [.int (zI (mNo s (p))), .ref B] h n
  refine pw_if_eq (tgt := 13) dX10_feed_6 rfl (by omega) (fun c6 => ?_) (fun c6 => ?_)
  ·
    refine pw_iload dX10_feed_13 rfl ?_
    refine pw_iconst (v := zI (1)) dX10_feed_15 (by decide) ?_
    refine pw_icmp_lt (tgt := 26) dX10_feed_16 rfl (by omega) (by omega) (fun c16 => ?_) (fun c16 => ?_)
    ·
      refine pw_iconst (v := zI (2)) dX10_feed_26 (by decide) ?_
      refine pw_goto (tgt := 31) dX10_feed_27 rfl ?_
      refine pw_put (fs' := (moL B (va_up s.1 0 (2)))) okX10 (k := 0) (by decide) lkX10_173 rfl rfl rfl hA.1 (nlt rfl) rfl dX10_feed_31 ?_
      have hA1 : mAt B (mV 0 (2) s) (va_up h B (pz_o 13 (moL B (va_up s.1 0 (2))))) := mAt_V hA
      have hF1 : mFr B h (va_up h B (pz_o 13 (moL B (va_up s.1 0 (2))))) := mFr_tr mFr_rf (mFr_up (k := 0) (by decide))
      revert hA1 hF1
      generalize (va_up h B (pz_o 13 (moL B (va_up s.1 0 (2))))) = h1
      intro hA1 hF1
      refine pw_iconst (v := zI (0)) dX10_feed_34 (by decide) ?_
      refine pw_istore (lv' := [some (.ref B), some (.int (zI (p))), some (.long (v)), none, some (.int (zI (k))), some (.int (zI (0)))]) dX10_feed_35 (by decide) rfl rfl ?_
      refine pw_iload dX10_feed_37 rfl ?_
      refine pw_iload dX10_feed_39 rfl ?_
      refine pw_icmp_ge (tgt := 74) dX10_feed_41 rfl (by omega) (by omega) (fun c41 => ?_) (fun c41 => ?_)
      ·
        have eT : (mFd s p k) = 2 := by unfold mFd; split <;> (try split) <;> omega
        exact pw_vret dX10_feed_74 rfl (nle rfl) (nle rfl) ⟨rfl, (mV 0 (2) s), hA1, (show (2 : Int) = (mFd s p k) from eT.symm), Or.inl ⟨by rw [eT]; decide, by rw [eT]⟩, hF1, rfl⟩
      ·
        refine pw_aload_n dX10_feed_44 rfl ?_
        refine pw_get (v := .int (zI (2))) okX10 (k := 0) (by decide) lkX10_173 hA1.1 rfl dX10_feed_45 ?_
        refine pw_if_ne (tgt := 74) dX10_feed_48 rfl (by omega) (fun c48 => ?_) (fun c48 => ?_)
        ·
          have eT : (mFd s p k) = 2 := by unfold mFd; split <;> (try split) <;> omega
          exact pw_vret dX10_feed_74 rfl (nle rfl) (nle rfl) ⟨rfl, (mV 0 (2) s), hA1, (show (2 : Int) = (mFd s p k) from eT.symm), Or.inl ⟨by rw [eT]; decide, by rw [eT]⟩, hF1, rfl⟩
        · exfalso; omega
    ·
      refine pw_iload dX10_feed_19 rfl ?_
      refine pw_bipush (v := zI (8)) dX10_feed_21 (by decide) ?_
      refine pw_icmp_le (tgt := 30) dX10_feed_23 rfl (by omega) (by omega) (fun c23 => ?_) (fun c23 => ?_)
      ·
        refine pw_iconst (v := zI (0)) dX10_feed_30 (by decide) ?_
        refine pw_put (fs' := (moL B (va_up s.1 0 (0)))) okX10 (k := 0) (by decide) lkX10_173 rfl rfl rfl hA.1 (nlt rfl) rfl dX10_feed_31 ?_
        have hA2 : mAt B (mV 0 (0) s) (va_up h B (pz_o 13 (moL B (va_up s.1 0 (0))))) := mAt_V hA
        have hF2 : mFr B h (va_up h B (pz_o 13 (moL B (va_up s.1 0 (0))))) := mFr_tr mFr_rf (mFr_up (k := 0) (by decide))
        revert hA2 hF2
        generalize (va_up h B (pz_o 13 (moL B (va_up s.1 0 (0))))) = h2
        intro hA2 hF2
        refine pw_iconst (v := zI (0)) dX10_feed_34 (by decide) ?_
        refine pw_istore (lv' := [some (.ref B), some (.int (zI (p))), some (.long (v)), none, some (.int (zI (k))), some (.int (zI (0)))]) dX10_feed_35 (by decide) rfl rfl ?_
        have eT : (mFd s p k) = 0 := by unfold mFd; split <;> (try split) <;> omega
        exact lG_feed (s0 := (mV 0 (0) s)) htr (by omega) (by omega) _ 0 (mV 0 (0) s) h2 rfl (by omega) (by omega) rfl hA2 (show mPk s p.toNat from hk (by omega)) mPr_rf hF2 (fun s2 h2 z1 z2 z3 z4 => by exact ⟨rfl, s2, z1, (congrFun z3.1 0).trans (show (0 : Int) = (mFd s p k) from eT.symm), Or.inr ⟨eT, z2, z3⟩, z4, rfl⟩)
      ·
        refine pw_iconst (v := zI (2)) dX10_feed_26 (by decide) ?_
        refine pw_goto (tgt := 31) dX10_feed_27 rfl ?_
        refine pw_put (fs' := (moL B (va_up s.1 0 (2)))) okX10 (k := 0) (by decide) lkX10_173 rfl rfl rfl hA.1 (nlt rfl) rfl dX10_feed_31 ?_
        have hA3 : mAt B (mV 0 (2) s) (va_up h B (pz_o 13 (moL B (va_up s.1 0 (2))))) := mAt_V hA
        have hF3 : mFr B h (va_up h B (pz_o 13 (moL B (va_up s.1 0 (2))))) := mFr_tr mFr_rf (mFr_up (k := 0) (by decide))
        revert hA3 hF3
        generalize (va_up h B (pz_o 13 (moL B (va_up s.1 0 (2))))) = h3
        intro hA3 hF3
        refine pw_iconst (v := zI (0)) dX10_feed_34 (by decide) ?_
        refine pw_istore (lv' := [some (.ref B), some (.int (zI (p))), some (.long (v)), none, some (.int (zI (k))), some (.int (zI (0)))]) dX10_feed_35 (by decide) rfl rfl ?_
        refine pw_iload dX10_feed_37 rfl ?_
        refine pw_iload dX10_feed_39 rfl ?_
        refine pw_icmp_ge (tgt := 74) dX10_feed_41 rfl (by omega) (by omega) (fun c41 => ?_) (fun c41 => ?_)
        ·
          have eT : (mFd s p k) = 2 := by unfold mFd; split <;> (try split) <;> omega
          exact pw_vret dX10_feed_74 rfl (nle rfl) (nle rfl) ⟨rfl, (mV 0 (2) s), hA3, (show (2 : Int) = (mFd s p k) from eT.symm), Or.inl ⟨by rw [eT]; decide, by rw [eT]⟩, hF3, rfl⟩
        ·
          refine pw_aload_n dX10_feed_44 rfl ?_
          refine pw_get (v := .int (zI (2))) okX10 (k := 0) (by decide) lkX10_173 hA3.1 rfl dX10_feed_45 ?_
          refine pw_if_ne (tgt := 74) dX10_feed_48 rfl (by omega) (fun c48 => ?_) (fun c48 => ?_)
          ·
            have eT : (mFd s p k) = 2 := by unfold mFd; split <;> (try split) <;> omega
            exact pw_vret dX10_feed_74 rfl (nle rfl) (nle rfl) ⟨rfl, (mV 0 (2) s), hA3, (show (2 : Int) = (mFd s p k) from eT.symm), Or.inl ⟨by rw [eT]; decide, by rw [eT]⟩, hF3, rfl⟩
          · exfalso; omega
  ·
    refine pw_iconst (v := zI (1)) dX10_feed_9 (by decide) ?_
    refine pw_goto (tgt := 31) dX10_feed_10 rfl ?_
    refine pw_put (fs' := (moL B (va_up s.1 0 (1)))) okX10 (k := 0) (by decide) lkX10_173 rfl rfl rfl hA.1 (nlt rfl) rfl dX10_feed_31 ?_
    have hA4 : mAt B (mV 0 (1) s) (va_up h B (pz_o 13 (moL B (va_up s.1 0 (1))))) := mAt_V hA
    have hF4 : mFr B h (va_up h B (pz_o 13 (moL B (va_up s.1 0 (1))))) := mFr_tr mFr_rf (mFr_up (k := 0) (by decide))
    revert hA4 hF4
    generalize (va_up h B (pz_o 13 (moL B (va_up s.1 0 (1))))) = h4
    intro hA4 hF4
    refine pw_iconst (v := zI (0)) dX10_feed_34 (by decide) ?_
    refine pw_istore (lv' := [some (.ref B), some (.int (zI (p))), some (.long (v)), none, some (.int (zI (k))), some (.int (zI (0)))]) dX10_feed_35 (by decide) rfl rfl ?_
    refine pw_iload dX10_feed_37 rfl ?_
    refine pw_iload dX10_feed_39 rfl ?_
    refine pw_icmp_ge (tgt := 74) dX10_feed_41 rfl (by omega) (by omega) (fun c41 => ?_) (fun c41 => ?_)
    ·
      have eT : (mFd s p k) = 1 := by unfold mFd; split <;> (try split) <;> omega
      exact pw_vret dX10_feed_74 rfl (nle rfl) (nle rfl) ⟨rfl, (mV 0 (1) s), hA4, (show (1 : Int) = (mFd s p k) from eT.symm), Or.inl ⟨by rw [eT]; decide, by rw [eT]⟩, hF4, rfl⟩
    ·
      refine pw_aload_n dX10_feed_44 rfl ?_
      refine pw_get (v := .int (zI (1))) okX10 (k := 0) (by decide) lkX10_173 hA4.1 rfl dX10_feed_45 ?_
      refine pw_if_ne (tgt := 74) dX10_feed_48 rfl (by omega) (fun c48 => ?_) (fun c48 => ?_)
      ·
        have eT : (mFd s p k) = 1 := by unfold mFd; split <;> (try split) <;> omega
        exact pw_vret dX10_feed_74 rfl (nle rfl) (nle rfl) ⟨rfl, (mV 0 (1) s), hA4, (show (1 : Int) = (mFd s p k) from eT.symm), Or.inl ⟨by rw [eT]; decide, by rw [eT]⟩, hF4, rfl⟩
      · exfalso; omega
