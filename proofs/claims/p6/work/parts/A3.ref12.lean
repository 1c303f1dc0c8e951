def YX10_begin : pw_Y := (RX10, "begin", cX10_begin, 4, none)
theorem ywX10_begin : pw_y yX10_begin YX10_begin 3 := ⟨by decide +kernel, by decide +kernel, by decide +kernel, pw_in 1318 (by decide +kernel) (by decide +kernel), pw_in 106 (by decide +kernel) (by decide +kernel)⟩
def YX10_init : pw_Y := (RX10, "<init>", cX10_init, 4, none)
theorem ywX10_init : pw_y yX10_init YX10_init 2 := ⟨by decide +kernel, by decide +kernel, by decide +kernel, pw_in 1313 (by decide +kernel) (by decide +kernel), pw_in 106 (by decide +kernel) (by decide +kernel)⟩
theorem naBool : Cond.arrayClass .boolean ∈ pw_G := pw_in 1514 (by decide +kernel) (by decide +kernel)
theorem cwX10_1 : Cond.methodLink RX10 1 objectInit ∈ pw_G := pw_in 1314 (by decide +kernel) (by decide +kernel)
theorem lkX10_17 : Cond.fieldLink RX10 17 (TX10 5).1 (TX10 5).2.1 (TX10 5).2.2.1 ∈ pw_G := pw_in 1335 (by decide +kernel) (by decide +kernel)
theorem lkX10_20 : Cond.fieldLink RX10 20 (TX10 6).1 (TX10 6).2.1 (TX10 6).2.2.1 ∈ pw_G := pw_in 1336 (by decide +kernel) (by decide +kernel)
theorem lkX10_23 : Cond.fieldLink RX10 23 (TX10 7).1 (TX10 7).2.1 (TX10 7).2.2.1 ∈ pw_G := pw_in 1337 (by decide +kernel) (by decide +kernel)
theorem lkX10_26 : Cond.fieldLink RX10 26 (TX10 8).1 (TX10 8).2.1 (TX10 8).2.2.1 ∈ pw_G := pw_in 1338 (by decide +kernel) (by decide +kernel)
theorem lkX10_29 : Cond.fieldLink RX10 29 (TX10 9).1 (TX10 9).2.1 (TX10 9).2.2.1 ∈ pw_G := pw_in 1339 (by decide +kernel) (by decide +kernel)
theorem lkX10_44 : Cond.fieldLink RX10 44 (TX10 15).1 (TX10 15).2.1 (TX10 15).2.2.1 ∈ pw_G := pw_in 1345 (by decide +kernel) (by decide +kernel)
theorem lkX10_153 : Cond.fieldLink RX10 153 (TX10 58).1 (TX10 58).2.1 (TX10 58).2.2.1 ∈ pw_G := pw_in 1388 (by decide +kernel) (by decide +kernel)
theorem lkX10_156 : Cond.fieldLink RX10 156 (TX10 59).1 (TX10 59).2.1 (TX10 59).2.2.1 ∈ pw_G := pw_in 1389 (by decide +kernel) (by decide +kernel)
theorem lkX10_159 : Cond.fieldLink RX10 159 (TX10 60).1 (TX10 60).2.1 (TX10 60).2.2.1 ∈ pw_G := pw_in 1390 (by decide +kernel) (by decide +kernel)
theorem cwX10_169 : Cond.methodLink RX10 169 yX10_begin ∈ pw_G ∧ Cond.instanceMethod yX10_begin ∈ pw_G ∧ Cond.selects RX10 yX10_begin yX10_begin ∈ pw_G := ⟨pw_in 1315 (by decide +kernel) (by decide +kernel), pw_in 1317 (by decide +kernel) (by decide +kernel), pw_in 32 (by decide +kernel) (by decide +kernel)⟩
/-! ===== the reference, made ===== -/
def moLr (B r : Nat) (V : Nat → Int) : List Value := [.int (zI (V 0)), .int (zI (V 1)), .int (zI (V 2)), (cond (Nat.ble 1 r) (.ref (B + 1 + 0)) .null), (cond (Nat.ble 2 r) (.ref (B + 1 + 1)) .null), (cond (Nat.ble 3 r) (.ref (B + 1 + 2)) .null), (cond (Nat.ble 4 r) (.ref (B + 1 + 3)) .null), (cond (Nat.ble 5 r) (.ref (B + 1 + 4)) .null), (cond (Nat.ble 6 r) (.ref (B + 1 + 5)) .null), (cond (Nat.ble 7 r) (.ref (B + 1 + 6)) .null), (cond (Nat.ble 8 r) (.ref (B + 1 + 7)) .null), (cond (Nat.ble 9 r) (.ref (B + 1 + 8)) .null), (cond (Nat.ble 10 r) (.ref (B + 1 + 9)) .null), (cond (Nat.ble 11 r) (.ref (B + 1 + 10)) .null), .int (zI (V 14)), (cond (Nat.ble 12 r) (.ref (B + 1 + 11)) .null), (cond (Nat.ble 13 r) (.ref (B + 1 + 12)) .null), (cond (Nat.ble 14 r) (.ref (B + 1 + 13)) .null), (cond (Nat.ble 15 r) (.ref (B + 1 + 14)) .null), (cond (Nat.ble 16 r) (.ref (B + 1 + 15)) .null), (cond (Nat.ble 17 r) (.ref (B + 1 + 16)) .null), (cond (Nat.ble 18 r) (.ref (B + 1 + 17)) .null), (cond (Nat.ble 19 r) (.ref (B + 1 + 18)) .null), (cond (Nat.ble 20 r) (.ref (B + 1 + 19)) .null), (cond (Nat.ble 21 r) (.ref (B + 1 + 20)) .null), (cond (Nat.ble 22 r) (.ref (B + 1 + 21)) .null), (cond (Nat.ble 23 r) (.ref (B + 1 + 22)) .null), (cond (Nat.ble 24 r) (.ref (B + 1 + 23)) .null), (cond (Nat.ble 25 r) (.ref (B + 1 + 24)) .null), (cond (Nat.ble 26 r) (.ref (B + 1 + 25)) .null), (cond (Nat.ble 27 r) (.ref (B + 1 + 26)) .null), (cond (Nat.ble 28 r) (.ref (B + 1 + 27)) .null), (cond (Nat.ble 29 r) (.ref (B + 1 + 28)) .null), (cond (Nat.ble 30 r) (.ref (B + 1 + 29)) .null), (cond (Nat.ble 31 r) (.ref (B + 1 + 30)) .null), (cond (Nat.ble 32 r) (.ref (B + 1 + 31)) .null), (cond (Nat.ble 33 r) (.ref (B + 1 + 32)) .null), (cond (Nat.ble 34 r) (.ref (B + 1 + 33)) .null), (cond (Nat.ble 35 r) (.ref (B + 1 + 34)) .null), (cond (Nat.ble 36 r) (.ref (B + 1 + 35)) .null), (cond (Nat.ble 37 r) (.ref (B + 1 + 36)) .null), (cond (Nat.ble 38 r) (.ref (B + 1 + 37)) .null), (cond (Nat.ble 39 r) (.ref (B + 1 + 38)) .null), (cond (Nat.ble 40 r) (.ref (B + 1 + 39)) .null), (cond (Nat.ble 41 r) (.ref (B + 1 + 40)) .null), (cond (Nat.ble 42 r) (.ref (B + 1 + 41)) .null), (cond (Nat.ble 43 r) (.ref (B + 1 + 42)) .null), .int (zI (V 47)), .int (zI (V 48)), .int (zI (V 49)), (cond (Nat.ble 44 r) (.ref (B + 1 + 43)) .null), (cond (Nat.ble 45 r) (.ref (B + 1 + 44)) .null), (cond (Nat.ble 46 r) (.ref (B + 1 + 45)) .null), .int (zI (V 53)), .int (zI (V 54)), .int (zI (V 55)), .int (zI (V 56)), .int (zI (V 57)), (cond (Nat.ble 47 r) (.ref (B + 1 + 46)) .null), (cond (Nat.ble 48 r) (.ref (B + 1 + 47)) .null), (cond (Nat.ble 49 r) (.ref (B + 1 + 48)) .null)]
def mAt0 (B r : Nat) (V : Nat → Int) (h : pz_H) : Prop := h B = pz_o 13 (moLr B r V) ∧ ∀ q ∈ mTb, q.2.1 < r → h (B + 1 + q.2.1) = pz_z q.2.2.1 q.2.2.2 (fun _ => 0)
theorem mAt0_s {B r : Nat} {V : Nat → Int} {h : pz_H} {q : Nat × Nat × Nat × Nat} (hq : q ∈ mTb) (hr : q.2.1 = r) (hA : mAt0 B r V h) : mAt0 B (r + 1) V (va_up (va_up h (B + 1 + r) (pz_z q.2.2.1 q.2.2.2 (fun _ => 0))) B (pz_o 13 (moLr B (r + 1) V))) := by
  refine ⟨va_up_self _ _ _, fun q2 hq2 hr2 => ?_⟩
  rw [va_up_ne _ _ (by omega)]
  by_cases e : q2.2.1 = r
  · have e2 : q2 = q := mTb_2 q2 hq2 q hq (by omega)
    subst e2
    rw [e, va_up_self]
  · rw [va_up_ne _ _ (by omega)]
    exact hA.2 q2 hq2 (by omega)
theorem mAt0_v {B r : Nat} {V V2 : Nat → Int} {h : pz_H} (hA : mAt0 B r V h) : mAt0 B r V2 (va_up h B (pz_o 13 (moLr B r V2))) :=
  ⟨va_up_self _ _ _, fun q hq hr => (va_up_ne _ _ (by omega)).trans (hA.2 q hq hr)⟩
theorem mAt0_e {B : Nat} {V : Nat → Int} {h : pz_H} (hA : mAt0 B 49 V h) : mAt B (V, fun _ _ => 0) h := ⟨hA.1, fun q hq => hA.2 q hq (mTb_3 q hq)⟩
def mS0 : mS := ((va_up (fun _ => (0 : Int)) 55 1), fun _ _ => 0)
theorem ite00 : (fun i : Nat => if i = 0 then (0 : Int) else 0) = fun _ => 0 := by
  funext i
  split <;> rfl
theorem up0 {f : Nat → Int} {v : Int} (hf : ∀ i, f i = 0) : va_up f 0 v = fun i => if i = 0 then v else 0 := by
  funext i
  by_cases e : i = 0
  · rw [e, va_up_self, if_pos rfl]
  · rw [va_up_ne _ _ e, if_neg e, hf]
/-- pane 0 is being blanked: so many of its cells are -/
def mBk (s s1 : mS) (m : Int) : Prop := s1.1 = s.1 ∧ (∀ k, k ≠ 20 → k ≠ 21 → s1.2 k = s.2 k) ∧ (∀ i, s1.2 21 i = 0) ∧ ∀ i : Nat, (i : Int) < m → s1.2 20 i = 32
theorem mBk_s {s s1 : mS} {m : Int} (hb : mBk s s1 m) (h0 : 0 ≤ m) : mBk s (mA 21 (va_up (s1.2 21) m.toNat 0) (mA 20 (va_up (s1.2 20) m.toNat 32) s1)) (m + 1) := by
  obtain ⟨b1, b2, b3, b4⟩ := hb
  refine ⟨b1, fun k h1 h2 => ?_, fun i => ?_, fun i hi => ?_⟩
  · show va_up (va_up s1.2 20 _) 21 _ k = s.2 k
    rw [va_up_ne _ _ h2, va_up_ne _ _ h1]
    exact b2 k h1 h2
  · show va_up (s1.2 21) m.toNat 0 i = 0
    by_cases e : i = m.toNat
    · rw [e, va_up_self]
    · rw [va_up_ne _ _ e]; exact b3 i
  · show va_up (s1.2 20) m.toNat 32 i = 32
    by_cases e : i = m.toNat
    · rw [e, va_up_self]
    · rw [va_up_ne _ _ e]; exact b4 i (by omega)
set_option maxHeartbeats 1000000 in
set_option maxRecDepth 100000 in
/-- blank(i, a) -/
theorem nR_blank {E : pw_E} (htr : E.1.stackTraces = false) {h : pz_H} {n : Nat} {B : Nat} {s : mS} (hA : mAt B s h) {i a : Int}  (hi : 0 ≤ i ∧ i < 10240) : pw_M E yX10_blank YX10_blank (rmD 0 0 0) [.ref B, .int (zI (i)), .int (zI (a))] h n (fun r0 h' n' => r0 = none ∧ mAt B (mA 21 (va_up (s.2 21) i.toNat a) (mA 20 (va_up (s.2 20) i.toNat 32) s)) h' ∧ mFr B h h' ∧ n' = n) (fun _ _ _ => False) := by
  refine pw_M_of (lv := [some (.ref B), some (.int (zI (i))), some (.int (zI (a)))]) (by decide) rfl rfl htr (nle rfl) rfl (fun L => ?_)
  refine pw_aload_n dX10_blank_0 rfl ?_
  refine pw_get (v := .ref (B + 17)) okX10 (k := 20) (by decide) lkX10_59 hA.1 rfl dX10_blank_1 ?_
  refine pw_iload_n dX10_blank_4 rfl ?_
  refine pw_bipush (v := zI (32)) dX10_blank_5 (by decide) ?_
  refine pw_iast (g := (s.2 20)) (t := 0) rfl (mF20 (s := s) hA) (by omega) (by decide) dX10_blank_7 ?_
  have hA1 : mAt B (mA 20 (va_up (s.2 20) (i).toNat (32)) s) (va_up h (B + 17) (pz_z 0 10240 (va_up (s.2 20) (i).toNat (32)))) := mU20 hA
  have hF1 : mFr B h (va_up h (B + 17) (pz_z 0 10240 (va_up (s.2 20) (i).toNat (32)))) := mFr_tr mFr_rf (mFr_up (by decide))
  revert hA1 hF1
  generalize (va_up h (B + 17) (pz_z 0 10240 (va_up (s.2 20) (i).toNat (32)))) = h1
  intro hA1 hF1
  refine pw_aload_n dX10_blank_8 rfl ?_
  refine pw_get (v := .ref (B + 18)) okX10 (k := 21) (by decide) lkX10_62 hA1.1 rfl dX10_blank_9 ?_
  refine pw_iload_n dX10_blank_12 rfl ?_
  refine pw_iload_n dX10_blank_13 rfl ?_
  refine pw_iast (g := (s.2 21)) (t := 0) rfl (mF21 (s := (mA 20 (va_up (s.2 20) (i).toNat (32)) s)) hA1) (by omega) (by decide) dX10_blank_14 ?_
  have hA2 : mAt B (mA 21 (va_up (s.2 21) (i).toNat (a)) (mA 20 (va_up (s.2 20) (i).toNat (32)) s)) (va_up h1 (B + 18) (pz_z 0 10240 (va_up (s.2 21) (i).toNat (a)))) := mU21 hA1
  have hF2 : mFr B h (va_up h1 (B + 18) (pz_z 0 10240 (va_up (s.2 21) (i).toNat (a)))) := mFr_tr hF1 (mFr_up (by decide))
  revert hA2 hF2
  generalize (va_up h1 (B + 18) (pz_z 0 10240 (va_up (s.2 21) (i).toNat (a)))) = h2
  intro hA2 hF2
  exact pw_vret dX10_blank_15 rfl (nle rfl) (nle rfl) ⟨rfl, hA2, hF2, rfl⟩
set_option maxHeartbeats 1000000 in
set_option maxRecDepth 100000 in
theorem lN_res1 {E : pw_E} (htr : E.1.stackTraces = false) {Kk : pw_K} {h : pz_H} {n B : Nat} {s : mS} {wh : Int} (hwh : 0 ≤ wh ∧ wh ≤ 1) : ∀ (j : Nat) (k : Int) (s1 : mS) (h1 : pz_H), (640 - k).toNat = j → 0 ≤ k → k ≤ 640 → mAt B s1 h1 → mBk s s1 (640 * wh + k) → mFr B h h1 → (∀ (k9 : Int) (s2 : mS) (h2 : pz_H), mAt B s2 h2 → mBk s s2 (640 * wh + 640) → mFr B h h2 → pw E YX10_reset (rmD 1 0 0) Kk 0 0 36 [some (.ref B), some (.int (zI (0))), some (.int (zI (wh))), some (.int (zI (k9)))] [] h2 n) → pw E YX10_reset (rmD 1 0 0) Kk 0 0 9 [some (.ref B), some (.int (zI (0))), some (.int (zI (wh))), some (.int (zI (k)))] [] h1 n := by
  intro j
  induction j with
  | zero =>
    intro k s1 h1 hj i1 i2 hA hb hF kk
    refine pw_iload_n dX10_reset_9 rfl ?_
    refine pw_sipush (v := zI (640)) dX10_reset_10 (by decide) ?_
    refine pw_icmp_ge (tgt := 36) dX10_reset_13 rfl (by omega) (by omega) (fun c13 => ?_) (fun c13 => ?_)
    ·
      exact kk k s1 h1 hA (by rw [show 640 * wh + 640 = 640 * wh + k by omega]; exact hb) hF
    · exfalso; omega
  | succ j ih =>
    intro k s1 h1 hj i1 i2 hA hb hF kk
    refine pw_iload_n dX10_reset_9 rfl ?_
    refine pw_sipush (v := zI (640)) dX10_reset_10 (by decide) ?_
    refine pw_icmp_ge (tgt := 36) dX10_reset_13 rfl (by omega) (by omega) (fun c13 => ?_) (fun c13 => ?_)
    · exfalso; omega
    ·
      refine pw_aload_n dX10_reset_16 rfl ?_
      refine pw_iload_n dX10_reset_17 rfl ?_
      refine pw_iload_n dX10_reset_18 rfl ?_
      refine pw_iconst (v := zI (0)) dX10_reset_19 (by decide) ?_
      refine pw_iconst (v := zI (0)) dX10_reset_20 (by decide) ?_
      refine pw_callS (As := [.int (zI (0)), .int (zI (wh)), .int (zI (0)), .int (zI (0))]) (rm := rmD 0 0 0) (mR_cellOf htr) rfl ywX10_cellOf rfl cwX10_180 ⟨nle rfl, nle rfl⟩ (nle rfl) ⟨nle rfl, nle rfl⟩ dX10_reset_21 ?_ (fun _ _ _ z => z.elim)
      intro r_9 h_9 n_9 hq _
      rw [hq.1, hq.2.1, hq.2.2]
      show pw E YX10_reset _ _ 0 0 24 [some (.ref B), some (.int (zI (0))), some (.int (zI (wh))), some (.int (zI (k)))] [.int (zI (mCell 0 wh 0 0)), .ref B] h1 n
      refine pw_iload_n dX10_reset_24 rfl ?_
      refine pw_ziadd dX10_reset_25 ?_
      refine pw_iconst (v := zI (0)) dX10_reset_26 (by decide) ?_
      have ex : mCell 0 wh 0 0 + k = 640 * wh + k := by unfold mCell; omega
      refine pw_callV (As := [.int (zI ((mCell 0 wh 0 0) + (k))), .int (zI (0))]) (b := B) (rm := rmD 0 0 0) (nR_blank htr hA (by rw [ex]; omega)) rfl hA.1 rfl rfl ywX10_blank rfl cwX10_184 ⟨nle rfl, nle rfl⟩ (nle rfl) ⟨nle rfl, nle rfl⟩ dX10_reset_27 ?_ (fun _ _ _ z => z.elim)
      intro r_9 h1 n_9 hq _
      obtain ⟨e1, hA1, hF10, e4⟩ := hq
      rw [e1, e4]
      rw [ex] at hA1
      show pw E YX10_reset _ _ 0 0 30 [some (.ref B), some (.int (zI (0))), some (.int (zI (wh))), some (.int (zI (k)))] [] h1 n
      have hF1 := mFr_tr hF hF10
      refine pw_ziinc (lv' := [some (.ref B), some (.int (zI (0))), some (.int (zI (wh))), some (.int (zI (k + 1)))]) dX10_reset_30 rfl (by decide) rfl rfl ?_
      refine pw_goto (tgt := 9) dX10_reset_33 rfl ?_
      exact ih (k + 1) _ h1 (by omega) (by omega) (by omega) hA1 (by rw [show 640 * wh + (k + 1) = 640 * wh + k + 1 by omega]; exact mBk_s hb (by omega)) hF1 kk
set_option maxHeartbeats 1000000 in
set_option maxRecDepth 100000 in
theorem lN_res2 {E : pw_E} (htr : E.1.stackTraces = false) {Kk : pw_K} {h : pz_H} {n B : Nat} {s : mS} : ∀ (j : Nat) (wh : Int) (q : Option Value) (s1 : mS) (h1 : pz_H), (2 - wh).toNat = j → 0 ≤ wh → wh ≤ 2 → mAt B s1 h1 → mBk s s1 (640 * wh) → mFr B h h1 → (∀ (wh9 : Int) (q9 : Option Value) (s2 : mS) (h2 : pz_H), mAt B s2 h2 → mBk s s2 1280 → mFr B h h2 → pw E YX10_reset (rmD 1 0 0) Kk 0 0 42 [some (.ref B), some (.int (zI (0))), some (.int (zI (wh9))), q9] [] h2 n) → pw E YX10_reset (rmD 1 0 0) Kk 0 0 2 [some (.ref B), some (.int (zI (0))), some (.int (zI (wh))), q] [] h1 n := by
  intro j
  induction j with
  | zero =>
    intro wh q s1 h1 hj i1 i2 hA hb hF kk
    refine pw_iload_n dX10_reset_2 rfl ?_
    refine pw_iconst (v := zI (2)) dX10_reset_3 (by decide) ?_
    refine pw_icmp_ge (tgt := 42) dX10_reset_4 rfl (by omega) (by omega) (fun c4 => ?_) (fun c4 => ?_)
    ·
      exact kk wh q s1 h1 hA (by rw [show (1280 : Int) = 640 * wh by omega]; exact hb) hF
    · exfalso; omega
  | succ j ih =>
    intro wh q s1 h1 hj i1 i2 hA hb hF kk
    refine pw_iload_n dX10_reset_2 rfl ?_
    refine pw_iconst (v := zI (2)) dX10_reset_3 (by decide) ?_
    refine pw_icmp_ge (tgt := 42) dX10_reset_4 rfl (by omega) (by omega) (fun c4 => ?_) (fun c4 => ?_)
    · exfalso; omega
    ·
      refine pw_iconst (v := zI (0)) dX10_reset_7 (by decide) ?_
      refine pw_istore_n (lv' := [some (.ref B), some (.int (zI (0))), some (.int (zI (wh))), some (.int (zI (0)))]) dX10_reset_8 (by decide) rfl rfl ?_
      refine lN_res1 htr (by omega) _ 0 s1 h1 rfl (by omega) (by omega) hA (by rw [Int.add_zero]; exact hb) hF (fun k9 s9 h9 hA9 hb9 hF9 => ?_)
      refine pw_ziinc (lv' := [some (.ref B), some (.int (zI (0))), some (.int (zI (wh + 1))), some (.int (zI (k9)))]) dX10_reset_36 rfl (by decide) rfl rfl ?_
      refine pw_goto (tgt := 2) dX10_reset_39 rfl ?_
      exact ih (wh + 1) _ s9 h9 (by omega) (by omega) (by omega) hA9 (by rw [show 640 * (wh + 1) = 640 * wh + 640 by omega]; exact hb9) hF9 kk
/-- what reset(0) leaves -/
def mRs0 (s s1 : mS) : Prop := s1.1 = s.1 ∧ (s1.2 3 = s.2 3 ∧ s1.2 4 = s.2 4 ∧ s1.2 5 = s.2 5 ∧ s1.2 6 = s.2 6 ∧ s1.2 7 = s.2 7 ∧ s1.2 8 = s.2 8 ∧ s1.2 9 = s.2 9 ∧ s1.2 10 = s.2 10 ∧ s1.2 11 = s.2 11 ∧ s1.2 12 = s.2 12 ∧ s1.2 13 = s.2 13 ∧ s1.2 15 = s.2 15 ∧ s1.2 16 = s.2 16 ∧ s1.2 17 = s.2 17 ∧ s1.2 18 = s.2 18 ∧ s1.2 19 = s.2 19 ∧ s1.2 22 = va_up (s.2 22) 0 0 ∧ s1.2 23 = va_up (s.2 23) 0 0 ∧ s1.2 24 = va_up (s.2 24) 0 0 ∧ s1.2 25 = va_up (s.2 25) 0 0 ∧ s1.2 26 = va_up (s.2 26) 0 0 ∧ s1.2 27 = va_up (s.2 27) 0 0 ∧ s1.2 28 = va_up (s.2 28) 0 0 ∧ s1.2 29 = va_up (s.2 29) 0 0 ∧ s1.2 30 = va_up (s.2 30) 0 (s.2 19 0 - 1) ∧ s1.2 31 = va_up (s.2 31) 0 0 ∧ s1.2 32 = va_up (s.2 32) 0 0 ∧ s1.2 33 = va_up (s.2 33) 0 1 ∧ s1.2 34 = va_up (s.2 34) 0 0 ∧ s1.2 35 = va_up (s.2 35) 0 0 ∧ s1.2 36 = s.2 36 ∧ s1.2 37 = s.2 37 ∧ s1.2 38 = s.2 38 ∧ s1.2 39 = s.2 39 ∧ s1.2 40 = s.2 40 ∧ s1.2 41 = s.2 41 ∧ s1.2 42 = va_up (s.2 42) 0 0 ∧ s1.2 43 = s.2 43 ∧ s1.2 44 = s.2 44 ∧ s1.2 45 = s.2 45 ∧ s1.2 46 = s.2 46 ∧ s1.2 50 = s.2 50 ∧ s1.2 51 = s.2 51 ∧ s1.2 52 = s.2 52 ∧ s1.2 58 = s.2 58 ∧ s1.2 59 = s.2 59 ∧ s1.2 60 = s.2 60) ∧ (∀ i, s1.2 21 i = 0) ∧ ∀ i, i < 1280 → s1.2 20 i = 32
set_option maxHeartbeats 1000000 in
set_option maxRecDepth 100000 in
/-- reset(0) -/
theorem nR_reset0 {E : pw_E} (htr : E.1.stackTraces = false) {h : pz_H} {n : Nat} {B : Nat} {s : mS} (hA : mAt B s h)  (hz : ∀ i, s.2 21 i = 0) : pw_M E yX10_reset YX10_reset (rmD 1 0 0) [.ref B, .int (zI (0))] h n (fun r0 h' n' => r0 = none ∧ ∃ s', mAt B s' h' ∧ mRs0 s s' ∧ mFr B h h' ∧ n' = n) (fun _ _ _ => False) := by
  refine pw_M_of (lv := [some (.ref B), some (.int (zI (0))), none, none]) (by decide) rfl rfl htr (nle rfl) rfl (fun L => ?_)
  refine pw_iconst (v := zI (0)) dX10_reset_0 (by decide) ?_
  refine pw_istore_n (lv' := [some (.ref B), some (.int (zI (0))), some (.int (zI (0))), none]) dX10_reset_1 (by decide) rfl rfl ?_
  refine lN_res2 (s := s) htr _ 0 _ s h rfl (by omega) (by omega) hA ⟨rfl, fun _ _ _ => rfl, hz, fun i hi => by omega⟩ mFr_rf (fun wh9 q9 s9 h9 hA9 hb9 hF9 => ?_)
  refine pw_aload_n dX10_reset_42 rfl ?_
  refine pw_get (v := .ref (B + 19)) okX10 (k := 22) (by decide) lkX10_65 hA9.1 rfl dX10_reset_43 ?_
  refine pw_iload_n dX10_reset_46 rfl ?_
  refine pw_iconst (v := zI (0)) dX10_reset_47 (by decide) ?_
  refine pw_zast (g := (s9.2 22)) (t := 1) rfl (mF22 (s := s9) hA9) (by omega) (by decide) (by omega) dX10_reset_48 ?_
  have hA11 : mAt B (mA 22 (va_up (s9.2 22) (0 : Int).toNat (0)) s9) (va_up h9 (B + 19) (pz_z 1 8 (va_up (s9.2 22) (0 : Int).toNat (0)))) := mU22 hA9
  have hF11 : mFr B h (va_up h9 (B + 19) (pz_z 1 8 (va_up (s9.2 22) (0 : Int).toNat (0)))) := mFr_tr hF9 (mFr_up (by decide))
  revert hA11 hF11
  generalize (va_up h9 (B + 19) (pz_z 1 8 (va_up (s9.2 22) (0 : Int).toNat (0)))) = h11
  intro hA11 hF11
  refine pw_aload_n dX10_reset_49 rfl ?_
  refine pw_get (v := .ref (B + 20)) okX10 (k := 23) (by decide) lkX10_68 hA11.1 rfl dX10_reset_50 ?_
  refine pw_iload_n dX10_reset_53 rfl ?_
  refine pw_iconst (v := zI (0)) dX10_reset_54 (by decide) ?_
  refine pw_iast (g := (s9.2 23)) (t := 0) rfl (mF23 (s := (mA 22 (va_up (s9.2 22) (0 : Int).toNat (0)) s9)) hA11) (by omega) (by decide) dX10_reset_55 ?_
  have hA12 : mAt B (mA 23 (va_up (s9.2 23) (0 : Int).toNat (0)) (mA 22 (va_up (s9.2 22) (0 : Int).toNat (0)) s9)) (va_up h11 (B + 20) (pz_z 0 8 (va_up (s9.2 23) (0 : Int).toNat (0)))) := mU23 hA11
  have hF12 : mFr B h (va_up h11 (B + 20) (pz_z 0 8 (va_up (s9.2 23) (0 : Int).toNat (0)))) := mFr_tr hF11 (mFr_up (by decide))
  revert hA12 hF12
  generalize (va_up h11 (B + 20) (pz_z 0 8 (va_up (s9.2 23) (0 : Int).toNat (0)))) = h12
  intro hA12 hF12
  refine pw_aload_n dX10_reset_56 rfl ?_
  refine pw_get (v := .ref (B + 21)) okX10 (k := 24) (by decide) lkX10_71 hA12.1 rfl dX10_reset_57 ?_
  refine pw_iload_n dX10_reset_60 rfl ?_
  refine pw_iconst (v := zI (0)) dX10_reset_61 (by decide) ?_
  refine pw_iast (g := (s9.2 24)) (t := 0) rfl (mF24 (s := (mA 23 (va_up (s9.2 23) (0 : Int).toNat (0)) (mA 22 (va_up (s9.2 22) (0 : Int).toNat (0)) s9))) hA12) (by omega) (by decide) dX10_reset_62 ?_
  have hA13 : mAt B (mA 24 (va_up (s9.2 24) (0 : Int).toNat (0)) (mA 23 (va_up (s9.2 23) (0 : Int).toNat (0)) (mA 22 (va_up (s9.2 22) (0 : Int).toNat (0)) s9))) (va_up h12 (B + 21) (pz_z 0 8 (va_up (s9.2 24) (0 : Int).toNat (0)))) := mU24 hA12
  have hF13 : mFr B h (va_up h12 (B + 21) (pz_z 0 8 (va_up (s9.2 24) (0 : Int).toNat (0)))) := mFr_tr hF12 (mFr_up (by decide))
  revert hA13 hF13
  generalize (va_up h12 (B + 21) (pz_z 0 8 (va_up (s9.2 24) (0 : Int).toNat (0)))) = h13
  intro hA13 hF13
  refine pw_aload_n dX10_reset_63 rfl ?_
  refine pw_get (v := .ref (B + 22)) okX10 (k := 25) (by decide) lkX10_74 hA13.1 rfl dX10_reset_64 ?_
  refine pw_iload_n dX10_reset_67 rfl ?_
  refine pw_iconst (v := zI (0)) dX10_reset_68 (by decide) ?_
  refine pw_iast (g := (s9.2 25)) (t := 0) rfl (mF25 (s := (mA 24 (va_up (s9.2 24) (0 : Int).toNat (0)) (mA 23 (va_up (s9.2 23) (0 : Int).toNat (0)) (mA 22 (va_up (s9.2 22) (0 : Int).toNat (0)) s9)))) hA13) (by omega) (by decide) dX10_reset_69 ?_
  have hA14 : mAt B (mA 25 (va_up (s9.2 25) (0 : Int).toNat (0)) (mA 24 (va_up (s9.2 24) (0 : Int).toNat (0)) (mA 23 (va_up (s9.2 23) (0 : Int).toNat (0)) (mA 22 (va_up (s9.2 22) (0 : Int).toNat (0)) s9)))) (va_up h13 (B + 22) (pz_z 0 8 (va_up (s9.2 25) (0 : Int).toNat (0)))) := mU25 hA13
  have hF14 : mFr B h (va_up h13 (B + 22) (pz_z 0 8 (va_up (s9.2 25) (0 : Int).toNat (0)))) := mFr_tr hF13 (mFr_up (by decide))
  revert hA14 hF14
  generalize (va_up h13 (B + 22) (pz_z 0 8 (va_up (s9.2 25) (0 : Int).toNat (0)))) = h14
  intro hA14 hF14
  refine pw_aload_n dX10_reset_70 rfl ?_
  refine pw_get (v := .ref (B + 23)) okX10 (k := 26) (by decide) lkX10_77 hA14.1 rfl dX10_reset_71 ?_
  refine pw_iload_n dX10_reset_74 rfl ?_
  refine pw_iconst (v := zI (0)) dX10_reset_75 (by decide) ?_
  refine pw_iast (g := (s9.2 26)) (t := 0) rfl (mF26 (s := (mA 25 (va_up (s9.2 25) (0 : Int).toNat (0)) (mA 24 (va_up (s9.2 24) (0 : Int).toNat (0)) (mA 23 (va_up (s9.2 23) (0 : Int).toNat (0)) (mA 22 (va_up (s9.2 22) (0 : Int).toNat (0)) s9))))) hA14) (by omega) (by decide) dX10_reset_76 ?_
  have hA15 : mAt B (mA 26 (va_up (s9.2 26) (0 : Int).toNat (0)) (mA 25 (va_up (s9.2 25) (0 : Int).toNat (0)) (mA 24 (va_up (s9.2 24) (0 : Int).toNat (0)) (mA 23 (va_up (s9.2 23) (0 : Int).toNat (0)) (mA 22 (va_up (s9.2 22) (0 : Int).toNat (0)) s9))))) (va_up h14 (B + 23) (pz_z 0 8 (va_up (s9.2 26) (0 : Int).toNat (0)))) := mU26 hA14
  have hF15 : mFr B h (va_up h14 (B + 23) (pz_z 0 8 (va_up (s9.2 26) (0 : Int).toNat (0)))) := mFr_tr hF14 (mFr_up (by decide))
  revert hA15 hF15
  generalize (va_up h14 (B + 23) (pz_z 0 8 (va_up (s9.2 26) (0 : Int).toNat (0)))) = h15
  intro hA15 hF15
  refine pw_aload_n dX10_reset_77 rfl ?_
  refine pw_get (v := .ref (B + 24)) okX10 (k := 27) (by decide) lkX10_80 hA15.1 rfl dX10_reset_78 ?_
  refine pw_iload_n dX10_reset_81 rfl ?_
  refine pw_iconst (v := zI (0)) dX10_reset_82 (by decide) ?_
  refine pw_iast (g := (s9.2 27)) (t := 0) rfl (mF27 (s := (mA 26 (va_up (s9.2 26) (0 : Int).toNat (0)) (mA 25 (va_up (s9.2 25) (0 : Int).toNat (0)) (mA 24 (va_up (s9.2 24) (0 : Int).toNat (0)) (mA 23 (va_up (s9.2 23) (0 : Int).toNat (0)) (mA 22 (va_up (s9.2 22) (0 : Int).toNat (0)) s9)))))) hA15) (by omega) (by decide) dX10_reset_83 ?_
  have hA16 : mAt B (mA 27 (va_up (s9.2 27) (0 : Int).toNat (0)) (mA 26 (va_up (s9.2 26) (0 : Int).toNat (0)) (mA 25 (va_up (s9.2 25) (0 : Int).toNat (0)) (mA 24 (va_up (s9.2 24) (0 : Int).toNat (0)) (mA 23 (va_up (s9.2 23) (0 : Int).toNat (0)) (mA 22 (va_up (s9.2 22) (0 : Int).toNat (0)) s9)))))) (va_up h15 (B + 24) (pz_z 0 8 (va_up (s9.2 27) (0 : Int).toNat (0)))) := mU27 hA15
  have hF16 : mFr B h (va_up h15 (B + 24) (pz_z 0 8 (va_up (s9.2 27) (0 : Int).toNat (0)))) := mFr_tr hF15 (mFr_up (by decide))
  revert hA16 hF16
  generalize (va_up h15 (B + 24) (pz_z 0 8 (va_up (s9.2 27) (0 : Int).toNat (0)))) = h16
  intro hA16 hF16
  refine pw_aload_n dX10_reset_84 rfl ?_
  refine pw_get (v := .ref (B + 25)) okX10 (k := 28) (by decide) lkX10_83 hA16.1 rfl dX10_reset_85 ?_
  refine pw_iload_n dX10_reset_88 rfl ?_
  refine pw_iconst (v := zI (0)) dX10_reset_89 (by decide) ?_
  refine pw_iast (g := (s9.2 28)) (t := 0) rfl (mF28 (s := (mA 27 (va_up (s9.2 27) (0 : Int).toNat (0)) (mA 26 (va_up (s9.2 26) (0 : Int).toNat (0)) (mA 25 (va_up (s9.2 25) (0 : Int).toNat (0)) (mA 24 (va_up (s9.2 24) (0 : Int).toNat (0)) (mA 23 (va_up (s9.2 23) (0 : Int).toNat (0)) (mA 22 (va_up (s9.2 22) (0 : Int).toNat (0)) s9))))))) hA16) (by omega) (by decide) dX10_reset_90 ?_
  have hA17 : mAt B (mA 28 (va_up (s9.2 28) (0 : Int).toNat (0)) (mA 27 (va_up (s9.2 27) (0 : Int).toNat (0)) (mA 26 (va_up (s9.2 26) (0 : Int).toNat (0)) (mA 25 (va_up (s9.2 25) (0 : Int).toNat (0)) (mA 24 (va_up (s9.2 24) (0 : Int).toNat (0)) (mA 23 (va_up (s9.2 23) (0 : Int).toNat (0)) (mA 22 (va_up (s9.2 22) (0 : Int).toNat (0)) s9))))))) (va_up h16 (B + 25) (pz_z 0 8 (va_up (s9.2 28) (0 : Int).toNat (0)))) := mU28 hA16
  have hF17 : mFr B h (va_up h16 (B + 25) (pz_z 0 8 (va_up (s9.2 28) (0 : Int).toNat (0)))) := mFr_tr hF16 (mFr_up (by decide))
  revert hA17 hF17
  generalize (va_up h16 (B + 25) (pz_z 0 8 (va_up (s9.2 28) (0 : Int).toNat (0)))) = h17
  intro hA17 hF17
  refine pw_aload_n dX10_reset_91 rfl ?_
  refine pw_get (v := .ref (B + 26)) okX10 (k := 29) (by decide) lkX10_86 hA17.1 rfl dX10_reset_92 ?_
  refine pw_iload_n dX10_reset_95 rfl ?_
  refine pw_iconst (v := zI (0)) dX10_reset_96 (by decide) ?_
  refine pw_iast (g := (s9.2 29)) (t := 0) rfl (mF29 (s := (mA 28 (va_up (s9.2 28) (0 : Int).toNat (0)) (mA 27 (va_up (s9.2 27) (0 : Int).toNat (0)) (mA 26 (va_up (s9.2 26) (0 : Int).toNat (0)) (mA 25 (va_up (s9.2 25) (0 : Int).toNat (0)) (mA 24 (va_up (s9.2 24) (0 : Int).toNat (0)) (mA 23 (va_up (s9.2 23) (0 : Int).toNat (0)) (mA 22 (va_up (s9.2 22) (0 : Int).toNat (0)) s9)))))))) hA17) (by omega) (by decide) dX10_reset_97 ?_
  have hA18 : mAt B (mA 29 (va_up (s9.2 29) (0 : Int).toNat (0)) (mA 28 (va_up (s9.2 28) (0 : Int).toNat (0)) (mA 27 (va_up (s9.2 27) (0 : Int).toNat (0)) (mA 26 (va_up (s9.2 26) (0 : Int).toNat (0)) (mA 25 (va_up (s9.2 25) (0 : Int).toNat (0)) (mA 24 (va_up (s9.2 24) (0 : Int).toNat (0)) (mA 23 (va_up (s9.2 23) (0 : Int).toNat (0)) (mA 22 (va_up (s9.2 22) (0 : Int).toNat (0)) s9)))))))) (va_up h17 (B + 26) (pz_z 0 8 (va_up (s9.2 29) (0 : Int).toNat (0)))) := mU29 hA17
  have hF18 : mFr B h (va_up h17 (B + 26) (pz_z 0 8 (va_up (s9.2 29) (0 : Int).toNat (0)))) := mFr_tr hF17 (mFr_up (by decide))
  revert hA18 hF18
  generalize (va_up h17 (B + 26) (pz_z 0 8 (va_up (s9.2 29) (0 : Int).toNat (0)))) = h18
  intro hA18 hF18
  refine pw_aload_n dX10_reset_98 rfl ?_
  refine pw_get (v := .ref (B + 27)) okX10 (k := 30) (by decide) lkX10_89 hA18.1 rfl dX10_reset_99 ?_
  refine pw_iload_n dX10_reset_102 rfl ?_
  refine pw_aload_n dX10_reset_103 rfl ?_
  refine pw_get (v := .ref (B + 16)) okX10 (k := 19) (by decide) lkX10_56 hA18.1 rfl dX10_reset_104 ?_
  refine pw_iload_n dX10_reset_107 rfl ?_
  refine pw_ialdv (v := (s9.2 19) 0) (t := 0) rfl (mF19 (s := (mA 29 (va_up (s9.2 29) (0 : Int).toNat (0)) (mA 28 (va_up (s9.2 28) (0 : Int).toNat (0)) (mA 27 (va_up (s9.2 27) (0 : Int).toNat (0)) (mA 26 (va_up (s9.2 26) (0 : Int).toNat (0)) (mA 25 (va_up (s9.2 25) (0 : Int).toNat (0)) (mA 24 (va_up (s9.2 24) (0 : Int).toNat (0)) (mA 23 (va_up (s9.2 23) (0 : Int).toNat (0)) (mA 22 (va_up (s9.2 22) (0 : Int).toNat (0)) s9))))))))) hA18) (by omega) (by decide) rfl dX10_reset_108 ?_
  refine pw_iconst (v := zI (1)) dX10_reset_109 (by decide) ?_
  refine pw_zisub dX10_reset_110 ?_
  refine pw_iast (g := (s9.2 30)) (t := 0) rfl (mF30 (s := (mA 29 (va_up (s9.2 29) (0 : Int).toNat (0)) (mA 28 (va_up (s9.2 28) (0 : Int).toNat (0)) (mA 27 (va_up (s9.2 27) (0 : Int).toNat (0)) (mA 26 (va_up (s9.2 26) (0 : Int).toNat (0)) (mA 25 (va_up (s9.2 25) (0 : Int).toNat (0)) (mA 24 (va_up (s9.2 24) (0 : Int).toNat (0)) (mA 23 (va_up (s9.2 23) (0 : Int).toNat (0)) (mA 22 (va_up (s9.2 22) (0 : Int).toNat (0)) s9))))))))) hA18) (by omega) (by decide) dX10_reset_111 ?_
  have hA19 : mAt B (mA 30 (va_up (s9.2 30) (0 : Int).toNat (((s9.2 19) 0) - (1))) (mA 29 (va_up (s9.2 29) (0 : Int).toNat (0)) (mA 28 (va_up (s9.2 28) (0 : Int).toNat (0)) (mA 27 (va_up (s9.2 27) (0 : Int).toNat (0)) (mA 26 (va_up (s9.2 26) (0 : Int).toNat (0)) (mA 25 (va_up (s9.2 25) (0 : Int).toNat (0)) (mA 24 (va_up (s9.2 24) (0 : Int).toNat (0)) (mA 23 (va_up (s9.2 23) (0 : Int).toNat (0)) (mA 22 (va_up (s9.2 22) (0 : Int).toNat (0)) s9))))))))) (va_up h18 (B + 27) (pz_z 0 8 (va_up (s9.2 30) (0 : Int).toNat (((s9.2 19) 0) - (1))))) := mU30 hA18
  have hF19 : mFr B h (va_up h18 (B + 27) (pz_z 0 8 (va_up (s9.2 30) (0 : Int).toNat (((s9.2 19) 0) - (1))))) := mFr_tr hF18 (mFr_up (by decide))
  revert hA19 hF19
  generalize (va_up h18 (B + 27) (pz_z 0 8 (va_up (s9.2 30) (0 : Int).toNat (((s9.2 19) 0) - (1))))) = h19
  intro hA19 hF19
  refine pw_aload_n dX10_reset_112 rfl ?_
  refine pw_get (v := .ref (B + 28)) okX10 (k := 31) (by decide) lkX10_92 hA19.1 rfl dX10_reset_113 ?_
  refine pw_iload_n dX10_reset_116 rfl ?_
  refine pw_iconst (v := zI (0)) dX10_reset_117 (by decide) ?_
  refine pw_zast (g := (s9.2 31)) (t := 1) rfl (mF31 (s := (mA 30 (va_up (s9.2 30) (0 : Int).toNat (((s9.2 19) 0) - (1))) (mA 29 (va_up (s9.2 29) (0 : Int).toNat (0)) (mA 28 (va_up (s9.2 28) (0 : Int).toNat (0)) (mA 27 (va_up (s9.2 27) (0 : Int).toNat (0)) (mA 26 (va_up (s9.2 26) (0 : Int).toNat (0)) (mA 25 (va_up (s9.2 25) (0 : Int).toNat (0)) (mA 24 (va_up (s9.2 24) (0 : Int).toNat (0)) (mA 23 (va_up (s9.2 23) (0 : Int).toNat (0)) (mA 22 (va_up (s9.2 22) (0 : Int).toNat (0)) s9)))))))))) hA19) (by omega) (by decide) (by omega) dX10_reset_118 ?_
  have hA20 : mAt B (mA 31 (va_up (s9.2 31) (0 : Int).toNat (0)) (mA 30 (va_up (s9.2 30) (0 : Int).toNat (((s9.2 19) 0) - (1))) (mA 29 (va_up (s9.2 29) (0 : Int).toNat (0)) (mA 28 (va_up (s9.2 28) (0 : Int).toNat (0)) (mA 27 (va_up (s9.2 27) (0 : Int).toNat (0)) (mA 26 (va_up (s9.2 26) (0 : Int).toNat (0)) (mA 25 (va_up (s9.2 25) (0 : Int).toNat (0)) (mA 24 (va_up (s9.2 24) (0 : Int).toNat (0)) (mA 23 (va_up (s9.2 23) (0 : Int).toNat (0)) (mA 22 (va_up (s9.2 22) (0 : Int).toNat (0)) s9)))))))))) (va_up h19 (B + 28) (pz_z 1 8 (va_up (s9.2 31) (0 : Int).toNat (0)))) := mU31 hA19
  have hF20 : mFr B h (va_up h19 (B + 28) (pz_z 1 8 (va_up (s9.2 31) (0 : Int).toNat (0)))) := mFr_tr hF19 (mFr_up (by decide))
  revert hA20 hF20
  generalize (va_up h19 (B + 28) (pz_z 1 8 (va_up (s9.2 31) (0 : Int).toNat (0)))) = h20
  intro hA20 hF20
  refine pw_aload_n dX10_reset_119 rfl ?_
  refine pw_get (v := .ref (B + 29)) okX10 (k := 32) (by decide) lkX10_95 hA20.1 rfl dX10_reset_120 ?_
  refine pw_iload_n dX10_reset_123 rfl ?_
  refine pw_iconst (v := zI (0)) dX10_reset_124 (by decide) ?_
  refine pw_zast (g := (s9.2 32)) (t := 1) rfl (mF32 (s := (mA 31 (va_up (s9.2 31) (0 : Int).toNat (0)) (mA 30 (va_up (s9.2 30) (0 : Int).toNat (((s9.2 19) 0) - (1))) (mA 29 (va_up (s9.2 29) (0 : Int).toNat (0)) (mA 28 (va_up (s9.2 28) (0 : Int).toNat (0)) (mA 27 (va_up (s9.2 27) (0 : Int).toNat (0)) (mA 26 (va_up (s9.2 26) (0 : Int).toNat (0)) (mA 25 (va_up (s9.2 25) (0 : Int).toNat (0)) (mA 24 (va_up (s9.2 24) (0 : Int).toNat (0)) (mA 23 (va_up (s9.2 23) (0 : Int).toNat (0)) (mA 22 (va_up (s9.2 22) (0 : Int).toNat (0)) s9))))))))))) hA20) (by omega) (by decide) (by omega) dX10_reset_125 ?_
  have hA21 : mAt B (mA 32 (va_up (s9.2 32) (0 : Int).toNat (0)) (mA 31 (va_up (s9.2 31) (0 : Int).toNat (0)) (mA 30 (va_up (s9.2 30) (0 : Int).toNat (((s9.2 19) 0) - (1))) (mA 29 (va_up (s9.2 29) (0 : Int).toNat (0)) (mA 28 (va_up (s9.2 28) (0 : Int).toNat (0)) (mA 27 (va_up (s9.2 27) (0 : Int).toNat (0)) (mA 26 (va_up (s9.2 26) (0 : Int).toNat (0)) (mA 25 (va_up (s9.2 25) (0 : Int).toNat (0)) (mA 24 (va_up (s9.2 24) (0 : Int).toNat (0)) (mA 23 (va_up (s9.2 23) (0 : Int).toNat (0)) (mA 22 (va_up (s9.2 22) (0 : Int).toNat (0)) s9))))))))))) (va_up h20 (B + 29) (pz_z 1 8 (va_up (s9.2 32) (0 : Int).toNat (0)))) := mU32 hA20
  have hF21 : mFr B h (va_up h20 (B + 29) (pz_z 1 8 (va_up (s9.2 32) (0 : Int).toNat (0)))) := mFr_tr hF20 (mFr_up (by decide))
  revert hA21 hF21
  generalize (va_up h20 (B + 29) (pz_z 1 8 (va_up (s9.2 32) (0 : Int).toNat (0)))) = h21
  intro hA21 hF21
  refine pw_aload_n dX10_reset_126 rfl ?_
  refine pw_get (v := .ref (B + 30)) okX10 (k := 33) (by decide) lkX10_98 hA21.1 rfl dX10_reset_127 ?_
  refine pw_iload_n dX10_reset_130 rfl ?_
  refine pw_iconst (v := zI (1)) dX10_reset_131 (by decide) ?_
  refine pw_zast (g := (s9.2 33)) (t := 1) rfl (mF33 (s := (mA 32 (va_up (s9.2 32) (0 : Int).toNat (0)) (mA 31 (va_up (s9.2 31) (0 : Int).toNat (0)) (mA 30 (va_up (s9.2 30) (0 : Int).toNat (((s9.2 19) 0) - (1))) (mA 29 (va_up (s9.2 29) (0 : Int).toNat (0)) (mA 28 (va_up (s9.2 28) (0 : Int).toNat (0)) (mA 27 (va_up (s9.2 27) (0 : Int).toNat (0)) (mA 26 (va_up (s9.2 26) (0 : Int).toNat (0)) (mA 25 (va_up (s9.2 25) (0 : Int).toNat (0)) (mA 24 (va_up (s9.2 24) (0 : Int).toNat (0)) (mA 23 (va_up (s9.2 23) (0 : Int).toNat (0)) (mA 22 (va_up (s9.2 22) (0 : Int).toNat (0)) s9)))))))))))) hA21) (by omega) (by decide) (by omega) dX10_reset_132 ?_
  have hA22 : mAt B (mA 33 (va_up (s9.2 33) (0 : Int).toNat (1)) (mA 32 (va_up (s9.2 32) (0 : Int).toNat (0)) (mA 31 (va_up (s9.2 31) (0 : Int).toNat (0)) (mA 30 (va_up (s9.2 30) (0 : Int).toNat (((s9.2 19) 0) - (1))) (mA 29 (va_up (s9.2 29) (0 : Int).toNat (0)) (mA 28 (va_up (s9.2 28) (0 : Int).toNat (0)) (mA 27 (va_up (s9.2 27) (0 : Int).toNat (0)) (mA 26 (va_up (s9.2 26) (0 : Int).toNat (0)) (mA 25 (va_up (s9.2 25) (0 : Int).toNat (0)) (mA 24 (va_up (s9.2 24) (0 : Int).toNat (0)) (mA 23 (va_up (s9.2 23) (0 : Int).toNat (0)) (mA 22 (va_up (s9.2 22) (0 : Int).toNat (0)) s9)))))))))))) (va_up h21 (B + 30) (pz_z 1 8 (va_up (s9.2 33) (0 : Int).toNat (1)))) := mU33 hA21
  have hF22 : mFr B h (va_up h21 (B + 30) (pz_z 1 8 (va_up (s9.2 33) (0 : Int).toNat (1)))) := mFr_tr hF21 (mFr_up (by decide))
  revert hA22 hF22
  generalize (va_up h21 (B + 30) (pz_z 1 8 (va_up (s9.2 33) (0 : Int).toNat (1)))) = h22
  intro hA22 hF22
  refine pw_aload_n dX10_reset_133 rfl ?_
  refine pw_get (v := .ref (B + 31)) okX10 (k := 34) (by decide) lkX10_101 hA22.1 rfl dX10_reset_134 ?_
  refine pw_iload_n dX10_reset_137 rfl ?_
  refine pw_iconst (v := zI (0)) dX10_reset_138 (by decide) ?_
  refine pw_zast (g := (s9.2 34)) (t := 1) rfl (mF34 (s := (mA 33 (va_up (s9.2 33) (0 : Int).toNat (1)) (mA 32 (va_up (s9.2 32) (0 : Int).toNat (0)) (mA 31 (va_up (s9.2 31) (0 : Int).toNat (0)) (mA 30 (va_up (s9.2 30) (0 : Int).toNat (((s9.2 19) 0) - (1))) (mA 29 (va_up (s9.2 29) (0 : Int).toNat (0)) (mA 28 (va_up (s9.2 28) (0 : Int).toNat (0)) (mA 27 (va_up (s9.2 27) (0 : Int).toNat (0)) (mA 26 (va_up (s9.2 26) (0 : Int).toNat (0)) (mA 25 (va_up (s9.2 25) (0 : Int).toNat (0)) (mA 24 (va_up (s9.2 24) (0 : Int).toNat (0)) (mA 23 (va_up (s9.2 23) (0 : Int).toNat (0)) (mA 22 (va_up (s9.2 22) (0 : Int).toNat (0)) s9))))))))))))) hA22) (by omega) (by decide) (by omega) dX10_reset_139 ?_
  have hA23 : mAt B (mA 34 (va_up (s9.2 34) (0 : Int).toNat (0)) (mA 33 (va_up (s9.2 33) (0 : Int).toNat (1)) (mA 32 (va_up (s9.2 32) (0 : Int).toNat (0)) (mA 31 (va_up (s9.2 31) (0 : Int).toNat (0)) (mA 30 (va_up (s9.2 30) (0 : Int).toNat (((s9.2 19) 0) - (1))) (mA 29 (va_up (s9.2 29) (0 : Int).toNat (0)) (mA 28 (va_up (s9.2 28) (0 : Int).toNat (0)) (mA 27 (va_up (s9.2 27) (0 : Int).toNat (0)) (mA 26 (va_up (s9.2 26) (0 : Int).toNat (0)) (mA 25 (va_up (s9.2 25) (0 : Int).toNat (0)) (mA 24 (va_up (s9.2 24) (0 : Int).toNat (0)) (mA 23 (va_up (s9.2 23) (0 : Int).toNat (0)) (mA 22 (va_up (s9.2 22) (0 : Int).toNat (0)) s9))))))))))))) (va_up h22 (B + 31) (pz_z 1 8 (va_up (s9.2 34) (0 : Int).toNat (0)))) := mU34 hA22
  have hF23 : mFr B h (va_up h22 (B + 31) (pz_z 1 8 (va_up (s9.2 34) (0 : Int).toNat (0)))) := mFr_tr hF22 (mFr_up (by decide))
  revert hA23 hF23
  generalize (va_up h22 (B + 31) (pz_z 1 8 (va_up (s9.2 34) (0 : Int).toNat (0)))) = h23
  intro hA23 hF23
  refine pw_aload_n dX10_reset_140 rfl ?_
  refine pw_get (v := .ref (B + 32)) okX10 (k := 35) (by decide) lkX10_104 hA23.1 rfl dX10_reset_141 ?_
  refine pw_iload_n dX10_reset_144 rfl ?_
  refine pw_iconst (v := zI (0)) dX10_reset_145 (by decide) ?_
  refine pw_iast (g := (s9.2 35)) (t := 0) rfl (mF35 (s := (mA 34 (va_up (s9.2 34) (0 : Int).toNat (0)) (mA 33 (va_up (s9.2 33) (0 : Int).toNat (1)) (mA 32 (va_up (s9.2 32) (0 : Int).toNat (0)) (mA 31 (va_up (s9.2 31) (0 : Int).toNat (0)) (mA 30 (va_up (s9.2 30) (0 : Int).toNat (((s9.2 19) 0) - (1))) (mA 29 (va_up (s9.2 29) (0 : Int).toNat (0)) (mA 28 (va_up (s9.2 28) (0 : Int).toNat (0)) (mA 27 (va_up (s9.2 27) (0 : Int).toNat (0)) (mA 26 (va_up (s9.2 26) (0 : Int).toNat (0)) (mA 25 (va_up (s9.2 25) (0 : Int).toNat (0)) (mA 24 (va_up (s9.2 24) (0 : Int).toNat (0)) (mA 23 (va_up (s9.2 23) (0 : Int).toNat (0)) (mA 22 (va_up (s9.2 22) (0 : Int).toNat (0)) s9)))))))))))))) hA23) (by omega) (by decide) dX10_reset_146 ?_
  have hA24 : mAt B (mA 35 (va_up (s9.2 35) (0 : Int).toNat (0)) (mA 34 (va_up (s9.2 34) (0 : Int).toNat (0)) (mA 33 (va_up (s9.2 33) (0 : Int).toNat (1)) (mA 32 (va_up (s9.2 32) (0 : Int).toNat (0)) (mA 31 (va_up (s9.2 31) (0 : Int).toNat (0)) (mA 30 (va_up (s9.2 30) (0 : Int).toNat (((s9.2 19) 0) - (1))) (mA 29 (va_up (s9.2 29) (0 : Int).toNat (0)) (mA 28 (va_up (s9.2 28) (0 : Int).toNat (0)) (mA 27 (va_up (s9.2 27) (0 : Int).toNat (0)) (mA 26 (va_up (s9.2 26) (0 : Int).toNat (0)) (mA 25 (va_up (s9.2 25) (0 : Int).toNat (0)) (mA 24 (va_up (s9.2 24) (0 : Int).toNat (0)) (mA 23 (va_up (s9.2 23) (0 : Int).toNat (0)) (mA 22 (va_up (s9.2 22) (0 : Int).toNat (0)) s9)))))))))))))) (va_up h23 (B + 32) (pz_z 0 8 (va_up (s9.2 35) (0 : Int).toNat (0)))) := mU35 hA23
  have hF24 : mFr B h (va_up h23 (B + 32) (pz_z 0 8 (va_up (s9.2 35) (0 : Int).toNat (0)))) := mFr_tr hF23 (mFr_up (by decide))
  revert hA24 hF24
  generalize (va_up h23 (B + 32) (pz_z 0 8 (va_up (s9.2 35) (0 : Int).toNat (0)))) = h24
  intro hA24 hF24
  refine pw_aload_n dX10_reset_147 rfl ?_
  refine pw_get (v := .ref (B + 39)) okX10 (k := 42) (by decide) lkX10_125 hA24.1 rfl dX10_reset_148 ?_
  refine pw_iload_n dX10_reset_151 rfl ?_
  refine pw_iconst (v := zI (0)) dX10_reset_152 (by decide) ?_
  refine pw_iast (g := (s9.2 42)) (t := 0) rfl (mF42 (s := (mA 35 (va_up (s9.2 35) (0 : Int).toNat (0)) (mA 34 (va_up (s9.2 34) (0 : Int).toNat (0)) (mA 33 (va_up (s9.2 33) (0 : Int).toNat (1)) (mA 32 (va_up (s9.2 32) (0 : Int).toNat (0)) (mA 31 (va_up (s9.2 31) (0 : Int).toNat (0)) (mA 30 (va_up (s9.2 30) (0 : Int).toNat (((s9.2 19) 0) - (1))) (mA 29 (va_up (s9.2 29) (0 : Int).toNat (0)) (mA 28 (va_up (s9.2 28) (0 : Int).toNat (0)) (mA 27 (va_up (s9.2 27) (0 : Int).toNat (0)) (mA 26 (va_up (s9.2 26) (0 : Int).toNat (0)) (mA 25 (va_up (s9.2 25) (0 : Int).toNat (0)) (mA 24 (va_up (s9.2 24) (0 : Int).toNat (0)) (mA 23 (va_up (s9.2 23) (0 : Int).toNat (0)) (mA 22 (va_up (s9.2 22) (0 : Int).toNat (0)) s9))))))))))))))) hA24) (by omega) (by decide) dX10_reset_153 ?_
  have hA25 : mAt B (mA 42 (va_up (s9.2 42) (0 : Int).toNat (0)) (mA 35 (va_up (s9.2 35) (0 : Int).toNat (0)) (mA 34 (va_up (s9.2 34) (0 : Int).toNat (0)) (mA 33 (va_up (s9.2 33) (0 : Int).toNat (1)) (mA 32 (va_up (s9.2 32) (0 : Int).toNat (0)) (mA 31 (va_up (s9.2 31) (0 : Int).toNat (0)) (mA 30 (va_up (s9.2 30) (0 : Int).toNat (((s9.2 19) 0) - (1))) (mA 29 (va_up (s9.2 29) (0 : Int).toNat (0)) (mA 28 (va_up (s9.2 28) (0 : Int).toNat (0)) (mA 27 (va_up (s9.2 27) (0 : Int).toNat (0)) (mA 26 (va_up (s9.2 26) (0 : Int).toNat (0)) (mA 25 (va_up (s9.2 25) (0 : Int).toNat (0)) (mA 24 (va_up (s9.2 24) (0 : Int).toNat (0)) (mA 23 (va_up (s9.2 23) (0 : Int).toNat (0)) (mA 22 (va_up (s9.2 22) (0 : Int).toNat (0)) s9))))))))))))))) (va_up h24 (B + 39) (pz_z 0 8 (va_up (s9.2 42) (0 : Int).toNat (0)))) := mU42 hA24
  have hF25 : mFr B h (va_up h24 (B + 39) (pz_z 0 8 (va_up (s9.2 42) (0 : Int).toNat (0)))) := mFr_tr hF24 (mFr_up (by decide))
  revert hA25 hF25
  generalize (va_up h24 (B + 39) (pz_z 0 8 (va_up (s9.2 42) (0 : Int).toNat (0)))) = h25
  intro hA25 hF25
  obtain ⟨b1, b2, b3, b4⟩ := hb9
  have hR : mRs0 s (mA 42 (va_up (s9.2 42) (0 : Int).toNat (0)) (mA 35 (va_up (s9.2 35) (0 : Int).toNat (0)) (mA 34 (va_up (s9.2 34) (0 : Int).toNat (0)) (mA 33 (va_up (s9.2 33) (0 : Int).toNat (1)) (mA 32 (va_up (s9.2 32) (0 : Int).toNat (0)) (mA 31 (va_up (s9.2 31) (0 : Int).toNat (0)) (mA 30 (va_up (s9.2 30) (0 : Int).toNat (((s9.2 19) 0) - (1))) (mA 29 (va_up (s9.2 29) (0 : Int).toNat (0)) (mA 28 (va_up (s9.2 28) (0 : Int).toNat (0)) (mA 27 (va_up (s9.2 27) (0 : Int).toNat (0)) (mA 26 (va_up (s9.2 26) (0 : Int).toNat (0)) (mA 25 (va_up (s9.2 25) (0 : Int).toNat (0)) (mA 24 (va_up (s9.2 24) (0 : Int).toNat (0)) (mA 23 (va_up (s9.2 23) (0 : Int).toNat (0)) (mA 22 (va_up (s9.2 22) (0 : Int).toNat (0)) s9))))))))))))))) := by
    refine ⟨b1, ⟨?_, ?_, ?_, ?_, ?_, ?_, ?_, ?_, ?_, ?_, ?_, ?_, ?_, ?_, ?_, ?_, ?_, ?_, ?_, ?_, ?_, ?_, ?_, ?_, ?_, ?_, ?_, ?_, ?_, ?_, ?_, ?_, ?_, ?_, ?_, ?_, ?_, ?_, ?_, ?_, ?_, ?_, ?_, ?_, ?_, ?_, ?_⟩, b3, fun i hi => b4 i (by omega)⟩
    · show s9.2 3 = s.2 3
      rw [b2 3 (by decide) (by decide)]
    · show s9.2 4 = s.2 4
      rw [b2 4 (by decide) (by decide)]
    · show s9.2 5 = s.2 5
      rw [b2 5 (by decide) (by decide)]
    · show s9.2 6 = s.2 6
      rw [b2 6 (by decide) (by decide)]
    · show s9.2 7 = s.2 7
      rw [b2 7 (by decide) (by decide)]
    · show s9.2 8 = s.2 8
      rw [b2 8 (by decide) (by decide)]
    · show s9.2 9 = s.2 9
      rw [b2 9 (by decide) (by decide)]
    · show s9.2 10 = s.2 10
      rw [b2 10 (by decide) (by decide)]
    · show s9.2 11 = s.2 11
      rw [b2 11 (by decide) (by decide)]
    · show s9.2 12 = s.2 12
      rw [b2 12 (by decide) (by decide)]
    · show s9.2 13 = s.2 13
      rw [b2 13 (by decide) (by decide)]
    · show s9.2 15 = s.2 15
      rw [b2 15 (by decide) (by decide)]
    · show s9.2 16 = s.2 16
      rw [b2 16 (by decide) (by decide)]
    · show s9.2 17 = s.2 17
      rw [b2 17 (by decide) (by decide)]
    · show s9.2 18 = s.2 18
      rw [b2 18 (by decide) (by decide)]
    · show s9.2 19 = s.2 19
      rw [b2 19 (by decide) (by decide)]
    · show (va_up (s9.2 22) (0 : Int).toNat (0)) = va_up (s.2 22) 0 0
      rw [b2 22 (by decide) (by decide)]; rfl
    · show (va_up (s9.2 23) (0 : Int).toNat (0)) = va_up (s.2 23) 0 0
      rw [b2 23 (by decide) (by decide)]; rfl
    · show (va_up (s9.2 24) (0 : Int).toNat (0)) = va_up (s.2 24) 0 0
      rw [b2 24 (by decide) (by decide)]; rfl
    · show (va_up (s9.2 25) (0 : Int).toNat (0)) = va_up (s.2 25) 0 0
      rw [b2 25 (by decide) (by decide)]; rfl
    · show (va_up (s9.2 26) (0 : Int).toNat (0)) = va_up (s.2 26) 0 0
      rw [b2 26 (by decide) (by decide)]; rfl
    · show (va_up (s9.2 27) (0 : Int).toNat (0)) = va_up (s.2 27) 0 0
      rw [b2 27 (by decide) (by decide)]; rfl
    · show (va_up (s9.2 28) (0 : Int).toNat (0)) = va_up (s.2 28) 0 0
      rw [b2 28 (by decide) (by decide)]; rfl
    · show (va_up (s9.2 29) (0 : Int).toNat (0)) = va_up (s.2 29) 0 0
      rw [b2 29 (by decide) (by decide)]; rfl
    · show (va_up (s9.2 30) (0 : Int).toNat (((s9.2 19) 0) - (1))) = va_up (s.2 30) 0 (s.2 19 0 - 1)
      rw [b2 30 (by decide) (by decide), b2 19 (by decide) (by decide)]; rfl
    · show (va_up (s9.2 31) (0 : Int).toNat (0)) = va_up (s.2 31) 0 0
      rw [b2 31 (by decide) (by decide)]; rfl
    · show (va_up (s9.2 32) (0 : Int).toNat (0)) = va_up (s.2 32) 0 0
      rw [b2 32 (by decide) (by decide)]; rfl
    · show (va_up (s9.2 33) (0 : Int).toNat (1)) = va_up (s.2 33) 0 1
      rw [b2 33 (by decide) (by decide)]; rfl
    · show (va_up (s9.2 34) (0 : Int).toNat (0)) = va_up (s.2 34) 0 0
      rw [b2 34 (by decide) (by decide)]; rfl
    · show (va_up (s9.2 35) (0 : Int).toNat (0)) = va_up (s.2 35) 0 0
      rw [b2 35 (by decide) (by decide)]; rfl
    · show s9.2 36 = s.2 36
      rw [b2 36 (by decide) (by decide)]
    · show s9.2 37 = s.2 37
      rw [b2 37 (by decide) (by decide)]
    · show s9.2 38 = s.2 38
      rw [b2 38 (by decide) (by decide)]
    · show s9.2 39 = s.2 39
      rw [b2 39 (by decide) (by decide)]
    · show s9.2 40 = s.2 40
      rw [b2 40 (by decide) (by decide)]
    · show s9.2 41 = s.2 41
      rw [b2 41 (by decide) (by decide)]
    · show (va_up (s9.2 42) (0 : Int).toNat (0)) = va_up (s.2 42) 0 0
      rw [b2 42 (by decide) (by decide)]; rfl
    · show s9.2 43 = s.2 43
      rw [b2 43 (by decide) (by decide)]
    · show s9.2 44 = s.2 44
      rw [b2 44 (by decide) (by decide)]
    · show s9.2 45 = s.2 45
      rw [b2 45 (by decide) (by decide)]
    · show s9.2 46 = s.2 46
      rw [b2 46 (by decide) (by decide)]
    · show s9.2 50 = s.2 50
      rw [b2 50 (by decide) (by decide)]
    · show s9.2 51 = s.2 51
      rw [b2 51 (by decide) (by decide)]
    · show s9.2 52 = s.2 52
      rw [b2 52 (by decide) (by decide)]
    · show s9.2 58 = s.2 58
      rw [b2 58 (by decide) (by decide)]
    · show s9.2 59 = s.2 59
      rw [b2 59 (by decide) (by decide)]
    · show s9.2 60 = s.2 60
      rw [b2 60 (by decide) (by decide)]
  exact pw_vret dX10_reset_154 rfl (nle rfl) (nle rfl) ⟨rfl, (mA 42 (va_up (s9.2 42) (0 : Int).toNat (0)) (mA 35 (va_up (s9.2 35) (0 : Int).toNat (0)) (mA 34 (va_up (s9.2 34) (0 : Int).toNat (0)) (mA 33 (va_up (s9.2 33) (0 : Int).toNat (1)) (mA 32 (va_up (s9.2 32) (0 : Int).toNat (0)) (mA 31 (va_up (s9.2 31) (0 : Int).toNat (0)) (mA 30 (va_up (s9.2 30) (0 : Int).toNat (((s9.2 19) 0) - (1))) (mA 29 (va_up (s9.2 29) (0 : Int).toNat (0)) (mA 28 (va_up (s9.2 28) (0 : Int).toNat (0)) (mA 27 (va_up (s9.2 27) (0 : Int).toNat (0)) (mA 26 (va_up (s9.2 26) (0 : Int).toNat (0)) (mA 25 (va_up (s9.2 25) (0 : Int).toNat (0)) (mA 24 (va_up (s9.2 24) (0 : Int).toNat (0)) (mA 23 (va_up (s9.2 23) (0 : Int).toNat (0)) (mA 22 (va_up (s9.2 22) (0 : Int).toNat (0)) s9))))))))))))))), hA25, hR, hF25, rfl⟩
set_option maxHeartbeats 1000000 in
set_option maxRecDepth 100000 in
/-- begin(0, w, h) -/
theorem nR_begin0 {E : pw_E} (htr : E.1.stackTraces = false) {h : pz_H} {n : Nat} {B : Nat} {s : mS} (hA : mAt B s h) {ww hh : Int}  (hz : ∀ i, s.2 21 i = 0) : pw_M E yX10_begin YX10_begin (rmD 2 0 0) [.ref B, .int (zI (0)), .int (zI (ww)), .int (zI (hh))] h n (fun r0 h' n' => r0 = none ∧ ∃ s', mAt B s' h' ∧ mRs0 (mA 45 (va_up (s.2 45) 0 0) (mA 44 (va_up (s.2 44) 0 0) (mA 43 (va_up (s.2 43) 0 0) (mA 19 (va_up (s.2 19) 0 hh) (mA 18 (va_up (s.2 18) 0 ww) s))))) s' ∧ mFr B h h' ∧ n' = n) (fun _ _ _ => False) := by
  refine pw_M_of (lv := [some (.ref B), some (.int (zI (0))), some (.int (zI (ww))), some (.int (zI (hh)))]) (by decide) rfl rfl htr (nle rfl) rfl (fun L => ?_)
  refine pw_aload_n dX10_begin_0 rfl ?_
  refine pw_get (v := .ref (B + 15)) okX10 (k := 18) (by decide) lkX10_53 hA.1 rfl dX10_begin_1 ?_
  refine pw_iload_n dX10_begin_4 rfl ?_
  refine pw_iload_n dX10_begin_5 rfl ?_
  refine pw_iast (g := (s.2 18)) (t := 0) rfl (mF18 (s := s) hA) (by omega) (by decide) dX10_begin_6 ?_
  have hA1 : mAt B (mA 18 (va_up (s.2 18) (0 : Int).toNat (ww)) s) (va_up h (B + 15) (pz_z 0 8 (va_up (s.2 18) (0 : Int).toNat (ww)))) := mU18 hA
  have hF1 : mFr B h (va_up h (B + 15) (pz_z 0 8 (va_up (s.2 18) (0 : Int).toNat (ww)))) := mFr_tr mFr_rf (mFr_up (by decide))
  revert hA1 hF1
  generalize (va_up h (B + 15) (pz_z 0 8 (va_up (s.2 18) (0 : Int).toNat (ww)))) = h1
  intro hA1 hF1
  refine pw_aload_n dX10_begin_7 rfl ?_
  refine pw_get (v := .ref (B + 16)) okX10 (k := 19) (by decide) lkX10_56 hA1.1 rfl dX10_begin_8 ?_
  refine pw_iload_n dX10_begin_11 rfl ?_
  refine pw_iload_n dX10_begin_12 rfl ?_
  refine pw_iast (g := (s.2 19)) (t := 0) rfl (mF19 (s := (mA 18 (va_up (s.2 18) (0 : Int).toNat (ww)) s)) hA1) (by omega) (by decide) dX10_begin_13 ?_
  have hA2 : mAt B (mA 19 (va_up (s.2 19) (0 : Int).toNat (hh)) (mA 18 (va_up (s.2 18) (0 : Int).toNat (ww)) s)) (va_up h1 (B + 16) (pz_z 0 8 (va_up (s.2 19) (0 : Int).toNat (hh)))) := mU19 hA1
  have hF2 : mFr B h (va_up h1 (B + 16) (pz_z 0 8 (va_up (s.2 19) (0 : Int).toNat (hh)))) := mFr_tr hF1 (mFr_up (by decide))
  revert hA2 hF2
  generalize (va_up h1 (B + 16) (pz_z 0 8 (va_up (s.2 19) (0 : Int).toNat (hh)))) = h2
  intro hA2 hF2
  refine pw_aload_n dX10_begin_14 rfl ?_
  refine pw_get (v := .ref (B + 40)) okX10 (k := 43) (by decide) lkX10_128 hA2.1 rfl dX10_begin_15 ?_
  refine pw_iload_n dX10_begin_18 rfl ?_
  refine pw_iconst (v := zI (0)) dX10_begin_19 (by decide) ?_
  refine pw_zast (g := (s.2 43)) (t := 1) rfl (mF43 (s := (mA 19 (va_up (s.2 19) (0 : Int).toNat (hh)) (mA 18 (va_up (s.2 18) (0 : Int).toNat (ww)) s))) hA2) (by omega) (by decide) (by omega) dX10_begin_20 ?_
  have hA3 : mAt B (mA 43 (va_up (s.2 43) (0 : Int).toNat (0)) (mA 19 (va_up (s.2 19) (0 : Int).toNat (hh)) (mA 18 (va_up (s.2 18) (0 : Int).toNat (ww)) s))) (va_up h2 (B + 40) (pz_z 1 8 (va_up (s.2 43) (0 : Int).toNat (0)))) := mU43 hA2
  have hF3 : mFr B h (va_up h2 (B + 40) (pz_z 1 8 (va_up (s.2 43) (0 : Int).toNat (0)))) := mFr_tr hF2 (mFr_up (by decide))
  revert hA3 hF3
  generalize (va_up h2 (B + 40) (pz_z 1 8 (va_up (s.2 43) (0 : Int).toNat (0)))) = h3
  intro hA3 hF3
  refine pw_aload_n dX10_begin_21 rfl ?_
  refine pw_get (v := .ref (B + 41)) okX10 (k := 44) (by decide) lkX10_131 hA3.1 rfl dX10_begin_22 ?_
  refine pw_iload_n dX10_begin_25 rfl ?_
  refine pw_iconst (v := zI (0)) dX10_begin_26 (by decide) ?_
  refine pw_iast (g := (s.2 44)) (t := 0) rfl (mF44 (s := (mA 43 (va_up (s.2 43) (0 : Int).toNat (0)) (mA 19 (va_up (s.2 19) (0 : Int).toNat (hh)) (mA 18 (va_up (s.2 18) (0 : Int).toNat (ww)) s)))) hA3) (by omega) (by decide) dX10_begin_27 ?_
  have hA4 : mAt B (mA 44 (va_up (s.2 44) (0 : Int).toNat (0)) (mA 43 (va_up (s.2 43) (0 : Int).toNat (0)) (mA 19 (va_up (s.2 19) (0 : Int).toNat (hh)) (mA 18 (va_up (s.2 18) (0 : Int).toNat (ww)) s)))) (va_up h3 (B + 41) (pz_z 0 8 (va_up (s.2 44) (0 : Int).toNat (0)))) := mU44 hA3
  have hF4 : mFr B h (va_up h3 (B + 41) (pz_z 0 8 (va_up (s.2 44) (0 : Int).toNat (0)))) := mFr_tr hF3 (mFr_up (by decide))
  revert hA4 hF4
  generalize (va_up h3 (B + 41) (pz_z 0 8 (va_up (s.2 44) (0 : Int).toNat (0)))) = h4
  intro hA4 hF4
  refine pw_aload_n dX10_begin_28 rfl ?_
  refine pw_get (v := .ref (B + 42)) okX10 (k := 45) (by decide) lkX10_134 hA4.1 rfl dX10_begin_29 ?_
  refine pw_iload_n dX10_begin_32 rfl ?_
  refine pw_iconst (v := zI (0)) dX10_begin_33 (by decide) ?_
  refine pw_iast (g := (s.2 45)) (t := 0) rfl (mF45 (s := (mA 44 (va_up (s.2 44) (0 : Int).toNat (0)) (mA 43 (va_up (s.2 43) (0 : Int).toNat (0)) (mA 19 (va_up (s.2 19) (0 : Int).toNat (hh)) (mA 18 (va_up (s.2 18) (0 : Int).toNat (ww)) s))))) hA4) (by omega) (by decide) dX10_begin_34 ?_
  have hA5 : mAt B (mA 45 (va_up (s.2 45) (0 : Int).toNat (0)) (mA 44 (va_up (s.2 44) (0 : Int).toNat (0)) (mA 43 (va_up (s.2 43) (0 : Int).toNat (0)) (mA 19 (va_up (s.2 19) (0 : Int).toNat (hh)) (mA 18 (va_up (s.2 18) (0 : Int).toNat (ww)) s))))) (va_up h4 (B + 42) (pz_z 0 8 (va_up (s.2 45) (0 : Int).toNat (0)))) := mU45 hA4
  have hF5 : mFr B h (va_up h4 (B + 42) (pz_z 0 8 (va_up (s.2 45) (0 : Int).toNat (0)))) := mFr_tr hF4 (mFr_up (by decide))
  revert hA5 hF5
  generalize (va_up h4 (B + 42) (pz_z 0 8 (va_up (s.2 45) (0 : Int).toNat (0)))) = h5
  intro hA5 hF5
  refine pw_aload_n dX10_begin_35 rfl ?_
  refine pw_iload_n dX10_begin_36 rfl ?_
  refine pw_callV (As := [.int (zI (0))]) (b := B) (rm := rmD 1 0 0) (nR_reset0 htr hA5 hz) rfl hA5.1 rfl rfl ywX10_reset rfl cwX10_188 ⟨nle rfl, nle rfl⟩ (nle rfl) ⟨nle rfl, nle rfl⟩ dX10_begin_37 ?_ (fun _ _ _ z => z.elim)
  intro r_9 h6 n_9 hq _
  obtain ⟨e1, s6, hA6, hR, hF60, e4⟩ := hq
  rw [e1, e4]
  show pw E YX10_begin _ _ 0 0 40 [some (.ref B), some (.int (zI (0))), some (.int (zI (ww))), some (.int (zI (hh)))] [] h6 n
  have hF6 := mFr_tr hF5 hF60
  exact pw_vret dX10_begin_40 rfl (nle rfl) (nle rfl) ⟨rfl, s6, hA6, hR, hF6, rfl⟩
theorem nA_3 {w H : Int} : nA w H 3 = fun i => if i = 0 then 1 else 0 := rfl
theorem nA_4 {w H : Int} : nA w H 4 = fun i => if i = 0 then 0 else 0 := rfl
theorem nA_5 {w H : Int} : nA w H 5 = fun i => if i = 0 then 0 else 0 := rfl
theorem nA_6 {w H : Int} : nA w H 6 = fun i => if i = 0 then 0 else 0 := rfl
theorem nA_7 {w H : Int} : nA w H 7 = fun i => if i = 0 then -1 else 0 := rfl
theorem nA_8 {w H : Int} : nA w H 8 = fun i => if i = 0 then 0 else 0 := rfl
theorem nA_9 {w H : Int} : nA w H 9 = fun i => if i = 0 then 0 else 0 := rfl
theorem nA_10 {w H : Int} : nA w H 10 = fun i => if i = 0 then 0 else 0 := rfl
theorem nA_11 {w H : Int} : nA w H 11 = fun i => if i = 0 then 0 else 0 := rfl
theorem nA_12 {w H : Int} : nA w H 12 = fun i => if i = 0 then w else 0 := rfl
theorem nA_13 {w H : Int} : nA w H 13 = fun i => if i = 0 then H else 0 := rfl
theorem nA_15 {w H : Int} : nA w H 15 = fun i => if i = 0 then 0 else 0 := rfl
theorem nA_16 {w H : Int} : nA w H 16 = fun i => if i = 0 then 1 else 0 := rfl
theorem nA_17 {w H : Int} : nA w H 17 = fun i => if i = 0 then 0 else 0 := rfl
theorem nA_18 {w H : Int} : nA w H 18 = fun i => if i = 0 then w else 0 := rfl
theorem nA_19 {w H : Int} : nA w H 19 = fun i => if i = 0 then H else 0 := rfl
theorem nA_21 {w H : Int} : nA w H 21 = fun i => if i = 0 then 0 else 0 := rfl
theorem nA_22 {w H : Int} : nA w H 22 = fun i => if i = 0 then 0 else 0 := rfl
theorem nA_23 {w H : Int} : nA w H 23 = fun i => if i = 0 then 0 else 0 := rfl
theorem nA_24 {w H : Int} : nA w H 24 = fun i => if i = 0 then 0 else 0 := rfl
theorem nA_25 {w H : Int} : nA w H 25 = fun i => if i = 0 then 0 else 0 := rfl
theorem nA_26 {w H : Int} : nA w H 26 = fun i => if i = 0 then 0 else 0 := rfl
theorem nA_27 {w H : Int} : nA w H 27 = fun i => if i = 0 then 0 else 0 := rfl
theorem nA_28 {w H : Int} : nA w H 28 = fun i => if i = 0 then 0 else 0 := rfl
theorem nA_29 {w H : Int} : nA w H 29 = fun i => if i = 0 then 0 else 0 := rfl
theorem nA_30 {w H : Int} : nA w H 30 = fun i => if i = 0 then H - 1 else 0 := rfl
theorem nA_31 {w H : Int} : nA w H 31 = fun i => if i = 0 then 0 else 0 := rfl
theorem nA_32 {w H : Int} : nA w H 32 = fun i => if i = 0 then 0 else 0 := rfl
theorem nA_33 {w H : Int} : nA w H 33 = fun i => if i = 0 then 1 else 0 := rfl
theorem nA_34 {w H : Int} : nA w H 34 = fun i => if i = 0 then 0 else 0 := rfl
theorem nA_35 {w H : Int} : nA w H 35 = fun i => if i = 0 then 0 else 0 := rfl
theorem nA_36 {w H : Int} : nA w H 36 = fun i => if i = 0 then 0 else 0 := rfl
theorem nA_37 {w H : Int} : nA w H 37 = fun i => if i = 0 then 0 else 0 := rfl
theorem nA_38 {w H : Int} : nA w H 38 = fun i => if i = 0 then 0 else 0 := rfl
theorem nA_39 {w H : Int} : nA w H 39 = fun i => if i = 0 then 0 else 0 := rfl
theorem nA_40 {w H : Int} : nA w H 40 = fun i => if i = 0 then 0 else 0 := rfl
theorem nA_41 {w H : Int} : nA w H 41 = fun i => if i = 0 then 0 else 0 := rfl
theorem nA_42 {w H : Int} : nA w H 42 = fun i => if i = 0 then 0 else 0 := rfl
theorem nA_43 {w H : Int} : nA w H 43 = fun i => if i = 0 then 0 else 0 := rfl
theorem nA_44 {w H : Int} : nA w H 44 = fun i => if i = 0 then 0 else 0 := rfl
theorem nA_45 {w H : Int} : nA w H 45 = fun i => if i = 0 then 0 else 0 := rfl
theorem nA_46 {w H : Int} : nA w H 46 = fun i => if i = 0 then 0 else 0 := rfl
theorem nA_50 {w H : Int} : nA w H 50 = fun i => if i = 0 then 0 else 0 := rfl
theorem nA_52 {w H : Int} : nA w H 52 = fun i => if i = 0 then 0 else 0 := rfl
theorem nA_58 {w H : Int} : nA w H 58 = fun i => if i = 0 then 0 else 0 := rfl
theorem nA_59 {w H : Int} : nA w H 59 = fun i => if i = 0 then 0 else 0 := rfl
theorem nA_60 {w H : Int} : nA w H 60 = fun i => if i = 0 then 0 else 0 := rfl
set_option maxHeartbeats 1000000 in
set_option maxRecDepth 100000 in
theorem lN_ctor1 {E : pw_E} (htr : E.1.stackTraces = false) {Kk : pw_K} {h : pz_H} {B : Nat} {s : mS} {w0 h0 : Int} : ∀ (j : Nat) (k : Int) (s1 : mS) (h1 : pz_H), (640 - k).toNat = j → 0 ≤ k → k ≤ 640 → mAt B s1 h1 → (s1.1 = s.1 ∧ (∀ k, k ≠ 51 → s1.2 k = s.2 k) ∧ ∀ i : Nat, (i : Int) < k → s1.2 51 i = 32) → mFr B h h1 → (∀ (k9 : Int) (s1 : mS) (h2 : pz_H), mAt B s1 h2 → (s1.1 = s.1 ∧ (∀ k, k ≠ 51 → s1.2 k = s.2 k) ∧ ∀ i : Nat, (i : Int) < 640 → s1.2 51 i = 32) → mFr B h h2 → pw E YX10_init (rmD 3 49 66328) Kk 49 66328 485 [some (.ref B), some (.int (zI w0)), some (.int (zI h0)), some (.int (zI k9))] [] h2 (B + 50)) → pw E YX10_init (rmD 3 49 66328) Kk 49 66328 464 [some (.ref B), some (.int (zI w0)), some (.int (zI h0)), some (.int (zI k))] [] h1 (B + 50) := by
  intro j
  induction j with
  | zero =>
    intro k s1 h1 hj i1 i2 hA hb hF kk
    obtain ⟨b1, b2, b3⟩ := hb
    refine pw_iload_n dX10_init_464 rfl ?_
    refine pw_sipush (v := zI (640)) dX10_init_465 (by decide) ?_
    refine pw_icmp_ge (tgt := 485) dX10_init_468 rfl (by omega) (by omega) (fun c468 => ?_) (fun c468 => ?_)
    ·
      exact kk k s1 h1 hA ⟨b1, b2, fun i hi => b3 i (by omega)⟩ hF
    · exfalso; omega
  | succ j ih =>
    intro k s1 h1 hj i1 i2 hA hb hF kk
    obtain ⟨b1, b2, b3⟩ := hb
    refine pw_iload_n dX10_init_464 rfl ?_
    refine pw_sipush (v := zI (640)) dX10_init_465 (by decide) ?_
    refine pw_icmp_ge (tgt := 485) dX10_init_468 rfl (by omega) (by omega) (fun c468 => ?_) (fun c468 => ?_)
    · exfalso; omega
    ·
      refine pw_aload_n dX10_init_471 rfl ?_
      refine pw_get (v := .ref (B + 45)) okX10 (k := 51) (by decide) lkX10_143 hA.1 rfl dX10_init_472 ?_
      refine pw_iload_n dX10_init_475 rfl ?_
      refine pw_bipush (v := zI (32)) dX10_init_476 (by decide) ?_
      refine pw_iast (g := (s1.2 51)) (t := 0) rfl (mF51 (s := s1) hA) (by omega) (by decide) dX10_init_478 ?_
      have hA1 : mAt B (mA 51 (va_up (s1.2 51) (k).toNat (32)) s1) (va_up h1 (B + 45) (pz_z 0 640 (va_up (s1.2 51) (k).toNat (32)))) := mU51 hA
      have hF1 : mFr B h (va_up h1 (B + 45) (pz_z 0 640 (va_up (s1.2 51) (k).toNat (32)))) := mFr_tr hF (mFr_up (by decide))
      revert hA1 hF1
      generalize (va_up h1 (B + 45) (pz_z 0 640 (va_up (s1.2 51) (k).toNat (32)))) = h1
      intro hA1 hF1
      refine pw_ziinc (lv' := [some (.ref B), some (.int (zI (w0))), some (.int (zI (h0))), some (.int (zI (k + 1)))]) dX10_init_479 rfl (by decide) rfl rfl ?_
      refine pw_goto (tgt := 464) dX10_init_482 rfl ?_
      exact ih (k + 1) (mA 51 (va_up (s1.2 51) (k).toNat (32)) s1) h1 (by omega) (by omega) (by omega) hA1 ⟨b1, fun k2 hk2 => (va_up_ne _ _ hk2).trans (b2 k2 hk2), fun i hi => by
        show va_up (s1.2 51) k.toNat 32 i = 32
        by_cases ei : i = k.toNat
        · rw [ei, va_up_self]
        · rw [va_up_ne _ _ ei]; exact b3 i (by omega)⟩ hF1 kk
set_option maxHeartbeats 4000000 in
set_option maxRecDepth 100000 in
theorem mN_new {w H : Int} {s9 s1 : mS} (b1 : s9.1 = (mV 2 (H) (mV 1 (w) mS0)).1) (b2 : ∀ k, k ≠ 51 → s9.2 k = (mV 2 (H) (mV 1 (w) mS0)).2 k) (b3 : ∀ i : Nat, (i : Int) < 640 → s9.2 51 i = 32) (hR : mRs0 (mA 45 (va_up ((mA 16 (va_up (s9.2 16) (0 : Int).toNat (1)) (mA 13 (va_up (s9.2 13) (0 : Int).toNat (s9.1 2)) (mA 12 (va_up (s9.2 12) (0 : Int).toNat (s9.1 1)) (mA 7 (va_up (s9.2 7) (0 : Int).toNat (-1)) (mA 3 (va_up (s9.2 3) (0 : Int).toNat (1)) s9))))).2 45) 0 0) (mA 44 (va_up ((mA 16 (va_up (s9.2 16) (0 : Int).toNat (1)) (mA 13 (va_up (s9.2 13) (0 : Int).toNat (s9.1 2)) (mA 12 (va_up (s9.2 12) (0 : Int).toNat (s9.1 1)) (mA 7 (va_up (s9.2 7) (0 : Int).toNat (-1)) (mA 3 (va_up (s9.2 3) (0 : Int).toNat (1)) s9))))).2 44) 0 0) (mA 43 (va_up ((mA 16 (va_up (s9.2 16) (0 : Int).toNat (1)) (mA 13 (va_up (s9.2 13) (0 : Int).toNat (s9.1 2)) (mA 12 (va_up (s9.2 12) (0 : Int).toNat (s9.1 1)) (mA 7 (va_up (s9.2 7) (0 : Int).toNat (-1)) (mA 3 (va_up (s9.2 3) (0 : Int).toNat (1)) s9))))).2 43) 0 0) (mA 19 (va_up ((mA 16 (va_up (s9.2 16) (0 : Int).toNat (1)) (mA 13 (va_up (s9.2 13) (0 : Int).toNat (s9.1 2)) (mA 12 (va_up (s9.2 12) (0 : Int).toNat (s9.1 1)) (mA 7 (va_up (s9.2 7) (0 : Int).toNat (-1)) (mA 3 (va_up (s9.2 3) (0 : Int).toNat (1)) s9))))).2 19) 0 (s9.1 2)) (mA 18 (va_up ((mA 16 (va_up (s9.2 16) (0 : Int).toNat (1)) (mA 13 (va_up (s9.2 13) (0 : Int).toNat (s9.1 2)) (mA 12 (va_up (s9.2 12) (0 : Int).toNat (s9.1 1)) (mA 7 (va_up (s9.2 7) (0 : Int).toNat (-1)) (mA 3 (va_up (s9.2 3) (0 : Int).toNat (1)) s9))))).2 18) 0 (s9.1 1)) (mA 16 (va_up (s9.2 16) (0 : Int).toNat (1)) (mA 13 (va_up (s9.2 13) (0 : Int).toNat (s9.1 2)) (mA 12 (va_up (s9.2 12) (0 : Int).toNat (s9.1 1)) (mA 7 (va_up (s9.2 7) (0 : Int).toNat (-1)) (mA 3 (va_up (s9.2 3) (0 : Int).toNat (1)) s9)))))))))) s1) : mN w H s1 := by
  have c1 : s9.1 1 = w := by rw [b1]; rfl
  have c2 : s9.1 2 = H := by rw [b1]; rfl
  have z9 : ∀ k, k ≠ 51 → ∀ i, s9.2 k i = 0 := fun k hk i => by rw [b2 k hk]; rfl
  obtain ⟨r1, ⟨q3, q4, q5, q6, q7, q8, q9, q10, q11, q12, q13, q15, q16, q17, q18, q19, q22, q23, q24, q25, q26, q27, q28, q29, q30, q31, q32, q33, q34, q35, q36, q37, q38, q39, q40, q41, q42, q43, q44, q45, q46, q50, q51, q52, q58, q59, q60⟩, r21, r20⟩ := hR
  refine ⟨?_, ?_, r20, fun i hi => ?_⟩
  · have r2 : s1.1 = s9.1 := r1
    rw [r2, b1]
    simp only [mVs, List.forall_mem_cons]
    exact ⟨rfl, rfl, rfl, rfl, rfl, rfl, rfl, rfl, rfl, rfl, rfl, rfl, fun _ z => absurd z List.not_mem_nil⟩
  · simp only [mKs, List.forall_mem_cons]
    refine ⟨?_, ?_, ?_, ?_, ?_, ?_, ?_, ?_, ?_, ?_, ?_, ?_, ?_, ?_, ?_, ?_, ?_, ?_, ?_, ?_, ?_, ?_, ?_, ?_, ?_, ?_, ?_, ?_, ?_, ?_, ?_, ?_, ?_, ?_, ?_, ?_, ?_, ?_, ?_, ?_, ?_, ?_, ?_, ?_, ?_, ?_, ?_, fun _ z => absurd z List.not_mem_nil⟩
    · rw [nA_3]; exact q3.trans (up0 (v := 1) (z9 3 (by decide)))
    · rw [nA_4, ite00]; exact q4.trans (funext (z9 4 (by decide)))
    · rw [nA_5, ite00]; exact q5.trans (funext (z9 5 (by decide)))
    · rw [nA_6, ite00]; exact q6.trans (funext (z9 6 (by decide)))
    · rw [nA_7]; exact q7.trans (up0 (v := -1) (z9 7 (by decide)))
    · rw [nA_8, ite00]; exact q8.trans (funext (z9 8 (by decide)))
    · rw [nA_9, ite00]; exact q9.trans (funext (z9 9 (by decide)))
    · rw [nA_10, ite00]; exact q10.trans (funext (z9 10 (by decide)))
    · rw [nA_11, ite00]; exact q11.trans (funext (z9 11 (by decide)))
    · rw [nA_12, ← c1]; exact q12.trans (up0 (v := s9.1 1) (z9 12 (by decide)))
    · rw [nA_13, ← c2]; exact q13.trans (up0 (v := s9.1 2) (z9 13 (by decide)))
    · rw [nA_15, ite00]; exact q15.trans (funext (z9 15 (by decide)))
    · rw [nA_16]; exact q16.trans (up0 (v := 1) (z9 16 (by decide)))
    · rw [nA_17, ite00]; exact q17.trans (funext (z9 17 (by decide)))
    · rw [nA_18, ← c1]; exact q18.trans (up0 (v := s9.1 1) (z9 18 (by decide)))
    · rw [nA_19, ← c2]; exact q19.trans (up0 (v := s9.1 2) (z9 19 (by decide)))
    · rw [nA_21, ite00]; exact funext r21
    · rw [nA_22]; exact q22.trans (up0 (v := 0) (z9 22 (by decide)))
    · rw [nA_23]; exact q23.trans (up0 (v := 0) (z9 23 (by decide)))
    · rw [nA_24]; exact q24.trans (up0 (v := 0) (z9 24 (by decide)))
    · rw [nA_25]; exact q25.trans (up0 (v := 0) (z9 25 (by decide)))
    · rw [nA_26]; exact q26.trans (up0 (v := 0) (z9 26 (by decide)))
    · rw [nA_27]; exact q27.trans (up0 (v := 0) (z9 27 (by decide)))
    · rw [nA_28]; exact q28.trans (up0 (v := 0) (z9 28 (by decide)))
    · rw [nA_29]; exact q29.trans (up0 (v := 0) (z9 29 (by decide)))
    · rw [nA_30, ← c2]; exact q30.trans (up0 (v := s9.1 2 - 1) (z9 30 (by decide)))
    · rw [nA_31]; exact q31.trans (up0 (v := 0) (z9 31 (by decide)))
    · rw [nA_32]; exact q32.trans (up0 (v := 0) (z9 32 (by decide)))
    · rw [nA_33]; exact q33.trans (up0 (v := 1) (z9 33 (by decide)))
    · rw [nA_34]; exact q34.trans (up0 (v := 0) (z9 34 (by decide)))
    · rw [nA_35]; exact q35.trans (up0 (v := 0) (z9 35 (by decide)))
    · rw [nA_36, ite00]; exact q36.trans (funext (z9 36 (by decide)))
    · rw [nA_37, ite00]; exact q37.trans (funext (z9 37 (by decide)))
    · rw [nA_38, ite00]; exact q38.trans (funext (z9 38 (by decide)))
    · rw [nA_39, ite00]; exact q39.trans (funext (z9 39 (by decide)))
    · rw [nA_40, ite00]; exact q40.trans (funext (z9 40 (by decide)))
    · rw [nA_41, ite00]; exact q41.trans (funext (z9 41 (by decide)))
    · rw [nA_42]; exact q42.trans (up0 (v := 0) (z9 42 (by decide)))
    · rw [nA_43]; exact q43.trans (up0 (v := 0) (z9 43 (by decide)))
    · rw [nA_44]; exact q44.trans (up0 (v := 0) (z9 44 (by decide)))
    · rw [nA_45]; exact q45.trans (up0 (v := 0) (z9 45 (by decide)))
    · rw [nA_46, ite00]; exact q46.trans (funext (z9 46 (by decide)))
    · rw [nA_50, ite00]; exact q50.trans (funext (z9 50 (by decide)))
    · rw [nA_52, ite00]; exact q52.trans (funext (z9 52 (by decide)))
    · rw [nA_58, ite00]; exact q58.trans (funext (z9 58 (by decide)))
    · rw [nA_59, ite00]; exact q59.trans (funext (z9 59 (by decide)))
    · rw [nA_60, ite00]; exact q60.trans (funext (z9 60 (by decide)))
  · rw [q51]; exact b3 i (by omega)
set_option maxHeartbeats 1000000 in
set_option maxRecDepth 100000 in
theorem lN_ctor3 {E : pw_E} (htr : E.1.stackTraces = false) {Kk : pw_K} {h h1 : pz_H} {B : Nat} {w H w0 h0 : Int} (hw : 8 ≤ w ∧ w ≤ 40) (hH : 4 ≤ H ∧ H ≤ 16) (hA : mAt B (mV 1 (w) mS0) h1) (hF : mFr B h h1) (hQ : ∀ (h' : pz_H) (s' : mS), mAt B s' h' → mN w H s' → mFr B h h' → Kk.2.2.1 none h' (B + 50)) : pw E YX10_init (rmD 3 49 66328) Kk 49 66328 459 [some (.ref B), some (.int (zI w0)), some (.int (zI h0)), none] [.int (zI H), .ref B] h1 (B + 50) := by
  refine pw_put (fs' := (moL B (va_up (mV 1 (w) mS0).1 2 (H)))) okX10 (k := 2) (by decide) lkX10_166 rfl rfl rfl hA.1 (nlt rfl) rfl dX10_init_459 ?_
  have hA21 : mAt B (mV 2 (H) (mV 1 (w) mS0)) (va_up h1 B (pz_o 13 (moL B (va_up (mV 1 (w) mS0).1 2 (H))))) := mAt_V hA
  have hF21 : mFr B h (va_up h1 B (pz_o 13 (moL B (va_up (mV 1 (w) mS0).1 2 (H))))) := mFr_tr hF (mFr_up (k := 0) (by decide))
  revert hA21 hF21
  generalize (va_up h1 B (pz_o 13 (moL B (va_up (mV 1 (w) mS0).1 2 (H))))) = h21
  intro hA21 hF21
  refine pw_iconst (v := zI (0)) dX10_init_462 (by decide) ?_
  refine pw_istore_n (lv' := [some (.ref B), some (.int (zI (w0))), some (.int (zI (h0))), some (.int (zI (0)))]) dX10_init_463 (by decide) rfl rfl ?_
  refine lN_ctor1 (s := (mV 2 (H) (mV 1 (w) mS0))) htr _ 0 (mV 2 (H) (mV 1 (w) mS0)) h21 rfl (by omega) (by omega) hA21 ⟨rfl, fun _ _ => rfl, fun i hi => by omega⟩ hF21 (fun k9 s9 h9 hA9 hb9 hF9 => ?_)
  obtain ⟨b1, b2, b3⟩ := hb9
  have c1 : s9.1 1 = w := by rw [b1]; rfl
  have c2 : s9.1 2 = H := by rw [b1]; rfl
  refine pw_aload_n dX10_init_485 rfl ?_
  refine pw_get (v := .ref (B + 1)) okX10 (k := 3) (by decide) lkX10_7 hA9.1 rfl dX10_init_486 ?_
  refine pw_iconst (v := zI (0)) dX10_init_489 (by decide) ?_
  refine pw_iconst (v := zI (1)) dX10_init_490 (by decide) ?_
  refine pw_zast (g := (s9.2 3)) (t := 1) rfl (mF3 (s := s9) hA9) (by omega) (by decide) (by omega) dX10_init_491 ?_
  have hA22 : mAt B (mA 3 (va_up (s9.2 3) (0 : Int).toNat (1)) s9) (va_up h9 (B + 1) (pz_z 1 16 (va_up (s9.2 3) (0 : Int).toNat (1)))) := mU3 hA9
  have hF22 : mFr B h (va_up h9 (B + 1) (pz_z 1 16 (va_up (s9.2 3) (0 : Int).toNat (1)))) := mFr_tr hF9 (mFr_up (by decide))
  revert hA22 hF22
  generalize (va_up h9 (B + 1) (pz_z 1 16 (va_up (s9.2 3) (0 : Int).toNat (1)))) = h22
  intro hA22 hF22
  refine pw_aload_n dX10_init_492 rfl ?_
  refine pw_get (v := .ref (B + 5)) okX10 (k := 7) (by decide) lkX10_23 hA22.1 rfl dX10_init_493 ?_
  refine pw_iconst (v := zI (0)) dX10_init_496 (by decide) ?_
  refine pw_iconst (v := zI (-1)) dX10_init_497 (by decide) ?_
  refine pw_iast (g := (s9.2 7)) (t := 0) rfl (mF7 (s := (mA 3 (va_up (s9.2 3) (0 : Int).toNat (1)) s9)) hA22) (by omega) (by decide) dX10_init_498 ?_
  have hA23 : mAt B (mA 7 (va_up (s9.2 7) (0 : Int).toNat (-1)) (mA 3 (va_up (s9.2 3) (0 : Int).toNat (1)) s9)) (va_up h22 (B + 5) (pz_z 0 16 (va_up (s9.2 7) (0 : Int).toNat (-1)))) := mU7 hA22
  have hF23 : mFr B h (va_up h22 (B + 5) (pz_z 0 16 (va_up (s9.2 7) (0 : Int).toNat (-1)))) := mFr_tr hF22 (mFr_up (by decide))
  revert hA23 hF23
  generalize (va_up h22 (B + 5) (pz_z 0 16 (va_up (s9.2 7) (0 : Int).toNat (-1)))) = h23
  intro hA23 hF23
  refine pw_aload_n dX10_init_499 rfl ?_
  refine pw_get (v := .ref (B + 10)) okX10 (k := 12) (by decide) lkX10_38 hA23.1 rfl dX10_init_500 ?_
  refine pw_iconst (v := zI (0)) dX10_init_503 (by decide) ?_
  refine pw_aload_n dX10_init_504 rfl ?_
  refine pw_get (v := .int (zI (s9.1 1))) okX10 (k := 1) (by decide) lkX10_162 hA23.1 rfl dX10_init_505 ?_
  refine pw_iast (g := (s9.2 12)) (t := 0) rfl (mF12 (s := (mA 7 (va_up (s9.2 7) (0 : Int).toNat (-1)) (mA 3 (va_up (s9.2 3) (0 : Int).toNat (1)) s9))) hA23) (by omega) (by decide) dX10_init_508 ?_
  have hA24 : mAt B (mA 12 (va_up (s9.2 12) (0 : Int).toNat (s9.1 1)) (mA 7 (va_up (s9.2 7) (0 : Int).toNat (-1)) (mA 3 (va_up (s9.2 3) (0 : Int).toNat (1)) s9))) (va_up h23 (B + 10) (pz_z 0 16 (va_up (s9.2 12) (0 : Int).toNat (s9.1 1)))) := mU12 hA23
  have hF24 : mFr B h (va_up h23 (B + 10) (pz_z 0 16 (va_up (s9.2 12) (0 : Int).toNat (s9.1 1)))) := mFr_tr hF23 (mFr_up (by decide))
  revert hA24 hF24
  generalize (va_up h23 (B + 10) (pz_z 0 16 (va_up (s9.2 12) (0 : Int).toNat (s9.1 1)))) = h24
  intro hA24 hF24
  refine pw_aload_n dX10_init_509 rfl ?_
  refine pw_get (v := .ref (B + 11)) okX10 (k := 13) (by decide) lkX10_41 hA24.1 rfl dX10_init_510 ?_
  refine pw_iconst (v := zI (0)) dX10_init_513 (by decide) ?_
  refine pw_aload_n dX10_init_514 rfl ?_
  refine pw_get (v := .int (zI (s9.1 2))) okX10 (k := 2) (by decide) lkX10_166 hA24.1 rfl dX10_init_515 ?_
  refine pw_iast (g := (s9.2 13)) (t := 0) rfl (mF13 (s := (mA 12 (va_up (s9.2 12) (0 : Int).toNat (s9.1 1)) (mA 7 (va_up (s9.2 7) (0 : Int).toNat (-1)) (mA 3 (va_up (s9.2 3) (0 : Int).toNat (1)) s9)))) hA24) (by omega) (by decide) dX10_init_518 ?_
  have hA25 : mAt B (mA 13 (va_up (s9.2 13) (0 : Int).toNat (s9.1 2)) (mA 12 (va_up (s9.2 12) (0 : Int).toNat (s9.1 1)) (mA 7 (va_up (s9.2 7) (0 : Int).toNat (-1)) (mA 3 (va_up (s9.2 3) (0 : Int).toNat (1)) s9)))) (va_up h24 (B + 11) (pz_z 0 16 (va_up (s9.2 13) (0 : Int).toNat (s9.1 2)))) := mU13 hA24
  have hF25 : mFr B h (va_up h24 (B + 11) (pz_z 0 16 (va_up (s9.2 13) (0 : Int).toNat (s9.1 2)))) := mFr_tr hF24 (mFr_up (by decide))
  revert hA25 hF25
  generalize (va_up h24 (B + 11) (pz_z 0 16 (va_up (s9.2 13) (0 : Int).toNat (s9.1 2)))) = h25
  intro hA25 hF25
  refine pw_aload_n dX10_init_519 rfl ?_
  refine pw_get (v := .ref (B + 13)) okX10 (k := 16) (by decide) lkX10_47 hA25.1 rfl dX10_init_520 ?_
  refine pw_iconst (v := zI (0)) dX10_init_523 (by decide) ?_
  refine pw_iconst (v := zI (1)) dX10_init_524 (by decide) ?_
  refine pw_zast (g := (s9.2 16)) (t := 1) rfl (mF16 (s := (mA 13 (va_up (s9.2 13) (0 : Int).toNat (s9.1 2)) (mA 12 (va_up (s9.2 12) (0 : Int).toNat (s9.1 1)) (mA 7 (va_up (s9.2 7) (0 : Int).toNat (-1)) (mA 3 (va_up (s9.2 3) (0 : Int).toNat (1)) s9))))) hA25) (by omega) (by decide) (by omega) dX10_init_525 ?_
  have hA26 : mAt B (mA 16 (va_up (s9.2 16) (0 : Int).toNat (1)) (mA 13 (va_up (s9.2 13) (0 : Int).toNat (s9.1 2)) (mA 12 (va_up (s9.2 12) (0 : Int).toNat (s9.1 1)) (mA 7 (va_up (s9.2 7) (0 : Int).toNat (-1)) (mA 3 (va_up (s9.2 3) (0 : Int).toNat (1)) s9))))) (va_up h25 (B + 13) (pz_z 1 8 (va_up (s9.2 16) (0 : Int).toNat (1)))) := mU16 hA25
  have hF26 : mFr B h (va_up h25 (B + 13) (pz_z 1 8 (va_up (s9.2 16) (0 : Int).toNat (1)))) := mFr_tr hF25 (mFr_up (by decide))
  revert hA26 hF26
  generalize (va_up h25 (B + 13) (pz_z 1 8 (va_up (s9.2 16) (0 : Int).toNat (1)))) = h26
  intro hA26 hF26
  refine pw_aload_n dX10_init_526 rfl ?_
  refine pw_iconst (v := zI (0)) dX10_init_527 (by decide) ?_
  refine pw_aload_n dX10_init_528 rfl ?_
  refine pw_get (v := .int (zI (s9.1 1))) okX10 (k := 1) (by decide) lkX10_162 hA26.1 rfl dX10_init_529 ?_
  refine pw_aload_n dX10_init_532 rfl ?_
  refine pw_get (v := .int (zI (s9.1 2))) okX10 (k := 2) (by decide) lkX10_166 hA26.1 rfl dX10_init_533 ?_
  refine pw_callV (As := [.int (zI (0)), .int (zI (s9.1 1)), .int (zI (s9.1 2))]) (b := B) (rm := rmD 2 0 0) (nR_begin0 htr hA26 (fun i => by show s9.2 21 i = 0; rw [b2 21 (by decide)]; rfl)) rfl hA26.1 rfl rfl ywX10_begin rfl cwX10_169 ⟨nle rfl, nle rfl⟩ (nle rfl) ⟨nle rfl, nle rfl⟩ dX10_init_536 ?_ (fun _ _ _ z => z.elim)
  intro r_9 h27 n_9 hq _
  obtain ⟨e1, s27, hA27, hR, hF270, e4⟩ := hq
  rw [e1, e4]
  show pw E YX10_init _ _ 49 66328 539 [some (.ref B), some (.int (zI (w0))), some (.int (zI (h0))), some (.int (zI (k9)))] [] h27 (B + 50)
  have hF27 := mFr_tr hF26 hF270
  exact pw_vret dX10_init_539 rfl (nle rfl) (nle rfl) (hQ h27 s27 hA27 (mN_new b1 b2 b3 hR) hF27)
set_option maxHeartbeats 1000000 in
set_option maxRecDepth 100000 in
theorem lN_ctor2 {E : pw_E} (htr : E.1.stackTraces = false) {Kk : pw_K} {h h1 : pz_H} {B : Nat} {w H w0 h0 : Int} (hw : 8 ≤ w ∧ w ≤ 40) (hH : 4 ≤ H ∧ H ≤ 16) (hwe : w = max 8 (min 40 w0)) (hHe : H = max 4 (min 16 h0)) (h_w0 : -2147483648 ≤ w0 ∧ w0 < 2147483648) (h_h0 : -2147483648 ≤ h0 ∧ h0 < 2147483648) (hA : mAt B mS0 h1) (hF : mFr B h h1) (hQ : ∀ (h' : pz_H) (s' : mS), mAt B s' h' → mN w H s' → mFr B h h' → Kk.2.2.1 none h' (B + 50)) : pw E YX10_init (rmD 3 49 66328) Kk 49 66328 410 [some (.ref B), some (.int (zI w0)), some (.int (zI h0)), none] [] h1 (B + 50) := by
  have k434 : pw E YX10_init (rmD 3 49 66328) Kk 49 66328 434 [some (.ref B), some (.int (zI w0)), some (.int (zI h0)), none] [.int (zI w), .ref B] h1 (B + 50) := by
    refine pw_put (fs' := (moL B (va_up mS0.1 1 (w)))) okX10 (k := 1) (by decide) lkX10_162 rfl rfl rfl hA.1 (nlt rfl) rfl dX10_init_434 ?_
    have hA41 : mAt B (mV 1 (w) mS0) (va_up h1 B (pz_o 13 (moL B (va_up mS0.1 1 (w))))) := mAt_V hA
    have hF41 : mFr B h (va_up h1 B (pz_o 13 (moL B (va_up mS0.1 1 (w))))) := mFr_tr hF (mFr_up (k := 0) (by decide))
    revert hA41 hF41
    generalize (va_up h1 B (pz_o 13 (moL B (va_up mS0.1 1 (w))))) = h41
    intro hA41 hF41
    have k459 : pw E YX10_init (rmD 3 49 66328) Kk 49 66328 459 [some (.ref B), some (.int (zI w0)), some (.int (zI h0)), none] [.int (zI H), .ref B] h41 (B + 50) := lN_ctor3 htr hw hH hA41 hF41 hQ
    refine pw_aload_n dX10_init_437 rfl ?_
    refine pw_iload_n dX10_init_438 rfl ?_
    refine pw_iconst (v := zI (4)) dX10_init_439 (by decide) ?_
    refine pw_icmp_ge (tgt := 447) dX10_init_440 rfl (by omega) (by omega) (fun c440 => ?_) (fun c440 => ?_)
    ·
      refine pw_iload_n dX10_init_447 rfl ?_
      refine pw_bipush (v := zI (16)) dX10_init_448 (by decide) ?_
      refine pw_icmp_le (tgt := 458) dX10_init_450 rfl (by omega) (by omega) (fun c450 => ?_) (fun c450 => ?_)
      ·
        refine pw_iload_n dX10_init_458 rfl ?_
        exact (congrArg (fun z => pw E YX10_init (rmD 3 49 66328) Kk 49 66328 459 [some (.ref B), some (.int (zI w0)), some (.int (zI h0)), none] [.int (zI z), .ref B] h41 (B + 50)) (show (h0 : Int) = H from by omega)).mpr k459
      ·
        refine pw_bipush (v := zI (16)) dX10_init_453 (by decide) ?_
        refine pw_goto (tgt := 459) dX10_init_455 rfl ?_
        exact (congrArg (fun z => pw E YX10_init (rmD 3 49 66328) Kk 49 66328 459 [some (.ref B), some (.int (zI w0)), some (.int (zI h0)), none] [.int (zI z), .ref B] h41 (B + 50)) (show (16 : Int) = H from by omega)).mpr k459
    ·
      refine pw_iconst (v := zI (4)) dX10_init_443 (by decide) ?_
      refine pw_goto (tgt := 459) dX10_init_444 rfl ?_
      exact (congrArg (fun z => pw E YX10_init (rmD 3 49 66328) Kk 49 66328 459 [some (.ref B), some (.int (zI w0)), some (.int (zI h0)), none] [.int (zI z), .ref B] h41 (B + 50)) (show (4 : Int) = H from by omega)).mpr k459
  refine pw_aload_n dX10_init_410 rfl ?_
  refine pw_iload_n dX10_init_411 rfl ?_
  refine pw_bipush (v := zI (8)) dX10_init_412 (by decide) ?_
  refine pw_icmp_ge (tgt := 422) dX10_init_414 rfl (by omega) (by omega) (fun c414 => ?_) (fun c414 => ?_)
  ·
    refine pw_iload_n dX10_init_422 rfl ?_
    refine pw_bipush (v := zI (40)) dX10_init_423 (by decide) ?_
    refine pw_icmp_le (tgt := 433) dX10_init_425 rfl (by omega) (by omega) (fun c425 => ?_) (fun c425 => ?_)
    ·
      refine pw_iload_n dX10_init_433 rfl ?_
      exact (congrArg (fun z => pw E YX10_init (rmD 3 49 66328) Kk 49 66328 434 [some (.ref B), some (.int (zI w0)), some (.int (zI h0)), none] [.int (zI z), .ref B] h1 (B + 50)) (show (w0 : Int) = w from by omega)).mpr k434
    ·
      refine pw_bipush (v := zI (40)) dX10_init_428 (by decide) ?_
      refine pw_goto (tgt := 434) dX10_init_430 rfl ?_
      exact (congrArg (fun z => pw E YX10_init (rmD 3 49 66328) Kk 49 66328 434 [some (.ref B), some (.int (zI w0)), some (.int (zI h0)), none] [.int (zI z), .ref B] h1 (B + 50)) (show (40 : Int) = w from by omega)).mpr k434
  ·
    refine pw_bipush (v := zI (8)) dX10_init_417 (by decide) ?_
    refine pw_goto (tgt := 434) dX10_init_419 rfl ?_
    exact (congrArg (fun z => pw E YX10_init (rmD 3 49 66328) Kk 49 66328 434 [some (.ref B), some (.int (zI w0)), some (.int (zI h0)), none] [.int (zI z), .ref B] h1 (B + 50)) (show (8 : Int) = w from by omega)).mpr k434
set_option maxHeartbeats 1000000 in
set_option maxRecDepth 100000 in
/-- new PaneHouseModel(w0, h0) -/
theorem nR_init {E : pw_E} (htr : E.1.stackTraces = false) {h : pz_H} {B : Nat} {w H w0 h0 : Int} (hw : 8 ≤ w ∧ w ≤ 40) (hH : 4 ≤ H ∧ H ≤ 16) (hwe : w = max 8 (min 40 w0)) (hHe : H = max 4 (min 16 h0)) (h_w0 : -2147483648 ≤ w0 ∧ w0 < 2147483648) (h_h0 : -2147483648 ≤ h0 ∧ h0 < 2147483648) (hobj : h B = pz_o 13 (moLr B 0 (fun _ => 0))) : pw_M E yX10_init YX10_init (rmD 3 49 66328) [.ref B, .int (zI w0), .int (zI h0)] h (B + 1) (fun r0 h' n' => r0 = none ∧ ∃ s', mAt B s' h' ∧ mN w H s' ∧ mFr B h h' ∧ n' = (B + 50)) (fun _ _ _ => False) := by
  refine pw_M_of (lv := [some (.ref B), some (.int (zI w0)), some (.int (zI h0)), none]) (by decide) rfl rfl htr (nle rfl) rfl (fun L => ?_)
  refine pw_aload_n dX10_init_0 rfl ?_
  refine pw_objInit cwX10_1 dX10_init_1 ⟨nle rfl, nle rfl⟩ ?_
  have hA0 : mAt0 B 0 (fun _ => (0 : Int)) h := ⟨hobj, fun q _ z => absurd z (by omega)⟩
  refine pw_aload_n dX10_init_4 rfl ?_
  refine pw_bipush (v := zI (16)) dX10_init_5 (by decide) ?_
  refine pw_newz (t := 1) rfl naBool (by decide) (nle rfl) (nle rfl) dX10_init_7 ?_
  refine pw_u (uc' := 1) (us' := 16) (n' := B + 2) rfl rfl rfl ?_
  refine pw_putF (fs' := moLr B 1 (fun _ => (0 : Int))) okX10 (k := 3) (by decide) lkX10_7 rfl rfl rfl rfl rfl ((va_up_ne _ _ (by omega)).trans hA0.1) (nlt rfl) rfl dX10_init_9 ?_
  refine pw_h (h' := va_up (va_up h (B + 1 + 0) (pz_z 1 16 (fun _ => 0))) B (pz_o 13 (moLr B 1 (fun _ => (0 : Int))))) rfl ?_
  have hA1 : mAt0 B 1 (fun _ => (0 : Int)) (va_up (va_up h (B + 1 + 0) (pz_z 1 16 (fun _ => 0))) B (pz_o 13 (moLr B 1 (fun _ => (0 : Int))))) := mAt0_s (q := (3, 0, 1, 16)) (by decide) rfl hA0
  have hF1 : mFr B h (va_up (va_up h (B + 1 + 0) (pz_z 1 16 (fun _ => 0))) B (pz_o 13 (moLr B 1 (fun _ => (0 : Int))))) := mFr_tr mFr_rf (mFr_tr (show mFr B h (va_up h (B + 1 + 0) (pz_z 1 16 (fun _ => 0))) from mFr_up (k := 1) (by decide)) (mFr_up (k := 0) (by decide)))
  revert hA1 hF1
  generalize (va_up (va_up h (B + 1 + 0) (pz_z 1 16 (fun _ => 0))) B (pz_o 13 (moLr B 1 (fun _ => (0 : Int))))) = h1
  intro hA1 hF1
  refine pw_aload_n dX10_init_12 rfl ?_
  refine pw_bipush (v := zI (16)) dX10_init_13 (by decide) ?_
  refine pw_newi (t := 0) rfl naInt (by decide) (nle rfl) (nle rfl) dX10_init_15 ?_
  refine pw_u (uc' := 2) (us' := 32) (n' := B + 3) rfl rfl rfl ?_
  refine pw_putF (fs' := moLr B 2 (fun _ => (0 : Int))) okX10 (k := 4) (by decide) lkX10_13 rfl rfl rfl rfl rfl ((va_up_ne _ _ (by omega)).trans hA1.1) (nlt rfl) rfl dX10_init_17 ?_
  refine pw_h (h' := va_up (va_up h1 (B + 1 + 1) (pz_z 0 16 (fun _ => 0))) B (pz_o 13 (moLr B 2 (fun _ => (0 : Int))))) rfl ?_
  have hA2 : mAt0 B 2 (fun _ => (0 : Int)) (va_up (va_up h1 (B + 1 + 1) (pz_z 0 16 (fun _ => 0))) B (pz_o 13 (moLr B 2 (fun _ => (0 : Int))))) := mAt0_s (q := (4, 1, 0, 16)) (by decide) rfl hA1
  have hF2 : mFr B h (va_up (va_up h1 (B + 1 + 1) (pz_z 0 16 (fun _ => 0))) B (pz_o 13 (moLr B 2 (fun _ => (0 : Int))))) := mFr_tr hF1 (mFr_tr (show mFr B h1 (va_up h1 (B + 1 + 1) (pz_z 0 16 (fun _ => 0))) from mFr_up (k := 2) (by decide)) (mFr_up (k := 0) (by decide)))
  revert hA2 hF2
  generalize (va_up (va_up h1 (B + 1 + 1) (pz_z 0 16 (fun _ => 0))) B (pz_o 13 (moLr B 2 (fun _ => (0 : Int))))) = h2
  intro hA2 hF2
  refine pw_aload_n dX10_init_20 rfl ?_
  refine pw_bipush (v := zI (16)) dX10_init_21 (by decide) ?_
  refine pw_newi (t := 0) rfl naInt (by decide) (nle rfl) (nle rfl) dX10_init_23 ?_
  refine pw_u (uc' := 3) (us' := 48) (n' := B + 4) rfl rfl rfl ?_
  refine pw_putF (fs' := moLr B 3 (fun _ => (0 : Int))) okX10 (k := 5) (by decide) lkX10_17 rfl rfl rfl rfl rfl ((va_up_ne _ _ (by omega)).trans hA2.1) (nlt rfl) rfl dX10_init_25 ?_
  refine pw_h (h' := va_up (va_up h2 (B + 1 + 2) (pz_z 0 16 (fun _ => 0))) B (pz_o 13 (moLr B 3 (fun _ => (0 : Int))))) rfl ?_
  have hA3 : mAt0 B 3 (fun _ => (0 : Int)) (va_up (va_up h2 (B + 1 + 2) (pz_z 0 16 (fun _ => 0))) B (pz_o 13 (moLr B 3 (fun _ => (0 : Int))))) := mAt0_s (q := (5, 2, 0, 16)) (by decide) rfl hA2
  have hF3 : mFr B h (va_up (va_up h2 (B + 1 + 2) (pz_z 0 16 (fun _ => 0))) B (pz_o 13 (moLr B 3 (fun _ => (0 : Int))))) := mFr_tr hF2 (mFr_tr (show mFr B h2 (va_up h2 (B + 1 + 2) (pz_z 0 16 (fun _ => 0))) from mFr_up (k := 3) (by decide)) (mFr_up (k := 0) (by decide)))
  revert hA3 hF3
  generalize (va_up (va_up h2 (B + 1 + 2) (pz_z 0 16 (fun _ => 0))) B (pz_o 13 (moLr B 3 (fun _ => (0 : Int))))) = h3
  intro hA3 hF3
  refine pw_aload_n dX10_init_28 rfl ?_
  refine pw_bipush (v := zI (16)) dX10_init_29 (by decide) ?_
  refine pw_newi (t := 0) rfl naInt (by decide) (nle rfl) (nle rfl) dX10_init_31 ?_
  refine pw_u (uc' := 4) (us' := 64) (n' := B + 5) rfl rfl rfl ?_
  refine pw_putF (fs' := moLr B 4 (fun _ => (0 : Int))) okX10 (k := 6) (by decide) lkX10_20 rfl rfl rfl rfl rfl ((va_up_ne _ _ (by omega)).trans hA3.1) (nlt rfl) rfl dX10_init_33 ?_
  refine pw_h (h' := va_up (va_up h3 (B + 1 + 3) (pz_z 0 16 (fun _ => 0))) B (pz_o 13 (moLr B 4 (fun _ => (0 : Int))))) rfl ?_
  have hA4 : mAt0 B 4 (fun _ => (0 : Int)) (va_up (va_up h3 (B + 1 + 3) (pz_z 0 16 (fun _ => 0))) B (pz_o 13 (moLr B 4 (fun _ => (0 : Int))))) := mAt0_s (q := (6, 3, 0, 16)) (by decide) rfl hA3
  have hF4 : mFr B h (va_up (va_up h3 (B + 1 + 3) (pz_z 0 16 (fun _ => 0))) B (pz_o 13 (moLr B 4 (fun _ => (0 : Int))))) := mFr_tr hF3 (mFr_tr (show mFr B h3 (va_up h3 (B + 1 + 3) (pz_z 0 16 (fun _ => 0))) from mFr_up (k := 4) (by decide)) (mFr_up (k := 0) (by decide)))
  revert hA4 hF4
  generalize (va_up (va_up h3 (B + 1 + 3) (pz_z 0 16 (fun _ => 0))) B (pz_o 13 (moLr B 4 (fun _ => (0 : Int))))) = h4
  intro hA4 hF4
  refine pw_aload_n dX10_init_36 rfl ?_
  refine pw_bipush (v := zI (16)) dX10_init_37 (by decide) ?_
  refine pw_newi (t := 0) rfl naInt (by decide) (nle rfl) (nle rfl) dX10_init_39 ?_
  refine pw_u (uc' := 5) (us' := 80) (n' := B + 6) rfl rfl rfl ?_
  refine pw_putF (fs' := moLr B 5 (fun _ => (0 : Int))) okX10 (k := 7) (by decide) lkX10_23 rfl rfl rfl rfl rfl ((va_up_ne _ _ (by omega)).trans hA4.1) (nlt rfl) rfl dX10_init_41 ?_
  refine pw_h (h' := va_up (va_up h4 (B + 1 + 4) (pz_z 0 16 (fun _ => 0))) B (pz_o 13 (moLr B 5 (fun _ => (0 : Int))))) rfl ?_
  have hA5 : mAt0 B 5 (fun _ => (0 : Int)) (va_up (va_up h4 (B + 1 + 4) (pz_z 0 16 (fun _ => 0))) B (pz_o 13 (moLr B 5 (fun _ => (0 : Int))))) := mAt0_s (q := (7, 4, 0, 16)) (by decide) rfl hA4
  have hF5 : mFr B h (va_up (va_up h4 (B + 1 + 4) (pz_z 0 16 (fun _ => 0))) B (pz_o 13 (moLr B 5 (fun _ => (0 : Int))))) := mFr_tr hF4 (mFr_tr (show mFr B h4 (va_up h4 (B + 1 + 4) (pz_z 0 16 (fun _ => 0))) from mFr_up (k := 5) (by decide)) (mFr_up (k := 0) (by decide)))
  revert hA5 hF5
  generalize (va_up (va_up h4 (B + 1 + 4) (pz_z 0 16 (fun _ => 0))) B (pz_o 13 (moLr B 5 (fun _ => (0 : Int))))) = h5
  intro hA5 hF5
  refine pw_aload_n dX10_init_44 rfl ?_
  refine pw_bipush (v := zI (16)) dX10_init_45 (by decide) ?_
  refine pw_newz (t := 1) rfl naBool (by decide) (nle rfl) (nle rfl) dX10_init_47 ?_
  refine pw_u (uc' := 6) (us' := 96) (n' := B + 7) rfl rfl rfl ?_
  refine pw_putF (fs' := moLr B 6 (fun _ => (0 : Int))) okX10 (k := 8) (by decide) lkX10_26 rfl rfl rfl rfl rfl ((va_up_ne _ _ (by omega)).trans hA5.1) (nlt rfl) rfl dX10_init_49 ?_
  refine pw_h (h' := va_up (va_up h5 (B + 1 + 5) (pz_z 1 16 (fun _ => 0))) B (pz_o 13 (moLr B 6 (fun _ => (0 : Int))))) rfl ?_
  have hA6 : mAt0 B 6 (fun _ => (0 : Int)) (va_up (va_up h5 (B + 1 + 5) (pz_z 1 16 (fun _ => 0))) B (pz_o 13 (moLr B 6 (fun _ => (0 : Int))))) := mAt0_s (q := (8, 5, 1, 16)) (by decide) rfl hA5
  have hF6 : mFr B h (va_up (va_up h5 (B + 1 + 5) (pz_z 1 16 (fun _ => 0))) B (pz_o 13 (moLr B 6 (fun _ => (0 : Int))))) := mFr_tr hF5 (mFr_tr (show mFr B h5 (va_up h5 (B + 1 + 5) (pz_z 1 16 (fun _ => 0))) from mFr_up (k := 6) (by decide)) (mFr_up (k := 0) (by decide)))
  revert hA6 hF6
  generalize (va_up (va_up h5 (B + 1 + 5) (pz_z 1 16 (fun _ => 0))) B (pz_o 13 (moLr B 6 (fun _ => (0 : Int))))) = h6
  intro hA6 hF6
  refine pw_aload_n dX10_init_52 rfl ?_
  refine pw_bipush (v := zI (16)) dX10_init_53 (by decide) ?_
  refine pw_newi (t := 0) rfl naInt (by decide) (nle rfl) (nle rfl) dX10_init_55 ?_
  refine pw_u (uc' := 7) (us' := 112) (n' := B + 8) rfl rfl rfl ?_
  refine pw_putF (fs' := moLr B 7 (fun _ => (0 : Int))) okX10 (k := 9) (by decide) lkX10_29 rfl rfl rfl rfl rfl ((va_up_ne _ _ (by omega)).trans hA6.1) (nlt rfl) rfl dX10_init_57 ?_
  refine pw_h (h' := va_up (va_up h6 (B + 1 + 6) (pz_z 0 16 (fun _ => 0))) B (pz_o 13 (moLr B 7 (fun _ => (0 : Int))))) rfl ?_
  have hA7 : mAt0 B 7 (fun _ => (0 : Int)) (va_up (va_up h6 (B + 1 + 6) (pz_z 0 16 (fun _ => 0))) B (pz_o 13 (moLr B 7 (fun _ => (0 : Int))))) := mAt0_s (q := (9, 6, 0, 16)) (by decide) rfl hA6
  have hF7 : mFr B h (va_up (va_up h6 (B + 1 + 6) (pz_z 0 16 (fun _ => 0))) B (pz_o 13 (moLr B 7 (fun _ => (0 : Int))))) := mFr_tr hF6 (mFr_tr (show mFr B h6 (va_up h6 (B + 1 + 6) (pz_z 0 16 (fun _ => 0))) from mFr_up (k := 7) (by decide)) (mFr_up (k := 0) (by decide)))
  revert hA7 hF7
  generalize (va_up (va_up h6 (B + 1 + 6) (pz_z 0 16 (fun _ => 0))) B (pz_o 13 (moLr B 7 (fun _ => (0 : Int))))) = h7
  intro hA7 hF7
  refine pw_aload_n dX10_init_60 rfl ?_
  refine pw_bipush (v := zI (16)) dX10_init_61 (by decide) ?_
  refine pw_newi (t := 0) rfl naInt (by decide) (nle rfl) (nle rfl) dX10_init_63 ?_
  refine pw_u (uc' := 8) (us' := 128) (n' := B + 9) rfl rfl rfl ?_
  refine pw_putF (fs' := moLr B 8 (fun _ => (0 : Int))) okX10 (k := 10) (by decide) lkX10_32 rfl rfl rfl rfl rfl ((va_up_ne _ _ (by omega)).trans hA7.1) (nlt rfl) rfl dX10_init_65 ?_
  refine pw_h (h' := va_up (va_up h7 (B + 1 + 7) (pz_z 0 16 (fun _ => 0))) B (pz_o 13 (moLr B 8 (fun _ => (0 : Int))))) rfl ?_
  have hA8 : mAt0 B 8 (fun _ => (0 : Int)) (va_up (va_up h7 (B + 1 + 7) (pz_z 0 16 (fun _ => 0))) B (pz_o 13 (moLr B 8 (fun _ => (0 : Int))))) := mAt0_s (q := (10, 7, 0, 16)) (by decide) rfl hA7
  have hF8 : mFr B h (va_up (va_up h7 (B + 1 + 7) (pz_z 0 16 (fun _ => 0))) B (pz_o 13 (moLr B 8 (fun _ => (0 : Int))))) := mFr_tr hF7 (mFr_tr (show mFr B h7 (va_up h7 (B + 1 + 7) (pz_z 0 16 (fun _ => 0))) from mFr_up (k := 8) (by decide)) (mFr_up (k := 0) (by decide)))
  revert hA8 hF8
  generalize (va_up (va_up h7 (B + 1 + 7) (pz_z 0 16 (fun _ => 0))) B (pz_o 13 (moLr B 8 (fun _ => (0 : Int))))) = h8
  intro hA8 hF8
  refine pw_aload_n dX10_init_68 rfl ?_
  refine pw_bipush (v := zI (16)) dX10_init_69 (by decide) ?_
  refine pw_newi (t := 0) rfl naInt (by decide) (nle rfl) (nle rfl) dX10_init_71 ?_
  refine pw_u (uc' := 9) (us' := 144) (n' := B + 10) rfl rfl rfl ?_
  refine pw_putF (fs' := moLr B 9 (fun _ => (0 : Int))) okX10 (k := 11) (by decide) lkX10_35 rfl rfl rfl rfl rfl ((va_up_ne _ _ (by omega)).trans hA8.1) (nlt rfl) rfl dX10_init_73 ?_
  refine pw_h (h' := va_up (va_up h8 (B + 1 + 8) (pz_z 0 16 (fun _ => 0))) B (pz_o 13 (moLr B 9 (fun _ => (0 : Int))))) rfl ?_
  have hA9 : mAt0 B 9 (fun _ => (0 : Int)) (va_up (va_up h8 (B + 1 + 8) (pz_z 0 16 (fun _ => 0))) B (pz_o 13 (moLr B 9 (fun _ => (0 : Int))))) := mAt0_s (q := (11, 8, 0, 16)) (by decide) rfl hA8
  have hF9 : mFr B h (va_up (va_up h8 (B + 1 + 8) (pz_z 0 16 (fun _ => 0))) B (pz_o 13 (moLr B 9 (fun _ => (0 : Int))))) := mFr_tr hF8 (mFr_tr (show mFr B h8 (va_up h8 (B + 1 + 8) (pz_z 0 16 (fun _ => 0))) from mFr_up (k := 9) (by decide)) (mFr_up (k := 0) (by decide)))
  revert hA9 hF9
  generalize (va_up (va_up h8 (B + 1 + 8) (pz_z 0 16 (fun _ => 0))) B (pz_o 13 (moLr B 9 (fun _ => (0 : Int))))) = h9
  intro hA9 hF9
  refine pw_aload_n dX10_init_76 rfl ?_
  refine pw_bipush (v := zI (16)) dX10_init_77 (by decide) ?_
  refine pw_newi (t := 0) rfl naInt (by decide) (nle rfl) (nle rfl) dX10_init_79 ?_
  refine pw_u (uc' := 10) (us' := 160) (n' := B + 11) rfl rfl rfl ?_
  refine pw_putF (fs' := moLr B 10 (fun _ => (0 : Int))) okX10 (k := 12) (by decide) lkX10_38 rfl rfl rfl rfl rfl ((va_up_ne _ _ (by omega)).trans hA9.1) (nlt rfl) rfl dX10_init_81 ?_
  refine pw_h (h' := va_up (va_up h9 (B + 1 + 9) (pz_z 0 16 (fun _ => 0))) B (pz_o 13 (moLr B 10 (fun _ => (0 : Int))))) rfl ?_
  have hA10 : mAt0 B 10 (fun _ => (0 : Int)) (va_up (va_up h9 (B + 1 + 9) (pz_z 0 16 (fun _ => 0))) B (pz_o 13 (moLr B 10 (fun _ => (0 : Int))))) := mAt0_s (q := (12, 9, 0, 16)) (by decide) rfl hA9
  have hF10 : mFr B h (va_up (va_up h9 (B + 1 + 9) (pz_z 0 16 (fun _ => 0))) B (pz_o 13 (moLr B 10 (fun _ => (0 : Int))))) := mFr_tr hF9 (mFr_tr (show mFr B h9 (va_up h9 (B + 1 + 9) (pz_z 0 16 (fun _ => 0))) from mFr_up (k := 10) (by decide)) (mFr_up (k := 0) (by decide)))
  revert hA10 hF10
  generalize (va_up (va_up h9 (B + 1 + 9) (pz_z 0 16 (fun _ => 0))) B (pz_o 13 (moLr B 10 (fun _ => (0 : Int))))) = h10
  intro hA10 hF10
  refine pw_aload_n dX10_init_84 rfl ?_
  refine pw_bipush (v := zI (16)) dX10_init_85 (by decide) ?_
  refine pw_newi (t := 0) rfl naInt (by decide) (nle rfl) (nle rfl) dX10_init_87 ?_
  refine pw_u (uc' := 11) (us' := 176) (n' := B + 12) rfl rfl rfl ?_
  refine pw_putF (fs' := moLr B 11 (fun _ => (0 : Int))) okX10 (k := 13) (by decide) lkX10_41 rfl rfl rfl rfl rfl ((va_up_ne _ _ (by omega)).trans hA10.1) (nlt rfl) rfl dX10_init_89 ?_
  refine pw_h (h' := va_up (va_up h10 (B + 1 + 10) (pz_z 0 16 (fun _ => 0))) B (pz_o 13 (moLr B 11 (fun _ => (0 : Int))))) rfl ?_
  have hA11 : mAt0 B 11 (fun _ => (0 : Int)) (va_up (va_up h10 (B + 1 + 10) (pz_z 0 16 (fun _ => 0))) B (pz_o 13 (moLr B 11 (fun _ => (0 : Int))))) := mAt0_s (q := (13, 10, 0, 16)) (by decide) rfl hA10
  have hF11 : mFr B h (va_up (va_up h10 (B + 1 + 10) (pz_z 0 16 (fun _ => 0))) B (pz_o 13 (moLr B 11 (fun _ => (0 : Int))))) := mFr_tr hF10 (mFr_tr (show mFr B h10 (va_up h10 (B + 1 + 10) (pz_z 0 16 (fun _ => 0))) from mFr_up (k := 11) (by decide)) (mFr_up (k := 0) (by decide)))
  revert hA11 hF11
  generalize (va_up (va_up h10 (B + 1 + 10) (pz_z 0 16 (fun _ => 0))) B (pz_o 13 (moLr B 11 (fun _ => (0 : Int))))) = h11
  intro hA11 hF11
  refine pw_aload_n dX10_init_92 rfl ?_
  refine pw_bipush (v := zI (16)) dX10_init_93 (by decide) ?_
  refine pw_newi (t := 0) rfl naInt (by decide) (nle rfl) (nle rfl) dX10_init_95 ?_
  refine pw_u (uc' := 12) (us' := 192) (n' := B + 13) rfl rfl rfl ?_
  refine pw_putF (fs' := moLr B 12 (fun _ => (0 : Int))) okX10 (k := 15) (by decide) lkX10_44 rfl rfl rfl rfl rfl ((va_up_ne _ _ (by omega)).trans hA11.1) (nlt rfl) rfl dX10_init_97 ?_
  refine pw_h (h' := va_up (va_up h11 (B + 1 + 11) (pz_z 0 16 (fun _ => 0))) B (pz_o 13 (moLr B 12 (fun _ => (0 : Int))))) rfl ?_
  have hA12 : mAt0 B 12 (fun _ => (0 : Int)) (va_up (va_up h11 (B + 1 + 11) (pz_z 0 16 (fun _ => 0))) B (pz_o 13 (moLr B 12 (fun _ => (0 : Int))))) := mAt0_s (q := (15, 11, 0, 16)) (by decide) rfl hA11
  have hF12 : mFr B h (va_up (va_up h11 (B + 1 + 11) (pz_z 0 16 (fun _ => 0))) B (pz_o 13 (moLr B 12 (fun _ => (0 : Int))))) := mFr_tr hF11 (mFr_tr (show mFr B h11 (va_up h11 (B + 1 + 11) (pz_z 0 16 (fun _ => 0))) from mFr_up (k := 12) (by decide)) (mFr_up (k := 0) (by decide)))
  revert hA12 hF12
  generalize (va_up (va_up h11 (B + 1 + 11) (pz_z 0 16 (fun _ => 0))) B (pz_o 13 (moLr B 12 (fun _ => (0 : Int))))) = h12
  intro hA12 hF12
  refine pw_aload_n dX10_init_100 rfl ?_
  refine pw_bipush (v := zI (8)) dX10_init_101 (by decide) ?_
  refine pw_newz (t := 1) rfl naBool (by decide) (nle rfl) (nle rfl) dX10_init_103 ?_
  refine pw_u (uc' := 13) (us' := 200) (n' := B + 14) rfl rfl rfl ?_
  refine pw_putF (fs' := moLr B 13 (fun _ => (0 : Int))) okX10 (k := 16) (by decide) lkX10_47 rfl rfl rfl rfl rfl ((va_up_ne _ _ (by omega)).trans hA12.1) (nlt rfl) rfl dX10_init_105 ?_
  refine pw_h (h' := va_up (va_up h12 (B + 1 + 12) (pz_z 1 8 (fun _ => 0))) B (pz_o 13 (moLr B 13 (fun _ => (0 : Int))))) rfl ?_
  have hA13 : mAt0 B 13 (fun _ => (0 : Int)) (va_up (va_up h12 (B + 1 + 12) (pz_z 1 8 (fun _ => 0))) B (pz_o 13 (moLr B 13 (fun _ => (0 : Int))))) := mAt0_s (q := (16, 12, 1, 8)) (by decide) rfl hA12
  have hF13 : mFr B h (va_up (va_up h12 (B + 1 + 12) (pz_z 1 8 (fun _ => 0))) B (pz_o 13 (moLr B 13 (fun _ => (0 : Int))))) := mFr_tr hF12 (mFr_tr (show mFr B h12 (va_up h12 (B + 1 + 12) (pz_z 1 8 (fun _ => 0))) from mFr_up (k := 13) (by decide)) (mFr_up (k := 0) (by decide)))
  revert hA13 hF13
  generalize (va_up (va_up h12 (B + 1 + 12) (pz_z 1 8 (fun _ => 0))) B (pz_o 13 (moLr B 13 (fun _ => (0 : Int))))) = h13
  intro hA13 hF13
  refine pw_aload_n dX10_init_108 rfl ?_
  refine pw_bipush (v := zI (8)) dX10_init_109 (by decide) ?_
  refine pw_newi (t := 0) rfl naInt (by decide) (nle rfl) (nle rfl) dX10_init_111 ?_
  refine pw_u (uc' := 14) (us' := 208) (n' := B + 15) rfl rfl rfl ?_
  refine pw_putF (fs' := moLr B 14 (fun _ => (0 : Int))) okX10 (k := 17) (by decide) lkX10_50 rfl rfl rfl rfl rfl ((va_up_ne _ _ (by omega)).trans hA13.1) (nlt rfl) rfl dX10_init_113 ?_
  refine pw_h (h' := va_up (va_up h13 (B + 1 + 13) (pz_z 0 8 (fun _ => 0))) B (pz_o 13 (moLr B 14 (fun _ => (0 : Int))))) rfl ?_
  have hA14 : mAt0 B 14 (fun _ => (0 : Int)) (va_up (va_up h13 (B + 1 + 13) (pz_z 0 8 (fun _ => 0))) B (pz_o 13 (moLr B 14 (fun _ => (0 : Int))))) := mAt0_s (q := (17, 13, 0, 8)) (by decide) rfl hA13
  have hF14 : mFr B h (va_up (va_up h13 (B + 1 + 13) (pz_z 0 8 (fun _ => 0))) B (pz_o 13 (moLr B 14 (fun _ => (0 : Int))))) := mFr_tr hF13 (mFr_tr (show mFr B h13 (va_up h13 (B + 1 + 13) (pz_z 0 8 (fun _ => 0))) from mFr_up (k := 14) (by decide)) (mFr_up (k := 0) (by decide)))
  revert hA14 hF14
  generalize (va_up (va_up h13 (B + 1 + 13) (pz_z 0 8 (fun _ => 0))) B (pz_o 13 (moLr B 14 (fun _ => (0 : Int))))) = h14
  intro hA14 hF14
  refine pw_aload_n dX10_init_116 rfl ?_
  refine pw_bipush (v := zI (8)) dX10_init_117 (by decide) ?_
  refine pw_newi (t := 0) rfl naInt (by decide) (nle rfl) (nle rfl) dX10_init_119 ?_
  refine pw_u (uc' := 15) (us' := 216) (n' := B + 16) rfl rfl rfl ?_
  refine pw_putF (fs' := moLr B 15 (fun _ => (0 : Int))) okX10 (k := 18) (by decide) lkX10_53 rfl rfl rfl rfl rfl ((va_up_ne _ _ (by omega)).trans hA14.1) (nlt rfl) rfl dX10_init_121 ?_
  refine pw_h (h' := va_up (va_up h14 (B + 1 + 14) (pz_z 0 8 (fun _ => 0))) B (pz_o 13 (moLr B 15 (fun _ => (0 : Int))))) rfl ?_
  have hA15 : mAt0 B 15 (fun _ => (0 : Int)) (va_up (va_up h14 (B + 1 + 14) (pz_z 0 8 (fun _ => 0))) B (pz_o 13 (moLr B 15 (fun _ => (0 : Int))))) := mAt0_s (q := (18, 14, 0, 8)) (by decide) rfl hA14
  have hF15 : mFr B h (va_up (va_up h14 (B + 1 + 14) (pz_z 0 8 (fun _ => 0))) B (pz_o 13 (moLr B 15 (fun _ => (0 : Int))))) := mFr_tr hF14 (mFr_tr (show mFr B h14 (va_up h14 (B + 1 + 14) (pz_z 0 8 (fun _ => 0))) from mFr_up (k := 15) (by decide)) (mFr_up (k := 0) (by decide)))
  revert hA15 hF15
  generalize (va_up (va_up h14 (B + 1 + 14) (pz_z 0 8 (fun _ => 0))) B (pz_o 13 (moLr B 15 (fun _ => (0 : Int))))) = h15
  intro hA15 hF15
  refine pw_aload_n dX10_init_124 rfl ?_
  refine pw_bipush (v := zI (8)) dX10_init_125 (by decide) ?_
  refine pw_newi (t := 0) rfl naInt (by decide) (nle rfl) (nle rfl) dX10_init_127 ?_
  refine pw_u (uc' := 16) (us' := 224) (n' := B + 17) rfl rfl rfl ?_
  refine pw_putF (fs' := moLr B 16 (fun _ => (0 : Int))) okX10 (k := 19) (by decide) lkX10_56 rfl rfl rfl rfl rfl ((va_up_ne _ _ (by omega)).trans hA15.1) (nlt rfl) rfl dX10_init_129 ?_
  refine pw_h (h' := va_up (va_up h15 (B + 1 + 15) (pz_z 0 8 (fun _ => 0))) B (pz_o 13 (moLr B 16 (fun _ => (0 : Int))))) rfl ?_
  have hA16 : mAt0 B 16 (fun _ => (0 : Int)) (va_up (va_up h15 (B + 1 + 15) (pz_z 0 8 (fun _ => 0))) B (pz_o 13 (moLr B 16 (fun _ => (0 : Int))))) := mAt0_s (q := (19, 15, 0, 8)) (by decide) rfl hA15
  have hF16 : mFr B h (va_up (va_up h15 (B + 1 + 15) (pz_z 0 8 (fun _ => 0))) B (pz_o 13 (moLr B 16 (fun _ => (0 : Int))))) := mFr_tr hF15 (mFr_tr (show mFr B h15 (va_up h15 (B + 1 + 15) (pz_z 0 8 (fun _ => 0))) from mFr_up (k := 16) (by decide)) (mFr_up (k := 0) (by decide)))
  revert hA16 hF16
  generalize (va_up (va_up h15 (B + 1 + 15) (pz_z 0 8 (fun _ => 0))) B (pz_o 13 (moLr B 16 (fun _ => (0 : Int))))) = h16
  intro hA16 hF16
  refine pw_aload_n dX10_init_132 rfl ?_
  refine pw_sipush (v := zI (10240)) dX10_init_133 (by decide) ?_
  refine pw_newi (t := 0) rfl naInt (by decide) (nle rfl) (nle rfl) dX10_init_136 ?_
  refine pw_u (uc' := 17) (us' := 10464) (n' := B + 18) rfl rfl rfl ?_
  refine pw_putF (fs' := moLr B 17 (fun _ => (0 : Int))) okX10 (k := 20) (by decide) lkX10_59 rfl rfl rfl rfl rfl ((va_up_ne _ _ (by omega)).trans hA16.1) (nlt rfl) rfl dX10_init_138 ?_
  refine pw_h (h' := va_up (va_up h16 (B + 1 + 16) (pz_z 0 10240 (fun _ => 0))) B (pz_o 13 (moLr B 17 (fun _ => (0 : Int))))) rfl ?_
  have hA17 : mAt0 B 17 (fun _ => (0 : Int)) (va_up (va_up h16 (B + 1 + 16) (pz_z 0 10240 (fun _ => 0))) B (pz_o 13 (moLr B 17 (fun _ => (0 : Int))))) := mAt0_s (q := (20, 16, 0, 10240)) (by decide) rfl hA16
  have hF17 : mFr B h (va_up (va_up h16 (B + 1 + 16) (pz_z 0 10240 (fun _ => 0))) B (pz_o 13 (moLr B 17 (fun _ => (0 : Int))))) := mFr_tr hF16 (mFr_tr (show mFr B h16 (va_up h16 (B + 1 + 16) (pz_z 0 10240 (fun _ => 0))) from mFr_up (k := 17) (by decide)) (mFr_up (k := 0) (by decide)))
  revert hA17 hF17
  generalize (va_up (va_up h16 (B + 1 + 16) (pz_z 0 10240 (fun _ => 0))) B (pz_o 13 (moLr B 17 (fun _ => (0 : Int))))) = h17
  intro hA17 hF17
  refine pw_aload_n dX10_init_141 rfl ?_
  refine pw_sipush (v := zI (10240)) dX10_init_142 (by decide) ?_
  refine pw_newi (t := 0) rfl naInt (by decide) (nle rfl) (nle rfl) dX10_init_145 ?_
  refine pw_u (uc' := 18) (us' := 20704) (n' := B + 19) rfl rfl rfl ?_
  refine pw_putF (fs' := moLr B 18 (fun _ => (0 : Int))) okX10 (k := 21) (by decide) lkX10_62 rfl rfl rfl rfl rfl ((va_up_ne _ _ (by omega)).trans hA17.1) (nlt rfl) rfl dX10_init_147 ?_
  refine pw_h (h' := va_up (va_up h17 (B + 1 + 17) (pz_z 0 10240 (fun _ => 0))) B (pz_o 13 (moLr B 18 (fun _ => (0 : Int))))) rfl ?_
  have hA18 : mAt0 B 18 (fun _ => (0 : Int)) (va_up (va_up h17 (B + 1 + 17) (pz_z 0 10240 (fun _ => 0))) B (pz_o 13 (moLr B 18 (fun _ => (0 : Int))))) := mAt0_s (q := (21, 17, 0, 10240)) (by decide) rfl hA17
  have hF18 : mFr B h (va_up (va_up h17 (B + 1 + 17) (pz_z 0 10240 (fun _ => 0))) B (pz_o 13 (moLr B 18 (fun _ => (0 : Int))))) := mFr_tr hF17 (mFr_tr (show mFr B h17 (va_up h17 (B + 1 + 17) (pz_z 0 10240 (fun _ => 0))) from mFr_up (k := 18) (by decide)) (mFr_up (k := 0) (by decide)))
  revert hA18 hF18
  generalize (va_up (va_up h17 (B + 1 + 17) (pz_z 0 10240 (fun _ => 0))) B (pz_o 13 (moLr B 18 (fun _ => (0 : Int))))) = h18
  intro hA18 hF18
  refine pw_aload_n dX10_init_150 rfl ?_
  refine pw_bipush (v := zI (8)) dX10_init_151 (by decide) ?_
  refine pw_newz (t := 1) rfl naBool (by decide) (nle rfl) (nle rfl) dX10_init_153 ?_
  refine pw_u (uc' := 19) (us' := 20712) (n' := B + 20) rfl rfl rfl ?_
  refine pw_putF (fs' := moLr B 19 (fun _ => (0 : Int))) okX10 (k := 22) (by decide) lkX10_65 rfl rfl rfl rfl rfl ((va_up_ne _ _ (by omega)).trans hA18.1) (nlt rfl) rfl dX10_init_155 ?_
  refine pw_h (h' := va_up (va_up h18 (B + 1 + 18) (pz_z 1 8 (fun _ => 0))) B (pz_o 13 (moLr B 19 (fun _ => (0 : Int))))) rfl ?_
  have hA19 : mAt0 B 19 (fun _ => (0 : Int)) (va_up (va_up h18 (B + 1 + 18) (pz_z 1 8 (fun _ => 0))) B (pz_o 13 (moLr B 19 (fun _ => (0 : Int))))) := mAt0_s (q := (22, 18, 1, 8)) (by decide) rfl hA18
  have hF19 : mFr B h (va_up (va_up h18 (B + 1 + 18) (pz_z 1 8 (fun _ => 0))) B (pz_o 13 (moLr B 19 (fun _ => (0 : Int))))) := mFr_tr hF18 (mFr_tr (show mFr B h18 (va_up h18 (B + 1 + 18) (pz_z 1 8 (fun _ => 0))) from mFr_up (k := 19) (by decide)) (mFr_up (k := 0) (by decide)))
  revert hA19 hF19
  generalize (va_up (va_up h18 (B + 1 + 18) (pz_z 1 8 (fun _ => 0))) B (pz_o 13 (moLr B 19 (fun _ => (0 : Int))))) = h19
  intro hA19 hF19
  refine pw_aload_n dX10_init_158 rfl ?_
  refine pw_bipush (v := zI (8)) dX10_init_159 (by decide) ?_
  refine pw_newi (t := 0) rfl naInt (by decide) (nle rfl) (nle rfl) dX10_init_161 ?_
  refine pw_u (uc' := 20) (us' := 20720) (n' := B + 21) rfl rfl rfl ?_
  refine pw_putF (fs' := moLr B 20 (fun _ => (0 : Int))) okX10 (k := 23) (by decide) lkX10_68 rfl rfl rfl rfl rfl ((va_up_ne _ _ (by omega)).trans hA19.1) (nlt rfl) rfl dX10_init_163 ?_
  refine pw_h (h' := va_up (va_up h19 (B + 1 + 19) (pz_z 0 8 (fun _ => 0))) B (pz_o 13 (moLr B 20 (fun _ => (0 : Int))))) rfl ?_
  have hA20 : mAt0 B 20 (fun _ => (0 : Int)) (va_up (va_up h19 (B + 1 + 19) (pz_z 0 8 (fun _ => 0))) B (pz_o 13 (moLr B 20 (fun _ => (0 : Int))))) := mAt0_s (q := (23, 19, 0, 8)) (by decide) rfl hA19
  have hF20 : mFr B h (va_up (va_up h19 (B + 1 + 19) (pz_z 0 8 (fun _ => 0))) B (pz_o 13 (moLr B 20 (fun _ => (0 : Int))))) := mFr_tr hF19 (mFr_tr (show mFr B h19 (va_up h19 (B + 1 + 19) (pz_z 0 8 (fun _ => 0))) from mFr_up (k := 20) (by decide)) (mFr_up (k := 0) (by decide)))
  revert hA20 hF20
  generalize (va_up (va_up h19 (B + 1 + 19) (pz_z 0 8 (fun _ => 0))) B (pz_o 13 (moLr B 20 (fun _ => (0 : Int))))) = h20
  intro hA20 hF20
  refine pw_aload_n dX10_init_166 rfl ?_
  refine pw_bipush (v := zI (8)) dX10_init_167 (by decide) ?_
  refine pw_newi (t := 0) rfl naInt (by decide) (nle rfl) (nle rfl) dX10_init_169 ?_
  refine pw_u (uc' := 21) (us' := 20728) (n' := B + 22) rfl rfl rfl ?_
  refine pw_putF (fs' := moLr B 21 (fun _ => (0 : Int))) okX10 (k := 24) (by decide) lkX10_71 rfl rfl rfl rfl rfl ((va_up_ne _ _ (by omega)).trans hA20.1) (nlt rfl) rfl dX10_init_171 ?_
  refine pw_h (h' := va_up (va_up h20 (B + 1 + 20) (pz_z 0 8 (fun _ => 0))) B (pz_o 13 (moLr B 21 (fun _ => (0 : Int))))) rfl ?_
  have hA21 : mAt0 B 21 (fun _ => (0 : Int)) (va_up (va_up h20 (B + 1 + 20) (pz_z 0 8 (fun _ => 0))) B (pz_o 13 (moLr B 21 (fun _ => (0 : Int))))) := mAt0_s (q := (24, 20, 0, 8)) (by decide) rfl hA20
  have hF21 : mFr B h (va_up (va_up h20 (B + 1 + 20) (pz_z 0 8 (fun _ => 0))) B (pz_o 13 (moLr B 21 (fun _ => (0 : Int))))) := mFr_tr hF20 (mFr_tr (show mFr B h20 (va_up h20 (B + 1 + 20) (pz_z 0 8 (fun _ => 0))) from mFr_up (k := 21) (by decide)) (mFr_up (k := 0) (by decide)))
  revert hA21 hF21
  generalize (va_up (va_up h20 (B + 1 + 20) (pz_z 0 8 (fun _ => 0))) B (pz_o 13 (moLr B 21 (fun _ => (0 : Int))))) = h21
  intro hA21 hF21
  refine pw_aload_n dX10_init_174 rfl ?_
  refine pw_bipush (v := zI (8)) dX10_init_175 (by decide) ?_
  refine pw_newi (t := 0) rfl naInt (by decide) (nle rfl) (nle rfl) dX10_init_177 ?_
  refine pw_u (uc' := 22) (us' := 20736) (n' := B + 23) rfl rfl rfl ?_
  refine pw_putF (fs' := moLr B 22 (fun _ => (0 : Int))) okX10 (k := 25) (by decide) lkX10_74 rfl rfl rfl rfl rfl ((va_up_ne _ _ (by omega)).trans hA21.1) (nlt rfl) rfl dX10_init_179 ?_
  refine pw_h (h' := va_up (va_up h21 (B + 1 + 21) (pz_z 0 8 (fun _ => 0))) B (pz_o 13 (moLr B 22 (fun _ => (0 : Int))))) rfl ?_
  have hA22 : mAt0 B 22 (fun _ => (0 : Int)) (va_up (va_up h21 (B + 1 + 21) (pz_z 0 8 (fun _ => 0))) B (pz_o 13 (moLr B 22 (fun _ => (0 : Int))))) := mAt0_s (q := (25, 21, 0, 8)) (by decide) rfl hA21
  have hF22 : mFr B h (va_up (va_up h21 (B + 1 + 21) (pz_z 0 8 (fun _ => 0))) B (pz_o 13 (moLr B 22 (fun _ => (0 : Int))))) := mFr_tr hF21 (mFr_tr (show mFr B h21 (va_up h21 (B + 1 + 21) (pz_z 0 8 (fun _ => 0))) from mFr_up (k := 22) (by decide)) (mFr_up (k := 0) (by decide)))
  revert hA22 hF22
  generalize (va_up (va_up h21 (B + 1 + 21) (pz_z 0 8 (fun _ => 0))) B (pz_o 13 (moLr B 22 (fun _ => (0 : Int))))) = h22
  intro hA22 hF22
  refine pw_aload_n dX10_init_182 rfl ?_
  refine pw_bipush (v := zI (8)) dX10_init_183 (by decide) ?_
  refine pw_newi (t := 0) rfl naInt (by decide) (nle rfl) (nle rfl) dX10_init_185 ?_
  refine pw_u (uc' := 23) (us' := 20744) (n' := B + 24) rfl rfl rfl ?_
  refine pw_putF (fs' := moLr B 23 (fun _ => (0 : Int))) okX10 (k := 26) (by decide) lkX10_77 rfl rfl rfl rfl rfl ((va_up_ne _ _ (by omega)).trans hA22.1) (nlt rfl) rfl dX10_init_187 ?_
  refine pw_h (h' := va_up (va_up h22 (B + 1 + 22) (pz_z 0 8 (fun _ => 0))) B (pz_o 13 (moLr B 23 (fun _ => (0 : Int))))) rfl ?_
  have hA23 : mAt0 B 23 (fun _ => (0 : Int)) (va_up (va_up h22 (B + 1 + 22) (pz_z 0 8 (fun _ => 0))) B (pz_o 13 (moLr B 23 (fun _ => (0 : Int))))) := mAt0_s (q := (26, 22, 0, 8)) (by decide) rfl hA22
  have hF23 : mFr B h (va_up (va_up h22 (B + 1 + 22) (pz_z 0 8 (fun _ => 0))) B (pz_o 13 (moLr B 23 (fun _ => (0 : Int))))) := mFr_tr hF22 (mFr_tr (show mFr B h22 (va_up h22 (B + 1 + 22) (pz_z 0 8 (fun _ => 0))) from mFr_up (k := 23) (by decide)) (mFr_up (k := 0) (by decide)))
  revert hA23 hF23
  generalize (va_up (va_up h22 (B + 1 + 22) (pz_z 0 8 (fun _ => 0))) B (pz_o 13 (moLr B 23 (fun _ => (0 : Int))))) = h23
  intro hA23 hF23
  refine pw_aload_n dX10_init_190 rfl ?_
  refine pw_bipush (v := zI (8)) dX10_init_191 (by decide) ?_
  refine pw_newi (t := 0) rfl naInt (by decide) (nle rfl) (nle rfl) dX10_init_193 ?_
  refine pw_u (uc' := 24) (us' := 20752) (n' := B + 25) rfl rfl rfl ?_
  refine pw_putF (fs' := moLr B 24 (fun _ => (0 : Int))) okX10 (k := 27) (by decide) lkX10_80 rfl rfl rfl rfl rfl ((va_up_ne _ _ (by omega)).trans hA23.1) (nlt rfl) rfl dX10_init_195 ?_
  refine pw_h (h' := va_up (va_up h23 (B + 1 + 23) (pz_z 0 8 (fun _ => 0))) B (pz_o 13 (moLr B 24 (fun _ => (0 : Int))))) rfl ?_
  have hA24 : mAt0 B 24 (fun _ => (0 : Int)) (va_up (va_up h23 (B + 1 + 23) (pz_z 0 8 (fun _ => 0))) B (pz_o 13 (moLr B 24 (fun _ => (0 : Int))))) := mAt0_s (q := (27, 23, 0, 8)) (by decide) rfl hA23
  have hF24 : mFr B h (va_up (va_up h23 (B + 1 + 23) (pz_z 0 8 (fun _ => 0))) B (pz_o 13 (moLr B 24 (fun _ => (0 : Int))))) := mFr_tr hF23 (mFr_tr (show mFr B h23 (va_up h23 (B + 1 + 23) (pz_z 0 8 (fun _ => 0))) from mFr_up (k := 24) (by decide)) (mFr_up (k := 0) (by decide)))
  revert hA24 hF24
  generalize (va_up (va_up h23 (B + 1 + 23) (pz_z 0 8 (fun _ => 0))) B (pz_o 13 (moLr B 24 (fun _ => (0 : Int))))) = h24
  intro hA24 hF24
  refine pw_aload_n dX10_init_198 rfl ?_
  refine pw_bipush (v := zI (8)) dX10_init_199 (by decide) ?_
  refine pw_newi (t := 0) rfl naInt (by decide) (nle rfl) (nle rfl) dX10_init_201 ?_
  refine pw_u (uc' := 25) (us' := 20760) (n' := B + 26) rfl rfl rfl ?_
  refine pw_putF (fs' := moLr B 25 (fun _ => (0 : Int))) okX10 (k := 28) (by decide) lkX10_83 rfl rfl rfl rfl rfl ((va_up_ne _ _ (by omega)).trans hA24.1) (nlt rfl) rfl dX10_init_203 ?_
  refine pw_h (h' := va_up (va_up h24 (B + 1 + 24) (pz_z 0 8 (fun _ => 0))) B (pz_o 13 (moLr B 25 (fun _ => (0 : Int))))) rfl ?_
  have hA25 : mAt0 B 25 (fun _ => (0 : Int)) (va_up (va_up h24 (B + 1 + 24) (pz_z 0 8 (fun _ => 0))) B (pz_o 13 (moLr B 25 (fun _ => (0 : Int))))) := mAt0_s (q := (28, 24, 0, 8)) (by decide) rfl hA24
  have hF25 : mFr B h (va_up (va_up h24 (B + 1 + 24) (pz_z 0 8 (fun _ => 0))) B (pz_o 13 (moLr B 25 (fun _ => (0 : Int))))) := mFr_tr hF24 (mFr_tr (show mFr B h24 (va_up h24 (B + 1 + 24) (pz_z 0 8 (fun _ => 0))) from mFr_up (k := 25) (by decide)) (mFr_up (k := 0) (by decide)))
  revert hA25 hF25
  generalize (va_up (va_up h24 (B + 1 + 24) (pz_z 0 8 (fun _ => 0))) B (pz_o 13 (moLr B 25 (fun _ => (0 : Int))))) = h25
  intro hA25 hF25
  refine pw_aload_n dX10_init_206 rfl ?_
  refine pw_bipush (v := zI (8)) dX10_init_207 (by decide) ?_
  refine pw_newi (t := 0) rfl naInt (by decide) (nle rfl) (nle rfl) dX10_init_209 ?_
  refine pw_u (uc' := 26) (us' := 20768) (n' := B + 27) rfl rfl rfl ?_
  refine pw_putF (fs' := moLr B 26 (fun _ => (0 : Int))) okX10 (k := 29) (by decide) lkX10_86 rfl rfl rfl rfl rfl ((va_up_ne _ _ (by omega)).trans hA25.1) (nlt rfl) rfl dX10_init_211 ?_
  refine pw_h (h' := va_up (va_up h25 (B + 1 + 25) (pz_z 0 8 (fun _ => 0))) B (pz_o 13 (moLr B 26 (fun _ => (0 : Int))))) rfl ?_
  have hA26 : mAt0 B 26 (fun _ => (0 : Int)) (va_up (va_up h25 (B + 1 + 25) (pz_z 0 8 (fun _ => 0))) B (pz_o 13 (moLr B 26 (fun _ => (0 : Int))))) := mAt0_s (q := (29, 25, 0, 8)) (by decide) rfl hA25
  have hF26 : mFr B h (va_up (va_up h25 (B + 1 + 25) (pz_z 0 8 (fun _ => 0))) B (pz_o 13 (moLr B 26 (fun _ => (0 : Int))))) := mFr_tr hF25 (mFr_tr (show mFr B h25 (va_up h25 (B + 1 + 25) (pz_z 0 8 (fun _ => 0))) from mFr_up (k := 26) (by decide)) (mFr_up (k := 0) (by decide)))
  revert hA26 hF26
  generalize (va_up (va_up h25 (B + 1 + 25) (pz_z 0 8 (fun _ => 0))) B (pz_o 13 (moLr B 26 (fun _ => (0 : Int))))) = h26
  intro hA26 hF26
  refine pw_aload_n dX10_init_214 rfl ?_
  refine pw_bipush (v := zI (8)) dX10_init_215 (by decide) ?_
  refine pw_newi (t := 0) rfl naInt (by decide) (nle rfl) (nle rfl) dX10_init_217 ?_
  refine pw_u (uc' := 27) (us' := 20776) (n' := B + 28) rfl rfl rfl ?_
  refine pw_putF (fs' := moLr B 27 (fun _ => (0 : Int))) okX10 (k := 30) (by decide) lkX10_89 rfl rfl rfl rfl rfl ((va_up_ne _ _ (by omega)).trans hA26.1) (nlt rfl) rfl dX10_init_219 ?_
  refine pw_h (h' := va_up (va_up h26 (B + 1 + 26) (pz_z 0 8 (fun _ => 0))) B (pz_o 13 (moLr B 27 (fun _ => (0 : Int))))) rfl ?_
  have hA27 : mAt0 B 27 (fun _ => (0 : Int)) (va_up (va_up h26 (B + 1 + 26) (pz_z 0 8 (fun _ => 0))) B (pz_o 13 (moLr B 27 (fun _ => (0 : Int))))) := mAt0_s (q := (30, 26, 0, 8)) (by decide) rfl hA26
  have hF27 : mFr B h (va_up (va_up h26 (B + 1 + 26) (pz_z 0 8 (fun _ => 0))) B (pz_o 13 (moLr B 27 (fun _ => (0 : Int))))) := mFr_tr hF26 (mFr_tr (show mFr B h26 (va_up h26 (B + 1 + 26) (pz_z 0 8 (fun _ => 0))) from mFr_up (k := 27) (by decide)) (mFr_up (k := 0) (by decide)))
  revert hA27 hF27
  generalize (va_up (va_up h26 (B + 1 + 26) (pz_z 0 8 (fun _ => 0))) B (pz_o 13 (moLr B 27 (fun _ => (0 : Int))))) = h27
  intro hA27 hF27
  refine pw_aload_n dX10_init_222 rfl ?_
  refine pw_bipush (v := zI (8)) dX10_init_223 (by decide) ?_
  refine pw_newz (t := 1) rfl naBool (by decide) (nle rfl) (nle rfl) dX10_init_225 ?_
  refine pw_u (uc' := 28) (us' := 20784) (n' := B + 29) rfl rfl rfl ?_
  refine pw_putF (fs' := moLr B 28 (fun _ => (0 : Int))) okX10 (k := 31) (by decide) lkX10_92 rfl rfl rfl rfl rfl ((va_up_ne _ _ (by omega)).trans hA27.1) (nlt rfl) rfl dX10_init_227 ?_
  refine pw_h (h' := va_up (va_up h27 (B + 1 + 27) (pz_z 1 8 (fun _ => 0))) B (pz_o 13 (moLr B 28 (fun _ => (0 : Int))))) rfl ?_
  have hA28 : mAt0 B 28 (fun _ => (0 : Int)) (va_up (va_up h27 (B + 1 + 27) (pz_z 1 8 (fun _ => 0))) B (pz_o 13 (moLr B 28 (fun _ => (0 : Int))))) := mAt0_s (q := (31, 27, 1, 8)) (by decide) rfl hA27
  have hF28 : mFr B h (va_up (va_up h27 (B + 1 + 27) (pz_z 1 8 (fun _ => 0))) B (pz_o 13 (moLr B 28 (fun _ => (0 : Int))))) := mFr_tr hF27 (mFr_tr (show mFr B h27 (va_up h27 (B + 1 + 27) (pz_z 1 8 (fun _ => 0))) from mFr_up (k := 28) (by decide)) (mFr_up (k := 0) (by decide)))
  revert hA28 hF28
  generalize (va_up (va_up h27 (B + 1 + 27) (pz_z 1 8 (fun _ => 0))) B (pz_o 13 (moLr B 28 (fun _ => (0 : Int))))) = h28
  intro hA28 hF28
  refine pw_aload_n dX10_init_230 rfl ?_
  refine pw_bipush (v := zI (8)) dX10_init_231 (by decide) ?_
  refine pw_newz (t := 1) rfl naBool (by decide) (nle rfl) (nle rfl) dX10_init_233 ?_
  refine pw_u (uc' := 29) (us' := 20792) (n' := B + 30) rfl rfl rfl ?_
  refine pw_putF (fs' := moLr B 29 (fun _ => (0 : Int))) okX10 (k := 32) (by decide) lkX10_95 rfl rfl rfl rfl rfl ((va_up_ne _ _ (by omega)).trans hA28.1) (nlt rfl) rfl dX10_init_235 ?_
  refine pw_h (h' := va_up (va_up h28 (B + 1 + 28) (pz_z 1 8 (fun _ => 0))) B (pz_o 13 (moLr B 29 (fun _ => (0 : Int))))) rfl ?_
  have hA29 : mAt0 B 29 (fun _ => (0 : Int)) (va_up (va_up h28 (B + 1 + 28) (pz_z 1 8 (fun _ => 0))) B (pz_o 13 (moLr B 29 (fun _ => (0 : Int))))) := mAt0_s (q := (32, 28, 1, 8)) (by decide) rfl hA28
  have hF29 : mFr B h (va_up (va_up h28 (B + 1 + 28) (pz_z 1 8 (fun _ => 0))) B (pz_o 13 (moLr B 29 (fun _ => (0 : Int))))) := mFr_tr hF28 (mFr_tr (show mFr B h28 (va_up h28 (B + 1 + 28) (pz_z 1 8 (fun _ => 0))) from mFr_up (k := 29) (by decide)) (mFr_up (k := 0) (by decide)))
  revert hA29 hF29
  generalize (va_up (va_up h28 (B + 1 + 28) (pz_z 1 8 (fun _ => 0))) B (pz_o 13 (moLr B 29 (fun _ => (0 : Int))))) = h29
  intro hA29 hF29
  refine pw_aload_n dX10_init_238 rfl ?_
  refine pw_bipush (v := zI (8)) dX10_init_239 (by decide) ?_
  refine pw_newz (t := 1) rfl naBool (by decide) (nle rfl) (nle rfl) dX10_init_241 ?_
  refine pw_u (uc' := 30) (us' := 20800) (n' := B + 31) rfl rfl rfl ?_
  refine pw_putF (fs' := moLr B 30 (fun _ => (0 : Int))) okX10 (k := 33) (by decide) lkX10_98 rfl rfl rfl rfl rfl ((va_up_ne _ _ (by omega)).trans hA29.1) (nlt rfl) rfl dX10_init_243 ?_
  refine pw_h (h' := va_up (va_up h29 (B + 1 + 29) (pz_z 1 8 (fun _ => 0))) B (pz_o 13 (moLr B 30 (fun _ => (0 : Int))))) rfl ?_
  have hA30 : mAt0 B 30 (fun _ => (0 : Int)) (va_up (va_up h29 (B + 1 + 29) (pz_z 1 8 (fun _ => 0))) B (pz_o 13 (moLr B 30 (fun _ => (0 : Int))))) := mAt0_s (q := (33, 29, 1, 8)) (by decide) rfl hA29
  have hF30 : mFr B h (va_up (va_up h29 (B + 1 + 29) (pz_z 1 8 (fun _ => 0))) B (pz_o 13 (moLr B 30 (fun _ => (0 : Int))))) := mFr_tr hF29 (mFr_tr (show mFr B h29 (va_up h29 (B + 1 + 29) (pz_z 1 8 (fun _ => 0))) from mFr_up (k := 30) (by decide)) (mFr_up (k := 0) (by decide)))
  revert hA30 hF30
  generalize (va_up (va_up h29 (B + 1 + 29) (pz_z 1 8 (fun _ => 0))) B (pz_o 13 (moLr B 30 (fun _ => (0 : Int))))) = h30
  intro hA30 hF30
  refine pw_aload_n dX10_init_246 rfl ?_
  refine pw_bipush (v := zI (8)) dX10_init_247 (by decide) ?_
  refine pw_newz (t := 1) rfl naBool (by decide) (nle rfl) (nle rfl) dX10_init_249 ?_
  refine pw_u (uc' := 31) (us' := 20808) (n' := B + 32) rfl rfl rfl ?_
  refine pw_putF (fs' := moLr B 31 (fun _ => (0 : Int))) okX10 (k := 34) (by decide) lkX10_101 rfl rfl rfl rfl rfl ((va_up_ne _ _ (by omega)).trans hA30.1) (nlt rfl) rfl dX10_init_251 ?_
  refine pw_h (h' := va_up (va_up h30 (B + 1 + 30) (pz_z 1 8 (fun _ => 0))) B (pz_o 13 (moLr B 31 (fun _ => (0 : Int))))) rfl ?_
  have hA31 : mAt0 B 31 (fun _ => (0 : Int)) (va_up (va_up h30 (B + 1 + 30) (pz_z 1 8 (fun _ => 0))) B (pz_o 13 (moLr B 31 (fun _ => (0 : Int))))) := mAt0_s (q := (34, 30, 1, 8)) (by decide) rfl hA30
  have hF31 : mFr B h (va_up (va_up h30 (B + 1 + 30) (pz_z 1 8 (fun _ => 0))) B (pz_o 13 (moLr B 31 (fun _ => (0 : Int))))) := mFr_tr hF30 (mFr_tr (show mFr B h30 (va_up h30 (B + 1 + 30) (pz_z 1 8 (fun _ => 0))) from mFr_up (k := 31) (by decide)) (mFr_up (k := 0) (by decide)))
  revert hA31 hF31
  generalize (va_up (va_up h30 (B + 1 + 30) (pz_z 1 8 (fun _ => 0))) B (pz_o 13 (moLr B 31 (fun _ => (0 : Int))))) = h31
  intro hA31 hF31
  refine pw_aload_n dX10_init_254 rfl ?_
  refine pw_bipush (v := zI (8)) dX10_init_255 (by decide) ?_
  refine pw_newi (t := 0) rfl naInt (by decide) (nle rfl) (nle rfl) dX10_init_257 ?_
  refine pw_u (uc' := 32) (us' := 20816) (n' := B + 33) rfl rfl rfl ?_
  refine pw_putF (fs' := moLr B 32 (fun _ => (0 : Int))) okX10 (k := 35) (by decide) lkX10_104 rfl rfl rfl rfl rfl ((va_up_ne _ _ (by omega)).trans hA31.1) (nlt rfl) rfl dX10_init_259 ?_
  refine pw_h (h' := va_up (va_up h31 (B + 1 + 31) (pz_z 0 8 (fun _ => 0))) B (pz_o 13 (moLr B 32 (fun _ => (0 : Int))))) rfl ?_
  have hA32 : mAt0 B 32 (fun _ => (0 : Int)) (va_up (va_up h31 (B + 1 + 31) (pz_z 0 8 (fun _ => 0))) B (pz_o 13 (moLr B 32 (fun _ => (0 : Int))))) := mAt0_s (q := (35, 31, 0, 8)) (by decide) rfl hA31
  have hF32 : mFr B h (va_up (va_up h31 (B + 1 + 31) (pz_z 0 8 (fun _ => 0))) B (pz_o 13 (moLr B 32 (fun _ => (0 : Int))))) := mFr_tr hF31 (mFr_tr (show mFr B h31 (va_up h31 (B + 1 + 31) (pz_z 0 8 (fun _ => 0))) from mFr_up (k := 32) (by decide)) (mFr_up (k := 0) (by decide)))
  revert hA32 hF32
  generalize (va_up (va_up h31 (B + 1 + 31) (pz_z 0 8 (fun _ => 0))) B (pz_o 13 (moLr B 32 (fun _ => (0 : Int))))) = h32
  intro hA32 hF32
  refine pw_aload_n dX10_init_262 rfl ?_
  refine pw_bipush (v := zI (32)) dX10_init_263 (by decide) ?_
  refine pw_newi (t := 0) rfl naInt (by decide) (nle rfl) (nle rfl) dX10_init_265 ?_
  refine pw_u (uc' := 33) (us' := 20848) (n' := B + 34) rfl rfl rfl ?_
  refine pw_putF (fs' := moLr B 33 (fun _ => (0 : Int))) okX10 (k := 36) (by decide) lkX10_107 rfl rfl rfl rfl rfl ((va_up_ne _ _ (by omega)).trans hA32.1) (nlt rfl) rfl dX10_init_267 ?_
  refine pw_h (h' := va_up (va_up h32 (B + 1 + 32) (pz_z 0 32 (fun _ => 0))) B (pz_o 13 (moLr B 33 (fun _ => (0 : Int))))) rfl ?_
  have hA33 : mAt0 B 33 (fun _ => (0 : Int)) (va_up (va_up h32 (B + 1 + 32) (pz_z 0 32 (fun _ => 0))) B (pz_o 13 (moLr B 33 (fun _ => (0 : Int))))) := mAt0_s (q := (36, 32, 0, 32)) (by decide) rfl hA32
  have hF33 : mFr B h (va_up (va_up h32 (B + 1 + 32) (pz_z 0 32 (fun _ => 0))) B (pz_o 13 (moLr B 33 (fun _ => (0 : Int))))) := mFr_tr hF32 (mFr_tr (show mFr B h32 (va_up h32 (B + 1 + 32) (pz_z 0 32 (fun _ => 0))) from mFr_up (k := 33) (by decide)) (mFr_up (k := 0) (by decide)))
  revert hA33 hF33
  generalize (va_up (va_up h32 (B + 1 + 32) (pz_z 0 32 (fun _ => 0))) B (pz_o 13 (moLr B 33 (fun _ => (0 : Int))))) = h33
  intro hA33 hF33
  refine pw_aload_n dX10_init_270 rfl ?_
  refine pw_bipush (v := zI (8)) dX10_init_271 (by decide) ?_
  refine pw_newi (t := 0) rfl naInt (by decide) (nle rfl) (nle rfl) dX10_init_273 ?_
  refine pw_u (uc' := 34) (us' := 20856) (n' := B + 35) rfl rfl rfl ?_
  refine pw_putF (fs' := moLr B 34 (fun _ => (0 : Int))) okX10 (k := 37) (by decide) lkX10_110 rfl rfl rfl rfl rfl ((va_up_ne _ _ (by omega)).trans hA33.1) (nlt rfl) rfl dX10_init_275 ?_
  refine pw_h (h' := va_up (va_up h33 (B + 1 + 33) (pz_z 0 8 (fun _ => 0))) B (pz_o 13 (moLr B 34 (fun _ => (0 : Int))))) rfl ?_
  have hA34 : mAt0 B 34 (fun _ => (0 : Int)) (va_up (va_up h33 (B + 1 + 33) (pz_z 0 8 (fun _ => 0))) B (pz_o 13 (moLr B 34 (fun _ => (0 : Int))))) := mAt0_s (q := (37, 33, 0, 8)) (by decide) rfl hA33
  have hF34 : mFr B h (va_up (va_up h33 (B + 1 + 33) (pz_z 0 8 (fun _ => 0))) B (pz_o 13 (moLr B 34 (fun _ => (0 : Int))))) := mFr_tr hF33 (mFr_tr (show mFr B h33 (va_up h33 (B + 1 + 33) (pz_z 0 8 (fun _ => 0))) from mFr_up (k := 34) (by decide)) (mFr_up (k := 0) (by decide)))
  revert hA34 hF34
  generalize (va_up (va_up h33 (B + 1 + 33) (pz_z 0 8 (fun _ => 0))) B (pz_o 13 (moLr B 34 (fun _ => (0 : Int))))) = h34
  intro hA34 hF34
  refine pw_aload_n dX10_init_278 rfl ?_
  refine pw_bipush (v := zI (8)) dX10_init_279 (by decide) ?_
  refine pw_newz (t := 1) rfl naBool (by decide) (nle rfl) (nle rfl) dX10_init_281 ?_
  refine pw_u (uc' := 35) (us' := 20864) (n' := B + 36) rfl rfl rfl ?_
  refine pw_putF (fs' := moLr B 35 (fun _ => (0 : Int))) okX10 (k := 38) (by decide) lkX10_113 rfl rfl rfl rfl rfl ((va_up_ne _ _ (by omega)).trans hA34.1) (nlt rfl) rfl dX10_init_283 ?_
  refine pw_h (h' := va_up (va_up h34 (B + 1 + 34) (pz_z 1 8 (fun _ => 0))) B (pz_o 13 (moLr B 35 (fun _ => (0 : Int))))) rfl ?_
  have hA35 : mAt0 B 35 (fun _ => (0 : Int)) (va_up (va_up h34 (B + 1 + 34) (pz_z 1 8 (fun _ => 0))) B (pz_o 13 (moLr B 35 (fun _ => (0 : Int))))) := mAt0_s (q := (38, 34, 1, 8)) (by decide) rfl hA34
  have hF35 : mFr B h (va_up (va_up h34 (B + 1 + 34) (pz_z 1 8 (fun _ => 0))) B (pz_o 13 (moLr B 35 (fun _ => (0 : Int))))) := mFr_tr hF34 (mFr_tr (show mFr B h34 (va_up h34 (B + 1 + 34) (pz_z 1 8 (fun _ => 0))) from mFr_up (k := 35) (by decide)) (mFr_up (k := 0) (by decide)))
  revert hA35 hF35
  generalize (va_up (va_up h34 (B + 1 + 34) (pz_z 1 8 (fun _ => 0))) B (pz_o 13 (moLr B 35 (fun _ => (0 : Int))))) = h35
  intro hA35 hF35
  refine pw_aload_n dX10_init_286 rfl ?_
  refine pw_bipush (v := zI (8)) dX10_init_287 (by decide) ?_
  refine pw_newz (t := 1) rfl naBool (by decide) (nle rfl) (nle rfl) dX10_init_289 ?_
  refine pw_u (uc' := 36) (us' := 20872) (n' := B + 37) rfl rfl rfl ?_
  refine pw_putF (fs' := moLr B 36 (fun _ => (0 : Int))) okX10 (k := 39) (by decide) lkX10_116 rfl rfl rfl rfl rfl ((va_up_ne _ _ (by omega)).trans hA35.1) (nlt rfl) rfl dX10_init_291 ?_
  refine pw_h (h' := va_up (va_up h35 (B + 1 + 35) (pz_z 1 8 (fun _ => 0))) B (pz_o 13 (moLr B 36 (fun _ => (0 : Int))))) rfl ?_
  have hA36 : mAt0 B 36 (fun _ => (0 : Int)) (va_up (va_up h35 (B + 1 + 35) (pz_z 1 8 (fun _ => 0))) B (pz_o 13 (moLr B 36 (fun _ => (0 : Int))))) := mAt0_s (q := (39, 35, 1, 8)) (by decide) rfl hA35
  have hF36 : mFr B h (va_up (va_up h35 (B + 1 + 35) (pz_z 1 8 (fun _ => 0))) B (pz_o 13 (moLr B 36 (fun _ => (0 : Int))))) := mFr_tr hF35 (mFr_tr (show mFr B h35 (va_up h35 (B + 1 + 35) (pz_z 1 8 (fun _ => 0))) from mFr_up (k := 36) (by decide)) (mFr_up (k := 0) (by decide)))
  revert hA36 hF36
  generalize (va_up (va_up h35 (B + 1 + 35) (pz_z 1 8 (fun _ => 0))) B (pz_o 13 (moLr B 36 (fun _ => (0 : Int))))) = h36
  intro hA36 hF36
  refine pw_aload_n dX10_init_294 rfl ?_
  refine pw_sipush (v := zI (9600)) dX10_init_295 (by decide) ?_
  refine pw_newi (t := 0) rfl naInt (by decide) (nle rfl) (nle rfl) dX10_init_298 ?_
  refine pw_u (uc' := 37) (us' := 30472) (n' := B + 38) rfl rfl rfl ?_
  refine pw_putF (fs' := moLr B 37 (fun _ => (0 : Int))) okX10 (k := 40) (by decide) lkX10_119 rfl rfl rfl rfl rfl ((va_up_ne _ _ (by omega)).trans hA36.1) (nlt rfl) rfl dX10_init_300 ?_
  refine pw_h (h' := va_up (va_up h36 (B + 1 + 36) (pz_z 0 9600 (fun _ => 0))) B (pz_o 13 (moLr B 37 (fun _ => (0 : Int))))) rfl ?_
  have hA37 : mAt0 B 37 (fun _ => (0 : Int)) (va_up (va_up h36 (B + 1 + 36) (pz_z 0 9600 (fun _ => 0))) B (pz_o 13 (moLr B 37 (fun _ => (0 : Int))))) := mAt0_s (q := (40, 36, 0, 9600)) (by decide) rfl hA36
  have hF37 : mFr B h (va_up (va_up h36 (B + 1 + 36) (pz_z 0 9600 (fun _ => 0))) B (pz_o 13 (moLr B 37 (fun _ => (0 : Int))))) := mFr_tr hF36 (mFr_tr (show mFr B h36 (va_up h36 (B + 1 + 36) (pz_z 0 9600 (fun _ => 0))) from mFr_up (k := 37) (by decide)) (mFr_up (k := 0) (by decide)))
  revert hA37 hF37
  generalize (va_up (va_up h36 (B + 1 + 36) (pz_z 0 9600 (fun _ => 0))) B (pz_o 13 (moLr B 37 (fun _ => (0 : Int))))) = h37
  intro hA37 hF37
  refine pw_aload_n dX10_init_303 rfl ?_
  refine pw_sipush (v := zI (9600)) dX10_init_304 (by decide) ?_
  refine pw_newi (t := 0) rfl naInt (by decide) (nle rfl) (nle rfl) dX10_init_307 ?_
  refine pw_u (uc' := 38) (us' := 40072) (n' := B + 39) rfl rfl rfl ?_
  refine pw_putF (fs' := moLr B 38 (fun _ => (0 : Int))) okX10 (k := 41) (by decide) lkX10_122 rfl rfl rfl rfl rfl ((va_up_ne _ _ (by omega)).trans hA37.1) (nlt rfl) rfl dX10_init_309 ?_
  refine pw_h (h' := va_up (va_up h37 (B + 1 + 37) (pz_z 0 9600 (fun _ => 0))) B (pz_o 13 (moLr B 38 (fun _ => (0 : Int))))) rfl ?_
  have hA38 : mAt0 B 38 (fun _ => (0 : Int)) (va_up (va_up h37 (B + 1 + 37) (pz_z 0 9600 (fun _ => 0))) B (pz_o 13 (moLr B 38 (fun _ => (0 : Int))))) := mAt0_s (q := (41, 37, 0, 9600)) (by decide) rfl hA37
  have hF38 : mFr B h (va_up (va_up h37 (B + 1 + 37) (pz_z 0 9600 (fun _ => 0))) B (pz_o 13 (moLr B 38 (fun _ => (0 : Int))))) := mFr_tr hF37 (mFr_tr (show mFr B h37 (va_up h37 (B + 1 + 37) (pz_z 0 9600 (fun _ => 0))) from mFr_up (k := 38) (by decide)) (mFr_up (k := 0) (by decide)))
  revert hA38 hF38
  generalize (va_up (va_up h37 (B + 1 + 37) (pz_z 0 9600 (fun _ => 0))) B (pz_o 13 (moLr B 38 (fun _ => (0 : Int))))) = h38
  intro hA38 hF38
  refine pw_aload_n dX10_init_312 rfl ?_
  refine pw_bipush (v := zI (8)) dX10_init_313 (by decide) ?_
  refine pw_newi (t := 0) rfl naInt (by decide) (nle rfl) (nle rfl) dX10_init_315 ?_
  refine pw_u (uc' := 39) (us' := 40080) (n' := B + 40) rfl rfl rfl ?_
  refine pw_putF (fs' := moLr B 39 (fun _ => (0 : Int))) okX10 (k := 42) (by decide) lkX10_125 rfl rfl rfl rfl rfl ((va_up_ne _ _ (by omega)).trans hA38.1) (nlt rfl) rfl dX10_init_317 ?_
  refine pw_h (h' := va_up (va_up h38 (B + 1 + 38) (pz_z 0 8 (fun _ => 0))) B (pz_o 13 (moLr B 39 (fun _ => (0 : Int))))) rfl ?_
  have hA39 : mAt0 B 39 (fun _ => (0 : Int)) (va_up (va_up h38 (B + 1 + 38) (pz_z 0 8 (fun _ => 0))) B (pz_o 13 (moLr B 39 (fun _ => (0 : Int))))) := mAt0_s (q := (42, 38, 0, 8)) (by decide) rfl hA38
  have hF39 : mFr B h (va_up (va_up h38 (B + 1 + 38) (pz_z 0 8 (fun _ => 0))) B (pz_o 13 (moLr B 39 (fun _ => (0 : Int))))) := mFr_tr hF38 (mFr_tr (show mFr B h38 (va_up h38 (B + 1 + 38) (pz_z 0 8 (fun _ => 0))) from mFr_up (k := 39) (by decide)) (mFr_up (k := 0) (by decide)))
  revert hA39 hF39
  generalize (va_up (va_up h38 (B + 1 + 38) (pz_z 0 8 (fun _ => 0))) B (pz_o 13 (moLr B 39 (fun _ => (0 : Int))))) = h39
  intro hA39 hF39
  refine pw_aload_n dX10_init_320 rfl ?_
  refine pw_bipush (v := zI (8)) dX10_init_321 (by decide) ?_
  refine pw_newz (t := 1) rfl naBool (by decide) (nle rfl) (nle rfl) dX10_init_323 ?_
  refine pw_u (uc' := 40) (us' := 40088) (n' := B + 41) rfl rfl rfl ?_
  refine pw_putF (fs' := moLr B 40 (fun _ => (0 : Int))) okX10 (k := 43) (by decide) lkX10_128 rfl rfl rfl rfl rfl ((va_up_ne _ _ (by omega)).trans hA39.1) (nlt rfl) rfl dX10_init_325 ?_
  refine pw_h (h' := va_up (va_up h39 (B + 1 + 39) (pz_z 1 8 (fun _ => 0))) B (pz_o 13 (moLr B 40 (fun _ => (0 : Int))))) rfl ?_
  have hA40 : mAt0 B 40 (fun _ => (0 : Int)) (va_up (va_up h39 (B + 1 + 39) (pz_z 1 8 (fun _ => 0))) B (pz_o 13 (moLr B 40 (fun _ => (0 : Int))))) := mAt0_s (q := (43, 39, 1, 8)) (by decide) rfl hA39
  have hF40 : mFr B h (va_up (va_up h39 (B + 1 + 39) (pz_z 1 8 (fun _ => 0))) B (pz_o 13 (moLr B 40 (fun _ => (0 : Int))))) := mFr_tr hF39 (mFr_tr (show mFr B h39 (va_up h39 (B + 1 + 39) (pz_z 1 8 (fun _ => 0))) from mFr_up (k := 40) (by decide)) (mFr_up (k := 0) (by decide)))
  revert hA40 hF40
  generalize (va_up (va_up h39 (B + 1 + 39) (pz_z 1 8 (fun _ => 0))) B (pz_o 13 (moLr B 40 (fun _ => (0 : Int))))) = h40
  intro hA40 hF40
  refine pw_aload_n dX10_init_328 rfl ?_
  refine pw_bipush (v := zI (8)) dX10_init_329 (by decide) ?_
  refine pw_newi (t := 0) rfl naInt (by decide) (nle rfl) (nle rfl) dX10_init_331 ?_
  refine pw_u (uc' := 41) (us' := 40096) (n' := B + 42) rfl rfl rfl ?_
  refine pw_putF (fs' := moLr B 41 (fun _ => (0 : Int))) okX10 (k := 44) (by decide) lkX10_131 rfl rfl rfl rfl rfl ((va_up_ne _ _ (by omega)).trans hA40.1) (nlt rfl) rfl dX10_init_333 ?_
  refine pw_h (h' := va_up (va_up h40 (B + 1 + 40) (pz_z 0 8 (fun _ => 0))) B (pz_o 13 (moLr B 41 (fun _ => (0 : Int))))) rfl ?_
  have hA41 : mAt0 B 41 (fun _ => (0 : Int)) (va_up (va_up h40 (B + 1 + 40) (pz_z 0 8 (fun _ => 0))) B (pz_o 13 (moLr B 41 (fun _ => (0 : Int))))) := mAt0_s (q := (44, 40, 0, 8)) (by decide) rfl hA40
  have hF41 : mFr B h (va_up (va_up h40 (B + 1 + 40) (pz_z 0 8 (fun _ => 0))) B (pz_o 13 (moLr B 41 (fun _ => (0 : Int))))) := mFr_tr hF40 (mFr_tr (show mFr B h40 (va_up h40 (B + 1 + 40) (pz_z 0 8 (fun _ => 0))) from mFr_up (k := 41) (by decide)) (mFr_up (k := 0) (by decide)))
  revert hA41 hF41
  generalize (va_up (va_up h40 (B + 1 + 40) (pz_z 0 8 (fun _ => 0))) B (pz_o 13 (moLr B 41 (fun _ => (0 : Int))))) = h41
  intro hA41 hF41
  refine pw_aload_n dX10_init_336 rfl ?_
  refine pw_bipush (v := zI (8)) dX10_init_337 (by decide) ?_
  refine pw_newi (t := 0) rfl naInt (by decide) (nle rfl) (nle rfl) dX10_init_339 ?_
  refine pw_u (uc' := 42) (us' := 40104) (n' := B + 43) rfl rfl rfl ?_
  refine pw_putF (fs' := moLr B 42 (fun _ => (0 : Int))) okX10 (k := 45) (by decide) lkX10_134 rfl rfl rfl rfl rfl ((va_up_ne _ _ (by omega)).trans hA41.1) (nlt rfl) rfl dX10_init_341 ?_
  refine pw_h (h' := va_up (va_up h41 (B + 1 + 41) (pz_z 0 8 (fun _ => 0))) B (pz_o 13 (moLr B 42 (fun _ => (0 : Int))))) rfl ?_
  have hA42 : mAt0 B 42 (fun _ => (0 : Int)) (va_up (va_up h41 (B + 1 + 41) (pz_z 0 8 (fun _ => 0))) B (pz_o 13 (moLr B 42 (fun _ => (0 : Int))))) := mAt0_s (q := (45, 41, 0, 8)) (by decide) rfl hA41
  have hF42 : mFr B h (va_up (va_up h41 (B + 1 + 41) (pz_z 0 8 (fun _ => 0))) B (pz_o 13 (moLr B 42 (fun _ => (0 : Int))))) := mFr_tr hF41 (mFr_tr (show mFr B h41 (va_up h41 (B + 1 + 41) (pz_z 0 8 (fun _ => 0))) from mFr_up (k := 42) (by decide)) (mFr_up (k := 0) (by decide)))
  revert hA42 hF42
  generalize (va_up (va_up h41 (B + 1 + 41) (pz_z 0 8 (fun _ => 0))) B (pz_o 13 (moLr B 42 (fun _ => (0 : Int))))) = h42
  intro hA42 hF42
  refine pw_aload_n dX10_init_344 rfl ?_
  refine pw_sipush (v := zI (512)) dX10_init_345 (by decide) ?_
  refine pw_newi (t := 0) rfl naInt (by decide) (nle rfl) (nle rfl) dX10_init_348 ?_
  refine pw_u (uc' := 43) (us' := 40616) (n' := B + 44) rfl rfl rfl ?_
  refine pw_putF (fs' := moLr B 43 (fun _ => (0 : Int))) okX10 (k := 46) (by decide) lkX10_137 rfl rfl rfl rfl rfl ((va_up_ne _ _ (by omega)).trans hA42.1) (nlt rfl) rfl dX10_init_350 ?_
  refine pw_h (h' := va_up (va_up h42 (B + 1 + 42) (pz_z 0 512 (fun _ => 0))) B (pz_o 13 (moLr B 43 (fun _ => (0 : Int))))) rfl ?_
  have hA43 : mAt0 B 43 (fun _ => (0 : Int)) (va_up (va_up h42 (B + 1 + 42) (pz_z 0 512 (fun _ => 0))) B (pz_o 13 (moLr B 43 (fun _ => (0 : Int))))) := mAt0_s (q := (46, 42, 0, 512)) (by decide) rfl hA42
  have hF43 : mFr B h (va_up (va_up h42 (B + 1 + 42) (pz_z 0 512 (fun _ => 0))) B (pz_o 13 (moLr B 43 (fun _ => (0 : Int))))) := mFr_tr hF42 (mFr_tr (show mFr B h42 (va_up h42 (B + 1 + 42) (pz_z 0 512 (fun _ => 0))) from mFr_up (k := 43) (by decide)) (mFr_up (k := 0) (by decide)))
  revert hA43 hF43
  generalize (va_up (va_up h42 (B + 1 + 42) (pz_z 0 512 (fun _ => 0))) B (pz_o 13 (moLr B 43 (fun _ => (0 : Int))))) = h43
  intro hA43 hF43
  refine pw_aload_n dX10_init_353 rfl ?_
  refine pw_sipush (v := zI (400)) dX10_init_354 (by decide) ?_
  refine pw_newi (t := 0) rfl naInt (by decide) (nle rfl) (nle rfl) dX10_init_357 ?_
  refine pw_u (uc' := 44) (us' := 41016) (n' := B + 45) rfl rfl rfl ?_
  refine pw_putF (fs' := moLr B 44 (fun _ => (0 : Int))) okX10 (k := 50) (by decide) lkX10_140 rfl rfl rfl rfl rfl ((va_up_ne _ _ (by omega)).trans hA43.1) (nlt rfl) rfl dX10_init_359 ?_
  refine pw_h (h' := va_up (va_up h43 (B + 1 + 43) (pz_z 0 400 (fun _ => 0))) B (pz_o 13 (moLr B 44 (fun _ => (0 : Int))))) rfl ?_
  have hA44 : mAt0 B 44 (fun _ => (0 : Int)) (va_up (va_up h43 (B + 1 + 43) (pz_z 0 400 (fun _ => 0))) B (pz_o 13 (moLr B 44 (fun _ => (0 : Int))))) := mAt0_s (q := (50, 43, 0, 400)) (by decide) rfl hA43
  have hF44 : mFr B h (va_up (va_up h43 (B + 1 + 43) (pz_z 0 400 (fun _ => 0))) B (pz_o 13 (moLr B 44 (fun _ => (0 : Int))))) := mFr_tr hF43 (mFr_tr (show mFr B h43 (va_up h43 (B + 1 + 43) (pz_z 0 400 (fun _ => 0))) from mFr_up (k := 44) (by decide)) (mFr_up (k := 0) (by decide)))
  revert hA44 hF44
  generalize (va_up (va_up h43 (B + 1 + 43) (pz_z 0 400 (fun _ => 0))) B (pz_o 13 (moLr B 44 (fun _ => (0 : Int))))) = h44
  intro hA44 hF44
  refine pw_aload_n dX10_init_362 rfl ?_
  refine pw_sipush (v := zI (640)) dX10_init_363 (by decide) ?_
  refine pw_newi (t := 0) rfl naInt (by decide) (nle rfl) (nle rfl) dX10_init_366 ?_
  refine pw_u (uc' := 45) (us' := 41656) (n' := B + 46) rfl rfl rfl ?_
  refine pw_putF (fs' := moLr B 45 (fun _ => (0 : Int))) okX10 (k := 51) (by decide) lkX10_143 rfl rfl rfl rfl rfl ((va_up_ne _ _ (by omega)).trans hA44.1) (nlt rfl) rfl dX10_init_368 ?_
  refine pw_h (h' := va_up (va_up h44 (B + 1 + 44) (pz_z 0 640 (fun _ => 0))) B (pz_o 13 (moLr B 45 (fun _ => (0 : Int))))) rfl ?_
  have hA45 : mAt0 B 45 (fun _ => (0 : Int)) (va_up (va_up h44 (B + 1 + 44) (pz_z 0 640 (fun _ => 0))) B (pz_o 13 (moLr B 45 (fun _ => (0 : Int))))) := mAt0_s (q := (51, 44, 0, 640)) (by decide) rfl hA44
  have hF45 : mFr B h (va_up (va_up h44 (B + 1 + 44) (pz_z 0 640 (fun _ => 0))) B (pz_o 13 (moLr B 45 (fun _ => (0 : Int))))) := mFr_tr hF44 (mFr_tr (show mFr B h44 (va_up h44 (B + 1 + 44) (pz_z 0 640 (fun _ => 0))) from mFr_up (k := 45) (by decide)) (mFr_up (k := 0) (by decide)))
  revert hA45 hF45
  generalize (va_up (va_up h44 (B + 1 + 44) (pz_z 0 640 (fun _ => 0))) B (pz_o 13 (moLr B 45 (fun _ => (0 : Int))))) = h45
  intro hA45 hF45
  refine pw_aload_n dX10_init_371 rfl ?_
  refine pw_sipush (v := zI (640)) dX10_init_372 (by decide) ?_
  refine pw_newi (t := 0) rfl naInt (by decide) (nle rfl) (nle rfl) dX10_init_375 ?_
  refine pw_u (uc' := 46) (us' := 42296) (n' := B + 47) rfl rfl rfl ?_
  refine pw_putF (fs' := moLr B 46 (fun _ => (0 : Int))) okX10 (k := 52) (by decide) lkX10_146 rfl rfl rfl rfl rfl ((va_up_ne _ _ (by omega)).trans hA45.1) (nlt rfl) rfl dX10_init_377 ?_
  refine pw_h (h' := va_up (va_up h45 (B + 1 + 45) (pz_z 0 640 (fun _ => 0))) B (pz_o 13 (moLr B 46 (fun _ => (0 : Int))))) rfl ?_
  have hA46 : mAt0 B 46 (fun _ => (0 : Int)) (va_up (va_up h45 (B + 1 + 45) (pz_z 0 640 (fun _ => 0))) B (pz_o 13 (moLr B 46 (fun _ => (0 : Int))))) := mAt0_s (q := (52, 45, 0, 640)) (by decide) rfl hA45
  have hF46 : mFr B h (va_up (va_up h45 (B + 1 + 45) (pz_z 0 640 (fun _ => 0))) B (pz_o 13 (moLr B 46 (fun _ => (0 : Int))))) := mFr_tr hF45 (mFr_tr (show mFr B h45 (va_up h45 (B + 1 + 45) (pz_z 0 640 (fun _ => 0))) from mFr_up (k := 46) (by decide)) (mFr_up (k := 0) (by decide)))
  revert hA46 hF46
  generalize (va_up (va_up h45 (B + 1 + 45) (pz_z 0 640 (fun _ => 0))) B (pz_o 13 (moLr B 46 (fun _ => (0 : Int))))) = h46
  intro hA46 hF46
  refine pw_aload_n dX10_init_380 rfl ?_
  refine pw_iconst (v := zI (1)) dX10_init_381 (by decide) ?_
  refine pw_put (fs' := moLr B 46 (va_up (fun _ => (0 : Int)) 55 1)) okX10 (k := 55) (by decide) lkX10_149 rfl (by decide) (by decide) hA46.1 (nlt rfl) rfl dX10_init_382 ?_
  have hAv : mAt0 B 46 (va_up (fun _ => (0 : Int)) 55 1) (va_up h46 B (pz_o 13 (moLr B 46 (va_up (fun _ => (0 : Int)) 55 1)))) := mAt0_v hA46
  have hFv : mFr B h (va_up h46 B (pz_o 13 (moLr B 46 (va_up (fun _ => (0 : Int)) 55 1)))) := mFr_tr hF46 (mFr_up (k := 0) (by decide))
  revert hAv hFv
  generalize (va_up h46 B (pz_o 13 (moLr B 46 (va_up (fun _ => (0 : Int)) 55 1)))) = hv
  intro hAv hFv
  refine pw_aload_n dX10_init_385 rfl ?_
  refine pw_sipush (v := zI (24000)) dX10_init_386 (by decide) ?_
  refine pw_newi (t := 0) rfl naInt (by decide) (nle rfl) (nle rfl) dX10_init_389 ?_
  refine pw_u (uc' := 47) (us' := 66296) (n' := B + 48) rfl rfl rfl ?_
  refine pw_putF (fs' := moLr B 47 (va_up (fun _ => (0 : Int)) 55 1)) okX10 (k := 58) (by decide) lkX10_153 rfl rfl rfl rfl rfl ((va_up_ne _ _ (by omega)).trans hAv.1) (nlt rfl) rfl dX10_init_391 ?_
  refine pw_h (h' := va_up (va_up hv (B + 1 + 46) (pz_z 0 24000 (fun _ => 0))) B (pz_o 13 (moLr B 47 (va_up (fun _ => (0 : Int)) 55 1)))) rfl ?_
  have hA47 : mAt0 B 47 (va_up (fun _ => (0 : Int)) 55 1) (va_up (va_up hv (B + 1 + 46) (pz_z 0 24000 (fun _ => 0))) B (pz_o 13 (moLr B 47 (va_up (fun _ => (0 : Int)) 55 1)))) := mAt0_s (q := (58, 46, 0, 24000)) (by decide) rfl hAv
  have hF47 : mFr B h (va_up (va_up hv (B + 1 + 46) (pz_z 0 24000 (fun _ => 0))) B (pz_o 13 (moLr B 47 (va_up (fun _ => (0 : Int)) 55 1)))) := mFr_tr hFv (mFr_tr (show mFr B hv (va_up hv (B + 1 + 46) (pz_z 0 24000 (fun _ => 0))) from mFr_up (k := 47) (by decide)) (mFr_up (k := 0) (by decide)))
  revert hA47 hF47
  generalize (va_up (va_up hv (B + 1 + 46) (pz_z 0 24000 (fun _ => 0))) B (pz_o 13 (moLr B 47 (va_up (fun _ => (0 : Int)) 55 1)))) = h47
  intro hA47 hF47
  refine pw_aload_n dX10_init_394 rfl ?_
  refine pw_bipush (v := zI (16)) dX10_init_395 (by decide) ?_
  refine pw_newi (t := 0) rfl naInt (by decide) (nle rfl) (nle rfl) dX10_init_397 ?_
  refine pw_u (uc' := 48) (us' := 66312) (n' := B + 49) rfl rfl rfl ?_
  refine pw_putF (fs' := moLr B 48 (va_up (fun _ => (0 : Int)) 55 1)) okX10 (k := 59) (by decide) lkX10_156 rfl rfl rfl rfl rfl ((va_up_ne _ _ (by omega)).trans hA47.1) (nlt rfl) rfl dX10_init_399 ?_
  refine pw_h (h' := va_up (va_up h47 (B + 1 + 47) (pz_z 0 16 (fun _ => 0))) B (pz_o 13 (moLr B 48 (va_up (fun _ => (0 : Int)) 55 1)))) rfl ?_
  have hA48 : mAt0 B 48 (va_up (fun _ => (0 : Int)) 55 1) (va_up (va_up h47 (B + 1 + 47) (pz_z 0 16 (fun _ => 0))) B (pz_o 13 (moLr B 48 (va_up (fun _ => (0 : Int)) 55 1)))) := mAt0_s (q := (59, 47, 0, 16)) (by decide) rfl hA47
  have hF48 : mFr B h (va_up (va_up h47 (B + 1 + 47) (pz_z 0 16 (fun _ => 0))) B (pz_o 13 (moLr B 48 (va_up (fun _ => (0 : Int)) 55 1)))) := mFr_tr hF47 (mFr_tr (show mFr B h47 (va_up h47 (B + 1 + 47) (pz_z 0 16 (fun _ => 0))) from mFr_up (k := 48) (by decide)) (mFr_up (k := 0) (by decide)))
  revert hA48 hF48
  generalize (va_up (va_up h47 (B + 1 + 47) (pz_z 0 16 (fun _ => 0))) B (pz_o 13 (moLr B 48 (va_up (fun _ => (0 : Int)) 55 1)))) = h48
  intro hA48 hF48
  refine pw_aload_n dX10_init_402 rfl ?_
  refine pw_bipush (v := zI (16)) dX10_init_403 (by decide) ?_
  refine pw_newi (t := 0) rfl naInt (by decide) (nle rfl) (nle rfl) dX10_init_405 ?_
  refine pw_u (uc' := 49) (us' := 66328) (n' := B + 50) rfl rfl rfl ?_
  refine pw_putF (fs' := moLr B 49 (va_up (fun _ => (0 : Int)) 55 1)) okX10 (k := 60) (by decide) lkX10_159 rfl rfl rfl rfl rfl ((va_up_ne _ _ (by omega)).trans hA48.1) (nlt rfl) rfl dX10_init_407 ?_
  refine pw_h (h' := va_up (va_up h48 (B + 1 + 48) (pz_z 0 16 (fun _ => 0))) B (pz_o 13 (moLr B 49 (va_up (fun _ => (0 : Int)) 55 1)))) rfl ?_
  have hA49 : mAt0 B 49 (va_up (fun _ => (0 : Int)) 55 1) (va_up (va_up h48 (B + 1 + 48) (pz_z 0 16 (fun _ => 0))) B (pz_o 13 (moLr B 49 (va_up (fun _ => (0 : Int)) 55 1)))) := mAt0_s (q := (60, 48, 0, 16)) (by decide) rfl hA48
  have hF49 : mFr B h (va_up (va_up h48 (B + 1 + 48) (pz_z 0 16 (fun _ => 0))) B (pz_o 13 (moLr B 49 (va_up (fun _ => (0 : Int)) 55 1)))) := mFr_tr hF48 (mFr_tr (show mFr B h48 (va_up h48 (B + 1 + 48) (pz_z 0 16 (fun _ => 0))) from mFr_up (k := 49) (by decide)) (mFr_up (k := 0) (by decide)))
  revert hA49 hF49
  generalize (va_up (va_up h48 (B + 1 + 48) (pz_z 0 16 (fun _ => 0))) B (pz_o 13 (moLr B 49 (va_up (fun _ => (0 : Int)) 55 1)))) = h49
  intro hA49 hF49
  exact lN_ctor2 htr hw hH hwe hHe h_w0 h_h0 (mAt0_e hA49) hF49 (fun h' s' z1 z2 z3 => ⟨rfl, s', z1, z2, z3, rfl⟩)
