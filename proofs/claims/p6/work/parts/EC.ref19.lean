
set_option maxHeartbeats 1000000 in
set_option maxRecDepth 100000 in
theorem lN_spq {E : pw_E} (htr : E.1.stackTraces = false) {Kk : pw_K} {h : pz_H} {n : Nat} {B : Nat} {s : mS} (hA : mAt B s h) {p dn q : Int} (hq : 0 ≤ q ∧ q < 8) (h1 : ∀ i, i < q.toNat → s.2 16 i = 1) (h0 : s.2 16 q.toNat = 0) (kk : pw E YX10_splitNow (rmD 3 0 0) Kk 0 0 17 [some (.ref B), some (.int (zI p)), some (.int (zI dn)), some (.int (zI q)), none, none, none, none, none] [] h n) : ∀ (j : Nat) (i : Int), (q - i).toNat = j → 0 ≤ i → i ≤ q → pw E YX10_splitNow (rmD 3 0 0) Kk 0 0 2 [some (.ref B), some (.int (zI p)), some (.int (zI dn)), some (.int (zI i)), none, none, none, none, none] [] h n := by
  intro j
  induction j with
  | zero =>
    intro i hj i1 i2
    have hz : s.2 16 i.toNat = 0 := by rw [show i = q by omega]; exact h0
    refine pw_aload_n dX10_splitNow_2 rfl ?_
    refine pw_get (v := .ref (B + 13)) okX10 (k := 16) (by decide) lkX10_47 hA.1 rfl dX10_splitNow_3 ?_
    refine pw_iload_n dX10_splitNow_6 rfl ?_
    refine pw_zald (g := (s.2 16)) (t := 1) rfl (mF16 (s := s) hA) (by omega) (by decide) dX10_splitNow_7 ?_
    refine pw_if_eq (tgt := 17) dX10_splitNow_8 rfl (by omega) (fun c8 => ?_) (fun c8 => ?_)
    ·
      have ei : i = q := by omega
      subst ei
      exact kk
    · exfalso; omega
  | succ j ih =>
    intro i hj i1 i2
    have hz : s.2 16 i.toNat = 1 := h1 i.toNat (by omega)
    refine pw_aload_n dX10_splitNow_2 rfl ?_
    refine pw_get (v := .ref (B + 13)) okX10 (k := 16) (by decide) lkX10_47 hA.1 rfl dX10_splitNow_3 ?_
    refine pw_iload_n dX10_splitNow_6 rfl ?_
    refine pw_zald (g := (s.2 16)) (t := 1) rfl (mF16 (s := s) hA) (by omega) (by decide) dX10_splitNow_7 ?_
    refine pw_if_eq (tgt := 17) dX10_splitNow_8 rfl (by omega) (fun c8 => ?_) (fun c8 => ?_)
    · exfalso; omega
    ·
      refine pw_ziinc (lv' := [some (.ref B), some (.int (zI (p))), some (.int (zI (dn))), some (.int (zI (i + 1))), none, none, none, none, none]) dX10_splitNow_11 rfl (by decide) rfl rfl ?_
      refine pw_goto (tgt := 2) dX10_splitNow_14 rfl ?_
      exact ih (i + 1) (by omega) (by omega) (by omega)
set_option maxHeartbeats 1000000 in
set_option maxRecDepth 100000 in
/-- splitNow(p, 0), on a tree -/
theorem nR_splitNow0 {E : pw_E} (htr : E.1.stackTraces = false) {h : pz_H} {n : Nat} {B : Nat} {s : mS} (hA : mAt B s h) {p : Int}  {nc fN gN pN qN : Nat} {v : aT} {m f g q ww hh x y : Int} (em : m = (tm v : Int)) (ef : f = (fN : Int)) (eg : g = (gN : Int)) (ep : p = (pN : Int)) (eq : q = (qN : Int)) (hp : 0 ≤ p ∧ p < 8) (hq : 0 ≤ q ∧ q < 8) (hpq : p ≠ q) (hm : 0 ≤ m ∧ m < 16) (hf : 0 ≤ f ∧ f < 16) (hg : 0 ≤ g ∧ g < 16) (hmf : m ≠ f) (hmg : m ≠ g) (hfg : f ≠ g) (hq1 : ∀ i, i < q.toNat → s.2 16 i = 1) (hq0 : s.2 16 q.toNat = 0) (hf1 : ∀ i, i < f.toNat → s.2 3 i = 1) (hf0 : s.2 3 f.toNat = 0) (hg1 : ∀ i, i < g.toNat → ¬ i = f.toNat → s.2 3 i = 1) (hg0 : s.2 3 g.toNat = 0) (e17 : s.2 17 p.toNat = m) (e10 : s.2 10 m.toNat = x) (e11 : s.2 11 m.toNat = y) (e12 : s.2 12 m.toNat = ww) (e13 : s.2 13 m.toNat = hh) (okv : aOk 1 v ww hh) (hww : ww ≤ 40) (hhh : hh ≤ 16) (hkp : mPk s p.toNat) (hu : mPu s q.toNat) (hl : 2 < ww) : pw_M E yX10_splitNow YX10_splitNow (rmD 3 0 0) [.ref B, .int (zI (p)), .int (zI (0))] h n (fun r0 h' n' => r0 = some (.int (zI q)) ∧ ∃ s2 s3, mAt B (mV 47 (q) s3) h' ∧ mPq q.toNat (mA 16 (va_up (s.2 16) (q).toNat (1)) (mA 7 (va_up (va_up (s.2 7) (f).toNat (m)) (g).toNat (m)) (mA 7 (va_up (s.2 7) (f).toNat (m)) (mA 9 (va_up (s.2 9) (m).toNat ((ww - 1) / (2))) (mA 8 (va_up (s.2 8) (m).toNat (0)) (mA 6 (va_up (s.2 6) (m).toNat (g)) (mA 5 (va_up (s.2 5) (m).toNat (f)) (mA 4 (va_up (va_up (va_up (s.2 4) (f).toNat (p)) (g).toNat (q)) (m).toNat (-1)) (mA 17 (va_up (va_up (s.2 17) (p).toNat (f)) (q).toNat (g)) (mA 17 (va_up (s.2 17) (p).toNat (f)) (mA 4 (va_up (va_up (s.2 4) (f).toNat (p)) (g).toNat (q)) (mA 4 (va_up (s.2 4) (f).toNat (p)) (mA 3 (va_up (va_up (s.2 3) (f).toNat 1) (g).toNat 1) (mA 3 (va_up (s.2 3) (f).toNat 1) s)))))))))))))) s2 ∧ mPk s2 q.toNat ∧ lyF (aX fm 2 (aDv nc fN gN 0 ((ww - 1) / 2) v pN qN)) (aX fp 2 (aDv nc fN gN 0 ((ww - 1) / 2) v pN qN)) 0 s2 s3 ∧ rA s3 2 (aPl 2 (aDv nc fN gN 0 ((ww - 1) / 2) v pN qN) ww hh ww hh) x y ∧ (∀ p', p' ∈ aX fp 2 (aDv nc fN gN 0 ((ww - 1) / 2) v pN qN) → mPk s3 p') ∧ mFr B h h' ∧ n' = n) (fun _ _ _ => False) := by
  have szv := aOk_sz okv
  have bv := aOk_1 okv
  refine pw_M_of (lv := [some (.ref B), some (.int (zI (p))), some (.int (zI (0))), none, none, none, none, none, none]) (by decide) rfl rfl htr (nle rfl) rfl (fun L => ?_)
  refine pw_iconst (v := zI (0)) dX10_splitNow_0 (by decide) ?_
  refine pw_istore_n (lv' := [some (.ref B), some (.int (zI (p))), some (.int (zI (0))), some (.int (zI (0))), none, none, none, none, none]) dX10_splitNow_1 (by decide) rfl rfl ?_
  refine lN_spq (q := q) htr hA hq hq1 hq0 ?_ _ 0 rfl (by omega) (by omega)
  refine pw_aload_n dX10_splitNow_17 rfl ?_
  refine pw_get (v := .ref (B + 14)) okX10 (k := 17) (by decide) lkX10_50 hA.1 rfl dX10_splitNow_18 ?_
  refine pw_iload_n dX10_splitNow_21 rfl ?_
  refine pw_ialdv (v := m) (t := 0) rfl (mF17 (s := s) hA) (by omega) (by decide) (e17) dX10_splitNow_22 ?_
  refine pw_istore (lv' := [some (.ref B), some (.int (zI (p))), some (.int (zI (0))), some (.int (zI (q))), some (.int (zI (m))), none, none, none, none]) dX10_splitNow_23 (by decide) rfl rfl ?_
  refine pw_aload_n dX10_splitNow_25 rfl ?_
  refine pw_callV (As := []) (b := B) (rm := rmD 0 0 0) (nR_freeNode (m := f) htr hA (by omega) hf1 hf0) rfl hA.1 rfl rfl ywX10_freeNode rfl cwX10_199 ⟨nle rfl, nle rfl⟩ (nle rfl) ⟨nle rfl, nle rfl⟩ dX10_splitNow_26 ?_ (fun _ _ _ z => z.elim)
  intro r_9 h1 n_9 hq _
  obtain ⟨e1, hA10, hF10, e4⟩ := hq
  rw [e1, e4]
  show pw E YX10_splitNow _ _ 0 0 29 [some (.ref B), some (.int (zI (p))), some (.int (zI (0))), some (.int (zI (q))), some (.int (zI (m))), none, none, none, none] [.int (zI (f))] h1 n
  have hA1 : mAt B (mA 3 (va_up (s.2 3) (f).toNat 1) s) h1 := hA10
  have hF1 := mFr_tr mFr_rf hF10
  clear e1 e4
  refine pw_istore (lv' := [some (.ref B), some (.int (zI (p))), some (.int (zI (0))), some (.int (zI (q))), some (.int (zI (m))), some (.int (zI (f))), none, none, none]) dX10_splitNow_29 (by decide) rfl rfl ?_
  refine pw_aload_n dX10_splitNow_31 rfl ?_
  refine pw_callV (As := []) (b := B) (rm := rmD 0 0 0) (nR_freeNode (m := g) htr hA1 (by omega) (fun i hi => (Decidable.em (i = f.toNat)).elim (fun z => by rw [z]; exact (show va_up (s.2 3) f.toNat 1 f.toNat = 1 from va_up_self _ _ _)) (fun z => (show va_up (s.2 3) f.toNat 1 i = 1 from (va_up_ne _ _ z).trans (hg1 i hi z)))) (show va_up (s.2 3) f.toNat 1 g.toNat = 0 from (va_up_ne _ _ (by omega)).trans hg0)) rfl hA1.1 rfl rfl ywX10_freeNode rfl cwX10_199 ⟨nle rfl, nle rfl⟩ (nle rfl) ⟨nle rfl, nle rfl⟩ dX10_splitNow_32 ?_ (fun _ _ _ z => z.elim)
  intro r_9 h2 n_9 hq _
  obtain ⟨e1, hA20, hF20, e4⟩ := hq
  rw [e1, e4]
  show pw E YX10_splitNow _ _ 0 0 35 [some (.ref B), some (.int (zI (p))), some (.int (zI (0))), some (.int (zI (q))), some (.int (zI (m))), some (.int (zI (f))), none, none, none] [.int (zI (g))] h2 n
  have hA2 : mAt B (mA 3 (va_up (va_up (s.2 3) (f).toNat 1) (g).toNat 1) (mA 3 (va_up (s.2 3) (f).toNat 1) s)) h2 := hA20
  have hF2 := mFr_tr hF1 hF20
  clear e1 e4
  refine pw_istore (lv' := [some (.ref B), some (.int (zI (p))), some (.int (zI (0))), some (.int (zI (q))), some (.int (zI (m))), some (.int (zI (f))), some (.int (zI (g))), none, none]) dX10_splitNow_35 (by decide) rfl rfl ?_
  refine pw_iload_n dX10_splitNow_37 rfl ?_
  refine pw_if_eq (tgt := 51) dX10_splitNow_38 rfl (by omega) (fun c38 => ?_) (fun c38 => ?_)
  ·
    refine pw_aload_n dX10_splitNow_51 rfl ?_
    refine pw_get (v := .ref (B + 10)) okX10 (k := 12) (by decide) lkX10_38 hA2.1 rfl dX10_splitNow_52 ?_
    refine pw_iload dX10_splitNow_55 rfl ?_
    refine pw_ialdv (v := ww) (t := 0) rfl (mF12 (s := (mA 3 (va_up (va_up (s.2 3) (f).toNat 1) (g).toNat 1) (mA 3 (va_up (s.2 3) (f).toNat 1) s))) hA2) (by omega) (by decide) (e12) dX10_splitNow_57 ?_
    refine pw_istore (lv' := [some (.ref B), some (.int (zI (p))), some (.int (zI (0))), some (.int (zI (q))), some (.int (zI (m))), some (.int (zI (f))), some (.int (zI (g))), some (.int (zI (ww))), none]) dX10_splitNow_58 (by decide) rfl rfl ?_
    refine pw_iload dX10_splitNow_60 rfl ?_
    refine pw_iconst (v := zI (1)) dX10_splitNow_62 (by decide) ?_
    refine pw_zisub dX10_splitNow_63 ?_
    refine pw_iconst (v := zI (2)) dX10_splitNow_64 (by decide) ?_
    refine pw_zidiv dX10_splitNow_65 (by omega) (by omega) ?_
    refine pw_istore (lv' := [some (.ref B), some (.int (zI (p))), some (.int (zI (0))), some (.int (zI (q))), some (.int (zI (m))), some (.int (zI (f))), some (.int (zI (g))), some (.int (zI (ww))), some (.int (zI ((ww - 1) / (2))))]) dX10_splitNow_66 (by decide) rfl rfl ?_
    refine pw_aload_n dX10_splitNow_68 rfl ?_
    refine pw_get (v := .ref (B + 2)) okX10 (k := 4) (by decide) lkX10_13 hA2.1 rfl dX10_splitNow_69 ?_
    refine pw_iload dX10_splitNow_72 rfl ?_
    refine pw_iload_n dX10_splitNow_74 rfl ?_
    refine pw_iast (g := (s.2 4)) (t := 0) rfl (mF4 (s := (mA 3 (va_up (va_up (s.2 3) (f).toNat 1) (g).toNat 1) (mA 3 (va_up (s.2 3) (f).toNat 1) s))) hA2) (by omega) (by decide) dX10_splitNow_75 ?_
    have hA3 : mAt B (mA 4 (va_up (s.2 4) (f).toNat (p)) (mA 3 (va_up (va_up (s.2 3) (f).toNat 1) (g).toNat 1) (mA 3 (va_up (s.2 3) (f).toNat 1) s))) (va_up h2 (B + 2) (pz_z 0 16 (va_up (s.2 4) (f).toNat (p)))) := mU4 hA2
    have hF3 : mFr B h (va_up h2 (B + 2) (pz_z 0 16 (va_up (s.2 4) (f).toNat (p)))) := mFr_tr hF2 (mFr_up (by decide))
    revert hA3 hF3
    generalize (va_up h2 (B + 2) (pz_z 0 16 (va_up (s.2 4) (f).toNat (p)))) = h3
    intro hA3 hF3
    refine pw_aload_n dX10_splitNow_76 rfl ?_
    refine pw_get (v := .ref (B + 2)) okX10 (k := 4) (by decide) lkX10_13 hA3.1 rfl dX10_splitNow_77 ?_
    refine pw_iload dX10_splitNow_80 rfl ?_
    refine pw_iload_n dX10_splitNow_82 rfl ?_
    refine pw_iast (g := (va_up (s.2 4) (f).toNat (p))) (t := 0) rfl (mF4 (s := (mA 4 (va_up (s.2 4) (f).toNat (p)) (mA 3 (va_up (va_up (s.2 3) (f).toNat 1) (g).toNat 1) (mA 3 (va_up (s.2 3) (f).toNat 1) s)))) hA3) (by omega) (by decide) dX10_splitNow_83 ?_
    have hA4 : mAt B (mA 4 (va_up (va_up (s.2 4) (f).toNat (p)) (g).toNat (q)) (mA 4 (va_up (s.2 4) (f).toNat (p)) (mA 3 (va_up (va_up (s.2 3) (f).toNat 1) (g).toNat 1) (mA 3 (va_up (s.2 3) (f).toNat 1) s)))) (va_up h3 (B + 2) (pz_z 0 16 (va_up (va_up (s.2 4) (f).toNat (p)) (g).toNat (q)))) := mU4 hA3
    have hF4 : mFr B h (va_up h3 (B + 2) (pz_z 0 16 (va_up (va_up (s.2 4) (f).toNat (p)) (g).toNat (q)))) := mFr_tr hF3 (mFr_up (by decide))
    revert hA4 hF4
    generalize (va_up h3 (B + 2) (pz_z 0 16 (va_up (va_up (s.2 4) (f).toNat (p)) (g).toNat (q)))) = h4
    intro hA4 hF4
    refine pw_aload_n dX10_splitNow_84 rfl ?_
    refine pw_get (v := .ref (B + 14)) okX10 (k := 17) (by decide) lkX10_50 hA4.1 rfl dX10_splitNow_85 ?_
    refine pw_iload_n dX10_splitNow_88 rfl ?_
    refine pw_iload dX10_splitNow_89 rfl ?_
    refine pw_iast (g := (s.2 17)) (t := 0) rfl (mF17 (s := (mA 4 (va_up (va_up (s.2 4) (f).toNat (p)) (g).toNat (q)) (mA 4 (va_up (s.2 4) (f).toNat (p)) (mA 3 (va_up (va_up (s.2 3) (f).toNat 1) (g).toNat 1) (mA 3 (va_up (s.2 3) (f).toNat 1) s))))) hA4) (by omega) (by decide) dX10_splitNow_91 ?_
    have hA5 : mAt B (mA 17 (va_up (s.2 17) (p).toNat (f)) (mA 4 (va_up (va_up (s.2 4) (f).toNat (p)) (g).toNat (q)) (mA 4 (va_up (s.2 4) (f).toNat (p)) (mA 3 (va_up (va_up (s.2 3) (f).toNat 1) (g).toNat 1) (mA 3 (va_up (s.2 3) (f).toNat 1) s))))) (va_up h4 (B + 14) (pz_z 0 8 (va_up (s.2 17) (p).toNat (f)))) := mU17 hA4
    have hF5 : mFr B h (va_up h4 (B + 14) (pz_z 0 8 (va_up (s.2 17) (p).toNat (f)))) := mFr_tr hF4 (mFr_up (by decide))
    revert hA5 hF5
    generalize (va_up h4 (B + 14) (pz_z 0 8 (va_up (s.2 17) (p).toNat (f)))) = h5
    intro hA5 hF5
    refine pw_aload_n dX10_splitNow_92 rfl ?_
    refine pw_get (v := .ref (B + 14)) okX10 (k := 17) (by decide) lkX10_50 hA5.1 rfl dX10_splitNow_93 ?_
    refine pw_iload_n dX10_splitNow_96 rfl ?_
    refine pw_iload dX10_splitNow_97 rfl ?_
    refine pw_iast (g := (va_up (s.2 17) (p).toNat (f))) (t := 0) rfl (mF17 (s := (mA 17 (va_up (s.2 17) (p).toNat (f)) (mA 4 (va_up (va_up (s.2 4) (f).toNat (p)) (g).toNat (q)) (mA 4 (va_up (s.2 4) (f).toNat (p)) (mA 3 (va_up (va_up (s.2 3) (f).toNat 1) (g).toNat 1) (mA 3 (va_up (s.2 3) (f).toNat 1) s)))))) hA5) (by omega) (by decide) dX10_splitNow_99 ?_
    have hA6 : mAt B (mA 17 (va_up (va_up (s.2 17) (p).toNat (f)) (q).toNat (g)) (mA 17 (va_up (s.2 17) (p).toNat (f)) (mA 4 (va_up (va_up (s.2 4) (f).toNat (p)) (g).toNat (q)) (mA 4 (va_up (s.2 4) (f).toNat (p)) (mA 3 (va_up (va_up (s.2 3) (f).toNat 1) (g).toNat 1) (mA 3 (va_up (s.2 3) (f).toNat 1) s)))))) (va_up h5 (B + 14) (pz_z 0 8 (va_up (va_up (s.2 17) (p).toNat (f)) (q).toNat (g)))) := mU17 hA5
    have hF6 : mFr B h (va_up h5 (B + 14) (pz_z 0 8 (va_up (va_up (s.2 17) (p).toNat (f)) (q).toNat (g)))) := mFr_tr hF5 (mFr_up (by decide))
    revert hA6 hF6
    generalize (va_up h5 (B + 14) (pz_z 0 8 (va_up (va_up (s.2 17) (p).toNat (f)) (q).toNat (g)))) = h6
    intro hA6 hF6
    refine pw_aload_n dX10_splitNow_100 rfl ?_
    refine pw_get (v := .ref (B + 2)) okX10 (k := 4) (by decide) lkX10_13 hA6.1 rfl dX10_splitNow_101 ?_
    refine pw_iload dX10_splitNow_104 rfl ?_
    refine pw_iconst (v := zI (-1)) dX10_splitNow_106 (by decide) ?_
    refine pw_iast (g := (va_up (va_up (s.2 4) (f).toNat (p)) (g).toNat (q))) (t := 0) rfl (mF4 (s := (mA 17 (va_up (va_up (s.2 17) (p).toNat (f)) (q).toNat (g)) (mA 17 (va_up (s.2 17) (p).toNat (f)) (mA 4 (va_up (va_up (s.2 4) (f).toNat (p)) (g).toNat (q)) (mA 4 (va_up (s.2 4) (f).toNat (p)) (mA 3 (va_up (va_up (s.2 3) (f).toNat 1) (g).toNat 1) (mA 3 (va_up (s.2 3) (f).toNat 1) s))))))) hA6) (by omega) (by decide) dX10_splitNow_107 ?_
    have hA7 : mAt B (mA 4 (va_up (va_up (va_up (s.2 4) (f).toNat (p)) (g).toNat (q)) (m).toNat (-1)) (mA 17 (va_up (va_up (s.2 17) (p).toNat (f)) (q).toNat (g)) (mA 17 (va_up (s.2 17) (p).toNat (f)) (mA 4 (va_up (va_up (s.2 4) (f).toNat (p)) (g).toNat (q)) (mA 4 (va_up (s.2 4) (f).toNat (p)) (mA 3 (va_up (va_up (s.2 3) (f).toNat 1) (g).toNat 1) (mA 3 (va_up (s.2 3) (f).toNat 1) s))))))) (va_up h6 (B + 2) (pz_z 0 16 (va_up (va_up (va_up (s.2 4) (f).toNat (p)) (g).toNat (q)) (m).toNat (-1)))) := mU4 hA6
    have hF7 : mFr B h (va_up h6 (B + 2) (pz_z 0 16 (va_up (va_up (va_up (s.2 4) (f).toNat (p)) (g).toNat (q)) (m).toNat (-1)))) := mFr_tr hF6 (mFr_up (by decide))
    revert hA7 hF7
    generalize (va_up h6 (B + 2) (pz_z 0 16 (va_up (va_up (va_up (s.2 4) (f).toNat (p)) (g).toNat (q)) (m).toNat (-1)))) = h7
    intro hA7 hF7
    refine pw_aload_n dX10_splitNow_108 rfl ?_
    refine pw_get (v := .ref (B + 3)) okX10 (k := 5) (by decide) lkX10_17 hA7.1 rfl dX10_splitNow_109 ?_
    refine pw_iload dX10_splitNow_112 rfl ?_
    refine pw_iload dX10_splitNow_114 rfl ?_
    refine pw_iast (g := (s.2 5)) (t := 0) rfl (mF5 (s := (mA 4 (va_up (va_up (va_up (s.2 4) (f).toNat (p)) (g).toNat (q)) (m).toNat (-1)) (mA 17 (va_up (va_up (s.2 17) (p).toNat (f)) (q).toNat (g)) (mA 17 (va_up (s.2 17) (p).toNat (f)) (mA 4 (va_up (va_up (s.2 4) (f).toNat (p)) (g).toNat (q)) (mA 4 (va_up (s.2 4) (f).toNat (p)) (mA 3 (va_up (va_up (s.2 3) (f).toNat 1) (g).toNat 1) (mA 3 (va_up (s.2 3) (f).toNat 1) s)))))))) hA7) (by omega) (by decide) dX10_splitNow_116 ?_
    have hA8 : mAt B (mA 5 (va_up (s.2 5) (m).toNat (f)) (mA 4 (va_up (va_up (va_up (s.2 4) (f).toNat (p)) (g).toNat (q)) (m).toNat (-1)) (mA 17 (va_up (va_up (s.2 17) (p).toNat (f)) (q).toNat (g)) (mA 17 (va_up (s.2 17) (p).toNat (f)) (mA 4 (va_up (va_up (s.2 4) (f).toNat (p)) (g).toNat (q)) (mA 4 (va_up (s.2 4) (f).toNat (p)) (mA 3 (va_up (va_up (s.2 3) (f).toNat 1) (g).toNat 1) (mA 3 (va_up (s.2 3) (f).toNat 1) s)))))))) (va_up h7 (B + 3) (pz_z 0 16 (va_up (s.2 5) (m).toNat (f)))) := mU5 hA7
    have hF8 : mFr B h (va_up h7 (B + 3) (pz_z 0 16 (va_up (s.2 5) (m).toNat (f)))) := mFr_tr hF7 (mFr_up (by decide))
    revert hA8 hF8
    generalize (va_up h7 (B + 3) (pz_z 0 16 (va_up (s.2 5) (m).toNat (f)))) = h8
    intro hA8 hF8
    refine pw_aload_n dX10_splitNow_117 rfl ?_
    refine pw_get (v := .ref (B + 4)) okX10 (k := 6) (by decide) lkX10_20 hA8.1 rfl dX10_splitNow_118 ?_
    refine pw_iload dX10_splitNow_121 rfl ?_
    refine pw_iload dX10_splitNow_123 rfl ?_
    refine pw_iast (g := (s.2 6)) (t := 0) rfl (mF6 (s := (mA 5 (va_up (s.2 5) (m).toNat (f)) (mA 4 (va_up (va_up (va_up (s.2 4) (f).toNat (p)) (g).toNat (q)) (m).toNat (-1)) (mA 17 (va_up (va_up (s.2 17) (p).toNat (f)) (q).toNat (g)) (mA 17 (va_up (s.2 17) (p).toNat (f)) (mA 4 (va_up (va_up (s.2 4) (f).toNat (p)) (g).toNat (q)) (mA 4 (va_up (s.2 4) (f).toNat (p)) (mA 3 (va_up (va_up (s.2 3) (f).toNat 1) (g).toNat 1) (mA 3 (va_up (s.2 3) (f).toNat 1) s))))))))) hA8) (by omega) (by decide) dX10_splitNow_125 ?_
    have hA9 : mAt B (mA 6 (va_up (s.2 6) (m).toNat (g)) (mA 5 (va_up (s.2 5) (m).toNat (f)) (mA 4 (va_up (va_up (va_up (s.2 4) (f).toNat (p)) (g).toNat (q)) (m).toNat (-1)) (mA 17 (va_up (va_up (s.2 17) (p).toNat (f)) (q).toNat (g)) (mA 17 (va_up (s.2 17) (p).toNat (f)) (mA 4 (va_up (va_up (s.2 4) (f).toNat (p)) (g).toNat (q)) (mA 4 (va_up (s.2 4) (f).toNat (p)) (mA 3 (va_up (va_up (s.2 3) (f).toNat 1) (g).toNat 1) (mA 3 (va_up (s.2 3) (f).toNat 1) s))))))))) (va_up h8 (B + 4) (pz_z 0 16 (va_up (s.2 6) (m).toNat (g)))) := mU6 hA8
    have hF9 : mFr B h (va_up h8 (B + 4) (pz_z 0 16 (va_up (s.2 6) (m).toNat (g)))) := mFr_tr hF8 (mFr_up (by decide))
    revert hA9 hF9
    generalize (va_up h8 (B + 4) (pz_z 0 16 (va_up (s.2 6) (m).toNat (g)))) = h9
    intro hA9 hF9
    refine pw_aload_n dX10_splitNow_126 rfl ?_
    refine pw_get (v := .ref (B + 6)) okX10 (k := 8) (by decide) lkX10_26 hA9.1 rfl dX10_splitNow_127 ?_
    refine pw_iload dX10_splitNow_130 rfl ?_
    refine pw_iload_n dX10_splitNow_132 rfl ?_
    refine pw_zast (g := (s.2 8)) (t := 1) rfl (mF8 (s := (mA 6 (va_up (s.2 6) (m).toNat (g)) (mA 5 (va_up (s.2 5) (m).toNat (f)) (mA 4 (va_up (va_up (va_up (s.2 4) (f).toNat (p)) (g).toNat (q)) (m).toNat (-1)) (mA 17 (va_up (va_up (s.2 17) (p).toNat (f)) (q).toNat (g)) (mA 17 (va_up (s.2 17) (p).toNat (f)) (mA 4 (va_up (va_up (s.2 4) (f).toNat (p)) (g).toNat (q)) (mA 4 (va_up (s.2 4) (f).toNat (p)) (mA 3 (va_up (va_up (s.2 3) (f).toNat 1) (g).toNat 1) (mA 3 (va_up (s.2 3) (f).toNat 1) s)))))))))) hA9) (by omega) (by decide) (by omega) dX10_splitNow_133 ?_
    have hA10 : mAt B (mA 8 (va_up (s.2 8) (m).toNat (0)) (mA 6 (va_up (s.2 6) (m).toNat (g)) (mA 5 (va_up (s.2 5) (m).toNat (f)) (mA 4 (va_up (va_up (va_up (s.2 4) (f).toNat (p)) (g).toNat (q)) (m).toNat (-1)) (mA 17 (va_up (va_up (s.2 17) (p).toNat (f)) (q).toNat (g)) (mA 17 (va_up (s.2 17) (p).toNat (f)) (mA 4 (va_up (va_up (s.2 4) (f).toNat (p)) (g).toNat (q)) (mA 4 (va_up (s.2 4) (f).toNat (p)) (mA 3 (va_up (va_up (s.2 3) (f).toNat 1) (g).toNat 1) (mA 3 (va_up (s.2 3) (f).toNat 1) s)))))))))) (va_up h9 (B + 6) (pz_z 1 16 (va_up (s.2 8) (m).toNat (0)))) := mU8 hA9
    have hF10 : mFr B h (va_up h9 (B + 6) (pz_z 1 16 (va_up (s.2 8) (m).toNat (0)))) := mFr_tr hF9 (mFr_up (by decide))
    revert hA10 hF10
    generalize (va_up h9 (B + 6) (pz_z 1 16 (va_up (s.2 8) (m).toNat (0)))) = h10
    intro hA10 hF10
    refine pw_aload_n dX10_splitNow_134 rfl ?_
    refine pw_get (v := .ref (B + 7)) okX10 (k := 9) (by decide) lkX10_29 hA10.1 rfl dX10_splitNow_135 ?_
    refine pw_iload dX10_splitNow_138 rfl ?_
    refine pw_iload dX10_splitNow_140 rfl ?_
    refine pw_iast (g := (s.2 9)) (t := 0) rfl (mF9 (s := (mA 8 (va_up (s.2 8) (m).toNat (0)) (mA 6 (va_up (s.2 6) (m).toNat (g)) (mA 5 (va_up (s.2 5) (m).toNat (f)) (mA 4 (va_up (va_up (va_up (s.2 4) (f).toNat (p)) (g).toNat (q)) (m).toNat (-1)) (mA 17 (va_up (va_up (s.2 17) (p).toNat (f)) (q).toNat (g)) (mA 17 (va_up (s.2 17) (p).toNat (f)) (mA 4 (va_up (va_up (s.2 4) (f).toNat (p)) (g).toNat (q)) (mA 4 (va_up (s.2 4) (f).toNat (p)) (mA 3 (va_up (va_up (s.2 3) (f).toNat 1) (g).toNat 1) (mA 3 (va_up (s.2 3) (f).toNat 1) s))))))))))) hA10) (by omega) (by decide) dX10_splitNow_142 ?_
    have hA11 : mAt B (mA 9 (va_up (s.2 9) (m).toNat ((ww - 1) / (2))) (mA 8 (va_up (s.2 8) (m).toNat (0)) (mA 6 (va_up (s.2 6) (m).toNat (g)) (mA 5 (va_up (s.2 5) (m).toNat (f)) (mA 4 (va_up (va_up (va_up (s.2 4) (f).toNat (p)) (g).toNat (q)) (m).toNat (-1)) (mA 17 (va_up (va_up (s.2 17) (p).toNat (f)) (q).toNat (g)) (mA 17 (va_up (s.2 17) (p).toNat (f)) (mA 4 (va_up (va_up (s.2 4) (f).toNat (p)) (g).toNat (q)) (mA 4 (va_up (s.2 4) (f).toNat (p)) (mA 3 (va_up (va_up (s.2 3) (f).toNat 1) (g).toNat 1) (mA 3 (va_up (s.2 3) (f).toNat 1) s))))))))))) (va_up h10 (B + 7) (pz_z 0 16 (va_up (s.2 9) (m).toNat ((ww - 1) / (2))))) := mU9 hA10
    have hF11 : mFr B h (va_up h10 (B + 7) (pz_z 0 16 (va_up (s.2 9) (m).toNat ((ww - 1) / (2))))) := mFr_tr hF10 (mFr_up (by decide))
    revert hA11 hF11
    generalize (va_up h10 (B + 7) (pz_z 0 16 (va_up (s.2 9) (m).toNat ((ww - 1) / (2))))) = h11
    intro hA11 hF11
    refine pw_aload_n dX10_splitNow_143 rfl ?_
    refine pw_get (v := .ref (B + 5)) okX10 (k := 7) (by decide) lkX10_23 hA11.1 rfl dX10_splitNow_144 ?_
    refine pw_iload dX10_splitNow_147 rfl ?_
    refine pw_iload dX10_splitNow_149 rfl ?_
    refine pw_iast (g := (s.2 7)) (t := 0) rfl (mF7 (s := (mA 9 (va_up (s.2 9) (m).toNat ((ww - 1) / (2))) (mA 8 (va_up (s.2 8) (m).toNat (0)) (mA 6 (va_up (s.2 6) (m).toNat (g)) (mA 5 (va_up (s.2 5) (m).toNat (f)) (mA 4 (va_up (va_up (va_up (s.2 4) (f).toNat (p)) (g).toNat (q)) (m).toNat (-1)) (mA 17 (va_up (va_up (s.2 17) (p).toNat (f)) (q).toNat (g)) (mA 17 (va_up (s.2 17) (p).toNat (f)) (mA 4 (va_up (va_up (s.2 4) (f).toNat (p)) (g).toNat (q)) (mA 4 (va_up (s.2 4) (f).toNat (p)) (mA 3 (va_up (va_up (s.2 3) (f).toNat 1) (g).toNat 1) (mA 3 (va_up (s.2 3) (f).toNat 1) s)))))))))))) hA11) (by omega) (by decide) dX10_splitNow_151 ?_
    have hA12 : mAt B (mA 7 (va_up (s.2 7) (f).toNat (m)) (mA 9 (va_up (s.2 9) (m).toNat ((ww - 1) / (2))) (mA 8 (va_up (s.2 8) (m).toNat (0)) (mA 6 (va_up (s.2 6) (m).toNat (g)) (mA 5 (va_up (s.2 5) (m).toNat (f)) (mA 4 (va_up (va_up (va_up (s.2 4) (f).toNat (p)) (g).toNat (q)) (m).toNat (-1)) (mA 17 (va_up (va_up (s.2 17) (p).toNat (f)) (q).toNat (g)) (mA 17 (va_up (s.2 17) (p).toNat (f)) (mA 4 (va_up (va_up (s.2 4) (f).toNat (p)) (g).toNat (q)) (mA 4 (va_up (s.2 4) (f).toNat (p)) (mA 3 (va_up (va_up (s.2 3) (f).toNat 1) (g).toNat 1) (mA 3 (va_up (s.2 3) (f).toNat 1) s)))))))))))) (va_up h11 (B + 5) (pz_z 0 16 (va_up (s.2 7) (f).toNat (m)))) := mU7 hA11
    have hF12 : mFr B h (va_up h11 (B + 5) (pz_z 0 16 (va_up (s.2 7) (f).toNat (m)))) := mFr_tr hF11 (mFr_up (by decide))
    revert hA12 hF12
    generalize (va_up h11 (B + 5) (pz_z 0 16 (va_up (s.2 7) (f).toNat (m)))) = h12
    intro hA12 hF12
    refine pw_aload_n dX10_splitNow_152 rfl ?_
    refine pw_get (v := .ref (B + 5)) okX10 (k := 7) (by decide) lkX10_23 hA12.1 rfl dX10_splitNow_153 ?_
    refine pw_iload dX10_splitNow_156 rfl ?_
    refine pw_iload dX10_splitNow_158 rfl ?_
    refine pw_iast (g := (va_up (s.2 7) (f).toNat (m))) (t := 0) rfl (mF7 (s := (mA 7 (va_up (s.2 7) (f).toNat (m)) (mA 9 (va_up (s.2 9) (m).toNat ((ww - 1) / (2))) (mA 8 (va_up (s.2 8) (m).toNat (0)) (mA 6 (va_up (s.2 6) (m).toNat (g)) (mA 5 (va_up (s.2 5) (m).toNat (f)) (mA 4 (va_up (va_up (va_up (s.2 4) (f).toNat (p)) (g).toNat (q)) (m).toNat (-1)) (mA 17 (va_up (va_up (s.2 17) (p).toNat (f)) (q).toNat (g)) (mA 17 (va_up (s.2 17) (p).toNat (f)) (mA 4 (va_up (va_up (s.2 4) (f).toNat (p)) (g).toNat (q)) (mA 4 (va_up (s.2 4) (f).toNat (p)) (mA 3 (va_up (va_up (s.2 3) (f).toNat 1) (g).toNat 1) (mA 3 (va_up (s.2 3) (f).toNat 1) s))))))))))))) hA12) (by omega) (by decide) dX10_splitNow_160 ?_
    have hA13 : mAt B (mA 7 (va_up (va_up (s.2 7) (f).toNat (m)) (g).toNat (m)) (mA 7 (va_up (s.2 7) (f).toNat (m)) (mA 9 (va_up (s.2 9) (m).toNat ((ww - 1) / (2))) (mA 8 (va_up (s.2 8) (m).toNat (0)) (mA 6 (va_up (s.2 6) (m).toNat (g)) (mA 5 (va_up (s.2 5) (m).toNat (f)) (mA 4 (va_up (va_up (va_up (s.2 4) (f).toNat (p)) (g).toNat (q)) (m).toNat (-1)) (mA 17 (va_up (va_up (s.2 17) (p).toNat (f)) (q).toNat (g)) (mA 17 (va_up (s.2 17) (p).toNat (f)) (mA 4 (va_up (va_up (s.2 4) (f).toNat (p)) (g).toNat (q)) (mA 4 (va_up (s.2 4) (f).toNat (p)) (mA 3 (va_up (va_up (s.2 3) (f).toNat 1) (g).toNat 1) (mA 3 (va_up (s.2 3) (f).toNat 1) s))))))))))))) (va_up h12 (B + 5) (pz_z 0 16 (va_up (va_up (s.2 7) (f).toNat (m)) (g).toNat (m)))) := mU7 hA12
    have hF13 : mFr B h (va_up h12 (B + 5) (pz_z 0 16 (va_up (va_up (s.2 7) (f).toNat (m)) (g).toNat (m)))) := mFr_tr hF12 (mFr_up (by decide))
    revert hA13 hF13
    generalize (va_up h12 (B + 5) (pz_z 0 16 (va_up (va_up (s.2 7) (f).toNat (m)) (g).toNat (m)))) = h13
    intro hA13 hF13
    refine pw_aload_n dX10_splitNow_161 rfl ?_
    refine pw_get (v := .ref (B + 13)) okX10 (k := 16) (by decide) lkX10_47 hA13.1 rfl dX10_splitNow_162 ?_
    refine pw_iload_n dX10_splitNow_165 rfl ?_
    refine pw_iconst (v := zI (1)) dX10_splitNow_166 (by decide) ?_
    refine pw_zast (g := (s.2 16)) (t := 1) rfl (mF16 (s := (mA 7 (va_up (va_up (s.2 7) (f).toNat (m)) (g).toNat (m)) (mA 7 (va_up (s.2 7) (f).toNat (m)) (mA 9 (va_up (s.2 9) (m).toNat ((ww - 1) / (2))) (mA 8 (va_up (s.2 8) (m).toNat (0)) (mA 6 (va_up (s.2 6) (m).toNat (g)) (mA 5 (va_up (s.2 5) (m).toNat (f)) (mA 4 (va_up (va_up (va_up (s.2 4) (f).toNat (p)) (g).toNat (q)) (m).toNat (-1)) (mA 17 (va_up (va_up (s.2 17) (p).toNat (f)) (q).toNat (g)) (mA 17 (va_up (s.2 17) (p).toNat (f)) (mA 4 (va_up (va_up (s.2 4) (f).toNat (p)) (g).toNat (q)) (mA 4 (va_up (s.2 4) (f).toNat (p)) (mA 3 (va_up (va_up (s.2 3) (f).toNat 1) (g).toNat 1) (mA 3 (va_up (s.2 3) (f).toNat 1) s)))))))))))))) hA13) (by omega) (by decide) (by omega) dX10_splitNow_167 ?_
    have hA14 : mAt B (mA 16 (va_up (s.2 16) (q).toNat (1)) (mA 7 (va_up (va_up (s.2 7) (f).toNat (m)) (g).toNat (m)) (mA 7 (va_up (s.2 7) (f).toNat (m)) (mA 9 (va_up (s.2 9) (m).toNat ((ww - 1) / (2))) (mA 8 (va_up (s.2 8) (m).toNat (0)) (mA 6 (va_up (s.2 6) (m).toNat (g)) (mA 5 (va_up (s.2 5) (m).toNat (f)) (mA 4 (va_up (va_up (va_up (s.2 4) (f).toNat (p)) (g).toNat (q)) (m).toNat (-1)) (mA 17 (va_up (va_up (s.2 17) (p).toNat (f)) (q).toNat (g)) (mA 17 (va_up (s.2 17) (p).toNat (f)) (mA 4 (va_up (va_up (s.2 4) (f).toNat (p)) (g).toNat (q)) (mA 4 (va_up (s.2 4) (f).toNat (p)) (mA 3 (va_up (va_up (s.2 3) (f).toNat 1) (g).toNat 1) (mA 3 (va_up (s.2 3) (f).toNat 1) s)))))))))))))) (va_up h13 (B + 13) (pz_z 1 8 (va_up (s.2 16) (q).toNat (1)))) := mU16 hA13
    have hF14 : mFr B h (va_up h13 (B + 13) (pz_z 1 8 (va_up (s.2 16) (q).toNat (1)))) := mFr_tr hF13 (mFr_up (by decide))
    revert hA14 hF14
    generalize (va_up h13 (B + 13) (pz_z 1 8 (va_up (s.2 16) (q).toNat (1)))) = h14
    intro hA14 hF14
    refine pw_aload_n dX10_splitNow_168 rfl ?_
    refine pw_iload_n dX10_splitNow_169 rfl ?_
    refine pw_iload_n dX10_splitNow_170 rfl ?_
    refine pw_if_eq (tgt := 184) dX10_splitNow_171 rfl (by omega) (fun c171 => ?_) (fun c171 => ?_)
    ·
      refine pw_iload dX10_splitNow_184 rfl ?_
      refine pw_iconst (v := zI (1)) dX10_splitNow_186 (by decide) ?_
      refine pw_zisub dX10_splitNow_187 ?_
      refine pw_iload dX10_splitNow_188 rfl ?_
      refine pw_zisub dX10_splitNow_190 ?_
      refine pw_iload_n dX10_splitNow_191 rfl ?_
      refine pw_if_eq (tgt := 205) dX10_splitNow_192 rfl (by omega) (fun c192 => ?_) (fun c192 => ?_)
      ·
        refine pw_aload_n dX10_splitNow_205 rfl ?_
        refine pw_get (v := .ref (B + 11)) okX10 (k := 13) (by decide) lkX10_41 hA14.1 rfl dX10_splitNow_206 ?_
        refine pw_iload dX10_splitNow_209 rfl ?_
        refine pw_ialdv (v := hh) (t := 0) rfl (mF13 (s := (mA 16 (va_up (s.2 16) (q).toNat (1)) (mA 7 (va_up (va_up (s.2 7) (f).toNat (m)) (g).toNat (m)) (mA 7 (va_up (s.2 7) (f).toNat (m)) (mA 9 (va_up (s.2 9) (m).toNat ((ww - 1) / (2))) (mA 8 (va_up (s.2 8) (m).toNat (0)) (mA 6 (va_up (s.2 6) (m).toNat (g)) (mA 5 (va_up (s.2 5) (m).toNat (f)) (mA 4 (va_up (va_up (va_up (s.2 4) (f).toNat (p)) (g).toNat (q)) (m).toNat (-1)) (mA 17 (va_up (va_up (s.2 17) (p).toNat (f)) (q).toNat (g)) (mA 17 (va_up (s.2 17) (p).toNat (f)) (mA 4 (va_up (va_up (s.2 4) (f).toNat (p)) (g).toNat (q)) (mA 4 (va_up (s.2 4) (f).toNat (p)) (mA 3 (va_up (va_up (s.2 3) (f).toNat 1) (g).toNat 1) (mA 3 (va_up (s.2 3) (f).toNat 1) s))))))))))))))) hA14) (by omega) (by decide) (e13) dX10_splitNow_211 ?_
        refine pw_callV (As := [.int (zI (q)), .int (zI ((ww - 1) - ((ww - 1) / (2)))), .int (zI (hh))]) (b := B) (rm := rmD 2 0 0) (nR_begin2 (p := q) htr hA14 hq (show mPu (mA 16 (va_up (s.2 16) (q).toNat (1)) (mA 7 (va_up (va_up (s.2 7) (f).toNat (m)) (g).toNat (m)) (mA 7 (va_up (s.2 7) (f).toNat (m)) (mA 9 (va_up (s.2 9) (m).toNat ((ww - 1) / (2))) (mA 8 (va_up (s.2 8) (m).toNat (0)) (mA 6 (va_up (s.2 6) (m).toNat (g)) (mA 5 (va_up (s.2 5) (m).toNat (f)) (mA 4 (va_up (va_up (va_up (s.2 4) (f).toNat (p)) (g).toNat (q)) (m).toNat (-1)) (mA 17 (va_up (va_up (s.2 17) (p).toNat (f)) (q).toNat (g)) (mA 17 (va_up (s.2 17) (p).toNat (f)) (mA 4 (va_up (va_up (s.2 4) (f).toNat (p)) (g).toNat (q)) (mA 4 (va_up (s.2 4) (f).toNat (p)) (mA 3 (va_up (va_up (s.2 3) (f).toNat 1) (g).toNat 1) (mA 3 (va_up (s.2 3) (f).toNat 1) s)))))))))))))) q.toNat from hu) (by omega) (by omega)) rfl hA14.1 rfl rfl ywX10_begin rfl cwX10_169 ⟨nle rfl, nle rfl⟩ (nle rfl) ⟨nle rfl, nle rfl⟩ dX10_splitNow_212 ?_ (fun _ _ _ z => z.elim)
        intro r_9 h15 n_9 hq9 _
        obtain ⟨e1, s2, hA15, hQ2, hk2, hv2, hF150, e4_⟩ := hq9
        rw [e1, e4_]
        show pw E YX10_splitNow _ _ 0 0 215 [some (.ref B), some (.int (zI (p))), some (.int (zI (0))), some (.int (zI (q))), some (.int (zI (m))), some (.int (zI (f))), some (.int (zI (g))), some (.int (zI (ww))), some (.int (zI ((ww - 1) / (2))))] [] h15 n
        have hF15 := mFr_tr hF14 hF150
        have k10 : s2.2 10 m.toNat = x := (congrFun (hQ2.2.1 10 (by decide)) _).trans e10
        have k11 : s2.2 11 m.toNat = y := (congrFun (hQ2.2.1 11 (by decide)) _).trans e11
        have k12 : s2.2 12 m.toNat = ww := (congrFun (hQ2.2.1 12 (by decide)) _).trans e12
        have k13 : s2.2 13 m.toNat = hh := (congrFun (hQ2.2.1 13 (by decide)) _).trans e13
        refine pw_aload_n dX10_splitNow_215 rfl ?_
        refine pw_iload dX10_splitNow_216 rfl ?_
        refine pw_aload_n dX10_splitNow_218 rfl ?_
        refine pw_get (v := .ref (B + 8)) okX10 (k := 10) (by decide) lkX10_32 hA15.1 rfl dX10_splitNow_219 ?_
        refine pw_iload dX10_splitNow_222 rfl ?_
        refine pw_ialdv (v := x) (t := 0) rfl (mF10 (s := s2) hA15) (by omega) (by decide) (k10) dX10_splitNow_224 ?_
        refine pw_aload_n dX10_splitNow_225 rfl ?_
        refine pw_get (v := .ref (B + 9)) okX10 (k := 11) (by decide) lkX10_35 hA15.1 rfl dX10_splitNow_226 ?_
        refine pw_iload dX10_splitNow_229 rfl ?_
        refine pw_ialdv (v := y) (t := 0) rfl (mF11 (s := s2) hA15) (by omega) (by decide) (k11) dX10_splitNow_231 ?_
        refine pw_aload_n dX10_splitNow_232 rfl ?_
        refine pw_get (v := .ref (B + 10)) okX10 (k := 12) (by decide) lkX10_38 hA15.1 rfl dX10_splitNow_233 ?_
        refine pw_iload dX10_splitNow_236 rfl ?_
        refine pw_ialdv (v := ww) (t := 0) rfl (mF12 (s := s2) hA15) (by omega) (by decide) (k12) dX10_splitNow_238 ?_
        refine pw_aload_n dX10_splitNow_239 rfl ?_
        refine pw_get (v := .ref (B + 11)) okX10 (k := 13) (by decide) lkX10_41 hA15.1 rfl dX10_splitNow_240 ?_
        refine pw_iload dX10_splitNow_243 rfl ?_
        refine pw_ialdv (v := hh) (t := 0) rfl (mF13 (s := s2) hA15) (by omega) (by decide) (k13) dX10_splitNow_245 ?_
        have hfit := aDv_fits (n := nc) (f := fN) (g := gN) (p := pN) (q := qN) (dn := 0) (a := ((ww - 1) / 2)) (v := v) (by omega) (by rw [szv.1, szv.2]; rw [if_pos rfl]; omega)
        have okU := hfit 1 ww hh okv
        have xm : aX fm 2 (aDv nc fN gN 0 ((ww - 1) / 2) v pN qN) = [tm v, fN, gN] := aDv_x (k := 0)
        have xp : aX fp 2 (aDv nc fN gN 0 ((ww - 1) / 2) v pN qN) = [pN, qN] := aDv_x (k := 0)
        have ndm : (aX fm 2 (aDv nc fN gN 0 ((ww - 1) / 2) v pN qN)).Nodup := by rw [xm]; simp; omega
        have ndp : (aX fp 2 (aDv nc fN gN 0 ((ww - 1) / 2) v pN qN)).Nodup := by rw [xp]; simp; omega
        have nf : m.toNat = tm v ∧ f.toNat = fN ∧ g.toNat = gN ∧ p.toNat = pN ∧ q.toNat = qN := by omega
        have pkU : ∀ p', p' ∈ aX fp 2 (aDv nc fN gN 0 ((ww - 1) / 2) v pN qN) → mPk s2 p' := by
          intro p' hp'
          rw [xp] at hp'
          have hp2 : p' = pN ∨ p' = qN := by simpa using hp'
          rcases hp2 with z | z
          · rw [z]; exact mPk_o (show mPk (mA 16 (va_up (s.2 16) (q).toNat (1)) (mA 7 (va_up (va_up (s.2 7) (f).toNat (m)) (g).toNat (m)) (mA 7 (va_up (s.2 7) (f).toNat (m)) (mA 9 (va_up (s.2 9) (m).toNat ((ww - 1) / (2))) (mA 8 (va_up (s.2 8) (m).toNat (0)) (mA 6 (va_up (s.2 6) (m).toNat (g)) (mA 5 (va_up (s.2 5) (m).toNat (f)) (mA 4 (va_up (va_up (va_up (s.2 4) (f).toNat (p)) (g).toNat (q)) (m).toNat (-1)) (mA 17 (va_up (va_up (s.2 17) (p).toNat (f)) (q).toNat (g)) (mA 17 (va_up (s.2 17) (p).toNat (f)) (mA 4 (va_up (va_up (s.2 4) (f).toNat (p)) (g).toNat (q)) (mA 4 (va_up (s.2 4) (f).toNat (p)) (mA 3 (va_up (va_up (s.2 3) (f).toNat 1) (g).toNat 1) (mA 3 (va_up (s.2 3) (f).toNat 1) s)))))))))))))) pN from nf.2.2.2.1 ▸ hkp) hQ2 (by omega)
          · rw [z, ← nf.2.2.2.2]; exact hk2
        have hTU : rT s2 2 (aDv nc fN gN 0 ((ww - 1) / 2) v pN qN) := by
          have q4 := hQ2.2.1 4 (by decide)
          have q5 := hQ2.2.1 5 (by decide)
          have q6 := hQ2.2.1 6 (by decide)
          have q8 := hQ2.2.1 8 (by decide)
          have q9 := hQ2.2.1 9 (by decide)
          refine ⟨show tm v < 16 by omega, (fun p' hp' => by cases hp'), fun _ => ⟨⟨?_, ?_, ?_, ?_, ?_, ?_, ?_⟩, ⟨show fN < 16 by omega, fun p' hp' => ?_, (fun z => by cases z)⟩, show gN < 16 by omega, fun p' hp' => ?_, (fun z => by cases z)⟩⟩
          · show s2.2 4 (tm v) = -1
            rw [q4, ← nf.1]; exact va_up_self _ _ _
          · show s2.2 5 (tm v) = (fN : Int)
            rw [q5, ← nf.1]; exact (va_up_self _ _ _).trans ef
          · show s2.2 6 (tm v) = (gN : Int)
            rw [q6, ← nf.1]; exact (va_up_self _ _ _).trans eg
          · show s2.2 8 (tm v) = 0
            rw [q8, ← nf.1]; exact va_up_self _ _ _
          · show s2.2 9 (tm v) = ((ww - 1) / 2)
            rw [q9, ← nf.1]; exact va_up_self _ _ _
          · show s2.2 12 (tm v) = tw v
            rw [← nf.1, szv.1]; exact k12
          · show s2.2 13 (tm v) = th v
            rw [← nf.1, szv.2]; exact k13
          · have z : pN = p' := Option.some.inj hp'
            subst z
            refine ⟨by omega, ?_⟩
            show s2.2 4 fN = (pN : Int)
            rw [q4, ← nf.2.1]; exact ((va_up_ne _ _ (by omega)).trans ((va_up_ne _ _ (by omega)).trans (va_up_self _ _ _))).trans ep
          · have z : qN = p' := Option.some.inj hp'
            subst z
            refine ⟨by omega, ?_⟩
            show s2.2 4 gN = (qN : Int)
            rw [q4, ← nf.2.2.1]; exact ((va_up_ne _ _ (by omega)).trans (va_up_self _ _ _)).trans eq
        refine pw_callV (As := [.int (zI (m)), .int (zI (x)), .int (zI (y)), .int (zI (ww)), .int (zI (hh))]) (b := B) (rm := rmD 2 0 0) (nR_lay (k := 2) (t := (aDv nc fN gN 0 ((ww - 1) / 2) v pN qN)) (w0 := ww) (h0 := hh) htr hA15 em okU ndm ndp hTU pkU (by omega) (by omega) (by omega) (by omega) (by omega)) rfl hA15.1 rfl rfl ywX10_lay rfl cwX10_203 ⟨nle rfl, nle rfl⟩ (nle rfl) ⟨nle rfl, nle rfl⟩ dX10_splitNow_246 ?_ (fun _ _ _ z => z.elim)
        intro r_9 h16 n_9 hq9 _
        obtain ⟨e1, s3, hA16, hL3, hR3, hk3, hF160, e4_⟩ := hq9
        rw [e1, e4_]
        show pw E YX10_splitNow _ _ 0 0 249 [some (.ref B), some (.int (zI (p))), some (.int (zI (0))), some (.int (zI (q))), some (.int (zI (m))), some (.int (zI (f))), some (.int (zI (g))), some (.int (zI (ww))), some (.int (zI ((ww - 1) / (2))))] [] h16 n
        have hF16 := mFr_tr hF15 hF160
        refine pw_aload_n dX10_splitNow_249 rfl ?_
        refine pw_iload_n dX10_splitNow_250 rfl ?_
        refine pw_put (fs' := (moL B (va_up s3.1 47 (q)))) okX10 (k := 47) (by decide) lkX10_207 rfl rfl rfl hA16.1 (nlt rfl) rfl dX10_splitNow_251 ?_
        have hA17 : mAt B (mV 47 (q) s3) (va_up h16 B (pz_o 13 (moL B (va_up s3.1 47 (q))))) := mAt_V hA16
        have hF17 : mFr B h (va_up h16 B (pz_o 13 (moL B (va_up s3.1 47 (q))))) := mFr_tr hF16 (mFr_up (k := 0) (by decide))
        revert hA17 hF17
        generalize (va_up h16 B (pz_o 13 (moL B (va_up s3.1 47 (q))))) = h17
        intro hA17 hF17
        refine pw_iload_n dX10_splitNow_254 rfl ?_
        exact pw_iret dX10_splitNow_255 rfl (nle rfl) (nle rfl) ⟨rfl, s2, s3, hA17, hQ2, hk2, hL3, hR3, hk3, hF17, rfl⟩
      · exfalso; omega
    · exfalso; omega
  · exfalso; omega
set_option maxHeartbeats 1000000 in
set_option maxRecDepth 100000 in
/-- splitNow(p, 1), on a tree -/
theorem nR_splitNow1 {E : pw_E} (htr : E.1.stackTraces = false) {h : pz_H} {n : Nat} {B : Nat} {s : mS} (hA : mAt B s h) {p : Int}  {nc fN gN pN qN : Nat} {v : aT} {m f g q ww hh x y : Int} (em : m = (tm v : Int)) (ef : f = (fN : Int)) (eg : g = (gN : Int)) (ep : p = (pN : Int)) (eq : q = (qN : Int)) (hp : 0 ≤ p ∧ p < 8) (hq : 0 ≤ q ∧ q < 8) (hpq : p ≠ q) (hm : 0 ≤ m ∧ m < 16) (hf : 0 ≤ f ∧ f < 16) (hg : 0 ≤ g ∧ g < 16) (hmf : m ≠ f) (hmg : m ≠ g) (hfg : f ≠ g) (hq1 : ∀ i, i < q.toNat → s.2 16 i = 1) (hq0 : s.2 16 q.toNat = 0) (hf1 : ∀ i, i < f.toNat → s.2 3 i = 1) (hf0 : s.2 3 f.toNat = 0) (hg1 : ∀ i, i < g.toNat → ¬ i = f.toNat → s.2 3 i = 1) (hg0 : s.2 3 g.toNat = 0) (e17 : s.2 17 p.toNat = m) (e10 : s.2 10 m.toNat = x) (e11 : s.2 11 m.toNat = y) (e12 : s.2 12 m.toNat = ww) (e13 : s.2 13 m.toNat = hh) (okv : aOk 1 v ww hh) (hww : ww ≤ 40) (hhh : hh ≤ 16) (hkp : mPk s p.toNat) (hu : mPu s q.toNat) (hl : 2 < hh) : pw_M E yX10_splitNow YX10_splitNow (rmD 3 0 0) [.ref B, .int (zI (p)), .int (zI (1))] h n (fun r0 h' n' => r0 = some (.int (zI q)) ∧ ∃ s2 s3, mAt B (mV 47 (q) s3) h' ∧ mPq q.toNat (mA 16 (va_up (s.2 16) (q).toNat (1)) (mA 7 (va_up (va_up (s.2 7) (f).toNat (m)) (g).toNat (m)) (mA 7 (va_up (s.2 7) (f).toNat (m)) (mA 9 (va_up (s.2 9) (m).toNat ((hh - 1) / (2))) (mA 8 (va_up (s.2 8) (m).toNat (1)) (mA 6 (va_up (s.2 6) (m).toNat (g)) (mA 5 (va_up (s.2 5) (m).toNat (f)) (mA 4 (va_up (va_up (va_up (s.2 4) (f).toNat (p)) (g).toNat (q)) (m).toNat (-1)) (mA 17 (va_up (va_up (s.2 17) (p).toNat (f)) (q).toNat (g)) (mA 17 (va_up (s.2 17) (p).toNat (f)) (mA 4 (va_up (va_up (s.2 4) (f).toNat (p)) (g).toNat (q)) (mA 4 (va_up (s.2 4) (f).toNat (p)) (mA 3 (va_up (va_up (s.2 3) (f).toNat 1) (g).toNat 1) (mA 3 (va_up (s.2 3) (f).toNat 1) s)))))))))))))) s2 ∧ mPk s2 q.toNat ∧ lyF (aX fm 2 (aDv nc fN gN 1 ((hh - 1) / 2) v pN qN)) (aX fp 2 (aDv nc fN gN 1 ((hh - 1) / 2) v pN qN)) 0 s2 s3 ∧ rA s3 2 (aPl 2 (aDv nc fN gN 1 ((hh - 1) / 2) v pN qN) ww hh ww hh) x y ∧ (∀ p', p' ∈ aX fp 2 (aDv nc fN gN 1 ((hh - 1) / 2) v pN qN) → mPk s3 p') ∧ mFr B h h' ∧ n' = n) (fun _ _ _ => False) := by
  have szv := aOk_sz okv
  have bv := aOk_1 okv
  refine pw_M_of (lv := [some (.ref B), some (.int (zI (p))), some (.int (zI (1))), none, none, none, none, none, none]) (by decide) rfl rfl htr (nle rfl) rfl (fun L => ?_)
  refine pw_iconst (v := zI (0)) dX10_splitNow_0 (by decide) ?_
  refine pw_istore_n (lv' := [some (.ref B), some (.int (zI (p))), some (.int (zI (1))), some (.int (zI (0))), none, none, none, none, none]) dX10_splitNow_1 (by decide) rfl rfl ?_
  refine lN_spq (q := q) htr hA hq hq1 hq0 ?_ _ 0 rfl (by omega) (by omega)
  refine pw_aload_n dX10_splitNow_17 rfl ?_
  refine pw_get (v := .ref (B + 14)) okX10 (k := 17) (by decide) lkX10_50 hA.1 rfl dX10_splitNow_18 ?_
  refine pw_iload_n dX10_splitNow_21 rfl ?_
  refine pw_ialdv (v := m) (t := 0) rfl (mF17 (s := s) hA) (by omega) (by decide) (e17) dX10_splitNow_22 ?_
  refine pw_istore (lv' := [some (.ref B), some (.int (zI (p))), some (.int (zI (1))), some (.int (zI (q))), some (.int (zI (m))), none, none, none, none]) dX10_splitNow_23 (by decide) rfl rfl ?_
  refine pw_aload_n dX10_splitNow_25 rfl ?_
  refine pw_callV (As := []) (b := B) (rm := rmD 0 0 0) (nR_freeNode (m := f) htr hA (by omega) hf1 hf0) rfl hA.1 rfl rfl ywX10_freeNode rfl cwX10_199 ⟨nle rfl, nle rfl⟩ (nle rfl) ⟨nle rfl, nle rfl⟩ dX10_splitNow_26 ?_ (fun _ _ _ z => z.elim)
  intro r_9 h1 n_9 hq _
  obtain ⟨e1, hA10, hF10, e4⟩ := hq
  rw [e1, e4]
  show pw E YX10_splitNow _ _ 0 0 29 [some (.ref B), some (.int (zI (p))), some (.int (zI (1))), some (.int (zI (q))), some (.int (zI (m))), none, none, none, none] [.int (zI (f))] h1 n
  have hA1 : mAt B (mA 3 (va_up (s.2 3) (f).toNat 1) s) h1 := hA10
  have hF1 := mFr_tr mFr_rf hF10
  clear e1 e4
  refine pw_istore (lv' := [some (.ref B), some (.int (zI (p))), some (.int (zI (1))), some (.int (zI (q))), some (.int (zI (m))), some (.int (zI (f))), none, none, none]) dX10_splitNow_29 (by decide) rfl rfl ?_
  refine pw_aload_n dX10_splitNow_31 rfl ?_
  refine pw_callV (As := []) (b := B) (rm := rmD 0 0 0) (nR_freeNode (m := g) htr hA1 (by omega) (fun i hi => (Decidable.em (i = f.toNat)).elim (fun z => by rw [z]; exact (show va_up (s.2 3) f.toNat 1 f.toNat = 1 from va_up_self _ _ _)) (fun z => (show va_up (s.2 3) f.toNat 1 i = 1 from (va_up_ne _ _ z).trans (hg1 i hi z)))) (show va_up (s.2 3) f.toNat 1 g.toNat = 0 from (va_up_ne _ _ (by omega)).trans hg0)) rfl hA1.1 rfl rfl ywX10_freeNode rfl cwX10_199 ⟨nle rfl, nle rfl⟩ (nle rfl) ⟨nle rfl, nle rfl⟩ dX10_splitNow_32 ?_ (fun _ _ _ z => z.elim)
  intro r_9 h2 n_9 hq _
  obtain ⟨e1, hA20, hF20, e4⟩ := hq
  rw [e1, e4]
  show pw E YX10_splitNow _ _ 0 0 35 [some (.ref B), some (.int (zI (p))), some (.int (zI (1))), some (.int (zI (q))), some (.int (zI (m))), some (.int (zI (f))), none, none, none] [.int (zI (g))] h2 n
  have hA2 : mAt B (mA 3 (va_up (va_up (s.2 3) (f).toNat 1) (g).toNat 1) (mA 3 (va_up (s.2 3) (f).toNat 1) s)) h2 := hA20
  have hF2 := mFr_tr hF1 hF20
  clear e1 e4
  refine pw_istore (lv' := [some (.ref B), some (.int (zI (p))), some (.int (zI (1))), some (.int (zI (q))), some (.int (zI (m))), some (.int (zI (f))), some (.int (zI (g))), none, none]) dX10_splitNow_35 (by decide) rfl rfl ?_
  refine pw_iload_n dX10_splitNow_37 rfl ?_
  refine pw_if_eq (tgt := 51) dX10_splitNow_38 rfl (by omega) (fun c38 => ?_) (fun c38 => ?_)
  · exfalso; omega
  ·
    refine pw_aload_n dX10_splitNow_41 rfl ?_
    refine pw_get (v := .ref (B + 11)) okX10 (k := 13) (by decide) lkX10_41 hA2.1 rfl dX10_splitNow_42 ?_
    refine pw_iload dX10_splitNow_45 rfl ?_
    refine pw_ialdv (v := hh) (t := 0) rfl (mF13 (s := (mA 3 (va_up (va_up (s.2 3) (f).toNat 1) (g).toNat 1) (mA 3 (va_up (s.2 3) (f).toNat 1) s))) hA2) (by omega) (by decide) (e13) dX10_splitNow_47 ?_
    refine pw_goto (tgt := 58) dX10_splitNow_48 rfl ?_
    refine pw_istore (lv' := [some (.ref B), some (.int (zI (p))), some (.int (zI (1))), some (.int (zI (q))), some (.int (zI (m))), some (.int (zI (f))), some (.int (zI (g))), some (.int (zI (hh))), none]) dX10_splitNow_58 (by decide) rfl rfl ?_
    refine pw_iload dX10_splitNow_60 rfl ?_
    refine pw_iconst (v := zI (1)) dX10_splitNow_62 (by decide) ?_
    refine pw_zisub dX10_splitNow_63 ?_
    refine pw_iconst (v := zI (2)) dX10_splitNow_64 (by decide) ?_
    refine pw_zidiv dX10_splitNow_65 (by omega) (by omega) ?_
    refine pw_istore (lv' := [some (.ref B), some (.int (zI (p))), some (.int (zI (1))), some (.int (zI (q))), some (.int (zI (m))), some (.int (zI (f))), some (.int (zI (g))), some (.int (zI (hh))), some (.int (zI ((hh - 1) / (2))))]) dX10_splitNow_66 (by decide) rfl rfl ?_
    refine pw_aload_n dX10_splitNow_68 rfl ?_
    refine pw_get (v := .ref (B + 2)) okX10 (k := 4) (by decide) lkX10_13 hA2.1 rfl dX10_splitNow_69 ?_
    refine pw_iload dX10_splitNow_72 rfl ?_
    refine pw_iload_n dX10_splitNow_74 rfl ?_
    refine pw_iast (g := (s.2 4)) (t := 0) rfl (mF4 (s := (mA 3 (va_up (va_up (s.2 3) (f).toNat 1) (g).toNat 1) (mA 3 (va_up (s.2 3) (f).toNat 1) s))) hA2) (by omega) (by decide) dX10_splitNow_75 ?_
    have hA3 : mAt B (mA 4 (va_up (s.2 4) (f).toNat (p)) (mA 3 (va_up (va_up (s.2 3) (f).toNat 1) (g).toNat 1) (mA 3 (va_up (s.2 3) (f).toNat 1) s))) (va_up h2 (B + 2) (pz_z 0 16 (va_up (s.2 4) (f).toNat (p)))) := mU4 hA2
    have hF3 : mFr B h (va_up h2 (B + 2) (pz_z 0 16 (va_up (s.2 4) (f).toNat (p)))) := mFr_tr hF2 (mFr_up (by decide))
    revert hA3 hF3
    generalize (va_up h2 (B + 2) (pz_z 0 16 (va_up (s.2 4) (f).toNat (p)))) = h3
    intro hA3 hF3
    refine pw_aload_n dX10_splitNow_76 rfl ?_
    refine pw_get (v := .ref (B + 2)) okX10 (k := 4) (by decide) lkX10_13 hA3.1 rfl dX10_splitNow_77 ?_
    refine pw_iload dX10_splitNow_80 rfl ?_
    refine pw_iload_n dX10_splitNow_82 rfl ?_
    refine pw_iast (g := (va_up (s.2 4) (f).toNat (p))) (t := 0) rfl (mF4 (s := (mA 4 (va_up (s.2 4) (f).toNat (p)) (mA 3 (va_up (va_up (s.2 3) (f).toNat 1) (g).toNat 1) (mA 3 (va_up (s.2 3) (f).toNat 1) s)))) hA3) (by omega) (by decide) dX10_splitNow_83 ?_
    have hA4 : mAt B (mA 4 (va_up (va_up (s.2 4) (f).toNat (p)) (g).toNat (q)) (mA 4 (va_up (s.2 4) (f).toNat (p)) (mA 3 (va_up (va_up (s.2 3) (f).toNat 1) (g).toNat 1) (mA 3 (va_up (s.2 3) (f).toNat 1) s)))) (va_up h3 (B + 2) (pz_z 0 16 (va_up (va_up (s.2 4) (f).toNat (p)) (g).toNat (q)))) := mU4 hA3
    have hF4 : mFr B h (va_up h3 (B + 2) (pz_z 0 16 (va_up (va_up (s.2 4) (f).toNat (p)) (g).toNat (q)))) := mFr_tr hF3 (mFr_up (by decide))
    revert hA4 hF4
    generalize (va_up h3 (B + 2) (pz_z 0 16 (va_up (va_up (s.2 4) (f).toNat (p)) (g).toNat (q)))) = h4
    intro hA4 hF4
    refine pw_aload_n dX10_splitNow_84 rfl ?_
    refine pw_get (v := .ref (B + 14)) okX10 (k := 17) (by decide) lkX10_50 hA4.1 rfl dX10_splitNow_85 ?_
    refine pw_iload_n dX10_splitNow_88 rfl ?_
    refine pw_iload dX10_splitNow_89 rfl ?_
    refine pw_iast (g := (s.2 17)) (t := 0) rfl (mF17 (s := (mA 4 (va_up (va_up (s.2 4) (f).toNat (p)) (g).toNat (q)) (mA 4 (va_up (s.2 4) (f).toNat (p)) (mA 3 (va_up (va_up (s.2 3) (f).toNat 1) (g).toNat 1) (mA 3 (va_up (s.2 3) (f).toNat 1) s))))) hA4) (by omega) (by decide) dX10_splitNow_91 ?_
    have hA5 : mAt B (mA 17 (va_up (s.2 17) (p).toNat (f)) (mA 4 (va_up (va_up (s.2 4) (f).toNat (p)) (g).toNat (q)) (mA 4 (va_up (s.2 4) (f).toNat (p)) (mA 3 (va_up (va_up (s.2 3) (f).toNat 1) (g).toNat 1) (mA 3 (va_up (s.2 3) (f).toNat 1) s))))) (va_up h4 (B + 14) (pz_z 0 8 (va_up (s.2 17) (p).toNat (f)))) := mU17 hA4
    have hF5 : mFr B h (va_up h4 (B + 14) (pz_z 0 8 (va_up (s.2 17) (p).toNat (f)))) := mFr_tr hF4 (mFr_up (by decide))
    revert hA5 hF5
    generalize (va_up h4 (B + 14) (pz_z 0 8 (va_up (s.2 17) (p).toNat (f)))) = h5
    intro hA5 hF5
    refine pw_aload_n dX10_splitNow_92 rfl ?_
    refine pw_get (v := .ref (B + 14)) okX10 (k := 17) (by decide) lkX10_50 hA5.1 rfl dX10_splitNow_93 ?_
    refine pw_iload_n dX10_splitNow_96 rfl ?_
    refine pw_iload dX10_splitNow_97 rfl ?_
    refine pw_iast (g := (va_up (s.2 17) (p).toNat (f))) (t := 0) rfl (mF17 (s := (mA 17 (va_up (s.2 17) (p).toNat (f)) (mA 4 (va_up (va_up (s.2 4) (f).toNat (p)) (g).toNat (q)) (mA 4 (va_up (s.2 4) (f).toNat (p)) (mA 3 (va_up (va_up (s.2 3) (f).toNat 1) (g).toNat 1) (mA 3 (va_up (s.2 3) (f).toNat 1) s)))))) hA5) (by omega) (by decide) dX10_splitNow_99 ?_
    have hA6 : mAt B (mA 17 (va_up (va_up (s.2 17) (p).toNat (f)) (q).toNat (g)) (mA 17 (va_up (s.2 17) (p).toNat (f)) (mA 4 (va_up (va_up (s.2 4) (f).toNat (p)) (g).toNat (q)) (mA 4 (va_up (s.2 4) (f).toNat (p)) (mA 3 (va_up (va_up (s.2 3) (f).toNat 1) (g).toNat 1) (mA 3 (va_up (s.2 3) (f).toNat 1) s)))))) (va_up h5 (B + 14) (pz_z 0 8 (va_up (va_up (s.2 17) (p).toNat (f)) (q).toNat (g)))) := mU17 hA5
    have hF6 : mFr B h (va_up h5 (B + 14) (pz_z 0 8 (va_up (va_up (s.2 17) (p).toNat (f)) (q).toNat (g)))) := mFr_tr hF5 (mFr_up (by decide))
    revert hA6 hF6
    generalize (va_up h5 (B + 14) (pz_z 0 8 (va_up (va_up (s.2 17) (p).toNat (f)) (q).toNat (g)))) = h6
    intro hA6 hF6
    refine pw_aload_n dX10_splitNow_100 rfl ?_
    refine pw_get (v := .ref (B + 2)) okX10 (k := 4) (by decide) lkX10_13 hA6.1 rfl dX10_splitNow_101 ?_
    refine pw_iload dX10_splitNow_104 rfl ?_
    refine pw_iconst (v := zI (-1)) dX10_splitNow_106 (by decide) ?_
    refine pw_iast (g := (va_up (va_up (s.2 4) (f).toNat (p)) (g).toNat (q))) (t := 0) rfl (mF4 (s := (mA 17 (va_up (va_up (s.2 17) (p).toNat (f)) (q).toNat (g)) (mA 17 (va_up (s.2 17) (p).toNat (f)) (mA 4 (va_up (va_up (s.2 4) (f).toNat (p)) (g).toNat (q)) (mA 4 (va_up (s.2 4) (f).toNat (p)) (mA 3 (va_up (va_up (s.2 3) (f).toNat 1) (g).toNat 1) (mA 3 (va_up (s.2 3) (f).toNat 1) s))))))) hA6) (by omega) (by decide) dX10_splitNow_107 ?_
    have hA7 : mAt B (mA 4 (va_up (va_up (va_up (s.2 4) (f).toNat (p)) (g).toNat (q)) (m).toNat (-1)) (mA 17 (va_up (va_up (s.2 17) (p).toNat (f)) (q).toNat (g)) (mA 17 (va_up (s.2 17) (p).toNat (f)) (mA 4 (va_up (va_up (s.2 4) (f).toNat (p)) (g).toNat (q)) (mA 4 (va_up (s.2 4) (f).toNat (p)) (mA 3 (va_up (va_up (s.2 3) (f).toNat 1) (g).toNat 1) (mA 3 (va_up (s.2 3) (f).toNat 1) s))))))) (va_up h6 (B + 2) (pz_z 0 16 (va_up (va_up (va_up (s.2 4) (f).toNat (p)) (g).toNat (q)) (m).toNat (-1)))) := mU4 hA6
    have hF7 : mFr B h (va_up h6 (B + 2) (pz_z 0 16 (va_up (va_up (va_up (s.2 4) (f).toNat (p)) (g).toNat (q)) (m).toNat (-1)))) := mFr_tr hF6 (mFr_up (by decide))
    revert hA7 hF7
    generalize (va_up h6 (B + 2) (pz_z 0 16 (va_up (va_up (va_up (s.2 4) (f).toNat (p)) (g).toNat (q)) (m).toNat (-1)))) = h7
    intro hA7 hF7
    refine pw_aload_n dX10_splitNow_108 rfl ?_
    refine pw_get (v := .ref (B + 3)) okX10 (k := 5) (by decide) lkX10_17 hA7.1 rfl dX10_splitNow_109 ?_
    refine pw_iload dX10_splitNow_112 rfl ?_
    refine pw_iload dX10_splitNow_114 rfl ?_
    refine pw_iast (g := (s.2 5)) (t := 0) rfl (mF5 (s := (mA 4 (va_up (va_up (va_up (s.2 4) (f).toNat (p)) (g).toNat (q)) (m).toNat (-1)) (mA 17 (va_up (va_up (s.2 17) (p).toNat (f)) (q).toNat (g)) (mA 17 (va_up (s.2 17) (p).toNat (f)) (mA 4 (va_up (va_up (s.2 4) (f).toNat (p)) (g).toNat (q)) (mA 4 (va_up (s.2 4) (f).toNat (p)) (mA 3 (va_up (va_up (s.2 3) (f).toNat 1) (g).toNat 1) (mA 3 (va_up (s.2 3) (f).toNat 1) s)))))))) hA7) (by omega) (by decide) dX10_splitNow_116 ?_
    have hA8 : mAt B (mA 5 (va_up (s.2 5) (m).toNat (f)) (mA 4 (va_up (va_up (va_up (s.2 4) (f).toNat (p)) (g).toNat (q)) (m).toNat (-1)) (mA 17 (va_up (va_up (s.2 17) (p).toNat (f)) (q).toNat (g)) (mA 17 (va_up (s.2 17) (p).toNat (f)) (mA 4 (va_up (va_up (s.2 4) (f).toNat (p)) (g).toNat (q)) (mA 4 (va_up (s.2 4) (f).toNat (p)) (mA 3 (va_up (va_up (s.2 3) (f).toNat 1) (g).toNat 1) (mA 3 (va_up (s.2 3) (f).toNat 1) s)))))))) (va_up h7 (B + 3) (pz_z 0 16 (va_up (s.2 5) (m).toNat (f)))) := mU5 hA7
    have hF8 : mFr B h (va_up h7 (B + 3) (pz_z 0 16 (va_up (s.2 5) (m).toNat (f)))) := mFr_tr hF7 (mFr_up (by decide))
    revert hA8 hF8
    generalize (va_up h7 (B + 3) (pz_z 0 16 (va_up (s.2 5) (m).toNat (f)))) = h8
    intro hA8 hF8
    refine pw_aload_n dX10_splitNow_117 rfl ?_
    refine pw_get (v := .ref (B + 4)) okX10 (k := 6) (by decide) lkX10_20 hA8.1 rfl dX10_splitNow_118 ?_
    refine pw_iload dX10_splitNow_121 rfl ?_
    refine pw_iload dX10_splitNow_123 rfl ?_
    refine pw_iast (g := (s.2 6)) (t := 0) rfl (mF6 (s := (mA 5 (va_up (s.2 5) (m).toNat (f)) (mA 4 (va_up (va_up (va_up (s.2 4) (f).toNat (p)) (g).toNat (q)) (m).toNat (-1)) (mA 17 (va_up (va_up (s.2 17) (p).toNat (f)) (q).toNat (g)) (mA 17 (va_up (s.2 17) (p).toNat (f)) (mA 4 (va_up (va_up (s.2 4) (f).toNat (p)) (g).toNat (q)) (mA 4 (va_up (s.2 4) (f).toNat (p)) (mA 3 (va_up (va_up (s.2 3) (f).toNat 1) (g).toNat 1) (mA 3 (va_up (s.2 3) (f).toNat 1) s))))))))) hA8) (by omega) (by decide) dX10_splitNow_125 ?_
    have hA9 : mAt B (mA 6 (va_up (s.2 6) (m).toNat (g)) (mA 5 (va_up (s.2 5) (m).toNat (f)) (mA 4 (va_up (va_up (va_up (s.2 4) (f).toNat (p)) (g).toNat (q)) (m).toNat (-1)) (mA 17 (va_up (va_up (s.2 17) (p).toNat (f)) (q).toNat (g)) (mA 17 (va_up (s.2 17) (p).toNat (f)) (mA 4 (va_up (va_up (s.2 4) (f).toNat (p)) (g).toNat (q)) (mA 4 (va_up (s.2 4) (f).toNat (p)) (mA 3 (va_up (va_up (s.2 3) (f).toNat 1) (g).toNat 1) (mA 3 (va_up (s.2 3) (f).toNat 1) s))))))))) (va_up h8 (B + 4) (pz_z 0 16 (va_up (s.2 6) (m).toNat (g)))) := mU6 hA8
    have hF9 : mFr B h (va_up h8 (B + 4) (pz_z 0 16 (va_up (s.2 6) (m).toNat (g)))) := mFr_tr hF8 (mFr_up (by decide))
    revert hA9 hF9
    generalize (va_up h8 (B + 4) (pz_z 0 16 (va_up (s.2 6) (m).toNat (g)))) = h9
    intro hA9 hF9
    refine pw_aload_n dX10_splitNow_126 rfl ?_
    refine pw_get (v := .ref (B + 6)) okX10 (k := 8) (by decide) lkX10_26 hA9.1 rfl dX10_splitNow_127 ?_
    refine pw_iload dX10_splitNow_130 rfl ?_
    refine pw_iload_n dX10_splitNow_132 rfl ?_
    refine pw_zast (g := (s.2 8)) (t := 1) rfl (mF8 (s := (mA 6 (va_up (s.2 6) (m).toNat (g)) (mA 5 (va_up (s.2 5) (m).toNat (f)) (mA 4 (va_up (va_up (va_up (s.2 4) (f).toNat (p)) (g).toNat (q)) (m).toNat (-1)) (mA 17 (va_up (va_up (s.2 17) (p).toNat (f)) (q).toNat (g)) (mA 17 (va_up (s.2 17) (p).toNat (f)) (mA 4 (va_up (va_up (s.2 4) (f).toNat (p)) (g).toNat (q)) (mA 4 (va_up (s.2 4) (f).toNat (p)) (mA 3 (va_up (va_up (s.2 3) (f).toNat 1) (g).toNat 1) (mA 3 (va_up (s.2 3) (f).toNat 1) s)))))))))) hA9) (by omega) (by decide) (by omega) dX10_splitNow_133 ?_
    have hA10 : mAt B (mA 8 (va_up (s.2 8) (m).toNat (1)) (mA 6 (va_up (s.2 6) (m).toNat (g)) (mA 5 (va_up (s.2 5) (m).toNat (f)) (mA 4 (va_up (va_up (va_up (s.2 4) (f).toNat (p)) (g).toNat (q)) (m).toNat (-1)) (mA 17 (va_up (va_up (s.2 17) (p).toNat (f)) (q).toNat (g)) (mA 17 (va_up (s.2 17) (p).toNat (f)) (mA 4 (va_up (va_up (s.2 4) (f).toNat (p)) (g).toNat (q)) (mA 4 (va_up (s.2 4) (f).toNat (p)) (mA 3 (va_up (va_up (s.2 3) (f).toNat 1) (g).toNat 1) (mA 3 (va_up (s.2 3) (f).toNat 1) s)))))))))) (va_up h9 (B + 6) (pz_z 1 16 (va_up (s.2 8) (m).toNat (1)))) := mU8 hA9
    have hF10 : mFr B h (va_up h9 (B + 6) (pz_z 1 16 (va_up (s.2 8) (m).toNat (1)))) := mFr_tr hF9 (mFr_up (by decide))
    revert hA10 hF10
    generalize (va_up h9 (B + 6) (pz_z 1 16 (va_up (s.2 8) (m).toNat (1)))) = h10
    intro hA10 hF10
    refine pw_aload_n dX10_splitNow_134 rfl ?_
    refine pw_get (v := .ref (B + 7)) okX10 (k := 9) (by decide) lkX10_29 hA10.1 rfl dX10_splitNow_135 ?_
    refine pw_iload dX10_splitNow_138 rfl ?_
    refine pw_iload dX10_splitNow_140 rfl ?_
    refine pw_iast (g := (s.2 9)) (t := 0) rfl (mF9 (s := (mA 8 (va_up (s.2 8) (m).toNat (1)) (mA 6 (va_up (s.2 6) (m).toNat (g)) (mA 5 (va_up (s.2 5) (m).toNat (f)) (mA 4 (va_up (va_up (va_up (s.2 4) (f).toNat (p)) (g).toNat (q)) (m).toNat (-1)) (mA 17 (va_up (va_up (s.2 17) (p).toNat (f)) (q).toNat (g)) (mA 17 (va_up (s.2 17) (p).toNat (f)) (mA 4 (va_up (va_up (s.2 4) (f).toNat (p)) (g).toNat (q)) (mA 4 (va_up (s.2 4) (f).toNat (p)) (mA 3 (va_up (va_up (s.2 3) (f).toNat 1) (g).toNat 1) (mA 3 (va_up (s.2 3) (f).toNat 1) s))))))))))) hA10) (by omega) (by decide) dX10_splitNow_142 ?_
    have hA11 : mAt B (mA 9 (va_up (s.2 9) (m).toNat ((hh - 1) / (2))) (mA 8 (va_up (s.2 8) (m).toNat (1)) (mA 6 (va_up (s.2 6) (m).toNat (g)) (mA 5 (va_up (s.2 5) (m).toNat (f)) (mA 4 (va_up (va_up (va_up (s.2 4) (f).toNat (p)) (g).toNat (q)) (m).toNat (-1)) (mA 17 (va_up (va_up (s.2 17) (p).toNat (f)) (q).toNat (g)) (mA 17 (va_up (s.2 17) (p).toNat (f)) (mA 4 (va_up (va_up (s.2 4) (f).toNat (p)) (g).toNat (q)) (mA 4 (va_up (s.2 4) (f).toNat (p)) (mA 3 (va_up (va_up (s.2 3) (f).toNat 1) (g).toNat 1) (mA 3 (va_up (s.2 3) (f).toNat 1) s))))))))))) (va_up h10 (B + 7) (pz_z 0 16 (va_up (s.2 9) (m).toNat ((hh - 1) / (2))))) := mU9 hA10
    have hF11 : mFr B h (va_up h10 (B + 7) (pz_z 0 16 (va_up (s.2 9) (m).toNat ((hh - 1) / (2))))) := mFr_tr hF10 (mFr_up (by decide))
    revert hA11 hF11
    generalize (va_up h10 (B + 7) (pz_z 0 16 (va_up (s.2 9) (m).toNat ((hh - 1) / (2))))) = h11
    intro hA11 hF11
    refine pw_aload_n dX10_splitNow_143 rfl ?_
    refine pw_get (v := .ref (B + 5)) okX10 (k := 7) (by decide) lkX10_23 hA11.1 rfl dX10_splitNow_144 ?_
    refine pw_iload dX10_splitNow_147 rfl ?_
    refine pw_iload dX10_splitNow_149 rfl ?_
    refine pw_iast (g := (s.2 7)) (t := 0) rfl (mF7 (s := (mA 9 (va_up (s.2 9) (m).toNat ((hh - 1) / (2))) (mA 8 (va_up (s.2 8) (m).toNat (1)) (mA 6 (va_up (s.2 6) (m).toNat (g)) (mA 5 (va_up (s.2 5) (m).toNat (f)) (mA 4 (va_up (va_up (va_up (s.2 4) (f).toNat (p)) (g).toNat (q)) (m).toNat (-1)) (mA 17 (va_up (va_up (s.2 17) (p).toNat (f)) (q).toNat (g)) (mA 17 (va_up (s.2 17) (p).toNat (f)) (mA 4 (va_up (va_up (s.2 4) (f).toNat (p)) (g).toNat (q)) (mA 4 (va_up (s.2 4) (f).toNat (p)) (mA 3 (va_up (va_up (s.2 3) (f).toNat 1) (g).toNat 1) (mA 3 (va_up (s.2 3) (f).toNat 1) s)))))))))))) hA11) (by omega) (by decide) dX10_splitNow_151 ?_
    have hA12 : mAt B (mA 7 (va_up (s.2 7) (f).toNat (m)) (mA 9 (va_up (s.2 9) (m).toNat ((hh - 1) / (2))) (mA 8 (va_up (s.2 8) (m).toNat (1)) (mA 6 (va_up (s.2 6) (m).toNat (g)) (mA 5 (va_up (s.2 5) (m).toNat (f)) (mA 4 (va_up (va_up (va_up (s.2 4) (f).toNat (p)) (g).toNat (q)) (m).toNat (-1)) (mA 17 (va_up (va_up (s.2 17) (p).toNat (f)) (q).toNat (g)) (mA 17 (va_up (s.2 17) (p).toNat (f)) (mA 4 (va_up (va_up (s.2 4) (f).toNat (p)) (g).toNat (q)) (mA 4 (va_up (s.2 4) (f).toNat (p)) (mA 3 (va_up (va_up (s.2 3) (f).toNat 1) (g).toNat 1) (mA 3 (va_up (s.2 3) (f).toNat 1) s)))))))))))) (va_up h11 (B + 5) (pz_z 0 16 (va_up (s.2 7) (f).toNat (m)))) := mU7 hA11
    have hF12 : mFr B h (va_up h11 (B + 5) (pz_z 0 16 (va_up (s.2 7) (f).toNat (m)))) := mFr_tr hF11 (mFr_up (by decide))
    revert hA12 hF12
    generalize (va_up h11 (B + 5) (pz_z 0 16 (va_up (s.2 7) (f).toNat (m)))) = h12
    intro hA12 hF12
    refine pw_aload_n dX10_splitNow_152 rfl ?_
    refine pw_get (v := .ref (B + 5)) okX10 (k := 7) (by decide) lkX10_23 hA12.1 rfl dX10_splitNow_153 ?_
    refine pw_iload dX10_splitNow_156 rfl ?_
    refine pw_iload dX10_splitNow_158 rfl ?_
    refine pw_iast (g := (va_up (s.2 7) (f).toNat (m))) (t := 0) rfl (mF7 (s := (mA 7 (va_up (s.2 7) (f).toNat (m)) (mA 9 (va_up (s.2 9) (m).toNat ((hh - 1) / (2))) (mA 8 (va_up (s.2 8) (m).toNat (1)) (mA 6 (va_up (s.2 6) (m).toNat (g)) (mA 5 (va_up (s.2 5) (m).toNat (f)) (mA 4 (va_up (va_up (va_up (s.2 4) (f).toNat (p)) (g).toNat (q)) (m).toNat (-1)) (mA 17 (va_up (va_up (s.2 17) (p).toNat (f)) (q).toNat (g)) (mA 17 (va_up (s.2 17) (p).toNat (f)) (mA 4 (va_up (va_up (s.2 4) (f).toNat (p)) (g).toNat (q)) (mA 4 (va_up (s.2 4) (f).toNat (p)) (mA 3 (va_up (va_up (s.2 3) (f).toNat 1) (g).toNat 1) (mA 3 (va_up (s.2 3) (f).toNat 1) s))))))))))))) hA12) (by omega) (by decide) dX10_splitNow_160 ?_
    have hA13 : mAt B (mA 7 (va_up (va_up (s.2 7) (f).toNat (m)) (g).toNat (m)) (mA 7 (va_up (s.2 7) (f).toNat (m)) (mA 9 (va_up (s.2 9) (m).toNat ((hh - 1) / (2))) (mA 8 (va_up (s.2 8) (m).toNat (1)) (mA 6 (va_up (s.2 6) (m).toNat (g)) (mA 5 (va_up (s.2 5) (m).toNat (f)) (mA 4 (va_up (va_up (va_up (s.2 4) (f).toNat (p)) (g).toNat (q)) (m).toNat (-1)) (mA 17 (va_up (va_up (s.2 17) (p).toNat (f)) (q).toNat (g)) (mA 17 (va_up (s.2 17) (p).toNat (f)) (mA 4 (va_up (va_up (s.2 4) (f).toNat (p)) (g).toNat (q)) (mA 4 (va_up (s.2 4) (f).toNat (p)) (mA 3 (va_up (va_up (s.2 3) (f).toNat 1) (g).toNat 1) (mA 3 (va_up (s.2 3) (f).toNat 1) s))))))))))))) (va_up h12 (B + 5) (pz_z 0 16 (va_up (va_up (s.2 7) (f).toNat (m)) (g).toNat (m)))) := mU7 hA12
    have hF13 : mFr B h (va_up h12 (B + 5) (pz_z 0 16 (va_up (va_up (s.2 7) (f).toNat (m)) (g).toNat (m)))) := mFr_tr hF12 (mFr_up (by decide))
    revert hA13 hF13
    generalize (va_up h12 (B + 5) (pz_z 0 16 (va_up (va_up (s.2 7) (f).toNat (m)) (g).toNat (m)))) = h13
    intro hA13 hF13
    refine pw_aload_n dX10_splitNow_161 rfl ?_
    refine pw_get (v := .ref (B + 13)) okX10 (k := 16) (by decide) lkX10_47 hA13.1 rfl dX10_splitNow_162 ?_
    refine pw_iload_n dX10_splitNow_165 rfl ?_
    refine pw_iconst (v := zI (1)) dX10_splitNow_166 (by decide) ?_
    refine pw_zast (g := (s.2 16)) (t := 1) rfl (mF16 (s := (mA 7 (va_up (va_up (s.2 7) (f).toNat (m)) (g).toNat (m)) (mA 7 (va_up (s.2 7) (f).toNat (m)) (mA 9 (va_up (s.2 9) (m).toNat ((hh - 1) / (2))) (mA 8 (va_up (s.2 8) (m).toNat (1)) (mA 6 (va_up (s.2 6) (m).toNat (g)) (mA 5 (va_up (s.2 5) (m).toNat (f)) (mA 4 (va_up (va_up (va_up (s.2 4) (f).toNat (p)) (g).toNat (q)) (m).toNat (-1)) (mA 17 (va_up (va_up (s.2 17) (p).toNat (f)) (q).toNat (g)) (mA 17 (va_up (s.2 17) (p).toNat (f)) (mA 4 (va_up (va_up (s.2 4) (f).toNat (p)) (g).toNat (q)) (mA 4 (va_up (s.2 4) (f).toNat (p)) (mA 3 (va_up (va_up (s.2 3) (f).toNat 1) (g).toNat 1) (mA 3 (va_up (s.2 3) (f).toNat 1) s)))))))))))))) hA13) (by omega) (by decide) (by omega) dX10_splitNow_167 ?_
    have hA14 : mAt B (mA 16 (va_up (s.2 16) (q).toNat (1)) (mA 7 (va_up (va_up (s.2 7) (f).toNat (m)) (g).toNat (m)) (mA 7 (va_up (s.2 7) (f).toNat (m)) (mA 9 (va_up (s.2 9) (m).toNat ((hh - 1) / (2))) (mA 8 (va_up (s.2 8) (m).toNat (1)) (mA 6 (va_up (s.2 6) (m).toNat (g)) (mA 5 (va_up (s.2 5) (m).toNat (f)) (mA 4 (va_up (va_up (va_up (s.2 4) (f).toNat (p)) (g).toNat (q)) (m).toNat (-1)) (mA 17 (va_up (va_up (s.2 17) (p).toNat (f)) (q).toNat (g)) (mA 17 (va_up (s.2 17) (p).toNat (f)) (mA 4 (va_up (va_up (s.2 4) (f).toNat (p)) (g).toNat (q)) (mA 4 (va_up (s.2 4) (f).toNat (p)) (mA 3 (va_up (va_up (s.2 3) (f).toNat 1) (g).toNat 1) (mA 3 (va_up (s.2 3) (f).toNat 1) s)))))))))))))) (va_up h13 (B + 13) (pz_z 1 8 (va_up (s.2 16) (q).toNat (1)))) := mU16 hA13
    have hF14 : mFr B h (va_up h13 (B + 13) (pz_z 1 8 (va_up (s.2 16) (q).toNat (1)))) := mFr_tr hF13 (mFr_up (by decide))
    revert hA14 hF14
    generalize (va_up h13 (B + 13) (pz_z 1 8 (va_up (s.2 16) (q).toNat (1)))) = h14
    intro hA14 hF14
    refine pw_aload_n dX10_splitNow_168 rfl ?_
    refine pw_iload_n dX10_splitNow_169 rfl ?_
    refine pw_iload_n dX10_splitNow_170 rfl ?_
    refine pw_if_eq (tgt := 184) dX10_splitNow_171 rfl (by omega) (fun c171 => ?_) (fun c171 => ?_)
    · exfalso; omega
    ·
      refine pw_aload_n dX10_splitNow_174 rfl ?_
      refine pw_get (v := .ref (B + 10)) okX10 (k := 12) (by decide) lkX10_38 hA14.1 rfl dX10_splitNow_175 ?_
      refine pw_iload dX10_splitNow_178 rfl ?_
      refine pw_ialdv (v := ww) (t := 0) rfl (mF12 (s := (mA 16 (va_up (s.2 16) (q).toNat (1)) (mA 7 (va_up (va_up (s.2 7) (f).toNat (m)) (g).toNat (m)) (mA 7 (va_up (s.2 7) (f).toNat (m)) (mA 9 (va_up (s.2 9) (m).toNat ((hh - 1) / (2))) (mA 8 (va_up (s.2 8) (m).toNat (1)) (mA 6 (va_up (s.2 6) (m).toNat (g)) (mA 5 (va_up (s.2 5) (m).toNat (f)) (mA 4 (va_up (va_up (va_up (s.2 4) (f).toNat (p)) (g).toNat (q)) (m).toNat (-1)) (mA 17 (va_up (va_up (s.2 17) (p).toNat (f)) (q).toNat (g)) (mA 17 (va_up (s.2 17) (p).toNat (f)) (mA 4 (va_up (va_up (s.2 4) (f).toNat (p)) (g).toNat (q)) (mA 4 (va_up (s.2 4) (f).toNat (p)) (mA 3 (va_up (va_up (s.2 3) (f).toNat 1) (g).toNat 1) (mA 3 (va_up (s.2 3) (f).toNat 1) s))))))))))))))) hA14) (by omega) (by decide) (e12) dX10_splitNow_180 ?_
      refine pw_goto (tgt := 191) dX10_splitNow_181 rfl ?_
      refine pw_iload_n dX10_splitNow_191 rfl ?_
      refine pw_if_eq (tgt := 205) dX10_splitNow_192 rfl (by omega) (fun c192 => ?_) (fun c192 => ?_)
      · exfalso; omega
      ·
        refine pw_iload dX10_splitNow_195 rfl ?_
        refine pw_iconst (v := zI (1)) dX10_splitNow_197 (by decide) ?_
        refine pw_zisub dX10_splitNow_198 ?_
        refine pw_iload dX10_splitNow_199 rfl ?_
        refine pw_zisub dX10_splitNow_201 ?_
        refine pw_goto (tgt := 212) dX10_splitNow_202 rfl ?_
        refine pw_callV (As := [.int (zI (q)), .int (zI (ww)), .int (zI ((hh - 1) - ((hh - 1) / (2))))]) (b := B) (rm := rmD 2 0 0) (nR_begin2 (p := q) htr hA14 hq (show mPu (mA 16 (va_up (s.2 16) (q).toNat (1)) (mA 7 (va_up (va_up (s.2 7) (f).toNat (m)) (g).toNat (m)) (mA 7 (va_up (s.2 7) (f).toNat (m)) (mA 9 (va_up (s.2 9) (m).toNat ((hh - 1) / (2))) (mA 8 (va_up (s.2 8) (m).toNat (1)) (mA 6 (va_up (s.2 6) (m).toNat (g)) (mA 5 (va_up (s.2 5) (m).toNat (f)) (mA 4 (va_up (va_up (va_up (s.2 4) (f).toNat (p)) (g).toNat (q)) (m).toNat (-1)) (mA 17 (va_up (va_up (s.2 17) (p).toNat (f)) (q).toNat (g)) (mA 17 (va_up (s.2 17) (p).toNat (f)) (mA 4 (va_up (va_up (s.2 4) (f).toNat (p)) (g).toNat (q)) (mA 4 (va_up (s.2 4) (f).toNat (p)) (mA 3 (va_up (va_up (s.2 3) (f).toNat 1) (g).toNat 1) (mA 3 (va_up (s.2 3) (f).toNat 1) s)))))))))))))) q.toNat from hu) (by omega) (by omega)) rfl hA14.1 rfl rfl ywX10_begin rfl cwX10_169 ⟨nle rfl, nle rfl⟩ (nle rfl) ⟨nle rfl, nle rfl⟩ dX10_splitNow_212 ?_ (fun _ _ _ z => z.elim)
        intro r_9 h15 n_9 hq9 _
        obtain ⟨e1, s2, hA15, hQ2, hk2, hv2, hF150, e4_⟩ := hq9
        rw [e1, e4_]
        show pw E YX10_splitNow _ _ 0 0 215 [some (.ref B), some (.int (zI (p))), some (.int (zI (1))), some (.int (zI (q))), some (.int (zI (m))), some (.int (zI (f))), some (.int (zI (g))), some (.int (zI (hh))), some (.int (zI ((hh - 1) / (2))))] [] h15 n
        have hF15 := mFr_tr hF14 hF150
        have k10 : s2.2 10 m.toNat = x := (congrFun (hQ2.2.1 10 (by decide)) _).trans e10
        have k11 : s2.2 11 m.toNat = y := (congrFun (hQ2.2.1 11 (by decide)) _).trans e11
        have k12 : s2.2 12 m.toNat = ww := (congrFun (hQ2.2.1 12 (by decide)) _).trans e12
        have k13 : s2.2 13 m.toNat = hh := (congrFun (hQ2.2.1 13 (by decide)) _).trans e13
        refine pw_aload_n dX10_splitNow_215 rfl ?_
        refine pw_iload dX10_splitNow_216 rfl ?_
        refine pw_aload_n dX10_splitNow_218 rfl ?_
        refine pw_get (v := .ref (B + 8)) okX10 (k := 10) (by decide) lkX10_32 hA15.1 rfl dX10_splitNow_219 ?_
        refine pw_iload dX10_splitNow_222 rfl ?_
        refine pw_ialdv (v := x) (t := 0) rfl (mF10 (s := s2) hA15) (by omega) (by decide) (k10) dX10_splitNow_224 ?_
        refine pw_aload_n dX10_splitNow_225 rfl ?_
        refine pw_get (v := .ref (B + 9)) okX10 (k := 11) (by decide) lkX10_35 hA15.1 rfl dX10_splitNow_226 ?_
        refine pw_iload dX10_splitNow_229 rfl ?_
        refine pw_ialdv (v := y) (t := 0) rfl (mF11 (s := s2) hA15) (by omega) (by decide) (k11) dX10_splitNow_231 ?_
        refine pw_aload_n dX10_splitNow_232 rfl ?_
        refine pw_get (v := .ref (B + 10)) okX10 (k := 12) (by decide) lkX10_38 hA15.1 rfl dX10_splitNow_233 ?_
        refine pw_iload dX10_splitNow_236 rfl ?_
        refine pw_ialdv (v := ww) (t := 0) rfl (mF12 (s := s2) hA15) (by omega) (by decide) (k12) dX10_splitNow_238 ?_
        refine pw_aload_n dX10_splitNow_239 rfl ?_
        refine pw_get (v := .ref (B + 11)) okX10 (k := 13) (by decide) lkX10_41 hA15.1 rfl dX10_splitNow_240 ?_
        refine pw_iload dX10_splitNow_243 rfl ?_
        refine pw_ialdv (v := hh) (t := 0) rfl (mF13 (s := s2) hA15) (by omega) (by decide) (k13) dX10_splitNow_245 ?_
        have hfit := aDv_fits (n := nc) (f := fN) (g := gN) (p := pN) (q := qN) (dn := 1) (a := ((hh - 1) / 2)) (v := v) (by omega) (by rw [szv.1, szv.2]; rw [if_neg (by decide)]; omega)
        have okU := hfit 1 ww hh okv
        have xm : aX fm 2 (aDv nc fN gN 1 ((hh - 1) / 2) v pN qN) = [tm v, fN, gN] := aDv_x (k := 0)
        have xp : aX fp 2 (aDv nc fN gN 1 ((hh - 1) / 2) v pN qN) = [pN, qN] := aDv_x (k := 0)
        have ndm : (aX fm 2 (aDv nc fN gN 1 ((hh - 1) / 2) v pN qN)).Nodup := by rw [xm]; simp; omega
        have ndp : (aX fp 2 (aDv nc fN gN 1 ((hh - 1) / 2) v pN qN)).Nodup := by rw [xp]; simp; omega
        have nf : m.toNat = tm v ∧ f.toNat = fN ∧ g.toNat = gN ∧ p.toNat = pN ∧ q.toNat = qN := by omega
        have pkU : ∀ p', p' ∈ aX fp 2 (aDv nc fN gN 1 ((hh - 1) / 2) v pN qN) → mPk s2 p' := by
          intro p' hp'
          rw [xp] at hp'
          have hp2 : p' = pN ∨ p' = qN := by simpa using hp'
          rcases hp2 with z | z
          · rw [z]; exact mPk_o (show mPk (mA 16 (va_up (s.2 16) (q).toNat (1)) (mA 7 (va_up (va_up (s.2 7) (f).toNat (m)) (g).toNat (m)) (mA 7 (va_up (s.2 7) (f).toNat (m)) (mA 9 (va_up (s.2 9) (m).toNat ((hh - 1) / (2))) (mA 8 (va_up (s.2 8) (m).toNat (1)) (mA 6 (va_up (s.2 6) (m).toNat (g)) (mA 5 (va_up (s.2 5) (m).toNat (f)) (mA 4 (va_up (va_up (va_up (s.2 4) (f).toNat (p)) (g).toNat (q)) (m).toNat (-1)) (mA 17 (va_up (va_up (s.2 17) (p).toNat (f)) (q).toNat (g)) (mA 17 (va_up (s.2 17) (p).toNat (f)) (mA 4 (va_up (va_up (s.2 4) (f).toNat (p)) (g).toNat (q)) (mA 4 (va_up (s.2 4) (f).toNat (p)) (mA 3 (va_up (va_up (s.2 3) (f).toNat 1) (g).toNat 1) (mA 3 (va_up (s.2 3) (f).toNat 1) s)))))))))))))) pN from nf.2.2.2.1 ▸ hkp) hQ2 (by omega)
          · rw [z, ← nf.2.2.2.2]; exact hk2
        have hTU : rT s2 2 (aDv nc fN gN 1 ((hh - 1) / 2) v pN qN) := by
          have q4 := hQ2.2.1 4 (by decide)
          have q5 := hQ2.2.1 5 (by decide)
          have q6 := hQ2.2.1 6 (by decide)
          have q8 := hQ2.2.1 8 (by decide)
          have q9 := hQ2.2.1 9 (by decide)
          refine ⟨show tm v < 16 by omega, (fun p' hp' => by cases hp'), fun _ => ⟨⟨?_, ?_, ?_, ?_, ?_, ?_, ?_⟩, ⟨show fN < 16 by omega, fun p' hp' => ?_, (fun z => by cases z)⟩, show gN < 16 by omega, fun p' hp' => ?_, (fun z => by cases z)⟩⟩
          · show s2.2 4 (tm v) = -1
            rw [q4, ← nf.1]; exact va_up_self _ _ _
          · show s2.2 5 (tm v) = (fN : Int)
            rw [q5, ← nf.1]; exact (va_up_self _ _ _).trans ef
          · show s2.2 6 (tm v) = (gN : Int)
            rw [q6, ← nf.1]; exact (va_up_self _ _ _).trans eg
          · show s2.2 8 (tm v) = 1
            rw [q8, ← nf.1]; exact va_up_self _ _ _
          · show s2.2 9 (tm v) = ((hh - 1) / 2)
            rw [q9, ← nf.1]; exact va_up_self _ _ _
          · show s2.2 12 (tm v) = tw v
            rw [← nf.1, szv.1]; exact k12
          · show s2.2 13 (tm v) = th v
            rw [← nf.1, szv.2]; exact k13
          · have z : pN = p' := Option.some.inj hp'
            subst z
            refine ⟨by omega, ?_⟩
            show s2.2 4 fN = (pN : Int)
            rw [q4, ← nf.2.1]; exact ((va_up_ne _ _ (by omega)).trans ((va_up_ne _ _ (by omega)).trans (va_up_self _ _ _))).trans ep
          · have z : qN = p' := Option.some.inj hp'
            subst z
            refine ⟨by omega, ?_⟩
            show s2.2 4 gN = (qN : Int)
            rw [q4, ← nf.2.2.1]; exact ((va_up_ne _ _ (by omega)).trans (va_up_self _ _ _)).trans eq
        refine pw_callV (As := [.int (zI (m)), .int (zI (x)), .int (zI (y)), .int (zI (ww)), .int (zI (hh))]) (b := B) (rm := rmD 2 0 0) (nR_lay (k := 2) (t := (aDv nc fN gN 1 ((hh - 1) / 2) v pN qN)) (w0 := ww) (h0 := hh) htr hA15 em okU ndm ndp hTU pkU (by omega) (by omega) (by omega) (by omega) (by omega)) rfl hA15.1 rfl rfl ywX10_lay rfl cwX10_203 ⟨nle rfl, nle rfl⟩ (nle rfl) ⟨nle rfl, nle rfl⟩ dX10_splitNow_246 ?_ (fun _ _ _ z => z.elim)
        intro r_9 h16 n_9 hq9 _
        obtain ⟨e1, s3, hA16, hL3, hR3, hk3, hF160, e4_⟩ := hq9
        rw [e1, e4_]
        show pw E YX10_splitNow _ _ 0 0 249 [some (.ref B), some (.int (zI (p))), some (.int (zI (1))), some (.int (zI (q))), some (.int (zI (m))), some (.int (zI (f))), some (.int (zI (g))), some (.int (zI (hh))), some (.int (zI ((hh - 1) / (2))))] [] h16 n
        have hF16 := mFr_tr hF15 hF160
        refine pw_aload_n dX10_splitNow_249 rfl ?_
        refine pw_iload_n dX10_splitNow_250 rfl ?_
        refine pw_put (fs' := (moL B (va_up s3.1 47 (q)))) okX10 (k := 47) (by decide) lkX10_207 rfl rfl rfl hA16.1 (nlt rfl) rfl dX10_splitNow_251 ?_
        have hA17 : mAt B (mV 47 (q) s3) (va_up h16 B (pz_o 13 (moL B (va_up s3.1 47 (q))))) := mAt_V hA16
        have hF17 : mFr B h (va_up h16 B (pz_o 13 (moL B (va_up s3.1 47 (q))))) := mFr_tr hF16 (mFr_up (k := 0) (by decide))
        revert hA17 hF17
        generalize (va_up h16 B (pz_o 13 (moL B (va_up s3.1 47 (q))))) = h17
        intro hA17 hF17
        refine pw_iload_n dX10_splitNow_254 rfl ?_
        exact pw_iret dX10_splitNow_255 rfl (nle rfl) (nle rfl) ⟨rfl, s2, s3, hA17, hQ2, hk2, hL3, hR3, hk3, hF17, rfl⟩
