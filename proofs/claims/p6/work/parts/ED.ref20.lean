def YX10_closeNow : pw_Y := (RX10, "closeNow", cX10_closeNow, 6, none)
theorem ywX10_closeNow : pw_y yX10_closeNow YX10_closeNow 1 := ⟨by decide +kernel, by decide +kernel, by decide +kernel, pw_in 1561 (by decide +kernel) (by decide +kernel), pw_in 106 (by decide +kernel) (by decide +kernel)⟩
theorem mV_id {k : Nat} {v : Int} {s : mS} (h : s.1 k = v) : mV k v s = s := by
  refine Prod.ext (funext fun j => ?_) rfl
  show va_up s.1 k v j = s.1 j
  by_cases e : j = k
  · subst e; rw [va_up_self]; exact h.symm
  · rw [va_up_ne _ _ e]
theorem mV_mV {k : Nat} {v u : Int} {s : mS} : mV k v (mV k u s) = mV k v s := by
  unfold mV
  rw [show va_up (va_up s.1 k u, s.2).1 k v = va_up s.1 k v from bx_uu _ _ _ _]
set_option maxHeartbeats 1000000 in
set_option maxRecDepth 100000 in
theorem lN_foc {E : pw_E} (htr : E.1.stackTraces = false) {Kk : pw_K} {h : pz_H} {n B : Nat} {s : mS} {p m sp z up r : Int} (hr : 0 ≤ r ∧ r < 8) (h0 : ∀ i, i < r.toNat → s.2 16 i = 0) (h1r : s.2 16 r.toNat = 1) (hQ : ∀ h1, mAt B (mV 47 r s) h1 → mFr B h h1 → Kk.2.2.1 none h1 n) : ∀ (j : Nat) (i : Int) (h1 : pz_H), (r - i).toNat = j → 0 ≤ i → i ≤ r → mAt B (mV 47 i s) h1 → mFr B h h1 → pw E YX10_closeNow (rmD 3 0 0) Kk 0 0 169 [some (.ref B), some (.int (zI (p))), some (.int (zI (m))), some (.int (zI (sp))), some (.int (zI (z))), some (.int (zI (up)))] [] h1 n := by
  intro j
  induction j with
  | zero =>
    intro i h1 hj i1 i2 hA hF
    have hz : s.2 16 i.toNat = 1 := by rw [show i = r by omega]; exact h1r
    refine pw_aload_n dX10_closeNow_169 rfl ?_
    refine pw_get (v := .ref (B + 13)) okX10 (k := 16) (by decide) lkX10_47 hA.1 rfl dX10_closeNow_170 ?_
    refine pw_aload_n dX10_closeNow_173 rfl ?_
    refine pw_get (v := .int (zI (i))) okX10 (k := 47) (by decide) lkX10_207 hA.1 rfl dX10_closeNow_174 ?_
    refine pw_zald (g := (s.2 16)) (t := 1) rfl (mF16 (s := (mV 47 i s)) hA) (by omega) (by decide) dX10_closeNow_177 ?_
    refine pw_if_ne (tgt := 194) dX10_closeNow_178 rfl (by omega) (fun c178 => ?_) (fun c178 => ?_)
    ·
      have ei : i = r := by omega
      subst ei
      exact pw_vret dX10_closeNow_194 rfl (nle rfl) (nle rfl) (hQ h1 hA hF)
    · exfalso; omega
  | succ j ih =>
    intro i h1 hj i1 i2 hA hF
    have hz : s.2 16 i.toNat = 0 := h0 i.toNat (by omega)
    refine pw_aload_n dX10_closeNow_169 rfl ?_
    refine pw_get (v := .ref (B + 13)) okX10 (k := 16) (by decide) lkX10_47 hA.1 rfl dX10_closeNow_170 ?_
    refine pw_aload_n dX10_closeNow_173 rfl ?_
    refine pw_get (v := .int (zI (i))) okX10 (k := 47) (by decide) lkX10_207 hA.1 rfl dX10_closeNow_174 ?_
    refine pw_zald (g := (s.2 16)) (t := 1) rfl (mF16 (s := (mV 47 i s)) hA) (by omega) (by decide) dX10_closeNow_177 ?_
    refine pw_if_ne (tgt := 194) dX10_closeNow_178 rfl (by omega) (fun c178 => ?_) (fun c178 => ?_)
    · exfalso; omega
    ·
      refine pw_aload_n dX10_closeNow_181 rfl ?_
      refine pw_dup dX10_closeNow_182 rfl ?_
      refine pw_get (v := .int (zI (i))) okX10 (k := 47) (by decide) lkX10_207 hA.1 rfl dX10_closeNow_183 ?_
      refine pw_iconst (v := zI (1)) dX10_closeNow_186 (by decide) ?_
      refine pw_ziadd dX10_closeNow_187 ?_
      refine pw_put (fs' := (moL B (va_up (mV 47 i s).1 47 (i + 1)))) okX10 (k := 47) (by decide) lkX10_207 rfl rfl rfl hA.1 (nlt rfl) rfl dX10_closeNow_188 ?_
      have hA2 : mAt B (mV 47 (i + 1) (mV 47 i s)) (va_up h1 B (pz_o 13 (moL B (va_up (mV 47 i s).1 47 (i + 1))))) := mAt_V hA
      have hF2 : mFr B h (va_up h1 B (pz_o 13 (moL B (va_up (mV 47 i s).1 47 (i + 1))))) := mFr_tr hF (mFr_up (k := 0) (by decide))
      revert hA2 hF2
      generalize (va_up h1 B (pz_o 13 (moL B (va_up (mV 47 i s).1 47 (i + 1))))) = h2
      intro hA2 hF2
      refine pw_goto (tgt := 169) dX10_closeNow_191 rfl ?_
      have hA8 : mAt B (mV 47 (i + 1) s) h2 := by rw [← mV_mV (u := i)]; exact hA2
      exact ih (i + 1) h2 (by omega) (by omega) (by omega) hA8 hF2
set_option maxHeartbeats 4000000 in
set_option maxRecDepth 100000 in
theorem lN_cl {E : pw_E} (htr : E.1.stackTraces = false) {Kk : pw_K} {h h1 : pz_H} {n B : Nat} {s : mS} (hA : mAt B s h1) (hF : mFr B h h1) {k : Nat} {Z : aT} {p m sp z up r x y ww hh : Int} (hp : 0 ≤ p ∧ p < 8) (hm : 0 ≤ m ∧ m < 16) (hsp : 0 ≤ sp ∧ sp < 16) (hz : 0 ≤ z ∧ z < 16) (ez : z = (tm Z : Int)) (okZ : aOk k Z (tw Z) (th Z)) (ndm : (aX fm k Z).Nodup) (ndp : (aX fp k Z).Nodup) (hT : rT s k Z) (hpk : ∀ p1, p1 ∈ aX fp k Z → mPk s p1) (hk15 : k ≤ 15) (hzw : tw Z ≤ ww) (hww : 1 ≤ ww ∧ ww ≤ 40) (hzh : th Z ≤ hh) (hhh : 1 ≤ hh ∧ hh ≤ 16) (e10 : s.2 10 sp.toNat = x) (e11 : s.2 11 sp.toNat = y) (e12 : s.2 12 sp.toNat = ww) (e13 : s.2 13 sp.toNat = hh) (h47 : 0 ≤ s.1 47 ∧ s.1 47 < 8) (hr : 0 ≤ r ∧ r < 8) (h0 : ∀ i, i < r.toNat → va_up (s.2 16) p.toNat 0 i = 0) (h1r : va_up (s.2 16) p.toNat 0 r.toNat = 1) (hQ : ∀ (s3 : mS) (h' : pz_H), mAt B (mV 47 (if s.1 47 = p then r else s.1 47) s3) h' → mFr B h h' → lyF (aX fm k Z) (aX fp k Z) 0 (mA 16 (va_up (s.2 16) (p).toNat (0)) (mA 3 (va_up (va_up (s.2 3) (m).toNat (0)) (sp).toNat (0)) (mA 3 (va_up (s.2 3) (m).toNat (0)) s))) s3 → rA s3 k (aPl k Z (tw Z) (th Z) ww hh) x y → (∀ p1, p1 ∈ aX fp k Z → mPk s3 p1) → Kk.2.2.1 none h' n) : pw E YX10_closeNow (rmD 3 0 0) Kk 0 0 105 [some (.ref B), some (.int (zI (p))), some (.int (zI (m))), some (.int (zI (sp))), some (.int (zI (z))), some (.int (zI (up)))] [] h1 n := by
  refine pw_aload_n dX10_closeNow_105 rfl ?_
  refine pw_get (v := .ref (B + 1)) okX10 (k := 3) (by decide) lkX10_7 hA.1 rfl dX10_closeNow_106 ?_
  refine pw_iload_n dX10_closeNow_109 rfl ?_
  refine pw_iconst (v := zI (0)) dX10_closeNow_110 (by decide) ?_
  refine pw_zast (g := (s.2 3)) (t := 1) rfl (mF3 (s := s) hA) (by omega) (by decide) (by omega) dX10_closeNow_111 ?_
  have hA2 : mAt B (mA 3 (va_up (s.2 3) (m).toNat (0)) s) (va_up h1 (B + 1) (pz_z 1 16 (va_up (s.2 3) (m).toNat (0)))) := mU3 hA
  have hF2 : mFr B h (va_up h1 (B + 1) (pz_z 1 16 (va_up (s.2 3) (m).toNat (0)))) := mFr_tr hF (mFr_up (by decide))
  revert hA2 hF2
  generalize (va_up h1 (B + 1) (pz_z 1 16 (va_up (s.2 3) (m).toNat (0)))) = h2
  intro hA2 hF2
  refine pw_aload_n dX10_closeNow_112 rfl ?_
  refine pw_get (v := .ref (B + 1)) okX10 (k := 3) (by decide) lkX10_7 hA2.1 rfl dX10_closeNow_113 ?_
  refine pw_iload_n dX10_closeNow_116 rfl ?_
  refine pw_iconst (v := zI (0)) dX10_closeNow_117 (by decide) ?_
  refine pw_zast (g := (va_up (s.2 3) (m).toNat (0))) (t := 1) rfl (mF3 (s := (mA 3 (va_up (s.2 3) (m).toNat (0)) s)) hA2) (by omega) (by decide) (by omega) dX10_closeNow_118 ?_
  have hA3 : mAt B (mA 3 (va_up (va_up (s.2 3) (m).toNat (0)) (sp).toNat (0)) (mA 3 (va_up (s.2 3) (m).toNat (0)) s)) (va_up h2 (B + 1) (pz_z 1 16 (va_up (va_up (s.2 3) (m).toNat (0)) (sp).toNat (0)))) := mU3 hA2
  have hF3 : mFr B h (va_up h2 (B + 1) (pz_z 1 16 (va_up (va_up (s.2 3) (m).toNat (0)) (sp).toNat (0)))) := mFr_tr hF2 (mFr_up (by decide))
  revert hA3 hF3
  generalize (va_up h2 (B + 1) (pz_z 1 16 (va_up (va_up (s.2 3) (m).toNat (0)) (sp).toNat (0)))) = h3
  intro hA3 hF3
  refine pw_aload_n dX10_closeNow_119 rfl ?_
  refine pw_get (v := .ref (B + 13)) okX10 (k := 16) (by decide) lkX10_47 hA3.1 rfl dX10_closeNow_120 ?_
  refine pw_iload_n dX10_closeNow_123 rfl ?_
  refine pw_iconst (v := zI (0)) dX10_closeNow_124 (by decide) ?_
  refine pw_zast (g := (s.2 16)) (t := 1) rfl (mF16 (s := (mA 3 (va_up (va_up (s.2 3) (m).toNat (0)) (sp).toNat (0)) (mA 3 (va_up (s.2 3) (m).toNat (0)) s))) hA3) (by omega) (by decide) (by omega) dX10_closeNow_125 ?_
  have hA4 : mAt B (mA 16 (va_up (s.2 16) (p).toNat (0)) (mA 3 (va_up (va_up (s.2 3) (m).toNat (0)) (sp).toNat (0)) (mA 3 (va_up (s.2 3) (m).toNat (0)) s))) (va_up h3 (B + 13) (pz_z 1 8 (va_up (s.2 16) (p).toNat (0)))) := mU16 hA3
  have hF4 : mFr B h (va_up h3 (B + 13) (pz_z 1 8 (va_up (s.2 16) (p).toNat (0)))) := mFr_tr hF3 (mFr_up (by decide))
  revert hA4 hF4
  generalize (va_up h3 (B + 13) (pz_z 1 8 (va_up (s.2 16) (p).toNat (0)))) = h4
  intro hA4 hF4
  refine pw_aload_n dX10_closeNow_126 rfl ?_
  refine pw_iload dX10_closeNow_127 rfl ?_
  refine pw_aload_n dX10_closeNow_129 rfl ?_
  refine pw_get (v := .ref (B + 8)) okX10 (k := 10) (by decide) lkX10_32 hA4.1 rfl dX10_closeNow_130 ?_
  refine pw_iload_n dX10_closeNow_133 rfl ?_
  refine pw_ialdv (v := x) (t := 0) rfl (mF10 (s := (mA 16 (va_up (s.2 16) (p).toNat (0)) (mA 3 (va_up (va_up (s.2 3) (m).toNat (0)) (sp).toNat (0)) (mA 3 (va_up (s.2 3) (m).toNat (0)) s)))) hA4) (by omega) (by decide) (e10) dX10_closeNow_134 ?_
  refine pw_aload_n dX10_closeNow_135 rfl ?_
  refine pw_get (v := .ref (B + 9)) okX10 (k := 11) (by decide) lkX10_35 hA4.1 rfl dX10_closeNow_136 ?_
  refine pw_iload_n dX10_closeNow_139 rfl ?_
  refine pw_ialdv (v := y) (t := 0) rfl (mF11 (s := (mA 16 (va_up (s.2 16) (p).toNat (0)) (mA 3 (va_up (va_up (s.2 3) (m).toNat (0)) (sp).toNat (0)) (mA 3 (va_up (s.2 3) (m).toNat (0)) s)))) hA4) (by omega) (by decide) (e11) dX10_closeNow_140 ?_
  refine pw_aload_n dX10_closeNow_141 rfl ?_
  refine pw_get (v := .ref (B + 10)) okX10 (k := 12) (by decide) lkX10_38 hA4.1 rfl dX10_closeNow_142 ?_
  refine pw_iload_n dX10_closeNow_145 rfl ?_
  refine pw_ialdv (v := ww) (t := 0) rfl (mF12 (s := (mA 16 (va_up (s.2 16) (p).toNat (0)) (mA 3 (va_up (va_up (s.2 3) (m).toNat (0)) (sp).toNat (0)) (mA 3 (va_up (s.2 3) (m).toNat (0)) s)))) hA4) (by omega) (by decide) (e12) dX10_closeNow_146 ?_
  refine pw_aload_n dX10_closeNow_147 rfl ?_
  refine pw_get (v := .ref (B + 11)) okX10 (k := 13) (by decide) lkX10_41 hA4.1 rfl dX10_closeNow_148 ?_
  refine pw_iload_n dX10_closeNow_151 rfl ?_
  refine pw_ialdv (v := hh) (t := 0) rfl (mF13 (s := (mA 16 (va_up (s.2 16) (p).toNat (0)) (mA 3 (va_up (va_up (s.2 3) (m).toNat (0)) (sp).toNat (0)) (mA 3 (va_up (s.2 3) (m).toNat (0)) s)))) hA4) (by omega) (by decide) (e13) dX10_closeNow_152 ?_
  have hT2 : rT (mA 16 (va_up (s.2 16) (p).toNat (0)) (mA 3 (va_up (va_up (s.2 3) (m).toNat (0)) (sp).toNat (0)) (mA 3 (va_up (s.2 3) (m).toNat (0)) s))) k Z := rT_of (s := s) (s' := (mA 16 (va_up (s.2 16) (p).toNat (0)) (mA 3 (va_up (va_up (s.2 3) (m).toNat (0)) (sp).toNat (0)) (mA 3 (va_up (s.2 3) (m).toNat (0)) s)))) rfl rfl rfl rfl k Z hT (fun i _ => ⟨rfl, rfl, rfl⟩)
  refine pw_callV (As := [.int (zI (z)), .int (zI (x)), .int (zI (y)), .int (zI (ww)), .int (zI (hh))]) (b := B) (rm := rmD 2 0 0) (nR_lay (k := k) (t := Z) (w0 := tw Z) (h0 := th Z) htr hA4 ez okZ ndm ndp hT2 (fun p1 hp1 => hpk p1 hp1) hk15 hzw (by omega) hzh (by omega)) rfl hA4.1 rfl rfl ywX10_lay rfl cwX10_203 ⟨nle rfl, nle rfl⟩ (nle rfl) ⟨nle rfl, nle rfl⟩ dX10_closeNow_153 ?_ (fun _ _ _ z => z.elim)
  intro r_9 h5 n_9 hq9 _
  obtain ⟨e1, s3, hA5, hL3, hR3, hk3, hF50, e4_⟩ := hq9
  rw [e1, e4_]
  show pw E YX10_closeNow _ _ 0 0 156 [some (.ref B), some (.int (zI (p))), some (.int (zI (m))), some (.int (zI (sp))), some (.int (zI (z))), some (.int (zI (up)))] [] h5 n
  have hF5 := mFr_tr hF4 hF50
  have k47 : s3.1 47 = s.1 47 := by rw [hL3.1]; rfl
  have k16 : s3.2 16 = (va_up (s.2 16) (p).toNat (0)) := hL3.2.1 16 (by decide) (by decide) (by decide) (by decide) (by decide) (by decide) (by decide) (by decide) (by decide)
  refine pw_aload_n dX10_closeNow_156 rfl ?_
  refine pw_get (v := .int (zI (s3.1 47))) okX10 (k := 47) (by decide) lkX10_207 hA5.1 rfl dX10_closeNow_157 ?_
  refine pw_iload_n dX10_closeNow_160 rfl ?_
  refine pw_icmp_ne (tgt := 194) dX10_closeNow_161 rfl (by omega) (by omega) (fun c161 => ?_) (fun c161 => ?_)
  ·
    exact pw_vret dX10_closeNow_194 rfl (nle rfl) (nle rfl) (hQ s3 h5 (by rw [if_neg (by omega), mV_id k47]; exact hA5) hF5 hL3 hR3 hk3)
  ·
    refine pw_aload_n dX10_closeNow_164 rfl ?_
    refine pw_iconst (v := zI (0)) dX10_closeNow_165 (by decide) ?_
    refine pw_put (fs' := (moL B (va_up s3.1 47 (0)))) okX10 (k := 47) (by decide) lkX10_207 rfl rfl rfl hA5.1 (nlt rfl) rfl dX10_closeNow_166 ?_
    have hA6 : mAt B (mV 47 (0) s3) (va_up h5 B (pz_o 13 (moL B (va_up s3.1 47 (0))))) := mAt_V hA5
    have hF6 : mFr B h (va_up h5 B (pz_o 13 (moL B (va_up s3.1 47 (0))))) := mFr_tr hF5 (mFr_up (k := 0) (by decide))
    revert hA6 hF6
    generalize (va_up h5 B (pz_o 13 (moL B (va_up s3.1 47 (0))))) = h6
    intro hA6 hF6
    refine lN_foc (s := s3) (r := r) htr hr (fun i hi => by rw [k16]; exact h0 i hi) (by rw [k16]; exact h1r) (fun h8 hA8 hF8 => ?_) _ 0 h6 rfl (by omega) (by omega) hA6 hF6
    exact hQ s3 h8 (by rw [if_pos (by omega)]; exact hA8) hF8 hL3 hR3 hk3
