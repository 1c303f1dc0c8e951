
set_option maxHeartbeats 4000000 in
set_option maxRecDepth 100000 in
/-- a split, one step of lay -/
theorem lN_sp0 {E : pw_E} (htr : E.1.stackTraces = false) {Kk : pw_K} {h h1 : pz_H} {n B : Nat} {s : mS} {M m f g a0 w0 h0 x y u q : Int} {b1 b2 b3 b4 b5 : Int} {l7 l8 l9 l10 l11 l12 : Option Value} (hA : mAt B s h1) (hF : mFr B h h1) (hM : 1 ≤ M ∧ M ≤ 15) (hm : 0 ≤ m ∧ m < 16) (hf : 0 ≤ f ∧ f < 16) (hg : 0 ≤ g ∧ g < 16) (hmf : m ≠ f) (hmg : m ≠ g) (hfg : f ≠ g) (e15 : s.2 15 (M + (-1)).toNat = m) (e4 : s.2 4 m.toNat = -1) (e5 : s.2 5 m.toNat = f) (e6 : s.2 6 m.toNat = g) (e8 : s.2 8 m.toNat = 0) (e9 : s.2 9 m.toNat = a0) (e10 : s.2 10 m.toNat = x) (e11 : s.2 11 m.toNat = y) (e12 : s.2 12 m.toNat = w0) (e13 : s.2 13 m.toNat = h0) (e59 : s.2 59 m.toNat = u) (e60 : s.2 60 m.toNat = q) (hu : 1 ≤ u ∧ u ≤ 40) (hq : 1 ≤ q ∧ q ≤ 16) (ha0 : 1 ≤ a0 ∧ a0 ≤ 40) (hw0 : 3 ≤ w0 ∧ w0 ≤ 40) (hka0 : 1 ≤ (u - 1) * a0 / (w0 - 1) ∧ (u - 1) * a0 / (w0 - 1) ≤ u - 2) (kk : ∀ (a : Int) (s' : mS) (h' : pz_H), mAt B s' h' → mFr B h h' → (1 ≤ a ∧ a ≤ u - 2 ∧ a = (u - 1) * a0 / (w0 - 1)) → s'.1 = s.1 → (∀ j, j ≠ 9 → j ≠ 10 → j ≠ 11 → j ≠ 12 → j ≠ 13 → j ≠ 15 → j ≠ 59 → j ≠ 60 → s'.2 j = s.2 j) → s'.2 9 = (va_up (s.2 9) (m).toNat (a)) → s'.2 10 = (va_up (va_up (s.2 10) (f).toNat (x)) (g).toNat ((x + a) + (1))) → s'.2 11 = (va_up (va_up (s.2 11) (f).toNat (y)) (g).toNat (y)) → s'.2 12 = (va_up (s.2 12) (m).toNat (u)) → s'.2 13 = (va_up (s.2 13) (m).toNat (q)) → s'.2 15 = (va_up (va_up (s.2 15) (M + (-1)).toNat (f)) ((M + (-1)) + (1)).toNat (g)) → s'.2 59 = (va_up (va_up (s.2 59) (f).toNat (a)) (g).toNat ((u - 1) - (a))) → s'.2 60 = (va_up (va_up (s.2 60) (f).toNat (q)) (g).toNat (q)) → pw E YX10_lay (rmD 2 0 0) Kk 0 0 40 [some (.ref B), some (.int (zI (b1))), some (.int (zI (b2))), some (.int (zI (b3))), some (.int (zI (b4))), some (.int (zI (b5))), some (.int (zI ((M + (-1)) + (2)))), some (.int (zI (m))), some (.int (zI (w0))), some (.int (zI (u))), some (.int (zI (a))), some (.int (zI (f))), some (.int (zI (g)))] [] h' n) : pw E YX10_lay (rmD 2 0 0) Kk 0 0 40 [some (.ref B), some (.int (zI (b1))), some (.int (zI (b2))), some (.int (zI (b3))), some (.int (zI (b4))), some (.int (zI (b5))), some (.int (zI (M))), l7, l8, l9, l10, l11, l12] [] h1 n := by
  have hml : 0 ≤ (u - 1) * a0 ∧ (u - 1) * a0 < 2147483648 := by
    have h9 : (u - 1) * a0 ≤ 39 * 40 := Int.mul_le_mul (by omega) (by omega) (by omega) (by omega)
    exact ⟨Int.mul_nonneg (by omega) (by omega), by omega⟩
  have hka := hka0
  refine pw_iload dX10_lay_40 rfl ?_
  refine pw_if_le (tgt := 547) dX10_lay_42 rfl (by omega) (fun c42 => ?_) (fun c42 => ?_)
  · exfalso; omega
  ·
    refine pw_ziinc (lv' := [some (.ref B), some (.int (zI (b1))), some (.int (zI (b2))), some (.int (zI (b3))), some (.int (zI (b4))), some (.int (zI (b5))), some (.int (zI (M + (-1)))), l7, l8, l9, l10, l11, l12]) dX10_lay_45 rfl (by decide) rfl rfl ?_
    refine pw_aload_n dX10_lay_48 rfl ?_
    refine pw_get (v := .ref (B + 12)) okX10 (k := 15) (by decide) lkX10_44 hA.1 rfl dX10_lay_49 ?_
    refine pw_iload dX10_lay_52 rfl ?_
    refine pw_ialdv (v := m) (t := 0) rfl (mF15 (s := s) hA) (by omega) (by decide) (e15) dX10_lay_54 ?_
    refine pw_istore (lv' := [some (.ref B), some (.int (zI (b1))), some (.int (zI (b2))), some (.int (zI (b3))), some (.int (zI (b4))), some (.int (zI (b5))), some (.int (zI (M + (-1)))), some (.int (zI (m))), l8, l9, l10, l11, l12]) dX10_lay_55 (by decide) rfl rfl ?_
    refine pw_aload_n dX10_lay_57 rfl ?_
    refine pw_get (v := .ref (B + 2)) okX10 (k := 4) (by decide) lkX10_13 hA.1 rfl dX10_lay_58 ?_
    refine pw_iload dX10_lay_61 rfl ?_
    refine pw_ialdv (v := -1) (t := 0) rfl (mF4 (s := s) hA) (by omega) (by decide) (e4) dX10_lay_63 ?_
    refine pw_iconst (v := zI (-1)) dX10_lay_64 (by decide) ?_
    refine pw_icmp_eq (tgt := 124) dX10_lay_65 rfl (by omega) (by omega) (fun c65 => ?_) (fun c65 => ?_)
    ·
      refine pw_aload_n dX10_lay_124 rfl ?_
      refine pw_get (v := .ref (B + 6)) okX10 (k := 8) (by decide) lkX10_26 hA.1 rfl dX10_lay_125 ?_
      refine pw_iload dX10_lay_128 rfl ?_
      refine pw_zaldv (v := 0) (t := 1) rfl (mF8 (s := s) hA) (by omega) (by decide) (e8) dX10_lay_130 ?_
      refine pw_if_eq (tgt := 144) dX10_lay_131 rfl (by omega) (fun c131 => ?_) (fun c131 => ?_)
      ·
        refine pw_aload_n dX10_lay_144 rfl ?_
        refine pw_get (v := .ref (B + 10)) okX10 (k := 12) (by decide) lkX10_38 hA.1 rfl dX10_lay_145 ?_
        refine pw_iload dX10_lay_148 rfl ?_
        refine pw_ialdv (v := w0) (t := 0) rfl (mF12 (s := s) hA) (by omega) (by decide) (e12) dX10_lay_150 ?_
        refine pw_istore (lv' := [some (.ref B), some (.int (zI (b1))), some (.int (zI (b2))), some (.int (zI (b3))), some (.int (zI (b4))), some (.int (zI (b5))), some (.int (zI (M + (-1)))), some (.int (zI (m))), some (.int (zI (w0))), l9, l10, l11, l12]) dX10_lay_151 (by decide) rfl rfl ?_
        refine pw_aload_n dX10_lay_153 rfl ?_
        refine pw_get (v := .ref (B + 6)) okX10 (k := 8) (by decide) lkX10_26 hA.1 rfl dX10_lay_154 ?_
        refine pw_iload dX10_lay_157 rfl ?_
        refine pw_zaldv (v := 0) (t := 1) rfl (mF8 (s := s) hA) (by omega) (by decide) (e8) dX10_lay_159 ?_
        refine pw_if_eq (tgt := 173) dX10_lay_160 rfl (by omega) (fun c160 => ?_) (fun c160 => ?_)
        ·
          refine pw_aload_n dX10_lay_173 rfl ?_
          refine pw_get (v := .ref (B + 48)) okX10 (k := 59) (by decide) lkX10_156 hA.1 rfl dX10_lay_174 ?_
          refine pw_iload dX10_lay_177 rfl ?_
          refine pw_ialdv (v := u) (t := 0) rfl (mF59 (s := s) hA) (by omega) (by decide) (e59) dX10_lay_179 ?_
          refine pw_istore (lv' := [some (.ref B), some (.int (zI (b1))), some (.int (zI (b2))), some (.int (zI (b3))), some (.int (zI (b4))), some (.int (zI (b5))), some (.int (zI (M + (-1)))), some (.int (zI (m))), some (.int (zI (w0))), some (.int (zI (u))), l10, l11, l12]) dX10_lay_180 (by decide) rfl rfl ?_
          refine pw_iload dX10_lay_182 rfl ?_
          refine pw_iconst (v := zI (1)) dX10_lay_184 (by decide) ?_
          refine pw_zisub dX10_lay_185 ?_
          refine pw_aload_n dX10_lay_186 rfl ?_
          refine pw_get (v := .ref (B + 7)) okX10 (k := 9) (by decide) lkX10_29 hA.1 rfl dX10_lay_187 ?_
          refine pw_iload dX10_lay_190 rfl ?_
          refine pw_ialdv (v := a0) (t := 0) rfl (mF9 (s := s) hA) (by omega) (by decide) (e9) dX10_lay_192 ?_
          refine pw_zimul dX10_lay_193 ?_
          refine pw_iload dX10_lay_194 rfl ?_
          refine pw_iconst (v := zI (1)) dX10_lay_196 (by decide) ?_
          refine pw_zisub dX10_lay_197 ?_
          refine pw_zidiv dX10_lay_198 (show 0 ≤ (u - 1) * a0 ∧ (u - 1) * a0 < 2147483648 from hml) (by omega) ?_
          refine pw_istore (lv' := [some (.ref B), some (.int (zI (b1))), some (.int (zI (b2))), some (.int (zI (b3))), some (.int (zI (b4))), some (.int (zI (b5))), some (.int (zI (M + (-1)))), some (.int (zI (m))), some (.int (zI (w0))), some (.int (zI (u))), some (.int (zI (((u - 1) * (a0)) / (w0 - 1)))), l11, l12]) dX10_lay_199 (by decide) rfl rfl ?_
          revert hka
          generalize hga : ((u - 1) * (a0)) / (w0 - 1) = a
          intro hka
          refine pw_iload dX10_lay_201 rfl ?_
          refine pw_iconst (v := zI (1)) dX10_lay_203 (by decide) ?_
          refine pw_icmp_ge (tgt := 211) dX10_lay_204 rfl (by omega) (by omega) (fun c204 => ?_) (fun c204 => ?_)
          ·
            refine pw_iload dX10_lay_211 rfl ?_
            refine pw_iload dX10_lay_213 rfl ?_
            refine pw_iconst (v := zI (2)) dX10_lay_215 (by decide) ?_
            refine pw_zisub dX10_lay_216 ?_
            refine pw_icmp_le (tgt := 227) dX10_lay_217 rfl (by omega) (by omega) (fun c217 => ?_) (fun c217 => ?_)
            ·
              refine pw_iload dX10_lay_227 rfl ?_
              refine pw_istore (lv' := [some (.ref B), some (.int (zI (b1))), some (.int (zI (b2))), some (.int (zI (b3))), some (.int (zI (b4))), some (.int (zI (b5))), some (.int (zI (M + (-1)))), some (.int (zI (m))), some (.int (zI (w0))), some (.int (zI (u))), some (.int (zI (a))), l11, l12]) dX10_lay_229 (by decide) rfl rfl ?_
              refine pw_aload_n dX10_lay_231 rfl ?_
              refine pw_get (v := .ref (B + 7)) okX10 (k := 9) (by decide) lkX10_29 hA.1 rfl dX10_lay_232 ?_
              refine pw_iload dX10_lay_235 rfl ?_
              refine pw_iload dX10_lay_237 rfl ?_
              refine pw_iast (g := (s.2 9)) (t := 0) rfl (mF9 (s := s) hA) (by omega) (by decide) dX10_lay_239 ?_
              have hA2 : mAt B (mA 9 (va_up (s.2 9) (m).toNat (a)) s) (va_up h1 (B + 7) (pz_z 0 16 (va_up (s.2 9) (m).toNat (a)))) := mU9 hA
              have hF2 : mFr B h (va_up h1 (B + 7) (pz_z 0 16 (va_up (s.2 9) (m).toNat (a)))) := mFr_tr hF (mFr_up (by decide))
              revert hA2 hF2
              generalize (va_up h1 (B + 7) (pz_z 0 16 (va_up (s.2 9) (m).toNat (a)))) = h2
              intro hA2 hF2
              refine pw_aload_n dX10_lay_240 rfl ?_
              refine pw_get (v := .ref (B + 10)) okX10 (k := 12) (by decide) lkX10_38 hA2.1 rfl dX10_lay_241 ?_
              refine pw_iload dX10_lay_244 rfl ?_
              refine pw_aload_n dX10_lay_246 rfl ?_
              refine pw_get (v := .ref (B + 48)) okX10 (k := 59) (by decide) lkX10_156 hA2.1 rfl dX10_lay_247 ?_
              refine pw_iload dX10_lay_250 rfl ?_
              refine pw_ialdv (v := u) (t := 0) rfl (mF59 (s := (mA 9 (va_up (s.2 9) (m).toNat (a)) s)) hA2) (by omega) (by decide) (e59) dX10_lay_252 ?_
              refine pw_iast (g := (s.2 12)) (t := 0) rfl (mF12 (s := (mA 9 (va_up (s.2 9) (m).toNat (a)) s)) hA2) (by omega) (by decide) dX10_lay_253 ?_
              have hA3 : mAt B (mA 12 (va_up (s.2 12) (m).toNat (u)) (mA 9 (va_up (s.2 9) (m).toNat (a)) s)) (va_up h2 (B + 10) (pz_z 0 16 (va_up (s.2 12) (m).toNat (u)))) := mU12 hA2
              have hF3 : mFr B h (va_up h2 (B + 10) (pz_z 0 16 (va_up (s.2 12) (m).toNat (u)))) := mFr_tr hF2 (mFr_up (by decide))
              revert hA3 hF3
              generalize (va_up h2 (B + 10) (pz_z 0 16 (va_up (s.2 12) (m).toNat (u)))) = h3
              intro hA3 hF3
              refine pw_aload_n dX10_lay_254 rfl ?_
              refine pw_get (v := .ref (B + 11)) okX10 (k := 13) (by decide) lkX10_41 hA3.1 rfl dX10_lay_255 ?_
              refine pw_iload dX10_lay_258 rfl ?_
              refine pw_aload_n dX10_lay_260 rfl ?_
              refine pw_get (v := .ref (B + 49)) okX10 (k := 60) (by decide) lkX10_159 hA3.1 rfl dX10_lay_261 ?_
              refine pw_iload dX10_lay_264 rfl ?_
              refine pw_ialdv (v := q) (t := 0) rfl (mF60 (s := (mA 12 (va_up (s.2 12) (m).toNat (u)) (mA 9 (va_up (s.2 9) (m).toNat (a)) s))) hA3) (by omega) (by decide) (e60) dX10_lay_266 ?_
              refine pw_iast (g := (s.2 13)) (t := 0) rfl (mF13 (s := (mA 12 (va_up (s.2 12) (m).toNat (u)) (mA 9 (va_up (s.2 9) (m).toNat (a)) s))) hA3) (by omega) (by decide) dX10_lay_267 ?_
              have hA4 : mAt B (mA 13 (va_up (s.2 13) (m).toNat (q)) (mA 12 (va_up (s.2 12) (m).toNat (u)) (mA 9 (va_up (s.2 9) (m).toNat (a)) s))) (va_up h3 (B + 11) (pz_z 0 16 (va_up (s.2 13) (m).toNat (q)))) := mU13 hA3
              have hF4 : mFr B h (va_up h3 (B + 11) (pz_z 0 16 (va_up (s.2 13) (m).toNat (q)))) := mFr_tr hF3 (mFr_up (by decide))
              revert hA4 hF4
              generalize (va_up h3 (B + 11) (pz_z 0 16 (va_up (s.2 13) (m).toNat (q)))) = h4
              intro hA4 hF4
              refine pw_aload_n dX10_lay_268 rfl ?_
              refine pw_get (v := .ref (B + 3)) okX10 (k := 5) (by decide) lkX10_17 hA4.1 rfl dX10_lay_269 ?_
              refine pw_iload dX10_lay_272 rfl ?_
              refine pw_ialdv (v := f) (t := 0) rfl (mF5 (s := (mA 13 (va_up (s.2 13) (m).toNat (q)) (mA 12 (va_up (s.2 12) (m).toNat (u)) (mA 9 (va_up (s.2 9) (m).toNat (a)) s)))) hA4) (by omega) (by decide) (e5) dX10_lay_274 ?_
              refine pw_istore (lv' := [some (.ref B), some (.int (zI (b1))), some (.int (zI (b2))), some (.int (zI (b3))), some (.int (zI (b4))), some (.int (zI (b5))), some (.int (zI (M + (-1)))), some (.int (zI (m))), some (.int (zI (w0))), some (.int (zI (u))), some (.int (zI (a))), some (.int (zI (f))), l12]) dX10_lay_275 (by decide) rfl rfl ?_
              refine pw_aload_n dX10_lay_277 rfl ?_
              refine pw_get (v := .ref (B + 4)) okX10 (k := 6) (by decide) lkX10_20 hA4.1 rfl dX10_lay_278 ?_
              refine pw_iload dX10_lay_281 rfl ?_
              refine pw_ialdv (v := g) (t := 0) rfl (mF6 (s := (mA 13 (va_up (s.2 13) (m).toNat (q)) (mA 12 (va_up (s.2 12) (m).toNat (u)) (mA 9 (va_up (s.2 9) (m).toNat (a)) s)))) hA4) (by omega) (by decide) (e6) dX10_lay_283 ?_
              refine pw_istore (lv' := [some (.ref B), some (.int (zI (b1))), some (.int (zI (b2))), some (.int (zI (b3))), some (.int (zI (b4))), some (.int (zI (b5))), some (.int (zI (M + (-1)))), some (.int (zI (m))), some (.int (zI (w0))), some (.int (zI (u))), some (.int (zI (a))), some (.int (zI (f))), some (.int (zI (g)))]) dX10_lay_284 (by decide) rfl rfl ?_
              refine pw_aload_n dX10_lay_286 rfl ?_
              refine pw_get (v := .ref (B + 8)) okX10 (k := 10) (by decide) lkX10_32 hA4.1 rfl dX10_lay_287 ?_
              refine pw_iload dX10_lay_290 rfl ?_
              refine pw_aload_n dX10_lay_292 rfl ?_
              refine pw_get (v := .ref (B + 8)) okX10 (k := 10) (by decide) lkX10_32 hA4.1 rfl dX10_lay_293 ?_
              refine pw_iload dX10_lay_296 rfl ?_
              refine pw_ialdv (v := x) (t := 0) rfl (mF10 (s := (mA 13 (va_up (s.2 13) (m).toNat (q)) (mA 12 (va_up (s.2 12) (m).toNat (u)) (mA 9 (va_up (s.2 9) (m).toNat (a)) s)))) hA4) (by omega) (by decide) (e10) dX10_lay_298 ?_
              refine pw_iast (g := (s.2 10)) (t := 0) rfl (mF10 (s := (mA 13 (va_up (s.2 13) (m).toNat (q)) (mA 12 (va_up (s.2 12) (m).toNat (u)) (mA 9 (va_up (s.2 9) (m).toNat (a)) s)))) hA4) (by omega) (by decide) dX10_lay_299 ?_
              have hA5 : mAt B (mA 10 (va_up (s.2 10) (f).toNat (x)) (mA 13 (va_up (s.2 13) (m).toNat (q)) (mA 12 (va_up (s.2 12) (m).toNat (u)) (mA 9 (va_up (s.2 9) (m).toNat (a)) s)))) (va_up h4 (B + 8) (pz_z 0 16 (va_up (s.2 10) (f).toNat (x)))) := mU10 hA4
              have hF5 : mFr B h (va_up h4 (B + 8) (pz_z 0 16 (va_up (s.2 10) (f).toNat (x)))) := mFr_tr hF4 (mFr_up (by decide))
              revert hA5 hF5
              generalize (va_up h4 (B + 8) (pz_z 0 16 (va_up (s.2 10) (f).toNat (x)))) = h5
              intro hA5 hF5
              refine pw_aload_n dX10_lay_300 rfl ?_
              refine pw_get (v := .ref (B + 9)) okX10 (k := 11) (by decide) lkX10_35 hA5.1 rfl dX10_lay_301 ?_
              refine pw_iload dX10_lay_304 rfl ?_
              refine pw_aload_n dX10_lay_306 rfl ?_
              refine pw_get (v := .ref (B + 9)) okX10 (k := 11) (by decide) lkX10_35 hA5.1 rfl dX10_lay_307 ?_
              refine pw_iload dX10_lay_310 rfl ?_
              refine pw_ialdv (v := y) (t := 0) rfl (mF11 (s := (mA 10 (va_up (s.2 10) (f).toNat (x)) (mA 13 (va_up (s.2 13) (m).toNat (q)) (mA 12 (va_up (s.2 12) (m).toNat (u)) (mA 9 (va_up (s.2 9) (m).toNat (a)) s))))) hA5) (by omega) (by decide) (e11) dX10_lay_312 ?_
              refine pw_iast (g := (s.2 11)) (t := 0) rfl (mF11 (s := (mA 10 (va_up (s.2 10) (f).toNat (x)) (mA 13 (va_up (s.2 13) (m).toNat (q)) (mA 12 (va_up (s.2 12) (m).toNat (u)) (mA 9 (va_up (s.2 9) (m).toNat (a)) s))))) hA5) (by omega) (by decide) dX10_lay_313 ?_
              have hA6 : mAt B (mA 11 (va_up (s.2 11) (f).toNat (y)) (mA 10 (va_up (s.2 10) (f).toNat (x)) (mA 13 (va_up (s.2 13) (m).toNat (q)) (mA 12 (va_up (s.2 12) (m).toNat (u)) (mA 9 (va_up (s.2 9) (m).toNat (a)) s))))) (va_up h5 (B + 9) (pz_z 0 16 (va_up (s.2 11) (f).toNat (y)))) := mU11 hA5
              have hF6 : mFr B h (va_up h5 (B + 9) (pz_z 0 16 (va_up (s.2 11) (f).toNat (y)))) := mFr_tr hF5 (mFr_up (by decide))
              revert hA6 hF6
              generalize (va_up h5 (B + 9) (pz_z 0 16 (va_up (s.2 11) (f).toNat (y)))) = h6
              intro hA6 hF6
              refine pw_aload_n dX10_lay_314 rfl ?_
              refine pw_get (v := .ref (B + 48)) okX10 (k := 59) (by decide) lkX10_156 hA6.1 rfl dX10_lay_315 ?_
              refine pw_iload dX10_lay_318 rfl ?_
              refine pw_aload_n dX10_lay_320 rfl ?_
              refine pw_get (v := .ref (B + 6)) okX10 (k := 8) (by decide) lkX10_26 hA6.1 rfl dX10_lay_321 ?_
              refine pw_iload dX10_lay_324 rfl ?_
              refine pw_zaldv (v := 0) (t := 1) rfl (mF8 (s := (mA 11 (va_up (s.2 11) (f).toNat (y)) (mA 10 (va_up (s.2 10) (f).toNat (x)) (mA 13 (va_up (s.2 13) (m).toNat (q)) (mA 12 (va_up (s.2 12) (m).toNat (u)) (mA 9 (va_up (s.2 9) (m).toNat (a)) s)))))) hA6) (by omega) (by decide) (e8) dX10_lay_326 ?_
              refine pw_if_eq (tgt := 340) dX10_lay_327 rfl (by omega) (fun c327 => ?_) (fun c327 => ?_)
              ·
                refine pw_iload dX10_lay_340 rfl ?_
                refine pw_iast (g := (s.2 59)) (t := 0) rfl (mF59 (s := (mA 11 (va_up (s.2 11) (f).toNat (y)) (mA 10 (va_up (s.2 10) (f).toNat (x)) (mA 13 (va_up (s.2 13) (m).toNat (q)) (mA 12 (va_up (s.2 12) (m).toNat (u)) (mA 9 (va_up (s.2 9) (m).toNat (a)) s)))))) hA6) (by omega) (by decide) dX10_lay_342 ?_
                have hA7 : mAt B (mA 59 (va_up (s.2 59) (f).toNat (a)) (mA 11 (va_up (s.2 11) (f).toNat (y)) (mA 10 (va_up (s.2 10) (f).toNat (x)) (mA 13 (va_up (s.2 13) (m).toNat (q)) (mA 12 (va_up (s.2 12) (m).toNat (u)) (mA 9 (va_up (s.2 9) (m).toNat (a)) s)))))) (va_up h6 (B + 48) (pz_z 0 16 (va_up (s.2 59) (f).toNat (a)))) := mU59 hA6
                have hF7 : mFr B h (va_up h6 (B + 48) (pz_z 0 16 (va_up (s.2 59) (f).toNat (a)))) := mFr_tr hF6 (mFr_up (by decide))
                revert hA7 hF7
                generalize (va_up h6 (B + 48) (pz_z 0 16 (va_up (s.2 59) (f).toNat (a)))) = h7
                intro hA7 hF7
                refine pw_aload_n dX10_lay_343 rfl ?_
                refine pw_get (v := .ref (B + 49)) okX10 (k := 60) (by decide) lkX10_159 hA7.1 rfl dX10_lay_344 ?_
                refine pw_iload dX10_lay_347 rfl ?_
                refine pw_aload_n dX10_lay_349 rfl ?_
                refine pw_get (v := .ref (B + 6)) okX10 (k := 8) (by decide) lkX10_26 hA7.1 rfl dX10_lay_350 ?_
                refine pw_iload dX10_lay_353 rfl ?_
                refine pw_zaldv (v := 0) (t := 1) rfl (mF8 (s := (mA 59 (va_up (s.2 59) (f).toNat (a)) (mA 11 (va_up (s.2 11) (f).toNat (y)) (mA 10 (va_up (s.2 10) (f).toNat (x)) (mA 13 (va_up (s.2 13) (m).toNat (q)) (mA 12 (va_up (s.2 12) (m).toNat (u)) (mA 9 (va_up (s.2 9) (m).toNat (a)) s))))))) hA7) (by omega) (by decide) (e8) dX10_lay_355 ?_
                refine pw_if_eq (tgt := 364) dX10_lay_356 rfl (by omega) (fun c356 => ?_) (fun c356 => ?_)
                ·
                  refine pw_aload_n dX10_lay_364 rfl ?_
                  refine pw_get (v := .ref (B + 11)) okX10 (k := 13) (by decide) lkX10_41 hA7.1 rfl dX10_lay_365 ?_
                  refine pw_iload dX10_lay_368 rfl ?_
                  refine pw_ialdv (v := q) (t := 0) rfl (mF13 (s := (mA 59 (va_up (s.2 59) (f).toNat (a)) (mA 11 (va_up (s.2 11) (f).toNat (y)) (mA 10 (va_up (s.2 10) (f).toNat (x)) (mA 13 (va_up (s.2 13) (m).toNat (q)) (mA 12 (va_up (s.2 12) (m).toNat (u)) (mA 9 (va_up (s.2 9) (m).toNat (a)) s))))))) hA7) (by omega) (by decide) (va_up_self _ _ _) dX10_lay_370 ?_
                  refine pw_iast (g := (s.2 60)) (t := 0) rfl (mF60 (s := (mA 59 (va_up (s.2 59) (f).toNat (a)) (mA 11 (va_up (s.2 11) (f).toNat (y)) (mA 10 (va_up (s.2 10) (f).toNat (x)) (mA 13 (va_up (s.2 13) (m).toNat (q)) (mA 12 (va_up (s.2 12) (m).toNat (u)) (mA 9 (va_up (s.2 9) (m).toNat (a)) s))))))) hA7) (by omega) (by decide) dX10_lay_371 ?_
                  have hA8 : mAt B (mA 60 (va_up (s.2 60) (f).toNat (q)) (mA 59 (va_up (s.2 59) (f).toNat (a)) (mA 11 (va_up (s.2 11) (f).toNat (y)) (mA 10 (va_up (s.2 10) (f).toNat (x)) (mA 13 (va_up (s.2 13) (m).toNat (q)) (mA 12 (va_up (s.2 12) (m).toNat (u)) (mA 9 (va_up (s.2 9) (m).toNat (a)) s))))))) (va_up h7 (B + 49) (pz_z 0 16 (va_up (s.2 60) (f).toNat (q)))) := mU60 hA7
                  have hF8 : mFr B h (va_up h7 (B + 49) (pz_z 0 16 (va_up (s.2 60) (f).toNat (q)))) := mFr_tr hF7 (mFr_up (by decide))
                  revert hA8 hF8
                  generalize (va_up h7 (B + 49) (pz_z 0 16 (va_up (s.2 60) (f).toNat (q)))) = h8
                  intro hA8 hF8
                  refine pw_aload_n dX10_lay_372 rfl ?_
                  refine pw_get (v := .ref (B + 8)) okX10 (k := 10) (by decide) lkX10_32 hA8.1 rfl dX10_lay_373 ?_
                  refine pw_iload dX10_lay_376 rfl ?_
                  refine pw_aload_n dX10_lay_378 rfl ?_
                  refine pw_get (v := .ref (B + 6)) okX10 (k := 8) (by decide) lkX10_26 hA8.1 rfl dX10_lay_379 ?_
                  refine pw_iload dX10_lay_382 rfl ?_
                  refine pw_zaldv (v := 0) (t := 1) rfl (mF8 (s := (mA 60 (va_up (s.2 60) (f).toNat (q)) (mA 59 (va_up (s.2 59) (f).toNat (a)) (mA 11 (va_up (s.2 11) (f).toNat (y)) (mA 10 (va_up (s.2 10) (f).toNat (x)) (mA 13 (va_up (s.2 13) (m).toNat (q)) (mA 12 (va_up (s.2 12) (m).toNat (u)) (mA 9 (va_up (s.2 9) (m).toNat (a)) s)))))))) hA8) (by omega) (by decide) (e8) dX10_lay_384 ?_
                  refine pw_if_eq (tgt := 398) dX10_lay_385 rfl (by omega) (fun c385 => ?_) (fun c385 => ?_)
                  ·
                    refine pw_aload_n dX10_lay_398 rfl ?_
                    refine pw_get (v := .ref (B + 8)) okX10 (k := 10) (by decide) lkX10_32 hA8.1 rfl dX10_lay_399 ?_
                    refine pw_iload dX10_lay_402 rfl ?_
                    refine pw_ialdv (v := x) (t := 0) rfl (mF10 (s := (mA 60 (va_up (s.2 60) (f).toNat (q)) (mA 59 (va_up (s.2 59) (f).toNat (a)) (mA 11 (va_up (s.2 11) (f).toNat (y)) (mA 10 (va_up (s.2 10) (f).toNat (x)) (mA 13 (va_up (s.2 13) (m).toNat (q)) (mA 12 (va_up (s.2 12) (m).toNat (u)) (mA 9 (va_up (s.2 9) (m).toNat (a)) s)))))))) hA8) (by omega) (by decide) ((va_up_ne _ _ (by omega)).trans (e10)) dX10_lay_404 ?_
                    refine pw_iload dX10_lay_405 rfl ?_
                    refine pw_ziadd dX10_lay_407 ?_
                    refine pw_iconst (v := zI (1)) dX10_lay_408 (by decide) ?_
                    refine pw_ziadd dX10_lay_409 ?_
                    refine pw_iast (g := (va_up (s.2 10) (f).toNat (x))) (t := 0) rfl (mF10 (s := (mA 60 (va_up (s.2 60) (f).toNat (q)) (mA 59 (va_up (s.2 59) (f).toNat (a)) (mA 11 (va_up (s.2 11) (f).toNat (y)) (mA 10 (va_up (s.2 10) (f).toNat (x)) (mA 13 (va_up (s.2 13) (m).toNat (q)) (mA 12 (va_up (s.2 12) (m).toNat (u)) (mA 9 (va_up (s.2 9) (m).toNat (a)) s)))))))) hA8) (by omega) (by decide) dX10_lay_410 ?_
                    have hA9 : mAt B (mA 10 (va_up (va_up (s.2 10) (f).toNat (x)) (g).toNat ((x + a) + (1))) (mA 60 (va_up (s.2 60) (f).toNat (q)) (mA 59 (va_up (s.2 59) (f).toNat (a)) (mA 11 (va_up (s.2 11) (f).toNat (y)) (mA 10 (va_up (s.2 10) (f).toNat (x)) (mA 13 (va_up (s.2 13) (m).toNat (q)) (mA 12 (va_up (s.2 12) (m).toNat (u)) (mA 9 (va_up (s.2 9) (m).toNat (a)) s)))))))) (va_up h8 (B + 8) (pz_z 0 16 (va_up (va_up (s.2 10) (f).toNat (x)) (g).toNat ((x + a) + (1))))) := mU10 hA8
                    have hF9 : mFr B h (va_up h8 (B + 8) (pz_z 0 16 (va_up (va_up (s.2 10) (f).toNat (x)) (g).toNat ((x + a) + (1))))) := mFr_tr hF8 (mFr_up (by decide))
                    revert hA9 hF9
                    generalize (va_up h8 (B + 8) (pz_z 0 16 (va_up (va_up (s.2 10) (f).toNat (x)) (g).toNat ((x + a) + (1))))) = h9
                    intro hA9 hF9
                    refine pw_aload_n dX10_lay_411 rfl ?_
                    refine pw_get (v := .ref (B + 9)) okX10 (k := 11) (by decide) lkX10_35 hA9.1 rfl dX10_lay_412 ?_
                    refine pw_iload dX10_lay_415 rfl ?_
                    refine pw_aload_n dX10_lay_417 rfl ?_
                    refine pw_get (v := .ref (B + 6)) okX10 (k := 8) (by decide) lkX10_26 hA9.1 rfl dX10_lay_418 ?_
                    refine pw_iload dX10_lay_421 rfl ?_
                    refine pw_zaldv (v := 0) (t := 1) rfl (mF8 (s := (mA 10 (va_up (va_up (s.2 10) (f).toNat (x)) (g).toNat ((x + a) + (1))) (mA 60 (va_up (s.2 60) (f).toNat (q)) (mA 59 (va_up (s.2 59) (f).toNat (a)) (mA 11 (va_up (s.2 11) (f).toNat (y)) (mA 10 (va_up (s.2 10) (f).toNat (x)) (mA 13 (va_up (s.2 13) (m).toNat (q)) (mA 12 (va_up (s.2 12) (m).toNat (u)) (mA 9 (va_up (s.2 9) (m).toNat (a)) s))))))))) hA9) (by omega) (by decide) (e8) dX10_lay_423 ?_
                    refine pw_if_eq (tgt := 442) dX10_lay_424 rfl (by omega) (fun c424 => ?_) (fun c424 => ?_)
                    ·
                      refine pw_aload_n dX10_lay_442 rfl ?_
                      refine pw_get (v := .ref (B + 9)) okX10 (k := 11) (by decide) lkX10_35 hA9.1 rfl dX10_lay_443 ?_
                      refine pw_iload dX10_lay_446 rfl ?_
                      refine pw_ialdv (v := y) (t := 0) rfl (mF11 (s := (mA 10 (va_up (va_up (s.2 10) (f).toNat (x)) (g).toNat ((x + a) + (1))) (mA 60 (va_up (s.2 60) (f).toNat (q)) (mA 59 (va_up (s.2 59) (f).toNat (a)) (mA 11 (va_up (s.2 11) (f).toNat (y)) (mA 10 (va_up (s.2 10) (f).toNat (x)) (mA 13 (va_up (s.2 13) (m).toNat (q)) (mA 12 (va_up (s.2 12) (m).toNat (u)) (mA 9 (va_up (s.2 9) (m).toNat (a)) s))))))))) hA9) (by omega) (by decide) ((va_up_ne _ _ (by omega)).trans (e11)) dX10_lay_448 ?_
                      refine pw_iast (g := (va_up (s.2 11) (f).toNat (y))) (t := 0) rfl (mF11 (s := (mA 10 (va_up (va_up (s.2 10) (f).toNat (x)) (g).toNat ((x + a) + (1))) (mA 60 (va_up (s.2 60) (f).toNat (q)) (mA 59 (va_up (s.2 59) (f).toNat (a)) (mA 11 (va_up (s.2 11) (f).toNat (y)) (mA 10 (va_up (s.2 10) (f).toNat (x)) (mA 13 (va_up (s.2 13) (m).toNat (q)) (mA 12 (va_up (s.2 12) (m).toNat (u)) (mA 9 (va_up (s.2 9) (m).toNat (a)) s))))))))) hA9) (by omega) (by decide) dX10_lay_449 ?_
                      have hA10 : mAt B (mA 11 (va_up (va_up (s.2 11) (f).toNat (y)) (g).toNat (y)) (mA 10 (va_up (va_up (s.2 10) (f).toNat (x)) (g).toNat ((x + a) + (1))) (mA 60 (va_up (s.2 60) (f).toNat (q)) (mA 59 (va_up (s.2 59) (f).toNat (a)) (mA 11 (va_up (s.2 11) (f).toNat (y)) (mA 10 (va_up (s.2 10) (f).toNat (x)) (mA 13 (va_up (s.2 13) (m).toNat (q)) (mA 12 (va_up (s.2 12) (m).toNat (u)) (mA 9 (va_up (s.2 9) (m).toNat (a)) s))))))))) (va_up h9 (B + 9) (pz_z 0 16 (va_up (va_up (s.2 11) (f).toNat (y)) (g).toNat (y)))) := mU11 hA9
                      have hF10 : mFr B h (va_up h9 (B + 9) (pz_z 0 16 (va_up (va_up (s.2 11) (f).toNat (y)) (g).toNat (y)))) := mFr_tr hF9 (mFr_up (by decide))
                      revert hA10 hF10
                      generalize (va_up h9 (B + 9) (pz_z 0 16 (va_up (va_up (s.2 11) (f).toNat (y)) (g).toNat (y)))) = h10
                      intro hA10 hF10
                      refine pw_aload_n dX10_lay_450 rfl ?_
                      refine pw_get (v := .ref (B + 48)) okX10 (k := 59) (by decide) lkX10_156 hA10.1 rfl dX10_lay_451 ?_
                      refine pw_iload dX10_lay_454 rfl ?_
                      refine pw_aload_n dX10_lay_456 rfl ?_
                      refine pw_get (v := .ref (B + 6)) okX10 (k := 8) (by decide) lkX10_26 hA10.1 rfl dX10_lay_457 ?_
                      refine pw_iload dX10_lay_460 rfl ?_
                      refine pw_zaldv (v := 0) (t := 1) rfl (mF8 (s := (mA 11 (va_up (va_up (s.2 11) (f).toNat (y)) (g).toNat (y)) (mA 10 (va_up (va_up (s.2 10) (f).toNat (x)) (g).toNat ((x + a) + (1))) (mA 60 (va_up (s.2 60) (f).toNat (q)) (mA 59 (va_up (s.2 59) (f).toNat (a)) (mA 11 (va_up (s.2 11) (f).toNat (y)) (mA 10 (va_up (s.2 10) (f).toNat (x)) (mA 13 (va_up (s.2 13) (m).toNat (q)) (mA 12 (va_up (s.2 12) (m).toNat (u)) (mA 9 (va_up (s.2 9) (m).toNat (a)) s)))))))))) hA10) (by omega) (by decide) (e8) dX10_lay_462 ?_
                      refine pw_if_eq (tgt := 476) dX10_lay_463 rfl (by omega) (fun c463 => ?_) (fun c463 => ?_)
                      ·
                        refine pw_iload dX10_lay_476 rfl ?_
                        refine pw_iconst (v := zI (1)) dX10_lay_478 (by decide) ?_
                        refine pw_zisub dX10_lay_479 ?_
                        refine pw_iload dX10_lay_480 rfl ?_
                        refine pw_zisub dX10_lay_482 ?_
                        refine pw_iast (g := (va_up (s.2 59) (f).toNat (a))) (t := 0) rfl (mF59 (s := (mA 11 (va_up (va_up (s.2 11) (f).toNat (y)) (g).toNat (y)) (mA 10 (va_up (va_up (s.2 10) (f).toNat (x)) (g).toNat ((x + a) + (1))) (mA 60 (va_up (s.2 60) (f).toNat (q)) (mA 59 (va_up (s.2 59) (f).toNat (a)) (mA 11 (va_up (s.2 11) (f).toNat (y)) (mA 10 (va_up (s.2 10) (f).toNat (x)) (mA 13 (va_up (s.2 13) (m).toNat (q)) (mA 12 (va_up (s.2 12) (m).toNat (u)) (mA 9 (va_up (s.2 9) (m).toNat (a)) s)))))))))) hA10) (by omega) (by decide) dX10_lay_483 ?_
                        have hA11 : mAt B (mA 59 (va_up (va_up (s.2 59) (f).toNat (a)) (g).toNat ((u - 1) - (a))) (mA 11 (va_up (va_up (s.2 11) (f).toNat (y)) (g).toNat (y)) (mA 10 (va_up (va_up (s.2 10) (f).toNat (x)) (g).toNat ((x + a) + (1))) (mA 60 (va_up (s.2 60) (f).toNat (q)) (mA 59 (va_up (s.2 59) (f).toNat (a)) (mA 11 (va_up (s.2 11) (f).toNat (y)) (mA 10 (va_up (s.2 10) (f).toNat (x)) (mA 13 (va_up (s.2 13) (m).toNat (q)) (mA 12 (va_up (s.2 12) (m).toNat (u)) (mA 9 (va_up (s.2 9) (m).toNat (a)) s)))))))))) (va_up h10 (B + 48) (pz_z 0 16 (va_up (va_up (s.2 59) (f).toNat (a)) (g).toNat ((u - 1) - (a))))) := mU59 hA10
                        have hF11 : mFr B h (va_up h10 (B + 48) (pz_z 0 16 (va_up (va_up (s.2 59) (f).toNat (a)) (g).toNat ((u - 1) - (a))))) := mFr_tr hF10 (mFr_up (by decide))
                        revert hA11 hF11
                        generalize (va_up h10 (B + 48) (pz_z 0 16 (va_up (va_up (s.2 59) (f).toNat (a)) (g).toNat ((u - 1) - (a))))) = h11
                        intro hA11 hF11
                        refine pw_aload_n dX10_lay_484 rfl ?_
                        refine pw_get (v := .ref (B + 49)) okX10 (k := 60) (by decide) lkX10_159 hA11.1 rfl dX10_lay_485 ?_
                        refine pw_iload dX10_lay_488 rfl ?_
                        refine pw_aload_n dX10_lay_490 rfl ?_
                        refine pw_get (v := .ref (B + 6)) okX10 (k := 8) (by decide) lkX10_26 hA11.1 rfl dX10_lay_491 ?_
                        refine pw_iload dX10_lay_494 rfl ?_
                        refine pw_zaldv (v := 0) (t := 1) rfl (mF8 (s := (mA 59 (va_up (va_up (s.2 59) (f).toNat (a)) (g).toNat ((u - 1) - (a))) (mA 11 (va_up (va_up (s.2 11) (f).toNat (y)) (g).toNat (y)) (mA 10 (va_up (va_up (s.2 10) (f).toNat (x)) (g).toNat ((x + a) + (1))) (mA 60 (va_up (s.2 60) (f).toNat (q)) (mA 59 (va_up (s.2 59) (f).toNat (a)) (mA 11 (va_up (s.2 11) (f).toNat (y)) (mA 10 (va_up (s.2 10) (f).toNat (x)) (mA 13 (va_up (s.2 13) (m).toNat (q)) (mA 12 (va_up (s.2 12) (m).toNat (u)) (mA 9 (va_up (s.2 9) (m).toNat (a)) s))))))))))) hA11) (by omega) (by decide) (e8) dX10_lay_496 ?_
                        refine pw_if_eq (tgt := 510) dX10_lay_497 rfl (by omega) (fun c497 => ?_) (fun c497 => ?_)
                        ·
                          refine pw_aload_n dX10_lay_510 rfl ?_
                          refine pw_get (v := .ref (B + 11)) okX10 (k := 13) (by decide) lkX10_41 hA11.1 rfl dX10_lay_511 ?_
                          refine pw_iload dX10_lay_514 rfl ?_
                          refine pw_ialdv (v := q) (t := 0) rfl (mF13 (s := (mA 59 (va_up (va_up (s.2 59) (f).toNat (a)) (g).toNat ((u - 1) - (a))) (mA 11 (va_up (va_up (s.2 11) (f).toNat (y)) (g).toNat (y)) (mA 10 (va_up (va_up (s.2 10) (f).toNat (x)) (g).toNat ((x + a) + (1))) (mA 60 (va_up (s.2 60) (f).toNat (q)) (mA 59 (va_up (s.2 59) (f).toNat (a)) (mA 11 (va_up (s.2 11) (f).toNat (y)) (mA 10 (va_up (s.2 10) (f).toNat (x)) (mA 13 (va_up (s.2 13) (m).toNat (q)) (mA 12 (va_up (s.2 12) (m).toNat (u)) (mA 9 (va_up (s.2 9) (m).toNat (a)) s))))))))))) hA11) (by omega) (by decide) (va_up_self _ _ _) dX10_lay_516 ?_
                          refine pw_iast (g := (va_up (s.2 60) (f).toNat (q))) (t := 0) rfl (mF60 (s := (mA 59 (va_up (va_up (s.2 59) (f).toNat (a)) (g).toNat ((u - 1) - (a))) (mA 11 (va_up (va_up (s.2 11) (f).toNat (y)) (g).toNat (y)) (mA 10 (va_up (va_up (s.2 10) (f).toNat (x)) (g).toNat ((x + a) + (1))) (mA 60 (va_up (s.2 60) (f).toNat (q)) (mA 59 (va_up (s.2 59) (f).toNat (a)) (mA 11 (va_up (s.2 11) (f).toNat (y)) (mA 10 (va_up (s.2 10) (f).toNat (x)) (mA 13 (va_up (s.2 13) (m).toNat (q)) (mA 12 (va_up (s.2 12) (m).toNat (u)) (mA 9 (va_up (s.2 9) (m).toNat (a)) s))))))))))) hA11) (by omega) (by decide) dX10_lay_517 ?_
                          have hA12 : mAt B (mA 60 (va_up (va_up (s.2 60) (f).toNat (q)) (g).toNat (q)) (mA 59 (va_up (va_up (s.2 59) (f).toNat (a)) (g).toNat ((u - 1) - (a))) (mA 11 (va_up (va_up (s.2 11) (f).toNat (y)) (g).toNat (y)) (mA 10 (va_up (va_up (s.2 10) (f).toNat (x)) (g).toNat ((x + a) + (1))) (mA 60 (va_up (s.2 60) (f).toNat (q)) (mA 59 (va_up (s.2 59) (f).toNat (a)) (mA 11 (va_up (s.2 11) (f).toNat (y)) (mA 10 (va_up (s.2 10) (f).toNat (x)) (mA 13 (va_up (s.2 13) (m).toNat (q)) (mA 12 (va_up (s.2 12) (m).toNat (u)) (mA 9 (va_up (s.2 9) (m).toNat (a)) s))))))))))) (va_up h11 (B + 49) (pz_z 0 16 (va_up (va_up (s.2 60) (f).toNat (q)) (g).toNat (q)))) := mU60 hA11
                          have hF12 : mFr B h (va_up h11 (B + 49) (pz_z 0 16 (va_up (va_up (s.2 60) (f).toNat (q)) (g).toNat (q)))) := mFr_tr hF11 (mFr_up (by decide))
                          revert hA12 hF12
                          generalize (va_up h11 (B + 49) (pz_z 0 16 (va_up (va_up (s.2 60) (f).toNat (q)) (g).toNat (q)))) = h12
                          intro hA12 hF12
                          refine pw_aload_n dX10_lay_518 rfl ?_
                          refine pw_get (v := .ref (B + 12)) okX10 (k := 15) (by decide) lkX10_44 hA12.1 rfl dX10_lay_519 ?_
                          refine pw_iload dX10_lay_522 rfl ?_
                          refine pw_iload dX10_lay_524 rfl ?_
                          refine pw_iast (g := (s.2 15)) (t := 0) rfl (mF15 (s := (mA 60 (va_up (va_up (s.2 60) (f).toNat (q)) (g).toNat (q)) (mA 59 (va_up (va_up (s.2 59) (f).toNat (a)) (g).toNat ((u - 1) - (a))) (mA 11 (va_up (va_up (s.2 11) (f).toNat (y)) (g).toNat (y)) (mA 10 (va_up (va_up (s.2 10) (f).toNat (x)) (g).toNat ((x + a) + (1))) (mA 60 (va_up (s.2 60) (f).toNat (q)) (mA 59 (va_up (s.2 59) (f).toNat (a)) (mA 11 (va_up (s.2 11) (f).toNat (y)) (mA 10 (va_up (s.2 10) (f).toNat (x)) (mA 13 (va_up (s.2 13) (m).toNat (q)) (mA 12 (va_up (s.2 12) (m).toNat (u)) (mA 9 (va_up (s.2 9) (m).toNat (a)) s)))))))))))) hA12) (by omega) (by decide) dX10_lay_526 ?_
                          have hA13 : mAt B (mA 15 (va_up (s.2 15) (M + (-1)).toNat (f)) (mA 60 (va_up (va_up (s.2 60) (f).toNat (q)) (g).toNat (q)) (mA 59 (va_up (va_up (s.2 59) (f).toNat (a)) (g).toNat ((u - 1) - (a))) (mA 11 (va_up (va_up (s.2 11) (f).toNat (y)) (g).toNat (y)) (mA 10 (va_up (va_up (s.2 10) (f).toNat (x)) (g).toNat ((x + a) + (1))) (mA 60 (va_up (s.2 60) (f).toNat (q)) (mA 59 (va_up (s.2 59) (f).toNat (a)) (mA 11 (va_up (s.2 11) (f).toNat (y)) (mA 10 (va_up (s.2 10) (f).toNat (x)) (mA 13 (va_up (s.2 13) (m).toNat (q)) (mA 12 (va_up (s.2 12) (m).toNat (u)) (mA 9 (va_up (s.2 9) (m).toNat (a)) s)))))))))))) (va_up h12 (B + 12) (pz_z 0 16 (va_up (s.2 15) (M + (-1)).toNat (f)))) := mU15 hA12
                          have hF13 : mFr B h (va_up h12 (B + 12) (pz_z 0 16 (va_up (s.2 15) (M + (-1)).toNat (f)))) := mFr_tr hF12 (mFr_up (by decide))
                          revert hA13 hF13
                          generalize (va_up h12 (B + 12) (pz_z 0 16 (va_up (s.2 15) (M + (-1)).toNat (f)))) = h13
                          intro hA13 hF13
                          refine pw_aload_n dX10_lay_527 rfl ?_
                          refine pw_get (v := .ref (B + 12)) okX10 (k := 15) (by decide) lkX10_44 hA13.1 rfl dX10_lay_528 ?_
                          refine pw_iload dX10_lay_531 rfl ?_
                          refine pw_iconst (v := zI (1)) dX10_lay_533 (by decide) ?_
                          refine pw_ziadd dX10_lay_534 ?_
                          refine pw_iload dX10_lay_535 rfl ?_
                          refine pw_iast (g := (va_up (s.2 15) (M + (-1)).toNat (f))) (t := 0) rfl (mF15 (s := (mA 15 (va_up (s.2 15) (M + (-1)).toNat (f)) (mA 60 (va_up (va_up (s.2 60) (f).toNat (q)) (g).toNat (q)) (mA 59 (va_up (va_up (s.2 59) (f).toNat (a)) (g).toNat ((u - 1) - (a))) (mA 11 (va_up (va_up (s.2 11) (f).toNat (y)) (g).toNat (y)) (mA 10 (va_up (va_up (s.2 10) (f).toNat (x)) (g).toNat ((x + a) + (1))) (mA 60 (va_up (s.2 60) (f).toNat (q)) (mA 59 (va_up (s.2 59) (f).toNat (a)) (mA 11 (va_up (s.2 11) (f).toNat (y)) (mA 10 (va_up (s.2 10) (f).toNat (x)) (mA 13 (va_up (s.2 13) (m).toNat (q)) (mA 12 (va_up (s.2 12) (m).toNat (u)) (mA 9 (va_up (s.2 9) (m).toNat (a)) s))))))))))))) hA13) (by omega) (by decide) dX10_lay_537 ?_
                          have hA14 : mAt B (mA 15 (va_up (va_up (s.2 15) (M + (-1)).toNat (f)) ((M + (-1)) + (1)).toNat (g)) (mA 15 (va_up (s.2 15) (M + (-1)).toNat (f)) (mA 60 (va_up (va_up (s.2 60) (f).toNat (q)) (g).toNat (q)) (mA 59 (va_up (va_up (s.2 59) (f).toNat (a)) (g).toNat ((u - 1) - (a))) (mA 11 (va_up (va_up (s.2 11) (f).toNat (y)) (g).toNat (y)) (mA 10 (va_up (va_up (s.2 10) (f).toNat (x)) (g).toNat ((x + a) + (1))) (mA 60 (va_up (s.2 60) (f).toNat (q)) (mA 59 (va_up (s.2 59) (f).toNat (a)) (mA 11 (va_up (s.2 11) (f).toNat (y)) (mA 10 (va_up (s.2 10) (f).toNat (x)) (mA 13 (va_up (s.2 13) (m).toNat (q)) (mA 12 (va_up (s.2 12) (m).toNat (u)) (mA 9 (va_up (s.2 9) (m).toNat (a)) s))))))))))))) (va_up h13 (B + 12) (pz_z 0 16 (va_up (va_up (s.2 15) (M + (-1)).toNat (f)) ((M + (-1)) + (1)).toNat (g)))) := mU15 hA13
                          have hF14 : mFr B h (va_up h13 (B + 12) (pz_z 0 16 (va_up (va_up (s.2 15) (M + (-1)).toNat (f)) ((M + (-1)) + (1)).toNat (g)))) := mFr_tr hF13 (mFr_up (by decide))
                          revert hA14 hF14
                          generalize (va_up h13 (B + 12) (pz_z 0 16 (va_up (va_up (s.2 15) (M + (-1)).toNat (f)) ((M + (-1)) + (1)).toNat (g)))) = h14
                          intro hA14 hF14
                          refine pw_iload dX10_lay_538 rfl ?_
                          refine pw_iconst (v := zI (2)) dX10_lay_540 (by decide) ?_
                          refine pw_ziadd dX10_lay_541 ?_
                          refine pw_istore (lv' := [some (.ref B), some (.int (zI (b1))), some (.int (zI (b2))), some (.int (zI (b3))), some (.int (zI (b4))), some (.int (zI (b5))), some (.int (zI ((M + (-1)) + (2)))), some (.int (zI (m))), some (.int (zI (w0))), some (.int (zI (u))), some (.int (zI (a))), some (.int (zI (f))), some (.int (zI (g)))]) dX10_lay_542 (by decide) rfl rfl ?_
                          refine pw_goto (tgt := 40) dX10_lay_544 rfl ?_
                          exact kk _ (mA 15 (va_up (va_up (s.2 15) (M + (-1)).toNat (f)) ((M + (-1)) + (1)).toNat (g)) (mA 15 (va_up (s.2 15) (M + (-1)).toNat (f)) (mA 60 (va_up (va_up (s.2 60) (f).toNat (q)) (g).toNat (q)) (mA 59 (va_up (va_up (s.2 59) (f).toNat (a)) (g).toNat ((u - 1) - (a))) (mA 11 (va_up (va_up (s.2 11) (f).toNat (y)) (g).toNat (y)) (mA 10 (va_up (va_up (s.2 10) (f).toNat (x)) (g).toNat ((x + a) + (1))) (mA 60 (va_up (s.2 60) (f).toNat (q)) (mA 59 (va_up (s.2 59) (f).toNat (a)) (mA 11 (va_up (s.2 11) (f).toNat (y)) (mA 10 (va_up (s.2 10) (f).toNat (x)) (mA 13 (va_up (s.2 13) (m).toNat (q)) (mA 12 (va_up (s.2 12) (m).toNat (u)) (mA 9 (va_up (s.2 9) (m).toNat (a)) s))))))))))))) h14 hA14 hF14 ⟨hka.1, hka.2, hga.symm⟩ rfl (fun j h1 h2 h3 h4 h5 h6 h7 h8 => by repeat (first | rfl | rw [mA_ne (by assumption)])) rfl rfl rfl rfl rfl rfl rfl rfl
                        · exfalso; omega
                      · exfalso; omega
                    · exfalso; omega
                  · exfalso; omega
                · exfalso; omega
              · exfalso; omega
            · exfalso; omega
          · exfalso; omega
        · exfalso; omega
      · exfalso; omega
    · exfalso; omega
set_option maxHeartbeats 4000000 in
set_option maxRecDepth 100000 in
/-- a split, one step of lay -/
theorem lN_sp1 {E : pw_E} (htr : E.1.stackTraces = false) {Kk : pw_K} {h h1 : pz_H} {n B : Nat} {s : mS} {M m f g a0 w0 h0 x y u q : Int} {b1 b2 b3 b4 b5 : Int} {l7 l8 l9 l10 l11 l12 : Option Value} (hA : mAt B s h1) (hF : mFr B h h1) (hM : 1 ≤ M ∧ M ≤ 15) (hm : 0 ≤ m ∧ m < 16) (hf : 0 ≤ f ∧ f < 16) (hg : 0 ≤ g ∧ g < 16) (hmf : m ≠ f) (hmg : m ≠ g) (hfg : f ≠ g) (e15 : s.2 15 (M + (-1)).toNat = m) (e4 : s.2 4 m.toNat = -1) (e5 : s.2 5 m.toNat = f) (e6 : s.2 6 m.toNat = g) (e8 : s.2 8 m.toNat = 1) (e9 : s.2 9 m.toNat = a0) (e10 : s.2 10 m.toNat = x) (e11 : s.2 11 m.toNat = y) (e12 : s.2 12 m.toNat = w0) (e13 : s.2 13 m.toNat = h0) (e59 : s.2 59 m.toNat = u) (e60 : s.2 60 m.toNat = q) (hu : 1 ≤ u ∧ u ≤ 40) (hq : 1 ≤ q ∧ q ≤ 16) (ha0 : 1 ≤ a0 ∧ a0 ≤ 40) (hw0 : 3 ≤ h0 ∧ h0 ≤ 40) (hka0 : 1 ≤ (q - 1) * a0 / (h0 - 1) ∧ (q - 1) * a0 / (h0 - 1) ≤ q - 2) (kk : ∀ (a : Int) (s' : mS) (h' : pz_H), mAt B s' h' → mFr B h h' → (1 ≤ a ∧ a ≤ q - 2 ∧ a = (q - 1) * a0 / (h0 - 1)) → s'.1 = s.1 → (∀ j, j ≠ 9 → j ≠ 10 → j ≠ 11 → j ≠ 12 → j ≠ 13 → j ≠ 15 → j ≠ 59 → j ≠ 60 → s'.2 j = s.2 j) → s'.2 9 = (va_up (s.2 9) (m).toNat (a)) → s'.2 10 = (va_up (va_up (s.2 10) (f).toNat (x)) (g).toNat (x)) → s'.2 11 = (va_up (va_up (s.2 11) (f).toNat (y)) (g).toNat ((y + a) + (1))) → s'.2 12 = (va_up (s.2 12) (m).toNat (u)) → s'.2 13 = (va_up (s.2 13) (m).toNat (q)) → s'.2 15 = (va_up (va_up (s.2 15) (M + (-1)).toNat (f)) ((M + (-1)) + (1)).toNat (g)) → s'.2 59 = (va_up (va_up (s.2 59) (f).toNat (u)) (g).toNat (u)) → s'.2 60 = (va_up (va_up (s.2 60) (f).toNat (a)) (g).toNat ((q - 1) - (a))) → pw E YX10_lay (rmD 2 0 0) Kk 0 0 40 [some (.ref B), some (.int (zI (b1))), some (.int (zI (b2))), some (.int (zI (b3))), some (.int (zI (b4))), some (.int (zI (b5))), some (.int (zI ((M + (-1)) + (2)))), some (.int (zI (m))), some (.int (zI (h0))), some (.int (zI (q))), some (.int (zI (a))), some (.int (zI (f))), some (.int (zI (g)))] [] h' n) : pw E YX10_lay (rmD 2 0 0) Kk 0 0 40 [some (.ref B), some (.int (zI (b1))), some (.int (zI (b2))), some (.int (zI (b3))), some (.int (zI (b4))), some (.int (zI (b5))), some (.int (zI (M))), l7, l8, l9, l10, l11, l12] [] h1 n := by
  have hml : 0 ≤ (q - 1) * a0 ∧ (q - 1) * a0 < 2147483648 := by
    have h9 : (q - 1) * a0 ≤ 39 * 40 := Int.mul_le_mul (by omega) (by omega) (by omega) (by omega)
    exact ⟨Int.mul_nonneg (by omega) (by omega), by omega⟩
  have hka := hka0
  refine pw_iload dX10_lay_40 rfl ?_
  refine pw_if_le (tgt := 547) dX10_lay_42 rfl (by omega) (fun c42 => ?_) (fun c42 => ?_)
  · exfalso; omega
  ·
    refine pw_ziinc (lv' := [some (.ref B), some (.int (zI (b1))), some (.int (zI (b2))), some (.int (zI (b3))), some (.int (zI (b4))), some (.int (zI (b5))), some (.int (zI (M + (-1)))), l7, l8, l9, l10, l11, l12]) dX10_lay_45 rfl (by decide) rfl rfl ?_
    refine pw_aload_n dX10_lay_48 rfl ?_
    refine pw_get (v := .ref (B + 12)) okX10 (k := 15) (by decide) lkX10_44 hA.1 rfl dX10_lay_49 ?_
    refine pw_iload dX10_lay_52 rfl ?_
    refine pw_ialdv (v := m) (t := 0) rfl (mF15 (s := s) hA) (by omega) (by decide) (e15) dX10_lay_54 ?_
    refine pw_istore (lv' := [some (.ref B), some (.int (zI (b1))), some (.int (zI (b2))), some (.int (zI (b3))), some (.int (zI (b4))), some (.int (zI (b5))), some (.int (zI (M + (-1)))), some (.int (zI (m))), l8, l9, l10, l11, l12]) dX10_lay_55 (by decide) rfl rfl ?_
    refine pw_aload_n dX10_lay_57 rfl ?_
    refine pw_get (v := .ref (B + 2)) okX10 (k := 4) (by decide) lkX10_13 hA.1 rfl dX10_lay_58 ?_
    refine pw_iload dX10_lay_61 rfl ?_
    refine pw_ialdv (v := -1) (t := 0) rfl (mF4 (s := s) hA) (by omega) (by decide) (e4) dX10_lay_63 ?_
    refine pw_iconst (v := zI (-1)) dX10_lay_64 (by decide) ?_
    refine pw_icmp_eq (tgt := 124) dX10_lay_65 rfl (by omega) (by omega) (fun c65 => ?_) (fun c65 => ?_)
    ·
      refine pw_aload_n dX10_lay_124 rfl ?_
      refine pw_get (v := .ref (B + 6)) okX10 (k := 8) (by decide) lkX10_26 hA.1 rfl dX10_lay_125 ?_
      refine pw_iload dX10_lay_128 rfl ?_
      refine pw_zaldv (v := 1) (t := 1) rfl (mF8 (s := s) hA) (by omega) (by decide) (e8) dX10_lay_130 ?_
      refine pw_if_eq (tgt := 144) dX10_lay_131 rfl (by omega) (fun c131 => ?_) (fun c131 => ?_)
      · exfalso; omega
      ·
        refine pw_aload_n dX10_lay_134 rfl ?_
        refine pw_get (v := .ref (B + 11)) okX10 (k := 13) (by decide) lkX10_41 hA.1 rfl dX10_lay_135 ?_
        refine pw_iload dX10_lay_138 rfl ?_
        refine pw_ialdv (v := h0) (t := 0) rfl (mF13 (s := s) hA) (by omega) (by decide) (e13) dX10_lay_140 ?_
        refine pw_goto (tgt := 151) dX10_lay_141 rfl ?_
        refine pw_istore (lv' := [some (.ref B), some (.int (zI (b1))), some (.int (zI (b2))), some (.int (zI (b3))), some (.int (zI (b4))), some (.int (zI (b5))), some (.int (zI (M + (-1)))), some (.int (zI (m))), some (.int (zI (h0))), l9, l10, l11, l12]) dX10_lay_151 (by decide) rfl rfl ?_
        refine pw_aload_n dX10_lay_153 rfl ?_
        refine pw_get (v := .ref (B + 6)) okX10 (k := 8) (by decide) lkX10_26 hA.1 rfl dX10_lay_154 ?_
        refine pw_iload dX10_lay_157 rfl ?_
        refine pw_zaldv (v := 1) (t := 1) rfl (mF8 (s := s) hA) (by omega) (by decide) (e8) dX10_lay_159 ?_
        refine pw_if_eq (tgt := 173) dX10_lay_160 rfl (by omega) (fun c160 => ?_) (fun c160 => ?_)
        · exfalso; omega
        ·
          refine pw_aload_n dX10_lay_163 rfl ?_
          refine pw_get (v := .ref (B + 49)) okX10 (k := 60) (by decide) lkX10_159 hA.1 rfl dX10_lay_164 ?_
          refine pw_iload dX10_lay_167 rfl ?_
          refine pw_ialdv (v := q) (t := 0) rfl (mF60 (s := s) hA) (by omega) (by decide) (e60) dX10_lay_169 ?_
          refine pw_goto (tgt := 180) dX10_lay_170 rfl ?_
          refine pw_istore (lv' := [some (.ref B), some (.int (zI (b1))), some (.int (zI (b2))), some (.int (zI (b3))), some (.int (zI (b4))), some (.int (zI (b5))), some (.int (zI (M + (-1)))), some (.int (zI (m))), some (.int (zI (h0))), some (.int (zI (q))), l10, l11, l12]) dX10_lay_180 (by decide) rfl rfl ?_
          refine pw_iload dX10_lay_182 rfl ?_
          refine pw_iconst (v := zI (1)) dX10_lay_184 (by decide) ?_
          refine pw_zisub dX10_lay_185 ?_
          refine pw_aload_n dX10_lay_186 rfl ?_
          refine pw_get (v := .ref (B + 7)) okX10 (k := 9) (by decide) lkX10_29 hA.1 rfl dX10_lay_187 ?_
          refine pw_iload dX10_lay_190 rfl ?_
          refine pw_ialdv (v := a0) (t := 0) rfl (mF9 (s := s) hA) (by omega) (by decide) (e9) dX10_lay_192 ?_
          refine pw_zimul dX10_lay_193 ?_
          refine pw_iload dX10_lay_194 rfl ?_
          refine pw_iconst (v := zI (1)) dX10_lay_196 (by decide) ?_
          refine pw_zisub dX10_lay_197 ?_
          refine pw_zidiv dX10_lay_198 (show 0 ≤ (q - 1) * a0 ∧ (q - 1) * a0 < 2147483648 from hml) (by omega) ?_
          refine pw_istore (lv' := [some (.ref B), some (.int (zI (b1))), some (.int (zI (b2))), some (.int (zI (b3))), some (.int (zI (b4))), some (.int (zI (b5))), some (.int (zI (M + (-1)))), some (.int (zI (m))), some (.int (zI (h0))), some (.int (zI (q))), some (.int (zI (((q - 1) * (a0)) / (h0 - 1)))), l11, l12]) dX10_lay_199 (by decide) rfl rfl ?_
          revert hka
          generalize hga : ((q - 1) * (a0)) / (h0 - 1) = a
          intro hka
          refine pw_iload dX10_lay_201 rfl ?_
          refine pw_iconst (v := zI (1)) dX10_lay_203 (by decide) ?_
          refine pw_icmp_ge (tgt := 211) dX10_lay_204 rfl (by omega) (by omega) (fun c204 => ?_) (fun c204 => ?_)
          ·
            refine pw_iload dX10_lay_211 rfl ?_
            refine pw_iload dX10_lay_213 rfl ?_
            refine pw_iconst (v := zI (2)) dX10_lay_215 (by decide) ?_
            refine pw_zisub dX10_lay_216 ?_
            refine pw_icmp_le (tgt := 227) dX10_lay_217 rfl (by omega) (by omega) (fun c217 => ?_) (fun c217 => ?_)
            ·
              refine pw_iload dX10_lay_227 rfl ?_
              refine pw_istore (lv' := [some (.ref B), some (.int (zI (b1))), some (.int (zI (b2))), some (.int (zI (b3))), some (.int (zI (b4))), some (.int (zI (b5))), some (.int (zI (M + (-1)))), some (.int (zI (m))), some (.int (zI (h0))), some (.int (zI (q))), some (.int (zI (a))), l11, l12]) dX10_lay_229 (by decide) rfl rfl ?_
              refine pw_aload_n dX10_lay_231 rfl ?_
              refine pw_get (v := .ref (B + 7)) okX10 (k := 9) (by decide) lkX10_29 hA.1 rfl dX10_lay_232 ?_
              refine pw_iload dX10_lay_235 rfl ?_
              refine pw_iload dX10_lay_237 rfl ?_
              refine pw_iast (g := (s.2 9)) (t := 0) rfl (mF9 (s := s) hA) (by omega) (by decide) dX10_lay_239 ?_
              have hA2 : mAt B (mA 9 (va_up (s.2 9) (m).toNat (a)) s) (va_up h1 (B + 7) (pz_z 0 16 (va_up (s.2 9) (m).toNat (a)))) := mU9 hA
              have hF2 : mFr B h (va_up h1 (B + 7) (pz_z 0 16 (va_up (s.2 9) (m).toNat (a)))) := mFr_tr hF (mFr_up (by decide))
              revert hA2 hF2
              generalize (va_up h1 (B + 7) (pz_z 0 16 (va_up (s.2 9) (m).toNat (a)))) = h2
              intro hA2 hF2
              refine pw_aload_n dX10_lay_240 rfl ?_
              refine pw_get (v := .ref (B + 10)) okX10 (k := 12) (by decide) lkX10_38 hA2.1 rfl dX10_lay_241 ?_
              refine pw_iload dX10_lay_244 rfl ?_
              refine pw_aload_n dX10_lay_246 rfl ?_
              refine pw_get (v := .ref (B + 48)) okX10 (k := 59) (by decide) lkX10_156 hA2.1 rfl dX10_lay_247 ?_
              refine pw_iload dX10_lay_250 rfl ?_
              refine pw_ialdv (v := u) (t := 0) rfl (mF59 (s := (mA 9 (va_up (s.2 9) (m).toNat (a)) s)) hA2) (by omega) (by decide) (e59) dX10_lay_252 ?_
              refine pw_iast (g := (s.2 12)) (t := 0) rfl (mF12 (s := (mA 9 (va_up (s.2 9) (m).toNat (a)) s)) hA2) (by omega) (by decide) dX10_lay_253 ?_
              have hA3 : mAt B (mA 12 (va_up (s.2 12) (m).toNat (u)) (mA 9 (va_up (s.2 9) (m).toNat (a)) s)) (va_up h2 (B + 10) (pz_z 0 16 (va_up (s.2 12) (m).toNat (u)))) := mU12 hA2
              have hF3 : mFr B h (va_up h2 (B + 10) (pz_z 0 16 (va_up (s.2 12) (m).toNat (u)))) := mFr_tr hF2 (mFr_up (by decide))
              revert hA3 hF3
              generalize (va_up h2 (B + 10) (pz_z 0 16 (va_up (s.2 12) (m).toNat (u)))) = h3
              intro hA3 hF3
              refine pw_aload_n dX10_lay_254 rfl ?_
              refine pw_get (v := .ref (B + 11)) okX10 (k := 13) (by decide) lkX10_41 hA3.1 rfl dX10_lay_255 ?_
              refine pw_iload dX10_lay_258 rfl ?_
              refine pw_aload_n dX10_lay_260 rfl ?_
              refine pw_get (v := .ref (B + 49)) okX10 (k := 60) (by decide) lkX10_159 hA3.1 rfl dX10_lay_261 ?_
              refine pw_iload dX10_lay_264 rfl ?_
              refine pw_ialdv (v := q) (t := 0) rfl (mF60 (s := (mA 12 (va_up (s.2 12) (m).toNat (u)) (mA 9 (va_up (s.2 9) (m).toNat (a)) s))) hA3) (by omega) (by decide) (e60) dX10_lay_266 ?_
              refine pw_iast (g := (s.2 13)) (t := 0) rfl (mF13 (s := (mA 12 (va_up (s.2 12) (m).toNat (u)) (mA 9 (va_up (s.2 9) (m).toNat (a)) s))) hA3) (by omega) (by decide) dX10_lay_267 ?_
              have hA4 : mAt B (mA 13 (va_up (s.2 13) (m).toNat (q)) (mA 12 (va_up (s.2 12) (m).toNat (u)) (mA 9 (va_up (s.2 9) (m).toNat (a)) s))) (va_up h3 (B + 11) (pz_z 0 16 (va_up (s.2 13) (m).toNat (q)))) := mU13 hA3
              have hF4 : mFr B h (va_up h3 (B + 11) (pz_z 0 16 (va_up (s.2 13) (m).toNat (q)))) := mFr_tr hF3 (mFr_up (by decide))
              revert hA4 hF4
              generalize (va_up h3 (B + 11) (pz_z 0 16 (va_up (s.2 13) (m).toNat (q)))) = h4
              intro hA4 hF4
              refine pw_aload_n dX10_lay_268 rfl ?_
              refine pw_get (v := .ref (B + 3)) okX10 (k := 5) (by decide) lkX10_17 hA4.1 rfl dX10_lay_269 ?_
              refine pw_iload dX10_lay_272 rfl ?_
              refine pw_ialdv (v := f) (t := 0) rfl (mF5 (s := (mA 13 (va_up (s.2 13) (m).toNat (q)) (mA 12 (va_up (s.2 12) (m).toNat (u)) (mA 9 (va_up (s.2 9) (m).toNat (a)) s)))) hA4) (by omega) (by decide) (e5) dX10_lay_274 ?_
              refine pw_istore (lv' := [some (.ref B), some (.int (zI (b1))), some (.int (zI (b2))), some (.int (zI (b3))), some (.int (zI (b4))), some (.int (zI (b5))), some (.int (zI (M + (-1)))), some (.int (zI (m))), some (.int (zI (h0))), some (.int (zI (q))), some (.int (zI (a))), some (.int (zI (f))), l12]) dX10_lay_275 (by decide) rfl rfl ?_
              refine pw_aload_n dX10_lay_277 rfl ?_
              refine pw_get (v := .ref (B + 4)) okX10 (k := 6) (by decide) lkX10_20 hA4.1 rfl dX10_lay_278 ?_
              refine pw_iload dX10_lay_281 rfl ?_
              refine pw_ialdv (v := g) (t := 0) rfl (mF6 (s := (mA 13 (va_up (s.2 13) (m).toNat (q)) (mA 12 (va_up (s.2 12) (m).toNat (u)) (mA 9 (va_up (s.2 9) (m).toNat (a)) s)))) hA4) (by omega) (by decide) (e6) dX10_lay_283 ?_
              refine pw_istore (lv' := [some (.ref B), some (.int (zI (b1))), some (.int (zI (b2))), some (.int (zI (b3))), some (.int (zI (b4))), some (.int (zI (b5))), some (.int (zI (M + (-1)))), some (.int (zI (m))), some (.int (zI (h0))), some (.int (zI (q))), some (.int (zI (a))), some (.int (zI (f))), some (.int (zI (g)))]) dX10_lay_284 (by decide) rfl rfl ?_
              refine pw_aload_n dX10_lay_286 rfl ?_
              refine pw_get (v := .ref (B + 8)) okX10 (k := 10) (by decide) lkX10_32 hA4.1 rfl dX10_lay_287 ?_
              refine pw_iload dX10_lay_290 rfl ?_
              refine pw_aload_n dX10_lay_292 rfl ?_
              refine pw_get (v := .ref (B + 8)) okX10 (k := 10) (by decide) lkX10_32 hA4.1 rfl dX10_lay_293 ?_
              refine pw_iload dX10_lay_296 rfl ?_
              refine pw_ialdv (v := x) (t := 0) rfl (mF10 (s := (mA 13 (va_up (s.2 13) (m).toNat (q)) (mA 12 (va_up (s.2 12) (m).toNat (u)) (mA 9 (va_up (s.2 9) (m).toNat (a)) s)))) hA4) (by omega) (by decide) (e10) dX10_lay_298 ?_
              refine pw_iast (g := (s.2 10)) (t := 0) rfl (mF10 (s := (mA 13 (va_up (s.2 13) (m).toNat (q)) (mA 12 (va_up (s.2 12) (m).toNat (u)) (mA 9 (va_up (s.2 9) (m).toNat (a)) s)))) hA4) (by omega) (by decide) dX10_lay_299 ?_
              have hA5 : mAt B (mA 10 (va_up (s.2 10) (f).toNat (x)) (mA 13 (va_up (s.2 13) (m).toNat (q)) (mA 12 (va_up (s.2 12) (m).toNat (u)) (mA 9 (va_up (s.2 9) (m).toNat (a)) s)))) (va_up h4 (B + 8) (pz_z 0 16 (va_up (s.2 10) (f).toNat (x)))) := mU10 hA4
              have hF5 : mFr B h (va_up h4 (B + 8) (pz_z 0 16 (va_up (s.2 10) (f).toNat (x)))) := mFr_tr hF4 (mFr_up (by decide))
              revert hA5 hF5
              generalize (va_up h4 (B + 8) (pz_z 0 16 (va_up (s.2 10) (f).toNat (x)))) = h5
              intro hA5 hF5
              refine pw_aload_n dX10_lay_300 rfl ?_
              refine pw_get (v := .ref (B + 9)) okX10 (k := 11) (by decide) lkX10_35 hA5.1 rfl dX10_lay_301 ?_
              refine pw_iload dX10_lay_304 rfl ?_
              refine pw_aload_n dX10_lay_306 rfl ?_
              refine pw_get (v := .ref (B + 9)) okX10 (k := 11) (by decide) lkX10_35 hA5.1 rfl dX10_lay_307 ?_
              refine pw_iload dX10_lay_310 rfl ?_
              refine pw_ialdv (v := y) (t := 0) rfl (mF11 (s := (mA 10 (va_up (s.2 10) (f).toNat (x)) (mA 13 (va_up (s.2 13) (m).toNat (q)) (mA 12 (va_up (s.2 12) (m).toNat (u)) (mA 9 (va_up (s.2 9) (m).toNat (a)) s))))) hA5) (by omega) (by decide) (e11) dX10_lay_312 ?_
              refine pw_iast (g := (s.2 11)) (t := 0) rfl (mF11 (s := (mA 10 (va_up (s.2 10) (f).toNat (x)) (mA 13 (va_up (s.2 13) (m).toNat (q)) (mA 12 (va_up (s.2 12) (m).toNat (u)) (mA 9 (va_up (s.2 9) (m).toNat (a)) s))))) hA5) (by omega) (by decide) dX10_lay_313 ?_
              have hA6 : mAt B (mA 11 (va_up (s.2 11) (f).toNat (y)) (mA 10 (va_up (s.2 10) (f).toNat (x)) (mA 13 (va_up (s.2 13) (m).toNat (q)) (mA 12 (va_up (s.2 12) (m).toNat (u)) (mA 9 (va_up (s.2 9) (m).toNat (a)) s))))) (va_up h5 (B + 9) (pz_z 0 16 (va_up (s.2 11) (f).toNat (y)))) := mU11 hA5
              have hF6 : mFr B h (va_up h5 (B + 9) (pz_z 0 16 (va_up (s.2 11) (f).toNat (y)))) := mFr_tr hF5 (mFr_up (by decide))
              revert hA6 hF6
              generalize (va_up h5 (B + 9) (pz_z 0 16 (va_up (s.2 11) (f).toNat (y)))) = h6
              intro hA6 hF6
              refine pw_aload_n dX10_lay_314 rfl ?_
              refine pw_get (v := .ref (B + 48)) okX10 (k := 59) (by decide) lkX10_156 hA6.1 rfl dX10_lay_315 ?_
              refine pw_iload dX10_lay_318 rfl ?_
              refine pw_aload_n dX10_lay_320 rfl ?_
              refine pw_get (v := .ref (B + 6)) okX10 (k := 8) (by decide) lkX10_26 hA6.1 rfl dX10_lay_321 ?_
              refine pw_iload dX10_lay_324 rfl ?_
              refine pw_zaldv (v := 1) (t := 1) rfl (mF8 (s := (mA 11 (va_up (s.2 11) (f).toNat (y)) (mA 10 (va_up (s.2 10) (f).toNat (x)) (mA 13 (va_up (s.2 13) (m).toNat (q)) (mA 12 (va_up (s.2 12) (m).toNat (u)) (mA 9 (va_up (s.2 9) (m).toNat (a)) s)))))) hA6) (by omega) (by decide) (e8) dX10_lay_326 ?_
              refine pw_if_eq (tgt := 340) dX10_lay_327 rfl (by omega) (fun c327 => ?_) (fun c327 => ?_)
              · exfalso; omega
              ·
                refine pw_aload_n dX10_lay_330 rfl ?_
                refine pw_get (v := .ref (B + 10)) okX10 (k := 12) (by decide) lkX10_38 hA6.1 rfl dX10_lay_331 ?_
                refine pw_iload dX10_lay_334 rfl ?_
                refine pw_ialdv (v := u) (t := 0) rfl (mF12 (s := (mA 11 (va_up (s.2 11) (f).toNat (y)) (mA 10 (va_up (s.2 10) (f).toNat (x)) (mA 13 (va_up (s.2 13) (m).toNat (q)) (mA 12 (va_up (s.2 12) (m).toNat (u)) (mA 9 (va_up (s.2 9) (m).toNat (a)) s)))))) hA6) (by omega) (by decide) (va_up_self _ _ _) dX10_lay_336 ?_
                refine pw_goto (tgt := 342) dX10_lay_337 rfl ?_
                refine pw_iast (g := (s.2 59)) (t := 0) rfl (mF59 (s := (mA 11 (va_up (s.2 11) (f).toNat (y)) (mA 10 (va_up (s.2 10) (f).toNat (x)) (mA 13 (va_up (s.2 13) (m).toNat (q)) (mA 12 (va_up (s.2 12) (m).toNat (u)) (mA 9 (va_up (s.2 9) (m).toNat (a)) s)))))) hA6) (by omega) (by decide) dX10_lay_342 ?_
                have hA7 : mAt B (mA 59 (va_up (s.2 59) (f).toNat (u)) (mA 11 (va_up (s.2 11) (f).toNat (y)) (mA 10 (va_up (s.2 10) (f).toNat (x)) (mA 13 (va_up (s.2 13) (m).toNat (q)) (mA 12 (va_up (s.2 12) (m).toNat (u)) (mA 9 (va_up (s.2 9) (m).toNat (a)) s)))))) (va_up h6 (B + 48) (pz_z 0 16 (va_up (s.2 59) (f).toNat (u)))) := mU59 hA6
                have hF7 : mFr B h (va_up h6 (B + 48) (pz_z 0 16 (va_up (s.2 59) (f).toNat (u)))) := mFr_tr hF6 (mFr_up (by decide))
                revert hA7 hF7
                generalize (va_up h6 (B + 48) (pz_z 0 16 (va_up (s.2 59) (f).toNat (u)))) = h7
                intro hA7 hF7
                refine pw_aload_n dX10_lay_343 rfl ?_
                refine pw_get (v := .ref (B + 49)) okX10 (k := 60) (by decide) lkX10_159 hA7.1 rfl dX10_lay_344 ?_
                refine pw_iload dX10_lay_347 rfl ?_
                refine pw_aload_n dX10_lay_349 rfl ?_
                refine pw_get (v := .ref (B + 6)) okX10 (k := 8) (by decide) lkX10_26 hA7.1 rfl dX10_lay_350 ?_
                refine pw_iload dX10_lay_353 rfl ?_
                refine pw_zaldv (v := 1) (t := 1) rfl (mF8 (s := (mA 59 (va_up (s.2 59) (f).toNat (u)) (mA 11 (va_up (s.2 11) (f).toNat (y)) (mA 10 (va_up (s.2 10) (f).toNat (x)) (mA 13 (va_up (s.2 13) (m).toNat (q)) (mA 12 (va_up (s.2 12) (m).toNat (u)) (mA 9 (va_up (s.2 9) (m).toNat (a)) s))))))) hA7) (by omega) (by decide) (e8) dX10_lay_355 ?_
                refine pw_if_eq (tgt := 364) dX10_lay_356 rfl (by omega) (fun c356 => ?_) (fun c356 => ?_)
                · exfalso; omega
                ·
                  refine pw_iload dX10_lay_359 rfl ?_
                  refine pw_goto (tgt := 371) dX10_lay_361 rfl ?_
                  refine pw_iast (g := (s.2 60)) (t := 0) rfl (mF60 (s := (mA 59 (va_up (s.2 59) (f).toNat (u)) (mA 11 (va_up (s.2 11) (f).toNat (y)) (mA 10 (va_up (s.2 10) (f).toNat (x)) (mA 13 (va_up (s.2 13) (m).toNat (q)) (mA 12 (va_up (s.2 12) (m).toNat (u)) (mA 9 (va_up (s.2 9) (m).toNat (a)) s))))))) hA7) (by omega) (by decide) dX10_lay_371 ?_
                  have hA8 : mAt B (mA 60 (va_up (s.2 60) (f).toNat (a)) (mA 59 (va_up (s.2 59) (f).toNat (u)) (mA 11 (va_up (s.2 11) (f).toNat (y)) (mA 10 (va_up (s.2 10) (f).toNat (x)) (mA 13 (va_up (s.2 13) (m).toNat (q)) (mA 12 (va_up (s.2 12) (m).toNat (u)) (mA 9 (va_up (s.2 9) (m).toNat (a)) s))))))) (va_up h7 (B + 49) (pz_z 0 16 (va_up (s.2 60) (f).toNat (a)))) := mU60 hA7
                  have hF8 : mFr B h (va_up h7 (B + 49) (pz_z 0 16 (va_up (s.2 60) (f).toNat (a)))) := mFr_tr hF7 (mFr_up (by decide))
                  revert hA8 hF8
                  generalize (va_up h7 (B + 49) (pz_z 0 16 (va_up (s.2 60) (f).toNat (a)))) = h8
                  intro hA8 hF8
                  refine pw_aload_n dX10_lay_372 rfl ?_
                  refine pw_get (v := .ref (B + 8)) okX10 (k := 10) (by decide) lkX10_32 hA8.1 rfl dX10_lay_373 ?_
                  refine pw_iload dX10_lay_376 rfl ?_
                  refine pw_aload_n dX10_lay_378 rfl ?_
                  refine pw_get (v := .ref (B + 6)) okX10 (k := 8) (by decide) lkX10_26 hA8.1 rfl dX10_lay_379 ?_
                  refine pw_iload dX10_lay_382 rfl ?_
                  refine pw_zaldv (v := 1) (t := 1) rfl (mF8 (s := (mA 60 (va_up (s.2 60) (f).toNat (a)) (mA 59 (va_up (s.2 59) (f).toNat (u)) (mA 11 (va_up (s.2 11) (f).toNat (y)) (mA 10 (va_up (s.2 10) (f).toNat (x)) (mA 13 (va_up (s.2 13) (m).toNat (q)) (mA 12 (va_up (s.2 12) (m).toNat (u)) (mA 9 (va_up (s.2 9) (m).toNat (a)) s)))))))) hA8) (by omega) (by decide) (e8) dX10_lay_384 ?_
                  refine pw_if_eq (tgt := 398) dX10_lay_385 rfl (by omega) (fun c385 => ?_) (fun c385 => ?_)
                  · exfalso; omega
                  ·
                    refine pw_aload_n dX10_lay_388 rfl ?_
                    refine pw_get (v := .ref (B + 8)) okX10 (k := 10) (by decide) lkX10_32 hA8.1 rfl dX10_lay_389 ?_
                    refine pw_iload dX10_lay_392 rfl ?_
                    refine pw_ialdv (v := x) (t := 0) rfl (mF10 (s := (mA 60 (va_up (s.2 60) (f).toNat (a)) (mA 59 (va_up (s.2 59) (f).toNat (u)) (mA 11 (va_up (s.2 11) (f).toNat (y)) (mA 10 (va_up (s.2 10) (f).toNat (x)) (mA 13 (va_up (s.2 13) (m).toNat (q)) (mA 12 (va_up (s.2 12) (m).toNat (u)) (mA 9 (va_up (s.2 9) (m).toNat (a)) s)))))))) hA8) (by omega) (by decide) ((va_up_ne _ _ (by omega)).trans (e10)) dX10_lay_394 ?_
                    refine pw_goto (tgt := 410) dX10_lay_395 rfl ?_
                    refine pw_iast (g := (va_up (s.2 10) (f).toNat (x))) (t := 0) rfl (mF10 (s := (mA 60 (va_up (s.2 60) (f).toNat (a)) (mA 59 (va_up (s.2 59) (f).toNat (u)) (mA 11 (va_up (s.2 11) (f).toNat (y)) (mA 10 (va_up (s.2 10) (f).toNat (x)) (mA 13 (va_up (s.2 13) (m).toNat (q)) (mA 12 (va_up (s.2 12) (m).toNat (u)) (mA 9 (va_up (s.2 9) (m).toNat (a)) s)))))))) hA8) (by omega) (by decide) dX10_lay_410 ?_
                    have hA9 : mAt B (mA 10 (va_up (va_up (s.2 10) (f).toNat (x)) (g).toNat (x)) (mA 60 (va_up (s.2 60) (f).toNat (a)) (mA 59 (va_up (s.2 59) (f).toNat (u)) (mA 11 (va_up (s.2 11) (f).toNat (y)) (mA 10 (va_up (s.2 10) (f).toNat (x)) (mA 13 (va_up (s.2 13) (m).toNat (q)) (mA 12 (va_up (s.2 12) (m).toNat (u)) (mA 9 (va_up (s.2 9) (m).toNat (a)) s)))))))) (va_up h8 (B + 8) (pz_z 0 16 (va_up (va_up (s.2 10) (f).toNat (x)) (g).toNat (x)))) := mU10 hA8
                    have hF9 : mFr B h (va_up h8 (B + 8) (pz_z 0 16 (va_up (va_up (s.2 10) (f).toNat (x)) (g).toNat (x)))) := mFr_tr hF8 (mFr_up (by decide))
                    revert hA9 hF9
                    generalize (va_up h8 (B + 8) (pz_z 0 16 (va_up (va_up (s.2 10) (f).toNat (x)) (g).toNat (x)))) = h9
                    intro hA9 hF9
                    refine pw_aload_n dX10_lay_411 rfl ?_
                    refine pw_get (v := .ref (B + 9)) okX10 (k := 11) (by decide) lkX10_35 hA9.1 rfl dX10_lay_412 ?_
                    refine pw_iload dX10_lay_415 rfl ?_
                    refine pw_aload_n dX10_lay_417 rfl ?_
                    refine pw_get (v := .ref (B + 6)) okX10 (k := 8) (by decide) lkX10_26 hA9.1 rfl dX10_lay_418 ?_
                    refine pw_iload dX10_lay_421 rfl ?_
                    refine pw_zaldv (v := 1) (t := 1) rfl (mF8 (s := (mA 10 (va_up (va_up (s.2 10) (f).toNat (x)) (g).toNat (x)) (mA 60 (va_up (s.2 60) (f).toNat (a)) (mA 59 (va_up (s.2 59) (f).toNat (u)) (mA 11 (va_up (s.2 11) (f).toNat (y)) (mA 10 (va_up (s.2 10) (f).toNat (x)) (mA 13 (va_up (s.2 13) (m).toNat (q)) (mA 12 (va_up (s.2 12) (m).toNat (u)) (mA 9 (va_up (s.2 9) (m).toNat (a)) s))))))))) hA9) (by omega) (by decide) (e8) dX10_lay_423 ?_
                    refine pw_if_eq (tgt := 442) dX10_lay_424 rfl (by omega) (fun c424 => ?_) (fun c424 => ?_)
                    · exfalso; omega
                    ·
                      refine pw_aload_n dX10_lay_427 rfl ?_
                      refine pw_get (v := .ref (B + 9)) okX10 (k := 11) (by decide) lkX10_35 hA9.1 rfl dX10_lay_428 ?_
                      refine pw_iload dX10_lay_431 rfl ?_
                      refine pw_ialdv (v := y) (t := 0) rfl (mF11 (s := (mA 10 (va_up (va_up (s.2 10) (f).toNat (x)) (g).toNat (x)) (mA 60 (va_up (s.2 60) (f).toNat (a)) (mA 59 (va_up (s.2 59) (f).toNat (u)) (mA 11 (va_up (s.2 11) (f).toNat (y)) (mA 10 (va_up (s.2 10) (f).toNat (x)) (mA 13 (va_up (s.2 13) (m).toNat (q)) (mA 12 (va_up (s.2 12) (m).toNat (u)) (mA 9 (va_up (s.2 9) (m).toNat (a)) s))))))))) hA9) (by omega) (by decide) ((va_up_ne _ _ (by omega)).trans (e11)) dX10_lay_433 ?_
                      refine pw_iload dX10_lay_434 rfl ?_
                      refine pw_ziadd dX10_lay_436 ?_
                      refine pw_iconst (v := zI (1)) dX10_lay_437 (by decide) ?_
                      refine pw_ziadd dX10_lay_438 ?_
                      refine pw_goto (tgt := 449) dX10_lay_439 rfl ?_
                      refine pw_iast (g := (va_up (s.2 11) (f).toNat (y))) (t := 0) rfl (mF11 (s := (mA 10 (va_up (va_up (s.2 10) (f).toNat (x)) (g).toNat (x)) (mA 60 (va_up (s.2 60) (f).toNat (a)) (mA 59 (va_up (s.2 59) (f).toNat (u)) (mA 11 (va_up (s.2 11) (f).toNat (y)) (mA 10 (va_up (s.2 10) (f).toNat (x)) (mA 13 (va_up (s.2 13) (m).toNat (q)) (mA 12 (va_up (s.2 12) (m).toNat (u)) (mA 9 (va_up (s.2 9) (m).toNat (a)) s))))))))) hA9) (by omega) (by decide) dX10_lay_449 ?_
                      have hA10 : mAt B (mA 11 (va_up (va_up (s.2 11) (f).toNat (y)) (g).toNat ((y + a) + (1))) (mA 10 (va_up (va_up (s.2 10) (f).toNat (x)) (g).toNat (x)) (mA 60 (va_up (s.2 60) (f).toNat (a)) (mA 59 (va_up (s.2 59) (f).toNat (u)) (mA 11 (va_up (s.2 11) (f).toNat (y)) (mA 10 (va_up (s.2 10) (f).toNat (x)) (mA 13 (va_up (s.2 13) (m).toNat (q)) (mA 12 (va_up (s.2 12) (m).toNat (u)) (mA 9 (va_up (s.2 9) (m).toNat (a)) s))))))))) (va_up h9 (B + 9) (pz_z 0 16 (va_up (va_up (s.2 11) (f).toNat (y)) (g).toNat ((y + a) + (1))))) := mU11 hA9
                      have hF10 : mFr B h (va_up h9 (B + 9) (pz_z 0 16 (va_up (va_up (s.2 11) (f).toNat (y)) (g).toNat ((y + a) + (1))))) := mFr_tr hF9 (mFr_up (by decide))
                      revert hA10 hF10
                      generalize (va_up h9 (B + 9) (pz_z 0 16 (va_up (va_up (s.2 11) (f).toNat (y)) (g).toNat ((y + a) + (1))))) = h10
                      intro hA10 hF10
                      refine pw_aload_n dX10_lay_450 rfl ?_
                      refine pw_get (v := .ref (B + 48)) okX10 (k := 59) (by decide) lkX10_156 hA10.1 rfl dX10_lay_451 ?_
                      refine pw_iload dX10_lay_454 rfl ?_
                      refine pw_aload_n dX10_lay_456 rfl ?_
                      refine pw_get (v := .ref (B + 6)) okX10 (k := 8) (by decide) lkX10_26 hA10.1 rfl dX10_lay_457 ?_
                      refine pw_iload dX10_lay_460 rfl ?_
                      refine pw_zaldv (v := 1) (t := 1) rfl (mF8 (s := (mA 11 (va_up (va_up (s.2 11) (f).toNat (y)) (g).toNat ((y + a) + (1))) (mA 10 (va_up (va_up (s.2 10) (f).toNat (x)) (g).toNat (x)) (mA 60 (va_up (s.2 60) (f).toNat (a)) (mA 59 (va_up (s.2 59) (f).toNat (u)) (mA 11 (va_up (s.2 11) (f).toNat (y)) (mA 10 (va_up (s.2 10) (f).toNat (x)) (mA 13 (va_up (s.2 13) (m).toNat (q)) (mA 12 (va_up (s.2 12) (m).toNat (u)) (mA 9 (va_up (s.2 9) (m).toNat (a)) s)))))))))) hA10) (by omega) (by decide) (e8) dX10_lay_462 ?_
                      refine pw_if_eq (tgt := 476) dX10_lay_463 rfl (by omega) (fun c463 => ?_) (fun c463 => ?_)
                      · exfalso; omega
                      ·
                        refine pw_aload_n dX10_lay_466 rfl ?_
                        refine pw_get (v := .ref (B + 10)) okX10 (k := 12) (by decide) lkX10_38 hA10.1 rfl dX10_lay_467 ?_
                        refine pw_iload dX10_lay_470 rfl ?_
                        refine pw_ialdv (v := u) (t := 0) rfl (mF12 (s := (mA 11 (va_up (va_up (s.2 11) (f).toNat (y)) (g).toNat ((y + a) + (1))) (mA 10 (va_up (va_up (s.2 10) (f).toNat (x)) (g).toNat (x)) (mA 60 (va_up (s.2 60) (f).toNat (a)) (mA 59 (va_up (s.2 59) (f).toNat (u)) (mA 11 (va_up (s.2 11) (f).toNat (y)) (mA 10 (va_up (s.2 10) (f).toNat (x)) (mA 13 (va_up (s.2 13) (m).toNat (q)) (mA 12 (va_up (s.2 12) (m).toNat (u)) (mA 9 (va_up (s.2 9) (m).toNat (a)) s)))))))))) hA10) (by omega) (by decide) (va_up_self _ _ _) dX10_lay_472 ?_
                        refine pw_goto (tgt := 483) dX10_lay_473 rfl ?_
                        refine pw_iast (g := (va_up (s.2 59) (f).toNat (u))) (t := 0) rfl (mF59 (s := (mA 11 (va_up (va_up (s.2 11) (f).toNat (y)) (g).toNat ((y + a) + (1))) (mA 10 (va_up (va_up (s.2 10) (f).toNat (x)) (g).toNat (x)) (mA 60 (va_up (s.2 60) (f).toNat (a)) (mA 59 (va_up (s.2 59) (f).toNat (u)) (mA 11 (va_up (s.2 11) (f).toNat (y)) (mA 10 (va_up (s.2 10) (f).toNat (x)) (mA 13 (va_up (s.2 13) (m).toNat (q)) (mA 12 (va_up (s.2 12) (m).toNat (u)) (mA 9 (va_up (s.2 9) (m).toNat (a)) s)))))))))) hA10) (by omega) (by decide) dX10_lay_483 ?_
                        have hA11 : mAt B (mA 59 (va_up (va_up (s.2 59) (f).toNat (u)) (g).toNat (u)) (mA 11 (va_up (va_up (s.2 11) (f).toNat (y)) (g).toNat ((y + a) + (1))) (mA 10 (va_up (va_up (s.2 10) (f).toNat (x)) (g).toNat (x)) (mA 60 (va_up (s.2 60) (f).toNat (a)) (mA 59 (va_up (s.2 59) (f).toNat (u)) (mA 11 (va_up (s.2 11) (f).toNat (y)) (mA 10 (va_up (s.2 10) (f).toNat (x)) (mA 13 (va_up (s.2 13) (m).toNat (q)) (mA 12 (va_up (s.2 12) (m).toNat (u)) (mA 9 (va_up (s.2 9) (m).toNat (a)) s)))))))))) (va_up h10 (B + 48) (pz_z 0 16 (va_up (va_up (s.2 59) (f).toNat (u)) (g).toNat (u)))) := mU59 hA10
                        have hF11 : mFr B h (va_up h10 (B + 48) (pz_z 0 16 (va_up (va_up (s.2 59) (f).toNat (u)) (g).toNat (u)))) := mFr_tr hF10 (mFr_up (by decide))
                        revert hA11 hF11
                        generalize (va_up h10 (B + 48) (pz_z 0 16 (va_up (va_up (s.2 59) (f).toNat (u)) (g).toNat (u)))) = h11
                        intro hA11 hF11
                        refine pw_aload_n dX10_lay_484 rfl ?_
                        refine pw_get (v := .ref (B + 49)) okX10 (k := 60) (by decide) lkX10_159 hA11.1 rfl dX10_lay_485 ?_
                        refine pw_iload dX10_lay_488 rfl ?_
                        refine pw_aload_n dX10_lay_490 rfl ?_
                        refine pw_get (v := .ref (B + 6)) okX10 (k := 8) (by decide) lkX10_26 hA11.1 rfl dX10_lay_491 ?_
                        refine pw_iload dX10_lay_494 rfl ?_
                        refine pw_zaldv (v := 1) (t := 1) rfl (mF8 (s := (mA 59 (va_up (va_up (s.2 59) (f).toNat (u)) (g).toNat (u)) (mA 11 (va_up (va_up (s.2 11) (f).toNat (y)) (g).toNat ((y + a) + (1))) (mA 10 (va_up (va_up (s.2 10) (f).toNat (x)) (g).toNat (x)) (mA 60 (va_up (s.2 60) (f).toNat (a)) (mA 59 (va_up (s.2 59) (f).toNat (u)) (mA 11 (va_up (s.2 11) (f).toNat (y)) (mA 10 (va_up (s.2 10) (f).toNat (x)) (mA 13 (va_up (s.2 13) (m).toNat (q)) (mA 12 (va_up (s.2 12) (m).toNat (u)) (mA 9 (va_up (s.2 9) (m).toNat (a)) s))))))))))) hA11) (by omega) (by decide) (e8) dX10_lay_496 ?_
                        refine pw_if_eq (tgt := 510) dX10_lay_497 rfl (by omega) (fun c497 => ?_) (fun c497 => ?_)
                        · exfalso; omega
                        ·
                          refine pw_iload dX10_lay_500 rfl ?_
                          refine pw_iconst (v := zI (1)) dX10_lay_502 (by decide) ?_
                          refine pw_zisub dX10_lay_503 ?_
                          refine pw_iload dX10_lay_504 rfl ?_
                          refine pw_zisub dX10_lay_506 ?_
                          refine pw_goto (tgt := 517) dX10_lay_507 rfl ?_
                          refine pw_iast (g := (va_up (s.2 60) (f).toNat (a))) (t := 0) rfl (mF60 (s := (mA 59 (va_up (va_up (s.2 59) (f).toNat (u)) (g).toNat (u)) (mA 11 (va_up (va_up (s.2 11) (f).toNat (y)) (g).toNat ((y + a) + (1))) (mA 10 (va_up (va_up (s.2 10) (f).toNat (x)) (g).toNat (x)) (mA 60 (va_up (s.2 60) (f).toNat (a)) (mA 59 (va_up (s.2 59) (f).toNat (u)) (mA 11 (va_up (s.2 11) (f).toNat (y)) (mA 10 (va_up (s.2 10) (f).toNat (x)) (mA 13 (va_up (s.2 13) (m).toNat (q)) (mA 12 (va_up (s.2 12) (m).toNat (u)) (mA 9 (va_up (s.2 9) (m).toNat (a)) s))))))))))) hA11) (by omega) (by decide) dX10_lay_517 ?_
                          have hA12 : mAt B (mA 60 (va_up (va_up (s.2 60) (f).toNat (a)) (g).toNat ((q - 1) - (a))) (mA 59 (va_up (va_up (s.2 59) (f).toNat (u)) (g).toNat (u)) (mA 11 (va_up (va_up (s.2 11) (f).toNat (y)) (g).toNat ((y + a) + (1))) (mA 10 (va_up (va_up (s.2 10) (f).toNat (x)) (g).toNat (x)) (mA 60 (va_up (s.2 60) (f).toNat (a)) (mA 59 (va_up (s.2 59) (f).toNat (u)) (mA 11 (va_up (s.2 11) (f).toNat (y)) (mA 10 (va_up (s.2 10) (f).toNat (x)) (mA 13 (va_up (s.2 13) (m).toNat (q)) (mA 12 (va_up (s.2 12) (m).toNat (u)) (mA 9 (va_up (s.2 9) (m).toNat (a)) s))))))))))) (va_up h11 (B + 49) (pz_z 0 16 (va_up (va_up (s.2 60) (f).toNat (a)) (g).toNat ((q - 1) - (a))))) := mU60 hA11
                          have hF12 : mFr B h (va_up h11 (B + 49) (pz_z 0 16 (va_up (va_up (s.2 60) (f).toNat (a)) (g).toNat ((q - 1) - (a))))) := mFr_tr hF11 (mFr_up (by decide))
                          revert hA12 hF12
                          generalize (va_up h11 (B + 49) (pz_z 0 16 (va_up (va_up (s.2 60) (f).toNat (a)) (g).toNat ((q - 1) - (a))))) = h12
                          intro hA12 hF12
                          refine pw_aload_n dX10_lay_518 rfl ?_
                          refine pw_get (v := .ref (B + 12)) okX10 (k := 15) (by decide) lkX10_44 hA12.1 rfl dX10_lay_519 ?_
                          refine pw_iload dX10_lay_522 rfl ?_
                          refine pw_iload dX10_lay_524 rfl ?_
                          refine pw_iast (g := (s.2 15)) (t := 0) rfl (mF15 (s := (mA 60 (va_up (va_up (s.2 60) (f).toNat (a)) (g).toNat ((q - 1) - (a))) (mA 59 (va_up (va_up (s.2 59) (f).toNat (u)) (g).toNat (u)) (mA 11 (va_up (va_up (s.2 11) (f).toNat (y)) (g).toNat ((y + a) + (1))) (mA 10 (va_up (va_up (s.2 10) (f).toNat (x)) (g).toNat (x)) (mA 60 (va_up (s.2 60) (f).toNat (a)) (mA 59 (va_up (s.2 59) (f).toNat (u)) (mA 11 (va_up (s.2 11) (f).toNat (y)) (mA 10 (va_up (s.2 10) (f).toNat (x)) (mA 13 (va_up (s.2 13) (m).toNat (q)) (mA 12 (va_up (s.2 12) (m).toNat (u)) (mA 9 (va_up (s.2 9) (m).toNat (a)) s)))))))))))) hA12) (by omega) (by decide) dX10_lay_526 ?_
                          have hA13 : mAt B (mA 15 (va_up (s.2 15) (M + (-1)).toNat (f)) (mA 60 (va_up (va_up (s.2 60) (f).toNat (a)) (g).toNat ((q - 1) - (a))) (mA 59 (va_up (va_up (s.2 59) (f).toNat (u)) (g).toNat (u)) (mA 11 (va_up (va_up (s.2 11) (f).toNat (y)) (g).toNat ((y + a) + (1))) (mA 10 (va_up (va_up (s.2 10) (f).toNat (x)) (g).toNat (x)) (mA 60 (va_up (s.2 60) (f).toNat (a)) (mA 59 (va_up (s.2 59) (f).toNat (u)) (mA 11 (va_up (s.2 11) (f).toNat (y)) (mA 10 (va_up (s.2 10) (f).toNat (x)) (mA 13 (va_up (s.2 13) (m).toNat (q)) (mA 12 (va_up (s.2 12) (m).toNat (u)) (mA 9 (va_up (s.2 9) (m).toNat (a)) s)))))))))))) (va_up h12 (B + 12) (pz_z 0 16 (va_up (s.2 15) (M + (-1)).toNat (f)))) := mU15 hA12
                          have hF13 : mFr B h (va_up h12 (B + 12) (pz_z 0 16 (va_up (s.2 15) (M + (-1)).toNat (f)))) := mFr_tr hF12 (mFr_up (by decide))
                          revert hA13 hF13
                          generalize (va_up h12 (B + 12) (pz_z 0 16 (va_up (s.2 15) (M + (-1)).toNat (f)))) = h13
                          intro hA13 hF13
                          refine pw_aload_n dX10_lay_527 rfl ?_
                          refine pw_get (v := .ref (B + 12)) okX10 (k := 15) (by decide) lkX10_44 hA13.1 rfl dX10_lay_528 ?_
                          refine pw_iload dX10_lay_531 rfl ?_
                          refine pw_iconst (v := zI (1)) dX10_lay_533 (by decide) ?_
                          refine pw_ziadd dX10_lay_534 ?_
                          refine pw_iload dX10_lay_535 rfl ?_
                          refine pw_iast (g := (va_up (s.2 15) (M + (-1)).toNat (f))) (t := 0) rfl (mF15 (s := (mA 15 (va_up (s.2 15) (M + (-1)).toNat (f)) (mA 60 (va_up (va_up (s.2 60) (f).toNat (a)) (g).toNat ((q - 1) - (a))) (mA 59 (va_up (va_up (s.2 59) (f).toNat (u)) (g).toNat (u)) (mA 11 (va_up (va_up (s.2 11) (f).toNat (y)) (g).toNat ((y + a) + (1))) (mA 10 (va_up (va_up (s.2 10) (f).toNat (x)) (g).toNat (x)) (mA 60 (va_up (s.2 60) (f).toNat (a)) (mA 59 (va_up (s.2 59) (f).toNat (u)) (mA 11 (va_up (s.2 11) (f).toNat (y)) (mA 10 (va_up (s.2 10) (f).toNat (x)) (mA 13 (va_up (s.2 13) (m).toNat (q)) (mA 12 (va_up (s.2 12) (m).toNat (u)) (mA 9 (va_up (s.2 9) (m).toNat (a)) s))))))))))))) hA13) (by omega) (by decide) dX10_lay_537 ?_
                          have hA14 : mAt B (mA 15 (va_up (va_up (s.2 15) (M + (-1)).toNat (f)) ((M + (-1)) + (1)).toNat (g)) (mA 15 (va_up (s.2 15) (M + (-1)).toNat (f)) (mA 60 (va_up (va_up (s.2 60) (f).toNat (a)) (g).toNat ((q - 1) - (a))) (mA 59 (va_up (va_up (s.2 59) (f).toNat (u)) (g).toNat (u)) (mA 11 (va_up (va_up (s.2 11) (f).toNat (y)) (g).toNat ((y + a) + (1))) (mA 10 (va_up (va_up (s.2 10) (f).toNat (x)) (g).toNat (x)) (mA 60 (va_up (s.2 60) (f).toNat (a)) (mA 59 (va_up (s.2 59) (f).toNat (u)) (mA 11 (va_up (s.2 11) (f).toNat (y)) (mA 10 (va_up (s.2 10) (f).toNat (x)) (mA 13 (va_up (s.2 13) (m).toNat (q)) (mA 12 (va_up (s.2 12) (m).toNat (u)) (mA 9 (va_up (s.2 9) (m).toNat (a)) s))))))))))))) (va_up h13 (B + 12) (pz_z 0 16 (va_up (va_up (s.2 15) (M + (-1)).toNat (f)) ((M + (-1)) + (1)).toNat (g)))) := mU15 hA13
                          have hF14 : mFr B h (va_up h13 (B + 12) (pz_z 0 16 (va_up (va_up (s.2 15) (M + (-1)).toNat (f)) ((M + (-1)) + (1)).toNat (g)))) := mFr_tr hF13 (mFr_up (by decide))
                          revert hA14 hF14
                          generalize (va_up h13 (B + 12) (pz_z 0 16 (va_up (va_up (s.2 15) (M + (-1)).toNat (f)) ((M + (-1)) + (1)).toNat (g)))) = h14
                          intro hA14 hF14
                          refine pw_iload dX10_lay_538 rfl ?_
                          refine pw_iconst (v := zI (2)) dX10_lay_540 (by decide) ?_
                          refine pw_ziadd dX10_lay_541 ?_
                          refine pw_istore (lv' := [some (.ref B), some (.int (zI (b1))), some (.int (zI (b2))), some (.int (zI (b3))), some (.int (zI (b4))), some (.int (zI (b5))), some (.int (zI ((M + (-1)) + (2)))), some (.int (zI (m))), some (.int (zI (h0))), some (.int (zI (q))), some (.int (zI (a))), some (.int (zI (f))), some (.int (zI (g)))]) dX10_lay_542 (by decide) rfl rfl ?_
                          refine pw_goto (tgt := 40) dX10_lay_544 rfl ?_
                          exact kk _ (mA 15 (va_up (va_up (s.2 15) (M + (-1)).toNat (f)) ((M + (-1)) + (1)).toNat (g)) (mA 15 (va_up (s.2 15) (M + (-1)).toNat (f)) (mA 60 (va_up (va_up (s.2 60) (f).toNat (a)) (g).toNat ((q - 1) - (a))) (mA 59 (va_up (va_up (s.2 59) (f).toNat (u)) (g).toNat (u)) (mA 11 (va_up (va_up (s.2 11) (f).toNat (y)) (g).toNat ((y + a) + (1))) (mA 10 (va_up (va_up (s.2 10) (f).toNat (x)) (g).toNat (x)) (mA 60 (va_up (s.2 60) (f).toNat (a)) (mA 59 (va_up (s.2 59) (f).toNat (u)) (mA 11 (va_up (s.2 11) (f).toNat (y)) (mA 10 (va_up (s.2 10) (f).toNat (x)) (mA 13 (va_up (s.2 13) (m).toNat (q)) (mA 12 (va_up (s.2 12) (m).toNat (u)) (mA 9 (va_up (s.2 9) (m).toNat (a)) s))))))))))))) h14 hA14 hF14 ⟨hka.1, hka.2, hga.symm⟩ rfl (fun j h1 h2 h3 h4 h5 h6 h7 h8 => by repeat (first | rfl | rw [mA_ne (by assumption)])) rfl rfl rfl rfl rfl rfl rfl rfl
            · exfalso; omega
          · exfalso; omega
    · exfalso; omega
set_option maxHeartbeats 4000000 in
set_option maxRecDepth 100000 in
/-- a pane, one step of lay -/
theorem lN_pn {E : pw_E} (htr : E.1.stackTraces = false) {Kk : pw_K} {h h1 : pz_H} {n B : Nat} {s : mS} {M m p u q : Int} {b1 b2 b3 b4 b5 : Int} {l7 l8 l9 l10 l11 l12 : Option Value} (hA : mAt B s h1) (hF : mFr B h h1) (hM : 1 ≤ M ∧ M ≤ 16) (hm : 0 ≤ m ∧ m < 16) (hp : 0 ≤ p ∧ p < 8) (hk : mPk s p.toNat) (e15 : s.2 15 (M + (-1)).toNat = m) (e4 : s.2 4 m.toNat = p) (e59 : s.2 59 m.toNat = u) (e60 : s.2 60 m.toNat = q) (hu : 1 ≤ u ∧ u ≤ 40) (hq : 1 ≤ q ∧ q ≤ 16) (kk : ∀ (s' : mS) (h' : pz_H), mAt B s' h' → mFr B h h' → mPq p.toNat (mA 13 (va_up (s.2 13) m.toNat q) (mA 12 (va_up (s.2 12) m.toNat u) s)) s' → mPk s' p.toNat → (s'.2 18 p.toNat = u ∧ s'.2 19 p.toNat = q) → pw E YX10_lay (rmD 2 0 0) Kk 0 0 40 [some (.ref B), some (.int (zI (b1))), some (.int (zI (b2))), some (.int (zI (b3))), some (.int (zI (b4))), some (.int (zI (b5))), some (.int (zI (M + (-1)))), some (.int (zI (m))), l8, l9, l10, l11, l12] [] h' n) : pw E YX10_lay (rmD 2 0 0) Kk 0 0 40 [some (.ref B), some (.int (zI (b1))), some (.int (zI (b2))), some (.int (zI (b3))), some (.int (zI (b4))), some (.int (zI (b5))), some (.int (zI (M))), l7, l8, l9, l10, l11, l12] [] h1 n := by
  refine pw_iload dX10_lay_40 rfl ?_
  refine pw_if_le (tgt := 547) dX10_lay_42 rfl (by omega) (fun c42 => ?_) (fun c42 => ?_)
  · exfalso; omega
  ·
    refine pw_ziinc (lv' := [some (.ref B), some (.int (zI (b1))), some (.int (zI (b2))), some (.int (zI (b3))), some (.int (zI (b4))), some (.int (zI (b5))), some (.int (zI (M + (-1)))), l7, l8, l9, l10, l11, l12]) dX10_lay_45 rfl (by decide) rfl rfl ?_
    refine pw_aload_n dX10_lay_48 rfl ?_
    refine pw_get (v := .ref (B + 12)) okX10 (k := 15) (by decide) lkX10_44 hA.1 rfl dX10_lay_49 ?_
    refine pw_iload dX10_lay_52 rfl ?_
    refine pw_ialdv (v := m) (t := 0) rfl (mF15 (s := s) hA) (by omega) (by decide) (e15) dX10_lay_54 ?_
    refine pw_istore (lv' := [some (.ref B), some (.int (zI (b1))), some (.int (zI (b2))), some (.int (zI (b3))), some (.int (zI (b4))), some (.int (zI (b5))), some (.int (zI (M + (-1)))), some (.int (zI (m))), l8, l9, l10, l11, l12]) dX10_lay_55 (by decide) rfl rfl ?_
    refine pw_aload_n dX10_lay_57 rfl ?_
    refine pw_get (v := .ref (B + 2)) okX10 (k := 4) (by decide) lkX10_13 hA.1 rfl dX10_lay_58 ?_
    refine pw_iload dX10_lay_61 rfl ?_
    refine pw_ialdv (v := p) (t := 0) rfl (mF4 (s := s) hA) (by omega) (by decide) (e4) dX10_lay_63 ?_
    refine pw_iconst (v := zI (-1)) dX10_lay_64 (by decide) ?_
    refine pw_icmp_eq (tgt := 124) dX10_lay_65 rfl (by omega) (by omega) (fun c65 => ?_) (fun c65 => ?_)
    · exfalso; omega
    ·
      refine pw_aload_n dX10_lay_68 rfl ?_
      refine pw_get (v := .ref (B + 10)) okX10 (k := 12) (by decide) lkX10_38 hA.1 rfl dX10_lay_69 ?_
      refine pw_iload dX10_lay_72 rfl ?_
      refine pw_aload_n dX10_lay_74 rfl ?_
      refine pw_get (v := .ref (B + 48)) okX10 (k := 59) (by decide) lkX10_156 hA.1 rfl dX10_lay_75 ?_
      refine pw_iload dX10_lay_78 rfl ?_
      refine pw_ialdv (v := u) (t := 0) rfl (mF59 (s := s) hA) (by omega) (by decide) (e59) dX10_lay_80 ?_
      refine pw_iast (g := (s.2 12)) (t := 0) rfl (mF12 (s := s) hA) (by omega) (by decide) dX10_lay_81 ?_
      have hA2 : mAt B (mA 12 (va_up (s.2 12) (m).toNat (u)) s) (va_up h1 (B + 10) (pz_z 0 16 (va_up (s.2 12) (m).toNat (u)))) := mU12 hA
      have hF2 : mFr B h (va_up h1 (B + 10) (pz_z 0 16 (va_up (s.2 12) (m).toNat (u)))) := mFr_tr hF (mFr_up (by decide))
      revert hA2 hF2
      generalize (va_up h1 (B + 10) (pz_z 0 16 (va_up (s.2 12) (m).toNat (u)))) = h2
      intro hA2 hF2
      refine pw_aload_n dX10_lay_82 rfl ?_
      refine pw_get (v := .ref (B + 11)) okX10 (k := 13) (by decide) lkX10_41 hA2.1 rfl dX10_lay_83 ?_
      refine pw_iload dX10_lay_86 rfl ?_
      refine pw_aload_n dX10_lay_88 rfl ?_
      refine pw_get (v := .ref (B + 49)) okX10 (k := 60) (by decide) lkX10_159 hA2.1 rfl dX10_lay_89 ?_
      refine pw_iload dX10_lay_92 rfl ?_
      refine pw_ialdv (v := q) (t := 0) rfl (mF60 (s := (mA 12 (va_up (s.2 12) (m).toNat (u)) s)) hA2) (by omega) (by decide) (e60) dX10_lay_94 ?_
      refine pw_iast (g := (s.2 13)) (t := 0) rfl (mF13 (s := (mA 12 (va_up (s.2 12) (m).toNat (u)) s)) hA2) (by omega) (by decide) dX10_lay_95 ?_
      have hA3 : mAt B (mA 13 (va_up (s.2 13) (m).toNat (q)) (mA 12 (va_up (s.2 12) (m).toNat (u)) s)) (va_up h2 (B + 11) (pz_z 0 16 (va_up (s.2 13) (m).toNat (q)))) := mU13 hA2
      have hF3 : mFr B h (va_up h2 (B + 11) (pz_z 0 16 (va_up (s.2 13) (m).toNat (q)))) := mFr_tr hF2 (mFr_up (by decide))
      revert hA3 hF3
      generalize (va_up h2 (B + 11) (pz_z 0 16 (va_up (s.2 13) (m).toNat (q)))) = h3
      intro hA3 hF3
      refine pw_aload_n dX10_lay_96 rfl ?_
      refine pw_aload_n dX10_lay_97 rfl ?_
      refine pw_get (v := .ref (B + 2)) okX10 (k := 4) (by decide) lkX10_13 hA3.1 rfl dX10_lay_98 ?_
      refine pw_iload dX10_lay_101 rfl ?_
      refine pw_ialdv (v := p) (t := 0) rfl (mF4 (s := (mA 13 (va_up (s.2 13) (m).toNat (q)) (mA 12 (va_up (s.2 12) (m).toNat (u)) s))) hA3) (by omega) (by decide) (e4) dX10_lay_103 ?_
      refine pw_aload_n dX10_lay_104 rfl ?_
      refine pw_get (v := .ref (B + 10)) okX10 (k := 12) (by decide) lkX10_38 hA3.1 rfl dX10_lay_105 ?_
      refine pw_iload dX10_lay_108 rfl ?_
      refine pw_ialdv (v := u) (t := 0) rfl (mF12 (s := (mA 13 (va_up (s.2 13) (m).toNat (q)) (mA 12 (va_up (s.2 12) (m).toNat (u)) s))) hA3) (by omega) (by decide) (va_up_self _ _ _) dX10_lay_110 ?_
      refine pw_aload_n dX10_lay_111 rfl ?_
      refine pw_get (v := .ref (B + 11)) okX10 (k := 13) (by decide) lkX10_41 hA3.1 rfl dX10_lay_112 ?_
      refine pw_iload dX10_lay_115 rfl ?_
      refine pw_ialdv (v := q) (t := 0) rfl (mF13 (s := (mA 13 (va_up (s.2 13) (m).toNat (q)) (mA 12 (va_up (s.2 12) (m).toNat (u)) s))) hA3) (by omega) (by decide) (va_up_self _ _ _) dX10_lay_117 ?_
      refine pw_callV (As := [.int (zI (p)), .int (zI (u)), .int (zI (q))]) (b := B) (rm := rmD 1 0 0) (nR_resize2 (p := p) htr hA3 hp (show mPk (mA 13 (va_up (s.2 13) (m).toNat (q)) (mA 12 (va_up (s.2 12) (m).toNat (u)) s)) p.toNat from hk) hu hq) rfl hA3.1 rfl rfl ywX10_resize rfl cwX10_196 ⟨nle rfl, nle rfl⟩ (nle rfl) ⟨nle rfl, nle rfl⟩ dX10_lay_118 ?_ (fun _ _ _ z => z.elim)
      intro r_9 h4 n_9 hq9 _
      obtain ⟨e1, s4, hA4, hQ4, hk4, hv4, hF40, e4_⟩ := hq9
      rw [e1, e4_]
      show pw E YX10_lay _ _ 0 0 121 [some (.ref B), some (.int (zI (b1))), some (.int (zI (b2))), some (.int (zI (b3))), some (.int (zI (b4))), some (.int (zI (b5))), some (.int (zI (M + (-1)))), some (.int (zI (m))), l8, l9, l10, l11, l12] [] h4 n
      have hF4 := mFr_tr hF3 hF40
      refine pw_goto (tgt := 40) dX10_lay_121 rfl ?_
      exact kk s4 h4 hA4 hF4 hQ4 hk4 hv4
