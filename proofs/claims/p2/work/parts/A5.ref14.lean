def YX10_lay : pw_Y := (RX10, "lay", cX10_lay, 13, none)
theorem ywX10_lay : pw_y yX10_lay YX10_lay 5 := ⟨by decide +kernel, by decide +kernel, by decide +kernel, pw_in 1542 (by decide +kernel) (by decide +kernel), pw_in 106 (by decide +kernel) (by decide +kernel)⟩
theorem cwX10_196 : Cond.methodLink RX10 196 yX10_resize ∈ pw_G ∧ Cond.instanceMethod yX10_resize ∈ pw_G ∧ Cond.selects RX10 yX10_resize yX10_resize ∈ pw_G := ⟨pw_in 1543 (by decide +kernel) (by decide +kernel), pw_in 1545 (by decide +kernel) (by decide +kernel), pw_in 40 (by decide +kernel) (by decide +kernel)⟩
def YX10_splitNow : pw_Y := (RX10, "splitNow", cX10_splitNow, 9, (some .int))
theorem ywX10_splitNow : pw_y yX10_splitNow YX10_splitNow 2 := ⟨by decide +kernel, by decide +kernel, by decide +kernel, pw_in 1534 (by decide +kernel) (by decide +kernel), pw_in 106 (by decide +kernel) (by decide +kernel)⟩
theorem cwX10_199 : Cond.methodLink RX10 199 yX10_freeNode ∈ pw_G ∧ Cond.instanceMethod yX10_freeNode ∈ pw_G ∧ Cond.selects RX10 yX10_freeNode yX10_freeNode ∈ pw_G := ⟨pw_in 1535 (by decide +kernel) (by decide +kernel), pw_in 1537 (by decide +kernel) (by decide +kernel), pw_in 38 (by decide +kernel) (by decide +kernel)⟩
theorem cwX10_203 : Cond.methodLink RX10 203 yX10_lay ∈ pw_G ∧ Cond.instanceMethod yX10_lay ∈ pw_G ∧ Cond.selects RX10 yX10_lay yX10_lay ∈ pw_G := ⟨pw_in 1539 (by decide +kernel) (by decide +kernel), pw_in 1541 (by decide +kernel) (by decide +kernel), pw_in 39 (by decide +kernel) (by decide +kernel)⟩
def YX10_maySplit : pw_Y := (RX10, "maySplit", cX10_maySplit, 4, (some .boolean))
theorem ywX10_maySplit : pw_y yX10_maySplit YX10_maySplit 2 := ⟨by decide +kernel, by decide +kernel, by decide +kernel, pw_in 1530 (by decide +kernel) (by decide +kernel), pw_in 106 (by decide +kernel) (by decide +kernel)⟩
def YX10_split : pw_Y := (RX10, "split", cX10_split, 3, (some .int))
theorem ywX10_split : pw_y yX10_split YX10_split 2 := ⟨by decide +kernel, by decide +kernel, by decide +kernel, pw_in 1522 (by decide +kernel) (by decide +kernel), pw_in 106 (by decide +kernel) (by decide +kernel)⟩
theorem cwX10_217 : Cond.methodLink RX10 217 yX10_maySplit ∈ pw_G ∧ Cond.instanceMethod yX10_maySplit ∈ pw_G ∧ Cond.selects RX10 yX10_maySplit yX10_maySplit ∈ pw_G := ⟨pw_in 1527 (by decide +kernel) (by decide +kernel), pw_in 1529 (by decide +kernel) (by decide +kernel), pw_in 36 (by decide +kernel) (by decide +kernel)⟩
theorem cwX10_221 : Cond.methodLink RX10 221 yX10_splitNow ∈ pw_G ∧ Cond.instanceMethod yX10_splitNow ∈ pw_G ∧ Cond.selects RX10 yX10_splitNow yX10_splitNow ∈ pw_G := ⟨pw_in 1531 (by decide +kernel) (by decide +kernel), pw_in 1533 (by decide +kernel) (by decide +kernel), pw_in 37 (by decide +kernel) (by decide +kernel)⟩
theorem mA_ne {k j : Nat} {g : Nat → Int} {s : mS} (h : j ≠ k) : (mA k g s).2 j = s.2 j := va_up_ne _ _ h
theorem mA_eq {k : Nat} {g : Nat → Int} {s : mS} : (mA k g s).2 k = g := va_up_self _ _ _
theorem mA_1 {k j i : Nat} {g : Nat → Int} {s : mS} {v : Int} (h : j ≠ k) (e : s.2 j i = v) : (mA k g s).2 j i = v := (congrFun (mA_ne h) i).trans e
theorem mA_2 {k i l : Nat} {x v : Int} {s : mS} (h : i ≠ l) (e : s.2 k i = v) : (mA k (va_up (s.2 k) l x) s).2 k i = v := (congrFun mA_eq i).trans ((va_up_ne _ _ h).trans e)
theorem mA_3 {k l : Nat} {x : Int} {s : mS} : (mA k (va_up (s.2 k) l x) s).2 k l = x := (congrFun mA_eq l).trans (va_up_self _ _ _)
theorem mRg_A {k p : Nat} {g : Nat → Int} {s : mS} (hk : k < 18 ∨ 45 < k) (h : mRg s p) : mRg (mA k g s) p := by
  have e : ∀ j, 18 ≤ j → j ≤ 45 → (mA k g s).2 j = s.2 j := fun j h1 h2 => mA_ne (by omega)
  unfold mRg
  rw [e 18 (by decide) (by decide), e 19 (by decide) (by decide), e 23 (by decide) (by decide), e 24 (by decide) (by decide), e 26 (by decide) (by decide), e 27 (by decide) (by decide)]
  exact h
theorem mG_1 {j i : Nat} {g : Nat → Nat → Int} {s : mS} {v : Int} (h : j < 18 ∨ 45 < j) (e : s.2 j i = v) : (mG s g).2 j i = v := (congrFun (show (if j < 18 ∨ 45 < j then s.2 j else g j) = s.2 j from if_pos h) i).trans e
set_option maxHeartbeats 2000000 in
set_option maxRecDepth 100000 in
theorem lN_lay0 {E : pw_E} (htr : E.1.stackTraces = false) {Kk : pw_K} {h h1 : pz_H} {n B : Nat} {s s1 : mS} {a w H : Int} (hw : 8 ≤ w ∧ w ≤ 40) (hH : 4 ≤ H ∧ H ≤ 16) (e4_0 : s1.2 4 0 = -1) (e4_1 : s1.2 4 1 = 0) (e4_2 : s1.2 4 2 = 1) (e5_0 : s1.2 5 0 = 1) (e6_0 : s1.2 6 0 = 2) (e8_0 : s1.2 8 0 = 0) (e9_0 : s1.2 9 0 = (w - 1) / 2) (e12_0 : s1.2 12 0 = w) (e13_0 : s1.2 13 0 = H) (e10_0 : s1.2 10 0 = 0) (e11_0 : s1.2 11 0 = 0) (e15_0 : s1.2 15 0 = 0) (e59_0 : s1.2 59 0 = w) (e60_0 : s1.2 60 0 = H) (rg0 : mRg s1 0) (rg1 : mRg s1 1) (ha : 1 ≤ a ∧ a ≤ w - 2) (hA1 : mAt B s1 h1) (hF1 : mFr B h h1) (hv1 : s1.1 = s.1) (hQ : ∀ (s' : mS) (h' : pz_H), mAt B s' h' → s'.1 = s.1 → mFr B h h' → Kk.2.2.1 none h' n) : pw E YX10_lay (rmD 2 0 0) Kk 0 0 229 [some (.ref B), some (.int (zI (0))), some (.int (zI (0))), some (.int (zI (0))), some (.int (zI (w))), some (.int (zI (H))), some (.int (zI (0))), some (.int (zI (0))), some (.int (zI (w))), some (.int (zI (w))), some (.int (zI (((w - 1) * ((w - 1) / 2)) / (w - 1)))), none, none] [.int (zI a)] h1 n := by
  refine pw_istore (lv' := [some (.ref B), some (.int (zI (0))), some (.int (zI (0))), some (.int (zI (0))), some (.int (zI (w))), some (.int (zI (H))), some (.int (zI (0))), some (.int (zI (0))), some (.int (zI (w))), some (.int (zI (w))), some (.int (zI (a))), none, none]) dX10_lay_229 (by decide) rfl rfl ?_
  refine pw_aload_n dX10_lay_231 rfl ?_
  refine pw_get (v := .ref (B + 7)) okX10 (k := 9) (by decide) lkX10_29 hA1.1 rfl dX10_lay_232 ?_
  refine pw_iload dX10_lay_235 rfl ?_
  refine pw_iload dX10_lay_237 rfl ?_
  refine pw_iast (g := (s1.2 9)) (t := 0) rfl (mF9 (s := s1) hA1) (by omega) (by decide) dX10_lay_239 ?_
  have hA51 : mAt B (mA 9 (va_up (s1.2 9) (0 : Int).toNat (a)) s1) (va_up h1 (B + 7) (pz_z 0 16 (va_up (s1.2 9) (0 : Int).toNat (a)))) := mU9 hA1
  have hF51 : mFr B h (va_up h1 (B + 7) (pz_z 0 16 (va_up (s1.2 9) (0 : Int).toNat (a)))) := mFr_tr hF1 (mFr_up (by decide))
  have e4_1_51 : (mA 9 (va_up (s1.2 9) (0 : Int).toNat (a)) s1).2 4 1 = 0 := mA_1 (by decide) e4_1
  have e4_2_51 : (mA 9 (va_up (s1.2 9) (0 : Int).toNat (a)) s1).2 4 2 = 1 := mA_1 (by decide) e4_2
  have e5_0_51 : (mA 9 (va_up (s1.2 9) (0 : Int).toNat (a)) s1).2 5 0 = 1 := mA_1 (by decide) e5_0
  have e6_0_51 : (mA 9 (va_up (s1.2 9) (0 : Int).toNat (a)) s1).2 6 0 = 2 := mA_1 (by decide) e6_0
  have e8_0_51 : (mA 9 (va_up (s1.2 9) (0 : Int).toNat (a)) s1).2 8 0 = 0 := mA_1 (by decide) e8_0
  have e12_0_51 : (mA 9 (va_up (s1.2 9) (0 : Int).toNat (a)) s1).2 12 0 = w := mA_1 (by decide) e12_0
  have e13_0_51 : (mA 9 (va_up (s1.2 9) (0 : Int).toNat (a)) s1).2 13 0 = H := mA_1 (by decide) e13_0
  have e10_0_51 : (mA 9 (va_up (s1.2 9) (0 : Int).toNat (a)) s1).2 10 0 = 0 := mA_1 (by decide) e10_0
  have e11_0_51 : (mA 9 (va_up (s1.2 9) (0 : Int).toNat (a)) s1).2 11 0 = 0 := mA_1 (by decide) e11_0
  have e15_0_51 : (mA 9 (va_up (s1.2 9) (0 : Int).toNat (a)) s1).2 15 0 = 0 := mA_1 (by decide) e15_0
  have e59_0_51 : (mA 9 (va_up (s1.2 9) (0 : Int).toNat (a)) s1).2 59 0 = w := mA_1 (by decide) e59_0
  have e60_0_51 : (mA 9 (va_up (s1.2 9) (0 : Int).toNat (a)) s1).2 60 0 = H := mA_1 (by decide) e60_0
  have e9_0_51 : (mA 9 (va_up (s1.2 9) (0 : Int).toNat (a)) s1).2 9 0 = a := mA_3 (l := 0)
  have hv51 : (mA 9 (va_up (s1.2 9) (0 : Int).toNat (a)) s1).1 = s.1 := hv1
  have rg0_51 : mRg (mA 9 (va_up (s1.2 9) (0 : Int).toNat (a)) s1) 0 := mRg_A (by decide) rg0
  have rg1_51 : mRg (mA 9 (va_up (s1.2 9) (0 : Int).toNat (a)) s1) 1 := mRg_A (by decide) rg1
  revert hA51 hF51 e4_1_51 e4_2_51 e5_0_51 e6_0_51 e8_0_51 e12_0_51 e13_0_51 e10_0_51 e11_0_51 e15_0_51 e59_0_51 e60_0_51 e9_0_51 hv51 rg0_51 rg1_51
  generalize (mA 9 (va_up (s1.2 9) (0 : Int).toNat (a)) s1) = s51
  generalize (va_up h1 (B + 7) (pz_z 0 16 (va_up (s1.2 9) (0 : Int).toNat (a)))) = h51
  intro hA51 hF51 e4_1_51 e4_2_51 e5_0_51 e6_0_51 e8_0_51 e12_0_51 e13_0_51 e10_0_51 e11_0_51 e15_0_51 e59_0_51 e60_0_51 e9_0_51 hv51 rg0_51 rg1_51
  clear e4_0 e4_1 e4_2 e5_0 e6_0 e8_0 e9_0 e12_0 e13_0 e10_0 e11_0 e15_0 e59_0 e60_0 rg0 rg1 hv1 hF1 hA1
  refine pw_aload_n dX10_lay_240 rfl ?_
  refine pw_get (v := .ref (B + 10)) okX10 (k := 12) (by decide) lkX10_38 hA51.1 rfl dX10_lay_241 ?_
  refine pw_iload dX10_lay_244 rfl ?_
  refine pw_aload_n dX10_lay_246 rfl ?_
  refine pw_get (v := .ref (B + 48)) okX10 (k := 59) (by decide) lkX10_156 hA51.1 rfl dX10_lay_247 ?_
  refine pw_iload dX10_lay_250 rfl ?_
  refine pw_ialdv (v := w) (t := 0) rfl (mF59 (s := s51) hA51) (by omega) (by decide) (e59_0_51) dX10_lay_252 ?_
  refine pw_iast (g := (s51.2 12)) (t := 0) rfl (mF12 (s := s51) hA51) (by omega) (by decide) dX10_lay_253 ?_
  have hA52 : mAt B (mA 12 (va_up (s51.2 12) (0 : Int).toNat (w)) s51) (va_up h51 (B + 10) (pz_z 0 16 (va_up (s51.2 12) (0 : Int).toNat (w)))) := mU12 hA51
  have hF52 : mFr B h (va_up h51 (B + 10) (pz_z 0 16 (va_up (s51.2 12) (0 : Int).toNat (w)))) := mFr_tr hF51 (mFr_up (by decide))
  have e4_1_52 : (mA 12 (va_up (s51.2 12) (0 : Int).toNat (w)) s51).2 4 1 = 0 := mA_1 (by decide) e4_1_51
  have e4_2_52 : (mA 12 (va_up (s51.2 12) (0 : Int).toNat (w)) s51).2 4 2 = 1 := mA_1 (by decide) e4_2_51
  have e5_0_52 : (mA 12 (va_up (s51.2 12) (0 : Int).toNat (w)) s51).2 5 0 = 1 := mA_1 (by decide) e5_0_51
  have e6_0_52 : (mA 12 (va_up (s51.2 12) (0 : Int).toNat (w)) s51).2 6 0 = 2 := mA_1 (by decide) e6_0_51
  have e8_0_52 : (mA 12 (va_up (s51.2 12) (0 : Int).toNat (w)) s51).2 8 0 = 0 := mA_1 (by decide) e8_0_51
  have e13_0_52 : (mA 12 (va_up (s51.2 12) (0 : Int).toNat (w)) s51).2 13 0 = H := mA_1 (by decide) e13_0_51
  have e10_0_52 : (mA 12 (va_up (s51.2 12) (0 : Int).toNat (w)) s51).2 10 0 = 0 := mA_1 (by decide) e10_0_51
  have e11_0_52 : (mA 12 (va_up (s51.2 12) (0 : Int).toNat (w)) s51).2 11 0 = 0 := mA_1 (by decide) e11_0_51
  have e15_0_52 : (mA 12 (va_up (s51.2 12) (0 : Int).toNat (w)) s51).2 15 0 = 0 := mA_1 (by decide) e15_0_51
  have e59_0_52 : (mA 12 (va_up (s51.2 12) (0 : Int).toNat (w)) s51).2 59 0 = w := mA_1 (by decide) e59_0_51
  have e60_0_52 : (mA 12 (va_up (s51.2 12) (0 : Int).toNat (w)) s51).2 60 0 = H := mA_1 (by decide) e60_0_51
  have e12_0_52 : (mA 12 (va_up (s51.2 12) (0 : Int).toNat (w)) s51).2 12 0 = w := mA_3 (l := 0)
  have hv52 : (mA 12 (va_up (s51.2 12) (0 : Int).toNat (w)) s51).1 = s.1 := hv51
  have rg0_52 : mRg (mA 12 (va_up (s51.2 12) (0 : Int).toNat (w)) s51) 0 := mRg_A (by decide) rg0_51
  have rg1_52 : mRg (mA 12 (va_up (s51.2 12) (0 : Int).toNat (w)) s51) 1 := mRg_A (by decide) rg1_51
  revert hA52 hF52 e4_1_52 e4_2_52 e5_0_52 e6_0_52 e8_0_52 e13_0_52 e10_0_52 e11_0_52 e15_0_52 e59_0_52 e60_0_52 e12_0_52 hv52 rg0_52 rg1_52
  generalize (mA 12 (va_up (s51.2 12) (0 : Int).toNat (w)) s51) = s52
  generalize (va_up h51 (B + 10) (pz_z 0 16 (va_up (s51.2 12) (0 : Int).toNat (w)))) = h52
  intro hA52 hF52 e4_1_52 e4_2_52 e5_0_52 e6_0_52 e8_0_52 e13_0_52 e10_0_52 e11_0_52 e15_0_52 e59_0_52 e60_0_52 e12_0_52 hv52 rg0_52 rg1_52
  clear e4_1_51 e4_2_51 e5_0_51 e6_0_51 e8_0_51 e12_0_51 e13_0_51 e10_0_51 e11_0_51 e15_0_51 e59_0_51 e60_0_51 e9_0_51 rg0_51 rg1_51 hv51 hF51 hA51
  refine pw_aload_n dX10_lay_254 rfl ?_
  refine pw_get (v := .ref (B + 11)) okX10 (k := 13) (by decide) lkX10_41 hA52.1 rfl dX10_lay_255 ?_
  refine pw_iload dX10_lay_258 rfl ?_
  refine pw_aload_n dX10_lay_260 rfl ?_
  refine pw_get (v := .ref (B + 49)) okX10 (k := 60) (by decide) lkX10_159 hA52.1 rfl dX10_lay_261 ?_
  refine pw_iload dX10_lay_264 rfl ?_
  refine pw_ialdv (v := H) (t := 0) rfl (mF60 (s := s52) hA52) (by omega) (by decide) (e60_0_52) dX10_lay_266 ?_
  refine pw_iast (g := (s52.2 13)) (t := 0) rfl (mF13 (s := s52) hA52) (by omega) (by decide) dX10_lay_267 ?_
  have hA53 : mAt B (mA 13 (va_up (s52.2 13) (0 : Int).toNat (H)) s52) (va_up h52 (B + 11) (pz_z 0 16 (va_up (s52.2 13) (0 : Int).toNat (H)))) := mU13 hA52
  have hF53 : mFr B h (va_up h52 (B + 11) (pz_z 0 16 (va_up (s52.2 13) (0 : Int).toNat (H)))) := mFr_tr hF52 (mFr_up (by decide))
  have e4_1_53 : (mA 13 (va_up (s52.2 13) (0 : Int).toNat (H)) s52).2 4 1 = 0 := mA_1 (by decide) e4_1_52
  have e4_2_53 : (mA 13 (va_up (s52.2 13) (0 : Int).toNat (H)) s52).2 4 2 = 1 := mA_1 (by decide) e4_2_52
  have e5_0_53 : (mA 13 (va_up (s52.2 13) (0 : Int).toNat (H)) s52).2 5 0 = 1 := mA_1 (by decide) e5_0_52
  have e6_0_53 : (mA 13 (va_up (s52.2 13) (0 : Int).toNat (H)) s52).2 6 0 = 2 := mA_1 (by decide) e6_0_52
  have e8_0_53 : (mA 13 (va_up (s52.2 13) (0 : Int).toNat (H)) s52).2 8 0 = 0 := mA_1 (by decide) e8_0_52
  have e10_0_53 : (mA 13 (va_up (s52.2 13) (0 : Int).toNat (H)) s52).2 10 0 = 0 := mA_1 (by decide) e10_0_52
  have e11_0_53 : (mA 13 (va_up (s52.2 13) (0 : Int).toNat (H)) s52).2 11 0 = 0 := mA_1 (by decide) e11_0_52
  have e15_0_53 : (mA 13 (va_up (s52.2 13) (0 : Int).toNat (H)) s52).2 15 0 = 0 := mA_1 (by decide) e15_0_52
  have e59_0_53 : (mA 13 (va_up (s52.2 13) (0 : Int).toNat (H)) s52).2 59 0 = w := mA_1 (by decide) e59_0_52
  have e60_0_53 : (mA 13 (va_up (s52.2 13) (0 : Int).toNat (H)) s52).2 60 0 = H := mA_1 (by decide) e60_0_52
  have e12_0_53 : (mA 13 (va_up (s52.2 13) (0 : Int).toNat (H)) s52).2 12 0 = w := mA_1 (by decide) e12_0_52
  have e13_0_53 : (mA 13 (va_up (s52.2 13) (0 : Int).toNat (H)) s52).2 13 0 = H := mA_3 (l := 0)
  have hv53 : (mA 13 (va_up (s52.2 13) (0 : Int).toNat (H)) s52).1 = s.1 := hv52
  have rg0_53 : mRg (mA 13 (va_up (s52.2 13) (0 : Int).toNat (H)) s52) 0 := mRg_A (by decide) rg0_52
  have rg1_53 : mRg (mA 13 (va_up (s52.2 13) (0 : Int).toNat (H)) s52) 1 := mRg_A (by decide) rg1_52
  revert hA53 hF53 e4_1_53 e4_2_53 e5_0_53 e6_0_53 e8_0_53 e10_0_53 e11_0_53 e15_0_53 e59_0_53 e60_0_53 e12_0_53 e13_0_53 hv53 rg0_53 rg1_53
  generalize (mA 13 (va_up (s52.2 13) (0 : Int).toNat (H)) s52) = s53
  generalize (va_up h52 (B + 11) (pz_z 0 16 (va_up (s52.2 13) (0 : Int).toNat (H)))) = h53
  intro hA53 hF53 e4_1_53 e4_2_53 e5_0_53 e6_0_53 e8_0_53 e10_0_53 e11_0_53 e15_0_53 e59_0_53 e60_0_53 e12_0_53 e13_0_53 hv53 rg0_53 rg1_53
  clear e4_1_52 e4_2_52 e5_0_52 e6_0_52 e8_0_52 e13_0_52 e10_0_52 e11_0_52 e15_0_52 e59_0_52 e60_0_52 e12_0_52 rg0_52 rg1_52 hv52 hF52 hA52
  refine pw_aload_n dX10_lay_268 rfl ?_
  refine pw_get (v := .ref (B + 3)) okX10 (k := 5) (by decide) lkX10_17 hA53.1 rfl dX10_lay_269 ?_
  refine pw_iload dX10_lay_272 rfl ?_
  refine pw_ialdv (v := 1) (t := 0) rfl (mF5 (s := s53) hA53) (by omega) (by decide) (e5_0_53) dX10_lay_274 ?_
  refine pw_istore (lv' := [some (.ref B), some (.int (zI (0))), some (.int (zI (0))), some (.int (zI (0))), some (.int (zI (w))), some (.int (zI (H))), some (.int (zI (0))), some (.int (zI (0))), some (.int (zI (w))), some (.int (zI (w))), some (.int (zI (a))), some (.int (zI (1))), none]) dX10_lay_275 (by decide) rfl rfl ?_
  refine pw_aload_n dX10_lay_277 rfl ?_
  refine pw_get (v := .ref (B + 4)) okX10 (k := 6) (by decide) lkX10_20 hA53.1 rfl dX10_lay_278 ?_
  refine pw_iload dX10_lay_281 rfl ?_
  refine pw_ialdv (v := 2) (t := 0) rfl (mF6 (s := s53) hA53) (by omega) (by decide) (e6_0_53) dX10_lay_283 ?_
  refine pw_istore (lv' := [some (.ref B), some (.int (zI (0))), some (.int (zI (0))), some (.int (zI (0))), some (.int (zI (w))), some (.int (zI (H))), some (.int (zI (0))), some (.int (zI (0))), some (.int (zI (w))), some (.int (zI (w))), some (.int (zI (a))), some (.int (zI (1))), some (.int (zI (2)))]) dX10_lay_284 (by decide) rfl rfl ?_
  refine pw_aload_n dX10_lay_286 rfl ?_
  refine pw_get (v := .ref (B + 8)) okX10 (k := 10) (by decide) lkX10_32 hA53.1 rfl dX10_lay_287 ?_
  refine pw_iload dX10_lay_290 rfl ?_
  refine pw_aload_n dX10_lay_292 rfl ?_
  refine pw_get (v := .ref (B + 8)) okX10 (k := 10) (by decide) lkX10_32 hA53.1 rfl dX10_lay_293 ?_
  refine pw_iload dX10_lay_296 rfl ?_
  refine pw_ialdv (v := 0) (t := 0) rfl (mF10 (s := s53) hA53) (by omega) (by decide) (e10_0_53) dX10_lay_298 ?_
  refine pw_iast (g := (s53.2 10)) (t := 0) rfl (mF10 (s := s53) hA53) (by omega) (by decide) dX10_lay_299 ?_
  have hA54 : mAt B (mA 10 (va_up (s53.2 10) (1 : Int).toNat (0)) s53) (va_up h53 (B + 8) (pz_z 0 16 (va_up (s53.2 10) (1 : Int).toNat (0)))) := mU10 hA53
  have hF54 : mFr B h (va_up h53 (B + 8) (pz_z 0 16 (va_up (s53.2 10) (1 : Int).toNat (0)))) := mFr_tr hF53 (mFr_up (by decide))
  have e4_1_54 : (mA 10 (va_up (s53.2 10) (1 : Int).toNat (0)) s53).2 4 1 = 0 := mA_1 (by decide) e4_1_53
  have e4_2_54 : (mA 10 (va_up (s53.2 10) (1 : Int).toNat (0)) s53).2 4 2 = 1 := mA_1 (by decide) e4_2_53
  have e5_0_54 : (mA 10 (va_up (s53.2 10) (1 : Int).toNat (0)) s53).2 5 0 = 1 := mA_1 (by decide) e5_0_53
  have e6_0_54 : (mA 10 (va_up (s53.2 10) (1 : Int).toNat (0)) s53).2 6 0 = 2 := mA_1 (by decide) e6_0_53
  have e8_0_54 : (mA 10 (va_up (s53.2 10) (1 : Int).toNat (0)) s53).2 8 0 = 0 := mA_1 (by decide) e8_0_53
  have e10_0_54 : (mA 10 (va_up (s53.2 10) (1 : Int).toNat (0)) s53).2 10 0 = 0 := mA_2 (l := 1) (by decide) e10_0_53
  have e11_0_54 : (mA 10 (va_up (s53.2 10) (1 : Int).toNat (0)) s53).2 11 0 = 0 := mA_1 (by decide) e11_0_53
  have e15_0_54 : (mA 10 (va_up (s53.2 10) (1 : Int).toNat (0)) s53).2 15 0 = 0 := mA_1 (by decide) e15_0_53
  have e59_0_54 : (mA 10 (va_up (s53.2 10) (1 : Int).toNat (0)) s53).2 59 0 = w := mA_1 (by decide) e59_0_53
  have e60_0_54 : (mA 10 (va_up (s53.2 10) (1 : Int).toNat (0)) s53).2 60 0 = H := mA_1 (by decide) e60_0_53
  have e12_0_54 : (mA 10 (va_up (s53.2 10) (1 : Int).toNat (0)) s53).2 12 0 = w := mA_1 (by decide) e12_0_53
  have e13_0_54 : (mA 10 (va_up (s53.2 10) (1 : Int).toNat (0)) s53).2 13 0 = H := mA_1 (by decide) e13_0_53
  have e10_1_54 : (mA 10 (va_up (s53.2 10) (1 : Int).toNat (0)) s53).2 10 1 = 0 := mA_3 (l := 1)
  have hv54 : (mA 10 (va_up (s53.2 10) (1 : Int).toNat (0)) s53).1 = s.1 := hv53
  have rg0_54 : mRg (mA 10 (va_up (s53.2 10) (1 : Int).toNat (0)) s53) 0 := mRg_A (by decide) rg0_53
  have rg1_54 : mRg (mA 10 (va_up (s53.2 10) (1 : Int).toNat (0)) s53) 1 := mRg_A (by decide) rg1_53
  revert hA54 hF54 e4_1_54 e4_2_54 e5_0_54 e6_0_54 e8_0_54 e10_0_54 e11_0_54 e15_0_54 e59_0_54 e60_0_54 e12_0_54 e13_0_54 e10_1_54 hv54 rg0_54 rg1_54
  generalize (mA 10 (va_up (s53.2 10) (1 : Int).toNat (0)) s53) = s54
  generalize (va_up h53 (B + 8) (pz_z 0 16 (va_up (s53.2 10) (1 : Int).toNat (0)))) = h54
  intro hA54 hF54 e4_1_54 e4_2_54 e5_0_54 e6_0_54 e8_0_54 e10_0_54 e11_0_54 e15_0_54 e59_0_54 e60_0_54 e12_0_54 e13_0_54 e10_1_54 hv54 rg0_54 rg1_54
  clear e4_1_53 e4_2_53 e5_0_53 e6_0_53 e8_0_53 e10_0_53 e11_0_53 e15_0_53 e59_0_53 e60_0_53 e12_0_53 e13_0_53 rg0_53 rg1_53 hv53 hF53 hA53
  refine pw_aload_n dX10_lay_300 rfl ?_
  refine pw_get (v := .ref (B + 9)) okX10 (k := 11) (by decide) lkX10_35 hA54.1 rfl dX10_lay_301 ?_
  refine pw_iload dX10_lay_304 rfl ?_
  refine pw_aload_n dX10_lay_306 rfl ?_
  refine pw_get (v := .ref (B + 9)) okX10 (k := 11) (by decide) lkX10_35 hA54.1 rfl dX10_lay_307 ?_
  refine pw_iload dX10_lay_310 rfl ?_
  refine pw_ialdv (v := 0) (t := 0) rfl (mF11 (s := s54) hA54) (by omega) (by decide) (e11_0_54) dX10_lay_312 ?_
  refine pw_iast (g := (s54.2 11)) (t := 0) rfl (mF11 (s := s54) hA54) (by omega) (by decide) dX10_lay_313 ?_
  have hA55 : mAt B (mA 11 (va_up (s54.2 11) (1 : Int).toNat (0)) s54) (va_up h54 (B + 9) (pz_z 0 16 (va_up (s54.2 11) (1 : Int).toNat (0)))) := mU11 hA54
  have hF55 : mFr B h (va_up h54 (B + 9) (pz_z 0 16 (va_up (s54.2 11) (1 : Int).toNat (0)))) := mFr_tr hF54 (mFr_up (by decide))
  have e4_1_55 : (mA 11 (va_up (s54.2 11) (1 : Int).toNat (0)) s54).2 4 1 = 0 := mA_1 (by decide) e4_1_54
  have e4_2_55 : (mA 11 (va_up (s54.2 11) (1 : Int).toNat (0)) s54).2 4 2 = 1 := mA_1 (by decide) e4_2_54
  have e5_0_55 : (mA 11 (va_up (s54.2 11) (1 : Int).toNat (0)) s54).2 5 0 = 1 := mA_1 (by decide) e5_0_54
  have e6_0_55 : (mA 11 (va_up (s54.2 11) (1 : Int).toNat (0)) s54).2 6 0 = 2 := mA_1 (by decide) e6_0_54
  have e8_0_55 : (mA 11 (va_up (s54.2 11) (1 : Int).toNat (0)) s54).2 8 0 = 0 := mA_1 (by decide) e8_0_54
  have e10_0_55 : (mA 11 (va_up (s54.2 11) (1 : Int).toNat (0)) s54).2 10 0 = 0 := mA_1 (by decide) e10_0_54
  have e11_0_55 : (mA 11 (va_up (s54.2 11) (1 : Int).toNat (0)) s54).2 11 0 = 0 := mA_2 (l := 1) (by decide) e11_0_54
  have e15_0_55 : (mA 11 (va_up (s54.2 11) (1 : Int).toNat (0)) s54).2 15 0 = 0 := mA_1 (by decide) e15_0_54
  have e59_0_55 : (mA 11 (va_up (s54.2 11) (1 : Int).toNat (0)) s54).2 59 0 = w := mA_1 (by decide) e59_0_54
  have e60_0_55 : (mA 11 (va_up (s54.2 11) (1 : Int).toNat (0)) s54).2 60 0 = H := mA_1 (by decide) e60_0_54
  have e12_0_55 : (mA 11 (va_up (s54.2 11) (1 : Int).toNat (0)) s54).2 12 0 = w := mA_1 (by decide) e12_0_54
  have e13_0_55 : (mA 11 (va_up (s54.2 11) (1 : Int).toNat (0)) s54).2 13 0 = H := mA_1 (by decide) e13_0_54
  have e10_1_55 : (mA 11 (va_up (s54.2 11) (1 : Int).toNat (0)) s54).2 10 1 = 0 := mA_1 (by decide) e10_1_54
  have e11_1_55 : (mA 11 (va_up (s54.2 11) (1 : Int).toNat (0)) s54).2 11 1 = 0 := mA_3 (l := 1)
  have hv55 : (mA 11 (va_up (s54.2 11) (1 : Int).toNat (0)) s54).1 = s.1 := hv54
  have rg0_55 : mRg (mA 11 (va_up (s54.2 11) (1 : Int).toNat (0)) s54) 0 := mRg_A (by decide) rg0_54
  have rg1_55 : mRg (mA 11 (va_up (s54.2 11) (1 : Int).toNat (0)) s54) 1 := mRg_A (by decide) rg1_54
  revert hA55 hF55 e4_1_55 e4_2_55 e5_0_55 e6_0_55 e8_0_55 e10_0_55 e11_0_55 e15_0_55 e59_0_55 e60_0_55 e12_0_55 e13_0_55 e10_1_55 e11_1_55 hv55 rg0_55 rg1_55
  generalize (mA 11 (va_up (s54.2 11) (1 : Int).toNat (0)) s54) = s55
  generalize (va_up h54 (B + 9) (pz_z 0 16 (va_up (s54.2 11) (1 : Int).toNat (0)))) = h55
  intro hA55 hF55 e4_1_55 e4_2_55 e5_0_55 e6_0_55 e8_0_55 e10_0_55 e11_0_55 e15_0_55 e59_0_55 e60_0_55 e12_0_55 e13_0_55 e10_1_55 e11_1_55 hv55 rg0_55 rg1_55
  clear e4_1_54 e4_2_54 e5_0_54 e6_0_54 e8_0_54 e10_0_54 e11_0_54 e15_0_54 e59_0_54 e60_0_54 e12_0_54 e13_0_54 e10_1_54 rg0_54 rg1_54 hv54 hF54 hA54
  refine pw_aload_n dX10_lay_314 rfl ?_
  refine pw_get (v := .ref (B + 48)) okX10 (k := 59) (by decide) lkX10_156 hA55.1 rfl dX10_lay_315 ?_
  refine pw_iload dX10_lay_318 rfl ?_
  refine pw_aload_n dX10_lay_320 rfl ?_
  refine pw_get (v := .ref (B + 6)) okX10 (k := 8) (by decide) lkX10_26 hA55.1 rfl dX10_lay_321 ?_
  refine pw_iload dX10_lay_324 rfl ?_
  refine pw_zaldv (v := 0) (t := 1) rfl (mF8 (s := s55) hA55) (by omega) (by decide) (e8_0_55) dX10_lay_326 ?_
  refine pw_if_eq (tgt := 340) dX10_lay_327 rfl (by omega) (fun c327 => ?_) (fun c327 => ?_)
  ·
    refine pw_iload dX10_lay_340 rfl ?_
    refine pw_iast (g := (s55.2 59)) (t := 0) rfl (mF59 (s := s55) hA55) (by omega) (by decide) dX10_lay_342 ?_
    have hA56 : mAt B (mA 59 (va_up (s55.2 59) (1 : Int).toNat (a)) s55) (va_up h55 (B + 48) (pz_z 0 16 (va_up (s55.2 59) (1 : Int).toNat (a)))) := mU59 hA55
    have hF56 : mFr B h (va_up h55 (B + 48) (pz_z 0 16 (va_up (s55.2 59) (1 : Int).toNat (a)))) := mFr_tr hF55 (mFr_up (by decide))
    have e4_1_56 : (mA 59 (va_up (s55.2 59) (1 : Int).toNat (a)) s55).2 4 1 = 0 := mA_1 (by decide) e4_1_55
    have e4_2_56 : (mA 59 (va_up (s55.2 59) (1 : Int).toNat (a)) s55).2 4 2 = 1 := mA_1 (by decide) e4_2_55
    have e5_0_56 : (mA 59 (va_up (s55.2 59) (1 : Int).toNat (a)) s55).2 5 0 = 1 := mA_1 (by decide) e5_0_55
    have e6_0_56 : (mA 59 (va_up (s55.2 59) (1 : Int).toNat (a)) s55).2 6 0 = 2 := mA_1 (by decide) e6_0_55
    have e8_0_56 : (mA 59 (va_up (s55.2 59) (1 : Int).toNat (a)) s55).2 8 0 = 0 := mA_1 (by decide) e8_0_55
    have e10_0_56 : (mA 59 (va_up (s55.2 59) (1 : Int).toNat (a)) s55).2 10 0 = 0 := mA_1 (by decide) e10_0_55
    have e11_0_56 : (mA 59 (va_up (s55.2 59) (1 : Int).toNat (a)) s55).2 11 0 = 0 := mA_1 (by decide) e11_0_55
    have e15_0_56 : (mA 59 (va_up (s55.2 59) (1 : Int).toNat (a)) s55).2 15 0 = 0 := mA_1 (by decide) e15_0_55
    have e59_0_56 : (mA 59 (va_up (s55.2 59) (1 : Int).toNat (a)) s55).2 59 0 = w := mA_2 (l := 1) (by decide) e59_0_55
    have e60_0_56 : (mA 59 (va_up (s55.2 59) (1 : Int).toNat (a)) s55).2 60 0 = H := mA_1 (by decide) e60_0_55
    have e12_0_56 : (mA 59 (va_up (s55.2 59) (1 : Int).toNat (a)) s55).2 12 0 = w := mA_1 (by decide) e12_0_55
    have e13_0_56 : (mA 59 (va_up (s55.2 59) (1 : Int).toNat (a)) s55).2 13 0 = H := mA_1 (by decide) e13_0_55
    have e10_1_56 : (mA 59 (va_up (s55.2 59) (1 : Int).toNat (a)) s55).2 10 1 = 0 := mA_1 (by decide) e10_1_55
    have e11_1_56 : (mA 59 (va_up (s55.2 59) (1 : Int).toNat (a)) s55).2 11 1 = 0 := mA_1 (by decide) e11_1_55
    have e59_1_56 : (mA 59 (va_up (s55.2 59) (1 : Int).toNat (a)) s55).2 59 1 = a := mA_3 (l := 1)
    have hv56 : (mA 59 (va_up (s55.2 59) (1 : Int).toNat (a)) s55).1 = s.1 := hv55
    have rg0_56 : mRg (mA 59 (va_up (s55.2 59) (1 : Int).toNat (a)) s55) 0 := mRg_A (by decide) rg0_55
    have rg1_56 : mRg (mA 59 (va_up (s55.2 59) (1 : Int).toNat (a)) s55) 1 := mRg_A (by decide) rg1_55
    revert hA56 hF56 e4_1_56 e4_2_56 e5_0_56 e6_0_56 e8_0_56 e10_0_56 e11_0_56 e15_0_56 e59_0_56 e60_0_56 e12_0_56 e13_0_56 e10_1_56 e11_1_56 e59_1_56 hv56 rg0_56 rg1_56
    generalize (mA 59 (va_up (s55.2 59) (1 : Int).toNat (a)) s55) = s56
    generalize (va_up h55 (B + 48) (pz_z 0 16 (va_up (s55.2 59) (1 : Int).toNat (a)))) = h56
    intro hA56 hF56 e4_1_56 e4_2_56 e5_0_56 e6_0_56 e8_0_56 e10_0_56 e11_0_56 e15_0_56 e59_0_56 e60_0_56 e12_0_56 e13_0_56 e10_1_56 e11_1_56 e59_1_56 hv56 rg0_56 rg1_56
    clear e4_1_55 e4_2_55 e5_0_55 e6_0_55 e8_0_55 e10_0_55 e11_0_55 e15_0_55 e59_0_55 e60_0_55 e12_0_55 e13_0_55 e10_1_55 e11_1_55 rg0_55 rg1_55 hv55 hF55 hA55
    refine pw_aload_n dX10_lay_343 rfl ?_
    refine pw_get (v := .ref (B + 49)) okX10 (k := 60) (by decide) lkX10_159 hA56.1 rfl dX10_lay_344 ?_
    refine pw_iload dX10_lay_347 rfl ?_
    refine pw_aload_n dX10_lay_349 rfl ?_
    refine pw_get (v := .ref (B + 6)) okX10 (k := 8) (by decide) lkX10_26 hA56.1 rfl dX10_lay_350 ?_
    refine pw_iload dX10_lay_353 rfl ?_
    refine pw_zaldv (v := 0) (t := 1) rfl (mF8 (s := s56) hA56) (by omega) (by decide) (e8_0_56) dX10_lay_355 ?_
    refine pw_if_eq (tgt := 364) dX10_lay_356 rfl (by omega) (fun c356 => ?_) (fun c356 => ?_)
    ·
      refine pw_aload_n dX10_lay_364 rfl ?_
      refine pw_get (v := .ref (B + 11)) okX10 (k := 13) (by decide) lkX10_41 hA56.1 rfl dX10_lay_365 ?_
      refine pw_iload dX10_lay_368 rfl ?_
      refine pw_ialdv (v := H) (t := 0) rfl (mF13 (s := s56) hA56) (by omega) (by decide) (e13_0_56) dX10_lay_370 ?_
      refine pw_iast (g := (s56.2 60)) (t := 0) rfl (mF60 (s := s56) hA56) (by omega) (by decide) dX10_lay_371 ?_
      have hA57 : mAt B (mA 60 (va_up (s56.2 60) (1 : Int).toNat (H)) s56) (va_up h56 (B + 49) (pz_z 0 16 (va_up (s56.2 60) (1 : Int).toNat (H)))) := mU60 hA56
      have hF57 : mFr B h (va_up h56 (B + 49) (pz_z 0 16 (va_up (s56.2 60) (1 : Int).toNat (H)))) := mFr_tr hF56 (mFr_up (by decide))
      have e4_1_57 : (mA 60 (va_up (s56.2 60) (1 : Int).toNat (H)) s56).2 4 1 = 0 := mA_1 (by decide) e4_1_56
      have e4_2_57 : (mA 60 (va_up (s56.2 60) (1 : Int).toNat (H)) s56).2 4 2 = 1 := mA_1 (by decide) e4_2_56
      have e5_0_57 : (mA 60 (va_up (s56.2 60) (1 : Int).toNat (H)) s56).2 5 0 = 1 := mA_1 (by decide) e5_0_56
      have e6_0_57 : (mA 60 (va_up (s56.2 60) (1 : Int).toNat (H)) s56).2 6 0 = 2 := mA_1 (by decide) e6_0_56
      have e8_0_57 : (mA 60 (va_up (s56.2 60) (1 : Int).toNat (H)) s56).2 8 0 = 0 := mA_1 (by decide) e8_0_56
      have e10_0_57 : (mA 60 (va_up (s56.2 60) (1 : Int).toNat (H)) s56).2 10 0 = 0 := mA_1 (by decide) e10_0_56
      have e11_0_57 : (mA 60 (va_up (s56.2 60) (1 : Int).toNat (H)) s56).2 11 0 = 0 := mA_1 (by decide) e11_0_56
      have e15_0_57 : (mA 60 (va_up (s56.2 60) (1 : Int).toNat (H)) s56).2 15 0 = 0 := mA_1 (by decide) e15_0_56
      have e59_0_57 : (mA 60 (va_up (s56.2 60) (1 : Int).toNat (H)) s56).2 59 0 = w := mA_1 (by decide) e59_0_56
      have e60_0_57 : (mA 60 (va_up (s56.2 60) (1 : Int).toNat (H)) s56).2 60 0 = H := mA_2 (l := 1) (by decide) e60_0_56
      have e12_0_57 : (mA 60 (va_up (s56.2 60) (1 : Int).toNat (H)) s56).2 12 0 = w := mA_1 (by decide) e12_0_56
      have e13_0_57 : (mA 60 (va_up (s56.2 60) (1 : Int).toNat (H)) s56).2 13 0 = H := mA_1 (by decide) e13_0_56
      have e10_1_57 : (mA 60 (va_up (s56.2 60) (1 : Int).toNat (H)) s56).2 10 1 = 0 := mA_1 (by decide) e10_1_56
      have e11_1_57 : (mA 60 (va_up (s56.2 60) (1 : Int).toNat (H)) s56).2 11 1 = 0 := mA_1 (by decide) e11_1_56
      have e59_1_57 : (mA 60 (va_up (s56.2 60) (1 : Int).toNat (H)) s56).2 59 1 = a := mA_1 (by decide) e59_1_56
      have e60_1_57 : (mA 60 (va_up (s56.2 60) (1 : Int).toNat (H)) s56).2 60 1 = H := mA_3 (l := 1)
      have hv57 : (mA 60 (va_up (s56.2 60) (1 : Int).toNat (H)) s56).1 = s.1 := hv56
      have rg0_57 : mRg (mA 60 (va_up (s56.2 60) (1 : Int).toNat (H)) s56) 0 := mRg_A (by decide) rg0_56
      have rg1_57 : mRg (mA 60 (va_up (s56.2 60) (1 : Int).toNat (H)) s56) 1 := mRg_A (by decide) rg1_56
      revert hA57 hF57 e4_1_57 e4_2_57 e5_0_57 e6_0_57 e8_0_57 e10_0_57 e11_0_57 e15_0_57 e59_0_57 e60_0_57 e12_0_57 e13_0_57 e10_1_57 e11_1_57 e59_1_57 e60_1_57 hv57 rg0_57 rg1_57
      generalize (mA 60 (va_up (s56.2 60) (1 : Int).toNat (H)) s56) = s57
      generalize (va_up h56 (B + 49) (pz_z 0 16 (va_up (s56.2 60) (1 : Int).toNat (H)))) = h57
      intro hA57 hF57 e4_1_57 e4_2_57 e5_0_57 e6_0_57 e8_0_57 e10_0_57 e11_0_57 e15_0_57 e59_0_57 e60_0_57 e12_0_57 e13_0_57 e10_1_57 e11_1_57 e59_1_57 e60_1_57 hv57 rg0_57 rg1_57
      clear e4_1_56 e4_2_56 e5_0_56 e6_0_56 e8_0_56 e10_0_56 e11_0_56 e15_0_56 e59_0_56 e60_0_56 e12_0_56 e13_0_56 e10_1_56 e11_1_56 e59_1_56 rg0_56 rg1_56 hv56 hF56 hA56
      refine pw_aload_n dX10_lay_372 rfl ?_
      refine pw_get (v := .ref (B + 8)) okX10 (k := 10) (by decide) lkX10_32 hA57.1 rfl dX10_lay_373 ?_
      refine pw_iload dX10_lay_376 rfl ?_
      refine pw_aload_n dX10_lay_378 rfl ?_
      refine pw_get (v := .ref (B + 6)) okX10 (k := 8) (by decide) lkX10_26 hA57.1 rfl dX10_lay_379 ?_
      refine pw_iload dX10_lay_382 rfl ?_
      refine pw_zaldv (v := 0) (t := 1) rfl (mF8 (s := s57) hA57) (by omega) (by decide) (e8_0_57) dX10_lay_384 ?_
      refine pw_if_eq (tgt := 398) dX10_lay_385 rfl (by omega) (fun c385 => ?_) (fun c385 => ?_)
      ·
        refine pw_aload_n dX10_lay_398 rfl ?_
        refine pw_get (v := .ref (B + 8)) okX10 (k := 10) (by decide) lkX10_32 hA57.1 rfl dX10_lay_399 ?_
        refine pw_iload dX10_lay_402 rfl ?_
        refine pw_ialdv (v := 0) (t := 0) rfl (mF10 (s := s57) hA57) (by omega) (by decide) (e10_0_57) dX10_lay_404 ?_
        refine pw_iload dX10_lay_405 rfl ?_
        refine pw_ziadd dX10_lay_407 ?_
        refine pw_iconst (v := zI (1)) dX10_lay_408 (by decide) ?_
        refine pw_ziadd dX10_lay_409 ?_
        refine pw_iast (g := (s57.2 10)) (t := 0) rfl (mF10 (s := s57) hA57) (by omega) (by decide) dX10_lay_410 ?_
        have hA58 : mAt B (mA 10 (va_up (s57.2 10) (2 : Int).toNat ((0 + a) + (1))) s57) (va_up h57 (B + 8) (pz_z 0 16 (va_up (s57.2 10) (2 : Int).toNat ((0 + a) + (1))))) := mU10 hA57
        have hF58 : mFr B h (va_up h57 (B + 8) (pz_z 0 16 (va_up (s57.2 10) (2 : Int).toNat ((0 + a) + (1))))) := mFr_tr hF57 (mFr_up (by decide))
        have e4_1_58 : (mA 10 (va_up (s57.2 10) (2 : Int).toNat ((0 + a) + (1))) s57).2 4 1 = 0 := mA_1 (by decide) e4_1_57
        have e4_2_58 : (mA 10 (va_up (s57.2 10) (2 : Int).toNat ((0 + a) + (1))) s57).2 4 2 = 1 := mA_1 (by decide) e4_2_57
        have e5_0_58 : (mA 10 (va_up (s57.2 10) (2 : Int).toNat ((0 + a) + (1))) s57).2 5 0 = 1 := mA_1 (by decide) e5_0_57
        have e6_0_58 : (mA 10 (va_up (s57.2 10) (2 : Int).toNat ((0 + a) + (1))) s57).2 6 0 = 2 := mA_1 (by decide) e6_0_57
        have e8_0_58 : (mA 10 (va_up (s57.2 10) (2 : Int).toNat ((0 + a) + (1))) s57).2 8 0 = 0 := mA_1 (by decide) e8_0_57
        have e10_0_58 : (mA 10 (va_up (s57.2 10) (2 : Int).toNat ((0 + a) + (1))) s57).2 10 0 = 0 := mA_2 (l := 2) (by decide) e10_0_57
        have e11_0_58 : (mA 10 (va_up (s57.2 10) (2 : Int).toNat ((0 + a) + (1))) s57).2 11 0 = 0 := mA_1 (by decide) e11_0_57
        have e15_0_58 : (mA 10 (va_up (s57.2 10) (2 : Int).toNat ((0 + a) + (1))) s57).2 15 0 = 0 := mA_1 (by decide) e15_0_57
        have e59_0_58 : (mA 10 (va_up (s57.2 10) (2 : Int).toNat ((0 + a) + (1))) s57).2 59 0 = w := mA_1 (by decide) e59_0_57
        have e60_0_58 : (mA 10 (va_up (s57.2 10) (2 : Int).toNat ((0 + a) + (1))) s57).2 60 0 = H := mA_1 (by decide) e60_0_57
        have e12_0_58 : (mA 10 (va_up (s57.2 10) (2 : Int).toNat ((0 + a) + (1))) s57).2 12 0 = w := mA_1 (by decide) e12_0_57
        have e13_0_58 : (mA 10 (va_up (s57.2 10) (2 : Int).toNat ((0 + a) + (1))) s57).2 13 0 = H := mA_1 (by decide) e13_0_57
        have e10_1_58 : (mA 10 (va_up (s57.2 10) (2 : Int).toNat ((0 + a) + (1))) s57).2 10 1 = 0 := mA_2 (l := 2) (by decide) e10_1_57
        have e11_1_58 : (mA 10 (va_up (s57.2 10) (2 : Int).toNat ((0 + a) + (1))) s57).2 11 1 = 0 := mA_1 (by decide) e11_1_57
        have e59_1_58 : (mA 10 (va_up (s57.2 10) (2 : Int).toNat ((0 + a) + (1))) s57).2 59 1 = a := mA_1 (by decide) e59_1_57
        have e60_1_58 : (mA 10 (va_up (s57.2 10) (2 : Int).toNat ((0 + a) + (1))) s57).2 60 1 = H := mA_1 (by decide) e60_1_57
        have e10_2_58 : (mA 10 (va_up (s57.2 10) (2 : Int).toNat ((0 + a) + (1))) s57).2 10 2 = (0 + a) + (1) := mA_3 (l := 2)
        have hv58 : (mA 10 (va_up (s57.2 10) (2 : Int).toNat ((0 + a) + (1))) s57).1 = s.1 := hv57
        have rg0_58 : mRg (mA 10 (va_up (s57.2 10) (2 : Int).toNat ((0 + a) + (1))) s57) 0 := mRg_A (by decide) rg0_57
        have rg1_58 : mRg (mA 10 (va_up (s57.2 10) (2 : Int).toNat ((0 + a) + (1))) s57) 1 := mRg_A (by decide) rg1_57
        revert hA58 hF58 e4_1_58 e4_2_58 e5_0_58 e6_0_58 e8_0_58 e10_0_58 e11_0_58 e15_0_58 e59_0_58 e60_0_58 e12_0_58 e13_0_58 e10_1_58 e11_1_58 e59_1_58 e60_1_58 e10_2_58 hv58 rg0_58 rg1_58
        generalize (mA 10 (va_up (s57.2 10) (2 : Int).toNat ((0 + a) + (1))) s57) = s58
        generalize (va_up h57 (B + 8) (pz_z 0 16 (va_up (s57.2 10) (2 : Int).toNat ((0 + a) + (1))))) = h58
        intro hA58 hF58 e4_1_58 e4_2_58 e5_0_58 e6_0_58 e8_0_58 e10_0_58 e11_0_58 e15_0_58 e59_0_58 e60_0_58 e12_0_58 e13_0_58 e10_1_58 e11_1_58 e59_1_58 e60_1_58 e10_2_58 hv58 rg0_58 rg1_58
        clear e4_1_57 e4_2_57 e5_0_57 e6_0_57 e8_0_57 e10_0_57 e11_0_57 e15_0_57 e59_0_57 e60_0_57 e12_0_57 e13_0_57 e10_1_57 e11_1_57 e59_1_57 e60_1_57 rg0_57 rg1_57 hv57 hF57 hA57
        refine pw_aload_n dX10_lay_411 rfl ?_
        refine pw_get (v := .ref (B + 9)) okX10 (k := 11) (by decide) lkX10_35 hA58.1 rfl dX10_lay_412 ?_
        refine pw_iload dX10_lay_415 rfl ?_
        refine pw_aload_n dX10_lay_417 rfl ?_
        refine pw_get (v := .ref (B + 6)) okX10 (k := 8) (by decide) lkX10_26 hA58.1 rfl dX10_lay_418 ?_
        refine pw_iload dX10_lay_421 rfl ?_
        refine pw_zaldv (v := 0) (t := 1) rfl (mF8 (s := s58) hA58) (by omega) (by decide) (e8_0_58) dX10_lay_423 ?_
        refine pw_if_eq (tgt := 442) dX10_lay_424 rfl (by omega) (fun c424 => ?_) (fun c424 => ?_)
        ·
          refine pw_aload_n dX10_lay_442 rfl ?_
          refine pw_get (v := .ref (B + 9)) okX10 (k := 11) (by decide) lkX10_35 hA58.1 rfl dX10_lay_443 ?_
          refine pw_iload dX10_lay_446 rfl ?_
          refine pw_ialdv (v := 0) (t := 0) rfl (mF11 (s := s58) hA58) (by omega) (by decide) (e11_0_58) dX10_lay_448 ?_
          refine pw_iast (g := (s58.2 11)) (t := 0) rfl (mF11 (s := s58) hA58) (by omega) (by decide) dX10_lay_449 ?_
          have hA59 : mAt B (mA 11 (va_up (s58.2 11) (2 : Int).toNat (0)) s58) (va_up h58 (B + 9) (pz_z 0 16 (va_up (s58.2 11) (2 : Int).toNat (0)))) := mU11 hA58
          have hF59 : mFr B h (va_up h58 (B + 9) (pz_z 0 16 (va_up (s58.2 11) (2 : Int).toNat (0)))) := mFr_tr hF58 (mFr_up (by decide))
          have e4_1_59 : (mA 11 (va_up (s58.2 11) (2 : Int).toNat (0)) s58).2 4 1 = 0 := mA_1 (by decide) e4_1_58
          have e4_2_59 : (mA 11 (va_up (s58.2 11) (2 : Int).toNat (0)) s58).2 4 2 = 1 := mA_1 (by decide) e4_2_58
          have e5_0_59 : (mA 11 (va_up (s58.2 11) (2 : Int).toNat (0)) s58).2 5 0 = 1 := mA_1 (by decide) e5_0_58
          have e6_0_59 : (mA 11 (va_up (s58.2 11) (2 : Int).toNat (0)) s58).2 6 0 = 2 := mA_1 (by decide) e6_0_58
          have e8_0_59 : (mA 11 (va_up (s58.2 11) (2 : Int).toNat (0)) s58).2 8 0 = 0 := mA_1 (by decide) e8_0_58
          have e10_0_59 : (mA 11 (va_up (s58.2 11) (2 : Int).toNat (0)) s58).2 10 0 = 0 := mA_1 (by decide) e10_0_58
          have e11_0_59 : (mA 11 (va_up (s58.2 11) (2 : Int).toNat (0)) s58).2 11 0 = 0 := mA_2 (l := 2) (by decide) e11_0_58
          have e15_0_59 : (mA 11 (va_up (s58.2 11) (2 : Int).toNat (0)) s58).2 15 0 = 0 := mA_1 (by decide) e15_0_58
          have e59_0_59 : (mA 11 (va_up (s58.2 11) (2 : Int).toNat (0)) s58).2 59 0 = w := mA_1 (by decide) e59_0_58
          have e60_0_59 : (mA 11 (va_up (s58.2 11) (2 : Int).toNat (0)) s58).2 60 0 = H := mA_1 (by decide) e60_0_58
          have e12_0_59 : (mA 11 (va_up (s58.2 11) (2 : Int).toNat (0)) s58).2 12 0 = w := mA_1 (by decide) e12_0_58
          have e13_0_59 : (mA 11 (va_up (s58.2 11) (2 : Int).toNat (0)) s58).2 13 0 = H := mA_1 (by decide) e13_0_58
          have e10_1_59 : (mA 11 (va_up (s58.2 11) (2 : Int).toNat (0)) s58).2 10 1 = 0 := mA_1 (by decide) e10_1_58
          have e11_1_59 : (mA 11 (va_up (s58.2 11) (2 : Int).toNat (0)) s58).2 11 1 = 0 := mA_2 (l := 2) (by decide) e11_1_58
          have e59_1_59 : (mA 11 (va_up (s58.2 11) (2 : Int).toNat (0)) s58).2 59 1 = a := mA_1 (by decide) e59_1_58
          have e60_1_59 : (mA 11 (va_up (s58.2 11) (2 : Int).toNat (0)) s58).2 60 1 = H := mA_1 (by decide) e60_1_58
          have e10_2_59 : (mA 11 (va_up (s58.2 11) (2 : Int).toNat (0)) s58).2 10 2 = (0 + a) + (1) := mA_1 (by decide) e10_2_58
          have e11_2_59 : (mA 11 (va_up (s58.2 11) (2 : Int).toNat (0)) s58).2 11 2 = 0 := mA_3 (l := 2)
          have hv59 : (mA 11 (va_up (s58.2 11) (2 : Int).toNat (0)) s58).1 = s.1 := hv58
          have rg0_59 : mRg (mA 11 (va_up (s58.2 11) (2 : Int).toNat (0)) s58) 0 := mRg_A (by decide) rg0_58
          have rg1_59 : mRg (mA 11 (va_up (s58.2 11) (2 : Int).toNat (0)) s58) 1 := mRg_A (by decide) rg1_58
          revert hA59 hF59 e4_1_59 e4_2_59 e5_0_59 e6_0_59 e8_0_59 e10_0_59 e11_0_59 e15_0_59 e59_0_59 e60_0_59 e12_0_59 e13_0_59 e10_1_59 e11_1_59 e59_1_59 e60_1_59 e10_2_59 e11_2_59 hv59 rg0_59 rg1_59
          generalize (mA 11 (va_up (s58.2 11) (2 : Int).toNat (0)) s58) = s59
          generalize (va_up h58 (B + 9) (pz_z 0 16 (va_up (s58.2 11) (2 : Int).toNat (0)))) = h59
          intro hA59 hF59 e4_1_59 e4_2_59 e5_0_59 e6_0_59 e8_0_59 e10_0_59 e11_0_59 e15_0_59 e59_0_59 e60_0_59 e12_0_59 e13_0_59 e10_1_59 e11_1_59 e59_1_59 e60_1_59 e10_2_59 e11_2_59 hv59 rg0_59 rg1_59
          clear e4_1_58 e4_2_58 e5_0_58 e6_0_58 e8_0_58 e10_0_58 e11_0_58 e15_0_58 e59_0_58 e60_0_58 e12_0_58 e13_0_58 e10_1_58 e11_1_58 e59_1_58 e60_1_58 e10_2_58 rg0_58 rg1_58 hv58 hF58 hA58
          refine pw_aload_n dX10_lay_450 rfl ?_
          refine pw_get (v := .ref (B + 48)) okX10 (k := 59) (by decide) lkX10_156 hA59.1 rfl dX10_lay_451 ?_
          refine pw_iload dX10_lay_454 rfl ?_
          refine pw_aload_n dX10_lay_456 rfl ?_
          refine pw_get (v := .ref (B + 6)) okX10 (k := 8) (by decide) lkX10_26 hA59.1 rfl dX10_lay_457 ?_
          refine pw_iload dX10_lay_460 rfl ?_
          refine pw_zaldv (v := 0) (t := 1) rfl (mF8 (s := s59) hA59) (by omega) (by decide) (e8_0_59) dX10_lay_462 ?_
          refine pw_if_eq (tgt := 476) dX10_lay_463 rfl (by omega) (fun c463 => ?_) (fun c463 => ?_)
          ·
            refine pw_iload dX10_lay_476 rfl ?_
            refine pw_iconst (v := zI (1)) dX10_lay_478 (by decide) ?_
            refine pw_zisub dX10_lay_479 ?_
            refine pw_iload dX10_lay_480 rfl ?_
            refine pw_zisub dX10_lay_482 ?_
            refine pw_iast (g := (s59.2 59)) (t := 0) rfl (mF59 (s := s59) hA59) (by omega) (by decide) dX10_lay_483 ?_
            have hA60 : mAt B (mA 59 (va_up (s59.2 59) (2 : Int).toNat ((w - 1) - (a))) s59) (va_up h59 (B + 48) (pz_z 0 16 (va_up (s59.2 59) (2 : Int).toNat ((w - 1) - (a))))) := mU59 hA59
            have hF60 : mFr B h (va_up h59 (B + 48) (pz_z 0 16 (va_up (s59.2 59) (2 : Int).toNat ((w - 1) - (a))))) := mFr_tr hF59 (mFr_up (by decide))
            have e4_1_60 : (mA 59 (va_up (s59.2 59) (2 : Int).toNat ((w - 1) - (a))) s59).2 4 1 = 0 := mA_1 (by decide) e4_1_59
            have e4_2_60 : (mA 59 (va_up (s59.2 59) (2 : Int).toNat ((w - 1) - (a))) s59).2 4 2 = 1 := mA_1 (by decide) e4_2_59
            have e5_0_60 : (mA 59 (va_up (s59.2 59) (2 : Int).toNat ((w - 1) - (a))) s59).2 5 0 = 1 := mA_1 (by decide) e5_0_59
            have e6_0_60 : (mA 59 (va_up (s59.2 59) (2 : Int).toNat ((w - 1) - (a))) s59).2 6 0 = 2 := mA_1 (by decide) e6_0_59
            have e8_0_60 : (mA 59 (va_up (s59.2 59) (2 : Int).toNat ((w - 1) - (a))) s59).2 8 0 = 0 := mA_1 (by decide) e8_0_59
            have e10_0_60 : (mA 59 (va_up (s59.2 59) (2 : Int).toNat ((w - 1) - (a))) s59).2 10 0 = 0 := mA_1 (by decide) e10_0_59
            have e11_0_60 : (mA 59 (va_up (s59.2 59) (2 : Int).toNat ((w - 1) - (a))) s59).2 11 0 = 0 := mA_1 (by decide) e11_0_59
            have e15_0_60 : (mA 59 (va_up (s59.2 59) (2 : Int).toNat ((w - 1) - (a))) s59).2 15 0 = 0 := mA_1 (by decide) e15_0_59
            have e59_0_60 : (mA 59 (va_up (s59.2 59) (2 : Int).toNat ((w - 1) - (a))) s59).2 59 0 = w := mA_2 (l := 2) (by decide) e59_0_59
            have e60_0_60 : (mA 59 (va_up (s59.2 59) (2 : Int).toNat ((w - 1) - (a))) s59).2 60 0 = H := mA_1 (by decide) e60_0_59
            have e12_0_60 : (mA 59 (va_up (s59.2 59) (2 : Int).toNat ((w - 1) - (a))) s59).2 12 0 = w := mA_1 (by decide) e12_0_59
            have e13_0_60 : (mA 59 (va_up (s59.2 59) (2 : Int).toNat ((w - 1) - (a))) s59).2 13 0 = H := mA_1 (by decide) e13_0_59
            have e10_1_60 : (mA 59 (va_up (s59.2 59) (2 : Int).toNat ((w - 1) - (a))) s59).2 10 1 = 0 := mA_1 (by decide) e10_1_59
            have e11_1_60 : (mA 59 (va_up (s59.2 59) (2 : Int).toNat ((w - 1) - (a))) s59).2 11 1 = 0 := mA_1 (by decide) e11_1_59
            have e59_1_60 : (mA 59 (va_up (s59.2 59) (2 : Int).toNat ((w - 1) - (a))) s59).2 59 1 = a := mA_2 (l := 2) (by decide) e59_1_59
            have e60_1_60 : (mA 59 (va_up (s59.2 59) (2 : Int).toNat ((w - 1) - (a))) s59).2 60 1 = H := mA_1 (by decide) e60_1_59
            have e10_2_60 : (mA 59 (va_up (s59.2 59) (2 : Int).toNat ((w - 1) - (a))) s59).2 10 2 = (0 + a) + (1) := mA_1 (by decide) e10_2_59
            have e11_2_60 : (mA 59 (va_up (s59.2 59) (2 : Int).toNat ((w - 1) - (a))) s59).2 11 2 = 0 := mA_1 (by decide) e11_2_59
            have e59_2_60 : (mA 59 (va_up (s59.2 59) (2 : Int).toNat ((w - 1) - (a))) s59).2 59 2 = (w - 1) - (a) := mA_3 (l := 2)
            have hv60 : (mA 59 (va_up (s59.2 59) (2 : Int).toNat ((w - 1) - (a))) s59).1 = s.1 := hv59
            have rg0_60 : mRg (mA 59 (va_up (s59.2 59) (2 : Int).toNat ((w - 1) - (a))) s59) 0 := mRg_A (by decide) rg0_59
            have rg1_60 : mRg (mA 59 (va_up (s59.2 59) (2 : Int).toNat ((w - 1) - (a))) s59) 1 := mRg_A (by decide) rg1_59
            revert hA60 hF60 e4_1_60 e4_2_60 e5_0_60 e6_0_60 e8_0_60 e10_0_60 e11_0_60 e15_0_60 e59_0_60 e60_0_60 e12_0_60 e13_0_60 e10_1_60 e11_1_60 e59_1_60 e60_1_60 e10_2_60 e11_2_60 e59_2_60 hv60 rg0_60 rg1_60
            generalize (mA 59 (va_up (s59.2 59) (2 : Int).toNat ((w - 1) - (a))) s59) = s60
            generalize (va_up h59 (B + 48) (pz_z 0 16 (va_up (s59.2 59) (2 : Int).toNat ((w - 1) - (a))))) = h60
            intro hA60 hF60 e4_1_60 e4_2_60 e5_0_60 e6_0_60 e8_0_60 e10_0_60 e11_0_60 e15_0_60 e59_0_60 e60_0_60 e12_0_60 e13_0_60 e10_1_60 e11_1_60 e59_1_60 e60_1_60 e10_2_60 e11_2_60 e59_2_60 hv60 rg0_60 rg1_60
            clear e4_1_59 e4_2_59 e5_0_59 e6_0_59 e8_0_59 e10_0_59 e11_0_59 e15_0_59 e59_0_59 e60_0_59 e12_0_59 e13_0_59 e10_1_59 e11_1_59 e59_1_59 e60_1_59 e10_2_59 e11_2_59 rg0_59 rg1_59 hv59 hF59 hA59
            refine pw_aload_n dX10_lay_484 rfl ?_
            refine pw_get (v := .ref (B + 49)) okX10 (k := 60) (by decide) lkX10_159 hA60.1 rfl dX10_lay_485 ?_
            refine pw_iload dX10_lay_488 rfl ?_
            refine pw_aload_n dX10_lay_490 rfl ?_
            refine pw_get (v := .ref (B + 6)) okX10 (k := 8) (by decide) lkX10_26 hA60.1 rfl dX10_lay_491 ?_
            refine pw_iload dX10_lay_494 rfl ?_
            refine pw_zaldv (v := 0) (t := 1) rfl (mF8 (s := s60) hA60) (by omega) (by decide) (e8_0_60) dX10_lay_496 ?_
            refine pw_if_eq (tgt := 510) dX10_lay_497 rfl (by omega) (fun c497 => ?_) (fun c497 => ?_)
            ·
              refine pw_aload_n dX10_lay_510 rfl ?_
              refine pw_get (v := .ref (B + 11)) okX10 (k := 13) (by decide) lkX10_41 hA60.1 rfl dX10_lay_511 ?_
              refine pw_iload dX10_lay_514 rfl ?_
              refine pw_ialdv (v := H) (t := 0) rfl (mF13 (s := s60) hA60) (by omega) (by decide) (e13_0_60) dX10_lay_516 ?_
              refine pw_iast (g := (s60.2 60)) (t := 0) rfl (mF60 (s := s60) hA60) (by omega) (by decide) dX10_lay_517 ?_
              have hA61 : mAt B (mA 60 (va_up (s60.2 60) (2 : Int).toNat (H)) s60) (va_up h60 (B + 49) (pz_z 0 16 (va_up (s60.2 60) (2 : Int).toNat (H)))) := mU60 hA60
              have hF61 : mFr B h (va_up h60 (B + 49) (pz_z 0 16 (va_up (s60.2 60) (2 : Int).toNat (H)))) := mFr_tr hF60 (mFr_up (by decide))
              have e4_1_61 : (mA 60 (va_up (s60.2 60) (2 : Int).toNat (H)) s60).2 4 1 = 0 := mA_1 (by decide) e4_1_60
              have e4_2_61 : (mA 60 (va_up (s60.2 60) (2 : Int).toNat (H)) s60).2 4 2 = 1 := mA_1 (by decide) e4_2_60
              have e5_0_61 : (mA 60 (va_up (s60.2 60) (2 : Int).toNat (H)) s60).2 5 0 = 1 := mA_1 (by decide) e5_0_60
              have e6_0_61 : (mA 60 (va_up (s60.2 60) (2 : Int).toNat (H)) s60).2 6 0 = 2 := mA_1 (by decide) e6_0_60
              have e8_0_61 : (mA 60 (va_up (s60.2 60) (2 : Int).toNat (H)) s60).2 8 0 = 0 := mA_1 (by decide) e8_0_60
              have e10_0_61 : (mA 60 (va_up (s60.2 60) (2 : Int).toNat (H)) s60).2 10 0 = 0 := mA_1 (by decide) e10_0_60
              have e11_0_61 : (mA 60 (va_up (s60.2 60) (2 : Int).toNat (H)) s60).2 11 0 = 0 := mA_1 (by decide) e11_0_60
              have e15_0_61 : (mA 60 (va_up (s60.2 60) (2 : Int).toNat (H)) s60).2 15 0 = 0 := mA_1 (by decide) e15_0_60
              have e59_0_61 : (mA 60 (va_up (s60.2 60) (2 : Int).toNat (H)) s60).2 59 0 = w := mA_1 (by decide) e59_0_60
              have e60_0_61 : (mA 60 (va_up (s60.2 60) (2 : Int).toNat (H)) s60).2 60 0 = H := mA_2 (l := 2) (by decide) e60_0_60
              have e12_0_61 : (mA 60 (va_up (s60.2 60) (2 : Int).toNat (H)) s60).2 12 0 = w := mA_1 (by decide) e12_0_60
              have e13_0_61 : (mA 60 (va_up (s60.2 60) (2 : Int).toNat (H)) s60).2 13 0 = H := mA_1 (by decide) e13_0_60
              have e10_1_61 : (mA 60 (va_up (s60.2 60) (2 : Int).toNat (H)) s60).2 10 1 = 0 := mA_1 (by decide) e10_1_60
              have e11_1_61 : (mA 60 (va_up (s60.2 60) (2 : Int).toNat (H)) s60).2 11 1 = 0 := mA_1 (by decide) e11_1_60
              have e59_1_61 : (mA 60 (va_up (s60.2 60) (2 : Int).toNat (H)) s60).2 59 1 = a := mA_1 (by decide) e59_1_60
              have e60_1_61 : (mA 60 (va_up (s60.2 60) (2 : Int).toNat (H)) s60).2 60 1 = H := mA_2 (l := 2) (by decide) e60_1_60
              have e10_2_61 : (mA 60 (va_up (s60.2 60) (2 : Int).toNat (H)) s60).2 10 2 = (0 + a) + (1) := mA_1 (by decide) e10_2_60
              have e11_2_61 : (mA 60 (va_up (s60.2 60) (2 : Int).toNat (H)) s60).2 11 2 = 0 := mA_1 (by decide) e11_2_60
              have e59_2_61 : (mA 60 (va_up (s60.2 60) (2 : Int).toNat (H)) s60).2 59 2 = (w - 1) - (a) := mA_1 (by decide) e59_2_60
              have e60_2_61 : (mA 60 (va_up (s60.2 60) (2 : Int).toNat (H)) s60).2 60 2 = H := mA_3 (l := 2)
              have hv61 : (mA 60 (va_up (s60.2 60) (2 : Int).toNat (H)) s60).1 = s.1 := hv60
              have rg0_61 : mRg (mA 60 (va_up (s60.2 60) (2 : Int).toNat (H)) s60) 0 := mRg_A (by decide) rg0_60
              have rg1_61 : mRg (mA 60 (va_up (s60.2 60) (2 : Int).toNat (H)) s60) 1 := mRg_A (by decide) rg1_60
              revert hA61 hF61 e4_1_61 e4_2_61 e5_0_61 e6_0_61 e8_0_61 e10_0_61 e11_0_61 e15_0_61 e59_0_61 e60_0_61 e12_0_61 e13_0_61 e10_1_61 e11_1_61 e59_1_61 e60_1_61 e10_2_61 e11_2_61 e59_2_61 e60_2_61 hv61 rg0_61 rg1_61
              generalize (mA 60 (va_up (s60.2 60) (2 : Int).toNat (H)) s60) = s61
              generalize (va_up h60 (B + 49) (pz_z 0 16 (va_up (s60.2 60) (2 : Int).toNat (H)))) = h61
              intro hA61 hF61 e4_1_61 e4_2_61 e5_0_61 e6_0_61 e8_0_61 e10_0_61 e11_0_61 e15_0_61 e59_0_61 e60_0_61 e12_0_61 e13_0_61 e10_1_61 e11_1_61 e59_1_61 e60_1_61 e10_2_61 e11_2_61 e59_2_61 e60_2_61 hv61 rg0_61 rg1_61
              clear e4_1_60 e4_2_60 e5_0_60 e6_0_60 e8_0_60 e10_0_60 e11_0_60 e15_0_60 e59_0_60 e60_0_60 e12_0_60 e13_0_60 e10_1_60 e11_1_60 e59_1_60 e60_1_60 e10_2_60 e11_2_60 e59_2_60 rg0_60 rg1_60 hv60 hF60 hA60
              refine pw_aload_n dX10_lay_518 rfl ?_
              refine pw_get (v := .ref (B + 12)) okX10 (k := 15) (by decide) lkX10_44 hA61.1 rfl dX10_lay_519 ?_
              refine pw_iload dX10_lay_522 rfl ?_
              refine pw_iload dX10_lay_524 rfl ?_
              refine pw_iast (g := (s61.2 15)) (t := 0) rfl (mF15 (s := s61) hA61) (by omega) (by decide) dX10_lay_526 ?_
              have hA62 : mAt B (mA 15 (va_up (s61.2 15) (0 : Int).toNat (1)) s61) (va_up h61 (B + 12) (pz_z 0 16 (va_up (s61.2 15) (0 : Int).toNat (1)))) := mU15 hA61
              have hF62 : mFr B h (va_up h61 (B + 12) (pz_z 0 16 (va_up (s61.2 15) (0 : Int).toNat (1)))) := mFr_tr hF61 (mFr_up (by decide))
              have e4_1_62 : (mA 15 (va_up (s61.2 15) (0 : Int).toNat (1)) s61).2 4 1 = 0 := mA_1 (by decide) e4_1_61
              have e4_2_62 : (mA 15 (va_up (s61.2 15) (0 : Int).toNat (1)) s61).2 4 2 = 1 := mA_1 (by decide) e4_2_61
              have e5_0_62 : (mA 15 (va_up (s61.2 15) (0 : Int).toNat (1)) s61).2 5 0 = 1 := mA_1 (by decide) e5_0_61
              have e6_0_62 : (mA 15 (va_up (s61.2 15) (0 : Int).toNat (1)) s61).2 6 0 = 2 := mA_1 (by decide) e6_0_61
              have e8_0_62 : (mA 15 (va_up (s61.2 15) (0 : Int).toNat (1)) s61).2 8 0 = 0 := mA_1 (by decide) e8_0_61
              have e10_0_62 : (mA 15 (va_up (s61.2 15) (0 : Int).toNat (1)) s61).2 10 0 = 0 := mA_1 (by decide) e10_0_61
              have e11_0_62 : (mA 15 (va_up (s61.2 15) (0 : Int).toNat (1)) s61).2 11 0 = 0 := mA_1 (by decide) e11_0_61
              have e59_0_62 : (mA 15 (va_up (s61.2 15) (0 : Int).toNat (1)) s61).2 59 0 = w := mA_1 (by decide) e59_0_61
              have e60_0_62 : (mA 15 (va_up (s61.2 15) (0 : Int).toNat (1)) s61).2 60 0 = H := mA_1 (by decide) e60_0_61
              have e12_0_62 : (mA 15 (va_up (s61.2 15) (0 : Int).toNat (1)) s61).2 12 0 = w := mA_1 (by decide) e12_0_61
              have e13_0_62 : (mA 15 (va_up (s61.2 15) (0 : Int).toNat (1)) s61).2 13 0 = H := mA_1 (by decide) e13_0_61
              have e10_1_62 : (mA 15 (va_up (s61.2 15) (0 : Int).toNat (1)) s61).2 10 1 = 0 := mA_1 (by decide) e10_1_61
              have e11_1_62 : (mA 15 (va_up (s61.2 15) (0 : Int).toNat (1)) s61).2 11 1 = 0 := mA_1 (by decide) e11_1_61
              have e59_1_62 : (mA 15 (va_up (s61.2 15) (0 : Int).toNat (1)) s61).2 59 1 = a := mA_1 (by decide) e59_1_61
              have e60_1_62 : (mA 15 (va_up (s61.2 15) (0 : Int).toNat (1)) s61).2 60 1 = H := mA_1 (by decide) e60_1_61
              have e10_2_62 : (mA 15 (va_up (s61.2 15) (0 : Int).toNat (1)) s61).2 10 2 = (0 + a) + (1) := mA_1 (by decide) e10_2_61
              have e11_2_62 : (mA 15 (va_up (s61.2 15) (0 : Int).toNat (1)) s61).2 11 2 = 0 := mA_1 (by decide) e11_2_61
              have e59_2_62 : (mA 15 (va_up (s61.2 15) (0 : Int).toNat (1)) s61).2 59 2 = (w - 1) - (a) := mA_1 (by decide) e59_2_61
              have e60_2_62 : (mA 15 (va_up (s61.2 15) (0 : Int).toNat (1)) s61).2 60 2 = H := mA_1 (by decide) e60_2_61
              have e15_0_62 : (mA 15 (va_up (s61.2 15) (0 : Int).toNat (1)) s61).2 15 0 = 1 := mA_3 (l := 0)
              have hv62 : (mA 15 (va_up (s61.2 15) (0 : Int).toNat (1)) s61).1 = s.1 := hv61
              have rg0_62 : mRg (mA 15 (va_up (s61.2 15) (0 : Int).toNat (1)) s61) 0 := mRg_A (by decide) rg0_61
              have rg1_62 : mRg (mA 15 (va_up (s61.2 15) (0 : Int).toNat (1)) s61) 1 := mRg_A (by decide) rg1_61
              revert hA62 hF62 e4_1_62 e4_2_62 e5_0_62 e6_0_62 e8_0_62 e10_0_62 e11_0_62 e59_0_62 e60_0_62 e12_0_62 e13_0_62 e10_1_62 e11_1_62 e59_1_62 e60_1_62 e10_2_62 e11_2_62 e59_2_62 e60_2_62 e15_0_62 hv62 rg0_62 rg1_62
              generalize (mA 15 (va_up (s61.2 15) (0 : Int).toNat (1)) s61) = s62
              generalize (va_up h61 (B + 12) (pz_z 0 16 (va_up (s61.2 15) (0 : Int).toNat (1)))) = h62
              intro hA62 hF62 e4_1_62 e4_2_62 e5_0_62 e6_0_62 e8_0_62 e10_0_62 e11_0_62 e59_0_62 e60_0_62 e12_0_62 e13_0_62 e10_1_62 e11_1_62 e59_1_62 e60_1_62 e10_2_62 e11_2_62 e59_2_62 e60_2_62 e15_0_62 hv62 rg0_62 rg1_62
              clear e4_1_61 e4_2_61 e5_0_61 e6_0_61 e8_0_61 e10_0_61 e11_0_61 e15_0_61 e59_0_61 e60_0_61 e12_0_61 e13_0_61 e10_1_61 e11_1_61 e59_1_61 e60_1_61 e10_2_61 e11_2_61 e59_2_61 e60_2_61 rg0_61 rg1_61 hv61 hF61 hA61
              refine pw_aload_n dX10_lay_527 rfl ?_
              refine pw_get (v := .ref (B + 12)) okX10 (k := 15) (by decide) lkX10_44 hA62.1 rfl dX10_lay_528 ?_
              refine pw_iload dX10_lay_531 rfl ?_
              refine pw_iconst (v := zI (1)) dX10_lay_533 (by decide) ?_
              refine pw_ziadd dX10_lay_534 ?_
              show pw E YX10_lay _ _ 0 0 535 [some (.ref B), some (.int (zI (0))), some (.int (zI (0))), some (.int (zI (0))), some (.int (zI (w))), some (.int (zI (H))), some (.int (zI (0))), some (.int (zI (0))), some (.int (zI (w))), some (.int (zI (w))), some (.int (zI (a))), some (.int (zI (1))), some (.int (zI (2)))] [.int (zI (1)), .ref (B + 12)] h62 n
              refine pw_iload dX10_lay_535 rfl ?_
              refine pw_iast (g := (s62.2 15)) (t := 0) rfl (mF15 (s := s62) hA62) (by omega) (by decide) dX10_lay_537 ?_
              have hA63 : mAt B (mA 15 (va_up (s62.2 15) (1 : Int).toNat (2)) s62) (va_up h62 (B + 12) (pz_z 0 16 (va_up (s62.2 15) (1 : Int).toNat (2)))) := mU15 hA62
              have hF63 : mFr B h (va_up h62 (B + 12) (pz_z 0 16 (va_up (s62.2 15) (1 : Int).toNat (2)))) := mFr_tr hF62 (mFr_up (by decide))
              have e4_1_63 : (mA 15 (va_up (s62.2 15) (1 : Int).toNat (2)) s62).2 4 1 = 0 := mA_1 (by decide) e4_1_62
              have e4_2_63 : (mA 15 (va_up (s62.2 15) (1 : Int).toNat (2)) s62).2 4 2 = 1 := mA_1 (by decide) e4_2_62
              have e5_0_63 : (mA 15 (va_up (s62.2 15) (1 : Int).toNat (2)) s62).2 5 0 = 1 := mA_1 (by decide) e5_0_62
              have e6_0_63 : (mA 15 (va_up (s62.2 15) (1 : Int).toNat (2)) s62).2 6 0 = 2 := mA_1 (by decide) e6_0_62
              have e8_0_63 : (mA 15 (va_up (s62.2 15) (1 : Int).toNat (2)) s62).2 8 0 = 0 := mA_1 (by decide) e8_0_62
              have e10_0_63 : (mA 15 (va_up (s62.2 15) (1 : Int).toNat (2)) s62).2 10 0 = 0 := mA_1 (by decide) e10_0_62
              have e11_0_63 : (mA 15 (va_up (s62.2 15) (1 : Int).toNat (2)) s62).2 11 0 = 0 := mA_1 (by decide) e11_0_62
              have e59_0_63 : (mA 15 (va_up (s62.2 15) (1 : Int).toNat (2)) s62).2 59 0 = w := mA_1 (by decide) e59_0_62
              have e60_0_63 : (mA 15 (va_up (s62.2 15) (1 : Int).toNat (2)) s62).2 60 0 = H := mA_1 (by decide) e60_0_62
              have e12_0_63 : (mA 15 (va_up (s62.2 15) (1 : Int).toNat (2)) s62).2 12 0 = w := mA_1 (by decide) e12_0_62
              have e13_0_63 : (mA 15 (va_up (s62.2 15) (1 : Int).toNat (2)) s62).2 13 0 = H := mA_1 (by decide) e13_0_62
              have e10_1_63 : (mA 15 (va_up (s62.2 15) (1 : Int).toNat (2)) s62).2 10 1 = 0 := mA_1 (by decide) e10_1_62
              have e11_1_63 : (mA 15 (va_up (s62.2 15) (1 : Int).toNat (2)) s62).2 11 1 = 0 := mA_1 (by decide) e11_1_62
              have e59_1_63 : (mA 15 (va_up (s62.2 15) (1 : Int).toNat (2)) s62).2 59 1 = a := mA_1 (by decide) e59_1_62
              have e60_1_63 : (mA 15 (va_up (s62.2 15) (1 : Int).toNat (2)) s62).2 60 1 = H := mA_1 (by decide) e60_1_62
              have e10_2_63 : (mA 15 (va_up (s62.2 15) (1 : Int).toNat (2)) s62).2 10 2 = (0 + a) + (1) := mA_1 (by decide) e10_2_62
              have e11_2_63 : (mA 15 (va_up (s62.2 15) (1 : Int).toNat (2)) s62).2 11 2 = 0 := mA_1 (by decide) e11_2_62
              have e59_2_63 : (mA 15 (va_up (s62.2 15) (1 : Int).toNat (2)) s62).2 59 2 = (w - 1) - (a) := mA_1 (by decide) e59_2_62
              have e60_2_63 : (mA 15 (va_up (s62.2 15) (1 : Int).toNat (2)) s62).2 60 2 = H := mA_1 (by decide) e60_2_62
              have e15_0_63 : (mA 15 (va_up (s62.2 15) (1 : Int).toNat (2)) s62).2 15 0 = 1 := mA_2 (l := 1) (by decide) e15_0_62
              have e15_1_63 : (mA 15 (va_up (s62.2 15) (1 : Int).toNat (2)) s62).2 15 1 = 2 := mA_3 (l := 1)
              have hv63 : (mA 15 (va_up (s62.2 15) (1 : Int).toNat (2)) s62).1 = s.1 := hv62
              have rg0_63 : mRg (mA 15 (va_up (s62.2 15) (1 : Int).toNat (2)) s62) 0 := mRg_A (by decide) rg0_62
              have rg1_63 : mRg (mA 15 (va_up (s62.2 15) (1 : Int).toNat (2)) s62) 1 := mRg_A (by decide) rg1_62
              revert hA63 hF63 e4_1_63 e4_2_63 e5_0_63 e6_0_63 e8_0_63 e10_0_63 e11_0_63 e59_0_63 e60_0_63 e12_0_63 e13_0_63 e10_1_63 e11_1_63 e59_1_63 e60_1_63 e10_2_63 e11_2_63 e59_2_63 e60_2_63 e15_0_63 e15_1_63 hv63 rg0_63 rg1_63
              generalize (mA 15 (va_up (s62.2 15) (1 : Int).toNat (2)) s62) = s63
              generalize (va_up h62 (B + 12) (pz_z 0 16 (va_up (s62.2 15) (1 : Int).toNat (2)))) = h63
              intro hA63 hF63 e4_1_63 e4_2_63 e5_0_63 e6_0_63 e8_0_63 e10_0_63 e11_0_63 e59_0_63 e60_0_63 e12_0_63 e13_0_63 e10_1_63 e11_1_63 e59_1_63 e60_1_63 e10_2_63 e11_2_63 e59_2_63 e60_2_63 e15_0_63 e15_1_63 hv63 rg0_63 rg1_63
              clear e4_1_62 e4_2_62 e5_0_62 e6_0_62 e8_0_62 e10_0_62 e11_0_62 e59_0_62 e60_0_62 e12_0_62 e13_0_62 e10_1_62 e11_1_62 e59_1_62 e60_1_62 e10_2_62 e11_2_62 e59_2_62 e60_2_62 e15_0_62 rg0_62 rg1_62 hv62 hF62 hA62
              refine pw_iload dX10_lay_538 rfl ?_
              refine pw_iconst (v := zI (2)) dX10_lay_540 (by decide) ?_
              refine pw_ziadd dX10_lay_541 ?_
              show pw E YX10_lay _ _ 0 0 542 [some (.ref B), some (.int (zI (0))), some (.int (zI (0))), some (.int (zI (0))), some (.int (zI (w))), some (.int (zI (H))), some (.int (zI (0))), some (.int (zI (0))), some (.int (zI (w))), some (.int (zI (w))), some (.int (zI (a))), some (.int (zI (1))), some (.int (zI (2)))] [.int (zI (2))] h63 n
              refine pw_istore (lv' := [some (.ref B), some (.int (zI (0))), some (.int (zI (0))), some (.int (zI (0))), some (.int (zI (w))), some (.int (zI (H))), some (.int (zI (2))), some (.int (zI (0))), some (.int (zI (w))), some (.int (zI (w))), some (.int (zI (a))), some (.int (zI (1))), some (.int (zI (2)))]) dX10_lay_542 (by decide) rfl rfl ?_
              refine pw_goto (tgt := 40) dX10_lay_544 rfl ?_
              refine pw_iload dX10_lay_40 rfl ?_
              refine pw_if_le (tgt := 547) dX10_lay_42 rfl (by omega) (fun c42 => ?_) (fun c42 => ?_)
              · exfalso; omega
              ·
                refine pw_ziinc (lv' := [some (.ref B), some (.int (zI (0))), some (.int (zI (0))), some (.int (zI (0))), some (.int (zI (w))), some (.int (zI (H))), some (.int (zI (1))), some (.int (zI (0))), some (.int (zI (w))), some (.int (zI (w))), some (.int (zI (a))), some (.int (zI (1))), some (.int (zI (2)))]) dX10_lay_45 rfl (by decide) rfl rfl ?_
                refine pw_aload_n dX10_lay_48 rfl ?_
                refine pw_get (v := .ref (B + 12)) okX10 (k := 15) (by decide) lkX10_44 hA63.1 rfl dX10_lay_49 ?_
                refine pw_iload dX10_lay_52 rfl ?_
                refine pw_ialdv (v := 2) (t := 0) rfl (mF15 (s := s63) hA63) (by omega) (by decide) (e15_1_63) dX10_lay_54 ?_
                refine pw_istore (lv' := [some (.ref B), some (.int (zI (0))), some (.int (zI (0))), some (.int (zI (0))), some (.int (zI (w))), some (.int (zI (H))), some (.int (zI (1))), some (.int (zI (2))), some (.int (zI (w))), some (.int (zI (w))), some (.int (zI (a))), some (.int (zI (1))), some (.int (zI (2)))]) dX10_lay_55 (by decide) rfl rfl ?_
                refine pw_aload_n dX10_lay_57 rfl ?_
                refine pw_get (v := .ref (B + 2)) okX10 (k := 4) (by decide) lkX10_13 hA63.1 rfl dX10_lay_58 ?_
                refine pw_iload dX10_lay_61 rfl ?_
                refine pw_ialdv (v := 1) (t := 0) rfl (mF4 (s := s63) hA63) (by omega) (by decide) (e4_2_63) dX10_lay_63 ?_
                refine pw_iconst (v := zI (-1)) dX10_lay_64 (by decide) ?_
                refine pw_icmp_eq (tgt := 124) dX10_lay_65 rfl (by omega) (by omega) (fun c65 => ?_) (fun c65 => ?_)
                · exfalso; omega
                ·
                  refine pw_aload_n dX10_lay_68 rfl ?_
                  refine pw_get (v := .ref (B + 10)) okX10 (k := 12) (by decide) lkX10_38 hA63.1 rfl dX10_lay_69 ?_
                  refine pw_iload dX10_lay_72 rfl ?_
                  refine pw_aload_n dX10_lay_74 rfl ?_
                  refine pw_get (v := .ref (B + 48)) okX10 (k := 59) (by decide) lkX10_156 hA63.1 rfl dX10_lay_75 ?_
                  refine pw_iload dX10_lay_78 rfl ?_
                  refine pw_ialdv (v := (w - 1) - (a)) (t := 0) rfl (mF59 (s := s63) hA63) (by omega) (by decide) (e59_2_63) dX10_lay_80 ?_
                  refine pw_iast (g := (s63.2 12)) (t := 0) rfl (mF12 (s := s63) hA63) (by omega) (by decide) dX10_lay_81 ?_
                  have hA64 : mAt B (mA 12 (va_up (s63.2 12) (2 : Int).toNat ((w - 1) - (a))) s63) (va_up h63 (B + 10) (pz_z 0 16 (va_up (s63.2 12) (2 : Int).toNat ((w - 1) - (a))))) := mU12 hA63
                  have hF64 : mFr B h (va_up h63 (B + 10) (pz_z 0 16 (va_up (s63.2 12) (2 : Int).toNat ((w - 1) - (a))))) := mFr_tr hF63 (mFr_up (by decide))
                  have e4_1_64 : (mA 12 (va_up (s63.2 12) (2 : Int).toNat ((w - 1) - (a))) s63).2 4 1 = 0 := mA_1 (by decide) e4_1_63
                  have e4_2_64 : (mA 12 (va_up (s63.2 12) (2 : Int).toNat ((w - 1) - (a))) s63).2 4 2 = 1 := mA_1 (by decide) e4_2_63
                  have e5_0_64 : (mA 12 (va_up (s63.2 12) (2 : Int).toNat ((w - 1) - (a))) s63).2 5 0 = 1 := mA_1 (by decide) e5_0_63
                  have e6_0_64 : (mA 12 (va_up (s63.2 12) (2 : Int).toNat ((w - 1) - (a))) s63).2 6 0 = 2 := mA_1 (by decide) e6_0_63
                  have e8_0_64 : (mA 12 (va_up (s63.2 12) (2 : Int).toNat ((w - 1) - (a))) s63).2 8 0 = 0 := mA_1 (by decide) e8_0_63
                  have e10_0_64 : (mA 12 (va_up (s63.2 12) (2 : Int).toNat ((w - 1) - (a))) s63).2 10 0 = 0 := mA_1 (by decide) e10_0_63
                  have e11_0_64 : (mA 12 (va_up (s63.2 12) (2 : Int).toNat ((w - 1) - (a))) s63).2 11 0 = 0 := mA_1 (by decide) e11_0_63
                  have e59_0_64 : (mA 12 (va_up (s63.2 12) (2 : Int).toNat ((w - 1) - (a))) s63).2 59 0 = w := mA_1 (by decide) e59_0_63
                  have e60_0_64 : (mA 12 (va_up (s63.2 12) (2 : Int).toNat ((w - 1) - (a))) s63).2 60 0 = H := mA_1 (by decide) e60_0_63
                  have e12_0_64 : (mA 12 (va_up (s63.2 12) (2 : Int).toNat ((w - 1) - (a))) s63).2 12 0 = w := mA_2 (l := 2) (by decide) e12_0_63
                  have e13_0_64 : (mA 12 (va_up (s63.2 12) (2 : Int).toNat ((w - 1) - (a))) s63).2 13 0 = H := mA_1 (by decide) e13_0_63
                  have e10_1_64 : (mA 12 (va_up (s63.2 12) (2 : Int).toNat ((w - 1) - (a))) s63).2 10 1 = 0 := mA_1 (by decide) e10_1_63
                  have e11_1_64 : (mA 12 (va_up (s63.2 12) (2 : Int).toNat ((w - 1) - (a))) s63).2 11 1 = 0 := mA_1 (by decide) e11_1_63
                  have e59_1_64 : (mA 12 (va_up (s63.2 12) (2 : Int).toNat ((w - 1) - (a))) s63).2 59 1 = a := mA_1 (by decide) e59_1_63
                  have e60_1_64 : (mA 12 (va_up (s63.2 12) (2 : Int).toNat ((w - 1) - (a))) s63).2 60 1 = H := mA_1 (by decide) e60_1_63
                  have e10_2_64 : (mA 12 (va_up (s63.2 12) (2 : Int).toNat ((w - 1) - (a))) s63).2 10 2 = (0 + a) + (1) := mA_1 (by decide) e10_2_63
                  have e11_2_64 : (mA 12 (va_up (s63.2 12) (2 : Int).toNat ((w - 1) - (a))) s63).2 11 2 = 0 := mA_1 (by decide) e11_2_63
                  have e59_2_64 : (mA 12 (va_up (s63.2 12) (2 : Int).toNat ((w - 1) - (a))) s63).2 59 2 = (w - 1) - (a) := mA_1 (by decide) e59_2_63
                  have e60_2_64 : (mA 12 (va_up (s63.2 12) (2 : Int).toNat ((w - 1) - (a))) s63).2 60 2 = H := mA_1 (by decide) e60_2_63
                  have e15_0_64 : (mA 12 (va_up (s63.2 12) (2 : Int).toNat ((w - 1) - (a))) s63).2 15 0 = 1 := mA_1 (by decide) e15_0_63
                  have e15_1_64 : (mA 12 (va_up (s63.2 12) (2 : Int).toNat ((w - 1) - (a))) s63).2 15 1 = 2 := mA_1 (by decide) e15_1_63
                  have e12_2_64 : (mA 12 (va_up (s63.2 12) (2 : Int).toNat ((w - 1) - (a))) s63).2 12 2 = (w - 1) - (a) := mA_3 (l := 2)
                  have hv64 : (mA 12 (va_up (s63.2 12) (2 : Int).toNat ((w - 1) - (a))) s63).1 = s.1 := hv63
                  have rg0_64 : mRg (mA 12 (va_up (s63.2 12) (2 : Int).toNat ((w - 1) - (a))) s63) 0 := mRg_A (by decide) rg0_63
                  have rg1_64 : mRg (mA 12 (va_up (s63.2 12) (2 : Int).toNat ((w - 1) - (a))) s63) 1 := mRg_A (by decide) rg1_63
                  revert hA64 hF64 e4_1_64 e4_2_64 e5_0_64 e6_0_64 e8_0_64 e10_0_64 e11_0_64 e59_0_64 e60_0_64 e12_0_64 e13_0_64 e10_1_64 e11_1_64 e59_1_64 e60_1_64 e10_2_64 e11_2_64 e59_2_64 e60_2_64 e15_0_64 e15_1_64 e12_2_64 hv64 rg0_64 rg1_64
                  generalize (mA 12 (va_up (s63.2 12) (2 : Int).toNat ((w - 1) - (a))) s63) = s64
                  generalize (va_up h63 (B + 10) (pz_z 0 16 (va_up (s63.2 12) (2 : Int).toNat ((w - 1) - (a))))) = h64
                  intro hA64 hF64 e4_1_64 e4_2_64 e5_0_64 e6_0_64 e8_0_64 e10_0_64 e11_0_64 e59_0_64 e60_0_64 e12_0_64 e13_0_64 e10_1_64 e11_1_64 e59_1_64 e60_1_64 e10_2_64 e11_2_64 e59_2_64 e60_2_64 e15_0_64 e15_1_64 e12_2_64 hv64 rg0_64 rg1_64
                  clear e4_1_63 e4_2_63 e5_0_63 e6_0_63 e8_0_63 e10_0_63 e11_0_63 e59_0_63 e60_0_63 e12_0_63 e13_0_63 e10_1_63 e11_1_63 e59_1_63 e60_1_63 e10_2_63 e11_2_63 e59_2_63 e60_2_63 e15_0_63 e15_1_63 rg0_63 rg1_63 hv63 hF63 hA63
                  refine pw_aload_n dX10_lay_82 rfl ?_
                  refine pw_get (v := .ref (B + 11)) okX10 (k := 13) (by decide) lkX10_41 hA64.1 rfl dX10_lay_83 ?_
                  refine pw_iload dX10_lay_86 rfl ?_
                  refine pw_aload_n dX10_lay_88 rfl ?_
                  refine pw_get (v := .ref (B + 49)) okX10 (k := 60) (by decide) lkX10_159 hA64.1 rfl dX10_lay_89 ?_
                  refine pw_iload dX10_lay_92 rfl ?_
                  refine pw_ialdv (v := H) (t := 0) rfl (mF60 (s := s64) hA64) (by omega) (by decide) (e60_2_64) dX10_lay_94 ?_
                  refine pw_iast (g := (s64.2 13)) (t := 0) rfl (mF13 (s := s64) hA64) (by omega) (by decide) dX10_lay_95 ?_
                  have hA65 : mAt B (mA 13 (va_up (s64.2 13) (2 : Int).toNat (H)) s64) (va_up h64 (B + 11) (pz_z 0 16 (va_up (s64.2 13) (2 : Int).toNat (H)))) := mU13 hA64
                  have hF65 : mFr B h (va_up h64 (B + 11) (pz_z 0 16 (va_up (s64.2 13) (2 : Int).toNat (H)))) := mFr_tr hF64 (mFr_up (by decide))
                  have e4_1_65 : (mA 13 (va_up (s64.2 13) (2 : Int).toNat (H)) s64).2 4 1 = 0 := mA_1 (by decide) e4_1_64
                  have e4_2_65 : (mA 13 (va_up (s64.2 13) (2 : Int).toNat (H)) s64).2 4 2 = 1 := mA_1 (by decide) e4_2_64
                  have e5_0_65 : (mA 13 (va_up (s64.2 13) (2 : Int).toNat (H)) s64).2 5 0 = 1 := mA_1 (by decide) e5_0_64
                  have e6_0_65 : (mA 13 (va_up (s64.2 13) (2 : Int).toNat (H)) s64).2 6 0 = 2 := mA_1 (by decide) e6_0_64
                  have e8_0_65 : (mA 13 (va_up (s64.2 13) (2 : Int).toNat (H)) s64).2 8 0 = 0 := mA_1 (by decide) e8_0_64
                  have e10_0_65 : (mA 13 (va_up (s64.2 13) (2 : Int).toNat (H)) s64).2 10 0 = 0 := mA_1 (by decide) e10_0_64
                  have e11_0_65 : (mA 13 (va_up (s64.2 13) (2 : Int).toNat (H)) s64).2 11 0 = 0 := mA_1 (by decide) e11_0_64
                  have e59_0_65 : (mA 13 (va_up (s64.2 13) (2 : Int).toNat (H)) s64).2 59 0 = w := mA_1 (by decide) e59_0_64
                  have e60_0_65 : (mA 13 (va_up (s64.2 13) (2 : Int).toNat (H)) s64).2 60 0 = H := mA_1 (by decide) e60_0_64
                  have e12_0_65 : (mA 13 (va_up (s64.2 13) (2 : Int).toNat (H)) s64).2 12 0 = w := mA_1 (by decide) e12_0_64
                  have e13_0_65 : (mA 13 (va_up (s64.2 13) (2 : Int).toNat (H)) s64).2 13 0 = H := mA_2 (l := 2) (by decide) e13_0_64
                  have e10_1_65 : (mA 13 (va_up (s64.2 13) (2 : Int).toNat (H)) s64).2 10 1 = 0 := mA_1 (by decide) e10_1_64
                  have e11_1_65 : (mA 13 (va_up (s64.2 13) (2 : Int).toNat (H)) s64).2 11 1 = 0 := mA_1 (by decide) e11_1_64
                  have e59_1_65 : (mA 13 (va_up (s64.2 13) (2 : Int).toNat (H)) s64).2 59 1 = a := mA_1 (by decide) e59_1_64
                  have e60_1_65 : (mA 13 (va_up (s64.2 13) (2 : Int).toNat (H)) s64).2 60 1 = H := mA_1 (by decide) e60_1_64
                  have e10_2_65 : (mA 13 (va_up (s64.2 13) (2 : Int).toNat (H)) s64).2 10 2 = (0 + a) + (1) := mA_1 (by decide) e10_2_64
                  have e11_2_65 : (mA 13 (va_up (s64.2 13) (2 : Int).toNat (H)) s64).2 11 2 = 0 := mA_1 (by decide) e11_2_64
                  have e59_2_65 : (mA 13 (va_up (s64.2 13) (2 : Int).toNat (H)) s64).2 59 2 = (w - 1) - (a) := mA_1 (by decide) e59_2_64
                  have e60_2_65 : (mA 13 (va_up (s64.2 13) (2 : Int).toNat (H)) s64).2 60 2 = H := mA_1 (by decide) e60_2_64
                  have e15_0_65 : (mA 13 (va_up (s64.2 13) (2 : Int).toNat (H)) s64).2 15 0 = 1 := mA_1 (by decide) e15_0_64
                  have e15_1_65 : (mA 13 (va_up (s64.2 13) (2 : Int).toNat (H)) s64).2 15 1 = 2 := mA_1 (by decide) e15_1_64
                  have e12_2_65 : (mA 13 (va_up (s64.2 13) (2 : Int).toNat (H)) s64).2 12 2 = (w - 1) - (a) := mA_1 (by decide) e12_2_64
                  have e13_2_65 : (mA 13 (va_up (s64.2 13) (2 : Int).toNat (H)) s64).2 13 2 = H := mA_3 (l := 2)
                  have hv65 : (mA 13 (va_up (s64.2 13) (2 : Int).toNat (H)) s64).1 = s.1 := hv64
                  have rg0_65 : mRg (mA 13 (va_up (s64.2 13) (2 : Int).toNat (H)) s64) 0 := mRg_A (by decide) rg0_64
                  have rg1_65 : mRg (mA 13 (va_up (s64.2 13) (2 : Int).toNat (H)) s64) 1 := mRg_A (by decide) rg1_64
                  revert hA65 hF65 e4_1_65 e4_2_65 e5_0_65 e6_0_65 e8_0_65 e10_0_65 e11_0_65 e59_0_65 e60_0_65 e12_0_65 e13_0_65 e10_1_65 e11_1_65 e59_1_65 e60_1_65 e10_2_65 e11_2_65 e59_2_65 e60_2_65 e15_0_65 e15_1_65 e12_2_65 e13_2_65 hv65 rg0_65 rg1_65
                  generalize (mA 13 (va_up (s64.2 13) (2 : Int).toNat (H)) s64) = s65
                  generalize (va_up h64 (B + 11) (pz_z 0 16 (va_up (s64.2 13) (2 : Int).toNat (H)))) = h65
                  intro hA65 hF65 e4_1_65 e4_2_65 e5_0_65 e6_0_65 e8_0_65 e10_0_65 e11_0_65 e59_0_65 e60_0_65 e12_0_65 e13_0_65 e10_1_65 e11_1_65 e59_1_65 e60_1_65 e10_2_65 e11_2_65 e59_2_65 e60_2_65 e15_0_65 e15_1_65 e12_2_65 e13_2_65 hv65 rg0_65 rg1_65
                  clear e4_1_64 e4_2_64 e5_0_64 e6_0_64 e8_0_64 e10_0_64 e11_0_64 e59_0_64 e60_0_64 e12_0_64 e13_0_64 e10_1_64 e11_1_64 e59_1_64 e60_1_64 e10_2_64 e11_2_64 e59_2_64 e60_2_64 e15_0_64 e15_1_64 e12_2_64 rg0_64 rg1_64 hv64 hF64 hA64
                  refine pw_aload_n dX10_lay_96 rfl ?_
                  refine pw_aload_n dX10_lay_97 rfl ?_
                  refine pw_get (v := .ref (B + 2)) okX10 (k := 4) (by decide) lkX10_13 hA65.1 rfl dX10_lay_98 ?_
                  refine pw_iload dX10_lay_101 rfl ?_
                  refine pw_ialdv (v := 1) (t := 0) rfl (mF4 (s := s65) hA65) (by omega) (by decide) (e4_2_65) dX10_lay_103 ?_
                  refine pw_aload_n dX10_lay_104 rfl ?_
                  refine pw_get (v := .ref (B + 10)) okX10 (k := 12) (by decide) lkX10_38 hA65.1 rfl dX10_lay_105 ?_
                  refine pw_iload dX10_lay_108 rfl ?_
                  refine pw_ialdv (v := (w - 1) - (a)) (t := 0) rfl (mF12 (s := s65) hA65) (by omega) (by decide) (e12_2_65) dX10_lay_110 ?_
                  refine pw_aload_n dX10_lay_111 rfl ?_
                  refine pw_get (v := .ref (B + 11)) okX10 (k := 13) (by decide) lkX10_41 hA65.1 rfl dX10_lay_112 ?_
                  refine pw_iload dX10_lay_115 rfl ?_
                  refine pw_ialdv (v := H) (t := 0) rfl (mF13 (s := s65) hA65) (by omega) (by decide) (e13_2_65) dX10_lay_117 ?_
                  refine pw_callV (As := [.int (zI (1)), .int (zI ((w - 1) - (a))), .int (zI (H))]) (b := B) (rm := rmD 1 0 0) (nR_resize (p := 1) htr hA65 (by omega) rg1_65 (by omega) (by omega)) rfl hA65.1 rfl rfl ywX10_resize rfl cwX10_196 ⟨nle rfl, nle rfl⟩ (nle rfl) ⟨nle rfl, nle rfl⟩ dX10_lay_118 ?_ (fun _ _ _ z => z.elim)
                  intro r_9 h66 n_9 hq _
                  obtain ⟨e1, g66, hA66, hRo66, hRg66, hF660, e4⟩ := hq
                  rw [e1, e4]
                  show pw E YX10_lay _ _ 0 0 121 [some (.ref B), some (.int (zI (0))), some (.int (zI (0))), some (.int (zI (0))), some (.int (zI (w))), some (.int (zI (H))), some (.int (zI (1))), some (.int (zI (2))), some (.int (zI (w))), some (.int (zI (w))), some (.int (zI (a))), some (.int (zI (1))), some (.int (zI (2)))] [] h66 n
                  have hF66 := mFr_tr hF65 hF660
                  clear e1 e4
                  have e4_1_66 : (mG s65 g66).2 4 1 = 0 := mG_1 (by decide) e4_1_65
                  have e4_2_66 : (mG s65 g66).2 4 2 = 1 := mG_1 (by decide) e4_2_65
                  have e5_0_66 : (mG s65 g66).2 5 0 = 1 := mG_1 (by decide) e5_0_65
                  have e6_0_66 : (mG s65 g66).2 6 0 = 2 := mG_1 (by decide) e6_0_65
                  have e8_0_66 : (mG s65 g66).2 8 0 = 0 := mG_1 (by decide) e8_0_65
                  have e10_0_66 : (mG s65 g66).2 10 0 = 0 := mG_1 (by decide) e10_0_65
                  have e11_0_66 : (mG s65 g66).2 11 0 = 0 := mG_1 (by decide) e11_0_65
                  have e59_0_66 : (mG s65 g66).2 59 0 = w := mG_1 (by decide) e59_0_65
                  have e60_0_66 : (mG s65 g66).2 60 0 = H := mG_1 (by decide) e60_0_65
                  have e12_0_66 : (mG s65 g66).2 12 0 = w := mG_1 (by decide) e12_0_65
                  have e13_0_66 : (mG s65 g66).2 13 0 = H := mG_1 (by decide) e13_0_65
                  have e10_1_66 : (mG s65 g66).2 10 1 = 0 := mG_1 (by decide) e10_1_65
                  have e11_1_66 : (mG s65 g66).2 11 1 = 0 := mG_1 (by decide) e11_1_65
                  have e59_1_66 : (mG s65 g66).2 59 1 = a := mG_1 (by decide) e59_1_65
                  have e60_1_66 : (mG s65 g66).2 60 1 = H := mG_1 (by decide) e60_1_65
                  have e10_2_66 : (mG s65 g66).2 10 2 = (0 + a) + (1) := mG_1 (by decide) e10_2_65
                  have e11_2_66 : (mG s65 g66).2 11 2 = 0 := mG_1 (by decide) e11_2_65
                  have e59_2_66 : (mG s65 g66).2 59 2 = (w - 1) - (a) := mG_1 (by decide) e59_2_65
                  have e60_2_66 : (mG s65 g66).2 60 2 = H := mG_1 (by decide) e60_2_65
                  have e15_0_66 : (mG s65 g66).2 15 0 = 1 := mG_1 (by decide) e15_0_65
                  have e15_1_66 : (mG s65 g66).2 15 1 = 2 := mG_1 (by decide) e15_1_65
                  have e12_2_66 : (mG s65 g66).2 12 2 = (w - 1) - (a) := mG_1 (by decide) e12_2_65
                  have e13_2_66 : (mG s65 g66).2 13 2 = H := mG_1 (by decide) e13_2_65
                  have hv66 : (mG s65 g66).1 = s.1 := hv65
                  have rg0_66 : mRg (mG s65 g66) 0 := mRg_o rg0_65 hRo66 (by decide)
                  revert hA66 hRo66 hRg66 e4_1_66 e4_2_66 e5_0_66 e6_0_66 e8_0_66 e10_0_66 e11_0_66 e59_0_66 e60_0_66 e12_0_66 e13_0_66 e10_1_66 e11_1_66 e59_1_66 e60_1_66 e10_2_66 e11_2_66 e59_2_66 e60_2_66 e15_0_66 e15_1_66 e12_2_66 e13_2_66 hv66 rg0_66
                  generalize (mG s65 g66) = s66
                  intro hA66 hRo66 hRg66 e4_1_66 e4_2_66 e5_0_66 e6_0_66 e8_0_66 e10_0_66 e11_0_66 e59_0_66 e60_0_66 e12_0_66 e13_0_66 e10_1_66 e11_1_66 e59_1_66 e60_1_66 e10_2_66 e11_2_66 e59_2_66 e60_2_66 e15_0_66 e15_1_66 e12_2_66 e13_2_66 hv66 rg0_66
                  clear e4_1_65 e4_2_65 e5_0_65 e6_0_65 e8_0_65 e10_0_65 e11_0_65 e59_0_65 e60_0_65 e12_0_65 e13_0_65 e10_1_65 e11_1_65 e59_1_65 e60_1_65 e10_2_65 e11_2_65 e59_2_65 e60_2_65 e15_0_65 e15_1_65 e12_2_65 e13_2_65 rg0_65 rg1_65 hv65 hF65 hA65 hF660
                  refine pw_goto (tgt := 40) dX10_lay_121 rfl ?_
                  refine pw_iload dX10_lay_40 rfl ?_
                  refine pw_if_le (tgt := 547) dX10_lay_42 rfl (by omega) (fun c42 => ?_) (fun c42 => ?_)
                  · exfalso; omega
                  ·
                    refine pw_ziinc (lv' := [some (.ref B), some (.int (zI (0))), some (.int (zI (0))), some (.int (zI (0))), some (.int (zI (w))), some (.int (zI (H))), some (.int (zI (0))), some (.int (zI (2))), some (.int (zI (w))), some (.int (zI (w))), some (.int (zI (a))), some (.int (zI (1))), some (.int (zI (2)))]) dX10_lay_45 rfl (by decide) rfl rfl ?_
                    refine pw_aload_n dX10_lay_48 rfl ?_
                    refine pw_get (v := .ref (B + 12)) okX10 (k := 15) (by decide) lkX10_44 hA66.1 rfl dX10_lay_49 ?_
                    refine pw_iload dX10_lay_52 rfl ?_
                    refine pw_ialdv (v := 1) (t := 0) rfl (mF15 (s := s66) hA66) (by omega) (by decide) (e15_0_66) dX10_lay_54 ?_
                    refine pw_istore (lv' := [some (.ref B), some (.int (zI (0))), some (.int (zI (0))), some (.int (zI (0))), some (.int (zI (w))), some (.int (zI (H))), some (.int (zI (0))), some (.int (zI (1))), some (.int (zI (w))), some (.int (zI (w))), some (.int (zI (a))), some (.int (zI (1))), some (.int (zI (2)))]) dX10_lay_55 (by decide) rfl rfl ?_
                    refine pw_aload_n dX10_lay_57 rfl ?_
                    refine pw_get (v := .ref (B + 2)) okX10 (k := 4) (by decide) lkX10_13 hA66.1 rfl dX10_lay_58 ?_
                    refine pw_iload dX10_lay_61 rfl ?_
                    refine pw_ialdv (v := 0) (t := 0) rfl (mF4 (s := s66) hA66) (by omega) (by decide) (e4_1_66) dX10_lay_63 ?_
                    refine pw_iconst (v := zI (-1)) dX10_lay_64 (by decide) ?_
                    refine pw_icmp_eq (tgt := 124) dX10_lay_65 rfl (by omega) (by omega) (fun c65 => ?_) (fun c65 => ?_)
                    · exfalso; omega
                    ·
                      refine pw_aload_n dX10_lay_68 rfl ?_
                      refine pw_get (v := .ref (B + 10)) okX10 (k := 12) (by decide) lkX10_38 hA66.1 rfl dX10_lay_69 ?_
                      refine pw_iload dX10_lay_72 rfl ?_
                      refine pw_aload_n dX10_lay_74 rfl ?_
                      refine pw_get (v := .ref (B + 48)) okX10 (k := 59) (by decide) lkX10_156 hA66.1 rfl dX10_lay_75 ?_
                      refine pw_iload dX10_lay_78 rfl ?_
                      refine pw_ialdv (v := a) (t := 0) rfl (mF59 (s := s66) hA66) (by omega) (by decide) (e59_1_66) dX10_lay_80 ?_
                      refine pw_iast (g := (s66.2 12)) (t := 0) rfl (mF12 (s := s66) hA66) (by omega) (by decide) dX10_lay_81 ?_
                      have hA67 : mAt B (mA 12 (va_up (s66.2 12) (1 : Int).toNat (a)) s66) (va_up h66 (B + 10) (pz_z 0 16 (va_up (s66.2 12) (1 : Int).toNat (a)))) := mU12 hA66
                      have hF67 : mFr B h (va_up h66 (B + 10) (pz_z 0 16 (va_up (s66.2 12) (1 : Int).toNat (a)))) := mFr_tr hF66 (mFr_up (by decide))
                      have e4_1_67 : (mA 12 (va_up (s66.2 12) (1 : Int).toNat (a)) s66).2 4 1 = 0 := mA_1 (by decide) e4_1_66
                      have e4_2_67 : (mA 12 (va_up (s66.2 12) (1 : Int).toNat (a)) s66).2 4 2 = 1 := mA_1 (by decide) e4_2_66
                      have e5_0_67 : (mA 12 (va_up (s66.2 12) (1 : Int).toNat (a)) s66).2 5 0 = 1 := mA_1 (by decide) e5_0_66
                      have e6_0_67 : (mA 12 (va_up (s66.2 12) (1 : Int).toNat (a)) s66).2 6 0 = 2 := mA_1 (by decide) e6_0_66
                      have e8_0_67 : (mA 12 (va_up (s66.2 12) (1 : Int).toNat (a)) s66).2 8 0 = 0 := mA_1 (by decide) e8_0_66
                      have e10_0_67 : (mA 12 (va_up (s66.2 12) (1 : Int).toNat (a)) s66).2 10 0 = 0 := mA_1 (by decide) e10_0_66
                      have e11_0_67 : (mA 12 (va_up (s66.2 12) (1 : Int).toNat (a)) s66).2 11 0 = 0 := mA_1 (by decide) e11_0_66
                      have e59_0_67 : (mA 12 (va_up (s66.2 12) (1 : Int).toNat (a)) s66).2 59 0 = w := mA_1 (by decide) e59_0_66
                      have e60_0_67 : (mA 12 (va_up (s66.2 12) (1 : Int).toNat (a)) s66).2 60 0 = H := mA_1 (by decide) e60_0_66
                      have e12_0_67 : (mA 12 (va_up (s66.2 12) (1 : Int).toNat (a)) s66).2 12 0 = w := mA_2 (l := 1) (by decide) e12_0_66
                      have e13_0_67 : (mA 12 (va_up (s66.2 12) (1 : Int).toNat (a)) s66).2 13 0 = H := mA_1 (by decide) e13_0_66
                      have e10_1_67 : (mA 12 (va_up (s66.2 12) (1 : Int).toNat (a)) s66).2 10 1 = 0 := mA_1 (by decide) e10_1_66
                      have e11_1_67 : (mA 12 (va_up (s66.2 12) (1 : Int).toNat (a)) s66).2 11 1 = 0 := mA_1 (by decide) e11_1_66
                      have e59_1_67 : (mA 12 (va_up (s66.2 12) (1 : Int).toNat (a)) s66).2 59 1 = a := mA_1 (by decide) e59_1_66
                      have e60_1_67 : (mA 12 (va_up (s66.2 12) (1 : Int).toNat (a)) s66).2 60 1 = H := mA_1 (by decide) e60_1_66
                      have e10_2_67 : (mA 12 (va_up (s66.2 12) (1 : Int).toNat (a)) s66).2 10 2 = (0 + a) + (1) := mA_1 (by decide) e10_2_66
                      have e11_2_67 : (mA 12 (va_up (s66.2 12) (1 : Int).toNat (a)) s66).2 11 2 = 0 := mA_1 (by decide) e11_2_66
                      have e59_2_67 : (mA 12 (va_up (s66.2 12) (1 : Int).toNat (a)) s66).2 59 2 = (w - 1) - (a) := mA_1 (by decide) e59_2_66
                      have e60_2_67 : (mA 12 (va_up (s66.2 12) (1 : Int).toNat (a)) s66).2 60 2 = H := mA_1 (by decide) e60_2_66
                      have e15_0_67 : (mA 12 (va_up (s66.2 12) (1 : Int).toNat (a)) s66).2 15 0 = 1 := mA_1 (by decide) e15_0_66
                      have e15_1_67 : (mA 12 (va_up (s66.2 12) (1 : Int).toNat (a)) s66).2 15 1 = 2 := mA_1 (by decide) e15_1_66
                      have e12_2_67 : (mA 12 (va_up (s66.2 12) (1 : Int).toNat (a)) s66).2 12 2 = (w - 1) - (a) := mA_2 (l := 1) (by decide) e12_2_66
                      have e13_2_67 : (mA 12 (va_up (s66.2 12) (1 : Int).toNat (a)) s66).2 13 2 = H := mA_1 (by decide) e13_2_66
                      have e12_1_67 : (mA 12 (va_up (s66.2 12) (1 : Int).toNat (a)) s66).2 12 1 = a := mA_3 (l := 1)
                      have hv67 : (mA 12 (va_up (s66.2 12) (1 : Int).toNat (a)) s66).1 = s.1 := hv66
                      have rg1_67 : mRg (mA 12 (va_up (s66.2 12) (1 : Int).toNat (a)) s66) 1 := mRg_A (by decide) hRg66
                      have rg0_67 : mRg (mA 12 (va_up (s66.2 12) (1 : Int).toNat (a)) s66) 0 := mRg_A (by decide) rg0_66
                      revert hA67 hF67 e4_1_67 e4_2_67 e5_0_67 e6_0_67 e8_0_67 e10_0_67 e11_0_67 e59_0_67 e60_0_67 e12_0_67 e13_0_67 e10_1_67 e11_1_67 e59_1_67 e60_1_67 e10_2_67 e11_2_67 e59_2_67 e60_2_67 e15_0_67 e15_1_67 e12_2_67 e13_2_67 e12_1_67 hv67 rg1_67 rg0_67
                      generalize (mA 12 (va_up (s66.2 12) (1 : Int).toNat (a)) s66) = s67
                      generalize (va_up h66 (B + 10) (pz_z 0 16 (va_up (s66.2 12) (1 : Int).toNat (a)))) = h67
                      intro hA67 hF67 e4_1_67 e4_2_67 e5_0_67 e6_0_67 e8_0_67 e10_0_67 e11_0_67 e59_0_67 e60_0_67 e12_0_67 e13_0_67 e10_1_67 e11_1_67 e59_1_67 e60_1_67 e10_2_67 e11_2_67 e59_2_67 e60_2_67 e15_0_67 e15_1_67 e12_2_67 e13_2_67 e12_1_67 hv67 rg1_67 rg0_67
                      clear e4_1_66 e4_2_66 e5_0_66 e6_0_66 e8_0_66 e10_0_66 e11_0_66 e59_0_66 e60_0_66 e12_0_66 e13_0_66 e10_1_66 e11_1_66 e59_1_66 e60_1_66 e10_2_66 e11_2_66 e59_2_66 e60_2_66 e15_0_66 e15_1_66 e12_2_66 e13_2_66 hRg66 rg0_66 hv66 hF66 hA66
                      refine pw_aload_n dX10_lay_82 rfl ?_
                      refine pw_get (v := .ref (B + 11)) okX10 (k := 13) (by decide) lkX10_41 hA67.1 rfl dX10_lay_83 ?_
                      refine pw_iload dX10_lay_86 rfl ?_
                      refine pw_aload_n dX10_lay_88 rfl ?_
                      refine pw_get (v := .ref (B + 49)) okX10 (k := 60) (by decide) lkX10_159 hA67.1 rfl dX10_lay_89 ?_
                      refine pw_iload dX10_lay_92 rfl ?_
                      refine pw_ialdv (v := H) (t := 0) rfl (mF60 (s := s67) hA67) (by omega) (by decide) (e60_1_67) dX10_lay_94 ?_
                      refine pw_iast (g := (s67.2 13)) (t := 0) rfl (mF13 (s := s67) hA67) (by omega) (by decide) dX10_lay_95 ?_
                      have hA68 : mAt B (mA 13 (va_up (s67.2 13) (1 : Int).toNat (H)) s67) (va_up h67 (B + 11) (pz_z 0 16 (va_up (s67.2 13) (1 : Int).toNat (H)))) := mU13 hA67
                      have hF68 : mFr B h (va_up h67 (B + 11) (pz_z 0 16 (va_up (s67.2 13) (1 : Int).toNat (H)))) := mFr_tr hF67 (mFr_up (by decide))
                      have e4_1_68 : (mA 13 (va_up (s67.2 13) (1 : Int).toNat (H)) s67).2 4 1 = 0 := mA_1 (by decide) e4_1_67
                      have e4_2_68 : (mA 13 (va_up (s67.2 13) (1 : Int).toNat (H)) s67).2 4 2 = 1 := mA_1 (by decide) e4_2_67
                      have e5_0_68 : (mA 13 (va_up (s67.2 13) (1 : Int).toNat (H)) s67).2 5 0 = 1 := mA_1 (by decide) e5_0_67
                      have e6_0_68 : (mA 13 (va_up (s67.2 13) (1 : Int).toNat (H)) s67).2 6 0 = 2 := mA_1 (by decide) e6_0_67
                      have e8_0_68 : (mA 13 (va_up (s67.2 13) (1 : Int).toNat (H)) s67).2 8 0 = 0 := mA_1 (by decide) e8_0_67
                      have e10_0_68 : (mA 13 (va_up (s67.2 13) (1 : Int).toNat (H)) s67).2 10 0 = 0 := mA_1 (by decide) e10_0_67
                      have e11_0_68 : (mA 13 (va_up (s67.2 13) (1 : Int).toNat (H)) s67).2 11 0 = 0 := mA_1 (by decide) e11_0_67
                      have e59_0_68 : (mA 13 (va_up (s67.2 13) (1 : Int).toNat (H)) s67).2 59 0 = w := mA_1 (by decide) e59_0_67
                      have e60_0_68 : (mA 13 (va_up (s67.2 13) (1 : Int).toNat (H)) s67).2 60 0 = H := mA_1 (by decide) e60_0_67
                      have e12_0_68 : (mA 13 (va_up (s67.2 13) (1 : Int).toNat (H)) s67).2 12 0 = w := mA_1 (by decide) e12_0_67
                      have e13_0_68 : (mA 13 (va_up (s67.2 13) (1 : Int).toNat (H)) s67).2 13 0 = H := mA_2 (l := 1) (by decide) e13_0_67
                      have e10_1_68 : (mA 13 (va_up (s67.2 13) (1 : Int).toNat (H)) s67).2 10 1 = 0 := mA_1 (by decide) e10_1_67
                      have e11_1_68 : (mA 13 (va_up (s67.2 13) (1 : Int).toNat (H)) s67).2 11 1 = 0 := mA_1 (by decide) e11_1_67
                      have e59_1_68 : (mA 13 (va_up (s67.2 13) (1 : Int).toNat (H)) s67).2 59 1 = a := mA_1 (by decide) e59_1_67
                      have e60_1_68 : (mA 13 (va_up (s67.2 13) (1 : Int).toNat (H)) s67).2 60 1 = H := mA_1 (by decide) e60_1_67
                      have e10_2_68 : (mA 13 (va_up (s67.2 13) (1 : Int).toNat (H)) s67).2 10 2 = (0 + a) + (1) := mA_1 (by decide) e10_2_67
                      have e11_2_68 : (mA 13 (va_up (s67.2 13) (1 : Int).toNat (H)) s67).2 11 2 = 0 := mA_1 (by decide) e11_2_67
                      have e59_2_68 : (mA 13 (va_up (s67.2 13) (1 : Int).toNat (H)) s67).2 59 2 = (w - 1) - (a) := mA_1 (by decide) e59_2_67
                      have e60_2_68 : (mA 13 (va_up (s67.2 13) (1 : Int).toNat (H)) s67).2 60 2 = H := mA_1 (by decide) e60_2_67
                      have e15_0_68 : (mA 13 (va_up (s67.2 13) (1 : Int).toNat (H)) s67).2 15 0 = 1 := mA_1 (by decide) e15_0_67
                      have e15_1_68 : (mA 13 (va_up (s67.2 13) (1 : Int).toNat (H)) s67).2 15 1 = 2 := mA_1 (by decide) e15_1_67
                      have e12_2_68 : (mA 13 (va_up (s67.2 13) (1 : Int).toNat (H)) s67).2 12 2 = (w - 1) - (a) := mA_1 (by decide) e12_2_67
                      have e13_2_68 : (mA 13 (va_up (s67.2 13) (1 : Int).toNat (H)) s67).2 13 2 = H := mA_2 (l := 1) (by decide) e13_2_67
                      have e12_1_68 : (mA 13 (va_up (s67.2 13) (1 : Int).toNat (H)) s67).2 12 1 = a := mA_1 (by decide) e12_1_67
                      have e13_1_68 : (mA 13 (va_up (s67.2 13) (1 : Int).toNat (H)) s67).2 13 1 = H := mA_3 (l := 1)
                      have hv68 : (mA 13 (va_up (s67.2 13) (1 : Int).toNat (H)) s67).1 = s.1 := hv67
                      have rg1_68 : mRg (mA 13 (va_up (s67.2 13) (1 : Int).toNat (H)) s67) 1 := mRg_A (by decide) rg1_67
                      have rg0_68 : mRg (mA 13 (va_up (s67.2 13) (1 : Int).toNat (H)) s67) 0 := mRg_A (by decide) rg0_67
                      revert hA68 hF68 e4_1_68 e4_2_68 e5_0_68 e6_0_68 e8_0_68 e10_0_68 e11_0_68 e59_0_68 e60_0_68 e12_0_68 e13_0_68 e10_1_68 e11_1_68 e59_1_68 e60_1_68 e10_2_68 e11_2_68 e59_2_68 e60_2_68 e15_0_68 e15_1_68 e12_2_68 e13_2_68 e12_1_68 e13_1_68 hv68 rg1_68 rg0_68
                      generalize (mA 13 (va_up (s67.2 13) (1 : Int).toNat (H)) s67) = s68
                      generalize (va_up h67 (B + 11) (pz_z 0 16 (va_up (s67.2 13) (1 : Int).toNat (H)))) = h68
                      intro hA68 hF68 e4_1_68 e4_2_68 e5_0_68 e6_0_68 e8_0_68 e10_0_68 e11_0_68 e59_0_68 e60_0_68 e12_0_68 e13_0_68 e10_1_68 e11_1_68 e59_1_68 e60_1_68 e10_2_68 e11_2_68 e59_2_68 e60_2_68 e15_0_68 e15_1_68 e12_2_68 e13_2_68 e12_1_68 e13_1_68 hv68 rg1_68 rg0_68
                      clear e4_1_67 e4_2_67 e5_0_67 e6_0_67 e8_0_67 e10_0_67 e11_0_67 e59_0_67 e60_0_67 e12_0_67 e13_0_67 e10_1_67 e11_1_67 e59_1_67 e60_1_67 e10_2_67 e11_2_67 e59_2_67 e60_2_67 e15_0_67 e15_1_67 e12_2_67 e13_2_67 e12_1_67 rg1_67 rg0_67 hv67 hF67 hA67
                      refine pw_aload_n dX10_lay_96 rfl ?_
                      refine pw_aload_n dX10_lay_97 rfl ?_
                      refine pw_get (v := .ref (B + 2)) okX10 (k := 4) (by decide) lkX10_13 hA68.1 rfl dX10_lay_98 ?_
                      refine pw_iload dX10_lay_101 rfl ?_
                      refine pw_ialdv (v := 0) (t := 0) rfl (mF4 (s := s68) hA68) (by omega) (by decide) (e4_1_68) dX10_lay_103 ?_
                      refine pw_aload_n dX10_lay_104 rfl ?_
                      refine pw_get (v := .ref (B + 10)) okX10 (k := 12) (by decide) lkX10_38 hA68.1 rfl dX10_lay_105 ?_
                      refine pw_iload dX10_lay_108 rfl ?_
                      refine pw_ialdv (v := a) (t := 0) rfl (mF12 (s := s68) hA68) (by omega) (by decide) (e12_1_68) dX10_lay_110 ?_
                      refine pw_aload_n dX10_lay_111 rfl ?_
                      refine pw_get (v := .ref (B + 11)) okX10 (k := 13) (by decide) lkX10_41 hA68.1 rfl dX10_lay_112 ?_
                      refine pw_iload dX10_lay_115 rfl ?_
                      refine pw_ialdv (v := H) (t := 0) rfl (mF13 (s := s68) hA68) (by omega) (by decide) (e13_1_68) dX10_lay_117 ?_
                      refine pw_callV (As := [.int (zI (0)), .int (zI (a)), .int (zI (H))]) (b := B) (rm := rmD 1 0 0) (nR_resize (p := 0) htr hA68 (by omega) rg0_68 (by omega) (by omega)) rfl hA68.1 rfl rfl ywX10_resize rfl cwX10_196 ⟨nle rfl, nle rfl⟩ (nle rfl) ⟨nle rfl, nle rfl⟩ dX10_lay_118 ?_ (fun _ _ _ z => z.elim)
                      intro r_9 h69 n_9 hq _
                      obtain ⟨e1, g69, hA69, hRo69, hRg69, hF690, e4⟩ := hq
                      rw [e1, e4]
                      show pw E YX10_lay _ _ 0 0 121 [some (.ref B), some (.int (zI (0))), some (.int (zI (0))), some (.int (zI (0))), some (.int (zI (w))), some (.int (zI (H))), some (.int (zI (0))), some (.int (zI (1))), some (.int (zI (w))), some (.int (zI (w))), some (.int (zI (a))), some (.int (zI (1))), some (.int (zI (2)))] [] h69 n
                      have hF69 := mFr_tr hF68 hF690
                      clear e1 e4
                      have e4_1_69 : (mG s68 g69).2 4 1 = 0 := mG_1 (by decide) e4_1_68
                      have e4_2_69 : (mG s68 g69).2 4 2 = 1 := mG_1 (by decide) e4_2_68
                      have e5_0_69 : (mG s68 g69).2 5 0 = 1 := mG_1 (by decide) e5_0_68
                      have e6_0_69 : (mG s68 g69).2 6 0 = 2 := mG_1 (by decide) e6_0_68
                      have e8_0_69 : (mG s68 g69).2 8 0 = 0 := mG_1 (by decide) e8_0_68
                      have e10_0_69 : (mG s68 g69).2 10 0 = 0 := mG_1 (by decide) e10_0_68
                      have e11_0_69 : (mG s68 g69).2 11 0 = 0 := mG_1 (by decide) e11_0_68
                      have e59_0_69 : (mG s68 g69).2 59 0 = w := mG_1 (by decide) e59_0_68
                      have e60_0_69 : (mG s68 g69).2 60 0 = H := mG_1 (by decide) e60_0_68
                      have e12_0_69 : (mG s68 g69).2 12 0 = w := mG_1 (by decide) e12_0_68
                      have e13_0_69 : (mG s68 g69).2 13 0 = H := mG_1 (by decide) e13_0_68
                      have e10_1_69 : (mG s68 g69).2 10 1 = 0 := mG_1 (by decide) e10_1_68
                      have e11_1_69 : (mG s68 g69).2 11 1 = 0 := mG_1 (by decide) e11_1_68
                      have e59_1_69 : (mG s68 g69).2 59 1 = a := mG_1 (by decide) e59_1_68
                      have e60_1_69 : (mG s68 g69).2 60 1 = H := mG_1 (by decide) e60_1_68
                      have e10_2_69 : (mG s68 g69).2 10 2 = (0 + a) + (1) := mG_1 (by decide) e10_2_68
                      have e11_2_69 : (mG s68 g69).2 11 2 = 0 := mG_1 (by decide) e11_2_68
                      have e59_2_69 : (mG s68 g69).2 59 2 = (w - 1) - (a) := mG_1 (by decide) e59_2_68
                      have e60_2_69 : (mG s68 g69).2 60 2 = H := mG_1 (by decide) e60_2_68
                      have e15_0_69 : (mG s68 g69).2 15 0 = 1 := mG_1 (by decide) e15_0_68
                      have e15_1_69 : (mG s68 g69).2 15 1 = 2 := mG_1 (by decide) e15_1_68
                      have e12_2_69 : (mG s68 g69).2 12 2 = (w - 1) - (a) := mG_1 (by decide) e12_2_68
                      have e13_2_69 : (mG s68 g69).2 13 2 = H := mG_1 (by decide) e13_2_68
                      have e12_1_69 : (mG s68 g69).2 12 1 = a := mG_1 (by decide) e12_1_68
                      have e13_1_69 : (mG s68 g69).2 13 1 = H := mG_1 (by decide) e13_1_68
                      have hv69 : (mG s68 g69).1 = s.1 := hv68
                      have rg1_69 : mRg (mG s68 g69) 1 := mRg_o rg1_68 hRo69 (by decide)
                      revert hA69 hRo69 hRg69 e4_1_69 e4_2_69 e5_0_69 e6_0_69 e8_0_69 e10_0_69 e11_0_69 e59_0_69 e60_0_69 e12_0_69 e13_0_69 e10_1_69 e11_1_69 e59_1_69 e60_1_69 e10_2_69 e11_2_69 e59_2_69 e60_2_69 e15_0_69 e15_1_69 e12_2_69 e13_2_69 e12_1_69 e13_1_69 hv69 rg1_69
                      generalize (mG s68 g69) = s69
                      intro hA69 hRo69 hRg69 e4_1_69 e4_2_69 e5_0_69 e6_0_69 e8_0_69 e10_0_69 e11_0_69 e59_0_69 e60_0_69 e12_0_69 e13_0_69 e10_1_69 e11_1_69 e59_1_69 e60_1_69 e10_2_69 e11_2_69 e59_2_69 e60_2_69 e15_0_69 e15_1_69 e12_2_69 e13_2_69 e12_1_69 e13_1_69 hv69 rg1_69
                      clear e4_1_68 e4_2_68 e5_0_68 e6_0_68 e8_0_68 e10_0_68 e11_0_68 e59_0_68 e60_0_68 e12_0_68 e13_0_68 e10_1_68 e11_1_68 e59_1_68 e60_1_68 e10_2_68 e11_2_68 e59_2_68 e60_2_68 e15_0_68 e15_1_68 e12_2_68 e13_2_68 e12_1_68 e13_1_68 rg1_68 rg0_68 hv68 hF68 hA68 hF690
                      refine pw_goto (tgt := 40) dX10_lay_121 rfl ?_
                      refine pw_iload dX10_lay_40 rfl ?_
                      refine pw_if_le (tgt := 547) dX10_lay_42 rfl (by omega) (fun c42 => ?_) (fun c42 => ?_)
                      ·
                        exact pw_vret dX10_lay_547 rfl (nle rfl) (nle rfl) (hQ s69 h69 hA69 hv69 hF69)
                      · exfalso; omega
            · exfalso; omega
          · exfalso; omega
        · exfalso; omega
      · exfalso; omega
    · exfalso; omega
  · exfalso; omega
set_option maxHeartbeats 1000000 in
set_option maxRecDepth 100000 in
/-- lay(0, 0, 0, w, H), two leaves -/
theorem nF_lay0 {E : pw_E} (htr : E.1.stackTraces = false) {h : pz_H} {n : Nat} {B : Nat} {s : mS} (hA : mAt B s h) {w : Int}  {H : Int} (hw : 8 ≤ w ∧ w ≤ 40) (hH : 4 ≤ H ∧ H ≤ 16) (e4_0 : s.2 4 0 = -1) (e4_1 : s.2 4 1 = 0) (e4_2 : s.2 4 2 = 1) (e5_0 : s.2 5 0 = 1) (e6_0 : s.2 6 0 = 2) (e8_0 : s.2 8 0 = 0) (e9_0 : s.2 9 0 = (w - 1) / 2) (e12_0 : s.2 12 0 = w) (e13_0 : s.2 13 0 = H) (rg0 : mRg s 0) (rg1 : mRg s 1) : pw_M E yX10_lay YX10_lay (rmD 2 0 0) [.ref B, .int (zI (0)), .int (zI (0)), .int (zI (0)), .int (zI (w)), .int (zI (H))] h n (fun r0 h' n' => r0 = none ∧ ∃ s', mAt B s' h' ∧ s'.1 = s.1 ∧ mFr B h h' ∧ n' = n) (fun _ _ _ => False) := by
  have hml : 0 ≤ (w - 1) * ((w - 1) / 2) ∧ (w - 1) * ((w - 1) / 2) < 2147483648 := by
    have h9 : (w - 1) * ((w - 1) / 2) ≤ 39 * 20 := Int.mul_le_mul (by omega) (by omega) (by omega) (by omega)
    exact ⟨Int.mul_nonneg (by omega) (by omega), by omega⟩
  have hdv : (w - 1) * ((w - 1) / 2) / (w - 1) = (w - 1) / 2 := Int.mul_ediv_cancel_left _ (by omega)
  refine pw_M_of (lv := [some (.ref B), some (.int (zI (0))), some (.int (zI (0))), some (.int (zI (0))), some (.int (zI (w))), some (.int (zI (H))), none, none, none, none, none, none, none]) (by decide) rfl rfl htr (nle rfl) rfl (fun L => ?_)
  refine pw_aload_n dX10_lay_0 rfl ?_
  refine pw_get (v := .ref (B + 8)) okX10 (k := 10) (by decide) lkX10_32 hA.1 rfl dX10_lay_1 ?_
  refine pw_iload_n dX10_lay_4 rfl ?_
  refine pw_iload_n dX10_lay_5 rfl ?_
  refine pw_iast (g := (s.2 10)) (t := 0) rfl (mF10 (s := s) hA) (by omega) (by decide) dX10_lay_6 ?_
  have hA1 : mAt B (mA 10 (va_up (s.2 10) (0 : Int).toNat (0)) s) (va_up h (B + 8) (pz_z 0 16 (va_up (s.2 10) (0 : Int).toNat (0)))) := mU10 hA
  have hF1 : mFr B h (va_up h (B + 8) (pz_z 0 16 (va_up (s.2 10) (0 : Int).toNat (0)))) := mFr_tr mFr_rf (mFr_up (by decide))
  have e4_0_1 : (mA 10 (va_up (s.2 10) (0 : Int).toNat (0)) s).2 4 0 = -1 := mA_1 (by decide) e4_0
  have e4_1_1 : (mA 10 (va_up (s.2 10) (0 : Int).toNat (0)) s).2 4 1 = 0 := mA_1 (by decide) e4_1
  have e4_2_1 : (mA 10 (va_up (s.2 10) (0 : Int).toNat (0)) s).2 4 2 = 1 := mA_1 (by decide) e4_2
  have e5_0_1 : (mA 10 (va_up (s.2 10) (0 : Int).toNat (0)) s).2 5 0 = 1 := mA_1 (by decide) e5_0
  have e6_0_1 : (mA 10 (va_up (s.2 10) (0 : Int).toNat (0)) s).2 6 0 = 2 := mA_1 (by decide) e6_0
  have e8_0_1 : (mA 10 (va_up (s.2 10) (0 : Int).toNat (0)) s).2 8 0 = 0 := mA_1 (by decide) e8_0
  have e9_0_1 : (mA 10 (va_up (s.2 10) (0 : Int).toNat (0)) s).2 9 0 = (w - 1) / 2 := mA_1 (by decide) e9_0
  have e12_0_1 : (mA 10 (va_up (s.2 10) (0 : Int).toNat (0)) s).2 12 0 = w := mA_1 (by decide) e12_0
  have e13_0_1 : (mA 10 (va_up (s.2 10) (0 : Int).toNat (0)) s).2 13 0 = H := mA_1 (by decide) e13_0
  have e10_0_1 : (mA 10 (va_up (s.2 10) (0 : Int).toNat (0)) s).2 10 0 = 0 := mA_3 (l := 0)
  have hv1 : (mA 10 (va_up (s.2 10) (0 : Int).toNat (0)) s).1 = s.1 := rfl
  have rg0_1 : mRg (mA 10 (va_up (s.2 10) (0 : Int).toNat (0)) s) 0 := mRg_A (by decide) rg0
  have rg1_1 : mRg (mA 10 (va_up (s.2 10) (0 : Int).toNat (0)) s) 1 := mRg_A (by decide) rg1
  revert hA1 hF1 e4_0_1 e4_1_1 e4_2_1 e5_0_1 e6_0_1 e8_0_1 e9_0_1 e12_0_1 e13_0_1 e10_0_1 hv1 rg0_1 rg1_1
  generalize (mA 10 (va_up (s.2 10) (0 : Int).toNat (0)) s) = s1
  generalize (va_up h (B + 8) (pz_z 0 16 (va_up (s.2 10) (0 : Int).toNat (0)))) = h1
  intro hA1 hF1 e4_0_1 e4_1_1 e4_2_1 e5_0_1 e6_0_1 e8_0_1 e9_0_1 e12_0_1 e13_0_1 e10_0_1 hv1 rg0_1 rg1_1
  clear e4_0 e4_1 e4_2 e5_0 e6_0 e8_0 e9_0 e12_0 e13_0 rg0 rg1 hA
  refine pw_aload_n dX10_lay_7 rfl ?_
  refine pw_get (v := .ref (B + 9)) okX10 (k := 11) (by decide) lkX10_35 hA1.1 rfl dX10_lay_8 ?_
  refine pw_iload_n dX10_lay_11 rfl ?_
  refine pw_iload_n dX10_lay_12 rfl ?_
  refine pw_iast (g := (s1.2 11)) (t := 0) rfl (mF11 (s := s1) hA1) (by omega) (by decide) dX10_lay_13 ?_
  have hA2 : mAt B (mA 11 (va_up (s1.2 11) (0 : Int).toNat (0)) s1) (va_up h1 (B + 9) (pz_z 0 16 (va_up (s1.2 11) (0 : Int).toNat (0)))) := mU11 hA1
  have hF2 : mFr B h (va_up h1 (B + 9) (pz_z 0 16 (va_up (s1.2 11) (0 : Int).toNat (0)))) := mFr_tr hF1 (mFr_up (by decide))
  have e4_0_2 : (mA 11 (va_up (s1.2 11) (0 : Int).toNat (0)) s1).2 4 0 = -1 := mA_1 (by decide) e4_0_1
  have e4_1_2 : (mA 11 (va_up (s1.2 11) (0 : Int).toNat (0)) s1).2 4 1 = 0 := mA_1 (by decide) e4_1_1
  have e4_2_2 : (mA 11 (va_up (s1.2 11) (0 : Int).toNat (0)) s1).2 4 2 = 1 := mA_1 (by decide) e4_2_1
  have e5_0_2 : (mA 11 (va_up (s1.2 11) (0 : Int).toNat (0)) s1).2 5 0 = 1 := mA_1 (by decide) e5_0_1
  have e6_0_2 : (mA 11 (va_up (s1.2 11) (0 : Int).toNat (0)) s1).2 6 0 = 2 := mA_1 (by decide) e6_0_1
  have e8_0_2 : (mA 11 (va_up (s1.2 11) (0 : Int).toNat (0)) s1).2 8 0 = 0 := mA_1 (by decide) e8_0_1
  have e9_0_2 : (mA 11 (va_up (s1.2 11) (0 : Int).toNat (0)) s1).2 9 0 = (w - 1) / 2 := mA_1 (by decide) e9_0_1
  have e12_0_2 : (mA 11 (va_up (s1.2 11) (0 : Int).toNat (0)) s1).2 12 0 = w := mA_1 (by decide) e12_0_1
  have e13_0_2 : (mA 11 (va_up (s1.2 11) (0 : Int).toNat (0)) s1).2 13 0 = H := mA_1 (by decide) e13_0_1
  have e10_0_2 : (mA 11 (va_up (s1.2 11) (0 : Int).toNat (0)) s1).2 10 0 = 0 := mA_1 (by decide) e10_0_1
  have e11_0_2 : (mA 11 (va_up (s1.2 11) (0 : Int).toNat (0)) s1).2 11 0 = 0 := mA_3 (l := 0)
  have hv2 : (mA 11 (va_up (s1.2 11) (0 : Int).toNat (0)) s1).1 = s.1 := hv1
  have rg0_2 : mRg (mA 11 (va_up (s1.2 11) (0 : Int).toNat (0)) s1) 0 := mRg_A (by decide) rg0_1
  have rg1_2 : mRg (mA 11 (va_up (s1.2 11) (0 : Int).toNat (0)) s1) 1 := mRg_A (by decide) rg1_1
  revert hA2 hF2 e4_0_2 e4_1_2 e4_2_2 e5_0_2 e6_0_2 e8_0_2 e9_0_2 e12_0_2 e13_0_2 e10_0_2 e11_0_2 hv2 rg0_2 rg1_2
  generalize (mA 11 (va_up (s1.2 11) (0 : Int).toNat (0)) s1) = s2
  generalize (va_up h1 (B + 9) (pz_z 0 16 (va_up (s1.2 11) (0 : Int).toNat (0)))) = h2
  intro hA2 hF2 e4_0_2 e4_1_2 e4_2_2 e5_0_2 e6_0_2 e8_0_2 e9_0_2 e12_0_2 e13_0_2 e10_0_2 e11_0_2 hv2 rg0_2 rg1_2
  clear e4_0_1 e4_1_1 e4_2_1 e5_0_1 e6_0_1 e8_0_1 e9_0_1 e12_0_1 e13_0_1 e10_0_1 rg0_1 rg1_1 hv1 hF1 hA1
  refine pw_aload_n dX10_lay_14 rfl ?_
  refine pw_get (v := .ref (B + 12)) okX10 (k := 15) (by decide) lkX10_44 hA2.1 rfl dX10_lay_15 ?_
  refine pw_iconst (v := zI (0)) dX10_lay_18 (by decide) ?_
  refine pw_iload_n dX10_lay_19 rfl ?_
  refine pw_iast (g := (s2.2 15)) (t := 0) rfl (mF15 (s := s2) hA2) (by omega) (by decide) dX10_lay_20 ?_
  have hA3 : mAt B (mA 15 (va_up (s2.2 15) (0 : Int).toNat (0)) s2) (va_up h2 (B + 12) (pz_z 0 16 (va_up (s2.2 15) (0 : Int).toNat (0)))) := mU15 hA2
  have hF3 : mFr B h (va_up h2 (B + 12) (pz_z 0 16 (va_up (s2.2 15) (0 : Int).toNat (0)))) := mFr_tr hF2 (mFr_up (by decide))
  have e4_0_3 : (mA 15 (va_up (s2.2 15) (0 : Int).toNat (0)) s2).2 4 0 = -1 := mA_1 (by decide) e4_0_2
  have e4_1_3 : (mA 15 (va_up (s2.2 15) (0 : Int).toNat (0)) s2).2 4 1 = 0 := mA_1 (by decide) e4_1_2
  have e4_2_3 : (mA 15 (va_up (s2.2 15) (0 : Int).toNat (0)) s2).2 4 2 = 1 := mA_1 (by decide) e4_2_2
  have e5_0_3 : (mA 15 (va_up (s2.2 15) (0 : Int).toNat (0)) s2).2 5 0 = 1 := mA_1 (by decide) e5_0_2
  have e6_0_3 : (mA 15 (va_up (s2.2 15) (0 : Int).toNat (0)) s2).2 6 0 = 2 := mA_1 (by decide) e6_0_2
  have e8_0_3 : (mA 15 (va_up (s2.2 15) (0 : Int).toNat (0)) s2).2 8 0 = 0 := mA_1 (by decide) e8_0_2
  have e9_0_3 : (mA 15 (va_up (s2.2 15) (0 : Int).toNat (0)) s2).2 9 0 = (w - 1) / 2 := mA_1 (by decide) e9_0_2
  have e12_0_3 : (mA 15 (va_up (s2.2 15) (0 : Int).toNat (0)) s2).2 12 0 = w := mA_1 (by decide) e12_0_2
  have e13_0_3 : (mA 15 (va_up (s2.2 15) (0 : Int).toNat (0)) s2).2 13 0 = H := mA_1 (by decide) e13_0_2
  have e10_0_3 : (mA 15 (va_up (s2.2 15) (0 : Int).toNat (0)) s2).2 10 0 = 0 := mA_1 (by decide) e10_0_2
  have e11_0_3 : (mA 15 (va_up (s2.2 15) (0 : Int).toNat (0)) s2).2 11 0 = 0 := mA_1 (by decide) e11_0_2
  have e15_0_3 : (mA 15 (va_up (s2.2 15) (0 : Int).toNat (0)) s2).2 15 0 = 0 := mA_3 (l := 0)
  have hv3 : (mA 15 (va_up (s2.2 15) (0 : Int).toNat (0)) s2).1 = s.1 := hv2
  have rg0_3 : mRg (mA 15 (va_up (s2.2 15) (0 : Int).toNat (0)) s2) 0 := mRg_A (by decide) rg0_2
  have rg1_3 : mRg (mA 15 (va_up (s2.2 15) (0 : Int).toNat (0)) s2) 1 := mRg_A (by decide) rg1_2
  revert hA3 hF3 e4_0_3 e4_1_3 e4_2_3 e5_0_3 e6_0_3 e8_0_3 e9_0_3 e12_0_3 e13_0_3 e10_0_3 e11_0_3 e15_0_3 hv3 rg0_3 rg1_3
  generalize (mA 15 (va_up (s2.2 15) (0 : Int).toNat (0)) s2) = s3
  generalize (va_up h2 (B + 12) (pz_z 0 16 (va_up (s2.2 15) (0 : Int).toNat (0)))) = h3
  intro hA3 hF3 e4_0_3 e4_1_3 e4_2_3 e5_0_3 e6_0_3 e8_0_3 e9_0_3 e12_0_3 e13_0_3 e10_0_3 e11_0_3 e15_0_3 hv3 rg0_3 rg1_3
  clear e4_0_2 e4_1_2 e4_2_2 e5_0_2 e6_0_2 e8_0_2 e9_0_2 e12_0_2 e13_0_2 e10_0_2 e11_0_2 rg0_2 rg1_2 hv2 hF2 hA2
  refine pw_iconst (v := zI (1)) dX10_lay_21 (by decide) ?_
  refine pw_istore (lv' := [some (.ref B), some (.int (zI (0))), some (.int (zI (0))), some (.int (zI (0))), some (.int (zI (w))), some (.int (zI (H))), some (.int (zI (1))), none, none, none, none, none, none]) dX10_lay_22 (by decide) rfl rfl ?_
  refine pw_aload_n dX10_lay_24 rfl ?_
  refine pw_get (v := .ref (B + 48)) okX10 (k := 59) (by decide) lkX10_156 hA3.1 rfl dX10_lay_25 ?_
  refine pw_iload_n dX10_lay_28 rfl ?_
  refine pw_iload dX10_lay_29 rfl ?_
  refine pw_iast (g := (s3.2 59)) (t := 0) rfl (mF59 (s := s3) hA3) (by omega) (by decide) dX10_lay_31 ?_
  have hA4 : mAt B (mA 59 (va_up (s3.2 59) (0 : Int).toNat (w)) s3) (va_up h3 (B + 48) (pz_z 0 16 (va_up (s3.2 59) (0 : Int).toNat (w)))) := mU59 hA3
  have hF4 : mFr B h (va_up h3 (B + 48) (pz_z 0 16 (va_up (s3.2 59) (0 : Int).toNat (w)))) := mFr_tr hF3 (mFr_up (by decide))
  have e4_0_4 : (mA 59 (va_up (s3.2 59) (0 : Int).toNat (w)) s3).2 4 0 = -1 := mA_1 (by decide) e4_0_3
  have e4_1_4 : (mA 59 (va_up (s3.2 59) (0 : Int).toNat (w)) s3).2 4 1 = 0 := mA_1 (by decide) e4_1_3
  have e4_2_4 : (mA 59 (va_up (s3.2 59) (0 : Int).toNat (w)) s3).2 4 2 = 1 := mA_1 (by decide) e4_2_3
  have e5_0_4 : (mA 59 (va_up (s3.2 59) (0 : Int).toNat (w)) s3).2 5 0 = 1 := mA_1 (by decide) e5_0_3
  have e6_0_4 : (mA 59 (va_up (s3.2 59) (0 : Int).toNat (w)) s3).2 6 0 = 2 := mA_1 (by decide) e6_0_3
  have e8_0_4 : (mA 59 (va_up (s3.2 59) (0 : Int).toNat (w)) s3).2 8 0 = 0 := mA_1 (by decide) e8_0_3
  have e9_0_4 : (mA 59 (va_up (s3.2 59) (0 : Int).toNat (w)) s3).2 9 0 = (w - 1) / 2 := mA_1 (by decide) e9_0_3
  have e12_0_4 : (mA 59 (va_up (s3.2 59) (0 : Int).toNat (w)) s3).2 12 0 = w := mA_1 (by decide) e12_0_3
  have e13_0_4 : (mA 59 (va_up (s3.2 59) (0 : Int).toNat (w)) s3).2 13 0 = H := mA_1 (by decide) e13_0_3
  have e10_0_4 : (mA 59 (va_up (s3.2 59) (0 : Int).toNat (w)) s3).2 10 0 = 0 := mA_1 (by decide) e10_0_3
  have e11_0_4 : (mA 59 (va_up (s3.2 59) (0 : Int).toNat (w)) s3).2 11 0 = 0 := mA_1 (by decide) e11_0_3
  have e15_0_4 : (mA 59 (va_up (s3.2 59) (0 : Int).toNat (w)) s3).2 15 0 = 0 := mA_1 (by decide) e15_0_3
  have e59_0_4 : (mA 59 (va_up (s3.2 59) (0 : Int).toNat (w)) s3).2 59 0 = w := mA_3 (l := 0)
  have hv4 : (mA 59 (va_up (s3.2 59) (0 : Int).toNat (w)) s3).1 = s.1 := hv3
  have rg0_4 : mRg (mA 59 (va_up (s3.2 59) (0 : Int).toNat (w)) s3) 0 := mRg_A (by decide) rg0_3
  have rg1_4 : mRg (mA 59 (va_up (s3.2 59) (0 : Int).toNat (w)) s3) 1 := mRg_A (by decide) rg1_3
  revert hA4 hF4 e4_0_4 e4_1_4 e4_2_4 e5_0_4 e6_0_4 e8_0_4 e9_0_4 e12_0_4 e13_0_4 e10_0_4 e11_0_4 e15_0_4 e59_0_4 hv4 rg0_4 rg1_4
  generalize (mA 59 (va_up (s3.2 59) (0 : Int).toNat (w)) s3) = s4
  generalize (va_up h3 (B + 48) (pz_z 0 16 (va_up (s3.2 59) (0 : Int).toNat (w)))) = h4
  intro hA4 hF4 e4_0_4 e4_1_4 e4_2_4 e5_0_4 e6_0_4 e8_0_4 e9_0_4 e12_0_4 e13_0_4 e10_0_4 e11_0_4 e15_0_4 e59_0_4 hv4 rg0_4 rg1_4
  clear e4_0_3 e4_1_3 e4_2_3 e5_0_3 e6_0_3 e8_0_3 e9_0_3 e12_0_3 e13_0_3 e10_0_3 e11_0_3 e15_0_3 rg0_3 rg1_3 hv3 hF3 hA3
  refine pw_aload_n dX10_lay_32 rfl ?_
  refine pw_get (v := .ref (B + 49)) okX10 (k := 60) (by decide) lkX10_159 hA4.1 rfl dX10_lay_33 ?_
  refine pw_iload_n dX10_lay_36 rfl ?_
  refine pw_iload dX10_lay_37 rfl ?_
  refine pw_iast (g := (s4.2 60)) (t := 0) rfl (mF60 (s := s4) hA4) (by omega) (by decide) dX10_lay_39 ?_
  have hA5 : mAt B (mA 60 (va_up (s4.2 60) (0 : Int).toNat (H)) s4) (va_up h4 (B + 49) (pz_z 0 16 (va_up (s4.2 60) (0 : Int).toNat (H)))) := mU60 hA4
  have hF5 : mFr B h (va_up h4 (B + 49) (pz_z 0 16 (va_up (s4.2 60) (0 : Int).toNat (H)))) := mFr_tr hF4 (mFr_up (by decide))
  have e4_0_5 : (mA 60 (va_up (s4.2 60) (0 : Int).toNat (H)) s4).2 4 0 = -1 := mA_1 (by decide) e4_0_4
  have e4_1_5 : (mA 60 (va_up (s4.2 60) (0 : Int).toNat (H)) s4).2 4 1 = 0 := mA_1 (by decide) e4_1_4
  have e4_2_5 : (mA 60 (va_up (s4.2 60) (0 : Int).toNat (H)) s4).2 4 2 = 1 := mA_1 (by decide) e4_2_4
  have e5_0_5 : (mA 60 (va_up (s4.2 60) (0 : Int).toNat (H)) s4).2 5 0 = 1 := mA_1 (by decide) e5_0_4
  have e6_0_5 : (mA 60 (va_up (s4.2 60) (0 : Int).toNat (H)) s4).2 6 0 = 2 := mA_1 (by decide) e6_0_4
  have e8_0_5 : (mA 60 (va_up (s4.2 60) (0 : Int).toNat (H)) s4).2 8 0 = 0 := mA_1 (by decide) e8_0_4
  have e9_0_5 : (mA 60 (va_up (s4.2 60) (0 : Int).toNat (H)) s4).2 9 0 = (w - 1) / 2 := mA_1 (by decide) e9_0_4
  have e12_0_5 : (mA 60 (va_up (s4.2 60) (0 : Int).toNat (H)) s4).2 12 0 = w := mA_1 (by decide) e12_0_4
  have e13_0_5 : (mA 60 (va_up (s4.2 60) (0 : Int).toNat (H)) s4).2 13 0 = H := mA_1 (by decide) e13_0_4
  have e10_0_5 : (mA 60 (va_up (s4.2 60) (0 : Int).toNat (H)) s4).2 10 0 = 0 := mA_1 (by decide) e10_0_4
  have e11_0_5 : (mA 60 (va_up (s4.2 60) (0 : Int).toNat (H)) s4).2 11 0 = 0 := mA_1 (by decide) e11_0_4
  have e15_0_5 : (mA 60 (va_up (s4.2 60) (0 : Int).toNat (H)) s4).2 15 0 = 0 := mA_1 (by decide) e15_0_4
  have e59_0_5 : (mA 60 (va_up (s4.2 60) (0 : Int).toNat (H)) s4).2 59 0 = w := mA_1 (by decide) e59_0_4
  have e60_0_5 : (mA 60 (va_up (s4.2 60) (0 : Int).toNat (H)) s4).2 60 0 = H := mA_3 (l := 0)
  have hv5 : (mA 60 (va_up (s4.2 60) (0 : Int).toNat (H)) s4).1 = s.1 := hv4
  have rg0_5 : mRg (mA 60 (va_up (s4.2 60) (0 : Int).toNat (H)) s4) 0 := mRg_A (by decide) rg0_4
  have rg1_5 : mRg (mA 60 (va_up (s4.2 60) (0 : Int).toNat (H)) s4) 1 := mRg_A (by decide) rg1_4
  revert hA5 hF5 e4_0_5 e4_1_5 e4_2_5 e5_0_5 e6_0_5 e8_0_5 e9_0_5 e12_0_5 e13_0_5 e10_0_5 e11_0_5 e15_0_5 e59_0_5 e60_0_5 hv5 rg0_5 rg1_5
  generalize (mA 60 (va_up (s4.2 60) (0 : Int).toNat (H)) s4) = s5
  generalize (va_up h4 (B + 49) (pz_z 0 16 (va_up (s4.2 60) (0 : Int).toNat (H)))) = h5
  intro hA5 hF5 e4_0_5 e4_1_5 e4_2_5 e5_0_5 e6_0_5 e8_0_5 e9_0_5 e12_0_5 e13_0_5 e10_0_5 e11_0_5 e15_0_5 e59_0_5 e60_0_5 hv5 rg0_5 rg1_5
  clear e4_0_4 e4_1_4 e4_2_4 e5_0_4 e6_0_4 e8_0_4 e9_0_4 e12_0_4 e13_0_4 e10_0_4 e11_0_4 e15_0_4 e59_0_4 rg0_4 rg1_4 hv4 hF4 hA4
  refine pw_iload dX10_lay_40 rfl ?_
  refine pw_if_le (tgt := 547) dX10_lay_42 rfl (by omega) (fun c42 => ?_) (fun c42 => ?_)
  · exfalso; omega
  ·
    refine pw_ziinc (lv' := [some (.ref B), some (.int (zI (0))), some (.int (zI (0))), some (.int (zI (0))), some (.int (zI (w))), some (.int (zI (H))), some (.int (zI (0))), none, none, none, none, none, none]) dX10_lay_45 rfl (by decide) rfl rfl ?_
    refine pw_aload_n dX10_lay_48 rfl ?_
    refine pw_get (v := .ref (B + 12)) okX10 (k := 15) (by decide) lkX10_44 hA5.1 rfl dX10_lay_49 ?_
    refine pw_iload dX10_lay_52 rfl ?_
    refine pw_ialdv (v := 0) (t := 0) rfl (mF15 (s := s5) hA5) (by omega) (by decide) (e15_0_5) dX10_lay_54 ?_
    refine pw_istore (lv' := [some (.ref B), some (.int (zI (0))), some (.int (zI (0))), some (.int (zI (0))), some (.int (zI (w))), some (.int (zI (H))), some (.int (zI (0))), some (.int (zI (0))), none, none, none, none, none]) dX10_lay_55 (by decide) rfl rfl ?_
    refine pw_aload_n dX10_lay_57 rfl ?_
    refine pw_get (v := .ref (B + 2)) okX10 (k := 4) (by decide) lkX10_13 hA5.1 rfl dX10_lay_58 ?_
    refine pw_iload dX10_lay_61 rfl ?_
    refine pw_ialdv (v := -1) (t := 0) rfl (mF4 (s := s5) hA5) (by omega) (by decide) (e4_0_5) dX10_lay_63 ?_
    refine pw_iconst (v := zI (-1)) dX10_lay_64 (by decide) ?_
    refine pw_icmp_eq (tgt := 124) dX10_lay_65 rfl (by omega) (by omega) (fun c65 => ?_) (fun c65 => ?_)
    ·
      refine pw_aload_n dX10_lay_124 rfl ?_
      refine pw_get (v := .ref (B + 6)) okX10 (k := 8) (by decide) lkX10_26 hA5.1 rfl dX10_lay_125 ?_
      refine pw_iload dX10_lay_128 rfl ?_
      refine pw_zaldv (v := 0) (t := 1) rfl (mF8 (s := s5) hA5) (by omega) (by decide) (e8_0_5) dX10_lay_130 ?_
      refine pw_if_eq (tgt := 144) dX10_lay_131 rfl (by omega) (fun c131 => ?_) (fun c131 => ?_)
      ·
        refine pw_aload_n dX10_lay_144 rfl ?_
        refine pw_get (v := .ref (B + 10)) okX10 (k := 12) (by decide) lkX10_38 hA5.1 rfl dX10_lay_145 ?_
        refine pw_iload dX10_lay_148 rfl ?_
        refine pw_ialdv (v := w) (t := 0) rfl (mF12 (s := s5) hA5) (by omega) (by decide) (e12_0_5) dX10_lay_150 ?_
        refine pw_istore (lv' := [some (.ref B), some (.int (zI (0))), some (.int (zI (0))), some (.int (zI (0))), some (.int (zI (w))), some (.int (zI (H))), some (.int (zI (0))), some (.int (zI (0))), some (.int (zI (w))), none, none, none, none]) dX10_lay_151 (by decide) rfl rfl ?_
        refine pw_aload_n dX10_lay_153 rfl ?_
        refine pw_get (v := .ref (B + 6)) okX10 (k := 8) (by decide) lkX10_26 hA5.1 rfl dX10_lay_154 ?_
        refine pw_iload dX10_lay_157 rfl ?_
        refine pw_zaldv (v := 0) (t := 1) rfl (mF8 (s := s5) hA5) (by omega) (by decide) (e8_0_5) dX10_lay_159 ?_
        refine pw_if_eq (tgt := 173) dX10_lay_160 rfl (by omega) (fun c160 => ?_) (fun c160 => ?_)
        ·
          refine pw_aload_n dX10_lay_173 rfl ?_
          refine pw_get (v := .ref (B + 48)) okX10 (k := 59) (by decide) lkX10_156 hA5.1 rfl dX10_lay_174 ?_
          refine pw_iload dX10_lay_177 rfl ?_
          refine pw_ialdv (v := w) (t := 0) rfl (mF59 (s := s5) hA5) (by omega) (by decide) (e59_0_5) dX10_lay_179 ?_
          refine pw_istore (lv' := [some (.ref B), some (.int (zI (0))), some (.int (zI (0))), some (.int (zI (0))), some (.int (zI (w))), some (.int (zI (H))), some (.int (zI (0))), some (.int (zI (0))), some (.int (zI (w))), some (.int (zI (w))), none, none, none]) dX10_lay_180 (by decide) rfl rfl ?_
          refine pw_iload dX10_lay_182 rfl ?_
          refine pw_iconst (v := zI (1)) dX10_lay_184 (by decide) ?_
          refine pw_zisub dX10_lay_185 ?_
          refine pw_aload_n dX10_lay_186 rfl ?_
          refine pw_get (v := .ref (B + 7)) okX10 (k := 9) (by decide) lkX10_29 hA5.1 rfl dX10_lay_187 ?_
          refine pw_iload dX10_lay_190 rfl ?_
          refine pw_ialdv (v := (w - 1) / 2) (t := 0) rfl (mF9 (s := s5) hA5) (by omega) (by decide) (e9_0_5) dX10_lay_192 ?_
          refine pw_zimul dX10_lay_193 ?_
          refine pw_iload dX10_lay_194 rfl ?_
          refine pw_iconst (v := zI (1)) dX10_lay_196 (by decide) ?_
          refine pw_zisub dX10_lay_197 ?_
          refine pw_zidiv dX10_lay_198 (show 0 ≤ (w - 1) * ((w - 1) / 2) ∧ (w - 1) * ((w - 1) / 2) < 2147483648 from hml) (by omega) ?_
          refine pw_istore (lv' := [some (.ref B), some (.int (zI (0))), some (.int (zI (0))), some (.int (zI (0))), some (.int (zI (w))), some (.int (zI (H))), some (.int (zI (0))), some (.int (zI (0))), some (.int (zI (w))), some (.int (zI (w))), some (.int (zI (((w - 1) * ((w - 1) / 2)) / (w - 1)))), none, none]) dX10_lay_199 (by decide) rfl rfl ?_
          refine pw_iload dX10_lay_201 rfl ?_
          refine pw_iconst (v := zI (1)) dX10_lay_203 (by decide) ?_
          refine pw_icmp_ge (tgt := 211) dX10_lay_204 rfl (by omega) (by omega) (fun c204 => ?_) (fun c204 => ?_)
          ·
            refine pw_iload dX10_lay_211 rfl ?_
            refine pw_iload dX10_lay_213 rfl ?_
            refine pw_iconst (v := zI (2)) dX10_lay_215 (by decide) ?_
            refine pw_zisub dX10_lay_216 ?_
            refine pw_icmp_le (tgt := 227) dX10_lay_217 rfl (by omega) (by omega) (fun c217 => ?_) (fun c217 => ?_)
            ·
              refine pw_iload dX10_lay_227 rfl ?_
              exact lN_lay0 htr hw hH e4_0_5 e4_1_5 e4_2_5 e5_0_5 e6_0_5 e8_0_5 e9_0_5 e12_0_5 e13_0_5 e10_0_5 e11_0_5 e15_0_5 e59_0_5 e60_0_5 rg0_5 rg1_5 (by omega) hA5 hF5 hv5 (fun s9 h9 z1 z2 z3 => by exact ⟨rfl, s9, z1, z2, z3, rfl⟩)
            ·
              refine pw_iload dX10_lay_220 rfl ?_
              refine pw_iconst (v := zI (2)) dX10_lay_222 (by decide) ?_
              refine pw_zisub dX10_lay_223 ?_
              refine pw_goto (tgt := 229) dX10_lay_224 rfl ?_
              exact lN_lay0 htr hw hH e4_0_5 e4_1_5 e4_2_5 e5_0_5 e6_0_5 e8_0_5 e9_0_5 e12_0_5 e13_0_5 e10_0_5 e11_0_5 e15_0_5 e59_0_5 e60_0_5 rg0_5 rg1_5 (by omega) hA5 hF5 hv5 (fun s9 h9 z1 z2 z3 => by exact ⟨rfl, s9, z1, z2, z3, rfl⟩)
          ·
            refine pw_iconst (v := zI (1)) dX10_lay_207 (by decide) ?_
            refine pw_goto (tgt := 229) dX10_lay_208 rfl ?_
            exact lN_lay0 htr hw hH e4_0_5 e4_1_5 e4_2_5 e5_0_5 e6_0_5 e8_0_5 e9_0_5 e12_0_5 e13_0_5 e10_0_5 e11_0_5 e15_0_5 e59_0_5 e60_0_5 rg0_5 rg1_5 (by omega) hA5 hF5 hv5 (fun s9 h9 z1 z2 z3 => by exact ⟨rfl, s9, z1, z2, z3, rfl⟩)
        · exfalso; omega
      · exfalso; omega
    · exfalso; omega
set_option maxHeartbeats 1000000 in
set_option maxRecDepth 100000 in
/-- splitNow(0, 0) -/
theorem nF_splitNow0 {E : pw_E} (htr : E.1.stackTraces = false) {h : pz_H} {n : Nat} {B : Nat} {s : mS} (hA : mAt B s h)  {w H : Int} (hw : 8 ≤ w ∧ w ≤ 40) (hH : 4 ≤ H ∧ H ≤ 16) (hn : mN w H s) : pw_M E yX10_splitNow YX10_splitNow (rmD 3 0 0) [.ref B, .int (zI (0)), .int (zI (0))] h n (fun r0 h' n' => r0 = some (.int (zI 1)) ∧ ∃ s', mAt B s' h' ∧ s'.1 0 = s.1 0 ∧ mFr B h h' ∧ n' = n) (fun _ _ _ => False) := by
  have rg0 := mRg_pk (mN_pk hn hw hH)
  have zz22 : s.2 22 1 = 0 := mZ_22 hn (by decide)
  have zz31 : s.2 31 1 = 0 := mZ_31 hn (by decide)
  have zz32 : s.2 32 1 = 0 := mZ_32 hn (by decide)
  have zz33 : s.2 33 1 = 0 := mZ_33 hn (by decide)
  have zz34 : s.2 34 1 = 0 := mZ_34 hn (by decide)
  have zz35 : s.2 35 1 = 0 := mZ_35 hn (by decide)
  have zz37 : s.2 37 1 = 0 := mZ_37 hn (by decide)
  have zz38 : s.2 38 1 = 0 := mZ_38 hn (by decide)
  have zz39 : s.2 39 1 = 0 := mZ_39 hn (by decide)
  have zz42 : s.2 42 1 = 0 := mZ_42 hn (by decide)
  refine pw_M_of (lv := [some (.ref B), some (.int (zI (0))), some (.int (zI (0))), none, none, none, none, none, none]) (by decide) rfl rfl htr (nle rfl) rfl (fun L => ?_)
  refine pw_iconst (v := zI (0)) dX10_splitNow_0 (by decide) ?_
  refine pw_istore_n (lv' := [some (.ref B), some (.int (zI (0))), some (.int (zI (0))), some (.int (zI (0))), none, none, none, none, none]) dX10_splitNow_1 (by decide) rfl rfl ?_
  refine pw_aload_n dX10_splitNow_2 rfl ?_
  refine pw_get (v := .ref (B + 13)) okX10 (k := 16) (by decide) lkX10_47 hA.1 rfl dX10_splitNow_3 ?_
  refine pw_iload_n dX10_splitNow_6 rfl ?_
  refine pw_zaldv (v := 1) (t := 1) rfl (mF16 (s := s) hA) (by omega) (by decide) (show s.2 16 0 = 1 from mN_16 hn) dX10_splitNow_7 ?_
  refine pw_if_eq (tgt := 17) dX10_splitNow_8 rfl (by omega) (fun c8 => ?_) (fun c8 => ?_)
  · exfalso; omega
  ·
    refine pw_ziinc (lv' := [some (.ref B), some (.int (zI (0))), some (.int (zI (0))), some (.int (zI (1))), none, none, none, none, none]) dX10_splitNow_11 rfl (by decide) rfl rfl ?_
    refine pw_goto (tgt := 2) dX10_splitNow_14 rfl ?_
    refine pw_aload_n dX10_splitNow_2 rfl ?_
    refine pw_get (v := .ref (B + 13)) okX10 (k := 16) (by decide) lkX10_47 hA.1 rfl dX10_splitNow_3 ?_
    refine pw_iload_n dX10_splitNow_6 rfl ?_
    refine pw_zaldv (v := 0) (t := 1) rfl (mF16 (s := s) hA) (by omega) (by decide) (show s.2 16 1 = 0 from mZ_16 hn (by decide)) dX10_splitNow_7 ?_
    refine pw_if_eq (tgt := 17) dX10_splitNow_8 rfl (by omega) (fun c8 => ?_) (fun c8 => ?_)
    ·
      refine pw_aload_n dX10_splitNow_17 rfl ?_
      refine pw_get (v := .ref (B + 14)) okX10 (k := 17) (by decide) lkX10_50 hA.1 rfl dX10_splitNow_18 ?_
      refine pw_iload_n dX10_splitNow_21 rfl ?_
      refine pw_ialdv (v := 0) (t := 0) rfl (mF17 (s := s) hA) (by omega) (by decide) (show s.2 17 0 = 0 from mN_17 hn) dX10_splitNow_22 ?_
      refine pw_istore (lv' := [some (.ref B), some (.int (zI (0))), some (.int (zI (0))), some (.int (zI (1))), some (.int (zI (0))), none, none, none, none]) dX10_splitNow_23 (by decide) rfl rfl ?_
      refine pw_aload_n dX10_splitNow_25 rfl ?_
      refine pw_callV (As := []) (b := B) (rm := rmD 0 0 0) (nR_freeNode (m := 1) htr hA (by omega) (fun i hi => by rw [show i = 0 by omega]; exact mN_3 hn) (mZ_3 hn (by decide))) rfl hA.1 rfl rfl ywX10_freeNode rfl cwX10_199 ⟨nle rfl, nle rfl⟩ (nle rfl) ⟨nle rfl, nle rfl⟩ dX10_splitNow_26 ?_ (fun _ _ _ z => z.elim)
      intro r_9 h1 n_9 hq _
      obtain ⟨e1, hA10, hF10, e4⟩ := hq
      rw [e1, e4]
      show pw E YX10_splitNow _ _ 0 0 29 [some (.ref B), some (.int (zI (0))), some (.int (zI (0))), some (.int (zI (1))), some (.int (zI (0))), none, none, none, none] [.int (zI (1))] h1 n
      have hA1 : mAt B (mA 3 (va_up (s.2 3) (1 : Int).toNat 1) s) h1 := hA10
      have hF1 := mFr_tr mFr_rf hF10
      clear e1 e4
      refine pw_istore (lv' := [some (.ref B), some (.int (zI (0))), some (.int (zI (0))), some (.int (zI (1))), some (.int (zI (0))), some (.int (zI (1))), none, none, none]) dX10_splitNow_29 (by decide) rfl rfl ?_
      refine pw_aload_n dX10_splitNow_31 rfl ?_
      refine pw_callV (As := []) (b := B) (rm := rmD 0 0 0) (nR_freeNode (m := 2) htr hA1 (by omega) (fun i hi => by rcases (show i = 0 ∨ i = 1 by omega) with rfl | rfl; exact (show s.2 3 0 = 1 from mN_3 hn); rfl) (show s.2 3 2 = 0 from mZ_3 hn (by decide))) rfl hA1.1 rfl rfl ywX10_freeNode rfl cwX10_199 ⟨nle rfl, nle rfl⟩ (nle rfl) ⟨nle rfl, nle rfl⟩ dX10_splitNow_32 ?_ (fun _ _ _ z => z.elim)
      intro r_9 h2 n_9 hq _
      obtain ⟨e1, hA20, hF20, e4⟩ := hq
      rw [e1, e4]
      show pw E YX10_splitNow _ _ 0 0 35 [some (.ref B), some (.int (zI (0))), some (.int (zI (0))), some (.int (zI (1))), some (.int (zI (0))), some (.int (zI (1))), none, none, none] [.int (zI (2))] h2 n
      have hA2 : mAt B (mA 3 (va_up (va_up (s.2 3) (1 : Int).toNat 1) (2 : Int).toNat 1) (mA 3 (va_up (s.2 3) (1 : Int).toNat 1) s)) h2 := hA20
      have hF2 := mFr_tr hF1 hF20
      clear e1 e4
      refine pw_istore (lv' := [some (.ref B), some (.int (zI (0))), some (.int (zI (0))), some (.int (zI (1))), some (.int (zI (0))), some (.int (zI (1))), some (.int (zI (2))), none, none]) dX10_splitNow_35 (by decide) rfl rfl ?_
      refine pw_iload_n dX10_splitNow_37 rfl ?_
      refine pw_if_eq (tgt := 51) dX10_splitNow_38 rfl (by omega) (fun c38 => ?_) (fun c38 => ?_)
      ·
        refine pw_aload_n dX10_splitNow_51 rfl ?_
        refine pw_get (v := .ref (B + 10)) okX10 (k := 12) (by decide) lkX10_38 hA2.1 rfl dX10_splitNow_52 ?_
        refine pw_iload dX10_splitNow_55 rfl ?_
        refine pw_ialdv (v := w) (t := 0) rfl (mF12 (s := (mA 3 (va_up (va_up (s.2 3) (1 : Int).toNat 1) (2 : Int).toNat 1) (mA 3 (va_up (s.2 3) (1 : Int).toNat 1) s))) hA2) (by omega) (by decide) (show s.2 12 0 = w from mN_12 hn) dX10_splitNow_57 ?_
        refine pw_istore (lv' := [some (.ref B), some (.int (zI (0))), some (.int (zI (0))), some (.int (zI (1))), some (.int (zI (0))), some (.int (zI (1))), some (.int (zI (2))), some (.int (zI (w))), none]) dX10_splitNow_58 (by decide) rfl rfl ?_
        refine pw_iload dX10_splitNow_60 rfl ?_
        refine pw_iconst (v := zI (1)) dX10_splitNow_62 (by decide) ?_
        refine pw_zisub dX10_splitNow_63 ?_
        refine pw_iconst (v := zI (2)) dX10_splitNow_64 (by decide) ?_
        refine pw_zidiv dX10_splitNow_65 (by omega) (by omega) ?_
        refine pw_istore (lv' := [some (.ref B), some (.int (zI (0))), some (.int (zI (0))), some (.int (zI (1))), some (.int (zI (0))), some (.int (zI (1))), some (.int (zI (2))), some (.int (zI (w))), some (.int (zI ((w - 1) / (2))))]) dX10_splitNow_66 (by decide) rfl rfl ?_
        refine pw_aload_n dX10_splitNow_68 rfl ?_
        refine pw_get (v := .ref (B + 2)) okX10 (k := 4) (by decide) lkX10_13 hA2.1 rfl dX10_splitNow_69 ?_
        refine pw_iload dX10_splitNow_72 rfl ?_
        refine pw_iload_n dX10_splitNow_74 rfl ?_
        refine pw_iast (g := (s.2 4)) (t := 0) rfl (mF4 (s := (mA 3 (va_up (va_up (s.2 3) (1 : Int).toNat 1) (2 : Int).toNat 1) (mA 3 (va_up (s.2 3) (1 : Int).toNat 1) s))) hA2) (by omega) (by decide) dX10_splitNow_75 ?_
        have hA3 : mAt B (mA 4 (va_up (s.2 4) (1 : Int).toNat (0)) (mA 3 (va_up (va_up (s.2 3) (1 : Int).toNat 1) (2 : Int).toNat 1) (mA 3 (va_up (s.2 3) (1 : Int).toNat 1) s))) (va_up h2 (B + 2) (pz_z 0 16 (va_up (s.2 4) (1 : Int).toNat (0)))) := mU4 hA2
        have hF3 : mFr B h (va_up h2 (B + 2) (pz_z 0 16 (va_up (s.2 4) (1 : Int).toNat (0)))) := mFr_tr hF2 (mFr_up (by decide))
        revert hA3 hF3
        generalize (va_up h2 (B + 2) (pz_z 0 16 (va_up (s.2 4) (1 : Int).toNat (0)))) = h3
        intro hA3 hF3
        refine pw_aload_n dX10_splitNow_76 rfl ?_
        refine pw_get (v := .ref (B + 2)) okX10 (k := 4) (by decide) lkX10_13 hA3.1 rfl dX10_splitNow_77 ?_
        refine pw_iload dX10_splitNow_80 rfl ?_
        refine pw_iload_n dX10_splitNow_82 rfl ?_
        refine pw_iast (g := (va_up (s.2 4) (1 : Int).toNat (0))) (t := 0) rfl (mF4 (s := (mA 4 (va_up (s.2 4) (1 : Int).toNat (0)) (mA 3 (va_up (va_up (s.2 3) (1 : Int).toNat 1) (2 : Int).toNat 1) (mA 3 (va_up (s.2 3) (1 : Int).toNat 1) s)))) hA3) (by omega) (by decide) dX10_splitNow_83 ?_
        have hA4 : mAt B (mA 4 (va_up (va_up (s.2 4) (1 : Int).toNat (0)) (2 : Int).toNat (1)) (mA 4 (va_up (s.2 4) (1 : Int).toNat (0)) (mA 3 (va_up (va_up (s.2 3) (1 : Int).toNat 1) (2 : Int).toNat 1) (mA 3 (va_up (s.2 3) (1 : Int).toNat 1) s)))) (va_up h3 (B + 2) (pz_z 0 16 (va_up (va_up (s.2 4) (1 : Int).toNat (0)) (2 : Int).toNat (1)))) := mU4 hA3
        have hF4 : mFr B h (va_up h3 (B + 2) (pz_z 0 16 (va_up (va_up (s.2 4) (1 : Int).toNat (0)) (2 : Int).toNat (1)))) := mFr_tr hF3 (mFr_up (by decide))
        revert hA4 hF4
        generalize (va_up h3 (B + 2) (pz_z 0 16 (va_up (va_up (s.2 4) (1 : Int).toNat (0)) (2 : Int).toNat (1)))) = h4
        intro hA4 hF4
        refine pw_aload_n dX10_splitNow_84 rfl ?_
        refine pw_get (v := .ref (B + 14)) okX10 (k := 17) (by decide) lkX10_50 hA4.1 rfl dX10_splitNow_85 ?_
        refine pw_iload_n dX10_splitNow_88 rfl ?_
        refine pw_iload dX10_splitNow_89 rfl ?_
        refine pw_iast (g := (s.2 17)) (t := 0) rfl (mF17 (s := (mA 4 (va_up (va_up (s.2 4) (1 : Int).toNat (0)) (2 : Int).toNat (1)) (mA 4 (va_up (s.2 4) (1 : Int).toNat (0)) (mA 3 (va_up (va_up (s.2 3) (1 : Int).toNat 1) (2 : Int).toNat 1) (mA 3 (va_up (s.2 3) (1 : Int).toNat 1) s))))) hA4) (by omega) (by decide) dX10_splitNow_91 ?_
        have hA5 : mAt B (mA 17 (va_up (s.2 17) (0 : Int).toNat (1)) (mA 4 (va_up (va_up (s.2 4) (1 : Int).toNat (0)) (2 : Int).toNat (1)) (mA 4 (va_up (s.2 4) (1 : Int).toNat (0)) (mA 3 (va_up (va_up (s.2 3) (1 : Int).toNat 1) (2 : Int).toNat 1) (mA 3 (va_up (s.2 3) (1 : Int).toNat 1) s))))) (va_up h4 (B + 14) (pz_z 0 8 (va_up (s.2 17) (0 : Int).toNat (1)))) := mU17 hA4
        have hF5 : mFr B h (va_up h4 (B + 14) (pz_z 0 8 (va_up (s.2 17) (0 : Int).toNat (1)))) := mFr_tr hF4 (mFr_up (by decide))
        revert hA5 hF5
        generalize (va_up h4 (B + 14) (pz_z 0 8 (va_up (s.2 17) (0 : Int).toNat (1)))) = h5
        intro hA5 hF5
        refine pw_aload_n dX10_splitNow_92 rfl ?_
        refine pw_get (v := .ref (B + 14)) okX10 (k := 17) (by decide) lkX10_50 hA5.1 rfl dX10_splitNow_93 ?_
        refine pw_iload_n dX10_splitNow_96 rfl ?_
        refine pw_iload dX10_splitNow_97 rfl ?_
        refine pw_iast (g := (va_up (s.2 17) (0 : Int).toNat (1))) (t := 0) rfl (mF17 (s := (mA 17 (va_up (s.2 17) (0 : Int).toNat (1)) (mA 4 (va_up (va_up (s.2 4) (1 : Int).toNat (0)) (2 : Int).toNat (1)) (mA 4 (va_up (s.2 4) (1 : Int).toNat (0)) (mA 3 (va_up (va_up (s.2 3) (1 : Int).toNat 1) (2 : Int).toNat 1) (mA 3 (va_up (s.2 3) (1 : Int).toNat 1) s)))))) hA5) (by omega) (by decide) dX10_splitNow_99 ?_
        have hA6 : mAt B (mA 17 (va_up (va_up (s.2 17) (0 : Int).toNat (1)) (1 : Int).toNat (2)) (mA 17 (va_up (s.2 17) (0 : Int).toNat (1)) (mA 4 (va_up (va_up (s.2 4) (1 : Int).toNat (0)) (2 : Int).toNat (1)) (mA 4 (va_up (s.2 4) (1 : Int).toNat (0)) (mA 3 (va_up (va_up (s.2 3) (1 : Int).toNat 1) (2 : Int).toNat 1) (mA 3 (va_up (s.2 3) (1 : Int).toNat 1) s)))))) (va_up h5 (B + 14) (pz_z 0 8 (va_up (va_up (s.2 17) (0 : Int).toNat (1)) (1 : Int).toNat (2)))) := mU17 hA5
        have hF6 : mFr B h (va_up h5 (B + 14) (pz_z 0 8 (va_up (va_up (s.2 17) (0 : Int).toNat (1)) (1 : Int).toNat (2)))) := mFr_tr hF5 (mFr_up (by decide))
        revert hA6 hF6
        generalize (va_up h5 (B + 14) (pz_z 0 8 (va_up (va_up (s.2 17) (0 : Int).toNat (1)) (1 : Int).toNat (2)))) = h6
        intro hA6 hF6
        refine pw_aload_n dX10_splitNow_100 rfl ?_
        refine pw_get (v := .ref (B + 2)) okX10 (k := 4) (by decide) lkX10_13 hA6.1 rfl dX10_splitNow_101 ?_
        refine pw_iload dX10_splitNow_104 rfl ?_
        refine pw_iconst (v := zI (-1)) dX10_splitNow_106 (by decide) ?_
        refine pw_iast (g := (va_up (va_up (s.2 4) (1 : Int).toNat (0)) (2 : Int).toNat (1))) (t := 0) rfl (mF4 (s := (mA 17 (va_up (va_up (s.2 17) (0 : Int).toNat (1)) (1 : Int).toNat (2)) (mA 17 (va_up (s.2 17) (0 : Int).toNat (1)) (mA 4 (va_up (va_up (s.2 4) (1 : Int).toNat (0)) (2 : Int).toNat (1)) (mA 4 (va_up (s.2 4) (1 : Int).toNat (0)) (mA 3 (va_up (va_up (s.2 3) (1 : Int).toNat 1) (2 : Int).toNat 1) (mA 3 (va_up (s.2 3) (1 : Int).toNat 1) s))))))) hA6) (by omega) (by decide) dX10_splitNow_107 ?_
        have hA7 : mAt B (mA 4 (va_up (va_up (va_up (s.2 4) (1 : Int).toNat (0)) (2 : Int).toNat (1)) (0 : Int).toNat (-1)) (mA 17 (va_up (va_up (s.2 17) (0 : Int).toNat (1)) (1 : Int).toNat (2)) (mA 17 (va_up (s.2 17) (0 : Int).toNat (1)) (mA 4 (va_up (va_up (s.2 4) (1 : Int).toNat (0)) (2 : Int).toNat (1)) (mA 4 (va_up (s.2 4) (1 : Int).toNat (0)) (mA 3 (va_up (va_up (s.2 3) (1 : Int).toNat 1) (2 : Int).toNat 1) (mA 3 (va_up (s.2 3) (1 : Int).toNat 1) s))))))) (va_up h6 (B + 2) (pz_z 0 16 (va_up (va_up (va_up (s.2 4) (1 : Int).toNat (0)) (2 : Int).toNat (1)) (0 : Int).toNat (-1)))) := mU4 hA6
        have hF7 : mFr B h (va_up h6 (B + 2) (pz_z 0 16 (va_up (va_up (va_up (s.2 4) (1 : Int).toNat (0)) (2 : Int).toNat (1)) (0 : Int).toNat (-1)))) := mFr_tr hF6 (mFr_up (by decide))
        revert hA7 hF7
        generalize (va_up h6 (B + 2) (pz_z 0 16 (va_up (va_up (va_up (s.2 4) (1 : Int).toNat (0)) (2 : Int).toNat (1)) (0 : Int).toNat (-1)))) = h7
        intro hA7 hF7
        refine pw_aload_n dX10_splitNow_108 rfl ?_
        refine pw_get (v := .ref (B + 3)) okX10 (k := 5) (by decide) lkX10_17 hA7.1 rfl dX10_splitNow_109 ?_
        refine pw_iload dX10_splitNow_112 rfl ?_
        refine pw_iload dX10_splitNow_114 rfl ?_
        refine pw_iast (g := (s.2 5)) (t := 0) rfl (mF5 (s := (mA 4 (va_up (va_up (va_up (s.2 4) (1 : Int).toNat (0)) (2 : Int).toNat (1)) (0 : Int).toNat (-1)) (mA 17 (va_up (va_up (s.2 17) (0 : Int).toNat (1)) (1 : Int).toNat (2)) (mA 17 (va_up (s.2 17) (0 : Int).toNat (1)) (mA 4 (va_up (va_up (s.2 4) (1 : Int).toNat (0)) (2 : Int).toNat (1)) (mA 4 (va_up (s.2 4) (1 : Int).toNat (0)) (mA 3 (va_up (va_up (s.2 3) (1 : Int).toNat 1) (2 : Int).toNat 1) (mA 3 (va_up (s.2 3) (1 : Int).toNat 1) s)))))))) hA7) (by omega) (by decide) dX10_splitNow_116 ?_
        have hA8 : mAt B (mA 5 (va_up (s.2 5) (0 : Int).toNat (1)) (mA 4 (va_up (va_up (va_up (s.2 4) (1 : Int).toNat (0)) (2 : Int).toNat (1)) (0 : Int).toNat (-1)) (mA 17 (va_up (va_up (s.2 17) (0 : Int).toNat (1)) (1 : Int).toNat (2)) (mA 17 (va_up (s.2 17) (0 : Int).toNat (1)) (mA 4 (va_up (va_up (s.2 4) (1 : Int).toNat (0)) (2 : Int).toNat (1)) (mA 4 (va_up (s.2 4) (1 : Int).toNat (0)) (mA 3 (va_up (va_up (s.2 3) (1 : Int).toNat 1) (2 : Int).toNat 1) (mA 3 (va_up (s.2 3) (1 : Int).toNat 1) s)))))))) (va_up h7 (B + 3) (pz_z 0 16 (va_up (s.2 5) (0 : Int).toNat (1)))) := mU5 hA7
        have hF8 : mFr B h (va_up h7 (B + 3) (pz_z 0 16 (va_up (s.2 5) (0 : Int).toNat (1)))) := mFr_tr hF7 (mFr_up (by decide))
        revert hA8 hF8
        generalize (va_up h7 (B + 3) (pz_z 0 16 (va_up (s.2 5) (0 : Int).toNat (1)))) = h8
        intro hA8 hF8
        refine pw_aload_n dX10_splitNow_117 rfl ?_
        refine pw_get (v := .ref (B + 4)) okX10 (k := 6) (by decide) lkX10_20 hA8.1 rfl dX10_splitNow_118 ?_
        refine pw_iload dX10_splitNow_121 rfl ?_
        refine pw_iload dX10_splitNow_123 rfl ?_
        refine pw_iast (g := (s.2 6)) (t := 0) rfl (mF6 (s := (mA 5 (va_up (s.2 5) (0 : Int).toNat (1)) (mA 4 (va_up (va_up (va_up (s.2 4) (1 : Int).toNat (0)) (2 : Int).toNat (1)) (0 : Int).toNat (-1)) (mA 17 (va_up (va_up (s.2 17) (0 : Int).toNat (1)) (1 : Int).toNat (2)) (mA 17 (va_up (s.2 17) (0 : Int).toNat (1)) (mA 4 (va_up (va_up (s.2 4) (1 : Int).toNat (0)) (2 : Int).toNat (1)) (mA 4 (va_up (s.2 4) (1 : Int).toNat (0)) (mA 3 (va_up (va_up (s.2 3) (1 : Int).toNat 1) (2 : Int).toNat 1) (mA 3 (va_up (s.2 3) (1 : Int).toNat 1) s))))))))) hA8) (by omega) (by decide) dX10_splitNow_125 ?_
        have hA9 : mAt B (mA 6 (va_up (s.2 6) (0 : Int).toNat (2)) (mA 5 (va_up (s.2 5) (0 : Int).toNat (1)) (mA 4 (va_up (va_up (va_up (s.2 4) (1 : Int).toNat (0)) (2 : Int).toNat (1)) (0 : Int).toNat (-1)) (mA 17 (va_up (va_up (s.2 17) (0 : Int).toNat (1)) (1 : Int).toNat (2)) (mA 17 (va_up (s.2 17) (0 : Int).toNat (1)) (mA 4 (va_up (va_up (s.2 4) (1 : Int).toNat (0)) (2 : Int).toNat (1)) (mA 4 (va_up (s.2 4) (1 : Int).toNat (0)) (mA 3 (va_up (va_up (s.2 3) (1 : Int).toNat 1) (2 : Int).toNat 1) (mA 3 (va_up (s.2 3) (1 : Int).toNat 1) s))))))))) (va_up h8 (B + 4) (pz_z 0 16 (va_up (s.2 6) (0 : Int).toNat (2)))) := mU6 hA8
        have hF9 : mFr B h (va_up h8 (B + 4) (pz_z 0 16 (va_up (s.2 6) (0 : Int).toNat (2)))) := mFr_tr hF8 (mFr_up (by decide))
        revert hA9 hF9
        generalize (va_up h8 (B + 4) (pz_z 0 16 (va_up (s.2 6) (0 : Int).toNat (2)))) = h9
        intro hA9 hF9
        refine pw_aload_n dX10_splitNow_126 rfl ?_
        refine pw_get (v := .ref (B + 6)) okX10 (k := 8) (by decide) lkX10_26 hA9.1 rfl dX10_splitNow_127 ?_
        refine pw_iload dX10_splitNow_130 rfl ?_
        refine pw_iload_n dX10_splitNow_132 rfl ?_
        refine pw_zast (g := (s.2 8)) (t := 1) rfl (mF8 (s := (mA 6 (va_up (s.2 6) (0 : Int).toNat (2)) (mA 5 (va_up (s.2 5) (0 : Int).toNat (1)) (mA 4 (va_up (va_up (va_up (s.2 4) (1 : Int).toNat (0)) (2 : Int).toNat (1)) (0 : Int).toNat (-1)) (mA 17 (va_up (va_up (s.2 17) (0 : Int).toNat (1)) (1 : Int).toNat (2)) (mA 17 (va_up (s.2 17) (0 : Int).toNat (1)) (mA 4 (va_up (va_up (s.2 4) (1 : Int).toNat (0)) (2 : Int).toNat (1)) (mA 4 (va_up (s.2 4) (1 : Int).toNat (0)) (mA 3 (va_up (va_up (s.2 3) (1 : Int).toNat 1) (2 : Int).toNat 1) (mA 3 (va_up (s.2 3) (1 : Int).toNat 1) s)))))))))) hA9) (by omega) (by decide) (by omega) dX10_splitNow_133 ?_
        have hA10 : mAt B (mA 8 (va_up (s.2 8) (0 : Int).toNat (0)) (mA 6 (va_up (s.2 6) (0 : Int).toNat (2)) (mA 5 (va_up (s.2 5) (0 : Int).toNat (1)) (mA 4 (va_up (va_up (va_up (s.2 4) (1 : Int).toNat (0)) (2 : Int).toNat (1)) (0 : Int).toNat (-1)) (mA 17 (va_up (va_up (s.2 17) (0 : Int).toNat (1)) (1 : Int).toNat (2)) (mA 17 (va_up (s.2 17) (0 : Int).toNat (1)) (mA 4 (va_up (va_up (s.2 4) (1 : Int).toNat (0)) (2 : Int).toNat (1)) (mA 4 (va_up (s.2 4) (1 : Int).toNat (0)) (mA 3 (va_up (va_up (s.2 3) (1 : Int).toNat 1) (2 : Int).toNat 1) (mA 3 (va_up (s.2 3) (1 : Int).toNat 1) s)))))))))) (va_up h9 (B + 6) (pz_z 1 16 (va_up (s.2 8) (0 : Int).toNat (0)))) := mU8 hA9
        have hF10 : mFr B h (va_up h9 (B + 6) (pz_z 1 16 (va_up (s.2 8) (0 : Int).toNat (0)))) := mFr_tr hF9 (mFr_up (by decide))
        revert hA10 hF10
        generalize (va_up h9 (B + 6) (pz_z 1 16 (va_up (s.2 8) (0 : Int).toNat (0)))) = h10
        intro hA10 hF10
        refine pw_aload_n dX10_splitNow_134 rfl ?_
        refine pw_get (v := .ref (B + 7)) okX10 (k := 9) (by decide) lkX10_29 hA10.1 rfl dX10_splitNow_135 ?_
        refine pw_iload dX10_splitNow_138 rfl ?_
        refine pw_iload dX10_splitNow_140 rfl ?_
        refine pw_iast (g := (s.2 9)) (t := 0) rfl (mF9 (s := (mA 8 (va_up (s.2 8) (0 : Int).toNat (0)) (mA 6 (va_up (s.2 6) (0 : Int).toNat (2)) (mA 5 (va_up (s.2 5) (0 : Int).toNat (1)) (mA 4 (va_up (va_up (va_up (s.2 4) (1 : Int).toNat (0)) (2 : Int).toNat (1)) (0 : Int).toNat (-1)) (mA 17 (va_up (va_up (s.2 17) (0 : Int).toNat (1)) (1 : Int).toNat (2)) (mA 17 (va_up (s.2 17) (0 : Int).toNat (1)) (mA 4 (va_up (va_up (s.2 4) (1 : Int).toNat (0)) (2 : Int).toNat (1)) (mA 4 (va_up (s.2 4) (1 : Int).toNat (0)) (mA 3 (va_up (va_up (s.2 3) (1 : Int).toNat 1) (2 : Int).toNat 1) (mA 3 (va_up (s.2 3) (1 : Int).toNat 1) s))))))))))) hA10) (by omega) (by decide) dX10_splitNow_142 ?_
        have hA11 : mAt B (mA 9 (va_up (s.2 9) (0 : Int).toNat ((w - 1) / (2))) (mA 8 (va_up (s.2 8) (0 : Int).toNat (0)) (mA 6 (va_up (s.2 6) (0 : Int).toNat (2)) (mA 5 (va_up (s.2 5) (0 : Int).toNat (1)) (mA 4 (va_up (va_up (va_up (s.2 4) (1 : Int).toNat (0)) (2 : Int).toNat (1)) (0 : Int).toNat (-1)) (mA 17 (va_up (va_up (s.2 17) (0 : Int).toNat (1)) (1 : Int).toNat (2)) (mA 17 (va_up (s.2 17) (0 : Int).toNat (1)) (mA 4 (va_up (va_up (s.2 4) (1 : Int).toNat (0)) (2 : Int).toNat (1)) (mA 4 (va_up (s.2 4) (1 : Int).toNat (0)) (mA 3 (va_up (va_up (s.2 3) (1 : Int).toNat 1) (2 : Int).toNat 1) (mA 3 (va_up (s.2 3) (1 : Int).toNat 1) s))))))))))) (va_up h10 (B + 7) (pz_z 0 16 (va_up (s.2 9) (0 : Int).toNat ((w - 1) / (2))))) := mU9 hA10
        have hF11 : mFr B h (va_up h10 (B + 7) (pz_z 0 16 (va_up (s.2 9) (0 : Int).toNat ((w - 1) / (2))))) := mFr_tr hF10 (mFr_up (by decide))
        revert hA11 hF11
        generalize (va_up h10 (B + 7) (pz_z 0 16 (va_up (s.2 9) (0 : Int).toNat ((w - 1) / (2))))) = h11
        intro hA11 hF11
        refine pw_aload_n dX10_splitNow_143 rfl ?_
        refine pw_get (v := .ref (B + 5)) okX10 (k := 7) (by decide) lkX10_23 hA11.1 rfl dX10_splitNow_144 ?_
        refine pw_iload dX10_splitNow_147 rfl ?_
        refine pw_iload dX10_splitNow_149 rfl ?_
        refine pw_iast (g := (s.2 7)) (t := 0) rfl (mF7 (s := (mA 9 (va_up (s.2 9) (0 : Int).toNat ((w - 1) / (2))) (mA 8 (va_up (s.2 8) (0 : Int).toNat (0)) (mA 6 (va_up (s.2 6) (0 : Int).toNat (2)) (mA 5 (va_up (s.2 5) (0 : Int).toNat (1)) (mA 4 (va_up (va_up (va_up (s.2 4) (1 : Int).toNat (0)) (2 : Int).toNat (1)) (0 : Int).toNat (-1)) (mA 17 (va_up (va_up (s.2 17) (0 : Int).toNat (1)) (1 : Int).toNat (2)) (mA 17 (va_up (s.2 17) (0 : Int).toNat (1)) (mA 4 (va_up (va_up (s.2 4) (1 : Int).toNat (0)) (2 : Int).toNat (1)) (mA 4 (va_up (s.2 4) (1 : Int).toNat (0)) (mA 3 (va_up (va_up (s.2 3) (1 : Int).toNat 1) (2 : Int).toNat 1) (mA 3 (va_up (s.2 3) (1 : Int).toNat 1) s)))))))))))) hA11) (by omega) (by decide) dX10_splitNow_151 ?_
        have hA12 : mAt B (mA 7 (va_up (s.2 7) (1 : Int).toNat (0)) (mA 9 (va_up (s.2 9) (0 : Int).toNat ((w - 1) / (2))) (mA 8 (va_up (s.2 8) (0 : Int).toNat (0)) (mA 6 (va_up (s.2 6) (0 : Int).toNat (2)) (mA 5 (va_up (s.2 5) (0 : Int).toNat (1)) (mA 4 (va_up (va_up (va_up (s.2 4) (1 : Int).toNat (0)) (2 : Int).toNat (1)) (0 : Int).toNat (-1)) (mA 17 (va_up (va_up (s.2 17) (0 : Int).toNat (1)) (1 : Int).toNat (2)) (mA 17 (va_up (s.2 17) (0 : Int).toNat (1)) (mA 4 (va_up (va_up (s.2 4) (1 : Int).toNat (0)) (2 : Int).toNat (1)) (mA 4 (va_up (s.2 4) (1 : Int).toNat (0)) (mA 3 (va_up (va_up (s.2 3) (1 : Int).toNat 1) (2 : Int).toNat 1) (mA 3 (va_up (s.2 3) (1 : Int).toNat 1) s)))))))))))) (va_up h11 (B + 5) (pz_z 0 16 (va_up (s.2 7) (1 : Int).toNat (0)))) := mU7 hA11
        have hF12 : mFr B h (va_up h11 (B + 5) (pz_z 0 16 (va_up (s.2 7) (1 : Int).toNat (0)))) := mFr_tr hF11 (mFr_up (by decide))
        revert hA12 hF12
        generalize (va_up h11 (B + 5) (pz_z 0 16 (va_up (s.2 7) (1 : Int).toNat (0)))) = h12
        intro hA12 hF12
        refine pw_aload_n dX10_splitNow_152 rfl ?_
        refine pw_get (v := .ref (B + 5)) okX10 (k := 7) (by decide) lkX10_23 hA12.1 rfl dX10_splitNow_153 ?_
        refine pw_iload dX10_splitNow_156 rfl ?_
        refine pw_iload dX10_splitNow_158 rfl ?_
        refine pw_iast (g := (va_up (s.2 7) (1 : Int).toNat (0))) (t := 0) rfl (mF7 (s := (mA 7 (va_up (s.2 7) (1 : Int).toNat (0)) (mA 9 (va_up (s.2 9) (0 : Int).toNat ((w - 1) / (2))) (mA 8 (va_up (s.2 8) (0 : Int).toNat (0)) (mA 6 (va_up (s.2 6) (0 : Int).toNat (2)) (mA 5 (va_up (s.2 5) (0 : Int).toNat (1)) (mA 4 (va_up (va_up (va_up (s.2 4) (1 : Int).toNat (0)) (2 : Int).toNat (1)) (0 : Int).toNat (-1)) (mA 17 (va_up (va_up (s.2 17) (0 : Int).toNat (1)) (1 : Int).toNat (2)) (mA 17 (va_up (s.2 17) (0 : Int).toNat (1)) (mA 4 (va_up (va_up (s.2 4) (1 : Int).toNat (0)) (2 : Int).toNat (1)) (mA 4 (va_up (s.2 4) (1 : Int).toNat (0)) (mA 3 (va_up (va_up (s.2 3) (1 : Int).toNat 1) (2 : Int).toNat 1) (mA 3 (va_up (s.2 3) (1 : Int).toNat 1) s))))))))))))) hA12) (by omega) (by decide) dX10_splitNow_160 ?_
        have hA13 : mAt B (mA 7 (va_up (va_up (s.2 7) (1 : Int).toNat (0)) (2 : Int).toNat (0)) (mA 7 (va_up (s.2 7) (1 : Int).toNat (0)) (mA 9 (va_up (s.2 9) (0 : Int).toNat ((w - 1) / (2))) (mA 8 (va_up (s.2 8) (0 : Int).toNat (0)) (mA 6 (va_up (s.2 6) (0 : Int).toNat (2)) (mA 5 (va_up (s.2 5) (0 : Int).toNat (1)) (mA 4 (va_up (va_up (va_up (s.2 4) (1 : Int).toNat (0)) (2 : Int).toNat (1)) (0 : Int).toNat (-1)) (mA 17 (va_up (va_up (s.2 17) (0 : Int).toNat (1)) (1 : Int).toNat (2)) (mA 17 (va_up (s.2 17) (0 : Int).toNat (1)) (mA 4 (va_up (va_up (s.2 4) (1 : Int).toNat (0)) (2 : Int).toNat (1)) (mA 4 (va_up (s.2 4) (1 : Int).toNat (0)) (mA 3 (va_up (va_up (s.2 3) (1 : Int).toNat 1) (2 : Int).toNat 1) (mA 3 (va_up (s.2 3) (1 : Int).toNat 1) s))))))))))))) (va_up h12 (B + 5) (pz_z 0 16 (va_up (va_up (s.2 7) (1 : Int).toNat (0)) (2 : Int).toNat (0)))) := mU7 hA12
        have hF13 : mFr B h (va_up h12 (B + 5) (pz_z 0 16 (va_up (va_up (s.2 7) (1 : Int).toNat (0)) (2 : Int).toNat (0)))) := mFr_tr hF12 (mFr_up (by decide))
        revert hA13 hF13
        generalize (va_up h12 (B + 5) (pz_z 0 16 (va_up (va_up (s.2 7) (1 : Int).toNat (0)) (2 : Int).toNat (0)))) = h13
        intro hA13 hF13
        refine pw_aload_n dX10_splitNow_161 rfl ?_
        refine pw_get (v := .ref (B + 13)) okX10 (k := 16) (by decide) lkX10_47 hA13.1 rfl dX10_splitNow_162 ?_
        refine pw_iload_n dX10_splitNow_165 rfl ?_
        refine pw_iconst (v := zI (1)) dX10_splitNow_166 (by decide) ?_
        refine pw_zast (g := (s.2 16)) (t := 1) rfl (mF16 (s := (mA 7 (va_up (va_up (s.2 7) (1 : Int).toNat (0)) (2 : Int).toNat (0)) (mA 7 (va_up (s.2 7) (1 : Int).toNat (0)) (mA 9 (va_up (s.2 9) (0 : Int).toNat ((w - 1) / (2))) (mA 8 (va_up (s.2 8) (0 : Int).toNat (0)) (mA 6 (va_up (s.2 6) (0 : Int).toNat (2)) (mA 5 (va_up (s.2 5) (0 : Int).toNat (1)) (mA 4 (va_up (va_up (va_up (s.2 4) (1 : Int).toNat (0)) (2 : Int).toNat (1)) (0 : Int).toNat (-1)) (mA 17 (va_up (va_up (s.2 17) (0 : Int).toNat (1)) (1 : Int).toNat (2)) (mA 17 (va_up (s.2 17) (0 : Int).toNat (1)) (mA 4 (va_up (va_up (s.2 4) (1 : Int).toNat (0)) (2 : Int).toNat (1)) (mA 4 (va_up (s.2 4) (1 : Int).toNat (0)) (mA 3 (va_up (va_up (s.2 3) (1 : Int).toNat 1) (2 : Int).toNat 1) (mA 3 (va_up (s.2 3) (1 : Int).toNat 1) s)))))))))))))) hA13) (by omega) (by decide) (by omega) dX10_splitNow_167 ?_
        have hA14 : mAt B (mA 16 (va_up (s.2 16) (1 : Int).toNat (1)) (mA 7 (va_up (va_up (s.2 7) (1 : Int).toNat (0)) (2 : Int).toNat (0)) (mA 7 (va_up (s.2 7) (1 : Int).toNat (0)) (mA 9 (va_up (s.2 9) (0 : Int).toNat ((w - 1) / (2))) (mA 8 (va_up (s.2 8) (0 : Int).toNat (0)) (mA 6 (va_up (s.2 6) (0 : Int).toNat (2)) (mA 5 (va_up (s.2 5) (0 : Int).toNat (1)) (mA 4 (va_up (va_up (va_up (s.2 4) (1 : Int).toNat (0)) (2 : Int).toNat (1)) (0 : Int).toNat (-1)) (mA 17 (va_up (va_up (s.2 17) (0 : Int).toNat (1)) (1 : Int).toNat (2)) (mA 17 (va_up (s.2 17) (0 : Int).toNat (1)) (mA 4 (va_up (va_up (s.2 4) (1 : Int).toNat (0)) (2 : Int).toNat (1)) (mA 4 (va_up (s.2 4) (1 : Int).toNat (0)) (mA 3 (va_up (va_up (s.2 3) (1 : Int).toNat 1) (2 : Int).toNat 1) (mA 3 (va_up (s.2 3) (1 : Int).toNat 1) s)))))))))))))) (va_up h13 (B + 13) (pz_z 1 8 (va_up (s.2 16) (1 : Int).toNat (1)))) := mU16 hA13
        have hF14 : mFr B h (va_up h13 (B + 13) (pz_z 1 8 (va_up (s.2 16) (1 : Int).toNat (1)))) := mFr_tr hF13 (mFr_up (by decide))
        revert hA14 hF14
        generalize (va_up h13 (B + 13) (pz_z 1 8 (va_up (s.2 16) (1 : Int).toNat (1)))) = h14
        intro hA14 hF14
        refine pw_aload_n dX10_splitNow_168 rfl ?_
        refine pw_iload_n dX10_splitNow_169 rfl ?_
        refine pw_iload_n dX10_splitNow_170 rfl ?_
        refine pw_if_eq (tgt := 184) dX10_splitNow_171 rfl (by omega) (fun c171 => ?_) (fun c171 => ?_)
        ·
          refine pw_iload dX10_splitNow_184 rfl ?_
          refine pw_iconst (v := zI (1)) dX10_splitNow_186 (by decide) ?_
          refine pw_zisub dX10_splitNow_187 ?_
          refine pw_iload dX10_splitNow_188 rfl ?_
          refine pw_zisub dX10_splitNow_190 ?_
          refine pw_iload_n dX10_splitNow_191 rfl ?_
          refine pw_if_eq (tgt := 205) dX10_splitNow_192 rfl (by omega) (fun c192 => ?_) (fun c192 => ?_)
          ·
            refine pw_aload_n dX10_splitNow_205 rfl ?_
            refine pw_get (v := .ref (B + 11)) okX10 (k := 13) (by decide) lkX10_41 hA14.1 rfl dX10_splitNow_206 ?_
            refine pw_iload dX10_splitNow_209 rfl ?_
            refine pw_ialdv (v := H) (t := 0) rfl (mF13 (s := (mA 16 (va_up (s.2 16) (1 : Int).toNat (1)) (mA 7 (va_up (va_up (s.2 7) (1 : Int).toNat (0)) (2 : Int).toNat (0)) (mA 7 (va_up (s.2 7) (1 : Int).toNat (0)) (mA 9 (va_up (s.2 9) (0 : Int).toNat ((w - 1) / (2))) (mA 8 (va_up (s.2 8) (0 : Int).toNat (0)) (mA 6 (va_up (s.2 6) (0 : Int).toNat (2)) (mA 5 (va_up (s.2 5) (0 : Int).toNat (1)) (mA 4 (va_up (va_up (va_up (s.2 4) (1 : Int).toNat (0)) (2 : Int).toNat (1)) (0 : Int).toNat (-1)) (mA 17 (va_up (va_up (s.2 17) (0 : Int).toNat (1)) (1 : Int).toNat (2)) (mA 17 (va_up (s.2 17) (0 : Int).toNat (1)) (mA 4 (va_up (va_up (s.2 4) (1 : Int).toNat (0)) (2 : Int).toNat (1)) (mA 4 (va_up (s.2 4) (1 : Int).toNat (0)) (mA 3 (va_up (va_up (s.2 3) (1 : Int).toNat 1) (2 : Int).toNat 1) (mA 3 (va_up (s.2 3) (1 : Int).toNat 1) s))))))))))))))) hA14) (by omega) (by decide) (show s.2 13 0 = H from mN_13 hn) dX10_splitNow_211 ?_
            refine pw_callV (As := [.int (zI (1)), .int (zI ((w - 1) - ((w - 1) / (2)))), .int (zI (H))]) (b := B) (rm := rmD 2 0 0) (nR_begin (p := 1) htr hA14 (by omega) (show mPu s 1 from ⟨⟨by rw [zz22]; omega, by rw [zz22]; omega⟩, ⟨by rw [zz31]; omega, by rw [zz31]; omega⟩, ⟨by rw [zz32]; omega, by rw [zz32]; omega⟩, ⟨by rw [zz33]; omega, by rw [zz33]; omega⟩, ⟨by rw [zz34]; omega, by rw [zz34]; omega⟩, ⟨by rw [zz35]; omega, by rw [zz35]; omega⟩, (fun j hj => by rw [mZ_36 hn (by omega)]; omega), ⟨by rw [zz37]; omega, by rw [zz37]; omega⟩, ⟨by rw [zz38]; omega, by rw [zz38]; omega⟩, ⟨by rw [zz39]; omega, by rw [zz39]; omega⟩, ⟨by rw [zz42]; omega, by rw [zz42]; omega⟩⟩) (by omega) (by omega)) rfl hA14.1 rfl rfl ywX10_begin rfl cwX10_169 ⟨nle rfl, nle rfl⟩ (nle rfl) ⟨nle rfl, nle rfl⟩ dX10_splitNow_212 ?_ (fun _ _ _ z => z.elim)
            intro r_9 h15 n_9 hq _
            obtain ⟨e1, g15, hA15, hRo15, hRg15, hF150, e4⟩ := hq
            rw [e1, e4]
            show pw E YX10_splitNow _ _ 0 0 215 [some (.ref B), some (.int (zI (0))), some (.int (zI (0))), some (.int (zI (1))), some (.int (zI (0))), some (.int (zI (1))), some (.int (zI (2))), some (.int (zI (w))), some (.int (zI ((w - 1) / (2))))] [] h15 n
            have hF15 := mFr_tr hF14 hF150
            have rg0_15 : mRg (mG (mA 16 (va_up (s.2 16) (1 : Int).toNat (1)) (mA 7 (va_up (va_up (s.2 7) (1 : Int).toNat (0)) (2 : Int).toNat (0)) (mA 7 (va_up (s.2 7) (1 : Int).toNat (0)) (mA 9 (va_up (s.2 9) (0 : Int).toNat ((w - 1) / (2))) (mA 8 (va_up (s.2 8) (0 : Int).toNat (0)) (mA 6 (va_up (s.2 6) (0 : Int).toNat (2)) (mA 5 (va_up (s.2 5) (0 : Int).toNat (1)) (mA 4 (va_up (va_up (va_up (s.2 4) (1 : Int).toNat (0)) (2 : Int).toNat (1)) (0 : Int).toNat (-1)) (mA 17 (va_up (va_up (s.2 17) (0 : Int).toNat (1)) (1 : Int).toNat (2)) (mA 17 (va_up (s.2 17) (0 : Int).toNat (1)) (mA 4 (va_up (va_up (s.2 4) (1 : Int).toNat (0)) (2 : Int).toNat (1)) (mA 4 (va_up (s.2 4) (1 : Int).toNat (0)) (mA 3 (va_up (va_up (s.2 3) (1 : Int).toNat 1) (2 : Int).toNat 1) (mA 3 (va_up (s.2 3) (1 : Int).toNat 1) s)))))))))))))) g15) 0 := mRg_o rg0 hRo15 (by decide)
            refine pw_aload_n dX10_splitNow_215 rfl ?_
            refine pw_iload dX10_splitNow_216 rfl ?_
            refine pw_aload_n dX10_splitNow_218 rfl ?_
            refine pw_get (v := .ref (B + 8)) okX10 (k := 10) (by decide) lkX10_32 hA15.1 rfl dX10_splitNow_219 ?_
            refine pw_iload dX10_splitNow_222 rfl ?_
            refine pw_ialdv (v := 0) (t := 0) rfl (mF10 (s := (mG (mA 16 (va_up (s.2 16) (1 : Int).toNat (1)) (mA 7 (va_up (va_up (s.2 7) (1 : Int).toNat (0)) (2 : Int).toNat (0)) (mA 7 (va_up (s.2 7) (1 : Int).toNat (0)) (mA 9 (va_up (s.2 9) (0 : Int).toNat ((w - 1) / (2))) (mA 8 (va_up (s.2 8) (0 : Int).toNat (0)) (mA 6 (va_up (s.2 6) (0 : Int).toNat (2)) (mA 5 (va_up (s.2 5) (0 : Int).toNat (1)) (mA 4 (va_up (va_up (va_up (s.2 4) (1 : Int).toNat (0)) (2 : Int).toNat (1)) (0 : Int).toNat (-1)) (mA 17 (va_up (va_up (s.2 17) (0 : Int).toNat (1)) (1 : Int).toNat (2)) (mA 17 (va_up (s.2 17) (0 : Int).toNat (1)) (mA 4 (va_up (va_up (s.2 4) (1 : Int).toNat (0)) (2 : Int).toNat (1)) (mA 4 (va_up (s.2 4) (1 : Int).toNat (0)) (mA 3 (va_up (va_up (s.2 3) (1 : Int).toNat 1) (2 : Int).toNat 1) (mA 3 (va_up (s.2 3) (1 : Int).toNat 1) s)))))))))))))) g15)) hA15) (by omega) (by decide) (show s.2 10 0 = 0 from mN_10 hn) dX10_splitNow_224 ?_
            refine pw_aload_n dX10_splitNow_225 rfl ?_
            refine pw_get (v := .ref (B + 9)) okX10 (k := 11) (by decide) lkX10_35 hA15.1 rfl dX10_splitNow_226 ?_
            refine pw_iload dX10_splitNow_229 rfl ?_
            refine pw_ialdv (v := 0) (t := 0) rfl (mF11 (s := (mG (mA 16 (va_up (s.2 16) (1 : Int).toNat (1)) (mA 7 (va_up (va_up (s.2 7) (1 : Int).toNat (0)) (2 : Int).toNat (0)) (mA 7 (va_up (s.2 7) (1 : Int).toNat (0)) (mA 9 (va_up (s.2 9) (0 : Int).toNat ((w - 1) / (2))) (mA 8 (va_up (s.2 8) (0 : Int).toNat (0)) (mA 6 (va_up (s.2 6) (0 : Int).toNat (2)) (mA 5 (va_up (s.2 5) (0 : Int).toNat (1)) (mA 4 (va_up (va_up (va_up (s.2 4) (1 : Int).toNat (0)) (2 : Int).toNat (1)) (0 : Int).toNat (-1)) (mA 17 (va_up (va_up (s.2 17) (0 : Int).toNat (1)) (1 : Int).toNat (2)) (mA 17 (va_up (s.2 17) (0 : Int).toNat (1)) (mA 4 (va_up (va_up (s.2 4) (1 : Int).toNat (0)) (2 : Int).toNat (1)) (mA 4 (va_up (s.2 4) (1 : Int).toNat (0)) (mA 3 (va_up (va_up (s.2 3) (1 : Int).toNat 1) (2 : Int).toNat 1) (mA 3 (va_up (s.2 3) (1 : Int).toNat 1) s)))))))))))))) g15)) hA15) (by omega) (by decide) (show s.2 11 0 = 0 from mN_11 hn) dX10_splitNow_231 ?_
            refine pw_aload_n dX10_splitNow_232 rfl ?_
            refine pw_get (v := .ref (B + 10)) okX10 (k := 12) (by decide) lkX10_38 hA15.1 rfl dX10_splitNow_233 ?_
            refine pw_iload dX10_splitNow_236 rfl ?_
            refine pw_ialdv (v := w) (t := 0) rfl (mF12 (s := (mG (mA 16 (va_up (s.2 16) (1 : Int).toNat (1)) (mA 7 (va_up (va_up (s.2 7) (1 : Int).toNat (0)) (2 : Int).toNat (0)) (mA 7 (va_up (s.2 7) (1 : Int).toNat (0)) (mA 9 (va_up (s.2 9) (0 : Int).toNat ((w - 1) / (2))) (mA 8 (va_up (s.2 8) (0 : Int).toNat (0)) (mA 6 (va_up (s.2 6) (0 : Int).toNat (2)) (mA 5 (va_up (s.2 5) (0 : Int).toNat (1)) (mA 4 (va_up (va_up (va_up (s.2 4) (1 : Int).toNat (0)) (2 : Int).toNat (1)) (0 : Int).toNat (-1)) (mA 17 (va_up (va_up (s.2 17) (0 : Int).toNat (1)) (1 : Int).toNat (2)) (mA 17 (va_up (s.2 17) (0 : Int).toNat (1)) (mA 4 (va_up (va_up (s.2 4) (1 : Int).toNat (0)) (2 : Int).toNat (1)) (mA 4 (va_up (s.2 4) (1 : Int).toNat (0)) (mA 3 (va_up (va_up (s.2 3) (1 : Int).toNat 1) (2 : Int).toNat 1) (mA 3 (va_up (s.2 3) (1 : Int).toNat 1) s)))))))))))))) g15)) hA15) (by omega) (by decide) (show s.2 12 0 = w from mN_12 hn) dX10_splitNow_238 ?_
            refine pw_aload_n dX10_splitNow_239 rfl ?_
            refine pw_get (v := .ref (B + 11)) okX10 (k := 13) (by decide) lkX10_41 hA15.1 rfl dX10_splitNow_240 ?_
            refine pw_iload dX10_splitNow_243 rfl ?_
            refine pw_ialdv (v := H) (t := 0) rfl (mF13 (s := (mG (mA 16 (va_up (s.2 16) (1 : Int).toNat (1)) (mA 7 (va_up (va_up (s.2 7) (1 : Int).toNat (0)) (2 : Int).toNat (0)) (mA 7 (va_up (s.2 7) (1 : Int).toNat (0)) (mA 9 (va_up (s.2 9) (0 : Int).toNat ((w - 1) / (2))) (mA 8 (va_up (s.2 8) (0 : Int).toNat (0)) (mA 6 (va_up (s.2 6) (0 : Int).toNat (2)) (mA 5 (va_up (s.2 5) (0 : Int).toNat (1)) (mA 4 (va_up (va_up (va_up (s.2 4) (1 : Int).toNat (0)) (2 : Int).toNat (1)) (0 : Int).toNat (-1)) (mA 17 (va_up (va_up (s.2 17) (0 : Int).toNat (1)) (1 : Int).toNat (2)) (mA 17 (va_up (s.2 17) (0 : Int).toNat (1)) (mA 4 (va_up (va_up (s.2 4) (1 : Int).toNat (0)) (2 : Int).toNat (1)) (mA 4 (va_up (s.2 4) (1 : Int).toNat (0)) (mA 3 (va_up (va_up (s.2 3) (1 : Int).toNat 1) (2 : Int).toNat 1) (mA 3 (va_up (s.2 3) (1 : Int).toNat 1) s)))))))))))))) g15)) hA15) (by omega) (by decide) (show s.2 13 0 = H from mN_13 hn) dX10_splitNow_245 ?_
            refine pw_callV (As := [.int (zI (0)), .int (zI (0)), .int (zI (0)), .int (zI (w)), .int (zI (H))]) (b := B) (rm := rmD 2 0 0) (nF_lay0 htr hA15 hw hH rfl rfl rfl rfl rfl rfl rfl (show s.2 12 0 = w from mN_12 hn) (show s.2 13 0 = H from mN_13 hn) rg0_15 hRg15) rfl hA15.1 rfl rfl ywX10_lay rfl cwX10_203 ⟨nle rfl, nle rfl⟩ (nle rfl) ⟨nle rfl, nle rfl⟩ dX10_splitNow_246 ?_ (fun _ _ _ z => z.elim)
            intro r_9 h16 n_9 hq _
            obtain ⟨e1, s16, hA16, hv16, hF160, e4⟩ := hq
            rw [e1, e4]
            show pw E YX10_splitNow _ _ 0 0 249 [some (.ref B), some (.int (zI (0))), some (.int (zI (0))), some (.int (zI (1))), some (.int (zI (0))), some (.int (zI (1))), some (.int (zI (2))), some (.int (zI (w))), some (.int (zI ((w - 1) / (2))))] [] h16 n
            have hF16 := mFr_tr hF15 hF160
            have hv0 : s16.1 0 = s.1 0 := by rw [hv16]; rfl
            refine pw_aload_n dX10_splitNow_249 rfl ?_
            refine pw_iload_n dX10_splitNow_250 rfl ?_
            refine pw_put (fs' := (moL B (va_up s16.1 47 (1)))) okX10 (k := 47) (by decide) lkX10_207 rfl rfl rfl hA16.1 (nlt rfl) rfl dX10_splitNow_251 ?_
            have hA17 : mAt B (mV 47 (1) s16) (va_up h16 B (pz_o 13 (moL B (va_up s16.1 47 (1))))) := mAt_V hA16
            have hF17 : mFr B h (va_up h16 B (pz_o 13 (moL B (va_up s16.1 47 (1))))) := mFr_tr hF16 (mFr_up (k := 0) (by decide))
            revert hA17 hF17
            generalize (va_up h16 B (pz_o 13 (moL B (va_up s16.1 47 (1))))) = h17
            intro hA17 hF17
            refine pw_iload_n dX10_splitNow_254 rfl ?_
            exact pw_iret dX10_splitNow_255 rfl (nle rfl) (nle rfl) ⟨rfl, (mV 47 (1) s16), hA17, hv0, hF17, rfl⟩
          · exfalso; omega
        · exfalso; omega
      · exfalso; omega
    · exfalso; omega
set_option maxHeartbeats 2000000 in
set_option maxRecDepth 100000 in
theorem lN_lay1 {E : pw_E} (htr : E.1.stackTraces = false) {Kk : pw_K} {h h1 : pz_H} {n B : Nat} {s s1 : mS} {a w H : Int} (hw : 8 ≤ w ∧ w ≤ 40) (hH : 4 ≤ H ∧ H ≤ 16) (e4_0 : s1.2 4 0 = -1) (e4_1 : s1.2 4 1 = 0) (e4_2 : s1.2 4 2 = 1) (e5_0 : s1.2 5 0 = 1) (e6_0 : s1.2 6 0 = 2) (e8_0 : s1.2 8 0 = 1) (e9_0 : s1.2 9 0 = (H - 1) / 2) (e12_0 : s1.2 12 0 = w) (e13_0 : s1.2 13 0 = H) (e10_0 : s1.2 10 0 = 0) (e11_0 : s1.2 11 0 = 0) (e15_0 : s1.2 15 0 = 0) (e59_0 : s1.2 59 0 = w) (e60_0 : s1.2 60 0 = H) (rg0 : mRg s1 0) (rg1 : mRg s1 1) (ha : 1 ≤ a ∧ a ≤ H - 2) (hA1 : mAt B s1 h1) (hF1 : mFr B h h1) (hv1 : s1.1 = s.1) (hQ : ∀ (s' : mS) (h' : pz_H), mAt B s' h' → s'.1 = s.1 → mFr B h h' → Kk.2.2.1 none h' n) : pw E YX10_lay (rmD 2 0 0) Kk 0 0 229 [some (.ref B), some (.int (zI (0))), some (.int (zI (0))), some (.int (zI (0))), some (.int (zI (w))), some (.int (zI (H))), some (.int (zI (0))), some (.int (zI (0))), some (.int (zI (H))), some (.int (zI (H))), some (.int (zI (((H - 1) * ((H - 1) / 2)) / (H - 1)))), none, none] [.int (zI a)] h1 n := by
  refine pw_istore (lv' := [some (.ref B), some (.int (zI (0))), some (.int (zI (0))), some (.int (zI (0))), some (.int (zI (w))), some (.int (zI (H))), some (.int (zI (0))), some (.int (zI (0))), some (.int (zI (H))), some (.int (zI (H))), some (.int (zI (a))), none, none]) dX10_lay_229 (by decide) rfl rfl ?_
  refine pw_aload_n dX10_lay_231 rfl ?_
  refine pw_get (v := .ref (B + 7)) okX10 (k := 9) (by decide) lkX10_29 hA1.1 rfl dX10_lay_232 ?_
  refine pw_iload dX10_lay_235 rfl ?_
  refine pw_iload dX10_lay_237 rfl ?_
  refine pw_iast (g := (s1.2 9)) (t := 0) rfl (mF9 (s := s1) hA1) (by omega) (by decide) dX10_lay_239 ?_
  have hA51 : mAt B (mA 9 (va_up (s1.2 9) (0 : Int).toNat (a)) s1) (va_up h1 (B + 7) (pz_z 0 16 (va_up (s1.2 9) (0 : Int).toNat (a)))) := mU9 hA1
  have hF51 : mFr B h (va_up h1 (B + 7) (pz_z 0 16 (va_up (s1.2 9) (0 : Int).toNat (a)))) := mFr_tr hF1 (mFr_up (by decide))
  have e4_1_51 : (mA 9 (va_up (s1.2 9) (0 : Int).toNat (a)) s1).2 4 1 = 0 := mA_1 (by decide) e4_1
  have e4_2_51 : (mA 9 (va_up (s1.2 9) (0 : Int).toNat (a)) s1).2 4 2 = 1 := mA_1 (by decide) e4_2
  have e5_0_51 : (mA 9 (va_up (s1.2 9) (0 : Int).toNat (a)) s1).2 5 0 = 1 := mA_1 (by decide) e5_0
  have e6_0_51 : (mA 9 (va_up (s1.2 9) (0 : Int).toNat (a)) s1).2 6 0 = 2 := mA_1 (by decide) e6_0
  have e8_0_51 : (mA 9 (va_up (s1.2 9) (0 : Int).toNat (a)) s1).2 8 0 = 1 := mA_1 (by decide) e8_0
  have e12_0_51 : (mA 9 (va_up (s1.2 9) (0 : Int).toNat (a)) s1).2 12 0 = w := mA_1 (by decide) e12_0
  have e13_0_51 : (mA 9 (va_up (s1.2 9) (0 : Int).toNat (a)) s1).2 13 0 = H := mA_1 (by decide) e13_0
  have e10_0_51 : (mA 9 (va_up (s1.2 9) (0 : Int).toNat (a)) s1).2 10 0 = 0 := mA_1 (by decide) e10_0
  have e11_0_51 : (mA 9 (va_up (s1.2 9) (0 : Int).toNat (a)) s1).2 11 0 = 0 := mA_1 (by decide) e11_0
  have e15_0_51 : (mA 9 (va_up (s1.2 9) (0 : Int).toNat (a)) s1).2 15 0 = 0 := mA_1 (by decide) e15_0
  have e59_0_51 : (mA 9 (va_up (s1.2 9) (0 : Int).toNat (a)) s1).2 59 0 = w := mA_1 (by decide) e59_0
  have e60_0_51 : (mA 9 (va_up (s1.2 9) (0 : Int).toNat (a)) s1).2 60 0 = H := mA_1 (by decide) e60_0
  have e9_0_51 : (mA 9 (va_up (s1.2 9) (0 : Int).toNat (a)) s1).2 9 0 = a := mA_3 (l := 0)
  have hv51 : (mA 9 (va_up (s1.2 9) (0 : Int).toNat (a)) s1).1 = s.1 := hv1
  have rg0_51 : mRg (mA 9 (va_up (s1.2 9) (0 : Int).toNat (a)) s1) 0 := mRg_A (by decide) rg0
  have rg1_51 : mRg (mA 9 (va_up (s1.2 9) (0 : Int).toNat (a)) s1) 1 := mRg_A (by decide) rg1
  revert hA51 hF51 e4_1_51 e4_2_51 e5_0_51 e6_0_51 e8_0_51 e12_0_51 e13_0_51 e10_0_51 e11_0_51 e15_0_51 e59_0_51 e60_0_51 e9_0_51 hv51 rg0_51 rg1_51
  generalize (mA 9 (va_up (s1.2 9) (0 : Int).toNat (a)) s1) = s51
  generalize (va_up h1 (B + 7) (pz_z 0 16 (va_up (s1.2 9) (0 : Int).toNat (a)))) = h51
  intro hA51 hF51 e4_1_51 e4_2_51 e5_0_51 e6_0_51 e8_0_51 e12_0_51 e13_0_51 e10_0_51 e11_0_51 e15_0_51 e59_0_51 e60_0_51 e9_0_51 hv51 rg0_51 rg1_51
  clear e4_0 e4_1 e4_2 e5_0 e6_0 e8_0 e9_0 e12_0 e13_0 e10_0 e11_0 e15_0 e59_0 e60_0 rg0 rg1 hv1 hF1 hA1
  refine pw_aload_n dX10_lay_240 rfl ?_
  refine pw_get (v := .ref (B + 10)) okX10 (k := 12) (by decide) lkX10_38 hA51.1 rfl dX10_lay_241 ?_
  refine pw_iload dX10_lay_244 rfl ?_
  refine pw_aload_n dX10_lay_246 rfl ?_
  refine pw_get (v := .ref (B + 48)) okX10 (k := 59) (by decide) lkX10_156 hA51.1 rfl dX10_lay_247 ?_
  refine pw_iload dX10_lay_250 rfl ?_
  refine pw_ialdv (v := w) (t := 0) rfl (mF59 (s := s51) hA51) (by omega) (by decide) (e59_0_51) dX10_lay_252 ?_
  refine pw_iast (g := (s51.2 12)) (t := 0) rfl (mF12 (s := s51) hA51) (by omega) (by decide) dX10_lay_253 ?_
  have hA52 : mAt B (mA 12 (va_up (s51.2 12) (0 : Int).toNat (w)) s51) (va_up h51 (B + 10) (pz_z 0 16 (va_up (s51.2 12) (0 : Int).toNat (w)))) := mU12 hA51
  have hF52 : mFr B h (va_up h51 (B + 10) (pz_z 0 16 (va_up (s51.2 12) (0 : Int).toNat (w)))) := mFr_tr hF51 (mFr_up (by decide))
  have e4_1_52 : (mA 12 (va_up (s51.2 12) (0 : Int).toNat (w)) s51).2 4 1 = 0 := mA_1 (by decide) e4_1_51
  have e4_2_52 : (mA 12 (va_up (s51.2 12) (0 : Int).toNat (w)) s51).2 4 2 = 1 := mA_1 (by decide) e4_2_51
  have e5_0_52 : (mA 12 (va_up (s51.2 12) (0 : Int).toNat (w)) s51).2 5 0 = 1 := mA_1 (by decide) e5_0_51
  have e6_0_52 : (mA 12 (va_up (s51.2 12) (0 : Int).toNat (w)) s51).2 6 0 = 2 := mA_1 (by decide) e6_0_51
  have e8_0_52 : (mA 12 (va_up (s51.2 12) (0 : Int).toNat (w)) s51).2 8 0 = 1 := mA_1 (by decide) e8_0_51
  have e13_0_52 : (mA 12 (va_up (s51.2 12) (0 : Int).toNat (w)) s51).2 13 0 = H := mA_1 (by decide) e13_0_51
  have e10_0_52 : (mA 12 (va_up (s51.2 12) (0 : Int).toNat (w)) s51).2 10 0 = 0 := mA_1 (by decide) e10_0_51
  have e11_0_52 : (mA 12 (va_up (s51.2 12) (0 : Int).toNat (w)) s51).2 11 0 = 0 := mA_1 (by decide) e11_0_51
  have e15_0_52 : (mA 12 (va_up (s51.2 12) (0 : Int).toNat (w)) s51).2 15 0 = 0 := mA_1 (by decide) e15_0_51
  have e59_0_52 : (mA 12 (va_up (s51.2 12) (0 : Int).toNat (w)) s51).2 59 0 = w := mA_1 (by decide) e59_0_51
  have e60_0_52 : (mA 12 (va_up (s51.2 12) (0 : Int).toNat (w)) s51).2 60 0 = H := mA_1 (by decide) e60_0_51
  have e12_0_52 : (mA 12 (va_up (s51.2 12) (0 : Int).toNat (w)) s51).2 12 0 = w := mA_3 (l := 0)
  have hv52 : (mA 12 (va_up (s51.2 12) (0 : Int).toNat (w)) s51).1 = s.1 := hv51
  have rg0_52 : mRg (mA 12 (va_up (s51.2 12) (0 : Int).toNat (w)) s51) 0 := mRg_A (by decide) rg0_51
  have rg1_52 : mRg (mA 12 (va_up (s51.2 12) (0 : Int).toNat (w)) s51) 1 := mRg_A (by decide) rg1_51
  revert hA52 hF52 e4_1_52 e4_2_52 e5_0_52 e6_0_52 e8_0_52 e13_0_52 e10_0_52 e11_0_52 e15_0_52 e59_0_52 e60_0_52 e12_0_52 hv52 rg0_52 rg1_52
  generalize (mA 12 (va_up (s51.2 12) (0 : Int).toNat (w)) s51) = s52
  generalize (va_up h51 (B + 10) (pz_z 0 16 (va_up (s51.2 12) (0 : Int).toNat (w)))) = h52
  intro hA52 hF52 e4_1_52 e4_2_52 e5_0_52 e6_0_52 e8_0_52 e13_0_52 e10_0_52 e11_0_52 e15_0_52 e59_0_52 e60_0_52 e12_0_52 hv52 rg0_52 rg1_52
  clear e4_1_51 e4_2_51 e5_0_51 e6_0_51 e8_0_51 e12_0_51 e13_0_51 e10_0_51 e11_0_51 e15_0_51 e59_0_51 e60_0_51 e9_0_51 rg0_51 rg1_51 hv51 hF51 hA51
  refine pw_aload_n dX10_lay_254 rfl ?_
  refine pw_get (v := .ref (B + 11)) okX10 (k := 13) (by decide) lkX10_41 hA52.1 rfl dX10_lay_255 ?_
  refine pw_iload dX10_lay_258 rfl ?_
  refine pw_aload_n dX10_lay_260 rfl ?_
  refine pw_get (v := .ref (B + 49)) okX10 (k := 60) (by decide) lkX10_159 hA52.1 rfl dX10_lay_261 ?_
  refine pw_iload dX10_lay_264 rfl ?_
  refine pw_ialdv (v := H) (t := 0) rfl (mF60 (s := s52) hA52) (by omega) (by decide) (e60_0_52) dX10_lay_266 ?_
  refine pw_iast (g := (s52.2 13)) (t := 0) rfl (mF13 (s := s52) hA52) (by omega) (by decide) dX10_lay_267 ?_
  have hA53 : mAt B (mA 13 (va_up (s52.2 13) (0 : Int).toNat (H)) s52) (va_up h52 (B + 11) (pz_z 0 16 (va_up (s52.2 13) (0 : Int).toNat (H)))) := mU13 hA52
  have hF53 : mFr B h (va_up h52 (B + 11) (pz_z 0 16 (va_up (s52.2 13) (0 : Int).toNat (H)))) := mFr_tr hF52 (mFr_up (by decide))
  have e4_1_53 : (mA 13 (va_up (s52.2 13) (0 : Int).toNat (H)) s52).2 4 1 = 0 := mA_1 (by decide) e4_1_52
  have e4_2_53 : (mA 13 (va_up (s52.2 13) (0 : Int).toNat (H)) s52).2 4 2 = 1 := mA_1 (by decide) e4_2_52
  have e5_0_53 : (mA 13 (va_up (s52.2 13) (0 : Int).toNat (H)) s52).2 5 0 = 1 := mA_1 (by decide) e5_0_52
  have e6_0_53 : (mA 13 (va_up (s52.2 13) (0 : Int).toNat (H)) s52).2 6 0 = 2 := mA_1 (by decide) e6_0_52
  have e8_0_53 : (mA 13 (va_up (s52.2 13) (0 : Int).toNat (H)) s52).2 8 0 = 1 := mA_1 (by decide) e8_0_52
  have e10_0_53 : (mA 13 (va_up (s52.2 13) (0 : Int).toNat (H)) s52).2 10 0 = 0 := mA_1 (by decide) e10_0_52
  have e11_0_53 : (mA 13 (va_up (s52.2 13) (0 : Int).toNat (H)) s52).2 11 0 = 0 := mA_1 (by decide) e11_0_52
  have e15_0_53 : (mA 13 (va_up (s52.2 13) (0 : Int).toNat (H)) s52).2 15 0 = 0 := mA_1 (by decide) e15_0_52
  have e59_0_53 : (mA 13 (va_up (s52.2 13) (0 : Int).toNat (H)) s52).2 59 0 = w := mA_1 (by decide) e59_0_52
  have e60_0_53 : (mA 13 (va_up (s52.2 13) (0 : Int).toNat (H)) s52).2 60 0 = H := mA_1 (by decide) e60_0_52
  have e12_0_53 : (mA 13 (va_up (s52.2 13) (0 : Int).toNat (H)) s52).2 12 0 = w := mA_1 (by decide) e12_0_52
  have e13_0_53 : (mA 13 (va_up (s52.2 13) (0 : Int).toNat (H)) s52).2 13 0 = H := mA_3 (l := 0)
  have hv53 : (mA 13 (va_up (s52.2 13) (0 : Int).toNat (H)) s52).1 = s.1 := hv52
  have rg0_53 : mRg (mA 13 (va_up (s52.2 13) (0 : Int).toNat (H)) s52) 0 := mRg_A (by decide) rg0_52
  have rg1_53 : mRg (mA 13 (va_up (s52.2 13) (0 : Int).toNat (H)) s52) 1 := mRg_A (by decide) rg1_52
  revert hA53 hF53 e4_1_53 e4_2_53 e5_0_53 e6_0_53 e8_0_53 e10_0_53 e11_0_53 e15_0_53 e59_0_53 e60_0_53 e12_0_53 e13_0_53 hv53 rg0_53 rg1_53
  generalize (mA 13 (va_up (s52.2 13) (0 : Int).toNat (H)) s52) = s53
  generalize (va_up h52 (B + 11) (pz_z 0 16 (va_up (s52.2 13) (0 : Int).toNat (H)))) = h53
  intro hA53 hF53 e4_1_53 e4_2_53 e5_0_53 e6_0_53 e8_0_53 e10_0_53 e11_0_53 e15_0_53 e59_0_53 e60_0_53 e12_0_53 e13_0_53 hv53 rg0_53 rg1_53
  clear e4_1_52 e4_2_52 e5_0_52 e6_0_52 e8_0_52 e13_0_52 e10_0_52 e11_0_52 e15_0_52 e59_0_52 e60_0_52 e12_0_52 rg0_52 rg1_52 hv52 hF52 hA52
  refine pw_aload_n dX10_lay_268 rfl ?_
  refine pw_get (v := .ref (B + 3)) okX10 (k := 5) (by decide) lkX10_17 hA53.1 rfl dX10_lay_269 ?_
  refine pw_iload dX10_lay_272 rfl ?_
  refine pw_ialdv (v := 1) (t := 0) rfl (mF5 (s := s53) hA53) (by omega) (by decide) (e5_0_53) dX10_lay_274 ?_
  refine pw_istore (lv' := [some (.ref B), some (.int (zI (0))), some (.int (zI (0))), some (.int (zI (0))), some (.int (zI (w))), some (.int (zI (H))), some (.int (zI (0))), some (.int (zI (0))), some (.int (zI (H))), some (.int (zI (H))), some (.int (zI (a))), some (.int (zI (1))), none]) dX10_lay_275 (by decide) rfl rfl ?_
  refine pw_aload_n dX10_lay_277 rfl ?_
  refine pw_get (v := .ref (B + 4)) okX10 (k := 6) (by decide) lkX10_20 hA53.1 rfl dX10_lay_278 ?_
  refine pw_iload dX10_lay_281 rfl ?_
  refine pw_ialdv (v := 2) (t := 0) rfl (mF6 (s := s53) hA53) (by omega) (by decide) (e6_0_53) dX10_lay_283 ?_
  refine pw_istore (lv' := [some (.ref B), some (.int (zI (0))), some (.int (zI (0))), some (.int (zI (0))), some (.int (zI (w))), some (.int (zI (H))), some (.int (zI (0))), some (.int (zI (0))), some (.int (zI (H))), some (.int (zI (H))), some (.int (zI (a))), some (.int (zI (1))), some (.int (zI (2)))]) dX10_lay_284 (by decide) rfl rfl ?_
  refine pw_aload_n dX10_lay_286 rfl ?_
  refine pw_get (v := .ref (B + 8)) okX10 (k := 10) (by decide) lkX10_32 hA53.1 rfl dX10_lay_287 ?_
  refine pw_iload dX10_lay_290 rfl ?_
  refine pw_aload_n dX10_lay_292 rfl ?_
  refine pw_get (v := .ref (B + 8)) okX10 (k := 10) (by decide) lkX10_32 hA53.1 rfl dX10_lay_293 ?_
  refine pw_iload dX10_lay_296 rfl ?_
  refine pw_ialdv (v := 0) (t := 0) rfl (mF10 (s := s53) hA53) (by omega) (by decide) (e10_0_53) dX10_lay_298 ?_
  refine pw_iast (g := (s53.2 10)) (t := 0) rfl (mF10 (s := s53) hA53) (by omega) (by decide) dX10_lay_299 ?_
  have hA54 : mAt B (mA 10 (va_up (s53.2 10) (1 : Int).toNat (0)) s53) (va_up h53 (B + 8) (pz_z 0 16 (va_up (s53.2 10) (1 : Int).toNat (0)))) := mU10 hA53
  have hF54 : mFr B h (va_up h53 (B + 8) (pz_z 0 16 (va_up (s53.2 10) (1 : Int).toNat (0)))) := mFr_tr hF53 (mFr_up (by decide))
  have e4_1_54 : (mA 10 (va_up (s53.2 10) (1 : Int).toNat (0)) s53).2 4 1 = 0 := mA_1 (by decide) e4_1_53
  have e4_2_54 : (mA 10 (va_up (s53.2 10) (1 : Int).toNat (0)) s53).2 4 2 = 1 := mA_1 (by decide) e4_2_53
  have e5_0_54 : (mA 10 (va_up (s53.2 10) (1 : Int).toNat (0)) s53).2 5 0 = 1 := mA_1 (by decide) e5_0_53
  have e6_0_54 : (mA 10 (va_up (s53.2 10) (1 : Int).toNat (0)) s53).2 6 0 = 2 := mA_1 (by decide) e6_0_53
  have e8_0_54 : (mA 10 (va_up (s53.2 10) (1 : Int).toNat (0)) s53).2 8 0 = 1 := mA_1 (by decide) e8_0_53
  have e10_0_54 : (mA 10 (va_up (s53.2 10) (1 : Int).toNat (0)) s53).2 10 0 = 0 := mA_2 (l := 1) (by decide) e10_0_53
  have e11_0_54 : (mA 10 (va_up (s53.2 10) (1 : Int).toNat (0)) s53).2 11 0 = 0 := mA_1 (by decide) e11_0_53
  have e15_0_54 : (mA 10 (va_up (s53.2 10) (1 : Int).toNat (0)) s53).2 15 0 = 0 := mA_1 (by decide) e15_0_53
  have e59_0_54 : (mA 10 (va_up (s53.2 10) (1 : Int).toNat (0)) s53).2 59 0 = w := mA_1 (by decide) e59_0_53
  have e60_0_54 : (mA 10 (va_up (s53.2 10) (1 : Int).toNat (0)) s53).2 60 0 = H := mA_1 (by decide) e60_0_53
  have e12_0_54 : (mA 10 (va_up (s53.2 10) (1 : Int).toNat (0)) s53).2 12 0 = w := mA_1 (by decide) e12_0_53
  have e13_0_54 : (mA 10 (va_up (s53.2 10) (1 : Int).toNat (0)) s53).2 13 0 = H := mA_1 (by decide) e13_0_53
  have e10_1_54 : (mA 10 (va_up (s53.2 10) (1 : Int).toNat (0)) s53).2 10 1 = 0 := mA_3 (l := 1)
  have hv54 : (mA 10 (va_up (s53.2 10) (1 : Int).toNat (0)) s53).1 = s.1 := hv53
  have rg0_54 : mRg (mA 10 (va_up (s53.2 10) (1 : Int).toNat (0)) s53) 0 := mRg_A (by decide) rg0_53
  have rg1_54 : mRg (mA 10 (va_up (s53.2 10) (1 : Int).toNat (0)) s53) 1 := mRg_A (by decide) rg1_53
  revert hA54 hF54 e4_1_54 e4_2_54 e5_0_54 e6_0_54 e8_0_54 e10_0_54 e11_0_54 e15_0_54 e59_0_54 e60_0_54 e12_0_54 e13_0_54 e10_1_54 hv54 rg0_54 rg1_54
  generalize (mA 10 (va_up (s53.2 10) (1 : Int).toNat (0)) s53) = s54
  generalize (va_up h53 (B + 8) (pz_z 0 16 (va_up (s53.2 10) (1 : Int).toNat (0)))) = h54
  intro hA54 hF54 e4_1_54 e4_2_54 e5_0_54 e6_0_54 e8_0_54 e10_0_54 e11_0_54 e15_0_54 e59_0_54 e60_0_54 e12_0_54 e13_0_54 e10_1_54 hv54 rg0_54 rg1_54
  clear e4_1_53 e4_2_53 e5_0_53 e6_0_53 e8_0_53 e10_0_53 e11_0_53 e15_0_53 e59_0_53 e60_0_53 e12_0_53 e13_0_53 rg0_53 rg1_53 hv53 hF53 hA53
  refine pw_aload_n dX10_lay_300 rfl ?_
  refine pw_get (v := .ref (B + 9)) okX10 (k := 11) (by decide) lkX10_35 hA54.1 rfl dX10_lay_301 ?_
  refine pw_iload dX10_lay_304 rfl ?_
  refine pw_aload_n dX10_lay_306 rfl ?_
  refine pw_get (v := .ref (B + 9)) okX10 (k := 11) (by decide) lkX10_35 hA54.1 rfl dX10_lay_307 ?_
  refine pw_iload dX10_lay_310 rfl ?_
  refine pw_ialdv (v := 0) (t := 0) rfl (mF11 (s := s54) hA54) (by omega) (by decide) (e11_0_54) dX10_lay_312 ?_
  refine pw_iast (g := (s54.2 11)) (t := 0) rfl (mF11 (s := s54) hA54) (by omega) (by decide) dX10_lay_313 ?_
  have hA55 : mAt B (mA 11 (va_up (s54.2 11) (1 : Int).toNat (0)) s54) (va_up h54 (B + 9) (pz_z 0 16 (va_up (s54.2 11) (1 : Int).toNat (0)))) := mU11 hA54
  have hF55 : mFr B h (va_up h54 (B + 9) (pz_z 0 16 (va_up (s54.2 11) (1 : Int).toNat (0)))) := mFr_tr hF54 (mFr_up (by decide))
  have e4_1_55 : (mA 11 (va_up (s54.2 11) (1 : Int).toNat (0)) s54).2 4 1 = 0 := mA_1 (by decide) e4_1_54
  have e4_2_55 : (mA 11 (va_up (s54.2 11) (1 : Int).toNat (0)) s54).2 4 2 = 1 := mA_1 (by decide) e4_2_54
  have e5_0_55 : (mA 11 (va_up (s54.2 11) (1 : Int).toNat (0)) s54).2 5 0 = 1 := mA_1 (by decide) e5_0_54
  have e6_0_55 : (mA 11 (va_up (s54.2 11) (1 : Int).toNat (0)) s54).2 6 0 = 2 := mA_1 (by decide) e6_0_54
  have e8_0_55 : (mA 11 (va_up (s54.2 11) (1 : Int).toNat (0)) s54).2 8 0 = 1 := mA_1 (by decide) e8_0_54
  have e10_0_55 : (mA 11 (va_up (s54.2 11) (1 : Int).toNat (0)) s54).2 10 0 = 0 := mA_1 (by decide) e10_0_54
  have e11_0_55 : (mA 11 (va_up (s54.2 11) (1 : Int).toNat (0)) s54).2 11 0 = 0 := mA_2 (l := 1) (by decide) e11_0_54
  have e15_0_55 : (mA 11 (va_up (s54.2 11) (1 : Int).toNat (0)) s54).2 15 0 = 0 := mA_1 (by decide) e15_0_54
  have e59_0_55 : (mA 11 (va_up (s54.2 11) (1 : Int).toNat (0)) s54).2 59 0 = w := mA_1 (by decide) e59_0_54
  have e60_0_55 : (mA 11 (va_up (s54.2 11) (1 : Int).toNat (0)) s54).2 60 0 = H := mA_1 (by decide) e60_0_54
  have e12_0_55 : (mA 11 (va_up (s54.2 11) (1 : Int).toNat (0)) s54).2 12 0 = w := mA_1 (by decide) e12_0_54
  have e13_0_55 : (mA 11 (va_up (s54.2 11) (1 : Int).toNat (0)) s54).2 13 0 = H := mA_1 (by decide) e13_0_54
  have e10_1_55 : (mA 11 (va_up (s54.2 11) (1 : Int).toNat (0)) s54).2 10 1 = 0 := mA_1 (by decide) e10_1_54
  have e11_1_55 : (mA 11 (va_up (s54.2 11) (1 : Int).toNat (0)) s54).2 11 1 = 0 := mA_3 (l := 1)
  have hv55 : (mA 11 (va_up (s54.2 11) (1 : Int).toNat (0)) s54).1 = s.1 := hv54
  have rg0_55 : mRg (mA 11 (va_up (s54.2 11) (1 : Int).toNat (0)) s54) 0 := mRg_A (by decide) rg0_54
  have rg1_55 : mRg (mA 11 (va_up (s54.2 11) (1 : Int).toNat (0)) s54) 1 := mRg_A (by decide) rg1_54
  revert hA55 hF55 e4_1_55 e4_2_55 e5_0_55 e6_0_55 e8_0_55 e10_0_55 e11_0_55 e15_0_55 e59_0_55 e60_0_55 e12_0_55 e13_0_55 e10_1_55 e11_1_55 hv55 rg0_55 rg1_55
  generalize (mA 11 (va_up (s54.2 11) (1 : Int).toNat (0)) s54) = s55
  generalize (va_up h54 (B + 9) (pz_z 0 16 (va_up (s54.2 11) (1 : Int).toNat (0)))) = h55
  intro hA55 hF55 e4_1_55 e4_2_55 e5_0_55 e6_0_55 e8_0_55 e10_0_55 e11_0_55 e15_0_55 e59_0_55 e60_0_55 e12_0_55 e13_0_55 e10_1_55 e11_1_55 hv55 rg0_55 rg1_55
  clear e4_1_54 e4_2_54 e5_0_54 e6_0_54 e8_0_54 e10_0_54 e11_0_54 e15_0_54 e59_0_54 e60_0_54 e12_0_54 e13_0_54 e10_1_54 rg0_54 rg1_54 hv54 hF54 hA54
  refine pw_aload_n dX10_lay_314 rfl ?_
  refine pw_get (v := .ref (B + 48)) okX10 (k := 59) (by decide) lkX10_156 hA55.1 rfl dX10_lay_315 ?_
  refine pw_iload dX10_lay_318 rfl ?_
  refine pw_aload_n dX10_lay_320 rfl ?_
  refine pw_get (v := .ref (B + 6)) okX10 (k := 8) (by decide) lkX10_26 hA55.1 rfl dX10_lay_321 ?_
  refine pw_iload dX10_lay_324 rfl ?_
  refine pw_zaldv (v := 1) (t := 1) rfl (mF8 (s := s55) hA55) (by omega) (by decide) (e8_0_55) dX10_lay_326 ?_
  refine pw_if_eq (tgt := 340) dX10_lay_327 rfl (by omega) (fun c327 => ?_) (fun c327 => ?_)
  · exfalso; omega
  ·
    refine pw_aload_n dX10_lay_330 rfl ?_
    refine pw_get (v := .ref (B + 10)) okX10 (k := 12) (by decide) lkX10_38 hA55.1 rfl dX10_lay_331 ?_
    refine pw_iload dX10_lay_334 rfl ?_
    refine pw_ialdv (v := w) (t := 0) rfl (mF12 (s := s55) hA55) (by omega) (by decide) (e12_0_55) dX10_lay_336 ?_
    refine pw_goto (tgt := 342) dX10_lay_337 rfl ?_
    refine pw_iast (g := (s55.2 59)) (t := 0) rfl (mF59 (s := s55) hA55) (by omega) (by decide) dX10_lay_342 ?_
    have hA56 : mAt B (mA 59 (va_up (s55.2 59) (1 : Int).toNat (w)) s55) (va_up h55 (B + 48) (pz_z 0 16 (va_up (s55.2 59) (1 : Int).toNat (w)))) := mU59 hA55
    have hF56 : mFr B h (va_up h55 (B + 48) (pz_z 0 16 (va_up (s55.2 59) (1 : Int).toNat (w)))) := mFr_tr hF55 (mFr_up (by decide))
    have e4_1_56 : (mA 59 (va_up (s55.2 59) (1 : Int).toNat (w)) s55).2 4 1 = 0 := mA_1 (by decide) e4_1_55
    have e4_2_56 : (mA 59 (va_up (s55.2 59) (1 : Int).toNat (w)) s55).2 4 2 = 1 := mA_1 (by decide) e4_2_55
    have e5_0_56 : (mA 59 (va_up (s55.2 59) (1 : Int).toNat (w)) s55).2 5 0 = 1 := mA_1 (by decide) e5_0_55
    have e6_0_56 : (mA 59 (va_up (s55.2 59) (1 : Int).toNat (w)) s55).2 6 0 = 2 := mA_1 (by decide) e6_0_55
    have e8_0_56 : (mA 59 (va_up (s55.2 59) (1 : Int).toNat (w)) s55).2 8 0 = 1 := mA_1 (by decide) e8_0_55
    have e10_0_56 : (mA 59 (va_up (s55.2 59) (1 : Int).toNat (w)) s55).2 10 0 = 0 := mA_1 (by decide) e10_0_55
    have e11_0_56 : (mA 59 (va_up (s55.2 59) (1 : Int).toNat (w)) s55).2 11 0 = 0 := mA_1 (by decide) e11_0_55
    have e15_0_56 : (mA 59 (va_up (s55.2 59) (1 : Int).toNat (w)) s55).2 15 0 = 0 := mA_1 (by decide) e15_0_55
    have e59_0_56 : (mA 59 (va_up (s55.2 59) (1 : Int).toNat (w)) s55).2 59 0 = w := mA_2 (l := 1) (by decide) e59_0_55
    have e60_0_56 : (mA 59 (va_up (s55.2 59) (1 : Int).toNat (w)) s55).2 60 0 = H := mA_1 (by decide) e60_0_55
    have e12_0_56 : (mA 59 (va_up (s55.2 59) (1 : Int).toNat (w)) s55).2 12 0 = w := mA_1 (by decide) e12_0_55
    have e13_0_56 : (mA 59 (va_up (s55.2 59) (1 : Int).toNat (w)) s55).2 13 0 = H := mA_1 (by decide) e13_0_55
    have e10_1_56 : (mA 59 (va_up (s55.2 59) (1 : Int).toNat (w)) s55).2 10 1 = 0 := mA_1 (by decide) e10_1_55
    have e11_1_56 : (mA 59 (va_up (s55.2 59) (1 : Int).toNat (w)) s55).2 11 1 = 0 := mA_1 (by decide) e11_1_55
    have e59_1_56 : (mA 59 (va_up (s55.2 59) (1 : Int).toNat (w)) s55).2 59 1 = w := mA_3 (l := 1)
    have hv56 : (mA 59 (va_up (s55.2 59) (1 : Int).toNat (w)) s55).1 = s.1 := hv55
    have rg0_56 : mRg (mA 59 (va_up (s55.2 59) (1 : Int).toNat (w)) s55) 0 := mRg_A (by decide) rg0_55
    have rg1_56 : mRg (mA 59 (va_up (s55.2 59) (1 : Int).toNat (w)) s55) 1 := mRg_A (by decide) rg1_55
    revert hA56 hF56 e4_1_56 e4_2_56 e5_0_56 e6_0_56 e8_0_56 e10_0_56 e11_0_56 e15_0_56 e59_0_56 e60_0_56 e12_0_56 e13_0_56 e10_1_56 e11_1_56 e59_1_56 hv56 rg0_56 rg1_56
    generalize (mA 59 (va_up (s55.2 59) (1 : Int).toNat (w)) s55) = s56
    generalize (va_up h55 (B + 48) (pz_z 0 16 (va_up (s55.2 59) (1 : Int).toNat (w)))) = h56
    intro hA56 hF56 e4_1_56 e4_2_56 e5_0_56 e6_0_56 e8_0_56 e10_0_56 e11_0_56 e15_0_56 e59_0_56 e60_0_56 e12_0_56 e13_0_56 e10_1_56 e11_1_56 e59_1_56 hv56 rg0_56 rg1_56
    clear e4_1_55 e4_2_55 e5_0_55 e6_0_55 e8_0_55 e10_0_55 e11_0_55 e15_0_55 e59_0_55 e60_0_55 e12_0_55 e13_0_55 e10_1_55 e11_1_55 rg0_55 rg1_55 hv55 hF55 hA55
    refine pw_aload_n dX10_lay_343 rfl ?_
    refine pw_get (v := .ref (B + 49)) okX10 (k := 60) (by decide) lkX10_159 hA56.1 rfl dX10_lay_344 ?_
    refine pw_iload dX10_lay_347 rfl ?_
    refine pw_aload_n dX10_lay_349 rfl ?_
    refine pw_get (v := .ref (B + 6)) okX10 (k := 8) (by decide) lkX10_26 hA56.1 rfl dX10_lay_350 ?_
    refine pw_iload dX10_lay_353 rfl ?_
    refine pw_zaldv (v := 1) (t := 1) rfl (mF8 (s := s56) hA56) (by omega) (by decide) (e8_0_56) dX10_lay_355 ?_
    refine pw_if_eq (tgt := 364) dX10_lay_356 rfl (by omega) (fun c356 => ?_) (fun c356 => ?_)
    · exfalso; omega
    ·
      refine pw_iload dX10_lay_359 rfl ?_
      refine pw_goto (tgt := 371) dX10_lay_361 rfl ?_
      refine pw_iast (g := (s56.2 60)) (t := 0) rfl (mF60 (s := s56) hA56) (by omega) (by decide) dX10_lay_371 ?_
      have hA57 : mAt B (mA 60 (va_up (s56.2 60) (1 : Int).toNat (a)) s56) (va_up h56 (B + 49) (pz_z 0 16 (va_up (s56.2 60) (1 : Int).toNat (a)))) := mU60 hA56
      have hF57 : mFr B h (va_up h56 (B + 49) (pz_z 0 16 (va_up (s56.2 60) (1 : Int).toNat (a)))) := mFr_tr hF56 (mFr_up (by decide))
      have e4_1_57 : (mA 60 (va_up (s56.2 60) (1 : Int).toNat (a)) s56).2 4 1 = 0 := mA_1 (by decide) e4_1_56
      have e4_2_57 : (mA 60 (va_up (s56.2 60) (1 : Int).toNat (a)) s56).2 4 2 = 1 := mA_1 (by decide) e4_2_56
      have e5_0_57 : (mA 60 (va_up (s56.2 60) (1 : Int).toNat (a)) s56).2 5 0 = 1 := mA_1 (by decide) e5_0_56
      have e6_0_57 : (mA 60 (va_up (s56.2 60) (1 : Int).toNat (a)) s56).2 6 0 = 2 := mA_1 (by decide) e6_0_56
      have e8_0_57 : (mA 60 (va_up (s56.2 60) (1 : Int).toNat (a)) s56).2 8 0 = 1 := mA_1 (by decide) e8_0_56
      have e10_0_57 : (mA 60 (va_up (s56.2 60) (1 : Int).toNat (a)) s56).2 10 0 = 0 := mA_1 (by decide) e10_0_56
      have e11_0_57 : (mA 60 (va_up (s56.2 60) (1 : Int).toNat (a)) s56).2 11 0 = 0 := mA_1 (by decide) e11_0_56
      have e15_0_57 : (mA 60 (va_up (s56.2 60) (1 : Int).toNat (a)) s56).2 15 0 = 0 := mA_1 (by decide) e15_0_56
      have e59_0_57 : (mA 60 (va_up (s56.2 60) (1 : Int).toNat (a)) s56).2 59 0 = w := mA_1 (by decide) e59_0_56
      have e60_0_57 : (mA 60 (va_up (s56.2 60) (1 : Int).toNat (a)) s56).2 60 0 = H := mA_2 (l := 1) (by decide) e60_0_56
      have e12_0_57 : (mA 60 (va_up (s56.2 60) (1 : Int).toNat (a)) s56).2 12 0 = w := mA_1 (by decide) e12_0_56
      have e13_0_57 : (mA 60 (va_up (s56.2 60) (1 : Int).toNat (a)) s56).2 13 0 = H := mA_1 (by decide) e13_0_56
      have e10_1_57 : (mA 60 (va_up (s56.2 60) (1 : Int).toNat (a)) s56).2 10 1 = 0 := mA_1 (by decide) e10_1_56
      have e11_1_57 : (mA 60 (va_up (s56.2 60) (1 : Int).toNat (a)) s56).2 11 1 = 0 := mA_1 (by decide) e11_1_56
      have e59_1_57 : (mA 60 (va_up (s56.2 60) (1 : Int).toNat (a)) s56).2 59 1 = w := mA_1 (by decide) e59_1_56
      have e60_1_57 : (mA 60 (va_up (s56.2 60) (1 : Int).toNat (a)) s56).2 60 1 = a := mA_3 (l := 1)
      have hv57 : (mA 60 (va_up (s56.2 60) (1 : Int).toNat (a)) s56).1 = s.1 := hv56
      have rg0_57 : mRg (mA 60 (va_up (s56.2 60) (1 : Int).toNat (a)) s56) 0 := mRg_A (by decide) rg0_56
      have rg1_57 : mRg (mA 60 (va_up (s56.2 60) (1 : Int).toNat (a)) s56) 1 := mRg_A (by decide) rg1_56
      revert hA57 hF57 e4_1_57 e4_2_57 e5_0_57 e6_0_57 e8_0_57 e10_0_57 e11_0_57 e15_0_57 e59_0_57 e60_0_57 e12_0_57 e13_0_57 e10_1_57 e11_1_57 e59_1_57 e60_1_57 hv57 rg0_57 rg1_57
      generalize (mA 60 (va_up (s56.2 60) (1 : Int).toNat (a)) s56) = s57
      generalize (va_up h56 (B + 49) (pz_z 0 16 (va_up (s56.2 60) (1 : Int).toNat (a)))) = h57
      intro hA57 hF57 e4_1_57 e4_2_57 e5_0_57 e6_0_57 e8_0_57 e10_0_57 e11_0_57 e15_0_57 e59_0_57 e60_0_57 e12_0_57 e13_0_57 e10_1_57 e11_1_57 e59_1_57 e60_1_57 hv57 rg0_57 rg1_57
      clear e4_1_56 e4_2_56 e5_0_56 e6_0_56 e8_0_56 e10_0_56 e11_0_56 e15_0_56 e59_0_56 e60_0_56 e12_0_56 e13_0_56 e10_1_56 e11_1_56 e59_1_56 rg0_56 rg1_56 hv56 hF56 hA56
      refine pw_aload_n dX10_lay_372 rfl ?_
      refine pw_get (v := .ref (B + 8)) okX10 (k := 10) (by decide) lkX10_32 hA57.1 rfl dX10_lay_373 ?_
      refine pw_iload dX10_lay_376 rfl ?_
      refine pw_aload_n dX10_lay_378 rfl ?_
      refine pw_get (v := .ref (B + 6)) okX10 (k := 8) (by decide) lkX10_26 hA57.1 rfl dX10_lay_379 ?_
      refine pw_iload dX10_lay_382 rfl ?_
      refine pw_zaldv (v := 1) (t := 1) rfl (mF8 (s := s57) hA57) (by omega) (by decide) (e8_0_57) dX10_lay_384 ?_
      refine pw_if_eq (tgt := 398) dX10_lay_385 rfl (by omega) (fun c385 => ?_) (fun c385 => ?_)
      · exfalso; omega
      ·
        refine pw_aload_n dX10_lay_388 rfl ?_
        refine pw_get (v := .ref (B + 8)) okX10 (k := 10) (by decide) lkX10_32 hA57.1 rfl dX10_lay_389 ?_
        refine pw_iload dX10_lay_392 rfl ?_
        refine pw_ialdv (v := 0) (t := 0) rfl (mF10 (s := s57) hA57) (by omega) (by decide) (e10_0_57) dX10_lay_394 ?_
        refine pw_goto (tgt := 410) dX10_lay_395 rfl ?_
        refine pw_iast (g := (s57.2 10)) (t := 0) rfl (mF10 (s := s57) hA57) (by omega) (by decide) dX10_lay_410 ?_
        have hA58 : mAt B (mA 10 (va_up (s57.2 10) (2 : Int).toNat (0)) s57) (va_up h57 (B + 8) (pz_z 0 16 (va_up (s57.2 10) (2 : Int).toNat (0)))) := mU10 hA57
        have hF58 : mFr B h (va_up h57 (B + 8) (pz_z 0 16 (va_up (s57.2 10) (2 : Int).toNat (0)))) := mFr_tr hF57 (mFr_up (by decide))
        have e4_1_58 : (mA 10 (va_up (s57.2 10) (2 : Int).toNat (0)) s57).2 4 1 = 0 := mA_1 (by decide) e4_1_57
        have e4_2_58 : (mA 10 (va_up (s57.2 10) (2 : Int).toNat (0)) s57).2 4 2 = 1 := mA_1 (by decide) e4_2_57
        have e5_0_58 : (mA 10 (va_up (s57.2 10) (2 : Int).toNat (0)) s57).2 5 0 = 1 := mA_1 (by decide) e5_0_57
        have e6_0_58 : (mA 10 (va_up (s57.2 10) (2 : Int).toNat (0)) s57).2 6 0 = 2 := mA_1 (by decide) e6_0_57
        have e8_0_58 : (mA 10 (va_up (s57.2 10) (2 : Int).toNat (0)) s57).2 8 0 = 1 := mA_1 (by decide) e8_0_57
        have e10_0_58 : (mA 10 (va_up (s57.2 10) (2 : Int).toNat (0)) s57).2 10 0 = 0 := mA_2 (l := 2) (by decide) e10_0_57
        have e11_0_58 : (mA 10 (va_up (s57.2 10) (2 : Int).toNat (0)) s57).2 11 0 = 0 := mA_1 (by decide) e11_0_57
        have e15_0_58 : (mA 10 (va_up (s57.2 10) (2 : Int).toNat (0)) s57).2 15 0 = 0 := mA_1 (by decide) e15_0_57
        have e59_0_58 : (mA 10 (va_up (s57.2 10) (2 : Int).toNat (0)) s57).2 59 0 = w := mA_1 (by decide) e59_0_57
        have e60_0_58 : (mA 10 (va_up (s57.2 10) (2 : Int).toNat (0)) s57).2 60 0 = H := mA_1 (by decide) e60_0_57
        have e12_0_58 : (mA 10 (va_up (s57.2 10) (2 : Int).toNat (0)) s57).2 12 0 = w := mA_1 (by decide) e12_0_57
        have e13_0_58 : (mA 10 (va_up (s57.2 10) (2 : Int).toNat (0)) s57).2 13 0 = H := mA_1 (by decide) e13_0_57
        have e10_1_58 : (mA 10 (va_up (s57.2 10) (2 : Int).toNat (0)) s57).2 10 1 = 0 := mA_2 (l := 2) (by decide) e10_1_57
        have e11_1_58 : (mA 10 (va_up (s57.2 10) (2 : Int).toNat (0)) s57).2 11 1 = 0 := mA_1 (by decide) e11_1_57
        have e59_1_58 : (mA 10 (va_up (s57.2 10) (2 : Int).toNat (0)) s57).2 59 1 = w := mA_1 (by decide) e59_1_57
        have e60_1_58 : (mA 10 (va_up (s57.2 10) (2 : Int).toNat (0)) s57).2 60 1 = a := mA_1 (by decide) e60_1_57
        have e10_2_58 : (mA 10 (va_up (s57.2 10) (2 : Int).toNat (0)) s57).2 10 2 = 0 := mA_3 (l := 2)
        have hv58 : (mA 10 (va_up (s57.2 10) (2 : Int).toNat (0)) s57).1 = s.1 := hv57
        have rg0_58 : mRg (mA 10 (va_up (s57.2 10) (2 : Int).toNat (0)) s57) 0 := mRg_A (by decide) rg0_57
        have rg1_58 : mRg (mA 10 (va_up (s57.2 10) (2 : Int).toNat (0)) s57) 1 := mRg_A (by decide) rg1_57
        revert hA58 hF58 e4_1_58 e4_2_58 e5_0_58 e6_0_58 e8_0_58 e10_0_58 e11_0_58 e15_0_58 e59_0_58 e60_0_58 e12_0_58 e13_0_58 e10_1_58 e11_1_58 e59_1_58 e60_1_58 e10_2_58 hv58 rg0_58 rg1_58
        generalize (mA 10 (va_up (s57.2 10) (2 : Int).toNat (0)) s57) = s58
        generalize (va_up h57 (B + 8) (pz_z 0 16 (va_up (s57.2 10) (2 : Int).toNat (0)))) = h58
        intro hA58 hF58 e4_1_58 e4_2_58 e5_0_58 e6_0_58 e8_0_58 e10_0_58 e11_0_58 e15_0_58 e59_0_58 e60_0_58 e12_0_58 e13_0_58 e10_1_58 e11_1_58 e59_1_58 e60_1_58 e10_2_58 hv58 rg0_58 rg1_58
        clear e4_1_57 e4_2_57 e5_0_57 e6_0_57 e8_0_57 e10_0_57 e11_0_57 e15_0_57 e59_0_57 e60_0_57 e12_0_57 e13_0_57 e10_1_57 e11_1_57 e59_1_57 e60_1_57 rg0_57 rg1_57 hv57 hF57 hA57
        refine pw_aload_n dX10_lay_411 rfl ?_
        refine pw_get (v := .ref (B + 9)) okX10 (k := 11) (by decide) lkX10_35 hA58.1 rfl dX10_lay_412 ?_
        refine pw_iload dX10_lay_415 rfl ?_
        refine pw_aload_n dX10_lay_417 rfl ?_
        refine pw_get (v := .ref (B + 6)) okX10 (k := 8) (by decide) lkX10_26 hA58.1 rfl dX10_lay_418 ?_
        refine pw_iload dX10_lay_421 rfl ?_
        refine pw_zaldv (v := 1) (t := 1) rfl (mF8 (s := s58) hA58) (by omega) (by decide) (e8_0_58) dX10_lay_423 ?_
        refine pw_if_eq (tgt := 442) dX10_lay_424 rfl (by omega) (fun c424 => ?_) (fun c424 => ?_)
        · exfalso; omega
        ·
          refine pw_aload_n dX10_lay_427 rfl ?_
          refine pw_get (v := .ref (B + 9)) okX10 (k := 11) (by decide) lkX10_35 hA58.1 rfl dX10_lay_428 ?_
          refine pw_iload dX10_lay_431 rfl ?_
          refine pw_ialdv (v := 0) (t := 0) rfl (mF11 (s := s58) hA58) (by omega) (by decide) (e11_0_58) dX10_lay_433 ?_
          refine pw_iload dX10_lay_434 rfl ?_
          refine pw_ziadd dX10_lay_436 ?_
          refine pw_iconst (v := zI (1)) dX10_lay_437 (by decide) ?_
          refine pw_ziadd dX10_lay_438 ?_
          refine pw_goto (tgt := 449) dX10_lay_439 rfl ?_
          refine pw_iast (g := (s58.2 11)) (t := 0) rfl (mF11 (s := s58) hA58) (by omega) (by decide) dX10_lay_449 ?_
          have hA59 : mAt B (mA 11 (va_up (s58.2 11) (2 : Int).toNat ((0 + a) + (1))) s58) (va_up h58 (B + 9) (pz_z 0 16 (va_up (s58.2 11) (2 : Int).toNat ((0 + a) + (1))))) := mU11 hA58
          have hF59 : mFr B h (va_up h58 (B + 9) (pz_z 0 16 (va_up (s58.2 11) (2 : Int).toNat ((0 + a) + (1))))) := mFr_tr hF58 (mFr_up (by decide))
          have e4_1_59 : (mA 11 (va_up (s58.2 11) (2 : Int).toNat ((0 + a) + (1))) s58).2 4 1 = 0 := mA_1 (by decide) e4_1_58
          have e4_2_59 : (mA 11 (va_up (s58.2 11) (2 : Int).toNat ((0 + a) + (1))) s58).2 4 2 = 1 := mA_1 (by decide) e4_2_58
          have e5_0_59 : (mA 11 (va_up (s58.2 11) (2 : Int).toNat ((0 + a) + (1))) s58).2 5 0 = 1 := mA_1 (by decide) e5_0_58
          have e6_0_59 : (mA 11 (va_up (s58.2 11) (2 : Int).toNat ((0 + a) + (1))) s58).2 6 0 = 2 := mA_1 (by decide) e6_0_58
          have e8_0_59 : (mA 11 (va_up (s58.2 11) (2 : Int).toNat ((0 + a) + (1))) s58).2 8 0 = 1 := mA_1 (by decide) e8_0_58
          have e10_0_59 : (mA 11 (va_up (s58.2 11) (2 : Int).toNat ((0 + a) + (1))) s58).2 10 0 = 0 := mA_1 (by decide) e10_0_58
          have e11_0_59 : (mA 11 (va_up (s58.2 11) (2 : Int).toNat ((0 + a) + (1))) s58).2 11 0 = 0 := mA_2 (l := 2) (by decide) e11_0_58
          have e15_0_59 : (mA 11 (va_up (s58.2 11) (2 : Int).toNat ((0 + a) + (1))) s58).2 15 0 = 0 := mA_1 (by decide) e15_0_58
          have e59_0_59 : (mA 11 (va_up (s58.2 11) (2 : Int).toNat ((0 + a) + (1))) s58).2 59 0 = w := mA_1 (by decide) e59_0_58
          have e60_0_59 : (mA 11 (va_up (s58.2 11) (2 : Int).toNat ((0 + a) + (1))) s58).2 60 0 = H := mA_1 (by decide) e60_0_58
          have e12_0_59 : (mA 11 (va_up (s58.2 11) (2 : Int).toNat ((0 + a) + (1))) s58).2 12 0 = w := mA_1 (by decide) e12_0_58
          have e13_0_59 : (mA 11 (va_up (s58.2 11) (2 : Int).toNat ((0 + a) + (1))) s58).2 13 0 = H := mA_1 (by decide) e13_0_58
          have e10_1_59 : (mA 11 (va_up (s58.2 11) (2 : Int).toNat ((0 + a) + (1))) s58).2 10 1 = 0 := mA_1 (by decide) e10_1_58
          have e11_1_59 : (mA 11 (va_up (s58.2 11) (2 : Int).toNat ((0 + a) + (1))) s58).2 11 1 = 0 := mA_2 (l := 2) (by decide) e11_1_58
          have e59_1_59 : (mA 11 (va_up (s58.2 11) (2 : Int).toNat ((0 + a) + (1))) s58).2 59 1 = w := mA_1 (by decide) e59_1_58
          have e60_1_59 : (mA 11 (va_up (s58.2 11) (2 : Int).toNat ((0 + a) + (1))) s58).2 60 1 = a := mA_1 (by decide) e60_1_58
          have e10_2_59 : (mA 11 (va_up (s58.2 11) (2 : Int).toNat ((0 + a) + (1))) s58).2 10 2 = 0 := mA_1 (by decide) e10_2_58
          have e11_2_59 : (mA 11 (va_up (s58.2 11) (2 : Int).toNat ((0 + a) + (1))) s58).2 11 2 = (0 + a) + (1) := mA_3 (l := 2)
          have hv59 : (mA 11 (va_up (s58.2 11) (2 : Int).toNat ((0 + a) + (1))) s58).1 = s.1 := hv58
          have rg0_59 : mRg (mA 11 (va_up (s58.2 11) (2 : Int).toNat ((0 + a) + (1))) s58) 0 := mRg_A (by decide) rg0_58
          have rg1_59 : mRg (mA 11 (va_up (s58.2 11) (2 : Int).toNat ((0 + a) + (1))) s58) 1 := mRg_A (by decide) rg1_58
          revert hA59 hF59 e4_1_59 e4_2_59 e5_0_59 e6_0_59 e8_0_59 e10_0_59 e11_0_59 e15_0_59 e59_0_59 e60_0_59 e12_0_59 e13_0_59 e10_1_59 e11_1_59 e59_1_59 e60_1_59 e10_2_59 e11_2_59 hv59 rg0_59 rg1_59
          generalize (mA 11 (va_up (s58.2 11) (2 : Int).toNat ((0 + a) + (1))) s58) = s59
          generalize (va_up h58 (B + 9) (pz_z 0 16 (va_up (s58.2 11) (2 : Int).toNat ((0 + a) + (1))))) = h59
          intro hA59 hF59 e4_1_59 e4_2_59 e5_0_59 e6_0_59 e8_0_59 e10_0_59 e11_0_59 e15_0_59 e59_0_59 e60_0_59 e12_0_59 e13_0_59 e10_1_59 e11_1_59 e59_1_59 e60_1_59 e10_2_59 e11_2_59 hv59 rg0_59 rg1_59
          clear e4_1_58 e4_2_58 e5_0_58 e6_0_58 e8_0_58 e10_0_58 e11_0_58 e15_0_58 e59_0_58 e60_0_58 e12_0_58 e13_0_58 e10_1_58 e11_1_58 e59_1_58 e60_1_58 e10_2_58 rg0_58 rg1_58 hv58 hF58 hA58
          refine pw_aload_n dX10_lay_450 rfl ?_
          refine pw_get (v := .ref (B + 48)) okX10 (k := 59) (by decide) lkX10_156 hA59.1 rfl dX10_lay_451 ?_
          refine pw_iload dX10_lay_454 rfl ?_
          refine pw_aload_n dX10_lay_456 rfl ?_
          refine pw_get (v := .ref (B + 6)) okX10 (k := 8) (by decide) lkX10_26 hA59.1 rfl dX10_lay_457 ?_
          refine pw_iload dX10_lay_460 rfl ?_
          refine pw_zaldv (v := 1) (t := 1) rfl (mF8 (s := s59) hA59) (by omega) (by decide) (e8_0_59) dX10_lay_462 ?_
          refine pw_if_eq (tgt := 476) dX10_lay_463 rfl (by omega) (fun c463 => ?_) (fun c463 => ?_)
          · exfalso; omega
          ·
            refine pw_aload_n dX10_lay_466 rfl ?_
            refine pw_get (v := .ref (B + 10)) okX10 (k := 12) (by decide) lkX10_38 hA59.1 rfl dX10_lay_467 ?_
            refine pw_iload dX10_lay_470 rfl ?_
            refine pw_ialdv (v := w) (t := 0) rfl (mF12 (s := s59) hA59) (by omega) (by decide) (e12_0_59) dX10_lay_472 ?_
            refine pw_goto (tgt := 483) dX10_lay_473 rfl ?_
            refine pw_iast (g := (s59.2 59)) (t := 0) rfl (mF59 (s := s59) hA59) (by omega) (by decide) dX10_lay_483 ?_
            have hA60 : mAt B (mA 59 (va_up (s59.2 59) (2 : Int).toNat (w)) s59) (va_up h59 (B + 48) (pz_z 0 16 (va_up (s59.2 59) (2 : Int).toNat (w)))) := mU59 hA59
            have hF60 : mFr B h (va_up h59 (B + 48) (pz_z 0 16 (va_up (s59.2 59) (2 : Int).toNat (w)))) := mFr_tr hF59 (mFr_up (by decide))
            have e4_1_60 : (mA 59 (va_up (s59.2 59) (2 : Int).toNat (w)) s59).2 4 1 = 0 := mA_1 (by decide) e4_1_59
            have e4_2_60 : (mA 59 (va_up (s59.2 59) (2 : Int).toNat (w)) s59).2 4 2 = 1 := mA_1 (by decide) e4_2_59
            have e5_0_60 : (mA 59 (va_up (s59.2 59) (2 : Int).toNat (w)) s59).2 5 0 = 1 := mA_1 (by decide) e5_0_59
            have e6_0_60 : (mA 59 (va_up (s59.2 59) (2 : Int).toNat (w)) s59).2 6 0 = 2 := mA_1 (by decide) e6_0_59
            have e8_0_60 : (mA 59 (va_up (s59.2 59) (2 : Int).toNat (w)) s59).2 8 0 = 1 := mA_1 (by decide) e8_0_59
            have e10_0_60 : (mA 59 (va_up (s59.2 59) (2 : Int).toNat (w)) s59).2 10 0 = 0 := mA_1 (by decide) e10_0_59
            have e11_0_60 : (mA 59 (va_up (s59.2 59) (2 : Int).toNat (w)) s59).2 11 0 = 0 := mA_1 (by decide) e11_0_59
            have e15_0_60 : (mA 59 (va_up (s59.2 59) (2 : Int).toNat (w)) s59).2 15 0 = 0 := mA_1 (by decide) e15_0_59
            have e59_0_60 : (mA 59 (va_up (s59.2 59) (2 : Int).toNat (w)) s59).2 59 0 = w := mA_2 (l := 2) (by decide) e59_0_59
            have e60_0_60 : (mA 59 (va_up (s59.2 59) (2 : Int).toNat (w)) s59).2 60 0 = H := mA_1 (by decide) e60_0_59
            have e12_0_60 : (mA 59 (va_up (s59.2 59) (2 : Int).toNat (w)) s59).2 12 0 = w := mA_1 (by decide) e12_0_59
            have e13_0_60 : (mA 59 (va_up (s59.2 59) (2 : Int).toNat (w)) s59).2 13 0 = H := mA_1 (by decide) e13_0_59
            have e10_1_60 : (mA 59 (va_up (s59.2 59) (2 : Int).toNat (w)) s59).2 10 1 = 0 := mA_1 (by decide) e10_1_59
            have e11_1_60 : (mA 59 (va_up (s59.2 59) (2 : Int).toNat (w)) s59).2 11 1 = 0 := mA_1 (by decide) e11_1_59
            have e59_1_60 : (mA 59 (va_up (s59.2 59) (2 : Int).toNat (w)) s59).2 59 1 = w := mA_2 (l := 2) (by decide) e59_1_59
            have e60_1_60 : (mA 59 (va_up (s59.2 59) (2 : Int).toNat (w)) s59).2 60 1 = a := mA_1 (by decide) e60_1_59
            have e10_2_60 : (mA 59 (va_up (s59.2 59) (2 : Int).toNat (w)) s59).2 10 2 = 0 := mA_1 (by decide) e10_2_59
            have e11_2_60 : (mA 59 (va_up (s59.2 59) (2 : Int).toNat (w)) s59).2 11 2 = (0 + a) + (1) := mA_1 (by decide) e11_2_59
            have e59_2_60 : (mA 59 (va_up (s59.2 59) (2 : Int).toNat (w)) s59).2 59 2 = w := mA_3 (l := 2)
            have hv60 : (mA 59 (va_up (s59.2 59) (2 : Int).toNat (w)) s59).1 = s.1 := hv59
            have rg0_60 : mRg (mA 59 (va_up (s59.2 59) (2 : Int).toNat (w)) s59) 0 := mRg_A (by decide) rg0_59
            have rg1_60 : mRg (mA 59 (va_up (s59.2 59) (2 : Int).toNat (w)) s59) 1 := mRg_A (by decide) rg1_59
            revert hA60 hF60 e4_1_60 e4_2_60 e5_0_60 e6_0_60 e8_0_60 e10_0_60 e11_0_60 e15_0_60 e59_0_60 e60_0_60 e12_0_60 e13_0_60 e10_1_60 e11_1_60 e59_1_60 e60_1_60 e10_2_60 e11_2_60 e59_2_60 hv60 rg0_60 rg1_60
            generalize (mA 59 (va_up (s59.2 59) (2 : Int).toNat (w)) s59) = s60
            generalize (va_up h59 (B + 48) (pz_z 0 16 (va_up (s59.2 59) (2 : Int).toNat (w)))) = h60
            intro hA60 hF60 e4_1_60 e4_2_60 e5_0_60 e6_0_60 e8_0_60 e10_0_60 e11_0_60 e15_0_60 e59_0_60 e60_0_60 e12_0_60 e13_0_60 e10_1_60 e11_1_60 e59_1_60 e60_1_60 e10_2_60 e11_2_60 e59_2_60 hv60 rg0_60 rg1_60
            clear e4_1_59 e4_2_59 e5_0_59 e6_0_59 e8_0_59 e10_0_59 e11_0_59 e15_0_59 e59_0_59 e60_0_59 e12_0_59 e13_0_59 e10_1_59 e11_1_59 e59_1_59 e60_1_59 e10_2_59 e11_2_59 rg0_59 rg1_59 hv59 hF59 hA59
            refine pw_aload_n dX10_lay_484 rfl ?_
            refine pw_get (v := .ref (B + 49)) okX10 (k := 60) (by decide) lkX10_159 hA60.1 rfl dX10_lay_485 ?_
            refine pw_iload dX10_lay_488 rfl ?_
            refine pw_aload_n dX10_lay_490 rfl ?_
            refine pw_get (v := .ref (B + 6)) okX10 (k := 8) (by decide) lkX10_26 hA60.1 rfl dX10_lay_491 ?_
            refine pw_iload dX10_lay_494 rfl ?_
            refine pw_zaldv (v := 1) (t := 1) rfl (mF8 (s := s60) hA60) (by omega) (by decide) (e8_0_60) dX10_lay_496 ?_
            refine pw_if_eq (tgt := 510) dX10_lay_497 rfl (by omega) (fun c497 => ?_) (fun c497 => ?_)
            · exfalso; omega
            ·
              refine pw_iload dX10_lay_500 rfl ?_
              refine pw_iconst (v := zI (1)) dX10_lay_502 (by decide) ?_
              refine pw_zisub dX10_lay_503 ?_
              refine pw_iload dX10_lay_504 rfl ?_
              refine pw_zisub dX10_lay_506 ?_
              refine pw_goto (tgt := 517) dX10_lay_507 rfl ?_
              refine pw_iast (g := (s60.2 60)) (t := 0) rfl (mF60 (s := s60) hA60) (by omega) (by decide) dX10_lay_517 ?_
              have hA61 : mAt B (mA 60 (va_up (s60.2 60) (2 : Int).toNat ((H - 1) - (a))) s60) (va_up h60 (B + 49) (pz_z 0 16 (va_up (s60.2 60) (2 : Int).toNat ((H - 1) - (a))))) := mU60 hA60
              have hF61 : mFr B h (va_up h60 (B + 49) (pz_z 0 16 (va_up (s60.2 60) (2 : Int).toNat ((H - 1) - (a))))) := mFr_tr hF60 (mFr_up (by decide))
              have e4_1_61 : (mA 60 (va_up (s60.2 60) (2 : Int).toNat ((H - 1) - (a))) s60).2 4 1 = 0 := mA_1 (by decide) e4_1_60
              have e4_2_61 : (mA 60 (va_up (s60.2 60) (2 : Int).toNat ((H - 1) - (a))) s60).2 4 2 = 1 := mA_1 (by decide) e4_2_60
              have e5_0_61 : (mA 60 (va_up (s60.2 60) (2 : Int).toNat ((H - 1) - (a))) s60).2 5 0 = 1 := mA_1 (by decide) e5_0_60
              have e6_0_61 : (mA 60 (va_up (s60.2 60) (2 : Int).toNat ((H - 1) - (a))) s60).2 6 0 = 2 := mA_1 (by decide) e6_0_60
              have e8_0_61 : (mA 60 (va_up (s60.2 60) (2 : Int).toNat ((H - 1) - (a))) s60).2 8 0 = 1 := mA_1 (by decide) e8_0_60
              have e10_0_61 : (mA 60 (va_up (s60.2 60) (2 : Int).toNat ((H - 1) - (a))) s60).2 10 0 = 0 := mA_1 (by decide) e10_0_60
              have e11_0_61 : (mA 60 (va_up (s60.2 60) (2 : Int).toNat ((H - 1) - (a))) s60).2 11 0 = 0 := mA_1 (by decide) e11_0_60
              have e15_0_61 : (mA 60 (va_up (s60.2 60) (2 : Int).toNat ((H - 1) - (a))) s60).2 15 0 = 0 := mA_1 (by decide) e15_0_60
              have e59_0_61 : (mA 60 (va_up (s60.2 60) (2 : Int).toNat ((H - 1) - (a))) s60).2 59 0 = w := mA_1 (by decide) e59_0_60
              have e60_0_61 : (mA 60 (va_up (s60.2 60) (2 : Int).toNat ((H - 1) - (a))) s60).2 60 0 = H := mA_2 (l := 2) (by decide) e60_0_60
              have e12_0_61 : (mA 60 (va_up (s60.2 60) (2 : Int).toNat ((H - 1) - (a))) s60).2 12 0 = w := mA_1 (by decide) e12_0_60
              have e13_0_61 : (mA 60 (va_up (s60.2 60) (2 : Int).toNat ((H - 1) - (a))) s60).2 13 0 = H := mA_1 (by decide) e13_0_60
              have e10_1_61 : (mA 60 (va_up (s60.2 60) (2 : Int).toNat ((H - 1) - (a))) s60).2 10 1 = 0 := mA_1 (by decide) e10_1_60
              have e11_1_61 : (mA 60 (va_up (s60.2 60) (2 : Int).toNat ((H - 1) - (a))) s60).2 11 1 = 0 := mA_1 (by decide) e11_1_60
              have e59_1_61 : (mA 60 (va_up (s60.2 60) (2 : Int).toNat ((H - 1) - (a))) s60).2 59 1 = w := mA_1 (by decide) e59_1_60
              have e60_1_61 : (mA 60 (va_up (s60.2 60) (2 : Int).toNat ((H - 1) - (a))) s60).2 60 1 = a := mA_2 (l := 2) (by decide) e60_1_60
              have e10_2_61 : (mA 60 (va_up (s60.2 60) (2 : Int).toNat ((H - 1) - (a))) s60).2 10 2 = 0 := mA_1 (by decide) e10_2_60
              have e11_2_61 : (mA 60 (va_up (s60.2 60) (2 : Int).toNat ((H - 1) - (a))) s60).2 11 2 = (0 + a) + (1) := mA_1 (by decide) e11_2_60
              have e59_2_61 : (mA 60 (va_up (s60.2 60) (2 : Int).toNat ((H - 1) - (a))) s60).2 59 2 = w := mA_1 (by decide) e59_2_60
              have e60_2_61 : (mA 60 (va_up (s60.2 60) (2 : Int).toNat ((H - 1) - (a))) s60).2 60 2 = (H - 1) - (a) := mA_3 (l := 2)
              have hv61 : (mA 60 (va_up (s60.2 60) (2 : Int).toNat ((H - 1) - (a))) s60).1 = s.1 := hv60
              have rg0_61 : mRg (mA 60 (va_up (s60.2 60) (2 : Int).toNat ((H - 1) - (a))) s60) 0 := mRg_A (by decide) rg0_60
              have rg1_61 : mRg (mA 60 (va_up (s60.2 60) (2 : Int).toNat ((H - 1) - (a))) s60) 1 := mRg_A (by decide) rg1_60
              revert hA61 hF61 e4_1_61 e4_2_61 e5_0_61 e6_0_61 e8_0_61 e10_0_61 e11_0_61 e15_0_61 e59_0_61 e60_0_61 e12_0_61 e13_0_61 e10_1_61 e11_1_61 e59_1_61 e60_1_61 e10_2_61 e11_2_61 e59_2_61 e60_2_61 hv61 rg0_61 rg1_61
              generalize (mA 60 (va_up (s60.2 60) (2 : Int).toNat ((H - 1) - (a))) s60) = s61
              generalize (va_up h60 (B + 49) (pz_z 0 16 (va_up (s60.2 60) (2 : Int).toNat ((H - 1) - (a))))) = h61
              intro hA61 hF61 e4_1_61 e4_2_61 e5_0_61 e6_0_61 e8_0_61 e10_0_61 e11_0_61 e15_0_61 e59_0_61 e60_0_61 e12_0_61 e13_0_61 e10_1_61 e11_1_61 e59_1_61 e60_1_61 e10_2_61 e11_2_61 e59_2_61 e60_2_61 hv61 rg0_61 rg1_61
              clear e4_1_60 e4_2_60 e5_0_60 e6_0_60 e8_0_60 e10_0_60 e11_0_60 e15_0_60 e59_0_60 e60_0_60 e12_0_60 e13_0_60 e10_1_60 e11_1_60 e59_1_60 e60_1_60 e10_2_60 e11_2_60 e59_2_60 rg0_60 rg1_60 hv60 hF60 hA60
              refine pw_aload_n dX10_lay_518 rfl ?_
              refine pw_get (v := .ref (B + 12)) okX10 (k := 15) (by decide) lkX10_44 hA61.1 rfl dX10_lay_519 ?_
              refine pw_iload dX10_lay_522 rfl ?_
              refine pw_iload dX10_lay_524 rfl ?_
              refine pw_iast (g := (s61.2 15)) (t := 0) rfl (mF15 (s := s61) hA61) (by omega) (by decide) dX10_lay_526 ?_
              have hA62 : mAt B (mA 15 (va_up (s61.2 15) (0 : Int).toNat (1)) s61) (va_up h61 (B + 12) (pz_z 0 16 (va_up (s61.2 15) (0 : Int).toNat (1)))) := mU15 hA61
              have hF62 : mFr B h (va_up h61 (B + 12) (pz_z 0 16 (va_up (s61.2 15) (0 : Int).toNat (1)))) := mFr_tr hF61 (mFr_up (by decide))
              have e4_1_62 : (mA 15 (va_up (s61.2 15) (0 : Int).toNat (1)) s61).2 4 1 = 0 := mA_1 (by decide) e4_1_61
              have e4_2_62 : (mA 15 (va_up (s61.2 15) (0 : Int).toNat (1)) s61).2 4 2 = 1 := mA_1 (by decide) e4_2_61
              have e5_0_62 : (mA 15 (va_up (s61.2 15) (0 : Int).toNat (1)) s61).2 5 0 = 1 := mA_1 (by decide) e5_0_61
              have e6_0_62 : (mA 15 (va_up (s61.2 15) (0 : Int).toNat (1)) s61).2 6 0 = 2 := mA_1 (by decide) e6_0_61
              have e8_0_62 : (mA 15 (va_up (s61.2 15) (0 : Int).toNat (1)) s61).2 8 0 = 1 := mA_1 (by decide) e8_0_61
              have e10_0_62 : (mA 15 (va_up (s61.2 15) (0 : Int).toNat (1)) s61).2 10 0 = 0 := mA_1 (by decide) e10_0_61
              have e11_0_62 : (mA 15 (va_up (s61.2 15) (0 : Int).toNat (1)) s61).2 11 0 = 0 := mA_1 (by decide) e11_0_61
              have e59_0_62 : (mA 15 (va_up (s61.2 15) (0 : Int).toNat (1)) s61).2 59 0 = w := mA_1 (by decide) e59_0_61
              have e60_0_62 : (mA 15 (va_up (s61.2 15) (0 : Int).toNat (1)) s61).2 60 0 = H := mA_1 (by decide) e60_0_61
              have e12_0_62 : (mA 15 (va_up (s61.2 15) (0 : Int).toNat (1)) s61).2 12 0 = w := mA_1 (by decide) e12_0_61
              have e13_0_62 : (mA 15 (va_up (s61.2 15) (0 : Int).toNat (1)) s61).2 13 0 = H := mA_1 (by decide) e13_0_61
              have e10_1_62 : (mA 15 (va_up (s61.2 15) (0 : Int).toNat (1)) s61).2 10 1 = 0 := mA_1 (by decide) e10_1_61
              have e11_1_62 : (mA 15 (va_up (s61.2 15) (0 : Int).toNat (1)) s61).2 11 1 = 0 := mA_1 (by decide) e11_1_61
              have e59_1_62 : (mA 15 (va_up (s61.2 15) (0 : Int).toNat (1)) s61).2 59 1 = w := mA_1 (by decide) e59_1_61
              have e60_1_62 : (mA 15 (va_up (s61.2 15) (0 : Int).toNat (1)) s61).2 60 1 = a := mA_1 (by decide) e60_1_61
              have e10_2_62 : (mA 15 (va_up (s61.2 15) (0 : Int).toNat (1)) s61).2 10 2 = 0 := mA_1 (by decide) e10_2_61
              have e11_2_62 : (mA 15 (va_up (s61.2 15) (0 : Int).toNat (1)) s61).2 11 2 = (0 + a) + (1) := mA_1 (by decide) e11_2_61
              have e59_2_62 : (mA 15 (va_up (s61.2 15) (0 : Int).toNat (1)) s61).2 59 2 = w := mA_1 (by decide) e59_2_61
              have e60_2_62 : (mA 15 (va_up (s61.2 15) (0 : Int).toNat (1)) s61).2 60 2 = (H - 1) - (a) := mA_1 (by decide) e60_2_61
              have e15_0_62 : (mA 15 (va_up (s61.2 15) (0 : Int).toNat (1)) s61).2 15 0 = 1 := mA_3 (l := 0)
              have hv62 : (mA 15 (va_up (s61.2 15) (0 : Int).toNat (1)) s61).1 = s.1 := hv61
              have rg0_62 : mRg (mA 15 (va_up (s61.2 15) (0 : Int).toNat (1)) s61) 0 := mRg_A (by decide) rg0_61
              have rg1_62 : mRg (mA 15 (va_up (s61.2 15) (0 : Int).toNat (1)) s61) 1 := mRg_A (by decide) rg1_61
              revert hA62 hF62 e4_1_62 e4_2_62 e5_0_62 e6_0_62 e8_0_62 e10_0_62 e11_0_62 e59_0_62 e60_0_62 e12_0_62 e13_0_62 e10_1_62 e11_1_62 e59_1_62 e60_1_62 e10_2_62 e11_2_62 e59_2_62 e60_2_62 e15_0_62 hv62 rg0_62 rg1_62
              generalize (mA 15 (va_up (s61.2 15) (0 : Int).toNat (1)) s61) = s62
              generalize (va_up h61 (B + 12) (pz_z 0 16 (va_up (s61.2 15) (0 : Int).toNat (1)))) = h62
              intro hA62 hF62 e4_1_62 e4_2_62 e5_0_62 e6_0_62 e8_0_62 e10_0_62 e11_0_62 e59_0_62 e60_0_62 e12_0_62 e13_0_62 e10_1_62 e11_1_62 e59_1_62 e60_1_62 e10_2_62 e11_2_62 e59_2_62 e60_2_62 e15_0_62 hv62 rg0_62 rg1_62
              clear e4_1_61 e4_2_61 e5_0_61 e6_0_61 e8_0_61 e10_0_61 e11_0_61 e15_0_61 e59_0_61 e60_0_61 e12_0_61 e13_0_61 e10_1_61 e11_1_61 e59_1_61 e60_1_61 e10_2_61 e11_2_61 e59_2_61 e60_2_61 rg0_61 rg1_61 hv61 hF61 hA61
              refine pw_aload_n dX10_lay_527 rfl ?_
              refine pw_get (v := .ref (B + 12)) okX10 (k := 15) (by decide) lkX10_44 hA62.1 rfl dX10_lay_528 ?_
              refine pw_iload dX10_lay_531 rfl ?_
              refine pw_iconst (v := zI (1)) dX10_lay_533 (by decide) ?_
              refine pw_ziadd dX10_lay_534 ?_
              show pw E YX10_lay _ _ 0 0 535 [some (.ref B), some (.int (zI (0))), some (.int (zI (0))), some (.int (zI (0))), some (.int (zI (w))), some (.int (zI (H))), some (.int (zI (0))), some (.int (zI (0))), some (.int (zI (H))), some (.int (zI (H))), some (.int (zI (a))), some (.int (zI (1))), some (.int (zI (2)))] [.int (zI (1)), .ref (B + 12)] h62 n
              refine pw_iload dX10_lay_535 rfl ?_
              refine pw_iast (g := (s62.2 15)) (t := 0) rfl (mF15 (s := s62) hA62) (by omega) (by decide) dX10_lay_537 ?_
              have hA63 : mAt B (mA 15 (va_up (s62.2 15) (1 : Int).toNat (2)) s62) (va_up h62 (B + 12) (pz_z 0 16 (va_up (s62.2 15) (1 : Int).toNat (2)))) := mU15 hA62
              have hF63 : mFr B h (va_up h62 (B + 12) (pz_z 0 16 (va_up (s62.2 15) (1 : Int).toNat (2)))) := mFr_tr hF62 (mFr_up (by decide))
              have e4_1_63 : (mA 15 (va_up (s62.2 15) (1 : Int).toNat (2)) s62).2 4 1 = 0 := mA_1 (by decide) e4_1_62
              have e4_2_63 : (mA 15 (va_up (s62.2 15) (1 : Int).toNat (2)) s62).2 4 2 = 1 := mA_1 (by decide) e4_2_62
              have e5_0_63 : (mA 15 (va_up (s62.2 15) (1 : Int).toNat (2)) s62).2 5 0 = 1 := mA_1 (by decide) e5_0_62
              have e6_0_63 : (mA 15 (va_up (s62.2 15) (1 : Int).toNat (2)) s62).2 6 0 = 2 := mA_1 (by decide) e6_0_62
              have e8_0_63 : (mA 15 (va_up (s62.2 15) (1 : Int).toNat (2)) s62).2 8 0 = 1 := mA_1 (by decide) e8_0_62
              have e10_0_63 : (mA 15 (va_up (s62.2 15) (1 : Int).toNat (2)) s62).2 10 0 = 0 := mA_1 (by decide) e10_0_62
              have e11_0_63 : (mA 15 (va_up (s62.2 15) (1 : Int).toNat (2)) s62).2 11 0 = 0 := mA_1 (by decide) e11_0_62
              have e59_0_63 : (mA 15 (va_up (s62.2 15) (1 : Int).toNat (2)) s62).2 59 0 = w := mA_1 (by decide) e59_0_62
              have e60_0_63 : (mA 15 (va_up (s62.2 15) (1 : Int).toNat (2)) s62).2 60 0 = H := mA_1 (by decide) e60_0_62
              have e12_0_63 : (mA 15 (va_up (s62.2 15) (1 : Int).toNat (2)) s62).2 12 0 = w := mA_1 (by decide) e12_0_62
              have e13_0_63 : (mA 15 (va_up (s62.2 15) (1 : Int).toNat (2)) s62).2 13 0 = H := mA_1 (by decide) e13_0_62
              have e10_1_63 : (mA 15 (va_up (s62.2 15) (1 : Int).toNat (2)) s62).2 10 1 = 0 := mA_1 (by decide) e10_1_62
              have e11_1_63 : (mA 15 (va_up (s62.2 15) (1 : Int).toNat (2)) s62).2 11 1 = 0 := mA_1 (by decide) e11_1_62
              have e59_1_63 : (mA 15 (va_up (s62.2 15) (1 : Int).toNat (2)) s62).2 59 1 = w := mA_1 (by decide) e59_1_62
              have e60_1_63 : (mA 15 (va_up (s62.2 15) (1 : Int).toNat (2)) s62).2 60 1 = a := mA_1 (by decide) e60_1_62
              have e10_2_63 : (mA 15 (va_up (s62.2 15) (1 : Int).toNat (2)) s62).2 10 2 = 0 := mA_1 (by decide) e10_2_62
              have e11_2_63 : (mA 15 (va_up (s62.2 15) (1 : Int).toNat (2)) s62).2 11 2 = (0 + a) + (1) := mA_1 (by decide) e11_2_62
              have e59_2_63 : (mA 15 (va_up (s62.2 15) (1 : Int).toNat (2)) s62).2 59 2 = w := mA_1 (by decide) e59_2_62
              have e60_2_63 : (mA 15 (va_up (s62.2 15) (1 : Int).toNat (2)) s62).2 60 2 = (H - 1) - (a) := mA_1 (by decide) e60_2_62
              have e15_0_63 : (mA 15 (va_up (s62.2 15) (1 : Int).toNat (2)) s62).2 15 0 = 1 := mA_2 (l := 1) (by decide) e15_0_62
              have e15_1_63 : (mA 15 (va_up (s62.2 15) (1 : Int).toNat (2)) s62).2 15 1 = 2 := mA_3 (l := 1)
              have hv63 : (mA 15 (va_up (s62.2 15) (1 : Int).toNat (2)) s62).1 = s.1 := hv62
              have rg0_63 : mRg (mA 15 (va_up (s62.2 15) (1 : Int).toNat (2)) s62) 0 := mRg_A (by decide) rg0_62
              have rg1_63 : mRg (mA 15 (va_up (s62.2 15) (1 : Int).toNat (2)) s62) 1 := mRg_A (by decide) rg1_62
              revert hA63 hF63 e4_1_63 e4_2_63 e5_0_63 e6_0_63 e8_0_63 e10_0_63 e11_0_63 e59_0_63 e60_0_63 e12_0_63 e13_0_63 e10_1_63 e11_1_63 e59_1_63 e60_1_63 e10_2_63 e11_2_63 e59_2_63 e60_2_63 e15_0_63 e15_1_63 hv63 rg0_63 rg1_63
              generalize (mA 15 (va_up (s62.2 15) (1 : Int).toNat (2)) s62) = s63
              generalize (va_up h62 (B + 12) (pz_z 0 16 (va_up (s62.2 15) (1 : Int).toNat (2)))) = h63
              intro hA63 hF63 e4_1_63 e4_2_63 e5_0_63 e6_0_63 e8_0_63 e10_0_63 e11_0_63 e59_0_63 e60_0_63 e12_0_63 e13_0_63 e10_1_63 e11_1_63 e59_1_63 e60_1_63 e10_2_63 e11_2_63 e59_2_63 e60_2_63 e15_0_63 e15_1_63 hv63 rg0_63 rg1_63
              clear e4_1_62 e4_2_62 e5_0_62 e6_0_62 e8_0_62 e10_0_62 e11_0_62 e59_0_62 e60_0_62 e12_0_62 e13_0_62 e10_1_62 e11_1_62 e59_1_62 e60_1_62 e10_2_62 e11_2_62 e59_2_62 e60_2_62 e15_0_62 rg0_62 rg1_62 hv62 hF62 hA62
              refine pw_iload dX10_lay_538 rfl ?_
              refine pw_iconst (v := zI (2)) dX10_lay_540 (by decide) ?_
              refine pw_ziadd dX10_lay_541 ?_
              show pw E YX10_lay _ _ 0 0 542 [some (.ref B), some (.int (zI (0))), some (.int (zI (0))), some (.int (zI (0))), some (.int (zI (w))), some (.int (zI (H))), some (.int (zI (0))), some (.int (zI (0))), some (.int (zI (H))), some (.int (zI (H))), some (.int (zI (a))), some (.int (zI (1))), some (.int (zI (2)))] [.int (zI (2))] h63 n
              refine pw_istore (lv' := [some (.ref B), some (.int (zI (0))), some (.int (zI (0))), some (.int (zI (0))), some (.int (zI (w))), some (.int (zI (H))), some (.int (zI (2))), some (.int (zI (0))), some (.int (zI (H))), some (.int (zI (H))), some (.int (zI (a))), some (.int (zI (1))), some (.int (zI (2)))]) dX10_lay_542 (by decide) rfl rfl ?_
              refine pw_goto (tgt := 40) dX10_lay_544 rfl ?_
              refine pw_iload dX10_lay_40 rfl ?_
              refine pw_if_le (tgt := 547) dX10_lay_42 rfl (by omega) (fun c42 => ?_) (fun c42 => ?_)
              · exfalso; omega
              ·
                refine pw_ziinc (lv' := [some (.ref B), some (.int (zI (0))), some (.int (zI (0))), some (.int (zI (0))), some (.int (zI (w))), some (.int (zI (H))), some (.int (zI (1))), some (.int (zI (0))), some (.int (zI (H))), some (.int (zI (H))), some (.int (zI (a))), some (.int (zI (1))), some (.int (zI (2)))]) dX10_lay_45 rfl (by decide) rfl rfl ?_
                refine pw_aload_n dX10_lay_48 rfl ?_
                refine pw_get (v := .ref (B + 12)) okX10 (k := 15) (by decide) lkX10_44 hA63.1 rfl dX10_lay_49 ?_
                refine pw_iload dX10_lay_52 rfl ?_
                refine pw_ialdv (v := 2) (t := 0) rfl (mF15 (s := s63) hA63) (by omega) (by decide) (e15_1_63) dX10_lay_54 ?_
                refine pw_istore (lv' := [some (.ref B), some (.int (zI (0))), some (.int (zI (0))), some (.int (zI (0))), some (.int (zI (w))), some (.int (zI (H))), some (.int (zI (1))), some (.int (zI (2))), some (.int (zI (H))), some (.int (zI (H))), some (.int (zI (a))), some (.int (zI (1))), some (.int (zI (2)))]) dX10_lay_55 (by decide) rfl rfl ?_
                refine pw_aload_n dX10_lay_57 rfl ?_
                refine pw_get (v := .ref (B + 2)) okX10 (k := 4) (by decide) lkX10_13 hA63.1 rfl dX10_lay_58 ?_
                refine pw_iload dX10_lay_61 rfl ?_
                refine pw_ialdv (v := 1) (t := 0) rfl (mF4 (s := s63) hA63) (by omega) (by decide) (e4_2_63) dX10_lay_63 ?_
                refine pw_iconst (v := zI (-1)) dX10_lay_64 (by decide) ?_
                refine pw_icmp_eq (tgt := 124) dX10_lay_65 rfl (by omega) (by omega) (fun c65 => ?_) (fun c65 => ?_)
                · exfalso; omega
                ·
                  refine pw_aload_n dX10_lay_68 rfl ?_
                  refine pw_get (v := .ref (B + 10)) okX10 (k := 12) (by decide) lkX10_38 hA63.1 rfl dX10_lay_69 ?_
                  refine pw_iload dX10_lay_72 rfl ?_
                  refine pw_aload_n dX10_lay_74 rfl ?_
                  refine pw_get (v := .ref (B + 48)) okX10 (k := 59) (by decide) lkX10_156 hA63.1 rfl dX10_lay_75 ?_
                  refine pw_iload dX10_lay_78 rfl ?_
                  refine pw_ialdv (v := w) (t := 0) rfl (mF59 (s := s63) hA63) (by omega) (by decide) (e59_2_63) dX10_lay_80 ?_
                  refine pw_iast (g := (s63.2 12)) (t := 0) rfl (mF12 (s := s63) hA63) (by omega) (by decide) dX10_lay_81 ?_
                  have hA64 : mAt B (mA 12 (va_up (s63.2 12) (2 : Int).toNat (w)) s63) (va_up h63 (B + 10) (pz_z 0 16 (va_up (s63.2 12) (2 : Int).toNat (w)))) := mU12 hA63
                  have hF64 : mFr B h (va_up h63 (B + 10) (pz_z 0 16 (va_up (s63.2 12) (2 : Int).toNat (w)))) := mFr_tr hF63 (mFr_up (by decide))
                  have e4_1_64 : (mA 12 (va_up (s63.2 12) (2 : Int).toNat (w)) s63).2 4 1 = 0 := mA_1 (by decide) e4_1_63
                  have e4_2_64 : (mA 12 (va_up (s63.2 12) (2 : Int).toNat (w)) s63).2 4 2 = 1 := mA_1 (by decide) e4_2_63
                  have e5_0_64 : (mA 12 (va_up (s63.2 12) (2 : Int).toNat (w)) s63).2 5 0 = 1 := mA_1 (by decide) e5_0_63
                  have e6_0_64 : (mA 12 (va_up (s63.2 12) (2 : Int).toNat (w)) s63).2 6 0 = 2 := mA_1 (by decide) e6_0_63
                  have e8_0_64 : (mA 12 (va_up (s63.2 12) (2 : Int).toNat (w)) s63).2 8 0 = 1 := mA_1 (by decide) e8_0_63
                  have e10_0_64 : (mA 12 (va_up (s63.2 12) (2 : Int).toNat (w)) s63).2 10 0 = 0 := mA_1 (by decide) e10_0_63
                  have e11_0_64 : (mA 12 (va_up (s63.2 12) (2 : Int).toNat (w)) s63).2 11 0 = 0 := mA_1 (by decide) e11_0_63
                  have e59_0_64 : (mA 12 (va_up (s63.2 12) (2 : Int).toNat (w)) s63).2 59 0 = w := mA_1 (by decide) e59_0_63
                  have e60_0_64 : (mA 12 (va_up (s63.2 12) (2 : Int).toNat (w)) s63).2 60 0 = H := mA_1 (by decide) e60_0_63
                  have e12_0_64 : (mA 12 (va_up (s63.2 12) (2 : Int).toNat (w)) s63).2 12 0 = w := mA_2 (l := 2) (by decide) e12_0_63
                  have e13_0_64 : (mA 12 (va_up (s63.2 12) (2 : Int).toNat (w)) s63).2 13 0 = H := mA_1 (by decide) e13_0_63
                  have e10_1_64 : (mA 12 (va_up (s63.2 12) (2 : Int).toNat (w)) s63).2 10 1 = 0 := mA_1 (by decide) e10_1_63
                  have e11_1_64 : (mA 12 (va_up (s63.2 12) (2 : Int).toNat (w)) s63).2 11 1 = 0 := mA_1 (by decide) e11_1_63
                  have e59_1_64 : (mA 12 (va_up (s63.2 12) (2 : Int).toNat (w)) s63).2 59 1 = w := mA_1 (by decide) e59_1_63
                  have e60_1_64 : (mA 12 (va_up (s63.2 12) (2 : Int).toNat (w)) s63).2 60 1 = a := mA_1 (by decide) e60_1_63
                  have e10_2_64 : (mA 12 (va_up (s63.2 12) (2 : Int).toNat (w)) s63).2 10 2 = 0 := mA_1 (by decide) e10_2_63
                  have e11_2_64 : (mA 12 (va_up (s63.2 12) (2 : Int).toNat (w)) s63).2 11 2 = (0 + a) + (1) := mA_1 (by decide) e11_2_63
                  have e59_2_64 : (mA 12 (va_up (s63.2 12) (2 : Int).toNat (w)) s63).2 59 2 = w := mA_1 (by decide) e59_2_63
                  have e60_2_64 : (mA 12 (va_up (s63.2 12) (2 : Int).toNat (w)) s63).2 60 2 = (H - 1) - (a) := mA_1 (by decide) e60_2_63
                  have e15_0_64 : (mA 12 (va_up (s63.2 12) (2 : Int).toNat (w)) s63).2 15 0 = 1 := mA_1 (by decide) e15_0_63
                  have e15_1_64 : (mA 12 (va_up (s63.2 12) (2 : Int).toNat (w)) s63).2 15 1 = 2 := mA_1 (by decide) e15_1_63
                  have e12_2_64 : (mA 12 (va_up (s63.2 12) (2 : Int).toNat (w)) s63).2 12 2 = w := mA_3 (l := 2)
                  have hv64 : (mA 12 (va_up (s63.2 12) (2 : Int).toNat (w)) s63).1 = s.1 := hv63
                  have rg0_64 : mRg (mA 12 (va_up (s63.2 12) (2 : Int).toNat (w)) s63) 0 := mRg_A (by decide) rg0_63
                  have rg1_64 : mRg (mA 12 (va_up (s63.2 12) (2 : Int).toNat (w)) s63) 1 := mRg_A (by decide) rg1_63
                  revert hA64 hF64 e4_1_64 e4_2_64 e5_0_64 e6_0_64 e8_0_64 e10_0_64 e11_0_64 e59_0_64 e60_0_64 e12_0_64 e13_0_64 e10_1_64 e11_1_64 e59_1_64 e60_1_64 e10_2_64 e11_2_64 e59_2_64 e60_2_64 e15_0_64 e15_1_64 e12_2_64 hv64 rg0_64 rg1_64
                  generalize (mA 12 (va_up (s63.2 12) (2 : Int).toNat (w)) s63) = s64
                  generalize (va_up h63 (B + 10) (pz_z 0 16 (va_up (s63.2 12) (2 : Int).toNat (w)))) = h64
                  intro hA64 hF64 e4_1_64 e4_2_64 e5_0_64 e6_0_64 e8_0_64 e10_0_64 e11_0_64 e59_0_64 e60_0_64 e12_0_64 e13_0_64 e10_1_64 e11_1_64 e59_1_64 e60_1_64 e10_2_64 e11_2_64 e59_2_64 e60_2_64 e15_0_64 e15_1_64 e12_2_64 hv64 rg0_64 rg1_64
                  clear e4_1_63 e4_2_63 e5_0_63 e6_0_63 e8_0_63 e10_0_63 e11_0_63 e59_0_63 e60_0_63 e12_0_63 e13_0_63 e10_1_63 e11_1_63 e59_1_63 e60_1_63 e10_2_63 e11_2_63 e59_2_63 e60_2_63 e15_0_63 e15_1_63 rg0_63 rg1_63 hv63 hF63 hA63
                  refine pw_aload_n dX10_lay_82 rfl ?_
                  refine pw_get (v := .ref (B + 11)) okX10 (k := 13) (by decide) lkX10_41 hA64.1 rfl dX10_lay_83 ?_
                  refine pw_iload dX10_lay_86 rfl ?_
                  refine pw_aload_n dX10_lay_88 rfl ?_
                  refine pw_get (v := .ref (B + 49)) okX10 (k := 60) (by decide) lkX10_159 hA64.1 rfl dX10_lay_89 ?_
                  refine pw_iload dX10_lay_92 rfl ?_
                  refine pw_ialdv (v := (H - 1) - (a)) (t := 0) rfl (mF60 (s := s64) hA64) (by omega) (by decide) (e60_2_64) dX10_lay_94 ?_
                  refine pw_iast (g := (s64.2 13)) (t := 0) rfl (mF13 (s := s64) hA64) (by omega) (by decide) dX10_lay_95 ?_
                  have hA65 : mAt B (mA 13 (va_up (s64.2 13) (2 : Int).toNat ((H - 1) - (a))) s64) (va_up h64 (B + 11) (pz_z 0 16 (va_up (s64.2 13) (2 : Int).toNat ((H - 1) - (a))))) := mU13 hA64
                  have hF65 : mFr B h (va_up h64 (B + 11) (pz_z 0 16 (va_up (s64.2 13) (2 : Int).toNat ((H - 1) - (a))))) := mFr_tr hF64 (mFr_up (by decide))
                  have e4_1_65 : (mA 13 (va_up (s64.2 13) (2 : Int).toNat ((H - 1) - (a))) s64).2 4 1 = 0 := mA_1 (by decide) e4_1_64
                  have e4_2_65 : (mA 13 (va_up (s64.2 13) (2 : Int).toNat ((H - 1) - (a))) s64).2 4 2 = 1 := mA_1 (by decide) e4_2_64
                  have e5_0_65 : (mA 13 (va_up (s64.2 13) (2 : Int).toNat ((H - 1) - (a))) s64).2 5 0 = 1 := mA_1 (by decide) e5_0_64
                  have e6_0_65 : (mA 13 (va_up (s64.2 13) (2 : Int).toNat ((H - 1) - (a))) s64).2 6 0 = 2 := mA_1 (by decide) e6_0_64
                  have e8_0_65 : (mA 13 (va_up (s64.2 13) (2 : Int).toNat ((H - 1) - (a))) s64).2 8 0 = 1 := mA_1 (by decide) e8_0_64
                  have e10_0_65 : (mA 13 (va_up (s64.2 13) (2 : Int).toNat ((H - 1) - (a))) s64).2 10 0 = 0 := mA_1 (by decide) e10_0_64
                  have e11_0_65 : (mA 13 (va_up (s64.2 13) (2 : Int).toNat ((H - 1) - (a))) s64).2 11 0 = 0 := mA_1 (by decide) e11_0_64
                  have e59_0_65 : (mA 13 (va_up (s64.2 13) (2 : Int).toNat ((H - 1) - (a))) s64).2 59 0 = w := mA_1 (by decide) e59_0_64
                  have e60_0_65 : (mA 13 (va_up (s64.2 13) (2 : Int).toNat ((H - 1) - (a))) s64).2 60 0 = H := mA_1 (by decide) e60_0_64
                  have e12_0_65 : (mA 13 (va_up (s64.2 13) (2 : Int).toNat ((H - 1) - (a))) s64).2 12 0 = w := mA_1 (by decide) e12_0_64
                  have e13_0_65 : (mA 13 (va_up (s64.2 13) (2 : Int).toNat ((H - 1) - (a))) s64).2 13 0 = H := mA_2 (l := 2) (by decide) e13_0_64
                  have e10_1_65 : (mA 13 (va_up (s64.2 13) (2 : Int).toNat ((H - 1) - (a))) s64).2 10 1 = 0 := mA_1 (by decide) e10_1_64
                  have e11_1_65 : (mA 13 (va_up (s64.2 13) (2 : Int).toNat ((H - 1) - (a))) s64).2 11 1 = 0 := mA_1 (by decide) e11_1_64
                  have e59_1_65 : (mA 13 (va_up (s64.2 13) (2 : Int).toNat ((H - 1) - (a))) s64).2 59 1 = w := mA_1 (by decide) e59_1_64
                  have e60_1_65 : (mA 13 (va_up (s64.2 13) (2 : Int).toNat ((H - 1) - (a))) s64).2 60 1 = a := mA_1 (by decide) e60_1_64
                  have e10_2_65 : (mA 13 (va_up (s64.2 13) (2 : Int).toNat ((H - 1) - (a))) s64).2 10 2 = 0 := mA_1 (by decide) e10_2_64
                  have e11_2_65 : (mA 13 (va_up (s64.2 13) (2 : Int).toNat ((H - 1) - (a))) s64).2 11 2 = (0 + a) + (1) := mA_1 (by decide) e11_2_64
                  have e59_2_65 : (mA 13 (va_up (s64.2 13) (2 : Int).toNat ((H - 1) - (a))) s64).2 59 2 = w := mA_1 (by decide) e59_2_64
                  have e60_2_65 : (mA 13 (va_up (s64.2 13) (2 : Int).toNat ((H - 1) - (a))) s64).2 60 2 = (H - 1) - (a) := mA_1 (by decide) e60_2_64
                  have e15_0_65 : (mA 13 (va_up (s64.2 13) (2 : Int).toNat ((H - 1) - (a))) s64).2 15 0 = 1 := mA_1 (by decide) e15_0_64
                  have e15_1_65 : (mA 13 (va_up (s64.2 13) (2 : Int).toNat ((H - 1) - (a))) s64).2 15 1 = 2 := mA_1 (by decide) e15_1_64
                  have e12_2_65 : (mA 13 (va_up (s64.2 13) (2 : Int).toNat ((H - 1) - (a))) s64).2 12 2 = w := mA_1 (by decide) e12_2_64
                  have e13_2_65 : (mA 13 (va_up (s64.2 13) (2 : Int).toNat ((H - 1) - (a))) s64).2 13 2 = (H - 1) - (a) := mA_3 (l := 2)
                  have hv65 : (mA 13 (va_up (s64.2 13) (2 : Int).toNat ((H - 1) - (a))) s64).1 = s.1 := hv64
                  have rg0_65 : mRg (mA 13 (va_up (s64.2 13) (2 : Int).toNat ((H - 1) - (a))) s64) 0 := mRg_A (by decide) rg0_64
                  have rg1_65 : mRg (mA 13 (va_up (s64.2 13) (2 : Int).toNat ((H - 1) - (a))) s64) 1 := mRg_A (by decide) rg1_64
                  revert hA65 hF65 e4_1_65 e4_2_65 e5_0_65 e6_0_65 e8_0_65 e10_0_65 e11_0_65 e59_0_65 e60_0_65 e12_0_65 e13_0_65 e10_1_65 e11_1_65 e59_1_65 e60_1_65 e10_2_65 e11_2_65 e59_2_65 e60_2_65 e15_0_65 e15_1_65 e12_2_65 e13_2_65 hv65 rg0_65 rg1_65
                  generalize (mA 13 (va_up (s64.2 13) (2 : Int).toNat ((H - 1) - (a))) s64) = s65
                  generalize (va_up h64 (B + 11) (pz_z 0 16 (va_up (s64.2 13) (2 : Int).toNat ((H - 1) - (a))))) = h65
                  intro hA65 hF65 e4_1_65 e4_2_65 e5_0_65 e6_0_65 e8_0_65 e10_0_65 e11_0_65 e59_0_65 e60_0_65 e12_0_65 e13_0_65 e10_1_65 e11_1_65 e59_1_65 e60_1_65 e10_2_65 e11_2_65 e59_2_65 e60_2_65 e15_0_65 e15_1_65 e12_2_65 e13_2_65 hv65 rg0_65 rg1_65
                  clear e4_1_64 e4_2_64 e5_0_64 e6_0_64 e8_0_64 e10_0_64 e11_0_64 e59_0_64 e60_0_64 e12_0_64 e13_0_64 e10_1_64 e11_1_64 e59_1_64 e60_1_64 e10_2_64 e11_2_64 e59_2_64 e60_2_64 e15_0_64 e15_1_64 e12_2_64 rg0_64 rg1_64 hv64 hF64 hA64
                  refine pw_aload_n dX10_lay_96 rfl ?_
                  refine pw_aload_n dX10_lay_97 rfl ?_
                  refine pw_get (v := .ref (B + 2)) okX10 (k := 4) (by decide) lkX10_13 hA65.1 rfl dX10_lay_98 ?_
                  refine pw_iload dX10_lay_101 rfl ?_
                  refine pw_ialdv (v := 1) (t := 0) rfl (mF4 (s := s65) hA65) (by omega) (by decide) (e4_2_65) dX10_lay_103 ?_
                  refine pw_aload_n dX10_lay_104 rfl ?_
                  refine pw_get (v := .ref (B + 10)) okX10 (k := 12) (by decide) lkX10_38 hA65.1 rfl dX10_lay_105 ?_
                  refine pw_iload dX10_lay_108 rfl ?_
                  refine pw_ialdv (v := w) (t := 0) rfl (mF12 (s := s65) hA65) (by omega) (by decide) (e12_2_65) dX10_lay_110 ?_
                  refine pw_aload_n dX10_lay_111 rfl ?_
                  refine pw_get (v := .ref (B + 11)) okX10 (k := 13) (by decide) lkX10_41 hA65.1 rfl dX10_lay_112 ?_
                  refine pw_iload dX10_lay_115 rfl ?_
                  refine pw_ialdv (v := (H - 1) - (a)) (t := 0) rfl (mF13 (s := s65) hA65) (by omega) (by decide) (e13_2_65) dX10_lay_117 ?_
                  refine pw_callV (As := [.int (zI (1)), .int (zI (w)), .int (zI ((H - 1) - (a)))]) (b := B) (rm := rmD 1 0 0) (nR_resize (p := 1) htr hA65 (by omega) rg1_65 (by omega) (by omega)) rfl hA65.1 rfl rfl ywX10_resize rfl cwX10_196 ⟨nle rfl, nle rfl⟩ (nle rfl) ⟨nle rfl, nle rfl⟩ dX10_lay_118 ?_ (fun _ _ _ z => z.elim)
                  intro r_9 h66 n_9 hq _
                  obtain ⟨e1, g66, hA66, hRo66, hRg66, hF660, e4⟩ := hq
                  rw [e1, e4]
                  show pw E YX10_lay _ _ 0 0 121 [some (.ref B), some (.int (zI (0))), some (.int (zI (0))), some (.int (zI (0))), some (.int (zI (w))), some (.int (zI (H))), some (.int (zI (1))), some (.int (zI (2))), some (.int (zI (H))), some (.int (zI (H))), some (.int (zI (a))), some (.int (zI (1))), some (.int (zI (2)))] [] h66 n
                  have hF66 := mFr_tr hF65 hF660
                  clear e1 e4
                  have e4_1_66 : (mG s65 g66).2 4 1 = 0 := mG_1 (by decide) e4_1_65
                  have e4_2_66 : (mG s65 g66).2 4 2 = 1 := mG_1 (by decide) e4_2_65
                  have e5_0_66 : (mG s65 g66).2 5 0 = 1 := mG_1 (by decide) e5_0_65
                  have e6_0_66 : (mG s65 g66).2 6 0 = 2 := mG_1 (by decide) e6_0_65
                  have e8_0_66 : (mG s65 g66).2 8 0 = 1 := mG_1 (by decide) e8_0_65
                  have e10_0_66 : (mG s65 g66).2 10 0 = 0 := mG_1 (by decide) e10_0_65
                  have e11_0_66 : (mG s65 g66).2 11 0 = 0 := mG_1 (by decide) e11_0_65
                  have e59_0_66 : (mG s65 g66).2 59 0 = w := mG_1 (by decide) e59_0_65
                  have e60_0_66 : (mG s65 g66).2 60 0 = H := mG_1 (by decide) e60_0_65
                  have e12_0_66 : (mG s65 g66).2 12 0 = w := mG_1 (by decide) e12_0_65
                  have e13_0_66 : (mG s65 g66).2 13 0 = H := mG_1 (by decide) e13_0_65
                  have e10_1_66 : (mG s65 g66).2 10 1 = 0 := mG_1 (by decide) e10_1_65
                  have e11_1_66 : (mG s65 g66).2 11 1 = 0 := mG_1 (by decide) e11_1_65
                  have e59_1_66 : (mG s65 g66).2 59 1 = w := mG_1 (by decide) e59_1_65
                  have e60_1_66 : (mG s65 g66).2 60 1 = a := mG_1 (by decide) e60_1_65
                  have e10_2_66 : (mG s65 g66).2 10 2 = 0 := mG_1 (by decide) e10_2_65
                  have e11_2_66 : (mG s65 g66).2 11 2 = (0 + a) + (1) := mG_1 (by decide) e11_2_65
                  have e59_2_66 : (mG s65 g66).2 59 2 = w := mG_1 (by decide) e59_2_65
                  have e60_2_66 : (mG s65 g66).2 60 2 = (H - 1) - (a) := mG_1 (by decide) e60_2_65
                  have e15_0_66 : (mG s65 g66).2 15 0 = 1 := mG_1 (by decide) e15_0_65
                  have e15_1_66 : (mG s65 g66).2 15 1 = 2 := mG_1 (by decide) e15_1_65
                  have e12_2_66 : (mG s65 g66).2 12 2 = w := mG_1 (by decide) e12_2_65
                  have e13_2_66 : (mG s65 g66).2 13 2 = (H - 1) - (a) := mG_1 (by decide) e13_2_65
                  have hv66 : (mG s65 g66).1 = s.1 := hv65
                  have rg0_66 : mRg (mG s65 g66) 0 := mRg_o rg0_65 hRo66 (by decide)
                  revert hA66 hRo66 hRg66 e4_1_66 e4_2_66 e5_0_66 e6_0_66 e8_0_66 e10_0_66 e11_0_66 e59_0_66 e60_0_66 e12_0_66 e13_0_66 e10_1_66 e11_1_66 e59_1_66 e60_1_66 e10_2_66 e11_2_66 e59_2_66 e60_2_66 e15_0_66 e15_1_66 e12_2_66 e13_2_66 hv66 rg0_66
                  generalize (mG s65 g66) = s66
                  intro hA66 hRo66 hRg66 e4_1_66 e4_2_66 e5_0_66 e6_0_66 e8_0_66 e10_0_66 e11_0_66 e59_0_66 e60_0_66 e12_0_66 e13_0_66 e10_1_66 e11_1_66 e59_1_66 e60_1_66 e10_2_66 e11_2_66 e59_2_66 e60_2_66 e15_0_66 e15_1_66 e12_2_66 e13_2_66 hv66 rg0_66
                  clear e4_1_65 e4_2_65 e5_0_65 e6_0_65 e8_0_65 e10_0_65 e11_0_65 e59_0_65 e60_0_65 e12_0_65 e13_0_65 e10_1_65 e11_1_65 e59_1_65 e60_1_65 e10_2_65 e11_2_65 e59_2_65 e60_2_65 e15_0_65 e15_1_65 e12_2_65 e13_2_65 rg0_65 rg1_65 hv65 hF65 hA65 hF660
                  refine pw_goto (tgt := 40) dX10_lay_121 rfl ?_
                  refine pw_iload dX10_lay_40 rfl ?_
                  refine pw_if_le (tgt := 547) dX10_lay_42 rfl (by omega) (fun c42 => ?_) (fun c42 => ?_)
                  · exfalso; omega
                  ·
                    refine pw_ziinc (lv' := [some (.ref B), some (.int (zI (0))), some (.int (zI (0))), some (.int (zI (0))), some (.int (zI (w))), some (.int (zI (H))), some (.int (zI (0))), some (.int (zI (2))), some (.int (zI (H))), some (.int (zI (H))), some (.int (zI (a))), some (.int (zI (1))), some (.int (zI (2)))]) dX10_lay_45 rfl (by decide) rfl rfl ?_
                    refine pw_aload_n dX10_lay_48 rfl ?_
                    refine pw_get (v := .ref (B + 12)) okX10 (k := 15) (by decide) lkX10_44 hA66.1 rfl dX10_lay_49 ?_
                    refine pw_iload dX10_lay_52 rfl ?_
                    refine pw_ialdv (v := 1) (t := 0) rfl (mF15 (s := s66) hA66) (by omega) (by decide) (e15_0_66) dX10_lay_54 ?_
                    refine pw_istore (lv' := [some (.ref B), some (.int (zI (0))), some (.int (zI (0))), some (.int (zI (0))), some (.int (zI (w))), some (.int (zI (H))), some (.int (zI (0))), some (.int (zI (1))), some (.int (zI (H))), some (.int (zI (H))), some (.int (zI (a))), some (.int (zI (1))), some (.int (zI (2)))]) dX10_lay_55 (by decide) rfl rfl ?_
                    refine pw_aload_n dX10_lay_57 rfl ?_
                    refine pw_get (v := .ref (B + 2)) okX10 (k := 4) (by decide) lkX10_13 hA66.1 rfl dX10_lay_58 ?_
                    refine pw_iload dX10_lay_61 rfl ?_
                    refine pw_ialdv (v := 0) (t := 0) rfl (mF4 (s := s66) hA66) (by omega) (by decide) (e4_1_66) dX10_lay_63 ?_
                    refine pw_iconst (v := zI (-1)) dX10_lay_64 (by decide) ?_
                    refine pw_icmp_eq (tgt := 124) dX10_lay_65 rfl (by omega) (by omega) (fun c65 => ?_) (fun c65 => ?_)
                    · exfalso; omega
                    ·
                      refine pw_aload_n dX10_lay_68 rfl ?_
                      refine pw_get (v := .ref (B + 10)) okX10 (k := 12) (by decide) lkX10_38 hA66.1 rfl dX10_lay_69 ?_
                      refine pw_iload dX10_lay_72 rfl ?_
                      refine pw_aload_n dX10_lay_74 rfl ?_
                      refine pw_get (v := .ref (B + 48)) okX10 (k := 59) (by decide) lkX10_156 hA66.1 rfl dX10_lay_75 ?_
                      refine pw_iload dX10_lay_78 rfl ?_
                      refine pw_ialdv (v := w) (t := 0) rfl (mF59 (s := s66) hA66) (by omega) (by decide) (e59_1_66) dX10_lay_80 ?_
                      refine pw_iast (g := (s66.2 12)) (t := 0) rfl (mF12 (s := s66) hA66) (by omega) (by decide) dX10_lay_81 ?_
                      have hA67 : mAt B (mA 12 (va_up (s66.2 12) (1 : Int).toNat (w)) s66) (va_up h66 (B + 10) (pz_z 0 16 (va_up (s66.2 12) (1 : Int).toNat (w)))) := mU12 hA66
                      have hF67 : mFr B h (va_up h66 (B + 10) (pz_z 0 16 (va_up (s66.2 12) (1 : Int).toNat (w)))) := mFr_tr hF66 (mFr_up (by decide))
                      have e4_1_67 : (mA 12 (va_up (s66.2 12) (1 : Int).toNat (w)) s66).2 4 1 = 0 := mA_1 (by decide) e4_1_66
                      have e4_2_67 : (mA 12 (va_up (s66.2 12) (1 : Int).toNat (w)) s66).2 4 2 = 1 := mA_1 (by decide) e4_2_66
                      have e5_0_67 : (mA 12 (va_up (s66.2 12) (1 : Int).toNat (w)) s66).2 5 0 = 1 := mA_1 (by decide) e5_0_66
                      have e6_0_67 : (mA 12 (va_up (s66.2 12) (1 : Int).toNat (w)) s66).2 6 0 = 2 := mA_1 (by decide) e6_0_66
                      have e8_0_67 : (mA 12 (va_up (s66.2 12) (1 : Int).toNat (w)) s66).2 8 0 = 1 := mA_1 (by decide) e8_0_66
                      have e10_0_67 : (mA 12 (va_up (s66.2 12) (1 : Int).toNat (w)) s66).2 10 0 = 0 := mA_1 (by decide) e10_0_66
                      have e11_0_67 : (mA 12 (va_up (s66.2 12) (1 : Int).toNat (w)) s66).2 11 0 = 0 := mA_1 (by decide) e11_0_66
                      have e59_0_67 : (mA 12 (va_up (s66.2 12) (1 : Int).toNat (w)) s66).2 59 0 = w := mA_1 (by decide) e59_0_66
                      have e60_0_67 : (mA 12 (va_up (s66.2 12) (1 : Int).toNat (w)) s66).2 60 0 = H := mA_1 (by decide) e60_0_66
                      have e12_0_67 : (mA 12 (va_up (s66.2 12) (1 : Int).toNat (w)) s66).2 12 0 = w := mA_2 (l := 1) (by decide) e12_0_66
                      have e13_0_67 : (mA 12 (va_up (s66.2 12) (1 : Int).toNat (w)) s66).2 13 0 = H := mA_1 (by decide) e13_0_66
                      have e10_1_67 : (mA 12 (va_up (s66.2 12) (1 : Int).toNat (w)) s66).2 10 1 = 0 := mA_1 (by decide) e10_1_66
                      have e11_1_67 : (mA 12 (va_up (s66.2 12) (1 : Int).toNat (w)) s66).2 11 1 = 0 := mA_1 (by decide) e11_1_66
                      have e59_1_67 : (mA 12 (va_up (s66.2 12) (1 : Int).toNat (w)) s66).2 59 1 = w := mA_1 (by decide) e59_1_66
                      have e60_1_67 : (mA 12 (va_up (s66.2 12) (1 : Int).toNat (w)) s66).2 60 1 = a := mA_1 (by decide) e60_1_66
                      have e10_2_67 : (mA 12 (va_up (s66.2 12) (1 : Int).toNat (w)) s66).2 10 2 = 0 := mA_1 (by decide) e10_2_66
                      have e11_2_67 : (mA 12 (va_up (s66.2 12) (1 : Int).toNat (w)) s66).2 11 2 = (0 + a) + (1) := mA_1 (by decide) e11_2_66
                      have e59_2_67 : (mA 12 (va_up (s66.2 12) (1 : Int).toNat (w)) s66).2 59 2 = w := mA_1 (by decide) e59_2_66
                      have e60_2_67 : (mA 12 (va_up (s66.2 12) (1 : Int).toNat (w)) s66).2 60 2 = (H - 1) - (a) := mA_1 (by decide) e60_2_66
                      have e15_0_67 : (mA 12 (va_up (s66.2 12) (1 : Int).toNat (w)) s66).2 15 0 = 1 := mA_1 (by decide) e15_0_66
                      have e15_1_67 : (mA 12 (va_up (s66.2 12) (1 : Int).toNat (w)) s66).2 15 1 = 2 := mA_1 (by decide) e15_1_66
                      have e12_2_67 : (mA 12 (va_up (s66.2 12) (1 : Int).toNat (w)) s66).2 12 2 = w := mA_2 (l := 1) (by decide) e12_2_66
                      have e13_2_67 : (mA 12 (va_up (s66.2 12) (1 : Int).toNat (w)) s66).2 13 2 = (H - 1) - (a) := mA_1 (by decide) e13_2_66
                      have e12_1_67 : (mA 12 (va_up (s66.2 12) (1 : Int).toNat (w)) s66).2 12 1 = w := mA_3 (l := 1)
                      have hv67 : (mA 12 (va_up (s66.2 12) (1 : Int).toNat (w)) s66).1 = s.1 := hv66
                      have rg1_67 : mRg (mA 12 (va_up (s66.2 12) (1 : Int).toNat (w)) s66) 1 := mRg_A (by decide) hRg66
                      have rg0_67 : mRg (mA 12 (va_up (s66.2 12) (1 : Int).toNat (w)) s66) 0 := mRg_A (by decide) rg0_66
                      revert hA67 hF67 e4_1_67 e4_2_67 e5_0_67 e6_0_67 e8_0_67 e10_0_67 e11_0_67 e59_0_67 e60_0_67 e12_0_67 e13_0_67 e10_1_67 e11_1_67 e59_1_67 e60_1_67 e10_2_67 e11_2_67 e59_2_67 e60_2_67 e15_0_67 e15_1_67 e12_2_67 e13_2_67 e12_1_67 hv67 rg1_67 rg0_67
                      generalize (mA 12 (va_up (s66.2 12) (1 : Int).toNat (w)) s66) = s67
                      generalize (va_up h66 (B + 10) (pz_z 0 16 (va_up (s66.2 12) (1 : Int).toNat (w)))) = h67
                      intro hA67 hF67 e4_1_67 e4_2_67 e5_0_67 e6_0_67 e8_0_67 e10_0_67 e11_0_67 e59_0_67 e60_0_67 e12_0_67 e13_0_67 e10_1_67 e11_1_67 e59_1_67 e60_1_67 e10_2_67 e11_2_67 e59_2_67 e60_2_67 e15_0_67 e15_1_67 e12_2_67 e13_2_67 e12_1_67 hv67 rg1_67 rg0_67
                      clear e4_1_66 e4_2_66 e5_0_66 e6_0_66 e8_0_66 e10_0_66 e11_0_66 e59_0_66 e60_0_66 e12_0_66 e13_0_66 e10_1_66 e11_1_66 e59_1_66 e60_1_66 e10_2_66 e11_2_66 e59_2_66 e60_2_66 e15_0_66 e15_1_66 e12_2_66 e13_2_66 hRg66 rg0_66 hv66 hF66 hA66
                      refine pw_aload_n dX10_lay_82 rfl ?_
                      refine pw_get (v := .ref (B + 11)) okX10 (k := 13) (by decide) lkX10_41 hA67.1 rfl dX10_lay_83 ?_
                      refine pw_iload dX10_lay_86 rfl ?_
                      refine pw_aload_n dX10_lay_88 rfl ?_
                      refine pw_get (v := .ref (B + 49)) okX10 (k := 60) (by decide) lkX10_159 hA67.1 rfl dX10_lay_89 ?_
                      refine pw_iload dX10_lay_92 rfl ?_
                      refine pw_ialdv (v := a) (t := 0) rfl (mF60 (s := s67) hA67) (by omega) (by decide) (e60_1_67) dX10_lay_94 ?_
                      refine pw_iast (g := (s67.2 13)) (t := 0) rfl (mF13 (s := s67) hA67) (by omega) (by decide) dX10_lay_95 ?_
                      have hA68 : mAt B (mA 13 (va_up (s67.2 13) (1 : Int).toNat (a)) s67) (va_up h67 (B + 11) (pz_z 0 16 (va_up (s67.2 13) (1 : Int).toNat (a)))) := mU13 hA67
                      have hF68 : mFr B h (va_up h67 (B + 11) (pz_z 0 16 (va_up (s67.2 13) (1 : Int).toNat (a)))) := mFr_tr hF67 (mFr_up (by decide))
                      have e4_1_68 : (mA 13 (va_up (s67.2 13) (1 : Int).toNat (a)) s67).2 4 1 = 0 := mA_1 (by decide) e4_1_67
                      have e4_2_68 : (mA 13 (va_up (s67.2 13) (1 : Int).toNat (a)) s67).2 4 2 = 1 := mA_1 (by decide) e4_2_67
                      have e5_0_68 : (mA 13 (va_up (s67.2 13) (1 : Int).toNat (a)) s67).2 5 0 = 1 := mA_1 (by decide) e5_0_67
                      have e6_0_68 : (mA 13 (va_up (s67.2 13) (1 : Int).toNat (a)) s67).2 6 0 = 2 := mA_1 (by decide) e6_0_67
                      have e8_0_68 : (mA 13 (va_up (s67.2 13) (1 : Int).toNat (a)) s67).2 8 0 = 1 := mA_1 (by decide) e8_0_67
                      have e10_0_68 : (mA 13 (va_up (s67.2 13) (1 : Int).toNat (a)) s67).2 10 0 = 0 := mA_1 (by decide) e10_0_67
                      have e11_0_68 : (mA 13 (va_up (s67.2 13) (1 : Int).toNat (a)) s67).2 11 0 = 0 := mA_1 (by decide) e11_0_67
                      have e59_0_68 : (mA 13 (va_up (s67.2 13) (1 : Int).toNat (a)) s67).2 59 0 = w := mA_1 (by decide) e59_0_67
                      have e60_0_68 : (mA 13 (va_up (s67.2 13) (1 : Int).toNat (a)) s67).2 60 0 = H := mA_1 (by decide) e60_0_67
                      have e12_0_68 : (mA 13 (va_up (s67.2 13) (1 : Int).toNat (a)) s67).2 12 0 = w := mA_1 (by decide) e12_0_67
                      have e13_0_68 : (mA 13 (va_up (s67.2 13) (1 : Int).toNat (a)) s67).2 13 0 = H := mA_2 (l := 1) (by decide) e13_0_67
                      have e10_1_68 : (mA 13 (va_up (s67.2 13) (1 : Int).toNat (a)) s67).2 10 1 = 0 := mA_1 (by decide) e10_1_67
                      have e11_1_68 : (mA 13 (va_up (s67.2 13) (1 : Int).toNat (a)) s67).2 11 1 = 0 := mA_1 (by decide) e11_1_67
                      have e59_1_68 : (mA 13 (va_up (s67.2 13) (1 : Int).toNat (a)) s67).2 59 1 = w := mA_1 (by decide) e59_1_67
                      have e60_1_68 : (mA 13 (va_up (s67.2 13) (1 : Int).toNat (a)) s67).2 60 1 = a := mA_1 (by decide) e60_1_67
                      have e10_2_68 : (mA 13 (va_up (s67.2 13) (1 : Int).toNat (a)) s67).2 10 2 = 0 := mA_1 (by decide) e10_2_67
                      have e11_2_68 : (mA 13 (va_up (s67.2 13) (1 : Int).toNat (a)) s67).2 11 2 = (0 + a) + (1) := mA_1 (by decide) e11_2_67
                      have e59_2_68 : (mA 13 (va_up (s67.2 13) (1 : Int).toNat (a)) s67).2 59 2 = w := mA_1 (by decide) e59_2_67
                      have e60_2_68 : (mA 13 (va_up (s67.2 13) (1 : Int).toNat (a)) s67).2 60 2 = (H - 1) - (a) := mA_1 (by decide) e60_2_67
                      have e15_0_68 : (mA 13 (va_up (s67.2 13) (1 : Int).toNat (a)) s67).2 15 0 = 1 := mA_1 (by decide) e15_0_67
                      have e15_1_68 : (mA 13 (va_up (s67.2 13) (1 : Int).toNat (a)) s67).2 15 1 = 2 := mA_1 (by decide) e15_1_67
                      have e12_2_68 : (mA 13 (va_up (s67.2 13) (1 : Int).toNat (a)) s67).2 12 2 = w := mA_1 (by decide) e12_2_67
                      have e13_2_68 : (mA 13 (va_up (s67.2 13) (1 : Int).toNat (a)) s67).2 13 2 = (H - 1) - (a) := mA_2 (l := 1) (by decide) e13_2_67
                      have e12_1_68 : (mA 13 (va_up (s67.2 13) (1 : Int).toNat (a)) s67).2 12 1 = w := mA_1 (by decide) e12_1_67
                      have e13_1_68 : (mA 13 (va_up (s67.2 13) (1 : Int).toNat (a)) s67).2 13 1 = a := mA_3 (l := 1)
                      have hv68 : (mA 13 (va_up (s67.2 13) (1 : Int).toNat (a)) s67).1 = s.1 := hv67
                      have rg1_68 : mRg (mA 13 (va_up (s67.2 13) (1 : Int).toNat (a)) s67) 1 := mRg_A (by decide) rg1_67
                      have rg0_68 : mRg (mA 13 (va_up (s67.2 13) (1 : Int).toNat (a)) s67) 0 := mRg_A (by decide) rg0_67
                      revert hA68 hF68 e4_1_68 e4_2_68 e5_0_68 e6_0_68 e8_0_68 e10_0_68 e11_0_68 e59_0_68 e60_0_68 e12_0_68 e13_0_68 e10_1_68 e11_1_68 e59_1_68 e60_1_68 e10_2_68 e11_2_68 e59_2_68 e60_2_68 e15_0_68 e15_1_68 e12_2_68 e13_2_68 e12_1_68 e13_1_68 hv68 rg1_68 rg0_68
                      generalize (mA 13 (va_up (s67.2 13) (1 : Int).toNat (a)) s67) = s68
                      generalize (va_up h67 (B + 11) (pz_z 0 16 (va_up (s67.2 13) (1 : Int).toNat (a)))) = h68
                      intro hA68 hF68 e4_1_68 e4_2_68 e5_0_68 e6_0_68 e8_0_68 e10_0_68 e11_0_68 e59_0_68 e60_0_68 e12_0_68 e13_0_68 e10_1_68 e11_1_68 e59_1_68 e60_1_68 e10_2_68 e11_2_68 e59_2_68 e60_2_68 e15_0_68 e15_1_68 e12_2_68 e13_2_68 e12_1_68 e13_1_68 hv68 rg1_68 rg0_68
                      clear e4_1_67 e4_2_67 e5_0_67 e6_0_67 e8_0_67 e10_0_67 e11_0_67 e59_0_67 e60_0_67 e12_0_67 e13_0_67 e10_1_67 e11_1_67 e59_1_67 e60_1_67 e10_2_67 e11_2_67 e59_2_67 e60_2_67 e15_0_67 e15_1_67 e12_2_67 e13_2_67 e12_1_67 rg1_67 rg0_67 hv67 hF67 hA67
                      refine pw_aload_n dX10_lay_96 rfl ?_
                      refine pw_aload_n dX10_lay_97 rfl ?_
                      refine pw_get (v := .ref (B + 2)) okX10 (k := 4) (by decide) lkX10_13 hA68.1 rfl dX10_lay_98 ?_
                      refine pw_iload dX10_lay_101 rfl ?_
                      refine pw_ialdv (v := 0) (t := 0) rfl (mF4 (s := s68) hA68) (by omega) (by decide) (e4_1_68) dX10_lay_103 ?_
                      refine pw_aload_n dX10_lay_104 rfl ?_
                      refine pw_get (v := .ref (B + 10)) okX10 (k := 12) (by decide) lkX10_38 hA68.1 rfl dX10_lay_105 ?_
                      refine pw_iload dX10_lay_108 rfl ?_
                      refine pw_ialdv (v := w) (t := 0) rfl (mF12 (s := s68) hA68) (by omega) (by decide) (e12_1_68) dX10_lay_110 ?_
                      refine pw_aload_n dX10_lay_111 rfl ?_
                      refine pw_get (v := .ref (B + 11)) okX10 (k := 13) (by decide) lkX10_41 hA68.1 rfl dX10_lay_112 ?_
                      refine pw_iload dX10_lay_115 rfl ?_
                      refine pw_ialdv (v := a) (t := 0) rfl (mF13 (s := s68) hA68) (by omega) (by decide) (e13_1_68) dX10_lay_117 ?_
                      refine pw_callV (As := [.int (zI (0)), .int (zI (w)), .int (zI (a))]) (b := B) (rm := rmD 1 0 0) (nR_resize (p := 0) htr hA68 (by omega) rg0_68 (by omega) (by omega)) rfl hA68.1 rfl rfl ywX10_resize rfl cwX10_196 ⟨nle rfl, nle rfl⟩ (nle rfl) ⟨nle rfl, nle rfl⟩ dX10_lay_118 ?_ (fun _ _ _ z => z.elim)
                      intro r_9 h69 n_9 hq _
                      obtain ⟨e1, g69, hA69, hRo69, hRg69, hF690, e4⟩ := hq
                      rw [e1, e4]
                      show pw E YX10_lay _ _ 0 0 121 [some (.ref B), some (.int (zI (0))), some (.int (zI (0))), some (.int (zI (0))), some (.int (zI (w))), some (.int (zI (H))), some (.int (zI (0))), some (.int (zI (1))), some (.int (zI (H))), some (.int (zI (H))), some (.int (zI (a))), some (.int (zI (1))), some (.int (zI (2)))] [] h69 n
                      have hF69 := mFr_tr hF68 hF690
                      clear e1 e4
                      have e4_1_69 : (mG s68 g69).2 4 1 = 0 := mG_1 (by decide) e4_1_68
                      have e4_2_69 : (mG s68 g69).2 4 2 = 1 := mG_1 (by decide) e4_2_68
                      have e5_0_69 : (mG s68 g69).2 5 0 = 1 := mG_1 (by decide) e5_0_68
                      have e6_0_69 : (mG s68 g69).2 6 0 = 2 := mG_1 (by decide) e6_0_68
                      have e8_0_69 : (mG s68 g69).2 8 0 = 1 := mG_1 (by decide) e8_0_68
                      have e10_0_69 : (mG s68 g69).2 10 0 = 0 := mG_1 (by decide) e10_0_68
                      have e11_0_69 : (mG s68 g69).2 11 0 = 0 := mG_1 (by decide) e11_0_68
                      have e59_0_69 : (mG s68 g69).2 59 0 = w := mG_1 (by decide) e59_0_68
                      have e60_0_69 : (mG s68 g69).2 60 0 = H := mG_1 (by decide) e60_0_68
                      have e12_0_69 : (mG s68 g69).2 12 0 = w := mG_1 (by decide) e12_0_68
                      have e13_0_69 : (mG s68 g69).2 13 0 = H := mG_1 (by decide) e13_0_68
                      have e10_1_69 : (mG s68 g69).2 10 1 = 0 := mG_1 (by decide) e10_1_68
                      have e11_1_69 : (mG s68 g69).2 11 1 = 0 := mG_1 (by decide) e11_1_68
                      have e59_1_69 : (mG s68 g69).2 59 1 = w := mG_1 (by decide) e59_1_68
                      have e60_1_69 : (mG s68 g69).2 60 1 = a := mG_1 (by decide) e60_1_68
                      have e10_2_69 : (mG s68 g69).2 10 2 = 0 := mG_1 (by decide) e10_2_68
                      have e11_2_69 : (mG s68 g69).2 11 2 = (0 + a) + (1) := mG_1 (by decide) e11_2_68
                      have e59_2_69 : (mG s68 g69).2 59 2 = w := mG_1 (by decide) e59_2_68
                      have e60_2_69 : (mG s68 g69).2 60 2 = (H - 1) - (a) := mG_1 (by decide) e60_2_68
                      have e15_0_69 : (mG s68 g69).2 15 0 = 1 := mG_1 (by decide) e15_0_68
                      have e15_1_69 : (mG s68 g69).2 15 1 = 2 := mG_1 (by decide) e15_1_68
                      have e12_2_69 : (mG s68 g69).2 12 2 = w := mG_1 (by decide) e12_2_68
                      have e13_2_69 : (mG s68 g69).2 13 2 = (H - 1) - (a) := mG_1 (by decide) e13_2_68
                      have e12_1_69 : (mG s68 g69).2 12 1 = w := mG_1 (by decide) e12_1_68
                      have e13_1_69 : (mG s68 g69).2 13 1 = a := mG_1 (by decide) e13_1_68
                      have hv69 : (mG s68 g69).1 = s.1 := hv68
                      have rg1_69 : mRg (mG s68 g69) 1 := mRg_o rg1_68 hRo69 (by decide)
                      revert hA69 hRo69 hRg69 e4_1_69 e4_2_69 e5_0_69 e6_0_69 e8_0_69 e10_0_69 e11_0_69 e59_0_69 e60_0_69 e12_0_69 e13_0_69 e10_1_69 e11_1_69 e59_1_69 e60_1_69 e10_2_69 e11_2_69 e59_2_69 e60_2_69 e15_0_69 e15_1_69 e12_2_69 e13_2_69 e12_1_69 e13_1_69 hv69 rg1_69
                      generalize (mG s68 g69) = s69
                      intro hA69 hRo69 hRg69 e4_1_69 e4_2_69 e5_0_69 e6_0_69 e8_0_69 e10_0_69 e11_0_69 e59_0_69 e60_0_69 e12_0_69 e13_0_69 e10_1_69 e11_1_69 e59_1_69 e60_1_69 e10_2_69 e11_2_69 e59_2_69 e60_2_69 e15_0_69 e15_1_69 e12_2_69 e13_2_69 e12_1_69 e13_1_69 hv69 rg1_69
                      clear e4_1_68 e4_2_68 e5_0_68 e6_0_68 e8_0_68 e10_0_68 e11_0_68 e59_0_68 e60_0_68 e12_0_68 e13_0_68 e10_1_68 e11_1_68 e59_1_68 e60_1_68 e10_2_68 e11_2_68 e59_2_68 e60_2_68 e15_0_68 e15_1_68 e12_2_68 e13_2_68 e12_1_68 e13_1_68 rg1_68 rg0_68 hv68 hF68 hA68 hF690
                      refine pw_goto (tgt := 40) dX10_lay_121 rfl ?_
                      refine pw_iload dX10_lay_40 rfl ?_
                      refine pw_if_le (tgt := 547) dX10_lay_42 rfl (by omega) (fun c42 => ?_) (fun c42 => ?_)
                      ·
                        exact pw_vret dX10_lay_547 rfl (nle rfl) (nle rfl) (hQ s69 h69 hA69 hv69 hF69)
                      · exfalso; omega
set_option maxHeartbeats 1000000 in
set_option maxRecDepth 100000 in
/-- lay(0, 0, 0, w, H), two leaves -/
theorem nF_lay1 {E : pw_E} (htr : E.1.stackTraces = false) {h : pz_H} {n : Nat} {B : Nat} {s : mS} (hA : mAt B s h) {w : Int}  {H : Int} (hw : 8 ≤ w ∧ w ≤ 40) (hH : 4 ≤ H ∧ H ≤ 16) (e4_0 : s.2 4 0 = -1) (e4_1 : s.2 4 1 = 0) (e4_2 : s.2 4 2 = 1) (e5_0 : s.2 5 0 = 1) (e6_0 : s.2 6 0 = 2) (e8_0 : s.2 8 0 = 1) (e9_0 : s.2 9 0 = (H - 1) / 2) (e12_0 : s.2 12 0 = w) (e13_0 : s.2 13 0 = H) (rg0 : mRg s 0) (rg1 : mRg s 1) : pw_M E yX10_lay YX10_lay (rmD 2 0 0) [.ref B, .int (zI (0)), .int (zI (0)), .int (zI (0)), .int (zI (w)), .int (zI (H))] h n (fun r0 h' n' => r0 = none ∧ ∃ s', mAt B s' h' ∧ s'.1 = s.1 ∧ mFr B h h' ∧ n' = n) (fun _ _ _ => False) := by
  have hml : 0 ≤ (H - 1) * ((H - 1) / 2) ∧ (H - 1) * ((H - 1) / 2) < 2147483648 := by
    have h9 : (H - 1) * ((H - 1) / 2) ≤ 39 * 20 := Int.mul_le_mul (by omega) (by omega) (by omega) (by omega)
    exact ⟨Int.mul_nonneg (by omega) (by omega), by omega⟩
  have hdv : (H - 1) * ((H - 1) / 2) / (H - 1) = (H - 1) / 2 := Int.mul_ediv_cancel_left _ (by omega)
  refine pw_M_of (lv := [some (.ref B), some (.int (zI (0))), some (.int (zI (0))), some (.int (zI (0))), some (.int (zI (w))), some (.int (zI (H))), none, none, none, none, none, none, none]) (by decide) rfl rfl htr (nle rfl) rfl (fun L => ?_)
  refine pw_aload_n dX10_lay_0 rfl ?_
  refine pw_get (v := .ref (B + 8)) okX10 (k := 10) (by decide) lkX10_32 hA.1 rfl dX10_lay_1 ?_
  refine pw_iload_n dX10_lay_4 rfl ?_
  refine pw_iload_n dX10_lay_5 rfl ?_
  refine pw_iast (g := (s.2 10)) (t := 0) rfl (mF10 (s := s) hA) (by omega) (by decide) dX10_lay_6 ?_
  have hA1 : mAt B (mA 10 (va_up (s.2 10) (0 : Int).toNat (0)) s) (va_up h (B + 8) (pz_z 0 16 (va_up (s.2 10) (0 : Int).toNat (0)))) := mU10 hA
  have hF1 : mFr B h (va_up h (B + 8) (pz_z 0 16 (va_up (s.2 10) (0 : Int).toNat (0)))) := mFr_tr mFr_rf (mFr_up (by decide))
  have e4_0_1 : (mA 10 (va_up (s.2 10) (0 : Int).toNat (0)) s).2 4 0 = -1 := mA_1 (by decide) e4_0
  have e4_1_1 : (mA 10 (va_up (s.2 10) (0 : Int).toNat (0)) s).2 4 1 = 0 := mA_1 (by decide) e4_1
  have e4_2_1 : (mA 10 (va_up (s.2 10) (0 : Int).toNat (0)) s).2 4 2 = 1 := mA_1 (by decide) e4_2
  have e5_0_1 : (mA 10 (va_up (s.2 10) (0 : Int).toNat (0)) s).2 5 0 = 1 := mA_1 (by decide) e5_0
  have e6_0_1 : (mA 10 (va_up (s.2 10) (0 : Int).toNat (0)) s).2 6 0 = 2 := mA_1 (by decide) e6_0
  have e8_0_1 : (mA 10 (va_up (s.2 10) (0 : Int).toNat (0)) s).2 8 0 = 1 := mA_1 (by decide) e8_0
  have e9_0_1 : (mA 10 (va_up (s.2 10) (0 : Int).toNat (0)) s).2 9 0 = (H - 1) / 2 := mA_1 (by decide) e9_0
  have e12_0_1 : (mA 10 (va_up (s.2 10) (0 : Int).toNat (0)) s).2 12 0 = w := mA_1 (by decide) e12_0
  have e13_0_1 : (mA 10 (va_up (s.2 10) (0 : Int).toNat (0)) s).2 13 0 = H := mA_1 (by decide) e13_0
  have e10_0_1 : (mA 10 (va_up (s.2 10) (0 : Int).toNat (0)) s).2 10 0 = 0 := mA_3 (l := 0)
  have hv1 : (mA 10 (va_up (s.2 10) (0 : Int).toNat (0)) s).1 = s.1 := rfl
  have rg0_1 : mRg (mA 10 (va_up (s.2 10) (0 : Int).toNat (0)) s) 0 := mRg_A (by decide) rg0
  have rg1_1 : mRg (mA 10 (va_up (s.2 10) (0 : Int).toNat (0)) s) 1 := mRg_A (by decide) rg1
  revert hA1 hF1 e4_0_1 e4_1_1 e4_2_1 e5_0_1 e6_0_1 e8_0_1 e9_0_1 e12_0_1 e13_0_1 e10_0_1 hv1 rg0_1 rg1_1
  generalize (mA 10 (va_up (s.2 10) (0 : Int).toNat (0)) s) = s1
  generalize (va_up h (B + 8) (pz_z 0 16 (va_up (s.2 10) (0 : Int).toNat (0)))) = h1
  intro hA1 hF1 e4_0_1 e4_1_1 e4_2_1 e5_0_1 e6_0_1 e8_0_1 e9_0_1 e12_0_1 e13_0_1 e10_0_1 hv1 rg0_1 rg1_1
  clear e4_0 e4_1 e4_2 e5_0 e6_0 e8_0 e9_0 e12_0 e13_0 rg0 rg1 hA
  refine pw_aload_n dX10_lay_7 rfl ?_
  refine pw_get (v := .ref (B + 9)) okX10 (k := 11) (by decide) lkX10_35 hA1.1 rfl dX10_lay_8 ?_
  refine pw_iload_n dX10_lay_11 rfl ?_
  refine pw_iload_n dX10_lay_12 rfl ?_
  refine pw_iast (g := (s1.2 11)) (t := 0) rfl (mF11 (s := s1) hA1) (by omega) (by decide) dX10_lay_13 ?_
  have hA2 : mAt B (mA 11 (va_up (s1.2 11) (0 : Int).toNat (0)) s1) (va_up h1 (B + 9) (pz_z 0 16 (va_up (s1.2 11) (0 : Int).toNat (0)))) := mU11 hA1
  have hF2 : mFr B h (va_up h1 (B + 9) (pz_z 0 16 (va_up (s1.2 11) (0 : Int).toNat (0)))) := mFr_tr hF1 (mFr_up (by decide))
  have e4_0_2 : (mA 11 (va_up (s1.2 11) (0 : Int).toNat (0)) s1).2 4 0 = -1 := mA_1 (by decide) e4_0_1
  have e4_1_2 : (mA 11 (va_up (s1.2 11) (0 : Int).toNat (0)) s1).2 4 1 = 0 := mA_1 (by decide) e4_1_1
  have e4_2_2 : (mA 11 (va_up (s1.2 11) (0 : Int).toNat (0)) s1).2 4 2 = 1 := mA_1 (by decide) e4_2_1
  have e5_0_2 : (mA 11 (va_up (s1.2 11) (0 : Int).toNat (0)) s1).2 5 0 = 1 := mA_1 (by decide) e5_0_1
  have e6_0_2 : (mA 11 (va_up (s1.2 11) (0 : Int).toNat (0)) s1).2 6 0 = 2 := mA_1 (by decide) e6_0_1
  have e8_0_2 : (mA 11 (va_up (s1.2 11) (0 : Int).toNat (0)) s1).2 8 0 = 1 := mA_1 (by decide) e8_0_1
  have e9_0_2 : (mA 11 (va_up (s1.2 11) (0 : Int).toNat (0)) s1).2 9 0 = (H - 1) / 2 := mA_1 (by decide) e9_0_1
  have e12_0_2 : (mA 11 (va_up (s1.2 11) (0 : Int).toNat (0)) s1).2 12 0 = w := mA_1 (by decide) e12_0_1
  have e13_0_2 : (mA 11 (va_up (s1.2 11) (0 : Int).toNat (0)) s1).2 13 0 = H := mA_1 (by decide) e13_0_1
  have e10_0_2 : (mA 11 (va_up (s1.2 11) (0 : Int).toNat (0)) s1).2 10 0 = 0 := mA_1 (by decide) e10_0_1
  have e11_0_2 : (mA 11 (va_up (s1.2 11) (0 : Int).toNat (0)) s1).2 11 0 = 0 := mA_3 (l := 0)
  have hv2 : (mA 11 (va_up (s1.2 11) (0 : Int).toNat (0)) s1).1 = s.1 := hv1
  have rg0_2 : mRg (mA 11 (va_up (s1.2 11) (0 : Int).toNat (0)) s1) 0 := mRg_A (by decide) rg0_1
  have rg1_2 : mRg (mA 11 (va_up (s1.2 11) (0 : Int).toNat (0)) s1) 1 := mRg_A (by decide) rg1_1
  revert hA2 hF2 e4_0_2 e4_1_2 e4_2_2 e5_0_2 e6_0_2 e8_0_2 e9_0_2 e12_0_2 e13_0_2 e10_0_2 e11_0_2 hv2 rg0_2 rg1_2
  generalize (mA 11 (va_up (s1.2 11) (0 : Int).toNat (0)) s1) = s2
  generalize (va_up h1 (B + 9) (pz_z 0 16 (va_up (s1.2 11) (0 : Int).toNat (0)))) = h2
  intro hA2 hF2 e4_0_2 e4_1_2 e4_2_2 e5_0_2 e6_0_2 e8_0_2 e9_0_2 e12_0_2 e13_0_2 e10_0_2 e11_0_2 hv2 rg0_2 rg1_2
  clear e4_0_1 e4_1_1 e4_2_1 e5_0_1 e6_0_1 e8_0_1 e9_0_1 e12_0_1 e13_0_1 e10_0_1 rg0_1 rg1_1 hv1 hF1 hA1
  refine pw_aload_n dX10_lay_14 rfl ?_
  refine pw_get (v := .ref (B + 12)) okX10 (k := 15) (by decide) lkX10_44 hA2.1 rfl dX10_lay_15 ?_
  refine pw_iconst (v := zI (0)) dX10_lay_18 (by decide) ?_
  refine pw_iload_n dX10_lay_19 rfl ?_
  refine pw_iast (g := (s2.2 15)) (t := 0) rfl (mF15 (s := s2) hA2) (by omega) (by decide) dX10_lay_20 ?_
  have hA3 : mAt B (mA 15 (va_up (s2.2 15) (0 : Int).toNat (0)) s2) (va_up h2 (B + 12) (pz_z 0 16 (va_up (s2.2 15) (0 : Int).toNat (0)))) := mU15 hA2
  have hF3 : mFr B h (va_up h2 (B + 12) (pz_z 0 16 (va_up (s2.2 15) (0 : Int).toNat (0)))) := mFr_tr hF2 (mFr_up (by decide))
  have e4_0_3 : (mA 15 (va_up (s2.2 15) (0 : Int).toNat (0)) s2).2 4 0 = -1 := mA_1 (by decide) e4_0_2
  have e4_1_3 : (mA 15 (va_up (s2.2 15) (0 : Int).toNat (0)) s2).2 4 1 = 0 := mA_1 (by decide) e4_1_2
  have e4_2_3 : (mA 15 (va_up (s2.2 15) (0 : Int).toNat (0)) s2).2 4 2 = 1 := mA_1 (by decide) e4_2_2
  have e5_0_3 : (mA 15 (va_up (s2.2 15) (0 : Int).toNat (0)) s2).2 5 0 = 1 := mA_1 (by decide) e5_0_2
  have e6_0_3 : (mA 15 (va_up (s2.2 15) (0 : Int).toNat (0)) s2).2 6 0 = 2 := mA_1 (by decide) e6_0_2
  have e8_0_3 : (mA 15 (va_up (s2.2 15) (0 : Int).toNat (0)) s2).2 8 0 = 1 := mA_1 (by decide) e8_0_2
  have e9_0_3 : (mA 15 (va_up (s2.2 15) (0 : Int).toNat (0)) s2).2 9 0 = (H - 1) / 2 := mA_1 (by decide) e9_0_2
  have e12_0_3 : (mA 15 (va_up (s2.2 15) (0 : Int).toNat (0)) s2).2 12 0 = w := mA_1 (by decide) e12_0_2
  have e13_0_3 : (mA 15 (va_up (s2.2 15) (0 : Int).toNat (0)) s2).2 13 0 = H := mA_1 (by decide) e13_0_2
  have e10_0_3 : (mA 15 (va_up (s2.2 15) (0 : Int).toNat (0)) s2).2 10 0 = 0 := mA_1 (by decide) e10_0_2
  have e11_0_3 : (mA 15 (va_up (s2.2 15) (0 : Int).toNat (0)) s2).2 11 0 = 0 := mA_1 (by decide) e11_0_2
  have e15_0_3 : (mA 15 (va_up (s2.2 15) (0 : Int).toNat (0)) s2).2 15 0 = 0 := mA_3 (l := 0)
  have hv3 : (mA 15 (va_up (s2.2 15) (0 : Int).toNat (0)) s2).1 = s.1 := hv2
  have rg0_3 : mRg (mA 15 (va_up (s2.2 15) (0 : Int).toNat (0)) s2) 0 := mRg_A (by decide) rg0_2
  have rg1_3 : mRg (mA 15 (va_up (s2.2 15) (0 : Int).toNat (0)) s2) 1 := mRg_A (by decide) rg1_2
  revert hA3 hF3 e4_0_3 e4_1_3 e4_2_3 e5_0_3 e6_0_3 e8_0_3 e9_0_3 e12_0_3 e13_0_3 e10_0_3 e11_0_3 e15_0_3 hv3 rg0_3 rg1_3
  generalize (mA 15 (va_up (s2.2 15) (0 : Int).toNat (0)) s2) = s3
  generalize (va_up h2 (B + 12) (pz_z 0 16 (va_up (s2.2 15) (0 : Int).toNat (0)))) = h3
  intro hA3 hF3 e4_0_3 e4_1_3 e4_2_3 e5_0_3 e6_0_3 e8_0_3 e9_0_3 e12_0_3 e13_0_3 e10_0_3 e11_0_3 e15_0_3 hv3 rg0_3 rg1_3
  clear e4_0_2 e4_1_2 e4_2_2 e5_0_2 e6_0_2 e8_0_2 e9_0_2 e12_0_2 e13_0_2 e10_0_2 e11_0_2 rg0_2 rg1_2 hv2 hF2 hA2
  refine pw_iconst (v := zI (1)) dX10_lay_21 (by decide) ?_
  refine pw_istore (lv' := [some (.ref B), some (.int (zI (0))), some (.int (zI (0))), some (.int (zI (0))), some (.int (zI (w))), some (.int (zI (H))), some (.int (zI (1))), none, none, none, none, none, none]) dX10_lay_22 (by decide) rfl rfl ?_
  refine pw_aload_n dX10_lay_24 rfl ?_
  refine pw_get (v := .ref (B + 48)) okX10 (k := 59) (by decide) lkX10_156 hA3.1 rfl dX10_lay_25 ?_
  refine pw_iload_n dX10_lay_28 rfl ?_
  refine pw_iload dX10_lay_29 rfl ?_
  refine pw_iast (g := (s3.2 59)) (t := 0) rfl (mF59 (s := s3) hA3) (by omega) (by decide) dX10_lay_31 ?_
  have hA4 : mAt B (mA 59 (va_up (s3.2 59) (0 : Int).toNat (w)) s3) (va_up h3 (B + 48) (pz_z 0 16 (va_up (s3.2 59) (0 : Int).toNat (w)))) := mU59 hA3
  have hF4 : mFr B h (va_up h3 (B + 48) (pz_z 0 16 (va_up (s3.2 59) (0 : Int).toNat (w)))) := mFr_tr hF3 (mFr_up (by decide))
  have e4_0_4 : (mA 59 (va_up (s3.2 59) (0 : Int).toNat (w)) s3).2 4 0 = -1 := mA_1 (by decide) e4_0_3
  have e4_1_4 : (mA 59 (va_up (s3.2 59) (0 : Int).toNat (w)) s3).2 4 1 = 0 := mA_1 (by decide) e4_1_3
  have e4_2_4 : (mA 59 (va_up (s3.2 59) (0 : Int).toNat (w)) s3).2 4 2 = 1 := mA_1 (by decide) e4_2_3
  have e5_0_4 : (mA 59 (va_up (s3.2 59) (0 : Int).toNat (w)) s3).2 5 0 = 1 := mA_1 (by decide) e5_0_3
  have e6_0_4 : (mA 59 (va_up (s3.2 59) (0 : Int).toNat (w)) s3).2 6 0 = 2 := mA_1 (by decide) e6_0_3
  have e8_0_4 : (mA 59 (va_up (s3.2 59) (0 : Int).toNat (w)) s3).2 8 0 = 1 := mA_1 (by decide) e8_0_3
  have e9_0_4 : (mA 59 (va_up (s3.2 59) (0 : Int).toNat (w)) s3).2 9 0 = (H - 1) / 2 := mA_1 (by decide) e9_0_3
  have e12_0_4 : (mA 59 (va_up (s3.2 59) (0 : Int).toNat (w)) s3).2 12 0 = w := mA_1 (by decide) e12_0_3
  have e13_0_4 : (mA 59 (va_up (s3.2 59) (0 : Int).toNat (w)) s3).2 13 0 = H := mA_1 (by decide) e13_0_3
  have e10_0_4 : (mA 59 (va_up (s3.2 59) (0 : Int).toNat (w)) s3).2 10 0 = 0 := mA_1 (by decide) e10_0_3
  have e11_0_4 : (mA 59 (va_up (s3.2 59) (0 : Int).toNat (w)) s3).2 11 0 = 0 := mA_1 (by decide) e11_0_3
  have e15_0_4 : (mA 59 (va_up (s3.2 59) (0 : Int).toNat (w)) s3).2 15 0 = 0 := mA_1 (by decide) e15_0_3
  have e59_0_4 : (mA 59 (va_up (s3.2 59) (0 : Int).toNat (w)) s3).2 59 0 = w := mA_3 (l := 0)
  have hv4 : (mA 59 (va_up (s3.2 59) (0 : Int).toNat (w)) s3).1 = s.1 := hv3
  have rg0_4 : mRg (mA 59 (va_up (s3.2 59) (0 : Int).toNat (w)) s3) 0 := mRg_A (by decide) rg0_3
  have rg1_4 : mRg (mA 59 (va_up (s3.2 59) (0 : Int).toNat (w)) s3) 1 := mRg_A (by decide) rg1_3
  revert hA4 hF4 e4_0_4 e4_1_4 e4_2_4 e5_0_4 e6_0_4 e8_0_4 e9_0_4 e12_0_4 e13_0_4 e10_0_4 e11_0_4 e15_0_4 e59_0_4 hv4 rg0_4 rg1_4
  generalize (mA 59 (va_up (s3.2 59) (0 : Int).toNat (w)) s3) = s4
  generalize (va_up h3 (B + 48) (pz_z 0 16 (va_up (s3.2 59) (0 : Int).toNat (w)))) = h4
  intro hA4 hF4 e4_0_4 e4_1_4 e4_2_4 e5_0_4 e6_0_4 e8_0_4 e9_0_4 e12_0_4 e13_0_4 e10_0_4 e11_0_4 e15_0_4 e59_0_4 hv4 rg0_4 rg1_4
  clear e4_0_3 e4_1_3 e4_2_3 e5_0_3 e6_0_3 e8_0_3 e9_0_3 e12_0_3 e13_0_3 e10_0_3 e11_0_3 e15_0_3 rg0_3 rg1_3 hv3 hF3 hA3
  refine pw_aload_n dX10_lay_32 rfl ?_
  refine pw_get (v := .ref (B + 49)) okX10 (k := 60) (by decide) lkX10_159 hA4.1 rfl dX10_lay_33 ?_
  refine pw_iload_n dX10_lay_36 rfl ?_
  refine pw_iload dX10_lay_37 rfl ?_
  refine pw_iast (g := (s4.2 60)) (t := 0) rfl (mF60 (s := s4) hA4) (by omega) (by decide) dX10_lay_39 ?_
  have hA5 : mAt B (mA 60 (va_up (s4.2 60) (0 : Int).toNat (H)) s4) (va_up h4 (B + 49) (pz_z 0 16 (va_up (s4.2 60) (0 : Int).toNat (H)))) := mU60 hA4
  have hF5 : mFr B h (va_up h4 (B + 49) (pz_z 0 16 (va_up (s4.2 60) (0 : Int).toNat (H)))) := mFr_tr hF4 (mFr_up (by decide))
  have e4_0_5 : (mA 60 (va_up (s4.2 60) (0 : Int).toNat (H)) s4).2 4 0 = -1 := mA_1 (by decide) e4_0_4
  have e4_1_5 : (mA 60 (va_up (s4.2 60) (0 : Int).toNat (H)) s4).2 4 1 = 0 := mA_1 (by decide) e4_1_4
  have e4_2_5 : (mA 60 (va_up (s4.2 60) (0 : Int).toNat (H)) s4).2 4 2 = 1 := mA_1 (by decide) e4_2_4
  have e5_0_5 : (mA 60 (va_up (s4.2 60) (0 : Int).toNat (H)) s4).2 5 0 = 1 := mA_1 (by decide) e5_0_4
  have e6_0_5 : (mA 60 (va_up (s4.2 60) (0 : Int).toNat (H)) s4).2 6 0 = 2 := mA_1 (by decide) e6_0_4
  have e8_0_5 : (mA 60 (va_up (s4.2 60) (0 : Int).toNat (H)) s4).2 8 0 = 1 := mA_1 (by decide) e8_0_4
  have e9_0_5 : (mA 60 (va_up (s4.2 60) (0 : Int).toNat (H)) s4).2 9 0 = (H - 1) / 2 := mA_1 (by decide) e9_0_4
  have e12_0_5 : (mA 60 (va_up (s4.2 60) (0 : Int).toNat (H)) s4).2 12 0 = w := mA_1 (by decide) e12_0_4
  have e13_0_5 : (mA 60 (va_up (s4.2 60) (0 : Int).toNat (H)) s4).2 13 0 = H := mA_1 (by decide) e13_0_4
  have e10_0_5 : (mA 60 (va_up (s4.2 60) (0 : Int).toNat (H)) s4).2 10 0 = 0 := mA_1 (by decide) e10_0_4
  have e11_0_5 : (mA 60 (va_up (s4.2 60) (0 : Int).toNat (H)) s4).2 11 0 = 0 := mA_1 (by decide) e11_0_4
  have e15_0_5 : (mA 60 (va_up (s4.2 60) (0 : Int).toNat (H)) s4).2 15 0 = 0 := mA_1 (by decide) e15_0_4
  have e59_0_5 : (mA 60 (va_up (s4.2 60) (0 : Int).toNat (H)) s4).2 59 0 = w := mA_1 (by decide) e59_0_4
  have e60_0_5 : (mA 60 (va_up (s4.2 60) (0 : Int).toNat (H)) s4).2 60 0 = H := mA_3 (l := 0)
  have hv5 : (mA 60 (va_up (s4.2 60) (0 : Int).toNat (H)) s4).1 = s.1 := hv4
  have rg0_5 : mRg (mA 60 (va_up (s4.2 60) (0 : Int).toNat (H)) s4) 0 := mRg_A (by decide) rg0_4
  have rg1_5 : mRg (mA 60 (va_up (s4.2 60) (0 : Int).toNat (H)) s4) 1 := mRg_A (by decide) rg1_4
  revert hA5 hF5 e4_0_5 e4_1_5 e4_2_5 e5_0_5 e6_0_5 e8_0_5 e9_0_5 e12_0_5 e13_0_5 e10_0_5 e11_0_5 e15_0_5 e59_0_5 e60_0_5 hv5 rg0_5 rg1_5
  generalize (mA 60 (va_up (s4.2 60) (0 : Int).toNat (H)) s4) = s5
  generalize (va_up h4 (B + 49) (pz_z 0 16 (va_up (s4.2 60) (0 : Int).toNat (H)))) = h5
  intro hA5 hF5 e4_0_5 e4_1_5 e4_2_5 e5_0_5 e6_0_5 e8_0_5 e9_0_5 e12_0_5 e13_0_5 e10_0_5 e11_0_5 e15_0_5 e59_0_5 e60_0_5 hv5 rg0_5 rg1_5
  clear e4_0_4 e4_1_4 e4_2_4 e5_0_4 e6_0_4 e8_0_4 e9_0_4 e12_0_4 e13_0_4 e10_0_4 e11_0_4 e15_0_4 e59_0_4 rg0_4 rg1_4 hv4 hF4 hA4
  refine pw_iload dX10_lay_40 rfl ?_
  refine pw_if_le (tgt := 547) dX10_lay_42 rfl (by omega) (fun c42 => ?_) (fun c42 => ?_)
  · exfalso; omega
  ·
    refine pw_ziinc (lv' := [some (.ref B), some (.int (zI (0))), some (.int (zI (0))), some (.int (zI (0))), some (.int (zI (w))), some (.int (zI (H))), some (.int (zI (0))), none, none, none, none, none, none]) dX10_lay_45 rfl (by decide) rfl rfl ?_
    refine pw_aload_n dX10_lay_48 rfl ?_
    refine pw_get (v := .ref (B + 12)) okX10 (k := 15) (by decide) lkX10_44 hA5.1 rfl dX10_lay_49 ?_
    refine pw_iload dX10_lay_52 rfl ?_
    refine pw_ialdv (v := 0) (t := 0) rfl (mF15 (s := s5) hA5) (by omega) (by decide) (e15_0_5) dX10_lay_54 ?_
    refine pw_istore (lv' := [some (.ref B), some (.int (zI (0))), some (.int (zI (0))), some (.int (zI (0))), some (.int (zI (w))), some (.int (zI (H))), some (.int (zI (0))), some (.int (zI (0))), none, none, none, none, none]) dX10_lay_55 (by decide) rfl rfl ?_
    refine pw_aload_n dX10_lay_57 rfl ?_
    refine pw_get (v := .ref (B + 2)) okX10 (k := 4) (by decide) lkX10_13 hA5.1 rfl dX10_lay_58 ?_
    refine pw_iload dX10_lay_61 rfl ?_
    refine pw_ialdv (v := -1) (t := 0) rfl (mF4 (s := s5) hA5) (by omega) (by decide) (e4_0_5) dX10_lay_63 ?_
    refine pw_iconst (v := zI (-1)) dX10_lay_64 (by decide) ?_
    refine pw_icmp_eq (tgt := 124) dX10_lay_65 rfl (by omega) (by omega) (fun c65 => ?_) (fun c65 => ?_)
    ·
      refine pw_aload_n dX10_lay_124 rfl ?_
      refine pw_get (v := .ref (B + 6)) okX10 (k := 8) (by decide) lkX10_26 hA5.1 rfl dX10_lay_125 ?_
      refine pw_iload dX10_lay_128 rfl ?_
      refine pw_zaldv (v := 1) (t := 1) rfl (mF8 (s := s5) hA5) (by omega) (by decide) (e8_0_5) dX10_lay_130 ?_
      refine pw_if_eq (tgt := 144) dX10_lay_131 rfl (by omega) (fun c131 => ?_) (fun c131 => ?_)
      · exfalso; omega
      ·
        refine pw_aload_n dX10_lay_134 rfl ?_
        refine pw_get (v := .ref (B + 11)) okX10 (k := 13) (by decide) lkX10_41 hA5.1 rfl dX10_lay_135 ?_
        refine pw_iload dX10_lay_138 rfl ?_
        refine pw_ialdv (v := H) (t := 0) rfl (mF13 (s := s5) hA5) (by omega) (by decide) (e13_0_5) dX10_lay_140 ?_
        refine pw_goto (tgt := 151) dX10_lay_141 rfl ?_
        refine pw_istore (lv' := [some (.ref B), some (.int (zI (0))), some (.int (zI (0))), some (.int (zI (0))), some (.int (zI (w))), some (.int (zI (H))), some (.int (zI (0))), some (.int (zI (0))), some (.int (zI (H))), none, none, none, none]) dX10_lay_151 (by decide) rfl rfl ?_
        refine pw_aload_n dX10_lay_153 rfl ?_
        refine pw_get (v := .ref (B + 6)) okX10 (k := 8) (by decide) lkX10_26 hA5.1 rfl dX10_lay_154 ?_
        refine pw_iload dX10_lay_157 rfl ?_
        refine pw_zaldv (v := 1) (t := 1) rfl (mF8 (s := s5) hA5) (by omega) (by decide) (e8_0_5) dX10_lay_159 ?_
        refine pw_if_eq (tgt := 173) dX10_lay_160 rfl (by omega) (fun c160 => ?_) (fun c160 => ?_)
        · exfalso; omega
        ·
          refine pw_aload_n dX10_lay_163 rfl ?_
          refine pw_get (v := .ref (B + 49)) okX10 (k := 60) (by decide) lkX10_159 hA5.1 rfl dX10_lay_164 ?_
          refine pw_iload dX10_lay_167 rfl ?_
          refine pw_ialdv (v := H) (t := 0) rfl (mF60 (s := s5) hA5) (by omega) (by decide) (e60_0_5) dX10_lay_169 ?_
          refine pw_goto (tgt := 180) dX10_lay_170 rfl ?_
          refine pw_istore (lv' := [some (.ref B), some (.int (zI (0))), some (.int (zI (0))), some (.int (zI (0))), some (.int (zI (w))), some (.int (zI (H))), some (.int (zI (0))), some (.int (zI (0))), some (.int (zI (H))), some (.int (zI (H))), none, none, none]) dX10_lay_180 (by decide) rfl rfl ?_
          refine pw_iload dX10_lay_182 rfl ?_
          refine pw_iconst (v := zI (1)) dX10_lay_184 (by decide) ?_
          refine pw_zisub dX10_lay_185 ?_
          refine pw_aload_n dX10_lay_186 rfl ?_
          refine pw_get (v := .ref (B + 7)) okX10 (k := 9) (by decide) lkX10_29 hA5.1 rfl dX10_lay_187 ?_
          refine pw_iload dX10_lay_190 rfl ?_
          refine pw_ialdv (v := (H - 1) / 2) (t := 0) rfl (mF9 (s := s5) hA5) (by omega) (by decide) (e9_0_5) dX10_lay_192 ?_
          refine pw_zimul dX10_lay_193 ?_
          refine pw_iload dX10_lay_194 rfl ?_
          refine pw_iconst (v := zI (1)) dX10_lay_196 (by decide) ?_
          refine pw_zisub dX10_lay_197 ?_
          refine pw_zidiv dX10_lay_198 (show 0 ≤ (H - 1) * ((H - 1) / 2) ∧ (H - 1) * ((H - 1) / 2) < 2147483648 from hml) (by omega) ?_
          refine pw_istore (lv' := [some (.ref B), some (.int (zI (0))), some (.int (zI (0))), some (.int (zI (0))), some (.int (zI (w))), some (.int (zI (H))), some (.int (zI (0))), some (.int (zI (0))), some (.int (zI (H))), some (.int (zI (H))), some (.int (zI (((H - 1) * ((H - 1) / 2)) / (H - 1)))), none, none]) dX10_lay_199 (by decide) rfl rfl ?_
          refine pw_iload dX10_lay_201 rfl ?_
          refine pw_iconst (v := zI (1)) dX10_lay_203 (by decide) ?_
          refine pw_icmp_ge (tgt := 211) dX10_lay_204 rfl (by omega) (by omega) (fun c204 => ?_) (fun c204 => ?_)
          ·
            refine pw_iload dX10_lay_211 rfl ?_
            refine pw_iload dX10_lay_213 rfl ?_
            refine pw_iconst (v := zI (2)) dX10_lay_215 (by decide) ?_
            refine pw_zisub dX10_lay_216 ?_
            refine pw_icmp_le (tgt := 227) dX10_lay_217 rfl (by omega) (by omega) (fun c217 => ?_) (fun c217 => ?_)
            ·
              refine pw_iload dX10_lay_227 rfl ?_
              exact lN_lay1 htr hw hH e4_0_5 e4_1_5 e4_2_5 e5_0_5 e6_0_5 e8_0_5 e9_0_5 e12_0_5 e13_0_5 e10_0_5 e11_0_5 e15_0_5 e59_0_5 e60_0_5 rg0_5 rg1_5 (by omega) hA5 hF5 hv5 (fun s9 h9 z1 z2 z3 => by exact ⟨rfl, s9, z1, z2, z3, rfl⟩)
            ·
              refine pw_iload dX10_lay_220 rfl ?_
              refine pw_iconst (v := zI (2)) dX10_lay_222 (by decide) ?_
              refine pw_zisub dX10_lay_223 ?_
              refine pw_goto (tgt := 229) dX10_lay_224 rfl ?_
              exact lN_lay1 htr hw hH e4_0_5 e4_1_5 e4_2_5 e5_0_5 e6_0_5 e8_0_5 e9_0_5 e12_0_5 e13_0_5 e10_0_5 e11_0_5 e15_0_5 e59_0_5 e60_0_5 rg0_5 rg1_5 (by omega) hA5 hF5 hv5 (fun s9 h9 z1 z2 z3 => by exact ⟨rfl, s9, z1, z2, z3, rfl⟩)
          ·
            refine pw_iconst (v := zI (1)) dX10_lay_207 (by decide) ?_
            refine pw_goto (tgt := 229) dX10_lay_208 rfl ?_
            exact lN_lay1 htr hw hH e4_0_5 e4_1_5 e4_2_5 e5_0_5 e6_0_5 e8_0_5 e9_0_5 e12_0_5 e13_0_5 e10_0_5 e11_0_5 e15_0_5 e59_0_5 e60_0_5 rg0_5 rg1_5 (by omega) hA5 hF5 hv5 (fun s9 h9 z1 z2 z3 => by exact ⟨rfl, s9, z1, z2, z3, rfl⟩)
    · exfalso; omega
set_option maxHeartbeats 1000000 in
set_option maxRecDepth 100000 in
/-- splitNow(0, 1) -/
theorem nF_splitNow1 {E : pw_E} (htr : E.1.stackTraces = false) {h : pz_H} {n : Nat} {B : Nat} {s : mS} (hA : mAt B s h)  {w H : Int} (hw : 8 ≤ w ∧ w ≤ 40) (hH : 4 ≤ H ∧ H ≤ 16) (hn : mN w H s) : pw_M E yX10_splitNow YX10_splitNow (rmD 3 0 0) [.ref B, .int (zI (0)), .int (zI (1))] h n (fun r0 h' n' => r0 = some (.int (zI 1)) ∧ ∃ s', mAt B s' h' ∧ s'.1 0 = s.1 0 ∧ mFr B h h' ∧ n' = n) (fun _ _ _ => False) := by
  have rg0 := mRg_pk (mN_pk hn hw hH)
  have zz22 : s.2 22 1 = 0 := mZ_22 hn (by decide)
  have zz31 : s.2 31 1 = 0 := mZ_31 hn (by decide)
  have zz32 : s.2 32 1 = 0 := mZ_32 hn (by decide)
  have zz33 : s.2 33 1 = 0 := mZ_33 hn (by decide)
  have zz34 : s.2 34 1 = 0 := mZ_34 hn (by decide)
  have zz35 : s.2 35 1 = 0 := mZ_35 hn (by decide)
  have zz37 : s.2 37 1 = 0 := mZ_37 hn (by decide)
  have zz38 : s.2 38 1 = 0 := mZ_38 hn (by decide)
  have zz39 : s.2 39 1 = 0 := mZ_39 hn (by decide)
  have zz42 : s.2 42 1 = 0 := mZ_42 hn (by decide)
  refine pw_M_of (lv := [some (.ref B), some (.int (zI (0))), some (.int (zI (1))), none, none, none, none, none, none]) (by decide) rfl rfl htr (nle rfl) rfl (fun L => ?_)
  refine pw_iconst (v := zI (0)) dX10_splitNow_0 (by decide) ?_
  refine pw_istore_n (lv' := [some (.ref B), some (.int (zI (0))), some (.int (zI (1))), some (.int (zI (0))), none, none, none, none, none]) dX10_splitNow_1 (by decide) rfl rfl ?_
  refine pw_aload_n dX10_splitNow_2 rfl ?_
  refine pw_get (v := .ref (B + 13)) okX10 (k := 16) (by decide) lkX10_47 hA.1 rfl dX10_splitNow_3 ?_
  refine pw_iload_n dX10_splitNow_6 rfl ?_
  refine pw_zaldv (v := 1) (t := 1) rfl (mF16 (s := s) hA) (by omega) (by decide) (show s.2 16 0 = 1 from mN_16 hn) dX10_splitNow_7 ?_
  refine pw_if_eq (tgt := 17) dX10_splitNow_8 rfl (by omega) (fun c8 => ?_) (fun c8 => ?_)
  · exfalso; omega
  ·
    refine pw_ziinc (lv' := [some (.ref B), some (.int (zI (0))), some (.int (zI (1))), some (.int (zI (1))), none, none, none, none, none]) dX10_splitNow_11 rfl (by decide) rfl rfl ?_
    refine pw_goto (tgt := 2) dX10_splitNow_14 rfl ?_
    refine pw_aload_n dX10_splitNow_2 rfl ?_
    refine pw_get (v := .ref (B + 13)) okX10 (k := 16) (by decide) lkX10_47 hA.1 rfl dX10_splitNow_3 ?_
    refine pw_iload_n dX10_splitNow_6 rfl ?_
    refine pw_zaldv (v := 0) (t := 1) rfl (mF16 (s := s) hA) (by omega) (by decide) (show s.2 16 1 = 0 from mZ_16 hn (by decide)) dX10_splitNow_7 ?_
    refine pw_if_eq (tgt := 17) dX10_splitNow_8 rfl (by omega) (fun c8 => ?_) (fun c8 => ?_)
    ·
      refine pw_aload_n dX10_splitNow_17 rfl ?_
      refine pw_get (v := .ref (B + 14)) okX10 (k := 17) (by decide) lkX10_50 hA.1 rfl dX10_splitNow_18 ?_
      refine pw_iload_n dX10_splitNow_21 rfl ?_
      refine pw_ialdv (v := 0) (t := 0) rfl (mF17 (s := s) hA) (by omega) (by decide) (show s.2 17 0 = 0 from mN_17 hn) dX10_splitNow_22 ?_
      refine pw_istore (lv' := [some (.ref B), some (.int (zI (0))), some (.int (zI (1))), some (.int (zI (1))), some (.int (zI (0))), none, none, none, none]) dX10_splitNow_23 (by decide) rfl rfl ?_
      refine pw_aload_n dX10_splitNow_25 rfl ?_
      refine pw_callV (As := []) (b := B) (rm := rmD 0 0 0) (nR_freeNode (m := 1) htr hA (by omega) (fun i hi => by rw [show i = 0 by omega]; exact mN_3 hn) (mZ_3 hn (by decide))) rfl hA.1 rfl rfl ywX10_freeNode rfl cwX10_199 ⟨nle rfl, nle rfl⟩ (nle rfl) ⟨nle rfl, nle rfl⟩ dX10_splitNow_26 ?_ (fun _ _ _ z => z.elim)
      intro r_9 h1 n_9 hq _
      obtain ⟨e1, hA10, hF10, e4⟩ := hq
      rw [e1, e4]
      show pw E YX10_splitNow _ _ 0 0 29 [some (.ref B), some (.int (zI (0))), some (.int (zI (1))), some (.int (zI (1))), some (.int (zI (0))), none, none, none, none] [.int (zI (1))] h1 n
      have hA1 : mAt B (mA 3 (va_up (s.2 3) (1 : Int).toNat 1) s) h1 := hA10
      have hF1 := mFr_tr mFr_rf hF10
      clear e1 e4
      refine pw_istore (lv' := [some (.ref B), some (.int (zI (0))), some (.int (zI (1))), some (.int (zI (1))), some (.int (zI (0))), some (.int (zI (1))), none, none, none]) dX10_splitNow_29 (by decide) rfl rfl ?_
      refine pw_aload_n dX10_splitNow_31 rfl ?_
      refine pw_callV (As := []) (b := B) (rm := rmD 0 0 0) (nR_freeNode (m := 2) htr hA1 (by omega) (fun i hi => by rcases (show i = 0 ∨ i = 1 by omega) with rfl | rfl; exact (show s.2 3 0 = 1 from mN_3 hn); rfl) (show s.2 3 2 = 0 from mZ_3 hn (by decide))) rfl hA1.1 rfl rfl ywX10_freeNode rfl cwX10_199 ⟨nle rfl, nle rfl⟩ (nle rfl) ⟨nle rfl, nle rfl⟩ dX10_splitNow_32 ?_ (fun _ _ _ z => z.elim)
      intro r_9 h2 n_9 hq _
      obtain ⟨e1, hA20, hF20, e4⟩ := hq
      rw [e1, e4]
      show pw E YX10_splitNow _ _ 0 0 35 [some (.ref B), some (.int (zI (0))), some (.int (zI (1))), some (.int (zI (1))), some (.int (zI (0))), some (.int (zI (1))), none, none, none] [.int (zI (2))] h2 n
      have hA2 : mAt B (mA 3 (va_up (va_up (s.2 3) (1 : Int).toNat 1) (2 : Int).toNat 1) (mA 3 (va_up (s.2 3) (1 : Int).toNat 1) s)) h2 := hA20
      have hF2 := mFr_tr hF1 hF20
      clear e1 e4
      refine pw_istore (lv' := [some (.ref B), some (.int (zI (0))), some (.int (zI (1))), some (.int (zI (1))), some (.int (zI (0))), some (.int (zI (1))), some (.int (zI (2))), none, none]) dX10_splitNow_35 (by decide) rfl rfl ?_
      refine pw_iload_n dX10_splitNow_37 rfl ?_
      refine pw_if_eq (tgt := 51) dX10_splitNow_38 rfl (by omega) (fun c38 => ?_) (fun c38 => ?_)
      · exfalso; omega
      ·
        refine pw_aload_n dX10_splitNow_41 rfl ?_
        refine pw_get (v := .ref (B + 11)) okX10 (k := 13) (by decide) lkX10_41 hA2.1 rfl dX10_splitNow_42 ?_
        refine pw_iload dX10_splitNow_45 rfl ?_
        refine pw_ialdv (v := H) (t := 0) rfl (mF13 (s := (mA 3 (va_up (va_up (s.2 3) (1 : Int).toNat 1) (2 : Int).toNat 1) (mA 3 (va_up (s.2 3) (1 : Int).toNat 1) s))) hA2) (by omega) (by decide) (show s.2 13 0 = H from mN_13 hn) dX10_splitNow_47 ?_
        refine pw_goto (tgt := 58) dX10_splitNow_48 rfl ?_
        refine pw_istore (lv' := [some (.ref B), some (.int (zI (0))), some (.int (zI (1))), some (.int (zI (1))), some (.int (zI (0))), some (.int (zI (1))), some (.int (zI (2))), some (.int (zI (H))), none]) dX10_splitNow_58 (by decide) rfl rfl ?_
        refine pw_iload dX10_splitNow_60 rfl ?_
        refine pw_iconst (v := zI (1)) dX10_splitNow_62 (by decide) ?_
        refine pw_zisub dX10_splitNow_63 ?_
        refine pw_iconst (v := zI (2)) dX10_splitNow_64 (by decide) ?_
        refine pw_zidiv dX10_splitNow_65 (by omega) (by omega) ?_
        refine pw_istore (lv' := [some (.ref B), some (.int (zI (0))), some (.int (zI (1))), some (.int (zI (1))), some (.int (zI (0))), some (.int (zI (1))), some (.int (zI (2))), some (.int (zI (H))), some (.int (zI ((H - 1) / (2))))]) dX10_splitNow_66 (by decide) rfl rfl ?_
        refine pw_aload_n dX10_splitNow_68 rfl ?_
        refine pw_get (v := .ref (B + 2)) okX10 (k := 4) (by decide) lkX10_13 hA2.1 rfl dX10_splitNow_69 ?_
        refine pw_iload dX10_splitNow_72 rfl ?_
        refine pw_iload_n dX10_splitNow_74 rfl ?_
        refine pw_iast (g := (s.2 4)) (t := 0) rfl (mF4 (s := (mA 3 (va_up (va_up (s.2 3) (1 : Int).toNat 1) (2 : Int).toNat 1) (mA 3 (va_up (s.2 3) (1 : Int).toNat 1) s))) hA2) (by omega) (by decide) dX10_splitNow_75 ?_
        have hA3 : mAt B (mA 4 (va_up (s.2 4) (1 : Int).toNat (0)) (mA 3 (va_up (va_up (s.2 3) (1 : Int).toNat 1) (2 : Int).toNat 1) (mA 3 (va_up (s.2 3) (1 : Int).toNat 1) s))) (va_up h2 (B + 2) (pz_z 0 16 (va_up (s.2 4) (1 : Int).toNat (0)))) := mU4 hA2
        have hF3 : mFr B h (va_up h2 (B + 2) (pz_z 0 16 (va_up (s.2 4) (1 : Int).toNat (0)))) := mFr_tr hF2 (mFr_up (by decide))
        revert hA3 hF3
        generalize (va_up h2 (B + 2) (pz_z 0 16 (va_up (s.2 4) (1 : Int).toNat (0)))) = h3
        intro hA3 hF3
        refine pw_aload_n dX10_splitNow_76 rfl ?_
        refine pw_get (v := .ref (B + 2)) okX10 (k := 4) (by decide) lkX10_13 hA3.1 rfl dX10_splitNow_77 ?_
        refine pw_iload dX10_splitNow_80 rfl ?_
        refine pw_iload_n dX10_splitNow_82 rfl ?_
        refine pw_iast (g := (va_up (s.2 4) (1 : Int).toNat (0))) (t := 0) rfl (mF4 (s := (mA 4 (va_up (s.2 4) (1 : Int).toNat (0)) (mA 3 (va_up (va_up (s.2 3) (1 : Int).toNat 1) (2 : Int).toNat 1) (mA 3 (va_up (s.2 3) (1 : Int).toNat 1) s)))) hA3) (by omega) (by decide) dX10_splitNow_83 ?_
        have hA4 : mAt B (mA 4 (va_up (va_up (s.2 4) (1 : Int).toNat (0)) (2 : Int).toNat (1)) (mA 4 (va_up (s.2 4) (1 : Int).toNat (0)) (mA 3 (va_up (va_up (s.2 3) (1 : Int).toNat 1) (2 : Int).toNat 1) (mA 3 (va_up (s.2 3) (1 : Int).toNat 1) s)))) (va_up h3 (B + 2) (pz_z 0 16 (va_up (va_up (s.2 4) (1 : Int).toNat (0)) (2 : Int).toNat (1)))) := mU4 hA3
        have hF4 : mFr B h (va_up h3 (B + 2) (pz_z 0 16 (va_up (va_up (s.2 4) (1 : Int).toNat (0)) (2 : Int).toNat (1)))) := mFr_tr hF3 (mFr_up (by decide))
        revert hA4 hF4
        generalize (va_up h3 (B + 2) (pz_z 0 16 (va_up (va_up (s.2 4) (1 : Int).toNat (0)) (2 : Int).toNat (1)))) = h4
        intro hA4 hF4
        refine pw_aload_n dX10_splitNow_84 rfl ?_
        refine pw_get (v := .ref (B + 14)) okX10 (k := 17) (by decide) lkX10_50 hA4.1 rfl dX10_splitNow_85 ?_
        refine pw_iload_n dX10_splitNow_88 rfl ?_
        refine pw_iload dX10_splitNow_89 rfl ?_
        refine pw_iast (g := (s.2 17)) (t := 0) rfl (mF17 (s := (mA 4 (va_up (va_up (s.2 4) (1 : Int).toNat (0)) (2 : Int).toNat (1)) (mA 4 (va_up (s.2 4) (1 : Int).toNat (0)) (mA 3 (va_up (va_up (s.2 3) (1 : Int).toNat 1) (2 : Int).toNat 1) (mA 3 (va_up (s.2 3) (1 : Int).toNat 1) s))))) hA4) (by omega) (by decide) dX10_splitNow_91 ?_
        have hA5 : mAt B (mA 17 (va_up (s.2 17) (0 : Int).toNat (1)) (mA 4 (va_up (va_up (s.2 4) (1 : Int).toNat (0)) (2 : Int).toNat (1)) (mA 4 (va_up (s.2 4) (1 : Int).toNat (0)) (mA 3 (va_up (va_up (s.2 3) (1 : Int).toNat 1) (2 : Int).toNat 1) (mA 3 (va_up (s.2 3) (1 : Int).toNat 1) s))))) (va_up h4 (B + 14) (pz_z 0 8 (va_up (s.2 17) (0 : Int).toNat (1)))) := mU17 hA4
        have hF5 : mFr B h (va_up h4 (B + 14) (pz_z 0 8 (va_up (s.2 17) (0 : Int).toNat (1)))) := mFr_tr hF4 (mFr_up (by decide))
        revert hA5 hF5
        generalize (va_up h4 (B + 14) (pz_z 0 8 (va_up (s.2 17) (0 : Int).toNat (1)))) = h5
        intro hA5 hF5
        refine pw_aload_n dX10_splitNow_92 rfl ?_
        refine pw_get (v := .ref (B + 14)) okX10 (k := 17) (by decide) lkX10_50 hA5.1 rfl dX10_splitNow_93 ?_
        refine pw_iload_n dX10_splitNow_96 rfl ?_
        refine pw_iload dX10_splitNow_97 rfl ?_
        refine pw_iast (g := (va_up (s.2 17) (0 : Int).toNat (1))) (t := 0) rfl (mF17 (s := (mA 17 (va_up (s.2 17) (0 : Int).toNat (1)) (mA 4 (va_up (va_up (s.2 4) (1 : Int).toNat (0)) (2 : Int).toNat (1)) (mA 4 (va_up (s.2 4) (1 : Int).toNat (0)) (mA 3 (va_up (va_up (s.2 3) (1 : Int).toNat 1) (2 : Int).toNat 1) (mA 3 (va_up (s.2 3) (1 : Int).toNat 1) s)))))) hA5) (by omega) (by decide) dX10_splitNow_99 ?_
        have hA6 : mAt B (mA 17 (va_up (va_up (s.2 17) (0 : Int).toNat (1)) (1 : Int).toNat (2)) (mA 17 (va_up (s.2 17) (0 : Int).toNat (1)) (mA 4 (va_up (va_up (s.2 4) (1 : Int).toNat (0)) (2 : Int).toNat (1)) (mA 4 (va_up (s.2 4) (1 : Int).toNat (0)) (mA 3 (va_up (va_up (s.2 3) (1 : Int).toNat 1) (2 : Int).toNat 1) (mA 3 (va_up (s.2 3) (1 : Int).toNat 1) s)))))) (va_up h5 (B + 14) (pz_z 0 8 (va_up (va_up (s.2 17) (0 : Int).toNat (1)) (1 : Int).toNat (2)))) := mU17 hA5
        have hF6 : mFr B h (va_up h5 (B + 14) (pz_z 0 8 (va_up (va_up (s.2 17) (0 : Int).toNat (1)) (1 : Int).toNat (2)))) := mFr_tr hF5 (mFr_up (by decide))
        revert hA6 hF6
        generalize (va_up h5 (B + 14) (pz_z 0 8 (va_up (va_up (s.2 17) (0 : Int).toNat (1)) (1 : Int).toNat (2)))) = h6
        intro hA6 hF6
        refine pw_aload_n dX10_splitNow_100 rfl ?_
        refine pw_get (v := .ref (B + 2)) okX10 (k := 4) (by decide) lkX10_13 hA6.1 rfl dX10_splitNow_101 ?_
        refine pw_iload dX10_splitNow_104 rfl ?_
        refine pw_iconst (v := zI (-1)) dX10_splitNow_106 (by decide) ?_
        refine pw_iast (g := (va_up (va_up (s.2 4) (1 : Int).toNat (0)) (2 : Int).toNat (1))) (t := 0) rfl (mF4 (s := (mA 17 (va_up (va_up (s.2 17) (0 : Int).toNat (1)) (1 : Int).toNat (2)) (mA 17 (va_up (s.2 17) (0 : Int).toNat (1)) (mA 4 (va_up (va_up (s.2 4) (1 : Int).toNat (0)) (2 : Int).toNat (1)) (mA 4 (va_up (s.2 4) (1 : Int).toNat (0)) (mA 3 (va_up (va_up (s.2 3) (1 : Int).toNat 1) (2 : Int).toNat 1) (mA 3 (va_up (s.2 3) (1 : Int).toNat 1) s))))))) hA6) (by omega) (by decide) dX10_splitNow_107 ?_
        have hA7 : mAt B (mA 4 (va_up (va_up (va_up (s.2 4) (1 : Int).toNat (0)) (2 : Int).toNat (1)) (0 : Int).toNat (-1)) (mA 17 (va_up (va_up (s.2 17) (0 : Int).toNat (1)) (1 : Int).toNat (2)) (mA 17 (va_up (s.2 17) (0 : Int).toNat (1)) (mA 4 (va_up (va_up (s.2 4) (1 : Int).toNat (0)) (2 : Int).toNat (1)) (mA 4 (va_up (s.2 4) (1 : Int).toNat (0)) (mA 3 (va_up (va_up (s.2 3) (1 : Int).toNat 1) (2 : Int).toNat 1) (mA 3 (va_up (s.2 3) (1 : Int).toNat 1) s))))))) (va_up h6 (B + 2) (pz_z 0 16 (va_up (va_up (va_up (s.2 4) (1 : Int).toNat (0)) (2 : Int).toNat (1)) (0 : Int).toNat (-1)))) := mU4 hA6
        have hF7 : mFr B h (va_up h6 (B + 2) (pz_z 0 16 (va_up (va_up (va_up (s.2 4) (1 : Int).toNat (0)) (2 : Int).toNat (1)) (0 : Int).toNat (-1)))) := mFr_tr hF6 (mFr_up (by decide))
        revert hA7 hF7
        generalize (va_up h6 (B + 2) (pz_z 0 16 (va_up (va_up (va_up (s.2 4) (1 : Int).toNat (0)) (2 : Int).toNat (1)) (0 : Int).toNat (-1)))) = h7
        intro hA7 hF7
        refine pw_aload_n dX10_splitNow_108 rfl ?_
        refine pw_get (v := .ref (B + 3)) okX10 (k := 5) (by decide) lkX10_17 hA7.1 rfl dX10_splitNow_109 ?_
        refine pw_iload dX10_splitNow_112 rfl ?_
        refine pw_iload dX10_splitNow_114 rfl ?_
        refine pw_iast (g := (s.2 5)) (t := 0) rfl (mF5 (s := (mA 4 (va_up (va_up (va_up (s.2 4) (1 : Int).toNat (0)) (2 : Int).toNat (1)) (0 : Int).toNat (-1)) (mA 17 (va_up (va_up (s.2 17) (0 : Int).toNat (1)) (1 : Int).toNat (2)) (mA 17 (va_up (s.2 17) (0 : Int).toNat (1)) (mA 4 (va_up (va_up (s.2 4) (1 : Int).toNat (0)) (2 : Int).toNat (1)) (mA 4 (va_up (s.2 4) (1 : Int).toNat (0)) (mA 3 (va_up (va_up (s.2 3) (1 : Int).toNat 1) (2 : Int).toNat 1) (mA 3 (va_up (s.2 3) (1 : Int).toNat 1) s)))))))) hA7) (by omega) (by decide) dX10_splitNow_116 ?_
        have hA8 : mAt B (mA 5 (va_up (s.2 5) (0 : Int).toNat (1)) (mA 4 (va_up (va_up (va_up (s.2 4) (1 : Int).toNat (0)) (2 : Int).toNat (1)) (0 : Int).toNat (-1)) (mA 17 (va_up (va_up (s.2 17) (0 : Int).toNat (1)) (1 : Int).toNat (2)) (mA 17 (va_up (s.2 17) (0 : Int).toNat (1)) (mA 4 (va_up (va_up (s.2 4) (1 : Int).toNat (0)) (2 : Int).toNat (1)) (mA 4 (va_up (s.2 4) (1 : Int).toNat (0)) (mA 3 (va_up (va_up (s.2 3) (1 : Int).toNat 1) (2 : Int).toNat 1) (mA 3 (va_up (s.2 3) (1 : Int).toNat 1) s)))))))) (va_up h7 (B + 3) (pz_z 0 16 (va_up (s.2 5) (0 : Int).toNat (1)))) := mU5 hA7
        have hF8 : mFr B h (va_up h7 (B + 3) (pz_z 0 16 (va_up (s.2 5) (0 : Int).toNat (1)))) := mFr_tr hF7 (mFr_up (by decide))
        revert hA8 hF8
        generalize (va_up h7 (B + 3) (pz_z 0 16 (va_up (s.2 5) (0 : Int).toNat (1)))) = h8
        intro hA8 hF8
        refine pw_aload_n dX10_splitNow_117 rfl ?_
        refine pw_get (v := .ref (B + 4)) okX10 (k := 6) (by decide) lkX10_20 hA8.1 rfl dX10_splitNow_118 ?_
        refine pw_iload dX10_splitNow_121 rfl ?_
        refine pw_iload dX10_splitNow_123 rfl ?_
        refine pw_iast (g := (s.2 6)) (t := 0) rfl (mF6 (s := (mA 5 (va_up (s.2 5) (0 : Int).toNat (1)) (mA 4 (va_up (va_up (va_up (s.2 4) (1 : Int).toNat (0)) (2 : Int).toNat (1)) (0 : Int).toNat (-1)) (mA 17 (va_up (va_up (s.2 17) (0 : Int).toNat (1)) (1 : Int).toNat (2)) (mA 17 (va_up (s.2 17) (0 : Int).toNat (1)) (mA 4 (va_up (va_up (s.2 4) (1 : Int).toNat (0)) (2 : Int).toNat (1)) (mA 4 (va_up (s.2 4) (1 : Int).toNat (0)) (mA 3 (va_up (va_up (s.2 3) (1 : Int).toNat 1) (2 : Int).toNat 1) (mA 3 (va_up (s.2 3) (1 : Int).toNat 1) s))))))))) hA8) (by omega) (by decide) dX10_splitNow_125 ?_
        have hA9 : mAt B (mA 6 (va_up (s.2 6) (0 : Int).toNat (2)) (mA 5 (va_up (s.2 5) (0 : Int).toNat (1)) (mA 4 (va_up (va_up (va_up (s.2 4) (1 : Int).toNat (0)) (2 : Int).toNat (1)) (0 : Int).toNat (-1)) (mA 17 (va_up (va_up (s.2 17) (0 : Int).toNat (1)) (1 : Int).toNat (2)) (mA 17 (va_up (s.2 17) (0 : Int).toNat (1)) (mA 4 (va_up (va_up (s.2 4) (1 : Int).toNat (0)) (2 : Int).toNat (1)) (mA 4 (va_up (s.2 4) (1 : Int).toNat (0)) (mA 3 (va_up (va_up (s.2 3) (1 : Int).toNat 1) (2 : Int).toNat 1) (mA 3 (va_up (s.2 3) (1 : Int).toNat 1) s))))))))) (va_up h8 (B + 4) (pz_z 0 16 (va_up (s.2 6) (0 : Int).toNat (2)))) := mU6 hA8
        have hF9 : mFr B h (va_up h8 (B + 4) (pz_z 0 16 (va_up (s.2 6) (0 : Int).toNat (2)))) := mFr_tr hF8 (mFr_up (by decide))
        revert hA9 hF9
        generalize (va_up h8 (B + 4) (pz_z 0 16 (va_up (s.2 6) (0 : Int).toNat (2)))) = h9
        intro hA9 hF9
        refine pw_aload_n dX10_splitNow_126 rfl ?_
        refine pw_get (v := .ref (B + 6)) okX10 (k := 8) (by decide) lkX10_26 hA9.1 rfl dX10_splitNow_127 ?_
        refine pw_iload dX10_splitNow_130 rfl ?_
        refine pw_iload_n dX10_splitNow_132 rfl ?_
        refine pw_zast (g := (s.2 8)) (t := 1) rfl (mF8 (s := (mA 6 (va_up (s.2 6) (0 : Int).toNat (2)) (mA 5 (va_up (s.2 5) (0 : Int).toNat (1)) (mA 4 (va_up (va_up (va_up (s.2 4) (1 : Int).toNat (0)) (2 : Int).toNat (1)) (0 : Int).toNat (-1)) (mA 17 (va_up (va_up (s.2 17) (0 : Int).toNat (1)) (1 : Int).toNat (2)) (mA 17 (va_up (s.2 17) (0 : Int).toNat (1)) (mA 4 (va_up (va_up (s.2 4) (1 : Int).toNat (0)) (2 : Int).toNat (1)) (mA 4 (va_up (s.2 4) (1 : Int).toNat (0)) (mA 3 (va_up (va_up (s.2 3) (1 : Int).toNat 1) (2 : Int).toNat 1) (mA 3 (va_up (s.2 3) (1 : Int).toNat 1) s)))))))))) hA9) (by omega) (by decide) (by omega) dX10_splitNow_133 ?_
        have hA10 : mAt B (mA 8 (va_up (s.2 8) (0 : Int).toNat (1)) (mA 6 (va_up (s.2 6) (0 : Int).toNat (2)) (mA 5 (va_up (s.2 5) (0 : Int).toNat (1)) (mA 4 (va_up (va_up (va_up (s.2 4) (1 : Int).toNat (0)) (2 : Int).toNat (1)) (0 : Int).toNat (-1)) (mA 17 (va_up (va_up (s.2 17) (0 : Int).toNat (1)) (1 : Int).toNat (2)) (mA 17 (va_up (s.2 17) (0 : Int).toNat (1)) (mA 4 (va_up (va_up (s.2 4) (1 : Int).toNat (0)) (2 : Int).toNat (1)) (mA 4 (va_up (s.2 4) (1 : Int).toNat (0)) (mA 3 (va_up (va_up (s.2 3) (1 : Int).toNat 1) (2 : Int).toNat 1) (mA 3 (va_up (s.2 3) (1 : Int).toNat 1) s)))))))))) (va_up h9 (B + 6) (pz_z 1 16 (va_up (s.2 8) (0 : Int).toNat (1)))) := mU8 hA9
        have hF10 : mFr B h (va_up h9 (B + 6) (pz_z 1 16 (va_up (s.2 8) (0 : Int).toNat (1)))) := mFr_tr hF9 (mFr_up (by decide))
        revert hA10 hF10
        generalize (va_up h9 (B + 6) (pz_z 1 16 (va_up (s.2 8) (0 : Int).toNat (1)))) = h10
        intro hA10 hF10
        refine pw_aload_n dX10_splitNow_134 rfl ?_
        refine pw_get (v := .ref (B + 7)) okX10 (k := 9) (by decide) lkX10_29 hA10.1 rfl dX10_splitNow_135 ?_
        refine pw_iload dX10_splitNow_138 rfl ?_
        refine pw_iload dX10_splitNow_140 rfl ?_
        refine pw_iast (g := (s.2 9)) (t := 0) rfl (mF9 (s := (mA 8 (va_up (s.2 8) (0 : Int).toNat (1)) (mA 6 (va_up (s.2 6) (0 : Int).toNat (2)) (mA 5 (va_up (s.2 5) (0 : Int).toNat (1)) (mA 4 (va_up (va_up (va_up (s.2 4) (1 : Int).toNat (0)) (2 : Int).toNat (1)) (0 : Int).toNat (-1)) (mA 17 (va_up (va_up (s.2 17) (0 : Int).toNat (1)) (1 : Int).toNat (2)) (mA 17 (va_up (s.2 17) (0 : Int).toNat (1)) (mA 4 (va_up (va_up (s.2 4) (1 : Int).toNat (0)) (2 : Int).toNat (1)) (mA 4 (va_up (s.2 4) (1 : Int).toNat (0)) (mA 3 (va_up (va_up (s.2 3) (1 : Int).toNat 1) (2 : Int).toNat 1) (mA 3 (va_up (s.2 3) (1 : Int).toNat 1) s))))))))))) hA10) (by omega) (by decide) dX10_splitNow_142 ?_
        have hA11 : mAt B (mA 9 (va_up (s.2 9) (0 : Int).toNat ((H - 1) / (2))) (mA 8 (va_up (s.2 8) (0 : Int).toNat (1)) (mA 6 (va_up (s.2 6) (0 : Int).toNat (2)) (mA 5 (va_up (s.2 5) (0 : Int).toNat (1)) (mA 4 (va_up (va_up (va_up (s.2 4) (1 : Int).toNat (0)) (2 : Int).toNat (1)) (0 : Int).toNat (-1)) (mA 17 (va_up (va_up (s.2 17) (0 : Int).toNat (1)) (1 : Int).toNat (2)) (mA 17 (va_up (s.2 17) (0 : Int).toNat (1)) (mA 4 (va_up (va_up (s.2 4) (1 : Int).toNat (0)) (2 : Int).toNat (1)) (mA 4 (va_up (s.2 4) (1 : Int).toNat (0)) (mA 3 (va_up (va_up (s.2 3) (1 : Int).toNat 1) (2 : Int).toNat 1) (mA 3 (va_up (s.2 3) (1 : Int).toNat 1) s))))))))))) (va_up h10 (B + 7) (pz_z 0 16 (va_up (s.2 9) (0 : Int).toNat ((H - 1) / (2))))) := mU9 hA10
        have hF11 : mFr B h (va_up h10 (B + 7) (pz_z 0 16 (va_up (s.2 9) (0 : Int).toNat ((H - 1) / (2))))) := mFr_tr hF10 (mFr_up (by decide))
        revert hA11 hF11
        generalize (va_up h10 (B + 7) (pz_z 0 16 (va_up (s.2 9) (0 : Int).toNat ((H - 1) / (2))))) = h11
        intro hA11 hF11
        refine pw_aload_n dX10_splitNow_143 rfl ?_
        refine pw_get (v := .ref (B + 5)) okX10 (k := 7) (by decide) lkX10_23 hA11.1 rfl dX10_splitNow_144 ?_
        refine pw_iload dX10_splitNow_147 rfl ?_
        refine pw_iload dX10_splitNow_149 rfl ?_
        refine pw_iast (g := (s.2 7)) (t := 0) rfl (mF7 (s := (mA 9 (va_up (s.2 9) (0 : Int).toNat ((H - 1) / (2))) (mA 8 (va_up (s.2 8) (0 : Int).toNat (1)) (mA 6 (va_up (s.2 6) (0 : Int).toNat (2)) (mA 5 (va_up (s.2 5) (0 : Int).toNat (1)) (mA 4 (va_up (va_up (va_up (s.2 4) (1 : Int).toNat (0)) (2 : Int).toNat (1)) (0 : Int).toNat (-1)) (mA 17 (va_up (va_up (s.2 17) (0 : Int).toNat (1)) (1 : Int).toNat (2)) (mA 17 (va_up (s.2 17) (0 : Int).toNat (1)) (mA 4 (va_up (va_up (s.2 4) (1 : Int).toNat (0)) (2 : Int).toNat (1)) (mA 4 (va_up (s.2 4) (1 : Int).toNat (0)) (mA 3 (va_up (va_up (s.2 3) (1 : Int).toNat 1) (2 : Int).toNat 1) (mA 3 (va_up (s.2 3) (1 : Int).toNat 1) s)))))))))))) hA11) (by omega) (by decide) dX10_splitNow_151 ?_
        have hA12 : mAt B (mA 7 (va_up (s.2 7) (1 : Int).toNat (0)) (mA 9 (va_up (s.2 9) (0 : Int).toNat ((H - 1) / (2))) (mA 8 (va_up (s.2 8) (0 : Int).toNat (1)) (mA 6 (va_up (s.2 6) (0 : Int).toNat (2)) (mA 5 (va_up (s.2 5) (0 : Int).toNat (1)) (mA 4 (va_up (va_up (va_up (s.2 4) (1 : Int).toNat (0)) (2 : Int).toNat (1)) (0 : Int).toNat (-1)) (mA 17 (va_up (va_up (s.2 17) (0 : Int).toNat (1)) (1 : Int).toNat (2)) (mA 17 (va_up (s.2 17) (0 : Int).toNat (1)) (mA 4 (va_up (va_up (s.2 4) (1 : Int).toNat (0)) (2 : Int).toNat (1)) (mA 4 (va_up (s.2 4) (1 : Int).toNat (0)) (mA 3 (va_up (va_up (s.2 3) (1 : Int).toNat 1) (2 : Int).toNat 1) (mA 3 (va_up (s.2 3) (1 : Int).toNat 1) s)))))))))))) (va_up h11 (B + 5) (pz_z 0 16 (va_up (s.2 7) (1 : Int).toNat (0)))) := mU7 hA11
        have hF12 : mFr B h (va_up h11 (B + 5) (pz_z 0 16 (va_up (s.2 7) (1 : Int).toNat (0)))) := mFr_tr hF11 (mFr_up (by decide))
        revert hA12 hF12
        generalize (va_up h11 (B + 5) (pz_z 0 16 (va_up (s.2 7) (1 : Int).toNat (0)))) = h12
        intro hA12 hF12
        refine pw_aload_n dX10_splitNow_152 rfl ?_
        refine pw_get (v := .ref (B + 5)) okX10 (k := 7) (by decide) lkX10_23 hA12.1 rfl dX10_splitNow_153 ?_
        refine pw_iload dX10_splitNow_156 rfl ?_
        refine pw_iload dX10_splitNow_158 rfl ?_
        refine pw_iast (g := (va_up (s.2 7) (1 : Int).toNat (0))) (t := 0) rfl (mF7 (s := (mA 7 (va_up (s.2 7) (1 : Int).toNat (0)) (mA 9 (va_up (s.2 9) (0 : Int).toNat ((H - 1) / (2))) (mA 8 (va_up (s.2 8) (0 : Int).toNat (1)) (mA 6 (va_up (s.2 6) (0 : Int).toNat (2)) (mA 5 (va_up (s.2 5) (0 : Int).toNat (1)) (mA 4 (va_up (va_up (va_up (s.2 4) (1 : Int).toNat (0)) (2 : Int).toNat (1)) (0 : Int).toNat (-1)) (mA 17 (va_up (va_up (s.2 17) (0 : Int).toNat (1)) (1 : Int).toNat (2)) (mA 17 (va_up (s.2 17) (0 : Int).toNat (1)) (mA 4 (va_up (va_up (s.2 4) (1 : Int).toNat (0)) (2 : Int).toNat (1)) (mA 4 (va_up (s.2 4) (1 : Int).toNat (0)) (mA 3 (va_up (va_up (s.2 3) (1 : Int).toNat 1) (2 : Int).toNat 1) (mA 3 (va_up (s.2 3) (1 : Int).toNat 1) s))))))))))))) hA12) (by omega) (by decide) dX10_splitNow_160 ?_
        have hA13 : mAt B (mA 7 (va_up (va_up (s.2 7) (1 : Int).toNat (0)) (2 : Int).toNat (0)) (mA 7 (va_up (s.2 7) (1 : Int).toNat (0)) (mA 9 (va_up (s.2 9) (0 : Int).toNat ((H - 1) / (2))) (mA 8 (va_up (s.2 8) (0 : Int).toNat (1)) (mA 6 (va_up (s.2 6) (0 : Int).toNat (2)) (mA 5 (va_up (s.2 5) (0 : Int).toNat (1)) (mA 4 (va_up (va_up (va_up (s.2 4) (1 : Int).toNat (0)) (2 : Int).toNat (1)) (0 : Int).toNat (-1)) (mA 17 (va_up (va_up (s.2 17) (0 : Int).toNat (1)) (1 : Int).toNat (2)) (mA 17 (va_up (s.2 17) (0 : Int).toNat (1)) (mA 4 (va_up (va_up (s.2 4) (1 : Int).toNat (0)) (2 : Int).toNat (1)) (mA 4 (va_up (s.2 4) (1 : Int).toNat (0)) (mA 3 (va_up (va_up (s.2 3) (1 : Int).toNat 1) (2 : Int).toNat 1) (mA 3 (va_up (s.2 3) (1 : Int).toNat 1) s))))))))))))) (va_up h12 (B + 5) (pz_z 0 16 (va_up (va_up (s.2 7) (1 : Int).toNat (0)) (2 : Int).toNat (0)))) := mU7 hA12
        have hF13 : mFr B h (va_up h12 (B + 5) (pz_z 0 16 (va_up (va_up (s.2 7) (1 : Int).toNat (0)) (2 : Int).toNat (0)))) := mFr_tr hF12 (mFr_up (by decide))
        revert hA13 hF13
        generalize (va_up h12 (B + 5) (pz_z 0 16 (va_up (va_up (s.2 7) (1 : Int).toNat (0)) (2 : Int).toNat (0)))) = h13
        intro hA13 hF13
        refine pw_aload_n dX10_splitNow_161 rfl ?_
        refine pw_get (v := .ref (B + 13)) okX10 (k := 16) (by decide) lkX10_47 hA13.1 rfl dX10_splitNow_162 ?_
        refine pw_iload_n dX10_splitNow_165 rfl ?_
        refine pw_iconst (v := zI (1)) dX10_splitNow_166 (by decide) ?_
        refine pw_zast (g := (s.2 16)) (t := 1) rfl (mF16 (s := (mA 7 (va_up (va_up (s.2 7) (1 : Int).toNat (0)) (2 : Int).toNat (0)) (mA 7 (va_up (s.2 7) (1 : Int).toNat (0)) (mA 9 (va_up (s.2 9) (0 : Int).toNat ((H - 1) / (2))) (mA 8 (va_up (s.2 8) (0 : Int).toNat (1)) (mA 6 (va_up (s.2 6) (0 : Int).toNat (2)) (mA 5 (va_up (s.2 5) (0 : Int).toNat (1)) (mA 4 (va_up (va_up (va_up (s.2 4) (1 : Int).toNat (0)) (2 : Int).toNat (1)) (0 : Int).toNat (-1)) (mA 17 (va_up (va_up (s.2 17) (0 : Int).toNat (1)) (1 : Int).toNat (2)) (mA 17 (va_up (s.2 17) (0 : Int).toNat (1)) (mA 4 (va_up (va_up (s.2 4) (1 : Int).toNat (0)) (2 : Int).toNat (1)) (mA 4 (va_up (s.2 4) (1 : Int).toNat (0)) (mA 3 (va_up (va_up (s.2 3) (1 : Int).toNat 1) (2 : Int).toNat 1) (mA 3 (va_up (s.2 3) (1 : Int).toNat 1) s)))))))))))))) hA13) (by omega) (by decide) (by omega) dX10_splitNow_167 ?_
        have hA14 : mAt B (mA 16 (va_up (s.2 16) (1 : Int).toNat (1)) (mA 7 (va_up (va_up (s.2 7) (1 : Int).toNat (0)) (2 : Int).toNat (0)) (mA 7 (va_up (s.2 7) (1 : Int).toNat (0)) (mA 9 (va_up (s.2 9) (0 : Int).toNat ((H - 1) / (2))) (mA 8 (va_up (s.2 8) (0 : Int).toNat (1)) (mA 6 (va_up (s.2 6) (0 : Int).toNat (2)) (mA 5 (va_up (s.2 5) (0 : Int).toNat (1)) (mA 4 (va_up (va_up (va_up (s.2 4) (1 : Int).toNat (0)) (2 : Int).toNat (1)) (0 : Int).toNat (-1)) (mA 17 (va_up (va_up (s.2 17) (0 : Int).toNat (1)) (1 : Int).toNat (2)) (mA 17 (va_up (s.2 17) (0 : Int).toNat (1)) (mA 4 (va_up (va_up (s.2 4) (1 : Int).toNat (0)) (2 : Int).toNat (1)) (mA 4 (va_up (s.2 4) (1 : Int).toNat (0)) (mA 3 (va_up (va_up (s.2 3) (1 : Int).toNat 1) (2 : Int).toNat 1) (mA 3 (va_up (s.2 3) (1 : Int).toNat 1) s)))))))))))))) (va_up h13 (B + 13) (pz_z 1 8 (va_up (s.2 16) (1 : Int).toNat (1)))) := mU16 hA13
        have hF14 : mFr B h (va_up h13 (B + 13) (pz_z 1 8 (va_up (s.2 16) (1 : Int).toNat (1)))) := mFr_tr hF13 (mFr_up (by decide))
        revert hA14 hF14
        generalize (va_up h13 (B + 13) (pz_z 1 8 (va_up (s.2 16) (1 : Int).toNat (1)))) = h14
        intro hA14 hF14
        refine pw_aload_n dX10_splitNow_168 rfl ?_
        refine pw_iload_n dX10_splitNow_169 rfl ?_
        refine pw_iload_n dX10_splitNow_170 rfl ?_
        refine pw_if_eq (tgt := 184) dX10_splitNow_171 rfl (by omega) (fun c171 => ?_) (fun c171 => ?_)
        · exfalso; omega
        ·
          refine pw_aload_n dX10_splitNow_174 rfl ?_
          refine pw_get (v := .ref (B + 10)) okX10 (k := 12) (by decide) lkX10_38 hA14.1 rfl dX10_splitNow_175 ?_
          refine pw_iload dX10_splitNow_178 rfl ?_
          refine pw_ialdv (v := w) (t := 0) rfl (mF12 (s := (mA 16 (va_up (s.2 16) (1 : Int).toNat (1)) (mA 7 (va_up (va_up (s.2 7) (1 : Int).toNat (0)) (2 : Int).toNat (0)) (mA 7 (va_up (s.2 7) (1 : Int).toNat (0)) (mA 9 (va_up (s.2 9) (0 : Int).toNat ((H - 1) / (2))) (mA 8 (va_up (s.2 8) (0 : Int).toNat (1)) (mA 6 (va_up (s.2 6) (0 : Int).toNat (2)) (mA 5 (va_up (s.2 5) (0 : Int).toNat (1)) (mA 4 (va_up (va_up (va_up (s.2 4) (1 : Int).toNat (0)) (2 : Int).toNat (1)) (0 : Int).toNat (-1)) (mA 17 (va_up (va_up (s.2 17) (0 : Int).toNat (1)) (1 : Int).toNat (2)) (mA 17 (va_up (s.2 17) (0 : Int).toNat (1)) (mA 4 (va_up (va_up (s.2 4) (1 : Int).toNat (0)) (2 : Int).toNat (1)) (mA 4 (va_up (s.2 4) (1 : Int).toNat (0)) (mA 3 (va_up (va_up (s.2 3) (1 : Int).toNat 1) (2 : Int).toNat 1) (mA 3 (va_up (s.2 3) (1 : Int).toNat 1) s))))))))))))))) hA14) (by omega) (by decide) (show s.2 12 0 = w from mN_12 hn) dX10_splitNow_180 ?_
          refine pw_goto (tgt := 191) dX10_splitNow_181 rfl ?_
          refine pw_iload_n dX10_splitNow_191 rfl ?_
          refine pw_if_eq (tgt := 205) dX10_splitNow_192 rfl (by omega) (fun c192 => ?_) (fun c192 => ?_)
          · exfalso; omega
          ·
            refine pw_iload dX10_splitNow_195 rfl ?_
            refine pw_iconst (v := zI (1)) dX10_splitNow_197 (by decide) ?_
            refine pw_zisub dX10_splitNow_198 ?_
            refine pw_iload dX10_splitNow_199 rfl ?_
            refine pw_zisub dX10_splitNow_201 ?_
            refine pw_goto (tgt := 212) dX10_splitNow_202 rfl ?_
            refine pw_callV (As := [.int (zI (1)), .int (zI (w)), .int (zI ((H - 1) - ((H - 1) / (2))))]) (b := B) (rm := rmD 2 0 0) (nR_begin (p := 1) htr hA14 (by omega) (show mPu s 1 from ⟨⟨by rw [zz22]; omega, by rw [zz22]; omega⟩, ⟨by rw [zz31]; omega, by rw [zz31]; omega⟩, ⟨by rw [zz32]; omega, by rw [zz32]; omega⟩, ⟨by rw [zz33]; omega, by rw [zz33]; omega⟩, ⟨by rw [zz34]; omega, by rw [zz34]; omega⟩, ⟨by rw [zz35]; omega, by rw [zz35]; omega⟩, (fun j hj => by rw [mZ_36 hn (by omega)]; omega), ⟨by rw [zz37]; omega, by rw [zz37]; omega⟩, ⟨by rw [zz38]; omega, by rw [zz38]; omega⟩, ⟨by rw [zz39]; omega, by rw [zz39]; omega⟩, ⟨by rw [zz42]; omega, by rw [zz42]; omega⟩⟩) (by omega) (by omega)) rfl hA14.1 rfl rfl ywX10_begin rfl cwX10_169 ⟨nle rfl, nle rfl⟩ (nle rfl) ⟨nle rfl, nle rfl⟩ dX10_splitNow_212 ?_ (fun _ _ _ z => z.elim)
            intro r_9 h15 n_9 hq _
            obtain ⟨e1, g15, hA15, hRo15, hRg15, hF150, e4⟩ := hq
            rw [e1, e4]
            show pw E YX10_splitNow _ _ 0 0 215 [some (.ref B), some (.int (zI (0))), some (.int (zI (1))), some (.int (zI (1))), some (.int (zI (0))), some (.int (zI (1))), some (.int (zI (2))), some (.int (zI (H))), some (.int (zI ((H - 1) / (2))))] [] h15 n
            have hF15 := mFr_tr hF14 hF150
            have rg0_15 : mRg (mG (mA 16 (va_up (s.2 16) (1 : Int).toNat (1)) (mA 7 (va_up (va_up (s.2 7) (1 : Int).toNat (0)) (2 : Int).toNat (0)) (mA 7 (va_up (s.2 7) (1 : Int).toNat (0)) (mA 9 (va_up (s.2 9) (0 : Int).toNat ((H - 1) / (2))) (mA 8 (va_up (s.2 8) (0 : Int).toNat (1)) (mA 6 (va_up (s.2 6) (0 : Int).toNat (2)) (mA 5 (va_up (s.2 5) (0 : Int).toNat (1)) (mA 4 (va_up (va_up (va_up (s.2 4) (1 : Int).toNat (0)) (2 : Int).toNat (1)) (0 : Int).toNat (-1)) (mA 17 (va_up (va_up (s.2 17) (0 : Int).toNat (1)) (1 : Int).toNat (2)) (mA 17 (va_up (s.2 17) (0 : Int).toNat (1)) (mA 4 (va_up (va_up (s.2 4) (1 : Int).toNat (0)) (2 : Int).toNat (1)) (mA 4 (va_up (s.2 4) (1 : Int).toNat (0)) (mA 3 (va_up (va_up (s.2 3) (1 : Int).toNat 1) (2 : Int).toNat 1) (mA 3 (va_up (s.2 3) (1 : Int).toNat 1) s)))))))))))))) g15) 0 := mRg_o rg0 hRo15 (by decide)
            refine pw_aload_n dX10_splitNow_215 rfl ?_
            refine pw_iload dX10_splitNow_216 rfl ?_
            refine pw_aload_n dX10_splitNow_218 rfl ?_
            refine pw_get (v := .ref (B + 8)) okX10 (k := 10) (by decide) lkX10_32 hA15.1 rfl dX10_splitNow_219 ?_
            refine pw_iload dX10_splitNow_222 rfl ?_
            refine pw_ialdv (v := 0) (t := 0) rfl (mF10 (s := (mG (mA 16 (va_up (s.2 16) (1 : Int).toNat (1)) (mA 7 (va_up (va_up (s.2 7) (1 : Int).toNat (0)) (2 : Int).toNat (0)) (mA 7 (va_up (s.2 7) (1 : Int).toNat (0)) (mA 9 (va_up (s.2 9) (0 : Int).toNat ((H - 1) / (2))) (mA 8 (va_up (s.2 8) (0 : Int).toNat (1)) (mA 6 (va_up (s.2 6) (0 : Int).toNat (2)) (mA 5 (va_up (s.2 5) (0 : Int).toNat (1)) (mA 4 (va_up (va_up (va_up (s.2 4) (1 : Int).toNat (0)) (2 : Int).toNat (1)) (0 : Int).toNat (-1)) (mA 17 (va_up (va_up (s.2 17) (0 : Int).toNat (1)) (1 : Int).toNat (2)) (mA 17 (va_up (s.2 17) (0 : Int).toNat (1)) (mA 4 (va_up (va_up (s.2 4) (1 : Int).toNat (0)) (2 : Int).toNat (1)) (mA 4 (va_up (s.2 4) (1 : Int).toNat (0)) (mA 3 (va_up (va_up (s.2 3) (1 : Int).toNat 1) (2 : Int).toNat 1) (mA 3 (va_up (s.2 3) (1 : Int).toNat 1) s)))))))))))))) g15)) hA15) (by omega) (by decide) (show s.2 10 0 = 0 from mN_10 hn) dX10_splitNow_224 ?_
            refine pw_aload_n dX10_splitNow_225 rfl ?_
            refine pw_get (v := .ref (B + 9)) okX10 (k := 11) (by decide) lkX10_35 hA15.1 rfl dX10_splitNow_226 ?_
            refine pw_iload dX10_splitNow_229 rfl ?_
            refine pw_ialdv (v := 0) (t := 0) rfl (mF11 (s := (mG (mA 16 (va_up (s.2 16) (1 : Int).toNat (1)) (mA 7 (va_up (va_up (s.2 7) (1 : Int).toNat (0)) (2 : Int).toNat (0)) (mA 7 (va_up (s.2 7) (1 : Int).toNat (0)) (mA 9 (va_up (s.2 9) (0 : Int).toNat ((H - 1) / (2))) (mA 8 (va_up (s.2 8) (0 : Int).toNat (1)) (mA 6 (va_up (s.2 6) (0 : Int).toNat (2)) (mA 5 (va_up (s.2 5) (0 : Int).toNat (1)) (mA 4 (va_up (va_up (va_up (s.2 4) (1 : Int).toNat (0)) (2 : Int).toNat (1)) (0 : Int).toNat (-1)) (mA 17 (va_up (va_up (s.2 17) (0 : Int).toNat (1)) (1 : Int).toNat (2)) (mA 17 (va_up (s.2 17) (0 : Int).toNat (1)) (mA 4 (va_up (va_up (s.2 4) (1 : Int).toNat (0)) (2 : Int).toNat (1)) (mA 4 (va_up (s.2 4) (1 : Int).toNat (0)) (mA 3 (va_up (va_up (s.2 3) (1 : Int).toNat 1) (2 : Int).toNat 1) (mA 3 (va_up (s.2 3) (1 : Int).toNat 1) s)))))))))))))) g15)) hA15) (by omega) (by decide) (show s.2 11 0 = 0 from mN_11 hn) dX10_splitNow_231 ?_
            refine pw_aload_n dX10_splitNow_232 rfl ?_
            refine pw_get (v := .ref (B + 10)) okX10 (k := 12) (by decide) lkX10_38 hA15.1 rfl dX10_splitNow_233 ?_
            refine pw_iload dX10_splitNow_236 rfl ?_
            refine pw_ialdv (v := w) (t := 0) rfl (mF12 (s := (mG (mA 16 (va_up (s.2 16) (1 : Int).toNat (1)) (mA 7 (va_up (va_up (s.2 7) (1 : Int).toNat (0)) (2 : Int).toNat (0)) (mA 7 (va_up (s.2 7) (1 : Int).toNat (0)) (mA 9 (va_up (s.2 9) (0 : Int).toNat ((H - 1) / (2))) (mA 8 (va_up (s.2 8) (0 : Int).toNat (1)) (mA 6 (va_up (s.2 6) (0 : Int).toNat (2)) (mA 5 (va_up (s.2 5) (0 : Int).toNat (1)) (mA 4 (va_up (va_up (va_up (s.2 4) (1 : Int).toNat (0)) (2 : Int).toNat (1)) (0 : Int).toNat (-1)) (mA 17 (va_up (va_up (s.2 17) (0 : Int).toNat (1)) (1 : Int).toNat (2)) (mA 17 (va_up (s.2 17) (0 : Int).toNat (1)) (mA 4 (va_up (va_up (s.2 4) (1 : Int).toNat (0)) (2 : Int).toNat (1)) (mA 4 (va_up (s.2 4) (1 : Int).toNat (0)) (mA 3 (va_up (va_up (s.2 3) (1 : Int).toNat 1) (2 : Int).toNat 1) (mA 3 (va_up (s.2 3) (1 : Int).toNat 1) s)))))))))))))) g15)) hA15) (by omega) (by decide) (show s.2 12 0 = w from mN_12 hn) dX10_splitNow_238 ?_
            refine pw_aload_n dX10_splitNow_239 rfl ?_
            refine pw_get (v := .ref (B + 11)) okX10 (k := 13) (by decide) lkX10_41 hA15.1 rfl dX10_splitNow_240 ?_
            refine pw_iload dX10_splitNow_243 rfl ?_
            refine pw_ialdv (v := H) (t := 0) rfl (mF13 (s := (mG (mA 16 (va_up (s.2 16) (1 : Int).toNat (1)) (mA 7 (va_up (va_up (s.2 7) (1 : Int).toNat (0)) (2 : Int).toNat (0)) (mA 7 (va_up (s.2 7) (1 : Int).toNat (0)) (mA 9 (va_up (s.2 9) (0 : Int).toNat ((H - 1) / (2))) (mA 8 (va_up (s.2 8) (0 : Int).toNat (1)) (mA 6 (va_up (s.2 6) (0 : Int).toNat (2)) (mA 5 (va_up (s.2 5) (0 : Int).toNat (1)) (mA 4 (va_up (va_up (va_up (s.2 4) (1 : Int).toNat (0)) (2 : Int).toNat (1)) (0 : Int).toNat (-1)) (mA 17 (va_up (va_up (s.2 17) (0 : Int).toNat (1)) (1 : Int).toNat (2)) (mA 17 (va_up (s.2 17) (0 : Int).toNat (1)) (mA 4 (va_up (va_up (s.2 4) (1 : Int).toNat (0)) (2 : Int).toNat (1)) (mA 4 (va_up (s.2 4) (1 : Int).toNat (0)) (mA 3 (va_up (va_up (s.2 3) (1 : Int).toNat 1) (2 : Int).toNat 1) (mA 3 (va_up (s.2 3) (1 : Int).toNat 1) s)))))))))))))) g15)) hA15) (by omega) (by decide) (show s.2 13 0 = H from mN_13 hn) dX10_splitNow_245 ?_
            refine pw_callV (As := [.int (zI (0)), .int (zI (0)), .int (zI (0)), .int (zI (w)), .int (zI (H))]) (b := B) (rm := rmD 2 0 0) (nF_lay1 htr hA15 hw hH rfl rfl rfl rfl rfl rfl rfl (show s.2 12 0 = w from mN_12 hn) (show s.2 13 0 = H from mN_13 hn) rg0_15 hRg15) rfl hA15.1 rfl rfl ywX10_lay rfl cwX10_203 ⟨nle rfl, nle rfl⟩ (nle rfl) ⟨nle rfl, nle rfl⟩ dX10_splitNow_246 ?_ (fun _ _ _ z => z.elim)
            intro r_9 h16 n_9 hq _
            obtain ⟨e1, s16, hA16, hv16, hF160, e4⟩ := hq
            rw [e1, e4]
            show pw E YX10_splitNow _ _ 0 0 249 [some (.ref B), some (.int (zI (0))), some (.int (zI (1))), some (.int (zI (1))), some (.int (zI (0))), some (.int (zI (1))), some (.int (zI (2))), some (.int (zI (H))), some (.int (zI ((H - 1) / (2))))] [] h16 n
            have hF16 := mFr_tr hF15 hF160
            have hv0 : s16.1 0 = s.1 0 := by rw [hv16]; rfl
            refine pw_aload_n dX10_splitNow_249 rfl ?_
            refine pw_iload_n dX10_splitNow_250 rfl ?_
            refine pw_put (fs' := (moL B (va_up s16.1 47 (1)))) okX10 (k := 47) (by decide) lkX10_207 rfl rfl rfl hA16.1 (nlt rfl) rfl dX10_splitNow_251 ?_
            have hA17 : mAt B (mV 47 (1) s16) (va_up h16 B (pz_o 13 (moL B (va_up s16.1 47 (1))))) := mAt_V hA16
            have hF17 : mFr B h (va_up h16 B (pz_o 13 (moL B (va_up s16.1 47 (1))))) := mFr_tr hF16 (mFr_up (k := 0) (by decide))
            revert hA17 hF17
            generalize (va_up h16 B (pz_o 13 (moL B (va_up s16.1 47 (1))))) = h17
            intro hA17 hF17
            refine pw_iload_n dX10_splitNow_254 rfl ?_
            exact pw_iret dX10_splitNow_255 rfl (nle rfl) (nle rfl) ⟨rfl, (mV 47 (1) s16), hA17, hv0, hF17, rfl⟩
    · exfalso; omega
set_option maxHeartbeats 1000000 in
set_option maxRecDepth 100000 in
/-- maySplit(0, dn) -/
theorem nF_maySplit {E : pw_E} (htr : E.1.stackTraces = false) {h : pz_H} {n : Nat} {B : Nat} {s : mS} (hA : mAt B s h) {dn : Int}  {w H : Int} (hw : 8 ≤ w ∧ w ≤ 40) (hH : 4 ≤ H ∧ H ≤ 16) (hn : mN w H s) (hdn : 0 ≤ dn ∧ dn ≤ 1) : pw_M E yX10_maySplit YX10_maySplit (rmD 0 0 0) [.ref B, .int (zI (0)), .int (zI (dn))] h n (fun r0 h' n' => r0 = some (.int (zI 1)) ∧ h' = h ∧ n' = n) (fun _ _ _ => False) := by
  refine pw_M_of (lv := [some (.ref B), some (.int (zI (0))), some (.int (zI (dn))), none]) (by decide) rfl rfl htr (nle rfl) rfl (fun L => ?_)
  refine pw_iconst (v := zI (0)) dX10_maySplit_0 (by decide) ?_
  refine pw_istore_n (lv' := [some (.ref B), some (.int (zI (0))), some (.int (zI (dn))), some (.int (zI (0)))]) dX10_maySplit_1 (by decide) rfl rfl ?_
  refine pw_iload_n dX10_maySplit_2 rfl ?_
  refine pw_bipush (v := zI (8)) dX10_maySplit_3 (by decide) ?_
  refine pw_icmp_ge (tgt := 23) dX10_maySplit_5 rfl (by omega) (by omega) (fun c5 => ?_) (fun c5 => ?_)
  · exfalso; omega
  ·
    refine pw_aload_n dX10_maySplit_8 rfl ?_
    refine pw_get (v := .ref (B + 13)) okX10 (k := 16) (by decide) lkX10_47 hA.1 rfl dX10_maySplit_9 ?_
    refine pw_iload_n dX10_maySplit_12 rfl ?_
    refine pw_zaldv (v := 1) (t := 1) rfl (mF16 (s := s) hA) (by omega) (by decide) (show s.2 16 0 = 1 from mN_16 hn) dX10_maySplit_13 ?_
    refine pw_if_eq (tgt := 23) dX10_maySplit_14 rfl (by omega) (fun c14 => ?_) (fun c14 => ?_)
    · exfalso; omega
    ·
      refine pw_ziinc (lv' := [some (.ref B), some (.int (zI (0))), some (.int (zI (dn))), some (.int (zI (1)))]) dX10_maySplit_17 rfl (by decide) rfl rfl ?_
      refine pw_goto (tgt := 2) dX10_maySplit_20 rfl ?_
      refine pw_iload_n dX10_maySplit_2 rfl ?_
      refine pw_bipush (v := zI (8)) dX10_maySplit_3 (by decide) ?_
      refine pw_icmp_ge (tgt := 23) dX10_maySplit_5 rfl (by omega) (by omega) (fun c5 => ?_) (fun c5 => ?_)
      · exfalso; omega
      ·
        refine pw_aload_n dX10_maySplit_8 rfl ?_
        refine pw_get (v := .ref (B + 13)) okX10 (k := 16) (by decide) lkX10_47 hA.1 rfl dX10_maySplit_9 ?_
        refine pw_iload_n dX10_maySplit_12 rfl ?_
        refine pw_zaldv (v := 0) (t := 1) rfl (mF16 (s := s) hA) (by omega) (by decide) (show s.2 16 1 = 0 from mZ_16 hn (by decide)) dX10_maySplit_13 ?_
        refine pw_if_eq (tgt := 23) dX10_maySplit_14 rfl (by omega) (fun c14 => ?_) (fun c14 => ?_)
        ·
          refine pw_iload_n dX10_maySplit_23 rfl ?_
          refine pw_bipush (v := zI (8)) dX10_maySplit_24 (by decide) ?_
          refine pw_icmp_ge (tgt := 56) dX10_maySplit_26 rfl (by omega) (by omega) (fun c26 => ?_) (fun c26 => ?_)
          · exfalso; omega
          ·
            refine pw_iload_n dX10_maySplit_29 rfl ?_
            refine pw_if_eq (tgt := 42) dX10_maySplit_30 rfl (by omega) (fun c30 => ?_) (fun c30 => ?_)
            ·
              refine pw_aload_n dX10_maySplit_42 rfl ?_
              refine pw_get (v := .ref (B + 15)) okX10 (k := 18) (by decide) lkX10_53 hA.1 rfl dX10_maySplit_43 ?_
              refine pw_iload_n dX10_maySplit_46 rfl ?_
              refine pw_ialdv (v := w) (t := 0) rfl (mF18 (s := s) hA) (by omega) (by decide) (show s.2 18 0 = w from mN_18 hn) dX10_maySplit_47 ?_
              refine pw_iconst (v := zI (2)) dX10_maySplit_48 (by decide) ?_
              refine pw_icmp_le (tgt := 56) dX10_maySplit_49 rfl (by omega) (by omega) (fun c49 => ?_) (fun c49 => ?_)
              · exfalso; omega
              ·
                refine pw_iconst (v := zI (1)) dX10_maySplit_52 (by decide) ?_
                refine pw_goto (tgt := 57) dX10_maySplit_53 rfl ?_
                exact pw_zret dX10_maySplit_57 rfl (by decide) (nle rfl) (nle rfl) ⟨rfl, rfl, rfl⟩
            ·
              refine pw_aload_n dX10_maySplit_33 rfl ?_
              refine pw_get (v := .ref (B + 16)) okX10 (k := 19) (by decide) lkX10_56 hA.1 rfl dX10_maySplit_34 ?_
              refine pw_iload_n dX10_maySplit_37 rfl ?_
              refine pw_ialdv (v := H) (t := 0) rfl (mF19 (s := s) hA) (by omega) (by decide) (show s.2 19 0 = H from mN_19 hn) dX10_maySplit_38 ?_
              refine pw_goto (tgt := 48) dX10_maySplit_39 rfl ?_
              refine pw_iconst (v := zI (2)) dX10_maySplit_48 (by decide) ?_
              refine pw_icmp_le (tgt := 56) dX10_maySplit_49 rfl (by omega) (by omega) (fun c49 => ?_) (fun c49 => ?_)
              · exfalso; omega
              ·
                refine pw_iconst (v := zI (1)) dX10_maySplit_52 (by decide) ?_
                refine pw_goto (tgt := 57) dX10_maySplit_53 rfl ?_
                exact pw_zret dX10_maySplit_57 rfl (by decide) (nle rfl) (nle rfl) ⟨rfl, rfl, rfl⟩
        · exfalso; omega
theorem mN_t {w H v : Int} {s : mS} (hn : mN w H s) (hv : v = 0) : mN w H (mV 0 v s) := by
  refine ⟨?_, hn.2.1, hn.2.2.1, hn.2.2.2⟩
  intro k hk
  by_cases e : k = 0
  · subst e; subst hv; exact rfl
  · show va_up s.1 0 v k = nV w H k
    rw [va_up_ne _ _ e]; exact hn.1 k hk
set_option maxHeartbeats 1000000 in
set_option maxRecDepth 100000 in
/-- split(p, dn) -/
theorem nF_split {E : pw_E} (htr : E.1.stackTraces = false) {h : pz_H} {n : Nat} {B : Nat} {s : mS} (hA : mAt B s h) {p dn : Int}  {w H : Int} (hw : 8 ≤ w ∧ w ≤ 40) (hH : 4 ≤ H ∧ H ≤ 16) (hn : mN w H s) (h_p : -2147483648 ≤ p ∧ p < 2147483648) (h_dn : -2147483648 ≤ dn ∧ dn < 2147483648) (hdn : 0 ≤ dn ∧ dn ≤ 1) : pw_M E yX10_split YX10_split (rmD 4 0 0) [.ref B, .int (zI (p)), .int (zI (dn))] h n (fun r0 h' n' => (∃ s', mAt B s' h' ∧ s'.1 0 = (if p = 0 then 0 else 1) ∧ mFr B h h' ∧ n' = n) ∧ r0 = some (.int (zI (if p = 0 then 1 else 0)))) (fun _ _ _ => False) := by
  have v0 := mNv_0 hn
  have v1 := mNv_1 hn
  have v2 := mNv_2 hn
  have v14 := mNv_14 hn
  have v47 := mNv_47 hn
  have v48 := mNv_48 hn
  have v49 := mNv_49 hn
  have v53 := mNv_53 hn
  have v54 := mNv_54 hn
  have v55 := mNv_55 hn
  have v56 := mNv_56 hn
  have v57 := mNv_57 hn
  have hu := mN_us hn
  have hnb : 0 ≤ mNo s p ∧ mNo s p ≤ 1 := mNo_b
  refine pw_M_of (lv := [some (.ref B), some (.int (zI (p))), some (.int (zI (dn)))]) (by decide) rfl rfl htr (nle rfl) rfl (fun L => ?_)
  refine pw_aload_n dX10_split_0 rfl ?_
  refine pw_aload_n dX10_split_1 rfl ?_
  refine pw_iload_n dX10_split_2 rfl ?_
  refine pw_callV (As := [.int (zI (p))]) (b := B) (rm := rmD 0 0 0) (nR_noPane htr hA hu (by omega)) rfl hA.1 rfl rfl ywX10_noPane rfl cwX10_213 ⟨nle rfl, nle rfl⟩ (nle rfl) ⟨nle rfl, nle rfl⟩ dX10_split_3 ?_ (fun _ _ _ z => z.elim)
  intro r_9 h_9 n_9 hq _
  rw [hq.1, hq.2.1, hq.2.2]
  show pw E YX10_split _ _ 0 0 6 [some (.ref B), some (.int (zI (p))), some (.int (zI (dn)))] [.int (zI (mNo s (p))), .ref B] h n
  refine pw_if_eq (tgt := 13) dX10_split_6 rfl (by omega) (fun c6 => ?_) (fun c6 => ?_)
  ·
    refine pw_aload_n dX10_split_13 rfl ?_
    refine pw_iload_n dX10_split_14 rfl ?_
    refine pw_iload_n dX10_split_15 rfl ?_
    have hp0 : p = 0 := by rw [mN_no hn] at c6; revert c6; split <;> omega
    subst hp0
    refine pw_callV (As := [.int (zI (0)), .int (zI (dn))]) (b := B) (rm := rmD 0 0 0) (nF_maySplit htr hA hw hH hn (by omega)) rfl hA.1 rfl rfl ywX10_maySplit rfl cwX10_217 ⟨nle rfl, nle rfl⟩ (nle rfl) ⟨nle rfl, nle rfl⟩ dX10_split_16 ?_ (fun _ _ _ z => z.elim)
    intro r_9 h_9 n_9 hq _
    rw [hq.1, hq.2.1, hq.2.2]
    show pw E YX10_split _ _ 0 0 19 [some (.ref B), some (.int (zI (0))), some (.int (zI (dn)))] [.int (zI (1)), .ref B] h n
    refine pw_if_eq (tgt := 26) dX10_split_19 rfl (by omega) (fun c19 => ?_) (fun c19 => ?_)
    · exfalso; omega
    ·
      refine pw_iconst (v := zI (0)) dX10_split_22 (by decide) ?_
      refine pw_goto (tgt := 27) dX10_split_23 rfl ?_
      refine pw_put (fs' := (moL B (va_up s.1 0 (0)))) okX10 (k := 0) (by decide) lkX10_173 rfl rfl rfl hA.1 (nlt rfl) rfl dX10_split_27 ?_
      have hA1 : mAt B (mV 0 (0) s) (va_up h B (pz_o 13 (moL B (va_up s.1 0 (0))))) := mAt_V hA
      have hF1 : mFr B h (va_up h B (pz_o 13 (moL B (va_up s.1 0 (0))))) := mFr_tr mFr_rf (mFr_up (k := 0) (by decide))
      revert hA1 hF1
      generalize (va_up h B (pz_o 13 (moL B (va_up s.1 0 (0))))) = h1
      intro hA1 hF1
      refine pw_aload_n dX10_split_30 rfl ?_
      refine pw_get (v := .int (zI (0))) okX10 (k := 0) (by decide) lkX10_173 hA1.1 rfl dX10_split_31 ?_
      refine pw_if_le (tgt := 41) dX10_split_34 rfl (by omega) (fun c34 => ?_) (fun c34 => ?_)
      ·
        refine pw_aload_n dX10_split_41 rfl ?_
        refine pw_iload_n dX10_split_42 rfl ?_
        refine pw_iload_n dX10_split_43 rfl ?_
        rcases (show dn = 0 ∨ dn = 1 by omega) with rfl | rfl
        · refine pw_callV (As := [.int (zI (0)), .int (zI (0))]) (b := B) (rm := rmD 3 0 0) (nF_splitNow0 htr hA1 hw hH (mN_t hn rfl)) rfl hA1.1 rfl rfl ywX10_splitNow rfl cwX10_221 ⟨nle rfl, nle rfl⟩ (nle rfl) ⟨nle rfl, nle rfl⟩ dX10_split_44 ?_ (fun _ _ _ z => z.elim)
          intro r_9 h2 n_9 hq _
          obtain ⟨e1, s2, hA2, hv2, hF20, e4⟩ := hq
          rw [e1, e4]
          show pw E YX10_split _ _ 0 0 47 [some (.ref B), some (.int (zI (0))), some (.int (zI (0)))] [.int (zI 1)] h2 n
          exact pw_iret dX10_split_47 rfl (nle rfl) (nle rfl) ⟨⟨s2, hA2, hv2.trans (show (0 : Int) = if (0 : Int) = 0 then 0 else 1 from rfl), mFr_tr hF1 hF20, rfl⟩, rfl⟩
        · refine pw_callV (As := [.int (zI (0)), .int (zI (1))]) (b := B) (rm := rmD 3 0 0) (nF_splitNow1 htr hA1 hw hH (mN_t hn rfl)) rfl hA1.1 rfl rfl ywX10_splitNow rfl cwX10_221 ⟨nle rfl, nle rfl⟩ (nle rfl) ⟨nle rfl, nle rfl⟩ dX10_split_44 ?_ (fun _ _ _ z => z.elim)
          intro r_9 h2 n_9 hq _
          obtain ⟨e1, s2, hA2, hv2, hF20, e4⟩ := hq
          rw [e1, e4]
          show pw E YX10_split _ _ 0 0 47 [some (.ref B), some (.int (zI (0))), some (.int (zI (1)))] [.int (zI 1)] h2 n
          exact pw_iret dX10_split_47 rfl (nle rfl) (nle rfl) ⟨⟨s2, hA2, hv2.trans (show (0 : Int) = if (0 : Int) = 0 then 0 else 1 from rfl), mFr_tr hF1 hF20, rfl⟩, rfl⟩
      · exfalso; omega
  ·
    have hp0 : ¬ p = 0 := by rw [mN_no hn] at c6; revert c6; split <;> omega
    refine pw_iconst (v := zI (1)) dX10_split_9 (by decide) ?_
    refine pw_goto (tgt := 27) dX10_split_10 rfl ?_
    refine pw_put (fs' := (moL B (va_up s.1 0 (1)))) okX10 (k := 0) (by decide) lkX10_173 rfl rfl rfl hA.1 (nlt rfl) rfl dX10_split_27 ?_
    have hA3 : mAt B (mV 0 (1) s) (va_up h B (pz_o 13 (moL B (va_up s.1 0 (1))))) := mAt_V hA
    have hF3 : mFr B h (va_up h B (pz_o 13 (moL B (va_up s.1 0 (1))))) := mFr_tr mFr_rf (mFr_up (k := 0) (by decide))
    revert hA3 hF3
    generalize (va_up h B (pz_o 13 (moL B (va_up s.1 0 (1))))) = h3
    intro hA3 hF3
    refine pw_aload_n dX10_split_30 rfl ?_
    refine pw_get (v := .int (zI (1))) okX10 (k := 0) (by decide) lkX10_173 hA3.1 rfl dX10_split_31 ?_
    refine pw_if_le (tgt := 41) dX10_split_34 rfl (by omega) (fun c34 => ?_) (fun c34 => ?_)
    · exfalso; omega
    ·
      refine pw_iconst (v := zI (0)) dX10_split_37 (by decide) ?_
      refine pw_goto (tgt := 47) dX10_split_38 rfl ?_
      exact pw_iret dX10_split_47 rfl (nle rfl) (nle rfl) ⟨⟨(mV 0 (1) s), hA3, (show (1 : Int) = if p = 0 then 0 else 1 from by (first | omega | rfl)), hF3, rfl⟩, congrArg (fun z => some (Value.int (zI z))) (show (0 : Int) = if p = 0 then 1 else 0 from by (first | omega | rfl))⟩
