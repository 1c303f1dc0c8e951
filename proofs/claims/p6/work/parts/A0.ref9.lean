def YX10_noPane : pw_Y := (RX10, "noPane", cX10_noPane, 2, (some .boolean))
theorem ywX10_noPane : pw_y yX10_noPane YX10_noPane 1 := ⟨by decide +kernel, by decide +kernel, by decide +kernel, pw_in 1526 (by decide +kernel) (by decide +kernel), pw_in 106 (by decide +kernel) (by decide +kernel)⟩
theorem lkX10_47 : Cond.fieldLink RX10 47 (TX10 16).1 (TX10 16).2.1 (TX10 16).2.2.1 ∈ pw_G := pw_in 1346 (by decide +kernel) (by decide +kernel)
def YX10_thrown : pw_Y := (RX10, "thrown", cX10_thrown, 1, (some .int))
theorem ywX10_thrown : pw_y yX10_thrown YX10_thrown 0 := ⟨by decide +kernel, by decide +kernel, by decide +kernel, pw_in 1518 (by decide +kernel) (by decide +kernel), pw_in 106 (by decide +kernel) (by decide +kernel)⟩
theorem lkX10_173 : Cond.fieldLink RX10 173 (TX10 0).1 (TX10 0).2.1 (TX10 0).2.2.1 ∈ pw_G := pw_in 1330 (by decide +kernel) (by decide +kernel)
def YX10_isIn : pw_Y := (RX10, "isIn", cX10_isIn, 4, (some .boolean))
theorem ywX10_isIn : pw_y yX10_isIn YX10_isIn 3 := ⟨by decide +kernel, by decide +kernel, by decide +kernel, pw_in 1695 (by decide +kernel) (by decide +kernel), pw_in 106 (by decide +kernel) (by decide +kernel)⟩
def YX10_isSeen : pw_Y := (RX10, "isSeen", cX10_isSeen, 1, (some .boolean))
theorem ywX10_isSeen : pw_y yX10_isSeen YX10_isSeen 0 := ⟨by decide +kernel, by decide +kernel, by decide +kernel, pw_in 1731 (by decide +kernel) (by decide +kernel), pw_in 106 (by decide +kernel) (by decide +kernel)⟩
theorem lkX10_207 : Cond.fieldLink RX10 207 (TX10 47).1 (TX10 47).2.1 (TX10 47).2.2.1 ∈ pw_G := pw_in 1377 (by decide +kernel) (by decide +kernel)
theorem lkX10_128 : Cond.fieldLink RX10 128 (TX10 43).1 (TX10 43).2.1 (TX10 43).2.2.1 ∈ pw_G := pw_in 1373 (by decide +kernel) (by decide +kernel)
def YX10_offsetOf : pw_Y := (RX10, "offsetOf", cX10_offsetOf, 2, (some .int))
theorem ywX10_offsetOf : pw_y yX10_offsetOf YX10_offsetOf 1 := ⟨by decide +kernel, by decide +kernel, by decide +kernel, pw_in 1683 (by decide +kernel) (by decide +kernel), pw_in 106 (by decide +kernel) (by decide +kernel)⟩
theorem lkX10_131 : Cond.fieldLink RX10 131 (TX10 44).1 (TX10 44).2.1 (TX10 44).2.2.1 ∈ pw_G := pw_in 1374 (by decide +kernel) (by decide +kernel)
def YX10_comesIn : pw_Y := (RX10, "comesIn", cX10_comesIn, 3, none)
theorem ywX10_comesIn : pw_y yX10_comesIn YX10_comesIn 2 := ⟨by decide +kernel, by decide +kernel, by decide +kernel, pw_in 1675 (by decide +kernel) (by decide +kernel), pw_in 106 (by decide +kernel) (by decide +kernel)⟩
theorem lkX10_137 : Cond.fieldLink RX10 137 (TX10 46).1 (TX10 46).2.1 (TX10 46).2.2.1 ∈ pw_G := pw_in 1376 (by decide +kernel) (by decide +kernel)
theorem lkX10_134 : Cond.fieldLink RX10 134 (TX10 45).1 (TX10 45).2.1 (TX10 45).2.2.1 ∈ pw_G := pw_in 1375 (by decide +kernel) (by decide +kernel)
def YX10_copyOne : pw_Y := (RX10, "copyOne", cX10_copyOne, 2, none)
theorem ywX10_copyOne : pw_y yX10_copyOne YX10_copyOne 1 := ⟨by decide +kernel, by decide +kernel, by decide +kernel, pw_in 1703 (by decide +kernel) (by decide +kernel), pw_in 106 (by decide +kernel) (by decide +kernel)⟩
theorem lkX10_308 : Cond.fieldLink RX10 308 (TX10 49).1 (TX10 49).2.1 (TX10 49).2.2.1 ∈ pw_G := pw_in 1379 (by decide +kernel) (by decide +kernel)
theorem lkX10_140 : Cond.fieldLink RX10 140 (TX10 50).1 (TX10 50).2.1 (TX10 50).2.2.1 ∈ pw_G := pw_in 1380 (by decide +kernel) (by decide +kernel)
def YX10_panes : pw_Y := (RX10, "panes", cX10_panes, 3, (some .int))
theorem ywX10_panes : pw_y yX10_panes YX10_panes 0 := ⟨by decide +kernel, by decide +kernel, by decide +kernel, pw_in 1557 (by decide +kernel) (by decide +kernel), pw_in 106 (by decide +kernel) (by decide +kernel)⟩
/-! ===== the reference, exactly ===== -/
section PW5
variable {E : pw_E} {Y : pw_Y} {R : Room} {K : pw_K} {uc us pc : Nat} {lv : List (Option Value)} {st : List Value} {h : pz_H} {n : Nat}
def zL (z : Int) : Int64 := Int64.ofInt z
theorem zL_toInt {z : Int} (h1 : -9223372036854775808 ≤ z) (h2 : z < 9223372036854775808) : (zL z).toInt = z := Int64.toInt_ofInt_of_le (by simpa using h1) (by simpa using h2)
theorem zL_add (a b : Int) : zL a + zL b = zL (a + b) := (Int64.ofInt_add a b).symm
theorem zL_of {a : Int} (ha : -2147483648 ≤ a ∧ a < 2147483648) : (zI a).toInt64 = zL a := by
  rw [← Int64.toInt_inj, Int32.toInt_toInt64, zI_toInt ha.1 ha.2, zL_toInt (by omega) (by omega)]
theorem zL_to {a : Int} (ha : -2147483648 ≤ a ∧ a < 2147483648) : (zL a).toInt32 = zI a := by
  rw [← zL_of ha, Int32.toInt32_toInt64]
theorem zL_cmp {a b : Int} (ha : -9223372036854775808 ≤ a ∧ a < 9223372036854775808) (hb : -9223372036854775808 ≤ b ∧ b < 9223372036854775808) : lg_cmp (zL a) (zL b) = zI (if b < a then 1 else if a = b then 0 else -1) := by
  unfold lg_cmp
  have e1 : (zL a > zL b) ↔ b < a := by show (zL b < zL a) ↔ b < a; rw [Int64.lt_iff_toInt_lt, zL_toInt ha.1 ha.2, zL_toInt hb.1 hb.2]
  have e2 : (zL a = zL b) ↔ a = b := by rw [← Int64.toInt_inj, zL_toInt ha.1 ha.2, zL_toInt hb.1 hb.2]
  by_cases c1 : b < a
  · rw [if_pos (e1.mpr c1), if_pos c1]; rfl
  · rw [if_neg (fun z => c1 (e1.mp z)), if_neg c1]
    by_cases c2 : a = b
    · rw [if_pos (e2.mpr c2), if_pos c2]; rfl
    · rw [if_neg (fun z => c2 (e2.mp z)), if_neg c2]; rfl
theorem pw_zi2l {a : Int} (hd : decode Y.2.2.1 pc = .ok (.i2l, 1)) (ha : -2147483648 ≤ a ∧ a < 2147483648) (kk : pw E Y R K uc us (pc + 1) lv (.long (zL a) :: st) h n) : pw E Y R K uc us pc lv (.int (zI a) :: st) h n :=
  pw_i2l hd (by rw [zL_of ha]; exact kk)
theorem pw_zl2i {a : Int} (hd : decode Y.2.2.1 pc = .ok (.l2i, 1)) (ha : -2147483648 ≤ a ∧ a < 2147483648) (kk : pw E Y R K uc us (pc + 1) lv (.int (zI a) :: st) h n) : pw E Y R K uc us pc lv (.long (zL a) :: st) h n :=
  pw_l2i hd (by rw [zL_to ha]; exact kk)
theorem pw_zladd {a b : Int} (hd : decode Y.2.2.1 pc = .ok (.ladd, 1)) (kk : pw E Y R K uc us (pc + 1) lv (.long (zL (a + b)) :: st) h n) : pw E Y R K uc us pc lv (.long (zL b) :: .long (zL a) :: st) h n :=
  fun p e s m args below meth c H locs L ls F d ks => lv_ladd F.1 F.2.1 hd (by rw [zL_add]; exact kk p e s m args below meth c H locs L ls F d ⟨trivial, ks.2.2⟩)
theorem pw_lconst {k : Fin 2} {a : Int} (hd : decode Y.2.2.1 pc = .ok (.lconst k, 1)) (hv : Int64.ofNat (k : Nat) = zL a) (kk : pw E Y R K uc us (pc + 1) lv (.long (zL a) :: st) h n) : pw E Y R K uc us pc lv st h n :=
  fun p e s m args below meth c H locs L ls F d ks => lv_lconst F.1 F.2.1 hd hv (kk p e s m args below meth c H locs L ls F d ⟨trivial, ks⟩)
theorem pw_zlcmp {a b : Int} (hd : decode Y.2.2.1 pc = .ok (.lcmp, 1)) (ha : -9223372036854775808 ≤ a ∧ a < 9223372036854775808) (hb : -9223372036854775808 ≤ b ∧ b < 9223372036854775808) (kk : pw E Y R K uc us (pc + 1) lv (.int (zI (if b < a then 1 else if a = b then 0 else -1)) :: st) h n) : pw E Y R K uc us pc lv (.long (zL b) :: .long (zL a) :: st) h n :=
  pw_lcmp hd (by rw [zL_cmp ha hb]; exact kk)
/-- a long goes to the places i and i + 1 -/
theorem pz_lv_set2 {L : Nat → Nat} {n nL i : Nat} {ls ls' : Array Slot} {lv : List (Option Value)} {x : Int64} (h : pz_lv L n nL ls lv) (hc : pz_c1 lv i = true) (h' : lv_has ls' nL ((i, .long x) :: (pz_al L lv).filter (fun q => !(q.1 == i) && (!(q.1 == i + 1) && !(q.1 + 1 == i && q.2.category == 2))))) : pz_lv L n nL ls' ((lv.set i (some (.long x))).set (i + 1) none) := by
  refine ⟨⟨h'.1, h'.2.1, fun q hq => h'.2.2 q ?_⟩, fun j v hv => ?_⟩
  · obtain ⟨v, hv, e⟩ := pz_al_mem.mp hq
    by_cases e2 : i + 1 = q.1
    · rw [← e2, List.getElem?_set] at hv
      simp at hv
    · rw [List.getElem?_set_ne e2] at hv
      by_cases e1 : i = q.1
      · rw [← e1, List.getElem?_set] at hv
        simp at hv
        obtain ⟨-, rfl⟩ := hv
        refine List.mem_cons.mpr (Or.inl ?_)
        refine Prod.ext e1.symm ?_
        rw [e]; rfl
      · rw [List.getElem?_set_ne e1] at hv
        refine List.mem_cons_of_mem _ (List.mem_filter.mpr ⟨pz_al_mem.mpr ⟨v, hv, e⟩, ?_⟩)
        have h3 : ¬ (q.1 + 1 = i ∧ q.2.category = 2) := fun z => by
          obtain ⟨z1, z2⟩ := z
          rw [e, pz_cat] at z2
          subst z1
          unfold pz_c1 at hc
          simp only [hv] at hc
          cases v <;> first | (simp [Value.category] at z2; done) | cases hc
        simp only [Bool.and_eq_true, Bool.not_eq_true', beq_eq_false_iff_ne, ne_eq, Bool.and_eq_false_imp, beq_iff_eq]
        exact ⟨fun z => e1 z.symm, fun z => e2 z.symm, fun z1 => by simpa using fun z2 => h3 ⟨z1, z2⟩⟩
  · by_cases e2 : i + 1 = j
    · rw [← e2, List.getElem?_set] at hv
      simp at hv
    · rw [List.getElem?_set_ne e2] at hv
      by_cases e1 : i = j
      · rw [← e1, List.getElem?_set] at hv
        simp at hv
        obtain ⟨-, rfl⟩ := hv
        trivial
      · rw [List.getElem?_set_ne e1] at hv
        exact h.2 j v hv
theorem pw_lstore_n {k : Fin 4} {x : Int64} {lv' : List (Option Value)} (hd : decode Y.2.2.1 pc = .ok (.lstore_n k, 1)) (hi : (k : Nat) + 1 < Y.2.2.2.1) (hc : pz_c1 lv k = true) (hl : (lv.set k (some (.long x))).set (k + 1) none = lv') (kk : pw E Y R K uc us (pc + 1) lv' st h n) : pw E Y R K uc us pc lv (.long x :: st) h n :=
  fun p e s m args below meth c H locs L ls F d ks => lv_lstore_n F.1 F.2.1 hd rfl d.2.2.2.2.1 hi rfl (fun ls' h' => kk p e s m args below meth c H locs L ls' F (hl ▸ ⟨d.1, d.2.1, d.2.2.1, d.2.2.2.1, pz_lv_set2 d.2.2.2.2 hc h'⟩) ks.2)
theorem pw_zaldv {t N a : Nat} {i v : Int} {g : Nat → Int} (ht : pw_T[t]? = some .boolean) (ho : h a = pz_z t N g) (hi : 0 ≤ i ∧ i < N) (hN : N < 2147483648) (hv : g i.toNat = v) (hd : decode Y.2.2.1 pc = .ok (.baload, 1)) (kk : pw E Y R K uc us (pc + 1) lv (.int (zI v) :: st) h n) : pw E Y R K uc us pc lv (.int (zI i) :: .ref a :: st) h n :=
  pw_zald ht ho hi hN hd (by rw [hv]; exact kk)
end PW5
def mNo (s : mS) (p : Int) : Int := if 0 ≤ p ∧ p < 8 ∧ s.2 16 p.toNat = 1 then 0 else 1
theorem mNo_0 {s : mS} {p : Int} (hz : mNo s p = 0) : 0 ≤ p ∧ p < 8 ∧ s.2 16 p.toNat = 1 := by
  unfold mNo at hz
  split at hz
  · assumption
  · omega
theorem mNo_b {s : mS} {p : Int} : 0 ≤ mNo s p ∧ mNo s p ≤ 1 := by
  unfold mNo
  split <;> omega
def mUs (s : mS) : Prop := ∀ i, i < 8 → 0 ≤ s.2 16 i ∧ s.2 16 i ≤ 1
set_option maxHeartbeats 1000000 in
set_option maxRecDepth 100000 in
/-- noPane(p) -/
theorem nR_noPane {E : pw_E} (htr : E.1.stackTraces = false) {h : pz_H} {n : Nat} {B : Nat} {s : mS} (hA : mAt B s h) {p : Int}  (hu : mUs s) (h_p : -2147483648 ≤ p ∧ p < 2147483648) : pw_M E yX10_noPane YX10_noPane (rmD 0 0 0) [.ref B, .int (zI (p))] h n (fun r0 h' n' => r0 = some (.int (zI (mNo s p))) ∧ h' = h ∧ n' = n) (fun _ _ _ => False) := by
  refine pw_M_of (lv := [some (.ref B), some (.int (zI (p)))]) (by decide) rfl rfl htr (nle rfl) rfl (fun L => ?_)
  refine pw_iload_n dX10_noPane_0 rfl ?_
  refine pw_if_lt (tgt := 19) dX10_noPane_1 rfl (by omega) (fun c1 => ?_) (fun c1 => ?_)
  ·
    refine pw_iconst (v := zI (1)) dX10_noPane_19 (by decide) ?_
    refine pw_goto (tgt := 24) dX10_noPane_20 rfl ?_
    exact pw_zret dX10_noPane_24 rfl (by decide) (nle rfl) (nle rfl) ⟨by unfold mNo; (repeat (first | rw [if_pos (by omega)] | rw [if_neg (by omega)])), rfl, rfl⟩
  ·
    refine pw_iload_n dX10_noPane_4 rfl ?_
    refine pw_bipush (v := zI (8)) dX10_noPane_5 (by decide) ?_
    refine pw_icmp_ge (tgt := 19) dX10_noPane_7 rfl (by omega) (by omega) (fun c7 => ?_) (fun c7 => ?_)
    ·
      refine pw_iconst (v := zI (1)) dX10_noPane_19 (by decide) ?_
      refine pw_goto (tgt := 24) dX10_noPane_20 rfl ?_
      exact pw_zret dX10_noPane_24 rfl (by decide) (nle rfl) (nle rfl) ⟨by unfold mNo; (repeat (first | rw [if_pos (by omega)] | rw [if_neg (by omega)])), rfl, rfl⟩
    ·
      have hu1 := hu p.toNat (by omega)
      refine pw_aload_n dX10_noPane_10 rfl ?_
      refine pw_get (v := .ref (B + 13)) okX10 (k := 16) (by decide) lkX10_47 hA.1 rfl dX10_noPane_11 ?_
      refine pw_iload_n dX10_noPane_14 rfl ?_
      refine pw_zald (g := (s.2 16)) (t := 1) rfl (mF16 (s := s) hA) (by omega) (by decide) dX10_noPane_15 ?_
      refine pw_if_ne (tgt := 23) dX10_noPane_16 rfl (by omega) (fun c16 => ?_) (fun c16 => ?_)
      ·
        refine pw_iconst (v := zI (0)) dX10_noPane_23 (by decide) ?_
        exact pw_zret dX10_noPane_24 rfl (by decide) (nle rfl) (nle rfl) ⟨by unfold mNo; (repeat (first | rw [if_pos (by omega)] | rw [if_neg (by omega)])), rfl, rfl⟩
      ·
        refine pw_iconst (v := zI (1)) dX10_noPane_19 (by decide) ?_
        refine pw_goto (tgt := 24) dX10_noPane_20 rfl ?_
        exact pw_zret dX10_noPane_24 rfl (by decide) (nle rfl) (nle rfl) ⟨by unfold mNo; (repeat (first | rw [if_pos (by omega)] | rw [if_neg (by omega)])), rfl, rfl⟩
set_option maxHeartbeats 1000000 in
set_option maxRecDepth 100000 in
/-- thrown() -/
theorem nR_thrown {E : pw_E} (htr : E.1.stackTraces = false) {h : pz_H} {n : Nat} {B : Nat} {s : mS} (hA : mAt B s h)   : pw_M E yX10_thrown YX10_thrown (rmD 0 0 0) [.ref B] h n (fun r0 h' n' => r0 = some (.int (zI (s.1 0))) ∧ h' = h ∧ n' = n) (fun _ _ _ => False) := by
  refine pw_M_of (lv := [some (.ref B)]) (by decide) rfl rfl htr (nle rfl) rfl (fun L => ?_)
  refine pw_aload_n dX10_thrown_0 rfl ?_
  refine pw_get (v := .int (zI (s.1 0))) okX10 (k := 0) (by decide) lkX10_173 hA.1 rfl dX10_thrown_1 ?_
  exact pw_iret dX10_thrown_4 rfl (nle rfl) (nle rfl) ⟨rfl, rfl, rfl⟩
def mIn (s : mS) (p r c : Int) : Int := if 0 ≤ r ∧ r < s.2 19 p.toNat ∧ 0 ≤ c ∧ c < s.2 18 p.toNat then 1 else 0
theorem mIn_b {s : mS} {p r c : Int} : 0 ≤ mIn s p r c ∧ mIn s p r c ≤ 1 := by
  unfold mIn
  split <;> omega
set_option maxHeartbeats 1000000 in
set_option maxRecDepth 100000 in
/-- isIn(p, r, c) -/
theorem nR_isIn {E : pw_E} (htr : E.1.stackTraces = false) {h : pz_H} {n : Nat} {B : Nat} {s : mS} (hA : mAt B s h) {p r c : Int}  (hp : 0 ≤ p ∧ p < 8) (hw : 1 ≤ s.2 18 p.toNat ∧ s.2 18 p.toNat ≤ 40) (hh : 1 ≤ s.2 19 p.toNat ∧ s.2 19 p.toNat ≤ 16) (h_r : -2147483648 ≤ r ∧ r < 2147483648) (h_c : -2147483648 ≤ c ∧ c < 2147483648) : pw_M E yX10_isIn YX10_isIn (rmD 0 0 0) [.ref B, .int (zI (p)), .int (zI (r)), .int (zI (c))] h n (fun r0 h' n' => r0 = some (.int (zI (mIn s p r c))) ∧ h' = h ∧ n' = n) (fun _ _ _ => False) := by
  refine pw_M_of (lv := [some (.ref B), some (.int (zI (p))), some (.int (zI (r))), some (.int (zI (c)))]) (by decide) rfl rfl htr (nle rfl) rfl (fun L => ?_)
  refine pw_iload_n dX10_isIn_0 rfl ?_
  refine pw_if_lt (tgt := 32) dX10_isIn_1 rfl (by omega) (fun c1 => ?_) (fun c1 => ?_)
  ·
    refine pw_iconst (v := zI (0)) dX10_isIn_32 (by decide) ?_
    exact pw_zret dX10_isIn_33 rfl (by decide) (nle rfl) (nle rfl) ⟨by unfold mIn; (repeat (first | rw [if_pos (by omega)] | rw [if_neg (by omega)])), rfl, rfl⟩
  ·
    refine pw_iload_n dX10_isIn_4 rfl ?_
    refine pw_aload_n dX10_isIn_5 rfl ?_
    refine pw_get (v := .ref (B + 16)) okX10 (k := 19) (by decide) lkX10_56 hA.1 rfl dX10_isIn_6 ?_
    refine pw_iload_n dX10_isIn_9 rfl ?_
    refine pw_iald (g := (s.2 19)) (t := 0) rfl (mF19 (s := s) hA) (by omega) (by decide) dX10_isIn_10 ?_
    refine pw_icmp_ge (tgt := 32) dX10_isIn_11 rfl (by omega) (by omega) (fun c11 => ?_) (fun c11 => ?_)
    ·
      refine pw_iconst (v := zI (0)) dX10_isIn_32 (by decide) ?_
      exact pw_zret dX10_isIn_33 rfl (by decide) (nle rfl) (nle rfl) ⟨by unfold mIn; (repeat (first | rw [if_pos (by omega)] | rw [if_neg (by omega)])), rfl, rfl⟩
    ·
      refine pw_iload_n dX10_isIn_14 rfl ?_
      refine pw_if_lt (tgt := 32) dX10_isIn_15 rfl (by omega) (fun c15 => ?_) (fun c15 => ?_)
      ·
        refine pw_iconst (v := zI (0)) dX10_isIn_32 (by decide) ?_
        exact pw_zret dX10_isIn_33 rfl (by decide) (nle rfl) (nle rfl) ⟨by unfold mIn; (repeat (first | rw [if_pos (by omega)] | rw [if_neg (by omega)])), rfl, rfl⟩
      ·
        refine pw_iload_n dX10_isIn_18 rfl ?_
        refine pw_aload_n dX10_isIn_19 rfl ?_
        refine pw_get (v := .ref (B + 15)) okX10 (k := 18) (by decide) lkX10_53 hA.1 rfl dX10_isIn_20 ?_
        refine pw_iload_n dX10_isIn_23 rfl ?_
        refine pw_iald (g := (s.2 18)) (t := 0) rfl (mF18 (s := s) hA) (by omega) (by decide) dX10_isIn_24 ?_
        refine pw_icmp_ge (tgt := 32) dX10_isIn_25 rfl (by omega) (by omega) (fun c25 => ?_) (fun c25 => ?_)
        ·
          refine pw_iconst (v := zI (0)) dX10_isIn_32 (by decide) ?_
          exact pw_zret dX10_isIn_33 rfl (by decide) (nle rfl) (nle rfl) ⟨by unfold mIn; (repeat (first | rw [if_pos (by omega)] | rw [if_neg (by omega)])), rfl, rfl⟩
        ·
          refine pw_iconst (v := zI (1)) dX10_isIn_28 (by decide) ?_
          refine pw_goto (tgt := 33) dX10_isIn_29 rfl ?_
          exact pw_zret dX10_isIn_33 rfl (by decide) (nle rfl) (nle rfl) ⟨by unfold mIn; (repeat (first | rw [if_pos (by omega)] | rw [if_neg (by omega)])), rfl, rfl⟩
def mSee (s : mS) : Int := if s.2 34 (s.1 47).toNat = 0 ∧ s.2 43 (s.1 47).toNat = 0 then 1 else 0
theorem mSee_b {s : mS} : 0 ≤ mSee s ∧ mSee s ≤ 1 := by
  unfold mSee
  split <;> omega
set_option maxHeartbeats 1000000 in
set_option maxRecDepth 100000 in
/-- isSeen() -/
theorem nR_isSeen {E : pw_E} (htr : E.1.stackTraces = false) {h : pz_H} {n : Nat} {B : Nat} {s : mS} (hA : mAt B s h)  (hf : 0 ≤ s.1 47 ∧ s.1 47 < 8) (h1 : 0 ≤ s.2 34 (s.1 47).toNat ∧ s.2 34 (s.1 47).toNat ≤ 1) (h2 : 0 ≤ s.2 43 (s.1 47).toNat ∧ s.2 43 (s.1 47).toNat ≤ 1) : pw_M E yX10_isSeen YX10_isSeen (rmD 0 0 0) [.ref B] h n (fun r0 h' n' => r0 = some (.int (zI (mSee s))) ∧ h' = h ∧ n' = n) (fun _ _ _ => False) := by
  refine pw_M_of (lv := [some (.ref B)]) (by decide) rfl rfl htr (nle rfl) rfl (fun L => ?_)
  refine pw_aload_n dX10_isSeen_0 rfl ?_
  refine pw_get (v := .ref (B + 31)) okX10 (k := 34) (by decide) lkX10_101 hA.1 rfl dX10_isSeen_1 ?_
  refine pw_aload_n dX10_isSeen_4 rfl ?_
  refine pw_get (v := .int (zI (s.1 47))) okX10 (k := 47) (by decide) lkX10_207 hA.1 rfl dX10_isSeen_5 ?_
  refine pw_zald (g := (s.2 34)) (t := 1) rfl (mF34 (s := s) hA) (by omega) (by decide) dX10_isSeen_8 ?_
  refine pw_if_ne (tgt := 28) dX10_isSeen_9 rfl (by omega) (fun c9 => ?_) (fun c9 => ?_)
  ·
    refine pw_iconst (v := zI (0)) dX10_isSeen_28 (by decide) ?_
    exact pw_zret dX10_isSeen_29 rfl (by decide) (nle rfl) (nle rfl) ⟨by unfold mSee; (repeat (first | rw [if_pos (by omega)] | rw [if_neg (by omega)])), rfl, rfl⟩
  ·
    refine pw_aload_n dX10_isSeen_12 rfl ?_
    refine pw_get (v := .ref (B + 40)) okX10 (k := 43) (by decide) lkX10_128 hA.1 rfl dX10_isSeen_13 ?_
    refine pw_aload_n dX10_isSeen_16 rfl ?_
    refine pw_get (v := .int (zI (s.1 47))) okX10 (k := 47) (by decide) lkX10_207 hA.1 rfl dX10_isSeen_17 ?_
    refine pw_zald (g := (s.2 43)) (t := 1) rfl (mF43 (s := s) hA) (by omega) (by decide) dX10_isSeen_20 ?_
    refine pw_if_ne (tgt := 28) dX10_isSeen_21 rfl (by omega) (fun c21 => ?_) (fun c21 => ?_)
    ·
      refine pw_iconst (v := zI (0)) dX10_isSeen_28 (by decide) ?_
      exact pw_zret dX10_isSeen_29 rfl (by decide) (nle rfl) (nle rfl) ⟨by unfold mSee; (repeat (first | rw [if_pos (by omega)] | rw [if_neg (by omega)])), rfl, rfl⟩
    ·
      refine pw_iconst (v := zI (1)) dX10_isSeen_24 (by decide) ?_
      refine pw_goto (tgt := 29) dX10_isSeen_25 rfl ?_
      exact pw_zret dX10_isSeen_29 rfl (by decide) (nle rfl) (nle rfl) ⟨by unfold mSee; (repeat (first | rw [if_pos (by omega)] | rw [if_neg (by omega)])), rfl, rfl⟩
def mOf (s : mS) (p : Int) : Int := if s.2 43 p.toNat = 0 then 0 else min (s.2 44 p.toNat) (s.2 42 p.toNat)
set_option maxHeartbeats 1000000 in
set_option maxRecDepth 100000 in
/-- offsetOf(p) -/
theorem nR_offsetOf {E : pw_E} (htr : E.1.stackTraces = false) {h : pz_H} {n : Nat} {B : Nat} {s : mS} (hA : mAt B s h) {p : Int}  (hp : 0 ≤ p ∧ p < 8) (h43 : 0 ≤ s.2 43 p.toNat ∧ s.2 43 p.toNat ≤ 1) (h44 : 0 ≤ s.2 44 p.toNat ∧ s.2 44 p.toNat ≤ 30) (h42 : 0 ≤ s.2 42 p.toNat ∧ s.2 42 p.toNat ≤ 30) : pw_M E yX10_offsetOf YX10_offsetOf (rmD 1 0 0) [.ref B, .int (zI (p))] h n (fun r0 h' n' => r0 = some (.int (zI (mOf s p))) ∧ h' = h ∧ n' = n) (fun _ _ _ => False) := by
  refine pw_M_of (lv := [some (.ref B), some (.int (zI (p)))]) (by decide) rfl rfl htr (nle rfl) rfl (fun L => ?_)
  refine pw_aload_n dX10_offsetOf_0 rfl ?_
  refine pw_get (v := .ref (B + 40)) okX10 (k := 43) (by decide) lkX10_128 hA.1 rfl dX10_offsetOf_1 ?_
  refine pw_iload_n dX10_offsetOf_4 rfl ?_
  refine pw_zald (g := (s.2 43)) (t := 1) rfl (mF43 (s := s) hA) (by omega) (by decide) dX10_offsetOf_5 ?_
  refine pw_if_eq (tgt := 27) dX10_offsetOf_6 rfl (by omega) (fun c6 => ?_) (fun c6 => ?_)
  ·
    refine pw_iconst (v := zI (0)) dX10_offsetOf_27 (by decide) ?_
    exact pw_iret dX10_offsetOf_28 rfl (nle rfl) (nle rfl) ⟨by unfold mOf; (repeat (first | rw [if_pos (by omega)] | rw [if_neg (by omega)])), rfl, rfl⟩
  ·
    refine pw_aload_n dX10_offsetOf_9 rfl ?_
    refine pw_get (v := .ref (B + 41)) okX10 (k := 44) (by decide) lkX10_131 hA.1 rfl dX10_offsetOf_10 ?_
    refine pw_iload_n dX10_offsetOf_13 rfl ?_
    refine pw_iald (g := (s.2 44)) (t := 0) rfl (mF44 (s := s) hA) (by omega) (by decide) dX10_offsetOf_14 ?_
    refine pw_aload_n dX10_offsetOf_15 rfl ?_
    refine pw_get (v := .ref (B + 39)) okX10 (k := 42) (by decide) lkX10_125 hA.1 rfl dX10_offsetOf_16 ?_
    refine pw_iload_n dX10_offsetOf_19 rfl ?_
    refine pw_iald (g := (s.2 42)) (t := 0) rfl (mF42 (s := s) hA) (by omega) (by decide) dX10_offsetOf_20 ?_
    refine pw_callS (As := [.int (zI ((s.2 44) (p).toNat)), .int (zI ((s.2 42) (p).toNat))]) (rm := rmD 0 0 0) (mR_least htr (by omega) (by omega)) rfl ywX10_least rfl cwX10_192 ⟨nle rfl, nle rfl⟩ (nle rfl) ⟨nle rfl, nle rfl⟩ dX10_offsetOf_21 ?_ (fun _ _ _ z => z.elim)
    intro r_9 h_9 n_9 hq _
    rw [hq.1, hq.2.1, hq.2.2]
    show pw E YX10_offsetOf _ _ 0 0 24 [some (.ref B), some (.int (zI (p)))] [.int (zI (min ((s.2 44) (p).toNat) ((s.2 42) (p).toNat)))] h n
    refine pw_goto (tgt := 28) dX10_offsetOf_24 rfl ?_
    exact pw_iret dX10_offsetOf_28 rfl (nle rfl) (nle rfl) ⟨by unfold mOf; (repeat (first | rw [if_pos (by omega)] | rw [if_neg (by omega)])), rfl, rfl⟩
set_option maxHeartbeats 1000000 in
set_option maxRecDepth 100000 in
/-- comesIn(p, b) -/
theorem nR_comesIn {E : pw_E} (htr : E.1.stackTraces = false) {h : pz_H} {n : Nat} {B : Nat} {s : mS} (hA : mAt B s h) {p b : Int}  (hp : 0 ≤ p ∧ p < 8) (h45 : 0 ≤ s.2 45 p.toNat ∧ s.2 45 p.toNat ≤ 900000000) : pw_M E yX10_comesIn YX10_comesIn (rmD 0 0 0) [.ref B, .int (zI (p)), .int (zI (b))] h n (fun r0 h' n' => r0 = none ∧ mAt B (mA 45 (va_up (s.2 45) (p).toNat (s.2 45 (p).toNat + 1)) (mA 46 (va_up (s.2 46) (64 * (p) + s.2 45 (p).toNat % 64).toNat (b)) s)) h' ∧ mFr B h h' ∧ n' = n) (fun _ _ _ => False) := by
  refine pw_M_of (lv := [some (.ref B), some (.int (zI (p))), some (.int (zI (b)))]) (by decide) rfl rfl htr (nle rfl) rfl (fun L => ?_)
  refine pw_aload_n dX10_comesIn_0 rfl ?_
  refine pw_get (v := .ref (B + 43)) okX10 (k := 46) (by decide) lkX10_137 hA.1 rfl dX10_comesIn_1 ?_
  refine pw_bipush (v := zI (64)) dX10_comesIn_4 (by decide) ?_
  refine pw_iload_n dX10_comesIn_6 rfl ?_
  refine pw_zimul dX10_comesIn_7 ?_
  refine pw_aload_n dX10_comesIn_8 rfl ?_
  refine pw_get (v := .ref (B + 42)) okX10 (k := 45) (by decide) lkX10_134 hA.1 rfl dX10_comesIn_9 ?_
  refine pw_iload_n dX10_comesIn_12 rfl ?_
  refine pw_iald (g := (s.2 45)) (t := 0) rfl (mF45 (s := s) hA) (by omega) (by decide) dX10_comesIn_13 ?_
  refine pw_bipush (v := zI (64)) dX10_comesIn_14 (by decide) ?_
  refine pw_zirem dX10_comesIn_16 (by omega) (by omega) ?_
  refine pw_ziadd dX10_comesIn_17 ?_
  refine pw_iload_n dX10_comesIn_18 rfl ?_
  refine pw_iast (g := (s.2 46)) (t := 0) rfl (mF46 (s := s) hA) (by omega) (by decide) dX10_comesIn_19 ?_
  have hA1 : mAt B (mA 46 (va_up (s.2 46) ((64 * p) + (((s.2 45) (p).toNat) % (64))).toNat (b)) s) (va_up h (B + 43) (pz_z 0 512 (va_up (s.2 46) ((64 * p) + (((s.2 45) (p).toNat) % (64))).toNat (b)))) := mU46 hA
  have hF1 : mFr B h (va_up h (B + 43) (pz_z 0 512 (va_up (s.2 46) ((64 * p) + (((s.2 45) (p).toNat) % (64))).toNat (b)))) := mFr_tr mFr_rf (mFr_up (by decide))
  revert hA1 hF1
  generalize (va_up h (B + 43) (pz_z 0 512 (va_up (s.2 46) ((64 * p) + (((s.2 45) (p).toNat) % (64))).toNat (b)))) = h1
  intro hA1 hF1
  refine pw_aload_n dX10_comesIn_20 rfl ?_
  refine pw_get (v := .ref (B + 42)) okX10 (k := 45) (by decide) lkX10_134 hA1.1 rfl dX10_comesIn_21 ?_
  refine pw_iload_n dX10_comesIn_24 rfl ?_
  refine pw_dup2 dX10_comesIn_25 rfl rfl ?_
  refine pw_iald (g := (s.2 45)) (t := 0) rfl (mF45 (s := (mA 46 (va_up (s.2 46) ((64 * p) + (((s.2 45) (p).toNat) % (64))).toNat (b)) s)) hA1) (by omega) (by decide) dX10_comesIn_26 ?_
  refine pw_iconst (v := zI (1)) dX10_comesIn_27 (by decide) ?_
  refine pw_ziadd dX10_comesIn_28 ?_
  refine pw_iast (g := (s.2 45)) (t := 0) rfl (mF45 (s := (mA 46 (va_up (s.2 46) ((64 * p) + (((s.2 45) (p).toNat) % (64))).toNat (b)) s)) hA1) (by omega) (by decide) dX10_comesIn_29 ?_
  have hA2 : mAt B (mA 45 (va_up (s.2 45) (p).toNat (((s.2 45) (p).toNat) + (1))) (mA 46 (va_up (s.2 46) ((64 * p) + (((s.2 45) (p).toNat) % (64))).toNat (b)) s)) (va_up h1 (B + 42) (pz_z 0 8 (va_up (s.2 45) (p).toNat (((s.2 45) (p).toNat) + (1))))) := mU45 hA1
  have hF2 : mFr B h (va_up h1 (B + 42) (pz_z 0 8 (va_up (s.2 45) (p).toNat (((s.2 45) (p).toNat) + (1))))) := mFr_tr hF1 (mFr_up (by decide))
  revert hA2 hF2
  generalize (va_up h1 (B + 42) (pz_z 0 8 (va_up (s.2 45) (p).toNat (((s.2 45) (p).toNat) + (1))))) = h2
  intro hA2 hF2
  exact pw_vret dX10_comesIn_30 rfl (nle rfl) (nle rfl) ⟨rfl, hA2, hF2, rfl⟩
def mC1 (b : Int) (s : mS) : mS := if s.1 49 < 400 then mV 49 (s.1 49 + 1) (mA 50 (va_up (s.2 50) (s.1 49).toNat b) s) else s
set_option maxHeartbeats 1000000 in
set_option maxRecDepth 100000 in
/-- copyOne(b) -/
theorem nR_copyOne {E : pw_E} (htr : E.1.stackTraces = false) {h : pz_H} {n : Nat} {B : Nat} {s : mS} (hA : mAt B s h) {b : Int}  (hc : 0 ≤ s.1 49 ∧ s.1 49 ≤ 400) : pw_M E yX10_copyOne YX10_copyOne (rmD 0 0 0) [.ref B, .int (zI (b))] h n (fun r0 h' n' => r0 = none ∧ mAt B (mC1 b s) h' ∧ mFr B h h' ∧ n' = n) (fun _ _ _ => False) := by
  refine pw_M_of (lv := [some (.ref B), some (.int (zI (b)))]) (by decide) rfl rfl htr (nle rfl) rfl (fun L => ?_)
  refine pw_aload_n dX10_copyOne_0 rfl ?_
  refine pw_get (v := .int (zI (s.1 49))) okX10 (k := 49) (by decide) lkX10_308 hA.1 rfl dX10_copyOne_1 ?_
  refine pw_sipush (v := zI (400)) dX10_copyOne_4 (by decide) ?_
  refine pw_icmp_ge (tgt := 30) dX10_copyOne_7 rfl (by omega) (by omega) (fun c7 => ?_) (fun c7 => ?_)
  ·
    exact pw_vret dX10_copyOne_30 rfl (nle rfl) (nle rfl) ⟨rfl, (show mAt B (mC1 b s) _ from by unfold mC1; first | (rw [if_pos (by omega)]; exact hA) | (rw [if_neg (by omega)]; exact hA)), mFr_rf, rfl⟩
  ·
    refine pw_aload_n dX10_copyOne_10 rfl ?_
    refine pw_get (v := .ref (B + 44)) okX10 (k := 50) (by decide) lkX10_140 hA.1 rfl dX10_copyOne_11 ?_
    refine pw_aload_n dX10_copyOne_14 rfl ?_
    refine pw_get (v := .int (zI (s.1 49))) okX10 (k := 49) (by decide) lkX10_308 hA.1 rfl dX10_copyOne_15 ?_
    refine pw_iload_n dX10_copyOne_18 rfl ?_
    refine pw_iast (g := (s.2 50)) (t := 0) rfl (mF50 (s := s) hA) (by omega) (by decide) dX10_copyOne_19 ?_
    have hA1 : mAt B (mA 50 (va_up (s.2 50) (s.1 49).toNat (b)) s) (va_up h (B + 44) (pz_z 0 400 (va_up (s.2 50) (s.1 49).toNat (b)))) := mU50 hA
    have hF1 : mFr B h (va_up h (B + 44) (pz_z 0 400 (va_up (s.2 50) (s.1 49).toNat (b)))) := mFr_tr mFr_rf (mFr_up (by decide))
    revert hA1 hF1
    generalize (va_up h (B + 44) (pz_z 0 400 (va_up (s.2 50) (s.1 49).toNat (b)))) = h1
    intro hA1 hF1
    refine pw_aload_n dX10_copyOne_20 rfl ?_
    refine pw_dup dX10_copyOne_21 rfl ?_
    refine pw_get (v := .int (zI (s.1 49))) okX10 (k := 49) (by decide) lkX10_308 hA1.1 rfl dX10_copyOne_22 ?_
    refine pw_iconst (v := zI (1)) dX10_copyOne_25 (by decide) ?_
    refine pw_ziadd dX10_copyOne_26 ?_
    refine pw_put (fs' := (moL B (va_up (mA 50 (va_up (s.2 50) (s.1 49).toNat (b)) s).1 49 ((s.1 49) + (1))))) okX10 (k := 49) (by decide) lkX10_308 rfl rfl rfl hA1.1 (nlt rfl) rfl dX10_copyOne_27 ?_
    have hA2 : mAt B (mV 49 ((s.1 49) + (1)) (mA 50 (va_up (s.2 50) (s.1 49).toNat (b)) s)) (va_up h1 B (pz_o 13 (moL B (va_up (mA 50 (va_up (s.2 50) (s.1 49).toNat (b)) s).1 49 ((s.1 49) + (1)))))) := mAt_V hA1
    have hF2 : mFr B h (va_up h1 B (pz_o 13 (moL B (va_up (mA 50 (va_up (s.2 50) (s.1 49).toNat (b)) s).1 49 ((s.1 49) + (1)))))) := mFr_tr hF1 (mFr_up (k := 0) (by decide))
    revert hA2 hF2
    generalize (va_up h1 B (pz_o 13 (moL B (va_up (mA 50 (va_up (s.2 50) (s.1 49).toNat (b)) s).1 49 ((s.1 49) + (1)))))) = h2
    intro hA2 hF2
    exact pw_vret dX10_copyOne_30 rfl (nle rfl) (nle rfl) ⟨rfl, (show mAt B (mC1 b s) _ from by unfold mC1; first | (rw [if_pos (by omega)]; exact hA2) | (rw [if_neg (by omega)]; exact hA2)), hF2, rfl⟩
def mCt (f : Nat → Int) : Nat → Int → Int → Int
  | 0, _, a => a
  | j + 1, i, a => mCt f j (i + 1) (if f i.toNat = 0 then a else a + 1)
set_option maxHeartbeats 1000000 in
set_option maxRecDepth 100000 in
theorem lN_panes {E : pw_E} (htr : E.1.stackTraces = false) {Kk : pw_K} {h : pz_H} {n : Nat} {B : Nat} {s : mS} (hA : mAt B s h) (hu : mUs s) : ∀ (j : Nat) (i a : Int), (8 - i).toNat = j → 0 ≤ i → i ≤ 8 → (0 ≤ a ∧ a ≤ i) → Kk.2.2.1 (some (.int (zI (mCt (s.2 16) j i a)))) h n → pw E YX10_panes (rmD 0 0 0) Kk 0 0 4 [some (.ref B), some (.int (zI a)), some (.int (zI i))] [] h n := by
  intro j
  induction j with
  | zero =>
    intro i a hj h1 h2 h3 hQ
    refine pw_iload_n dX10_panes_4 rfl ?_
    refine pw_bipush (v := zI (8)) dX10_panes_5 (by decide) ?_
    refine pw_icmp_ge (tgt := 33) dX10_panes_7 rfl (by omega) (by omega) (fun c7 => ?_) (fun c7 => ?_)
    ·
      refine pw_iload_n dX10_panes_33 rfl ?_
      exact pw_iret dX10_panes_34 rfl (nle rfl) (nle rfl) hQ
    · exfalso; omega
  | succ j ih =>
    intro i a hj h1 h2 h3 hQ
    refine pw_iload_n dX10_panes_4 rfl ?_
    refine pw_bipush (v := zI (8)) dX10_panes_5 (by decide) ?_
    refine pw_icmp_ge (tgt := 33) dX10_panes_7 rfl (by omega) (by omega) (fun c7 => ?_) (fun c7 => ?_)
    · exfalso; omega
    ·
      have hu1 := hu i.toNat (by omega)
      refine pw_aload_n dX10_panes_10 rfl ?_
      refine pw_get (v := .ref (B + 13)) okX10 (k := 16) (by decide) lkX10_47 hA.1 rfl dX10_panes_11 ?_
      refine pw_iload_n dX10_panes_14 rfl ?_
      refine pw_zald (g := (s.2 16)) (t := 1) rfl (mF16 (s := s) hA) (by omega) (by decide) dX10_panes_15 ?_
      refine pw_if_eq (tgt := 25) dX10_panes_16 rfl (by omega) (fun c16 => ?_) (fun c16 => ?_)
      ·
        refine pw_iload_n dX10_panes_25 rfl ?_
        refine pw_istore_n (lv' := [some (.ref B), some (.int (zI (a))), some (.int (zI (i)))]) dX10_panes_26 (by decide) rfl rfl ?_
        refine pw_ziinc (lv' := [some (.ref B), some (.int (zI (a))), some (.int (zI (i + 1)))]) dX10_panes_27 rfl (by decide) rfl rfl ?_
        refine pw_goto (tgt := 4) dX10_panes_30 rfl ?_
        have ez := ih (i + 1) (a) (by omega) (by omega) (by omega) (by omega) (by rw [show mCt (s.2 16) (j + 1) i a = mCt (s.2 16) j (i + 1) (if s.2 16 i.toNat = 0 then a else a + 1) from rfl] at hQ; first | (rw [if_pos (by omega)] at hQ; exact hQ) | (rw [if_neg (by omega)] at hQ; exact hQ))
        exact ez
      ·
        refine pw_iload_n dX10_panes_19 rfl ?_
        refine pw_iconst (v := zI (1)) dX10_panes_20 (by decide) ?_
        refine pw_ziadd dX10_panes_21 ?_
        refine pw_goto (tgt := 26) dX10_panes_22 rfl ?_
        refine pw_istore_n (lv' := [some (.ref B), some (.int (zI (a + 1))), some (.int (zI (i)))]) dX10_panes_26 (by decide) rfl rfl ?_
        refine pw_ziinc (lv' := [some (.ref B), some (.int (zI (a + 1))), some (.int (zI (i + 1)))]) dX10_panes_27 rfl (by decide) rfl rfl ?_
        refine pw_goto (tgt := 4) dX10_panes_30 rfl ?_
        have ez := ih (i + 1) (a + 1) (by omega) (by omega) (by omega) (by omega) (by rw [show mCt (s.2 16) (j + 1) i a = mCt (s.2 16) j (i + 1) (if s.2 16 i.toNat = 0 then a else a + 1) from rfl] at hQ; first | (rw [if_pos (by omega)] at hQ; exact hQ) | (rw [if_neg (by omega)] at hQ; exact hQ))
        exact ez
set_option maxHeartbeats 1000000 in
set_option maxRecDepth 100000 in
/-- panes() -/
theorem nR_panes {E : pw_E} (htr : E.1.stackTraces = false) {h : pz_H} {n : Nat} {B : Nat} {s : mS} (hA : mAt B s h)  (hu : mUs s) : pw_M E yX10_panes YX10_panes (rmD 0 0 0) [.ref B] h n (fun r0 h' n' => r0 = some (.int (zI (mCt (s.2 16) 8 0 0))) ∧ h' = h ∧ n' = n) (fun _ _ _ => False) := by
  refine pw_M_of (lv := [some (.ref B), none, none]) (by decide) rfl rfl htr (nle rfl) rfl (fun L => ?_)
  refine pw_iconst (v := zI (0)) dX10_panes_0 (by decide) ?_
  refine pw_istore_n (lv' := [some (.ref B), some (.int (zI (0))), none]) dX10_panes_1 (by decide) rfl rfl ?_
  refine pw_iconst (v := zI (0)) dX10_panes_2 (by decide) ?_
  refine pw_istore_n (lv' := [some (.ref B), some (.int (zI (0))), some (.int (zI (0)))]) dX10_panes_3 (by decide) rfl rfl ?_
  exact lN_panes htr hA hu _ 0 0 rfl (by omega) (by omega) (by omega) ⟨rfl, rfl, rfl⟩
