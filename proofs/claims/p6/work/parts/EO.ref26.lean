theorem cwX10_228 : Cond.methodLink RX10 228 yX10_closeNow ∈ pw_G ∧ Cond.instanceMethod yX10_closeNow ∈ pw_G ∧ Cond.selects RX10 yX10_closeNow yX10_closeNow ∈ pw_G := ⟨pw_in 1558 (by decide +kernel) (by decide +kernel), pw_in 1560 (by decide +kernel) (by decide +kernel), pw_in 42 (by decide +kernel) (by decide +kernel)⟩
/-! ===== the reference's face on what holds between calls ===== -/
/-- pane p is there -/
def pIn (t : aT) (p : Int) : Prop := (0 ≤ p ∧ p < 8) ∧ p.toNat ∈ aX fp 8 t
theorem mCt_1 {f : Nat → Int} {j : Nat} {i a : Int} (h : 0 ≤ f i.toNat ∧ f i.toNat ≤ 1) : mCt f (j + 1) i a = mCt f j (i + 1) (a + f i.toNat) := by
  show mCt f j (i + 1) (if f i.toNat = 0 then a else a + 1) = _
  congr 1
  split <;> omega
theorem mCt_s {f : Nat → Int} (h : ∀ i, i < 8 → 0 ≤ f i ∧ f i ≤ 1) : mCt f 8 0 0 = f 0 + f 1 + f 2 + f 3 + f 4 + f 5 + f 6 + f 7 := by
  rw [mCt_1 (h 0 (by decide)), mCt_1 (h 1 (by decide)), mCt_1 (h 2 (by decide)), mCt_1 (h 3 (by decide)), mCt_1 (h 4 (by decide)), mCt_1 (h 5 (by decide)), mCt_1 (h 6 (by decide)), mCt_1 (h 7 (by decide))]
  show 0 + f 0 + f 1 + f 2 + f 3 + f 4 + f 5 + f 6 + f 7 = _
  omega
theorem rI_ct {W H : Int} {t : aT} {s : mS} (hG : aG 8 t W H) (hI : rI t s) : (1 < mCt (s.2 16) 8 0 0) ↔ tp t = none := by
  have hu := rI_us hI
  rw [mCt_s hu]
  have u0 := hu 0 (by decide)
  have u1 := hu 1 (by decide)
  have u2 := hu 2 (by decide)
  have u3 := hu 3 (by decide)
  have u4 := hu 4 (by decide)
  have u5 := hu 5 (by decide)
  have u6 := hu 6 (by decide)
  have u7 := hu 7 (by decide)
  constructor
  · intro z
    cases e : tp t with
    | none => rfl
    | some p =>
      exfalso
      have en : ¬ tp t = none := by rw [e]; exact fun y => by cases y
      have x1 : aX fp 8 t = [p] := (aX_n en).trans (fp_y e)
      have f : ∀ i, i < 8 → i ≠ p → s.2 16 i = 0 := fun i hi hne => by
        rw [hI.2.2.2.1 i hi, x1, if_neg (by simpa using hne)]
      have p8 : p < 8 := hG.2.2.2.2 p (by rw [x1]; exact List.mem_cons_self)
      have f0 := f 0 (by decide)
      have f1 := f 1 (by decide)
      have f2 := f 2 (by decide)
      have f3 := f 3 (by decide)
      have f4 := f 4 (by decide)
      have f5 := f 5 (by decide)
      have f6 := f 6 (by decide)
      have f7 := f 7 (by decide)
      rcases (show p = 0 ∨ p = 1 ∨ p = 2 ∨ p = 3 ∨ p = 4 ∨ p = 5 ∨ p = 6 ∨ p = 7 by omega) with rfl | rfl | rfl | rfl | rfl | rfl | rfl | rfl <;> omega
  · intro e
    obtain ⟨ok, n1, n2, n3, n4⟩ := hG
    obtain ⟨-, o1, o2⟩ := ok.2 e
    have l1 := (aOk_p 7 _ _ _ o1).1
    have l2 := (aOk_p 7 _ _ _ o2).1
    obtain ⟨a, ha⟩ := List.exists_mem_of_length_pos (show 0 < (aX fp 7 (aL t)).length by omega)
    obtain ⟨b, hb⟩ := List.exists_mem_of_length_pos (show 0 < (aX fp 7 (aR t)).length by omega)
    have x1 : aX fp 8 t = aX fp 7 (aL t) ++ aX fp 7 (aR t) := aX_lp e
    rw [x1] at n3 n4
    obtain ⟨-, -, dis⟩ := List.nodup_append.mp n3
    have hab : a ≠ b := dis a ha b hb
    have a8 := n4 a (List.mem_append_left _ ha)
    have b8 := n4 b (List.mem_append_right _ hb)
    have fa := (rI_used hI a8).mpr (by rw [x1]; exact List.mem_append_left _ ha)
    have fb := (rI_used hI b8).mpr (by rw [x1]; exact List.mem_append_right _ hb)
    clear x1 n3 n4 dis ha hb hu hI
    rcases (show a = 0 ∨ a = 1 ∨ a = 2 ∨ a = 3 ∨ a = 4 ∨ a = 5 ∨ a = 6 ∨ a = 7 by omega) with rfl | rfl | rfl | rfl | rfl | rfl | rfl | rfl <;> rcases (show b = 0 ∨ b = 1 ∨ b = 2 ∨ b = 3 ∨ b = 4 ∨ b = 5 ∨ b = 6 ∨ b = 7 by omega) with rfl | rfl | rfl | rfl | rfl | rfl | rfl | rfl <;> omega
theorem rI_mNo {t : aT} {s : mS} {p : Int} (hI : rI t s) (h : ¬ pIn t p) : mNo s p = 1 := by
  have b := @mNo_b s p
  have c := rI_no (p := p) hI
  rcases (show mNo s p = 0 ∨ mNo s p = 1 by omega) with z | z
  · exact absurd (c.mp z) h
  · exact z
theorem rH_47 {W H M fo : Int} {t : aT} {s : mS} (hH : rH W H M t s) (hf : pIn t fo) : rH W H M t (mV 47 fo s) := rH_same hH (fun _ _ => rfl) (rV_up hH.2.2.1 rfl hf)
theorem rH_48 {W H M v : Int} {t : aT} {s : mS} (hH : rH W H M t s) (hf : 0 ≤ v ∧ v ≤ 1) : rH W H M t (mV 48 v s) := by
  refine rH_same hH (fun _ _ => rfl) ?_
  obtain ⟨⟨v1, v2⟩, ⟨v47, m47⟩, v48, v49, v53, v54, v55, v56, v57⟩ := hH.2.2.1
  exact ⟨⟨v1, v2⟩, ⟨v47, m47⟩, hf, v49, v53, v54, v55, v56, v57⟩
set_option maxHeartbeats 1000000 in
set_option maxRecDepth 100000 in
/-- focus(p), no such pane -/
theorem nJ_focus1 {E : pw_E} (htr : E.1.stackTraces = false) {h : pz_H} {n : Nat} {B : Nat} {s : mS} (hA : mAt B s h) {p : Int} {W H M : Int} {t : aT} (hW : 8 ≤ W ∧ W ≤ 40) (hHH : 4 ≤ H ∧ H ≤ 16) (hM : M ≤ 800000000) (hH : rH W H M t s) (h_p : -2147483648 ≤ p ∧ p < 2147483648) (hno : ¬ pIn t p) : pw_M E yX10_focus YX10_focus (rmD 1 0 0) [.ref B, .int (zI (p))] h n (fun r0 h' n' => r0 = none ∧ rD W H M t B 1 (s.1 47) (s.1 48) h h' n n') (fun _ _ _ => False) := by
  obtain ⟨hG, hI, ⟨⟨v1, v2⟩, ⟨v47, m47⟩, v48, v49, v53, v54, v55, v56, v57⟩, hM0, h45⟩ := id hH
  have hu := rI_us hI
  have hkp : mNo s p = 0 → mPk s p.toNat := fun z => hI.2.2.2.2.1 _ ((rI_no hI).mp z).2
  refine pw_M_mo (nG_focus htr hA hu v47 h_p) (fun r0 h' n' hq => ?_) (fun _ _ _ z => z.elim)
  obtain ⟨r1, hA3, hF3, e4⟩ := hq
  rw [rI_mNo hI hno, if_neg (by decide)] at hA3
  exact ⟨r1, _, hA3, rH_47 (rH_0 hH) ⟨v47, m47⟩, ⟨rfl, rfl, rfl⟩, hF3, e4⟩
set_option maxHeartbeats 1000000 in
set_option maxRecDepth 100000 in
/-- focus(p) -/
theorem nJ_focus2 {E : pw_E} (htr : E.1.stackTraces = false) {h : pz_H} {n : Nat} {B : Nat} {s : mS} (hA : mAt B s h) {p : Int} {W H M : Int} {t : aT} (hW : 8 ≤ W ∧ W ≤ 40) (hHH : 4 ≤ H ∧ H ≤ 16) (hM : M ≤ 800000000) (hH : rH W H M t s) (h_p : -2147483648 ≤ p ∧ p < 2147483648) (hin : pIn t p) : pw_M E yX10_focus YX10_focus (rmD 1 0 0) [.ref B, .int (zI (p))] h n (fun r0 h' n' => r0 = none ∧ rD W H M t B 0 p (s.1 48) h h' n n') (fun _ _ _ => False) := by
  obtain ⟨hG, hI, ⟨⟨v1, v2⟩, ⟨v47, m47⟩, v48, v49, v53, v54, v55, v56, v57⟩, hM0, h45⟩ := id hH
  have hu := rI_us hI
  have hkp : mNo s p = 0 → mPk s p.toNat := fun z => hI.2.2.2.2.1 _ ((rI_no hI).mp z).2
  refine pw_M_mo (nG_focus htr hA hu v47 h_p) (fun r0 h' n' hq => ?_) (fun _ _ _ z => z.elim)
  obtain ⟨r1, hA3, hF3, e4⟩ := hq
  rw [(rI_no hI).mpr hin, if_pos rfl] at hA3
  exact ⟨r1, _, hA3, rH_47 (rH_0 hH) hin, ⟨rfl, rfl, rfl⟩, hF3, e4⟩
set_option maxHeartbeats 1000000 in
set_option maxRecDepth 100000 in
/-- feed(p, v, k), refused -/
theorem nJ_feed1 {E : pw_E} (htr : E.1.stackTraces = false) {h : pz_H} {n : Nat} {B : Nat} {s : mS} (hA : mAt B s h) {p k : Int} {v : Int64} {W H M : Int} {t : aT} (hW : 8 ≤ W ∧ W ≤ 40) (hHH : 4 ≤ H ∧ H ≤ 16) (hM : M ≤ 800000000) (hH : rH W H M t s) (h_p : -2147483648 ≤ p ∧ p < 2147483648) (h_k : -2147483648 ≤ k ∧ k < 2147483648) {T : Int} (hT : (¬ pIn t p ∧ T = 1) ∨ (pIn t p ∧ ¬ (1 ≤ k ∧ k ≤ 8) ∧ T = 2)) : pw_M E yX10_feed YX10_feed (rmD 8 0 0) [.ref B, .int (zI (p)), .long (v), .int (zI (k))] h n (fun r0 h' n' => r0 = none ∧ rD W H M t B T (s.1 47) (s.1 48) h h' n n') (fun _ _ _ => False) := by
  obtain ⟨hG, hI, ⟨⟨v1, v2⟩, ⟨v47, m47⟩, v48, v49, v53, v54, v55, v56, v57⟩, hM0, h45⟩ := id hH
  have hu := rI_us hI
  have hkp : mNo s p = 0 → mPk s p.toNat := fun z => hI.2.2.2.2.1 _ ((rI_no hI).mp z).2
  refine pw_M_mo (nG_feed htr hA hu hkp h_p h_k) (fun r0 h' n' hq => ?_) (fun _ _ _ z => z.elim)
  obtain ⟨r1, s', hA3, e0, h3, hF3, e4⟩ := hq
  have eT : mFd s p k = T := by
    unfold mFd
    rcases hT with ⟨a, b⟩ | ⟨a, b, c⟩
    · rw [rI_mNo hI a, if_neg (by decide), b]
    · rw [(rI_no hI).mpr a, if_pos rfl, if_neg b, c]
  have hT0 : ¬ T = 0 := by omega
  rcases h3 with ⟨-, h3⟩ | ⟨h3, -⟩
  · rw [eT] at h3
    subst h3
    exact ⟨r1, _, hA3, rH_0 hH, ⟨rfl, rfl, rfl⟩, hF3, e4⟩
  · exact absurd (eT.symm.trans h3) hT0
set_option maxHeartbeats 1000000 in
set_option maxRecDepth 100000 in
/-- feed(p, v, k) -/
theorem nJ_feed2 {E : pw_E} (htr : E.1.stackTraces = false) {h : pz_H} {n : Nat} {B : Nat} {s : mS} (hA : mAt B s h) {p k : Int} {v : Int64} {W H M : Int} {t : aT} (hW : 8 ≤ W ∧ W ≤ 40) (hHH : 4 ≤ H ∧ H ≤ 16) (hM : M ≤ 800000000) (hH : rH W H M t s) (h_p : -2147483648 ≤ p ∧ p < 2147483648) (h_k : -2147483648 ≤ k ∧ k < 2147483648) (hin : pIn t p) (hk8 : 1 ≤ k ∧ k ≤ 8) : pw_M E yX10_feed YX10_feed (rmD 8 0 0) [.ref B, .int (zI (p)), .long (v), .int (zI (k))] h n (fun r0 h' n' => r0 = none ∧ rD W H M t B 0 (s.1 47) (s.1 48) h h' n n') (fun _ _ _ => False) := by
  obtain ⟨hG, hI, ⟨⟨v1, v2⟩, ⟨v47, m47⟩, v48, v49, v53, v54, v55, v56, v57⟩, hM0, h45⟩ := id hH
  have hu := rI_us hI
  have hkp : mNo s p = 0 → mPk s p.toNat := fun z => hI.2.2.2.2.1 _ ((rI_no hI).mp z).2
  refine pw_M_mo (nG_feed htr hA hu hkp h_p h_k) (fun r0 h' n' hq => ?_) (fun _ _ _ z => z.elim)
  obtain ⟨r1, s', hA3, e0, h3, hF3, e4⟩ := hq
  have eT : mFd s p k = 0 := by
    unfold mFd
    rw [(rI_no hI).mpr hin, if_pos rfl, if_pos hk8]
  rcases h3 with ⟨h3, -⟩ | ⟨-, h3, h5⟩
  · exact absurd eT h3
  · have e18 : s'.2 18 = s.2 18 := h5.2.1 18 (by decide)
    have e19 : s'.2 19 = s.2 19 := h5.2.1 19 (by decide)
    exact ⟨r1, s', hA3, rH_pq (rH_0 hH) (by have := hin.1; omega) (mPq_r h5) h3 (congrFun e18 _) (congrFun e19 _), ⟨e0.trans eT, congrFun h5.1 47, congrFun h5.1 48⟩, hF3, e4⟩
set_option maxHeartbeats 1000000 in
set_option maxRecDepth 100000 in
/-- split(p, dn), no such pane -/
theorem nJ_split1 {E : pw_E} (htr : E.1.stackTraces = false) {h : pz_H} {n : Nat} {B : Nat} {s : mS} (hA : mAt B s h) {p dn : Int} {W H M : Int} {t : aT} (hW : 8 ≤ W ∧ W ≤ 40) (hHH : 4 ≤ H ∧ H ≤ 16) (hM : M ≤ 800000000) (hH : rH W H M t s) (h_p : -2147483648 ≤ p ∧ p < 2147483648) (hno : ¬ pIn t p) : pw_M E yX10_split YX10_split (rmD 4 0 0) [.ref B, .int (zI (p)), .int (zI (dn))] h n (fun r0 h' n' => r0 = some (.int (zI 0)) ∧ rD W H M t B 1 (s.1 47) (s.1 48) h h' n n') (fun _ _ _ => False) := by
  obtain ⟨hG, hI, ⟨⟨v1, v2⟩, ⟨v47, m47⟩, v48, v49, v53, v54, v55, v56, v57⟩, hM0, h45⟩ := id hH
  have hu := rI_us hI
  have hkp : mNo s p = 0 → mPk s p.toNat := fun z => hI.2.2.2.2.1 _ ((rI_no hI).mp z).2
  refine pw_M_mo (nG_split1 htr hA hu (rI_mNo hI hno) h_p) (fun r0 h' n' hq => ?_) (fun _ _ _ z => z.elim)
  obtain ⟨r1, hA3, hF3, e4⟩ := hq
  exact ⟨r1, _, hA3, rH_0 hH, ⟨rfl, rfl, rfl⟩, hF3, e4⟩
set_option maxHeartbeats 1000000 in
set_option maxRecDepth 100000 in
/-- split(p, dn), refused -/
theorem nJ_split2 {E : pw_E} (htr : E.1.stackTraces = false) {h : pz_H} {n : Nat} {B : Nat} {s : mS} (hA : mAt B s h) {p dn : Int} {W H M : Int} {t : aT} (hW : 8 ≤ W ∧ W ≤ 40) (hHH : 4 ≤ H ∧ H ≤ 16) (hM : M ≤ 800000000) (hH : rH W H M t s) (h_p : -2147483648 ≤ p ∧ p < 2147483648) (hin : pIn t p) (hdn : 0 ≤ dn ∧ dn ≤ 1) (hmy : mMay s p dn = 0) : pw_M E yX10_split YX10_split (rmD 4 0 0) [.ref B, .int (zI (p)), .int (zI (dn))] h n (fun r0 h' n' => r0 = some (.int (zI 0)) ∧ rD W H M t B 2 (s.1 47) (s.1 48) h h' n n') (fun _ _ _ => False) := by
  obtain ⟨hG, hI, ⟨⟨v1, v2⟩, ⟨v47, m47⟩, v48, v49, v53, v54, v55, v56, v57⟩, hM0, h45⟩ := id hH
  have hu := rI_us hI
  have hkp : mNo s p = 0 → mPk s p.toNat := fun z => hI.2.2.2.2.1 _ ((rI_no hI).mp z).2
  refine pw_M_mo (nG_split2 htr hA hu ((rI_no hI).mpr hin) hkp hdn hmy h_p) (fun r0 h' n' hq => ?_) (fun _ _ _ z => z.elim)
  obtain ⟨r1, hA3, hF3, e4⟩ := hq
  exact ⟨r1, _, hA3, rH_0 hH, ⟨rfl, rfl, rfl⟩, hF3, e4⟩
set_option maxHeartbeats 1000000 in
set_option maxRecDepth 100000 in
/-- split(p, dn) -/
theorem nJ_split3 {E : pw_E} (htr : E.1.stackTraces = false) {h : pz_H} {n : Nat} {B : Nat} {s : mS} (hA : mAt B s h) {dn : Int}  {W H M : Int} {t : aT} (hW : 8 ≤ W ∧ W ≤ 40) (hHH : 4 ≤ H ∧ H ≤ 16) (hM : M ≤ 800000000) (hH : rH W H M t s) {v : aT} {nc f g p q : Nat} {dn : Int} (hv : aIn v 8 t) (hp : tp v = some p) (hdn : dn = 0 ∨ dn = 1) (hmay : mMay s p dn = 1) (hnc : ∀ b, b ∈ aX fc 8 t → b < nc) (hFr : frN s f g) (hfm : f ∉ aX fm 8 t) (hgm : g ∉ aX fm 8 t) (eq : mLs (s.2 16) 8 0 = (q : Int)) : pw_M E yX10_split YX10_split (rmD 4 0 0) [.ref B, .int (zI ((p : Int))), .int (zI (dn))] h n (fun r0 h' n' => r0 = some (.int (zI (q : Int))) ∧ rD W H M (aRep (tc v) (aDv nc f g dn (((if dn = 0 then tw v else th v) - 1) / 2) v p q) 8 t) B 0 q (s.1 48) h h' n n') (fun _ _ _ => False) := by
  obtain ⟨hG, hI, ⟨⟨v1, v2⟩, ⟨v47, m47⟩, v48, v49, v53, v54, v55, v56, v57⟩, hM0, h45⟩ := id hH
  have hu := rI_us hI
  have p8 : p < 8 := hG.2.2.2.2 p (aIn_p hG.1 hv hp)
  have hno0 : mNo s (p : Int) = 0 := (rI_no hI).mpr ⟨by omega, by rw [Int.toNat_natCast]; exact aIn_p hG.1 hv hp⟩
  have hkk : mPk s (p : Int).toNat := hI.2.2.2.2.1 _ ((rI_no hI).mp hno0).2
  have hdn2 : 0 ≤ dn ∧ dn ≤ 1 := by omega
  refine pw_M_of (lv := [some (.ref B), some (.int (zI ((p : Int)))), some (.int (zI (dn)))]) (by decide) rfl rfl htr (nle rfl) rfl (fun L => ?_)
  refine pw_aload_n dX10_split_0 rfl ?_
  refine pw_aload_n dX10_split_1 rfl ?_
  refine pw_iload_n dX10_split_2 rfl ?_
  refine pw_callV (As := [.int (zI ((p : Int)))]) (b := B) (rm := rmD 0 0 0) (nR_noPane htr hA hu (by omega)) rfl hA.1 rfl rfl ywX10_noPane rfl cwX10_213 ⟨nle rfl, nle rfl⟩ (nle rfl) ⟨nle rfl, nle rfl⟩ dX10_split_3 ?_ (fun _ _ _ z => z.elim)
  intro r_9 h_9 n_9 hq _
  rw [hq.1, hq.2.1, hq.2.2]
  show pw E YX10_split _ _ 0 0 6 [some (.ref B), some (.int (zI ((p : Int)))), some (.int (zI (dn)))] [.int (zI (mNo s ((p : Int)))), .ref B] h n
  refine pw_if_eq (tgt := 13) dX10_split_6 rfl (by omega) (fun c6 => ?_) (fun c6 => ?_)
  ·
    refine pw_aload_n dX10_split_13 rfl ?_
    refine pw_iload_n dX10_split_14 rfl ?_
    refine pw_iload_n dX10_split_15 rfl ?_
    refine pw_callV (As := [.int (zI ((p : Int))), .int (zI (dn))]) (b := B) (rm := rmD 0 0 0) (nG_maySplit htr hA hu (by omega) hdn2 hkk) rfl hA.1 rfl rfl ywX10_maySplit rfl cwX10_217 ⟨nle rfl, nle rfl⟩ (nle rfl) ⟨nle rfl, nle rfl⟩ dX10_split_16 ?_ (fun _ _ _ z => z.elim)
    intro r_9 h_9 n_9 hq _
    rw [hq.1, hq.2.1, hq.2.2]
    show pw E YX10_split _ _ 0 0 19 [some (.ref B), some (.int (zI ((p : Int)))), some (.int (zI (dn)))] [.int (zI (mMay s (p : Int) dn)), .ref B] h n
    refine pw_if_eq (tgt := 26) dX10_split_19 rfl (by omega) (fun c19 => ?_) (fun c19 => ?_)
    · exfalso; omega
    ·
      refine pw_iconst (v := zI (0)) dX10_split_22 (by decide) ?_
      refine pw_goto (tgt := 27) dX10_split_23 rfl ?_
      refine pw_put (fs' := (moL B (va_up s.1 0 (0)))) okX10 (k := 0) (by decide) lkX10_173 rfl rfl rfl hA.1 (nlt rfl) rfl dX10_split_27 ?_
      have hA1 : mAt B (mV 0 (0) s) (va_up h B (pz_o 13 (moL B (va_up s.1 0 (0))))) := mAt_V hA
      have hF1 : mFr B h (va_up h B (pz_o 13 (moL B (va_up s.1 0 (0))))) := mFr_tr mFr_rf (mFr_up (k := 0) (by decide))
      revert hA1 hF1
      generalize (va_up h B (pz_o 13 (moL B (va_up s.1 0 (0))))) = h1
      intro hA1 hF1
      refine pw_aload_n dX10_split_30 rfl ?_
      refine pw_get (v := .int (zI (0))) okX10 (k := 0) (by decide) lkX10_173 hA1.1 rfl dX10_split_31 ?_
      refine pw_if_le (tgt := 41) dX10_split_34 rfl (by omega) (fun c34 => ?_) (fun c34 => ?_)
      ·
        refine pw_aload_n dX10_split_41 rfl ?_
        refine pw_iload_n dX10_split_42 rfl ?_
        refine pw_iload_n dX10_split_43 rfl ?_
        refine pw_callV (As := [.int (zI ((p : Int))), .int (zI (dn))]) (b := B) (rm := rmD 3 0 0) (nG_splitNow (q := q) (nc := nc) htr hA1 hW hHH (rH_0 hH) hv hp hdn hmay hnc hFr hfm hgm eq) rfl hA1.1 rfl rfl ywX10_splitNow rfl cwX10_221 ⟨nle rfl, nle rfl⟩ (nle rfl) ⟨nle rfl, nle rfl⟩ dX10_split_44 ?_ (fun _ _ _ z => z.elim)
        intro r_9 h9 n_9 hq9 _
        obtain ⟨e1_, s9, hA9, hH9, hv9, hF90, e4_⟩ := hq9
        rw [e1_, e4_]
        show pw E YX10_split _ _ 0 0 47 [some (.ref B), some (.int (zI ((p : Int)))), some (.int (zI (dn)))] [.int (zI ((q : Int)))] h9 n
        clear e1_ e4_
        have hF9 := mFr_tr hF1 hF90
        exact pw_iret dX10_split_47 rfl (nle rfl) (nle rfl) ⟨rfl, s9, hA9, hH9, hv9, hF9, rfl⟩
      · exfalso; omega
  · exfalso; omega
set_option maxHeartbeats 1000000 in
set_option maxRecDepth 100000 in
/-- close(p), no such pane -/
theorem nJ_close1 {E : pw_E} (htr : E.1.stackTraces = false) {h : pz_H} {n : Nat} {B : Nat} {s : mS} (hA : mAt B s h) {p : Int}  {W H M : Int} {t : aT} (hW : 8 ≤ W ∧ W ≤ 40) (hHH : 4 ≤ H ∧ H ≤ 16) (hM : M ≤ 800000000) (hH : rH W H M t s) (h_p : -2147483648 ≤ p ∧ p < 2147483648) (hno : ¬ pIn t p) : pw_M E yX10_close YX10_close (rmD 4 0 0) [.ref B, .int (zI (p))] h n (fun r0 h' n' => r0 = some (.int (zI 0)) ∧ rD W H M t B 1 (s.1 47) (s.1 48) h h' n n') (fun _ _ _ => False) := by
  obtain ⟨hG, hI, ⟨⟨v1, v2⟩, ⟨v47, m47⟩, v48, v49, v53, v54, v55, v56, v57⟩, hM0, h45⟩ := id hH
  have hu := rI_us hI
  have hn1 := rI_mNo hI hno
  refine pw_M_of (lv := [some (.ref B), some (.int (zI (p)))]) (by decide) rfl rfl htr (nle rfl) rfl (fun L => ?_)
  refine pw_aload_n dX10_close_0 rfl ?_
  refine pw_aload_n dX10_close_1 rfl ?_
  refine pw_iload_n dX10_close_2 rfl ?_
  refine pw_callV (As := [.int (zI (p))]) (b := B) (rm := rmD 0 0 0) (nR_noPane htr hA hu (by omega)) rfl hA.1 rfl rfl ywX10_noPane rfl cwX10_213 ⟨nle rfl, nle rfl⟩ (nle rfl) ⟨nle rfl, nle rfl⟩ dX10_close_3 ?_ (fun _ _ _ z => z.elim)
  intro r_9 h_9 n_9 hq _
  rw [hq.1, hq.2.1, hq.2.2]
  show pw E YX10_close _ _ 0 0 6 [some (.ref B), some (.int (zI (p)))] [.int (zI (mNo s (p))), .ref B] h n
  refine pw_if_eq (tgt := 13) dX10_close_6 rfl (by omega) (fun c6 => ?_) (fun c6 => ?_)
  · exfalso; omega
  ·
    refine pw_iconst (v := zI (1)) dX10_close_9 (by decide) ?_
    refine pw_goto (tgt := 26) dX10_close_10 rfl ?_
    refine pw_put (fs' := (moL B (va_up s.1 0 (1)))) okX10 (k := 0) (by decide) lkX10_173 rfl rfl rfl hA.1 (nlt rfl) rfl dX10_close_26 ?_
    have hA1 : mAt B (mV 0 (1) s) (va_up h B (pz_o 13 (moL B (va_up s.1 0 (1))))) := mAt_V hA
    have hF1 : mFr B h (va_up h B (pz_o 13 (moL B (va_up s.1 0 (1))))) := mFr_tr mFr_rf (mFr_up (k := 0) (by decide))
    revert hA1 hF1
    generalize (va_up h B (pz_o 13 (moL B (va_up s.1 0 (1))))) = h1
    intro hA1 hF1
    refine pw_aload_n dX10_close_29 rfl ?_
    refine pw_get (v := .int (zI (1))) okX10 (k := 0) (by decide) lkX10_173 hA1.1 rfl dX10_close_30 ?_
    refine pw_if_le (tgt := 38) dX10_close_33 rfl (by omega) (fun c33 => ?_) (fun c33 => ?_)
    · exfalso; omega
    ·
      refine pw_iconst (v := zI (0)) dX10_close_36 (by decide) ?_
      exact pw_iret dX10_close_37 rfl (nle rfl) (nle rfl) ⟨rfl, (mV 0 (1) s), hA1, rH_0 hH, ⟨rfl, rfl, rfl⟩, hF1, rfl⟩
set_option maxHeartbeats 1000000 in
set_option maxRecDepth 100000 in
/-- close(p), the last pane -/
theorem nJ_close2 {E : pw_E} (htr : E.1.stackTraces = false) {h : pz_H} {n : Nat} {B : Nat} {s : mS} (hA : mAt B s h) {p : Int}  {W H M : Int} {t : aT} (hW : 8 ≤ W ∧ W ≤ 40) (hHH : 4 ≤ H ∧ H ≤ 16) (hM : M ≤ 800000000) (hH : rH W H M t s) (h_p : -2147483648 ≤ p ∧ p < 2147483648) (hin : pIn t p) (hone : ¬ tp t = none) : pw_M E yX10_close YX10_close (rmD 4 0 0) [.ref B, .int (zI (p))] h n (fun r0 h' n' => r0 = some (.int (zI 0)) ∧ rD W H M t B 2 (s.1 47) (s.1 48) h h' n n') (fun _ _ _ => False) := by
  obtain ⟨hG, hI, ⟨⟨v1, v2⟩, ⟨v47, m47⟩, v48, v49, v53, v54, v55, v56, v57⟩, hM0, h45⟩ := id hH
  have hu := rI_us hI
  have hn1 := (rI_no hI).mpr hin
  have hct := rI_ct hG hI
  have hcs := mCt_s hu
  have u0 := hu 0 (by decide)
  have u1 := hu 1 (by decide)
  have u2 := hu 2 (by decide)
  have u3 := hu 3 (by decide)
  have u4 := hu 4 (by decide)
  have u5 := hu 5 (by decide)
  have u6 := hu 6 (by decide)
  have u7 := hu 7 (by decide)
  have hc2 : ¬ 1 < mCt (s.2 16) 8 0 0 := fun z => hone (hct.mp z)
  refine pw_M_of (lv := [some (.ref B), some (.int (zI (p)))]) (by decide) rfl rfl htr (nle rfl) rfl (fun L => ?_)
  refine pw_aload_n dX10_close_0 rfl ?_
  refine pw_aload_n dX10_close_1 rfl ?_
  refine pw_iload_n dX10_close_2 rfl ?_
  refine pw_callV (As := [.int (zI (p))]) (b := B) (rm := rmD 0 0 0) (nR_noPane htr hA hu (by omega)) rfl hA.1 rfl rfl ywX10_noPane rfl cwX10_213 ⟨nle rfl, nle rfl⟩ (nle rfl) ⟨nle rfl, nle rfl⟩ dX10_close_3 ?_ (fun _ _ _ z => z.elim)
  intro r_9 h_9 n_9 hq _
  rw [hq.1, hq.2.1, hq.2.2]
  show pw E YX10_close _ _ 0 0 6 [some (.ref B), some (.int (zI (p)))] [.int (zI (mNo s (p))), .ref B] h n
  refine pw_if_eq (tgt := 13) dX10_close_6 rfl (by omega) (fun c6 => ?_) (fun c6 => ?_)
  ·
    refine pw_aload_n dX10_close_13 rfl ?_
    refine pw_callV (As := []) (b := B) (rm := rmD 0 0 0) (nR_panes htr hA hu) rfl hA.1 rfl rfl ywX10_panes rfl cwX10_225 ⟨nle rfl, nle rfl⟩ (nle rfl) ⟨nle rfl, nle rfl⟩ dX10_close_14 ?_ (fun _ _ _ z => z.elim)
    intro r_9 h_9 n_9 hq _
    rw [hq.1, hq.2.1, hq.2.2]
    show pw E YX10_close _ _ 0 0 17 [some (.ref B), some (.int (zI (p)))] [.int (zI (mCt (s.2 16) 8 0 0)), .ref B] h n
    refine pw_iconst (v := zI (1)) dX10_close_17 (by decide) ?_
    refine pw_icmp_le (tgt := 25) dX10_close_18 rfl (by omega) (by omega) (fun c18 => ?_) (fun c18 => ?_)
    ·
      refine pw_iconst (v := zI (2)) dX10_close_25 (by decide) ?_
      refine pw_put (fs' := (moL B (va_up s.1 0 (2)))) okX10 (k := 0) (by decide) lkX10_173 rfl rfl rfl hA.1 (nlt rfl) rfl dX10_close_26 ?_
      have hA1 : mAt B (mV 0 (2) s) (va_up h B (pz_o 13 (moL B (va_up s.1 0 (2))))) := mAt_V hA
      have hF1 : mFr B h (va_up h B (pz_o 13 (moL B (va_up s.1 0 (2))))) := mFr_tr mFr_rf (mFr_up (k := 0) (by decide))
      revert hA1 hF1
      generalize (va_up h B (pz_o 13 (moL B (va_up s.1 0 (2))))) = h1
      intro hA1 hF1
      refine pw_aload_n dX10_close_29 rfl ?_
      refine pw_get (v := .int (zI (2))) okX10 (k := 0) (by decide) lkX10_173 hA1.1 rfl dX10_close_30 ?_
      refine pw_if_le (tgt := 38) dX10_close_33 rfl (by omega) (fun c33 => ?_) (fun c33 => ?_)
      · exfalso; omega
      ·
        refine pw_iconst (v := zI (0)) dX10_close_36 (by decide) ?_
        exact pw_iret dX10_close_37 rfl (nle rfl) (nle rfl) ⟨rfl, (mV 0 (2) s), hA1, rH_0 hH, ⟨rfl, rfl, rfl⟩, hF1, rfl⟩
    · exfalso; omega
  · exfalso; omega
set_option maxHeartbeats 1000000 in
set_option maxRecDepth 100000 in
/-- close(p) -/
theorem nJ_close3 {E : pw_E} (htr : E.1.stackTraces = false) {h : pz_H} {n : Nat} {B : Nat} {s : mS} (hA : mAt B s h)  {W H M : Int} {t : aT} (hW : 8 ≤ W ∧ W ≤ 40) (hHH : 4 ≤ H ∧ H ≤ 16) (hM : M ≤ 800000000) (hH : rH W H M t s) {u v z : aT} {p r : Nat} (hu2 : aIn u 8 t) (e : tp u = none) (hs : aSib u v z) (hp : tp v = some p) (hr8 : r < 8) (hr0 : ∀ i, i < r → va_up (s.2 16) p 0 i = 0) (hr1 : va_up (s.2 16) p 0 r = 1) : pw_M E yX10_close YX10_close (rmD 4 0 0) [.ref B, .int (zI ((p : Int)))] h n (fun r0 h' n' => r0 = some (.int (zI (if s.1 47 = (p : Int) then (r : Int) else s.1 47))) ∧ rD W H M (aRep (tc u) (aUpT 8 u z) 8 t) B 0 (if s.1 47 = (p : Int) then (r : Int) else s.1 47) (s.1 48) h h' n n') (fun _ _ _ => False) := by
  obtain ⟨hG, hI, ⟨⟨v1, v2⟩, ⟨v47, m47⟩, v48, v49, v53, v54, v55, v56, v57⟩, hM0, h45⟩ := id hH
  have hu := rI_us hI
  have hvv : aIn v 8 t := by
    obtain ⟨il, ir⟩ := aIn_lr 8 t W H hG.1 hu2 e
    rcases hs with ⟨h2, -⟩ | ⟨h2, -⟩
    · exact h2 ▸ il
    · exact h2 ▸ ir
  have p8 : p < 8 := hG.2.2.2.2 p (aIn_p hG.1 hvv hp)
  have hpin : pIn t (p : Int) := ⟨by omega, by rw [Int.toNat_natCast]; exact aIn_p hG.1 hvv hp⟩
  have hn1 := (rI_no hI).mpr hpin
  have htn : tp t = none := by
    cases e2 : tp t with
    | none => rfl
    | some p2 =>
      have en : ¬ tp t = none := by rw [e2]; exact fun y => by cases y
      rcases hu2 with y | ⟨y, -⟩
      · rw [y] at e; exact absurd e en
      · exact absurd y en
  have hct := rI_ct hG hI
  have hcs := mCt_s hu
  have u0 := hu 0 (by decide)
  have u1 := hu 1 (by decide)
  have u2 := hu 2 (by decide)
  have u3 := hu 3 (by decide)
  have u4 := hu 4 (by decide)
  have u5 := hu 5 (by decide)
  have u6 := hu 6 (by decide)
  have u7 := hu 7 (by decide)
  have hc2 := hct.mpr htn
  refine pw_M_of (lv := [some (.ref B), some (.int (zI ((p : Int))))]) (by decide) rfl rfl htr (nle rfl) rfl (fun L => ?_)
  refine pw_aload_n dX10_close_0 rfl ?_
  refine pw_aload_n dX10_close_1 rfl ?_
  refine pw_iload_n dX10_close_2 rfl ?_
  refine pw_callV (As := [.int (zI ((p : Int)))]) (b := B) (rm := rmD 0 0 0) (nR_noPane htr hA hu (by omega)) rfl hA.1 rfl rfl ywX10_noPane rfl cwX10_213 ⟨nle rfl, nle rfl⟩ (nle rfl) ⟨nle rfl, nle rfl⟩ dX10_close_3 ?_ (fun _ _ _ z => z.elim)
  intro r_9 h_9 n_9 hq _
  rw [hq.1, hq.2.1, hq.2.2]
  show pw E YX10_close _ _ 0 0 6 [some (.ref B), some (.int (zI ((p : Int))))] [.int (zI (mNo s ((p : Int)))), .ref B] h n
  refine pw_if_eq (tgt := 13) dX10_close_6 rfl (by omega) (fun c6 => ?_) (fun c6 => ?_)
  ·
    refine pw_aload_n dX10_close_13 rfl ?_
    refine pw_callV (As := []) (b := B) (rm := rmD 0 0 0) (nR_panes htr hA hu) rfl hA.1 rfl rfl ywX10_panes rfl cwX10_225 ⟨nle rfl, nle rfl⟩ (nle rfl) ⟨nle rfl, nle rfl⟩ dX10_close_14 ?_ (fun _ _ _ z => z.elim)
    intro r_9 h_9 n_9 hq _
    rw [hq.1, hq.2.1, hq.2.2]
    show pw E YX10_close _ _ 0 0 17 [some (.ref B), some (.int (zI ((p : Int))))] [.int (zI (mCt (s.2 16) 8 0 0)), .ref B] h n
    refine pw_iconst (v := zI (1)) dX10_close_17 (by decide) ?_
    refine pw_icmp_le (tgt := 25) dX10_close_18 rfl (by omega) (by omega) (fun c18 => ?_) (fun c18 => ?_)
    · exfalso; omega
    ·
      refine pw_iconst (v := zI (0)) dX10_close_21 (by decide) ?_
      refine pw_goto (tgt := 26) dX10_close_22 rfl ?_
      refine pw_put (fs' := (moL B (va_up s.1 0 (0)))) okX10 (k := 0) (by decide) lkX10_173 rfl rfl rfl hA.1 (nlt rfl) rfl dX10_close_26 ?_
      have hA1 : mAt B (mV 0 (0) s) (va_up h B (pz_o 13 (moL B (va_up s.1 0 (0))))) := mAt_V hA
      have hF1 : mFr B h (va_up h B (pz_o 13 (moL B (va_up s.1 0 (0))))) := mFr_tr mFr_rf (mFr_up (k := 0) (by decide))
      revert hA1 hF1
      generalize (va_up h B (pz_o 13 (moL B (va_up s.1 0 (0))))) = h1
      intro hA1 hF1
      refine pw_aload_n dX10_close_29 rfl ?_
      refine pw_get (v := .int (zI (0))) okX10 (k := 0) (by decide) lkX10_173 hA1.1 rfl dX10_close_30 ?_
      refine pw_if_le (tgt := 38) dX10_close_33 rfl (by omega) (fun c33 => ?_) (fun c33 => ?_)
      ·
        refine pw_aload_n dX10_close_38 rfl ?_
        refine pw_iload_n dX10_close_39 rfl ?_
        refine pw_callV (As := [.int (zI ((p : Int)))]) (b := B) (rm := rmD 3 0 0) (nG_closeNow (r := r) htr hA1 hW hHH (rH_0 hH) hu2 e hs hp hr8 hr0 hr1) rfl hA1.1 rfl rfl ywX10_closeNow rfl cwX10_228 ⟨nle rfl, nle rfl⟩ (nle rfl) ⟨nle rfl, nle rfl⟩ dX10_close_40 ?_ (fun _ _ _ z => z.elim)
        intro r_9 h9 n_9 hq9 _
        obtain ⟨e1_, s9, hA9, hH9, hv9, hF90, e4_⟩ := hq9
        rw [e1_, e4_]
        show pw E YX10_close _ _ 0 0 43 [some (.ref B), some (.int (zI ((p : Int))))] [] h9 n
        clear e1_ e4_
        have hF9 := mFr_tr hF1 hF90
        refine pw_aload_n dX10_close_43 rfl ?_
        refine pw_get (v := .int (zI (s9.1 47))) okX10 (k := 47) (by decide) lkX10_207 hA9.1 rfl dX10_close_44 ?_
        exact pw_iret dX10_close_47 rfl (nle rfl) (nle rfl) ⟨(show some (Value.int (zI (s9.1 47))) = some (Value.int (zI (if s.1 47 = (p : Int) then (r : Int) else s.1 47))) from congrArg (fun z => some (Value.int (zI z))) hv9.2.1), s9, hA9, hH9, hv9, hF9, rfl⟩
      · exfalso; omega
  · exfalso; omega
