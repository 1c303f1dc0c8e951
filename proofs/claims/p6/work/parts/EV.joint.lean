/-! ===== class and reference side by side ===== -/
theorem mAt_kp {B : Nat} {s : mS} {h h' : pz_H} (hA : mAt B s h) (e : ∀ a, B ≤ a → a < B + 50 → h' a = h a) : mAt B s h' :=
  ⟨(e B (by omega) (by omega)).trans hA.1, fun q hq => (e _ (by omega) (by have := mTb_3 q hq; omega)).trans (hA.2 q hq)⟩
def jJ (W H M : Int) (N NH NB NL n : Nat) (t : aT) (h : pz_H) : Prop := ∃ (x : hS) (s : mS) (f : Nat → Int64), cH W H M N NH NB NL n t (s.1 47) (s.1 48) x h ∧ mAt 115 s h ∧ rH W H M t s ∧ h 165 = pz_j 2 1 f
/-- behind the class's method and the reference's -/
theorem jJ_of {W H M M' : Int} {N NH NB NL n : Nat} {t : aT} {fo pr : Int} {x : hS} {s : mS} {h h' : pz_H} {g : Nat → Int64} (hC : cH W H M N NH NB NL n t fo pr x h) (ho : h 165 = pz_j 2 1 g) (hA : mAt 115 s h') (hH : rH W H M t s) (e1 : s.1 47 = fo) (e2 : s.1 48 = pr) (hF : mFr 115 h h') (hM : M ≤ M') : jJ W H M' N NH NB NL n t h' := by
  refine ⟨x, s, g, ?_, hA, rH_mo hH hM, (hF 165 (by omega)).trans ho⟩
  rw [e1, e2]
  exact cH_mo (cH_kp hC (fun a ha => hF a (by omega))) hM (Nat.le_refl n)
theorem fg_ex {W H : Int} {t : aT} {s : mS} (hG : aG 8 t W H) (hI : rI t s) : ∃ f g, ((∃ q, q < 8 ∧ q ∉ aX fp 8 t) → frN s f g) ∧ f ∉ aX fm 8 t ∧ g ∉ aX fm 8 t ∧ f ≠ g := by
  by_cases e : ∃ q, q < 8 ∧ q ∉ aX fp 8 t
  · obtain ⟨q, q8, hq⟩ := e
    obtain ⟨f, g, h1, h2, h3⟩ := rI_free hG hI q8 hq
    exact ⟨f, g, fun _ => h1, h2, h3, h1.2.2⟩
  · have lt : ∀ i, i ∈ aX fm 8 t → i < 16 := fun i hi => by
      obtain ⟨v, hv, ev⟩ := aM_in 8 t hi
      have := (rI_in hG hI hv).1.1
      omega
    exact ⟨16, 17, fun z => absurd z e, fun z => by have := lt 16 z; omega, fun z => by have := lt 17 z; omega, by decide⟩
/-- the one pane -/
def t0 (W H : Int) : aT := aLf (109, 0, some 0, 0, 0, W, H)
theorem t0_p {W H : Int} : aX fp 8 (t0 W H) = [0] := rfl
theorem t0_m {W H : Int} : aX fm 8 (t0 W H) = [0] := rfl
theorem t0_c {W H : Int} : aX fc 8 (t0 W H) = [109] := rfl
theorem t0_G {W H : Int} (hW : 8 ≤ W ∧ W ≤ 40) (hH : 4 ≤ H ∧ H ≤ 16) : aG 8 (t0 W H) W H := by
  refine ⟨aLf_ok (p := 0) (by decide) rfl (by omega) (by omega) rfl rfl, ?_, ?_, ?_, ?_⟩
  · rw [t0_c]; simp
  · rw [t0_m]; simp
  · rw [t0_p]; simp
  · rw [t0_p]; intro p hp; have := List.mem_singleton.mp hp; omega
theorem t0_cH {W H : Int} {N NH NB NL n : Nat} {h : pz_H} (hW : 8 ≤ W ∧ W ≤ 40) (hH : 4 ≤ H ∧ H ≤ 16) (hA : hAt W H N NH NB NL 0 (hNew W H N 0) h) : cH W H 0 N NH NB NL n (t0 W H) 0 0 (hNew W H N 0) h := by
  have hly := hS0_ly (N := N) (B := 0) hW hH
  refine ⟨hA, nw_hGd hW hH, ⟨⟨⟨rfl, rfl, rfl, rfl, rfl⟩, fun _ => ⟨rfl, rfl⟩, fun e => by cases e⟩, rfl, fun b hb => ?_, fun v hv p hp => ?_, fun p hp => ?_⟩, ⟨hly.1, hly.2.2.1, hly.2.2.2.1⟩, ⟨rfl, rfl⟩, fun b hb => Or.inl ?_⟩
  · rw [t0_c] at hb
    rw [List.mem_singleton.mp hb]
    rfl
  · rcases hv with y | ⟨y, -⟩
    · subst y
      have hp2 : (0 : Nat) = p := Option.some.inj hp
      subst hp2
      rfl
    · cases y
  · rw [t0_p]
    by_cases e : p = 0
    · rw [e]; exact List.mem_cons_self
    · exact absurd (nw_lv e) hp
  · have z2 : b = 0 + 109 := of_decide_eq_true hb
    omega
theorem t0_rH {W H : Int} {s : mS} (hW : 8 ≤ W ∧ W ≤ 40) (hH : 4 ≤ H ∧ H ≤ 16) (hn : mN W H s) : rH W H 0 (t0 W H) s ∧ s.1 47 = 0 ∧ s.1 48 = 0 := by
  refine ⟨⟨t0_G hW hH, ⟨⟨⟨by show 0 < 16; decide, mN_7 hn⟩, fun p hp => ?_, fun e => by cases e⟩, ⟨⟨mN_10 hn, mN_11 hn, mN_12 hn, mN_13 hn⟩, fun p hp => ?_, fun e => by cases e⟩, fun i hi => ?_, fun p hp => ?_, fun p hp => ?_, fun p hp => ?_⟩, ⟨⟨mNv_1 hn, mNv_2 hn⟩, ⟨by rw [mNv_47 hn]; omega, by rw [mNv_47 hn, t0_p]; exact List.mem_cons_self⟩, by rw [mNv_48 hn]; omega, by rw [mNv_49 hn]; omega, by rw [mNv_53 hn]; omega, by rw [mNv_54 hn]; omega, by rw [mNv_55 hn]; omega, by rw [mNv_56 hn]; omega, by rw [mNv_57 hn]; omega⟩, by omega, fun p hp => ?_⟩, mNv_47 hn, mNv_48 hn⟩
  · have hp2 : (0 : Nat) = p := Option.some.inj hp
    subst hp2
    exact ⟨by decide, mN_4 hn, mN_17 hn⟩
  · have hp2 : (0 : Nat) = p := Option.some.inj hp
    subst hp2
    exact ⟨mN_18 hn, mN_19 hn⟩
  · rw [t0_m]
    by_cases e : i = 0
    · rw [e, mN_3 hn, if_pos List.mem_cons_self]
    · rw [mZ_3 hn (by omega), if_neg (fun z => e (List.mem_singleton.mp z))]
  · rw [t0_p]
    by_cases e : p = 0
    · rw [e, mN_16 hn, if_pos List.mem_cons_self]
    · rw [mZ_16 hn (by omega), if_neg (fun z => e (List.mem_singleton.mp z))]
  · rw [t0_p] at hp
    rw [List.mem_singleton.mp hp]
    exact mN_pk hn hW hH
  · by_cases e : p = 0
    · rw [e]; exact mPu_pk (mN_pk hn hW hH)
    · have hp0 : 0 < p := by omega
      unfold mPu
      rw [mZ_22 hn hp0, mZ_31 hn hp0, mZ_32 hn hp0, mZ_33 hn hp0, mZ_34 hn hp0, mZ_35 hn hp0, mZ_37 hn hp0, mZ_38 hn hp0, mZ_39 hn hp0, mZ_42 hn hp0]
      exact ⟨by omega, by omega, by omega, by omega, by omega, by omega, fun j hj => by rw [mZ_36 hn (by omega)]; omega, by omega, by omega, by omega, by omega⟩
  · by_cases e : p = 0
    · rw [e, mN_45 hn]; omega
    · rw [mZ_45 hn (by omega)]; omega
/-- what a method answers, as an int of its own -/
theorem bR {r0 : Option Value} {T R : Int} (h1 : ∃ v, r0 = some (.int (zI v))) (h2 : T = 0 → r0 = some (.int (zI R))) (hR : T = 0 → (-2147483648 ≤ R ∧ R < 2147483648)) : ∃ w, (-2147483648 ≤ w ∧ w < 2147483648) ∧ r0 = some (.int (zI w)) ∧ (T = 0 → w = R) := by
  obtain ⟨v, hv⟩ := h1
  obtain ⟨w, hw, e⟩ := zI_ex v
  refine ⟨w, hw, by rw [hv, e], fun z => ?_⟩
  have h3 := h2 z
  rw [hv, e] at h3
  have h4 : zI w = zI R := by injection h3 with h3; injection h3
  exact (zI_eq hw (hR z)).mp h4
theorem jFd_T {t : aT} {p k T : Int} (h : jFd t p k T) : 0 ≤ T ∧ T ≤ 2 := by
  rcases h with ⟨-, -, h⟩ | ⟨-, h⟩ | ⟨-, -, h⟩ <;> omega
theorem jFoc_T {t : aT} {p fo T fo' : Int} (h : jFoc t p fo T fo') : 0 ≤ T ∧ T ≤ 2 := by
  rcases h with ⟨-, h, -⟩ | ⟨-, h, -⟩ <;> omega
theorem jSp_T {t t' : aT} {n f g : Nat} {p dn fo T fo' R : Int} (h : jSp t n f g p dn fo T t' fo' R) : (0 ≤ T ∧ T ≤ 2) ∧ (T = 0 → (-2147483648 ≤ R ∧ R < 2147483648)) := by
  rcases h with ⟨-, h, -⟩ | ⟨-, -, h, -⟩ | ⟨h, v, q, hj, -, hR⟩
  · exact ⟨by omega, fun z => by omega⟩
  · exact ⟨by omega, fun z => by omega⟩
  · have := hj.2.2.2.1.1
    exact ⟨by omega, fun z => by omega⟩
theorem jCl_T {t t' : aT} {p fo T fo' R : Int} (hf : 0 ≤ fo ∧ fo < 8) (h : jCl t p fo T t' fo' R) : (0 ≤ T ∧ T ≤ 2) ∧ (T = 0 → (-2147483648 ≤ R ∧ R < 2147483648)) := by
  rcases h with ⟨-, h, -⟩ | ⟨-, -, h, -⟩ | ⟨h, u, v, z, r, hj, hf', hR⟩
  · exact ⟨by omega, fun z => by omega⟩
  · exact ⟨by omega, fun z => by omega⟩
  · have := hj.2.2.2.2.2.2.1
    refine ⟨by omega, fun z => ?_⟩
    rw [hR, hf']
    split <;> omega
theorem jKy_T {t t' : aT} {n f g : Nat} {fo pr k T fo' pr' R : Int} (h : jKy t n f g fo pr k T t' fo' pr' R) (hf : 0 ≤ fo' ∧ fo' < 8) : (0 ≤ T ∧ T ≤ 2) ∧ (T = 0 → (-2147483648 ≤ R ∧ R < 2147483648)) := by
  rcases h with ⟨-, h, -⟩ | ⟨-, h, hR, -⟩
  · exact ⟨by omega, fun z => by omega⟩
  · exact ⟨by omega, fun z => by omega⟩
theorem cH_fo {W H M : Int} {N NH NB NL n : Nat} {t : aT} {fo pr : Int} {x : hS} {h : pz_H} (hC : cH W H M N NH NB NL n t fo pr x h) : 0 ≤ fo ∧ fo < 8 := by
  have := hC.2.1.2.2.2.1
  rw [hC.2.2.2.2.1.1] at this
  exact this
theorem cH_nc {W H M : Int} {N NH NB NL n : Nat} {t : aT} {fo pr : Int} {x : hS} {h : pz_H} (hC : cH W H M N NH NB NL n t fo pr x h) (hn : 166 ≤ n) : ∀ b, b ∈ aX fc 8 t → b < n := fun b hb => by
  have := hC.2.2.2.2.2 b (hC.2.2.1.2.2.1 b hb)
  omega
