theorem lkX10_210 : Cond.fieldLink RX10 210 (TX10 14).1 (TX10 14).2.1 (TX10 14).2.2.1 ∈ pw_G := pw_in 1344 (by decide +kernel) (by decide +kernel)
theorem rT_of2 {s s' : mS} : ∀ (k : Nat) (t : aT), rT s k t → (∀ i, i ∈ aX fm k t → s'.2 4 i = s.2 4 i ∧ s'.2 5 i = s.2 5 i ∧ s'.2 6 i = s.2 6 i ∧ s'.2 8 i = s.2 8 i ∧ s'.2 9 i = s.2 9 i ∧ s'.2 12 i = s.2 12 i ∧ s'.2 13 i = s.2 13 i) → rT s' k t
  | 0, _, z, _ => z.elim
  | k + 1, t, z, e => by
    obtain ⟨e4, e5, e6, e8, e9, e12, e13⟩ := e (tm t) (aX_m (by omega))
    refine ⟨z.1, by rw [e4]; exact z.2.1, fun en => ?_⟩
    obtain ⟨a, b, c⟩ := z.2.2 en
    rw [aX_lm en] at e
    rw [e4, e5, e6, e8, e9, e12, e13]
    exact ⟨a, rT_of2 k _ b (fun i hi => e i (List.mem_cons_of_mem _ (List.mem_append_left _ hi))), rT_of2 k _ c (fun i hi => e i (List.mem_cons_of_mem _ (List.mem_append_right _ hi)))⟩
/-- what closeNow writes before lay -/
def clS (z up sp : Int) (s : mS) : mS := if up = -1 then mV 14 z (mA 7 (va_up (s.2 7) z.toNat up) s) else if s.2 5 up.toNat = sp then mA 5 (va_up (s.2 5) up.toNat z) (mA 7 (va_up (s.2 7) z.toNat up) s) else mA 6 (va_up (s.2 6) up.toNat z) (mA 7 (va_up (s.2 7) z.toNat up) s)
def clE (p m sp : Int) (s : mS) : mS := (mA 16 (va_up (s.2 16) (p).toNat (0)) (mA 3 (va_up (va_up (s.2 3) (m).toNat (0)) (sp).toNat (0)) (mA 3 (va_up (s.2 3) (m).toNat (0)) s)))
set_option maxHeartbeats 1000000 in
set_option maxRecDepth 100000 in
/-- closeNow(p), on a tree -/
theorem nR_closeNow {E : pw_E} (htr : E.1.stackTraces = false) {h : pz_H} {n : Nat} {B : Nat} {s : mS} (hA : mAt B s h) {p : Int}  {fs ss : Int} {k : Nat} {Z : aT} {m sp z up r x y ww hh : Int} (hp : 0 ≤ p ∧ p < 8) (hm : 0 ≤ m ∧ m < 16) (hsp : 0 ≤ sp ∧ sp < 16) (hz : 0 ≤ z ∧ z < 16) (ez : z = (tm Z : Int)) (okZ : aOk k Z (tw Z) (th Z)) (ndm : (aX fm k Z).Nodup) (ndp : (aX fp k Z).Nodup) (hT : rT s k Z) (hpk : ∀ p1, p1 ∈ aX fp k Z → mPk s p1) (hk15 : k ≤ 15) (hzw : tw Z ≤ ww) (hww : 1 ≤ ww ∧ ww ≤ 40) (hzh : th Z ≤ hh) (hhh : 1 ≤ hh ∧ hh ≤ 16) (e10 : s.2 10 sp.toNat = x) (e11 : s.2 11 sp.toNat = y) (e12 : s.2 12 sp.toNat = ww) (e13 : s.2 13 sp.toNat = hh) (h47 : 0 ≤ s.1 47 ∧ s.1 47 < 8) (hr : 0 ≤ r ∧ r < 8) (h0 : ∀ i, i < r.toNat → va_up (s.2 16) p.toNat 0 i = 0) (h1r : va_up (s.2 16) p.toNat 0 r.toNat = 1) (e17 : s.2 17 p.toNat = m) (e7m : s.2 7 m.toNat = sp) (e5s : s.2 5 sp.toNat = fs) (e6s : s.2 6 sp.toNat = ss) (e7s : s.2 7 sp.toNat = up) (hfs : 0 ≤ fs ∧ fs < 16) (hss : 0 ≤ ss ∧ ss < 16) (hzz : (fs = m ∧ ss = z) ∨ (¬ fs = m ∧ fs = z)) (hup : up = -1 ∨ ((0 ≤ up ∧ up < 16) ∧ up.toNat ∉ aX fm k Z)) (h5u : up = -1 ∨ (0 ≤ s.2 5 up.toNat ∧ s.2 5 up.toNat < 16)) : pw_M E yX10_closeNow YX10_closeNow (rmD 3 0 0) [.ref B, .int (zI (p))] h n (fun r0 h' n' => r0 = none ∧ ∃ s3, mAt B (mV 47 (if s.1 47 = p then r else s.1 47) s3) h' ∧ lyF (aX fm k Z) (aX fp k Z) 0 (clE p m sp (clS z up sp s)) s3 ∧ rA s3 k (aPl k Z (tw Z) (th Z) ww hh) x y ∧ (∀ p1, p1 ∈ aX fp k Z → mPk s3 p1) ∧ mFr B h h' ∧ n' = n) (fun _ _ _ => False) := by
  refine pw_M_of (lv := [some (.ref B), some (.int (zI (p))), none, none, none, none]) (by decide) rfl rfl htr (nle rfl) rfl (fun L => ?_)
  refine pw_aload_n dX10_closeNow_0 rfl ?_
  refine pw_get (v := .ref (B + 14)) okX10 (k := 17) (by decide) lkX10_50 hA.1 rfl dX10_closeNow_1 ?_
  refine pw_iload_n dX10_closeNow_4 rfl ?_
  refine pw_ialdv (v := m) (t := 0) rfl (mF17 (s := s) hA) (by omega) (by decide) (e17) dX10_closeNow_5 ?_
  refine pw_istore_n (lv' := [some (.ref B), some (.int (zI (p))), some (.int (zI (m))), none, none, none]) dX10_closeNow_6 (by decide) rfl rfl ?_
  refine pw_aload_n dX10_closeNow_7 rfl ?_
  refine pw_get (v := .ref (B + 5)) okX10 (k := 7) (by decide) lkX10_23 hA.1 rfl dX10_closeNow_8 ?_
  refine pw_iload_n dX10_closeNow_11 rfl ?_
  refine pw_ialdv (v := sp) (t := 0) rfl (mF7 (s := s) hA) (by omega) (by decide) (e7m) dX10_closeNow_12 ?_
  refine pw_istore_n (lv' := [some (.ref B), some (.int (zI (p))), some (.int (zI (m))), some (.int (zI (sp))), none, none]) dX10_closeNow_13 (by decide) rfl rfl ?_
  refine pw_aload_n dX10_closeNow_14 rfl ?_
  refine pw_get (v := .ref (B + 3)) okX10 (k := 5) (by decide) lkX10_17 hA.1 rfl dX10_closeNow_15 ?_
  refine pw_iload_n dX10_closeNow_18 rfl ?_
  refine pw_ialdv (v := fs) (t := 0) rfl (mF5 (s := s) hA) (by omega) (by decide) (e5s) dX10_closeNow_19 ?_
  refine pw_iload_n dX10_closeNow_20 rfl ?_
  refine pw_icmp_ne (tgt := 33) dX10_closeNow_21 rfl (by omega) (by omega) (fun c21 => ?_) (fun c21 => ?_)
  ·
    refine pw_aload_n dX10_closeNow_33 rfl ?_
    refine pw_get (v := .ref (B + 3)) okX10 (k := 5) (by decide) lkX10_17 hA.1 rfl dX10_closeNow_34 ?_
    refine pw_iload_n dX10_closeNow_37 rfl ?_
    refine pw_ialdv (v := fs) (t := 0) rfl (mF5 (s := s) hA) (by omega) (by decide) (e5s) dX10_closeNow_38 ?_
    refine pw_istore (lv' := [some (.ref B), some (.int (zI (p))), some (.int (zI (m))), some (.int (zI (sp))), some (.int (zI (fs))), none]) dX10_closeNow_39 (by decide) rfl rfl ?_
    have ezz : fs = z := by omega
    rw [ezz]
    refine pw_aload_n dX10_closeNow_41 rfl ?_
    refine pw_get (v := .ref (B + 5)) okX10 (k := 7) (by decide) lkX10_23 hA.1 rfl dX10_closeNow_42 ?_
    refine pw_iload_n dX10_closeNow_45 rfl ?_
    refine pw_ialdv (v := up) (t := 0) rfl (mF7 (s := s) hA) (by omega) (by decide) (e7s) dX10_closeNow_46 ?_
    refine pw_istore (lv' := [some (.ref B), some (.int (zI (p))), some (.int (zI (m))), some (.int (zI (sp))), some (.int (zI (z))), some (.int (zI (up)))]) dX10_closeNow_47 (by decide) rfl rfl ?_
    refine pw_aload_n dX10_closeNow_49 rfl ?_
    refine pw_get (v := .ref (B + 5)) okX10 (k := 7) (by decide) lkX10_23 hA.1 rfl dX10_closeNow_50 ?_
    refine pw_iload dX10_closeNow_53 rfl ?_
    refine pw_iload dX10_closeNow_55 rfl ?_
    refine pw_iast (g := (s.2 7)) (t := 0) rfl (mF7 (s := s) hA) (by omega) (by decide) dX10_closeNow_57 ?_
    have hA1 : mAt B (mA 7 (va_up (s.2 7) (z).toNat (up)) s) (va_up h (B + 5) (pz_z 0 16 (va_up (s.2 7) (z).toNat (up)))) := mU7 hA
    have hF1 : mFr B h (va_up h (B + 5) (pz_z 0 16 (va_up (s.2 7) (z).toNat (up)))) := mFr_tr mFr_rf (mFr_up (by decide))
    revert hA1 hF1
    generalize (va_up h (B + 5) (pz_z 0 16 (va_up (s.2 7) (z).toNat (up)))) = h1
    intro hA1 hF1
    refine pw_iload dX10_closeNow_58 rfl ?_
    refine pw_iconst (v := zI (-1)) dX10_closeNow_60 (by decide) ?_
    refine pw_icmp_ne (tgt := 73) dX10_closeNow_61 rfl (by omega) (by omega) (fun c61 => ?_) (fun c61 => ?_)
    ·
      refine pw_aload_n dX10_closeNow_73 rfl ?_
      refine pw_get (v := .ref (B + 3)) okX10 (k := 5) (by decide) lkX10_17 hA1.1 rfl dX10_closeNow_74 ?_
      refine pw_iload dX10_closeNow_77 rfl ?_
      refine pw_iald (g := (s.2 5)) (t := 0) rfl (mF5 (s := (mA 7 (va_up (s.2 7) (z).toNat (up)) s)) hA1) (by omega) (by decide) dX10_closeNow_79 ?_
      refine pw_iload_n dX10_closeNow_80 rfl ?_
      refine pw_icmp_ne (tgt := 96) dX10_closeNow_81 rfl (by omega) (by omega) (fun c81 => ?_) (fun c81 => ?_)
      ·
        refine pw_aload_n dX10_closeNow_96 rfl ?_
        refine pw_get (v := .ref (B + 4)) okX10 (k := 6) (by decide) lkX10_20 hA1.1 rfl dX10_closeNow_97 ?_
        refine pw_iload dX10_closeNow_100 rfl ?_
        refine pw_iload dX10_closeNow_102 rfl ?_
        refine pw_iast (g := (s.2 6)) (t := 0) rfl (mF6 (s := (mA 7 (va_up (s.2 7) (z).toNat (up)) s)) hA1) (by omega) (by decide) dX10_closeNow_104 ?_
        have hA2 : mAt B (mA 6 (va_up (s.2 6) (up).toNat (z)) (mA 7 (va_up (s.2 7) (z).toNat (up)) s)) (va_up h1 (B + 4) (pz_z 0 16 (va_up (s.2 6) (up).toNat (z)))) := mU6 hA1
        have hF2 : mFr B h (va_up h1 (B + 4) (pz_z 0 16 (va_up (s.2 6) (up).toNat (z)))) := mFr_tr hF1 (mFr_up (by decide))
        revert hA2 hF2
        generalize (va_up h1 (B + 4) (pz_z 0 16 (va_up (s.2 6) (up).toNat (z)))) = h2
        intro hA2 hF2
        have eS : clS z up sp s = (mA 6 (va_up (s.2 6) (up).toNat (z)) (mA 7 (va_up (s.2 7) (z).toNat (up)) s)) := by unfold clS; rw [if_neg (by omega), if_neg (by omega)]
        exact lN_cl (s := (mA 6 (va_up (s.2 6) (up).toNat (z)) (mA 7 (va_up (s.2 7) (z).toNat (up)) s))) htr hA2 hF2 hp hm hsp hz ez okZ ndm ndp (rT_of2 (s := s) (s' := (mA 6 (va_up (s.2 6) (up).toNat (z)) (mA 7 (va_up (s.2 7) (z).toNat (up)) s))) k Z hT (fun i hi => ⟨rfl, rfl, va_up_ne _ _ (fun y => (hup.resolve_left (by omega)).2 (y ▸ hi)), rfl, rfl, rfl, rfl⟩)) (fun p1 hp1 => hpk p1 hp1) hk15 hzw hww hzh hhh e10 e11 e12 e13 h47 hr h0 h1r (fun s3 h' q1 q2 q3 q4 q5 => by exact ⟨rfl, s3, q1, by rw [eS]; exact q3, q4, q5, q2, rfl⟩)
      ·
        refine pw_aload_n dX10_closeNow_84 rfl ?_
        refine pw_get (v := .ref (B + 3)) okX10 (k := 5) (by decide) lkX10_17 hA1.1 rfl dX10_closeNow_85 ?_
        refine pw_iload dX10_closeNow_88 rfl ?_
        refine pw_iload dX10_closeNow_90 rfl ?_
        refine pw_iast (g := (s.2 5)) (t := 0) rfl (mF5 (s := (mA 7 (va_up (s.2 7) (z).toNat (up)) s)) hA1) (by omega) (by decide) dX10_closeNow_92 ?_
        have hA3 : mAt B (mA 5 (va_up (s.2 5) (up).toNat (z)) (mA 7 (va_up (s.2 7) (z).toNat (up)) s)) (va_up h1 (B + 3) (pz_z 0 16 (va_up (s.2 5) (up).toNat (z)))) := mU5 hA1
        have hF3 : mFr B h (va_up h1 (B + 3) (pz_z 0 16 (va_up (s.2 5) (up).toNat (z)))) := mFr_tr hF1 (mFr_up (by decide))
        revert hA3 hF3
        generalize (va_up h1 (B + 3) (pz_z 0 16 (va_up (s.2 5) (up).toNat (z)))) = h3
        intro hA3 hF3
        refine pw_goto (tgt := 105) dX10_closeNow_93 rfl ?_
        have eS : clS z up sp s = (mA 5 (va_up (s.2 5) (up).toNat (z)) (mA 7 (va_up (s.2 7) (z).toNat (up)) s)) := by unfold clS; rw [if_neg (by omega), if_pos (by omega)]
        exact lN_cl (s := (mA 5 (va_up (s.2 5) (up).toNat (z)) (mA 7 (va_up (s.2 7) (z).toNat (up)) s))) htr hA3 hF3 hp hm hsp hz ez okZ ndm ndp (rT_of2 (s := s) (s' := (mA 5 (va_up (s.2 5) (up).toNat (z)) (mA 7 (va_up (s.2 7) (z).toNat (up)) s))) k Z hT (fun i hi => ⟨rfl, va_up_ne _ _ (fun y => (hup.resolve_left (by omega)).2 (y ▸ hi)), rfl, rfl, rfl, rfl, rfl⟩)) (fun p1 hp1 => hpk p1 hp1) hk15 hzw hww hzh hhh e10 e11 e12 e13 h47 hr h0 h1r (fun s3 h' q1 q2 q3 q4 q5 => by exact ⟨rfl, s3, q1, by rw [eS]; exact q3, q4, q5, q2, rfl⟩)
    ·
      refine pw_aload_n dX10_closeNow_64 rfl ?_
      refine pw_iload dX10_closeNow_65 rfl ?_
      refine pw_put (fs' := (moL B (va_up (mA 7 (va_up (s.2 7) (z).toNat (up)) s).1 14 (z)))) okX10 (k := 14) (by decide) lkX10_210 rfl rfl rfl hA1.1 (nlt rfl) rfl dX10_closeNow_67 ?_
      have hA4 : mAt B (mV 14 (z) (mA 7 (va_up (s.2 7) (z).toNat (up)) s)) (va_up h1 B (pz_o 13 (moL B (va_up (mA 7 (va_up (s.2 7) (z).toNat (up)) s).1 14 (z))))) := mAt_V hA1
      have hF4 : mFr B h (va_up h1 B (pz_o 13 (moL B (va_up (mA 7 (va_up (s.2 7) (z).toNat (up)) s).1 14 (z))))) := mFr_tr hF1 (mFr_up (k := 0) (by decide))
      revert hA4 hF4
      generalize (va_up h1 B (pz_o 13 (moL B (va_up (mA 7 (va_up (s.2 7) (z).toNat (up)) s).1 14 (z))))) = h4
      intro hA4 hF4
      refine pw_goto (tgt := 105) dX10_closeNow_70 rfl ?_
      have eS : clS z up sp s = (mV 14 (z) (mA 7 (va_up (s.2 7) (z).toNat (up)) s)) := by unfold clS; rw [if_pos (by omega)]
      exact lN_cl (s := (mV 14 (z) (mA 7 (va_up (s.2 7) (z).toNat (up)) s))) htr hA4 hF4 hp hm hsp hz ez okZ ndm ndp (rT_of2 (s := s) (s' := (mV 14 (z) (mA 7 (va_up (s.2 7) (z).toNat (up)) s))) k Z hT (fun i hi => ⟨rfl, rfl, rfl, rfl, rfl, rfl, rfl⟩)) (fun p1 hp1 => hpk p1 hp1) hk15 hzw hww hzh hhh e10 e11 e12 e13 h47 hr h0 h1r (fun s3 h' q1 q2 q3 q4 q5 => by exact ⟨rfl, s3, q1, by rw [eS]; exact q3, q4, q5, q2, rfl⟩)
  ·
    refine pw_aload_n dX10_closeNow_24 rfl ?_
    refine pw_get (v := .ref (B + 4)) okX10 (k := 6) (by decide) lkX10_20 hA.1 rfl dX10_closeNow_25 ?_
    refine pw_iload_n dX10_closeNow_28 rfl ?_
    refine pw_ialdv (v := ss) (t := 0) rfl (mF6 (s := s) hA) (by omega) (by decide) (e6s) dX10_closeNow_29 ?_
    refine pw_goto (tgt := 39) dX10_closeNow_30 rfl ?_
    refine pw_istore (lv' := [some (.ref B), some (.int (zI (p))), some (.int (zI (m))), some (.int (zI (sp))), some (.int (zI (ss))), none]) dX10_closeNow_39 (by decide) rfl rfl ?_
    have ezz : ss = z := by omega
    rw [ezz]
    refine pw_aload_n dX10_closeNow_41 rfl ?_
    refine pw_get (v := .ref (B + 5)) okX10 (k := 7) (by decide) lkX10_23 hA.1 rfl dX10_closeNow_42 ?_
    refine pw_iload_n dX10_closeNow_45 rfl ?_
    refine pw_ialdv (v := up) (t := 0) rfl (mF7 (s := s) hA) (by omega) (by decide) (e7s) dX10_closeNow_46 ?_
    refine pw_istore (lv' := [some (.ref B), some (.int (zI (p))), some (.int (zI (m))), some (.int (zI (sp))), some (.int (zI (z))), some (.int (zI (up)))]) dX10_closeNow_47 (by decide) rfl rfl ?_
    refine pw_aload_n dX10_closeNow_49 rfl ?_
    refine pw_get (v := .ref (B + 5)) okX10 (k := 7) (by decide) lkX10_23 hA.1 rfl dX10_closeNow_50 ?_
    refine pw_iload dX10_closeNow_53 rfl ?_
    refine pw_iload dX10_closeNow_55 rfl ?_
    refine pw_iast (g := (s.2 7)) (t := 0) rfl (mF7 (s := s) hA) (by omega) (by decide) dX10_closeNow_57 ?_
    have hA5 : mAt B (mA 7 (va_up (s.2 7) (z).toNat (up)) s) (va_up h (B + 5) (pz_z 0 16 (va_up (s.2 7) (z).toNat (up)))) := mU7 hA
    have hF5 : mFr B h (va_up h (B + 5) (pz_z 0 16 (va_up (s.2 7) (z).toNat (up)))) := mFr_tr mFr_rf (mFr_up (by decide))
    revert hA5 hF5
    generalize (va_up h (B + 5) (pz_z 0 16 (va_up (s.2 7) (z).toNat (up)))) = h5
    intro hA5 hF5
    refine pw_iload dX10_closeNow_58 rfl ?_
    refine pw_iconst (v := zI (-1)) dX10_closeNow_60 (by decide) ?_
    refine pw_icmp_ne (tgt := 73) dX10_closeNow_61 rfl (by omega) (by omega) (fun c61 => ?_) (fun c61 => ?_)
    ·
      refine pw_aload_n dX10_closeNow_73 rfl ?_
      refine pw_get (v := .ref (B + 3)) okX10 (k := 5) (by decide) lkX10_17 hA5.1 rfl dX10_closeNow_74 ?_
      refine pw_iload dX10_closeNow_77 rfl ?_
      refine pw_iald (g := (s.2 5)) (t := 0) rfl (mF5 (s := (mA 7 (va_up (s.2 7) (z).toNat (up)) s)) hA5) (by omega) (by decide) dX10_closeNow_79 ?_
      refine pw_iload_n dX10_closeNow_80 rfl ?_
      refine pw_icmp_ne (tgt := 96) dX10_closeNow_81 rfl (by omega) (by omega) (fun c81 => ?_) (fun c81 => ?_)
      ·
        refine pw_aload_n dX10_closeNow_96 rfl ?_
        refine pw_get (v := .ref (B + 4)) okX10 (k := 6) (by decide) lkX10_20 hA5.1 rfl dX10_closeNow_97 ?_
        refine pw_iload dX10_closeNow_100 rfl ?_
        refine pw_iload dX10_closeNow_102 rfl ?_
        refine pw_iast (g := (s.2 6)) (t := 0) rfl (mF6 (s := (mA 7 (va_up (s.2 7) (z).toNat (up)) s)) hA5) (by omega) (by decide) dX10_closeNow_104 ?_
        have hA6 : mAt B (mA 6 (va_up (s.2 6) (up).toNat (z)) (mA 7 (va_up (s.2 7) (z).toNat (up)) s)) (va_up h5 (B + 4) (pz_z 0 16 (va_up (s.2 6) (up).toNat (z)))) := mU6 hA5
        have hF6 : mFr B h (va_up h5 (B + 4) (pz_z 0 16 (va_up (s.2 6) (up).toNat (z)))) := mFr_tr hF5 (mFr_up (by decide))
        revert hA6 hF6
        generalize (va_up h5 (B + 4) (pz_z 0 16 (va_up (s.2 6) (up).toNat (z)))) = h6
        intro hA6 hF6
        have eS : clS z up sp s = (mA 6 (va_up (s.2 6) (up).toNat (z)) (mA 7 (va_up (s.2 7) (z).toNat (up)) s)) := by unfold clS; rw [if_neg (by omega), if_neg (by omega)]
        exact lN_cl (s := (mA 6 (va_up (s.2 6) (up).toNat (z)) (mA 7 (va_up (s.2 7) (z).toNat (up)) s))) htr hA6 hF6 hp hm hsp hz ez okZ ndm ndp (rT_of2 (s := s) (s' := (mA 6 (va_up (s.2 6) (up).toNat (z)) (mA 7 (va_up (s.2 7) (z).toNat (up)) s))) k Z hT (fun i hi => ⟨rfl, rfl, va_up_ne _ _ (fun y => (hup.resolve_left (by omega)).2 (y ▸ hi)), rfl, rfl, rfl, rfl⟩)) (fun p1 hp1 => hpk p1 hp1) hk15 hzw hww hzh hhh e10 e11 e12 e13 h47 hr h0 h1r (fun s3 h' q1 q2 q3 q4 q5 => by exact ⟨rfl, s3, q1, by rw [eS]; exact q3, q4, q5, q2, rfl⟩)
      ·
        refine pw_aload_n dX10_closeNow_84 rfl ?_
        refine pw_get (v := .ref (B + 3)) okX10 (k := 5) (by decide) lkX10_17 hA5.1 rfl dX10_closeNow_85 ?_
        refine pw_iload dX10_closeNow_88 rfl ?_
        refine pw_iload dX10_closeNow_90 rfl ?_
        refine pw_iast (g := (s.2 5)) (t := 0) rfl (mF5 (s := (mA 7 (va_up (s.2 7) (z).toNat (up)) s)) hA5) (by omega) (by decide) dX10_closeNow_92 ?_
        have hA7 : mAt B (mA 5 (va_up (s.2 5) (up).toNat (z)) (mA 7 (va_up (s.2 7) (z).toNat (up)) s)) (va_up h5 (B + 3) (pz_z 0 16 (va_up (s.2 5) (up).toNat (z)))) := mU5 hA5
        have hF7 : mFr B h (va_up h5 (B + 3) (pz_z 0 16 (va_up (s.2 5) (up).toNat (z)))) := mFr_tr hF5 (mFr_up (by decide))
        revert hA7 hF7
        generalize (va_up h5 (B + 3) (pz_z 0 16 (va_up (s.2 5) (up).toNat (z)))) = h7
        intro hA7 hF7
        refine pw_goto (tgt := 105) dX10_closeNow_93 rfl ?_
        have eS : clS z up sp s = (mA 5 (va_up (s.2 5) (up).toNat (z)) (mA 7 (va_up (s.2 7) (z).toNat (up)) s)) := by unfold clS; rw [if_neg (by omega), if_pos (by omega)]
        exact lN_cl (s := (mA 5 (va_up (s.2 5) (up).toNat (z)) (mA 7 (va_up (s.2 7) (z).toNat (up)) s))) htr hA7 hF7 hp hm hsp hz ez okZ ndm ndp (rT_of2 (s := s) (s' := (mA 5 (va_up (s.2 5) (up).toNat (z)) (mA 7 (va_up (s.2 7) (z).toNat (up)) s))) k Z hT (fun i hi => ⟨rfl, va_up_ne _ _ (fun y => (hup.resolve_left (by omega)).2 (y ▸ hi)), rfl, rfl, rfl, rfl, rfl⟩)) (fun p1 hp1 => hpk p1 hp1) hk15 hzw hww hzh hhh e10 e11 e12 e13 h47 hr h0 h1r (fun s3 h' q1 q2 q3 q4 q5 => by exact ⟨rfl, s3, q1, by rw [eS]; exact q3, q4, q5, q2, rfl⟩)
    ·
      refine pw_aload_n dX10_closeNow_64 rfl ?_
      refine pw_iload dX10_closeNow_65 rfl ?_
      refine pw_put (fs' := (moL B (va_up (mA 7 (va_up (s.2 7) (z).toNat (up)) s).1 14 (z)))) okX10 (k := 14) (by decide) lkX10_210 rfl rfl rfl hA5.1 (nlt rfl) rfl dX10_closeNow_67 ?_
      have hA8 : mAt B (mV 14 (z) (mA 7 (va_up (s.2 7) (z).toNat (up)) s)) (va_up h5 B (pz_o 13 (moL B (va_up (mA 7 (va_up (s.2 7) (z).toNat (up)) s).1 14 (z))))) := mAt_V hA5
      have hF8 : mFr B h (va_up h5 B (pz_o 13 (moL B (va_up (mA 7 (va_up (s.2 7) (z).toNat (up)) s).1 14 (z))))) := mFr_tr hF5 (mFr_up (k := 0) (by decide))
      revert hA8 hF8
      generalize (va_up h5 B (pz_o 13 (moL B (va_up (mA 7 (va_up (s.2 7) (z).toNat (up)) s).1 14 (z))))) = h8
      intro hA8 hF8
      refine pw_goto (tgt := 105) dX10_closeNow_70 rfl ?_
      have eS : clS z up sp s = (mV 14 (z) (mA 7 (va_up (s.2 7) (z).toNat (up)) s)) := by unfold clS; rw [if_pos (by omega)]
      exact lN_cl (s := (mV 14 (z) (mA 7 (va_up (s.2 7) (z).toNat (up)) s))) htr hA8 hF8 hp hm hsp hz ez okZ ndm ndp (rT_of2 (s := s) (s' := (mV 14 (z) (mA 7 (va_up (s.2 7) (z).toNat (up)) s))) k Z hT (fun i hi => ⟨rfl, rfl, rfl, rfl, rfl, rfl, rfl⟩)) (fun p1 hp1 => hpk p1 hp1) hk15 hzw hww hzh hhh e10 e11 e12 e13 h47 hr h0 h1r (fun s3 h' q1 q2 q3 q4 q5 => by exact ⟨rfl, s3, q1, by rw [eS]; exact q3, q4, q5, q2, rfl⟩)
