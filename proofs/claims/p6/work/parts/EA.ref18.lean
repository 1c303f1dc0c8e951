
set_option maxHeartbeats 1000000 in
set_option maxRecDepth 100000 in
/-- lay(m, x, y, u, q), on a tree -/
theorem nR_lay {E : pw_E} (htr : E.1.stackTraces = false) {h : pz_H} {n : Nat} {B : Nat} {s : mS} (hA : mAt B s h) {m x y u q : Int}  {k : Nat} {t : aT} {w0 h0 : Int} (hem : m = (tm t : Int)) (ok : aOk k t w0 h0) (ndm : (aX fm k t).Nodup) (ndp : (aX fp k t).Nodup) (hT : rT s k t) (hpk : ∀ p, p ∈ aX fp k t → mPk s p) (hk15 : k ≤ 15) (hwu : w0 ≤ u) (hu : u ≤ 40) (hhq : h0 ≤ q) (hq : q ≤ 16) : pw_M E yX10_lay YX10_lay (rmD 2 0 0) [.ref B, .int (zI (m)), .int (zI (x)), .int (zI (y)), .int (zI (u)), .int (zI (q))] h n (fun r0 h' n' => r0 = none ∧ ∃ s', mAt B s' h' ∧ lyF (aX fm k t) (aX fp k t) 0 s s' ∧ rA s' k (aPl k t w0 h0 u q) x y ∧ (∀ p, p ∈ aX fp k t → mPk s' p) ∧ mFr B h h' ∧ n' = n) (fun _ _ _ => False) := by
  have hk0 : 0 < k := by
    cases k with
    | zero => exact ok.elim
    | succ k => omega
  have hm16 := rT_root hT
  refine pw_M_of (lv := [some (.ref B), some (.int (zI (m))), some (.int (zI (x))), some (.int (zI (y))), some (.int (zI (u))), some (.int (zI (q))), none, none, none, none, none, none, none]) (by decide) rfl rfl htr (nle rfl) rfl (fun L => ?_)
  refine pw_aload_n dX10_lay_0 rfl ?_
  refine pw_get (v := .ref (B + 8)) okX10 (k := 10) (by decide) lkX10_32 hA.1 rfl dX10_lay_1 ?_
  refine pw_iload_n dX10_lay_4 rfl ?_
  refine pw_iload_n dX10_lay_5 rfl ?_
  refine pw_iast (g := (s.2 10)) (t := 0) rfl (mF10 (s := s) hA) (by omega) (by decide) dX10_lay_6 ?_
  have hA1 : mAt B (mA 10 (va_up (s.2 10) (m).toNat (x)) s) (va_up h (B + 8) (pz_z 0 16 (va_up (s.2 10) (m).toNat (x)))) := mU10 hA
  have hF1 : mFr B h (va_up h (B + 8) (pz_z 0 16 (va_up (s.2 10) (m).toNat (x)))) := mFr_tr mFr_rf (mFr_up (by decide))
  revert hA1 hF1
  generalize (va_up h (B + 8) (pz_z 0 16 (va_up (s.2 10) (m).toNat (x)))) = h1
  intro hA1 hF1
  refine pw_aload_n dX10_lay_7 rfl ?_
  refine pw_get (v := .ref (B + 9)) okX10 (k := 11) (by decide) lkX10_35 hA1.1 rfl dX10_lay_8 ?_
  refine pw_iload_n dX10_lay_11 rfl ?_
  refine pw_iload_n dX10_lay_12 rfl ?_
  refine pw_iast (g := (s.2 11)) (t := 0) rfl (mF11 (s := (mA 10 (va_up (s.2 10) (m).toNat (x)) s)) hA1) (by omega) (by decide) dX10_lay_13 ?_
  have hA2 : mAt B (mA 11 (va_up (s.2 11) (m).toNat (y)) (mA 10 (va_up (s.2 10) (m).toNat (x)) s)) (va_up h1 (B + 9) (pz_z 0 16 (va_up (s.2 11) (m).toNat (y)))) := mU11 hA1
  have hF2 : mFr B h (va_up h1 (B + 9) (pz_z 0 16 (va_up (s.2 11) (m).toNat (y)))) := mFr_tr hF1 (mFr_up (by decide))
  revert hA2 hF2
  generalize (va_up h1 (B + 9) (pz_z 0 16 (va_up (s.2 11) (m).toNat (y)))) = h2
  intro hA2 hF2
  refine pw_aload_n dX10_lay_14 rfl ?_
  refine pw_get (v := .ref (B + 12)) okX10 (k := 15) (by decide) lkX10_44 hA2.1 rfl dX10_lay_15 ?_
  refine pw_iconst (v := zI (0)) dX10_lay_18 (by decide) ?_
  refine pw_iload_n dX10_lay_19 rfl ?_
  refine pw_iast (g := (s.2 15)) (t := 0) rfl (mF15 (s := (mA 11 (va_up (s.2 11) (m).toNat (y)) (mA 10 (va_up (s.2 10) (m).toNat (x)) s))) hA2) (by omega) (by decide) dX10_lay_20 ?_
  have hA3 : mAt B (mA 15 (va_up (s.2 15) (0 : Int).toNat (m)) (mA 11 (va_up (s.2 11) (m).toNat (y)) (mA 10 (va_up (s.2 10) (m).toNat (x)) s))) (va_up h2 (B + 12) (pz_z 0 16 (va_up (s.2 15) (0 : Int).toNat (m)))) := mU15 hA2
  have hF3 : mFr B h (va_up h2 (B + 12) (pz_z 0 16 (va_up (s.2 15) (0 : Int).toNat (m)))) := mFr_tr hF2 (mFr_up (by decide))
  revert hA3 hF3
  generalize (va_up h2 (B + 12) (pz_z 0 16 (va_up (s.2 15) (0 : Int).toNat (m)))) = h3
  intro hA3 hF3
  refine pw_iconst (v := zI (1)) dX10_lay_21 (by decide) ?_
  refine pw_istore (lv' := [some (.ref B), some (.int (zI (m))), some (.int (zI (x))), some (.int (zI (y))), some (.int (zI (u))), some (.int (zI (q))), some (.int (zI (1))), none, none, none, none, none, none]) dX10_lay_22 (by decide) rfl rfl ?_
  refine pw_aload_n dX10_lay_24 rfl ?_
  refine pw_get (v := .ref (B + 48)) okX10 (k := 59) (by decide) lkX10_156 hA3.1 rfl dX10_lay_25 ?_
  refine pw_iload_n dX10_lay_28 rfl ?_
  refine pw_iload dX10_lay_29 rfl ?_
  refine pw_iast (g := (s.2 59)) (t := 0) rfl (mF59 (s := (mA 15 (va_up (s.2 15) (0 : Int).toNat (m)) (mA 11 (va_up (s.2 11) (m).toNat (y)) (mA 10 (va_up (s.2 10) (m).toNat (x)) s)))) hA3) (by omega) (by decide) dX10_lay_31 ?_
  have hA4 : mAt B (mA 59 (va_up (s.2 59) (m).toNat (u)) (mA 15 (va_up (s.2 15) (0 : Int).toNat (m)) (mA 11 (va_up (s.2 11) (m).toNat (y)) (mA 10 (va_up (s.2 10) (m).toNat (x)) s)))) (va_up h3 (B + 48) (pz_z 0 16 (va_up (s.2 59) (m).toNat (u)))) := mU59 hA3
  have hF4 : mFr B h (va_up h3 (B + 48) (pz_z 0 16 (va_up (s.2 59) (m).toNat (u)))) := mFr_tr hF3 (mFr_up (by decide))
  revert hA4 hF4
  generalize (va_up h3 (B + 48) (pz_z 0 16 (va_up (s.2 59) (m).toNat (u)))) = h4
  intro hA4 hF4
  refine pw_aload_n dX10_lay_32 rfl ?_
  refine pw_get (v := .ref (B + 49)) okX10 (k := 60) (by decide) lkX10_159 hA4.1 rfl dX10_lay_33 ?_
  refine pw_iload_n dX10_lay_36 rfl ?_
  refine pw_iload dX10_lay_37 rfl ?_
  refine pw_iast (g := (s.2 60)) (t := 0) rfl (mF60 (s := (mA 59 (va_up (s.2 59) (m).toNat (u)) (mA 15 (va_up (s.2 15) (0 : Int).toNat (m)) (mA 11 (va_up (s.2 11) (m).toNat (y)) (mA 10 (va_up (s.2 10) (m).toNat (x)) s))))) hA4) (by omega) (by decide) dX10_lay_39 ?_
  have hA5 : mAt B (mA 60 (va_up (s.2 60) (m).toNat (q)) (mA 59 (va_up (s.2 59) (m).toNat (u)) (mA 15 (va_up (s.2 15) (0 : Int).toNat (m)) (mA 11 (va_up (s.2 11) (m).toNat (y)) (mA 10 (va_up (s.2 10) (m).toNat (x)) s))))) (va_up h4 (B + 49) (pz_z 0 16 (va_up (s.2 60) (m).toNat (q)))) := mU60 hA4
  have hF5 : mFr B h (va_up h4 (B + 49) (pz_z 0 16 (va_up (s.2 60) (m).toNat (q)))) := mFr_tr hF4 (mFr_up (by decide))
  revert hA5 hF5
  generalize (va_up h4 (B + 49) (pz_z 0 16 (va_up (s.2 60) (m).toNat (q)))) = h5
  intro hA5 hF5
  have hmt : m.toNat = tm t := by omega
  have F0 : lyF (aX fm k t) (aX fp k t) 0 s (mA 60 (va_up (s.2 60) (m).toNat (q)) (mA 59 (va_up (s.2 59) (m).toNat (u)) (mA 15 (va_up (s.2 15) (0 : Int).toNat (m)) (mA 11 (va_up (s.2 11) (m).toNat (y)) (mA 10 (va_up (s.2 10) (m).toNat (x)) s))))) := by
    have him : tm t ∈ aX fm k t := aX_m hk0
    refine ⟨rfl, fun j a1 a2 a3 a4 a5 a6 a7 a8 _ => by repeat (first | rfl | rw [mA_ne (by assumption)]), fun j hj i hi => ?_, fun i hi => by omega, fun j a1 a2 _ _ _ _ _ i _ => by rw [mA_ne (by omega), mA_ne (by omega), mA_ne (by omega), mA_ne (by omega), mA_ne (by omega)], fun p _ i _ _ => rfl, m45_e rfl⟩
    have hne : i ≠ m.toNat := fun z => hi (by rw [z, hmt]; exact him)
    rcases (show j = 9 ∨ j = 10 ∨ j = 11 ∨ j = 12 ∨ j = 13 ∨ j = 59 ∨ j = 60 by omega) with rfl | rfl | rfl | rfl | rfl | rfl | rfl
    · exact rfl
    · exact va_up_ne _ _ hne
    · exact va_up_ne _ _ hne
    · exact rfl
    · exact rfl
    · exact va_up_ne _ _ hne
    · exact va_up_ne _ _ hne
  refine lN_tree htr k t w0 h0 x y u q 1 (mA 60 (va_up (s.2 60) (m).toNat (q)) (mA 59 (va_up (s.2 59) (m).toNat (u)) (mA 15 (va_up (s.2 15) (0 : Int).toNat (m)) (mA 11 (va_up (s.2 11) (m).toNat (y)) (mA 10 (va_up (s.2 10) (m).toNat (x)) s))))) h5 none none none none none none ok ndm ndp (rT_of (s := s) (s' := (mA 60 (va_up (s.2 60) (m).toNat (q)) (mA 59 (va_up (s.2 59) (m).toNat (u)) (mA 15 (va_up (s.2 15) (0 : Int).toNat (m)) (mA 11 (va_up (s.2 11) (m).toNat (y)) (mA 10 (va_up (s.2 10) (m).toNat (x)) s)))))) rfl rfl rfl rfl k t hT (fun i _ => ⟨rfl, rfl, rfl⟩)) (fun p hp => (hpk p hp)) (by omega) (by omega) ?_ ?_ ?_ ?_ ?_ hwu hu hhq hq hA5 hF5 (fun s9 h9 l7 l8 l9 l10 l11 l12 hA9 hF9 F9 rA9 pk9 => ?_)
  · exact (show va_up (s.2 15) 0 m 0 = (tm t : Int) from (va_up_self _ _ _).trans hem)
  · exact (show va_up (s.2 10) m.toNat x (tm t) = x by rw [hmt]; exact va_up_self _ _ _)
  · exact (show va_up (s.2 11) m.toNat y (tm t) = y by rw [hmt]; exact va_up_self _ _ _)
  · exact (show va_up (s.2 59) m.toNat u (tm t) = u by rw [hmt]; exact va_up_self _ _ _)
  · exact (show va_up (s.2 60) m.toNat q (tm t) = q by rw [hmt]; exact va_up_self _ _ _)
  refine pw_iload dX10_lay_40 rfl ?_
  refine pw_if_le (tgt := 547) dX10_lay_42 rfl (by omega) (fun c42 => ?_) (fun c42 => ?_)
  ·
    exact pw_vret dX10_lay_547 rfl (nle rfl) (nle rfl) ⟨rfl, s9, hA9, lyF_tr F0 (lyF_mo F9 (fun _ z => z) (fun _ z => z) (Nat.le_refl _)), rA9, pk9, hF9, rfl⟩
  · exfalso; omega
