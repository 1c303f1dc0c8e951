/-! ===== closeNow on what holds between calls ===== -/
set_option maxHeartbeats 4000000 in
theorem nG_closeNow {E : pw_E} (htr : E.1.stackTraces = false) {h : pz_H} {n B : Nat} {s : mS} (hA : mAt B s h) {W H M : Int} {t u v z : aT} {p r : Nat} (hW : 8 ≤ W ∧ W ≤ 40) (hHH : 4 ≤ H ∧ H ≤ 16) (hH : rH W H M t s) (hu : aIn u 8 t) (e : tp u = none) (hs : aSib u v z) (hp : tp v = some p) (hr8 : r < 8) (hr0 : ∀ i, i < r → va_up (s.2 16) p 0 i = 0) (hr1 : va_up (s.2 16) p 0 r = 1) : pw_M E yX10_closeNow YX10_closeNow (rmD 3 0 0) [.ref B, .int (zI (p : Int))] h n (fun r0 h' n' => r0 = none ∧ rD W H M (aRep (tc u) (aUpT 8 u z) 8 t) B (s.1 0) (if s.1 47 = (p : Int) then (r : Int) else s.1 47) (s.1 48) h h' n n') (fun _ _ _ => False) := by
  obtain ⟨hG, hI, hV, hM0, h45⟩ := id hH
  obtain ⟨ok, n1, n2, n3, n4⟩ := id hG
  obtain ⟨i1, i2, i3, i4, i5, i6⟩ := id hI
  obtain ⟨il, ir⟩ := aIn_lr 8 t W H ok hu e
  have hz : aIn z 8 t := by
    rcases hs with ⟨-, h2⟩ | ⟨-, h2⟩
    · exact h2 ▸ ir
    · exact h2 ▸ il
  have hv : aIn v 8 t := by
    rcases hs with ⟨h2, -⟩ | ⟨h2, -⟩
    · exact h2 ▸ il
    · exact h2 ▸ ir
  obtain ⟨⟨um, ux, uy⟩, ⟨u12, u13⟩, -, -⟩ := rI_in hG hI hu
  obtain ⟨⟨vm, -, -⟩, -, vl, -⟩ := rI_in hG hI hv
  obtain ⟨p8, hpm, v4, v17, -, -⟩ := vl p hp
  obtain ⟨⟨zm, -, -⟩, -, -, -⟩ := rI_in hG hI hz
  obtain ⟨ju, wu, hu2, hju, ou, -⟩ := aIn_ok 8 t W H ok hu
  obtain ⟨a, rfl⟩ : ∃ a, ju = a + 1 := ⟨ju - 1, by omega⟩
  obtain ⟨oz, z1, z2, z3, z4⟩ := aSib_ok hs e ou
  have oz8 : aOk 8 z (tw z) (th z) := aOk_le oz (by omega)
  obtain ⟨jk, up, hjk, kz⟩ := rK_in 8 t _ i1 hz
  obtain ⟨ja, xz, yz, hja, az⟩ := rA_in 8 t _ _ i2 hz
  have hT := rT_pa 8 z up xz yz (rK_le kz hjk.2) (rA_le az hja.2)
  obtain ⟨j, upu, hj, c⟩ := rK_in 8 t _ i1 hu
  obtain ⟨b, rfl⟩ : ∃ b, j = b + 1 := ⟨j - 1, by omega⟩
  obtain ⟨⟨u4, u5, u6, -⟩, zl, zr⟩ := c.2.2 e
  have u7 := (rK_root c).2
  have ml := (rK_root zl).2
  have mr := (rK_root zr).2
  have m16l := (rK_root zl).1
  have m16r := (rK_root zr).1
  have v7 : s.2 7 (tm v) = (tm u : Int) := by
    rcases hs with ⟨h2, -⟩ | ⟨h2, -⟩
    · exact h2 ▸ ml
    · exact h2 ▸ mr
  have hzv : ¬ tm z = tm v := fun y => by
    have y1 := aSp_x ok hu e fm
    have y2 := aIn_nd 8 t W H ok n2 hu
    rw [y1] at y2
    obtain ⟨-, y2, -⟩ := List.nodup_append.mp y2
    obtain ⟨-, -, y3⟩ := List.nodup_append.mp y2
    rcases hs with ⟨h2, h3⟩ | ⟨h2, h3⟩
    · refine y3 (tm v) (by rw [h2]; exact aX_m (by decide)) (tm z) (by rw [h3]; exact aX_m (by decide)) y.symm
    · refine y3 (tm z) (by rw [h3]; exact aX_m (by decide)) (tm v) (by rw [h2]; exact aX_m (by decide)) y
  have hzz : ((tm (aL u) : Int) = (tm v : Int) ∧ (tm (aR u) : Int) = (tm z : Int)) ∨ (¬ (tm (aL u) : Int) = (tm v : Int) ∧ (tm (aL u) : Int) = (tm z : Int)) := by
    rcases hs with ⟨h2, h3⟩ | ⟨h2, h3⟩
    · rw [h2, h3]; exact Or.inl ⟨rfl, rfl⟩
    · rw [h3]; exact Or.inr ⟨by omega, rfl⟩
  have sm := aSib_x ok hu e hs fm
  have hup : s.2 7 (tm u) = -1 ∨ ((0 ≤ s.2 7 (tm u) ∧ s.2 7 (tm u) < 16) ∧ (s.2 7 (tm u)).toNat ∉ aX fm 8 z) ∧ (0 ≤ s.2 5 (s.2 7 (tm u)).toNat ∧ s.2 5 (s.2 7 (tm u)).toNat < 16) := by
    rcases aUp 8 t hu with y | ⟨w', h1, h2, h3⟩
    · left; subst y; exact (rK_root i1).2
    · right
      obtain ⟨j, up', hj, c⟩ := rK_in 8 t _ i1 h1
      obtain ⟨i, rfl⟩ : ∃ i, j = i + 1 := ⟨j - 1, by omega⟩
      obtain ⟨⟨-, z5, z6, -⟩, zl, zr⟩ := c.2.2 h2
      have e7 : s.2 7 (tm u) = (tm w' : Int) := by
        rcases h3 with h3 | h3
        · rw [← h3]; exact (rK_root zl).2
        · rw [← h3]; exact (rK_root zr).2
      have w16 := c.1.1
      have l16 := (rK_root zl).1
      rw [e7, Int.toNat_natCast, z5]
      refine ⟨⟨by omega, fun y => ?_⟩, by omega⟩
      have hw : tm w' ∈ aX fm 8 u := (sm.1 _).mpr (Or.inr (Or.inr y))
      have y1 := aSp_x ok h1 h2 fm
      have y2 := aIn_nd 8 t W H ok n2 h1
      rw [y1] at y2
      obtain ⟨-, -, y3⟩ := List.nodup_append.mp y2
      rcases h3 with h3 | h3
      · rw [h3] at y3; exact y3 _ List.mem_cons_self _ (List.mem_append_left _ hw) rfl
      · rw [h3] at y3; exact y3 _ List.mem_cons_self _ (List.mem_append_right _ hw) rfl
  obtain ⟨v47, m47⟩ := hV.2.1
  refine pw_M_mo (nR_closeNow (k := 8) (Z := z) (m := (tm v : Int)) (sp := (tm u : Int)) (z := (tm z : Int)) (up := s.2 7 (tm u)) (r := (r : Int)) (x := s.2 10 (tm u)) (y := s.2 11 (tm u)) (ww := tw u) (hh := th u) (fs := (tm (aL u) : Int)) (ss := (tm (aR u) : Int)) htr hA (by omega) (by omega) (by omega) (by omega) rfl oz8 (aIn_nd 8 t W H ok n2 hz) (aIn_nd 8 t W H ok n3 hz) hT (fun p1 hp1 => i5 p1 (aIn_x ok hz (Nat.le_refl 8) hp1)) (by omega) (by omega) (by omega) (by omega) (by omega) rfl rfl u12 u13 v47 (by omega) (fun i hi => hr0 i (by omega)) hr1 v17 v7 u5 u6 rfl (by omega) (by omega) hzz (hup.elim Or.inl (fun y => Or.inr y.1)) (hup.elim Or.inl (fun y => Or.inr y.2))) (fun r0 h' n' hq => ?_) (fun _ _ _ z => z.elim)
  obtain ⟨r1, s3, hA3, hL, hR, hk3, hF3, e4⟩ := hq
  have rI3 := rI_rm hG hI hu e hs hp rfl rfl hL hR hk3
  have hG8 := aG_lev (aG_rm hG hu e hs)
  have e1a : (clS (tm z) (s.2 7 (tm u)) (tm u) s).1 = s.1 ∨ (clS (tm z) (s.2 7 (tm u)) (tm u) s).1 = va_up s.1 14 (tm z : Int) := by
    unfold clS
    split
    · exact Or.inr rfl
    · split
      · exact Or.inl rfl
      · exact Or.inl rfl
  have e1 : ∀ k, k ≠ 14 → s3.1 k = s.1 k := fun k hk => by
    rw [hL.1]
    show (clS (tm z) (s.2 7 (tm u)) (tm u) s).1 k = s.1 k
    rcases e1a with y | y
    · rw [y]
    · rw [y, va_up_ne _ _ hk]
  have S16 : s3.2 16 = va_up (s.2 16) p 0 := (hL.2.1 16 (by decide) (by decide) (by decide) (by decide) (by decide) (by decide) (by decide) (by decide) (by decide)).trans (by
    show va_up ((clS (tm z) (s.2 7 (tm u)) (tm u) s).2 16) p 0 = _
    rw [clS_o (by decide) (by decide) (by decide)])
  have m3 : m45 s s3 := m45_tr (m45_e (s := s) (s1 := clE p (tm v) (tm u) (clS (tm z) (s.2 7 (tm u)) (tm u) s)) ((clE_o (by decide) (by decide)).trans (clS_o (by decide) (by decide) (by decide)))) hL.2.2.2.2.2.2
  have hfo : (0 ≤ (if s.1 47 = (p : Int) then (r : Int) else s.1 47) ∧ (if s.1 47 = (p : Int) then (r : Int) else s.1 47) < 8) ∧ (if s.1 47 = (p : Int) then (r : Int) else s.1 47).toNat ∈ aX fp 8 (aRep (tc u) (aUpT 8 u z) 8 t) := by
    split
    · refine ⟨by omega, (rI_used rI3 (by omega)).mp ?_⟩
      rw [S16, Int.toNat_natCast]; exact hr1
    · next c =>
      refine ⟨v47, (rI_used rI3 (by omega)).mp ?_⟩
      rw [S16, va_up_ne _ _ (by omega)]
      exact (rI_used hI (by omega)).mpr m47
  refine ⟨r1, _, hA3, ⟨hG8.1, rI_same rI3 (fun _ _ => rfl), ?_, hM0, m45_le m3 hM0 h45⟩, ⟨e1 0 (by decide), rfl, e1 48 (by decide)⟩, hF3, e4⟩
  obtain ⟨⟨v1, v2⟩, -, v48, v49, v53, v54, v55, v56, v57⟩ := hV
  rw [← e1 1 (by decide)] at v1
  rw [← e1 2 (by decide)] at v2
  rw [← e1 48 (by decide)] at v48
  rw [← e1 49 (by decide)] at v49
  rw [← e1 53 (by decide)] at v53
  rw [← e1 54 (by decide)] at v54
  rw [← e1 55 (by decide)] at v55
  rw [← e1 56 (by decide)] at v56
  rw [← e1 57 (by decide)] at v57
  exact ⟨⟨v1, v2⟩, hfo, v48, v49, v53, v54, v55, v56, v57⟩
