/-! ===== the reference by the relations ===== -/
theorem rD_mo {W H M M' : Int} {t : aT} {B : Nat} {tr fo pr : Int} {h h' : pz_H} {n n' : Nat} (x : rD W H M t B tr fo pr h h' n n') (hM : M ≤ M') : rD W H M' t B tr fo pr h h' n n' := by
  obtain ⟨s', a, b, c⟩ := x
  exact ⟨s', a, rH_mo b hM, c⟩
section RJ
variable {E : pw_E} {h : pz_H} {n B : Nat} {s : mS} {W H M : Int} {t t' : aT}
theorem rJ_focus (htr : E.1.stackTraces = false) (hA : mAt B s h) (hW : 8 ≤ W ∧ W ≤ 40) (hHH : 4 ≤ H ∧ H ≤ 16) (hM : M ≤ 800000000) (hH : rH W H M t s) {p T fo' : Int} (h_p : -2147483648 ≤ p ∧ p < 2147483648) (hj : jFoc t p (s.1 47) T fo') : pw_M E yX10_focus YX10_focus (rmD 1 0 0) [.ref B, .int (zI (p))] h n (fun r0 h' n' => r0 = none ∧ rD W H (M + 400) t B T fo' (s.1 48) h h' n n') (fun _ _ _ => False) := by
  rcases hj with ⟨hp, rfl, rfl⟩ | ⟨hp, rfl, rfl⟩
  · exact pw_M_mo (nJ_focus2 htr hA hW hHH hM hH h_p hp) (fun _ _ _ q => ⟨q.1, rD_mo q.2 (by omega)⟩) (fun _ _ _ z => z)
  · exact pw_M_mo (nJ_focus1 htr hA hW hHH hM hH h_p hp) (fun _ _ _ q => ⟨q.1, rD_mo q.2 (by omega)⟩) (fun _ _ _ z => z)
theorem rJ_feed (htr : E.1.stackTraces = false) (hA : mAt B s h) (hW : 8 ≤ W ∧ W ≤ 40) (hHH : 4 ≤ H ∧ H ≤ 16) (hM : M ≤ 800000000) (hH : rH W H M t s) {p k T : Int} {v : Int64} (h_p : -2147483648 ≤ p ∧ p < 2147483648) (h_k : -2147483648 ≤ k ∧ k < 2147483648) (hj : jFd t p k T) : pw_M E yX10_feed YX10_feed (rmD 8 0 0) [.ref B, .int (zI (p)), .long (v), .int (zI (k))] h n (fun r0 h' n' => r0 = none ∧ rD W H (M + 400) t B T (s.1 47) (s.1 48) h h' n n') (fun _ _ _ => False) := by
  rcases hj with ⟨hp, hk, rfl⟩ | ⟨hp, rfl⟩ | ⟨hp, hk, rfl⟩
  · exact pw_M_mo (nJ_feed2 htr hA hW hHH hM hH h_p h_k hp hk) (fun _ _ _ q => ⟨q.1, rD_mo q.2 (by omega)⟩) (fun _ _ _ z => z)
  · exact pw_M_mo (nJ_feed1 htr hA hW hHH hM hH h_p h_k (T := 1) (Or.inl ⟨hp, rfl⟩)) (fun _ _ _ q => ⟨q.1, rD_mo q.2 (by omega)⟩) (fun _ _ _ z => z)
  · exact pw_M_mo (nJ_feed1 htr hA hW hHH hM hH h_p h_k (T := 2) (Or.inr ⟨hp, hk, rfl⟩)) (fun _ _ _ q => ⟨q.1, rD_mo q.2 (by omega)⟩) (fun _ _ _ z => z)
theorem rJ_split (htr : E.1.stackTraces = false) (hA : mAt B s h) (hW : 8 ≤ W ∧ W ≤ 40) (hHH : 4 ≤ H ∧ H ≤ 16) (hM : M ≤ 800000000) (hH : rH W H M t s) {p dn T fo' R : Int} {nc f g : Nat} (h_p : -2147483648 ≤ p ∧ p < 2147483648) (hdn : 0 ≤ dn ∧ dn ≤ 1) (hnc : ∀ b, b ∈ aX fc 8 t → b < nc) (hFr : (∃ q, q < 8 ∧ q ∉ aX fp 8 t) → frN s f g) (hfm : f ∉ aX fm 8 t) (hgm : g ∉ aX fm 8 t) (hj : jSp t nc f g p dn (s.1 47) T t' fo' R) : pw_M E yX10_split YX10_split (rmD 4 0 0) [.ref B, .int (zI (p)), .int (zI (dn))] h n (fun r0 h' n' => ((∃ v, r0 = some (.int (zI v))) ∧ (T = 0 → r0 = some (.int (zI R)))) ∧ rD W H (M + 400) t' B T fo' (s.1 48) h h' n n') (fun _ _ _ => False) := by
  rcases hj with ⟨hp, rfl, rfl, rfl⟩ | ⟨hp, hd, rfl, rfl, rfl⟩ | ⟨rfl, v, q, ⟨hd, hv, hpv, hq, rfl⟩, rfl, rfl⟩
  · exact pw_M_mo (nJ_split1 htr hA hW hHH hM hH h_p hp) (fun _ _ _ q => ⟨⟨⟨_, q.1⟩, fun z => by omega⟩, rD_mo q.2 (by omega)⟩) (fun _ _ _ z => z)
  · exact pw_M_mo (nJ_split2 htr hA hW hHH hM hH h_p hp hdn (rI_may0 hH.1 hH.2.1 hp hd)) (fun _ _ _ q => ⟨⟨⟨_, q.1⟩, fun z => by omega⟩, rD_mo q.2 (by omega)⟩) (fun _ _ _ z => z)
  · have p8 := hd.1
    have hpi : pIn t p := ⟨p8, aIn_p hH.1.1 hv hpv⟩
    have hm := (rI_dv hH.1 hH.2.1 hpi).mpr hd
    obtain ⟨p', rfl⟩ : ∃ p' : Nat, p = (p' : Int) := ⟨p.toNat, by omega⟩
    rw [Int.toNat_natCast] at hpv
    rw [Int.toNat_natCast]
    exact pw_M_mo (nJ_split3 (dn := 0) htr hA hW hHH hM hH hv hpv (by omega) hm hnc (hFr ⟨q, hq.1, hq.2.1⟩) hfm hgm (rI_lsF hH.2.1 hq)) (fun _ _ _ q => ⟨⟨⟨_, q.1⟩, fun _ => q.1⟩, rD_mo q.2 (by omega)⟩) (fun _ _ _ z => z)
theorem rJ_close (htr : E.1.stackTraces = false) (hA : mAt B s h) (hW : 8 ≤ W ∧ W ≤ 40) (hHH : 4 ≤ H ∧ H ≤ 16) (hM : M ≤ 800000000) (hH : rH W H M t s) {p T fo' R : Int} (h_p : -2147483648 ≤ p ∧ p < 2147483648) (hj : jCl t p (s.1 47) T t' fo' R) : pw_M E yX10_close YX10_close (rmD 4 0 0) [.ref B, .int (zI (p))] h n (fun r0 h' n' => ((∃ v, r0 = some (.int (zI v))) ∧ (T = 0 → r0 = some (.int (zI R)))) ∧ rD W H (M + 400) t' B T fo' (s.1 48) h h' n n') (fun _ _ _ => False) := by
  rcases hj with ⟨hp, rfl, rfl, rfl⟩ | ⟨hp, hd, rfl, rfl, rfl⟩ | ⟨rfl, u, v, z, r, ⟨hp, hu, e, hs, hpv, rfl, hr⟩, rfl, rfl⟩
  · exact pw_M_mo (nJ_close1 htr hA hW hHH hM hH h_p hp) (fun _ _ _ q => ⟨⟨⟨_, q.1⟩, fun z => by omega⟩, rD_mo q.2 (by omega)⟩) (fun _ _ _ z => z)
  · exact pw_M_mo (nJ_close2 htr hA hW hHH hM hH h_p hp hd) (fun _ _ _ q => ⟨⟨⟨_, q.1⟩, fun z => by omega⟩, rD_mo q.2 (by omega)⟩) (fun _ _ _ z => z)
  · have p8 := hp.1
    obtain ⟨p', rfl⟩ : ∃ p' : Nat, p = (p' : Int) := ⟨p.toNat, by omega⟩
    rw [Int.toNat_natCast] at hpv
    obtain ⟨r8, r0, r1⟩ := rI_lsU hH.1 hH.2.1 hu e hs hpv hr
    exact pw_M_mo (nJ_close3 htr hA hW hHH hM hH hu e hs hpv r8 r0 r1) (fun _ _ _ q => ⟨⟨⟨_, q.1⟩, fun _ => q.1⟩, rD_mo q.2 (by omega)⟩) (fun _ _ _ z => z)
theorem rJ_cmd (htr : E.1.stackTraces = false) (hA : mAt B s h) (hW : 8 ≤ W ∧ W ≤ 40) (hHH : 4 ≤ H ∧ H ≤ 16) (hM : M ≤ 800000000) (hH : rH W H M t s) {k fo' : Int} {nc f g : Nat} (h_k : -2147483648 ≤ k ∧ k < 2147483648) (hnc : ∀ b, b ∈ aX fc 8 t → b < nc) (hFr : (∃ q, q < 8 ∧ q ∉ aX fp 8 t) → frN s f g) (hfm : f ∉ aX fm 8 t) (hgm : g ∉ aX fm 8 t) (hj : jCm t nc f g (s.1 47) k t' fo') : pw_M E yX10_command YX10_command (rmD 4 0 0) [.ref B, .int (zI (k))] h n (fun r0 h' n' => r0 = none ∧ rD W H (M + 400) t' B (s.1 0) fo' (s.1 48) h h' n n') (fun _ _ _ => False) := by
  obtain ⟨v47, m47⟩ := hH.2.2.1.2.1
  have hpi : pIn t (s.1 47) := ⟨v47, m47⟩
  have ef : s.1 47 = (((s.1 47).toNat : Nat) : Int) := by omega
  have W4 : ∀ {Q : Option Value → pz_H → Nat → Prop}, pw_M E yX10_command YX10_command (rmD 4 0 0) [.ref B, .int (zI (k))] h n Q (fun _ _ _ => False) → (∀ r h' n', Q r h' n' → r = none ∧ rD W H M t' B (s.1 0) fo' (s.1 48) h h' n n') → pw_M E yX10_command YX10_command (rmD 4 0 0) [.ref B, .int (zI (k))] h n (fun r0 h' n' => r0 = none ∧ rD W H (M + 400) t' B (s.1 0) fo' (s.1 48) h h' n n') (fun _ _ _ => False) := fun a b => pw_M_mo a (fun r h' n' q => ⟨(b r h' n' q).1, rD_mo (b r h' n' q).2 (by omega)⟩) (fun _ _ _ z => z)
  rcases hj with ⟨dn, hk, hj⟩ | ⟨rfl, rfl, x, W', H', hG', hI', rfl⟩ | ⟨rfl, hj⟩ | ⟨hk, rfl, rfl⟩
  · rcases hk with ⟨rfl, rfl⟩ | ⟨rfl, rfl⟩
    · rcases hj with ⟨hd, rfl, rfl⟩ | ⟨v, q, ⟨hd, hv, hpv, hq, rfl⟩, rfl⟩
      · exact W4 (nK_34n htr hA hW hHH hM hH (rI_may0 hH.1 hH.2.1 hpi hd)) (fun _ _ _ q => q)
      · exact W4 (nK_34y (nc := nc) htr hA hW hHH hM hH ef ((rI_dv hH.1 hH.2.1 hpi).mpr hd) hv hpv hnc (hFr ⟨q, hq.1, hq.2.1⟩) hfm hgm (rI_lsF hH.2.1 hq)) (fun _ _ _ q => q)
    · rcases hj with ⟨hd, rfl, rfl⟩ | ⟨v, q, ⟨hd, hv, hpv, hq, rfl⟩, rfl⟩
      · exact W4 (nK_37n htr hA hW hHH hM hH (rI_may0 hH.1 hH.2.1 hpi hd)) (fun _ _ _ q => q)
      · exact W4 (nK_37y (nc := nc) htr hA hW hHH hM hH ef ((rI_dv hH.1 hH.2.1 hpi).mpr hd) hv hpv hnc (hFr ⟨q, hq.1, hq.2.1⟩) hfm hgm (rI_lsF hH.2.1 hq)) (fun _ _ _ q => q)
  · rw [next_eq v47 hG' hI' hH.2.1]
    exact pw_M_mo (nK_111 htr hA hW hHH hM hH) (fun _ _ _ q => ⟨q.1, rD_mo q.2 (by omega)⟩) (fun _ _ _ z => z)
  · rcases hj with ⟨he, rfl, rfl⟩ | ⟨u, v, z, r, ⟨hp, hu, e, hs, hpv, rfl, hr⟩, rfl⟩
    · exact W4 (nK_120n htr hA hW hHH hM hH he) (fun _ _ _ q => q)
    · obtain ⟨r8, r0, r1⟩ := rI_lsU hH.1 hH.2.1 hu e hs hpv hr
      exact W4 (nK_120y htr hA hW hHH hM hH hu e hs hpv r8 r0 r1 ef) (fun _ _ _ q => q)
  · by_cases k91 : k = 91
    · subst k91; exact W4 (nK_91 htr hA hW hHH hM hH) (fun _ _ _ q => q)
    by_cases k93 : k = 93
    · subst k93; exact nK_93 htr hA hW hHH hM hH
    by_cases k2 : k = 2
    · subst k2; exact nK_2 htr hA hW hHH hM hH
    exact W4 (nK_o htr hA hW hHH hM hH h_k ⟨hk.1, hk.2.1, hk.2.2.1, hk.2.2.2, k91, k93, k2⟩) (fun _ _ _ q => q)
theorem rJ_key (htr : E.1.stackTraces = false) (hA : mAt B s h) (hW : 8 ≤ W ∧ W ≤ 40) (hHH : 4 ≤ H ∧ H ≤ 16) (hM : M ≤ 800000000) (hH : rH W H M t s) {k T fo' pr' R : Int} {nc f g : Nat} (h_k : -2147483648 ≤ k ∧ k < 2147483648) (hnc : ∀ b, b ∈ aX fc 8 t → b < nc) (hFr : (∃ q, q < 8 ∧ q ∉ aX fp 8 t) → frN s f g) (hfm : f ∉ aX fm 8 t) (hgm : g ∉ aX fm 8 t) (hj : jKy t nc f g (s.1 47) (s.1 48) k T t' fo' pr' R) : pw_M E yX10_key YX10_key (rmD 5 0 0) [.ref B, .int (zI (k))] h n (fun r0 h' n' => ((∃ v, r0 = some (.int (zI v))) ∧ (T = 0 → r0 = some (.int (zI R)))) ∧ rD W H (M + 400) t' B T fo' pr' h h' n n') (fun _ _ _ => False) := by
  rcases hj with ⟨hk, rfl, rfl, rfl, rfl⟩ | ⟨hk, rfl, rfl, ⟨hp, rfl, rfl, rfl, rfl⟩ | ⟨hp, hk2, rfl, rfl, rfl⟩ | ⟨hp, rfl, hj⟩⟩
  · exact pw_M_mo (nJ_key1 htr hA hW hHH hM hH h_k hk) (fun _ _ _ q => ⟨⟨⟨_, q.1⟩, fun z => by omega⟩, rD_mo q.2 (by omega)⟩) (fun _ _ _ z => z)
  · exact pw_M_mo (nJ_key3 htr hA hW hHH hM hH hp) (fun _ _ _ q => ⟨⟨⟨_, q.1⟩, fun _ => q.1⟩, rD_mo q.2 (by omega)⟩) (fun _ _ _ z => z)
  · exact pw_M_mo (nJ_key4 htr hA hW hHH hM hH h_k hk hk2 hp) (fun _ _ _ q => ⟨⟨⟨_, q.1⟩, fun _ => q.1⟩, q.2⟩) (fun _ _ _ z => z)
  · exact pw_M_mo (nJ_key2 htr hA hW hHH hM hH h_k hk hp (fun h1 hA1 => rJ_cmd (s := mV 48 (0) (mV 0 (0) s)) htr hA1 hW hHH hM (rH_48 (rH_0 hH) (by omega)) h_k hnc hFr hfm hgm hj)) (fun _ _ _ q => ⟨⟨⟨_, q.1⟩, fun _ => q.1⟩, q.2⟩) (fun _ _ _ z => z)
end RJ
