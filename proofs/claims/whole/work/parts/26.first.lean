def YX9_nearest : pw_Y := (RX9, "nearest", cX9_nearest, 3, (some .int))
theorem ywX9_nearest : pw_y yX9_nearest YX9_nearest 3 := ⟨by decide +kernel, by decide +kernel, by decide +kernel, pw_in 119 (by decide +kernel) (by decide +kernel), pw_in 78 (by decide +kernel) (by decide +kernel)⟩
theorem cwX9_241 : Cond.methodLink RX9 241 Lib.Math.min.name ∈ pw_G := pw_in 120 (by decide +kernel) (by decide +kernel)
theorem cwX9_247 : Cond.methodLink RX9 247 Lib.Math.max.name ∈ pw_G := pw_in 123 (by decide +kernel) (by decide +kernel)
def YJ7_rangeCheck_23922 : pw_Y := (RJ7, "rangeCheck", cJ7_rangeCheck_23922, 3, none)
theorem ywJ7_rangeCheck_23922 : pw_y yJ7_rangeCheck_23922 YJ7_rangeCheck_23922 3 := ⟨by decide +kernel, by decide +kernel, by decide +kernel, pw_in 424 (by decide +kernel) (by decide +kernel), pw_in 89 (by decide +kernel) (by decide +kernel)⟩
def YJ7_fill_fda19 : pw_Y := (RJ7, "fill", cJ7_fill_fda19, 5, none)
theorem ywJ7_fill_fda19 : pw_y yJ7_fill_fda19 YJ7_fill_fda19 4 := ⟨by decide +kernel, by decide +kernel, by decide +kernel, pw_in 421 (by decide +kernel) (by decide +kernel), pw_in 89 (by decide +kernel) (by decide +kernel)⟩
set_option maxHeartbeats 4000000 in
set_option maxRecDepth 100000 in
/-- nearest(v, lo, hi): of lo and (of hi and v the least) the greatest; nothing changes -/
theorem mX9_nearest {E : pw_E} (htr : E.1.stackTraces = false) {h : pz_H} {n : Nat} {v lo hi : Int} (hv : -2147483648 ≤ v ∧ v < 2147483648) (hlo : -2147483648 ≤ lo ∧ lo < 2147483648) (hhi : -2147483648 ≤ hi ∧ hi < 2147483648) : pw_M E yX9_nearest YX9_nearest (rmD 1 0 0) [.int (zI v), .int (zI lo), .int (zI hi)] h n (fun r h' n' => r = some (.int (zI (max lo (min hi v)))) ∧ h' = h ∧ n' = n) (fun _ _ _ => False) := by
  refine pw_M_of (lv := [some (.int (zI v)), some (.int (zI lo)), some (.int (zI hi))]) (by decide) rfl rfl htr (nle rfl) rfl (fun L => ?_)
  refine pw_iload_n dX9_nearest_0 rfl ?_
  refine pw_iload_n dX9_nearest_1 rfl ?_
  refine pw_iload_n dX9_nearest_2 rfl ?_
  refine pw_min cwX9_241 dX9_nearest_3 (by omega) (by omega) ⟨nle rfl, nle rfl⟩ ⟨Nat.le_refl _, Nat.le_refl _⟩ ?_
  refine pw_max cwX9_247 dX9_nearest_6 (by omega) (by omega) ⟨nle rfl, nle rfl⟩ ⟨Nat.le_refl _, Nat.le_refl _⟩ ?_
  exact pw_iret dX9_nearest_9 rfl (Nat.le_refl _) (Nat.le_refl _) ⟨rfl, rfl, rfl⟩
set_option maxHeartbeats 4000000 in
set_option maxRecDepth 100000 in
/-- Arrays.rangeCheck(N, a, b) where it is fine -/
theorem mJ7_rangeCheck {E : pw_E} (htr : E.1.stackTraces = false) {h : pz_H} {n : Nat} {N a b : Int} (ha : 0 ≤ a ∧ a ≤ b) (hb : b ≤ N ∧ N < 2147483648) : pw_M E yJ7_rangeCheck_23922 YJ7_rangeCheck_23922 (rmD 0 0 0) [.int (zI N), .int (zI a), .int (zI b)] h n (fun r h' n' => r = none ∧ h' = h ∧ n' = n) (fun _ _ _ => False) := by
  refine pw_M_of (lv := [some (.int (zI N)), some (.int (zI a)), some (.int (zI b))]) (by decide) rfl rfl htr (nle rfl) rfl (fun L => ?_)
  refine pw_iload_n dJ7_rangeCheck_23922_0 rfl ?_
  refine pw_iload_n dJ7_rangeCheck_23922_1 rfl ?_
  refine pw_icmp_le (tgt := 46) dJ7_rangeCheck_23922_2 rfl (by omega) (by omega) (fun c2 => ?_) (fun c2 => ?_)
  ·
    refine pw_iload_n dJ7_rangeCheck_23922_46 rfl ?_
    refine pw_if_ge (tgt := 59) dJ7_rangeCheck_23922_47 rfl (by omega) (fun c47 => ?_) (fun c47 => ?_)
    ·
      refine pw_iload_n dJ7_rangeCheck_23922_59 rfl ?_
      refine pw_iload_n dJ7_rangeCheck_23922_60 rfl ?_
      refine pw_icmp_le (tgt := 73) dJ7_rangeCheck_23922_61 rfl (by omega) (by omega) (fun c61 => ?_) (fun c61 => ?_)
      ·
        exact pw_vret dJ7_rangeCheck_23922_73 rfl (Nat.le_refl _) (Nat.le_refl _) ⟨rfl, rfl, rfl⟩
      · exfalso; omega
    · exfalso; omega
  · exfalso; omega
