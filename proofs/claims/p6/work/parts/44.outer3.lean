theorem pw_b01 {E : pw_E} {Y : pw_Y} {R : Room} {K : pw_K} {uc us pc : Nat} {lv : List (Option Value)} {st : List Value} {h : pz_H} {n : Nat} {a : Int} (d0 : decode Y.2.2.1 pc = .ok (.ifCond .eq 7, 3)) (d3 : decode Y.2.2.1 (pc + 3) = .ok (.iconst 1, 1)) (d4 : decode Y.2.2.1 (pc + 3 + 1) = .ok (.goto 4, 3)) (d7 : decode Y.2.2.1 (pc + 7) = .ok (.iconst 0, 1)) (ha : -2147483648 ≤ a ∧ a < 2147483648) (kk : pw E Y R K uc us (pc + 8) lv (.int (zI (if a = 0 then 0 else 1)) :: st) h n) : pw E Y R K uc us pc lv (.int (zI a) :: st) h n := by
  refine pw_if_eq (tgt := pc + 7) d0 (by omega) ha (fun c => ?_) (fun c => ?_)
  · refine pw_iconst (v := zI 0) d7 (by decide) ?_
    rw [if_pos c] at kk
    exact kk
  · refine pw_iconst (v := zI 1) d3 (by decide) ?_
    refine pw_goto (tgt := pc + 8) d4 (by omega) ?_
    rw [if_neg c] at kk
    exact kk
theorem b01 (a : Int) : 0 ≤ (if a = 0 then (0 : Int) else 1) ∧ (if a = 0 then (0 : Int) else 1) ≤ 1 := by split <;> omega
set_option maxRecDepth 100000 in
theorem pn_t2 {k : Nat} (hk : k < 4096) : zI (k : Int) &&& zI 2 = zI (((k / 2 % 2 * 2 : Nat)) : Int) := zall (P := fun k => zI (k : Int) &&& zI 2 = zI (((k / 2 % 2 * 2 : Nat)) : Int)) (fun _ => inferInstance) (by decide +kernel) hk
set_option maxRecDepth 100000 in
theorem pn_t4 {k : Nat} (hk : k < 4096) : zI (k : Int) &&& zI 4 = zI (((k / 4 % 2 * 4 : Nat)) : Int) := zall (P := fun k => zI (k : Int) &&& zI 4 = zI (((k / 4 % 2 * 4 : Nat)) : Int)) (fun _ => inferInstance) (by decide +kernel) hk
theorem zT2 {p : Int} (hp : 0 ≤ p ∧ p < 4096) : zI p &&& zI 2 = zI (p / 2 % 2 * 2) := by
  obtain ⟨a, rfl⟩ := Int.eq_ofNat_of_zero_le hp.1
  exact (pn_t2 (by omega)).trans (by congr 1)
theorem zT4 {p : Int} (hp : 0 ≤ p ∧ p < 4096) : zI p &&& zI 4 = zI (p / 4 % 2 * 4) := by
  obtain ⟨a, rfl⟩ := Int.eq_ofNat_of_zero_le hp.1
  exact (pn_t4 (by omega)).trans (by congr 1)
theorem zT1 {p : Int} (hp : 0 ≤ p ∧ p < 4096) : zI p &&& zI 1 = zI (p % 2) := (zI_and 1 (by decide) hp.1 (by omega)).trans rfl
theorem zT15 {p : Int} (hp : 0 ≤ p ∧ p < 4096) : zI p &&& zI 15 = zI (p % 16) := (zI_and 4 (by decide) hp.1 (by omega)).trans rfl
theorem zR4 {p : Int} (hp : 0 ≤ p ∧ p < 4096) : zI p >>> (zI 4 &&& 31) = zI (p / 16) := by
  obtain ⟨a, rfl⟩ := Int.eq_ofNat_of_zero_le hp.1
  exact (pk_shrN (n := a) (by omega) (zI 4 &&& 31) 4 (by decide)).trans (by congr 1)
theorem zR8 {p : Int} (hp : 0 ≤ p ∧ p < 4096) : zI p >>> (zI 8 &&& 31) = zI (p / 256) := by
  obtain ⟨a, rfl⟩ := Int.eq_ofNat_of_zero_le hp.1
  exact (pk_shrN (n := a) (by omega) (zI 8 &&& 31) 8 (by decide)).trans (by congr 1)
/-- the bytes that bring the outer PEN to a -/
def penB (a : Int) : List Int := ([27] ++ [91] ++ [48]) ++ partB (if a % 2 = 0 then 0 else 1) 1 ++ partB (if a / 2 % 2 * 2 = 0 then 0 else 1) 4 ++ partB (if a / 4 % 2 * 4 = 0 then 0 else 1) 7 ++ partB (if a / 16 % 16 = 0 then 0 else 1) (29 + a / 16 % 16) ++ partB (if a / 256 % 16 = 0 then 0 else 1) (39 + a / 256 % 16) ++ [109]
def oPen (NB : Nat) (a : Int) (p : oPr) : oPr := if p.1 6 = a then p else oApp NB (penB a) (va_up p.1 6 a, p.2)
theorem oMove_3 {NB : Nat} {c r : Int} {p : oPr} (hp : 0 ≤ p.1 3 ∧ p.1 3 ≤ NB) : 0 ≤ (oMove NB c r p).1 3 ∧ (oMove NB c r p).1 3 ≤ NB := by
  unfold oMove
  split
  · exact hp
  · exact oApp_3 (p := (va_up (va_up p.1 4 c) 5 r, p.2)) hp
theorem oMove_6 {NB : Nat} {c r : Int} {p : oPr} : (oMove NB c r p).1 6 = p.1 6 := by
  unfold oMove; split <;> rfl
theorem oPen_3 {NB : Nat} {a : Int} {p : oPr} (hp : 0 ≤ p.1 3 ∧ p.1 3 ≤ NB) : 0 ≤ (oPen NB a p).1 3 ∧ (oPen NB a p).1 3 ≤ NB := by
  unfold oPen
  split
  · exact hp
  · exact oApp_3 (p := (va_up p.1 6 a, p.2)) hp
/-- a cell of the picture is shown -/
def oShowP (NB : Nat) (w c r v : Int) (p : oPr) : oPr := (va_up (oApp NB [v % 128] (oPen NB (v / 128) (oMove NB c r p))).1 4 (if c = w - 1 then -1 else c + 1), (oApp NB [v % 128] (oPen NB (v / 128) (oMove NB c r p))).2)
def seenB (b : Int) : List Int := ([27] ++ [91] ++ [63]) ++ numB 25 ++ [if b = 0 then 108 else 104]
def oEnd (NB : Nat) (c r b : Int) (p : oPr) : oPr := if b = (if b = 0 then p else oMove NB c r p).1 7 then (if b = 0 then p else oMove NB c r p) else oApp NB (seenB b) (va_up (if b = 0 then p else oMove NB c r p).1 7 b, (if b = 0 then p else oMove NB c r p).2)
theorem oMove_7 {NB : Nat} {c r : Int} {p : oPr} : (oMove NB c r p).1 7 = p.1 7 := by
  unfold oMove; split <;> rfl
