theorem pw_ialdv {E : pw_E} {Y : pw_Y} {R : Room} {K : pw_K} {uc us pc : Nat} {lv : List (Option Value)} {st : List Value} {h : pz_H} {n t N a : Nat} {i v : Int} {g : Nat → Int} (ht : pw_T[t]? = some .int) (ho : h a = pz_z t N g) (hi : 0 ≤ i ∧ i < N) (hN : N < 2147483648) (hv : g i.toNat = v) (hd : decode Y.2.2.1 pc = .ok (.iaload, 1)) (kk : pw E Y R K uc us (pc + 1) lv (.int (zI v) :: st) h n) : pw E Y R K uc us pc lv (.int (zI i) :: .ref a :: st) h n :=
  pw_iald ht ho hi hN hd (by rw [hv]; exact kk)
theorem rP_put {w H : Int} {N NH : Nat} {I J : Nat → Nat} {s s' s0 : zSt} {R R' R0 q q' q0 : Nat → Int} {h : pz_H} (hA : rAt w H N NH I J s0 R0 q0 h) : rP w H N NH I J s' R' q' (rP w H N NH I J s R q h) = rP w H N NH I J s' R' q' h := by
  funext j
  by_cases e0 : j = J 0
  · unfold rP; simp only [if_pos e0]
  by_cases e1 : j = J 1
  · unfold rP; simp only [if_neg e0, if_pos e1]
  have e2 : ∀ h1 : pz_H, rP w H N NH I J s' R' q' h1 j = zP w H N NH I s' h1 j := fun h1 => by unfold rP; rw [if_neg e0, if_neg e1]
  rw [e2, e2]
  refine zP_congr j (fun hj => ?_)
  unfold rP; rw [if_neg e0, if_neg e1]
  exact scPut_other hj
/-- what holds of a Reader's numbers -/
def rOk (w H : Int) (s : zSt) (R q : Nat → Int) : Prop := zOk w H s ∧ (0 ≤ R 2 ∧ R 2 ≤ 4) ∧ (0 ≤ R 3 ∧ R 3 ≤ 1) ∧ (0 ≤ R 4 ∧ R 4 ≤ 1) ∧ (0 ≤ R 5 ∧ R 5 ≤ 3) ∧ ∀ k : Nat, 0 ≤ q k ∧ q k ≤ 999
def pChg (p c : Int) : Int := if 30 ≤ c ∧ c ≤ 37 then pCol p (c - 29) else if 40 ≤ c ∧ c ≤ 47 then pGnd p (c - 39) else if c = 0 then 0 else if c = 1 then p / 2 * 2 + 1 else if c = 4 then p / 4 * 4 + 2 + p % 2 else if c = 7 then p / 8 * 8 + 4 + p % 4 else if c = 22 then p / 2 * 2 else if c = 24 then p / 4 * 4 + p % 2 else if c = 27 then p / 8 * 8 + p % 4 else if c = 39 then pCol p 0 else if c = 49 then pGnd p 0 else p
theorem pChg_ok {p c : Int} (hp : 0 ≤ p ∧ p < 4096) : 0 ≤ pChg p c ∧ pChg p c < 4096 := by
  unfold pChg pCol pGnd
  split
  · omega
  split
  · omega
  split
  · omega
  split
  · omega
  split
  · omega
  split
  · omega
  split
  · omega
  split
  · omega
  split
  · omega
  split
  · omega
  split
  · omega
  exact hp
/-- m: the numbers from i on, told of them at most -/
def sPens (told : Int) (q : Nat → Int) : Nat → Int → Int → Int
  | 0, _, p => p
  | j + 1, i, p => if i < told then sPens told q j (i + 1) (pChg p (q i.toNat)) else p
def rTold (R : Nat → Int) : Int := if R 3 = 0 then R 2 else R 2 + 1
def zPens (R q : Nat → Int) (s : zSt) : zSt := zSet 8 (sPens (rTold R) q 4 0 (if rTold R = 0 then 0 else s.1 8)) s
/-- ? h, ? l -/
def zAsked (w H b : Int) (q : Nat → Int) (s : zSt) : zSt := if ¬ (b = 104 ∨ b = 108) then s else if q 0 = 7 then zSet 15 (if b = 104 then 1 else 0) s else if q 0 = 25 then zSet 16 (if b = 104 then 1 else 0) s else if q 0 = 47 then zShow w H (if b = 104 then 1 else 0) s else s
def rDigit (R q : Nat → Int) (d : Int) : Nat → Int := if R 2 < 4 then va_up q (R 2).toNat (min 999 (q (R 2).toNat * 10 + d)) else q
def rDigitR (R : Nat → Int) : Nat → Int := if R 2 < 4 then va_up R 3 1 else R
