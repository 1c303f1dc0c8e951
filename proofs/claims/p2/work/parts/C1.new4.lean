/-! ===== a new house: its picture, what redraw and select answer ===== -/
theorem wS {i w : Int} : (i + 1) * w = i * w + w := by rw [Int.add_mul, Int.one_mul]
theorem gk_lo {w H : Int} (hw : 0 ≤ w) : ∀ (j : Nat) (i : Int) (f : Nat → Int) (k : Nat), 0 ≤ i → (k : Int) < i * w → gkeepF w H 0 0 j i f k = f k
  | 0, _, _, _, _, _ => rfl
  | j + 1, i, f, k, hi, hk => by
    show gkeepF w H 0 0 j (i + 1) (gfill w H i (if i < 0 then 0 else 0) w 32 f) k = f k
    have e := @wS i w
    rw [gk_lo hw j (i + 1) _ k (by omega) (by omega)]
    unfold gfill
    rw [if_neg (show ¬ i < 0 by omega)]
    split
    · unfold zfill
      rw [if_neg (by omega)]
    · rfl
theorem gk_32 {w H : Int} (hw : 1 ≤ w) : ∀ (j : Nat) (i : Int) (f : Nat → Int) (k : Nat), 0 ≤ i → i + j ≤ H → i * w ≤ k → (k : Int) < (i + j) * w → gkeepF w H 0 0 j i f k = 32
  | 0, i, _, k, _, _, h1, h2 => by
    rw [show i + ((0 : Nat) : Int) = i by omega] at h2
    omega
  | j + 1, i, f, k, hi, hj, h1, h2 => by
    show gkeepF w H 0 0 j (i + 1) (gfill w H i (if i < 0 then 0 else 0) w 32 f) k = 32
    have e := @wS i w
    by_cases hk : (k : Int) < (i + 1) * w
    · rw [gk_lo (by omega) j (i + 1) _ k (by omega) hk]
      unfold gfill
      rw [if_neg (show ¬ i < 0 by omega), if_pos ⟨by omega, by omega, by omega, by omega, by omega⟩]
      unfold zfill
      rw [if_pos (by omega)]
    · refine gk_32 hw j (i + 1) _ k (by omega) (by omega) (by omega) ?_
      rw [show i + 1 + (j : Int) = i + ((j + 1 : Nat) : Int) by omega]
      exact h2
theorem nw_G {w H : Int} (hw : 8 ≤ w ∧ w ≤ 40) (hH : 4 ≤ H ∧ H ≤ 16) {k : Nat} (hk : (k : Int) < H * w) : zG (x0 w H).1.1 k = 32 := by
  show (if (x0 w H).1.1.1 17 = 0 then (x0 w H).1.1.2.1 else (x0 w H).1.1.2.2.1) k = 32
  rw [nw_17, if_pos rfl]
  show gkeepF w H 0 0 H.toNat 0 (zResize w H w H pX0.1.1).2.1 k = 32
  refine gk_32 (by omega) H.toNat 0 _ k (by omega) (by omega) (by omega) ?_
  rw [show (0 : Int) + (H.toNat : Int) = H by omega]
  exact hk
/-- a row of the view -/
theorem nw_row {w H r at_ : Int} {M : Nat} {q : Nat → Int} (hw : 8 ≤ w ∧ w ≤ 40) (hH : 4 ≤ H ∧ H ≤ 16) (hr : 0 ≤ r ∧ r < H) (ha : 0 ≤ at_ ∧ at_ + w ≤ M) : vRow w H (x0 w H).1.1 0 r at_ M q = va_cpy (zG (x0 w H).1.1) q (r * w).toNat at_.toNat w.toNat := by
  unfold vRow
  rw [nw_sz, nw_3, if_neg (by omega)]
  unfold ggive
  rw [show r - min (0 : Int) 0 = r by omega, if_pos ⟨by omega, by omega, by omega, by omega, by omega, by omega⟩]
theorem dp_lo {w H : Int} {N : Nat} (hw : 8 ≤ w ∧ w ≤ 40) (hH : 4 ≤ H ∧ H ≤ 16) (hN : (N : Int) = w * H) : ∀ (j : Nat) (r : Int) (f : Nat → Int) (k : Nat), 0 ≤ r → r + j = H → (k : Int) < r * w → dpRow w H N (x0 w H) (hP0 w H) j r f k = f k
  | 0, _, _, _, _, _, _ => rfl
  | j + 1, r, f, k, hr, hj, hk => by
    have e := @wS r w
    have z := zrow (w := w) (show 0 ≤ r by omega) (show r < H by omega) (by omega)
    show dpRow w H N (x0 w H) (hP0 w H) j (r + 1) (vRow w H (x0 w H).1.1 (x0 w H).2.1.2 r ((0 + r) * w + 0) N f) k = f k
    rw [dp_lo hw hH hN j (r + 1) _ k (by omega) (by omega) (by omega), nw_of, nw_row hw hH (by omega) (by rw [show (0 + r) * w + 0 = r * w by rw [Int.zero_add, Int.add_zero]]; omega)]
    unfold va_cpy
    rw [show (0 + r) * w + 0 = r * w by rw [Int.zero_add, Int.add_zero], if_neg (by omega)]
theorem dp_32 {w H : Int} {N : Nat} (hw : 8 ≤ w ∧ w ≤ 40) (hH : 4 ≤ H ∧ H ≤ 16) (hN : (N : Int) = w * H) : ∀ (j : Nat) (r : Int) (f : Nat → Int) (k : Nat), 0 ≤ r → r + j = H → r * w ≤ k → (k : Int) < H * w → dpRow w H N (x0 w H) (hP0 w H) j r f k = 32
  | 0, r, _, k, _, hj, h1, h2 => by
    rw [show r = H by omega] at h1
    omega
  | j + 1, r, f, k, hr, hj, h1, h2 => by
    have e := @wS r w
    have z := zrow (w := w) (show 0 ≤ r by omega) (show r < H by omega) (by omega)
    show dpRow w H N (x0 w H) (hP0 w H) j (r + 1) (vRow w H (x0 w H).1.1 (x0 w H).2.1.2 r ((0 + r) * w + 0) N f) k = 32
    by_cases hk : (k : Int) < (r + 1) * w
    · rw [dp_lo hw hH hN j (r + 1) _ k (by omega) (by omega) hk, nw_of, nw_row hw hH (by omega) (by rw [show (0 + r) * w + 0 = r * w by rw [Int.zero_add, Int.add_zero]]; omega)]
      unfold va_cpy
      rw [show (0 + r) * w + 0 = r * w by rw [Int.zero_add, Int.add_zero], if_pos (by omega)]
      refine nw_G hw hH ?_
      omega
    · exact dp_32 hw hH hN j (r + 1) _ k (by omega) (by omega) (by omega) h2
theorem nw_draw {w H : Int} {N B : Nat} (hw : 8 ≤ w ∧ w ≤ 40) (hH : 4 ≤ H ∧ H ≤ 16) (hN : (N : Int) = w * H) {k : Nat} (hk : (k : Int) < H * w) : hDraw w H N (hNew w H N B) k = 32 := by
  have e1 : brA (hP (hNew w H N B)) w N 9 (hRt (hNew w H N B)) (hPic (hNew w H N B)) = fun _ => 0 := by
    show (if ptSplit (hP0 w H) then _ else (fun _ => (0 : Int))) = fun _ => 0
    exact if_neg (fun z => by cases z.1 rfl)
  unfold hDraw
  rw [e1]
  show dpAll w H N (hX (hNew w H N B)) (hP (hNew w H N B)) (hLv (hNew w H N B)) 7 (0 + 1) (dpRow w H N (hX (hNew w H N B) 0) (hP0 w H) H.toNat 0 (fun _ => 0)) k = 32
  rw [nw_X]
  show dpRow w H N (x0 w H) (hP0 w H) H.toNat 0 (fun _ => 0) k = 32
  exact dp_32 hw hH hN H.toNat 0 _ k (by omega) (by omega) (by omega) hk
theorem sh_id {w H : Int} {N NB : Nat} {pic : Nat → Int} {t : oT} (hw : 8 ≤ w) (hN : (N : Int) = w * H) (hp : ∀ k : Nat, (k : Int) < H * w → t.2 k = pic k) {r : Int} (hr : 0 ≤ r ∧ r < H) : ∀ (j : Nat) (c : Int), 0 ≤ c → c + j ≤ w → shR NB w pic r j c t = t
  | 0, _, _, _ => rfl
  | j + 1, c, hc, hj => by
    have z := zrow (w := w) hr.1 hr.2 (by omega)
    have e := hp (r * w + c).toNat (by rw [Int.mul_comm H w]; omega)
    show shR NB w pic r j (c + 1) (shC NB w pic c r t) = t
    rw [show shC NB w pic c r t = t from by unfold shC; rw [if_pos e, if_pos e]]
    exact sh_id hw hN hp hr j (c + 1) (by omega) (by omega)
theorem shA_id {w H : Int} {N NB : Nat} {pic : Nat → Int} {t : oT} (hw : 8 ≤ w) (hN : (N : Int) = w * H) (hp : ∀ k : Nat, (k : Int) < H * w → t.2 k = pic k) : ∀ (j : Nat) (r : Int), 0 ≤ r → r + j ≤ H → shA NB w pic j r t = t
  | 0, _, _, _ => rfl
  | j + 1, r, hr, hj => by
    show shA NB w pic j (r + 1) (shR NB w pic r w.toNat 0 t) = t
    rw [sh_id hw hN hp (by omega) w.toNat 0 (by omega) (by omega)]
    exact shA_id hw hN hp j (r + 1) (by omega) (by omega)
theorem nw_red {w H : Int} {N NB B : Nat} (hw : 8 ≤ w ∧ w ≤ 40) (hH : 4 ≤ H ∧ H ≤ 16) (hN : (N : Int) = w * H) : (hOp (sRed w H N NB (hNew w H N B))).1 3 = 0 := by
  show (oEnd NB (hCc (hNew w H N B)) (hCr (hNew w H N B)) (hSee (hNew w H N B)) (hRed w H N NB (hNew w H N B)).1).1 3 = 0
  rw [nw_cc, nw_cr, nw_see]
  have e : hRed w H N NB (hNew w H N B) = ((va_up (hOp (hNew w H N B)).1 3 0, (hOp (hNew w H N B)).2), hSh (hNew w H N B)) := by
    unfold hRed
    refine shA_id (H := H) (by omega) hN (fun k hk => ?_) H.toNat 0 (by omega) (by omega)
    rw [nw_draw hw hH hN hk]
    show zfill (fun _ => 0) 0 N 32 k = 32
    unfold zfill
    rw [if_pos (by rw [hN, Int.mul_comm w H]; omega)]
  rw [e]
  rfl
/-- the end of a blank row -/
theorem nw_end {l : Nat → Int} {w : Int} (hl : ∀ k : Nat, (k : Int) < w → l k = 32) : ∀ (j : Nat) (e : Int), e < w → (j : Int) ≤ e + 1 → clEnd l j e = e - j
  | 0, e, _, _ => by show e = e - ((0 : Nat) : Int); omega
  | j + 1, e, h1, h2 => by
    show (if l e.toNat % 128 = 32 then clEnd l j (e - 1) else e) = e - ((j + 1 : Nat) : Int)
    rw [hl e.toNat (by omega), if_pos (by decide), nw_end hl j (e - 1) (by omega) (by omega)]
    omega
theorem nw_slC {l : Nat → Int} {w f e : Int} {c : clC} (hl : ∀ k : Nat, (k : Int) < w → l k = 32) (he : e < w) (hf : 0 ≤ f) (hfe : f ≤ e + 1) : slC l f e c = c := by
  unfold slC
  rw [nw_end hl _ e he (by omega), show (e - ((e + 1 - f).toNat : Int) + 1 - f).toNat = 0 by omega]
  rfl
theorem nw_sl {w H : Int} {NL : Nat} (hw : 8 ≤ w ∧ w ≤ 40) (hH : 4 ≤ H ∧ H ≤ 16) (hNL : (NL : Int) = w) {ro co tr tc : Int} (h1 : 0 ≤ ro) (h2 : tr < H) (h3 : 0 ≤ co ∧ co < w) (h4 : 0 ≤ tc ∧ tc < w) (h5 : ro < tr ∨ (ro = tr ∧ co ≤ tc)) : ∀ (j : Nat) (r : Int) (t : slT), r + j = tr + 1 → ro ≤ r → t.2.2 = max 0 (r - ro - 1) → (slA w H NL (x0 w H) ro co tr tc (w - 1) j r t).2.2 = max 0 (tr - ro)
  | 0, r, t, hj, hr, ht => by
    show t.2.2 = _
    rw [ht]; omega
  | j + 1, r, t, hj, hr, ht => by
    show (slA w H NL (x0 w H) ro co tr tc (w - 1) j (r + 1) (sl1 w H NL (x0 w H) ro co tr tc (w - 1) r t)).2.2 = _
    refine nw_sl hw hH hNL h1 h2 h3 h4 h5 j (r + 1) _ (by omega) (by omega) ?_
    have hl : ∀ k : Nat, (k : Int) < w → vRow w H (x0 w H).1.1 (x0 w H).2.1.2 r 0 NL t.1 k = 32 := fun k hk => by
      have z := zrow (w := w) (show 0 ≤ r by omega) (show r < H by omega) (by omega)
      rw [nw_of, nw_row hw hH (by omega) (by omega)]
      unfold va_cpy
      rw [if_pos (by omega)]
      refine nw_G hw hH ?_
      rw [Int.mul_comm H w]
      omega
    unfold sl1
    show (slC _ (slF ro co r) (slE tr tc (w - 1) r) (if ro < r then clB 10 t.2 else t.2)).2 = max 0 (r + 1 - ro - 1)
    have hf : 0 ≤ slF ro co r ∧ slF ro co r ≤ slE tr tc (w - 1) r + 1 ∧ slE tr tc (w - 1) r < w := by
      unfold slF slE
      split <;> split <;> omega
    rw [nw_slC hl hf.2.2 hf.1 hf.2.1]
    split
    · unfold clB
      rw [if_pos (by rw [ht]; omega)]
      show t.2.2 + 1 = _
      rw [ht]; omega
    · rw [ht]; omega
theorem nw_sel {w H : Int} {N NL B : Nat} (hw : 8 ≤ w ∧ w ≤ 40) (hH : 4 ≤ H ∧ H ≤ 16) (hNL : (NL : Int) = w) {ro co tr tc : Int} (h1 : 0 ≤ ro) (h2 : tr < H) (h3 : 0 ≤ co ∧ co < w) (h4 : 0 ≤ tc ∧ tc < w) (h5 : ro < tr ∨ (ro = tr ∧ co ≤ tc)) : (hSel w H NL 0 ro co tr tc (hNew w H N B)).2.2 = tr - ro := by
  unfold hSel
  rw [show Int.toNat 0 = 0 from rfl, nw_X, nw_3, nw_sl hw hH hNL h1 h2 h3 h4 h5 _ ro _ (by omega) (by omega) (by show (0 : Int) = _; omega)]
  omega
