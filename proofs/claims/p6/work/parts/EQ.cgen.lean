/-! ===== the class: what holds between calls ===== -/
theorem oEnd_no {NB : Nat} {c r b : Int} {p : oPr} {sh : Nat → Int} (hn : oNo NB p sh) (hc : -1 ≤ c ∧ c < 99) (hr : 0 ≤ r ∧ r < 99) (hb : 0 ≤ b ∧ b ≤ 1) : oNo NB (oEnd NB c r b p) sh := by
  have hm : oNo NB (if b = 0 then p else oMove NB c r p) sh := by
    split
    · exact hn
    · obtain ⟨h3, h4, h5, h6, h7, hs⟩ := hn
      have m := @oMove_45 NB c r p
      exact ⟨oMove_3 h3, by rw [m.1]; exact hc, by rw [m.2.1]; exact hr, by rw [m.2.2]; exact h6, by rw [oMove_7]; exact h7, hs⟩
  unfold oEnd
  revert hm
  generalize (if b = 0 then p else oMove NB c r p) = q
  intro hm
  split
  · exact hm
  · obtain ⟨h3, h4, h5, h6, h7, hs⟩ := hm
    exact ⟨oApp_3 (p := (va_up q.1 7 b, q.2)) h3, h4, h5, h6, hb, hs⟩
theorem rEx {r : Option Value} {a : Int} (er : r = some (.int (zI a))) : ∃ v : Int, (-2147483648 ≤ v ∧ v < 2147483648) ∧ r = some (.int (zI v)) := by
  obtain ⟨v, hv, ev⟩ := zI_ex a
  exact ⟨v, hv, er.trans (by rw [ev])⟩
theorem hGd_red {w H M : Int} {N NH NB NL : Nat} {s : hS} (hG : geoH w H N NH NB NL) (hg : hGd w H M NB s) : hGd w H M NB (sRed w H N NB s) := by
  obtain ⟨gG, gNB, gNL⟩ := hG
  obtain ⟨gw, gH, gN, gN2, gNH⟩ := gG
  have hg0 := hg
  obtain ⟨gP, gL, gY, gF, gFl, gPr, gC, gO, gPi, gLi⟩ := hg
  obtain ⟨gO3, gO4, gO5, gO6, gO7, gOc⟩ := gO
  obtain ⟨p3, p4, p5, p6, p9, p10, pcl, pT, pR, pcm, pof, pto⟩ := gP (hFoc s).toNat (by omega)
  have hsee : 0 ≤ hSee s ∧ hSee s ≤ 1 := by unfold hSee; split <;> omega
  obtain ⟨le, hle⟩ := Option.ne_none_iff_exists'.mp gFl
  obtain ⟨a2, a3, a0, a1⟩ := gY.2.2.2.2.2 _ _ hle
  have hno : oNo NB (hRed w H N NB s).1 (hRed w H N NB s).2 := shA_no (NB := NB) (hDraw_cr (N := N) hg0) ⟨by omega, gw.2⟩ gH.2 H.toNat 0 ((va_up (hOp s).1 3 0, (hOp s).2), hSh s) (by rw [Int.sub_zero]) (by omega) (by omega) ⟨⟨by show (0 : Int) ≤ 0; decide, by show (0 : Int) ≤ NB; omega⟩, gO4, gO5, gO6, gO7, gOc⟩
  have ecc : hCc s = (hP s le).1 0 + (hX s (hFoc s).toNat).1.1.1 5 := by unfold hCc; rw [hle]; rfl
  have ecr : hCr s = (hP s le).1 1 + (hX s (hFoc s).toNat).1.1.1 6 := by unfold hCr; rw [hle]; rfl
  exact hGd_out (hGd_cell hg0) (oEnd_no hno (by rw [ecc]; omega) (by rw [ecr]; omega) hsee)
theorem hAt_kp {w H : Int} {N NH NB NL B : Nat} {s : hS} {h h' : pz_H} (hA : hAt w H N NH NB NL B s h) (e : ∀ a, B ≤ a → a < B + 115 → h' a = h a) (eD : ∀ a, hD s a = true → h' a = h a) : hAt w H N NH NB NL B s h' := by
  obtain ⟨a1, a2, a3, a4, a5, a6, a7, a8, a9, a10, a11⟩ := hA
  exact ⟨(e _ (by omega) (by omega)).trans a1, (e _ (by omega) (by omega)).trans a2, (e _ (by omega) (by omega)).trans a3, fun j hj => pnAt_of (a4 j hj) (fun a h3 h4 => e a (by omega) (by omega)), (e _ (by omega) (by omega)).trans a5, (e _ (by omega) (by omega)).trans a6, oAt_of a7 (e _ (by show B ≤ B + 110; omega) (by show B + 110 < B + 115; omega)) (e _ (by show B ≤ B + 111; omega) (by show B + 111 < B + 115; omega)) (e _ (by show B ≤ B + 112; omega) (by show B + 112 < B + 115; omega)), (e _ (by omega) (by omega)).trans a8, (e _ (by omega) (by omega)).trans a9, fun a ha => (eD a ha).trans (a10 a ha), a11⟩
def cH (W H M : Int) (N NH NB NL n : Nat) (t : aT) (fo pr : Int) (x : hS) (h : pz_H) : Prop := hAt W H N NH NB NL 0 x h ∧ hGd W H M NB x ∧ cI W H 8 t x ∧ cJ x ∧ (hFoc x = fo ∧ hPre x = pr) ∧ ∀ b, hD x b = true → b = 109 ∨ (166 ≤ b ∧ b < n)
def cK (W H M : Int) (N NH NB NL n : Nat) (t : aT) (fo pr : Int) (h h' : pz_H) (n' : Nat) : Prop := (∃ x, cH W H M N NH NB NL n' t fo pr x h') ∧ (∀ a, 115 ≤ a → a < 166 → h' a = h a) ∧ n ≤ n' ∧ n' ≤ n + 2
def cW (W H M : Int) (N NH NB NL n : Nat) (t : aT) (fo pr : Int) (V : (Nat → Int64) → Prop) (h h' : pz_H) (n' : Nat) : Prop := (∃ x, cH W H M N NH NB NL n' t fo pr x h') ∧ (∀ a, 115 ≤ a → a < 165 → h' a = h a) ∧ (∃ g, h' 165 = pz_j 2 1 g ∧ V g) ∧ n ≤ n' ∧ n' ≤ n + 2
section CK
variable {W H M M' : Int} {N NH NB NL n n' : Nat} {t : aT} {fo pr : Int} {x : hS} {h h' h1 : pz_H}
theorem cI_eq {k : Nat} {x x' : hS} (e : x'.2.1 = x.2.1) (hI : cI W H k t x) : cI W H k t x' := by
  have e1 : hP x' = hP x := congrArg (fun z => z.2.1) e
  have e2 : hRt x' = hRt x := congrArg (fun z => z.2.2.1) e
  have e3 : hD x' = hD x := congrArg (fun z => z.1) e
  have e4 : hLv x' = hLv x := congrArg (fun z => z.2.2.2) e
  unfold cI
  rw [e1, e2, e3, e4]
  exact hI
theorem cJ_eq {x x' : hS} (e : x'.2.1 = x.2.1) (hJ : cJ x) : cJ x' := by
  have e1 : hP x' = hP x := congrArg (fun z => z.2.1) e
  have e3 : hD x' = hD x := congrArg (fun z => z.1) e
  unfold cJ
  rw [e1, e3]
  exact hJ
theorem cH_kp (hC : cH W H M N NH NB NL n t fo pr x h) (e : ∀ a, (a < 115 ∨ 166 ≤ a) → h' a = h a) : cH W H M N NH NB NL n t fo pr x h' :=
  ⟨hAt_kp hC.1 (fun a _ h2 => e a (by omega)) (fun a ha => e a (by have := hC.2.2.2.2.2 a ha; omega)), hC.2⟩
theorem cH_mo (hC : cH W H M N NH NB NL n t fo pr x h) (hM : M ≤ M') (hn : n ≤ n') : cH W H M' N NH NB NL n' t fo pr x h :=
  ⟨hC.1, hGd_mono hC.2.1 hM, hC.2.2.1, hC.2.2.2.1, hC.2.2.2.2.1, fun b hb => by have := hC.2.2.2.2.2 b hb; omega⟩
theorem cK_s (hC : cH W H M N NH NB NL n t fo pr x h) (hM : M ≤ M') : cK W H M' N NH NB NL n t fo pr h h n := ⟨⟨x, cH_mo hC hM (Nat.le_refl n)⟩, fun _ _ _ => rfl, Nat.le_refl _, by omega⟩
theorem cF_fr (hC : cH W H M N NH NB NL n t fo pr x h) (hn : 166 ≤ n) (hF : hFr 0 n (hD x) h h') : ∀ a, 115 ≤ a → a < 166 → h' a = h a := fun a h1 h2 => hF a (by omega) (by omega) (fun z => by have := hC.2.2.2.2.2 a z; omega)
theorem cK_x {x' : hS} {fo' pr' : Int} (hC : cH W H M N NH NB NL n t fo pr x h) (hn : 166 ≤ n) (hA : hAt W H N NH NB NL 0 x' h') (hg : hGd W H M' NB x') (e : x'.2.1 = x.2.1) (ef : hFoc x' = fo') (ep : hPre x' = pr') (hF : hFr 0 n (hD x) h h') : cK W H M' N NH NB NL n t fo' pr' h h' n :=
  ⟨⟨x', hA, hg, cI_eq e hC.2.2.1, cJ_eq e hC.2.2.2.1, ⟨ef, ep⟩, by rw [show hD x' = hD x from congrArg (fun z => z.1) e]; exact hC.2.2.2.2.2⟩, cF_fr hC hn hF, Nat.le_refl _, by omega⟩
theorem cW_k {V : (Nat → Int64) → Prop} {f : Nat → Int64} (hk : cK W H M N NH NB NL n t fo pr h h' n') (ho : h 165 = pz_j 2 1 f) (hV : V f) : cW W H M N NH NB NL n t fo pr V h h' n' := ⟨hk.1, fun a h1 h2 => hk.2.1 a h1 (by omega), ⟨f, (hk.2.1 165 (by omega) (by omega)).trans ho, hV⟩, hk.2.2⟩
theorem cW_v {V : (Nat → Int64) → Prop} {g : Nat → Int64} (hk : cK W H M N NH NB NL n t fo pr h h1 n') (hV : V g) : cW W H M N NH NB NL n t fo pr V h (va_up h1 165 (pz_j 2 1 g)) n' := by
  obtain ⟨⟨x, hx⟩, k2, k3⟩ := hk
  exact ⟨⟨x, cH_kp hx (fun a ha => va_up_ne _ _ (by omega))⟩, fun a h1 h2 => (va_up_ne _ _ (by omega)).trans (k2 a h1 (by omega)), ⟨g, va_up_self _ _ _, hV⟩, k3⟩
theorem cI_has {p : Int} (hG : aG 8 t W H) (hI : cI W H 8 t x) : lyHas (hLv x) p = 1 ↔ pIn t p := by
  unfold lyHas pIn
  constructor
  · intro z
    split at z
    · next c => exact ⟨⟨c.1, c.2.1⟩, hI.2.2.2.2 _ c.2.2⟩
    · omega
  · rintro ⟨c1, c2⟩
    obtain ⟨v, hv, ev⟩ := aP_in 8 t c2
    exact if_pos ⟨c1.1, c1.2, by rw [hI.2.2.2.1 v hv _ ev]; exact fun y => by cases y⟩
theorem cI_has0 {p : Int} (hG : aG 8 t W H) (hI : cI W H 8 t x) (h0 : lyHas (hLv x) p = 0) : ¬ pIn t p := fun z => by
  have := (cI_has hG hI).mpr z
  omega
end CK
set_option maxHeartbeats 1000000 in
set_option maxRecDepth 100000 in
theorem cV_out {E : pw_E} (htr : E.1.stackTraces = false) {W H M : Int} {N NH NB NL n : Nat} {t : aT} {fo pr : Int} {x : hS} {h : pz_H} (hG : geoH W H N NH NB NL) (hC : cH W H M N NH NB NL n t fo pr x h) (hM : 0 ≤ M ∧ M ≤ 800000000) (hn : 166 ≤ n) {i : Int} (h_i : -2147483648 ≤ i ∧ i < 2147483648)  : pw_M E yX9_out YX9_out (rmD 6 1 6) [.ref 0, .int (zI (i))] h n (fun r h' n' => (∃ v : Int, (-2147483648 ≤ v ∧ v < 2147483648) ∧ r = some (.int (zI v))) ∧ cK W H (M + 400) N NH NB NL n t fo pr h h' n') (fun C h' n' => (C = "java/lang/IndexOutOfBoundsException") ∧ cK W H (M + 400) N NH NB NL n t fo pr h h' n') := by
  have hM2 : M ≤ M + 400 := by omega
  refine pw_M_mo (mX9_out (M := M) (B := 0) htr hG hC.1 hC.2.1 (by omega) h_i ) (fun r h' n' hq => ?_) (fun C h' n' hq => ?_)
  · obtain ⟨-, er, e1, e2⟩ := hq
    refine ⟨rEx er, ?_⟩
    rw [e1, e2]
    exact cK_s hC hM2
  · rcases hq with ⟨ec, -, e1, e2⟩
    rw [e1, e2]; exact ⟨ec, cK_s hC hM2⟩
set_option maxHeartbeats 1000000 in
set_option maxRecDepth 100000 in
theorem wV_out {E : pw_E} (htr : E.1.stackTraces = false) {W H M : Int} {N NH NB NL n : Nat} {t : aT} {fo pr : Int} {x : hS} {h : pz_H} (hG : geoH W H N NH NB NL) (hC : cH W H M N NH NB NL n t fo pr x h) (hM : 0 ≤ M ∧ M ≤ 800000000) (hn : 166 ≤ n) {i : Int} (h_i : -2147483648 ≤ i ∧ i < 2147483648)  {f : Nat → Int64} (ho : h 165 = pz_j 2 1 f) : pw_MH E yL_out YL_out [(0, 9, 12, 13)] (rmD (6 + 1) 1 6) [.ref 0, .int (zI (i)), .ref 165] h n (fun r0 h' n' => (∃ v, r0 = some (.int (zI v))) ∧ cW W H (M + 400) N NH NB NL n t fo pr (fun _ => True) h h' n') (fun _ _ _ => False) := by
  refine pw_MH_mo (wL_out (f := f) (dd := 6) (mc := 1) (ms := 6) htr hC.1.1 (cV_out htr hG hC hM hn h_i ) (fun r h' n' z => ?_) (fun C h' n' z => z.1)) (fun r0 h' n' q => ?_)
  · obtain ⟨⟨v, hv, er⟩, k⟩ := z
    exact ⟨v, hv, er, (k.2.1 165 (by omega) (by omega)).trans ho⟩
  · rcases q with ⟨v, h1, q, -, e, rfl⟩ | ⟨q, e⟩
    · exact ⟨⟨_, e⟩, cW_v q.2 trivial⟩
    · exact ⟨⟨_, e⟩, cW_k q.2 ho trivial⟩
set_option maxHeartbeats 1000000 in
set_option maxRecDepth 100000 in
theorem cV_copied {E : pw_E} (htr : E.1.stackTraces = false) {W H M : Int} {N NH NB NL n : Nat} {t : aT} {fo pr : Int} {x : hS} {h : pz_H} (hG : geoH W H N NH NB NL) (hC : cH W H M N NH NB NL n t fo pr x h) (hM : 0 ≤ M ∧ M ≤ 800000000) (hn : 166 ≤ n) {i : Int} (h_i : -2147483648 ≤ i ∧ i < 2147483648)  : pw_M E yX9_copied YX9_copied (rmD 6 1 6) [.ref 0, .int (zI (i))] h n (fun r h' n' => (∃ v : Int, (-2147483648 ≤ v ∧ v < 2147483648) ∧ r = some (.int (zI v))) ∧ cK W H (M + 400) N NH NB NL n t fo pr h h' n') (fun C h' n' => (C = "java/lang/IndexOutOfBoundsException") ∧ cK W H (M + 400) N NH NB NL n t fo pr h h' n') := by
  have hM2 : M ≤ M + 400 := by omega
  refine pw_M_mo (mX9_copied (M := M) (B := 0) htr hG hC.1 hC.2.1 (by omega) h_i ) (fun r h' n' hq => ?_) (fun C h' n' hq => ?_)
  · obtain ⟨-, er, e1, e2⟩ := hq
    refine ⟨rEx er, ?_⟩
    rw [e1, e2]
    exact cK_s hC hM2
  · rcases hq with ⟨ec, -, e1, e2⟩
    rw [e1, e2]; exact ⟨ec, cK_s hC hM2⟩
set_option maxHeartbeats 1000000 in
set_option maxRecDepth 100000 in
theorem wV_copied {E : pw_E} (htr : E.1.stackTraces = false) {W H M : Int} {N NH NB NL n : Nat} {t : aT} {fo pr : Int} {x : hS} {h : pz_H} (hG : geoH W H N NH NB NL) (hC : cH W H M N NH NB NL n t fo pr x h) (hM : 0 ≤ M ∧ M ≤ 800000000) (hn : 166 ≤ n) {i : Int} (h_i : -2147483648 ≤ i ∧ i < 2147483648)  {f : Nat → Int64} (ho : h 165 = pz_j 2 1 f) : pw_MH E yL_copied YL_copied [(0, 9, 12, 13)] (rmD (6 + 1) 1 6) [.ref 0, .int (zI (i)), .ref 165] h n (fun r0 h' n' => (∃ v, r0 = some (.int (zI v))) ∧ cW W H (M + 400) N NH NB NL n t fo pr (fun _ => True) h h' n') (fun _ _ _ => False) := by
  refine pw_MH_mo (wL_copied (f := f) (dd := 6) (mc := 1) (ms := 6) htr hC.1.1 (cV_copied htr hG hC hM hn h_i ) (fun r h' n' z => ?_) (fun C h' n' z => z.1)) (fun r0 h' n' q => ?_)
  · obtain ⟨⟨v, hv, er⟩, k⟩ := z
    exact ⟨v, hv, er, (k.2.1 165 (by omega) (by omega)).trans ho⟩
  · rcases q with ⟨v, h1, q, -, e, rfl⟩ | ⟨q, e⟩
    · exact ⟨⟨_, e⟩, cW_v q.2 trivial⟩
    · exact ⟨⟨_, e⟩, cW_k q.2 ho trivial⟩
set_option maxHeartbeats 1000000 in
set_option maxRecDepth 100000 in
theorem cV_count {E : pw_E} (htr : E.1.stackTraces = false) {W H M : Int} {N NH NB NL n : Nat} {t : aT} {fo pr : Int} {x : hS} {h : pz_H} (hG : geoH W H N NH NB NL) (hC : cH W H M N NH NB NL n t fo pr x h) (hM : 0 ≤ M ∧ M ≤ 800000000) (hn : 166 ≤ n) {k : Int} (h_k : -2147483648 ≤ k ∧ k < 2147483648)  : pw_M E yX9_count YX9_count (rmD 6 1 6) [.ref 0, .int (zI (k))] h n (fun r h' n' => (∃ v : Int, (-2147483648 ≤ v ∧ v < 2147483648) ∧ r = some (.int (zI v))) ∧ cK W H (M + 400) N NH NB NL n t fo pr h h' n') (fun C h' n' => (C = "java/lang/IllegalArgumentException") ∧ cK W H (M + 400) N NH NB NL n t fo pr h h' n') := by
  have hM2 : M ≤ M + 400 := by omega
  refine pw_M_mo (mX9_count (M := M) (B := 0) htr hG hC.1 hC.2.1 (by omega) h_k ) (fun r h' n' hq => ?_) (fun C h' n' hq => ?_)
  · obtain ⟨-, er, e1, e2⟩ := hq
    refine ⟨rEx er, ?_⟩
    rw [e1, e2]
    exact cK_s hC hM2
  · rcases hq with ⟨ec, -, e1, e2⟩
    rw [e1, e2]; exact ⟨ec, cK_s hC hM2⟩
set_option maxHeartbeats 1000000 in
set_option maxRecDepth 100000 in
theorem wV_count {E : pw_E} (htr : E.1.stackTraces = false) {W H M : Int} {N NH NB NL n : Nat} {t : aT} {fo pr : Int} {x : hS} {h : pz_H} (hG : geoH W H N NH NB NL) (hC : cH W H M N NH NB NL n t fo pr x h) (hM : 0 ≤ M ∧ M ≤ 800000000) (hn : 166 ≤ n) {k : Int} (h_k : -2147483648 ≤ k ∧ k < 2147483648)  {f : Nat → Int64} (ho : h 165 = pz_j 2 1 f) : pw_MH E yL_count YL_count [(0, 9, 12, 15)] (rmD (6 + 1) 1 6) [.ref 0, .int (zI (k)), .ref 165] h n (fun r0 h' n' => (∃ v, r0 = some (.int (zI v))) ∧ cW W H (M + 400) N NH NB NL n t fo pr (fun _ => True) h h' n') (fun _ _ _ => False) := by
  refine pw_MH_mo (wL_count (f := f) (dd := 6) (mc := 1) (ms := 6) htr hC.1.1 (cV_count htr hG hC hM hn h_k ) (fun r h' n' z => ?_) (fun C h' n' z => z.1)) (fun r0 h' n' q => ?_)
  · obtain ⟨⟨v, hv, er⟩, k⟩ := z
    exact ⟨v, hv, er, (k.2.1 165 (by omega) (by omega)).trans ho⟩
  · rcases q with ⟨v, h1, q, -, e, rfl⟩ | ⟨q, e⟩
    · exact ⟨⟨_, e⟩, cW_v q.2 trivial⟩
    · exact ⟨⟨_, e⟩, cW_k q.2 ho trivial⟩
set_option maxHeartbeats 1000000 in
set_option maxRecDepth 100000 in
theorem cV_about {E : pw_E} (htr : E.1.stackTraces = false) {W H M : Int} {N NH NB NL n : Nat} {t : aT} {fo pr : Int} {x : hS} {h : pz_H} (hG : geoH W H N NH NB NL) (hC : cH W H M N NH NB NL n t fo pr x h) (hM : 0 ≤ M ∧ M ≤ 800000000) (hn : 166 ≤ n) {p k : Int} (h_p : -2147483648 ≤ p ∧ p < 2147483648) (h_k : -2147483648 ≤ k ∧ k < 2147483648)  : pw_M E yX9_about YX9_about (rmD 7 2 12) [.ref 0, .int (zI (p)), .int (zI (k))] h n (fun r h' n' => (∃ v : Int, (-2147483648 ≤ v ∧ v < 2147483648) ∧ r = some (.int (zI v))) ∧ cK W H (M + 400) N NH NB NL n t fo pr h h' n') (fun C h' n' => (C = "java/lang/IndexOutOfBoundsException" ∨ C = "java/lang/IllegalArgumentException") ∧ cK W H (M + 400) N NH NB NL n t fo pr h h' n') := by
  have hM2 : M ≤ M + 400 := by omega
  refine pw_M_mo (mX9_about (M := M) (B := 0) htr hG hC.1 hC.2.1 (by omega) h_p h_k ) (fun r h' n' hq => ?_) (fun C h' n' hq => ?_)
  · obtain ⟨-, -, er, e1, e2⟩ := hq
    refine ⟨rEx er, ?_⟩
    rw [e1, e2]
    exact cK_s hC hM2
  · rcases hq with ⟨ec, -, e1, e2⟩ | ⟨ec, -, e1, e2⟩
    · rw [e1, e2]; exact ⟨Or.inl ec, cK_s hC hM2⟩
    · rw [e1, e2]; exact ⟨Or.inr ec, cK_s hC hM2⟩
set_option maxHeartbeats 1000000 in
set_option maxRecDepth 100000 in
theorem wV_about {E : pw_E} (htr : E.1.stackTraces = false) {W H M : Int} {N NH NB NL n : Nat} {t : aT} {fo pr : Int} {x : hS} {h : pz_H} (hG : geoH W H N NH NB NL) (hC : cH W H M N NH NB NL n t fo pr x h) (hM : 0 ≤ M ∧ M ≤ 800000000) (hn : 166 ≤ n) {p k : Int} (h_p : -2147483648 ≤ p ∧ p < 2147483648) (h_k : -2147483648 ≤ k ∧ k < 2147483648)  {f : Nat → Int64} (ho : h 165 = pz_j 2 1 f) : pw_MH E yL_about YL_about [(0, 10, 13, 13), (0, 10, 17, 15)] (rmD (7 + 1) 2 12) [.ref 0, .int (zI (p)), .int (zI (k)), .ref 165] h n (fun r0 h' n' => (∃ v, r0 = some (.int (zI v))) ∧ cW W H (M + 400) N NH NB NL n t fo pr (fun _ => True) h h' n') (fun _ _ _ => False) := by
  refine pw_MH_mo (wL_about (f := f) (dd := 7) (mc := 2) (ms := 12) htr hC.1.1 (cV_about htr hG hC hM hn h_p h_k ) (fun r h' n' z => ?_) (fun C h' n' z => z.1)) (fun r0 h' n' q => ?_)
  · obtain ⟨⟨v, hv, er⟩, k⟩ := z
    exact ⟨v, hv, er, (k.2.1 165 (by omega) (by omega)).trans ho⟩
  · rcases q with ⟨v, h1, q, -, e, rfl⟩ | ⟨q, e⟩ | ⟨q, e⟩
    · exact ⟨⟨_, e⟩, cW_v q.2 trivial⟩
    · exact ⟨⟨_, e⟩, cW_k q.2 ho trivial⟩
    · exact ⟨⟨_, e⟩, cW_k q.2 ho trivial⟩
set_option maxHeartbeats 1000000 in
set_option maxRecDepth 100000 in
theorem cV_input {E : pw_E} (htr : E.1.stackTraces = false) {W H M : Int} {N NH NB NL n : Nat} {t : aT} {fo pr : Int} {x : hS} {h : pz_H} (hG : geoH W H N NH NB NL) (hC : cH W H M N NH NB NL n t fo pr x h) (hM : 0 ≤ M ∧ M ≤ 800000000) (hn : 166 ≤ n) {p i : Int} (h_p : -2147483648 ≤ p ∧ p < 2147483648) (h_i : -2147483648 ≤ i ∧ i < 2147483648)  : pw_M E yX9_input YX9_input (rmD 7 2 12) [.ref 0, .int (zI (p)), .int (zI (i))] h n (fun r h' n' => (∃ v : Int, (-2147483648 ≤ v ∧ v < 2147483648) ∧ r = some (.int (zI v))) ∧ cK W H (M + 400) N NH NB NL n t fo pr h h' n') (fun C h' n' => (C = "java/lang/IndexOutOfBoundsException") ∧ cK W H (M + 400) N NH NB NL n t fo pr h h' n') := by
  have hM2 : M ≤ M + 400 := by omega
  refine pw_M_mo (mX9_input (M := M) (B := 0) htr hG hC.1 hC.2.1 (by omega) h_p h_i ) (fun r h' n' hq => ?_) (fun C h' n' hq => ?_)
  · obtain ⟨-, -, er, e1, e2⟩ := hq
    refine ⟨rEx er, ?_⟩
    rw [e1, e2]
    exact cK_s hC hM2
  · rcases hq with ⟨ec, -, e1, e2⟩ | ⟨ec, -, e1, e2⟩
    · rw [e1, e2]; exact ⟨ec, cK_s hC hM2⟩
    · rw [e1, e2]; exact ⟨ec, cK_s hC hM2⟩
set_option maxHeartbeats 1000000 in
set_option maxRecDepth 100000 in
theorem wV_input {E : pw_E} (htr : E.1.stackTraces = false) {W H M : Int} {N NH NB NL n : Nat} {t : aT} {fo pr : Int} {x : hS} {h : pz_H} (hG : geoH W H N NH NB NL) (hC : cH W H M N NH NB NL n t fo pr x h) (hM : 0 ≤ M ∧ M ≤ 800000000) (hn : 166 ≤ n) {p i : Int} (h_p : -2147483648 ≤ p ∧ p < 2147483648) (h_i : -2147483648 ≤ i ∧ i < 2147483648)  {f : Nat → Int64} (ho : h 165 = pz_j 2 1 f) : pw_MH E yL_input YL_input [(0, 10, 13, 13)] (rmD (7 + 1) 2 12) [.ref 0, .int (zI (p)), .int (zI (i)), .ref 165] h n (fun r0 h' n' => (∃ v, r0 = some (.int (zI v))) ∧ cW W H (M + 400) N NH NB NL n t fo pr (fun _ => True) h h' n') (fun _ _ _ => False) := by
  refine pw_MH_mo (wL_input (f := f) (dd := 7) (mc := 2) (ms := 12) htr hC.1.1 (cV_input htr hG hC hM hn h_p h_i ) (fun r h' n' z => ?_) (fun C h' n' z => z.1)) (fun r0 h' n' q => ?_)
  · obtain ⟨⟨v, hv, er⟩, k⟩ := z
    exact ⟨v, hv, er, (k.2.1 165 (by omega) (by omega)).trans ho⟩
  · rcases q with ⟨v, h1, q, -, e, rfl⟩ | ⟨q, e⟩
    · exact ⟨⟨_, e⟩, cW_v q.2 trivial⟩
    · exact ⟨⟨_, e⟩, cW_k q.2 ho trivial⟩
set_option maxHeartbeats 1000000 in
set_option maxRecDepth 100000 in
theorem cV_copy {E : pw_E} (htr : E.1.stackTraces = false) {W H M : Int} {N NH NB NL n : Nat} {t : aT} {fo pr : Int} {x : hS} {h : pz_H} (hG : geoH W H N NH NB NL) (hC : cH W H M N NH NB NL n t fo pr x h) (hM : 0 ≤ M ∧ M ≤ 800000000) (hn : 166 ≤ n) {p on up : Int} (h_p : -2147483648 ≤ p ∧ p < 2147483648) (h_on : -2147483648 ≤ on ∧ on < 2147483648) (h_up : -2147483648 ≤ up ∧ up < 2147483648) (hon : 0 ≤ on ∧ on ≤ 1) : pw_M E yX9_copy YX9_copy (rmD 7 1 6) [.ref 0, .int (zI (p)), .int (zI (on)), .int (zI (up))] h n (fun r h' n' => (∃ v : Int, (-2147483648 ≤ v ∧ v < 2147483648) ∧ r = some (.int (zI v))) ∧ cK W H (M + 400) N NH NB NL n t fo pr h h' n') (fun C h' n' => (C = "java/lang/IndexOutOfBoundsException") ∧ cK W H (M + 400) N NH NB NL n t fo pr h h' n') := by
  have hM2 : M ≤ M + 400 := by omega
  refine pw_M_mo (mX9_copy (M := M) (B := 0) htr hG hC.1 hC.2.1 (by omega) h_p h_on h_up hon) (fun r h' n' hq => ?_) (fun C h' n' hq => ?_)
  · obtain ⟨hs, er, hA', hF, e2⟩ := hq
    refine ⟨rEx er, ?_⟩
    rw [e2]
    exact cK_x hC hn hA' (hGd_mono (hGd_copy hC.2.1 (lyHas_y hs).1 hon) hM2) rfl hC.2.2.2.2.1.1 hC.2.2.2.2.1.2 hF
  · rcases hq with ⟨ec, -, e1, e2⟩
    rw [e1, e2]; exact ⟨ec, cK_s hC hM2⟩
set_option maxHeartbeats 1000000 in
set_option maxRecDepth 100000 in
theorem wV_copy {E : pw_E} (htr : E.1.stackTraces = false) {W H M : Int} {N NH NB NL n : Nat} {t : aT} {fo pr : Int} {x : hS} {h : pz_H} (hG : geoH W H N NH NB NL) (hC : cH W H M N NH NB NL n t fo pr x h) (hM : 0 ≤ M ∧ M ≤ 800000000) (hn : 166 ≤ n) {p on up : Int} (h_p : -2147483648 ≤ p ∧ p < 2147483648) (h_on : -2147483648 ≤ on ∧ on < 2147483648) (h_up : -2147483648 ≤ up ∧ up < 2147483648) (hon : 0 ≤ on ∧ on ≤ 1) {f : Nat → Int64} (ho : h 165 = pz_j 2 1 f) : pw_MH E yL_copy YL_copy [(0, 12, 15, 13)] (rmD (7 + 1) 1 6) [.ref 0, .int (zI (p)), .int (zI (on)), .int (zI (up)), .ref 165] h n (fun r0 h' n' => (∃ v, r0 = some (.int (zI v))) ∧ cW W H (M + 400) N NH NB NL n t fo pr (fun _ => True) h h' n') (fun _ _ _ => False) := by
  refine pw_MH_mo (wL_copy (f := f) (dd := 7) (mc := 1) (ms := 6) htr hC.1.1 (cV_copy htr hG hC hM hn h_p h_on h_up hon) (fun r h' n' z => ?_) (fun C h' n' z => z.1)) (fun r0 h' n' q => ?_)
  · obtain ⟨⟨v, hv, er⟩, k⟩ := z
    exact ⟨v, hv, er, (k.2.1 165 (by omega) (by omega)).trans ho⟩
  · rcases q with ⟨v, h1, q, -, e, rfl⟩ | ⟨q, e⟩
    · exact ⟨⟨_, e⟩, cW_v q.2 trivial⟩
    · exact ⟨⟨_, e⟩, cW_k q.2 ho trivial⟩
set_option maxHeartbeats 1000000 in
set_option maxRecDepth 100000 in
theorem cV_select {E : pw_E} (htr : E.1.stackTraces = false) {W H M : Int} {N NH NB NL n : Nat} {t : aT} {fo pr : Int} {x : hS} {h : pz_H} (hG : geoH W H N NH NB NL) (hC : cH W H M N NH NB NL n t fo pr x h) (hM : 0 ≤ M ∧ M ≤ 800000000) (hn : 166 ≤ n) {p ro co tr tc : Int} (h_p : -2147483648 ≤ p ∧ p < 2147483648) (h_ro : -2147483648 ≤ ro ∧ ro < 2147483648) (h_co : -2147483648 ≤ co ∧ co < 2147483648) (h_tr : -2147483648 ≤ tr ∧ tr < 2147483648) (h_tc : -2147483648 ≤ tc ∧ tc < 2147483648)  : pw_M E yX9_select YX9_select (rmD 7 4 24) [.ref 0, .int (zI (p)), .int (zI (ro)), .int (zI (co)), .int (zI (tr)), .int (zI (tc))] h n (fun r h' n' => (∃ v : Int, (-2147483648 ≤ v ∧ v < 2147483648) ∧ r = some (.int (zI v))) ∧ cK W H (M + 400) N NH NB NL n t fo pr h h' n') (fun C h' n' => (C = "java/lang/IndexOutOfBoundsException" ∨ C = "java/lang/IllegalArgumentException") ∧ cK W H (M + 400) N NH NB NL n t fo pr h h' n') := by
  have hM2 : M ≤ M + 400 := by omega
  refine pw_M_mo (mX9_select (M := M) (B := 0) htr hG hC.1 hC.2.1 (by omega) h_p h_ro h_co h_tr h_tc ) (fun r h' n' hq => ?_) (fun C h' n' hq => ?_)
  · obtain ⟨hs, -, -, er, hA', hF, e2⟩ := hq
    refine ⟨rEx er, ?_⟩
    rw [e2]
    exact cK_x hC hn hA' (hGd_mono (hGd_sel hC.2.1 (lyHas_y hs).1) hM2) rfl hC.2.2.2.2.1.1 hC.2.2.2.2.1.2 hF
  · rcases hq with ⟨ec, -, e1, e2⟩ | ⟨ec, -, e1, e2⟩ | ⟨ec, -, e1, e2⟩
    · rw [e1, e2]; exact ⟨Or.inl ec, cK_s hC hM2⟩
    · rw [e1, e2]; exact ⟨Or.inl ec, cK_s hC hM2⟩
    · rw [e1, e2]; exact ⟨Or.inr ec, cK_s hC hM2⟩
set_option maxHeartbeats 1000000 in
set_option maxRecDepth 100000 in
theorem wV_select {E : pw_E} (htr : E.1.stackTraces = false) {W H M : Int} {N NH NB NL n : Nat} {t : aT} {fo pr : Int} {x : hS} {h : pz_H} (hG : geoH W H N NH NB NL) (hC : cH W H M N NH NB NL n t fo pr x h) (hM : 0 ≤ M ∧ M ≤ 800000000) (hn : 166 ≤ n) {p ro co tr tc : Int} (h_p : -2147483648 ≤ p ∧ p < 2147483648) (h_ro : -2147483648 ≤ ro ∧ ro < 2147483648) (h_co : -2147483648 ≤ co ∧ co < 2147483648) (h_tr : -2147483648 ≤ tr ∧ tr < 2147483648) (h_tc : -2147483648 ≤ tc ∧ tc < 2147483648)  {f : Nat → Int64} (ho : h 165 = pz_j 2 1 f) : pw_MH E yL_select YL_select [(0, 16, 19, 13), (0, 16, 23, 15)] (rmD (7 + 1) 4 24) [.ref 0, .int (zI (p)), .int (zI (ro)), .int (zI (co)), .int (zI (tr)), .int (zI (tc)), .ref 165] h n (fun r0 h' n' => (∃ v, r0 = some (.int (zI v))) ∧ cW W H (M + 400) N NH NB NL n t fo pr (fun _ => True) h h' n') (fun _ _ _ => False) := by
  refine pw_MH_mo (wL_select (f := f) (dd := 7) (mc := 4) (ms := 24) htr hC.1.1 (cV_select htr hG hC hM hn h_p h_ro h_co h_tr h_tc ) (fun r h' n' z => ?_) (fun C h' n' z => z.1)) (fun r0 h' n' q => ?_)
  · obtain ⟨⟨v, hv, er⟩, k⟩ := z
    exact ⟨v, hv, er, (k.2.1 165 (by omega) (by omega)).trans ho⟩
  · rcases q with ⟨v, h1, q, -, e, rfl⟩ | ⟨q, e⟩ | ⟨q, e⟩
    · exact ⟨⟨_, e⟩, cW_v q.2 trivial⟩
    · exact ⟨⟨_, e⟩, cW_k q.2 ho trivial⟩
    · exact ⟨⟨_, e⟩, cW_k q.2 ho trivial⟩
set_option maxHeartbeats 1000000 in
set_option maxRecDepth 100000 in
theorem cV_cell {E : pw_E} (htr : E.1.stackTraces = false) {W H M : Int} {N NH NB NL n : Nat} {t : aT} {fo pr : Int} {x : hS} {h : pz_H} (hG : geoH W H N NH NB NL) (hC : cH W H M N NH NB NL n t fo pr x h) (hM : 0 ≤ M ∧ M ≤ 800000000) (hn : 166 ≤ n) {c ro at_ : Int} (h_c : -2147483648 ≤ c ∧ c < 2147483648) (h_ro : -2147483648 ≤ ro ∧ ro < 2147483648) (h_at_ : -2147483648 ≤ at_ ∧ at_ < 2147483648) (hat : 0 ≤ at_ ∧ at_ ≤ 1) : pw_M E yX9_cell YX9_cell (rmD 14 1 6) [.ref 0, .int (zI (c)), .int (zI (ro)), .int (zI (at_))] h n (fun r h' n' => (∃ v : Int, (-2147483648 ≤ v ∧ v < 2147483648) ∧ r = some (.int (zI v))) ∧ cK W H (M + 400) N NH NB NL n t fo pr h h' n') (fun C h' n' => (C = "java/lang/IndexOutOfBoundsException") ∧ cK W H (M + 400) N NH NB NL n t fo pr h h' n') := by
  have hM2 : M ≤ M + 400 := by omega
  refine pw_M_mo (mX9_cell (M := M) (B := 0) htr hG hC.1 hC.2.1 (by omega) h_c h_ro h_at_ hat) (fun r h' n' hq => ?_) (fun C h' n' hq => ?_)
  · obtain ⟨-, er, hA', hF, e2⟩ := hq
    refine ⟨rEx er, ?_⟩
    rw [e2]
    exact cK_x hC hn hA' (hGd_mono (hGd_cell hC.2.1) hM2) rfl hC.2.2.2.2.1.1 hC.2.2.2.2.1.2 hF
  · rcases hq with ⟨ec, -, e1, e2⟩
    rw [e1, e2]; exact ⟨ec, cK_s hC hM2⟩
set_option maxHeartbeats 1000000 in
set_option maxRecDepth 100000 in
theorem wV_cell {E : pw_E} (htr : E.1.stackTraces = false) {W H M : Int} {N NH NB NL n : Nat} {t : aT} {fo pr : Int} {x : hS} {h : pz_H} (hG : geoH W H N NH NB NL) (hC : cH W H M N NH NB NL n t fo pr x h) (hM : 0 ≤ M ∧ M ≤ 800000000) (hn : 166 ≤ n) {c ro at_ : Int} (h_c : -2147483648 ≤ c ∧ c < 2147483648) (h_ro : -2147483648 ≤ ro ∧ ro < 2147483648) (h_at_ : -2147483648 ≤ at_ ∧ at_ < 2147483648) (hat : 0 ≤ at_ ∧ at_ ≤ 1) {f : Nat → Int64} (ho : h 165 = pz_j 2 1 f) : pw_MH E yL_cell_ YL_cell_ [(0, 12, 15, 13)] (rmD (14 + 1) 1 6) [.ref 0, .int (zI (c)), .int (zI (ro)), .int (zI (at_)), .ref 165] h n (fun r0 h' n' => (∃ v, r0 = some (.int (zI v))) ∧ cW W H (M + 400) N NH NB NL n t fo pr (fun _ => True) h h' n') (fun _ _ _ => False) := by
  refine pw_MH_mo (wL_cell_ (f := f) (dd := 14) (mc := 1) (ms := 6) htr hC.1.1 (cV_cell htr hG hC hM hn h_c h_ro h_at_ hat) (fun r h' n' z => ?_) (fun C h' n' z => z.1)) (fun r0 h' n' q => ?_)
  · obtain ⟨⟨v, hv, er⟩, k⟩ := z
    exact ⟨v, hv, er, (k.2.1 165 (by omega) (by omega)).trans ho⟩
  · rcases q with ⟨v, h1, q, -, e, rfl⟩ | ⟨q, e⟩
    · exact ⟨⟨_, e⟩, cW_v q.2 trivial⟩
    · exact ⟨⟨_, e⟩, cW_k q.2 ho trivial⟩
set_option maxHeartbeats 1000000 in
set_option maxRecDepth 100000 in
theorem cV_redraw {E : pw_E} (htr : E.1.stackTraces = false) {W H M : Int} {N NH NB NL n : Nat} {t : aT} {fo pr : Int} {x : hS} {h : pz_H} (hG : geoH W H N NH NB NL) (hC : cH W H M N NH NB NL n t fo pr x h) (hM : 0 ≤ M ∧ M ≤ 800000000) (hn : 166 ≤ n)   : pw_M E yX9_redraw YX9_redraw (rmD 14 0 0) [.ref 0] h n (fun r h' n' => (∃ v : Int, (-2147483648 ≤ v ∧ v < 2147483648) ∧ r = some (.int (zI v))) ∧ cK W H (M + 400) N NH NB NL n t fo pr h h' n') (fun C h' n' => False) := by
  have hM2 : M ≤ M + 400 := by omega
  refine pw_M_mo (mX9_redraw (M := M) (B := 0) htr hG hC.1 hC.2.1 (by omega)  ) (fun r h' n' hq => ?_) (fun C h' n' hq => ?_)
  · obtain ⟨er, hA', hF, e2⟩ := hq
    refine ⟨rEx er, ?_⟩
    rw [e2]
    exact cK_x hC hn hA' (hGd_mono (hGd_red hG hC.2.1) hM2) rfl hC.2.2.2.2.1.1 hC.2.2.2.2.1.2 hF
  · exact hq.elim
