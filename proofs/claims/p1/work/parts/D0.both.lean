
/-! ===== a new house beside a new reference ===== -/
theorem pw_M_mono {E : pw_E} {y : MethodName} {Y : pw_Y} {rm : Room} {av : List Value} {h : pz_H} {n : Nat} {Q Q' : Option Value → pz_H → Nat → Prop} {X X' : String → pz_H → Nat → Prop} (hM : pw_M E y Y rm av h n Q X) (hQ : ∀ r h' n', Q r h' n' → Q' r h' n') (hX : ∀ C h' n', X C h' n' → X' C h' n') : pw_M E y Y rm av h n Q' X' := fun L =>
  Jvm.Free.MetFree.mono (hM L) (fun _ _ z => z) (fun _ _ _ _ _ _ => trivial) (fun a s o t _ hq => by
    rcases hq with ⟨⟨L', r, h', n', e1, e2, e3, e4, e5, e6, e7⟩, hq2⟩ | ⟨q, e0, C, ce, Ls, ⟨L', h', n', e1, e2, e3, e4, e5⟩, hr⟩
    · exact Or.inl ⟨⟨L', r, h', n', e1, e2, e3, e4, e5, hQ _ _ _ e6, e7⟩, hq2⟩
    · exact Or.inr ⟨q, e0, C, ce, Ls, ⟨L', h', n', e1, e2, e3, hX _ _ _ e4, e5⟩, hr⟩)
theorem pw_MH_mono {E : pw_E} {y : MethodName} {Y : pw_Y} {hh : List (Nat × Nat × Nat × Nat)} {rm : Room} {av : List Value} {h : pz_H} {n : Nat} {Q Q' : Option Value → pz_H → Nat → Prop} {X : String → pz_H → Nat → Prop} (hM : pw_MH E y Y hh rm av h n Q X) (hQ : ∀ r h' n', Q r h' n' → Q' r h' n') : pw_MH E y Y hh rm av h n Q' X := fun L =>
  Jvm.Free.MetFree.mono (hM L) (fun _ _ z => z) (fun _ _ _ _ _ _ => trivial) (fun a s o t _ hq => by
    rcases hq with ⟨⟨L', r, h', n', e1, e2, e3, e4, e5, e6, e7⟩, hq2⟩ | hr
    · exact Or.inl ⟨⟨L', r, h', n', e1, e2, e3, e4, e5, hQ _ _ _ e6, e7⟩, hq2⟩
    · exact Or.inr hr)
/-- the reference's cells and the array are as they were -/
def hKp (h h' : pz_H) : Prop := ∀ a, 115 ≤ a → a < 166 → h' a = h a
theorem hKp_rf {h : pz_H} : hKp h h := fun _ _ _ => rfl
theorem hKp_of {w H : Int} {N : Nat} {h h' : pz_H} (e : hFr 0 166 (hD (hNew w H N 0)) h h') : hKp h h' := fun a h1 h2 => e a h2 (by omega) (fun z => by have z2 : a = 0 + 109 := of_decide_eq_true z; omega)
/-- what a wrapper leaves: its answer T, and in the array the answer R, if T is 0 -/
def lwK (T R : Int) (h h' : pz_H) : Prop := (∀ a, 115 ≤ a → a < 165 → h' a = h a) ∧ (T = 0 → ∃ g, h' 165 = pz_j 2 1 g ∧ g 0 = zL R) ∧ (¬ T = 0 → h' 165 = h 165)
theorem lwK_v {T R v : Int} {h h1 : pz_H} {f : Nat → Int64} (hT : T = 0) (hv : v = R) (hk : hKp h h1) : lwK T R h (va_up h1 165 (pz_j 2 1 (vp_updL f (Int.toNat 0) (zL v)))) :=
  ⟨fun a a1 a2 => (va_up_ne _ _ (by omega)).trans (hk a a1 (by omega)), fun _ => ⟨_, va_up_self _ _ _, by rw [hv]; simp [vp_updL]⟩, fun z => absurd hT z⟩
theorem lwK_x {T R : Int} {h h1 : pz_H} (hT : ¬ T = 0) (hk : hKp h h1) : lwK T R h h1 := ⟨fun a a1 a2 => hk a a1 (by omega), fun z => absurd z hT, fun _ => hk 165 (by omega) (by omega)⟩
theorem zI_one {v R : Int} (e : some (Value.int (zI v)) = some (Value.int (zI R))) (hv : -2147483648 ≤ v ∧ v < 2147483648) (hR : -2147483648 ≤ R ∧ R < 2147483648) : v = R := by
  have e2 : zI v = zI R := by injection e with e; injection e
  exact (zI_eq hv hR).mp e2
theorem nw_no {w H : Int} {N k : Nat} (hk : 166 ≤ k) : ¬ hD (hNew w H N 0) k = true := fun z => by
  have z2 : k = 0 + 109 := of_decide_eq_true z
  omega
theorem nw_h0 {w H p : Int} {N : Nat} (e : lyHas (hLv (hNew w H N 0)) p = 0) : ¬ p = 0 := fun z => by rw [nw_has, if_pos z] at e; omega
theorem nw_h1 {w H p : Int} {N : Nat} (e : lyHas (hLv (hNew w H N 0)) p = 1) : p = 0 := by
  rw [nw_has] at e
  split at e
  · assumption
  · omega
set_option maxHeartbeats 1000000 in
set_option maxRecDepth 100000 in
theorem cF_focus {E : pw_E} (htr : E.1.stackTraces = false) {h : pz_H} {w H : Int} {N NH NB NL : Nat} (hG : geoH w H N NH NB NL) (hA : hAt w H N NH NB NL 0 (hNew w H N 0) h) {p : Int} (h_p : -2147483648 ≤ p ∧ p < 2147483648)  : pw_M E yX9_focus YX9_focus (rmD 7 1 6) [.ref 0, .int (zI (p))] h 166 (fun r h' n' => p = 0 ∧ r = none ∧ hKp h h') (fun C h' n' => (C = "java/lang/IndexOutOfBoundsException" ∧ ¬ p = 0 ∧ hKp h h')) := by
  have hw := hG.1.1
  have hH := hG.1.2.1
  have hN := hG.1.2.2.1
  have hNL := hG.2.2
  refine pw_M_mono (mX9_focus (M := 0) (B := 0) htr hG hA (nw_hGd hw hH) (by omega) h_p) ?_ ?_
  · intro r h' n' q
    exact ⟨nw_h1 q.1, q.2.1, hKp_of (w := w) (H := H) (N := N) q.2.2.2.1⟩
  · intro C h' n' q
    exact ⟨q.1, nw_h0 q.2.1, by rw [q.2.2.1]; exact hKp_rf⟩
set_option maxHeartbeats 1000000 in
set_option maxRecDepth 100000 in
theorem wF_focus {E : pw_E} (htr : E.1.stackTraces = false) {h : pz_H} {w H : Int} {N NH NB NL : Nat} (hG : geoH w H N NH NB NL) (hA : hAt w H N NH NB NL 0 (hNew w H N 0) h) {p : Int} (h_p : -2147483648 ≤ p ∧ p < 2147483648)  : pw_MH E yL_focus YL_focus [(0, 5, 8, 13)] (rmD (7 + 1) 1 6) [.ref 0, .int (zI (p))] h 166 (fun r0 h' n' => r0 = some (.int (zI (if p = 0 then 0 else 1))) ∧ hKp h h') (fun _ _ _ => False) := by
  have hw := hG.1.1
  have hH := hG.1.2.1
  have hN := hG.1.2.2.1
  have hNL := hG.2.2
  refine pw_MH_mono (wL_focus (dd := 7) (mc := 1) (ms := 6) htr hA.1 (cF_focus htr hG hA h_p ) (fun r h' n' z => z.2.1) (fun C h' n' z => by
      rcases z with ⟨rfl, -, -⟩
      · exact rfl)) ?_
  intro r0 h' n' q
  rcases q with ⟨⟨c0, -, kp⟩, e⟩ | ⟨z, e⟩
  · exact ⟨e.trans (congrArg (fun z => some (Value.int (zI z))) (show (0 : Int) = if p = 0 then 0 else 1 by omega)), kp⟩
  · rcases z with ⟨ec, cc, kp⟩
    · exact ⟨e.trans (congrArg (fun z => some (Value.int (zI z))) (show (1 : Int) = if p = 0 then 0 else 1 by omega)), kp⟩
set_option maxHeartbeats 1000000 in
set_option maxRecDepth 100000 in
theorem cF_out {E : pw_E} (htr : E.1.stackTraces = false) {h : pz_H} {w H : Int} {N NH NB NL : Nat} (hG : geoH w H N NH NB NL) (hA : hAt w H N NH NB NL 0 (hNew w H N 0) h) {i : Int} (h_i : -2147483648 ≤ i ∧ i < 2147483648)  : pw_M E yX9_out YX9_out (rmD 6 1 6) [.ref 0, .int (zI (i))] h 166 (fun r h' n' => False ∧ r = some (.int (zI (0))) ∧ hKp h h') (fun C h' n' => (C = "java/lang/IndexOutOfBoundsException" ∧ True ∧ hKp h h')) := by
  have hw := hG.1.1
  have hH := hG.1.2.1
  have hN := hG.1.2.2.1
  have hNL := hG.2.2
  refine pw_M_mono (mX9_out (M := 0) (B := 0) htr hG hA (nw_hGd hw hH) (by omega) h_i) ?_ ?_
  · intro r h' n' q
    exact absurd q.1 (by show ¬ (0 ≤ i ∧ i < 0); omega)
  · intro C h' n' q
    exact ⟨q.1, trivial, by rw [q.2.2.1]; exact hKp_rf⟩
set_option maxHeartbeats 1000000 in
set_option maxRecDepth 100000 in
theorem wF_out {E : pw_E} (htr : E.1.stackTraces = false) {h : pz_H} {w H : Int} {N NH NB NL : Nat} (hG : geoH w H N NH NB NL) (hA : hAt w H N NH NB NL 0 (hNew w H N 0) h) {i : Int} (h_i : -2147483648 ≤ i ∧ i < 2147483648)  {f : Nat → Int64} (ho : h 165 = pz_j 2 1 f) : pw_MH E yL_out YL_out [(0, 9, 12, 13)] (rmD (6 + 1) 1 6) [.ref 0, .int (zI (i)), .ref 165] h 166 (fun r0 h' n' => r0 = some (.int (zI (1))) ∧ lwK (1) (0) h h') (fun _ _ _ => False) := by
  have hw := hG.1.1
  have hH := hG.1.2.1
  have hN := hG.1.2.2.1
  have hNL := hG.2.2
  refine pw_MH_mono (wL_out (dd := 6) (mc := 1) (ms := 6) htr (o := 165) (f := f) hA.1 (cF_out htr hG hA h_i ) (fun r h' n' z => ⟨_, by first | omega | (split <;> omega), z.2.1, (z.2.2 165 (by omega) (by omega)).trans ho⟩) (fun C h' n' z => by
      rcases z with ⟨rfl, -, -⟩
      · exact rfl)) ?_
  intro r0 h' n' q
  rcases q with ⟨v9, h1, ⟨c0, er, kp⟩, rng, e, eh⟩ | ⟨z, e⟩
  · exact c0.elim
  · rcases z with ⟨ec, cc, kp⟩
    · exact ⟨e.trans (congrArg (fun z => some (Value.int (zI z))) (show (1 : Int) = 1 by omega)), lwK_x (by omega) kp⟩
set_option maxHeartbeats 1000000 in
set_option maxRecDepth 100000 in
theorem cF_copied {E : pw_E} (htr : E.1.stackTraces = false) {h : pz_H} {w H : Int} {N NH NB NL : Nat} (hG : geoH w H N NH NB NL) (hA : hAt w H N NH NB NL 0 (hNew w H N 0) h) {i : Int} (h_i : -2147483648 ≤ i ∧ i < 2147483648)  : pw_M E yX9_copied YX9_copied (rmD 6 1 6) [.ref 0, .int (zI (i))] h 166 (fun r h' n' => False ∧ r = some (.int (zI (0))) ∧ hKp h h') (fun C h' n' => (C = "java/lang/IndexOutOfBoundsException" ∧ True ∧ hKp h h')) := by
  have hw := hG.1.1
  have hH := hG.1.2.1
  have hN := hG.1.2.2.1
  have hNL := hG.2.2
  refine pw_M_mono (mX9_copied (M := 0) (B := 0) htr hG hA (nw_hGd hw hH) (by omega) h_i) ?_ ?_
  · intro r h' n' q
    exact absurd q.1 (by show ¬ (0 ≤ i ∧ i < 0); omega)
  · intro C h' n' q
    exact ⟨q.1, trivial, by rw [q.2.2.1]; exact hKp_rf⟩
set_option maxHeartbeats 1000000 in
set_option maxRecDepth 100000 in
theorem wF_copied {E : pw_E} (htr : E.1.stackTraces = false) {h : pz_H} {w H : Int} {N NH NB NL : Nat} (hG : geoH w H N NH NB NL) (hA : hAt w H N NH NB NL 0 (hNew w H N 0) h) {i : Int} (h_i : -2147483648 ≤ i ∧ i < 2147483648)  {f : Nat → Int64} (ho : h 165 = pz_j 2 1 f) : pw_MH E yL_copied YL_copied [(0, 9, 12, 13)] (rmD (6 + 1) 1 6) [.ref 0, .int (zI (i)), .ref 165] h 166 (fun r0 h' n' => r0 = some (.int (zI (1))) ∧ lwK (1) (0) h h') (fun _ _ _ => False) := by
  have hw := hG.1.1
  have hH := hG.1.2.1
  have hN := hG.1.2.2.1
  have hNL := hG.2.2
  refine pw_MH_mono (wL_copied (dd := 6) (mc := 1) (ms := 6) htr (o := 165) (f := f) hA.1 (cF_copied htr hG hA h_i ) (fun r h' n' z => ⟨_, by first | omega | (split <;> omega), z.2.1, (z.2.2 165 (by omega) (by omega)).trans ho⟩) (fun C h' n' z => by
      rcases z with ⟨rfl, -, -⟩
      · exact rfl)) ?_
  intro r0 h' n' q
  rcases q with ⟨v9, h1, ⟨c0, er, kp⟩, rng, e, eh⟩ | ⟨z, e⟩
  · exact c0.elim
  · rcases z with ⟨ec, cc, kp⟩
    · exact ⟨e.trans (congrArg (fun z => some (Value.int (zI z))) (show (1 : Int) = 1 by omega)), lwK_x (by omega) kp⟩
set_option maxHeartbeats 1000000 in
set_option maxRecDepth 100000 in
theorem cF_input {E : pw_E} (htr : E.1.stackTraces = false) {h : pz_H} {w H : Int} {N NH NB NL : Nat} (hG : geoH w H N NH NB NL) (hA : hAt w H N NH NB NL 0 (hNew w H N 0) h) {p i : Int} (h_p : -2147483648 ≤ p ∧ p < 2147483648) (h_i : -2147483648 ≤ i ∧ i < 2147483648)  : pw_M E yX9_input YX9_input (rmD 7 2 12) [.ref 0, .int (zI (p)), .int (zI (i))] h 166 (fun r h' n' => False ∧ r = some (.int (zI (0))) ∧ hKp h h') (fun C h' n' => (C = "java/lang/IndexOutOfBoundsException" ∧ True ∧ hKp h h')) := by
  have hw := hG.1.1
  have hH := hG.1.2.1
  have hN := hG.1.2.2.1
  have hNL := hG.2.2
  refine pw_M_mono (mX9_input (M := 0) (B := 0) htr hG hA (nw_hGd hw hH) (by omega) h_p h_i) ?_ ?_
  · intro r h' n' q
    have e0 := nw_h1 q.1
    subst e0
    exact absurd q.2.1 (by rw [show Int.toNat 0 = 0 from rfl, nw_X, nw_ty]; omega)
  · intro C h' n' q
    rcases q with q | q
    · exact ⟨q.1, trivial, by rw [q.2.2.1]; exact hKp_rf⟩
    · exact ⟨q.1, trivial, by rw [q.2.2.1]; exact hKp_rf⟩
set_option maxHeartbeats 1000000 in
set_option maxRecDepth 100000 in
theorem wF_input {E : pw_E} (htr : E.1.stackTraces = false) {h : pz_H} {w H : Int} {N NH NB NL : Nat} (hG : geoH w H N NH NB NL) (hA : hAt w H N NH NB NL 0 (hNew w H N 0) h) {p i : Int} (h_p : -2147483648 ≤ p ∧ p < 2147483648) (h_i : -2147483648 ≤ i ∧ i < 2147483648)  {f : Nat → Int64} (ho : h 165 = pz_j 2 1 f) : pw_MH E yL_input YL_input [(0, 10, 13, 13)] (rmD (7 + 1) 2 12) [.ref 0, .int (zI (p)), .int (zI (i)), .ref 165] h 166 (fun r0 h' n' => r0 = some (.int (zI (1))) ∧ lwK (1) (0) h h') (fun _ _ _ => False) := by
  have hw := hG.1.1
  have hH := hG.1.2.1
  have hN := hG.1.2.2.1
  have hNL := hG.2.2
  refine pw_MH_mono (wL_input (dd := 7) (mc := 2) (ms := 12) htr (o := 165) (f := f) hA.1 (cF_input htr hG hA h_p h_i ) (fun r h' n' z => ⟨_, by first | omega | (split <;> omega), z.2.1, (z.2.2 165 (by omega) (by omega)).trans ho⟩) (fun C h' n' z => by
      rcases z with ⟨rfl, -, -⟩
      · exact rfl)) ?_
  intro r0 h' n' q
  rcases q with ⟨v9, h1, ⟨c0, er, kp⟩, rng, e, eh⟩ | ⟨z, e⟩
  · exact c0.elim
  · rcases z with ⟨ec, cc, kp⟩
    · exact ⟨e.trans (congrArg (fun z => some (Value.int (zI z))) (show (1 : Int) = 1 by omega)), lwK_x (by omega) kp⟩
set_option maxHeartbeats 1000000 in
set_option maxRecDepth 100000 in
theorem cF_about {E : pw_E} (htr : E.1.stackTraces = false) {h : pz_H} {w H : Int} {N NH NB NL : Nat} (hG : geoH w H N NH NB NL) (hA : hAt w H N NH NB NL 0 (hNew w H N 0) h) {p k : Int} (h_p : -2147483648 ≤ p ∧ p < 2147483648) (h_k : -2147483648 ≤ k ∧ k < 2147483648)  : pw_M E yX9_about YX9_about (rmD 7 2 12) [.ref 0, .int (zI (p)), .int (zI (k))] h 166 (fun r h' n' => (p = 0 ∧ 0 ≤ k ∧ k ≤ 10) ∧ r = some (.int (zI (if p = 0 ∧ k = 2 then w else if p = 0 ∧ k = 3 then H else 0))) ∧ hKp h h') (fun C h' n' => (C = "java/lang/IndexOutOfBoundsException" ∧ ¬ p = 0 ∧ hKp h h') ∨ (C = "java/lang/IllegalArgumentException" ∧ (p = 0 ∧ ¬ (0 ≤ k ∧ k ≤ 10)) ∧ hKp h h')) := by
  have hw := hG.1.1
  have hH := hG.1.2.1
  have hN := hG.1.2.2.1
  have hNL := hG.2.2
  refine pw_M_mono (mX9_about (M := 0) (B := 0) htr hG hA (nw_hGd hw hH) (by omega) h_p h_k) ?_ ?_
  · intro r h' n' q
    have e0 := nw_h1 q.1
    subst e0
    refine ⟨⟨rfl, q.2.1⟩, ?_, by rw [q.2.2.2.1]; exact hKp_rf⟩
    rw [q.2.2.1, nw_ab q.2.1]
    exact congrArg (fun z => some (Value.int (zI z))) (show (if k = 2 then w else if k = 3 then H else 0) = if (0 : Int) = 0 ∧ k = 2 then w else if (0 : Int) = 0 ∧ k = 3 then H else 0 by omega)
  · intro C h' n' q
    rcases q with q | q
    · exact Or.inl ⟨q.1, nw_h0 q.2.1, by rw [q.2.2.1]; exact hKp_rf⟩
    · exact Or.inr ⟨q.1, ⟨nw_h1 q.2.1.1, q.2.1.2⟩, by rw [q.2.2.1]; exact hKp_rf⟩
set_option maxHeartbeats 1000000 in
set_option maxRecDepth 100000 in
theorem wF_about {E : pw_E} (htr : E.1.stackTraces = false) {h : pz_H} {w H : Int} {N NH NB NL : Nat} (hG : geoH w H N NH NB NL) (hA : hAt w H N NH NB NL 0 (hNew w H N 0) h) {p k : Int} (h_p : -2147483648 ≤ p ∧ p < 2147483648) (h_k : -2147483648 ≤ k ∧ k < 2147483648)  {f : Nat → Int64} (ho : h 165 = pz_j 2 1 f) : pw_MH E yL_about YL_about [(0, 10, 13, 13), (0, 10, 17, 15)] (rmD (7 + 1) 2 12) [.ref 0, .int (zI (p)), .int (zI (k)), .ref 165] h 166 (fun r0 h' n' => r0 = some (.int (zI (if p = 0 then (if 0 ≤ k ∧ k ≤ 10 then 0 else 2) else 1))) ∧ lwK (if p = 0 then (if 0 ≤ k ∧ k ≤ 10 then 0 else 2) else 1) (if p = 0 ∧ k = 2 then w else if p = 0 ∧ k = 3 then H else 0) h h') (fun _ _ _ => False) := by
  have hw := hG.1.1
  have hH := hG.1.2.1
  have hN := hG.1.2.2.1
  have hNL := hG.2.2
  refine pw_MH_mono (wL_about (dd := 7) (mc := 2) (ms := 12) htr (o := 165) (f := f) hA.1 (cF_about htr hG hA h_p h_k ) (fun r h' n' z => ⟨_, by first | omega | (split <;> omega), z.2.1, (z.2.2 165 (by omega) (by omega)).trans ho⟩) (fun C h' n' z => by
      rcases z with ⟨rfl, -, -⟩ | ⟨rfl, -, -⟩
      · exact Or.inl rfl
      · exact Or.inr rfl)) ?_
  intro r0 h' n' q
  rcases q with ⟨v9, h1, ⟨c0, er, kp⟩, rng, e, eh⟩ | ⟨z, e⟩ | ⟨z, e⟩
  · have ev := zI_one er rng (by first | omega | (split <;> omega))
    rw [eh]
    exact ⟨e.trans (congrArg (fun z => some (Value.int (zI z))) (show (0 : Int) = if p = 0 then (if 0 ≤ k ∧ k ≤ 10 then 0 else 2) else 1 by omega)), lwK_v (by omega) ev kp⟩
  · rcases z with ⟨ec, cc, kp⟩ | ⟨ec, cc, kp⟩
    · exact ⟨e.trans (congrArg (fun z => some (Value.int (zI z))) (show (1 : Int) = if p = 0 then (if 0 ≤ k ∧ k ≤ 10 then 0 else 2) else 1 by omega)), lwK_x (by omega) kp⟩
    · exact absurd ec (by decide)
  · rcases z with ⟨ec, cc, kp⟩ | ⟨ec, cc, kp⟩
    · exact absurd ec (by decide)
    · exact ⟨e.trans (congrArg (fun z => some (Value.int (zI z))) (show (2 : Int) = if p = 0 then (if 0 ≤ k ∧ k ≤ 10 then 0 else 2) else 1 by omega)), lwK_x (by omega) kp⟩
set_option maxHeartbeats 1000000 in
set_option maxRecDepth 100000 in
theorem cF_count {E : pw_E} (htr : E.1.stackTraces = false) {h : pz_H} {w H : Int} {N NH NB NL : Nat} (hG : geoH w H N NH NB NL) (hA : hAt w H N NH NB NL 0 (hNew w H N 0) h) {k : Int} (h_k : -2147483648 ≤ k ∧ k < 2147483648)  : pw_M E yX9_count YX9_count (rmD 6 1 6) [.ref 0, .int (zI (k))] h 166 (fun r h' n' => (0 ≤ k ∧ k ≤ 5) ∧ r = some (.int (zI (if k = 0 ∨ k = 4 then 1 else 0))) ∧ hKp h h') (fun C h' n' => (C = "java/lang/IllegalArgumentException" ∧ ¬ (0 ≤ k ∧ k ≤ 5) ∧ hKp h h')) := by
  have hw := hG.1.1
  have hH := hG.1.2.1
  have hN := hG.1.2.2.1
  have hNL := hG.2.2
  refine pw_M_mono (mX9_count (M := 0) (B := 0) htr hG hA (nw_hGd hw hH) (by omega) h_k) ?_ ?_
  · intro r h' n' q
    exact ⟨q.1, by rw [q.2.1, nw_ct], by rw [q.2.2.1]; exact hKp_rf⟩
  · intro C h' n' q
    exact ⟨q.1, q.2.1, by rw [q.2.2.1]; exact hKp_rf⟩
set_option maxHeartbeats 1000000 in
set_option maxRecDepth 100000 in
theorem wF_count {E : pw_E} (htr : E.1.stackTraces = false) {h : pz_H} {w H : Int} {N NH NB NL : Nat} (hG : geoH w H N NH NB NL) (hA : hAt w H N NH NB NL 0 (hNew w H N 0) h) {k : Int} (h_k : -2147483648 ≤ k ∧ k < 2147483648)  {f : Nat → Int64} (ho : h 165 = pz_j 2 1 f) : pw_MH E yL_count YL_count [(0, 9, 12, 15)] (rmD (6 + 1) 1 6) [.ref 0, .int (zI (k)), .ref 165] h 166 (fun r0 h' n' => r0 = some (.int (zI (if 0 ≤ k ∧ k ≤ 5 then 0 else 1))) ∧ lwK (if 0 ≤ k ∧ k ≤ 5 then 0 else 1) (if k = 0 ∨ k = 4 then 1 else 0) h h') (fun _ _ _ => False) := by
  have hw := hG.1.1
  have hH := hG.1.2.1
  have hN := hG.1.2.2.1
  have hNL := hG.2.2
  refine pw_MH_mono (wL_count (dd := 6) (mc := 1) (ms := 6) htr (o := 165) (f := f) hA.1 (cF_count htr hG hA h_k ) (fun r h' n' z => ⟨_, by first | omega | (split <;> omega), z.2.1, (z.2.2 165 (by omega) (by omega)).trans ho⟩) (fun C h' n' z => by
      rcases z with ⟨rfl, -, -⟩
      · exact rfl)) ?_
  intro r0 h' n' q
  rcases q with ⟨v9, h1, ⟨c0, er, kp⟩, rng, e, eh⟩ | ⟨z, e⟩
  · have ev := zI_one er rng (by first | omega | (split <;> omega))
    rw [eh]
    exact ⟨e.trans (congrArg (fun z => some (Value.int (zI z))) (show (0 : Int) = if 0 ≤ k ∧ k ≤ 5 then 0 else 1 by omega)), lwK_v (by omega) ev kp⟩
  · rcases z with ⟨ec, cc, kp⟩
    · exact ⟨e.trans (congrArg (fun z => some (Value.int (zI z))) (show (1 : Int) = if 0 ≤ k ∧ k ≤ 5 then 0 else 1 by omega)), lwK_x (by omega) kp⟩
set_option maxHeartbeats 1000000 in
set_option maxRecDepth 100000 in
theorem cF_copy {E : pw_E} (htr : E.1.stackTraces = false) {h : pz_H} {w H : Int} {N NH NB NL : Nat} (hG : geoH w H N NH NB NL) (hA : hAt w H N NH NB NL 0 (hNew w H N 0) h) {p on up : Int} (h_p : -2147483648 ≤ p ∧ p < 2147483648) (h_on : -2147483648 ≤ on ∧ on < 2147483648) (h_up : -2147483648 ≤ up ∧ up < 2147483648) (hon : 0 ≤ on ∧ on ≤ 1) : pw_M E yX9_copy YX9_copy (rmD 7 1 6) [.ref 0, .int (zI (p)), .int (zI (on)), .int (zI (up))] h 166 (fun r h' n' => p = 0 ∧ r = some (.int (zI (0))) ∧ hKp h h') (fun C h' n' => (C = "java/lang/IndexOutOfBoundsException" ∧ ¬ p = 0 ∧ hKp h h')) := by
  have hw := hG.1.1
  have hH := hG.1.2.1
  have hN := hG.1.2.2.1
  have hNL := hG.2.2
  refine pw_M_mono (mX9_copy (M := 0) (B := 0) htr hG hA (nw_hGd hw hH) (by omega) h_p h_on h_up hon) ?_ ?_
  · intro r h' n' q
    have e0 := nw_h1 q.1
    subst e0
    refine ⟨rfl, ?_, hKp_of (w := w) (H := H) (N := N) q.2.2.2.1⟩
    rw [q.2.1, show Int.toNat 0 = 0 from rfl, nw_X, nw_cp]
  · intro C h' n' q
    exact ⟨q.1, nw_h0 q.2.1, by rw [q.2.2.1]; exact hKp_rf⟩
set_option maxHeartbeats 1000000 in
set_option maxRecDepth 100000 in
theorem wF_copy {E : pw_E} (htr : E.1.stackTraces = false) {h : pz_H} {w H : Int} {N NH NB NL : Nat} (hG : geoH w H N NH NB NL) (hA : hAt w H N NH NB NL 0 (hNew w H N 0) h) {p on up : Int} (h_p : -2147483648 ≤ p ∧ p < 2147483648) (h_on : -2147483648 ≤ on ∧ on < 2147483648) (h_up : -2147483648 ≤ up ∧ up < 2147483648) (hon : 0 ≤ on ∧ on ≤ 1) {f : Nat → Int64} (ho : h 165 = pz_j 2 1 f) : pw_MH E yL_copy YL_copy [(0, 12, 15, 13)] (rmD (7 + 1) 1 6) [.ref 0, .int (zI (p)), .int (zI (on)), .int (zI (up)), .ref 165] h 166 (fun r0 h' n' => r0 = some (.int (zI (if p = 0 then 0 else 1))) ∧ lwK (if p = 0 then 0 else 1) (0) h h') (fun _ _ _ => False) := by
  have hw := hG.1.1
  have hH := hG.1.2.1
  have hN := hG.1.2.2.1
  have hNL := hG.2.2
  refine pw_MH_mono (wL_copy (dd := 7) (mc := 1) (ms := 6) htr (o := 165) (f := f) hA.1 (cF_copy htr hG hA h_p h_on h_up hon) (fun r h' n' z => ⟨_, by first | omega | (split <;> omega), z.2.1, (z.2.2 165 (by omega) (by omega)).trans ho⟩) (fun C h' n' z => by
      rcases z with ⟨rfl, -, -⟩
      · exact rfl)) ?_
  intro r0 h' n' q
  rcases q with ⟨v9, h1, ⟨c0, er, kp⟩, rng, e, eh⟩ | ⟨z, e⟩
  · have ev := zI_one er rng (by first | omega | (split <;> omega))
    rw [eh]
    exact ⟨e.trans (congrArg (fun z => some (Value.int (zI z))) (show (0 : Int) = if p = 0 then 0 else 1 by omega)), lwK_v (by omega) ev kp⟩
  · rcases z with ⟨ec, cc, kp⟩
    · exact ⟨e.trans (congrArg (fun z => some (Value.int (zI z))) (show (1 : Int) = if p = 0 then 0 else 1 by omega)), lwK_x (by omega) kp⟩
set_option maxHeartbeats 1000000 in
set_option maxRecDepth 100000 in
theorem cF_feed {E : pw_E} (htr : E.1.stackTraces = false) {h : pz_H} {w H : Int} {N NH NB NL : Nat} (hG : geoH w H N NH NB NL) (hA : hAt w H N NH NB NL 0 (hNew w H N 0) h) {p k : Int} {v : Int64} (h_p : -2147483648 ≤ p ∧ p < 2147483648) (h_k : -2147483648 ≤ k ∧ k < 2147483648)  : pw_M E yX9_feed YX9_feed (rmD 9 2 12) [.ref 0, .int (zI (p)), .long (v), .int (zI (k))] h 166 (fun r h' n' => (p = 0 ∧ 1 ≤ k ∧ k ≤ 8) ∧ r = none ∧ hKp h h') (fun C h' n' => (C = "java/lang/IndexOutOfBoundsException" ∧ ¬ p = 0 ∧ hKp h h') ∨ (C = "java/lang/IllegalArgumentException" ∧ (p = 0 ∧ ¬ (1 ≤ k ∧ k ≤ 8)) ∧ hKp h h')) := by
  have hw := hG.1.1
  have hH := hG.1.2.1
  have hN := hG.1.2.2.1
  have hNL := hG.2.2
  refine pw_M_mono (mX9_feed (M := 0) (B := 0) htr hG hA (nw_hGd hw hH) (by omega) h_p h_k) ?_ ?_
  · intro r h' n' q
    exact ⟨⟨nw_h1 q.1, q.2.1⟩, q.2.2.1, hKp_of (w := w) (H := H) (N := N) q.2.2.2.2.1⟩
  · intro C h' n' q
    rcases q with q | q
    · exact Or.inl ⟨q.1, nw_h0 q.2.1, by rw [q.2.2.1]; exact hKp_rf⟩
    · exact Or.inr ⟨q.1, ⟨nw_h1 q.2.1.1, q.2.1.2⟩, by rw [q.2.2.1]; exact hKp_rf⟩
set_option maxHeartbeats 1000000 in
set_option maxRecDepth 100000 in
theorem wF_feed {E : pw_E} (htr : E.1.stackTraces = false) {h : pz_H} {w H : Int} {N NH NB NL : Nat} (hG : geoH w H N NH NB NL) (hA : hAt w H N NH NB NL 0 (hNew w H N 0) h) {p k : Int} {v : Int64} (h_p : -2147483648 ≤ p ∧ p < 2147483648) (h_k : -2147483648 ≤ k ∧ k < 2147483648)  : pw_MH E yL_feed YL_feed [(0, 8, 11, 13), (0, 8, 15, 15)] (rmD (9 + 1) 2 12) [.ref 0, .int (zI (p)), .long (v), .int (zI (k))] h 166 (fun r0 h' n' => r0 = some (.int (zI (if p = 0 then (if 1 ≤ k ∧ k ≤ 8 then 0 else 2) else 1))) ∧ hKp h h') (fun _ _ _ => False) := by
  have hw := hG.1.1
  have hH := hG.1.2.1
  have hN := hG.1.2.2.1
  have hNL := hG.2.2
  refine pw_MH_mono (wL_feed (dd := 9) (mc := 2) (ms := 12) htr hA.1 (cF_feed htr hG hA h_p h_k ) (fun r h' n' z => z.2.1) (fun C h' n' z => by
      rcases z with ⟨rfl, -, -⟩ | ⟨rfl, -, -⟩
      · exact Or.inl rfl
      · exact Or.inr rfl)) ?_
  intro r0 h' n' q
  rcases q with ⟨⟨c0, -, kp⟩, e⟩ | ⟨z, e⟩ | ⟨z, e⟩
  · exact ⟨e.trans (congrArg (fun z => some (Value.int (zI z))) (show (0 : Int) = if p = 0 then (if 1 ≤ k ∧ k ≤ 8 then 0 else 2) else 1 by omega)), kp⟩
  · rcases z with ⟨ec, cc, kp⟩ | ⟨ec, cc, kp⟩
    · exact ⟨e.trans (congrArg (fun z => some (Value.int (zI z))) (show (1 : Int) = if p = 0 then (if 1 ≤ k ∧ k ≤ 8 then 0 else 2) else 1 by omega)), kp⟩
    · exact absurd ec (by decide)
  · rcases z with ⟨ec, cc, kp⟩ | ⟨ec, cc, kp⟩
    · exact absurd ec (by decide)
    · exact ⟨e.trans (congrArg (fun z => some (Value.int (zI z))) (show (2 : Int) = if p = 0 then (if 1 ≤ k ∧ k ≤ 8 then 0 else 2) else 1 by omega)), kp⟩
set_option maxHeartbeats 1000000 in
set_option maxRecDepth 100000 in
theorem cF_close {E : pw_E} (htr : E.1.stackTraces = false) {h : pz_H} {w H : Int} {N NH NB NL : Nat} (hG : geoH w H N NH NB NL) (hA : hAt w H N NH NB NL 0 (hNew w H N 0) h) {p : Int} (h_p : -2147483648 ≤ p ∧ p < 2147483648)  : pw_M E yX9_close YX9_close (rmD 21 2 12) [.ref 0, .int (zI (p))] h 166 (fun r h' n' => False ∧ r = some (.int (zI (0))) ∧ hKp h h') (fun C h' n' => (C = "java/lang/IndexOutOfBoundsException" ∧ ¬ p = 0 ∧ hKp h h') ∨ (C = "java/lang/IllegalStateException" ∧ p = 0 ∧ hKp h h')) := by
  have hw := hG.1.1
  have hH := hG.1.2.1
  have hN := hG.1.2.2.1
  have hNL := hG.2.2
  refine pw_M_mono (mX9_close (M := 0) (B := 0) htr hG hA (nw_hGd hw hH) (by omega) h_p (fun z => absurd z nw_rm)) ?_ ?_
  · intro r h' n' q
    exact absurd q.2.1 nw_rm
  · intro C h' n' q
    rcases q with q | q
    · exact Or.inl ⟨q.1, nw_h0 q.2.1, by rw [q.2.2.1]; exact hKp_rf⟩
    · exact Or.inr ⟨q.1, nw_h1 q.2.1.1, hKp_of (w := w) (H := H) (N := N) q.2.2.2.1⟩
set_option maxHeartbeats 1000000 in
set_option maxRecDepth 100000 in
theorem wF_close {E : pw_E} (htr : E.1.stackTraces = false) {h : pz_H} {w H : Int} {N NH NB NL : Nat} (hG : geoH w H N NH NB NL) (hA : hAt w H N NH NB NL 0 (hNew w H N 0) h) {p : Int} (h_p : -2147483648 ≤ p ∧ p < 2147483648)  {f : Nat → Int64} (ho : h 165 = pz_j 2 1 f) : pw_MH E yL_close YL_close [(0, 9, 12, 13), (0, 9, 15, 25)] (rmD (21 + 1) 2 12) [.ref 0, .int (zI (p)), .ref 165] h 166 (fun r0 h' n' => r0 = some (.int (zI (if p = 0 then 2 else 1))) ∧ lwK (if p = 0 then 2 else 1) (0) h h') (fun _ _ _ => False) := by
  have hw := hG.1.1
  have hH := hG.1.2.1
  have hN := hG.1.2.2.1
  have hNL := hG.2.2
  refine pw_MH_mono (wL_close (dd := 21) (mc := 2) (ms := 12) htr (o := 165) (f := f) hA.1 (cF_close htr hG hA h_p ) (fun r h' n' z => ⟨_, by first | omega | (split <;> omega), z.2.1, (z.2.2 165 (by omega) (by omega)).trans ho⟩) (fun C h' n' z => by
      rcases z with ⟨rfl, -, -⟩ | ⟨rfl, -, -⟩
      · exact Or.inl rfl
      · exact Or.inr rfl)) ?_
  intro r0 h' n' q
  rcases q with ⟨v9, h1, ⟨c0, er, kp⟩, rng, e, eh⟩ | ⟨z, e⟩ | ⟨z, e⟩
  · exact c0.elim
  · rcases z with ⟨ec, cc, kp⟩ | ⟨ec, cc, kp⟩
    · exact ⟨e.trans (congrArg (fun z => some (Value.int (zI z))) (show (1 : Int) = if p = 0 then 2 else 1 by omega)), lwK_x (by omega) kp⟩
    · exact absurd ec (by decide)
  · rcases z with ⟨ec, cc, kp⟩ | ⟨ec, cc, kp⟩
    · exact absurd ec (by decide)
    · exact ⟨e.trans (congrArg (fun z => some (Value.int (zI z))) (show (2 : Int) = if p = 0 then 2 else 1 by omega)), lwK_x (by omega) kp⟩
set_option maxHeartbeats 1000000 in
set_option maxRecDepth 100000 in
theorem cF_split {E : pw_E} (htr : E.1.stackTraces = false) {h : pz_H} {w H : Int} {N NH NB NL : Nat} (hG : geoH w H N NH NB NL) (hA : hAt w H N NH NB NL 0 (hNew w H N 0) h) {p dn : Int} (h_p : -2147483648 ≤ p ∧ p < 2147483648) (h_dn : -2147483648 ≤ dn ∧ dn < 2147483648) (hdn : 0 ≤ dn ∧ dn ≤ 1) : pw_M E yX9_split YX9_split (rmD 22 4 28) [.ref 0, .int (zI (p)), .int (zI (dn))] h 166 (fun r h' n' => p = 0 ∧ r = some (.int (zI (if p = 0 then 1 else 0))) ∧ hKp h h') (fun C h' n' => (C = "java/lang/IndexOutOfBoundsException" ∧ ¬ p = 0 ∧ hKp h h')) := by
  have hw := hG.1.1
  have hH := hG.1.2.1
  have hN := hG.1.2.2.1
  have hNL := hG.2.2
  refine pw_M_mono (mX9_split (M := 0) (B := 0) htr hG hA (nw_hGd hw hH) (by omega) h_p h_dn hdn (by omega) (fun k hk => nw_no hk) (fun z => by have e0 : p = 0 := (by have := z.2.1; by_cases e : p = 0; exact e; exact absurd (nw_lv (by omega)) this); subst e0; rcases (show dn = 0 ∨ dn = 1 by omega) with rfl | rfl; exact nw_ly0 hw hH (by omega); exact nw_ly1 hw hH (by omega))) ?_ ?_
  · intro r h' n' q
    have e0 := nw_h1 q.1
    subst e0
    refine ⟨rfl, ?_, hKp_of (w := w) (H := H) (N := N) q.2.2.2.2.1⟩
    rw [q.2.2.1, nw_least]
    rfl
  · intro C h' n' q
    rcases q with q | q
    · exact ⟨q.1, nw_h0 q.2.1, by rw [q.2.2.1]; exact hKp_rf⟩
    · have e0 := nw_h1 q.2.1.1
      subst e0
      exact absurd (nw_dv hw hH hdn) q.2.1.2
set_option maxHeartbeats 1000000 in
set_option maxRecDepth 100000 in
theorem wF_split {E : pw_E} (htr : E.1.stackTraces = false) {h : pz_H} {w H : Int} {N NH NB NL : Nat} (hG : geoH w H N NH NB NL) (hA : hAt w H N NH NB NL 0 (hNew w H N 0) h) {p dn : Int} (h_p : -2147483648 ≤ p ∧ p < 2147483648) (h_dn : -2147483648 ≤ dn ∧ dn < 2147483648) (hdn : 0 ≤ dn ∧ dn ≤ 1) {f : Nat → Int64} (ho : h 165 = pz_j 2 1 f) : pw_MH E yL_split YL_split [(0, 10, 13, 13), (0, 10, 17, 25)] (rmD (22 + 1) 4 28) [.ref 0, .int (zI (p)), .int (zI (dn)), .ref 165] h 166 (fun r0 h' n' => r0 = some (.int (zI (if p = 0 then 0 else 1))) ∧ lwK (if p = 0 then 0 else 1) (if p = 0 then 1 else 0) h h') (fun _ _ _ => False) := by
  have hw := hG.1.1
  have hH := hG.1.2.1
  have hN := hG.1.2.2.1
  have hNL := hG.2.2
  refine pw_MH_mono (wL_split (dd := 22) (mc := 4) (ms := 28) htr (o := 165) (f := f) hA.1 (cF_split htr hG hA h_p h_dn hdn) (fun r h' n' z => ⟨_, by first | omega | (split <;> omega), z.2.1, (z.2.2 165 (by omega) (by omega)).trans ho⟩) (fun C h' n' z => by
      rcases z with ⟨rfl, -, -⟩
      · exact Or.inl rfl)) ?_
  intro r0 h' n' q
  rcases q with ⟨v9, h1, ⟨c0, er, kp⟩, rng, e, eh⟩ | ⟨z, e⟩ | ⟨z, e⟩
  · have ev := zI_one er rng (by first | omega | (split <;> omega))
    rw [eh]
    exact ⟨e.trans (congrArg (fun z => some (Value.int (zI z))) (show (0 : Int) = if p = 0 then 0 else 1 by omega)), lwK_v (by omega) ev kp⟩
  · rcases z with ⟨ec, cc, kp⟩
    · exact ⟨e.trans (congrArg (fun z => some (Value.int (zI z))) (show (1 : Int) = if p = 0 then 0 else 1 by omega)), lwK_x (by omega) kp⟩
  · rcases z with ⟨ec, cc, kp⟩
    · exact absurd ec (by decide)
set_option maxHeartbeats 1000000 in
set_option maxRecDepth 100000 in
theorem cF_key {E : pw_E} (htr : E.1.stackTraces = false) {h : pz_H} {w H : Int} {N NH NB NL : Nat} (hG : geoH w H N NH NB NL) (hA : hAt w H N NH NB NL 0 (hNew w H N 0) h) {k : Int} (h_k : -2147483648 ≤ k ∧ k < 2147483648)  : pw_M E yX9_key YX9_key (rmD 23 2 16) [.ref 0, .int (zI (k))] h 166 (fun r h' n' => (0 ≤ k ∧ k ≤ 255) ∧ r = some (.int (zI (0))) ∧ hKp h h') (fun C h' n' => (C = "java/lang/IllegalArgumentException" ∧ ¬ (0 ≤ k ∧ k ≤ 255) ∧ hKp h h')) := by
  have hw := hG.1.1
  have hH := hG.1.2.1
  have hN := hG.1.2.2.1
  have hNL := hG.2.2
  refine pw_M_mono (mX9_key2 (M := 0) (B := 0) htr hG hA (nw_hGd hw hH) (by omega) h_k (by omega) (fun k hk => nw_no hk) (fun dn hdn z => by rw [show hFoc (hNew w H N 0) = 0 from rfl]; rcases (show dn = 0 ∨ dn = 1 by omega) with rfl | rfl; exact nw_ly0 hw hH (by omega); exact nw_ly1 hw hH (by omega)) (fun z => absurd z nw_rm)) ?_ ?_
  · intro r h' n' q
    exact ⟨q.1, by rw [q.2.1, nw_key], hKp_of (w := w) (H := H) (N := N) q.2.2.2.1⟩
  · intro C h' n' q
    exact ⟨q.1, q.2.1, by rw [q.2.2.1]; exact hKp_rf⟩
set_option maxHeartbeats 1000000 in
set_option maxRecDepth 100000 in
theorem wF_key {E : pw_E} (htr : E.1.stackTraces = false) {h : pz_H} {w H : Int} {N NH NB NL : Nat} (hG : geoH w H N NH NB NL) (hA : hAt w H N NH NB NL 0 (hNew w H N 0) h) {k : Int} (h_k : -2147483648 ≤ k ∧ k < 2147483648)  {f : Nat → Int64} (ho : h 165 = pz_j 2 1 f) : pw_MH E yL_key YL_key [(0, 9, 12, 15)] (rmD (23 + 1) 2 16) [.ref 0, .int (zI (k)), .ref 165] h 166 (fun r0 h' n' => r0 = some (.int (zI (if 0 ≤ k ∧ k ≤ 255 then 0 else 1))) ∧ lwK (if 0 ≤ k ∧ k ≤ 255 then 0 else 1) (0) h h') (fun _ _ _ => False) := by
  have hw := hG.1.1
  have hH := hG.1.2.1
  have hN := hG.1.2.2.1
  have hNL := hG.2.2
  refine pw_MH_mono (wL_key (dd := 23) (mc := 2) (ms := 16) htr (o := 165) (f := f) hA.1 (cF_key htr hG hA h_k ) (fun r h' n' z => ⟨_, by first | omega | (split <;> omega), z.2.1, (z.2.2 165 (by omega) (by omega)).trans ho⟩) (fun C h' n' z => by
      rcases z with ⟨rfl, -, -⟩
      · exact rfl)) ?_
  intro r0 h' n' q
  rcases q with ⟨v9, h1, ⟨c0, er, kp⟩, rng, e, eh⟩ | ⟨z, e⟩
  · have ev := zI_one er rng (by first | omega | (split <;> omega))
    rw [eh]
    exact ⟨e.trans (congrArg (fun z => some (Value.int (zI z))) (show (0 : Int) = if 0 ≤ k ∧ k ≤ 255 then 0 else 1 by omega)), lwK_v (by omega) ev kp⟩
  · rcases z with ⟨ec, cc, kp⟩
    · exact ⟨e.trans (congrArg (fun z => some (Value.int (zI z))) (show (1 : Int) = if 0 ≤ k ∧ k ≤ 255 then 0 else 1 by omega)), lwK_x (by omega) kp⟩
set_option maxHeartbeats 1000000 in
set_option maxRecDepth 100000 in
theorem cF_cell {E : pw_E} (htr : E.1.stackTraces = false) {h : pz_H} {w H : Int} {N NH NB NL : Nat} (hG : geoH w H N NH NB NL) (hA : hAt w H N NH NB NL 0 (hNew w H N 0) h) {x y ta : Int} (h_x : -2147483648 ≤ x ∧ x < 2147483648) (h_y : -2147483648 ≤ y ∧ y < 2147483648) (h_ta : -2147483648 ≤ ta ∧ ta < 2147483648) (hta : 0 ≤ ta ∧ ta ≤ 1) : pw_M E yX9_cell YX9_cell (rmD 14 1 6) [.ref 0, .int (zI (x)), .int (zI (y)), .int (zI (ta))] h 166 (fun r h' n' => (0 ≤ x ∧ x < w ∧ 0 ≤ y ∧ y < H) ∧ r = some (.int (zI (if (0 ≤ x ∧ x < w ∧ 0 ≤ y ∧ y < H) then (if ta = 0 then 32 else 0) else 0))) ∧ hKp h h') (fun C h' n' => (C = "java/lang/IndexOutOfBoundsException" ∧ ¬ (0 ≤ x ∧ x < w ∧ 0 ≤ y ∧ y < H) ∧ hKp h h')) := by
  have hw := hG.1.1
  have hH := hG.1.2.1
  have hN := hG.1.2.2.1
  have hNL := hG.2.2
  refine pw_M_mono (mX9_cell (M := 0) (B := 0) htr hG hA (nw_hGd hw hH) (by omega) h_x h_y h_ta hta) ?_ ?_
  · intro r h' n' q
    refine ⟨q.1, ?_, hKp_of (w := w) (H := H) (N := N) q.2.2.2.1⟩
    have z := zrow (row := y) (w := w) (H := H) (by omega) (by omega) (by omega)
    rw [q.2.1, nw_draw hw hH hN (k := (y * w + x).toNat) (by rw [Int.mul_comm H w]; omega)]
    refine congrArg (fun z => some (Value.int (zI z))) ?_
    show (if ¬ ta = 0 then (32 : Int) / 128 else 32 % 128) = _
    rw [if_pos q.1]
    by_cases e : ta = 0
    · rw [if_neg (fun z => z e), if_pos e]; rfl
    · rw [if_pos e, if_neg e]; rfl
  · intro C h' n' q
    exact ⟨q.1, q.2.1, by rw [q.2.2.1]; exact hKp_rf⟩
set_option maxHeartbeats 1000000 in
set_option maxRecDepth 100000 in
theorem wF_cell {E : pw_E} (htr : E.1.stackTraces = false) {h : pz_H} {w H : Int} {N NH NB NL : Nat} (hG : geoH w H N NH NB NL) (hA : hAt w H N NH NB NL 0 (hNew w H N 0) h) {x y ta : Int} (h_x : -2147483648 ≤ x ∧ x < 2147483648) (h_y : -2147483648 ≤ y ∧ y < 2147483648) (h_ta : -2147483648 ≤ ta ∧ ta < 2147483648) (hta : 0 ≤ ta ∧ ta ≤ 1) {f : Nat → Int64} (ho : h 165 = pz_j 2 1 f) : pw_MH E yL_cell_ YL_cell_ [(0, 12, 15, 13)] (rmD (14 + 1) 1 6) [.ref 0, .int (zI (x)), .int (zI (y)), .int (zI (ta)), .ref 165] h 166 (fun r0 h' n' => r0 = some (.int (zI (if (0 ≤ x ∧ x < w ∧ 0 ≤ y ∧ y < H) then 0 else 1))) ∧ lwK (if (0 ≤ x ∧ x < w ∧ 0 ≤ y ∧ y < H) then 0 else 1) (if (0 ≤ x ∧ x < w ∧ 0 ≤ y ∧ y < H) then (if ta = 0 then 32 else 0) else 0) h h') (fun _ _ _ => False) := by
  have hw := hG.1.1
  have hH := hG.1.2.1
  have hN := hG.1.2.2.1
  have hNL := hG.2.2
  refine pw_MH_mono (wL_cell_ (dd := 14) (mc := 1) (ms := 6) htr (o := 165) (f := f) hA.1 (cF_cell htr hG hA h_x h_y h_ta hta) (fun r h' n' z => ⟨_, by first | omega | (split <;> omega), z.2.1, (z.2.2 165 (by omega) (by omega)).trans ho⟩) (fun C h' n' z => by
      rcases z with ⟨rfl, -, -⟩
      · exact rfl)) ?_
  intro r0 h' n' q
  rcases q with ⟨v9, h1, ⟨c0, er, kp⟩, rng, e, eh⟩ | ⟨z, e⟩
  · have ev := zI_one er rng (by first | omega | (split <;> omega))
    rw [eh]
    exact ⟨e.trans (congrArg (fun z => some (Value.int (zI z))) (show (0 : Int) = if (0 ≤ x ∧ x < w ∧ 0 ≤ y ∧ y < H) then 0 else 1 by omega)), lwK_v (by omega) ev kp⟩
  · rcases z with ⟨ec, cc, kp⟩
    · exact ⟨e.trans (congrArg (fun z => some (Value.int (zI z))) (show (1 : Int) = if (0 ≤ x ∧ x < w ∧ 0 ≤ y ∧ y < H) then 0 else 1 by omega)), lwK_x (by omega) kp⟩
set_option maxHeartbeats 1000000 in
set_option maxRecDepth 100000 in
theorem cF_select {E : pw_E} (htr : E.1.stackTraces = false) {h : pz_H} {w H : Int} {N NH NB NL : Nat} (hG : geoH w H N NH NB NL) (hA : hAt w H N NH NB NL 0 (hNew w H N 0) h) {p ro co tr tc : Int} (h_p : -2147483648 ≤ p ∧ p < 2147483648) (h_ro : -2147483648 ≤ ro ∧ ro < 2147483648) (h_co : -2147483648 ≤ co ∧ co < 2147483648) (h_tr : -2147483648 ≤ tr ∧ tr < 2147483648) (h_tc : -2147483648 ≤ tc ∧ tc < 2147483648)  : pw_M E yX9_select YX9_select (rmD 7 4 24) [.ref 0, .int (zI (p)), .int (zI (ro)), .int (zI (co)), .int (zI (tr)), .int (zI (tc))] h 166 (fun r h' n' => (p = 0 ∧ (0 ≤ ro ∧ ro < H ∧ 0 ≤ co ∧ co < w) ∧ (0 ≤ tr ∧ tr < H ∧ 0 ≤ tc ∧ tc < w) ∧ (ro < tr ∨ (ro = tr ∧ co ≤ tc))) ∧ r = some (.int (zI (if p = 0 ∧ (0 ≤ ro ∧ ro < H ∧ 0 ≤ co ∧ co < w) ∧ (0 ≤ tr ∧ tr < H ∧ 0 ≤ tc ∧ tc < w) ∧ (ro < tr ∨ (ro = tr ∧ co ≤ tc)) then tr - ro else 0))) ∧ hKp h h') (fun C h' n' => (C = "java/lang/IndexOutOfBoundsException" ∧ ¬ (p = 0 ∧ (0 ≤ ro ∧ ro < H ∧ 0 ≤ co ∧ co < w) ∧ (0 ≤ tr ∧ tr < H ∧ 0 ≤ tc ∧ tc < w)) ∧ hKp h h') ∨ (C = "java/lang/IllegalArgumentException" ∧ (p = 0 ∧ (0 ≤ ro ∧ ro < H ∧ 0 ≤ co ∧ co < w) ∧ (0 ≤ tr ∧ tr < H ∧ 0 ≤ tc ∧ tc < w) ∧ ¬ (ro < tr ∨ (ro = tr ∧ co ≤ tc))) ∧ hKp h h')) := by
  have hw := hG.1.1
  have hH := hG.1.2.1
  have hN := hG.1.2.2.1
  have hNL := hG.2.2
  refine pw_M_mono (mX9_select (M := 0) (B := 0) htr hG hA (nw_hGd hw hH) (by omega) h_p h_ro h_co h_tr h_tc) ?_ ?_
  · intro r h' n' q
    obtain ⟨q1, q2, q3, q4, q5, q6, q7⟩ := q
    have e0 := nw_h1 q1
    subst e0
    rw [show Int.toNat 0 = 0 from rfl, nw_X, nw_3, nw_4] at q2
    refine ⟨⟨rfl, q2.1, q2.2, q3⟩, ?_, hKp_of (w := w) (H := H) (N := N) q6⟩
    rw [q4, nw_sel hw hH hNL (by omega) (by omega) (by omega) (by omega) q3]
    exact congrArg (fun z => some (Value.int (zI z))) (if_pos ⟨rfl, q2.1, q2.2, q3⟩).symm
  · intro C h' n' q
    rcases q with q | q | q
    · exact Or.inl ⟨q.1, fun z => nw_h0 q.2.1 z.1, by rw [q.2.2.1]; exact hKp_rf⟩
    · obtain ⟨q1, ⟨q2, q3⟩, q4, q5⟩ := q
      have e0 := nw_h1 q2
      subst e0
      rw [show Int.toNat 0 = 0 from rfl, nw_X, nw_3, nw_4] at q3
      exact Or.inl ⟨q1, fun z => q3 z.2, by rw [q4]; exact hKp_rf⟩
    · obtain ⟨q1, ⟨q2, q3, q6⟩, q4, q5⟩ := q
      have e0 := nw_h1 q2
      subst e0
      rw [show Int.toNat 0 = 0 from rfl, nw_X, nw_3, nw_4] at q3
      exact Or.inr ⟨q1, ⟨rfl, q3.1, q3.2, q6⟩, by rw [q4]; exact hKp_rf⟩
set_option maxHeartbeats 1000000 in
set_option maxRecDepth 100000 in
theorem wF_select {E : pw_E} (htr : E.1.stackTraces = false) {h : pz_H} {w H : Int} {N NH NB NL : Nat} (hG : geoH w H N NH NB NL) (hA : hAt w H N NH NB NL 0 (hNew w H N 0) h) {p ro co tr tc : Int} (h_p : -2147483648 ≤ p ∧ p < 2147483648) (h_ro : -2147483648 ≤ ro ∧ ro < 2147483648) (h_co : -2147483648 ≤ co ∧ co < 2147483648) (h_tr : -2147483648 ≤ tr ∧ tr < 2147483648) (h_tc : -2147483648 ≤ tc ∧ tc < 2147483648)  {f : Nat → Int64} (ho : h 165 = pz_j 2 1 f) : pw_MH E yL_select YL_select [(0, 16, 19, 13), (0, 16, 23, 15)] (rmD (7 + 1) 4 24) [.ref 0, .int (zI (p)), .int (zI (ro)), .int (zI (co)), .int (zI (tr)), .int (zI (tc)), .ref 165] h 166 (fun r0 h' n' => r0 = some (.int (zI (if p = 0 ∧ (0 ≤ ro ∧ ro < H ∧ 0 ≤ co ∧ co < w) ∧ (0 ≤ tr ∧ tr < H ∧ 0 ≤ tc ∧ tc < w) then (if (ro < tr ∨ (ro = tr ∧ co ≤ tc)) then 0 else 2) else 1))) ∧ lwK (if p = 0 ∧ (0 ≤ ro ∧ ro < H ∧ 0 ≤ co ∧ co < w) ∧ (0 ≤ tr ∧ tr < H ∧ 0 ≤ tc ∧ tc < w) then (if (ro < tr ∨ (ro = tr ∧ co ≤ tc)) then 0 else 2) else 1) (if p = 0 ∧ (0 ≤ ro ∧ ro < H ∧ 0 ≤ co ∧ co < w) ∧ (0 ≤ tr ∧ tr < H ∧ 0 ≤ tc ∧ tc < w) ∧ (ro < tr ∨ (ro = tr ∧ co ≤ tc)) then tr - ro else 0) h h') (fun _ _ _ => False) := by
  have hw := hG.1.1
  have hH := hG.1.2.1
  have hN := hG.1.2.2.1
  have hNL := hG.2.2
  refine pw_MH_mono (wL_select (dd := 7) (mc := 4) (ms := 24) htr (o := 165) (f := f) hA.1 (cF_select htr hG hA h_p h_ro h_co h_tr h_tc ) (fun r h' n' z => ⟨_, by first | omega | (split <;> omega), z.2.1, (z.2.2 165 (by omega) (by omega)).trans ho⟩) (fun C h' n' z => by
      rcases z with ⟨rfl, -, -⟩ | ⟨rfl, -, -⟩
      · exact Or.inl rfl
      · exact Or.inr rfl)) ?_
  intro r0 h' n' q
  rcases q with ⟨v9, h1, ⟨c0, er, kp⟩, rng, e, eh⟩ | ⟨z, e⟩ | ⟨z, e⟩
  · have ev := zI_one er rng (by first | omega | (split <;> omega))
    rw [eh]
    exact ⟨e.trans (congrArg (fun z => some (Value.int (zI z))) (show (0 : Int) = if p = 0 ∧ (0 ≤ ro ∧ ro < H ∧ 0 ≤ co ∧ co < w) ∧ (0 ≤ tr ∧ tr < H ∧ 0 ≤ tc ∧ tc < w) then (if (ro < tr ∨ (ro = tr ∧ co ≤ tc)) then 0 else 2) else 1 by omega)), lwK_v (by omega) ev kp⟩
  · rcases z with ⟨ec, cc, kp⟩ | ⟨ec, cc, kp⟩
    · exact ⟨e.trans (congrArg (fun z => some (Value.int (zI z))) (show (1 : Int) = if p = 0 ∧ (0 ≤ ro ∧ ro < H ∧ 0 ≤ co ∧ co < w) ∧ (0 ≤ tr ∧ tr < H ∧ 0 ≤ tc ∧ tc < w) then (if (ro < tr ∨ (ro = tr ∧ co ≤ tc)) then 0 else 2) else 1 by omega)), lwK_x (by omega) kp⟩
    · exact absurd ec (by decide)
  · rcases z with ⟨ec, cc, kp⟩ | ⟨ec, cc, kp⟩
    · exact absurd ec (by decide)
    · exact ⟨e.trans (congrArg (fun z => some (Value.int (zI z))) (show (2 : Int) = if p = 0 ∧ (0 ≤ ro ∧ ro < H ∧ 0 ≤ co ∧ co < w) ∧ (0 ≤ tr ∧ tr < H ∧ 0 ≤ tc ∧ tc < w) then (if (ro < tr ∨ (ro = tr ∧ co ≤ tc)) then 0 else 2) else 1 by omega)), lwK_x (by omega) kp⟩
set_option maxHeartbeats 1000000 in
set_option maxRecDepth 100000 in
theorem cF_redraw {E : pw_E} (htr : E.1.stackTraces = false) {h : pz_H} {w H : Int} {N NH NB NL : Nat} (hG : geoH w H N NH NB NL) (hA : hAt w H N NH NB NL 0 (hNew w H N 0) h) : pw_M E yX9_redraw YX9_redraw (rmD 14 0 0) [.ref 0] h 166 (fun r h' n' => r = some (.int (zI 0)) ∧ hKp h h') (fun _ _ _ => False) := by
  have hw := hG.1.1
  have hH := hG.1.2.1
  have hN := hG.1.2.2.1
  have hNL := hG.2.2
  exact pw_M_mono (mX9_redraw (M := 0) (B := 0) htr hG hA (nw_hGd hw hH) (by omega)) (fun r h' n' q => ⟨by rw [q.1, nw_red hw hH hN], hKp_of (w := w) (H := H) (N := N) q.2.2.1⟩) (fun _ _ _ z => z)
