/-! ===== a throw of the class's own, with its text ===== -/
abbrev thN : List String := ["java/lang/RuntimeException", "java/lang/Exception"]
theorem pw_throw {E : pw_E} {Y : pw_Y} {R : Room} {K : pw_K} {uc us pc : Nat} {lv : List (Option Value)} {h : pz_H} {n : Nat} {cls text : String} {ik is ic : Nat} (hcls : Bundle.fit cls = true) (hk : Cond.classLink Y.1 ik cls ∈ pw_G) (hini : Cond.initialized cls ∈ pw_G) (hstr : (Y.1, is, text) ∈ pw_S)
    (hat : ∀ w ∈ vx_atS Y.1 ic cls thN, w ∈ pw_G ∨ w ∈ pw_N) (hR : 6 ≤ R.frames ∧ 82 ≤ R.locals) (hcs : uc + 1 ≤ R.cells ∧ us + 6 ≤ R.slots)
    (d0 : decode Y.2.2.1 pc = .ok (.new ik, 3)) (d3 : decode Y.2.2.1 (pc + 3) = .ok (.dup, 1)) (d4 : decode Y.2.2.1 (pc + 4) = .ok (.ldc is, 2)) (d6 : decode Y.2.2.1 (pc + 6) = .ok (.invokespecial ic, 3)) (d9 : decode Y.2.2.1 (pc + 9) = .ok (.athrow, 1))
    (hX : K.2.2.2 cls h n) : pw E Y R K uc us pc lv [] h n := by
  intro p e s m args below meth c H locs L ls F d ks
  obtain ⟨sa, hs⟩ := (pwF_U F).2.2.2.2.2.1 _ hstr
  have hot : ∀ w : Cond, w ∈ pw_G ∨ w ∈ pw_N → vx_ot w = true := fun w hw => by
    unfold vx_ot
    rcases hw with hw | hw
    · rw [pw_good w hw, Bool.or_true]
    · rw [pw_N_tab w hw, Bool.true_or]
  refine vx_throwS (names := thN) (own := Y.1) (cls := cls) (text := text) (A := pw_A E) (sa := sa) F.1 F.2.1 F.2.2.2.2.2.2.2.2.2.1 (pwF_own F) hcls (by decide +kernel) (pwF_w F _ hk) (pwF_w F _ hini) hs ?_ ?_ (pwF_U F).2.2.1 (pwF_U F).2.2.2.1 d.2.2.2.1 (d.2.2.2.2.1.1.trans F.2.2.1.symm) d0 d3 d4 d6 d9 (fun x hx => (F.2.2.2.2.2.2.2.2.2.2 x hx).elim) (by show 2 + 3 < R.frames; omega) (by show 0 + (13 * (2 + 1) + 43) ≤ R.locals; omega) hcs.1 hcs.2 F.2.2.2.2.1 ?_ d.2.2.2.1.2.2 hcs.1 hcs.2
  · intro w hw
    rcases hat w hw with h1 | h1
    · exact pwF_w F _ h1
    · exact va_Nw.use (pw_N_tab w h1) ((pwF_U F).2.2.2.2.1 w h1)
  · intro w hw
    rcases List.mem_cons.mp hw with e1 | hw
    · rw [e1]; exact hot _ (Or.inl hk)
    · rcases List.mem_cons.mp hw with e1 | hw
      · rw [e1]; exact hot _ (Or.inl hini)
      · exact hot _ (hat w hw)
  · intro t _ hz hq
    exact ⟨L, h, n, d.1, d.2.1, ⟨va_P.kept d.2.2.1.1 (fun k q hk => hq q.1 (va_at.lt (d.2.2.1.1 k q hk))), d.2.2.1.2.1, d.2.2.1.2.2⟩, hX, Nat.le_trans d.2.2.2.1.1 hz, fun q h1 h2 => (hq q (Nat.lt_of_lt_of_le h1 d.2.2.2.1.1)).trans (d.2.2.2.1.2.1 q h1 h2)⟩
theorem thW {ic : Nat} {cls : String} (h : (vx_atS RX9 ic cls thN).all (fun w => decide (w ∈ pw_G) || decide (w ∈ pw_N)) = true) : ∀ w ∈ vx_atS RX9 ic cls thN, w ∈ pw_G ∨ w ∈ pw_N := fun w hw => by
  have h1 := List.all_eq_true.mp h w hw
  rw [Bool.or_eq_true, decide_eq_true_iff, decide_eq_true_iff] at h1
  exact h1
