
/-- the script's int at k, or 0 -/
def cv (N : Nat) (xs : Nat → Int32) (k : Int) : Int := if k < N then (xs k.toNat).toInt else 0
def wsC : List Cond := Cond.code yL_cell cL_cell 2 (some .int) :: pw_G
theorem whC : Cond.code yL_cell cL_cell 2 (some .int) ∈ pw_G := pw_in 915 (by decide +kernel) (by decide +kernel)
theorem cl_cell {l : Launch} {b N : Nat} {xs : Nat → Int32} {k : Int} (hk : 0 ≤ k ∧ k ≤ 1) (hN : N < 2147483648) : Met l yL_cell wsC (rmD 0 0 0) (fun a U => a = #[Value.ref b, .int (zI k)] ∧ va_X b N xs U U.heap ∧ b < U.heap.size) (fun _ st o t => o = .returned (some (.int (zI (cv N xs k)))) ∧ t.heap = st.heap) 0 0 (fun _ => False) := by
  refine Met.ofW (cc := cL_cell) (maxL := 2) (ret := some .int) (by decide) rfl ?_
  intro p e s m args below meth c s₁ B hml hv
  obtain ⟨rfl, hX, hbl⟩ := hv
  have hl := lv_entry ([.ref b, .int (zI k)]) (n := 2) (nle rfl)
  show W p l e (headSpec wsC (rmD 0 0 0)).room s m _ below meth c s.heap [] 0 0 _ (entryFrame m ([Value.ref b, .int (zI k)] : List Value).toArray 2)
  rw [lg_entry_eq]
  generalize (lg_sl ([Value.ref b, .int (zI k)]) ++ List.replicate (2 - (lg_sl ([Value.ref b, .int (zI k)])).length) Slot.unset).toArray = ls at hl ⊢
  have hl : lv_has ls 2 [(0, .ref b), (1, .int (zI k))] := hl
  have hS : va_S (fun _ => False) s.heap s.heap [] := va_S.rf
  have hn : -2147483648 ≤ (N : Int) ∧ (N : Int) < 2147483648 := by omega
  have ha : -2147483648 ≤ k ∧ k < 2147483648 := by omega
  refine lv_iload_n B.exec B.bytes dL_cell_0 rfl (lv_at hl 1 rfl) (lv_aload_n B.exec B.bytes dL_cell_1 rfl (lv_at hl 0 rfl) (va_slen B.exec B.bytes hX hbl (fun z => z) hS dL_cell_2 ?_))
  refine lv_icmp_ge (tgt := 12) B.exec B.bytes dL_cell_3 rfl (fun z => ?_) (fun z => ?_)
  · have z2 := (zI_le hn ha).mp z
    have e9 : cv N xs k = 0 := if_neg (by omega)
    rw [e9]
    exact lv_iconst B.exec B.bytes dL_cell_12 rfl (W.iret B.exec B.bytes B.returns (fun t ht hW => ⟨rfl, ht⟩) (fun _ z => absurd z List.not_mem_nil) dL_cell_13 B.notSynchronized)
  · have z2 : k < N := Int.not_le.mp (fun q => z ((zI_le hn ha).mpr q))
    have e9 : zI (cv N xs k) = xs (zI k).toNatClampNeg := by
      rw [zI_cl hk.1 (by omega), show cv N xs k = (xs k.toNat).toInt from if_pos z2, ← zI_of]
    rw [e9]
    exact lv_aload_n B.exec B.bytes dL_cell_6 rfl (lv_at hl 0 rfl) (lv_iload_n B.exec B.bytes dL_cell_7 rfl (lv_at hl 1 rfl) (va_sld B.exec B.bytes hX hbl (fun z => z) hS (zI_in hk.1 z2 hN) dL_cell_8 (lv_goto (tgt := 13) B.exec B.bytes dL_cell_9 rfl (W.iret B.exec B.bytes B.returns (fun t ht hW => ⟨rfl, ht⟩) (fun _ z => absurd z List.not_mem_nil) dL_cell_13 B.notSynchronized))))
/-- aload_0, iconst_k, cell(script, k) -/
theorem pl_cell {E : pw_E} {Y : pw_Y} {X : pl_B} {R : Room} {K : pw_K} {uc us pc : Nat} {lv : List (Option Value)} {st : List Value} {h : pz_H} {n index : Nat} {k : Int} {a1 a2 : Nat} (h1 : a1 = pc + 1) (h2 : a2 = pc + 2) (hk : 0 ≤ k ∧ k ≤ 1) (hN : X.2.1 < 2147483648) (hw : Cond.methodLink Y.1 index yL_cell ∈ pw_G ∧ Cond.static yL_cell ∈ pw_G ∧ Cond.initialized yL_cell.cls ∈ pw_G) (hR : 1 ≤ R.frames ∧ 21 ≤ R.locals) (hcat : (st.map fun v => v.category).sum ≤ 8) (hcs : uc ≤ R.cells ∧ us ≤ R.slots)
    (hd0 : decode Y.2.2.1 pc = .ok (.aload_n 0, 1)) (hd1 : decode Y.2.2.1 a1 = .ok (.iconst k, 1)) (hd2 : decode Y.2.2.1 a2 = .ok (.invokestatic index, 3)) (kk : pl E Y X R K uc us (pc + 5) lv (.int (zI (cv X.2.1 X.2.2 k)) :: st) h n) : pl E Y X R K uc us pc lv st h n := by
  intro p e s m args below meth c H locs L ls F d ks zz
  subst h1 h2
  have hG : GoodIn pw_G (va_wsS Y.1 index yL_cell wsC) := fun w hw9 => by
    have hm : w ∈ pw_G := by
      rcases List.mem_append.mp hw9 with e1 | e1
      · rcases List.mem_cons.mp e1 with e2 | e2
        · rw [e2]; exact hw.1
        · rcases List.mem_cons.mp e2 with e2 | e2
          · rw [e2]; exact hw.2.1
          · rcases List.mem_cons.mp e2 with e2 | e2
            · rw [e2]; exact hw.2.2
            · cases e2
      · rcases List.mem_cons.mp e1 with e2 | e2
        · rw [e2]; exact whC
        · exact e2
    exact ⟨hm, good_of_word (pw_good w hm)⟩
  refine lv_aload_n (x := X.1) F.1 F.2.1 hd0 rfl zz (lv_iconst F.1 F.2.1 hd1 rfl ?_)
  have hb : X.1 < s.heap.size := F.2.2.2.2.2.2.2.2.2.2.1.2
  have hrun := va_runS (l := E.1) (e := e) (As := [Value.ref X.1, .int (zI k)]) (rest := st.map (pz_v L)) (n := 2) (g := F0 m (pc + 2) ls (.int (zI k) :: .ref X.1 :: st.map (pz_v L))) ⟨F.1, F.2.1, F.2.2.1, plF_own F, plF_w F⟩ (cl_cell (b := X.1) (N := X.2.1) (xs := X.2.2) hk hN) (va_cwS 2 (plF_w F) hG rfl rfl rfl ⟨by decide +kernel, by decide +kernel, by decide +kernel⟩ ⟨hR.1, by show 8 + (2 + 11) + 0 ≤ R.locals; omega⟩) (H := H) (locs := locs) (cells := uc) (slots := us) (below := below) (meth := meth)
    ⟨fun a U g mk q => q, fun U hU hW => ⟨rfl, (va_X.moved hW.alike F.2.2.2.2.2.2.2.2.2.2.1.1).kept (by rw [hU]; exact d.2.2.2.1.2.1 X.1 hb (plF_b F)), by rw [hU]; exact Nat.lt_of_lt_of_le hb d.2.2.2.1.1⟩⟩ rfl rfl d.2.2.2.2.1.1 rfl (lv_room (pw_cats hcat)) hd2 ⟨hcs.1, hcs.2⟩
  intro T hT X0
  obtain ⟨v, st₀, t, T', Ls, h0, X', hL, e1, e2, ⟨ho, hh⟩, go⟩ := hrun T hT X0
  have ev : v = some (.int (zI (cv X.2.1 X.2.2 k))) := by cases ho; rfl
  subst ev
  have eL : Ls = [] := by
    cases Ls with
    | nil => rfl
    | cons a r => exact (hL a List.mem_cons_self).elim
  subst eL
  rw [List.append_nil] at X'
  have eH : T'.heap = H := by rw [e1, hh, h0]
  obtain ⟨t2, a1, b1⟩ := kk p e s m args below meth c H locs L ls F d ⟨trivial, ks⟩ zz T' eH X'
  exact ⟨t2, go t2 a1, b1⟩
