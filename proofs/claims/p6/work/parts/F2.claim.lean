/-! ===== what every method finds, at the law's start ===== -/
theorem sw0 : ∀ w ∈ u_ws RJ0 TJ0 4, w ∈ lw_tbl := by decide +kernel
theorem si0 : Cond.instantiable RJ0 4 ∈ lw_tbl := List.mem_of_getElem? (i := 650) (by decide +kernel)
theorem sw1 : ∀ w ∈ u_ws RJ4 TJ4 4, w ∈ lw_tbl := by decide +kernel
theorem si1 : Cond.instantiable RJ4 4 ∈ lw_tbl := List.mem_of_getElem? (i := 470) (by decide +kernel)
theorem sw2 : ∀ w ∈ u_ws RJx00060 TJx00060 6, w ∈ lw_tbl := by decide +kernel
theorem si2 : Cond.instantiable RJx00060 6 ∈ lw_tbl := List.mem_of_getElem? (i := 732) (by decide +kernel)
theorem sw3 : ∀ w ∈ u_ws RX0 TX0 3, w ∈ lw_tbl := fun w h => (List.mem_filter.mp (okX0.2.1 w h)).1
theorem si3 : Cond.instantiable RX0 3 ∈ lw_tbl := List.mem_of_getElem? (i := 155) (by decide +kernel)
theorem sw4 : ∀ w ∈ u_ws RX1 TX1 5, w ∈ lw_tbl := fun w h => (List.mem_filter.mp (okX1.2.1 w h)).1
theorem si4 : Cond.instantiable RX1 5 ∈ lw_tbl := List.mem_of_getElem? (i := 171) (by decide +kernel)
theorem sw5 : ∀ w ∈ u_ws RX2 TX2 2, w ∈ lw_tbl := fun w h => (List.mem_filter.mp (okX2.2.1 w h)).1
theorem si5 : Cond.instantiable RX2 2 ∈ lw_tbl := List.mem_of_getElem? (i := 312) (by decide +kernel)
theorem sw6 : ∀ w ∈ u_ws RX3 TX3 8, w ∈ lw_tbl := fun w h => (List.mem_filter.mp (okX3.2.1 w h)).1
theorem si6 : Cond.instantiable RX3 8 ∈ lw_tbl := List.mem_of_getElem? (i := 370) (by decide +kernel)
theorem sw7 : ∀ w ∈ u_ws RX4 TX4 5, w ∈ lw_tbl := fun w h => (List.mem_filter.mp (okX4.2.1 w h)).1
theorem si7 : Cond.instantiable RX4 5 ∈ lw_tbl := List.mem_of_getElem? (i := 127) (by decide +kernel)
theorem sw8 : ∀ w ∈ u_ws RX5 TX5 8, w ∈ lw_tbl := fun w h => (List.mem_filter.mp (okX5.2.1 w h)).1
theorem si8 : Cond.instantiable RX5 8 ∈ lw_tbl := List.mem_of_getElem? (i := 319) (by decide +kernel)
theorem sw9 : ∀ w ∈ u_ws RX6 TX6 6, w ∈ lw_tbl := fun w h => (List.mem_filter.mp (okX6.2.1 w h)).1
theorem si9 : Cond.instantiable RX6 6 ∈ lw_tbl := List.mem_of_getElem? (i := 267) (by decide +kernel)
theorem sw10 : ∀ w ∈ u_ws RX7 TX7 18, w ∈ lw_tbl := fun w h => (List.mem_filter.mp (okX7.2.1 w h)).1
theorem si10 : Cond.instantiable RX7 18 ∈ lw_tbl := List.mem_of_getElem? (i := 149) (by decide +kernel)
theorem sw11 : ∀ w ∈ u_ws RX8 TX8 2, w ∈ lw_tbl := fun w h => (List.mem_filter.mp (okX8.2.1 w h)).1
theorem si11 : Cond.instantiable RX8 2 ∈ lw_tbl := List.mem_of_getElem? (i := 133) (by decide +kernel)
theorem sw12 : ∀ w ∈ u_ws RX9 TX9 11, w ∈ lw_tbl := fun w h => (List.mem_filter.mp (okX9.2.1 w h)).1
theorem si12 : Cond.instantiable RX9 11 ∈ lw_tbl := List.mem_of_getElem? (i := 109) (by decide +kernel)
theorem sw13 : ∀ w ∈ u_ws RX10 TX10 61, w ∈ lw_tbl := fun w h => (List.mem_filter.mp (okX10.2.1 w h)).1
theorem si13 : Cond.instantiable RX10 61 ∈ lw_tbl := List.mem_of_getElem? (i := 1310) (by decide +kernel)
theorem sN : ∀ w ∈ pw_N, w ∈ lw_tbl := by decide +kernel
theorem sS : ∀ z ∈ pw_S, z.1 = RX9 ∧ Cond.stringRef z.1 z.2.1 z.2.2 ∈ lw_tbl := by decide +kernel
theorem sa_int : Cond.arrayClass .int ∈ lw_tbl := List.mem_of_getElem? (i := 147) (by decide +kernel)
theorem sa_boolean : Cond.arrayClass .boolean ∈ lw_tbl := List.mem_of_getElem? (i := 1514) (by decide +kernel)
theorem sa_long : Cond.arrayClass .long ∈ lw_tbl := List.mem_of_getElem? (i := 1757) (by decide +kernel)
theorem sa_pane : Cond.arrayOver (.object "PaneHouse$Pane") ∈ lw_tbl := List.mem_of_getElem? (i := 117) (by decide +kernel)
theorem sa_part : Cond.arrayOver (.object "PaneHouse$Part") ∈ lw_tbl := List.mem_of_getElem? (i := 318) (by decide +kernel)
theorem sl_1 : Cond.laysStatic Bundle.tN "UNASSIGNED_STACK" Bundle.steD ∈ lw_tbl := List.mem_of_getElem? (i := 454) (by decide +kernel)
theorem sl_2 : Cond.laysStatic Bundle.tN "SUPPRESSED_SENTINEL" Bundle.listD ∈ lw_tbl := List.mem_of_getElem? (i := 456) (by decide +kernel)
theorem sl_3 : Cond.initialized Bundle.tN ∈ lw_tbl := List.mem_of_getElem? (i := 91) (by decide +kernel)
theorem fl_1 : Cond.isRef (.static Bundle.tN "UNASSIGNED_STACK" Bundle.steD) ∈ flatC (Jvm.Cond.and given_1 narrow_1) := by decide +kernel
theorem fl_2 : Cond.isRef (.static Bundle.tN "SUPPRESSED_SENTINEL" Bundle.listD) ∈ flatC (Jvm.Cond.and given_1 narrow_1) := by decide +kernel
theorem fl_3 : Cond.not (.castable "java/lang/IllegalArgumentException" "java/lang/IndexOutOfBoundsException") ∈ flatC (Jvm.Cond.and given_1 narrow_1) := by decide +kernel
theorem fl_4 : Cond.not (.castable "java/lang/IllegalStateException" "java/lang/IndexOutOfBoundsException") ∈ flatC (Jvm.Cond.and given_1 narrow_1) := by decide +kernel
theorem ar_p {s : State} {A : Array Value} {ty : FieldType} (hty : ∀ C, ty ≠ .object C) (h : (Cond.arrayClass ty).before A s = true) : ∃ c, ArrOfT s c ty ∧ va_RA s c ty := by
  obtain ⟨c, k, comp, h1, h2, h3⟩ := Cond.arrayClass_spec h
  refine ⟨c, fun n z => ⟨fun k h => (by cases h), k, h2, comp, h3⟩, ?_⟩
  cases ty with
  | object C => exact absurd rfl (hty C)
  | _ => exact h1
theorem ar_o {s : State} {A : Array Value} {C : String} (h : (Cond.arrayOver (.object C)).before A s = true) : ∃ c, ArrOfT s c (.object C) ∧ va_RA s c (.object C) := by
  obtain ⟨comp, c, k, h1, h2, h3, h4, h5⟩ := Cond.arrayOver_spec h
  exact ⟨c, fun n z => ⟨fun k h => (by cases h), k, h3, comp, h4⟩, k, comp, h3, h4, h1, h5⟩
set_option maxHeartbeats 4000000 in
set_option maxRecDepth 100000 in
/-- from the entry, for every script of at most 3074 ints, the law comes to its end with true -/
theorem whole_start {p : Program} {e : Env} {s : State} {m : MethodId} {below : List Frame} {meth : Method} {c : Code} (l : Launch) (htr : l.stackTraces = false) {b L : Nat} {xs : Nat → Int32} (hL : L ≤ 3074) (C0 : lw_At p s m meth c b L xs) : W p l e room_1 s m #[Value.ref b] below meth c s.heap [] 0 0 (lw_Z below #[Value.ref b] s) (entryFrame m ([Value.ref b] : List Value).toArray 7) := by
  obtain ⟨hx, hb, hr, hml, hown, hts, hX, hbl, hlocks, hgv⟩ := id C0
  have hfl := flat_of_before _ hgv
  obtain ⟨c0, i0, k0⟩ := u_known (C := RJ0) (T := TJ0) (N := 4) (n := 4) hts sw0 (hts _ si0)
  obtain ⟨c1, i1, k1⟩ := u_known (C := RJ4) (T := TJ4) (N := 4) (n := 4) hts sw1 (hts _ si1)
  obtain ⟨c2, i2, k2⟩ := u_known (C := RJx00060) (T := TJx00060) (N := 6) (n := 6) hts sw2 (hts _ si2)
  obtain ⟨c3, i3, k3⟩ := u_known (C := RX0) (T := TX0) (N := 3) (n := 3) hts sw3 (hts _ si3)
  obtain ⟨c4, i4, k4⟩ := u_known (C := RX1) (T := TX1) (N := 5) (n := 5) hts sw4 (hts _ si4)
  obtain ⟨c5, i5, k5⟩ := u_known (C := RX2) (T := TX2) (N := 2) (n := 2) hts sw5 (hts _ si5)
  obtain ⟨c6, i6, k6⟩ := u_known (C := RX3) (T := TX3) (N := 8) (n := 8) hts sw6 (hts _ si6)
  obtain ⟨c7, i7, k7⟩ := u_known (C := RX4) (T := TX4) (N := 5) (n := 5) hts sw7 (hts _ si7)
  obtain ⟨c8, i8, k8⟩ := u_known (C := RX5) (T := TX5) (N := 8) (n := 8) hts sw8 (hts _ si8)
  obtain ⟨c9, i9, k9⟩ := u_known (C := RX6) (T := TX6) (N := 6) (n := 6) hts sw9 (hts _ si9)
  obtain ⟨c10, i10, k10⟩ := u_known (C := RX7) (T := TX7) (N := 18) (n := 18) hts sw10 (hts _ si10)
  obtain ⟨c11, i11, k11⟩ := u_known (C := RX8) (T := TX8) (N := 2) (n := 2) hts sw11 (hts _ si11)
  obtain ⟨c12, i12, k12⟩ := u_known (C := RX9) (T := TX9) (N := 11) (n := 11) hts sw12 (hts _ si12)
  obtain ⟨c13, i13, k13⟩ := u_known (C := RX10) (T := TX10) (N := 61) (n := 61) hts sw13 (hts _ si13)
  obtain ⟨dC, dI, hKc⟩ : ∃ (dC : Nat → ClassId) (dI : Nat → Nat → Nat), ∀ (k : Nat) (q : vw_C), pw_cl[k]? = some q → u_Kn s q.1 q.2.1 q.2.2 (dC k) (dI k) := by
    refine ⟨fun k => if k = 0 then c0 else if k = 1 then c1 else if k = 2 then c2 else if k = 3 then c3 else if k = 4 then c4 else if k = 5 then c5 else if k = 6 then c6 else if k = 7 then c7 else if k = 8 then c8 else if k = 9 then c9 else if k = 10 then c10 else if k = 11 then c11 else if k = 12 then c12 else c13, fun k => if k = 0 then i0 else if k = 1 then i1 else if k = 2 then i2 else if k = 3 then i3 else if k = 4 then i4 else if k = 5 then i5 else if k = 6 then i6 else if k = 7 then i7 else if k = 8 then i8 else if k = 9 then i9 else if k = 10 then i10 else if k = 11 then i11 else if k = 12 then i12 else i13, ?_⟩
    intro k q hq
    match k, hq with
    | 0, hq => cases hq; exact k0
    | 1, hq => cases hq; exact k1
    | 2, hq => cases hq; exact k2
    | 3, hq => cases hq; exact k3
    | 4, hq => cases hq; exact k4
    | 5, hq => cases hq; exact k5
    | 6, hq => cases hq; exact k6
    | 7, hq => cases hq; exact k7
    | 8, hq => cases hq; exact k8
    | 9, hq => cases hq; exact k9
    | 10, hq => cases hq; exact k10
    | 11, hq => cases hq; exact k11
    | 12, hq => cases hq; exact k12
    | 13, hq => cases hq; exact k13
    | k + 14, hq => cases hq
  obtain ⟨a0, z0⟩ := ar_p (ty := .int) (fun C h => by cases h) (hts _ sa_int)
  obtain ⟨a1, z1⟩ := ar_p (ty := .boolean) (fun C h => by cases h) (hts _ sa_boolean)
  obtain ⟨a2, z2⟩ := ar_p (ty := .long) (fun C h => by cases h) (hts _ sa_long)
  obtain ⟨a3, z3⟩ := ar_o (hts _ sa_pane)
  obtain ⟨a4, z4⟩ := ar_o (hts _ sa_part)
  obtain ⟨cA, hcA⟩ : ∃ cA : Nat → ClassId, (cA 0 = a0 ∧ cA 1 = a1 ∧ cA 2 = a2 ∧ cA 3 = a3 ∧ cA 4 = a4) := ⟨fun k => if k = 0 then a0 else if k = 1 then a1 else if k = 2 then a2 else if k = 3 then a3 else a4, rfl, rfl, rfl, rfl, rfl⟩
  obtain ⟨e0, e1, e2, e3, e4⟩ := hcA
  have hK : va_K (dC, dI) pw_cl (pw_tys (l, (dC, dI), cA, s.heap.size)) s := by
    refine ⟨hKc, fun k q hq => ?_⟩
    match k, hq with
    | 0, hq =>
      have eq : q = (cA 0, .int) := (Option.some.inj hq).symm
      subst eq
      show ArrOfT s (cA 0) _ ∧ va_RA s (cA 0) _
      rw [e0]; exact z0
    | 1, hq =>
      have eq : q = (cA 1, .boolean) := (Option.some.inj hq).symm
      subst eq
      show ArrOfT s (cA 1) _ ∧ va_RA s (cA 1) _
      rw [e1]; exact z1
    | 2, hq =>
      have eq : q = (cA 2, .long) := (Option.some.inj hq).symm
      subst eq
      show ArrOfT s (cA 2) _ ∧ va_RA s (cA 2) _
      rw [e2]; exact z2
    | 3, hq =>
      have eq : q = (cA 3, .object "PaneHouse$Pane") := (Option.some.inj hq).symm
      subst eq
      show ArrOfT s (cA 3) _ ∧ va_RA s (cA 3) _
      rw [e3]; exact z3
    | 4, hq =>
      have eq : q = (cA 4, .object "PaneHouse$Part") := (Option.some.inj hq).symm
      subst eq
      show ArrOfT s (cA 4) _ ∧ va_RA s (cA 4) _
      rw [e4]; exact z4
    | k + 5, hq => cases hq
  have hA0 : ∀ a : Nat, a < s.heap.size → ¬ pw_A (l, (dC, dI), cA, s.heap.size) a := fun a h9 => Nat.not_le.mpr h9
  have hcl : s.vm.findClass RX9 = some c12 := k12.2.1
  have hU : pw_U (l, (dC, dI), cA, s.heap.size) s := by
    refine ⟨Nat.le_refl _, hK, vx_Zqof (hts _ sl_1) (hts _ sl_3) (hfl _ fl_1) hA0, vx_Zqof (hts _ sl_2) (hts _ sl_3) (hfl _ fl_2) hA0, fun w hw => va_Nw.of (pw_N_tab w hw) (hts w (sN w hw)), fun z hz => ?_, fun C hC => ?_⟩
    · obtain ⟨g1, g2⟩ := sS z hz
      obtain ⟨-, -, -, sa, -, -, -, -, -, hev⟩ := Cond.stringRef_spec (by rw [g1]; exact hcl) (hts _ g2)
      exact ⟨sa, vk_R.of (hts _ g2) hev⟩
    · rcases List.mem_cons.mp hC with e9 | e9
      · rw [e9]; exact va_AO.of (hts _ sa_pane)
      · rcases List.mem_cons.mp e9 with e9 | e9
        · rw [e9]; exact va_AO.of (hts _ sa_part)
        · cases e9
  have hl := lv_entry ([.ref b]) (n := 7) (nle rfl)
  rw [lg_entry_eq]
  generalize (lg_sl ([Value.ref b]) ++ List.replicate (7 - (lg_sl ([Value.ref b])).length) Slot.unset).toArray = ls at hl ⊢
  have hl : lv_has ls 7 [(0, .ref b)] := hl
  have hlaw := lw_law (E := (l, (dC, dI), cA, s.heap.size)) (K := (fun _ => 0, 0, fun _ _ _ => True, fun _ _ _ => True)) (b := b) (N0 := L) (xs := xs) (h := fun _ => pz_o 0 []) htr hL
  refine hlaw p e s m #[Value.ref b] below meth c s.heap [] (fun _ => 0) ls ⟨hx, hb, hml, hr, hlocks, rfl, hown, fun w hw => hts w (List.mem_filter.mp hw).1, hU, ⟨htr, rfl⟩, ⟨hX, hbl⟩, ⟨va_Nc.of (hfl _ fl_3), va_Nc.of (hfl _ fl_4)⟩⟩ ⟨Nat.le_refl _, fun k hk => absurd hk (Nat.not_lt_zero k), ⟨fun k q h9 => (by cases h9), ⟨fun i j p q h9 => (by cases h9), fun k q h9 => (by cases h9)⟩, fun k hk => absurd hk (Nat.not_lt_zero k)⟩, va_S.rf, ⟨⟨hl.1, hl.2.1, fun q hq => (by cases hq)⟩, fun i v hv => ?_⟩⟩ trivial (lv_at hl 0 rfl)
  match i, hv with
  | 0, hv => cases hv
  | 1, hv => cases hv
  | 2, hv => cases hv
  | 3, hv => cases hv
  | 4, hv => cases hv
  | 5, hv => cases hv
  | 6, hv => cases hv
  | k + 7, hv => cases hv
set_option maxHeartbeats 4000000 in
theorem lw_walk (l : Launch) (htr : l.stackTraces = false) (b : Addr) (xs : List Int32) : MetFree l x (headSpec (Jvm.Cond.code x code maxLocals ret :: tables_1) room_1) (lw_P b xs) (fun _ _ _ _ _ => True) lw_Q := by
  refine MetFree.of_bodyS (code := code) (maxLocals := maxLocals) (ret := ret) (by decide) ?_ ?_
  · intro args s m h hn
    obtain ⟨meth, c, h1, h2, h3, h4, h5, h6, -, -⟩ := Cond.code_spec hn (atoms_spec (ws := Jvm.Cond.code x code maxLocals ret :: tables_1) h _ List.mem_cons_self)
    exact ⟨meth, c, h1, h2, h3, h4, h5, h6⟩
  · intro p e s m args below meth c s₁ B hml0 hP _
    obtain ⟨rfl, hx, hbd, hgv⟩ := hP
    obtain ⟨scr, harrAt, hlist, hof, hsmall⟩ := hx
    obtain ⟨hcb, hkn, -, -⟩ := State.arrayAt?_spec harrAt
    have hown : s.vm.findClass R_law = some m.cls := findClass_of_methodNamed B.named
    have hts0 : ∀ c ∈ (Jvm.Cond.code x code maxLocals ret :: tables_1), c.before #[Value.ref b] s = true := atoms_spec (ws := Jvm.Cond.code x code maxLocals ret :: tables_1) B.pre
    have hts : ∀ w ∈ lw_tbl, w.before #[Value.ref b] s = true := k2_hts_sels lw_privs (fun w hw => hts0 w (List.mem_cons_of_mem _ hw)) lw_privs_ok
    have hml : c.maxLocals = 7 := B.maxLocals_eq (hts0 _ List.mem_cons_self)
    have X₀ : Stand p l e room_1 s m #[Value.ref b] below meth c s₁ [] 0 0 := Stand.of_body B
    have hh0 : s₁.heap = s.heap := by rw [B.state]; rfl
    have hsz : scr.slots.size = xs.length := by rw [← Array.length_toList, hlist, List.length_map]
    have hval : ∀ j : Nat, j < xs.length → scr.slots[j]? = some (.int (xs.getD j 0)) := fun j hj => by
      rw [← Array.getElem?_toList, hlist]
      simp [hj]
    have hbl : b < s.heap.size := (Array.getElem?_eq_some_iff.mp hcb).1
    have hX : va_X b xs.length (fun j => xs.getD j 0) s s.heap := ⟨scr, hcb, hof, hkn, hsz, hval⟩
    have K : W p l e room_1 s m #[Value.ref b] below meth c s₁.heap [] 0 0 (lw_Z below #[Value.ref b] s) (entryFrame m ([Value.ref b] : List Value).toArray 7) := by
      rw [hh0]
      exact whole_start l htr hbd ⟨B.exec, B.bytes, B.returns, hml, hown, hts, hX, hbl, B.notSynchronized, hgv⟩
    obtain ⟨t, a1, o, b1, b2, b3⟩ := K s₁ rfl X₀
    exact ⟨t, o, a1, b1, b2, b3⟩
theorem lw_pre_spec {args : Array Value} {s : State} (h : (Jvm.Cond.and given_1 narrow_1).before args s = true) (hr : rest_1_c.before args s = true) : ∃ (b : Addr) (xs : List Int32), lw_P b xs args s := by
  have hs := flat_of_before _ h
  have hq := flat_of_before _ hr
  have hc : (Cond.count 1).before args s = true := hs _ (by decide +kernel)
  have harr : (Cond.arrayOf (.arg 0) .int).before args s = true := hs _ (by decide +kernel)
  have hle : (Cond.le (.length (.arg 0)) (.int 3074)).before args s = true := hs _ (by decide +kernel)
  have hlen : (Cond.isInt (.length (.arg 0))).before args s = true := hq _ (by decide +kernel)
  have hall : (Cond.all (.arg 0) (.isInt (.elem (.arg 0) (.index 0)))).before args s = true := hq _ (by decide +kernel)
  obtain ⟨b, xs, hb, hx⟩ := State.ints_of_pre rfl harr hlen hall
  have hsm : xs.length < 2 ^ 31 := hx.choose_spec.2.2.2
  have hev : (Term.length (.arg 0)).eval args s none [] s = some (.int xs.length.toInt32) := hx.length_eval hb
  have hv := Cond.le_ints hev (show (Term.int 3074).eval args s none [] s = some (.int 3074) from rfl)
  have hd : xs.length.toInt32 ≤ 3074 := by
    simpa [Cond.before, Cond.holds, hv] using hle
  have hN : xs.length ≤ 3074 := (Int32.ofNat_le_ofNat hsm (by decide)).mp (show Int32.ofNat xs.length ≤ Int32.ofNat 3074 from hd)
  exact ⟨b, xs, Cond.one_arg hc (show args[0]? = some (.ref b) from hb), hx, hN, h⟩
theorem lw_comes (l : Launch) (htr : l.stackTraces = false) : Comes l x (Jvm.Cond.code x code maxLocals ret :: tables_1) room_1 (fun tb e args s => Calls_1 tb e args s ∧ rest_1 tb e args s ∧ Pre_1 tb e args s)
    (fun _ _ args s o t => lw_Q args s o t) := by
  intro p e ha hc hk s m args below hf hfit hheap happ hpre
  obtain ⟨b, xs, hP⟩ := lw_pre_spec hpre.2.2 hpre.2.1
  obtain ⟨k, o, h1, h2, h3, hQ⟩ := lw_walk l htr b xs p e ha hc hk s m args below hf ((Spec.applies_iff_loose hf).mp happ).1 hP trivial
  exact ⟨k, o, h1, h2, h3, hQ⟩
theorem lw_frame {s t : State} {o : Outcome} {args : Array Value} (h : Framed s o t [] 601024 7293000) :
    Framed s o t (fieldLocs frame_1_writes args s ++ arrayLocs frame_1_arrays args s ++ staticLocs frame_1_statics s) 601024 7293000 := h
theorem lw_limb (L : Cond) (hL : ∀ (args : Array Value) (s t : State), L.after args s (.returned (some (.int 1))) t = true) :
    ArmFor flags0 classFile x code maxLocals ret World_1 tables_1 room_1 Calls_1 rest_1 Pre_1
      (fun tb e a s o t => postC L tb e a s o t ∧ Framed s o t (fieldLocs frame_1_writes a s ++ arrayLocs frame_1_arrays a s ++ staticLocs frame_1_statics s) 601024 7293000) := by
  intro l hf9 _ _ p e ha hc hk s m args below hf hfit hheap happ hpre
  obtain ⟨k, o, h1, h2, h3, rfl, hF⟩   := lw_comes l (by rw [Launch.stackTraces, hf9]; decide +kernel) p e ha hc hk s m args below hf hfit hheap happ hpre
  exact ⟨k, _, h1, h2, h3, hL args s _, lw_frame hF⟩
theorem i_vc : Claimed_1_1 ∧ Claimed_1_2 := ⟨lw_limb limb_1_1 (fun args s t => by simp [limb_1_1, Cond.after, Cond.holds, Cond.value]), lw_limb limb_1_2 (fun args s t => Cond.after_iff.mpr (by
  first | (rw [show limb_1_2 = Cond.eq .result (.int 1) from rfl, Cond.eq_ints (x := 1) (y := 1) rfl rfl]; simp; done) | (simp [limb_1_2, Cond.value, Term.eval]; done)))⟩

