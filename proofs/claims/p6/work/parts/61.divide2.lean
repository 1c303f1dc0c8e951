def YX5_init : pw_Y := (RX5, "<init>", cX5_init, 2, none)
theorem ywX5_init : pw_y yX5_init YX5_init 1 := ⟨by decide +kernel, by decide +kernel, by decide +kernel, pw_in 322 (by decide +kernel) (by decide +kernel), pw_in 88 (by decide +kernel) (by decide +kernel)⟩
theorem cwX5_1 : Cond.methodLink RX5 1 objectInit ∈ pw_G := pw_in 323 (by decide +kernel) (by decide +kernel)
theorem lkX5_7 : Cond.fieldLink RX5 7 (TX5 7).1 (TX5 7).2.1 (TX5 7).2.2.1 ∈ pw_G := pw_in 342 (by decide +kernel) (by decide +kernel)
theorem cwX2_35 : Cond.methodLink RX2 35 yX2_least ∈ pw_G ∧ Cond.instanceMethod yX2_least ∈ pw_G ∧ Cond.selects RX2 yX2_least yX2_least ∈ pw_G := ⟨pw_in 1125 (by decide +kernel) (by decide +kernel), pw_in 1126 (by decide +kernel) (by decide +kernel), pw_in 1127 (by decide +kernel) (by decide +kernel)⟩
theorem nwX2_9 : Cond.classLink RX2 9 RX5 ∈ pw_G ∧ Cond.instantiable RX5 8 ∈ pw_G ∧ Cond.initialized RX5 ∈ pw_G := ⟨pw_in 317 (by decide +kernel) (by decide +kernel), pw_in 319 (by decide +kernel) (by decide +kernel), pw_in 88 (by decide +kernel) (by decide +kernel)⟩
theorem cwX2_17 : Cond.methodLink RX2 17 yX5_init ∈ pw_G ∧ Cond.instanceMethod yX5_init ∈ pw_G := ⟨pw_in 320 (by decide +kernel) (by decide +kernel), pw_in 321 (by decide +kernel) (by decide +kernel)⟩
def YX2_divide : pw_Y := (RX2, "divide", cX2_divide, 6, (some .int))
theorem ywX2_divide : pw_y yX2_divide YX2_divide 2 := ⟨by decide +kernel, by decide +kernel, by decide +kernel, pw_in 1124 (by decide +kernel) (by decide +kernel), pw_in 87 (by decide +kernel) (by decide +kernel)⟩
set_option maxHeartbeats 4000000 in
set_option maxRecDepth 100000 in
/-- new Part(above) -/
theorem mX5_init {E : pw_E} (htr : E.1.stackTraces = false) {h : pz_H} {n : Nat} {a : Nat} {x : ptC} (ha : h a = pz_o 8 (ptL x)) {o : Option Nat} : pw_M E yX5_init YX5_init (rmD 1 0 0) [.ref a, rv o] h n (fun r h' n' => r = none ∧ h' = va_up h a (pz_o 8 (ptL (x.1, va_up x.2 2 o))) ∧ n' = n) (fun _ _ _ => False) := by
  cases o with
  | none =>
    refine pw_M_of (lv := [some (.ref a), some (.null)]) (by decide) rfl rfl htr (nle rfl) rfl (fun _ => ?_)
    refine pw_aload_n dX5_init_0 rfl ?_
    refine pw_objInit cwX5_1 dX5_init_1 ⟨nle rfl, nle rfl⟩ ?_
    refine pw_aload_n dX5_init_4 rfl ?_
    refine pw_aload_nN dX5_init_5 rfl ?_
    refine pw_put (fs' := (ptL (x.1, va_up x.2 2 none))) okX5 (k := 7) (by decide) lkX5_7 rfl rfl rfl ha (nlt rfl) rfl dX5_init_6 ?_
    exact pw_vret dX5_init_9 rfl (nle rfl) (nle rfl) ⟨rfl, rfl, rfl⟩
  | some b =>
    refine pw_M_of (lv := [some (.ref a), some (.ref b)]) (by decide) rfl rfl htr (nle rfl) rfl (fun _ => ?_)
    refine pw_aload_n dX5_init_0 rfl ?_
    refine pw_objInit cwX5_1 dX5_init_1 ⟨nle rfl, nle rfl⟩ ?_
    refine pw_aload_n dX5_init_4 rfl ?_
    refine pw_aload_n dX5_init_5 rfl ?_
    refine pw_put (fs' := (ptL (x.1, va_up x.2 2 (some b)))) okX5 (k := 7) (by decide) lkX5_7 rfl rfl rfl ha (nlt rfl) rfl dX5_init_6 ?_
    exact pw_vret dX5_init_9 rfl (nle rfl) (nle rfl) ⟨rfl, rfl, rfl⟩
theorem dfX5 : ∀ j, j < 8 → defaultValue (tyX5 j) = vp_V (ptL pt00) j := fun j hj => match j, hj with
  | 0, _ => rfl
  | 1, _ => rfl
  | 2, _ => rfl
  | 3, _ => rfl
  | 4, _ => rfl
  | 5, _ => rfl
  | 6, _ => rfl
  | 7, _ => rfl
  | k + 8, hj => absurd hj (by omega)
theorem lyLeast_b {lv : Nat → Option Nat} {t : Int} : ∀ (j : Nat) (i : Int), lyLeast lv t j i = -1 ∨ (i ≤ lyLeast lv t j i ∧ lyLeast lv t j i < i + j)
  | 0, i => Or.inl rfl
  | j + 1, i => by
    have ih := lyLeast_b (lv := lv) (t := t) j (i + 1)
    show (if lyHas lv i = t then i else lyLeast lv t j (i + 1)) = -1 ∨ (i ≤ (if lyHas lv i = t then i else lyLeast lv t j (i + 1)) ∧ (if lyHas lv i = t then i else lyLeast lv t j (i + 1)) < i + ((j + 1 : Nat) : Int))
    split <;> omega
set_option maxHeartbeats 4000000 in
set_option maxRecDepth 100000 in
/-- Layout.divide(pane, down) -/
theorem mX2_divide {E : pw_E} (htr : E.1.stackTraces = false) {h : pz_H} {n : Nat} {D : Nat → Bool} {P : Nat → ptC} {ly lf rt : Nat} {lv : Nat → Option Nat} {L : Int} (hly : h ly = pz_o 5 [.ref lf, .ref rt]) (hlf : h lf = pz_r 4 8 lv) (hnl : ¬ D ly = true) (hnf : ¬ D lf = true) (hlL : ly ≠ lf) (hcl : ptCl D P) (hlD : ∀ i b, lv i = some b → D b = true) (hP : ptBd L P) (hL : L + plE 9 ≤ 10000) (hDn : ∀ k, n ≤ k → ¬ D k = true) (nly : ly ≠ n) (nlf : lf ≠ n) (mly : ly ≠ n + 1) (mlf : lf ≠ n + 1) {p dn : Int} (hdn : 0 ≤ dn ∧ dn ≤ 1) (h_p : -2147483648 ≤ p ∧ p < 2147483648) : pw_M E yX2_divide YX2_divide (rmD 20 2 16) [.ref ly, .int (zI p), .int (zI dn)] (ptPut D P h) n (fun r h' n' => ((∃ q : Nat, (lv p.toNat = some q ∧ (0 ≤ p ∧ p < 8) ∧ ¬ lyLeast lv 0 8 0 = -1 ∧ 2 < ptLen (P q) dn) ∧ r = some (.int (zI (lyLeast lv 0 8 0))) ∧ h' = ptPut (dvDm D n) (plShare 9 n ((ptLen (dvI P q n dn n) dn - 1) / 2) (dvI P q n dn)) (va_up (va_up h ly (pz_o 5 [.ref lf, .ref (exR (dvA P q n) q n rt)])) lf (pz_r 4 8 (va_up lv (lyLeast lv 0 8 0).toNat (some (n + 1))))) ∧ n' = n + 1 + 1)) ∨ ((lyLeast lv 0 8 0 = -1 ∨ lyHas lv p = 0 ∨ (∃ q : Nat, lv p.toNat = some q ∧ ptLen (P q) dn ≤ 2)) ∧ r = some (.int (zI (-1))) ∧ h' = ptPut D P h ∧ n' = n)) (fun _ _ _ => False) := by
  refine pw_M_of (lv := [some (.ref ly), some (.int (zI (p))), some (.int (zI (dn))), none, none, none]) (by decide) rfl rfl htr (nle rfl) rfl (fun _ => ?_)
  refine pw_aload_n dX2_divide_0 rfl ?_
  refine pw_iconst (v := zI (0)) dX2_divide_1 (by decide) ?_
  refine pw_callV (As := [.int (zI (0))]) (b := ly) (rm := rmD 1 0 0) (mX2_least htr ((ptNo hnl).trans hly) ((ptNo hnf).trans hlf) (by decide)) rfl ((ptNo hnl).trans hly) rfl rfl ywX2_least rfl cwX2_35 ⟨nle rfl, nle rfl⟩ (nle rfl) ⟨nle rfl, nle rfl⟩ dX2_divide_2 ?_ (fun _ _ _ z => z.elim)
  intro r2 h2 n2 hq _
  rw [hq.1, hq.2.1, hq.2.2]
  show pw E YX2_divide _ _ 0 0 5 [some (.ref ly), some (.int (zI (p))), some (.int (zI (dn))), none, none, none] [.int (zI (lyLeast lv 0 8 0))] (ptPut D P h) n
  refine pw_istore_n (lv' := [some (.ref ly), some (.int (zI (p))), some (.int (zI (dn))), some (.int (zI (lyLeast lv 0 8 0))), none, none]) dX2_divide_5 (by decide) rfl rfl ?_
  have hls := lyLeast_b (lv := lv) (t := 0) 8 0
  have he9 := plE_0 9
  refine pw_iload_n dX2_divide_6 rfl ?_
  refine pw_iconst (v := zI (-1)) dX2_divide_7 (by decide) ?_
  refine pw_icmp_eq (tgt := 33) dX2_divide_8 rfl (by omega) (by omega) (fun c8 => ?_) (fun c8 => ?_)
  ·
    refine pw_iconst (v := zI (-1)) dX2_divide_33 (by decide) ?_
    exact pw_iret dX2_divide_34 rfl (nle rfl) (nle rfl) (Or.inr ⟨by first | exact Or.inl (by omega) | exact Or.inr (Or.inl (by omega)) | exact Or.inr (Or.inr ⟨q24, hq24, by omega⟩), rfl, rfl, rfl⟩)
  ·
    refine pw_aload_n dX2_divide_11 rfl ?_
    refine pw_iload_n dX2_divide_12 rfl ?_
    refine pw_callV (As := [.int (zI (p))]) (b := ly) (rm := rmD 0 0 0) (mX2_has htr ((ptNo hnl).trans hly) ((ptNo hnf).trans hlf) (by omega)) rfl ((ptNo hnl).trans hly) rfl rfl ywX2_has rfl cwX2_31 ⟨nle rfl, nle rfl⟩ (nle rfl) ⟨nle rfl, nle rfl⟩ dX2_divide_13 ?_ (fun _ _ _ z => z.elim)
    intro r2 h2 n2 hq _
    rw [hq.1, hq.2.1, hq.2.2]
    show pw E YX2_divide _ _ 0 0 16 [some (.ref ly), some (.int (zI (p))), some (.int (zI (dn))), some (.int (zI (lyLeast lv 0 8 0))), none, none] [.int (zI (lyHas lv (p)))] (ptPut D P h) n
    have hb := lyHas_b (lv := lv) (i := p)
    refine pw_if_eq (tgt := 33) dX2_divide_16 rfl (by omega) (fun c16 => ?_) (fun c16 => ?_)
    ·
      refine pw_iconst (v := zI (-1)) dX2_divide_33 (by decide) ?_
      exact pw_iret dX2_divide_34 rfl (nle rfl) (nle rfl) (Or.inr ⟨by first | exact Or.inl (by omega) | exact Or.inr (Or.inl (by omega)) | exact Or.inr (Or.inr ⟨q24, hq24, by omega⟩), rfl, rfl, rfl⟩)
    ·
      obtain ⟨q24, hq24⟩ := Option.ne_none_iff_exists'.mp (lyHas_1 c16).2
      have d24 := hlD _ _ hq24
      have o1 : q24 ≠ n := fun z => by rw [z] at d24; exact hDn n (Nat.le_refl n) d24
      have o2 : q24 ≠ n + 1 := fun z => by rw [z] at d24; exact hDn (n + 1) (by omega) d24
      have hlen := ptLn_b hP q24 dn
      refine pw_aload_n dX2_divide_19 rfl ?_
      refine pw_get (v := .ref lf) okX2 (k := 0) (by decide) lkX2_11 ((ptNo hnl).trans hly) rfl dX2_divide_20 ?_
      refine pw_iload_n dX2_divide_23 rfl ?_
      refine pw_aaldO (t := 4) rfl ((ptNo hnf).trans hlf) ((lyHas_1 c16).1) (by omega) dX2_divide_24 ?_
      refine pw_iload_n dX2_divide_25 rfl ?_
      refine pw_some2 (hq24) ?_
      refine pw_callV (As := [.int (zI (dn))]) (b := q24) (rm := rmD 0 0 0) (mX5_length htr (ptAt d24) (hdn)) rfl (ptAt d24) rfl rfl ywX5_length rfl cwX2_39 (rmC (by omega) (nle rfl)) (nle rfl) ⟨nle rfl, nle rfl⟩ dX2_divide_26 ?_ (fun _ _ _ z => z.elim)
      intro r2 h2 n2 hq _
      rw [hq.1, hq.2.1, hq.2.2]
      show pw E YX2_divide _ _ 0 0 29 [some (.ref ly), some (.int (zI (p))), some (.int (zI (dn))), some (.int (zI (lyLeast lv 0 8 0))), none, none] [.int (zI (ptLen (P q24) (dn)))] (ptPut D P h) n
      refine pw_iconst (v := zI (2)) dX2_divide_29 (by decide) ?_
      refine pw_icmp_gt (tgt := 35) dX2_divide_30 rfl (by omega) (by omega) (fun c30 => ?_) (fun c30 => ?_)
      ·
        refine pw_aload_n dX2_divide_35 rfl ?_
        refine pw_get (v := .ref lf) okX2 (k := 0) (by decide) lkX2_11 ((ptNo hnl).trans hly) rfl dX2_divide_36 ?_
        refine pw_iload_n dX2_divide_39 rfl ?_
        refine pw_aaldO (t := 4) rfl ((ptNo hnf).trans hlf) ((lyHas_1 c16).1) (by omega) dX2_divide_40 ?_
        refine pw_astoreO (lv' := [some (.ref ly), some (.int (zI (p))), some (.int (zI (dn))), some (.int (zI (lyLeast lv 0 8 0))), some (rv (lv (p).toNat)), none]) dX2_divide_41 (by decide) rfl rfl ?_
        refine pw_new (fs := ptL pt00) okX5 nwX2_9.1 nwX2_9.2.1 nwX2_9.2.2 dfX5 ⟨trivial, trivial, trivial, trivial, trivial, trivial, trivial, trivial, trivial⟩ (nle rfl) (nle rfl) dX2_divide_43 ?_
        refine pw_h (h' := ptPut (va_up D n true) (va_up P n pt00) h) ptNew ?_
        refine pw_dup dX2_divide_46 rfl ?_
        refine pw_aloadO dX2_divide_47 rfl ?_
        refine pw_some (hq24) ?_
        refine pw_getN (v := rv (((va_up P n pt00) q24).2 2)) okX5 (k := 7) (by decide) lkX2_42 (ptAt (ptD_1 d24)) rfl dX2_divide_49 ?_
        refine pw_callI (As := [rv (((va_up P n pt00) q24).2 2)]) (b := n) (rm := rmD 1 0 0) (mX5_init htr (ptAt (va_up_self _ _ _))) rfl ywX5_init rfl ⟨rfl, rfl⟩ cwX2_17 (rmC (by omega) (nle rfl)) (nle rfl) ⟨nle rfl, nle rfl⟩ dX2_divide_52 ?_
        intro r2 h2 n2 hq _
        rw [hq.1, hq.2.1, hq.2.2, ptUp (va_up_self _ _ _)]
        show pw E YX2_divide _ _ (0 + 1) (0 + 8) 55 [some (.ref ly), some (.int (zI (p))), some (.int (zI (dn))), some (.int (zI (lyLeast lv 0 8 0))), some (rv (lv (p).toNat)), none] [.ref n] (ptPut (va_up D n true) (ptR (va_up P n pt00) n 2 (((va_up P n pt00) q24).2 2)) h) (n + 1)
        refine pw_h (h' := ptPut (va_up D n true) (dvA P q24 n) h) rfl ?_
        refine pw_astore (lv' := [some (.ref ly), some (.int (zI (p))), some (.int (zI (dn))), some (.int (zI (lyLeast lv 0 8 0))), some (rv (lv (p).toNat)), some (.ref n)]) dX2_divide_55 (by decide) (rv_c1 rfl) rfl ?_
        refine pw_aload_n dX2_divide_57 rfl ?_
        refine pw_aloadO dX2_divide_58 rfl ?_
        refine pw_aload dX2_divide_60 rfl ?_
        refine pw_st (st' := [.ref n, .ref q24, .ref ly]) (by rw [hq24]; rfl) ?_
        refine pw_callV (As := [.ref q24, .ref n]) (b := ly) (rm := rmD 0 0 0) (mX2_exchange htr hly (ptD_n hnl nly) (dvA_cl hcl d24) (ptD_1 d24) (va_up_self _ _ _)) rfl ((ptNo (ptD_n hnl nly)).trans hly) rfl rfl ywX2_exchange rfl cwX2_45 (rmC (by omega) (nle rfl)) (nle rfl) ⟨nle rfl, nle rfl⟩ dX2_divide_62 ?_ (fun _ _ _ z => z.elim)
        intro r2 h2 n2 hq _
        rw [hq.1, hq.2.1, hq.2.2]
        show pw E YX2_divide _ _ (0 + 1) (0 + 8) 65 [some (.ref ly), some (.int (zI (p))), some (.int (zI (dn))), some (.int (zI (lyLeast lv 0 8 0))), some (rv (lv (p).toNat)), some (.ref n)] [] (ptPut (va_up D n true) (exP (dvA P q24 n) q24 n) (va_up h ly (pz_o 5 [.ref lf, .ref (exR (dvA P q24 n) q24 n rt)]))) (n + 1)
        refine pw_aloadO dX2_divide_65 rfl ?_
        refine pw_aload dX2_divide_67 rfl ?_
        refine pw_some2 (hq24) ?_
        refine pw_putN (fs' := (ptL (((exP (dvA P q24 n) q24 n) q24).1, va_up ((exP (dvA P q24 n) q24 n) q24).2 2 (some n)))) okX5 (k := 7) (by decide) lkX2_42 rfl rfl rfl (ptAt (ptD_1 d24)) (nlt rfl) rfl dX2_divide_69 ?_
        refine pw_h (h' := ptPut (va_up D n true) (ptR (exP (dvA P q24 n) q24 n) q24 2 (some n)) (va_up h ly (pz_o 5 [.ref lf, .ref (exR (dvA P q24 n) q24 n rt)]))) (ptUp (ptD_1 d24)) ?_
        refine pw_aload dX2_divide_72 rfl ?_
        refine pw_aloadO dX2_divide_74 rfl ?_
        refine pw_putN (fs' := (ptL (((ptR (exP (dvA P q24 n) q24 n) q24 2 (some n)) n).1, va_up ((ptR (exP (dvA P q24 n) q24 n) q24 2 (some n)) n).2 0 (lv (p).toNat)))) okX5 (k := 5) (by decide) lkX2_49 rfl rv_nar rv_fit (ptAt (va_up_self _ _ _)) (nlt rfl) rfl dX2_divide_76 ?_
        refine pw_h (h' := ptPut (va_up D n true) (ptR (ptR (exP (dvA P q24 n) q24 n) q24 2 (some n)) n 0 (lv (p).toNat)) (va_up h ly (pz_o 5 [.ref lf, .ref (exR (dvA P q24 n) q24 n rt)]))) (ptUp (va_up_self _ _ _)) ?_
        refine pw_h (h' := ptPut (va_up D n true) (dvC P q24 n) (va_up h ly (pz_o 5 [.ref lf, .ref (exR (dvA P q24 n) q24 n rt)]))) (by rw [hq24]; rfl) ?_
        refine pw_aload dX2_divide_79 rfl ?_
        refine pw_new (fs := ptL pt00) okX5 nwX2_9.1 nwX2_9.2.1 nwX2_9.2.2 dfX5 ⟨trivial, trivial, trivial, trivial, trivial, trivial, trivial, trivial, trivial⟩ (nle rfl) (nle rfl) dX2_divide_81 ?_
        refine pw_h (h' := ptPut (va_up (va_up D n true) (n + 1) true) (va_up (dvC P q24 n) (n + 1) pt00) (va_up h ly (pz_o 5 [.ref lf, .ref (exR (dvA P q24 n) q24 n rt)]))) ptNew ?_
        refine pw_dup dX2_divide_84 rfl ?_
        refine pw_aload dX2_divide_85 rfl ?_
        refine pw_callI (As := [rv (some n)]) (b := (n + 1)) (rm := rmD 1 0 0) (mX5_init htr (ptAt (va_up_self _ _ _))) rfl ywX5_init rfl ⟨rfl, rfl⟩ cwX2_17 (rmC (by omega) (nle rfl)) (nle rfl) ⟨nle rfl, nle rfl⟩ dX2_divide_87 ?_
        intro r2 h2 n2 hq _
        rw [hq.1, hq.2.1, hq.2.2, ptUp (va_up_self _ _ _)]
        show pw E YX2_divide _ _ (0 + 1 + 1) (0 + 8 + 8) 90 [some (.ref ly), some (.int (zI (p))), some (.int (zI (dn))), some (.int (zI (lyLeast lv 0 8 0))), some (rv (lv (p).toNat)), some (.ref n)] [.ref (n + 1), .ref n] (ptPut (va_up (va_up D n true) (n + 1) true) (ptR (va_up (dvC P q24 n) (n + 1) pt00) (n + 1) 2 (some n)) (va_up h ly (pz_o 5 [.ref lf, .ref (exR (dvA P q24 n) q24 n rt)]))) (n + 1 + 1)
        refine pw_h (h' := ptPut (va_up (va_up D n true) (n + 1) true) (dvD P q24 n) (va_up h ly (pz_o 5 [.ref lf, .ref (exR (dvA P q24 n) q24 n rt)]))) rfl ?_
        refine pw_putN (fs' := (ptL (((dvD P q24 n) n).1, va_up ((dvD P q24 n) n).2 1 (some (n + 1))))) okX5 (k := 6) (by decide) lkX2_52 rfl rfl rfl (ptAt (ptD_1 (va_up_self _ _ _))) (nlt rfl) rfl dX2_divide_90 ?_
        refine pw_h (h' := ptPut (va_up (va_up D n true) (n + 1) true) (ptR (dvD P q24 n) n 1 (some (n + 1))) (va_up h ly (pz_o 5 [.ref lf, .ref (exR (dvA P q24 n) q24 n rt)]))) (ptUp (ptD_1 (va_up_self _ _ _))) ?_
        refine pw_aload dX2_divide_93 rfl ?_
        refine pw_iload_n dX2_divide_95 rfl ?_
        refine pw_putN (fs' := (ptL (va_up ((ptR (dvD P q24 n) n 1 (some (n + 1))) n).1 4 (dn), ((ptR (dvD P q24 n) n 1 (some (n + 1))) n).2))) okX5 (k := 4) (by decide) lkX2_55 rfl (zb_nar hdn) (zb_fit hdn) (ptAt (ptD_1 (va_up_self _ _ _))) (nlt rfl) rfl dX2_divide_96 ?_
        refine pw_h (h' := ptPut (va_up (va_up D n true) (n + 1) true) (ptS (ptR (dvD P q24 n) n 1 (some (n + 1))) n 4 (dn)) (va_up h ly (pz_o 5 [.ref lf, .ref (exR (dvA P q24 n) q24 n rt)]))) (ptUp (ptD_1 (va_up_self _ _ _))) ?_
        refine pw_h (h' := ptPut (va_up (va_up D n true) (n + 1) true) (dvE P q24 n dn) (va_up h ly (pz_o 5 [.ref lf, .ref (exR (dvA P q24 n) q24 n rt)]))) rfl ?_
        refine pw_aload dX2_divide_99 rfl ?_
        refine pw_aloadO dX2_divide_101 rfl ?_
        refine pw_some (hq24) ?_
        refine pw_getN (v := .int (zI (((dvE P q24 n dn) q24).1 0))) okX5 (k := 0) (by decide) lkX2_59 (ptAt (ptD_1 (ptD_1 d24))) rfl dX2_divide_103 ?_
        refine pw_putN (fs' := (ptL (va_up ((dvE P q24 n dn) n).1 0 (((dvE P q24 n dn) q24).1 0), ((dvE P q24 n dn) n).2))) okX5 (k := 0) (by decide) lkX2_59 rfl rfl rfl (ptAt (ptD_1 (va_up_self _ _ _))) (nlt rfl) rfl dX2_divide_106 ?_
        refine pw_h (h' := ptPut (va_up (va_up D n true) (n + 1) true) (ptS (dvE P q24 n dn) n 0 (((dvE P q24 n dn) q24).1 0)) (va_up h ly (pz_o 5 [.ref lf, .ref (exR (dvA P q24 n) q24 n rt)]))) (ptUp (ptD_1 (va_up_self _ _ _))) ?_
        refine pw_h (h' := ptPut (va_up (va_up D n true) (n + 1) true) (dvF P q24 n dn) (va_up h ly (pz_o 5 [.ref lf, .ref (exR (dvA P q24 n) q24 n rt)]))) rfl ?_
        refine pw_aload dX2_divide_109 rfl ?_
        refine pw_aloadO dX2_divide_111 rfl ?_
        refine pw_some (hq24) ?_
        refine pw_getN (v := .int (zI (((dvF P q24 n dn) q24).1 1))) okX5 (k := 1) (by decide) lkX2_62 (ptAt (ptD_1 (ptD_1 d24))) rfl dX2_divide_113 ?_
        refine pw_putN (fs' := (ptL (va_up ((dvF P q24 n dn) n).1 1 (((dvF P q24 n dn) q24).1 1), ((dvF P q24 n dn) n).2))) okX5 (k := 1) (by decide) lkX2_62 rfl rfl rfl (ptAt (ptD_1 (va_up_self _ _ _))) (nlt rfl) rfl dX2_divide_116 ?_
        refine pw_h (h' := ptPut (va_up (va_up D n true) (n + 1) true) (ptS (dvF P q24 n dn) n 1 (((dvF P q24 n dn) q24).1 1)) (va_up h ly (pz_o 5 [.ref lf, .ref (exR (dvA P q24 n) q24 n rt)]))) (ptUp (ptD_1 (va_up_self _ _ _))) ?_
        refine pw_h (h' := ptPut (va_up (va_up D n true) (n + 1) true) (dvG P q24 n dn) (va_up h ly (pz_o 5 [.ref lf, .ref (exR (dvA P q24 n) q24 n rt)]))) rfl ?_
        refine pw_aload dX2_divide_119 rfl ?_
        refine pw_aloadO dX2_divide_121 rfl ?_
        refine pw_some (hq24) ?_
        refine pw_getN (v := .int (zI (((dvG P q24 n dn) q24).1 2))) okX5 (k := 2) (by decide) lkX2_24 (ptAt (ptD_1 (ptD_1 d24))) rfl dX2_divide_123 ?_
        refine pw_putN (fs' := (ptL (va_up ((dvG P q24 n dn) n).1 2 (((dvG P q24 n dn) q24).1 2), ((dvG P q24 n dn) n).2))) okX5 (k := 2) (by decide) lkX2_24 rfl rfl rfl (ptAt (ptD_1 (va_up_self _ _ _))) (nlt rfl) rfl dX2_divide_126 ?_
        refine pw_h (h' := ptPut (va_up (va_up D n true) (n + 1) true) (ptS (dvG P q24 n dn) n 2 (((dvG P q24 n dn) q24).1 2)) (va_up h ly (pz_o 5 [.ref lf, .ref (exR (dvA P q24 n) q24 n rt)]))) (ptUp (ptD_1 (va_up_self _ _ _))) ?_
        refine pw_h (h' := ptPut (va_up (va_up D n true) (n + 1) true) (dvH P q24 n dn) (va_up h ly (pz_o 5 [.ref lf, .ref (exR (dvA P q24 n) q24 n rt)]))) rfl ?_
        refine pw_aload dX2_divide_129 rfl ?_
        refine pw_aloadO dX2_divide_131 rfl ?_
        refine pw_some (hq24) ?_
        refine pw_getN (v := .int (zI (((dvH P q24 n dn) q24).1 3))) okX5 (k := 3) (by decide) lkX2_28 (ptAt (ptD_1 (ptD_1 d24))) rfl dX2_divide_133 ?_
        refine pw_putN (fs' := (ptL (va_up ((dvH P q24 n dn) n).1 3 (((dvH P q24 n dn) q24).1 3), ((dvH P q24 n dn) n).2))) okX5 (k := 3) (by decide) lkX2_28 rfl rfl rfl (ptAt (ptD_1 (va_up_self _ _ _))) (nlt rfl) rfl dX2_divide_136 ?_
        refine pw_h (h' := ptPut (va_up (va_up D n true) (n + 1) true) (ptS (dvH P q24 n dn) n 3 (((dvH P q24 n dn) q24).1 3)) (va_up h ly (pz_o 5 [.ref lf, .ref (exR (dvA P q24 n) q24 n rt)]))) (ptUp (ptD_1 (va_up_self _ _ _))) ?_
        refine pw_h (h' := ptPut (va_up (va_up D n true) (n + 1) true) (dvI P q24 n dn) (va_up h ly (pz_o 5 [.ref lf, .ref (exR (dvA P q24 n) q24 n rt)]))) rfl ?_
        refine pw_aload_n dX2_divide_139 rfl ?_
        refine pw_get (v := .ref lf) okX2 (k := 0) (by decide) lkX2_11 ((ptNo (ptD_n (ptD_n hnl nly) mly)).trans (va_up_self _ _ _)) rfl dX2_divide_140 ?_
        refine pw_iload_n dX2_divide_143 rfl ?_
        refine pw_aload dX2_divide_144 rfl ?_
        refine pw_getN (v := rv (((dvI P q24 n dn) n).2 1)) okX5 (k := 6) (by decide) lkX2_52 (ptAt (ptD_1 (va_up_self _ _ _))) rfl dX2_divide_146 ?_
        refine pw_some (dvI_s) ?_
        refine pw_aast (t := 4) rfl ((ptNo (ptD_n (ptD_n hnf nlf) mlf)).trans ((va_up_ne _ _ hlL.symm).trans hlf)) (by omega) (by omega) (ptAt (va_up_self _ _ _)) rfl dX2_divide_149 ?_
        refine pw_h (h' := ptPut (va_up (va_up D n true) (n + 1) true) (dvI P q24 n dn) (va_up (va_up h ly (pz_o 5 [.ref lf, .ref (exR (dvA P q24 n) q24 n rt)])) lf (pz_r 4 8 (va_up lv (lyLeast lv 0 8 0).toNat (some (n + 1)))))) (ptUpN (ptD_n (ptD_n hnf nlf) mlf)) ?_
        refine pw_aload dX2_divide_150 rfl ?_
        refine pw_aload dX2_divide_152 rfl ?_
        refine pw_iload_n dX2_divide_154 rfl ?_
        refine pw_callV (As := [.int (zI (dn))]) (b := n) (rm := rmD 0 0 0) (mX5_length htr (ptAt (ptD_1 (va_up_self _ _ _))) (hdn)) rfl (ptAt (ptD_1 (va_up_self _ _ _))) rfl rfl ywX5_length rfl cwX2_39 (rmC (by omega) (nle rfl)) (nle rfl) ⟨nle rfl, nle rfl⟩ dX2_divide_155 ?_ (fun _ _ _ z => z.elim)
        intro r2 h2 n2 hq _
        rw [hq.1, hq.2.1, hq.2.2]
        show pw E YX2_divide _ _ (0 + 1 + 1) (0 + 8 + 8) 158 [some (.ref ly), some (.int (zI (p))), some (.int (zI (dn))), some (.int (zI (lyLeast lv 0 8 0))), some (rv (lv (p).toNat)), some (.ref n)] [.int (zI (ptLen ((dvI P q24 n dn) n) (dn))), .ref n] (ptPut (va_up (va_up D n true) (n + 1) true) (dvI P q24 n dn) (va_up (va_up h ly (pz_o 5 [.ref lf, .ref (exR (dvA P q24 n) q24 n rt)])) lf (pz_r 4 8 (va_up lv (lyLeast lv 0 8 0).toNat (some (n + 1)))))) (n + 1 + 1)
        have hlen2 := dvI_len (P := P) (dn := dn) o1 o2 dn
        refine pw_iconst (v := zI (1)) dX2_divide_158 (by decide) ?_
        refine pw_zisub dX2_divide_159 ?_
        refine pw_iconst (v := zI (2)) dX2_divide_160 (by decide) ?_
        refine pw_zidiv dX2_divide_161 (by omega) (by omega) ?_
        refine pw_iconst (v := zI (0)) dX2_divide_162 (by decide) ?_
        refine pw_callS (As := [.ref n, .int (zI (((ptLen ((dvI P q24 n dn) n) (dn)) - (1)) / (2))), .int (zI (0))]) (rm := rmD (2 * 9 + 1) 0 0) (mX2_share htr 9 (by decide) L n (((ptLen ((dvI P q24 n dn) n) (dn)) - (1)) / (2)) 0 (dvI P q24 n dn) (by decide) (dvI_bd hP hdn o1 o2) hL (ptD_1 (va_up_self _ _ _)) (dvI_cl hcl d24) (dv_sz hP o1 o2 (by omega))) rfl ywX2_share rfl cwX2_65 (rmC (by omega) (nle rfl)) (nle rfl) ⟨nle rfl, nle rfl⟩ dX2_divide_163 ?_ (fun _ _ _ z => z.elim)
        intro r2 h2 n2 hq _
        rw [hq.1, hq.2.1, hq.2.2]
        show pw E YX2_divide _ _ (0 + 1 + 1) (0 + 8 + 8) 166 [some (.ref ly), some (.int (zI (p))), some (.int (zI (dn))), some (.int (zI (lyLeast lv 0 8 0))), some (rv (lv (p).toNat)), some (.ref n)] [] (ptPut (va_up (va_up D n true) (n + 1) true) (plShare 9 n (((ptLen ((dvI P q24 n dn) n) (dn)) - (1)) / (2)) (dvI P q24 n dn)) (va_up (va_up h ly (pz_o 5 [.ref lf, .ref (exR (dvA P q24 n) q24 n rt)])) lf (pz_r 4 8 (va_up lv (lyLeast lv 0 8 0).toNat (some (n + 1)))))) (n + 1 + 1)
        refine pw_iload_n dX2_divide_166 rfl ?_
        exact pw_iret dX2_divide_167 rfl (nle rfl) (nle rfl) (Or.inl ⟨q24, ⟨hq24, (lyHas_1 c16).1, by omega, by omega⟩, rfl, rfl, rfl⟩)
      ·
        refine pw_iconst (v := zI (-1)) dX2_divide_33 (by decide) ?_
        exact pw_iret dX2_divide_34 rfl (nle rfl) (nle rfl) (Or.inr ⟨by first | exact Or.inl (by omega) | exact Or.inr (Or.inl (by omega)) | exact Or.inr (Or.inr ⟨q24, hq24, by omega⟩), rfl, rfl, rfl⟩)
