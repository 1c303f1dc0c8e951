/-! ===== references that may be null ===== -/
def rv (o : Option Nat) : Value := match o with
  | none => .null
  | some a => .ref a
section OPT
variable {E : pw_E} {Y : pw_Y} {R : Room} {K : pw_K} {uc us pc : Nat} {lv : List (Option Value)} {st : List Value} {h : pz_H} {n : Nat}
theorem pw_some {o : Option Nat} {a : Nat} (e : o = some a) (kk : pw E Y R K uc us pc lv (.ref a :: st) h n) : pw E Y R K uc us pc lv (rv o :: st) h n := by
  subst e; exact kk
theorem pw_some2 {o : Option Nat} {a : Nat} {v : Value} (e : o = some a) (kk : pw E Y R K uc us pc lv (v :: .ref a :: st) h n) : pw E Y R K uc us pc lv (v :: rv o :: st) h n := by
  subst e; exact kk
theorem pw_aload_nO {k : Fin 4} {o : Option Nat} (hd : decode Y.2.2.1 pc = .ok (.aload_n k, 1)) (hv : lv[(k : Nat)]? = some (some (rv o))) (kk : pw E Y R K uc us (pc + 1) lv (rv o :: st) h n) : pw E Y R K uc us pc lv st h n := by
  cases o with
  | none => exact pw_aload_nN hd hv kk
  | some a => exact pw_aload_n hd hv kk
theorem pw_aloadO {i : Nat} {o : Option Nat} (hd : decode Y.2.2.1 pc = .ok (.aload i, 2)) (hv : lv[i]? = some (some (rv o))) (kk : pw E Y R K uc us (pc + 2) lv (rv o :: st) h n) : pw E Y R K uc us pc lv st h n := by
  cases o with
  | none => exact pw_aloadN hd hv kk
  | some a => exact pw_aload hd hv kk
theorem pw_astore_nO {k : Fin 4} {o : Option Nat} {lv' : List (Option Value)} (hd : decode Y.2.2.1 pc = .ok (.astore_n k, 1)) (hi : (k : Nat) < Y.2.2.2.1) (hc : pz_c1 lv k = true) (hl : lv.set k (some (rv o)) = lv') (kk : pw E Y R K uc us (pc + 1) lv' st h n) : pw E Y R K uc us pc lv (rv o :: st) h n := by
  cases o with
  | none => exact pw_astore_nN hd hi hc hl kk
  | some a => exact pw_astore_n hd hi hc hl kk
theorem pw_astoreO {i : Nat} {o : Option Nat} {lv' : List (Option Value)} (hd : decode Y.2.2.1 pc = .ok (.astore i, 2)) (hi : i < Y.2.2.2.1) (hc : pz_c1 lv i = true) (hl : lv.set i (some (rv o)) = lv') (kk : pw E Y R K uc us (pc + 2) lv' st h n) : pw E Y R K uc us pc lv (rv o :: st) h n := by
  cases o with
  | none => exact pw_astoreN hd hi hc hl kk
  | some a => exact pw_astore hd hi hc hl kk
theorem pw_ifnullO {o : Option Nat} {off : Int} {tgt : Nat} (hd : decode Y.2.2.1 pc = .ok (.ifnull off, 3)) (ht : (pc : Int) + off = (tgt : Int)) (kt : o = none → pw E Y R K uc us tgt lv st h n) (kf : ¬ o = none → pw E Y R K uc us (pc + 3) lv st h n) : pw E Y R K uc us pc lv (rv o :: st) h n := by
  cases o with
  | none => exact pw_ifnullN hd ht (kt rfl)
  | some a => exact pw_ifnull hd (kf (fun z => by cases z))
theorem pw_ifnonnullO {o : Option Nat} {off : Int} {tgt : Nat} (hd : decode Y.2.2.1 pc = .ok (.ifnonnull off, 3)) (ht : (pc : Int) + off = (tgt : Int)) (kt : ¬ o = none → pw E Y R K uc us tgt lv st h n) (kf : o = none → pw E Y R K uc us (pc + 3) lv st h n) : pw E Y R K uc us pc lv (rv o :: st) h n := by
  cases o with
  | none => exact pw_ifnonnullN hd (kf rfl)
  | some a => exact pw_ifnonnull hd ht (kt (fun z => by cases z))
theorem pw_aaldO {t N a : Nat} {C : String} {i : Int} {g : Nat → Option Nat} (ht : pw_T[t]? = some (.object C)) (ho : h a = pz_r t N g) (hi : 0 ≤ i ∧ i < N) (hN : N < 2147483648) (hd : decode Y.2.2.1 pc = .ok (.aaload, 1)) (kk : pw E Y R K uc us (pc + 1) lv (rv (g i.toNat) :: st) h n) : pw E Y R K uc us pc lv (.int (zI i) :: .ref a :: st) h n := by
  cases hb : g i.toNat with
  | none => rw [hb] at kk; exact pw_aaldN ht ho hi hN hb hd kk
  | some b => rw [hb] at kk; exact pw_aald ht ho hi hN hb hd kk
theorem pw_acmpO_ne {o : Option Nat} {y : Nat} {off : Int} {tgt : Nat} (hd : decode Y.2.2.1 pc = .ok (.if_acmp .ne off, 3)) (ht : (pc : Int) + off = (tgt : Int)) (kt : ¬ o = some y → pw E Y R K uc us tgt lv st h n) (kf : o = some y → pw E Y R K uc us (pc + 3) lv st h n) : pw E Y R K uc us pc lv (.ref y :: rv o :: st) h n := by
  cases o with
  | none => exact fun p e s m args below meth c H locs L ls F d ks => lv_acmp_ne (rx := none) (ry := some (L y)) F.1 F.2.1 hd ht (fun _ => kt (fun q => by cases q) p e s m args below meth c H locs L ls F d ks.2.2) (fun z => by cases z)
  | some x => exact pw_acmp_ne hd ht (fun z => kt (fun q => z (Option.some.inj q))) (fun z => kf (by rw [z]))
theorem rv_nar {C : String} {o : Option Nat} : narrow (.object C) (rv o) = rv o := by
  cases o <;> rfl
theorem rv_fit {C : String} {o : Option Nat} : fits (.object C) (rv o) = true := by
  cases o <;> rfl
theorem rv_c1 {lv : List (Option Value)} {j : Nat} {o : Option Nat} (h : lv[j]? = some (some (rv o))) : pz_c1 lv (j + 1) = true := by
  show (match lv[j]? with
    | some (some (.long _)) => false
    | some (some (.double _)) => false
    | _ => true) = true
  rw [h]
  cases o <;> rfl
end OPT
/-! ===== the parts: which ids are parts (D), and what each holds (P) ===== -/
abbrev ptC : Type := (Nat → Int) × (Nat → Option Nat)
def ptL (x : ptC) : List Value := [.int (zI (x.1 0)), .int (zI (x.1 1)), .int (zI (x.1 2)), .int (zI (x.1 3)), .int (zI (x.1 4)), rv (x.2 0), rv (x.2 1), rv (x.2 2)]
def ptPut (D : Nat → Bool) (P : Nat → ptC) (h : pz_H) : pz_H := fun a => if D a = true then pz_o 8 (ptL (P a)) else h a
theorem ptAt {D : Nat → Bool} {P : Nat → ptC} {h : pz_H} {a : Nat} (ha : D a = true) : ptPut D P h a = pz_o 8 (ptL (P a)) := if_pos ha
theorem ptNo {D : Nat → Bool} {P : Nat → ptC} {h : pz_H} {a : Nat} (ha : ¬ D a = true) : ptPut D P h a = h a := if_neg ha
theorem ptUp {D : Nat → Bool} {P : Nat → ptC} {h : pz_H} {a : Nat} {x : ptC} (ha : D a = true) : va_up (ptPut D P h) a (pz_o 8 (ptL x)) = ptPut D (va_up P a x) h := by
  funext j
  by_cases e : j = a
  · subst e; rw [va_up_self, ptAt ha, va_up_self]
  · rw [va_up_ne _ _ e]; unfold ptPut; rw [va_up_ne _ _ e]
def ptS (P : Nat → ptC) (a k : Nat) (v : Int) : Nat → ptC := va_up P a (va_up (P a).1 k v, (P a).2)
def ptR (P : Nat → ptC) (a k : Nat) (v : Option Nat) : Nat → ptC := va_up P a ((P a).1, va_up (P a).2 k v)
/-- cells lengthwise: rows if down, columns if not -/
def ptLen (x : ptC) (dn : Int) : Int := if dn = 0 then x.1 2 else x.1 3
abbrev ptSplit (x : ptC) : Prop := ¬ x.2 0 = none ∧ ¬ x.2 1 = none
/-- is there a pane i? -/
def lyHas (lv : Nat → Option Nat) (i : Int) : Int := if 0 ≤ i ∧ i < 8 ∧ ¬ lv i.toNat = none then 1 else 0
def lyCount (lv : Nat → Option Nat) : Nat → Int → Int
  | 0, _ => 0
  | j + 1, i => lyHas lv i + lyCount lv j (i + 1)
def lyLeast (lv : Nat → Option Nat) (t : Int) : Nat → Int → Int
  | 0, _ => -1
  | j + 1, i => if lyHas lv i = t then i else lyLeast lv t j (i + 1)
def lyNext (lv : Nat → Option Nat) (p : Int) : Nat → Int → Int
  | 0, _ => p
  | j + 1, i => if lyHas lv ((p + i) % 8) = 1 then (p + i) % 8 else lyNext lv p j (i + 1)
theorem lyHas_b {lv : Nat → Option Nat} {i : Int} : 0 ≤ lyHas lv i ∧ lyHas lv i ≤ 1 := by
  unfold lyHas; split <;> omega
