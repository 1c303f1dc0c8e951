/-! ===== Layout: divide ===== -/
abbrev pt00 : ptC := (fun _ => 0, fun _ => none)
theorem ptNew {D : Nat → Bool} {P : Nat → ptC} {h : pz_H} {n : Nat} : va_up (ptPut D P h) n (pz_o 8 (ptL pt00)) = ptPut (va_up D n true) (va_up P n pt00) h := by
  funext j
  unfold ptPut
  by_cases e : j = n
  · subst e; rw [va_up_self, va_up_self, va_up_self, if_pos rfl]
  · rw [va_up_ne _ _ e, va_up_ne _ _ e, va_up_ne _ _ e]
theorem ptD_1 {D : Nat → Bool} {n a : Nat} (h : D a = true) : va_up D n true a = true := by
  by_cases e : a = n
  · subst e; exact va_up_self _ _ _
  · rw [va_up_ne _ _ e]; exact h
theorem ptD_n {D : Nat → Bool} {n a : Nat} (h : ¬ D a = true) (e : a ≠ n) : ¬ va_up D n true a = true := by
  rw [va_up_ne _ _ e]; exact h
theorem ptCl_new {D : Nat → Bool} {P : Nat → ptC} {n : Nat} (hc : ptCl D P) : ptCl (va_up D n true) (va_up P n pt00) := fun a ha i b e => by
  by_cases en : a = n
  · subst en; rw [va_up_self] at e; cases e
  · rw [va_up_ne _ _ en] at ha e; exact ptD_1 (hc a ha i b e)
theorem ptBd_new {P : Nat → ptC} {L : Int} {n : Nat} (hP : ptBd L P) : ptBd L (va_up P n pt00) := ⟨hP.1, fun b => by
  have h0 := hP.1
  by_cases e : b = n
  · subst e; rw [va_up_self]; show (-L ≤ 0 ∧ (0 : Int) ≤ 100) ∧ (-L ≤ 0 ∧ (0 : Int) ≤ 100) ∧ ((0 : Int) ≤ 0 ∧ (0 : Int) ≤ 1); omega
  · rw [va_up_ne _ _ e]; exact hP.2 b⟩
theorem ptBd_S {P : Nat → ptC} {L : Int} {a k : Nat} {v : Int} (hP : ptBd L P) (h2 : k = 2 → -L ≤ v ∧ v ≤ 100) (h3 : k = 3 → -L ≤ v ∧ v ≤ 100) (h4 : k = 4 → 0 ≤ v ∧ v ≤ 1) : ptBd L (ptS P a k v) := ⟨hP.1, fun b => by
  have h := hP.2 b
  unfold ptS
  by_cases e : b = a
  · subst e
    rw [va_up_self]
    refine ⟨?_, ?_, ?_⟩
    · show -L ≤ va_up (P b).1 k v 2 ∧ va_up (P b).1 k v 2 ≤ 100
      by_cases ek : 2 = k
      · subst ek; rw [va_up_self]; exact h2 rfl
      · rw [va_up_ne _ _ ek]; exact h.1
    · show -L ≤ va_up (P b).1 k v 3 ∧ va_up (P b).1 k v 3 ≤ 100
      by_cases ek : 3 = k
      · subst ek; rw [va_up_self]; exact h3 rfl
      · rw [va_up_ne _ _ ek]; exact h.2.1
    · show 0 ≤ va_up (P b).1 k v 4 ∧ va_up (P b).1 k v 4 ≤ 1
      by_cases ek : 4 = k
      · subst ek; rw [va_up_self]; exact h4 rfl
      · rw [va_up_ne _ _ ek]; exact h.2.2
  · rw [va_up_ne _ _ e]; exact h⟩
theorem ptCl_S {D : Nat → Bool} {P : Nat → ptC} {a k : Nat} {v : Int} (hc : ptCl D P) : ptCl D (ptS P a k v) := fun c hD i b e => by
  unfold ptS at e
  by_cases ec : c = a
  · subst ec; rw [va_up_self] at e; exact hc c hD i b e
  · rw [va_up_ne _ _ ec] at e; exact hc c hD i b e
def dvA (P : Nat → ptC) (old n : Nat) : Nat → ptC := ptR (va_up P n pt00) n 2 ((va_up P n pt00 old).2 2)
def dvC (P : Nat → ptC) (old n : Nat) : Nat → ptC := ptR (ptR (exP (dvA P old n) old n) old 2 (some n)) n 0 (some old)
def dvD (P : Nat → ptC) (old n : Nat) : Nat → ptC := ptR (va_up (dvC P old n) (n + 1) pt00) (n + 1) 2 (some n)
def dvE (P : Nat → ptC) (old n : Nat) (dn : Int) : Nat → ptC := ptS (ptR (dvD P old n) n 1 (some (n + 1))) n 4 dn
def dvF (P : Nat → ptC) (old n : Nat) (dn : Int) : Nat → ptC := ptS (dvE P old n dn) n 0 ((dvE P old n dn old).1 0)
def dvG (P : Nat → ptC) (old n : Nat) (dn : Int) : Nat → ptC := ptS (dvF P old n dn) n 1 ((dvF P old n dn old).1 1)
def dvH (P : Nat → ptC) (old n : Nat) (dn : Int) : Nat → ptC := ptS (dvG P old n dn) n 2 ((dvG P old n dn old).1 2)
def dvI (P : Nat → ptC) (old n : Nat) (dn : Int) : Nat → ptC := ptS (dvH P old n dn) n 3 ((dvH P old n dn old).1 3)
theorem ptR_1 {P : Nat → ptC} {a k b : Nat} {v : Option Nat} : (ptR P a k v b).1 = (P b).1 := by
  unfold ptR
  by_cases e : b = a
  · subst e; rw [va_up_self]
  · rw [va_up_ne _ _ e]
theorem ptS_2 {P : Nat → ptC} {a k b : Nat} {v : Int} : (ptS P a k v b).2 = (P b).2 := by
  unfold ptS
  by_cases e : b = a
  · subst e; rw [va_up_self]
  · rw [va_up_ne _ _ e]
theorem ptS_o {P : Nat → ptC} {a k b : Nat} {v : Int} (e : b ≠ a) : ptS P a k v b = P b := by
  unfold ptS; rw [va_up_ne _ _ e]
theorem ptS_s {P : Nat → ptC} {a k : Nat} {v : Int} : (ptS P a k v a).1 k = v := by
  unfold ptS; rw [va_up_self]; exact va_up_self _ _ _
theorem ptS_n {P : Nat → ptC} {a k i : Nat} {v : Int} (e : i ≠ k) : (ptS P a k v a).1 i = (P a).1 i := by
  unfold ptS; rw [va_up_self]; exact va_up_ne _ _ e
theorem exP_1f {P : Nat → ptC} {old oth b : Nat} : (exP P old oth b).1 = (P b).1 := by
  unfold exP
  split
  · rw [ptR_1]
  · split
    · rw [ptR_1, ptR_1]
    · rw [ptR_1, ptR_1]
/-- the old one's numbers stay -/
theorem dvE_old {P : Nat → ptC} {old n : Nat} {dn : Int} (h1 : old ≠ n) (h2 : old ≠ n + 1) : (dvE P old n dn old).1 = (P old).1 := by
  unfold dvE
  rw [ptS_o h1, ptR_1]
  unfold dvD
  rw [ptR_1, va_up_ne _ _ h2]
  unfold dvC
  rw [ptR_1, ptR_1, exP_1f]
  unfold dvA
  rw [ptR_1, va_up_ne _ _ h1]
theorem dvI_4 {P : Nat → ptC} {old n : Nat} {dn : Int} : (dvI P old n dn n).1 4 = dn := by
  unfold dvI dvH dvG dvF dvE
  rw [ptS_n (by decide), ptS_n (by decide), ptS_n (by decide), ptS_n (by decide), ptS_s]
theorem dvI_2 {P : Nat → ptC} {old n : Nat} {dn : Int} (h1 : old ≠ n) (h2 : old ≠ n + 1) : (dvI P old n dn n).1 2 = (P old).1 2 := by
  unfold dvI
  rw [ptS_n (by decide)]
  unfold dvH
  rw [ptS_s]
  unfold dvG
  rw [ptS_o h1]
  unfold dvF
  rw [ptS_o h1, dvE_old h1 h2]
theorem dvI_3 {P : Nat → ptC} {old n : Nat} {dn : Int} (h1 : old ≠ n) (h2 : old ≠ n + 1) : (dvI P old n dn n).1 3 = (P old).1 3 := by
  unfold dvI
  rw [ptS_s]
  unfold dvH
  rw [ptS_o h1]
  unfold dvG
  rw [ptS_o h1]
  unfold dvF
  rw [ptS_o h1, dvE_old h1 h2]
theorem dvI_len {P : Nat → ptC} {old n : Nat} {dn : Int} (h1 : old ≠ n) (h2 : old ≠ n + 1) (q : Int) : ptLen (dvI P old n dn n) q = ptLen (P old) q := by
  unfold ptLen
  rw [dvI_2 h1 h2, dvI_3 h1 h2]
theorem dvI_s {P : Nat → ptC} {old n : Nat} {dn : Int} : (dvI P old n dn n).2 1 = some (n + 1) := by
  unfold dvI dvH dvG dvF dvE
  rw [ptS_2, ptS_2, ptS_2, ptS_2, ptS_2]
  unfold ptR
  rw [va_up_self]
  show va_up (dvD P old n n).2 1 (some (n + 1)) 1 = _
  exact va_up_self _ _ _
theorem dvI_bd {P : Nat → ptC} {L : Int} {old n : Nat} {dn : Int} (hP : ptBd L P) (hd : 0 ≤ dn ∧ dn ≤ 1) (h1 : old ≠ n) (h2 : old ≠ n + 1) : ptBd L (dvI P old n dn) := by
  have hE : ptBd L (dvE P old n dn) := ptBd_S (ptBd_R (ptBd_R (ptBd_new (ptBd_R (ptBd_R (exP_bd (ptBd_R (ptBd_new hP)))))))) (fun z => by cases z) (fun z => by cases z) (fun _ => hd)
  have ho := hP.2 old
  have e := dvE_old (P := P) (dn := dn) h1 h2
  have hF : ptBd L (dvF P old n dn) := ptBd_S hE (fun z => by cases z) (fun z => by cases z) (fun z => by cases z)
  have hG : ptBd L (dvG P old n dn) := ptBd_S hF (fun z => by cases z) (fun z => by cases z) (fun z => by cases z)
  have hH : ptBd L (dvH P old n dn) := ptBd_S hG (fun _ => (hG.2 old).1) (fun z => by cases z) (fun z => by cases z)
  exact ptBd_S hH (fun z => by cases z) (fun _ => (hH.2 old).2.1) (fun z => by cases z)
abbrev dvDm (D : Nat → Bool) (n : Nat) : Nat → Bool := va_up (va_up D n true) (n + 1) true
theorem dvA_cl {D : Nat → Bool} {P : Nat → ptC} {old n : Nat} (hc : ptCl D P) (ho : D old = true) : ptCl (va_up D n true) (dvA P old n) := by
  have h1 := ptCl_new (n := n) hc
  exact ptCl_R h1 (fun b e => h1 old (ptD_1 ho) 2 b e)
theorem dvI_cl {D : Nat → Bool} {P : Nat → ptC} {old n : Nat} {dn : Int} (hc : ptCl D P) (ho : D old = true) : ptCl (dvDm D n) (dvI P old n dn) := by
  have hn : va_up D n true n = true := va_up_self _ _ _
  have h1 := dvA_cl (n := n) hc ho
  have h2 := exP_cl h1 (ptD_1 ho) hn
  have h3 : ptCl (va_up D n true) (dvC P old n) := ptCl_R (ptCl_R h2 (fun b e => by cases e; exact hn)) (fun b e => by cases e; exact ptD_1 ho)
  have h4 := ptCl_new (n := n + 1) h3
  have h5 : ptCl (dvDm D n) (dvD P old n) := ptCl_R h4 (fun b e => by cases e; exact ptD_1 hn)
  exact ptCl_S (ptCl_S (ptCl_S (ptCl_S (ptCl_S (ptCl_R h5 (fun b e => by cases e; exact va_up_self _ _ _))))))
theorem dv_sz {P : Nat → ptC} {L : Int} {old n : Nat} {dn : Int} (hP : ptBd L P) (h1 : old ≠ n) (h2 : old ≠ n + 1) (hl : 2 < ptLen (P old) dn) : szOk (dvI P old n dn) n ((ptLen (dvI P old n dn n) dn - 1) / 2) := by
  have hb := ptLn_b hP old dn
  unfold szOk ptLn
  rw [dvI_4, dvI_len h1 h2]
  omega
