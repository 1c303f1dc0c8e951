/-! ===== Layout: remove ===== -/
theorem lyHas_1 {lv : Nat → Option Nat} {i : Int} (h : ¬ lyHas lv i = 0) : (0 ≤ i ∧ i < 8) ∧ ¬ lv i.toNat = none := by
  unfold lyHas at h
  by_cases e : 0 ≤ i ∧ i < 8 ∧ ¬ lv i.toNat = none
  · exact ⟨⟨e.1, e.2.1⟩, e.2.2⟩
  · rw [if_neg e] at h; exact absurd rfl h
theorem ptBd_R {P : Nat → ptC} {L : Int} {a k : Nat} {v : Option Nat} (hP : ptBd L P) : ptBd L (ptR P a k v) := ⟨hP.1, fun b => by
  unfold ptR
  by_cases e : b = a
  · subst e; rw [va_up_self]; exact hP.2 b
  · rw [va_up_ne _ _ e]; exact hP.2 b⟩
theorem ptCl_R {D : Nat → Bool} {P : Nat → ptC} {a k : Nat} {v : Option Nat} (hc : ptCl D P) (hv : ∀ b, v = some b → D b = true) : ptCl D (ptR P a k v) := fun c hD i b e => by
  unfold ptR at e
  by_cases ec : c = a
  · subst ec
    rw [va_up_self] at e
    by_cases ek : i = k
    · subst ek
      have e : va_up (P c).2 i v i = some b := e
      rw [va_up_self] at e; exact hv b e
    · have e : va_up (P c).2 k v i = some b := e
      rw [va_up_ne _ _ ek] at e; exact hc c hD i b e
  · rw [va_up_ne _ _ ec] at e; exact hc c hD i b e
theorem exP_bd {P : Nat → ptC} {L : Int} {old oth : Nat} (hP : ptBd L P) : ptBd L (exP P old oth) := by
  unfold exP
  split
  · exact ptBd_R hP
  · split
    · exact ptBd_R (ptBd_R hP)
    · exact ptBd_R (ptBd_R hP)
theorem exP_cl {D : Nat → Bool} {P : Nat → ptC} {old oth : Nat} (hc : ptCl D P) (ho : D old = true) (ht : D oth = true) : ptCl D (exP P old oth) := by
  have h1 : ptCl D (ptR P oth 2 ((P old).2 2)) := ptCl_R hc (fun b e => hc old ho 2 b e)
  have h2 : ∀ b, some oth = some b → D b = true := fun b e => by cases e; exact ht
  unfold exP
  split
  · exact h1
  · split
    · exact ptCl_R h1 h2
    · exact ptCl_R h1 h2
/-- the part of the pane, the split above it, the other one there -/
abbrev rmL (lv : Nat → Option Nat) (p : Int) : Nat := (lv p.toNat).getD 0
abbrev rmS (P : Nat → ptC) (lv : Nat → Option Nat) (p : Int) : Nat := ((P (rmL lv p)).2 2).getD 0
abbrev rmOk (P : Nat → ptC) (lv : Nat → Option Nat) (p : Int) : Prop := ¬ lyHas lv p = 0 ∧ ¬ (P (rmL lv p)).2 2 = none ∧ ptSplit (P (rmS P lv p))
def rmO (P : Nat → ptC) (lv : Nat → Option Nat) (p : Int) : Nat := if (P (rmS P lv p)).2 0 = some (rmL lv p) then ((P (rmS P lv p)).2 1).getD 0 else ((P (rmS P lv p)).2 0).getD 0
def rmPl (P : Nat → ptC) (s o : Nat) : Nat → ptC := plW (plShare 8) o ((exP P s o s).1 0) ((exP P s o s).1 1) ((exP P s o s).1 2) ((exP P s o s).1 3) (exP P s o)
def rmP (P : Nat → ptC) (lv : Nat → Option Nat) (p : Int) : Nat → ptC := if rmOk P lv p then rmPl P (rmS P lv p) (rmO P lv p) else P
def rmLv (P : Nat → ptC) (lv : Nat → Option Nat) (p : Int) : Nat → Option Nat := if rmOk P lv p then va_up lv p.toNat none else lv
def rmRt (P : Nat → ptC) (lv : Nat → Option Nat) (p : Int) (rt : Nat) : Nat := if rmOk P lv p then exR P (rmS P lv p) (rmO P lv p) rt else rt
theorem rm_ok {P : Nat → ptC} {lv : Nat → Option Nat} {p : Int} {l s o : Nat} (h1 : ¬ lyHas lv p = 0) (h2 : lv p.toNat = some l) (h3 : (P l).2 2 = some s) (h4 : ptSplit (P s)) (ho : ((P s).2 0 = some l ∧ (P s).2 1 = some o) ∨ (¬ (P s).2 0 = some l ∧ (P s).2 0 = some o)) : rmOk P lv p ∧ rmS P lv p = s ∧ rmO P lv p = o := by
  have e1 : rmL lv p = l := by unfold rmL; rw [h2]; rfl
  have e2 : rmS P lv p = s := by unfold rmS; rw [e1, h3]; rfl
  refine ⟨⟨h1, ?_, ?_⟩, e2, ?_⟩
  · rw [e1, h3]; exact fun z => by cases z
  · rw [e2]; exact h4
  · unfold rmO
    rw [e1, e2]
    rcases ho with ⟨a, b⟩ | ⟨a, b⟩
    · rw [if_pos a, b]; rfl
    · rw [if_neg a, b]; rfl
theorem rm_no1 {P : Nat → ptC} {lv : Nat → Option Nat} {p : Int} (h : lyHas lv p = 0) : ¬ rmOk P lv p := fun z => z.1 h
theorem rm_no2 {P : Nat → ptC} {lv : Nat → Option Nat} {p : Int} {l : Nat} (h2 : lv p.toNat = some l) (h3 : (P l).2 2 = none) : ¬ rmOk P lv p := fun z => z.2.1 (by rw [show rmL lv p = l by unfold rmL; rw [h2]; rfl]; exact h3)
theorem rm_no3 {P : Nat → ptC} {lv : Nat → Option Nat} {p : Int} {l s : Nat} (h2 : lv p.toNat = some l) (h3 : (P l).2 2 = some s) (h4 : ¬ ptSplit (P s)) : ¬ rmOk P lv p := fun z => h4 (by
  have z := z.2.2
  rw [show rmS P lv p = s by unfold rmS; rw [show rmL lv p = l by unfold rmL; rw [h2]; rfl, h3]; rfl] at z
  exact z)
