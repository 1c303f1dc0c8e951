/-! ===== what is the same for every method: words, classes, array types, nest words, strings ===== -/
def pw_G : List Cond := lw_tbl.filter goodWord
theorem pw_good : ∀ w ∈ pw_G, goodWord w = true := fun _ h => (List.mem_filter.mp h).2
theorem pw_in {w : Cond} (i : Nat) (h : lw_tbl[i]? = some w) (g : goodWord w = true) : w ∈ pw_G := List.mem_filter.mpr ⟨List.mem_of_getElem? h, g⟩
theorem pw_ins {ws : List Cond} (ps : List Nat) (hp : ws = ps.filterMap (fun i => lw_tbl[i]?)) (g : ws.all goodWord = true) : ∀ w ∈ ws, w ∈ pw_G := fun w hw => by
  have h1 := List.all_eq_true.mp g w hw
  rw [hp] at hw
  obtain ⟨i, -, hi⟩ := List.mem_filterMap.mp hw
  exact pw_in i hi h1
abbrev pw_cl : List vw_C := vwCl
abbrev pw_T : List FieldType := [.int, .boolean, .long, .object "PaneHouse$Pane", .object "PaneHouse$Part"]
def pw_N : List Cond := [.fieldLinkNest RX4 38 "PaneHouse$Typed" "total" "I" "PaneHouse", .fieldLinkNest RX9 219 "PaneHouse$Typed" "total" "I" "PaneHouse", .fieldLinkNest RX4 64 "PaneHouse$History" "size" "I" "PaneHouse", .fieldLinkNest RX9 206 "PaneHouse$History" "size" "I" "PaneHouse", .fieldLinkNest RX4 60 "PaneHouse$Screen" "history" "LPaneHouse$History;" "PaneHouse", .fieldLinkNest RX9 202 "PaneHouse$Screen" "history" "LPaneHouse$History;" "PaneHouse", .fieldLinkNest RX4 88 "PaneHouse$Screen" "columns" "I" "PaneHouse", .fieldLinkNest RX9 133 "PaneHouse$Screen" "columns" "I" "PaneHouse", .fieldLinkNest RX9 194 "PaneHouse$Screen" "rows" "I" "PaneHouse", .fieldLinkNest RX6 21 "PaneHouse$Screen" "column" "I" "PaneHouse", .fieldLinkNest RX9 197 "PaneHouse$Screen" "column" "I" "PaneHouse", .fieldLinkNest RX6 26 "PaneHouse$Screen" "row" "I" "PaneHouse", .fieldLinkNest RX9 198 "PaneHouse$Screen" "row" "I" "PaneHouse", .fieldLinkNest RX6 98 "PaneHouse$Screen" "wrapWaits" "Z" "PaneHouse", .fieldLinkNest RX9 199 "PaneHouse$Screen" "wrapWaits" "Z" "PaneHouse", .fieldLinkNest RX6 153 "PaneHouse$Screen" "pen" "I" "PaneHouse", .fieldLinkNest RX9 209 "PaneHouse$Screen" "pen" "I" "PaneHouse", .fieldLinkNest RX6 150 "PaneHouse$Screen" "insertMode" "Z" "PaneHouse", .fieldLinkNest RX6 101 "PaneHouse$Screen" "wrapMode" "Z" "PaneHouse", .fieldLinkNest RX4 85 "PaneHouse$Screen" "cursorSeen" "Z" "PaneHouse", .fieldLinkNest RX6 104 "PaneHouse$Screen" "cursorSeen" "Z" "PaneHouse", .fieldLinkNest RX9 129 "PaneHouse$Pane" "screen" "LPaneHouse$Screen;" "PaneHouse", .fieldLinkNest RX9 70 "PaneHouse$Pane" "reader" "LPaneHouse$Reader;" "PaneHouse", .fieldLinkNest RX9 215 "PaneHouse$Pane" "typed" "LPaneHouse$Typed;" "PaneHouse", .fieldLinkNest RX9 212 "PaneHouse$Pane" "copyMode" "Z" "PaneHouse", .fieldLinkNest RX2 59 "PaneHouse$Part" "column" "I" "PaneHouse", .fieldLinkNest RX9 186 "PaneHouse$Part" "column" "I" "PaneHouse", .fieldLinkNest RX2 62 "PaneHouse$Part" "row" "I" "PaneHouse", .fieldLinkNest RX9 191 "PaneHouse$Part" "row" "I" "PaneHouse", .fieldLinkNest RX2 24 "PaneHouse$Part" "columns" "I" "PaneHouse", .fieldLinkNest RX9 272 "PaneHouse$Part" "columns" "I" "PaneHouse", .fieldLinkNest RX2 28 "PaneHouse$Part" "rows" "I" "PaneHouse", .fieldLinkNest RX9 273 "PaneHouse$Part" "rows" "I" "PaneHouse", .fieldLinkNest RX2 55 "PaneHouse$Part" "down" "Z" "PaneHouse", .fieldLinkNest RX2 49 "PaneHouse$Part" "first" "LPaneHouse$Part;" "PaneHouse", .fieldLinkNest RX2 52 "PaneHouse$Part" "second" "LPaneHouse$Part;" "PaneHouse", .fieldLinkNest RX2 42 "PaneHouse$Part" "above" "LPaneHouse$Part;" "PaneHouse", .fieldLinkNest RX9 182 "PaneHouse$Layout" "leaves" "[LPaneHouse$Part;" "PaneHouse", .fieldLinkNest RX9 177 "PaneHouse$Outer" "bytes" "[I" "PaneHouse", .fieldLinkNest RX9 169 "PaneHouse$Outer" "size" "I" "PaneHouse", .methodLinkNest RX4 9 ⟨RX8, "<init>", "()V"⟩ "PaneHouse", .methodLinkNest RX7 85 ⟨RX9, "nearest", "(III)I"⟩ "PaneHouse", .methodLinkNest RX4 79 ⟨RX9, "nearest", "(III)I"⟩ "PaneHouse", .castable "java/lang/IllegalArgumentException" "java/lang/IllegalArgumentException", .castable "java/lang/IndexOutOfBoundsException" "java/lang/IndexOutOfBoundsException", .castable "java/lang/IllegalStateException" "java/lang/IllegalStateException", .declares ⟨"java/lang/RuntimeException", "<init>", "(Ljava/lang/String;)V"⟩, .declares ⟨"java/lang/Exception", "<init>", "(Ljava/lang/String;)V"⟩, .declares ⟨"java/lang/Throwable", "<init>", "(Ljava/lang/String;)V"⟩]
def pw_S : List (String × Nat × String) := [(RX9, 253, "no such pane"), (RX9, 65, "n is not 1 .. 8"), (RX9, 79, "a key is 0 .. 255"), (RX9, 100, "there are 8 panes, or its area is too small"), (RX9, 107, "it is the only pane"), (RX9, 255, "no such place in the pane"), (RX9, 124, "the second place is before the first one"), (RX9, 174, "no such byte of OUT"), (RX9, 180, "no such cell"), (RX9, 224, "what is not 0 .. 10"), (RX9, 229, "no such byte of the INPUT"), (RX9, 235, "no such byte of what is COPIED"), (RX9, 239, "what is not 0 .. 5")]
def pw_isN (w : Cond) : Bool := match w with
  | .fieldLinkNest _ _ _ _ _ _ => true
  | .methodLinkNest _ _ _ _ => true
  | .castable _ _ => true
  | .declares _ => true
  | _ => false
theorem pw_N_ok : ∀ w ∈ pw_N, pw_isN w = true := List.all_eq_true.mp (by decide +kernel)
theorem pw_N_tab : ∀ w ∈ pw_N, w.onTables = true := List.all_eq_true.mp (by decide +kernel)
theorem pw_N_warm {w : Cond} {s U : State} (hW : s.WarmedH U.vm) (hw : pw_isN w = true) (hZ : va_Nw w s) : va_Nw w U := by
  unfold pw_isN at hw
  split at hw
  · exact va_Nw.warmF hW hZ
  · exact va_Nw.warmM hW hZ
  · exact va_Nw.warmC hW hZ
  · exact va_Nw.warmD hW hZ
  · cases hw
