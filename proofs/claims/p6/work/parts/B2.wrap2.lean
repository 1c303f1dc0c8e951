def YL_feed : pw_Y := (RL, "feed", cL_feed, 6, (some .int))
theorem whL_feed : Cond.codeWith yL_feed cL_feed 6 (some .int) [(0, 8, 11, 13), (0, 8, 15, 15)] ∈ pw_G := pw_in 918 (by decide +kernel) (by decide +kernel)
theorem cwL_7 : Cond.methodLink RL 7 yX9_feed ∈ pw_G ∧ Cond.instanceMethod yX9_feed ∈ pw_G ∧ Cond.selects RX9 yX9_feed yX9_feed ∈ pw_G := ⟨pw_in 921 (by decide +kernel) (by decide +kernel), pw_in 922 (by decide +kernel) (by decide +kernel), pw_in 923 (by decide +kernel) (by decide +kernel)⟩
theorem clL_13 : Cond.classLink RL 13 "java/lang/IndexOutOfBoundsException" ∈ pw_G := pw_in 919 (by decide +kernel) (by decide +kernel)
theorem clL_15 : Cond.classLink RL 15 "java/lang/IllegalArgumentException" ∈ pw_G := pw_in 920 (by decide +kernel) (by decide +kernel)
def YL_key : pw_Y := (RL, "key", cL_key, 4, (some .int))
theorem whL_key : Cond.codeWith yL_key cL_key 4 (some .int) [(0, 9, 12, 15)] ∈ pw_G := pw_in 1107 (by decide +kernel) (by decide +kernel)
theorem cwL_17 : Cond.methodLink RL 17 yX9_key ∈ pw_G ∧ Cond.instanceMethod yX9_key ∈ pw_G ∧ Cond.selects RX9 yX9_key yX9_key ∈ pw_G := ⟨pw_in 1108 (by decide +kernel) (by decide +kernel), pw_in 1109 (by decide +kernel) (by decide +kernel), pw_in 1110 (by decide +kernel) (by decide +kernel)⟩
def YL_split : pw_Y := (RL, "split", cL_split, 5, (some .int))
theorem whL_split : Cond.codeWith yL_split cL_split 5 (some .int) [(0, 10, 13, 13), (0, 10, 17, 25)] ∈ pw_G := pw_in 1180 (by decide +kernel) (by decide +kernel)
theorem cwL_21 : Cond.methodLink RL 21 yX9_split ∈ pw_G ∧ Cond.instanceMethod yX9_split ∈ pw_G ∧ Cond.selects RX9 yX9_split yX9_split ∈ pw_G := ⟨pw_in 1182 (by decide +kernel) (by decide +kernel), pw_in 1183 (by decide +kernel) (by decide +kernel), pw_in 1184 (by decide +kernel) (by decide +kernel)⟩
theorem clL_25 : Cond.classLink RL 25 "java/lang/IllegalStateException" ∈ pw_G := pw_in 1181 (by decide +kernel) (by decide +kernel)
def YL_close : pw_Y := (RL, "close", cL_close, 4, (some .int))
theorem whL_close : Cond.codeWith yL_close cL_close 4 (some .int) [(0, 9, 12, 13), (0, 9, 15, 25)] ∈ pw_G := pw_in 1204 (by decide +kernel) (by decide +kernel)
theorem cwL_27 : Cond.methodLink RL 27 yX9_close ∈ pw_G ∧ Cond.instanceMethod yX9_close ∈ pw_G ∧ Cond.selects RX9 yX9_close yX9_close ∈ pw_G := ⟨pw_in 1205 (by decide +kernel) (by decide +kernel), pw_in 1206 (by decide +kernel) (by decide +kernel), pw_in 1207 (by decide +kernel) (by decide +kernel)⟩
def YL_focus : pw_Y := (RL, "focus", cL_focus, 3, (some .int))
theorem whL_focus : Cond.codeWith yL_focus cL_focus 3 (some .int) [(0, 5, 8, 13)] ∈ pw_G := pw_in 1212 (by decide +kernel) (by decide +kernel)
theorem cwL_30 : Cond.methodLink RL 30 yX9_focus ∈ pw_G ∧ Cond.instanceMethod yX9_focus ∈ pw_G ∧ Cond.selects RX9 yX9_focus yX9_focus ∈ pw_G := ⟨pw_in 1213 (by decide +kernel) (by decide +kernel), pw_in 1214 (by decide +kernel) (by decide +kernel), pw_in 1215 (by decide +kernel) (by decide +kernel)⟩
def YL_copy : pw_Y := (RL, "copy", cL_copy, 6, (some .int))
theorem whL_copy : Cond.codeWith yL_copy cL_copy 6 (some .int) [(0, 12, 15, 13)] ∈ pw_G := pw_in 1219 (by decide +kernel) (by decide +kernel)
theorem cwL_34 : Cond.methodLink RL 34 yX9_copy ∈ pw_G ∧ Cond.instanceMethod yX9_copy ∈ pw_G ∧ Cond.selects RX9 yX9_copy yX9_copy ∈ pw_G := ⟨pw_in 1220 (by decide +kernel) (by decide +kernel), pw_in 1221 (by decide +kernel) (by decide +kernel), pw_in 1222 (by decide +kernel) (by decide +kernel)⟩
def YL_select : pw_Y := (RL, "select", cL_select, 8, (some .int))
theorem whL_select : Cond.codeWith yL_select cL_select 8 (some .int) [(0, 16, 19, 13), (0, 16, 23, 15)] ∈ pw_G := pw_in 1228 (by decide +kernel) (by decide +kernel)
theorem cwL_38 : Cond.methodLink RL 38 yX9_select ∈ pw_G ∧ Cond.instanceMethod yX9_select ∈ pw_G ∧ Cond.selects RX9 yX9_select yX9_select ∈ pw_G := ⟨pw_in 1229 (by decide +kernel) (by decide +kernel), pw_in 1230 (by decide +kernel) (by decide +kernel), pw_in 1231 (by decide +kernel) (by decide +kernel)⟩
def YL_out : pw_Y := (RL, "out", cL_out, 4, (some .int))
theorem whL_out : Cond.codeWith yL_out cL_out 4 (some .int) [(0, 9, 12, 13)] ∈ pw_G := pw_in 1249 (by decide +kernel) (by decide +kernel)
theorem cwL_42 : Cond.methodLink RL 42 yX9_out ∈ pw_G ∧ Cond.instanceMethod yX9_out ∈ pw_G ∧ Cond.selects RX9 yX9_out yX9_out ∈ pw_G := ⟨pw_in 1250 (by decide +kernel) (by decide +kernel), pw_in 1251 (by decide +kernel) (by decide +kernel), pw_in 1252 (by decide +kernel) (by decide +kernel)⟩
def YL_cell_ : pw_Y := (RL, "cell", cL_cell_, 6, (some .int))
theorem whL_cell_ : Cond.codeWith yL_cell_ cL_cell_ 6 (some .int) [(0, 12, 15, 13)] ∈ pw_G := pw_in 1257 (by decide +kernel) (by decide +kernel)
theorem cwL_45 : Cond.methodLink RL 45 yX9_cell ∈ pw_G ∧ Cond.instanceMethod yX9_cell ∈ pw_G ∧ Cond.selects RX9 yX9_cell yX9_cell ∈ pw_G := ⟨pw_in 1258 (by decide +kernel) (by decide +kernel), pw_in 1259 (by decide +kernel) (by decide +kernel), pw_in 1260 (by decide +kernel) (by decide +kernel)⟩
def YL_about : pw_Y := (RL, "about", cL_about, 5, (some .int))
theorem whL_about : Cond.codeWith yL_about cL_about 5 (some .int) [(0, 10, 13, 13), (0, 10, 17, 15)] ∈ pw_G := pw_in 1265 (by decide +kernel) (by decide +kernel)
theorem cwL_49 : Cond.methodLink RL 49 yX9_about ∈ pw_G ∧ Cond.instanceMethod yX9_about ∈ pw_G ∧ Cond.selects RX9 yX9_about yX9_about ∈ pw_G := ⟨pw_in 1266 (by decide +kernel) (by decide +kernel), pw_in 1267 (by decide +kernel) (by decide +kernel), pw_in 1268 (by decide +kernel) (by decide +kernel)⟩
def YL_input : pw_Y := (RL, "input", cL_input, 5, (some .int))
theorem whL_input : Cond.codeWith yL_input cL_input 5 (some .int) [(0, 10, 13, 13)] ∈ pw_G := pw_in 1273 (by decide +kernel) (by decide +kernel)
theorem cwL_53 : Cond.methodLink RL 53 yX9_input ∈ pw_G ∧ Cond.instanceMethod yX9_input ∈ pw_G ∧ Cond.selects RX9 yX9_input yX9_input ∈ pw_G := ⟨pw_in 1274 (by decide +kernel) (by decide +kernel), pw_in 1275 (by decide +kernel) (by decide +kernel), pw_in 1276 (by decide +kernel) (by decide +kernel)⟩
def YL_copied : pw_Y := (RL, "copied", cL_copied, 4, (some .int))
theorem whL_copied : Cond.codeWith yL_copied cL_copied 4 (some .int) [(0, 9, 12, 13)] ∈ pw_G := pw_in 1291 (by decide +kernel) (by decide +kernel)
theorem cwL_56 : Cond.methodLink RL 56 yX9_copied ∈ pw_G ∧ Cond.instanceMethod yX9_copied ∈ pw_G ∧ Cond.selects RX9 yX9_copied yX9_copied ∈ pw_G := ⟨pw_in 1292 (by decide +kernel) (by decide +kernel), pw_in 1293 (by decide +kernel) (by decide +kernel), pw_in 1294 (by decide +kernel) (by decide +kernel)⟩
def YL_count : pw_Y := (RL, "count", cL_count, 4, (some .int))
theorem whL_count : Cond.codeWith yL_count cL_count 4 (some .int) [(0, 9, 12, 15)] ∈ pw_G := pw_in 1299 (by decide +kernel) (by decide +kernel)
theorem cwL_59 : Cond.methodLink RL 59 yX9_count ∈ pw_G ∧ Cond.instanceMethod yX9_count ∈ pw_G ∧ Cond.selects RX9 yX9_count yX9_count ∈ pw_G := ⟨pw_in 1300 (by decide +kernel) (by decide +kernel), pw_in 1301 (by decide +kernel) (by decide +kernel), pw_in 1302 (by decide +kernel) (by decide +kernel)⟩
theorem czIO : Cond.castable "java/lang/IndexOutOfBoundsException" "java/lang/IndexOutOfBoundsException" ∈ pw_N := by decide +kernel
theorem czIA : Cond.castable "java/lang/IllegalArgumentException" "java/lang/IllegalArgumentException" ∈ pw_N := by decide +kernel
theorem czIS : Cond.castable "java/lang/IllegalStateException" "java/lang/IllegalStateException" ∈ pw_N := by decide +kernel
set_option maxHeartbeats 1000000 in
set_option maxRecDepth 100000 in
theorem wL_feed {E : pw_E} (htr : E.1.stackTraces = false) {h : pz_H} {n b dd mc ms : Nat} {fs : List Value} {p k : Int} {v : Int64} {Qc : Option Value → pz_H → Nat → Prop} {Xc : String → pz_H → Nat → Prop} (hb : h b = pz_o 12 fs) (hM : pw_M E yX9_feed YX9_feed (rmD dd mc ms) [.ref b, .int (zI (p)), .long (v), .int (zI (k))] h n Qc Xc) (hv : ∀ r h' n', Qc r h' n' → r = none) (hx : ∀ C h' n', Xc C h' n' → C = "java/lang/IndexOutOfBoundsException" ∨ C = "java/lang/IllegalArgumentException") : pw_MH E yL_feed YL_feed [(0, 8, 11, 13), (0, 8, 15, 15)] (rmD (dd + 1) mc ms) [.ref b, .int (zI (p)), .long (v), .int (zI (k))] h n (fun r0 h' n' => (Qc none h' n' ∧ r0 = some (.int (zI 0))) ∨ (Xc "java/lang/IndexOutOfBoundsException" h' n' ∧ r0 = some (.int (zI 1))) ∨ (Xc "java/lang/IllegalArgumentException" h' n' ∧ r0 = some (.int (zI 2)))) (fun _ _ _ => False) := by
  refine pw_MH_of (lv := [some (.ref b), some (.int (zI (p))), some (.long (v)), none, some (.int (zI (k))), none]) (by decide) rfl rfl htr (nle rfl) rfl (fun L => ?_)
  refine pwT_aload_n dL_feed_0 rfl ?_
  refine pwT_iload_n dL_feed_1 rfl ?_
  refine pwT_lload_n dL_feed_2 rfl ?_
  refine pwT_iload dL_feed_3 rfl ?_
  refine pwT_callV (As := [.int (zI (p)), .long (v), .int (zI (k))]) (b := b) (rm := rmD dd mc ms) hM rfl hb rfl rfl ywX9_feed rfl cwL_7 ⟨by show dd + 1 ≤ dd + 1; omega, by show 8 + (6 + 11) + 64 * dd ≤ 64 * (dd + 1); omega⟩ (nle rfl) ⟨by show 0 + mc ≤ mc; omega, by show 0 + ms ≤ ms; omega⟩ dL_feed_5 ?_ ?_
  ·
    intro r_9 h_9 n_9 hq hn9
    have hr9 := hv r_9 h_9 n_9 hq
    subst hr9
    show pwT E YL_feed (tableOf [(0, 8, 11, 13), (0, 8, 15, 15)]) _ _ (0 + mc) (0 + ms) 8 [some (.ref b), some (.int (zI (p))), some (.long (v)), none, some (.int (zI (k))), none] [] h_9 n_9
    refine pwT_goto (tgt := 19) dL_feed_8 rfl ?_
    refine pwT_iconst (v := zI (0)) dL_feed_19 (by decide) ?_
    exact pwT_iret dL_feed_20 rfl (by show 0 + mc ≤ mc; omega) (by show 0 + ms ≤ ms; omega) (Or.inl ⟨hq, rfl⟩)
  ·
    intro C h' n' hX hn9 p e s m args below meth c H locs L ls F d q ce w1 w2 w3
    rcases hx C h' n' hX with rfl | rfl
    · exact cx_catch1 (x := ⟨0, 8, 11, 13⟩) (pwTF_own F) (F.2.2.2.2.2.2.2.2.2.2.1.trans rfl) (by decide) (by decide) (pwTF_w F _ clL_13) (va_Nw.use (pw_N_tab _ czIO) ((pwTF_U F).2.2.2.2.1 _ czIO)) w1 w2 w3 (cx_hnd (Y := YL_feed) (T := (tableOf [(0, 8, 11, 13), (0, 8, 15, 15)])) dL_feed_11 dL_feed_13 dL_feed_14 (nlt rfl) rfl (by show 0 + mc ≤ mc; omega) (by show 0 + ms ≤ ms; omega) (Or.inr (Or.inl ⟨hX, rfl⟩)) F d)
    · exact cx_catch2 (y := ⟨0, 8, 11, 13⟩) (x := ⟨0, 8, 15, 15⟩) (pwTF_own F) (F.2.2.2.2.2.2.2.2.2.2.1.trans rfl) (by decide) (by decide) (by decide) (by decide) (pwTF_w F _ clL_13) F.2.2.2.2.2.2.2.2.2.2.2.1 (pwTF_w F _ clL_15) (va_Nw.use (pw_N_tab _ czIA) ((pwTF_U F).2.2.2.2.1 _ czIA)) w1 w2 w3 (cx_hnd (Y := YL_feed) (T := (tableOf [(0, 8, 11, 13), (0, 8, 15, 15)])) dL_feed_15 dL_feed_17 dL_feed_18 (nlt rfl) rfl (by show 0 + mc ≤ mc; omega) (by show 0 + ms ≤ ms; omega) (Or.inr (Or.inr ⟨hX, rfl⟩)) F d)
set_option maxHeartbeats 1000000 in
set_option maxRecDepth 100000 in
theorem wL_key {E : pw_E} (htr : E.1.stackTraces = false) {h : pz_H} {n b dd mc ms : Nat} {o : Nat} {f : Nat → Int64} {fs : List Value} {k : Int} {Qc : Option Value → pz_H → Nat → Prop} {Xc : String → pz_H → Nat → Prop} (hb : h b = pz_o 12 fs) (hM : pw_M E yX9_key YX9_key (rmD dd mc ms) [.ref b, .int (zI (k))] h n Qc Xc) (hv : ∀ r h' n', Qc r h' n' → ∃ v : Int, (-2147483648 ≤ v ∧ v < 2147483648) ∧ r = some (.int (zI v)) ∧ h' o = pz_j 2 1 f) (hx : ∀ C h' n', Xc C h' n' → C = "java/lang/IllegalArgumentException") : pw_MH E yL_key YL_key [(0, 9, 12, 15)] (rmD (dd + 1) mc ms) [.ref b, .int (zI (k)), .ref o] h n (fun r0 h' n' => (∃ v h1, Qc (some (.int (zI v))) h1 n' ∧ (-2147483648 ≤ v ∧ v < 2147483648) ∧ r0 = some (.int (zI 0)) ∧ h' = va_up h1 o (pz_j 2 1 (vp_updL f (Int.toNat 0) (zL v)))) ∨ (Xc "java/lang/IllegalArgumentException" h' n' ∧ r0 = some (.int (zI 1)))) (fun _ _ _ => False) := by
  refine pw_MH_of (lv := [some (.ref b), some (.int (zI (k))), some (.ref o), none]) (by decide) rfl rfl htr (nle rfl) rfl (fun L => ?_)
  refine pwT_aload_n dL_key_0 rfl ?_
  refine pwT_iconst (v := zI (0)) dL_key_1 (by decide) ?_
  refine pwT_aload_n dL_key_2 rfl ?_
  refine pwT_iload_n dL_key_3 rfl ?_
  refine pwT_callV (As := [.int (zI (k))]) (b := b) (rm := rmD dd mc ms) hM rfl hb rfl rfl ywX9_key rfl cwL_17 ⟨by show dd + 1 ≤ dd + 1; omega, by show 8 + (2 + 11) + 64 * dd ≤ 64 * (dd + 1); omega⟩ (nle rfl) ⟨by show 0 + mc ≤ mc; omega, by show 0 + ms ≤ ms; omega⟩ dL_key_4 ?_ ?_
  ·
    intro r_9 h_9 n_9 hq hn9
    obtain ⟨v9, hv9, rfl, ho9⟩ := hv r_9 h_9 n_9 hq
    show pwT E YL_key (tableOf [(0, 9, 12, 15)]) _ _ (0 + mc) (0 + ms) 7 [some (.ref b), some (.int (zI (k))), some (.ref o), none] [.int (zI (v9)), .int (zI (0)), .ref o] h_9 n_9
    refine pwT_zi2l dL_key_7 (by omega) ?_
    refine pwT_last (t := 2) (f := f) rfl ho9 (by omega) (by decide) dL_key_8 ?_
    refine pwT_goto (tgt := 15) dL_key_9 rfl ?_
    refine pwT_iconst (v := zI (0)) dL_key_15 (by decide) ?_
    exact pwT_iret dL_key_16 rfl (by show 0 + mc ≤ mc; omega) (by show 0 + ms ≤ ms; omega) (Or.inl ⟨v9, h_9, hq, hv9, rfl, rfl⟩)
  ·
    intro C h' n' hX hn9 p e s m args below meth c H locs L ls F d q ce w1 w2 w3
    rcases hx C h' n' hX with rfl
    · exact cx_catch1 (x := ⟨0, 9, 12, 15⟩) (pwTF_own F) (F.2.2.2.2.2.2.2.2.2.2.1.trans rfl) (by decide) (by decide) (pwTF_w F _ clL_15) (va_Nw.use (pw_N_tab _ czIA) ((pwTF_U F).2.2.2.2.1 _ czIA)) w1 w2 w3 (cx_hndn (Y := YL_key) (T := (tableOf [(0, 9, 12, 15)])) dL_key_12 dL_key_13 dL_key_14 (nlt rfl) rfl (by show 0 + mc ≤ mc; omega) (by show 0 + ms ≤ ms; omega) (Or.inr ⟨hX, rfl⟩) F d)
set_option maxHeartbeats 1000000 in
set_option maxRecDepth 100000 in
theorem wL_split {E : pw_E} (htr : E.1.stackTraces = false) {h : pz_H} {n b dd mc ms : Nat} {o : Nat} {f : Nat → Int64} {fs : List Value} {p dn : Int} {Qc : Option Value → pz_H → Nat → Prop} {Xc : String → pz_H → Nat → Prop} (hb : h b = pz_o 12 fs) (hM : pw_M E yX9_split YX9_split (rmD dd mc ms) [.ref b, .int (zI (p)), .int (zI (dn))] h n Qc Xc) (hv : ∀ r h' n', Qc r h' n' → ∃ v : Int, (-2147483648 ≤ v ∧ v < 2147483648) ∧ r = some (.int (zI v)) ∧ h' o = pz_j 2 1 f) (hx : ∀ C h' n', Xc C h' n' → C = "java/lang/IndexOutOfBoundsException" ∨ C = "java/lang/IllegalStateException") : pw_MH E yL_split YL_split [(0, 10, 13, 13), (0, 10, 17, 25)] (rmD (dd + 1) mc ms) [.ref b, .int (zI (p)), .int (zI (dn)), .ref o] h n (fun r0 h' n' => (∃ v h1, Qc (some (.int (zI v))) h1 n' ∧ (-2147483648 ≤ v ∧ v < 2147483648) ∧ r0 = some (.int (zI 0)) ∧ h' = va_up h1 o (pz_j 2 1 (vp_updL f (Int.toNat 0) (zL v)))) ∨ (Xc "java/lang/IndexOutOfBoundsException" h' n' ∧ r0 = some (.int (zI 1))) ∨ (Xc "java/lang/IllegalStateException" h' n' ∧ r0 = some (.int (zI 2)))) (fun _ _ _ => False) := by
  refine pw_MH_of (lv := [some (.ref b), some (.int (zI (p))), some (.int (zI (dn))), some (.ref o), none]) (by decide) rfl rfl htr (nle rfl) rfl (fun L => ?_)
  refine pwT_aload_n dL_split_0 rfl ?_
  refine pwT_iconst (v := zI (0)) dL_split_1 (by decide) ?_
  refine pwT_aload_n dL_split_2 rfl ?_
  refine pwT_iload_n dL_split_3 rfl ?_
  refine pwT_iload_n dL_split_4 rfl ?_
  refine pwT_callV (As := [.int (zI (p)), .int (zI (dn))]) (b := b) (rm := rmD dd mc ms) hM rfl hb rfl rfl ywX9_split rfl cwL_21 ⟨by show dd + 1 ≤ dd + 1; omega, by show 8 + (4 + 11) + 64 * dd ≤ 64 * (dd + 1); omega⟩ (nle rfl) ⟨by show 0 + mc ≤ mc; omega, by show 0 + ms ≤ ms; omega⟩ dL_split_5 ?_ ?_
  ·
    intro r_9 h_9 n_9 hq hn9
    obtain ⟨v9, hv9, rfl, ho9⟩ := hv r_9 h_9 n_9 hq
    show pwT E YL_split (tableOf [(0, 10, 13, 13), (0, 10, 17, 25)]) _ _ (0 + mc) (0 + ms) 8 [some (.ref b), some (.int (zI (p))), some (.int (zI (dn))), some (.ref o), none] [.int (zI (v9)), .int (zI (0)), .ref o] h_9 n_9
    refine pwT_zi2l dL_split_8 (by omega) ?_
    refine pwT_last (t := 2) (f := f) rfl ho9 (by omega) (by decide) dL_split_9 ?_
    refine pwT_goto (tgt := 21) dL_split_10 rfl ?_
    refine pwT_iconst (v := zI (0)) dL_split_21 (by decide) ?_
    exact pwT_iret dL_split_22 rfl (by show 0 + mc ≤ mc; omega) (by show 0 + ms ≤ ms; omega) (Or.inl ⟨v9, h_9, hq, hv9, rfl, rfl⟩)
  ·
    intro C h' n' hX hn9 p e s m args below meth c H locs L ls F d q ce w1 w2 w3
    rcases hx C h' n' hX with rfl | rfl
    · exact cx_catch1 (x := ⟨0, 10, 13, 13⟩) (pwTF_own F) (F.2.2.2.2.2.2.2.2.2.2.1.trans rfl) (by decide) (by decide) (pwTF_w F _ clL_13) (va_Nw.use (pw_N_tab _ czIO) ((pwTF_U F).2.2.2.2.1 _ czIO)) w1 w2 w3 (cx_hnd (Y := YL_split) (T := (tableOf [(0, 10, 13, 13), (0, 10, 17, 25)])) dL_split_13 dL_split_15 dL_split_16 (nlt rfl) rfl (by show 0 + mc ≤ mc; omega) (by show 0 + ms ≤ ms; omega) (Or.inr (Or.inl ⟨hX, rfl⟩)) F d)
    · exact cx_catch2 (y := ⟨0, 10, 13, 13⟩) (x := ⟨0, 10, 17, 25⟩) (pwTF_own F) (F.2.2.2.2.2.2.2.2.2.2.1.trans rfl) (by decide) (by decide) (by decide) (by decide) (pwTF_w F _ clL_13) F.2.2.2.2.2.2.2.2.2.2.2.2 (pwTF_w F _ clL_25) (va_Nw.use (pw_N_tab _ czIS) ((pwTF_U F).2.2.2.2.1 _ czIS)) w1 w2 w3 (cx_hnd (Y := YL_split) (T := (tableOf [(0, 10, 13, 13), (0, 10, 17, 25)])) dL_split_17 dL_split_19 dL_split_20 (nlt rfl) rfl (by show 0 + mc ≤ mc; omega) (by show 0 + ms ≤ ms; omega) (Or.inr (Or.inr ⟨hX, rfl⟩)) F d)
set_option maxHeartbeats 1000000 in
set_option maxRecDepth 100000 in
theorem wL_close {E : pw_E} (htr : E.1.stackTraces = false) {h : pz_H} {n b dd mc ms : Nat} {o : Nat} {f : Nat → Int64} {fs : List Value} {p : Int} {Qc : Option Value → pz_H → Nat → Prop} {Xc : String → pz_H → Nat → Prop} (hb : h b = pz_o 12 fs) (hM : pw_M E yX9_close YX9_close (rmD dd mc ms) [.ref b, .int (zI (p))] h n Qc Xc) (hv : ∀ r h' n', Qc r h' n' → ∃ v : Int, (-2147483648 ≤ v ∧ v < 2147483648) ∧ r = some (.int (zI v)) ∧ h' o = pz_j 2 1 f) (hx : ∀ C h' n', Xc C h' n' → C = "java/lang/IndexOutOfBoundsException" ∨ C = "java/lang/IllegalStateException") : pw_MH E yL_close YL_close [(0, 9, 12, 13), (0, 9, 15, 25)] (rmD (dd + 1) mc ms) [.ref b, .int (zI (p)), .ref o] h n (fun r0 h' n' => (∃ v h1, Qc (some (.int (zI v))) h1 n' ∧ (-2147483648 ≤ v ∧ v < 2147483648) ∧ r0 = some (.int (zI 0)) ∧ h' = va_up h1 o (pz_j 2 1 (vp_updL f (Int.toNat 0) (zL v)))) ∨ (Xc "java/lang/IndexOutOfBoundsException" h' n' ∧ r0 = some (.int (zI 1))) ∨ (Xc "java/lang/IllegalStateException" h' n' ∧ r0 = some (.int (zI 2)))) (fun _ _ _ => False) := by
  refine pw_MH_of (lv := [some (.ref b), some (.int (zI (p))), some (.ref o), none]) (by decide) rfl rfl htr (nle rfl) rfl (fun L => ?_)
  refine pwT_aload_n dL_close_0 rfl ?_
  refine pwT_iconst (v := zI (0)) dL_close_1 (by decide) ?_
  refine pwT_aload_n dL_close_2 rfl ?_
  refine pwT_iload_n dL_close_3 rfl ?_
  refine pwT_callV (As := [.int (zI (p))]) (b := b) (rm := rmD dd mc ms) hM rfl hb rfl rfl ywX9_close rfl cwL_27 ⟨by show dd + 1 ≤ dd + 1; omega, by show 8 + (2 + 11) + 64 * dd ≤ 64 * (dd + 1); omega⟩ (nle rfl) ⟨by show 0 + mc ≤ mc; omega, by show 0 + ms ≤ ms; omega⟩ dL_close_4 ?_ ?_
  ·
    intro r_9 h_9 n_9 hq hn9
    obtain ⟨v9, hv9, rfl, ho9⟩ := hv r_9 h_9 n_9 hq
    show pwT E YL_close (tableOf [(0, 9, 12, 13), (0, 9, 15, 25)]) _ _ (0 + mc) (0 + ms) 7 [some (.ref b), some (.int (zI (p))), some (.ref o), none] [.int (zI (v9)), .int (zI (0)), .ref o] h_9 n_9
    refine pwT_zi2l dL_close_7 (by omega) ?_
    refine pwT_last (t := 2) (f := f) rfl ho9 (by omega) (by decide) dL_close_8 ?_
    refine pwT_goto (tgt := 18) dL_close_9 rfl ?_
    refine pwT_iconst (v := zI (0)) dL_close_18 (by decide) ?_
    exact pwT_iret dL_close_19 rfl (by show 0 + mc ≤ mc; omega) (by show 0 + ms ≤ ms; omega) (Or.inl ⟨v9, h_9, hq, hv9, rfl, rfl⟩)
  ·
    intro C h' n' hX hn9 p e s m args below meth c H locs L ls F d q ce w1 w2 w3
    rcases hx C h' n' hX with rfl | rfl
    · exact cx_catch1 (x := ⟨0, 9, 12, 13⟩) (pwTF_own F) (F.2.2.2.2.2.2.2.2.2.2.1.trans rfl) (by decide) (by decide) (pwTF_w F _ clL_13) (va_Nw.use (pw_N_tab _ czIO) ((pwTF_U F).2.2.2.2.1 _ czIO)) w1 w2 w3 (cx_hndn (Y := YL_close) (T := (tableOf [(0, 9, 12, 13), (0, 9, 15, 25)])) dL_close_12 dL_close_13 dL_close_14 (nlt rfl) rfl (by show 0 + mc ≤ mc; omega) (by show 0 + ms ≤ ms; omega) (Or.inr (Or.inl ⟨hX, rfl⟩)) F d)
    · exact cx_catch2 (y := ⟨0, 9, 12, 13⟩) (x := ⟨0, 9, 15, 25⟩) (pwTF_own F) (F.2.2.2.2.2.2.2.2.2.2.1.trans rfl) (by decide) (by decide) (by decide) (by decide) (pwTF_w F _ clL_13) F.2.2.2.2.2.2.2.2.2.2.2.2 (pwTF_w F _ clL_25) (va_Nw.use (pw_N_tab _ czIS) ((pwTF_U F).2.2.2.2.1 _ czIS)) w1 w2 w3 (cx_hndn (Y := YL_close) (T := (tableOf [(0, 9, 12, 13), (0, 9, 15, 25)])) dL_close_15 dL_close_16 dL_close_17 (nlt rfl) rfl (by show 0 + mc ≤ mc; omega) (by show 0 + ms ≤ ms; omega) (Or.inr (Or.inr ⟨hX, rfl⟩)) F d)
set_option maxHeartbeats 1000000 in
set_option maxRecDepth 100000 in
theorem wL_focus {E : pw_E} (htr : E.1.stackTraces = false) {h : pz_H} {n b dd mc ms : Nat} {fs : List Value} {p : Int} {Qc : Option Value → pz_H → Nat → Prop} {Xc : String → pz_H → Nat → Prop} (hb : h b = pz_o 12 fs) (hM : pw_M E yX9_focus YX9_focus (rmD dd mc ms) [.ref b, .int (zI (p))] h n Qc Xc) (hv : ∀ r h' n', Qc r h' n' → r = none) (hx : ∀ C h' n', Xc C h' n' → C = "java/lang/IndexOutOfBoundsException") : pw_MH E yL_focus YL_focus [(0, 5, 8, 13)] (rmD (dd + 1) mc ms) [.ref b, .int (zI (p))] h n (fun r0 h' n' => (Qc none h' n' ∧ r0 = some (.int (zI 0))) ∨ (Xc "java/lang/IndexOutOfBoundsException" h' n' ∧ r0 = some (.int (zI 1)))) (fun _ _ _ => False) := by
  refine pw_MH_of (lv := [some (.ref b), some (.int (zI (p))), none]) (by decide) rfl rfl htr (nle rfl) rfl (fun L => ?_)
  refine pwT_aload_n dL_focus_0 rfl ?_
  refine pwT_iload_n dL_focus_1 rfl ?_
  refine pwT_callV (As := [.int (zI (p))]) (b := b) (rm := rmD dd mc ms) hM rfl hb rfl rfl ywX9_focus rfl cwL_30 ⟨by show dd + 1 ≤ dd + 1; omega, by show 8 + (2 + 11) + 64 * dd ≤ 64 * (dd + 1); omega⟩ (nle rfl) ⟨by show 0 + mc ≤ mc; omega, by show 0 + ms ≤ ms; omega⟩ dL_focus_2 ?_ ?_
  ·
    intro r_9 h_9 n_9 hq hn9
    have hr9 := hv r_9 h_9 n_9 hq
    subst hr9
    show pwT E YL_focus (tableOf [(0, 5, 8, 13)]) _ _ (0 + mc) (0 + ms) 5 [some (.ref b), some (.int (zI (p))), none] [] h_9 n_9
    refine pwT_goto (tgt := 11) dL_focus_5 rfl ?_
    refine pwT_iconst (v := zI (0)) dL_focus_11 (by decide) ?_
    exact pwT_iret dL_focus_12 rfl (by show 0 + mc ≤ mc; omega) (by show 0 + ms ≤ ms; omega) (Or.inl ⟨hq, rfl⟩)
  ·
    intro C h' n' hX hn9 p e s m args below meth c H locs L ls F d q ce w1 w2 w3
    rcases hx C h' n' hX with rfl
    · exact cx_catch1 (x := ⟨0, 5, 8, 13⟩) (pwTF_own F) (F.2.2.2.2.2.2.2.2.2.2.1.trans rfl) (by decide) (by decide) (pwTF_w F _ clL_13) (va_Nw.use (pw_N_tab _ czIO) ((pwTF_U F).2.2.2.2.1 _ czIO)) w1 w2 w3 (cx_hndn (Y := YL_focus) (T := (tableOf [(0, 5, 8, 13)])) dL_focus_8 dL_focus_9 dL_focus_10 (nlt rfl) rfl (by show 0 + mc ≤ mc; omega) (by show 0 + ms ≤ ms; omega) (Or.inr ⟨hX, rfl⟩) F d)
set_option maxHeartbeats 1000000 in
set_option maxRecDepth 100000 in
theorem wL_copy {E : pw_E} (htr : E.1.stackTraces = false) {h : pz_H} {n b dd mc ms : Nat} {o : Nat} {f : Nat → Int64} {fs : List Value} {p on up : Int} {Qc : Option Value → pz_H → Nat → Prop} {Xc : String → pz_H → Nat → Prop} (hb : h b = pz_o 12 fs) (hM : pw_M E yX9_copy YX9_copy (rmD dd mc ms) [.ref b, .int (zI (p)), .int (zI (on)), .int (zI (up))] h n Qc Xc) (hv : ∀ r h' n', Qc r h' n' → ∃ v : Int, (-2147483648 ≤ v ∧ v < 2147483648) ∧ r = some (.int (zI v)) ∧ h' o = pz_j 2 1 f) (hx : ∀ C h' n', Xc C h' n' → C = "java/lang/IndexOutOfBoundsException") : pw_MH E yL_copy YL_copy [(0, 12, 15, 13)] (rmD (dd + 1) mc ms) [.ref b, .int (zI (p)), .int (zI (on)), .int (zI (up)), .ref o] h n (fun r0 h' n' => (∃ v h1, Qc (some (.int (zI v))) h1 n' ∧ (-2147483648 ≤ v ∧ v < 2147483648) ∧ r0 = some (.int (zI 0)) ∧ h' = va_up h1 o (pz_j 2 1 (vp_updL f (Int.toNat 0) (zL v)))) ∨ (Xc "java/lang/IndexOutOfBoundsException" h' n' ∧ r0 = some (.int (zI 1)))) (fun _ _ _ => False) := by
  refine pw_MH_of (lv := [some (.ref b), some (.int (zI (p))), some (.int (zI (on))), some (.int (zI (up))), some (.ref o), none]) (by decide) rfl rfl htr (nle rfl) rfl (fun L => ?_)
  refine pwT_aload dL_copy_0 rfl ?_
  refine pwT_iconst (v := zI (0)) dL_copy_2 (by decide) ?_
  refine pwT_aload_n dL_copy_3 rfl ?_
  refine pwT_iload_n dL_copy_4 rfl ?_
  refine pwT_iload_n dL_copy_5 rfl ?_
  refine pwT_iload_n dL_copy_6 rfl ?_
  refine pwT_callV (As := [.int (zI (p)), .int (zI (on)), .int (zI (up))]) (b := b) (rm := rmD dd mc ms) hM rfl hb rfl rfl ywX9_copy rfl cwL_34 ⟨by show dd + 1 ≤ dd + 1; omega, by show 8 + (4 + 11) + 64 * dd ≤ 64 * (dd + 1); omega⟩ (nle rfl) ⟨by show 0 + mc ≤ mc; omega, by show 0 + ms ≤ ms; omega⟩ dL_copy_7 ?_ ?_
  ·
    intro r_9 h_9 n_9 hq hn9
    obtain ⟨v9, hv9, rfl, ho9⟩ := hv r_9 h_9 n_9 hq
    show pwT E YL_copy (tableOf [(0, 12, 15, 13)]) _ _ (0 + mc) (0 + ms) 10 [some (.ref b), some (.int (zI (p))), some (.int (zI (on))), some (.int (zI (up))), some (.ref o), none] [.int (zI (v9)), .int (zI (0)), .ref o] h_9 n_9
    refine pwT_zi2l dL_copy_10 (by omega) ?_
    refine pwT_last (t := 2) (f := f) rfl ho9 (by omega) (by decide) dL_copy_11 ?_
    refine pwT_goto (tgt := 19) dL_copy_12 rfl ?_
    refine pwT_iconst (v := zI (0)) dL_copy_19 (by decide) ?_
    exact pwT_iret dL_copy_20 rfl (by show 0 + mc ≤ mc; omega) (by show 0 + ms ≤ ms; omega) (Or.inl ⟨v9, h_9, hq, hv9, rfl, rfl⟩)
  ·
    intro C h' n' hX hn9 p e s m args below meth c H locs L ls F d q ce w1 w2 w3
    rcases hx C h' n' hX with rfl
    · exact cx_catch1 (x := ⟨0, 12, 15, 13⟩) (pwTF_own F) (F.2.2.2.2.2.2.2.2.2.2.1.trans rfl) (by decide) (by decide) (pwTF_w F _ clL_13) (va_Nw.use (pw_N_tab _ czIO) ((pwTF_U F).2.2.2.2.1 _ czIO)) w1 w2 w3 (cx_hnd (Y := YL_copy) (T := (tableOf [(0, 12, 15, 13)])) dL_copy_15 dL_copy_17 dL_copy_18 (nlt rfl) rfl (by show 0 + mc ≤ mc; omega) (by show 0 + ms ≤ ms; omega) (Or.inr ⟨hX, rfl⟩) F d)
set_option maxHeartbeats 1000000 in
set_option maxRecDepth 100000 in
theorem wL_select {E : pw_E} (htr : E.1.stackTraces = false) {h : pz_H} {n b dd mc ms : Nat} {o : Nat} {f : Nat → Int64} {fs : List Value} {p ro co tr tc : Int} {Qc : Option Value → pz_H → Nat → Prop} {Xc : String → pz_H → Nat → Prop} (hb : h b = pz_o 12 fs) (hM : pw_M E yX9_select YX9_select (rmD dd mc ms) [.ref b, .int (zI (p)), .int (zI (ro)), .int (zI (co)), .int (zI (tr)), .int (zI (tc))] h n Qc Xc) (hv : ∀ r h' n', Qc r h' n' → ∃ v : Int, (-2147483648 ≤ v ∧ v < 2147483648) ∧ r = some (.int (zI v)) ∧ h' o = pz_j 2 1 f) (hx : ∀ C h' n', Xc C h' n' → C = "java/lang/IndexOutOfBoundsException" ∨ C = "java/lang/IllegalArgumentException") : pw_MH E yL_select YL_select [(0, 16, 19, 13), (0, 16, 23, 15)] (rmD (dd + 1) mc ms) [.ref b, .int (zI (p)), .int (zI (ro)), .int (zI (co)), .int (zI (tr)), .int (zI (tc)), .ref o] h n (fun r0 h' n' => (∃ v h1, Qc (some (.int (zI v))) h1 n' ∧ (-2147483648 ≤ v ∧ v < 2147483648) ∧ r0 = some (.int (zI 0)) ∧ h' = va_up h1 o (pz_j 2 1 (vp_updL f (Int.toNat 0) (zL v)))) ∨ (Xc "java/lang/IndexOutOfBoundsException" h' n' ∧ r0 = some (.int (zI 1))) ∨ (Xc "java/lang/IllegalArgumentException" h' n' ∧ r0 = some (.int (zI 2)))) (fun _ _ _ => False) := by
  refine pw_MH_of (lv := [some (.ref b), some (.int (zI (p))), some (.int (zI (ro))), some (.int (zI (co))), some (.int (zI (tr))), some (.int (zI (tc))), some (.ref o), none]) (by decide) rfl rfl htr (nle rfl) rfl (fun L => ?_)
  refine pwT_aload dL_select_0 rfl ?_
  refine pwT_iconst (v := zI (0)) dL_select_2 (by decide) ?_
  refine pwT_aload_n dL_select_3 rfl ?_
  refine pwT_iload_n dL_select_4 rfl ?_
  refine pwT_iload_n dL_select_5 rfl ?_
  refine pwT_iload_n dL_select_6 rfl ?_
  refine pwT_iload dL_select_7 rfl ?_
  refine pwT_iload dL_select_9 rfl ?_
  refine pwT_callV (As := [.int (zI (p)), .int (zI (ro)), .int (zI (co)), .int (zI (tr)), .int (zI (tc))]) (b := b) (rm := rmD dd mc ms) hM rfl hb rfl rfl ywX9_select rfl cwL_38 ⟨by show dd + 1 ≤ dd + 1; omega, by show 8 + (8 + 11) + 64 * dd ≤ 64 * (dd + 1); omega⟩ (nle rfl) ⟨by show 0 + mc ≤ mc; omega, by show 0 + ms ≤ ms; omega⟩ dL_select_11 ?_ ?_
  ·
    intro r_9 h_9 n_9 hq hn9
    obtain ⟨v9, hv9, rfl, ho9⟩ := hv r_9 h_9 n_9 hq
    show pwT E YL_select (tableOf [(0, 16, 19, 13), (0, 16, 23, 15)]) _ _ (0 + mc) (0 + ms) 14 [some (.ref b), some (.int (zI (p))), some (.int (zI (ro))), some (.int (zI (co))), some (.int (zI (tr))), some (.int (zI (tc))), some (.ref o), none] [.int (zI (v9)), .int (zI (0)), .ref o] h_9 n_9
    refine pwT_zi2l dL_select_14 (by omega) ?_
    refine pwT_last (t := 2) (f := f) rfl ho9 (by omega) (by decide) dL_select_15 ?_
    refine pwT_goto (tgt := 27) dL_select_16 rfl ?_
    refine pwT_iconst (v := zI (0)) dL_select_27 (by decide) ?_
    exact pwT_iret dL_select_28 rfl (by show 0 + mc ≤ mc; omega) (by show 0 + ms ≤ ms; omega) (Or.inl ⟨v9, h_9, hq, hv9, rfl, rfl⟩)
  ·
    intro C h' n' hX hn9 p e s m args below meth c H locs L ls F d q ce w1 w2 w3
    rcases hx C h' n' hX with rfl | rfl
    · exact cx_catch1 (x := ⟨0, 16, 19, 13⟩) (pwTF_own F) (F.2.2.2.2.2.2.2.2.2.2.1.trans rfl) (by decide) (by decide) (pwTF_w F _ clL_13) (va_Nw.use (pw_N_tab _ czIO) ((pwTF_U F).2.2.2.2.1 _ czIO)) w1 w2 w3 (cx_hnd (Y := YL_select) (T := (tableOf [(0, 16, 19, 13), (0, 16, 23, 15)])) dL_select_19 dL_select_21 dL_select_22 (nlt rfl) rfl (by show 0 + mc ≤ mc; omega) (by show 0 + ms ≤ ms; omega) (Or.inr (Or.inl ⟨hX, rfl⟩)) F d)
    · exact cx_catch2 (y := ⟨0, 16, 19, 13⟩) (x := ⟨0, 16, 23, 15⟩) (pwTF_own F) (F.2.2.2.2.2.2.2.2.2.2.1.trans rfl) (by decide) (by decide) (by decide) (by decide) (pwTF_w F _ clL_13) F.2.2.2.2.2.2.2.2.2.2.2.1 (pwTF_w F _ clL_15) (va_Nw.use (pw_N_tab _ czIA) ((pwTF_U F).2.2.2.2.1 _ czIA)) w1 w2 w3 (cx_hnd (Y := YL_select) (T := (tableOf [(0, 16, 19, 13), (0, 16, 23, 15)])) dL_select_23 dL_select_25 dL_select_26 (nlt rfl) rfl (by show 0 + mc ≤ mc; omega) (by show 0 + ms ≤ ms; omega) (Or.inr (Or.inr ⟨hX, rfl⟩)) F d)
set_option maxHeartbeats 1000000 in
set_option maxRecDepth 100000 in
theorem wL_out {E : pw_E} (htr : E.1.stackTraces = false) {h : pz_H} {n b dd mc ms : Nat} {o : Nat} {f : Nat → Int64} {fs : List Value} {i : Int} {Qc : Option Value → pz_H → Nat → Prop} {Xc : String → pz_H → Nat → Prop} (hb : h b = pz_o 12 fs) (hM : pw_M E yX9_out YX9_out (rmD dd mc ms) [.ref b, .int (zI (i))] h n Qc Xc) (hv : ∀ r h' n', Qc r h' n' → ∃ v : Int, (-2147483648 ≤ v ∧ v < 2147483648) ∧ r = some (.int (zI v)) ∧ h' o = pz_j 2 1 f) (hx : ∀ C h' n', Xc C h' n' → C = "java/lang/IndexOutOfBoundsException") : pw_MH E yL_out YL_out [(0, 9, 12, 13)] (rmD (dd + 1) mc ms) [.ref b, .int (zI (i)), .ref o] h n (fun r0 h' n' => (∃ v h1, Qc (some (.int (zI v))) h1 n' ∧ (-2147483648 ≤ v ∧ v < 2147483648) ∧ r0 = some (.int (zI 0)) ∧ h' = va_up h1 o (pz_j 2 1 (vp_updL f (Int.toNat 0) (zL v)))) ∨ (Xc "java/lang/IndexOutOfBoundsException" h' n' ∧ r0 = some (.int (zI 1)))) (fun _ _ _ => False) := by
  refine pw_MH_of (lv := [some (.ref b), some (.int (zI (i))), some (.ref o), none]) (by decide) rfl rfl htr (nle rfl) rfl (fun L => ?_)
  refine pwT_aload_n dL_out_0 rfl ?_
  refine pwT_iconst (v := zI (0)) dL_out_1 (by decide) ?_
  refine pwT_aload_n dL_out_2 rfl ?_
  refine pwT_iload_n dL_out_3 rfl ?_
  refine pwT_callV (As := [.int (zI (i))]) (b := b) (rm := rmD dd mc ms) hM rfl hb rfl rfl ywX9_out rfl cwL_42 ⟨by show dd + 1 ≤ dd + 1; omega, by show 8 + (2 + 11) + 64 * dd ≤ 64 * (dd + 1); omega⟩ (nle rfl) ⟨by show 0 + mc ≤ mc; omega, by show 0 + ms ≤ ms; omega⟩ dL_out_4 ?_ ?_
  ·
    intro r_9 h_9 n_9 hq hn9
    obtain ⟨v9, hv9, rfl, ho9⟩ := hv r_9 h_9 n_9 hq
    show pwT E YL_out (tableOf [(0, 9, 12, 13)]) _ _ (0 + mc) (0 + ms) 7 [some (.ref b), some (.int (zI (i))), some (.ref o), none] [.int (zI (v9)), .int (zI (0)), .ref o] h_9 n_9
    refine pwT_zi2l dL_out_7 (by omega) ?_
    refine pwT_last (t := 2) (f := f) rfl ho9 (by omega) (by decide) dL_out_8 ?_
    refine pwT_goto (tgt := 15) dL_out_9 rfl ?_
    refine pwT_iconst (v := zI (0)) dL_out_15 (by decide) ?_
    exact pwT_iret dL_out_16 rfl (by show 0 + mc ≤ mc; omega) (by show 0 + ms ≤ ms; omega) (Or.inl ⟨v9, h_9, hq, hv9, rfl, rfl⟩)
  ·
    intro C h' n' hX hn9 p e s m args below meth c H locs L ls F d q ce w1 w2 w3
    rcases hx C h' n' hX with rfl
    · exact cx_catch1 (x := ⟨0, 9, 12, 13⟩) (pwTF_own F) (F.2.2.2.2.2.2.2.2.2.2.1.trans rfl) (by decide) (by decide) (pwTF_w F _ clL_13) (va_Nw.use (pw_N_tab _ czIO) ((pwTF_U F).2.2.2.2.1 _ czIO)) w1 w2 w3 (cx_hndn (Y := YL_out) (T := (tableOf [(0, 9, 12, 13)])) dL_out_12 dL_out_13 dL_out_14 (nlt rfl) rfl (by show 0 + mc ≤ mc; omega) (by show 0 + ms ≤ ms; omega) (Or.inr ⟨hX, rfl⟩) F d)
set_option maxHeartbeats 1000000 in
set_option maxRecDepth 100000 in
theorem wL_cell_ {E : pw_E} (htr : E.1.stackTraces = false) {h : pz_H} {n b dd mc ms : Nat} {o : Nat} {f : Nat → Int64} {fs : List Value} {x y ta : Int} {Qc : Option Value → pz_H → Nat → Prop} {Xc : String → pz_H → Nat → Prop} (hb : h b = pz_o 12 fs) (hM : pw_M E yX9_cell YX9_cell (rmD dd mc ms) [.ref b, .int (zI (x)), .int (zI (y)), .int (zI (ta))] h n Qc Xc) (hv : ∀ r h' n', Qc r h' n' → ∃ v : Int, (-2147483648 ≤ v ∧ v < 2147483648) ∧ r = some (.int (zI v)) ∧ h' o = pz_j 2 1 f) (hx : ∀ C h' n', Xc C h' n' → C = "java/lang/IndexOutOfBoundsException") : pw_MH E yL_cell_ YL_cell_ [(0, 12, 15, 13)] (rmD (dd + 1) mc ms) [.ref b, .int (zI (x)), .int (zI (y)), .int (zI (ta)), .ref o] h n (fun r0 h' n' => (∃ v h1, Qc (some (.int (zI v))) h1 n' ∧ (-2147483648 ≤ v ∧ v < 2147483648) ∧ r0 = some (.int (zI 0)) ∧ h' = va_up h1 o (pz_j 2 1 (vp_updL f (Int.toNat 0) (zL v)))) ∨ (Xc "java/lang/IndexOutOfBoundsException" h' n' ∧ r0 = some (.int (zI 1)))) (fun _ _ _ => False) := by
  refine pw_MH_of (lv := [some (.ref b), some (.int (zI (x))), some (.int (zI (y))), some (.int (zI (ta))), some (.ref o), none]) (by decide) rfl rfl htr (nle rfl) rfl (fun L => ?_)
  refine pwT_aload dL_cell__0 rfl ?_
  refine pwT_iconst (v := zI (0)) dL_cell__2 (by decide) ?_
  refine pwT_aload_n dL_cell__3 rfl ?_
  refine pwT_iload_n dL_cell__4 rfl ?_
  refine pwT_iload_n dL_cell__5 rfl ?_
  refine pwT_iload_n dL_cell__6 rfl ?_
  refine pwT_callV (As := [.int (zI (x)), .int (zI (y)), .int (zI (ta))]) (b := b) (rm := rmD dd mc ms) hM rfl hb rfl rfl ywX9_cell rfl cwL_45 ⟨by show dd + 1 ≤ dd + 1; omega, by show 8 + (5 + 11) + 64 * dd ≤ 64 * (dd + 1); omega⟩ (nle rfl) ⟨by show 0 + mc ≤ mc; omega, by show 0 + ms ≤ ms; omega⟩ dL_cell__7 ?_ ?_
  ·
    intro r_9 h_9 n_9 hq hn9
    obtain ⟨v9, hv9, rfl, ho9⟩ := hv r_9 h_9 n_9 hq
    show pwT E YL_cell_ (tableOf [(0, 12, 15, 13)]) _ _ (0 + mc) (0 + ms) 10 [some (.ref b), some (.int (zI (x))), some (.int (zI (y))), some (.int (zI (ta))), some (.ref o), none] [.int (zI (v9)), .int (zI (0)), .ref o] h_9 n_9
    refine pwT_zi2l dL_cell__10 (by omega) ?_
    refine pwT_last (t := 2) (f := f) rfl ho9 (by omega) (by decide) dL_cell__11 ?_
    refine pwT_goto (tgt := 19) dL_cell__12 rfl ?_
    refine pwT_iconst (v := zI (0)) dL_cell__19 (by decide) ?_
    exact pwT_iret dL_cell__20 rfl (by show 0 + mc ≤ mc; omega) (by show 0 + ms ≤ ms; omega) (Or.inl ⟨v9, h_9, hq, hv9, rfl, rfl⟩)
  ·
    intro C h' n' hX hn9 p e s m args below meth c H locs L ls F d q ce w1 w2 w3
    rcases hx C h' n' hX with rfl
    · exact cx_catch1 (x := ⟨0, 12, 15, 13⟩) (pwTF_own F) (F.2.2.2.2.2.2.2.2.2.2.1.trans rfl) (by decide) (by decide) (pwTF_w F _ clL_13) (va_Nw.use (pw_N_tab _ czIO) ((pwTF_U F).2.2.2.2.1 _ czIO)) w1 w2 w3 (cx_hnd (Y := YL_cell_) (T := (tableOf [(0, 12, 15, 13)])) dL_cell__15 dL_cell__17 dL_cell__18 (nlt rfl) rfl (by show 0 + mc ≤ mc; omega) (by show 0 + ms ≤ ms; omega) (Or.inr ⟨hX, rfl⟩) F d)
set_option maxHeartbeats 1000000 in
set_option maxRecDepth 100000 in
theorem wL_about {E : pw_E} (htr : E.1.stackTraces = false) {h : pz_H} {n b dd mc ms : Nat} {o : Nat} {f : Nat → Int64} {fs : List Value} {p k : Int} {Qc : Option Value → pz_H → Nat → Prop} {Xc : String → pz_H → Nat → Prop} (hb : h b = pz_o 12 fs) (hM : pw_M E yX9_about YX9_about (rmD dd mc ms) [.ref b, .int (zI (p)), .int (zI (k))] h n Qc Xc) (hv : ∀ r h' n', Qc r h' n' → ∃ v : Int, (-2147483648 ≤ v ∧ v < 2147483648) ∧ r = some (.int (zI v)) ∧ h' o = pz_j 2 1 f) (hx : ∀ C h' n', Xc C h' n' → C = "java/lang/IndexOutOfBoundsException" ∨ C = "java/lang/IllegalArgumentException") : pw_MH E yL_about YL_about [(0, 10, 13, 13), (0, 10, 17, 15)] (rmD (dd + 1) mc ms) [.ref b, .int (zI (p)), .int (zI (k)), .ref o] h n (fun r0 h' n' => (∃ v h1, Qc (some (.int (zI v))) h1 n' ∧ (-2147483648 ≤ v ∧ v < 2147483648) ∧ r0 = some (.int (zI 0)) ∧ h' = va_up h1 o (pz_j 2 1 (vp_updL f (Int.toNat 0) (zL v)))) ∨ (Xc "java/lang/IndexOutOfBoundsException" h' n' ∧ r0 = some (.int (zI 1))) ∨ (Xc "java/lang/IllegalArgumentException" h' n' ∧ r0 = some (.int (zI 2)))) (fun _ _ _ => False) := by
  refine pw_MH_of (lv := [some (.ref b), some (.int (zI (p))), some (.int (zI (k))), some (.ref o), none]) (by decide) rfl rfl htr (nle rfl) rfl (fun L => ?_)
  refine pwT_aload_n dL_about_0 rfl ?_
  refine pwT_iconst (v := zI (0)) dL_about_1 (by decide) ?_
  refine pwT_aload_n dL_about_2 rfl ?_
  refine pwT_iload_n dL_about_3 rfl ?_
  refine pwT_iload_n dL_about_4 rfl ?_
  refine pwT_callV (As := [.int (zI (p)), .int (zI (k))]) (b := b) (rm := rmD dd mc ms) hM rfl hb rfl rfl ywX9_about rfl cwL_49 ⟨by show dd + 1 ≤ dd + 1; omega, by show 8 + (5 + 11) + 64 * dd ≤ 64 * (dd + 1); omega⟩ (nle rfl) ⟨by show 0 + mc ≤ mc; omega, by show 0 + ms ≤ ms; omega⟩ dL_about_5 ?_ ?_
  ·
    intro r_9 h_9 n_9 hq hn9
    obtain ⟨v9, hv9, rfl, ho9⟩ := hv r_9 h_9 n_9 hq
    show pwT E YL_about (tableOf [(0, 10, 13, 13), (0, 10, 17, 15)]) _ _ (0 + mc) (0 + ms) 8 [some (.ref b), some (.int (zI (p))), some (.int (zI (k))), some (.ref o), none] [.int (zI (v9)), .int (zI (0)), .ref o] h_9 n_9
    refine pwT_zi2l dL_about_8 (by omega) ?_
    refine pwT_last (t := 2) (f := f) rfl ho9 (by omega) (by decide) dL_about_9 ?_
    refine pwT_goto (tgt := 21) dL_about_10 rfl ?_
    refine pwT_iconst (v := zI (0)) dL_about_21 (by decide) ?_
    exact pwT_iret dL_about_22 rfl (by show 0 + mc ≤ mc; omega) (by show 0 + ms ≤ ms; omega) (Or.inl ⟨v9, h_9, hq, hv9, rfl, rfl⟩)
  ·
    intro C h' n' hX hn9 p e s m args below meth c H locs L ls F d q ce w1 w2 w3
    rcases hx C h' n' hX with rfl | rfl
    · exact cx_catch1 (x := ⟨0, 10, 13, 13⟩) (pwTF_own F) (F.2.2.2.2.2.2.2.2.2.2.1.trans rfl) (by decide) (by decide) (pwTF_w F _ clL_13) (va_Nw.use (pw_N_tab _ czIO) ((pwTF_U F).2.2.2.2.1 _ czIO)) w1 w2 w3 (cx_hnd (Y := YL_about) (T := (tableOf [(0, 10, 13, 13), (0, 10, 17, 15)])) dL_about_13 dL_about_15 dL_about_16 (nlt rfl) rfl (by show 0 + mc ≤ mc; omega) (by show 0 + ms ≤ ms; omega) (Or.inr (Or.inl ⟨hX, rfl⟩)) F d)
    · exact cx_catch2 (y := ⟨0, 10, 13, 13⟩) (x := ⟨0, 10, 17, 15⟩) (pwTF_own F) (F.2.2.2.2.2.2.2.2.2.2.1.trans rfl) (by decide) (by decide) (by decide) (by decide) (pwTF_w F _ clL_13) F.2.2.2.2.2.2.2.2.2.2.2.1 (pwTF_w F _ clL_15) (va_Nw.use (pw_N_tab _ czIA) ((pwTF_U F).2.2.2.2.1 _ czIA)) w1 w2 w3 (cx_hnd (Y := YL_about) (T := (tableOf [(0, 10, 13, 13), (0, 10, 17, 15)])) dL_about_17 dL_about_19 dL_about_20 (nlt rfl) rfl (by show 0 + mc ≤ mc; omega) (by show 0 + ms ≤ ms; omega) (Or.inr (Or.inr ⟨hX, rfl⟩)) F d)
set_option maxHeartbeats 1000000 in
set_option maxRecDepth 100000 in
theorem wL_input {E : pw_E} (htr : E.1.stackTraces = false) {h : pz_H} {n b dd mc ms : Nat} {o : Nat} {f : Nat → Int64} {fs : List Value} {p i : Int} {Qc : Option Value → pz_H → Nat → Prop} {Xc : String → pz_H → Nat → Prop} (hb : h b = pz_o 12 fs) (hM : pw_M E yX9_input YX9_input (rmD dd mc ms) [.ref b, .int (zI (p)), .int (zI (i))] h n Qc Xc) (hv : ∀ r h' n', Qc r h' n' → ∃ v : Int, (-2147483648 ≤ v ∧ v < 2147483648) ∧ r = some (.int (zI v)) ∧ h' o = pz_j 2 1 f) (hx : ∀ C h' n', Xc C h' n' → C = "java/lang/IndexOutOfBoundsException") : pw_MH E yL_input YL_input [(0, 10, 13, 13)] (rmD (dd + 1) mc ms) [.ref b, .int (zI (p)), .int (zI (i)), .ref o] h n (fun r0 h' n' => (∃ v h1, Qc (some (.int (zI v))) h1 n' ∧ (-2147483648 ≤ v ∧ v < 2147483648) ∧ r0 = some (.int (zI 0)) ∧ h' = va_up h1 o (pz_j 2 1 (vp_updL f (Int.toNat 0) (zL v)))) ∨ (Xc "java/lang/IndexOutOfBoundsException" h' n' ∧ r0 = some (.int (zI 1)))) (fun _ _ _ => False) := by
  refine pw_MH_of (lv := [some (.ref b), some (.int (zI (p))), some (.int (zI (i))), some (.ref o), none]) (by decide) rfl rfl htr (nle rfl) rfl (fun L => ?_)
  refine pwT_aload_n dL_input_0 rfl ?_
  refine pwT_iconst (v := zI (0)) dL_input_1 (by decide) ?_
  refine pwT_aload_n dL_input_2 rfl ?_
  refine pwT_iload_n dL_input_3 rfl ?_
  refine pwT_iload_n dL_input_4 rfl ?_
  refine pwT_callV (As := [.int (zI (p)), .int (zI (i))]) (b := b) (rm := rmD dd mc ms) hM rfl hb rfl rfl ywX9_input rfl cwL_53 ⟨by show dd + 1 ≤ dd + 1; omega, by show 8 + (4 + 11) + 64 * dd ≤ 64 * (dd + 1); omega⟩ (nle rfl) ⟨by show 0 + mc ≤ mc; omega, by show 0 + ms ≤ ms; omega⟩ dL_input_5 ?_ ?_
  ·
    intro r_9 h_9 n_9 hq hn9
    obtain ⟨v9, hv9, rfl, ho9⟩ := hv r_9 h_9 n_9 hq
    show pwT E YL_input (tableOf [(0, 10, 13, 13)]) _ _ (0 + mc) (0 + ms) 8 [some (.ref b), some (.int (zI (p))), some (.int (zI (i))), some (.ref o), none] [.int (zI (v9)), .int (zI (0)), .ref o] h_9 n_9
    refine pwT_zi2l dL_input_8 (by omega) ?_
    refine pwT_last (t := 2) (f := f) rfl ho9 (by omega) (by decide) dL_input_9 ?_
    refine pwT_goto (tgt := 17) dL_input_10 rfl ?_
    refine pwT_iconst (v := zI (0)) dL_input_17 (by decide) ?_
    exact pwT_iret dL_input_18 rfl (by show 0 + mc ≤ mc; omega) (by show 0 + ms ≤ ms; omega) (Or.inl ⟨v9, h_9, hq, hv9, rfl, rfl⟩)
  ·
    intro C h' n' hX hn9 p e s m args below meth c H locs L ls F d q ce w1 w2 w3
    rcases hx C h' n' hX with rfl
    · exact cx_catch1 (x := ⟨0, 10, 13, 13⟩) (pwTF_own F) (F.2.2.2.2.2.2.2.2.2.2.1.trans rfl) (by decide) (by decide) (pwTF_w F _ clL_13) (va_Nw.use (pw_N_tab _ czIO) ((pwTF_U F).2.2.2.2.1 _ czIO)) w1 w2 w3 (cx_hnd (Y := YL_input) (T := (tableOf [(0, 10, 13, 13)])) dL_input_13 dL_input_15 dL_input_16 (nlt rfl) rfl (by show 0 + mc ≤ mc; omega) (by show 0 + ms ≤ ms; omega) (Or.inr ⟨hX, rfl⟩) F d)
set_option maxHeartbeats 1000000 in
set_option maxRecDepth 100000 in
theorem wL_copied {E : pw_E} (htr : E.1.stackTraces = false) {h : pz_H} {n b dd mc ms : Nat} {o : Nat} {f : Nat → Int64} {fs : List Value} {i : Int} {Qc : Option Value → pz_H → Nat → Prop} {Xc : String → pz_H → Nat → Prop} (hb : h b = pz_o 12 fs) (hM : pw_M E yX9_copied YX9_copied (rmD dd mc ms) [.ref b, .int (zI (i))] h n Qc Xc) (hv : ∀ r h' n', Qc r h' n' → ∃ v : Int, (-2147483648 ≤ v ∧ v < 2147483648) ∧ r = some (.int (zI v)) ∧ h' o = pz_j 2 1 f) (hx : ∀ C h' n', Xc C h' n' → C = "java/lang/IndexOutOfBoundsException") : pw_MH E yL_copied YL_copied [(0, 9, 12, 13)] (rmD (dd + 1) mc ms) [.ref b, .int (zI (i)), .ref o] h n (fun r0 h' n' => (∃ v h1, Qc (some (.int (zI v))) h1 n' ∧ (-2147483648 ≤ v ∧ v < 2147483648) ∧ r0 = some (.int (zI 0)) ∧ h' = va_up h1 o (pz_j 2 1 (vp_updL f (Int.toNat 0) (zL v)))) ∨ (Xc "java/lang/IndexOutOfBoundsException" h' n' ∧ r0 = some (.int (zI 1)))) (fun _ _ _ => False) := by
  refine pw_MH_of (lv := [some (.ref b), some (.int (zI (i))), some (.ref o), none]) (by decide) rfl rfl htr (nle rfl) rfl (fun L => ?_)
  refine pwT_aload_n dL_copied_0 rfl ?_
  refine pwT_iconst (v := zI (0)) dL_copied_1 (by decide) ?_
  refine pwT_aload_n dL_copied_2 rfl ?_
  refine pwT_iload_n dL_copied_3 rfl ?_
  refine pwT_callV (As := [.int (zI (i))]) (b := b) (rm := rmD dd mc ms) hM rfl hb rfl rfl ywX9_copied rfl cwL_56 ⟨by show dd + 1 ≤ dd + 1; omega, by show 8 + (2 + 11) + 64 * dd ≤ 64 * (dd + 1); omega⟩ (nle rfl) ⟨by show 0 + mc ≤ mc; omega, by show 0 + ms ≤ ms; omega⟩ dL_copied_4 ?_ ?_
  ·
    intro r_9 h_9 n_9 hq hn9
    obtain ⟨v9, hv9, rfl, ho9⟩ := hv r_9 h_9 n_9 hq
    show pwT E YL_copied (tableOf [(0, 9, 12, 13)]) _ _ (0 + mc) (0 + ms) 7 [some (.ref b), some (.int (zI (i))), some (.ref o), none] [.int (zI (v9)), .int (zI (0)), .ref o] h_9 n_9
    refine pwT_zi2l dL_copied_7 (by omega) ?_
    refine pwT_last (t := 2) (f := f) rfl ho9 (by omega) (by decide) dL_copied_8 ?_
    refine pwT_goto (tgt := 15) dL_copied_9 rfl ?_
    refine pwT_iconst (v := zI (0)) dL_copied_15 (by decide) ?_
    exact pwT_iret dL_copied_16 rfl (by show 0 + mc ≤ mc; omega) (by show 0 + ms ≤ ms; omega) (Or.inl ⟨v9, h_9, hq, hv9, rfl, rfl⟩)
  ·
    intro C h' n' hX hn9 p e s m args below meth c H locs L ls F d q ce w1 w2 w3
    rcases hx C h' n' hX with rfl
    · exact cx_catch1 (x := ⟨0, 9, 12, 13⟩) (pwTF_own F) (F.2.2.2.2.2.2.2.2.2.2.1.trans rfl) (by decide) (by decide) (pwTF_w F _ clL_13) (va_Nw.use (pw_N_tab _ czIO) ((pwTF_U F).2.2.2.2.1 _ czIO)) w1 w2 w3 (cx_hndn (Y := YL_copied) (T := (tableOf [(0, 9, 12, 13)])) dL_copied_12 dL_copied_13 dL_copied_14 (nlt rfl) rfl (by show 0 + mc ≤ mc; omega) (by show 0 + ms ≤ ms; omega) (Or.inr ⟨hX, rfl⟩) F d)
set_option maxHeartbeats 1000000 in
set_option maxRecDepth 100000 in
theorem wL_count {E : pw_E} (htr : E.1.stackTraces = false) {h : pz_H} {n b dd mc ms : Nat} {o : Nat} {f : Nat → Int64} {fs : List Value} {k : Int} {Qc : Option Value → pz_H → Nat → Prop} {Xc : String → pz_H → Nat → Prop} (hb : h b = pz_o 12 fs) (hM : pw_M E yX9_count YX9_count (rmD dd mc ms) [.ref b, .int (zI (k))] h n Qc Xc) (hv : ∀ r h' n', Qc r h' n' → ∃ v : Int, (-2147483648 ≤ v ∧ v < 2147483648) ∧ r = some (.int (zI v)) ∧ h' o = pz_j 2 1 f) (hx : ∀ C h' n', Xc C h' n' → C = "java/lang/IllegalArgumentException") : pw_MH E yL_count YL_count [(0, 9, 12, 15)] (rmD (dd + 1) mc ms) [.ref b, .int (zI (k)), .ref o] h n (fun r0 h' n' => (∃ v h1, Qc (some (.int (zI v))) h1 n' ∧ (-2147483648 ≤ v ∧ v < 2147483648) ∧ r0 = some (.int (zI 0)) ∧ h' = va_up h1 o (pz_j 2 1 (vp_updL f (Int.toNat 0) (zL v)))) ∨ (Xc "java/lang/IllegalArgumentException" h' n' ∧ r0 = some (.int (zI 1)))) (fun _ _ _ => False) := by
  refine pw_MH_of (lv := [some (.ref b), some (.int (zI (k))), some (.ref o), none]) (by decide) rfl rfl htr (nle rfl) rfl (fun L => ?_)
  refine pwT_aload_n dL_count_0 rfl ?_
  refine pwT_iconst (v := zI (0)) dL_count_1 (by decide) ?_
  refine pwT_aload_n dL_count_2 rfl ?_
  refine pwT_iload_n dL_count_3 rfl ?_
  refine pwT_callV (As := [.int (zI (k))]) (b := b) (rm := rmD dd mc ms) hM rfl hb rfl rfl ywX9_count rfl cwL_59 ⟨by show dd + 1 ≤ dd + 1; omega, by show 8 + (2 + 11) + 64 * dd ≤ 64 * (dd + 1); omega⟩ (nle rfl) ⟨by show 0 + mc ≤ mc; omega, by show 0 + ms ≤ ms; omega⟩ dL_count_4 ?_ ?_
  ·
    intro r_9 h_9 n_9 hq hn9
    obtain ⟨v9, hv9, rfl, ho9⟩ := hv r_9 h_9 n_9 hq
    show pwT E YL_count (tableOf [(0, 9, 12, 15)]) _ _ (0 + mc) (0 + ms) 7 [some (.ref b), some (.int (zI (k))), some (.ref o), none] [.int (zI (v9)), .int (zI (0)), .ref o] h_9 n_9
    refine pwT_zi2l dL_count_7 (by omega) ?_
    refine pwT_last (t := 2) (f := f) rfl ho9 (by omega) (by decide) dL_count_8 ?_
    refine pwT_goto (tgt := 15) dL_count_9 rfl ?_
    refine pwT_iconst (v := zI (0)) dL_count_15 (by decide) ?_
    exact pwT_iret dL_count_16 rfl (by show 0 + mc ≤ mc; omega) (by show 0 + ms ≤ ms; omega) (Or.inl ⟨v9, h_9, hq, hv9, rfl, rfl⟩)
  ·
    intro C h' n' hX hn9 p e s m args below meth c H locs L ls F d q ce w1 w2 w3
    rcases hx C h' n' hX with rfl
    · exact cx_catch1 (x := ⟨0, 9, 12, 15⟩) (pwTF_own F) (F.2.2.2.2.2.2.2.2.2.2.1.trans rfl) (by decide) (by decide) (pwTF_w F _ clL_15) (va_Nw.use (pw_N_tab _ czIA) ((pwTF_U F).2.2.2.2.1 _ czIA)) w1 w2 w3 (cx_hndn (Y := YL_count) (T := (tableOf [(0, 9, 12, 15)])) dL_count_12 dL_count_13 dL_count_14 (nlt rfl) rfl (by show 0 + mc ≤ mc; omega) (by show 0 + ms ≤ ms; omega) (Or.inr ⟨hX, rfl⟩) F d)
