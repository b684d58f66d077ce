/-! RangePropagator: analysis and execution: laid by wip/gen/specs14.py -/
set_option maxHeartbeats 4000000 in
set_option maxRecDepth 100000 in
theorem k_X8_isReachable (l : Launch) (hflag : l.stackTraces = false) (D : va_G) (ad : Nat → Nat) (cs : Nat → ClassId) (sz : Nat) (M : wM) (J : wJ) (b : Int32) (cnt : Nat) (hn : M 330 2 = nI cnt) (hn16 : cnt ≤ 16) : wXi l yX8_isReachable wsX8_isReachable { frames := 7, cells := 2, slots := 12, locals := 121 } D 340 cSh ad cs [.ref (ad 329), .int b] sz M J 2 12 (fun r_ u_ => ¬ M 329 4 = 0 ∧ inB b cnt ∧ u_ = (M, J) ∧ r_ = (if M (3 * (3 + 4 * tn b)) 0 = 0 then nI 1 else nI 0)) (fun E_ => (E_ = xIS ∧ M 329 4 = 0) ∨ (E_ = xIX ∧ ¬ M 329 4 = 0 ∧ ¬ inB b cnt)) := by
  refine wX_i (cc := cX8_isReachable) (maxL := 2) (ret := (some .boolean)) (by decide) rfl (Nat.le_of_ble_eq_true rfl) ?_
  intro p e s m below meth c ls A hx hb hr hml hown hts hlocks hK hA hw hl hAe hZ hout
  clear hAe
  have hl : lv_has ls 2 [(0, .ref (ad 329)), (1, .int b)] := hl
  have f26 : (Cond.fieldLink RX8 26 "RangePropagato\x72" "analysis" "LRangePropagator$Analysis;").before _ s = true := hts _ (by decide +kernel)
  have iX8 : ∀ w ∈ wsX80, w ∈ wsX8_isReachable := by decide +kernel
  have f152 : (Cond.fieldLink RX8 152 "RangePropagator$Analysis" "flows" "[LRangePropagator$Flow;").before _ s = true := hts _ (by decide +kernel)
  have iX0 : ∀ w ∈ wsX00, w ∈ wsX8_isReachable := by decide +kernel
  have f156 : (Cond.fieldLink RX8 156 "RangePropagator$Flow" "entryState" "LRangePropagator$State;").before _ s = true := hts _ (by decide +kernel)
  have iX4 : ∀ w ∈ wsX40, w ∈ wsX8_isReachable := by decide +kernel
  have f161 : (Cond.fieldLink RX8 161 "RangePropagator$State" "isNone" "Z").before _ s = true := hts _ (by decide +kernel)
  have iX7 : ∀ w ∈ wsX70, w ∈ wsX8_isReachable := by decide +kernel
  refine lv_aload_n hx hb dX8_isReachable_0 rfl (lv_at hl 0 rfl) ?_
  refine wr_xVv (k := 329) (ci := 7) (As := []) (rest := []) ⟨hx, hb, hml, hown, hts⟩ (cwV 0 hts gX8_isReachable_X8_requireAnalysis rfl rfl rfl (by decide +kernel) ⟨Nat.le_of_ble_eq_true rfl, Nat.le_of_ble_eq_true rfl⟩) hK hA hZ hw (k_X8_requireAnalysis l hflag D ad cs s.heap.size M J  ) (by omega) cs_X rfl rfl rfl hl.1 (Nat.le_of_ble_eq_true rfl) ⟨Nat.le_of_ble_eq_true rfl, Nat.le_of_ble_eq_true rfl⟩ dX8_isReachable_1 hout hlocks (fun E z => Or.inl z) ⟨Nat.le_of_ble_eq_true rfl, Nat.le_of_ble_eq_true rfl⟩ (fun M2 J3 H locs h4 hw => ?_)
  obtain ⟨h4u, hst9⟩ := h4
  cases h4u
  refine lv_aload_n hx hb dX8_isReachable_4 rfl (lv_at hl 0 rfl) ?_
  refine lv_iload_n hx hb dX8_isReachable_5 rfl (lv_at hl 1 rfl) ?_
  refine wr_xVv (k := 329) (ci := 7) (As := [.int b]) (rest := []) ⟨hx, hb, hml, hown, hts⟩ (cwV 1 hts gX8_isReachable_X8_requireBlock rfl rfl rfl (by decide +kernel) ⟨Nat.le_of_ble_eq_true rfl, Nat.le_of_ble_eq_true rfl⟩) hK hA hZ hw (k_X8_requireBlock l hflag D ad cs H.size M J b cnt hn hn16) (by omega) cs_X rfl rfl rfl hl.1 (Nat.le_of_ble_eq_true rfl) ⟨Nat.le_of_ble_eq_true rfl, Nat.le_of_ble_eq_true rfl⟩ dX8_isReachable_6 hout hlocks (fun E z => Or.inr ⟨z.1, hst9, z.2⟩) ⟨Nat.le_of_ble_eq_true rfl, Nat.le_of_ble_eq_true rfl⟩ (fun M6 J7 H locs h8 hw => ?_)
  obtain ⟨h8u, h8i⟩ := h8
  cases h8u
  obtain ⟨b_n, b_h, rfl⟩ := h8i
  refine lv_aload_n hx hb dX8_isReachable_9 rfl (lv_at hl 0 rfl) ?_
  refine wr_gr hx hb hown hK hts iX8 (ci := 7) rfl 2 (by decide) f26 rfl hw 329 (by omega) 334 cs_X rfl dX8_isReachable_10 ?_
  refine wr_gr hx hb hown hK hts iX0 (ci := 0) rfl 0 (by decide) f152 rfl hw 334 (by omega) 335 cs_A rfl dX8_isReachable_13 ?_
  refine lv_iload_n hx hb dX8_isReachable_16 rfl (lv_at hl 1 rfl) ?_
  refine wr_aldN hx hb hK hw 335 (by omega) cs_AF rfl (by decide) b_n rfl (by omega) dX8_isReachable_17 ?_
  refine wr_gr hx hb hown hK hts iX4 (ci := 3) rfl 0 (by decide) f156 rfl hw (297 + 2 * b_n) (by omega) (3 * (3 + 4 * b_n)) (cs_F (by omega)) rfl dX8_isReachable_18 ?_
  refine wr_gi hx hb hown hK hts iX7 (ci := 6) rfl 0 (by decide) f161 rfl hw (3 * (3 + 4 * b_n)) (by omega) (cs_S (by omega)) rfl dX8_isReachable_21 ?_
  refine lv_if_ne (tgt := 31) hx hb dX8_isReachable_24 (by decide) (fun q9 => ?_) (fun q9 => ?_)
  · skip
    refine lv_iconst (v := nI 0) hx hb dX8_isReachable_31 (by decide) ?_
    exact vx_ret (W.widen (k := 2) (n := 12) (Nat.le_of_ble_eq_true rfl) (Nat.le_of_ble_eq_true rfl) (wr_iret hx hb hr (by decide) hK hw ⟨hst9, ⟨b_n, b_h, rfl⟩, rfl, (by rw [tn_nI (by omega), if_neg q9])⟩ hlocks dX8_isReachable_32))
  · skip
    refine lv_iconst (v := nI 1) hx hb dX8_isReachable_27 (by decide) ?_
    refine lv_goto (tgt := 32) hx hb dX8_isReachable_28 (by decide) ?_
    exact vx_ret (W.widen (k := 2) (n := 12) (Nat.le_of_ble_eq_true rfl) (Nat.le_of_ble_eq_true rfl) (wr_iret hx hb hr (by decide) hK hw ⟨hst9, ⟨b_n, b_h, rfl⟩, rfl, (by rw [tn_nI (by omega), if_pos q9])⟩ hlocks dX8_isReachable_32))
set_option maxHeartbeats 4000000 in
set_option maxRecDepth 100000 in
theorem k_X8_entry (l : Launch) (hflag : l.stackTraces = false) (D : va_G) (ad : Nat → Nat) (cs : Nat → ClassId) (sz : Nat) (M : wM) (J : wJ) (b : Int32) (v : Int32) (h : Int32) (cnt : Nat) (hn : M 330 2 = nI cnt) (hn16 : cnt ≤ 16) : wXi l yX8_entry wsX8_entry { frames := 7, cells := 4, slots := 24, locals := 122 } D 340 cSh ad cs [.ref (ad 329), .int b, .int v, .int h] sz M J 4 24 (fun r_ u_ => ¬ M 329 4 = 0 ∧ inB b cnt ∧ inB v 6 ∧ M (3 * (3 + 4 * tn b)) 0 = 0 ∧ u_ = (M, J) ∧ r_ = (if h = 0 then M (3 * (3 + 4 * tn b) + 1) (tn v) else M (3 * (3 + 4 * tn b) + 2) (tn v))) (fun E_ => (E_ = xIS ∧ M 329 4 = 0) ∨ (E_ = xIX ∧ ¬ M 329 4 = 0 ∧ ¬ (inB b cnt ∧ inB v 6)) ∨ (E_ = xNE ∧ ¬ M 329 4 = 0 ∧ inB b cnt ∧ inB v 6 ∧ ¬ M (3 * (3 + 4 * tn b)) 0 = 0)) := by
  refine wX_i (cc := cX8_entry) (maxL := 4) (ret := (some .int)) (by decide) rfl (Nat.le_of_ble_eq_true rfl) ?_
  intro p e s m below meth c ls A hx hb hr hml hown hts hlocks hK hA hw hl hAe hZ hout
  clear hAe
  have hl : lv_has ls 4 [(0, .ref (ad 329)), (1, .int b), (2, .int v), (3, .int h)] := hl
  have f26 : (Cond.fieldLink RX8 26 "RangePropagato\x72" "analysis" "LRangePropagator$Analysis;").before _ s = true := hts _ (by decide +kernel)
  have iX8 : ∀ w ∈ wsX80, w ∈ wsX8_entry := by decide +kernel
  have f152 : (Cond.fieldLink RX8 152 "RangePropagator$Analysis" "flows" "[LRangePropagator$Flow;").before _ s = true := hts _ (by decide +kernel)
  have iX0 : ∀ w ∈ wsX00, w ∈ wsX8_entry := by decide +kernel
  have f156 : (Cond.fieldLink RX8 156 "RangePropagator$Flow" "entryState" "LRangePropagator$State;").before _ s = true := hts _ (by decide +kernel)
  have iX4 : ∀ w ∈ wsX40, w ∈ wsX8_entry := by decide +kernel
  refine lv_aload_n hx hb dX8_entry_0 rfl (lv_at hl 0 rfl) ?_
  refine wr_xVv (k := 329) (ci := 7) (As := []) (rest := []) ⟨hx, hb, hml, hown, hts⟩ (cwV 0 hts gX8_entry_X8_requireAnalysis rfl rfl rfl (by decide +kernel) ⟨Nat.le_of_ble_eq_true rfl, Nat.le_of_ble_eq_true rfl⟩) hK hA hZ hw (k_X8_requireAnalysis l hflag D ad cs s.heap.size M J  ) (by omega) cs_X rfl rfl rfl hl.1 (Nat.le_of_ble_eq_true rfl) ⟨Nat.le_of_ble_eq_true rfl, Nat.le_of_ble_eq_true rfl⟩ dX8_entry_1 hout hlocks (fun E z => Or.inl z) ⟨Nat.le_of_ble_eq_true rfl, Nat.le_of_ble_eq_true rfl⟩ (fun M2 J3 H locs h4 hw => ?_)
  obtain ⟨h4u, hst9⟩ := h4
  cases h4u
  refine lv_aload_n hx hb dX8_entry_4 rfl (lv_at hl 0 rfl) ?_
  refine lv_iload_n hx hb dX8_entry_5 rfl (lv_at hl 1 rfl) ?_
  refine wr_xVv (k := 329) (ci := 7) (As := [.int b]) (rest := []) ⟨hx, hb, hml, hown, hts⟩ (cwV 1 hts gX8_entry_X8_requireBlock rfl rfl rfl (by decide +kernel) ⟨Nat.le_of_ble_eq_true rfl, Nat.le_of_ble_eq_true rfl⟩) hK hA hZ hw (k_X8_requireBlock l hflag D ad cs H.size M J b cnt hn hn16) (by omega) cs_X rfl rfl rfl hl.1 (Nat.le_of_ble_eq_true rfl) ⟨Nat.le_of_ble_eq_true rfl, Nat.le_of_ble_eq_true rfl⟩ dX8_entry_6 hout hlocks (fun E z => Or.inr (Or.inl ⟨z.1, hst9, fun y => z.2 y.1⟩)) ⟨Nat.le_of_ble_eq_true rfl, Nat.le_of_ble_eq_true rfl⟩ (fun M6 J7 H locs h8 hw => ?_)
  obtain ⟨h8u, h8i⟩ := h8
  cases h8u
  obtain ⟨b_n, b_h, rfl⟩ := h8i
  refine lv_iload_n hx hb dX8_entry_9 rfl (lv_at hl 2 rfl) ?_
  refine wr_xSv (As := [.int v]) (rest := []) ⟨hx, hb, hml, hown, hts⟩ (va_cwS 1 hts gX8_entry_X8_requireVariable rfl rfl rfl (by decide +kernel) ⟨Nat.le_of_ble_eq_true rfl, Nat.le_of_ble_eq_true rfl⟩) hK hA hZ hw (k_X8_requireVariable l hflag D ad cs H.size M J v ) rfl rfl hl.1 (Nat.le_of_ble_eq_true rfl) ⟨Nat.le_of_ble_eq_true rfl, Nat.le_of_ble_eq_true rfl⟩ dX8_entry_10 hout hlocks (fun E z => Or.inr (Or.inl ⟨z.1, hst9, fun y => z.2 y.2⟩)) ⟨Nat.le_of_ble_eq_true rfl, Nat.le_of_ble_eq_true rfl⟩ (fun M10 J11 H locs h12 hw => ?_)
  obtain ⟨h12u, h12i⟩ := h12
  cases h12u
  obtain ⟨v_n, v_h, rfl⟩ := h12i
  refine lv_aload_n hx hb dX8_entry_13 rfl (lv_at hl 0 rfl) ?_
  refine wr_gr hx hb hown hK hts iX8 (ci := 7) rfl 2 (by decide) f26 rfl hw 329 (by omega) 334 cs_X rfl dX8_entry_14 ?_
  refine wr_gr hx hb hown hK hts iX0 (ci := 0) rfl 0 (by decide) f152 rfl hw 334 (by omega) 335 cs_A rfl dX8_entry_17 ?_
  refine lv_iload_n hx hb dX8_entry_20 rfl (lv_at hl 1 rfl) ?_
  refine wr_aldN hx hb hK hw 335 (by omega) cs_AF rfl (by decide) b_n rfl (by omega) dX8_entry_21 ?_
  refine wr_gr hx hb hown hK hts iX4 (ci := 3) rfl 0 (by decide) f156 rfl hw (297 + 2 * b_n) (by omega) (3 * (3 + 4 * b_n)) (cs_F (by omega)) rfl dX8_entry_22 ?_
  refine lv_iload_n hx hb dX8_entry_25 rfl (lv_at hl 2 rfl) ?_
  refine lv_iload_n hx hb dX8_entry_26 rfl (lv_at hl 3 rfl) ?_
  refine wr_xSi (As := [.ref (ad (3 * (3 + 4 * b_n))), .int (nI v_n), .int h]) (rest := []) ⟨hx, hb, hml, hown, hts⟩ (va_cwS 3 hts gX8_entry_X8_endOfRange rfl rfl rfl (by decide +kernel) ⟨Nat.le_of_ble_eq_true rfl, Nat.le_of_ble_eq_true rfl⟩) hK hA hZ hw (k_X8_endOfRange l hflag D ad cs H.size M J (3 + 4 * b_n) v_n h (by omega) (by omega)) rfl rfl hl.1 (Nat.le_of_ble_eq_true rfl) ⟨Nat.le_of_ble_eq_true rfl, Nat.le_of_ble_eq_true rfl⟩ dX8_entry_27 hout hlocks (fun E z => Or.inr (Or.inr ⟨z.1, hst9, ⟨b_n, b_h, rfl⟩, ⟨v_n, v_h, rfl⟩, (by rw [tn_nI (by omega)]; exact z.2)⟩)) ⟨Nat.le_of_ble_eq_true rfl, Nat.le_of_ble_eq_true rfl⟩ (fun r13 M14 J15 H locs h16 hw => ?_)
  obtain ⟨h16u, h16z, h16r⟩ := h16
  cases h16u
  exact vx_ret (W.widen (k := 4) (n := 24) (Nat.le_of_ble_eq_true rfl) (Nat.le_of_ble_eq_true rfl) (wr_iret hx hb hr rfl hK hw ⟨hst9, ⟨b_n, b_h, rfl⟩, ⟨v_n, v_h, rfl⟩, (by rw [tn_nI (by omega)]; exact h16z), rfl, (by rw [tn_nI (by omega), tn_nI (by omega)]; exact h16r)⟩ hlocks dX8_entry_30))
set_option maxHeartbeats 4000000 in
set_option maxRecDepth 100000 in
theorem k_X8_exit (l : Launch) (hflag : l.stackTraces = false) (D : va_G) (ad : Nat → Nat) (cs : Nat → ClassId) (sz : Nat) (M : wM) (J : wJ) (b : Int32) (v : Int32) (h : Int32) (cnt : Nat) (hn : M 330 2 = nI cnt) (hn16 : cnt ≤ 16) : wXi l yX8_exit wsX8_exit { frames := 7, cells := 4, slots := 24, locals := 122 } D 340 cSh ad cs [.ref (ad 329), .int b, .int v, .int h] sz M J 4 24 (fun r_ u_ => ¬ M 329 4 = 0 ∧ inB b cnt ∧ inB v 6 ∧ M (3 * (4 + 4 * tn b)) 0 = 0 ∧ u_ = (M, J) ∧ r_ = (if h = 0 then M (3 * (4 + 4 * tn b) + 1) (tn v) else M (3 * (4 + 4 * tn b) + 2) (tn v))) (fun E_ => (E_ = xIS ∧ M 329 4 = 0) ∨ (E_ = xIX ∧ ¬ M 329 4 = 0 ∧ ¬ (inB b cnt ∧ inB v 6)) ∨ (E_ = xNE ∧ ¬ M 329 4 = 0 ∧ inB b cnt ∧ inB v 6 ∧ ¬ M (3 * (4 + 4 * tn b)) 0 = 0)) := by
  refine wX_i (cc := cX8_exit) (maxL := 4) (ret := (some .int)) (by decide) rfl (Nat.le_of_ble_eq_true rfl) ?_
  intro p e s m below meth c ls A hx hb hr hml hown hts hlocks hK hA hw hl hAe hZ hout
  clear hAe
  have hl : lv_has ls 4 [(0, .ref (ad 329)), (1, .int b), (2, .int v), (3, .int h)] := hl
  have f26 : (Cond.fieldLink RX8 26 "RangePropagato\x72" "analysis" "LRangePropagator$Analysis;").before _ s = true := hts _ (by decide +kernel)
  have iX8 : ∀ w ∈ wsX80, w ∈ wsX8_exit := by decide +kernel
  have f152 : (Cond.fieldLink RX8 152 "RangePropagator$Analysis" "flows" "[LRangePropagator$Flow;").before _ s = true := hts _ (by decide +kernel)
  have iX0 : ∀ w ∈ wsX00, w ∈ wsX8_exit := by decide +kernel
  have f168 : (Cond.fieldLink RX8 168 "RangePropagator$Flow" "exitState" "LRangePropagator$State;").before _ s = true := hts _ (by decide +kernel)
  have iX4 : ∀ w ∈ wsX40, w ∈ wsX8_exit := by decide +kernel
  refine lv_aload_n hx hb dX8_exit_0 rfl (lv_at hl 0 rfl) ?_
  refine wr_xVv (k := 329) (ci := 7) (As := []) (rest := []) ⟨hx, hb, hml, hown, hts⟩ (cwV 0 hts gX8_exit_X8_requireAnalysis rfl rfl rfl (by decide +kernel) ⟨Nat.le_of_ble_eq_true rfl, Nat.le_of_ble_eq_true rfl⟩) hK hA hZ hw (k_X8_requireAnalysis l hflag D ad cs s.heap.size M J  ) (by omega) cs_X rfl rfl rfl hl.1 (Nat.le_of_ble_eq_true rfl) ⟨Nat.le_of_ble_eq_true rfl, Nat.le_of_ble_eq_true rfl⟩ dX8_exit_1 hout hlocks (fun E z => Or.inl z) ⟨Nat.le_of_ble_eq_true rfl, Nat.le_of_ble_eq_true rfl⟩ (fun M2 J3 H locs h4 hw => ?_)
  obtain ⟨h4u, hst9⟩ := h4
  cases h4u
  refine lv_aload_n hx hb dX8_exit_4 rfl (lv_at hl 0 rfl) ?_
  refine lv_iload_n hx hb dX8_exit_5 rfl (lv_at hl 1 rfl) ?_
  refine wr_xVv (k := 329) (ci := 7) (As := [.int b]) (rest := []) ⟨hx, hb, hml, hown, hts⟩ (cwV 1 hts gX8_exit_X8_requireBlock rfl rfl rfl (by decide +kernel) ⟨Nat.le_of_ble_eq_true rfl, Nat.le_of_ble_eq_true rfl⟩) hK hA hZ hw (k_X8_requireBlock l hflag D ad cs H.size M J b cnt hn hn16) (by omega) cs_X rfl rfl rfl hl.1 (Nat.le_of_ble_eq_true rfl) ⟨Nat.le_of_ble_eq_true rfl, Nat.le_of_ble_eq_true rfl⟩ dX8_exit_6 hout hlocks (fun E z => Or.inr (Or.inl ⟨z.1, hst9, fun y => z.2 y.1⟩)) ⟨Nat.le_of_ble_eq_true rfl, Nat.le_of_ble_eq_true rfl⟩ (fun M6 J7 H locs h8 hw => ?_)
  obtain ⟨h8u, h8i⟩ := h8
  cases h8u
  obtain ⟨b_n, b_h, rfl⟩ := h8i
  refine lv_iload_n hx hb dX8_exit_9 rfl (lv_at hl 2 rfl) ?_
  refine wr_xSv (As := [.int v]) (rest := []) ⟨hx, hb, hml, hown, hts⟩ (va_cwS 1 hts gX8_exit_X8_requireVariable rfl rfl rfl (by decide +kernel) ⟨Nat.le_of_ble_eq_true rfl, Nat.le_of_ble_eq_true rfl⟩) hK hA hZ hw (k_X8_requireVariable l hflag D ad cs H.size M J v ) rfl rfl hl.1 (Nat.le_of_ble_eq_true rfl) ⟨Nat.le_of_ble_eq_true rfl, Nat.le_of_ble_eq_true rfl⟩ dX8_exit_10 hout hlocks (fun E z => Or.inr (Or.inl ⟨z.1, hst9, fun y => z.2 y.2⟩)) ⟨Nat.le_of_ble_eq_true rfl, Nat.le_of_ble_eq_true rfl⟩ (fun M10 J11 H locs h12 hw => ?_)
  obtain ⟨h12u, h12i⟩ := h12
  cases h12u
  obtain ⟨v_n, v_h, rfl⟩ := h12i
  refine lv_aload_n hx hb dX8_exit_13 rfl (lv_at hl 0 rfl) ?_
  refine wr_gr hx hb hown hK hts iX8 (ci := 7) rfl 2 (by decide) f26 rfl hw 329 (by omega) 334 cs_X rfl dX8_exit_14 ?_
  refine wr_gr hx hb hown hK hts iX0 (ci := 0) rfl 0 (by decide) f152 rfl hw 334 (by omega) 335 cs_A rfl dX8_exit_17 ?_
  refine lv_iload_n hx hb dX8_exit_20 rfl (lv_at hl 1 rfl) ?_
  refine wr_aldN hx hb hK hw 335 (by omega) cs_AF rfl (by decide) b_n rfl (by omega) dX8_exit_21 ?_
  refine wr_gr hx hb hown hK hts iX4 (ci := 3) rfl 1 (by decide) f168 rfl hw (297 + 2 * b_n) (by omega) (3 * (4 + 4 * b_n)) (cs_F (by omega)) rfl dX8_exit_22 ?_
  refine lv_iload_n hx hb dX8_exit_25 rfl (lv_at hl 2 rfl) ?_
  refine lv_iload_n hx hb dX8_exit_26 rfl (lv_at hl 3 rfl) ?_
  refine wr_xSi (As := [.ref (ad (3 * (4 + 4 * b_n))), .int (nI v_n), .int h]) (rest := []) ⟨hx, hb, hml, hown, hts⟩ (va_cwS 3 hts gX8_exit_X8_endOfRange rfl rfl rfl (by decide +kernel) ⟨Nat.le_of_ble_eq_true rfl, Nat.le_of_ble_eq_true rfl⟩) hK hA hZ hw (k_X8_endOfRange l hflag D ad cs H.size M J (4 + 4 * b_n) v_n h (by omega) (by omega)) rfl rfl hl.1 (Nat.le_of_ble_eq_true rfl) ⟨Nat.le_of_ble_eq_true rfl, Nat.le_of_ble_eq_true rfl⟩ dX8_exit_27 hout hlocks (fun E z => Or.inr (Or.inr ⟨z.1, hst9, ⟨b_n, b_h, rfl⟩, ⟨v_n, v_h, rfl⟩, (by rw [tn_nI (by omega)]; exact z.2)⟩)) ⟨Nat.le_of_ble_eq_true rfl, Nat.le_of_ble_eq_true rfl⟩ (fun r13 M14 J15 H locs h16 hw => ?_)
  obtain ⟨h16u, h16z, h16r⟩ := h16
  cases h16u
  exact vx_ret (W.widen (k := 4) (n := 24) (Nat.le_of_ble_eq_true rfl) (Nat.le_of_ble_eq_true rfl) (wr_iret hx hb hr rfl hK hw ⟨hst9, ⟨b_n, b_h, rfl⟩, ⟨v_n, v_h, rfl⟩, (by rw [tn_nI (by omega)]; exact h16z), rfl, (by rw [tn_nI (by omega), tn_nI (by omega)]; exact h16r)⟩ hlocks dX8_exit_30))
set_option maxHeartbeats 4000000 in
set_option maxRecDepth 100000 in
theorem k_X8_isDead (l : Launch) (hflag : l.stackTraces = false) (D : va_G) (ad : Nat → Nat) (cs : Nat → ClassId) (sz : Nat) (M : wM) (J : wJ) (b : Int32) (e1 : Int32) (cnt : Nat) (hn : M 330 2 = nI cnt) (hn16 : cnt ≤ 16) (hE : ∀ b, b < 16 → edOK M b) (hc : cZ M) : wXi l yX8_isDead wsX8_isDead { frames := 7, cells := 3, slots := 18, locals := 121 } D 340 cSh ad cs [.ref (ad 329), .int b, .int e1] sz M J 3 18 (fun r_ u_ => ¬ M 329 4 = 0 ∧ inB b cnt ∧ inB e1 (tn (M (201 + 6 * tn b) 5)) ∧ u_ = (M, J) ∧ r_ = M (3 * (5 + 4 * tn b + tn e1)) 0) (fun E_ => (E_ = xIS ∧ M 329 4 = 0) ∨ (E_ = xIX ∧ ¬ M 329 4 = 0 ∧ ¬ inB b cnt) ∨ (E_ = xIX ∧ ¬ M 329 4 = 0 ∧ inB b cnt ∧ ¬ inB e1 (tn (M (201 + 6 * tn b) 5)))) := by
  refine wX_i (cc := cX8_isDead) (maxL := 3) (ret := (some .boolean)) (by decide) rfl (Nat.le_of_ble_eq_true rfl) ?_
  intro p e s m below meth c ls A hx hb hr hml hown hts hlocks hK hA hw hl hAe hZ hout
  clear hAe
  have hl : lv_has ls 3 [(0, .ref (ad 329)), (1, .int b), (2, .int e1)] := hl
  have kl171 : (Cond.classLink RX8 171 xIX).before _ s = true := hts _ (by decide +kernel)
  have kiIX : (Cond.initialized xIX).before _ s = true := hts _ (by decide +kernel)
  have xt_IX : ∀ w ∈ (vx_atS RX8 175 xIX xNs).filter goodWord, w.before _ s = true := fun w h => hts w ((by decide +kernel : ∀ w ∈ (vx_atS RX8 175 xIX xNs).filter goodWord, w ∈ wsX8_isDead) w h)
  have f10 : (Cond.fieldLink RX8 10 "RangePropagato\x72" "program" "LRangePropagator$Program;").before _ s = true := hts _ (by decide +kernel)
  have iX8 : ∀ w ∈ wsX80, w ∈ wsX8_isDead := by decide +kernel
  have f83 : (Cond.fieldLink RX8 83 "RangePropagator$Program" "blocks" "[LRangePropagator$Block;").before _ s = true := hts _ (by decide +kernel)
  have iX5 : ∀ w ∈ wsX50, w ∈ wsX8_isDead := by decide +kernel
  have f98 : (Cond.fieldLink RX8 98 "RangePropagator$Block" "edgeCount" "I").before _ s = true := hts _ (by decide +kernel)
  have iX2 : ∀ w ∈ wsX20, w ∈ wsX8_isDead := by decide +kernel
  have f26 : (Cond.fieldLink RX8 26 "RangePropagato\x72" "analysis" "LRangePropagator$Analysis;").before _ s = true := hts _ (by decide +kernel)
  have f152 : (Cond.fieldLink RX8 152 "RangePropagator$Analysis" "flows" "[LRangePropagator$Flow;").before _ s = true := hts _ (by decide +kernel)
  have iX0 : ∀ w ∈ wsX00, w ∈ wsX8_isDead := by decide +kernel
  have f176 : (Cond.fieldLink RX8 176 "RangePropagator$Flow" "edgeStates" "[LRangePropagator$State;").before _ s = true := hts _ (by decide +kernel)
  have iX4 : ∀ w ∈ wsX40, w ∈ wsX8_isDead := by decide +kernel
  have f161 : (Cond.fieldLink RX8 161 "RangePropagator$State" "isNone" "Z").before _ s = true := hts _ (by decide +kernel)
  have iX7 : ∀ w ∈ wsX70, w ∈ wsX8_isDead := by decide +kernel
  refine lv_aload_n hx hb dX8_isDead_0 rfl (lv_at hl 0 rfl) ?_
  refine wr_xVv (k := 329) (ci := 7) (As := []) (rest := []) ⟨hx, hb, hml, hown, hts⟩ (cwV 0 hts gX8_isDead_X8_requireAnalysis rfl rfl rfl (by decide +kernel) ⟨Nat.le_of_ble_eq_true rfl, Nat.le_of_ble_eq_true rfl⟩) hK hA hZ hw (k_X8_requireAnalysis l hflag D ad cs s.heap.size M J  ) (by omega) cs_X rfl rfl rfl hl.1 (Nat.le_of_ble_eq_true rfl) ⟨Nat.le_of_ble_eq_true rfl, Nat.le_of_ble_eq_true rfl⟩ dX8_isDead_1 hout hlocks (fun E z => Or.inl z) ⟨Nat.le_of_ble_eq_true rfl, Nat.le_of_ble_eq_true rfl⟩ (fun M2 J3 H locs h4 hw => ?_)
  obtain ⟨h4u, hst9⟩ := h4
  cases h4u
  refine lv_aload_n hx hb dX8_isDead_4 rfl (lv_at hl 0 rfl) ?_
  refine lv_iload_n hx hb dX8_isDead_5 rfl (lv_at hl 1 rfl) ?_
  refine wr_xVv (k := 329) (ci := 7) (As := [.int b]) (rest := []) ⟨hx, hb, hml, hown, hts⟩ (cwV 1 hts gX8_isDead_X8_requireBlock rfl rfl rfl (by decide +kernel) ⟨Nat.le_of_ble_eq_true rfl, Nat.le_of_ble_eq_true rfl⟩) hK hA hZ hw (k_X8_requireBlock l hflag D ad cs H.size M J b cnt hn hn16) (by omega) cs_X rfl rfl rfl hl.1 (Nat.le_of_ble_eq_true rfl) ⟨Nat.le_of_ble_eq_true rfl, Nat.le_of_ble_eq_true rfl⟩ dX8_isDead_6 hout hlocks (fun E z => Or.inr (Or.inl ⟨z.1, hst9, z.2⟩)) ⟨Nat.le_of_ble_eq_true rfl, Nat.le_of_ble_eq_true rfl⟩ (fun M6 J7 H locs h8 hw => ?_)
  obtain ⟨h8u, h8i⟩ := h8
  cases h8u
  obtain ⟨b_n, b_h, rfl⟩ := h8i
  have hE2 : tn (M (201 + 6 * b_n) 5) ≤ 2 := (hE b_n (by omega)).2.1
  refine lv_iload_n hx hb dX8_isDead_9 rfl (lv_at hl 2 rfl) ?_
  refine lv_if_lt (tgt := 29) hx hb dX8_isDead_10 (by decide) (fun q9 => ?_) (fun q9 => ?_)
  · skip
    exact wr_thr (text := "there is no such edge") hx hb hflag hown (by decide +kernel) kl171 kiIX (by decide +kernel) (by decide +kernel) xt_IX xg_IX xo_IX hZ hK hw (hl.1.trans hml.symm) dX8_isDead_29 dX8_isDead_32 dX8_isDead_33 dX8_isDead_35 dX8_isDead_38 hout (Nat.le_of_ble_eq_true rfl) (Nat.le_of_ble_eq_true rfl) (Nat.le_of_ble_eq_true rfl) (Nat.le_of_ble_eq_true rfl) hlocks (Nat.le_of_ble_eq_true rfl) (Nat.le_of_ble_eq_true rfl) (Or.inr (Or.inr ⟨rfl, hst9, ⟨b_n, b_h, rfl⟩, (by rw [tn_nI (by omega)]; exact nB_1 q9 (by have := (hE b_n (by omega)).2.1; omega))⟩))
  · skip
    refine lv_iload_n hx hb dX8_isDead_13 rfl (lv_at hl 2 rfl) ?_
    refine lv_aload_n hx hb dX8_isDead_14 rfl (lv_at hl 0 rfl) ?_
    refine wr_gr hx hb hown hK hts iX8 (ci := 7) rfl 0 (by decide) f10 rfl hw 329 (by omega) 330 cs_X rfl dX8_isDead_15 ?_
    refine wr_gr hx hb hown hK hts iX5 (ci := 4) rfl 0 (by decide) f83 rfl hw 330 (by omega) 331 cs_P rfl dX8_isDead_18 ?_
    refine lv_iload_n hx hb dX8_isDead_21 rfl (lv_at hl 1 rfl) ?_
    refine wr_aldN hx hb hK hw 331 (by omega) cs_PB rfl (by decide) b_n rfl (by omega) dX8_isDead_22 ?_
    refine wr_gi hx hb hown hK hts iX2 (ci := 1) rfl 5 (by decide) f98 rfl hw (201 + 6 * b_n) (by omega) (cs_B (by omega)) rfl dX8_isDead_23 ?_
    rw [show M (201 + 6 * b_n) 5 = nI (tn (M (201 + 6 * b_n) 5)) from (hE b_n (by omega)).1]
    refine lv_icmp_lt (tgt := 39) hx hb dX8_isDead_26 (by decide) (fun q10 => ?_) (fun q10 => ?_)
    · obtain ⟨e1_n, e1_h, rfl⟩ := inB_of q9 q10 (by omega)
      refine lv_aload_n hx hb dX8_isDead_39 rfl (lv_at hl 0 rfl) ?_
      refine wr_gr hx hb hown hK hts iX8 (ci := 7) rfl 2 (by decide) f26 rfl hw 329 (by omega) 334 cs_X rfl dX8_isDead_40 ?_
      refine wr_gr hx hb hown hK hts iX0 (ci := 0) rfl 0 (by decide) f152 rfl hw 334 (by omega) 335 cs_A rfl dX8_isDead_43 ?_
      refine lv_iload_n hx hb dX8_isDead_46 rfl (lv_at hl 1 rfl) ?_
      refine wr_aldN hx hb hK hw 335 (by omega) cs_AF rfl (by decide) b_n rfl (by omega) dX8_isDead_47 ?_
      refine wr_gr hx hb hown hK hts iX4 (ci := 3) rfl 2 (by decide) f176 rfl hw (297 + 2 * b_n) (by omega) (297 + 2 * b_n + 1) (cs_F (by omega)) rfl dX8_isDead_48 ?_
      refine lv_iload_n hx hb dX8_isDead_51 rfl (lv_at hl 2 rfl) ?_
      refine wr_aldN hx hb hK hw (297 + 2 * b_n + 1) (by omega) (cs_FE (by omega)) rfl (by decide) e1_n rfl (by omega) dX8_isDead_52 ?_
      refine wr_gi hx hb hown hK hts iX7 (ci := 6) rfl 0 (by decide) f161 rfl hw (3 * (5 + 4 * b_n + e1_n)) (by omega) (cs_S (by omega)) rfl dX8_isDead_53 ?_
      exact vx_ret (W.widen (k := 3) (n := 18) (Nat.le_of_ble_eq_true rfl) (Nat.le_of_ble_eq_true rfl) (wr_iret hx hb hr (bz_n (hc _ (by omega))) hK hw ⟨hst9, ⟨b_n, b_h, rfl⟩, (by rw [tn_nI (by omega)]; exact ⟨e1_n, e1_h, rfl⟩), rfl, (by rw [tn_nI (by omega), tn_nI (by omega)])⟩ hlocks dX8_isDead_56))
    · skip
      exact wr_thr (text := "there is no such edge") hx hb hflag hown (by decide +kernel) kl171 kiIX (by decide +kernel) (by decide +kernel) xt_IX xg_IX xo_IX hZ hK hw (hl.1.trans hml.symm) dX8_isDead_29 dX8_isDead_32 dX8_isDead_33 dX8_isDead_35 dX8_isDead_38 hout (Nat.le_of_ble_eq_true rfl) (Nat.le_of_ble_eq_true rfl) (Nat.le_of_ble_eq_true rfl) (Nat.le_of_ble_eq_true rfl) hlocks (Nat.le_of_ble_eq_true rfl) (Nat.le_of_ble_eq_true rfl) (Or.inr (Or.inr ⟨rfl, hst9, ⟨b_n, b_h, rfl⟩, (by rw [tn_nI (by omega)]; exact nB_2 q10 (by have := (hE b_n (by omega)).2.1; omega))⟩))
set_option maxHeartbeats 4000000 in
set_option maxRecDepth 100000 in
theorem k_X8_deadEdges (l : Launch) (hflag : l.stackTraces = false) (D : va_G) (ad : Nat → Nat) (cs : Nat → ClassId) (sz : Nat) (M : wM) (J : wJ) (cnt : Nat) (hn : M 330 2 = nI cnt) (hn16 : cnt ≤ 16) (hE : ∀ b, b < 16 → edOK M b) : wXi l yX8_deadEdges wsX8_deadEdges { frames := 7, cells := 1, slots := 6, locals := 120 } D 340 cSh ad cs [.ref (ad 329)] sz M J 1 6 (fun r_ u_ => ¬ M 329 4 = 0 ∧ u_ = (M, J) ∧ r_ = nI (dedA M cnt)) (fun E_ => E_ = xIS ∧ M 329 4 = 0) := by
  refine wX_i (cc := cX8_deadEdges) (maxL := 3) (ret := (some .int)) (by decide) rfl (Nat.le_of_ble_eq_true rfl) ?_
  intro p e s m below meth c ls A hx hb hr hml hown hts hlocks hK hA hw hl hAe hZ hout
  clear hAe
  have hl : lv_has ls 3 [(0, .ref (ad 329))] := hl
  have f10 : (Cond.fieldLink RX8 10 "RangePropagato\x72" "program" "LRangePropagator$Program;").before _ s = true := hts _ (by decide +kernel)
  have iX8 : ∀ w ∈ wsX80, w ∈ wsX8_deadEdges := by decide +kernel
  have f41 : (Cond.fieldLink RX8 41 "RangePropagator$Program" "count" "I").before _ s = true := hts _ (by decide +kernel)
  have iX5 : ∀ w ∈ wsX50, w ∈ wsX8_deadEdges := by decide +kernel
  have f26 : (Cond.fieldLink RX8 26 "RangePropagato\x72" "analysis" "LRangePropagator$Analysis;").before _ s = true := hts _ (by decide +kernel)
  have f152 : (Cond.fieldLink RX8 152 "RangePropagator$Analysis" "flows" "[LRangePropagator$Flow;").before _ s = true := hts _ (by decide +kernel)
  have iX0 : ∀ w ∈ wsX00, w ∈ wsX8_deadEdges := by decide +kernel
  have f83 : (Cond.fieldLink RX8 83 "RangePropagator$Program" "blocks" "[LRangePropagator$Block;").before _ s = true := hts _ (by decide +kernel)
  have f98 : (Cond.fieldLink RX8 98 "RangePropagator$Block" "edgeCount" "I").before _ s = true := hts _ (by decide +kernel)
  have iX2 : ∀ w ∈ wsX20, w ∈ wsX8_deadEdges := by decide +kernel
  refine lv_aload_n hx hb dX8_deadEdges_0 rfl (lv_at hl 0 rfl) ?_
  refine wr_xVv (k := 329) (ci := 7) (As := []) (rest := []) ⟨hx, hb, hml, hown, hts⟩ (cwV 0 hts gX8_deadEdges_X8_requireAnalysis rfl rfl rfl (by decide +kernel) ⟨Nat.le_of_ble_eq_true rfl, Nat.le_of_ble_eq_true rfl⟩) hK hA hZ hw (k_X8_requireAnalysis l hflag D ad cs s.heap.size M J  ) (by omega) cs_X rfl rfl rfl hl.1 (Nat.le_of_ble_eq_true rfl) ⟨Nat.le_of_ble_eq_true rfl, Nat.le_of_ble_eq_true rfl⟩ dX8_deadEdges_1 hout hlocks (fun E z => z) ⟨Nat.le_of_ble_eq_true rfl, Nat.le_of_ble_eq_true rfl⟩ (fun M2 J3 H locs h4 hw => ?_)
  obtain ⟨h4u, hst9⟩ := h4
  cases h4u
  refine lv_iconst (v := nI 0) hx hb dX8_deadEdges_4 (by decide) ?_
  refine lv_istore_n (lv' := [(1, .int (nI 0)), (0, .ref (ad 329))]) hx hb dX8_deadEdges_5 rfl hl (by decide) rfl (fun ls hl => ?_)
  refine lv_iconst (v := nI 0) hx hb dX8_deadEdges_6 (by decide) ?_
  refine lv_istore_n (lv' := [(2, .int (nI 0)), (1, .int (nI 0)), (0, .ref (ad 329))]) hx hb dX8_deadEdges_7 rfl hl (by decide) rfl (fun ls hl => ?_)
  refine w_loop (σ := Nat) (fun k M' J' ls => lv_has ls 3 [(0, .ref (ad 329)), (1, .int (nI (dedA M k))), (2, .int (nI k))] ∧ J' = J ∧ k ≤ cnt ∧ M' = M ∧ True) (fun k => cnt - k) (fun k M5 J1_ H locs ls hI hw ih6 => ?_) 0 ⟨lv_sub hl [2, 1, 0] rfl, rfl, by omega, rfl, trivial⟩ hw
  obtain ⟨hl, eJ_, hk_, hI⟩ := hI
  rw [eJ_] at hw
  clear eJ_
  obtain ⟨eM_, hI⟩ := hI
  rw [eM_] at hw
  clear eM_
  refine lv_iload_n hx hb dX8_deadEdges_8 rfl (lv_at hl 2 rfl) ?_
  refine lv_aload_n hx hb dX8_deadEdges_9 rfl (lv_at hl 0 rfl) ?_
  refine wr_gr hx hb hown hK hts iX8 (ci := 7) rfl 0 (by decide) f10 rfl hw 329 (by omega) 330 cs_X rfl dX8_deadEdges_10 ?_
  refine wr_gi hx hb hown hK hts iX5 (ci := 4) rfl 2 (by decide) f41 rfl hw 330 (by omega) cs_P rfl dX8_deadEdges_13 ?_
  rw [show M 330 2 = nI cnt from hn]
  refine lv_icmp_ge (tgt := 52) hx hb dX8_deadEdges_16 (by decide) (fun q7 => ?_) (fun q7 => ?_)
  · have q7n : cnt ≤ k := (nI_leI (by omega) (by omega)).mp q7
    refine lv_iload_n hx hb dX8_deadEdges_52 rfl (lv_at hl 1 rfl) ?_
    exact vx_ret (W.widen (k := 1) (n := 6) (Nat.le_of_ble_eq_true rfl) (Nat.le_of_ble_eq_true rfl) (wr_iret hx hb hr rfl hK hw ⟨hst9, rfl, (by have e9 : k = cnt := (by omega); rw [e9])⟩ hlocks dX8_deadEdges_53))
  · have q7n : ¬ cnt ≤ k := fun z => q7 ((nI_leI (by omega) (by omega)).mpr z)
    refine lv_iload_n hx hb dX8_deadEdges_19 rfl (lv_at hl 1 rfl) ?_
    refine lv_aload_n hx hb dX8_deadEdges_20 rfl (lv_at hl 0 rfl) ?_
    refine wr_gr hx hb hown hK hts iX8 (ci := 7) rfl 2 (by decide) f26 rfl hw 329 (by omega) 334 cs_X rfl dX8_deadEdges_21 ?_
    refine wr_gr hx hb hown hK hts iX0 (ci := 0) rfl 0 (by decide) f152 rfl hw 334 (by omega) 335 cs_A rfl dX8_deadEdges_24 ?_
    refine lv_iload_n hx hb dX8_deadEdges_27 rfl (lv_at hl 2 rfl) ?_
    refine wr_aldN hx hb hK hw 335 (by omega) cs_AF rfl (by decide) k rfl (by omega) dX8_deadEdges_28 ?_
    refine lv_aload_n hx hb dX8_deadEdges_29 rfl (lv_at hl 0 rfl) ?_
    refine wr_gr hx hb hown hK hts iX8 (ci := 7) rfl 0 (by decide) f10 rfl hw 329 (by omega) 330 cs_X rfl dX8_deadEdges_30 ?_
    refine wr_gr hx hb hown hK hts iX5 (ci := 4) rfl 0 (by decide) f83 rfl hw 330 (by omega) 331 cs_P rfl dX8_deadEdges_33 ?_
    refine lv_iload_n hx hb dX8_deadEdges_36 rfl (lv_at hl 2 rfl) ?_
    refine wr_aldN hx hb hK hw 331 (by omega) cs_PB rfl (by decide) k rfl (by omega) dX8_deadEdges_37 ?_
    refine wr_gi hx hb hown hK hts iX2 (ci := 1) rfl 5 (by decide) f98 rfl hw (201 + 6 * k) (by omega) (cs_B (by omega)) rfl dX8_deadEdges_38 ?_
    rw [show M (201 + 6 * k) 5 = nI (tn (M (201 + 6 * k) 5)) from (hE k (by omega)).1]
    refine wr_cVi (k := 297 + 2 * k) (ci := 3) (As := [.int (nI (tn (M (201 + 6 * k) 5)))]) (rest := [.int (nI (dedA M k))]) ⟨hx, hb, hml, hown, hts⟩ (cwV 1 hts gX8_deadEdges_X4_countDeadEdges rfl rfl rfl (by decide +kernel) ⟨Nat.le_of_ble_eq_true rfl, Nat.le_of_ble_eq_true rfl⟩) hK hA hw (k_X4_countDeadEdges l D ad cs H.size M J k (tn (M (201 + 6 * k) 5)) (by omega) (hE k (by omega)).2.1) (by omega) (cs_F (by omega)) rfl rfl rfl hl.1 (Nat.le_of_ble_eq_true rfl) ⟨Nat.le_of_ble_eq_true rfl, Nat.le_of_ble_eq_true rfl⟩ dX8_deadEdges_41 (fun r8 M9 J10 H locs h11 hw => ?_)
    obtain ⟨h11, rfl⟩ := h11
    cases h11
    rw [show nI (dedF M k (tn (M (201 + 6 * k) 5))) = nI (dedF M k (tn (M (201 + 6 * k) 5))) from rfl]
    refine lv_iaddN hx hb dX8_deadEdges_44 ?_
    refine lv_istore_n (lv' := [(1, .int (nI ((dedA M k) + (dedF M k (tn (M (201 + 6 * k) 5)))))), (0, .ref (ad 329)), (2, .int (nI k))]) hx hb dX8_deadEdges_45 rfl hl (by decide) rfl (fun ls hl => ?_)
    refine lv_iinc (v := nI (k + 1)) (lv' := [(2, .int (nI (k + 1))), (1, .int (nI ((dedA M k) + (dedF M k (tn (M (201 + 6 * k) 5)))))), (0, .ref (ad 329))]) hx hb dX8_deadEdges_46 hl (k := 2) rfl (nI_1 _) (by decide) rfl (fun ls hl => ?_)
    refine lv_goto (tgt := 8) hx hb dX8_deadEdges_49 (by decide) ?_
    exact ih6 (k + 1) M J _ _ _ (by omega) ⟨lv_sub hl [2, 1, 0] rfl, rfl, by omega, rfl, trivial⟩ hw
set_option maxHeartbeats 4000000 in
set_option maxRecDepth 100000 in
theorem k_X8_constants (l : Launch) (hflag : l.stackTraces = false) (D : va_G) (ad : Nat → Nat) (cs : Nat → ClassId) (sz : Nat) (M : wM) (J : wJ) (b : Int32) (cnt : Nat) (hn : M 330 2 = nI cnt) (hn16 : cnt ≤ 16) : wXi l yX8_constants wsX8_constants { frames := 7, cells := 2, slots := 12, locals := 121 } D 340 cSh ad cs [.ref (ad 329), .int b] sz M J 2 12 (fun r_ u_ => ¬ M 329 4 = 0 ∧ inB b cnt ∧ u_ = (M, J) ∧ r_ = nI (ccS (sv M (4 + 4 * tn b)))) (fun E_ => (E_ = xIS ∧ M 329 4 = 0) ∨ (E_ = xIX ∧ ¬ M 329 4 = 0 ∧ ¬ inB b cnt)) := by
  refine wX_i (cc := cX8_constants) (maxL := 2) (ret := (some .int)) (by decide) rfl (Nat.le_of_ble_eq_true rfl) ?_
  intro p e s m below meth c ls A hx hb hr hml hown hts hlocks hK hA hw hl hAe hZ hout
  clear hAe
  have hl : lv_has ls 2 [(0, .ref (ad 329)), (1, .int b)] := hl
  have f26 : (Cond.fieldLink RX8 26 "RangePropagato\x72" "analysis" "LRangePropagator$Analysis;").before _ s = true := hts _ (by decide +kernel)
  have iX8 : ∀ w ∈ wsX80, w ∈ wsX8_constants := by decide +kernel
  have f152 : (Cond.fieldLink RX8 152 "RangePropagator$Analysis" "flows" "[LRangePropagator$Flow;").before _ s = true := hts _ (by decide +kernel)
  have iX0 : ∀ w ∈ wsX00, w ∈ wsX8_constants := by decide +kernel
  have f168 : (Cond.fieldLink RX8 168 "RangePropagator$Flow" "exitState" "LRangePropagator$State;").before _ s = true := hts _ (by decide +kernel)
  have iX4 : ∀ w ∈ wsX40, w ∈ wsX8_constants := by decide +kernel
  refine lv_aload_n hx hb dX8_constants_0 rfl (lv_at hl 0 rfl) ?_
  refine wr_xVv (k := 329) (ci := 7) (As := []) (rest := []) ⟨hx, hb, hml, hown, hts⟩ (cwV 0 hts gX8_constants_X8_requireAnalysis rfl rfl rfl (by decide +kernel) ⟨Nat.le_of_ble_eq_true rfl, Nat.le_of_ble_eq_true rfl⟩) hK hA hZ hw (k_X8_requireAnalysis l hflag D ad cs s.heap.size M J  ) (by omega) cs_X rfl rfl rfl hl.1 (Nat.le_of_ble_eq_true rfl) ⟨Nat.le_of_ble_eq_true rfl, Nat.le_of_ble_eq_true rfl⟩ dX8_constants_1 hout hlocks (fun E z => Or.inl z) ⟨Nat.le_of_ble_eq_true rfl, Nat.le_of_ble_eq_true rfl⟩ (fun M2 J3 H locs h4 hw => ?_)
  obtain ⟨h4u, hst9⟩ := h4
  cases h4u
  refine lv_aload_n hx hb dX8_constants_4 rfl (lv_at hl 0 rfl) ?_
  refine lv_iload_n hx hb dX8_constants_5 rfl (lv_at hl 1 rfl) ?_
  refine wr_xVv (k := 329) (ci := 7) (As := [.int b]) (rest := []) ⟨hx, hb, hml, hown, hts⟩ (cwV 1 hts gX8_constants_X8_requireBlock rfl rfl rfl (by decide +kernel) ⟨Nat.le_of_ble_eq_true rfl, Nat.le_of_ble_eq_true rfl⟩) hK hA hZ hw (k_X8_requireBlock l hflag D ad cs H.size M J b cnt hn hn16) (by omega) cs_X rfl rfl rfl hl.1 (Nat.le_of_ble_eq_true rfl) ⟨Nat.le_of_ble_eq_true rfl, Nat.le_of_ble_eq_true rfl⟩ dX8_constants_6 hout hlocks (fun E z => Or.inr ⟨z.1, hst9, z.2⟩) ⟨Nat.le_of_ble_eq_true rfl, Nat.le_of_ble_eq_true rfl⟩ (fun M6 J7 H locs h8 hw => ?_)
  obtain ⟨h8u, h8i⟩ := h8
  cases h8u
  obtain ⟨b_n, b_h, rfl⟩ := h8i
  refine lv_aload_n hx hb dX8_constants_9 rfl (lv_at hl 0 rfl) ?_
  refine wr_gr hx hb hown hK hts iX8 (ci := 7) rfl 2 (by decide) f26 rfl hw 329 (by omega) 334 cs_X rfl dX8_constants_10 ?_
  refine wr_gr hx hb hown hK hts iX0 (ci := 0) rfl 0 (by decide) f152 rfl hw 334 (by omega) 335 cs_A rfl dX8_constants_13 ?_
  refine lv_iload_n hx hb dX8_constants_16 rfl (lv_at hl 1 rfl) ?_
  refine wr_aldN hx hb hK hw 335 (by omega) cs_AF rfl (by decide) b_n rfl (by omega) dX8_constants_17 ?_
  refine wr_gr hx hb hown hK hts iX4 (ci := 3) rfl 1 (by decide) f168 rfl hw (297 + 2 * b_n) (by omega) (3 * (4 + 4 * b_n)) (cs_F (by omega)) rfl dX8_constants_18 ?_
  refine wr_cVi (k := 3 * (4 + 4 * b_n)) (ci := 6) (As := []) (rest := []) ⟨hx, hb, hml, hown, hts⟩ (cwV 0 hts gX8_constants_X7_countConstants rfl rfl rfl (by decide +kernel) ⟨Nat.le_of_ble_eq_true rfl, Nat.le_of_ble_eq_true rfl⟩) hK hA hw (k_X7_countConstants l D ad cs H.size M J (4 + 4 * b_n) (by omega)) (by omega) (cs_S (by omega)) rfl rfl rfl hl.1 (Nat.le_of_ble_eq_true rfl) ⟨Nat.le_of_ble_eq_true rfl, Nat.le_of_ble_eq_true rfl⟩ dX8_constants_21 (fun r9 M10 J11 H locs h12 hw => ?_)
  obtain ⟨h12u, h12r⟩ := h12
  cases h12u
  exact vx_ret (W.widen (k := 2) (n := 12) (Nat.le_of_ble_eq_true rfl) (Nat.le_of_ble_eq_true rfl) (wr_iret hx hb hr rfl hK hw ⟨hst9, ⟨b_n, b_h, rfl⟩, rfl, (by rw [tn_nI (by omega)]; exact h12r)⟩ hlocks dX8_constants_24))
set_option maxHeartbeats 4000000 in
set_option maxRecDepth 100000 in
theorem k_X8_visits (l : Launch) (hflag : l.stackTraces = false) (D : va_G) (ad : Nat → Nat) (cs : Nat → ClassId) (sz : Nat) (M : wM) (J : wJ) (b : Int32) (cnt : Nat) (hn : M 330 2 = nI cnt) (hn16 : cnt ≤ 16) : wXi l yX8_visits wsX8_visits { frames := 7, cells := 2, slots := 12, locals := 121 } D 340 cSh ad cs [.ref (ad 329), .int b] sz M J 2 12 (fun r_ u_ => ¬ M 329 4 = 0 ∧ inB b cnt ∧ u_ = (M, J) ∧ r_ = M (297 + 2 * tn b) 3) (fun E_ => (E_ = xIS ∧ M 329 4 = 0) ∨ (E_ = xIX ∧ ¬ M 329 4 = 0 ∧ ¬ inB b cnt)) := by
  refine wX_i (cc := cX8_visits) (maxL := 2) (ret := (some .int)) (by decide) rfl (Nat.le_of_ble_eq_true rfl) ?_
  intro p e s m below meth c ls A hx hb hr hml hown hts hlocks hK hA hw hl hAe hZ hout
  clear hAe
  have hl : lv_has ls 2 [(0, .ref (ad 329)), (1, .int b)] := hl
  have f26 : (Cond.fieldLink RX8 26 "RangePropagato\x72" "analysis" "LRangePropagator$Analysis;").before _ s = true := hts _ (by decide +kernel)
  have iX8 : ∀ w ∈ wsX80, w ∈ wsX8_visits := by decide +kernel
  have f152 : (Cond.fieldLink RX8 152 "RangePropagator$Analysis" "flows" "[LRangePropagator$Flow;").before _ s = true := hts _ (by decide +kernel)
  have iX0 : ∀ w ∈ wsX00, w ∈ wsX8_visits := by decide +kernel
  have f188 : (Cond.fieldLink RX8 188 "RangePropagator$Flow" "visitCount" "I").before _ s = true := hts _ (by decide +kernel)
  have iX4 : ∀ w ∈ wsX40, w ∈ wsX8_visits := by decide +kernel
  refine lv_aload_n hx hb dX8_visits_0 rfl (lv_at hl 0 rfl) ?_
  refine wr_xVv (k := 329) (ci := 7) (As := []) (rest := []) ⟨hx, hb, hml, hown, hts⟩ (cwV 0 hts gX8_visits_X8_requireAnalysis rfl rfl rfl (by decide +kernel) ⟨Nat.le_of_ble_eq_true rfl, Nat.le_of_ble_eq_true rfl⟩) hK hA hZ hw (k_X8_requireAnalysis l hflag D ad cs s.heap.size M J  ) (by omega) cs_X rfl rfl rfl hl.1 (Nat.le_of_ble_eq_true rfl) ⟨Nat.le_of_ble_eq_true rfl, Nat.le_of_ble_eq_true rfl⟩ dX8_visits_1 hout hlocks (fun E z => Or.inl z) ⟨Nat.le_of_ble_eq_true rfl, Nat.le_of_ble_eq_true rfl⟩ (fun M2 J3 H locs h4 hw => ?_)
  obtain ⟨h4u, hst9⟩ := h4
  cases h4u
  refine lv_aload_n hx hb dX8_visits_4 rfl (lv_at hl 0 rfl) ?_
  refine lv_iload_n hx hb dX8_visits_5 rfl (lv_at hl 1 rfl) ?_
  refine wr_xVv (k := 329) (ci := 7) (As := [.int b]) (rest := []) ⟨hx, hb, hml, hown, hts⟩ (cwV 1 hts gX8_visits_X8_requireBlock rfl rfl rfl (by decide +kernel) ⟨Nat.le_of_ble_eq_true rfl, Nat.le_of_ble_eq_true rfl⟩) hK hA hZ hw (k_X8_requireBlock l hflag D ad cs H.size M J b cnt hn hn16) (by omega) cs_X rfl rfl rfl hl.1 (Nat.le_of_ble_eq_true rfl) ⟨Nat.le_of_ble_eq_true rfl, Nat.le_of_ble_eq_true rfl⟩ dX8_visits_6 hout hlocks (fun E z => Or.inr ⟨z.1, hst9, z.2⟩) ⟨Nat.le_of_ble_eq_true rfl, Nat.le_of_ble_eq_true rfl⟩ (fun M6 J7 H locs h8 hw => ?_)
  obtain ⟨h8u, h8i⟩ := h8
  cases h8u
  obtain ⟨b_n, b_h, rfl⟩ := h8i
  refine lv_aload_n hx hb dX8_visits_9 rfl (lv_at hl 0 rfl) ?_
  refine wr_gr hx hb hown hK hts iX8 (ci := 7) rfl 2 (by decide) f26 rfl hw 329 (by omega) 334 cs_X rfl dX8_visits_10 ?_
  refine wr_gr hx hb hown hK hts iX0 (ci := 0) rfl 0 (by decide) f152 rfl hw 334 (by omega) 335 cs_A rfl dX8_visits_13 ?_
  refine lv_iload_n hx hb dX8_visits_16 rfl (lv_at hl 1 rfl) ?_
  refine wr_aldN hx hb hK hw 335 (by omega) cs_AF rfl (by decide) b_n rfl (by omega) dX8_visits_17 ?_
  refine wr_gi hx hb hown hK hts iX4 (ci := 3) rfl 3 (by decide) f188 rfl hw (297 + 2 * b_n) (by omega) (cs_F (by omega)) rfl dX8_visits_18 ?_
  exact vx_ret (W.widen (k := 2) (n := 12) (Nat.le_of_ble_eq_true rfl) (Nat.le_of_ble_eq_true rfl) (wr_iret hx hb hr rfl hK hw ⟨hst9, ⟨b_n, b_h, rfl⟩, rfl, (by rw [tn_nI (by omega)])⟩ hlocks dX8_visits_21))
set_option maxHeartbeats 4000000 in
set_option maxRecDepth 100000 in
theorem k_X8_run (l : Launch) (hflag : l.stackTraces = false) (D : va_G) (ad : Nat → Nat) (cs : Nat → ClassId) (sz : Nat) (M : wM) (J : wJ) (seed : Int64) (steps : Int32) (hP : ∀ b, b < 16 → blOK M b ∧ edOK M b) (hF : foOK M) : wXi l yX8_run wsX8_run { frames := 6, cells := 1, slots := 6, locals := 128 } D 340 cSh ad cs [.ref (ad 329), .long seed, .int steps] sz M J 1 6 (fun r_ u_ => inS steps ∧ pEx M J seed (tn steps) u_ ∧ r_ = u_.1 336 3) (fun E_ => E_ = xIA ∧ ¬ inS steps) := by
  refine wX_i (cc := cX8_run) (maxL := 4) (ret := (some .int)) (by decide) rfl (Nat.le_of_ble_eq_true rfl) ?_
  intro p e s m below meth c ls A hx hb hr hml hown hts hlocks hK hA hw hl hAe hZ hout
  clear hAe
  have hl : lv_has ls 4 [(0, .ref (ad 329)), (1, .long seed), (3, .int steps)] := hl
  have kl93 : (Cond.classLink RX8 93 xIA).before _ s = true := hts _ (by decide +kernel)
  have kiIA : (Cond.initialized xIA).before _ s = true := hts _ (by decide +kernel)
  have xt_IA : ∀ w ∈ (vx_atS RX8 97 xIA xNs).filter goodWord, w.before _ s = true := fun w h => hts w ((by decide +kernel : ∀ w ∈ (vx_atS RX8 97 xIA xNs).filter goodWord, w ∈ wsX8_run) w h)
  have f33 : (Cond.fieldLink RX8 33 "RangePropagato\x72" "execution" "LRangePropagator$Execution;").before _ s = true := hts _ (by decide +kernel)
  have iX8 : ∀ w ∈ wsX80, w ∈ wsX8_run := by decide +kernel
  have f10 : (Cond.fieldLink RX8 10 "RangePropagato\x72" "program" "LRangePropagator$Program;").before _ s = true := hts _ (by decide +kernel)
  have f197 : (Cond.fieldLink RX8 197 "RangePropagator$Execution" "stepCount" "I").before _ s = true := hts _ (by decide +kernel)
  have iX3 : ∀ w ∈ wsX30, w ∈ wsX8_run := by decide +kernel
  refine lv_iload_n hx hb dX8_run_0 rfl (lv_at hl 2 rfl) ?_
  refine lv_iconst (v := nI 1) hx hb dX8_run_1 (by decide) ?_
  refine lv_icmp_lt (tgt := 12) hx hb dX8_run_2 (by decide) (fun q1 => ?_) (fun q1 => ?_)
  · skip
    exact wr_thr (text := "steps is not 1 to 300") hx hb hflag hown (by decide +kernel) kl93 kiIA (by decide +kernel) (by decide +kernel) xt_IA xg_IA xo_IA hZ hK hw (hl.1.trans hml.symm) dX8_run_12 dX8_run_15 dX8_run_16 dX8_run_18 dX8_run_21 hout (Nat.le_of_ble_eq_true rfl) (Nat.le_of_ble_eq_true rfl) (Nat.le_of_ble_eq_true rfl) (Nat.le_of_ble_eq_true rfl) hlocks (Nat.le_of_ble_eq_true rfl) (Nat.le_of_ble_eq_true rfl) ⟨rfl, nS_1 q1⟩
  · skip
    refine lv_iload_n hx hb dX8_run_5 rfl (lv_at hl 2 rfl) ?_
    refine lv_sipush (v := nI 300) hx hb dX8_run_6 (by decide) ?_
    refine lv_icmp_le (tgt := 22) hx hb dX8_run_9 (by decide) (fun q2 => ?_) (fun q2 => ?_)
    · obtain ⟨steps_n, steps_1, steps_3, rfl⟩ := inS_of q1 q2
      refine lv_aload_n hx hb dX8_run_22 rfl (lv_at hl 0 rfl) ?_
      refine wr_gr hx hb hown hK hts iX8 (ci := 7) rfl 3 (by decide) f33 rfl hw 329 (by omega) 336 cs_X rfl dX8_run_23 ?_
      refine lv_aload_n hx hb dX8_run_26 rfl (lv_at hl 0 rfl) ?_
      refine wr_gr hx hb hown hK hts iX8 (ci := 7) rfl 0 (by decide) f10 rfl hw 329 (by omega) 330 cs_X rfl dX8_run_27 ?_
      refine lv_lload_n hx hb dX8_run_30 rfl (lv_at hl 1 rfl) ?_
      refine lv_iload_n hx hb dX8_run_31 rfl (lv_at hl 2 rfl) ?_
      refine wr_cVv (k := 336) (ci := 2) (As := [.ref (ad 330), .long seed, .int (nI steps_n)]) (rest := []) ⟨hx, hb, hml, hown, hts⟩ (cwV 3 hts gX8_run_X3_execute rfl rfl rfl (by decide +kernel) ⟨Nat.le_of_ble_eq_true rfl, Nat.le_of_ble_eq_true rfl⟩) hK hA hw (k_X3_execute l D ad cs s.heap.size M J seed steps_n (by omega) (by omega) hP hF) (by omega) cs_Q rfl rfl rfl hl.1 (Nat.le_of_ble_eq_true rfl) ⟨Nat.le_of_ble_eq_true rfl, Nat.le_of_ble_eq_true rfl⟩ dX8_run_32 (fun M4 J5 H locs h6 hw => ?_)
      refine lv_aload_n hx hb dX8_run_35 rfl (lv_at hl 0 rfl) ?_
      refine wr_gr hx hb hown hK hts iX8 (ci := 7) rfl 3 (by decide) f33 rfl hw 329 (by omega) 336 cs_X rfl dX8_run_36 ?_
      refine wr_gi hx hb hown hK hts iX3 (ci := 2) rfl 3 (by decide) f197 rfl hw 336 (by omega) cs_Q rfl dX8_run_39 ?_
      exact vx_ret (W.widen (k := 1) (n := 6) (Nat.le_of_ble_eq_true rfl) (Nat.le_of_ble_eq_true rfl) (wr_iret hx hb hr rfl hK hw ⟨⟨steps_n, steps_1, steps_3, rfl⟩, (by rw [tn_nI (by omega)]; exact h6), rfl⟩ hlocks dX8_run_42))
    · skip
      exact wr_thr (text := "steps is not 1 to 300") hx hb hflag hown (by decide +kernel) kl93 kiIA (by decide +kernel) (by decide +kernel) xt_IA xg_IA xo_IA hZ hK hw (hl.1.trans hml.symm) dX8_run_12 dX8_run_15 dX8_run_16 dX8_run_18 dX8_run_21 hout (Nat.le_of_ble_eq_true rfl) (Nat.le_of_ble_eq_true rfl) (Nat.le_of_ble_eq_true rfl) (Nat.le_of_ble_eq_true rfl) hlocks (Nat.le_of_ble_eq_true rfl) (Nat.le_of_ble_eq_true rfl) ⟨rfl, nS_2 q2⟩
set_option maxHeartbeats 4000000 in
set_option maxRecDepth 100000 in
theorem k_X8_enteredBlock (l : Launch) (hflag : l.stackTraces = false) (D : va_G) (ad : Nat → Nat) (cs : Nat → ClassId) (sz : Nat) (M : wM) (J : wJ) (st : Int32) (sc : Nat) (hsc : M 336 3 = nI sc) (hsc3 : sc ≤ 300) : wXi l yX8_enteredBlock wsX8_enteredBlock { frames := 7, cells := 1, slots := 6, locals := 121 } D 340 cSh ad cs [.ref (ad 329), .int st] sz M J 1 6 (fun r_ u_ => inB st sc ∧ u_ = (M, J) ∧ r_ = M 338 (tn st)) (fun E_ => E_ = xIX ∧ ¬ inB st sc) := by
  refine wX_i (cc := cX8_enteredBlock) (maxL := 2) (ret := (some .int)) (by decide) rfl (Nat.le_of_ble_eq_true rfl) ?_
  intro p e s m below meth c ls A hx hb hr hml hown hts hlocks hK hA hw hl hAe hZ hout
  clear hAe
  have hl : lv_has ls 2 [(0, .ref (ad 329)), (1, .int st)] := hl
  have f33 : (Cond.fieldLink RX8 33 "RangePropagato\x72" "execution" "LRangePropagator$Execution;").before _ s = true := hts _ (by decide +kernel)
  have iX8 : ∀ w ∈ wsX80, w ∈ wsX8_enteredBlock := by decide +kernel
  have f203 : (Cond.fieldLink RX8 203 "RangePropagator$Execution" "stepBlocks" "[I").before _ s = true := hts _ (by decide +kernel)
  have iX3 : ∀ w ∈ wsX30, w ∈ wsX8_enteredBlock := by decide +kernel
  refine lv_aload_n hx hb dX8_enteredBlock_0 rfl (lv_at hl 0 rfl) ?_
  refine lv_iload_n hx hb dX8_enteredBlock_1 rfl (lv_at hl 1 rfl) ?_
  refine wr_xVv (k := 329) (ci := 7) (As := [.int st]) (rest := []) ⟨hx, hb, hml, hown, hts⟩ (cwV 1 hts gX8_enteredBlock_X8_requireStep rfl rfl rfl (by decide +kernel) ⟨Nat.le_of_ble_eq_true rfl, Nat.le_of_ble_eq_true rfl⟩) hK hA hZ hw (k_X8_requireStep l hflag D ad cs s.heap.size M J st sc hsc hsc3) (by omega) cs_X rfl rfl rfl hl.1 (Nat.le_of_ble_eq_true rfl) ⟨Nat.le_of_ble_eq_true rfl, Nat.le_of_ble_eq_true rfl⟩ dX8_enteredBlock_2 hout hlocks (fun E z => z) ⟨Nat.le_of_ble_eq_true rfl, Nat.le_of_ble_eq_true rfl⟩ (fun M2 J3 H locs h4 hw => ?_)
  obtain ⟨h4u, h4i⟩ := h4
  cases h4u
  obtain ⟨st_n, st_h, rfl⟩ := h4i
  refine lv_aload_n hx hb dX8_enteredBlock_5 rfl (lv_at hl 0 rfl) ?_
  refine wr_gr hx hb hown hK hts iX8 (ci := 7) rfl 3 (by decide) f33 rfl hw 329 (by omega) 336 cs_X rfl dX8_enteredBlock_6 ?_
  refine wr_gr hx hb hown hK hts iX3 (ci := 2) rfl 1 (by decide) f203 rfl hw 336 (by omega) 338 cs_Q rfl dX8_enteredBlock_9 ?_
  refine lv_iload_n hx hb dX8_enteredBlock_12 rfl (lv_at hl 1 rfl) ?_
  refine wr_ildN hx hb hK hw 338 (by omega) cs_QB (by decide) st_n rfl (by omega) dX8_enteredBlock_13 ?_
  exact vx_ret (W.widen (k := 1) (n := 6) (Nat.le_of_ble_eq_true rfl) (Nat.le_of_ble_eq_true rfl) (wr_iret hx hb hr rfl hK hw ⟨⟨st_n, st_h, rfl⟩, rfl, (by rw [tn_nI (by omega)])⟩ hlocks dX8_enteredBlock_14))
set_option maxHeartbeats 4000000 in
set_option maxRecDepth 100000 in
theorem k_X8_enteredWith (l : Launch) (hflag : l.stackTraces = false) (D : va_G) (ad : Nat → Nat) (cs : Nat → ClassId) (sz : Nat) (M : wM) (J : wJ) (st : Int32) (v : Int32) (sc : Nat) (hsc : M 336 3 = nI sc) (hsc3 : sc ≤ 300) : wXi l yX8_enteredWith wsX8_enteredWith { frames := 7, cells := 2, slots := 12, locals := 121 } D 340 cSh ad cs [.ref (ad 329), .int st, .int v] sz M J 2 12 (fun r_ u_ => inB st sc ∧ inB v 6 ∧ u_ = (M, J) ∧ r_ = M 339 (tn st * 6 + tn v)) (fun E_ => E_ = xIX ∧ ¬ (inB st sc ∧ inB v 6)) := by
  refine wX_i (cc := cX8_enteredWith) (maxL := 3) (ret := (some .int)) (by decide) rfl (Nat.le_of_ble_eq_true rfl) ?_
  intro p e s m below meth c ls A hx hb hr hml hown hts hlocks hK hA hw hl hAe hZ hout
  clear hAe
  have hl : lv_has ls 3 [(0, .ref (ad 329)), (1, .int st), (2, .int v)] := hl
  have f33 : (Cond.fieldLink RX8 33 "RangePropagato\x72" "execution" "LRangePropagator$Execution;").before _ s = true := hts _ (by decide +kernel)
  have iX8 : ∀ w ∈ wsX80, w ∈ wsX8_enteredWith := by decide +kernel
  have f206 : (Cond.fieldLink RX8 206 "RangePropagator$Execution" "stepValues" "[I").before _ s = true := hts _ (by decide +kernel)
  have iX3 : ∀ w ∈ wsX30, w ∈ wsX8_enteredWith := by decide +kernel
  refine lv_aload_n hx hb dX8_enteredWith_0 rfl (lv_at hl 0 rfl) ?_
  refine lv_iload_n hx hb dX8_enteredWith_1 rfl (lv_at hl 1 rfl) ?_
  refine wr_xVv (k := 329) (ci := 7) (As := [.int st]) (rest := []) ⟨hx, hb, hml, hown, hts⟩ (cwV 1 hts gX8_enteredWith_X8_requireStep rfl rfl rfl (by decide +kernel) ⟨Nat.le_of_ble_eq_true rfl, Nat.le_of_ble_eq_true rfl⟩) hK hA hZ hw (k_X8_requireStep l hflag D ad cs s.heap.size M J st sc hsc hsc3) (by omega) cs_X rfl rfl rfl hl.1 (Nat.le_of_ble_eq_true rfl) ⟨Nat.le_of_ble_eq_true rfl, Nat.le_of_ble_eq_true rfl⟩ dX8_enteredWith_2 hout hlocks (fun E z => ⟨z.1, fun y => z.2 y.1⟩) ⟨Nat.le_of_ble_eq_true rfl, Nat.le_of_ble_eq_true rfl⟩ (fun M2 J3 H locs h4 hw => ?_)
  obtain ⟨h4u, h4i⟩ := h4
  cases h4u
  obtain ⟨st_n, st_h, rfl⟩ := h4i
  refine lv_iload_n hx hb dX8_enteredWith_5 rfl (lv_at hl 2 rfl) ?_
  refine wr_xSv (As := [.int v]) (rest := []) ⟨hx, hb, hml, hown, hts⟩ (va_cwS 1 hts gX8_enteredWith_X8_requireVariable rfl rfl rfl (by decide +kernel) ⟨Nat.le_of_ble_eq_true rfl, Nat.le_of_ble_eq_true rfl⟩) hK hA hZ hw (k_X8_requireVariable l hflag D ad cs H.size M J v ) rfl rfl hl.1 (Nat.le_of_ble_eq_true rfl) ⟨Nat.le_of_ble_eq_true rfl, Nat.le_of_ble_eq_true rfl⟩ dX8_enteredWith_6 hout hlocks (fun E z => ⟨z.1, fun y => z.2 y.2⟩) ⟨Nat.le_of_ble_eq_true rfl, Nat.le_of_ble_eq_true rfl⟩ (fun M6 J7 H locs h8 hw => ?_)
  obtain ⟨h8u, h8i⟩ := h8
  cases h8u
  obtain ⟨v_n, v_h, rfl⟩ := h8i
  refine lv_aload_n hx hb dX8_enteredWith_9 rfl (lv_at hl 0 rfl) ?_
  refine wr_gr hx hb hown hK hts iX8 (ci := 7) rfl 3 (by decide) f33 rfl hw 329 (by omega) 336 cs_X rfl dX8_enteredWith_10 ?_
  refine wr_gr hx hb hown hK hts iX3 (ci := 2) rfl 2 (by decide) f206 rfl hw 336 (by omega) 339 cs_Q rfl dX8_enteredWith_13 ?_
  refine lv_iload_n hx hb dX8_enteredWith_16 rfl (lv_at hl 1 rfl) ?_
  refine lv_bipush (v := nI 6) hx hb dX8_enteredWith_17 (by decide) ?_
  refine lv_imulN hx hb dX8_enteredWith_19 ?_
  refine lv_iload_n hx hb dX8_enteredWith_20 rfl (lv_at hl 2 rfl) ?_
  refine lv_iaddN hx hb dX8_enteredWith_21 ?_
  refine wr_ildN hx hb hK hw 339 (by omega) cs_QW (by decide) ((st_n * 6) + v_n) rfl (by omega) dX8_enteredWith_22 ?_
  exact vx_ret (W.widen (k := 2) (n := 12) (Nat.le_of_ble_eq_true rfl) (Nat.le_of_ble_eq_true rfl) (wr_iret hx hb hr rfl hK hw ⟨⟨st_n, st_h, rfl⟩, ⟨v_n, v_h, rfl⟩, rfl, (by rw [tn_nI (by omega), tn_nI (by omega)])⟩ hlocks dX8_enteredWith_23))
set_option maxHeartbeats 4000000 in
set_option maxRecDepth 100000 in
theorem k_X8_result (l : Launch) (hflag : l.stackTraces = false) (D : va_G) (ad : Nat → Nat) (cs : Nat → ClassId) (sz : Nat) (M : wM) (J : wJ) (v : Int32)  : wXi l yX8_result wsX8_result { frames := 7, cells := 1, slots := 6, locals := 120 } D 340 cSh ad cs [.ref (ad 329), .int v] sz M J 1 6 (fun r_ u_ => inB v 6 ∧ u_ = (M, J) ∧ r_ = M 337 (tn v)) (fun E_ => E_ = xIX ∧ ¬ inB v 6) := by
  refine wX_i (cc := cX8_result) (maxL := 2) (ret := (some .int)) (by decide) rfl (Nat.le_of_ble_eq_true rfl) ?_
  intro p e s m below meth c ls A hx hb hr hml hown hts hlocks hK hA hw hl hAe hZ hout
  clear hAe
  have hl : lv_has ls 2 [(0, .ref (ad 329)), (1, .int v)] := hl
  have f33 : (Cond.fieldLink RX8 33 "RangePropagato\x72" "execution" "LRangePropagator$Execution;").before _ s = true := hts _ (by decide +kernel)
  have iX8 : ∀ w ∈ wsX80, w ∈ wsX8_result := by decide +kernel
  have f209 : (Cond.fieldLink RX8 209 "RangePropagator$Execution" "values" "[I").before _ s = true := hts _ (by decide +kernel)
  have iX3 : ∀ w ∈ wsX30, w ∈ wsX8_result := by decide +kernel
  refine lv_iload_n hx hb dX8_result_0 rfl (lv_at hl 1 rfl) ?_
  refine wr_xSv (As := [.int v]) (rest := []) ⟨hx, hb, hml, hown, hts⟩ (va_cwS 1 hts gX8_result_X8_requireVariable rfl rfl rfl (by decide +kernel) ⟨Nat.le_of_ble_eq_true rfl, Nat.le_of_ble_eq_true rfl⟩) hK hA hZ hw (k_X8_requireVariable l hflag D ad cs s.heap.size M J v ) rfl rfl hl.1 (Nat.le_of_ble_eq_true rfl) ⟨Nat.le_of_ble_eq_true rfl, Nat.le_of_ble_eq_true rfl⟩ dX8_result_1 hout hlocks (fun E z => z) ⟨Nat.le_of_ble_eq_true rfl, Nat.le_of_ble_eq_true rfl⟩ (fun M2 J3 H locs h4 hw => ?_)
  obtain ⟨h4u, h4i⟩ := h4
  cases h4u
  obtain ⟨v_n, v_h, rfl⟩ := h4i
  refine lv_aload_n hx hb dX8_result_4 rfl (lv_at hl 0 rfl) ?_
  refine wr_gr hx hb hown hK hts iX8 (ci := 7) rfl 3 (by decide) f33 rfl hw 329 (by omega) 336 cs_X rfl dX8_result_5 ?_
  refine wr_gr hx hb hown hK hts iX3 (ci := 2) rfl 0 (by decide) f209 rfl hw 336 (by omega) 337 cs_Q rfl dX8_result_8 ?_
  refine lv_iload_n hx hb dX8_result_11 rfl (lv_at hl 1 rfl) ?_
  refine wr_ildN hx hb hK hw 337 (by omega) cs_QV (by decide) v_n rfl (by omega) dX8_result_12 ?_
  exact vx_ret (W.widen (k := 1) (n := 6) (Nat.le_of_ble_eq_true rfl) (Nat.le_of_ble_eq_true rfl) (wr_iret hx hb hr rfl hK hw ⟨⟨v_n, v_h, rfl⟩, rfl, (by rw [tn_nI (by omega)])⟩ hlocks dX8_result_13))
