/-! RangePropagator: the tests that throw: laid by wip/gen/specs12.py -/
set_option maxHeartbeats 4000000 in
set_option maxRecDepth 100000 in
theorem k_X8_requireVariable (l : Launch) (hflag : l.stackTraces = false) (D : va_G) (ad : Nat → Nat) (cs : Nat → ClassId) (sz : Nat) (M : wM) (J : wJ) (v : Int32)  : wXv l yX8_requireVariable wsX8_requireVariable { frames := 6, cells := 1, slots := 6, locals := 100 } D 340 cSh ad cs [.int v] sz M J 1 6 (fun u_ => u_ = (M, J) ∧ inB v 6) (fun E_ => E_ = xIX ∧ ¬ inB v 6) := by
  refine wX_v (cc := cX8_requireVariable) (maxL := 1) (ret := none) (by decide) rfl (Nat.le_of_ble_eq_true rfl) ?_
  intro p e s m below meth c ls A hx hb hr hml hown hts hlocks hK hA hw hl hAe hZ hout
  clear hAe
  have hl : lv_has ls 1 [(0, .int v)] := hl
  have kl171 : (Cond.classLink RX8 171 xIX).before _ s = true := hts _ (by decide +kernel)
  have kiIX : (Cond.initialized xIX).before _ s = true := hts _ (by decide +kernel)
  have xt_IX : ∀ w ∈ (vx_atS RX8 175 xIX xNs).filter goodWord, w.before _ s = true := fun w h => hts w ((by decide +kernel : ∀ w ∈ (vx_atS RX8 175 xIX xNs).filter goodWord, w ∈ wsX8_requireVariable) w h)
  refine lv_iload_n hx hb dX8_requireVariable_0 rfl (lv_at hl 0 rfl) ?_
  refine lv_if_lt (tgt := 10) hx hb dX8_requireVariable_1 (by decide) (fun q1 => ?_) (fun q1 => ?_)
  · skip
    exact wr_thr (text := "there is no such variable") hx hb hflag hown (by decide +kernel) kl171 kiIX (by decide +kernel) (by decide +kernel) xt_IX xg_IX xo_IX hZ hK hw (hl.1.trans hml.symm) dX8_requireVariable_10 dX8_requireVariable_13 dX8_requireVariable_14 dX8_requireVariable_16 dX8_requireVariable_19 hout (Nat.le_of_ble_eq_true rfl) (Nat.le_of_ble_eq_true rfl) (Nat.le_of_ble_eq_true rfl) (Nat.le_of_ble_eq_true rfl) hlocks (Nat.le_of_ble_eq_true rfl) (Nat.le_of_ble_eq_true rfl) ⟨rfl, nB_1 q1 (by decide)⟩
  · skip
    refine lv_iload_n hx hb dX8_requireVariable_4 rfl (lv_at hl 0 rfl) ?_
    refine lv_bipush (v := nI 6) hx hb dX8_requireVariable_5 (by decide) ?_
    refine lv_icmp_lt (tgt := 20) hx hb dX8_requireVariable_7 (by decide) (fun q2 => ?_) (fun q2 => ?_)
    · skip
      exact vx_ret (W.widen (k := 1) (n := 6) (Nat.le_of_ble_eq_true rfl) (Nat.le_of_ble_eq_true rfl) (wr_vret hx hb hr hK hw ⟨rfl, inB_of q1 q2 (by decide)⟩ hlocks dX8_requireVariable_20))
    · skip
      exact wr_thr (text := "there is no such variable") hx hb hflag hown (by decide +kernel) kl171 kiIX (by decide +kernel) (by decide +kernel) xt_IX xg_IX xo_IX hZ hK hw (hl.1.trans hml.symm) dX8_requireVariable_10 dX8_requireVariable_13 dX8_requireVariable_14 dX8_requireVariable_16 dX8_requireVariable_19 hout (Nat.le_of_ble_eq_true rfl) (Nat.le_of_ble_eq_true rfl) (Nat.le_of_ble_eq_true rfl) (Nat.le_of_ble_eq_true rfl) hlocks (Nat.le_of_ble_eq_true rfl) (Nat.le_of_ble_eq_true rfl) ⟨rfl, nB_2 q2 (by decide)⟩
set_option maxHeartbeats 4000000 in
set_option maxRecDepth 100000 in
theorem k_X8_requireBlock (l : Launch) (hflag : l.stackTraces = false) (D : va_G) (ad : Nat → Nat) (cs : Nat → ClassId) (sz : Nat) (M : wM) (J : wJ) (v : Int32) (cnt : Nat) (hn : M 330 2 = nI cnt) (hn16 : cnt ≤ 16) : wXv l yX8_requireBlock wsX8_requireBlock { frames := 6, cells := 1, slots := 6, locals := 100 } D 340 cSh ad cs [.ref (ad 329), .int v] sz M J 1 6 (fun u_ => u_ = (M, J) ∧ inB v cnt) (fun E_ => E_ = xIX ∧ ¬ inB v cnt) := by
  refine wX_v (cc := cX8_requireBlock) (maxL := 2) (ret := none) (by decide) rfl (Nat.le_of_ble_eq_true rfl) ?_
  intro p e s m below meth c ls A hx hb hr hml hown hts hlocks hK hA hw hl hAe hZ hout
  clear hAe
  have hl : lv_has ls 2 [(0, .ref (ad 329)), (1, .int v)] := hl
  have kl171 : (Cond.classLink RX8 171 xIX).before _ s = true := hts _ (by decide +kernel)
  have kiIX : (Cond.initialized xIX).before _ s = true := hts _ (by decide +kernel)
  have xt_IX : ∀ w ∈ (vx_atS RX8 175 xIX xNs).filter goodWord, w.before _ s = true := fun w h => hts w ((by decide +kernel : ∀ w ∈ (vx_atS RX8 175 xIX xNs).filter goodWord, w ∈ wsX8_requireBlock) w h)
  have f10 : (Cond.fieldLink RX8 10 "RangePropagato\x72" "program" "LRangePropagator$Program;").before _ s = true := hts _ (by decide +kernel)
  have iX8 : ∀ w ∈ wsX80, w ∈ wsX8_requireBlock := by decide +kernel
  have f41 : (Cond.fieldLink RX8 41 "RangePropagator$Program" "count" "I").before _ s = true := hts _ (by decide +kernel)
  have iX5 : ∀ w ∈ wsX50, w ∈ wsX8_requireBlock := by decide +kernel
  refine lv_iload_n hx hb dX8_requireBlock_0 rfl (lv_at hl 1 rfl) ?_
  refine lv_if_lt (tgt := 15) hx hb dX8_requireBlock_1 (by decide) (fun q1 => ?_) (fun q1 => ?_)
  · skip
    exact wr_thr (text := "there is no such block") hx hb hflag hown (by decide +kernel) kl171 kiIX (by decide +kernel) (by decide +kernel) xt_IX xg_IX xo_IX hZ hK hw (hl.1.trans hml.symm) dX8_requireBlock_15 dX8_requireBlock_18 dX8_requireBlock_19 dX8_requireBlock_21 dX8_requireBlock_24 hout (Nat.le_of_ble_eq_true rfl) (Nat.le_of_ble_eq_true rfl) (Nat.le_of_ble_eq_true rfl) (Nat.le_of_ble_eq_true rfl) hlocks (Nat.le_of_ble_eq_true rfl) (Nat.le_of_ble_eq_true rfl) ⟨rfl, nB_1 q1 (by omega)⟩
  · skip
    refine lv_iload_n hx hb dX8_requireBlock_4 rfl (lv_at hl 1 rfl) ?_
    refine lv_aload_n hx hb dX8_requireBlock_5 rfl (lv_at hl 0 rfl) ?_
    refine wr_gr hx hb hown hK hts iX8 (ci := 7) rfl 0 (by decide) f10 rfl hw 329 (by omega) 330 cs_X rfl dX8_requireBlock_6 ?_
    refine wr_gi hx hb hown hK hts iX5 (ci := 4) rfl 2 (by decide) f41 rfl hw 330 (by omega) cs_P rfl dX8_requireBlock_9 ?_
    rw [show M 330 2 = nI cnt from hn]
    refine lv_icmp_lt (tgt := 25) hx hb dX8_requireBlock_12 (by decide) (fun q2 => ?_) (fun q2 => ?_)
    · skip
      exact vx_ret (W.widen (k := 1) (n := 6) (Nat.le_of_ble_eq_true rfl) (Nat.le_of_ble_eq_true rfl) (wr_vret hx hb hr hK hw ⟨rfl, inB_of q1 q2 (by omega)⟩ hlocks dX8_requireBlock_25))
    · skip
      exact wr_thr (text := "there is no such block") hx hb hflag hown (by decide +kernel) kl171 kiIX (by decide +kernel) (by decide +kernel) xt_IX xg_IX xo_IX hZ hK hw (hl.1.trans hml.symm) dX8_requireBlock_15 dX8_requireBlock_18 dX8_requireBlock_19 dX8_requireBlock_21 dX8_requireBlock_24 hout (Nat.le_of_ble_eq_true rfl) (Nat.le_of_ble_eq_true rfl) (Nat.le_of_ble_eq_true rfl) (Nat.le_of_ble_eq_true rfl) hlocks (Nat.le_of_ble_eq_true rfl) (Nat.le_of_ble_eq_true rfl) ⟨rfl, nB_2 q2 (by omega)⟩
set_option maxHeartbeats 4000000 in
set_option maxRecDepth 100000 in
theorem k_X8_requireStep (l : Launch) (hflag : l.stackTraces = false) (D : va_G) (ad : Nat → Nat) (cs : Nat → ClassId) (sz : Nat) (M : wM) (J : wJ) (v : Int32) (sc : Nat) (hsc : M 336 3 = nI sc) (hsc3 : sc ≤ 300) : wXv l yX8_requireStep wsX8_requireStep { frames := 6, cells := 1, slots := 6, locals := 100 } D 340 cSh ad cs [.ref (ad 329), .int v] sz M J 1 6 (fun u_ => u_ = (M, J) ∧ inB v sc) (fun E_ => E_ = xIX ∧ ¬ inB v sc) := by
  refine wX_v (cc := cX8_requireStep) (maxL := 2) (ret := none) (by decide) rfl (Nat.le_of_ble_eq_true rfl) ?_
  intro p e s m below meth c ls A hx hb hr hml hown hts hlocks hK hA hw hl hAe hZ hout
  clear hAe
  have hl : lv_has ls 2 [(0, .ref (ad 329)), (1, .int v)] := hl
  have kl171 : (Cond.classLink RX8 171 xIX).before _ s = true := hts _ (by decide +kernel)
  have kiIX : (Cond.initialized xIX).before _ s = true := hts _ (by decide +kernel)
  have xt_IX : ∀ w ∈ (vx_atS RX8 175 xIX xNs).filter goodWord, w.before _ s = true := fun w h => hts w ((by decide +kernel : ∀ w ∈ (vx_atS RX8 175 xIX xNs).filter goodWord, w ∈ wsX8_requireStep) w h)
  have f33 : (Cond.fieldLink RX8 33 "RangePropagato\x72" "execution" "LRangePropagator$Execution;").before _ s = true := hts _ (by decide +kernel)
  have iX8 : ∀ w ∈ wsX80, w ∈ wsX8_requireStep := by decide +kernel
  have f197 : (Cond.fieldLink RX8 197 "RangePropagator$Execution" "stepCount" "I").before _ s = true := hts _ (by decide +kernel)
  have iX3 : ∀ w ∈ wsX30, w ∈ wsX8_requireStep := by decide +kernel
  refine lv_iload_n hx hb dX8_requireStep_0 rfl (lv_at hl 1 rfl) ?_
  refine lv_if_lt (tgt := 15) hx hb dX8_requireStep_1 (by decide) (fun q1 => ?_) (fun q1 => ?_)
  · skip
    exact wr_thr (text := "there is no such step") hx hb hflag hown (by decide +kernel) kl171 kiIX (by decide +kernel) (by decide +kernel) xt_IX xg_IX xo_IX hZ hK hw (hl.1.trans hml.symm) dX8_requireStep_15 dX8_requireStep_18 dX8_requireStep_19 dX8_requireStep_21 dX8_requireStep_24 hout (Nat.le_of_ble_eq_true rfl) (Nat.le_of_ble_eq_true rfl) (Nat.le_of_ble_eq_true rfl) (Nat.le_of_ble_eq_true rfl) hlocks (Nat.le_of_ble_eq_true rfl) (Nat.le_of_ble_eq_true rfl) ⟨rfl, nB_1 q1 (by omega)⟩
  · skip
    refine lv_iload_n hx hb dX8_requireStep_4 rfl (lv_at hl 1 rfl) ?_
    refine lv_aload_n hx hb dX8_requireStep_5 rfl (lv_at hl 0 rfl) ?_
    refine wr_gr hx hb hown hK hts iX8 (ci := 7) rfl 3 (by decide) f33 rfl hw 329 (by omega) 336 cs_X rfl dX8_requireStep_6 ?_
    refine wr_gi hx hb hown hK hts iX3 (ci := 2) rfl 3 (by decide) f197 rfl hw 336 (by omega) cs_Q rfl dX8_requireStep_9 ?_
    rw [show M 336 3 = nI sc from hsc]
    refine lv_icmp_lt (tgt := 25) hx hb dX8_requireStep_12 (by decide) (fun q2 => ?_) (fun q2 => ?_)
    · skip
      exact vx_ret (W.widen (k := 1) (n := 6) (Nat.le_of_ble_eq_true rfl) (Nat.le_of_ble_eq_true rfl) (wr_vret hx hb hr hK hw ⟨rfl, inB_of q1 q2 (by omega)⟩ hlocks dX8_requireStep_25))
    · skip
      exact wr_thr (text := "there is no such step") hx hb hflag hown (by decide +kernel) kl171 kiIX (by decide +kernel) (by decide +kernel) xt_IX xg_IX xo_IX hZ hK hw (hl.1.trans hml.symm) dX8_requireStep_15 dX8_requireStep_18 dX8_requireStep_19 dX8_requireStep_21 dX8_requireStep_24 hout (Nat.le_of_ble_eq_true rfl) (Nat.le_of_ble_eq_true rfl) (Nat.le_of_ble_eq_true rfl) (Nat.le_of_ble_eq_true rfl) hlocks (Nat.le_of_ble_eq_true rfl) (Nat.le_of_ble_eq_true rfl) ⟨rfl, nB_2 q2 (by omega)⟩
set_option maxHeartbeats 4000000 in
set_option maxRecDepth 100000 in
theorem k_X8_requireRoom (l : Launch) (hflag : l.stackTraces = false) (D : va_G) (ad : Nat → Nat) (cs : Nat → ClassId) (sz : Nat) (M : wM) (J : wJ) (b : Nat) (n : Nat) (hb16 : b < 16) (hst : M (201 + 6 * b) 0 = nI n) (hst8 : n ≤ 8) : wXv l yX8_requireRoom wsX8_requireRoom { frames := 6, cells := 1, slots := 6, locals := 100 } D 340 cSh ad cs [.ref (ad 329), .int (nI b)] sz M J 1 6 (fun u_ => u_ = (M, J) ∧ n < 8) (fun E_ => E_ = xIS ∧ ¬ n < 8) := by
  refine wX_v (cc := cX8_requireRoom) (maxL := 2) (ret := none) (by decide) rfl (Nat.le_of_ble_eq_true rfl) ?_
  intro p e s m below meth c ls A hx hb hr hml hown hts hlocks hK hA hw hl hAe hZ hout
  clear hAe
  have hl : lv_has ls 2 [(0, .ref (ad 329)), (1, .int (nI b))] := hl
  have f10 : (Cond.fieldLink RX8 10 "RangePropagato\x72" "program" "LRangePropagator$Program;").before _ s = true := hts _ (by decide +kernel)
  have iX8 : ∀ w ∈ wsX80, w ∈ wsX8_requireRoom := by decide +kernel
  have f83 : (Cond.fieldLink RX8 83 "RangePropagator$Program" "blocks" "[LRangePropagator$Block;").before _ s = true := hts _ (by decide +kernel)
  have iX5 : ∀ w ∈ wsX50, w ∈ wsX8_requireRoom := by decide +kernel
  have f110 : (Cond.fieldLink RX8 110 "RangePropagator$Block" "statementCount" "I").before _ s = true := hts _ (by decide +kernel)
  have iX2 : ∀ w ∈ wsX20, w ∈ wsX8_requireRoom := by decide +kernel
  have kl45 : (Cond.classLink RX8 45 xIS).before _ s = true := hts _ (by decide +kernel)
  have kiIS : (Cond.initialized xIS).before _ s = true := hts _ (by decide +kernel)
  have xt_IS : ∀ w ∈ (vx_atS RX8 49 xIS xNs).filter goodWord, w.before _ s = true := fun w h => hts w ((by decide +kernel : ∀ w ∈ (vx_atS RX8 49 xIS xNs).filter goodWord, w ∈ wsX8_requireRoom) w h)
  refine lv_aload_n hx hb dX8_requireRoom_0 rfl (lv_at hl 0 rfl) ?_
  refine wr_gr hx hb hown hK hts iX8 (ci := 7) rfl 0 (by decide) f10 rfl hw 329 (by omega) 330 cs_X rfl dX8_requireRoom_1 ?_
  refine wr_gr hx hb hown hK hts iX5 (ci := 4) rfl 0 (by decide) f83 rfl hw 330 (by omega) 331 cs_P rfl dX8_requireRoom_4 ?_
  refine lv_iload_n hx hb dX8_requireRoom_7 rfl (lv_at hl 1 rfl) ?_
  refine wr_aldN hx hb hK hw 331 (by omega) cs_PB rfl (by decide) b rfl (by omega) dX8_requireRoom_8 ?_
  refine wr_gi hx hb hown hK hts iX2 (ci := 1) rfl 0 (by decide) f110 rfl hw (201 + 6 * b) (by omega) (cs_B (by omega)) rfl dX8_requireRoom_9 ?_
  rw [show M (201 + 6 * b) 0 = nI n from hst]
  refine lv_bipush (v := nI 8) hx hb dX8_requireRoom_12 (by decide) ?_
  refine lv_icmp_lt (tgt := 27) hx hb dX8_requireRoom_14 (by decide) (fun q1 => ?_) (fun q1 => ?_)
  · have q1n : n < 8 := (nI_ltI (by omega) (by omega)).mp q1
    exact vx_ret (W.widen (k := 1) (n := 6) (Nat.le_of_ble_eq_true rfl) (Nat.le_of_ble_eq_true rfl) (wr_vret hx hb hr hK hw ⟨rfl, by omega⟩ hlocks dX8_requireRoom_27))
  · have q1n : ¬ n < 8 := fun z => q1 ((nI_ltI (by omega) (by omega)).mpr z)
    exact wr_thr (text := "the block has 8 statements") hx hb hflag hown (by decide +kernel) kl45 kiIS (by decide +kernel) (by decide +kernel) xt_IS xg_IS xo_IS hZ hK hw (hl.1.trans hml.symm) dX8_requireRoom_17 dX8_requireRoom_20 dX8_requireRoom_21 dX8_requireRoom_23 dX8_requireRoom_26 hout (Nat.le_of_ble_eq_true rfl) (Nat.le_of_ble_eq_true rfl) (Nat.le_of_ble_eq_true rfl) (Nat.le_of_ble_eq_true rfl) hlocks (Nat.le_of_ble_eq_true rfl) (Nat.le_of_ble_eq_true rfl) ⟨rfl, by omega⟩
set_option maxHeartbeats 4000000 in
set_option maxRecDepth 100000 in
theorem k_X8_requireAnalysis (l : Launch) (hflag : l.stackTraces = false) (D : va_G) (ad : Nat → Nat) (cs : Nat → ClassId) (sz : Nat) (M : wM) (J : wJ)   : wXv l yX8_requireAnalysis wsX8_requireAnalysis { frames := 6, cells := 1, slots := 6, locals := 100 } D 340 cSh ad cs [.ref (ad 329)] sz M J 1 6 (fun u_ => u_ = (M, J) ∧ ¬ M 329 4 = 0) (fun E_ => E_ = xIS ∧ M 329 4 = 0) := by
  refine wX_v (cc := cX8_requireAnalysis) (maxL := 1) (ret := none) (by decide) rfl (Nat.le_of_ble_eq_true rfl) ?_
  intro p e s m below meth c ls A hx hb hr hml hown hts hlocks hK hA hw hl hAe hZ hout
  clear hAe
  have hl : lv_has ls 1 [(0, .ref (ad 329))] := hl
  have f37 : (Cond.fieldLink RX8 37 "RangePropagato\x72" "analysisStands" "Z").before _ s = true := hts _ (by decide +kernel)
  have iX8 : ∀ w ∈ wsX80, w ∈ wsX8_requireAnalysis := by decide +kernel
  have kl45 : (Cond.classLink RX8 45 xIS).before _ s = true := hts _ (by decide +kernel)
  have kiIS : (Cond.initialized xIS).before _ s = true := hts _ (by decide +kernel)
  have xt_IS : ∀ w ∈ (vx_atS RX8 49 xIS xNs).filter goodWord, w.before _ s = true := fun w h => hts w ((by decide +kernel : ∀ w ∈ (vx_atS RX8 49 xIS xNs).filter goodWord, w ∈ wsX8_requireAnalysis) w h)
  refine lv_aload_n hx hb dX8_requireAnalysis_0 rfl (lv_at hl 0 rfl) ?_
  refine wr_gi hx hb hown hK hts iX8 (ci := 7) rfl 4 (by decide) f37 rfl hw 329 (by omega) cs_X rfl dX8_requireAnalysis_1 ?_
  refine lv_if_ne (tgt := 17) hx hb dX8_requireAnalysis_4 (by decide) (fun q1 => ?_) (fun q1 => ?_)
  · skip
    exact vx_ret (W.widen (k := 1) (n := 6) (Nat.le_of_ble_eq_true rfl) (Nat.le_of_ble_eq_true rfl) (wr_vret hx hb hr hK hw ⟨rfl, q1⟩ hlocks dX8_requireAnalysis_17))
  · skip
    exact wr_thr (text := "there is no analysis") hx hb hflag hown (by decide +kernel) kl45 kiIS (by decide +kernel) (by decide +kernel) xt_IS xg_IS xo_IS hZ hK hw (hl.1.trans hml.symm) dX8_requireAnalysis_7 dX8_requireAnalysis_10 dX8_requireAnalysis_11 dX8_requireAnalysis_13 dX8_requireAnalysis_16 hout (Nat.le_of_ble_eq_true rfl) (Nat.le_of_ble_eq_true rfl) (Nat.le_of_ble_eq_true rfl) (Nat.le_of_ble_eq_true rfl) hlocks (Nat.le_of_ble_eq_true rfl) (Nat.le_of_ble_eq_true rfl) ⟨rfl, q1⟩
set_option maxHeartbeats 4000000 in
set_option maxRecDepth 100000 in
theorem k_X8_requireRange (l : Launch) (hflag : l.stackTraces = false) (D : va_G) (ad : Nat → Nat) (cs : Nat → ClassId) (sz : Nat) (M : wM) (J : wJ) (lo : Int32) (up : Int32)  : wXv l yX8_requireRange wsX8_requireRange { frames := 6, cells := 1, slots := 6, locals := 100 } D 340 cSh ad cs [.int lo, .int up] sz M J 1 6 (fun u_ => u_ = (M, J) ∧ isRg lo up) (fun E_ => E_ = xIA ∧ ¬ isRg lo up) := by
  refine wX_v (cc := cX8_requireRange) (maxL := 2) (ret := none) (by decide) rfl (Nat.le_of_ble_eq_true rfl) ?_
  intro p e s m below meth c ls A hx hb hr hml hown hts hlocks hK hA hw hl hAe hZ hout
  clear hAe
  have hl : lv_has ls 2 [(0, .int lo), (1, .int up)] := hl
  have k126 : (Cond.constant RX8 126 (-1000000000)).before _ s = true := hts _ (by decide +kernel)
  have kl93 : (Cond.classLink RX8 93 xIA).before _ s = true := hts _ (by decide +kernel)
  have kiIA : (Cond.initialized xIA).before _ s = true := hts _ (by decide +kernel)
  have xt_IA : ∀ w ∈ (vx_atS RX8 97 xIA xNs).filter goodWord, w.before _ s = true := fun w h => hts w ((by decide +kernel : ∀ w ∈ (vx_atS RX8 97 xIA xNs).filter goodWord, w ∈ wsX8_requireRange) w h)
  have k127 : (Cond.constant RX8 127 (1000000000)).before _ s = true := hts _ (by decide +kernel)
  refine lv_iload_n hx hb dX8_requireRange_0 rfl (lv_at hl 0 rfl) ?_
  refine lv_ldc hx hb hown k126 dX8_requireRange_1 ?_
  refine lv_icmp_lt (tgt := 17) hx hb dX8_requireRange_3 (by decide) (fun q1 => ?_) (fun q1 => ?_)
  · skip
    exact wr_thr (text := "this is no range") hx hb hflag hown (by decide +kernel) kl93 kiIA (by decide +kernel) (by decide +kernel) xt_IA xg_IA xo_IA hZ hK hw (hl.1.trans hml.symm) dX8_requireRange_17 dX8_requireRange_20 dX8_requireRange_21 dX8_requireRange_23 dX8_requireRange_26 hout (Nat.le_of_ble_eq_true rfl) (Nat.le_of_ble_eq_true rfl) (Nat.le_of_ble_eq_true rfl) (Nat.le_of_ble_eq_true rfl) hlocks (Nat.le_of_ble_eq_true rfl) (Nat.le_of_ble_eq_true rfl) ⟨rfl, fun z => z.1 q1⟩
  · skip
    refine lv_iload_n hx hb dX8_requireRange_6 rfl (lv_at hl 1 rfl) ?_
    refine lv_ldc hx hb hown k127 dX8_requireRange_7 ?_
    refine lv_icmp_gt (tgt := 17) hx hb dX8_requireRange_9 (by decide) (fun q2 => ?_) (fun q2 => ?_)
    · skip
      exact wr_thr (text := "this is no range") hx hb hflag hown (by decide +kernel) kl93 kiIA (by decide +kernel) (by decide +kernel) xt_IA xg_IA xo_IA hZ hK hw (hl.1.trans hml.symm) dX8_requireRange_17 dX8_requireRange_20 dX8_requireRange_21 dX8_requireRange_23 dX8_requireRange_26 hout (Nat.le_of_ble_eq_true rfl) (Nat.le_of_ble_eq_true rfl) (Nat.le_of_ble_eq_true rfl) (Nat.le_of_ble_eq_true rfl) hlocks (Nat.le_of_ble_eq_true rfl) (Nat.le_of_ble_eq_true rfl) ⟨rfl, fun z => z.2.1 q2⟩
    · skip
      refine lv_iload_n hx hb dX8_requireRange_12 rfl (lv_at hl 0 rfl) ?_
      refine lv_iload_n hx hb dX8_requireRange_13 rfl (lv_at hl 1 rfl) ?_
      refine lv_icmp_le (tgt := 27) hx hb dX8_requireRange_14 (by decide) (fun q3 => ?_) (fun q3 => ?_)
      · skip
        exact vx_ret (W.widen (k := 1) (n := 6) (Nat.le_of_ble_eq_true rfl) (Nat.le_of_ble_eq_true rfl) (wr_vret hx hb hr hK hw ⟨rfl, q1, q2, q3⟩ hlocks dX8_requireRange_27))
      · skip
        exact wr_thr (text := "this is no range") hx hb hflag hown (by decide +kernel) kl93 kiIA (by decide +kernel) (by decide +kernel) xt_IA xg_IA xo_IA hZ hK hw (hl.1.trans hml.symm) dX8_requireRange_17 dX8_requireRange_20 dX8_requireRange_21 dX8_requireRange_23 dX8_requireRange_26 hout (Nat.le_of_ble_eq_true rfl) (Nat.le_of_ble_eq_true rfl) (Nat.le_of_ble_eq_true rfl) (Nat.le_of_ble_eq_true rfl) hlocks (Nat.le_of_ble_eq_true rfl) (Nat.le_of_ble_eq_true rfl) ⟨rfl, fun z => q3 z.2.2⟩
set_option maxHeartbeats 4000000 in
set_option maxRecDepth 100000 in
theorem k_X8_endOfRange (l : Launch) (hflag : l.stackTraces = false) (D : va_G) (ad : Nat → Nat) (cs : Nat → ClassId) (sz : Nat) (M : wM) (J : wJ) (i : Nat) (v : Nat) (h : Int32) (hi : i < 67) (hv : v < 6) : wXi l yX8_endOfRange wsX8_endOfRange { frames := 6, cells := 1, slots := 6, locals := 100 } D 340 cSh ad cs [.ref (ad (3 * i)), .int (nI v), .int h] sz M J 1 6 (fun r_ u_ => u_ = (M, J) ∧ M (3 * i) 0 = 0 ∧ r_ = (if h = 0 then M (3 * i + 1) v else M (3 * i + 2) v)) (fun E_ => E_ = xNE ∧ ¬ M (3 * i) 0 = 0) := by
  refine wX_i (cc := cX8_endOfRange) (maxL := 3) (ret := (some .int)) (by decide) rfl (Nat.le_of_ble_eq_true rfl) ?_
  intro p e s m below meth c ls A hx hb hr hml hown hts hlocks hK hA hw hl hAe hZ hout
  clear hAe
  have hl : lv_has ls 3 [(0, .ref (ad (3 * i))), (1, .int (nI v)), (2, .int h)] := hl
  have f161 : (Cond.fieldLink RX8 161 "RangePropagator$State" "isNone" "Z").before _ s = true := hts _ (by decide +kernel)
  have iX7 : ∀ w ∈ wsX70, w ∈ wsX8_endOfRange := by decide +kernel
  have f64 : (Cond.fieldLink RX8 64 "RangePropagator$State" "low" "[I").before _ s = true := hts _ (by decide +kernel)
  have f70 : (Cond.fieldLink RX8 70 "RangePropagator$State" "high" "[I").before _ s = true := hts _ (by decide +kernel)
  have kl227 : (Cond.classLink RX8 227 xNE).before _ s = true := hts _ (by decide +kernel)
  have kiNE : (Cond.initialized xNE).before _ s = true := hts _ (by decide +kernel)
  have xt_NE : ∀ w ∈ nxA.filter goodWord, w.before _ s = true := fun w h => hts w ((by decide +kernel : ∀ w ∈ nxA.filter goodWord, w ∈ wsX8_endOfRange) w h)
  refine lv_aload_n hx hb dX8_endOfRange_0 rfl (lv_at hl 0 rfl) ?_
  refine wr_gi hx hb hown hK hts iX7 (ci := 6) rfl 0 (by decide) f161 rfl hw (3 * i) (by omega) (cs_S (by omega)) rfl dX8_endOfRange_1 ?_
  refine lv_if_eq (tgt := 17) hx hb dX8_endOfRange_4 (by decide) (fun q1 => ?_) (fun q1 => ?_)
  · skip
    refine lv_iload_n hx hb dX8_endOfRange_17 rfl (lv_at hl 2 rfl) ?_
    refine lv_if_eq (tgt := 30) hx hb dX8_endOfRange_18 (by decide) (fun q2 => ?_) (fun q2 => ?_)
    · skip
      refine lv_aload_n hx hb dX8_endOfRange_30 rfl (lv_at hl 0 rfl) ?_
      refine wr_gr hx hb hown hK hts iX7 (ci := 6) rfl 1 (by decide) f64 rfl hw (3 * i) (by omega) (3 * i + 1) (cs_S (by omega)) rfl dX8_endOfRange_31 ?_
      refine lv_iload_n hx hb dX8_endOfRange_34 rfl (lv_at hl 1 rfl) ?_
      refine wr_ildN hx hb hK hw (3 * i + 1) (by omega) (cs_SL (by omega)) (by decide) v rfl (by omega) dX8_endOfRange_35 ?_
      exact vx_ret (W.widen (k := 1) (n := 6) (Nat.le_of_ble_eq_true rfl) (Nat.le_of_ble_eq_true rfl) (wr_iret hx hb hr rfl hK hw ⟨rfl, q1, (by rw [if_pos q2])⟩ hlocks dX8_endOfRange_36))
    · skip
      refine lv_aload_n hx hb dX8_endOfRange_21 rfl (lv_at hl 0 rfl) ?_
      refine wr_gr hx hb hown hK hts iX7 (ci := 6) rfl 2 (by decide) f70 rfl hw (3 * i) (by omega) (3 * i + 2) (cs_S (by omega)) rfl dX8_endOfRange_22 ?_
      refine lv_iload_n hx hb dX8_endOfRange_25 rfl (lv_at hl 1 rfl) ?_
      refine wr_ildN hx hb hK hw (3 * i + 2) (by omega) (cs_SH (by omega)) (by decide) v rfl (by omega) dX8_endOfRange_26 ?_
      refine lv_goto (tgt := 36) hx hb dX8_endOfRange_27 (by decide) ?_
      exact vx_ret (W.widen (k := 1) (n := 6) (Nat.le_of_ble_eq_true rfl) (Nat.le_of_ble_eq_true rfl) (wr_iret hx hb hr rfl hK hw ⟨rfl, q1, (by rw [if_neg q2])⟩ hlocks dX8_endOfRange_36))
  · skip
    exact wr_thrN (text := "the entry state is none") hx hb hflag hown kl227 kiNE (by decide +kernel) xt_NE xo_NE hZ hK hw (hl.1.trans hml.symm) dX8_endOfRange_7 dX8_endOfRange_10 dX8_endOfRange_11 dX8_endOfRange_13 dX8_endOfRange_16 hout (Nat.le_of_ble_eq_true rfl) (Nat.le_of_ble_eq_true rfl) (Nat.le_of_ble_eq_true rfl) (Nat.le_of_ble_eq_true rfl) hlocks (Nat.le_of_ble_eq_true rfl) (Nat.le_of_ble_eq_true rfl) ⟨rfl, q1⟩
