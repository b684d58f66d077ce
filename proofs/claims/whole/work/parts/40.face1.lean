/-! RangePropagator: what does not throw: laid by wip/gen/specs11.py -/
def E_X8_blockCount (M : wM)  : Int32 := M 330 2
set_option maxHeartbeats 4000000 in
set_option maxRecDepth 100000 in
theorem k_X8_blockCount (l : Launch) (D : va_G) (ad : Nat → Nat) (cs : Nat → ClassId) (sz : Nat) (M : wM) (J : wJ)   : wCi l yX8_blockCount wsX8_blockCount { frames := 0, cells := 0, slots := 0, locals := 0 } D 340 cSh ad cs [.ref (ad 329)] sz M J (fun r_ u_ => u_ = (M, J) ∧ r_ = E_X8_blockCount M ) := by
  refine wC_i (cc := cX8_blockCount) (maxL := 1) (ret := (some .int)) (by decide) rfl (Nat.le_of_ble_eq_true rfl) ?_
  intro p e s m below meth c ls A hx hb hr hml hown hts hlocks hK hA hw hl hAe
  clear hAe
  have hl : lv_has ls 1 [(0, .ref (ad 329))] := hl
  have f10 : (Cond.fieldLink RX8 10 "RangePropagato\x72" "program" "LRangePropagator$Program;").before _ s = true := hts _ (by decide +kernel)
  have iX8 : ∀ w ∈ wsX80, w ∈ wsX8_blockCount := by decide +kernel
  have f41 : (Cond.fieldLink RX8 41 "RangePropagator$Program" "count" "I").before _ s = true := hts _ (by decide +kernel)
  have iX5 : ∀ w ∈ wsX50, w ∈ wsX8_blockCount := by decide +kernel
  refine lv_aload_n hx hb dX8_blockCount_0 rfl (lv_at hl 0 rfl) ?_
  refine wr_gr hx hb hown hK hts iX8 (ci := 7) rfl 0 (by decide) f10 rfl hw 329 (by omega) 330 cs_X rfl dX8_blockCount_1 ?_
  refine wr_gi hx hb hown hK hts iX5 (ci := 4) rfl 2 (by decide) f41 rfl hw 330 (by omega) cs_P rfl dX8_blockCount_4 ?_
  exact wr_iret hx hb hr rfl hK hw ⟨rfl, by unfold E_X8_blockCount; rfl⟩ hlocks dX8_blockCount_7
def E_X8_isAnalyzed (M : wM)  : Int32 := M 329 4
set_option maxHeartbeats 4000000 in
set_option maxRecDepth 100000 in
theorem k_X8_isAnalyzed (l : Launch) (D : va_G) (ad : Nat → Nat) (cs : Nat → ClassId) (sz : Nat) (M : wM) (J : wJ)  (hz9 : bz (M 329 4)) : wCi l yX8_isAnalyzed wsX8_isAnalyzed { frames := 0, cells := 0, slots := 0, locals := 0 } D 340 cSh ad cs [.ref (ad 329)] sz M J (fun r_ u_ => u_ = (M, J) ∧ r_ = E_X8_isAnalyzed M ) := by
  refine wC_i (cc := cX8_isAnalyzed) (maxL := 1) (ret := (some .boolean)) (by decide) rfl (Nat.le_of_ble_eq_true rfl) ?_
  intro p e s m below meth c ls A hx hb hr hml hown hts hlocks hK hA hw hl hAe
  clear hAe
  have hl : lv_has ls 1 [(0, .ref (ad 329))] := hl
  have f37 : (Cond.fieldLink RX8 37 "RangePropagato\x72" "analysisStands" "Z").before _ s = true := hts _ (by decide +kernel)
  have iX8 : ∀ w ∈ wsX80, w ∈ wsX8_isAnalyzed := by decide +kernel
  refine lv_aload_n hx hb dX8_isAnalyzed_0 rfl (lv_at hl 0 rfl) ?_
  refine wr_gi hx hb hown hK hts iX8 (ci := 7) rfl 4 (by decide) f37 rfl hw 329 (by omega) cs_X rfl dX8_isAnalyzed_1 ?_
  exact wr_iret hx hb hr (bz_n hz9) hK hw ⟨rfl, by unfold E_X8_isAnalyzed; rfl⟩ hlocks dX8_isAnalyzed_4
set_option maxHeartbeats 4000000 in
set_option maxRecDepth 100000 in
theorem k_X8_digestProgram (l : Launch) (D : va_G) (ad : Nat → Nat) (cs : Nat → ClassId) (sz : Nat) (M : wM) (J : wJ) (d : Int64) (cnt : Nat) (hn : M 330 2 = nI cnt) (hn16 : cnt ≤ 16) : wCl l yX8_digestProgram wsX8_digestProgram { frames := 0, cells := 0, slots := 0, locals := 0 } D 340 cSh ad cs [.ref (ad 329), .long d] sz M J (fun r_ u_ => u_ = (M, J) ∧ r_ = dgP M (d * 31 + (nI cnt).toInt64) cnt) := by
  refine wC_l (cc := cX8_digestProgram) (maxL := 6) (ret := (some .long)) (by decide) rfl (Nat.le_of_ble_eq_true rfl) ?_
  intro p e s m below meth c ls A hx hb hr hml hown hts hlocks hK hA hw hl hAe
  clear hAe
  have hl : lv_has ls 6 [(0, .ref (ad 329)), (1, .long d)] := hl
  have k218 : (Cond.constantLong RX8 218 (31)).before _ s = true := hts _ (by decide +kernel)
  have f10 : (Cond.fieldLink RX8 10 "RangePropagato\x72" "program" "LRangePropagator$Program;").before _ s = true := hts _ (by decide +kernel)
  have iX8 : ∀ w ∈ wsX80, w ∈ wsX8_digestProgram := by decide +kernel
  have f41 : (Cond.fieldLink RX8 41 "RangePropagator$Program" "count" "I").before _ s = true := hts _ (by decide +kernel)
  have iX5 : ∀ w ∈ wsX50, w ∈ wsX8_digestProgram := by decide +kernel
  have f83 : (Cond.fieldLink RX8 83 "RangePropagator$Program" "blocks" "[LRangePropagator$Block;").before _ s = true := hts _ (by decide +kernel)
  have f110 : (Cond.fieldLink RX8 110 "RangePropagator$Block" "statementCount" "I").before _ s = true := hts _ (by decide +kernel)
  have iX2 : ∀ w ∈ wsX20, w ∈ wsX8_digestProgram := by decide +kernel
  have f98 : (Cond.fieldLink RX8 98 "RangePropagator$Block" "edgeCount" "I").before _ s = true := hts _ (by decide +kernel)
  refine lv_lload_n hx hb dX8_digestProgram_0 rfl (lv_at hl 1 rfl) ?_
  refine lv_ldc2 hx hb hown k218 dX8_digestProgram_1 ?_
  refine lv_lmul hx hb dX8_digestProgram_4 ?_
  refine lv_aload_n hx hb dX8_digestProgram_5 rfl (lv_at hl 0 rfl) ?_
  refine wr_gr hx hb hown hK hts iX8 (ci := 7) rfl 0 (by decide) f10 rfl hw 329 (by omega) 330 cs_X rfl dX8_digestProgram_6 ?_
  refine wr_gi hx hb hown hK hts iX5 (ci := 4) rfl 2 (by decide) f41 rfl hw 330 (by omega) cs_P rfl dX8_digestProgram_9 ?_
  rw [show M 330 2 = nI cnt from hn]
  refine lv_i2l hx hb dX8_digestProgram_12 rfl ?_
  refine lv_ladd hx hb dX8_digestProgram_13 ?_
  refine lv_lstore_n (lv' := [(3, .long ((((d * ((31 : Int64)))) + ((nI cnt).toInt64)))), (0, .ref (ad 329)), (1, .long d)]) hx hb dX8_digestProgram_14 rfl hl (by decide) rfl (fun ls hl => ?_)
  refine lv_iconst (v := nI 0) hx hb dX8_digestProgram_15 (by decide) ?_
  refine lv_istore (lv' := [(5, .int (nI 0)), (3, .long ((((d * ((31 : Int64)))) + ((nI cnt).toInt64)))), (0, .ref (ad 329)), (1, .long d)]) hx hb dX8_digestProgram_16 hl (by decide) rfl (fun ls hl => ?_)
  refine w_loop (σ := Nat) (fun k M' J' ls => lv_has ls 6 [(0, .ref (ad 329)), (3, .long (dgP M (d * 31 + (nI cnt).toInt64) k)), (5, .int (nI k))] ∧ J' = J ∧ k ≤ cnt ∧ M' = M ∧ True) (fun k => cnt - k) (fun k M1 J1_ H locs ls hI hw ih2 => ?_) 0 ⟨lv_sub hl [2, 1, 0] rfl, rfl, by omega, rfl, trivial⟩ hw
  obtain ⟨hl, eJ_, hk_, hI⟩ := hI
  rw [eJ_] at hw
  clear eJ_
  obtain ⟨eM_, hI⟩ := hI
  rw [eM_] at hw
  clear eM_
  refine lv_iload hx hb dX8_digestProgram_18 (lv_at hl 2 rfl) ?_
  refine lv_aload_n hx hb dX8_digestProgram_20 rfl (lv_at hl 0 rfl) ?_
  refine wr_gr hx hb hown hK hts iX8 (ci := 7) rfl 0 (by decide) f10 rfl hw 329 (by omega) 330 cs_X rfl dX8_digestProgram_21 ?_
  refine wr_gi hx hb hown hK hts iX5 (ci := 4) rfl 2 (by decide) f41 rfl hw 330 (by omega) cs_P rfl dX8_digestProgram_24 ?_
  rw [show M 330 2 = nI cnt from hn]
  refine lv_icmp_ge (tgt := 78) hx hb dX8_digestProgram_27 (by decide) (fun q3 => ?_) (fun q3 => ?_)
  · have q3n : cnt ≤ k := (nI_leI (by omega) (by omega)).mp q3
    refine lv_lload_n hx hb dX8_digestProgram_78 rfl (lv_at hl 1 rfl) ?_
    exact wr_lret hx hb hr hK hw ⟨rfl, by have e : k = cnt := (by omega); rw [e]⟩ hlocks dX8_digestProgram_79
  · have q3n : ¬ cnt ≤ k := fun z => q3 ((nI_leI (by omega) (by omega)).mpr z)
    refine lv_lload_n hx hb dX8_digestProgram_30 rfl (lv_at hl 1 rfl) ?_
    refine lv_ldc2 hx hb hown k218 dX8_digestProgram_31 ?_
    refine lv_lmul hx hb dX8_digestProgram_34 ?_
    refine lv_aload_n hx hb dX8_digestProgram_35 rfl (lv_at hl 0 rfl) ?_
    refine wr_gr hx hb hown hK hts iX8 (ci := 7) rfl 0 (by decide) f10 rfl hw 329 (by omega) 330 cs_X rfl dX8_digestProgram_36 ?_
    refine wr_gr hx hb hown hK hts iX5 (ci := 4) rfl 0 (by decide) f83 rfl hw 330 (by omega) 331 cs_P rfl dX8_digestProgram_39 ?_
    refine lv_iload hx hb dX8_digestProgram_42 (lv_at hl 2 rfl) ?_
    refine wr_aldN hx hb hK hw 331 (by omega) cs_PB rfl (by decide) k rfl (by omega) dX8_digestProgram_44 ?_
    refine wr_gi hx hb hown hK hts iX2 (ci := 1) rfl 0 (by decide) f110 rfl hw (201 + 6 * k) (by omega) (cs_B (by omega)) rfl dX8_digestProgram_45 ?_
    refine lv_i2l hx hb dX8_digestProgram_48 rfl ?_
    refine lv_ladd hx hb dX8_digestProgram_49 ?_
    refine lv_lstore_n (lv' := [(3, .long (((((dgP M (d * 31 + (nI cnt).toInt64) k) * ((31 : Int64)))) + ((M (201 + 6 * k) 0).toInt64)))), (0, .ref (ad 329)), (5, .int (nI k))]) hx hb dX8_digestProgram_50 rfl hl (by decide) rfl (fun ls hl => ?_)
    refine lv_lload_n hx hb dX8_digestProgram_51 rfl (lv_at hl 0 rfl) ?_
    refine lv_ldc2 hx hb hown k218 dX8_digestProgram_52 ?_
    refine lv_lmul hx hb dX8_digestProgram_55 ?_
    refine lv_aload_n hx hb dX8_digestProgram_56 rfl (lv_at hl 1 rfl) ?_
    refine wr_gr hx hb hown hK hts iX8 (ci := 7) rfl 0 (by decide) f10 rfl hw 329 (by omega) 330 cs_X rfl dX8_digestProgram_57 ?_
    refine wr_gr hx hb hown hK hts iX5 (ci := 4) rfl 0 (by decide) f83 rfl hw 330 (by omega) 331 cs_P rfl dX8_digestProgram_60 ?_
    refine lv_iload hx hb dX8_digestProgram_63 (lv_at hl 2 rfl) ?_
    refine wr_aldN hx hb hK hw 331 (by omega) cs_PB rfl (by decide) k rfl (by omega) dX8_digestProgram_65 ?_
    refine wr_gi hx hb hown hK hts iX2 (ci := 1) rfl 5 (by decide) f98 rfl hw (201 + 6 * k) (by omega) (cs_B (by omega)) rfl dX8_digestProgram_66 ?_
    refine lv_i2l hx hb dX8_digestProgram_69 rfl ?_
    refine lv_ladd hx hb dX8_digestProgram_70 ?_
    refine lv_lstore_n (lv' := [(3, .long (((((((((dgP M (d * 31 + (nI cnt).toInt64) k) * ((31 : Int64)))) + ((M (201 + 6 * k) 0).toInt64))) * ((31 : Int64)))) + ((M (201 + 6 * k) 5).toInt64)))), (0, .ref (ad 329)), (5, .int (nI k))]) hx hb dX8_digestProgram_71 rfl hl (by decide) rfl (fun ls hl => ?_)
    refine lv_iinc (v := nI (k + 1)) (lv' := [(5, .int (nI (k + 1))), (3, .long (((((((((dgP M (d * 31 + (nI cnt).toInt64) k) * ((31 : Int64)))) + ((M (201 + 6 * k) 0).toInt64))) * ((31 : Int64)))) + ((M (201 + 6 * k) 5).toInt64)))), (0, .ref (ad 329))]) hx hb dX8_digestProgram_72 hl (k := 2) rfl (nI_1 _) (by decide) rfl (fun ls hl => ?_)
    refine lv_goto (tgt := 18) hx hb dX8_digestProgram_75 (by decide) ?_
    exact ih2 (k + 1) M J _ _ _ (by omega) ⟨lv_sub hl [2, 1, 0] rfl, rfl, by omega, rfl, trivial⟩ hw
set_option maxHeartbeats 4000000 in
set_option maxRecDepth 100000 in
theorem k_X8_digestRanges (l : Launch) (D : va_G) (ad : Nat → Nat) (cs : Nat → ClassId) (sz : Nat) (M : wM) (J : wJ) (d : Int64) (i : Nat) (hi : i < 67) : wCl l yX8_digestRanges wsX8_digestRanges { frames := 0, cells := 0, slots := 0, locals := 0 } D 340 cSh ad cs [.long d, .ref (ad (3 * i))] sz M J (fun r_ u_ => u_ = (M, J) ∧ r_ = dgR M i d 6) := by
  refine wC_l (cc := cX8_digestRanges) (maxL := 6) (ret := (some .long)) (by decide) rfl (Nat.le_of_ble_eq_true rfl) ?_
  intro p e s m below meth c ls A hx hb hr hml hown hts hlocks hK hA hw hl hAe
  clear hAe
  have hl : lv_has ls 6 [(0, .long d), (2, .ref (ad (3 * i)))] := hl
  have k218 : (Cond.constantLong RX8 218 (31)).before _ s = true := hts _ (by decide +kernel)
  have f64 : (Cond.fieldLink RX8 64 "RangePropagator$State" "low" "[I").before _ s = true := hts _ (by decide +kernel)
  have iX7 : ∀ w ∈ wsX70, w ∈ wsX8_digestRanges := by decide +kernel
  have f70 : (Cond.fieldLink RX8 70 "RangePropagator$State" "high" "[I").before _ s = true := hts _ (by decide +kernel)
  refine lv_lload_n hx hb dX8_digestRanges_0 rfl (lv_at hl 0 rfl) ?_
  refine lv_lstore_n (lv' := [(3, .long d), (0, .long d), (2, .ref (ad (3 * i)))]) hx hb dX8_digestRanges_1 rfl hl (by decide) rfl (fun ls hl => ?_)
  refine lv_iconst (v := nI 0) hx hb dX8_digestRanges_2 (by decide) ?_
  refine lv_istore (lv' := [(5, .int (nI 0)), (3, .long d), (0, .long d), (2, .ref (ad (3 * i)))]) hx hb dX8_digestRanges_3 hl (by decide) rfl (fun ls hl => ?_)
  refine w_loop (σ := Nat) (fun k M' J' ls => lv_has ls 6 [(2, .ref (ad (3 * i))), (3, .long (dgR M i d k)), (5, .int (nI k))] ∧ J' = J ∧ k ≤ 6 ∧ M' = M ∧ True) (fun k => 6 - k) (fun k M1 J1_ H locs ls hI hw ih2 => ?_) 0 ⟨lv_sub hl [3, 1, 0] rfl, rfl, by omega, rfl, trivial⟩ hw
  obtain ⟨hl, eJ_, hk_, hI⟩ := hI
  rw [eJ_] at hw
  clear eJ_
  obtain ⟨eM_, hI⟩ := hI
  rw [eM_] at hw
  clear eM_
  refine lv_iload hx hb dX8_digestRanges_5 (lv_at hl 2 rfl) ?_
  refine lv_bipush (v := nI 6) hx hb dX8_digestRanges_7 (by decide) ?_
  refine lv_icmp_ge (tgt := 48) hx hb dX8_digestRanges_9 (by decide) (fun q3 => ?_) (fun q3 => ?_)
  · have q3n : 6 ≤ k := (nI_leI (by omega) (by omega)).mp q3
    refine lv_lload_n hx hb dX8_digestRanges_48 rfl (lv_at hl 1 rfl) ?_
    exact wr_lret hx hb hr hK hw ⟨rfl, by have e : k = 6 := (by omega); rw [e]⟩ hlocks dX8_digestRanges_49
  · have q3n : ¬ 6 ≤ k := fun z => q3 ((nI_leI (by omega) (by omega)).mpr z)
    refine lv_lload_n hx hb dX8_digestRanges_12 rfl (lv_at hl 1 rfl) ?_
    refine lv_ldc2 hx hb hown k218 dX8_digestRanges_13 ?_
    refine lv_lmul hx hb dX8_digestRanges_16 ?_
    refine lv_aload_n hx hb dX8_digestRanges_17 rfl (lv_at hl 0 rfl) ?_
    refine wr_gr hx hb hown hK hts iX7 (ci := 6) rfl 1 (by decide) f64 rfl hw (3 * i) (by omega) (3 * i + 1) (cs_S (by omega)) rfl dX8_digestRanges_18 ?_
    refine lv_iload hx hb dX8_digestRanges_21 (lv_at hl 2 rfl) ?_
    refine wr_ildN hx hb hK hw (3 * i + 1) (by omega) (cs_SL (by omega)) (by decide) k rfl (by omega) dX8_digestRanges_23 ?_
    refine lv_i2l hx hb dX8_digestRanges_24 rfl ?_
    refine lv_ladd hx hb dX8_digestRanges_25 ?_
    refine lv_lstore_n (lv' := [(3, .long (((((dgR M i d k) * ((31 : Int64)))) + ((M (3 * i + 1) k).toInt64)))), (2, .ref (ad (3 * i))), (5, .int (nI k))]) hx hb dX8_digestRanges_26 rfl hl (by decide) rfl (fun ls hl => ?_)
    refine lv_lload_n hx hb dX8_digestRanges_27 rfl (lv_at hl 0 rfl) ?_
    refine lv_ldc2 hx hb hown k218 dX8_digestRanges_28 ?_
    refine lv_lmul hx hb dX8_digestRanges_31 ?_
    refine lv_aload_n hx hb dX8_digestRanges_32 rfl (lv_at hl 1 rfl) ?_
    refine wr_gr hx hb hown hK hts iX7 (ci := 6) rfl 2 (by decide) f70 rfl hw (3 * i) (by omega) (3 * i + 2) (cs_S (by omega)) rfl dX8_digestRanges_33 ?_
    refine lv_iload hx hb dX8_digestRanges_36 (lv_at hl 2 rfl) ?_
    refine wr_ildN hx hb hK hw (3 * i + 2) (by omega) (cs_SH (by omega)) (by decide) k rfl (by omega) dX8_digestRanges_38 ?_
    refine lv_i2l hx hb dX8_digestRanges_39 rfl ?_
    refine lv_ladd hx hb dX8_digestRanges_40 ?_
    refine lv_lstore_n (lv' := [(3, .long (((((((((dgR M i d k) * ((31 : Int64)))) + ((M (3 * i + 1) k).toInt64))) * ((31 : Int64)))) + ((M (3 * i + 2) k).toInt64)))), (2, .ref (ad (3 * i))), (5, .int (nI k))]) hx hb dX8_digestRanges_41 rfl hl (by decide) rfl (fun ls hl => ?_)
    refine lv_iinc (v := nI (k + 1)) (lv' := [(5, .int (nI (k + 1))), (3, .long (((((((((dgR M i d k) * ((31 : Int64)))) + ((M (3 * i + 1) k).toInt64))) * ((31 : Int64)))) + ((M (3 * i + 2) k).toInt64)))), (2, .ref (ad (3 * i)))]) hx hb dX8_digestRanges_42 hl (k := 2) rfl (nI_1 _) (by decide) rfl (fun ls hl => ?_)
    refine lv_goto (tgt := 5) hx hb dX8_digestRanges_45 (by decide) ?_
    exact ih2 (k + 1) M J _ _ _ (by omega) ⟨lv_sub hl [2, 1, 0] rfl, rfl, by omega, rfl, trivial⟩ hw
set_option maxHeartbeats 4000000 in
set_option maxRecDepth 100000 in
theorem k_X8_digestAnalysis (l : Launch) (D : va_G) (ad : Nat → Nat) (cs : Nat → ClassId) (sz : Nat) (M : wM) (J : wJ) (d : Int64) (cnt : Nat) (hn : M 330 2 = nI cnt) (hn16 : cnt ≤ 16) : wCl l yX8_digestAnalysis wsX8_digestAnalysis { frames := 1, cells := 0, slots := 0, locals := 25 } D 340 cSh ad cs [.ref (ad 329), .long d] sz M J (fun r_ u_ => u_ = (M, J) ∧ r_ = dgA M d cnt) := by
  refine wC_l (cc := cX8_digestAnalysis) (maxL := 7) (ret := (some .long)) (by decide) rfl (Nat.le_of_ble_eq_true rfl) ?_
  intro p e s m below meth c ls A hx hb hr hml hown hts hlocks hK hA hw hl hAe
  clear hAe
  have hl : lv_has ls 7 [(0, .ref (ad 329)), (1, .long d)] := hl
  have f10 : (Cond.fieldLink RX8 10 "RangePropagato\x72" "program" "LRangePropagator$Program;").before _ s = true := hts _ (by decide +kernel)
  have iX8 : ∀ w ∈ wsX80, w ∈ wsX8_digestAnalysis := by decide +kernel
  have f41 : (Cond.fieldLink RX8 41 "RangePropagator$Program" "count" "I").before _ s = true := hts _ (by decide +kernel)
  have iX5 : ∀ w ∈ wsX50, w ∈ wsX8_digestAnalysis := by decide +kernel
  have f26 : (Cond.fieldLink RX8 26 "RangePropagato\x72" "analysis" "LRangePropagator$Analysis;").before _ s = true := hts _ (by decide +kernel)
  have f152 : (Cond.fieldLink RX8 152 "RangePropagator$Analysis" "flows" "[LRangePropagator$Flow;").before _ s = true := hts _ (by decide +kernel)
  have iX0 : ∀ w ∈ wsX00, w ∈ wsX8_digestAnalysis := by decide +kernel
  have k218 : (Cond.constantLong RX8 218 (31)).before _ s = true := hts _ (by decide +kernel)
  have f188 : (Cond.fieldLink RX8 188 "RangePropagator$Flow" "visitCount" "I").before _ s = true := hts _ (by decide +kernel)
  have iX4 : ∀ w ∈ wsX40, w ∈ wsX8_digestAnalysis := by decide +kernel
  have f156 : (Cond.fieldLink RX8 156 "RangePropagator$Flow" "entryState" "LRangePropagator$State;").before _ s = true := hts _ (by decide +kernel)
  have f161 : (Cond.fieldLink RX8 161 "RangePropagator$State" "isNone" "Z").before _ s = true := hts _ (by decide +kernel)
  have iX7 : ∀ w ∈ wsX70, w ∈ wsX8_digestAnalysis := by decide +kernel
  refine lv_lload_n hx hb dX8_digestAnalysis_0 rfl (lv_at hl 1 rfl) ?_
  refine lv_lstore_n (lv' := [(3, .long d), (0, .ref (ad 329)), (1, .long d)]) hx hb dX8_digestAnalysis_1 rfl hl (by decide) rfl (fun ls hl => ?_)
  refine lv_iconst (v := nI 0) hx hb dX8_digestAnalysis_2 (by decide) ?_
  refine lv_istore (lv' := [(5, .int (nI 0)), (3, .long d), (0, .ref (ad 329)), (1, .long d)]) hx hb dX8_digestAnalysis_3 hl (by decide) rfl (fun ls hl => ?_)
  refine w_loop (σ := Nat) (fun k M' J' ls => lv_has ls 7 [(0, .ref (ad 329)), (3, .long (dgA M d k)), (5, .int (nI k))] ∧ J' = J ∧ k ≤ cnt ∧ M' = M ∧ True) (fun k => cnt - k) (fun k M1 J1_ H locs ls hI hw ih2 => ?_) 0 ⟨lv_sub hl [2, 1, 0] rfl, rfl, by omega, rfl, trivial⟩ hw
  obtain ⟨hl, eJ_, hk_, hI⟩ := hI
  rw [eJ_] at hw
  clear eJ_
  obtain ⟨eM_, hI⟩ := hI
  rw [eM_] at hw
  clear eM_
  refine lv_iload hx hb dX8_digestAnalysis_5 (lv_at hl 2 rfl) ?_
  refine lv_aload_n hx hb dX8_digestAnalysis_7 rfl (lv_at hl 0 rfl) ?_
  refine wr_gr hx hb hown hK hts iX8 (ci := 7) rfl 0 (by decide) f10 rfl hw 329 (by omega) 330 cs_X rfl dX8_digestAnalysis_8 ?_
  refine wr_gi hx hb hown hK hts iX5 (ci := 4) rfl 2 (by decide) f41 rfl hw 330 (by omega) cs_P rfl dX8_digestAnalysis_11 ?_
  rw [show M 330 2 = nI cnt from hn]
  refine lv_icmp_ge (tgt := 69) hx hb dX8_digestAnalysis_14 (by decide) (fun q3 => ?_) (fun q3 => ?_)
  · have q3n : cnt ≤ k := (nI_leI (by omega) (by omega)).mp q3
    refine lv_lload_n hx hb dX8_digestAnalysis_69 rfl (lv_at hl 1 rfl) ?_
    exact wr_lret hx hb hr hK hw ⟨rfl, by have e : k = cnt := (by omega); rw [e]⟩ hlocks dX8_digestAnalysis_70
  · have q3n : ¬ cnt ≤ k := fun z => q3 ((nI_leI (by omega) (by omega)).mpr z)
    refine lv_aload_n hx hb dX8_digestAnalysis_17 rfl (lv_at hl 0 rfl) ?_
    refine wr_gr hx hb hown hK hts iX8 (ci := 7) rfl 2 (by decide) f26 rfl hw 329 (by omega) 334 cs_X rfl dX8_digestAnalysis_18 ?_
    refine wr_gr hx hb hown hK hts iX0 (ci := 0) rfl 0 (by decide) f152 rfl hw 334 (by omega) 335 cs_A rfl dX8_digestAnalysis_21 ?_
    refine lv_iload hx hb dX8_digestAnalysis_24 (lv_at hl 2 rfl) ?_
    refine wr_aldN hx hb hK hw 335 (by omega) cs_AF rfl (by decide) k rfl (by omega) dX8_digestAnalysis_26 ?_
    refine lv_astore (lv' := [(6, .ref (ad (297 + 2 * k))), (0, .ref (ad 329)), (3, .long (dgA M d k)), (5, .int (nI k))]) hx hb dX8_digestAnalysis_27 hl (by decide) rfl (fun ls hl => ?_)
    refine lv_lload_n hx hb dX8_digestAnalysis_29 rfl (lv_at hl 2 rfl) ?_
    refine lv_ldc2 hx hb hown k218 dX8_digestAnalysis_30 ?_
    refine lv_lmul hx hb dX8_digestAnalysis_33 ?_
    refine lv_aload hx hb dX8_digestAnalysis_34 (lv_at hl 0 rfl) ?_
    refine wr_gi hx hb hown hK hts iX4 (ci := 3) rfl 3 (by decide) f188 rfl hw (297 + 2 * k) (by omega) (cs_F (by omega)) rfl dX8_digestAnalysis_36 ?_
    refine lv_i2l hx hb dX8_digestAnalysis_39 rfl ?_
    refine lv_ladd hx hb dX8_digestAnalysis_40 ?_
    refine lv_lstore_n (lv' := [(3, .long (((((dgA M d k) * ((31 : Int64)))) + ((M (297 + 2 * k) 3).toInt64)))), (6, .ref (ad (297 + 2 * k))), (0, .ref (ad 329)), (5, .int (nI k))]) hx hb dX8_digestAnalysis_41 rfl hl (by decide) rfl (fun ls hl => ?_)
    refine lv_aload hx hb dX8_digestAnalysis_42 (lv_at hl 1 rfl) ?_
    refine wr_gr hx hb hown hK hts iX4 (ci := 3) rfl 0 (by decide) f156 rfl hw (297 + 2 * k) (by omega) (3 * (3 + 4 * k)) (cs_F (by omega)) rfl dX8_digestAnalysis_44 ?_
    refine wr_gi hx hb hown hK hts iX7 (ci := 6) rfl 0 (by decide) f161 rfl hw (3 * (3 + 4 * k)) (by omega) (cs_S (by omega)) rfl dX8_digestAnalysis_47 ?_
    refine lv_if_ne (tgt := 63) hx hb dX8_digestAnalysis_50 (by decide) (fun q4 => ?_) (fun q4 => ?_)
    · skip
      refine lv_iinc (v := nI (k + 1)) (lv' := [(5, .int (nI (k + 1))), (3, .long (((((dgA M d k) * ((31 : Int64)))) + ((M (297 + 2 * k) 3).toInt64)))), (6, .ref (ad (297 + 2 * k))), (0, .ref (ad 329))]) hx hb dX8_digestAnalysis_63 hl (k := 3) rfl (nI_1 _) (by decide) rfl (fun ls hl => ?_)
      refine lv_goto (tgt := 5) hx hb dX8_digestAnalysis_66 (by decide) ?_
      exact ih2 (k + 1) M J _ _ _ (by omega) ⟨(by rw [dgA_2 q4]; exact lv_sub hl [3, 1, 0] rfl), rfl, by omega, rfl, trivial⟩ hw
    · skip
      refine lv_lload_n hx hb dX8_digestAnalysis_53 rfl (lv_at hl 0 rfl) ?_
      refine lv_aload hx hb dX8_digestAnalysis_54 (lv_at hl 1 rfl) ?_
      refine wr_gr hx hb hown hK hts iX4 (ci := 3) rfl 0 (by decide) f156 rfl hw (297 + 2 * k) (by omega) (3 * (3 + 4 * k)) (cs_F (by omega)) rfl dX8_digestAnalysis_56 ?_
      refine wr_cSl (As := [.long (((((dgA M d k) * ((31 : Int64)))) + ((M (297 + 2 * k) 3).toInt64))), .ref (ad (3 * (3 + 4 * k)))]) (rest := []) ⟨hx, hb, hml, hown, hts⟩ (va_cwS 2 hts gX8_digestAnalysis_X8_digestRanges rfl rfl rfl (by decide +kernel) ⟨Nat.le_of_ble_eq_true rfl, Nat.le_of_ble_eq_true rfl⟩) hK hA hw (k_X8_digestRanges l D ad cs H.size M J (((((dgA M d k) * ((31 : Int64)))) + ((M (297 + 2 * k) 3).toInt64))) (3 + 4 * k) (by omega)) rfl rfl hl.1 (Nat.le_of_ble_eq_true rfl) ⟨Nat.le_of_ble_eq_true rfl, Nat.le_of_ble_eq_true rfl⟩ dX8_digestAnalysis_59 (fun r5 M6 J7 H locs h8 hw => ?_)
      obtain ⟨h8, rfl⟩ := h8
      cases h8
      refine lv_lstore_n (lv' := [(3, .long (dgR M (3 + 4 * k) (((((dgA M d k) * ((31 : Int64)))) + ((M (297 + 2 * k) 3).toInt64))) 6)), (6, .ref (ad (297 + 2 * k))), (0, .ref (ad 329)), (5, .int (nI k))]) hx hb dX8_digestAnalysis_62 rfl hl (by decide) rfl (fun ls hl => ?_)
      refine lv_iinc (v := nI (k + 1)) (lv' := [(5, .int (nI (k + 1))), (3, .long (dgR M (3 + 4 * k) (((((dgA M d k) * ((31 : Int64)))) + ((M (297 + 2 * k) 3).toInt64))) 6)), (6, .ref (ad (297 + 2 * k))), (0, .ref (ad 329))]) hx hb dX8_digestAnalysis_63 hl (k := 3) rfl (nI_1 _) (by decide) rfl (fun ls hl => ?_)
      refine lv_goto (tgt := 5) hx hb dX8_digestAnalysis_66 (by decide) ?_
      exact ih2 (k + 1) M J _ _ _ (by omega) ⟨(by rw [dgA_1 q4]; exact lv_sub hl [3, 1, 0] rfl), rfl, by omega, rfl, trivial⟩ hw
set_option maxHeartbeats 4000000 in
set_option maxRecDepth 100000 in
theorem k_X8_digest (l : Launch) (D : va_G) (ad : Nat → Nat) (cs : Nat → ClassId) (sz : Nat) (M : wM) (J : wJ) (cnt : Nat) (hn : M 330 2 = nI cnt) (hn16 : cnt ≤ 16) : wCl l yX8_digest wsX8_digest { frames := 2, cells := 0, slots := 0, locals := 51 } D 340 cSh ad cs [.ref (ad 329)] sz M J (fun r_ u_ => u_ = (M, J) ∧ r_ = dgX M cnt) := by
  refine wC_l (cc := cX8_digest) (maxL := 4) (ret := (some .long)) (by decide) rfl (Nat.le_of_ble_eq_true rfl) ?_
  intro p e s m below meth c ls A hx hb hr hml hown hts hlocks hK hA hw hl hAe
  clear hAe
  have hl : lv_has ls 4 [(0, .ref (ad 329))] := hl
  have k212 : (Cond.constantLong RX8 212 (89)).before _ s = true := hts _ (by decide +kernel)
  have k218 : (Cond.constantLong RX8 218 (31)).before _ s = true := hts _ (by decide +kernel)
  have f19 : (Cond.fieldLink RX8 19 "RangePropagato\x72" "settings" "LRangePropagator$Settings;").before _ s = true := hts _ (by decide +kernel)
  have iX8 : ∀ w ∈ wsX80, w ∈ wsX8_digest := by decide +kernel
  have f120 : (Cond.fieldLink RX8 120 "RangePropagator$Settings" "delay" "I").before _ s = true := hts _ (by decide +kernel)
  have iX6 : ∀ w ∈ wsX60, w ∈ wsX8_digest := by decide +kernel
  have f123 : (Cond.fieldLink RX8 123 "RangePropagator$Settings" "narrowings" "I").before _ s = true := hts _ (by decide +kernel)
  have f130 : (Cond.fieldLink RX8 130 "RangePropagator$Settings" "thresholdCount" "I").before _ s = true := hts _ (by decide +kernel)
  have f37 : (Cond.fieldLink RX8 37 "RangePropagato\x72" "analysisStands" "Z").before _ s = true := hts _ (by decide +kernel)
  have f33 : (Cond.fieldLink RX8 33 "RangePropagato\x72" "execution" "LRangePropagator$Execution;").before _ s = true := hts _ (by decide +kernel)
  have f209 : (Cond.fieldLink RX8 209 "RangePropagator$Execution" "values" "[I").before _ s = true := hts _ (by decide +kernel)
  have iX3 : ∀ w ∈ wsX30, w ∈ wsX8_digest := by decide +kernel
  refine lv_ldc2 hx hb hown k212 dX8_digest_0 ?_
  refine lv_lstore_n (lv' := [(1, .long ((89 : Int64))), (0, .ref (ad 329))]) hx hb dX8_digest_3 rfl hl (by decide) rfl (fun ls hl => ?_)
  refine lv_aload_n hx hb dX8_digest_4 rfl (lv_at hl 1 rfl) ?_
  refine lv_lload_n hx hb dX8_digest_5 rfl (lv_at hl 0 rfl) ?_
  refine wr_cVl (k := 329) (ci := 7) (As := [.long ((89 : Int64))]) (rest := []) ⟨hx, hb, hml, hown, hts⟩ (cwV 1 hts gX8_digest_X8_digestProgram rfl rfl rfl (by decide +kernel) ⟨Nat.le_of_ble_eq_true rfl, Nat.le_of_ble_eq_true rfl⟩) hK hA hw (k_X8_digestProgram l D ad cs s.heap.size M J ((89 : Int64)) cnt hn hn16) (by omega) cs_X rfl rfl rfl hl.1 (Nat.le_of_ble_eq_true rfl) ⟨Nat.le_of_ble_eq_true rfl, Nat.le_of_ble_eq_true rfl⟩ dX8_digest_6 (fun r1 M2 J3 H locs h4 hw => ?_)
  obtain ⟨h4, rfl⟩ := h4
  cases h4
  refine lv_lstore_n (lv' := [(1, .long (dgP M (((89 : Int64)) * 31 + (nI cnt).toInt64) cnt)), (0, .ref (ad 329))]) hx hb dX8_digest_9 rfl hl (by decide) rfl (fun ls hl => ?_)
  refine lv_lload_n hx hb dX8_digest_10 rfl (lv_at hl 0 rfl) ?_
  refine lv_ldc2 hx hb hown k218 dX8_digest_11 ?_
  refine lv_lmul hx hb dX8_digest_14 ?_
  refine lv_aload_n hx hb dX8_digest_15 rfl (lv_at hl 1 rfl) ?_
  refine wr_gr hx hb hown hK hts iX8 (ci := 7) rfl 1 (by decide) f19 rfl hw 329 (by omega) 332 cs_X rfl dX8_digest_16 ?_
  refine wr_gi hx hb hown hK hts iX6 (ci := 5) rfl 0 (by decide) f120 rfl hw 332 (by omega) cs_T rfl dX8_digest_19 ?_
  refine lv_i2l hx hb dX8_digest_22 rfl ?_
  refine lv_ladd hx hb dX8_digest_23 ?_
  refine lv_lstore_n (lv' := [(1, .long (((((dgP M (((89 : Int64)) * 31 + (nI cnt).toInt64) cnt) * ((31 : Int64)))) + ((M 332 0).toInt64)))), (0, .ref (ad 329))]) hx hb dX8_digest_24 rfl hl (by decide) rfl (fun ls hl => ?_)
  refine lv_lload_n hx hb dX8_digest_25 rfl (lv_at hl 0 rfl) ?_
  refine lv_ldc2 hx hb hown k218 dX8_digest_26 ?_
  refine lv_lmul hx hb dX8_digest_29 ?_
  refine lv_aload_n hx hb dX8_digest_30 rfl (lv_at hl 1 rfl) ?_
  refine wr_gr hx hb hown hK hts iX8 (ci := 7) rfl 1 (by decide) f19 rfl hw 329 (by omega) 332 cs_X rfl dX8_digest_31 ?_
  refine wr_gi hx hb hown hK hts iX6 (ci := 5) rfl 1 (by decide) f123 rfl hw 332 (by omega) cs_T rfl dX8_digest_34 ?_
  refine lv_i2l hx hb dX8_digest_37 rfl ?_
  refine lv_ladd hx hb dX8_digest_38 ?_
  refine lv_lstore_n (lv' := [(1, .long (((((((((dgP M (((89 : Int64)) * 31 + (nI cnt).toInt64) cnt) * ((31 : Int64)))) + ((M 332 0).toInt64))) * ((31 : Int64)))) + ((M 332 1).toInt64)))), (0, .ref (ad 329))]) hx hb dX8_digest_39 rfl hl (by decide) rfl (fun ls hl => ?_)
  refine lv_lload_n hx hb dX8_digest_40 rfl (lv_at hl 0 rfl) ?_
  refine lv_ldc2 hx hb hown k218 dX8_digest_41 ?_
  refine lv_lmul hx hb dX8_digest_44 ?_
  refine lv_aload_n hx hb dX8_digest_45 rfl (lv_at hl 1 rfl) ?_
  refine wr_gr hx hb hown hK hts iX8 (ci := 7) rfl 1 (by decide) f19 rfl hw 329 (by omega) 332 cs_X rfl dX8_digest_46 ?_
  refine wr_gi hx hb hown hK hts iX6 (ci := 5) rfl 2 (by decide) f130 rfl hw 332 (by omega) cs_T rfl dX8_digest_49 ?_
  refine lv_i2l hx hb dX8_digest_52 rfl ?_
  refine lv_ladd hx hb dX8_digest_53 ?_
  refine lv_lstore_n (lv' := [(1, .long (((((((((((((dgP M (((89 : Int64)) * 31 + (nI cnt).toInt64) cnt) * ((31 : Int64)))) + ((M 332 0).toInt64))) * ((31 : Int64)))) + ((M 332 1).toInt64))) * ((31 : Int64)))) + ((M 332 2).toInt64)))), (0, .ref (ad 329))]) hx hb dX8_digest_54 rfl hl (by decide) rfl (fun ls hl => ?_)
  refine lv_aload_n hx hb dX8_digest_55 rfl (lv_at hl 1 rfl) ?_
  refine wr_gi hx hb hown hK hts iX8 (ci := 7) rfl 4 (by decide) f37 rfl hw 329 (by omega) cs_X rfl dX8_digest_56 ?_
  refine lv_if_eq (tgt := 68) hx hb dX8_digest_59 (by decide) (fun q5 => ?_) (fun q5 => ?_)
  · skip
    refine lv_iconst (v := nI 0) hx hb dX8_digest_68 (by decide) ?_
    refine lv_istore_n (lv' := [(3, .int (nI 0)), (1, .long (((((((((((((dgP M (((89 : Int64)) * 31 + (nI cnt).toInt64) cnt) * ((31 : Int64)))) + ((M 332 0).toInt64))) * ((31 : Int64)))) + ((M 332 1).toInt64))) * ((31 : Int64)))) + ((M 332 2).toInt64)))), (0, .ref (ad 329))]) hx hb dX8_digest_69 rfl hl (by decide) rfl (fun ls hl => ?_)
    refine w_loop (σ := Nat) (fun k M' J' ls => lv_has ls 4 [(0, .ref (ad 329)), (1, .long (dgV M (if M 329 4 = 0 then dg1 M cnt else dgA M (dg1 M cnt) cnt) k)), (3, .int (nI k))] ∧ J' = J ∧ k ≤ 6 ∧ M' = M ∧ True) (fun k => 6 - k) (fun k M6 J1_ H locs ls hI hw ih7 => ?_) 0 ⟨(by show lv_has _ _ [_, (1, .long (if M 329 4 = 0 then dg1 M cnt else dgA M (dg1 M cnt) cnt)), _]; rw [if_pos q5]; exact lv_sub hl [2, 1, 0] rfl), rfl, by omega, rfl, trivial⟩ hw
    obtain ⟨hl, eJ_, hk_, hI⟩ := hI
    rw [eJ_] at hw
    clear eJ_
    obtain ⟨eM_, hI⟩ := hI
    rw [eM_] at hw
    clear eM_
    refine lv_iload_n hx hb dX8_digest_70 rfl (lv_at hl 2 rfl) ?_
    refine lv_bipush (v := nI 6) hx hb dX8_digest_71 (by decide) ?_
    refine lv_icmp_ge (tgt := 99) hx hb dX8_digest_73 (by decide) (fun q8 => ?_) (fun q8 => ?_)
    · have q8n : 6 ≤ k := (nI_leI (by omega) (by omega)).mp q8
      refine lv_lload_n hx hb dX8_digest_99 rfl (lv_at hl 1 rfl) ?_
      exact wr_lret hx hb hr hK hw ⟨rfl, by have e : k = 6 := (by omega); unfold dgX; rw [e]⟩ hlocks dX8_digest_100
    · have q8n : ¬ 6 ≤ k := fun z => q8 ((nI_leI (by omega) (by omega)).mpr z)
      refine lv_lload_n hx hb dX8_digest_76 rfl (lv_at hl 1 rfl) ?_
      refine lv_ldc2 hx hb hown k218 dX8_digest_77 ?_
      refine lv_lmul hx hb dX8_digest_80 ?_
      refine lv_aload_n hx hb dX8_digest_81 rfl (lv_at hl 0 rfl) ?_
      refine wr_gr hx hb hown hK hts iX8 (ci := 7) rfl 3 (by decide) f33 rfl hw 329 (by omega) 336 cs_X rfl dX8_digest_82 ?_
      refine wr_gr hx hb hown hK hts iX3 (ci := 2) rfl 0 (by decide) f209 rfl hw 336 (by omega) 337 cs_Q rfl dX8_digest_85 ?_
      refine lv_iload_n hx hb dX8_digest_88 rfl (lv_at hl 2 rfl) ?_
      refine wr_ildN hx hb hK hw 337 (by omega) cs_QV (by decide) k rfl (by omega) dX8_digest_89 ?_
      refine lv_i2l hx hb dX8_digest_90 rfl ?_
      refine lv_ladd hx hb dX8_digest_91 ?_
      refine lv_lstore_n (lv' := [(1, .long (((((dgV M (if M 329 4 = 0 then dg1 M cnt else dgA M (dg1 M cnt) cnt) k) * ((31 : Int64)))) + ((M 337 k).toInt64)))), (0, .ref (ad 329)), (3, .int (nI k))]) hx hb dX8_digest_92 rfl hl (by decide) rfl (fun ls hl => ?_)
      refine lv_iinc (v := nI (k + 1)) (lv' := [(3, .int (nI (k + 1))), (1, .long (((((dgV M (if M 329 4 = 0 then dg1 M cnt else dgA M (dg1 M cnt) cnt) k) * ((31 : Int64)))) + ((M 337 k).toInt64)))), (0, .ref (ad 329))]) hx hb dX8_digest_93 hl (k := 2) rfl (nI_1 _) (by decide) rfl (fun ls hl => ?_)
      refine lv_goto (tgt := 70) hx hb dX8_digest_96 (by decide) ?_
      exact ih7 (k + 1) M J _ _ _ (by omega) ⟨lv_sub hl [2, 1, 0] rfl, rfl, by omega, rfl, trivial⟩ hw
  · skip
    refine lv_aload_n hx hb dX8_digest_62 rfl (lv_at hl 1 rfl) ?_
    refine lv_lload_n hx hb dX8_digest_63 rfl (lv_at hl 0 rfl) ?_
    refine wr_cVl (k := 329) (ci := 7) (As := [.long (((((((((((((dgP M (((89 : Int64)) * 31 + (nI cnt).toInt64) cnt) * ((31 : Int64)))) + ((M 332 0).toInt64))) * ((31 : Int64)))) + ((M 332 1).toInt64))) * ((31 : Int64)))) + ((M 332 2).toInt64)))]) (rest := []) ⟨hx, hb, hml, hown, hts⟩ (cwV 1 hts gX8_digest_X8_digestAnalysis rfl rfl rfl (by decide +kernel) ⟨Nat.le_of_ble_eq_true rfl, Nat.le_of_ble_eq_true rfl⟩) hK hA hw (k_X8_digestAnalysis l D ad cs H.size M J (((((((((((((dgP M (((89 : Int64)) * 31 + (nI cnt).toInt64) cnt) * ((31 : Int64)))) + ((M 332 0).toInt64))) * ((31 : Int64)))) + ((M 332 1).toInt64))) * ((31 : Int64)))) + ((M 332 2).toInt64))) cnt hn hn16) (by omega) cs_X rfl rfl rfl hl.1 (Nat.le_of_ble_eq_true rfl) ⟨Nat.le_of_ble_eq_true rfl, Nat.le_of_ble_eq_true rfl⟩ dX8_digest_64 (fun r9 M10 J11 H locs h12 hw => ?_)
    obtain ⟨h12, rfl⟩ := h12
    cases h12
    refine lv_lstore_n (lv' := [(1, .long (dgA M (((((((((((((dgP M (((89 : Int64)) * 31 + (nI cnt).toInt64) cnt) * ((31 : Int64)))) + ((M 332 0).toInt64))) * ((31 : Int64)))) + ((M 332 1).toInt64))) * ((31 : Int64)))) + ((M 332 2).toInt64))) cnt)), (0, .ref (ad 329))]) hx hb dX8_digest_67 rfl hl (by decide) rfl (fun ls hl => ?_)
    refine lv_iconst (v := nI 0) hx hb dX8_digest_68 (by decide) ?_
    refine lv_istore_n (lv' := [(3, .int (nI 0)), (1, .long (dgA M (((((((((((((dgP M (((89 : Int64)) * 31 + (nI cnt).toInt64) cnt) * ((31 : Int64)))) + ((M 332 0).toInt64))) * ((31 : Int64)))) + ((M 332 1).toInt64))) * ((31 : Int64)))) + ((M 332 2).toInt64))) cnt)), (0, .ref (ad 329))]) hx hb dX8_digest_69 rfl hl (by decide) rfl (fun ls hl => ?_)
    refine w_loop (σ := Nat) (fun k M' J' ls => lv_has ls 4 [(0, .ref (ad 329)), (1, .long (dgV M (if M 329 4 = 0 then dg1 M cnt else dgA M (dg1 M cnt) cnt) k)), (3, .int (nI k))] ∧ J' = J ∧ k ≤ 6 ∧ M' = M ∧ True) (fun k => 6 - k) (fun k M13 J1_ H locs ls hI hw ih14 => ?_) 0 ⟨(by show lv_has _ _ [_, (1, .long (if M 329 4 = 0 then dg1 M cnt else dgA M (dg1 M cnt) cnt)), _]; rw [if_neg q5]; exact lv_sub hl [2, 1, 0] rfl), rfl, by omega, rfl, trivial⟩ hw
    obtain ⟨hl, eJ_, hk_, hI⟩ := hI
    rw [eJ_] at hw
    clear eJ_
    obtain ⟨eM_, hI⟩ := hI
    rw [eM_] at hw
    clear eM_
    refine lv_iload_n hx hb dX8_digest_70 rfl (lv_at hl 2 rfl) ?_
    refine lv_bipush (v := nI 6) hx hb dX8_digest_71 (by decide) ?_
    refine lv_icmp_ge (tgt := 99) hx hb dX8_digest_73 (by decide) (fun q15 => ?_) (fun q15 => ?_)
    · have q15n : 6 ≤ k := (nI_leI (by omega) (by omega)).mp q15
      refine lv_lload_n hx hb dX8_digest_99 rfl (lv_at hl 1 rfl) ?_
      exact wr_lret hx hb hr hK hw ⟨rfl, by have e : k = 6 := (by omega); unfold dgX; rw [e]⟩ hlocks dX8_digest_100
    · have q15n : ¬ 6 ≤ k := fun z => q15 ((nI_leI (by omega) (by omega)).mpr z)
      refine lv_lload_n hx hb dX8_digest_76 rfl (lv_at hl 1 rfl) ?_
      refine lv_ldc2 hx hb hown k218 dX8_digest_77 ?_
      refine lv_lmul hx hb dX8_digest_80 ?_
      refine lv_aload_n hx hb dX8_digest_81 rfl (lv_at hl 0 rfl) ?_
      refine wr_gr hx hb hown hK hts iX8 (ci := 7) rfl 3 (by decide) f33 rfl hw 329 (by omega) 336 cs_X rfl dX8_digest_82 ?_
      refine wr_gr hx hb hown hK hts iX3 (ci := 2) rfl 0 (by decide) f209 rfl hw 336 (by omega) 337 cs_Q rfl dX8_digest_85 ?_
      refine lv_iload_n hx hb dX8_digest_88 rfl (lv_at hl 2 rfl) ?_
      refine wr_ildN hx hb hK hw 337 (by omega) cs_QV (by decide) k rfl (by omega) dX8_digest_89 ?_
      refine lv_i2l hx hb dX8_digest_90 rfl ?_
      refine lv_ladd hx hb dX8_digest_91 ?_
      refine lv_lstore_n (lv' := [(1, .long (((((dgV M (if M 329 4 = 0 then dg1 M cnt else dgA M (dg1 M cnt) cnt) k) * ((31 : Int64)))) + ((M 337 k).toInt64)))), (0, .ref (ad 329)), (3, .int (nI k))]) hx hb dX8_digest_92 rfl hl (by decide) rfl (fun ls hl => ?_)
      refine lv_iinc (v := nI (k + 1)) (lv' := [(3, .int (nI (k + 1))), (1, .long (((((dgV M (if M 329 4 = 0 then dg1 M cnt else dgA M (dg1 M cnt) cnt) k) * ((31 : Int64)))) + ((M 337 k).toInt64)))), (0, .ref (ad 329))]) hx hb dX8_digest_93 hl (k := 2) rfl (nI_1 _) (by decide) rfl (fun ls hl => ?_)
      refine lv_goto (tgt := 70) hx hb dX8_digest_96 (by decide) ?_
      exact ih14 (k + 1) M J _ _ _ (by omega) ⟨lv_sub hl [2, 1, 0] rfl, rfl, by omega, rfl, trivial⟩ hw
set_option maxHeartbeats 4000000 in
set_option maxRecDepth 100000 in
theorem k_X8_analyze (l : Launch) (D : va_G) (ad : Nat → Nat) (cs : Nat → ClassId) (sz : Nat) (M : wM) (J : wJ) (cnt : Nat) (tt : Nat) (n : Nat) (hc : cZ M) (hp : prOK M cnt tt) (hnn : M 332 1 = nI n) (hn5 : n ≤ 5) : wCi l yX8_analyze wsX8_analyze { frames := 7, cells := 0, slots := 0, locals := 177 } D 340 cSh ad cs [.ref (ad 329)] sz M J (pAn M J cnt tt n) := by
  refine wC_i (cc := cX8_analyze) (maxL := 2) (ret := (some .int)) (by decide) rfl (Nat.le_of_ble_eq_true rfl) ?_
  intro p e s m below meth c ls A hx hb hr hml hown hts hlocks hK hA hw hl hAe
  clear hAe
  have hl : lv_has ls 2 [(0, .ref (ad 329))] := hl
  have f26 : (Cond.fieldLink RX8 26 "RangePropagato\x72" "analysis" "LRangePropagator$Analysis;").before _ s = true := hts _ (by decide +kernel)
  have iX8 : ∀ w ∈ wsX80, w ∈ wsX8_analyze := by decide +kernel
  have f10 : (Cond.fieldLink RX8 10 "RangePropagato\x72" "program" "LRangePropagator$Program;").before _ s = true := hts _ (by decide +kernel)
  have f19 : (Cond.fieldLink RX8 19 "RangePropagato\x72" "settings" "LRangePropagator$Settings;").before _ s = true := hts _ (by decide +kernel)
  have f123 : (Cond.fieldLink RX8 123 "RangePropagator$Settings" "narrowings" "I").before _ s = true := hts _ (by decide +kernel)
  have iX6 : ∀ w ∈ wsX60, w ∈ wsX8_analyze := by decide +kernel
  have f37 : (Cond.fieldLink RX8 37 "RangePropagato\x72" "analysisStands" "Z").before _ s = true := hts _ (by decide +kernel)
  refine lv_aload_n hx hb dX8_analyze_0 rfl (lv_at hl 0 rfl) ?_
  refine wr_gr hx hb hown hK hts iX8 (ci := 7) rfl 2 (by decide) f26 rfl hw 329 (by omega) 334 cs_X rfl dX8_analyze_1 ?_
  refine wr_cVv (k := 334) (ci := 0) (As := []) (rest := []) ⟨hx, hb, hml, hown, hts⟩ (cwV 0 hts gX8_analyze_X0_forget rfl rfl rfl (by decide +kernel) ⟨Nat.le_of_ble_eq_true rfl, Nat.le_of_ble_eq_true rfl⟩) hK hA hw (k_X0_forget l D ad cs s.heap.size M J  hc) (by omega) cs_A rfl rfl rfl hl.1 (Nat.le_of_ble_eq_true rfl) ⟨Nat.le_of_ble_eq_true rfl, Nat.le_of_ble_eq_true rfl⟩ dX8_analyze_4 (fun M2 J3 H locs h4 hw => ?_)
  have h4J : J3 = J := h4.1
  rw [h4J] at hw
  have hN0 : AN M M2 (fun _ => none) (fun _ => nI 0) := Ifg_AN (fun b hb => (hp.2.2.1 b hb).2) h4.2
  refine lv_aload_n hx hb dX8_analyze_7 rfl (lv_at hl 0 rfl) ?_
  refine wr_gr hx hb hown hK hts iX8 (ci := 7) rfl 2 (by decide) f26 rfl hw 329 (by omega) 334 cs_X rfl dX8_analyze_8 ?_
  refine lv_aload_n hx hb dX8_analyze_11 rfl (lv_at hl 0 rfl) ?_
  refine wr_gr hx hb hown hK hts iX8 (ci := 7) rfl 0 (by decide) f10 rfl hw 329 (by omega) 330 cs_X rfl dX8_analyze_12 ?_
  refine lv_aload_n hx hb dX8_analyze_15 rfl (lv_at hl 0 rfl) ?_
  refine wr_gr hx hb hown hK hts iX8 (ci := 7) rfl 1 (by decide) f19 rfl hw 329 (by omega) 332 cs_X rfl dX8_analyze_16 ?_
  refine wr_cVi (k := 334) (ci := 0) (As := [.ref (ad 330), .ref (ad 332)]) (rest := []) ⟨hx, hb, hml, hown, hts⟩ (cwV 2 hts gX8_analyze_X0_makeRounds rfl rfl rfl (by decide +kernel) ⟨Nat.le_of_ble_eq_true rfl, Nat.le_of_ble_eq_true rfl⟩) hK hA hw (k_X0_makeRounds l D ad cs H.size M2 J M ((fun _ => none)) ((fun _ => nI 0)) cnt tt hp hN0) (by omega) cs_A rfl rfl rfl hl.1 (Nat.le_of_ble_eq_true rfl) ⟨Nat.le_of_ble_eq_true rfl, Nat.le_of_ble_eq_true rfl⟩ dX8_analyze_19 (fun r5 M6 J7 H locs h8 hw => ?_)
  have h8J : J7 = J := h8.1
  rw [h8J] at hw h8
  refine lv_istore_n (lv' := [(1, .int r5), (0, .ref (ad 329))]) hx hb dX8_analyze_22 rfl hl (by decide) rfl (fun ls hl => ?_)
  refine lv_aload_n hx hb dX8_analyze_23 rfl (lv_at hl 1 rfl) ?_
  refine wr_gr hx hb hown hK hts iX8 (ci := 7) rfl 2 (by decide) f26 rfl hw 329 (by omega) 334 cs_X rfl dX8_analyze_24 ?_
  refine lv_aload_n hx hb dX8_analyze_27 rfl (lv_at hl 1 rfl) ?_
  refine wr_gr hx hb hown hK hts iX8 (ci := 7) rfl 0 (by decide) f10 rfl hw 329 (by omega) 330 cs_X rfl dX8_analyze_28 ?_
  refine lv_aload_n hx hb dX8_analyze_31 rfl (lv_at hl 1 rfl) ?_
  refine wr_gr hx hb hown hK hts iX8 (ci := 7) rfl 1 (by decide) f19 rfl hw 329 (by omega) 332 cs_X rfl dX8_analyze_32 ?_
  refine wr_gi hx hb hown hK hts iX6 (ci := 5) rfl 1 (by decide) f123 rfl hw 332 (by omega) cs_T rfl dX8_analyze_35 ?_
  rw [show M6 332 1 = nI n from ((congrFun (h8.2.2.1 332 (by unfold anC; omega)) 1).trans hnn)]
  refine wr_cVv (k := 334) (ci := 0) (As := [.ref (ad 330), .int (nI n)]) (rest := []) ⟨hx, hb, hml, hown, hts⟩ (cwV 2 hts gX8_analyze_X0_makeNarrowings rfl rfl rfl (by decide +kernel) ⟨Nat.le_of_ble_eq_true rfl, Nat.le_of_ble_eq_true rfl⟩) hK hA hw (k_X0_makeNarrowings l D ad cs H.size M6 J M ((its M cnt tt 1000000 ((fun _ => none), (fun _ => nI 0))).2.1) ((its M cnt tt 1000000 ((fun _ => none), (fun _ => nI 0))).2.2) cnt tt n hp hn5 h8.2.2) (by omega) cs_A rfl rfl rfl hl.1 (Nat.le_of_ble_eq_true rfl) ⟨Nat.le_of_ble_eq_true rfl, Nat.le_of_ble_eq_true rfl⟩ dX8_analyze_38 (fun M10 J11 H locs h12 hw => ?_)
  have h12J : J11 = J := h12.1
  rw [h12J] at hw h12
  refine lv_aload_n hx hb dX8_analyze_41 rfl (lv_at hl 1 rfl) ?_
  refine lv_iconst (v := nI 1) hx hb dX8_analyze_42 (by decide) ?_
  refine wr_pi hx hb hown hK hts iX8 tyX8_ok nmX8 (ci := 7) rfl 4 (by decide) f37 rfl rfl hw 329 (by omega) cs_X rfl (by decide) (by decide) dX8_analyze_43 (fun H locs hw => ?_)
  refine lv_iload_n hx hb dX8_analyze_46 rfl (lv_at hl 0 rfl) ?_
  exact wr_iret hx hb hr rfl hK hw (show pAn M J cnt tt n _ _ from ⟨rfl, h8.2.1, _, h12.2, rfl⟩) hlocks dX8_analyze_47
