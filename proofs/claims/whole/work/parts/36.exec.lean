/-! Execution: laid by wip/gen/specs9.py -/
set_option maxHeartbeats 4000000 in
set_option maxRecDepth 100000 in
theorem k_X3_choose (l : Launch) (D : va_G) (ad : Nat → Nat) (cs : Nat → ClassId) (sz : Nat) (M : wM) (J : wJ) (lo : Int32) (up : Int32)  : wCi l yX3_choose wsX3_choose { frames := 1, cells := 0, slots := 0, locals := 25 } D 340 cSh ad cs [.ref (ad 336), .int lo, .int up] sz M J (fun r_ u_ => u_ = (M, va_up J 336 (rnx (J 336))) ∧ r_ = chs (J 336) lo up) := by
  refine wC_i (cc := cX3_choose) (maxL := 7) (ret := (some .int)) (by decide) rfl (Nat.le_of_ble_eq_true rfl) ?_
  intro p e s m below meth c ls A hx hb hr hml hown hts hlocks hK hA hw hl hAe
  clear hAe
  have hl : lv_has ls 7 [(0, .ref (ad 336)), (1, .int lo), (2, .int up)] := hl
  have f25 : (Cond.fieldLink RX3 25 "RangePropagator$Execution" "\x72" "J").before _ s = true := hts _ (by decide +kernel)
  have iX3 : ∀ w ∈ wsX30, w ∈ wsX3_choose := by decide +kernel
  have k120 : (Cond.constantLong RX3 120 (6364136223846793005)).before _ s = true := hts _ (by decide +kernel)
  have k122 : (Cond.constantLong RX3 122 (1442695040888963407)).before _ s = true := hts _ (by decide +kernel)
  refine lv_iload_n hx hb dX3_choose_0 rfl (lv_at hl 2 rfl) ?_
  refine lv_i2l hx hb dX3_choose_1 rfl ?_
  refine lv_iload_n hx hb dX3_choose_2 rfl (lv_at hl 1 rfl) ?_
  refine lv_i2l hx hb dX3_choose_3 rfl ?_
  refine lv_lsub hx hb dX3_choose_4 ?_
  refine lv_lconst (v := 1) hx hb dX3_choose_5 rfl ?_
  refine lv_ladd hx hb dX3_choose_6 ?_
  refine lv_lstore_n (lv' := [(3, .long ((((up.toInt64 - lo.toInt64)) + ((1 : Int64))))), (0, .ref (ad 336)), (1, .int lo), (2, .int up)]) hx hb dX3_choose_7 rfl hl (by decide) rfl (fun ls hl => ?_)
  refine lv_lload_n hx hb dX3_choose_8 rfl (lv_at hl 0 rfl) ?_
  refine lv_lconst (v := 0) hx hb dX3_choose_9 rfl ?_
  refine W.lcmp hx hb dX3_choose_10 ?_
  refine lv_if_le (tgt := 25) hx hb dX3_choose_11 (by decide) (fun q1 => ?_) (fun q1 => ?_)
  · skip
    refine lv_lconst (v := 0) hx hb dX3_choose_25 rfl ?_
    refine lv_lstore (lv' := [(5, .long ((0 : Int64))), (3, .long ((((up.toInt64 - lo.toInt64)) + ((1 : Int64))))), (0, .ref (ad 336)), (1, .int lo), (2, .int up)]) hx hb dX3_choose_26 hl (by decide) rfl (fun ls hl => ?_)
    refine lv_aload_n hx hb dX3_choose_28 rfl (lv_at hl 2 rfl) ?_
    refine lv_aload_n hx hb dX3_choose_29 rfl (lv_at hl 2 rfl) ?_
    refine wr_gl hx hb hown hK hts iX3 (ci := 2) rfl 4 (by decide) f25 rfl hw 336 (by omega) cs_Q rfl dX3_choose_30 ?_
    refine lv_ldc2 hx hb hown k120 dX3_choose_33 ?_
    refine lv_lmul hx hb dX3_choose_36 ?_
    refine lv_ldc2 hx hb hown k122 dX3_choose_37 ?_
    refine lv_ladd hx hb dX3_choose_40 ?_
    refine wr_pl hx hb hown hK hts iX3 tyX3_ok nmX3 (ci := 2) rfl 4 (by decide) f25 rfl rfl hw 336 (by omega) cs_Q rfl lone6 rfl rfl dX3_choose_41 (fun H locs hw => ?_)
    refine lv_iload_n hx hb dX3_choose_44 rfl (lv_at hl 3 rfl) ?_
    refine lv_i2l hx hb dX3_choose_45 rfl ?_
    refine lv_lload hx hb dX3_choose_46 (lv_at hl 0 rfl) ?_
    refine lv_ladd hx hb dX3_choose_48 ?_
    refine lv_l2i hx hb dX3_choose_49 rfl ?_
    exact wr_iret hx hb hr rfl hK hw ⟨rfl, (by unfold chs; rw [if_pos (show lg_cmp (szz lo up) 0 ≤ 0 from q1)]; try rfl)⟩ hlocks dX3_choose_50
  · skip
    refine lv_aload_n hx hb dX3_choose_14 rfl (lv_at hl 1 rfl) ?_
    refine wr_gl hx hb hown hK hts iX3 (ci := 2) rfl 4 (by decide) f25 rfl hw 336 (by omega) cs_Q rfl dX3_choose_15 ?_
    refine lv_lload_n hx hb dX3_choose_18 rfl (lv_at hl 0 rfl) ?_
    refine wr_cSl (As := [.long (J 336), .long ((((up.toInt64 - lo.toInt64)) + ((1 : Int64))))]) (rest := []) ⟨hx, hb, hml, hown, hts⟩ (va_cwS 2 hts gX3_choose_J9_floorMod_f86c9 rfl rfl rfl (by decide +kernel) ⟨Nat.le_of_ble_eq_true rfl, Nat.le_of_ble_eq_true rfl⟩) hK hA hw (k_J9_floorMod_f86c9 l D ad cs s.heap.size M J (J 336) ((((up.toInt64 - lo.toInt64)) + ((1 : Int64)))) (lgc_pos q1)) rfl rfl hl.1 (Nat.le_of_ble_eq_true rfl) ⟨Nat.le_of_ble_eq_true rfl, Nat.le_of_ble_eq_true rfl⟩ dX3_choose_19 (fun r2 M3 J4 H locs h5 hw => ?_)
    obtain ⟨h5, rfl⟩ := h5
    cases h5
    refine lv_goto (tgt := 26) hx hb dX3_choose_22 (by decide) ?_
    refine lv_lstore (lv' := [(5, .long (E_J9_floorMod_f86c9 M (J 336) ((((up.toInt64 - lo.toInt64)) + ((1 : Int64)))))), (3, .long ((((up.toInt64 - lo.toInt64)) + ((1 : Int64))))), (0, .ref (ad 336)), (1, .int lo), (2, .int up)]) hx hb dX3_choose_26 hl (by decide) rfl (fun ls hl => ?_)
    refine lv_aload_n hx hb dX3_choose_28 rfl (lv_at hl 2 rfl) ?_
    refine lv_aload_n hx hb dX3_choose_29 rfl (lv_at hl 2 rfl) ?_
    refine wr_gl hx hb hown hK hts iX3 (ci := 2) rfl 4 (by decide) f25 rfl hw 336 (by omega) cs_Q rfl dX3_choose_30 ?_
    refine lv_ldc2 hx hb hown k120 dX3_choose_33 ?_
    refine lv_lmul hx hb dX3_choose_36 ?_
    refine lv_ldc2 hx hb hown k122 dX3_choose_37 ?_
    refine lv_ladd hx hb dX3_choose_40 ?_
    refine wr_pl hx hb hown hK hts iX3 tyX3_ok nmX3 (ci := 2) rfl 4 (by decide) f25 rfl rfl hw 336 (by omega) cs_Q rfl lone6 rfl rfl dX3_choose_41 (fun H locs hw => ?_)
    refine lv_iload_n hx hb dX3_choose_44 rfl (lv_at hl 3 rfl) ?_
    refine lv_i2l hx hb dX3_choose_45 rfl ?_
    refine lv_lload hx hb dX3_choose_46 (lv_at hl 0 rfl) ?_
    refine lv_ladd hx hb dX3_choose_48 ?_
    refine lv_l2i hx hb dX3_choose_49 rfl ?_
    exact wr_iret hx hb hr rfl hK hw ⟨rfl, (by unfold chs; rw [if_neg (show ¬ lg_cmp (szz lo up) 0 ≤ 0 from q1)]; try rfl)⟩ hlocks dX3_choose_50
set_option maxHeartbeats 4000000 in
set_option maxRecDepth 100000 in
theorem k_X3_outcomeOf (l : Launch) (D : va_G) (ad : Nat → Nat) (cs : Nat → ClassId) (sz : Nat) (M : wM) (J : wJ) (k : Int32) (p1 : Int32) (p2 : Int32) (hs : ¬ (k = nI 6 ∨ k = nI 7) → isV p1 ∧ isV p2) : wCi l yX3_outcomeOf wsX3_outcomeOf { frames := 2, cells := 0, slots := 0, locals := 55 } D 340 cSh ad cs [.ref (ad 336), .int k, .int p1, .int p2] sz M J (pOu M J k p1 p2) := by
  refine wC_i (cc := cX3_outcomeOf) (maxL := 4) (ret := (some .int)) (by decide) rfl (Nat.le_of_ble_eq_true rfl) ?_
  intro p e s m below meth c ls A hx hb hr hml hown hts hlocks hK hA hw hl hAe
  clear hAe
  have hl : lv_has ls 4 [(0, .ref (ad 336)), (1, .int k), (2, .int p1), (3, .int p2)] := hl
  have f9 : (Cond.fieldLink RX3 9 "RangePropagator$Execution" "values" "[I").before _ s = true := hts _ (by decide +kernel)
  have iX3 : ∀ w ∈ wsX30, w ∈ wsX3_outcomeOf := by decide +kernel
  refine lv_iload_n hx hb dX3_outcomeOf_0 rfl (lv_at hl 1 rfl) ?_
  refine lv_bipush (v := nI 7) hx hb dX3_outcomeOf_1 (by decide) ?_
  refine lv_icmp_ne (tgt := 8) hx hb dX3_outcomeOf_3 (by decide) (fun q1 => ?_) (fun q1 => ?_)
  · skip
    refine lv_iload_n hx hb dX3_outcomeOf_8 rfl (lv_at hl 1 rfl) ?_
    refine lv_bipush (v := nI 6) hx hb dX3_outcomeOf_9 (by decide) ?_
    refine lv_icmp_ne (tgt := 21) hx hb dX3_outcomeOf_11 (by decide) (fun q2 => ?_) (fun q2 => ?_)
    · skip
      refine lv_iload_n hx hb dX3_outcomeOf_21 rfl (lv_at hl 1 rfl) ?_
      refine lv_aload_n hx hb dX3_outcomeOf_22 rfl (lv_at hl 0 rfl) ?_
      refine wr_gr hx hb hown hK hts iX3 (ci := 2) rfl 0 (by decide) f9 rfl hw 336 (by omega) 337 cs_Q rfl dX3_outcomeOf_23 ?_
      refine lv_iload_n hx hb dX3_outcomeOf_26 rfl (lv_at hl 2 rfl) ?_
      refine wr_ildN hx hb hK hw 337 (by omega) cs_QV (by decide) (tn p1) (hs (fun z => z.elim q2 q1)).1.1 (hs (fun z => z.elim q2 q1)).1.2 dX3_outcomeOf_27 ?_
      refine lv_aload_n hx hb dX3_outcomeOf_28 rfl (lv_at hl 0 rfl) ?_
      refine wr_gr hx hb hown hK hts iX3 (ci := 2) rfl 0 (by decide) f9 rfl hw 336 (by omega) 337 cs_Q rfl dX3_outcomeOf_29 ?_
      refine lv_iload_n hx hb dX3_outcomeOf_32 rfl (lv_at hl 3 rfl) ?_
      refine wr_ildN hx hb hK hw 337 (by omega) cs_QV (by decide) (tn p2) (hs (fun z => z.elim q2 q1)).2.1 (hs (fun z => z.elim q2 q1)).2.2 dX3_outcomeOf_33 ?_
      refine wr_cSi (As := [.int k, .int (M 337 (tn p1)), .int (M 337 (tn p2))]) (rest := []) ⟨hx, hb, hml, hown, hts⟩ (va_cwS 3 hts gX3_outcomeOf_X1_outcome rfl rfl rfl (by decide +kernel) ⟨Nat.le_of_ble_eq_true rfl, Nat.le_of_ble_eq_true rfl⟩) hK hA hw (k_X1_outcome l D ad cs s.heap.size M J k (M 337 (tn p1)) (M 337 (tn p2)) ) rfl rfl hl.1 (Nat.le_of_ble_eq_true rfl) ⟨Nat.le_of_ble_eq_true rfl, Nat.le_of_ble_eq_true rfl⟩ dX3_outcomeOf_34 (fun r3 M4 J5 H locs h6 hw => ?_)
      obtain ⟨h6, rfl⟩ := h6
      cases h6
      exact wr_iret hx hb hr rfl hK hw (show pOu M J k p1 p2 _ _ from ⟨by rw [exS_0 q1 q2, ← J_id], by rw [exS_0 q1 q2]; rfl⟩) hlocks dX3_outcomeOf_37
    · skip
      refine lv_aload_n hx hb dX3_outcomeOf_14 rfl (lv_at hl 0 rfl) ?_
      refine lv_iload_n hx hb dX3_outcomeOf_15 rfl (lv_at hl 2 rfl) ?_
      refine lv_iload_n hx hb dX3_outcomeOf_16 rfl (lv_at hl 3 rfl) ?_
      refine wr_cVi (k := 336) (ci := 2) (As := [.int p1, .int p2]) (rest := []) ⟨hx, hb, hml, hown, hts⟩ (cwV 2 hts gX3_outcomeOf_X3_choose rfl rfl rfl (by decide +kernel) ⟨Nat.le_of_ble_eq_true rfl, Nat.le_of_ble_eq_true rfl⟩) hK hA hw (k_X3_choose l D ad cs s.heap.size M J p1 p2 ) (by omega) cs_Q rfl rfl rfl hl.1 (Nat.le_of_ble_eq_true rfl) ⟨Nat.le_of_ble_eq_true rfl, Nat.le_of_ble_eq_true rfl⟩ dX3_outcomeOf_17 (fun r7 M8 J9 H locs h10 hw => ?_)
      obtain ⟨h10u, h10r⟩ := h10
      cases h10u
      exact wr_iret hx hb hr rfl hK hw (show pOu M J k p1 p2 _ _ from ⟨by rw [exS_6 q1 q2], by rw [exS_6 q1 q2]; exact h10r⟩) hlocks dX3_outcomeOf_20
  · skip
    refine lv_iload_n hx hb dX3_outcomeOf_6 rfl (lv_at hl 2 rfl) ?_
    exact wr_iret hx hb hr rfl hK hw (show pOu M J k p1 p2 _ _ from ⟨by rw [exS_7 q1, ← J_id], by rw [exS_7 q1]⟩) hlocks dX3_outcomeOf_7
def F_X3_noteStep (M : wM) (k : Nat) (b : Nat) : wM := (wU (va_up (wU M 338 k (nI b)) 339 (va_cpy ((wU M 338 k (nI b)) 337) ((wU M 338 k (nI b)) 339) 0 (k * 6) 6)) 336 3 (nI (k + 1)))
set_option maxHeartbeats 4000000 in
set_option maxRecDepth 100000 in
theorem k_X3_noteStep (l : Launch) (D : va_G) (ad : Nat → Nat) (cs : Nat → ClassId) (sz : Nat) (M : wM) (J : wJ) (k : Nat) (b : Nat) (hk3 : k < 300) : wCv l yX3_noteStep wsX3_noteStep { frames := 1, cells := 0, slots := 0, locals := 60 } D 340 cSh ad cs [.ref (ad 336), .int (nI k), .int (nI b)] sz M J (fun u_ => u_ = (F_X3_noteStep M k b, J)) := by
  refine wC_v (cc := cX3_noteStep) (maxL := 3) (ret := none) (by decide) rfl (Nat.le_of_ble_eq_true rfl) ?_
  intro p e s m below meth c ls A hx hb hr hml hown hts hlocks hK hA hw hl hAe
  clear hAe
  have hl : lv_has ls 3 [(0, .ref (ad 336)), (1, .int (nI k)), (2, .int (nI b))] := hl
  have f15 : (Cond.fieldLink RX3 15 "RangePropagator$Execution" "stepBlocks" "[I").before _ s = true := hts _ (by decide +kernel)
  have iX3 : ∀ w ∈ wsX30, w ∈ wsX3_noteStep := by decide +kernel
  have f9 : (Cond.fieldLink RX3 9 "RangePropagator$Execution" "values" "[I").before _ s = true := hts _ (by decide +kernel)
  have f18 : (Cond.fieldLink RX3 18 "RangePropagator$Execution" "stepValues" "[I").before _ s = true := hts _ (by decide +kernel)
  have m68 : (Cond.methodLink RX3 68 arraycopyName).before _ s = true := hts _ (by decide +kernel)
  have cNat : (Cond.native arraycopyName).before _ s = true := hts _ (by decide +kernel)
  have cSta : (Cond.static arraycopyName).before _ s = true := hts _ (by decide +kernel)
  have cIni : (Cond.initialized "java/lang/System").before _ s = true := hts _ (by decide +kernel)
  have f21 : (Cond.fieldLink RX3 21 "RangePropagator$Execution" "stepCount" "I").before _ s = true := hts _ (by decide +kernel)
  refine lv_aload_n hx hb dX3_noteStep_0 rfl (lv_at hl 0 rfl) ?_
  refine wr_gr hx hb hown hK hts iX3 (ci := 2) rfl 1 (by decide) f15 rfl hw 336 (by omega) 338 cs_Q rfl dX3_noteStep_1 ?_
  refine lv_iload_n hx hb dX3_noteStep_4 rfl (lv_at hl 1 rfl) ?_
  refine lv_iload_n hx hb dX3_noteStep_5 rfl (lv_at hl 2 rfl) ?_
  refine wr_istN hx hb hK hw 338 (by omega) cs_QB (by decide) k rfl (by omega) dX3_noteStep_6 (fun H locs hw => ?_)
  refine lv_aload_n hx hb dX3_noteStep_7 rfl (lv_at hl 0 rfl) ?_
  refine wr_gr hx hb hown hK hts iX3 (ci := 2) rfl 0 (by decide) f9 rfl hw 336 (by omega) 337 cs_Q rfl dX3_noteStep_8 ?_
  refine lv_iconst (v := nI 0) hx hb dX3_noteStep_11 (by decide) ?_
  refine lv_aload_n hx hb dX3_noteStep_12 rfl (lv_at hl 0 rfl) ?_
  refine wr_gr hx hb hown hK hts iX3 (ci := 2) rfl 2 (by decide) f18 rfl hw 336 (by omega) 339 cs_Q rfl dX3_noteStep_13 ?_
  refine lv_iload_n hx hb dX3_noteStep_16 rfl (lv_at hl 1 rfl) ?_
  refine lv_bipush (v := nI 6) hx hb dX3_noteStep_17 (by decide) ?_
  refine lv_imulN hx hb dX3_noteStep_19 ?_
  refine lv_bipush (v := nI 6) hx hb dX3_noteStep_20 (by decide) ?_
  refine wr_cpy hx hb (hml.trans hl.1.symm) hown m68 cNat cSta cIni hK hw 337 339 (by omega) (by omega) cs_QV cs_QW 0 (k * 6) 6 rfl rfl rfl (by decide) (by decide) (by omega) (by omega) (Nat.le_of_ble_eq_true rfl) (Nat.le_of_ble_eq_true rfl) dX3_noteStep_22 (fun H locs hw => ?_)
  refine lv_aload_n hx hb dX3_noteStep_25 rfl (lv_at hl 0 rfl) ?_
  refine lv_iload_n hx hb dX3_noteStep_26 rfl (lv_at hl 1 rfl) ?_
  refine lv_iconst (v := nI 1) hx hb dX3_noteStep_27 (by decide) ?_
  refine lv_iaddN hx hb dX3_noteStep_28 ?_
  refine wr_pi hx hb hown hK hts iX3 tyX3_ok nmX3 (ci := 2) rfl 3 (by decide) f21 rfl rfl hw 336 (by omega) cs_Q rfl rfl rfl dX3_noteStep_29 (fun H locs hw => ?_)
  exact wr_vret hx hb hr hK hw (by show (_, _) = (_, _); unfold F_X3_noteStep; rfl) hlocks dX3_noteStep_32
set_option maxHeartbeats 4000000 in
set_option maxRecDepth 100000 in
theorem k_X3_follower (l : Launch) (D : va_G) (ad : Nat → Nat) (cs : Nat → ClassId) (sz : Nat) (M : wM) (J : wJ) (b : Nat) (hb16 : b < 16) (hE : edOK M b) : wCi l yX3_follower wsX3_follower { frames := 1, cells := 0, slots := 0, locals := 22 } D 340 cSh ad cs [.ref (ad 336), .ref (ad (201 + 6 * b))] sz M J (fun r_ u_ => u_ = (M, J) ∧ r_ = flw M b (M 337)) := by
  refine wC_i (cc := cX3_follower) (maxL := 3) (ret := (some .int)) (by decide) rfl (Nat.le_of_ble_eq_true rfl) ?_
  intro p e s m below meth c ls A hx hb hr hml hown hts hlocks hK hA hw hl hAe
  clear hAe
  have hl : lv_has ls 3 [(0, .ref (ad 336)), (1, .ref (ad (201 + 6 * b)))] := hl
  have f59 : (Cond.fieldLink RX3 59 "RangePropagator$Block" "edgeCount" "I").before _ s = true := hts _ (by decide +kernel)
  have iX2 : ∀ w ∈ wsX20, w ∈ wsX3_follower := by decide +kernel
  have f9 : (Cond.fieldLink RX3 9 "RangePropagator$Execution" "values" "[I").before _ s = true := hts _ (by decide +kernel)
  have iX3 : ∀ w ∈ wsX30, w ∈ wsX3_follower := by decide +kernel
  have f101 : (Cond.fieldLink RX3 101 "RangePropagator$Block" "branchX" "I").before _ s = true := hts _ (by decide +kernel)
  have f104 : (Cond.fieldLink RX3 104 "RangePropagator$Block" "relation" "I").before _ s = true := hts _ (by decide +kernel)
  have f107 : (Cond.fieldLink RX3 107 "RangePropagator$Block" "branchY" "I").before _ s = true := hts _ (by decide +kernel)
  have f98 : (Cond.fieldLink RX3 98 "RangePropagator$Block" "followers" "[I").before _ s = true := hts _ (by decide +kernel)
  have hE2 : tn (M (201 + 6 * b) 5) ≤ 2 := hE.2.1
  refine lv_aload_n hx hb dX3_follower_0 rfl (lv_at hl 1 rfl) ?_
  refine wr_gi hx hb hown hK hts iX2 (ci := 1) rfl 5 (by decide) f59 rfl hw (201 + 6 * b) (by omega) (cs_B (by omega)) rfl dX3_follower_1 ?_
  rw [show M (201 + 6 * b) 5 = nI (tn (M (201 + 6 * b) 5)) from hE.1]
  refine lv_iconst (v := nI 2) hx hb dX3_follower_4 (by decide) ?_
  refine lv_icmp_ge (tgt := 15) hx hb dX3_follower_5 (by decide) (fun q1 => ?_) (fun q1 => ?_)
  · have q1n : 2 ≤ (tn (M (201 + 6 * b) 5)) := (nI_leI (by omega) (by omega)).mp q1
    refine lv_aload_n hx hb dX3_follower_15 rfl (lv_at hl 0 rfl) ?_
    refine wr_gr hx hb hown hK hts iX3 (ci := 2) rfl 0 (by decide) f9 rfl hw 336 (by omega) 337 cs_Q rfl dX3_follower_16 ?_
    refine lv_aload_n hx hb dX3_follower_19 rfl (lv_at hl 1 rfl) ?_
    refine wr_gi hx hb hown hK hts iX2 (ci := 1) rfl 7 (by decide) f101 rfl hw (201 + 6 * b) (by omega) (cs_B (by omega)) rfl dX3_follower_20 ?_
    rw [show M (201 + 6 * b) 7 = nI (tn (M (201 + 6 * b) 7)) from (hE.2.2 (by omega)).1.1]
    refine wr_ildN hx hb hK hw 337 (by omega) cs_QV (by decide) (tn (M (201 + 6 * b) 7)) rfl (hE.2.2 (by omega)).1.2 dX3_follower_23 ?_
    refine lv_aload_n hx hb dX3_follower_24 rfl (lv_at hl 1 rfl) ?_
    refine wr_gi hx hb hown hK hts iX2 (ci := 1) rfl 9 (by decide) f104 rfl hw (201 + 6 * b) (by omega) (cs_B (by omega)) rfl dX3_follower_25 ?_
    refine lv_aload_n hx hb dX3_follower_28 rfl (lv_at hl 0 rfl) ?_
    refine wr_gr hx hb hown hK hts iX3 (ci := 2) rfl 0 (by decide) f9 rfl hw 336 (by omega) 337 cs_Q rfl dX3_follower_29 ?_
    refine lv_aload_n hx hb dX3_follower_32 rfl (lv_at hl 1 rfl) ?_
    refine wr_gi hx hb hown hK hts iX2 (ci := 1) rfl 8 (by decide) f107 rfl hw (201 + 6 * b) (by omega) (cs_B (by omega)) rfl dX3_follower_33 ?_
    rw [show M (201 + 6 * b) 8 = nI (tn (M (201 + 6 * b) 8)) from (hE.2.2 (by omega)).2.1]
    refine wr_ildN hx hb hK hw 337 (by omega) cs_QV (by decide) (tn (M (201 + 6 * b) 8)) rfl (hE.2.2 (by omega)).2.2 dX3_follower_36 ?_
    refine wr_cSi (As := [.int (M 337 (tn (M (201 + 6 * b) 7))), .int (M (201 + 6 * b) 9), .int (M 337 (tn (M (201 + 6 * b) 8)))]) (rest := []) ⟨hx, hb, hml, hown, hts⟩ (va_cwS 3 hts gX3_follower_X1_isTrue rfl rfl rfl (by decide +kernel) ⟨Nat.le_of_ble_eq_true rfl, Nat.le_of_ble_eq_true rfl⟩) hK hA hw (k_X1_isTrue l D ad cs s.heap.size M J (M 337 (tn (M (201 + 6 * b) 7))) (M (201 + 6 * b) 9) (M 337 (tn (M (201 + 6 * b) 8))) ) rfl rfl hl.1 (Nat.le_of_ble_eq_true rfl) ⟨Nat.le_of_ble_eq_true rfl, Nat.le_of_ble_eq_true rfl⟩ dX3_follower_37 (fun r2 M3 J4 H locs h5 hw => ?_)
    obtain ⟨h5, rfl⟩ := h5
    cases h5
    refine lv_istore_n (lv' := [(2, .int (E_X1_isTrue M (M 337 (tn (M (201 + 6 * b) 7))) (M (201 + 6 * b) 9) (M 337 (tn (M (201 + 6 * b) 8))))), (0, .ref (ad 336)), (1, .ref (ad (201 + 6 * b)))]) hx hb dX3_follower_40 rfl hl (by decide) rfl (fun ls hl => ?_)
    refine lv_iload_n hx hb dX3_follower_41 rfl (lv_at hl 0 rfl) ?_
    refine lv_if_eq (tgt := 54) hx hb dX3_follower_42 (by decide) (fun q6 => ?_) (fun q6 => ?_)
    · skip
      refine lv_aload_n hx hb dX3_follower_54 rfl (lv_at hl 2 rfl) ?_
      refine wr_gr hx hb hown hK hts iX2 (ci := 1) rfl 6 (by decide) f98 rfl hw (201 + 6 * b) (by omega) (201 + 6 * b + 5) (cs_B (by omega)) rfl dX3_follower_55 ?_
      refine lv_iconst (v := nI 1) hx hb dX3_follower_58 (by decide) ?_
      refine wr_ildN hx hb hK hw (201 + 6 * b + 5) (by omega) (cs_B5 (by omega)) (by decide) 1 rfl (by omega) dX3_follower_59 ?_
      exact wr_iret hx hb hr rfl hK hw ⟨rfl, (by unfold flw; rw [if_neg (by omega), if_pos (show tru (M 337 (tn (M (201 + 6 * b) 7))) (M (201 + 6 * b) 9) (M 337 (tn (M (201 + 6 * b) 8))) = 0 from q6)])⟩ hlocks dX3_follower_60
    · skip
      refine lv_aload_n hx hb dX3_follower_45 rfl (lv_at hl 2 rfl) ?_
      refine wr_gr hx hb hown hK hts iX2 (ci := 1) rfl 6 (by decide) f98 rfl hw (201 + 6 * b) (by omega) (201 + 6 * b + 5) (cs_B (by omega)) rfl dX3_follower_46 ?_
      refine lv_iconst (v := nI 0) hx hb dX3_follower_49 (by decide) ?_
      refine wr_ildN hx hb hK hw (201 + 6 * b + 5) (by omega) (cs_B5 (by omega)) (by decide) 0 rfl (by omega) dX3_follower_50 ?_
      refine lv_goto (tgt := 60) hx hb dX3_follower_51 (by decide) ?_
      exact wr_iret hx hb hr rfl hK hw ⟨rfl, (by unfold flw; rw [if_neg (by omega), if_neg (show ¬ tru (M 337 (tn (M (201 + 6 * b) 7))) (M (201 + 6 * b) 9) (M 337 (tn (M (201 + 6 * b) 8))) = 0 from q6)])⟩ hlocks dX3_follower_60
  · have q1n : ¬ 2 ≤ (tn (M (201 + 6 * b) 5)) := fun z => q1 ((nI_leI (by omega) (by omega)).mpr z)
    refine lv_aload_n hx hb dX3_follower_8 rfl (lv_at hl 1 rfl) ?_
    refine wr_gr hx hb hown hK hts iX2 (ci := 1) rfl 6 (by decide) f98 rfl hw (201 + 6 * b) (by omega) (201 + 6 * b + 5) (cs_B (by omega)) rfl dX3_follower_9 ?_
    refine lv_iconst (v := nI 0) hx hb dX3_follower_12 (by decide) ?_
    refine wr_ildN hx hb hK hw (201 + 6 * b + 5) (by omega) (cs_B5 (by omega)) (by decide) 0 rfl (by omega) dX3_follower_13 ?_
    exact wr_iret hx hb hr rfl hK hw ⟨rfl, (by unfold flw; rw [if_pos (by omega)])⟩ hlocks dX3_follower_14
set_option maxHeartbeats 4000000 in
set_option maxRecDepth 100000 in
theorem k_X3_perform (l : Launch) (D : va_G) (ad : Nat → Nat) (cs : Nat → ClassId) (sz : Nat) (M : wM) (J : wJ) (b : Nat) (hb16 : b < 16) (hB : blOK M b) : wCv l yX3_perform wsX3_perform { frames := 3, cells := 0, slots := 0, locals := 78 } D 340 cSh ad cs [.ref (ad 336), .ref (ad (201 + 6 * b))] sz M J (fun u_ => u_.2 = va_up J 336 (exB M b (M 337, J 336)).2 ∧ kp M u_.1 (fun c => c = 337) ∧ u_.1 337 = (exB M b (M 337, J 336)).1) := by
  refine wC_v (cc := cX3_perform) (maxL := 3) (ret := none) (by decide) rfl (Nat.le_of_ble_eq_true rfl) ?_
  intro p e s m below meth c ls A hx hb hr hml hown hts hlocks hK hA hw hl hAe
  clear hAe
  have hl : lv_has ls 3 [(0, .ref (ad 336)), (1, .ref (ad (201 + 6 * b)))] := hl
  have f74 : (Cond.fieldLink RX3 74 "RangePropagator$Block" "statementCount" "I").before _ s = true := hts _ (by decide +kernel)
  have iX2 : ∀ w ∈ wsX20, w ∈ wsX3_perform := by decide +kernel
  have f9 : (Cond.fieldLink RX3 9 "RangePropagator$Execution" "values" "[I").before _ s = true := hts _ (by decide +kernel)
  have iX3 : ∀ w ∈ wsX30, w ∈ wsX3_perform := by decide +kernel
  have f77 : (Cond.fieldLink RX3 77 "RangePropagator$Block" "targets" "[I").before _ s = true := hts _ (by decide +kernel)
  have f80 : (Cond.fieldLink RX3 80 "RangePropagator$Block" "kinds" "[I").before _ s = true := hts _ (by decide +kernel)
  have f83 : (Cond.fieldLink RX3 83 "RangePropagator$Block" "firsts" "[I").before _ s = true := hts _ (by decide +kernel)
  have f86 : (Cond.fieldLink RX3 86 "RangePropagator$Block" "seconds" "[I").before _ s = true := hts _ (by decide +kernel)
  have hB8 : tn (M (201 + 6 * b) 0) ≤ 8 := hB.2.1
  refine lv_iconst (v := nI 0) hx hb dX3_perform_0 (by decide) ?_
  refine lv_istore_n (lv' := [(2, .int (nI 0)), (0, .ref (ad 336)), (1, .ref (ad (201 + 6 * b)))]) hx hb dX3_perform_1 rfl hl (by decide) rfl (fun ls hl => ?_)
  refine w_loop (σ := Nat) (fun k M' J' ls => lv_has ls 3 [(0, .ref (ad 336)), (1, .ref (ad (201 + 6 * b))), (2, .int (nI k))] ∧ J' = va_up J 336 (exN M b k (M 337, J 336)).2 ∧ k ≤ tn (M (201 + 6 * b) 0) ∧ Ipf M b (M 337, J 336) k M') (fun k => tn (M (201 + 6 * b) 0) - k) (fun k M1 J1_ H locs ls hI hw ih2 => ?_) 0 ⟨lv_sub hl [1, 2, 0] rfl, J_id J 336, by omega, ⟨kp_refl _ _, rfl⟩⟩ hw
  obtain ⟨hl, eJ_, hk_, hI⟩ := hI
  rw [eJ_] at hw
  clear eJ_
  refine lv_iload_n hx hb dX3_perform_2 rfl (lv_at hl 2 rfl) ?_
  refine lv_aload_n hx hb dX3_perform_3 rfl (lv_at hl 1 rfl) ?_
  refine wr_gi hx hb hown hK hts iX2 (ci := 1) rfl 0 (by decide) f74 rfl hw (201 + 6 * b) (by omega) (cs_B (by omega)) rfl dX3_perform_4 ?_
  rw [show M1 (201 + 6 * b) 0 = nI (tn (M (201 + 6 * b) 0)) from ((congrFun (hI.1 (201 + 6 * b) (by omega)) 0).trans hB.1)]
  refine lv_icmp_ge (tgt := 49) hx hb dX3_perform_7 (by decide) (fun q3 => ?_) (fun q3 => ?_)
  · have q3n : (tn (M (201 + 6 * b) 0)) ≤ k := (nI_leI (by omega) (by omega)).mp q3
    exact wr_vret hx hb hr hK hw (by have e9 : k = tn (M (201 + 6 * b) 0) := (by omega); rw [e9] at hI; exact ⟨(by show va_up J 336 _ = _; rw [e9]; rfl), hI.1, hI.2⟩) hlocks dX3_perform_49
  · have q3n : ¬ (tn (M (201 + 6 * b) 0)) ≤ k := fun z => q3 ((nI_leI (by omega) (by omega)).mpr z)
    refine lv_aload_n hx hb dX3_perform_10 rfl (lv_at hl 0 rfl) ?_
    refine wr_gr hx hb hown hK hts iX3 (ci := 2) rfl 0 (by decide) f9 rfl hw 336 (by omega) 337 cs_Q rfl dX3_perform_11 ?_
    refine lv_aload_n hx hb dX3_perform_14 rfl (lv_at hl 1 rfl) ?_
    refine wr_gr hx hb hown hK hts iX2 (ci := 1) rfl 2 (by decide) f77 rfl hw (201 + 6 * b) (by omega) (201 + 6 * b + 2) (cs_B (by omega)) rfl dX3_perform_15 ?_
    refine lv_iload_n hx hb dX3_perform_18 rfl (lv_at hl 2 rfl) ?_
    refine wr_ildN hx hb hK hw (201 + 6 * b + 2) (by omega) (cs_B2 (by omega)) (by decide) k rfl (by omega) dX3_perform_19 ?_
    rw [show M1 (201 + 6 * b + 2) k = nI (tn (M (201 + 6 * b + 2) k)) from ((congrFun (hI.1 (201 + 6 * b + 2) (by omega)) k).trans (hB.2.2 k (by omega)).1.1)]
    refine lv_aload_n hx hb dX3_perform_20 rfl (lv_at hl 0 rfl) ?_
    refine lv_aload_n hx hb dX3_perform_21 rfl (lv_at hl 1 rfl) ?_
    refine wr_gr hx hb hown hK hts iX2 (ci := 1) rfl 1 (by decide) f80 rfl hw (201 + 6 * b) (by omega) (201 + 6 * b + 1) (cs_B (by omega)) rfl dX3_perform_22 ?_
    refine lv_iload_n hx hb dX3_perform_25 rfl (lv_at hl 2 rfl) ?_
    refine wr_ildN hx hb hK hw (201 + 6 * b + 1) (by omega) (cs_B1 (by omega)) (by decide) k rfl (by omega) dX3_perform_26 ?_
    rw [show M1 (201 + 6 * b + 1) k = M (201 + 6 * b + 1) k from (congrFun (hI.1 (201 + 6 * b + 1) (by omega)) k)]
    refine lv_aload_n hx hb dX3_perform_27 rfl (lv_at hl 1 rfl) ?_
    refine wr_gr hx hb hown hK hts iX2 (ci := 1) rfl 3 (by decide) f83 rfl hw (201 + 6 * b) (by omega) (201 + 6 * b + 3) (cs_B (by omega)) rfl dX3_perform_28 ?_
    refine lv_iload_n hx hb dX3_perform_31 rfl (lv_at hl 2 rfl) ?_
    refine wr_ildN hx hb hK hw (201 + 6 * b + 3) (by omega) (cs_B3 (by omega)) (by decide) k rfl (by omega) dX3_perform_32 ?_
    rw [show M1 (201 + 6 * b + 3) k = M (201 + 6 * b + 3) k from (congrFun (hI.1 (201 + 6 * b + 3) (by omega)) k)]
    refine lv_aload_n hx hb dX3_perform_33 rfl (lv_at hl 1 rfl) ?_
    refine wr_gr hx hb hown hK hts iX2 (ci := 1) rfl 4 (by decide) f86 rfl hw (201 + 6 * b) (by omega) (201 + 6 * b + 4) (cs_B (by omega)) rfl dX3_perform_34 ?_
    refine lv_iload_n hx hb dX3_perform_37 rfl (lv_at hl 2 rfl) ?_
    refine wr_ildN hx hb hK hw (201 + 6 * b + 4) (by omega) (cs_B4 (by omega)) (by decide) k rfl (by omega) dX3_perform_38 ?_
    rw [show M1 (201 + 6 * b + 4) k = M (201 + 6 * b + 4) k from (congrFun (hI.1 (201 + 6 * b + 4) (by omega)) k)]
    refine wr_cVi (k := 336) (ci := 2) (As := [.int (M (201 + 6 * b + 1) k), .int (M (201 + 6 * b + 3) k), .int (M (201 + 6 * b + 4) k)]) (rest := [.int (nI (tn (M (201 + 6 * b + 2) k))), .ref (ad 337)]) ⟨hx, hb, hml, hown, hts⟩ (cwV 3 hts gX3_perform_X3_outcomeOf rfl rfl rfl (by decide +kernel) ⟨Nat.le_of_ble_eq_true rfl, Nat.le_of_ble_eq_true rfl⟩) hK hA hw (k_X3_outcomeOf l D ad cs H.size M1 (va_up J 336 (exN M b k (M 337, J 336)).2) (M (201 + 6 * b + 1) k) (M (201 + 6 * b + 3) k) (M (201 + 6 * b + 4) k) (fun z => (hB.2.2 k (by omega)).2 z)) (by omega) cs_Q rfl rfl rfl hl.1 (Nat.le_of_ble_eq_true rfl) ⟨Nat.le_of_ble_eq_true rfl, Nat.le_of_ble_eq_true rfl⟩ dX3_perform_39 (fun r4 M5 J6 H locs h7 hw => ?_)
    obtain ⟨h7u, h7r⟩ := h7
    rw [hI.2] at h7u h7r
    have h7a : (va_up J 336 (exN M b k (M 337, J 336)).2) 336 = (exN M b k (M 337, J 336)).2 := va_up_self _ _ _
    rw [h7a] at h7u h7r
    rw [J_up] at h7u
    cases h7u
    rw [h7r]
    refine wr_istN hx hb hK hw 337 (by omega) cs_QV (by decide) (tn (M (201 + 6 * b + 2) k)) rfl (hB.2.2 k (by omega)).1.2 dX3_perform_42 (fun H locs hw => ?_)
    refine lv_iinc (v := nI (k + 1)) (lv' := [(2, .int (nI (k + 1))), (0, .ref (ad 336)), (1, .ref (ad (201 + 6 * b)))]) hx hb dX3_perform_43 hl (k := 2) rfl (nI_1 _) (by decide) rfl (fun ls hl => ?_)
    refine lv_goto (tgt := 2) hx hb dX3_perform_46 (by decide) ?_
    exact ih2 (k + 1) (wU M1 337 (tn (M (201 + 6 * b + 2) k)) ((exS (M (201 + 6 * b + 1) k) (M (201 + 6 * b + 3) k) (M (201 + 6 * b + 4) k) (exN M b k (M 337, J 336)).1 (exN M b k (M 337, J 336)).2).1)) (va_up J 336 (exS (M (201 + 6 * b + 1) k) (M (201 + 6 * b + 3) k) (M (201 + 6 * b + 4) k) (exN M b k (M 337, J 336)).1 (exN M b k (M 337, J 336)).2).2) _ _ _ (by omega) ⟨lv_sub hl [1, 2, 0] rfl, rfl, by omega, Ipf_s hI⟩ hw
