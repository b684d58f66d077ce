/-! RangePropagator: program and settings: laid by wip/gen/specs13.py -/
set_option maxHeartbeats 4000000 in
set_option maxRecDepth 100000 in
theorem k_X8_addBlock (l : Launch) (hflag : l.stackTraces = false) (D : va_G) (ad : Nat → Nat) (cs : Nat → ClassId) (sz : Nat) (M : wM) (J : wJ) (cnt : Nat) (hn : M 330 2 = nI cnt) (hn16 : cnt ≤ 16) : wXi l yX8_addBlock wsX8_addBlock { frames := 6, cells := 1, slots := 6, locals := 100 } D 340 cSh ad cs [.ref (ad 329)] sz M J 1 6 (fun r_ u_ => cnt < 16 ∧ u_ = (wU (wU M 329 4 (nI 0)) 330 2 (nI (cnt + 1)), J) ∧ r_ = nI cnt) (fun E_ => E_ = xIS ∧ ¬ cnt < 16) := by
  refine wX_i (cc := cX8_addBlock) (maxL := 1) (ret := (some .int)) (by decide) rfl (Nat.le_of_ble_eq_true rfl) ?_
  intro p e s m below meth c ls A hx hb hr hml hown hts hlocks hK hA hw hl hAe hZ hout
  clear hAe
  have hl : lv_has ls 1 [(0, .ref (ad 329))] := hl
  have f10 : (Cond.fieldLink RX8 10 "RangePropagato\x72" "program" "LRangePropagator$Program;").before _ s = true := hts _ (by decide +kernel)
  have iX8 : ∀ w ∈ wsX80, w ∈ wsX8_addBlock := by decide +kernel
  have f41 : (Cond.fieldLink RX8 41 "RangePropagator$Program" "count" "I").before _ s = true := hts _ (by decide +kernel)
  have iX5 : ∀ w ∈ wsX50, w ∈ wsX8_addBlock := by decide +kernel
  have f37 : (Cond.fieldLink RX8 37 "RangePropagato\x72" "analysisStands" "Z").before _ s = true := hts _ (by decide +kernel)
  have kl45 : (Cond.classLink RX8 45 xIS).before _ s = true := hts _ (by decide +kernel)
  have kiIS : (Cond.initialized xIS).before _ s = true := hts _ (by decide +kernel)
  have xt_IS : ∀ w ∈ (vx_atS RX8 49 xIS xNs).filter goodWord, w.before _ s = true := fun w h => hts w ((by decide +kernel : ∀ w ∈ (vx_atS RX8 49 xIS xNs).filter goodWord, w ∈ wsX8_addBlock) w h)
  refine lv_aload_n hx hb dX8_addBlock_0 rfl (lv_at hl 0 rfl) ?_
  refine wr_gr hx hb hown hK hts iX8 (ci := 7) rfl 0 (by decide) f10 rfl hw 329 (by omega) 330 cs_X rfl dX8_addBlock_1 ?_
  refine wr_gi hx hb hown hK hts iX5 (ci := 4) rfl 2 (by decide) f41 rfl hw 330 (by omega) cs_P rfl dX8_addBlock_4 ?_
  rw [show M 330 2 = nI cnt from hn]
  refine lv_bipush (v := nI 16) hx hb dX8_addBlock_7 (by decide) ?_
  refine lv_icmp_lt (tgt := 22) hx hb dX8_addBlock_9 (by decide) (fun q1 => ?_) (fun q1 => ?_)
  · have q1n : cnt < 16 := (nI_ltI (by omega) (by omega)).mp q1
    refine lv_aload_n hx hb dX8_addBlock_22 rfl (lv_at hl 0 rfl) ?_
    refine lv_iconst (v := nI 0) hx hb dX8_addBlock_23 (by decide) ?_
    refine wr_pi hx hb hown hK hts iX8 tyX8_ok nmX8 (ci := 7) rfl 4 (by decide) f37 rfl rfl hw 329 (by omega) cs_X rfl (by decide) (by decide) dX8_addBlock_24 (fun H locs hw => ?_)
    refine lv_aload_n hx hb dX8_addBlock_27 rfl (lv_at hl 0 rfl) ?_
    refine wr_gr hx hb hown hK hts iX8 (ci := 7) rfl 0 (by decide) f10 rfl hw 329 (by omega) 330 cs_X rfl dX8_addBlock_28 ?_
    refine lv_dup hx hb dX8_addBlock_31 rfl ?_
    refine wr_gi hx hb hown hK hts iX5 (ci := 4) rfl 2 (by decide) f41 rfl hw 330 (by omega) cs_P rfl dX8_addBlock_32 ?_
    rw [show (wU M 329 4 (nI 0)) 330 2 = nI cnt from ((congrFun (wU_ne (by decide)) 2).trans hn)]
    refine lv_iconst (v := nI 1) hx hb dX8_addBlock_35 (by decide) ?_
    refine lv_iaddN hx hb dX8_addBlock_36 ?_
    refine wr_pi hx hb hown hK hts iX5 tyX5_ok nmX5 (ci := 4) rfl 2 (by decide) f41 rfl rfl hw 330 (by omega) cs_P rfl rfl rfl dX8_addBlock_37 (fun H locs hw => ?_)
    refine lv_aload_n hx hb dX8_addBlock_40 rfl (lv_at hl 0 rfl) ?_
    refine wr_gr hx hb hown hK hts iX8 (ci := 7) rfl 0 (by decide) f10 rfl hw 329 (by omega) 330 cs_X rfl dX8_addBlock_41 ?_
    refine wr_gi hx hb hown hK hts iX5 (ci := 4) rfl 2 (by decide) f41 rfl hw 330 (by omega) cs_P rfl dX8_addBlock_44 ?_
    rw [show (wU (wU M 329 4 (nI 0)) 330 2 (nI (cnt + 1))) 330 2 = nI (cnt + 1) from (by rw [wU_at, if_pos ⟨rfl, rfl⟩])]
    refine lv_iconst (v := nI 1) hx hb dX8_addBlock_47 (by decide) ?_
    refine lv_isub hx hb dX8_addBlock_48 ?_
    exact vx_ret (W.widen (k := 1) (n := 6) (Nat.le_of_ble_eq_true rfl) (Nat.le_of_ble_eq_true rfl) (wr_iret hx hb hr rfl hK hw ⟨by omega, rfl, nI_pred cnt⟩ hlocks dX8_addBlock_49))
  · have q1n : ¬ cnt < 16 := fun z => q1 ((nI_ltI (by omega) (by omega)).mpr z)
    exact wr_thr (text := "there are 16 blocks") hx hb hflag hown (by decide +kernel) kl45 kiIS (by decide +kernel) (by decide +kernel) xt_IS xg_IS xo_IS hZ hK hw (hl.1.trans hml.symm) dX8_addBlock_12 dX8_addBlock_15 dX8_addBlock_16 dX8_addBlock_18 dX8_addBlock_21 hout (Nat.le_of_ble_eq_true rfl) (Nat.le_of_ble_eq_true rfl) (Nat.le_of_ble_eq_true rfl) (Nat.le_of_ble_eq_true rfl) hlocks (Nat.le_of_ble_eq_true rfl) (Nat.le_of_ble_eq_true rfl) ⟨rfl, by omega⟩
set_option maxHeartbeats 4000000 in
set_option maxRecDepth 100000 in
theorem k_X8_setInitial (l : Launch) (hflag : l.stackTraces = false) (D : va_G) (ad : Nat → Nat) (cs : Nat → ClassId) (sz : Nat) (M : wM) (J : wJ) (v : Int32) (lo : Int32) (up : Int32)  : wXi l yX8_setInitial wsX8_setInitial { frames := 7, cells := 2, slots := 12, locals := 121 } D 340 cSh ad cs [.ref (ad 329), .int v, .int lo, .int up] sz M J 2 12 (fun r_ u_ => inB v 6 ∧ isRg lo up ∧ u_ = (F_X7_setRange (wU M 329 4 (nI 0)) 0 (tn v) lo up, J) ∧ r_ = (if M (3 * 0 + 1) (tn v) = lo ∧ M (3 * 0 + 2) (tn v) = up then nI 0 else nI 1)) (fun E_ => (E_ = xIX ∧ ¬ inB v 6) ∨ (E_ = xIA ∧ inB v 6 ∧ ¬ isRg lo up)) := by
  refine wX_i (cc := cX8_setInitial) (maxL := 6) (ret := (some .boolean)) (by decide) rfl (Nat.le_of_ble_eq_true rfl) ?_
  intro p e s m below meth c ls A hx hb hr hml hown hts hlocks hK hA hw hl hAe hZ hout
  clear hAe
  have hl : lv_has ls 6 [(0, .ref (ad 329)), (1, .int v), (2, .int lo), (3, .int up)] := hl
  have f37 : (Cond.fieldLink RX8 37 "RangePropagato\x72" "analysisStands" "Z").before _ s = true := hts _ (by decide +kernel)
  have iX8 : ∀ w ∈ wsX80, w ∈ wsX8_setInitial := by decide +kernel
  have f10 : (Cond.fieldLink RX8 10 "RangePropagato\x72" "program" "LRangePropagator$Program;").before _ s = true := hts _ (by decide +kernel)
  have f60 : (Cond.fieldLink RX8 60 "RangePropagator$Program" "initial" "LRangePropagator$State;").before _ s = true := hts _ (by decide +kernel)
  have iX5 : ∀ w ∈ wsX50, w ∈ wsX8_setInitial := by decide +kernel
  have f64 : (Cond.fieldLink RX8 64 "RangePropagator$State" "low" "[I").before _ s = true := hts _ (by decide +kernel)
  have iX7 : ∀ w ∈ wsX70, w ∈ wsX8_setInitial := by decide +kernel
  have f70 : (Cond.fieldLink RX8 70 "RangePropagator$State" "high" "[I").before _ s = true := hts _ (by decide +kernel)
  refine lv_iload_n hx hb dX8_setInitial_0 rfl (lv_at hl 1 rfl) ?_
  refine wr_xSv (As := [.int v]) (rest := []) ⟨hx, hb, hml, hown, hts⟩ (va_cwS 1 hts gX8_setInitial_X8_requireVariable rfl rfl rfl (by decide +kernel) ⟨Nat.le_of_ble_eq_true rfl, Nat.le_of_ble_eq_true rfl⟩) hK hA hZ hw (k_X8_requireVariable l hflag D ad cs s.heap.size M J v ) rfl rfl hl.1 (Nat.le_of_ble_eq_true rfl) ⟨Nat.le_of_ble_eq_true rfl, Nat.le_of_ble_eq_true rfl⟩ dX8_setInitial_1 hout hlocks (fun E z => Or.inl z) ⟨Nat.le_of_ble_eq_true rfl, Nat.le_of_ble_eq_true rfl⟩ (fun M2 J3 H locs h4 hw => ?_)
  obtain ⟨h4u, h4i⟩ := h4
  cases h4u
  obtain ⟨v_n, v_h, rfl⟩ := h4i
  refine lv_iload_n hx hb dX8_setInitial_4 rfl (lv_at hl 2 rfl) ?_
  refine lv_iload_n hx hb dX8_setInitial_5 rfl (lv_at hl 3 rfl) ?_
  refine wr_xSv (As := [.int lo, .int up]) (rest := []) ⟨hx, hb, hml, hown, hts⟩ (va_cwS 2 hts gX8_setInitial_X8_requireRange rfl rfl rfl (by decide +kernel) ⟨Nat.le_of_ble_eq_true rfl, Nat.le_of_ble_eq_true rfl⟩) hK hA hZ hw (k_X8_requireRange l hflag D ad cs H.size M J lo up ) rfl rfl hl.1 (Nat.le_of_ble_eq_true rfl) ⟨Nat.le_of_ble_eq_true rfl, Nat.le_of_ble_eq_true rfl⟩ dX8_setInitial_6 hout hlocks (fun E z => Or.inr ⟨z.1, ⟨v_n, v_h, rfl⟩, z.2⟩) ⟨Nat.le_of_ble_eq_true rfl, Nat.le_of_ble_eq_true rfl⟩ (fun M6 J7 H locs h8 hw => ?_)
  obtain ⟨h8u, hrg⟩ := h8
  cases h8u
  refine lv_aload_n hx hb dX8_setInitial_9 rfl (lv_at hl 0 rfl) ?_
  refine lv_iconst (v := nI 0) hx hb dX8_setInitial_10 (by decide) ?_
  refine wr_pi hx hb hown hK hts iX8 tyX8_ok nmX8 (ci := 7) rfl 4 (by decide) f37 rfl rfl hw 329 (by omega) cs_X rfl (by decide) (by decide) dX8_setInitial_11 (fun H locs hw => ?_)
  refine lv_aload_n hx hb dX8_setInitial_14 rfl (lv_at hl 0 rfl) ?_
  refine wr_gr hx hb hown hK hts iX8 (ci := 7) rfl 0 (by decide) f10 rfl hw 329 (by omega) 330 cs_X rfl dX8_setInitial_15 ?_
  refine wr_gr hx hb hown hK hts iX5 (ci := 4) rfl 1 (by decide) f60 rfl hw 330 (by omega) (3 * 0) cs_P rfl dX8_setInitial_18 ?_
  refine lv_astore (lv' := [(4, .ref (ad (3 * 0))), (0, .ref (ad 329)), (1, .int (nI v_n)), (2, .int lo), (3, .int up)]) hx hb dX8_setInitial_21 hl (by decide) rfl (fun ls hl => ?_)
  refine lv_aload hx hb dX8_setInitial_23 (lv_at hl 0 rfl) ?_
  refine wr_gr hx hb hown hK hts iX7 (ci := 6) rfl 1 (by decide) f64 rfl hw (3 * 0) (by omega) (3 * 0 + 1) (cs_S (by omega)) rfl dX8_setInitial_25 ?_
  refine lv_iload_n hx hb dX8_setInitial_28 rfl (lv_at hl 2 rfl) ?_
  refine wr_ildN hx hb hK hw (3 * 0 + 1) (by omega) (cs_SL (by omega)) (by decide) v_n rfl (by omega) dX8_setInitial_29 ?_
  rw [show (wU M 329 4 (nI 0)) (3 * 0 + 1) v_n = M (3 * 0 + 1) v_n from (congrFun (wU_ne (by decide)) v_n)]
  refine lv_iload_n hx hb dX8_setInitial_30 rfl (lv_at hl 3 rfl) ?_
  refine lv_icmp_ne (tgt := 45) hx hb dX8_setInitial_31 (by decide) (fun q9 => ?_) (fun q9 => ?_)
  · skip
    refine lv_iconst (v := nI 1) hx hb dX8_setInitial_45 (by decide) ?_
    refine lv_goto (tgt := 50) hx hb dX8_setInitial_46 (by decide) ?_
    refine lv_istore (lv' := [(5, .int (nI 1)), (4, .ref (ad (3 * 0))), (0, .ref (ad 329)), (1, .int (nI v_n)), (2, .int lo), (3, .int up)]) hx hb dX8_setInitial_50 hl (by decide) rfl (fun ls hl => ?_)
    refine lv_aload hx hb dX8_setInitial_52 (lv_at hl 1 rfl) ?_
    refine lv_iload_n hx hb dX8_setInitial_54 rfl (lv_at hl 3 rfl) ?_
    refine lv_iload_n hx hb dX8_setInitial_55 rfl (lv_at hl 4 rfl) ?_
    refine lv_iload_n hx hb dX8_setInitial_56 rfl (lv_at hl 5 rfl) ?_
    refine wr_cVv (k := 3 * 0) (ci := 6) (As := [.int (nI v_n), .int lo, .int up]) (rest := []) ⟨hx, hb, hml, hown, hts⟩ (cwV 3 hts gX8_setInitial_X7_setRange rfl rfl rfl (by decide +kernel) ⟨Nat.le_of_ble_eq_true rfl, Nat.le_of_ble_eq_true rfl⟩) hK hA hw (k_X7_setRange l D ad cs H.size (wU M 329 4 (nI 0)) J 0 v_n lo up (by omega) (by omega)) (by omega) (cs_S (by omega)) rfl rfl rfl hl.1 (Nat.le_of_ble_eq_true rfl) ⟨Nat.le_of_ble_eq_true rfl, Nat.le_of_ble_eq_true rfl⟩ dX8_setInitial_57 (fun M11 J12 H locs h13 hw => ?_)
    cases h13
    refine lv_iload hx hb dX8_setInitial_60 (lv_at hl 0 rfl) ?_
    exact vx_ret (W.widen (k := 2) (n := 12) (Nat.le_of_ble_eq_true rfl) (Nat.le_of_ble_eq_true rfl) (wr_iret hx hb hr (by decide) hK hw ⟨⟨v_n, v_h, rfl⟩, hrg, (by rw [tn_nI (by omega)]), (by rw [tn_nI (by omega)]; rw [if_neg (fun z => q9 z.1)])⟩ hlocks dX8_setInitial_62))
  · skip
    refine lv_aload hx hb dX8_setInitial_34 (lv_at hl 0 rfl) ?_
    refine wr_gr hx hb hown hK hts iX7 (ci := 6) rfl 2 (by decide) f70 rfl hw (3 * 0) (by omega) (3 * 0 + 2) (cs_S (by omega)) rfl dX8_setInitial_36 ?_
    refine lv_iload_n hx hb dX8_setInitial_39 rfl (lv_at hl 2 rfl) ?_
    refine wr_ildN hx hb hK hw (3 * 0 + 2) (by omega) (cs_SH (by omega)) (by decide) v_n rfl (by omega) dX8_setInitial_40 ?_
    rw [show (wU M 329 4 (nI 0)) (3 * 0 + 2) v_n = M (3 * 0 + 2) v_n from (congrFun (wU_ne (by decide)) v_n)]
    refine lv_iload_n hx hb dX8_setInitial_41 rfl (lv_at hl 4 rfl) ?_
    refine lv_icmp_eq (tgt := 49) hx hb dX8_setInitial_42 (by decide) (fun q14 => ?_) (fun q14 => ?_)
    · skip
      refine lv_iconst (v := nI 0) hx hb dX8_setInitial_49 (by decide) ?_
      refine lv_istore (lv' := [(5, .int (nI 0)), (4, .ref (ad (3 * 0))), (0, .ref (ad 329)), (1, .int (nI v_n)), (2, .int lo), (3, .int up)]) hx hb dX8_setInitial_50 hl (by decide) rfl (fun ls hl => ?_)
      refine lv_aload hx hb dX8_setInitial_52 (lv_at hl 1 rfl) ?_
      refine lv_iload_n hx hb dX8_setInitial_54 rfl (lv_at hl 3 rfl) ?_
      refine lv_iload_n hx hb dX8_setInitial_55 rfl (lv_at hl 4 rfl) ?_
      refine lv_iload_n hx hb dX8_setInitial_56 rfl (lv_at hl 5 rfl) ?_
      refine wr_cVv (k := 3 * 0) (ci := 6) (As := [.int (nI v_n), .int lo, .int up]) (rest := []) ⟨hx, hb, hml, hown, hts⟩ (cwV 3 hts gX8_setInitial_X7_setRange rfl rfl rfl (by decide +kernel) ⟨Nat.le_of_ble_eq_true rfl, Nat.le_of_ble_eq_true rfl⟩) hK hA hw (k_X7_setRange l D ad cs H.size (wU M 329 4 (nI 0)) J 0 v_n lo up (by omega) (by omega)) (by omega) (cs_S (by omega)) rfl rfl rfl hl.1 (Nat.le_of_ble_eq_true rfl) ⟨Nat.le_of_ble_eq_true rfl, Nat.le_of_ble_eq_true rfl⟩ dX8_setInitial_57 (fun M16 J17 H locs h18 hw => ?_)
      cases h18
      refine lv_iload hx hb dX8_setInitial_60 (lv_at hl 0 rfl) ?_
      exact vx_ret (W.widen (k := 2) (n := 12) (Nat.le_of_ble_eq_true rfl) (Nat.le_of_ble_eq_true rfl) (wr_iret hx hb hr (by decide) hK hw ⟨⟨v_n, v_h, rfl⟩, hrg, (by rw [tn_nI (by omega)]), (by rw [tn_nI (by omega)]; rw [if_pos ⟨q9, q14⟩])⟩ hlocks dX8_setInitial_62))
    · skip
      refine lv_iconst (v := nI 1) hx hb dX8_setInitial_45 (by decide) ?_
      refine lv_goto (tgt := 50) hx hb dX8_setInitial_46 (by decide) ?_
      refine lv_istore (lv' := [(5, .int (nI 1)), (4, .ref (ad (3 * 0))), (0, .ref (ad 329)), (1, .int (nI v_n)), (2, .int lo), (3, .int up)]) hx hb dX8_setInitial_50 hl (by decide) rfl (fun ls hl => ?_)
      refine lv_aload hx hb dX8_setInitial_52 (lv_at hl 1 rfl) ?_
      refine lv_iload_n hx hb dX8_setInitial_54 rfl (lv_at hl 3 rfl) ?_
      refine lv_iload_n hx hb dX8_setInitial_55 rfl (lv_at hl 4 rfl) ?_
      refine lv_iload_n hx hb dX8_setInitial_56 rfl (lv_at hl 5 rfl) ?_
      refine wr_cVv (k := 3 * 0) (ci := 6) (As := [.int (nI v_n), .int lo, .int up]) (rest := []) ⟨hx, hb, hml, hown, hts⟩ (cwV 3 hts gX8_setInitial_X7_setRange rfl rfl rfl (by decide +kernel) ⟨Nat.le_of_ble_eq_true rfl, Nat.le_of_ble_eq_true rfl⟩) hK hA hw (k_X7_setRange l D ad cs H.size (wU M 329 4 (nI 0)) J 0 v_n lo up (by omega) (by omega)) (by omega) (cs_S (by omega)) rfl rfl rfl hl.1 (Nat.le_of_ble_eq_true rfl) ⟨Nat.le_of_ble_eq_true rfl, Nat.le_of_ble_eq_true rfl⟩ dX8_setInitial_57 (fun M20 J21 H locs h22 hw => ?_)
      cases h22
      refine lv_iload hx hb dX8_setInitial_60 (lv_at hl 0 rfl) ?_
      exact vx_ret (W.widen (k := 2) (n := 12) (Nat.le_of_ble_eq_true rfl) (Nat.le_of_ble_eq_true rfl) (wr_iret hx hb hr (by decide) hK hw ⟨⟨v_n, v_h, rfl⟩, hrg, (by rw [tn_nI (by omega)]), (by rw [tn_nI (by omega)]; rw [if_neg (fun z => q14 z.2)])⟩ hlocks dX8_setInitial_62))
set_option maxHeartbeats 4000000 in
set_option maxRecDepth 100000 in
theorem k_X8_input (l : Launch) (hflag : l.stackTraces = false) (D : va_G) (ad : Nat → Nat) (cs : Nat → ClassId) (sz : Nat) (M : wM) (J : wJ) (b : Int32) (x : Int32) (lo : Int32) (up : Int32) (cnt : Nat) (hn : M 330 2 = nI cnt) (hn16 : cnt ≤ 16) (hPr : ∀ b, b < 16 → blOK M b) : wXi l yX8_input wsX8_input { frames := 7, cells := 4, slots := 24, locals := 121 } D 340 cSh ad cs [.ref (ad 329), .int b, .int x, .int lo, .int up] sz M J 4 24 (fun r_ u_ => inB b cnt ∧ inB x 6 ∧ isRg lo up ∧ tn (M (201 + 6 * tn b) 0) < 8 ∧ u_ = (F_X2_append (wU M 329 4 (nI 0)) (tn b) (tn (M (201 + 6 * tn b) 0)) (if lo = up then nI 7 else nI 6) x lo up, J) ∧ r_ = nI (tn (M (201 + 6 * tn b) 0) + 1)) (fun E_ => (E_ = xIX ∧ ¬ (inB b cnt ∧ inB x 6)) ∨ (E_ = xIA ∧ inB b cnt ∧ inB x 6 ∧ ¬ isRg lo up) ∨ (E_ = xIS ∧ inB b cnt ∧ inB x 6 ∧ isRg lo up ∧ ¬ tn (M (201 + 6 * tn b) 0) < 8)) := by
  refine wX_i (cc := cX8_input) (maxL := 5) (ret := (some .int)) (by decide) rfl (Nat.le_of_ble_eq_true rfl) ?_
  intro p e s m below meth c ls A hx hb hr hml hown hts hlocks hK hA hw hl hAe hZ hout
  clear hAe
  have hl : lv_has ls 5 [(0, .ref (ad 329)), (1, .int b), (2, .int x), (3, .int lo), (4, .int up)] := hl
  have f37 : (Cond.fieldLink RX8 37 "RangePropagato\x72" "analysisStands" "Z").before _ s = true := hts _ (by decide +kernel)
  have iX8 : ∀ w ∈ wsX80, w ∈ wsX8_input := by decide +kernel
  have f10 : (Cond.fieldLink RX8 10 "RangePropagato\x72" "program" "LRangePropagator$Program;").before _ s = true := hts _ (by decide +kernel)
  have f83 : (Cond.fieldLink RX8 83 "RangePropagator$Program" "blocks" "[LRangePropagator$Block;").before _ s = true := hts _ (by decide +kernel)
  have iX5 : ∀ w ∈ wsX50, w ∈ wsX8_input := by decide +kernel
  refine lv_aload_n hx hb dX8_input_0 rfl (lv_at hl 0 rfl) ?_
  refine lv_iload_n hx hb dX8_input_1 rfl (lv_at hl 1 rfl) ?_
  refine wr_xVv (k := 329) (ci := 7) (As := [.int b]) (rest := []) ⟨hx, hb, hml, hown, hts⟩ (cwV 1 hts gX8_input_X8_requireBlock rfl rfl rfl (by decide +kernel) ⟨Nat.le_of_ble_eq_true rfl, Nat.le_of_ble_eq_true rfl⟩) hK hA hZ hw (k_X8_requireBlock l hflag D ad cs s.heap.size M J b cnt hn hn16) (by omega) cs_X rfl rfl rfl hl.1 (Nat.le_of_ble_eq_true rfl) ⟨Nat.le_of_ble_eq_true rfl, Nat.le_of_ble_eq_true rfl⟩ dX8_input_2 hout hlocks (fun E z => Or.inl ⟨z.1, fun y => z.2 y.1⟩) ⟨Nat.le_of_ble_eq_true rfl, Nat.le_of_ble_eq_true rfl⟩ (fun M2 J3 H locs h4 hw => ?_)
  obtain ⟨h4u, h4i⟩ := h4
  cases h4u
  obtain ⟨b_n, b_h, rfl⟩ := h4i
  refine lv_iload_n hx hb dX8_input_5 rfl (lv_at hl 2 rfl) ?_
  refine wr_xSv (As := [.int x]) (rest := []) ⟨hx, hb, hml, hown, hts⟩ (va_cwS 1 hts gX8_input_X8_requireVariable rfl rfl rfl (by decide +kernel) ⟨Nat.le_of_ble_eq_true rfl, Nat.le_of_ble_eq_true rfl⟩) hK hA hZ hw (k_X8_requireVariable l hflag D ad cs H.size M J x ) rfl rfl hl.1 (Nat.le_of_ble_eq_true rfl) ⟨Nat.le_of_ble_eq_true rfl, Nat.le_of_ble_eq_true rfl⟩ dX8_input_6 hout hlocks (fun E z => Or.inl ⟨z.1, fun y => z.2 y.2⟩) ⟨Nat.le_of_ble_eq_true rfl, Nat.le_of_ble_eq_true rfl⟩ (fun M6 J7 H locs h8 hw => ?_)
  obtain ⟨h8u, h8i⟩ := h8
  cases h8u
  obtain ⟨x_n, x_h, rfl⟩ := h8i
  refine lv_iload_n hx hb dX8_input_9 rfl (lv_at hl 3 rfl) ?_
  refine lv_iload hx hb dX8_input_10 (lv_at hl 4 rfl) ?_
  refine wr_xSv (As := [.int lo, .int up]) (rest := []) ⟨hx, hb, hml, hown, hts⟩ (va_cwS 2 hts gX8_input_X8_requireRange rfl rfl rfl (by decide +kernel) ⟨Nat.le_of_ble_eq_true rfl, Nat.le_of_ble_eq_true rfl⟩) hK hA hZ hw (k_X8_requireRange l hflag D ad cs H.size M J lo up ) rfl rfl hl.1 (Nat.le_of_ble_eq_true rfl) ⟨Nat.le_of_ble_eq_true rfl, Nat.le_of_ble_eq_true rfl⟩ dX8_input_12 hout hlocks (fun E z => Or.inr (Or.inl ⟨z.1, ⟨b_n, b_h, rfl⟩, ⟨x_n, x_h, rfl⟩, z.2⟩)) ⟨Nat.le_of_ble_eq_true rfl, Nat.le_of_ble_eq_true rfl⟩ (fun M10 J11 H locs h12 hw => ?_)
  obtain ⟨h12u, hrg⟩ := h12
  cases h12u
  refine lv_aload_n hx hb dX8_input_15 rfl (lv_at hl 0 rfl) ?_
  refine lv_iload_n hx hb dX8_input_16 rfl (lv_at hl 1 rfl) ?_
  refine wr_xVv (k := 329) (ci := 7) (As := [.int (nI b_n)]) (rest := []) ⟨hx, hb, hml, hown, hts⟩ (cwV 1 hts gX8_input_X8_requireRoom rfl rfl rfl (by decide +kernel) ⟨Nat.le_of_ble_eq_true rfl, Nat.le_of_ble_eq_true rfl⟩) hK hA hZ hw (k_X8_requireRoom l hflag D ad cs H.size M J b_n ((tn (M (201 + 6 * b_n) 0))) (by omega) (hPr b_n (by omega)).1 (hPr b_n (by omega)).2.1) (by omega) cs_X rfl rfl rfl hl.1 (Nat.le_of_ble_eq_true rfl) ⟨Nat.le_of_ble_eq_true rfl, Nat.le_of_ble_eq_true rfl⟩ dX8_input_17 hout hlocks (fun E z => Or.inr (Or.inr ⟨z.1, ⟨b_n, b_h, rfl⟩, ⟨x_n, x_h, rfl⟩, hrg, (by rw [tn_nI (by omega)]; exact z.2)⟩)) ⟨Nat.le_of_ble_eq_true rfl, Nat.le_of_ble_eq_true rfl⟩ (fun M14 J15 H locs h16 hw => ?_)
  obtain ⟨h16u, hroom⟩ := h16
  cases h16u
  refine lv_aload_n hx hb dX8_input_20 rfl (lv_at hl 0 rfl) ?_
  refine lv_iconst (v := nI 0) hx hb dX8_input_21 (by decide) ?_
  refine wr_pi hx hb hown hK hts iX8 tyX8_ok nmX8 (ci := 7) rfl 4 (by decide) f37 rfl rfl hw 329 (by omega) cs_X rfl (by decide) (by decide) dX8_input_22 (fun H locs hw => ?_)
  refine lv_aload_n hx hb dX8_input_25 rfl (lv_at hl 0 rfl) ?_
  refine wr_gr hx hb hown hK hts iX8 (ci := 7) rfl 0 (by decide) f10 rfl hw 329 (by omega) 330 cs_X rfl dX8_input_26 ?_
  refine wr_gr hx hb hown hK hts iX5 (ci := 4) rfl 0 (by decide) f83 rfl hw 330 (by omega) 331 cs_P rfl dX8_input_29 ?_
  refine lv_iload_n hx hb dX8_input_32 rfl (lv_at hl 1 rfl) ?_
  refine wr_aldN hx hb hK hw 331 (by omega) cs_PB rfl (by decide) b_n rfl (by omega) dX8_input_33 ?_
  refine lv_iload_n hx hb dX8_input_34 rfl (lv_at hl 3 rfl) ?_
  refine lv_iload hx hb dX8_input_35 (lv_at hl 4 rfl) ?_
  refine lv_icmp_ne (tgt := 45) hx hb dX8_input_37 (by decide) (fun q17 => ?_) (fun q17 => ?_)
  · skip
    refine lv_bipush (v := nI 6) hx hb dX8_input_45 (by decide) ?_
    refine lv_iload_n hx hb dX8_input_47 rfl (lv_at hl 2 rfl) ?_
    refine lv_iload_n hx hb dX8_input_48 rfl (lv_at hl 3 rfl) ?_
    refine lv_iload hx hb dX8_input_49 (lv_at hl 4 rfl) ?_
    refine wr_cVi (k := 201 + 6 * b_n) (ci := 1) (As := [.int (nI 6), .int (nI x_n), .int lo, .int up]) (rest := []) ⟨hx, hb, hml, hown, hts⟩ (cwV 4 hts gX8_input_X2_append rfl rfl rfl (by decide +kernel) ⟨Nat.le_of_ble_eq_true rfl, Nat.le_of_ble_eq_true rfl⟩) hK hA hw (k_X2_append l D ad cs H.size (wU M 329 4 (nI 0)) J b_n ((tn (M (201 + 6 * b_n) 0))) (nI 6) (nI x_n) lo up (by omega) ((congrFun (wU_ne (by omega)) 0).trans (hPr b_n (by omega)).1) hroom) (by omega) (cs_B (by omega)) rfl rfl rfl hl.1 (Nat.le_of_ble_eq_true rfl) ⟨Nat.le_of_ble_eq_true rfl, Nat.le_of_ble_eq_true rfl⟩ dX8_input_51 (fun r18 M19 J20 H locs h21 hw => ?_)
    obtain ⟨h21, rfl⟩ := h21
    cases h21
    exact vx_ret (W.widen (k := 4) (n := 24) (Nat.le_of_ble_eq_true rfl) (Nat.le_of_ble_eq_true rfl) (wr_iret hx hb hr rfl hK hw ⟨⟨b_n, b_h, rfl⟩, ⟨x_n, x_h, rfl⟩, hrg, (by rw [tn_nI (by omega)]; exact hroom), (by rw [tn_nI (by omega), if_neg q17]), (by rw [tn_nI (by omega)]; unfold E_X2_append; rw [wU_at, if_pos ⟨rfl, rfl⟩])⟩ hlocks dX8_input_54))
  · skip
    refine lv_bipush (v := nI 7) hx hb dX8_input_40 (by decide) ?_
    refine lv_goto (tgt := 47) hx hb dX8_input_42 (by decide) ?_
    refine lv_iload_n hx hb dX8_input_47 rfl (lv_at hl 2 rfl) ?_
    refine lv_iload_n hx hb dX8_input_48 rfl (lv_at hl 3 rfl) ?_
    refine lv_iload hx hb dX8_input_49 (lv_at hl 4 rfl) ?_
    refine wr_cVi (k := 201 + 6 * b_n) (ci := 1) (As := [.int (nI 7), .int (nI x_n), .int lo, .int up]) (rest := []) ⟨hx, hb, hml, hown, hts⟩ (cwV 4 hts gX8_input_X2_append rfl rfl rfl (by decide +kernel) ⟨Nat.le_of_ble_eq_true rfl, Nat.le_of_ble_eq_true rfl⟩) hK hA hw (k_X2_append l D ad cs H.size (wU M 329 4 (nI 0)) J b_n ((tn (M (201 + 6 * b_n) 0))) (nI 7) (nI x_n) lo up (by omega) ((congrFun (wU_ne (by omega)) 0).trans (hPr b_n (by omega)).1) hroom) (by omega) (cs_B (by omega)) rfl rfl rfl hl.1 (Nat.le_of_ble_eq_true rfl) ⟨Nat.le_of_ble_eq_true rfl, Nat.le_of_ble_eq_true rfl⟩ dX8_input_51 (fun r22 M23 J24 H locs h25 hw => ?_)
    obtain ⟨h25, rfl⟩ := h25
    cases h25
    exact vx_ret (W.widen (k := 4) (n := 24) (Nat.le_of_ble_eq_true rfl) (Nat.le_of_ble_eq_true rfl) (wr_iret hx hb hr rfl hK hw ⟨⟨b_n, b_h, rfl⟩, ⟨x_n, x_h, rfl⟩, hrg, (by rw [tn_nI (by omega)]; exact hroom), (by rw [tn_nI (by omega), if_pos q17]), (by rw [tn_nI (by omega)]; unfold E_X2_append; rw [wU_at, if_pos ⟨rfl, rfl⟩])⟩ hlocks dX8_input_54))
set_option maxHeartbeats 4000000 in
set_option maxRecDepth 100000 in
theorem k_X8_compute (l : Launch) (hflag : l.stackTraces = false) (D : va_G) (ad : Nat → Nat) (cs : Nat → ClassId) (sz : Nat) (M : wM) (J : wJ) (b : Int32) (k : Int32) (x : Int32) (y : Int32) (z : Int32) (cnt : Nat) (hn : M 330 2 = nI cnt) (hn16 : cnt ≤ 16) (hPr : ∀ b, b < 16 → blOK M b) : wXi l yX8_compute wsX8_compute { frames := 7, cells := 5, slots := 30, locals := 121 } D 340 cSh ad cs [.ref (ad 329), .int b, .int k, .int x, .int y, .int z] sz M J 5 30 (fun r_ u_ => (inB b cnt ∧ inB x 6 ∧ inB y 6 ∧ inB z 6) ∧ inB k 6 ∧ tn (M (201 + 6 * tn b) 0) < 8 ∧ u_ = (F_X2_append (wU M 329 4 (nI 0)) (tn b) (tn (M (201 + 6 * tn b) 0)) k x y z, J) ∧ r_ = nI (tn (M (201 + 6 * tn b) 0) + 1)) (fun E_ => (E_ = xIX ∧ ¬ (inB b cnt ∧ inB x 6 ∧ inB y 6 ∧ inB z 6)) ∨ (E_ = xIA ∧ (inB b cnt ∧ inB x 6 ∧ inB y 6 ∧ inB z 6) ∧ ¬ inB k 6) ∨ (E_ = xIS ∧ (inB b cnt ∧ inB x 6 ∧ inB y 6 ∧ inB z 6) ∧ inB k 6 ∧ ¬ tn (M (201 + 6 * tn b) 0) < 8)) := by
  refine wX_i (cc := cX8_compute) (maxL := 6) (ret := (some .int)) (by decide) rfl (Nat.le_of_ble_eq_true rfl) ?_
  intro p e s m below meth c ls A hx hb hr hml hown hts hlocks hK hA hw hl hAe hZ hout
  clear hAe
  have hl : lv_has ls 6 [(0, .ref (ad 329)), (1, .int b), (2, .int k), (3, .int x), (4, .int y), (5, .int z)] := hl
  have kl93 : (Cond.classLink RX8 93 xIA).before _ s = true := hts _ (by decide +kernel)
  have kiIA : (Cond.initialized xIA).before _ s = true := hts _ (by decide +kernel)
  have xt_IA : ∀ w ∈ (vx_atS RX8 97 xIA xNs).filter goodWord, w.before _ s = true := fun w h => hts w ((by decide +kernel : ∀ w ∈ (vx_atS RX8 97 xIA xNs).filter goodWord, w ∈ wsX8_compute) w h)
  have f37 : (Cond.fieldLink RX8 37 "RangePropagato\x72" "analysisStands" "Z").before _ s = true := hts _ (by decide +kernel)
  have iX8 : ∀ w ∈ wsX80, w ∈ wsX8_compute := by decide +kernel
  have f10 : (Cond.fieldLink RX8 10 "RangePropagato\x72" "program" "LRangePropagator$Program;").before _ s = true := hts _ (by decide +kernel)
  have f83 : (Cond.fieldLink RX8 83 "RangePropagator$Program" "blocks" "[LRangePropagator$Block;").before _ s = true := hts _ (by decide +kernel)
  have iX5 : ∀ w ∈ wsX50, w ∈ wsX8_compute := by decide +kernel
  refine lv_aload_n hx hb dX8_compute_0 rfl (lv_at hl 0 rfl) ?_
  refine lv_iload_n hx hb dX8_compute_1 rfl (lv_at hl 1 rfl) ?_
  refine wr_xVv (k := 329) (ci := 7) (As := [.int b]) (rest := []) ⟨hx, hb, hml, hown, hts⟩ (cwV 1 hts gX8_compute_X8_requireBlock rfl rfl rfl (by decide +kernel) ⟨Nat.le_of_ble_eq_true rfl, Nat.le_of_ble_eq_true rfl⟩) hK hA hZ hw (k_X8_requireBlock l hflag D ad cs s.heap.size M J b cnt hn hn16) (by omega) cs_X rfl rfl rfl hl.1 (Nat.le_of_ble_eq_true rfl) ⟨Nat.le_of_ble_eq_true rfl, Nat.le_of_ble_eq_true rfl⟩ dX8_compute_2 hout hlocks (fun E z => Or.inl ⟨z.1, fun y => z.2 y.1⟩) ⟨Nat.le_of_ble_eq_true rfl, Nat.le_of_ble_eq_true rfl⟩ (fun M2 J3 H locs h4 hw => ?_)
  obtain ⟨h4u, h4i⟩ := h4
  cases h4u
  obtain ⟨b_n, b_h, rfl⟩ := h4i
  refine lv_iload_n hx hb dX8_compute_5 rfl (lv_at hl 3 rfl) ?_
  refine wr_xSv (As := [.int x]) (rest := []) ⟨hx, hb, hml, hown, hts⟩ (va_cwS 1 hts gX8_compute_X8_requireVariable rfl rfl rfl (by decide +kernel) ⟨Nat.le_of_ble_eq_true rfl, Nat.le_of_ble_eq_true rfl⟩) hK hA hZ hw (k_X8_requireVariable l hflag D ad cs H.size M J x ) rfl rfl hl.1 (Nat.le_of_ble_eq_true rfl) ⟨Nat.le_of_ble_eq_true rfl, Nat.le_of_ble_eq_true rfl⟩ dX8_compute_6 hout hlocks (fun E z => Or.inl ⟨z.1, fun y => z.2 y.2.1⟩) ⟨Nat.le_of_ble_eq_true rfl, Nat.le_of_ble_eq_true rfl⟩ (fun M6 J7 H locs h8 hw => ?_)
  obtain ⟨h8u, h8i⟩ := h8
  cases h8u
  obtain ⟨x_n, x_h, rfl⟩ := h8i
  refine lv_iload hx hb dX8_compute_9 (lv_at hl 4 rfl) ?_
  refine wr_xSv (As := [.int y]) (rest := []) ⟨hx, hb, hml, hown, hts⟩ (va_cwS 1 hts gX8_compute_X8_requireVariable rfl rfl rfl (by decide +kernel) ⟨Nat.le_of_ble_eq_true rfl, Nat.le_of_ble_eq_true rfl⟩) hK hA hZ hw (k_X8_requireVariable l hflag D ad cs H.size M J y ) rfl rfl hl.1 (Nat.le_of_ble_eq_true rfl) ⟨Nat.le_of_ble_eq_true rfl, Nat.le_of_ble_eq_true rfl⟩ dX8_compute_11 hout hlocks (fun E z => Or.inl ⟨z.1, fun y => z.2 y.2.2.1⟩) ⟨Nat.le_of_ble_eq_true rfl, Nat.le_of_ble_eq_true rfl⟩ (fun M10 J11 H locs h12 hw => ?_)
  obtain ⟨h12u, h12i⟩ := h12
  cases h12u
  obtain ⟨y_n, y_h, rfl⟩ := h12i
  refine lv_iload hx hb dX8_compute_14 (lv_at hl 5 rfl) ?_
  refine wr_xSv (As := [.int z]) (rest := []) ⟨hx, hb, hml, hown, hts⟩ (va_cwS 1 hts gX8_compute_X8_requireVariable rfl rfl rfl (by decide +kernel) ⟨Nat.le_of_ble_eq_true rfl, Nat.le_of_ble_eq_true rfl⟩) hK hA hZ hw (k_X8_requireVariable l hflag D ad cs H.size M J z ) rfl rfl hl.1 (Nat.le_of_ble_eq_true rfl) ⟨Nat.le_of_ble_eq_true rfl, Nat.le_of_ble_eq_true rfl⟩ dX8_compute_16 hout hlocks (fun E z => Or.inl ⟨z.1, fun y => z.2 y.2.2.2⟩) ⟨Nat.le_of_ble_eq_true rfl, Nat.le_of_ble_eq_true rfl⟩ (fun M14 J15 H locs h16 hw => ?_)
  obtain ⟨h16u, h16i⟩ := h16
  cases h16u
  obtain ⟨z_n, z_h, rfl⟩ := h16i
  refine lv_iload_n hx hb dX8_compute_19 rfl (lv_at hl 2 rfl) ?_
  refine lv_if_lt (tgt := 28) hx hb dX8_compute_20 (by decide) (fun q17 => ?_) (fun q17 => ?_)
  · skip
    exact wr_thr (text := "kind is not 0 to 5") hx hb hflag hown (by decide +kernel) kl93 kiIA (by decide +kernel) (by decide +kernel) xt_IA xg_IA xo_IA hZ hK hw (hl.1.trans hml.symm) dX8_compute_28 dX8_compute_31 dX8_compute_32 dX8_compute_34 dX8_compute_37 hout (Nat.le_of_ble_eq_true rfl) (Nat.le_of_ble_eq_true rfl) (Nat.le_of_ble_eq_true rfl) (Nat.le_of_ble_eq_true rfl) hlocks (Nat.le_of_ble_eq_true rfl) (Nat.le_of_ble_eq_true rfl) (Or.inr (Or.inl ⟨rfl, ⟨⟨b_n, b_h, rfl⟩, ⟨x_n, x_h, rfl⟩, ⟨y_n, y_h, rfl⟩, ⟨z_n, z_h, rfl⟩⟩, nB_1 q17 (by decide)⟩))
  · skip
    refine lv_iload_n hx hb dX8_compute_23 rfl (lv_at hl 2 rfl) ?_
    refine lv_iconst (v := nI 5) hx hb dX8_compute_24 (by decide) ?_
    refine lv_icmp_le (tgt := 38) hx hb dX8_compute_25 (by decide) (fun q18 => ?_) (fun q18 => ?_)
    · skip
      refine lv_aload_n hx hb dX8_compute_38 rfl (lv_at hl 0 rfl) ?_
      refine lv_iload_n hx hb dX8_compute_39 rfl (lv_at hl 1 rfl) ?_
      refine wr_xVv (k := 329) (ci := 7) (As := [.int (nI b_n)]) (rest := []) ⟨hx, hb, hml, hown, hts⟩ (cwV 1 hts gX8_compute_X8_requireRoom rfl rfl rfl (by decide +kernel) ⟨Nat.le_of_ble_eq_true rfl, Nat.le_of_ble_eq_true rfl⟩) hK hA hZ hw (k_X8_requireRoom l hflag D ad cs H.size M J b_n ((tn (M (201 + 6 * b_n) 0))) (by omega) (hPr b_n (by omega)).1 (hPr b_n (by omega)).2.1) (by omega) cs_X rfl rfl rfl hl.1 (Nat.le_of_ble_eq_true rfl) ⟨Nat.le_of_ble_eq_true rfl, Nat.le_of_ble_eq_true rfl⟩ dX8_compute_40 hout hlocks (fun E z => Or.inr (Or.inr ⟨z.1, ⟨⟨b_n, b_h, rfl⟩, ⟨x_n, x_h, rfl⟩, ⟨y_n, y_h, rfl⟩, ⟨z_n, z_h, rfl⟩⟩, inB_le q17 q18 (by decide), (by rw [tn_nI (by omega)]; exact z.2)⟩)) ⟨Nat.le_of_ble_eq_true rfl, Nat.le_of_ble_eq_true rfl⟩ (fun M20 J21 H locs h22 hw => ?_)
      obtain ⟨h22u, hroom⟩ := h22
      cases h22u
      refine lv_aload_n hx hb dX8_compute_43 rfl (lv_at hl 0 rfl) ?_
      refine lv_iconst (v := nI 0) hx hb dX8_compute_44 (by decide) ?_
      refine wr_pi hx hb hown hK hts iX8 tyX8_ok nmX8 (ci := 7) rfl 4 (by decide) f37 rfl rfl hw 329 (by omega) cs_X rfl (by decide) (by decide) dX8_compute_45 (fun H locs hw => ?_)
      refine lv_aload_n hx hb dX8_compute_48 rfl (lv_at hl 0 rfl) ?_
      refine wr_gr hx hb hown hK hts iX8 (ci := 7) rfl 0 (by decide) f10 rfl hw 329 (by omega) 330 cs_X rfl dX8_compute_49 ?_
      refine wr_gr hx hb hown hK hts iX5 (ci := 4) rfl 0 (by decide) f83 rfl hw 330 (by omega) 331 cs_P rfl dX8_compute_52 ?_
      refine lv_iload_n hx hb dX8_compute_55 rfl (lv_at hl 1 rfl) ?_
      refine wr_aldN hx hb hK hw 331 (by omega) cs_PB rfl (by decide) b_n rfl (by omega) dX8_compute_56 ?_
      refine lv_iload_n hx hb dX8_compute_57 rfl (lv_at hl 2 rfl) ?_
      refine lv_iload_n hx hb dX8_compute_58 rfl (lv_at hl 3 rfl) ?_
      refine lv_iload hx hb dX8_compute_59 (lv_at hl 4 rfl) ?_
      refine lv_iload hx hb dX8_compute_61 (lv_at hl 5 rfl) ?_
      refine wr_cVi (k := 201 + 6 * b_n) (ci := 1) (As := [.int k, .int (nI x_n), .int (nI y_n), .int (nI z_n)]) (rest := []) ⟨hx, hb, hml, hown, hts⟩ (cwV 4 hts gX8_compute_X2_append rfl rfl rfl (by decide +kernel) ⟨Nat.le_of_ble_eq_true rfl, Nat.le_of_ble_eq_true rfl⟩) hK hA hw (k_X2_append l D ad cs H.size (wU M 329 4 (nI 0)) J b_n ((tn (M (201 + 6 * b_n) 0))) k (nI x_n) (nI y_n) (nI z_n) (by omega) ((congrFun (wU_ne (by omega)) 0).trans (hPr b_n (by omega)).1) hroom) (by omega) (cs_B (by omega)) rfl rfl rfl hl.1 (Nat.le_of_ble_eq_true rfl) ⟨Nat.le_of_ble_eq_true rfl, Nat.le_of_ble_eq_true rfl⟩ dX8_compute_63 (fun r23 M24 J25 H locs h26 hw => ?_)
      obtain ⟨h26, rfl⟩ := h26
      cases h26
      exact vx_ret (W.widen (k := 5) (n := 30) (Nat.le_of_ble_eq_true rfl) (Nat.le_of_ble_eq_true rfl) (wr_iret hx hb hr rfl hK hw ⟨⟨⟨b_n, b_h, rfl⟩, ⟨x_n, x_h, rfl⟩, ⟨y_n, y_h, rfl⟩, ⟨z_n, z_h, rfl⟩⟩, inB_le q17 q18 (by decide), (by rw [tn_nI (by omega)]; exact hroom), (by rw [tn_nI (by omega)]), (by rw [tn_nI (by omega)]; unfold E_X2_append; rw [wU_at, if_pos ⟨rfl, rfl⟩])⟩ hlocks dX8_compute_66))
    · skip
      exact wr_thr (text := "kind is not 0 to 5") hx hb hflag hown (by decide +kernel) kl93 kiIA (by decide +kernel) (by decide +kernel) xt_IA xg_IA xo_IA hZ hK hw (hl.1.trans hml.symm) dX8_compute_28 dX8_compute_31 dX8_compute_32 dX8_compute_34 dX8_compute_37 hout (Nat.le_of_ble_eq_true rfl) (Nat.le_of_ble_eq_true rfl) (Nat.le_of_ble_eq_true rfl) (Nat.le_of_ble_eq_true rfl) hlocks (Nat.le_of_ble_eq_true rfl) (Nat.le_of_ble_eq_true rfl) (Or.inr (Or.inl ⟨rfl, ⟨⟨b_n, b_h, rfl⟩, ⟨x_n, x_h, rfl⟩, ⟨y_n, y_h, rfl⟩, ⟨z_n, z_h, rfl⟩⟩, nB_3 q18 (by decide)⟩))
set_option maxHeartbeats 4000000 in
set_option maxRecDepth 100000 in
theorem k_X8_jump (l : Launch) (hflag : l.stackTraces = false) (D : va_G) (ad : Nat → Nat) (cs : Nat → ClassId) (sz : Nat) (M : wM) (J : wJ) (b : Int32) (a : Int32) (cnt : Nat) (hn : M 330 2 = nI cnt) (hn16 : cnt ≤ 16) : wXi l yX8_jump wsX8_jump { frames := 7, cells := 2, slots := 12, locals := 121 } D 340 cSh ad cs [.ref (ad 329), .int b, .int a] sz M J 2 12 (fun r_ u_ => inB b cnt ∧ inB a cnt ∧ u_ = (F_X2_endWithJump (wU M 329 4 (nI 0)) (tn b) a, J) ∧ r_ = M (201 + 6 * tn b) 5) (fun E_ => E_ = xIX ∧ ¬ (inB b cnt ∧ inB a cnt)) := by
  refine wX_i (cc := cX8_jump) (maxL := 5) (ret := (some .int)) (by decide) rfl (Nat.le_of_ble_eq_true rfl) ?_
  intro p e s m below meth c ls A hx hb hr hml hown hts hlocks hK hA hw hl hAe hZ hout
  clear hAe
  have hl : lv_has ls 5 [(0, .ref (ad 329)), (1, .int b), (2, .int a)] := hl
  have f37 : (Cond.fieldLink RX8 37 "RangePropagato\x72" "analysisStands" "Z").before _ s = true := hts _ (by decide +kernel)
  have iX8 : ∀ w ∈ wsX80, w ∈ wsX8_jump := by decide +kernel
  have f10 : (Cond.fieldLink RX8 10 "RangePropagato\x72" "program" "LRangePropagator$Program;").before _ s = true := hts _ (by decide +kernel)
  have f83 : (Cond.fieldLink RX8 83 "RangePropagator$Program" "blocks" "[LRangePropagator$Block;").before _ s = true := hts _ (by decide +kernel)
  have iX5 : ∀ w ∈ wsX50, w ∈ wsX8_jump := by decide +kernel
  have f98 : (Cond.fieldLink RX8 98 "RangePropagator$Block" "edgeCount" "I").before _ s = true := hts _ (by decide +kernel)
  have iX2 : ∀ w ∈ wsX20, w ∈ wsX8_jump := by decide +kernel
  refine lv_aload_n hx hb dX8_jump_0 rfl (lv_at hl 0 rfl) ?_
  refine lv_iload_n hx hb dX8_jump_1 rfl (lv_at hl 1 rfl) ?_
  refine wr_xVv (k := 329) (ci := 7) (As := [.int b]) (rest := []) ⟨hx, hb, hml, hown, hts⟩ (cwV 1 hts gX8_jump_X8_requireBlock rfl rfl rfl (by decide +kernel) ⟨Nat.le_of_ble_eq_true rfl, Nat.le_of_ble_eq_true rfl⟩) hK hA hZ hw (k_X8_requireBlock l hflag D ad cs s.heap.size M J b cnt hn hn16) (by omega) cs_X rfl rfl rfl hl.1 (Nat.le_of_ble_eq_true rfl) ⟨Nat.le_of_ble_eq_true rfl, Nat.le_of_ble_eq_true rfl⟩ dX8_jump_2 hout hlocks (fun E z => ⟨z.1, fun y => z.2 y.1⟩) ⟨Nat.le_of_ble_eq_true rfl, Nat.le_of_ble_eq_true rfl⟩ (fun M2 J3 H locs h4 hw => ?_)
  obtain ⟨h4u, h4i⟩ := h4
  cases h4u
  obtain ⟨b_n, b_h, rfl⟩ := h4i
  refine lv_aload_n hx hb dX8_jump_5 rfl (lv_at hl 0 rfl) ?_
  refine lv_iload_n hx hb dX8_jump_6 rfl (lv_at hl 2 rfl) ?_
  refine wr_xVv (k := 329) (ci := 7) (As := [.int a]) (rest := []) ⟨hx, hb, hml, hown, hts⟩ (cwV 1 hts gX8_jump_X8_requireBlock rfl rfl rfl (by decide +kernel) ⟨Nat.le_of_ble_eq_true rfl, Nat.le_of_ble_eq_true rfl⟩) hK hA hZ hw (k_X8_requireBlock l hflag D ad cs H.size M J a cnt hn hn16) (by omega) cs_X rfl rfl rfl hl.1 (Nat.le_of_ble_eq_true rfl) ⟨Nat.le_of_ble_eq_true rfl, Nat.le_of_ble_eq_true rfl⟩ dX8_jump_7 hout hlocks (fun E z => ⟨z.1, fun y => z.2 y.2⟩) ⟨Nat.le_of_ble_eq_true rfl, Nat.le_of_ble_eq_true rfl⟩ (fun M6 J7 H locs h8 hw => ?_)
  obtain ⟨h8u, h8i⟩ := h8
  cases h8u
  obtain ⟨a_n, a_h, rfl⟩ := h8i
  refine lv_aload_n hx hb dX8_jump_10 rfl (lv_at hl 0 rfl) ?_
  refine lv_iconst (v := nI 0) hx hb dX8_jump_11 (by decide) ?_
  refine wr_pi hx hb hown hK hts iX8 tyX8_ok nmX8 (ci := 7) rfl 4 (by decide) f37 rfl rfl hw 329 (by omega) cs_X rfl (by decide) (by decide) dX8_jump_12 (fun H locs hw => ?_)
  refine lv_aload_n hx hb dX8_jump_15 rfl (lv_at hl 0 rfl) ?_
  refine wr_gr hx hb hown hK hts iX8 (ci := 7) rfl 0 (by decide) f10 rfl hw 329 (by omega) 330 cs_X rfl dX8_jump_16 ?_
  refine wr_gr hx hb hown hK hts iX5 (ci := 4) rfl 0 (by decide) f83 rfl hw 330 (by omega) 331 cs_P rfl dX8_jump_19 ?_
  refine lv_iload_n hx hb dX8_jump_22 rfl (lv_at hl 1 rfl) ?_
  refine wr_aldN hx hb hK hw 331 (by omega) cs_PB rfl (by decide) b_n rfl (by omega) dX8_jump_23 ?_
  refine lv_astore_n (lv' := [(3, .ref (ad (201 + 6 * b_n))), (0, .ref (ad 329)), (1, .int (nI b_n)), (2, .int (nI a_n))]) hx hb dX8_jump_24 rfl hl (by decide) rfl (fun ls hl => ?_)
  refine lv_aload_n hx hb dX8_jump_25 rfl (lv_at hl 0 rfl) ?_
  refine wr_gi hx hb hown hK hts iX2 (ci := 1) rfl 5 (by decide) f98 rfl hw (201 + 6 * b_n) (by omega) (cs_B (by omega)) rfl dX8_jump_26 ?_
  rw [show (wU M 329 4 (nI 0)) (201 + 6 * b_n) 5 = M (201 + 6 * b_n) 5 from (congrFun (wU_ne (by omega)) 5)]
  refine lv_istore (lv' := [(4, .int (M (201 + 6 * b_n) 5)), (3, .ref (ad (201 + 6 * b_n))), (0, .ref (ad 329)), (1, .int (nI b_n)), (2, .int (nI a_n))]) hx hb dX8_jump_29 hl (by decide) rfl (fun ls hl => ?_)
  refine lv_aload_n hx hb dX8_jump_31 rfl (lv_at hl 1 rfl) ?_
  refine lv_iload_n hx hb dX8_jump_32 rfl (lv_at hl 4 rfl) ?_
  refine wr_cVv (k := 201 + 6 * b_n) (ci := 1) (As := [.int (nI a_n)]) (rest := []) ⟨hx, hb, hml, hown, hts⟩ (cwV 1 hts gX8_jump_X2_endWithJump rfl rfl rfl (by decide +kernel) ⟨Nat.le_of_ble_eq_true rfl, Nat.le_of_ble_eq_true rfl⟩) hK hA hw (k_X2_endWithJump l D ad cs H.size (wU M 329 4 (nI 0)) J b_n (nI a_n) (by omega)) (by omega) (cs_B (by omega)) rfl rfl rfl hl.1 (Nat.le_of_ble_eq_true rfl) ⟨Nat.le_of_ble_eq_true rfl, Nat.le_of_ble_eq_true rfl⟩ dX8_jump_33 (fun M10 J11 H locs h12 hw => ?_)
  cases h12
  refine lv_iload hx hb dX8_jump_36 (lv_at hl 0 rfl) ?_
  exact vx_ret (W.widen (k := 2) (n := 12) (Nat.le_of_ble_eq_true rfl) (Nat.le_of_ble_eq_true rfl) (wr_iret hx hb hr rfl hK hw ⟨⟨b_n, b_h, rfl⟩, ⟨a_n, a_h, rfl⟩, (by rw [tn_nI (by omega)]), (by rw [tn_nI (by omega)])⟩ hlocks dX8_jump_38))
set_option maxHeartbeats 4000000 in
set_option maxRecDepth 100000 in
theorem k_X8_branch (l : Launch) (hflag : l.stackTraces = false) (D : va_G) (ad : Nat → Nat) (cs : Nat → ClassId) (sz : Nat) (M : wM) (J : wJ) (b : Int32) (x : Int32) (r : Int32) (y : Int32) (a : Int32) (d : Int32) (cnt : Nat) (hn : M 330 2 = nI cnt) (hn16 : cnt ≤ 16) : wXi l yX8_branch wsX8_branch { frames := 7, cells := 6, slots := 36, locals := 121 } D 340 cSh ad cs [.ref (ad 329), .int b, .int x, .int r, .int y, .int a, .int d] sz M J 6 36 (fun r_ u_ => (inB b cnt ∧ inB x 6 ∧ inB y 6 ∧ inB a cnt ∧ inB d cnt) ∧ inB r 4 ∧ u_ = (F_X2_endWithBranch (wU M 329 4 (nI 0)) (tn b) x r y a d, J) ∧ r_ = M (201 + 6 * tn b) 5) (fun E_ => (E_ = xIX ∧ ¬ (inB b cnt ∧ inB x 6 ∧ inB y 6 ∧ inB a cnt ∧ inB d cnt)) ∨ (E_ = xIA ∧ (inB b cnt ∧ inB x 6 ∧ inB y 6 ∧ inB a cnt ∧ inB d cnt) ∧ ¬ inB r 4)) := by
  refine wX_i (cc := cX8_branch) (maxL := 9) (ret := (some .int)) (by decide) rfl (Nat.le_of_ble_eq_true rfl) ?_
  intro p e s m below meth c ls A hx hb hr hml hown hts hlocks hK hA hw hl hAe hZ hout
  clear hAe
  have hl : lv_has ls 9 [(0, .ref (ad 329)), (1, .int b), (2, .int x), (3, .int r), (4, .int y), (5, .int a), (6, .int d)] := hl
  have kl93 : (Cond.classLink RX8 93 xIA).before _ s = true := hts _ (by decide +kernel)
  have kiIA : (Cond.initialized xIA).before _ s = true := hts _ (by decide +kernel)
  have xt_IA : ∀ w ∈ (vx_atS RX8 97 xIA xNs).filter goodWord, w.before _ s = true := fun w h => hts w ((by decide +kernel : ∀ w ∈ (vx_atS RX8 97 xIA xNs).filter goodWord, w ∈ wsX8_branch) w h)
  have f37 : (Cond.fieldLink RX8 37 "RangePropagato\x72" "analysisStands" "Z").before _ s = true := hts _ (by decide +kernel)
  have iX8 : ∀ w ∈ wsX80, w ∈ wsX8_branch := by decide +kernel
  have f10 : (Cond.fieldLink RX8 10 "RangePropagato\x72" "program" "LRangePropagator$Program;").before _ s = true := hts _ (by decide +kernel)
  have f83 : (Cond.fieldLink RX8 83 "RangePropagator$Program" "blocks" "[LRangePropagator$Block;").before _ s = true := hts _ (by decide +kernel)
  have iX5 : ∀ w ∈ wsX50, w ∈ wsX8_branch := by decide +kernel
  have f98 : (Cond.fieldLink RX8 98 "RangePropagator$Block" "edgeCount" "I").before _ s = true := hts _ (by decide +kernel)
  have iX2 : ∀ w ∈ wsX20, w ∈ wsX8_branch := by decide +kernel
  refine lv_aload_n hx hb dX8_branch_0 rfl (lv_at hl 0 rfl) ?_
  refine lv_iload_n hx hb dX8_branch_1 rfl (lv_at hl 1 rfl) ?_
  refine wr_xVv (k := 329) (ci := 7) (As := [.int b]) (rest := []) ⟨hx, hb, hml, hown, hts⟩ (cwV 1 hts gX8_branch_X8_requireBlock rfl rfl rfl (by decide +kernel) ⟨Nat.le_of_ble_eq_true rfl, Nat.le_of_ble_eq_true rfl⟩) hK hA hZ hw (k_X8_requireBlock l hflag D ad cs s.heap.size M J b cnt hn hn16) (by omega) cs_X rfl rfl rfl hl.1 (Nat.le_of_ble_eq_true rfl) ⟨Nat.le_of_ble_eq_true rfl, Nat.le_of_ble_eq_true rfl⟩ dX8_branch_2 hout hlocks (fun E z => Or.inl ⟨z.1, fun y => z.2 y.1⟩) ⟨Nat.le_of_ble_eq_true rfl, Nat.le_of_ble_eq_true rfl⟩ (fun M2 J3 H locs h4 hw => ?_)
  obtain ⟨h4u, h4i⟩ := h4
  cases h4u
  obtain ⟨b_n, b_h, rfl⟩ := h4i
  refine lv_iload_n hx hb dX8_branch_5 rfl (lv_at hl 2 rfl) ?_
  refine wr_xSv (As := [.int x]) (rest := []) ⟨hx, hb, hml, hown, hts⟩ (va_cwS 1 hts gX8_branch_X8_requireVariable rfl rfl rfl (by decide +kernel) ⟨Nat.le_of_ble_eq_true rfl, Nat.le_of_ble_eq_true rfl⟩) hK hA hZ hw (k_X8_requireVariable l hflag D ad cs H.size M J x ) rfl rfl hl.1 (Nat.le_of_ble_eq_true rfl) ⟨Nat.le_of_ble_eq_true rfl, Nat.le_of_ble_eq_true rfl⟩ dX8_branch_6 hout hlocks (fun E z => Or.inl ⟨z.1, fun y => z.2 y.2.1⟩) ⟨Nat.le_of_ble_eq_true rfl, Nat.le_of_ble_eq_true rfl⟩ (fun M6 J7 H locs h8 hw => ?_)
  obtain ⟨h8u, h8i⟩ := h8
  cases h8u
  obtain ⟨x_n, x_h, rfl⟩ := h8i
  refine lv_iload hx hb dX8_branch_9 (lv_at hl 4 rfl) ?_
  refine wr_xSv (As := [.int y]) (rest := []) ⟨hx, hb, hml, hown, hts⟩ (va_cwS 1 hts gX8_branch_X8_requireVariable rfl rfl rfl (by decide +kernel) ⟨Nat.le_of_ble_eq_true rfl, Nat.le_of_ble_eq_true rfl⟩) hK hA hZ hw (k_X8_requireVariable l hflag D ad cs H.size M J y ) rfl rfl hl.1 (Nat.le_of_ble_eq_true rfl) ⟨Nat.le_of_ble_eq_true rfl, Nat.le_of_ble_eq_true rfl⟩ dX8_branch_11 hout hlocks (fun E z => Or.inl ⟨z.1, fun y => z.2 y.2.2.1⟩) ⟨Nat.le_of_ble_eq_true rfl, Nat.le_of_ble_eq_true rfl⟩ (fun M10 J11 H locs h12 hw => ?_)
  obtain ⟨h12u, h12i⟩ := h12
  cases h12u
  obtain ⟨y_n, y_h, rfl⟩ := h12i
  refine lv_aload_n hx hb dX8_branch_14 rfl (lv_at hl 0 rfl) ?_
  refine lv_iload hx hb dX8_branch_15 (lv_at hl 5 rfl) ?_
  refine wr_xVv (k := 329) (ci := 7) (As := [.int a]) (rest := []) ⟨hx, hb, hml, hown, hts⟩ (cwV 1 hts gX8_branch_X8_requireBlock rfl rfl rfl (by decide +kernel) ⟨Nat.le_of_ble_eq_true rfl, Nat.le_of_ble_eq_true rfl⟩) hK hA hZ hw (k_X8_requireBlock l hflag D ad cs H.size M J a cnt hn hn16) (by omega) cs_X rfl rfl rfl hl.1 (Nat.le_of_ble_eq_true rfl) ⟨Nat.le_of_ble_eq_true rfl, Nat.le_of_ble_eq_true rfl⟩ dX8_branch_17 hout hlocks (fun E z => Or.inl ⟨z.1, fun y => z.2 y.2.2.2.1⟩) ⟨Nat.le_of_ble_eq_true rfl, Nat.le_of_ble_eq_true rfl⟩ (fun M14 J15 H locs h16 hw => ?_)
  obtain ⟨h16u, h16i⟩ := h16
  cases h16u
  obtain ⟨a_n, a_h, rfl⟩ := h16i
  refine lv_aload_n hx hb dX8_branch_20 rfl (lv_at hl 0 rfl) ?_
  refine lv_iload hx hb dX8_branch_21 (lv_at hl 6 rfl) ?_
  refine wr_xVv (k := 329) (ci := 7) (As := [.int d]) (rest := []) ⟨hx, hb, hml, hown, hts⟩ (cwV 1 hts gX8_branch_X8_requireBlock rfl rfl rfl (by decide +kernel) ⟨Nat.le_of_ble_eq_true rfl, Nat.le_of_ble_eq_true rfl⟩) hK hA hZ hw (k_X8_requireBlock l hflag D ad cs H.size M J d cnt hn hn16) (by omega) cs_X rfl rfl rfl hl.1 (Nat.le_of_ble_eq_true rfl) ⟨Nat.le_of_ble_eq_true rfl, Nat.le_of_ble_eq_true rfl⟩ dX8_branch_23 hout hlocks (fun E z => Or.inl ⟨z.1, fun y => z.2 y.2.2.2.2⟩) ⟨Nat.le_of_ble_eq_true rfl, Nat.le_of_ble_eq_true rfl⟩ (fun M18 J19 H locs h20 hw => ?_)
  obtain ⟨h20u, h20i⟩ := h20
  cases h20u
  obtain ⟨d_n, d_h, rfl⟩ := h20i
  refine lv_iload_n hx hb dX8_branch_26 rfl (lv_at hl 3 rfl) ?_
  refine lv_if_lt (tgt := 35) hx hb dX8_branch_27 (by decide) (fun q21 => ?_) (fun q21 => ?_)
  · skip
    exact wr_thr (text := "relation is not 0 to 3") hx hb hflag hown (by decide +kernel) kl93 kiIA (by decide +kernel) (by decide +kernel) xt_IA xg_IA xo_IA hZ hK hw (hl.1.trans hml.symm) dX8_branch_35 dX8_branch_38 dX8_branch_39 dX8_branch_41 dX8_branch_44 hout (Nat.le_of_ble_eq_true rfl) (Nat.le_of_ble_eq_true rfl) (Nat.le_of_ble_eq_true rfl) (Nat.le_of_ble_eq_true rfl) hlocks (Nat.le_of_ble_eq_true rfl) (Nat.le_of_ble_eq_true rfl) (Or.inr ⟨rfl, ⟨⟨b_n, b_h, rfl⟩, ⟨x_n, x_h, rfl⟩, ⟨y_n, y_h, rfl⟩, ⟨a_n, a_h, rfl⟩, ⟨d_n, d_h, rfl⟩⟩, nB_1 q21 (by decide)⟩)
  · skip
    refine lv_iload_n hx hb dX8_branch_30 rfl (lv_at hl 3 rfl) ?_
    refine lv_iconst (v := nI 3) hx hb dX8_branch_31 (by decide) ?_
    refine lv_icmp_le (tgt := 45) hx hb dX8_branch_32 (by decide) (fun q22 => ?_) (fun q22 => ?_)
    · skip
      refine lv_aload_n hx hb dX8_branch_45 rfl (lv_at hl 0 rfl) ?_
      refine lv_iconst (v := nI 0) hx hb dX8_branch_46 (by decide) ?_
      refine wr_pi hx hb hown hK hts iX8 tyX8_ok nmX8 (ci := 7) rfl 4 (by decide) f37 rfl rfl hw 329 (by omega) cs_X rfl (by decide) (by decide) dX8_branch_47 (fun H locs hw => ?_)
      refine lv_aload_n hx hb dX8_branch_50 rfl (lv_at hl 0 rfl) ?_
      refine wr_gr hx hb hown hK hts iX8 (ci := 7) rfl 0 (by decide) f10 rfl hw 329 (by omega) 330 cs_X rfl dX8_branch_51 ?_
      refine wr_gr hx hb hown hK hts iX5 (ci := 4) rfl 0 (by decide) f83 rfl hw 330 (by omega) 331 cs_P rfl dX8_branch_54 ?_
      refine lv_iload_n hx hb dX8_branch_57 rfl (lv_at hl 1 rfl) ?_
      refine wr_aldN hx hb hK hw 331 (by omega) cs_PB rfl (by decide) b_n rfl (by omega) dX8_branch_58 ?_
      refine lv_astore (lv' := [(7, .ref (ad (201 + 6 * b_n))), (0, .ref (ad 329)), (1, .int (nI b_n)), (2, .int (nI x_n)), (3, .int r), (4, .int (nI y_n)), (5, .int (nI a_n)), (6, .int (nI d_n))]) hx hb dX8_branch_59 hl (by decide) rfl (fun ls hl => ?_)
      refine lv_aload hx hb dX8_branch_61 (lv_at hl 0 rfl) ?_
      refine wr_gi hx hb hown hK hts iX2 (ci := 1) rfl 5 (by decide) f98 rfl hw (201 + 6 * b_n) (by omega) (cs_B (by omega)) rfl dX8_branch_63 ?_
      rw [show (wU M 329 4 (nI 0)) (201 + 6 * b_n) 5 = M (201 + 6 * b_n) 5 from (congrFun (wU_ne (by omega)) 5)]
      refine lv_istore (lv' := [(8, .int (M (201 + 6 * b_n) 5)), (7, .ref (ad (201 + 6 * b_n))), (0, .ref (ad 329)), (1, .int (nI b_n)), (2, .int (nI x_n)), (3, .int r), (4, .int (nI y_n)), (5, .int (nI a_n)), (6, .int (nI d_n))]) hx hb dX8_branch_66 hl (by decide) rfl (fun ls hl => ?_)
      refine lv_aload hx hb dX8_branch_68 (lv_at hl 1 rfl) ?_
      refine lv_iload_n hx hb dX8_branch_70 rfl (lv_at hl 4 rfl) ?_
      refine lv_iload_n hx hb dX8_branch_71 rfl (lv_at hl 5 rfl) ?_
      refine lv_iload hx hb dX8_branch_72 (lv_at hl 6 rfl) ?_
      refine lv_iload hx hb dX8_branch_74 (lv_at hl 7 rfl) ?_
      refine lv_iload hx hb dX8_branch_76 (lv_at hl 8 rfl) ?_
      refine wr_cVv (k := 201 + 6 * b_n) (ci := 1) (As := [.int (nI x_n), .int r, .int (nI y_n), .int (nI a_n), .int (nI d_n)]) (rest := []) ⟨hx, hb, hml, hown, hts⟩ (cwV 5 hts gX8_branch_X2_endWithBranch rfl rfl rfl (by decide +kernel) ⟨Nat.le_of_ble_eq_true rfl, Nat.le_of_ble_eq_true rfl⟩) hK hA hw (k_X2_endWithBranch l D ad cs H.size (wU M 329 4 (nI 0)) J b_n (nI x_n) r (nI y_n) (nI a_n) (nI d_n) (by omega)) (by omega) (cs_B (by omega)) rfl rfl rfl hl.1 (Nat.le_of_ble_eq_true rfl) ⟨Nat.le_of_ble_eq_true rfl, Nat.le_of_ble_eq_true rfl⟩ dX8_branch_78 (fun M24 J25 H locs h26 hw => ?_)
      cases h26
      refine lv_iload hx hb dX8_branch_81 (lv_at hl 0 rfl) ?_
      exact vx_ret (W.widen (k := 6) (n := 36) (Nat.le_of_ble_eq_true rfl) (Nat.le_of_ble_eq_true rfl) (wr_iret hx hb hr rfl hK hw ⟨⟨⟨b_n, b_h, rfl⟩, ⟨x_n, x_h, rfl⟩, ⟨y_n, y_h, rfl⟩, ⟨a_n, a_h, rfl⟩, ⟨d_n, d_h, rfl⟩⟩, inB_le q21 q22 (by decide), (by rw [tn_nI (by omega)]), (by rw [tn_nI (by omega)])⟩ hlocks dX8_branch_83))
    · skip
      exact wr_thr (text := "relation is not 0 to 3") hx hb hflag hown (by decide +kernel) kl93 kiIA (by decide +kernel) (by decide +kernel) xt_IA xg_IA xo_IA hZ hK hw (hl.1.trans hml.symm) dX8_branch_35 dX8_branch_38 dX8_branch_39 dX8_branch_41 dX8_branch_44 hout (Nat.le_of_ble_eq_true rfl) (Nat.le_of_ble_eq_true rfl) (Nat.le_of_ble_eq_true rfl) (Nat.le_of_ble_eq_true rfl) hlocks (Nat.le_of_ble_eq_true rfl) (Nat.le_of_ble_eq_true rfl) (Or.inr ⟨rfl, ⟨⟨b_n, b_h, rfl⟩, ⟨x_n, x_h, rfl⟩, ⟨y_n, y_h, rfl⟩, ⟨a_n, a_h, rfl⟩, ⟨d_n, d_h, rfl⟩⟩, nB_3 q22 (by decide)⟩)
set_option maxHeartbeats 4000000 in
set_option maxRecDepth 100000 in
theorem k_X8_clear (l : Launch) (hflag : l.stackTraces = false) (D : va_G) (ad : Nat → Nat) (cs : Nat → ClassId) (sz : Nat) (M : wM) (J : wJ) (b : Int32) (cnt : Nat) (hn : M 330 2 = nI cnt) (hn16 : cnt ≤ 16) : wXi l yX8_clear wsX8_clear { frames := 7, cells := 1, slots := 6, locals := 121 } D 340 cSh ad cs [.ref (ad 329), .int b] sz M J 1 6 (fun r_ u_ => inB b cnt ∧ u_ = (F_X2_makeEmpty (wU M 329 4 (nI 0)) (tn b), J) ∧ r_ = M (201 + 6 * tn b) 0) (fun E_ => E_ = xIX ∧ ¬ inB b cnt) := by
  refine wX_i (cc := cX8_clear) (maxL := 4) (ret := (some .int)) (by decide) rfl (Nat.le_of_ble_eq_true rfl) ?_
  intro p e s m below meth c ls A hx hb hr hml hown hts hlocks hK hA hw hl hAe hZ hout
  clear hAe
  have hl : lv_has ls 4 [(0, .ref (ad 329)), (1, .int b)] := hl
  have f37 : (Cond.fieldLink RX8 37 "RangePropagato\x72" "analysisStands" "Z").before _ s = true := hts _ (by decide +kernel)
  have iX8 : ∀ w ∈ wsX80, w ∈ wsX8_clear := by decide +kernel
  have f10 : (Cond.fieldLink RX8 10 "RangePropagato\x72" "program" "LRangePropagator$Program;").before _ s = true := hts _ (by decide +kernel)
  have f83 : (Cond.fieldLink RX8 83 "RangePropagator$Program" "blocks" "[LRangePropagator$Block;").before _ s = true := hts _ (by decide +kernel)
  have iX5 : ∀ w ∈ wsX50, w ∈ wsX8_clear := by decide +kernel
  have f110 : (Cond.fieldLink RX8 110 "RangePropagator$Block" "statementCount" "I").before _ s = true := hts _ (by decide +kernel)
  have iX2 : ∀ w ∈ wsX20, w ∈ wsX8_clear := by decide +kernel
  refine lv_aload_n hx hb dX8_clear_0 rfl (lv_at hl 0 rfl) ?_
  refine lv_iload_n hx hb dX8_clear_1 rfl (lv_at hl 1 rfl) ?_
  refine wr_xVv (k := 329) (ci := 7) (As := [.int b]) (rest := []) ⟨hx, hb, hml, hown, hts⟩ (cwV 1 hts gX8_clear_X8_requireBlock rfl rfl rfl (by decide +kernel) ⟨Nat.le_of_ble_eq_true rfl, Nat.le_of_ble_eq_true rfl⟩) hK hA hZ hw (k_X8_requireBlock l hflag D ad cs s.heap.size M J b cnt hn hn16) (by omega) cs_X rfl rfl rfl hl.1 (Nat.le_of_ble_eq_true rfl) ⟨Nat.le_of_ble_eq_true rfl, Nat.le_of_ble_eq_true rfl⟩ dX8_clear_2 hout hlocks (fun E z => z) ⟨Nat.le_of_ble_eq_true rfl, Nat.le_of_ble_eq_true rfl⟩ (fun M2 J3 H locs h4 hw => ?_)
  obtain ⟨h4u, h4i⟩ := h4
  cases h4u
  obtain ⟨b_n, b_h, rfl⟩ := h4i
  refine lv_aload_n hx hb dX8_clear_5 rfl (lv_at hl 0 rfl) ?_
  refine lv_iconst (v := nI 0) hx hb dX8_clear_6 (by decide) ?_
  refine wr_pi hx hb hown hK hts iX8 tyX8_ok nmX8 (ci := 7) rfl 4 (by decide) f37 rfl rfl hw 329 (by omega) cs_X rfl (by decide) (by decide) dX8_clear_7 (fun H locs hw => ?_)
  refine lv_aload_n hx hb dX8_clear_10 rfl (lv_at hl 0 rfl) ?_
  refine wr_gr hx hb hown hK hts iX8 (ci := 7) rfl 0 (by decide) f10 rfl hw 329 (by omega) 330 cs_X rfl dX8_clear_11 ?_
  refine wr_gr hx hb hown hK hts iX5 (ci := 4) rfl 0 (by decide) f83 rfl hw 330 (by omega) 331 cs_P rfl dX8_clear_14 ?_
  refine lv_iload_n hx hb dX8_clear_17 rfl (lv_at hl 1 rfl) ?_
  refine wr_aldN hx hb hK hw 331 (by omega) cs_PB rfl (by decide) b_n rfl (by omega) dX8_clear_18 ?_
  refine lv_astore_n (lv' := [(2, .ref (ad (201 + 6 * b_n))), (0, .ref (ad 329)), (1, .int (nI b_n))]) hx hb dX8_clear_19 rfl hl (by decide) rfl (fun ls hl => ?_)
  refine lv_aload_n hx hb dX8_clear_20 rfl (lv_at hl 0 rfl) ?_
  refine wr_gi hx hb hown hK hts iX2 (ci := 1) rfl 0 (by decide) f110 rfl hw (201 + 6 * b_n) (by omega) (cs_B (by omega)) rfl dX8_clear_21 ?_
  rw [show (wU M 329 4 (nI 0)) (201 + 6 * b_n) 0 = M (201 + 6 * b_n) 0 from (congrFun (wU_ne (by omega)) 0)]
  refine lv_istore_n (lv' := [(3, .int (M (201 + 6 * b_n) 0)), (2, .ref (ad (201 + 6 * b_n))), (0, .ref (ad 329)), (1, .int (nI b_n))]) hx hb dX8_clear_24 rfl hl (by decide) rfl (fun ls hl => ?_)
  refine lv_aload_n hx hb dX8_clear_25 rfl (lv_at hl 1 rfl) ?_
  refine wr_cVv (k := 201 + 6 * b_n) (ci := 1) (As := []) (rest := []) ⟨hx, hb, hml, hown, hts⟩ (cwV 0 hts gX8_clear_X2_makeEmpty rfl rfl rfl (by decide +kernel) ⟨Nat.le_of_ble_eq_true rfl, Nat.le_of_ble_eq_true rfl⟩) hK hA hw (k_X2_makeEmpty l D ad cs H.size (wU M 329 4 (nI 0)) J b_n (by omega)) (by omega) (cs_B (by omega)) rfl rfl rfl hl.1 (Nat.le_of_ble_eq_true rfl) ⟨Nat.le_of_ble_eq_true rfl, Nat.le_of_ble_eq_true rfl⟩ dX8_clear_26 (fun M6 J7 H locs h8 hw => ?_)
  cases h8
  refine lv_iload_n hx hb dX8_clear_29 rfl (lv_at hl 0 rfl) ?_
  exact vx_ret (W.widen (k := 1) (n := 6) (Nat.le_of_ble_eq_true rfl) (Nat.le_of_ble_eq_true rfl) (wr_iret hx hb hr rfl hK hw ⟨⟨b_n, b_h, rfl⟩, (by rw [tn_nI (by omega)]), (by rw [tn_nI (by omega)])⟩ hlocks dX8_clear_30))
set_option maxHeartbeats 4000000 in
set_option maxRecDepth 100000 in
theorem k_X8_setEffort (l : Launch) (hflag : l.stackTraces = false) (D : va_G) (ad : Nat → Nat) (cs : Nat → ClassId) (sz : Nat) (M : wM) (J : wJ) (d : Int32) (n : Int32)  : wXi l yX8_setEffort wsX8_setEffort { frames := 6, cells := 1, slots := 6, locals := 100 } D 340 cSh ad cs [.ref (ad 329), .int d, .int n] sz M J 1 6 (fun r_ u_ => inB d 11 ∧ inB n 6 ∧ u_ = (wU (wU (wU M 329 4 (nI 0)) 332 0 d) 332 1 n, J) ∧ r_ = (if M 332 0 = d ∧ M 332 1 = n then nI 0 else nI 1)) (fun E_ => E_ = xIA ∧ ¬ (inB d 11 ∧ inB n 6)) := by
  refine wX_i (cc := cX8_setEffort) (maxL := 4) (ret := (some .boolean)) (by decide) rfl (Nat.le_of_ble_eq_true rfl) ?_
  intro p e s m below meth c ls A hx hb hr hml hown hts hlocks hK hA hw hl hAe hZ hout
  clear hAe
  have hl : lv_has ls 4 [(0, .ref (ad 329)), (1, .int d), (2, .int n)] := hl
  have kl93 : (Cond.classLink RX8 93 xIA).before _ s = true := hts _ (by decide +kernel)
  have kiIA : (Cond.initialized xIA).before _ s = true := hts _ (by decide +kernel)
  have xt_IA : ∀ w ∈ (vx_atS RX8 97 xIA xNs).filter goodWord, w.before _ s = true := fun w h => hts w ((by decide +kernel : ∀ w ∈ (vx_atS RX8 97 xIA xNs).filter goodWord, w ∈ wsX8_setEffort) w h)
  have f37 : (Cond.fieldLink RX8 37 "RangePropagato\x72" "analysisStands" "Z").before _ s = true := hts _ (by decide +kernel)
  have iX8 : ∀ w ∈ wsX80, w ∈ wsX8_setEffort := by decide +kernel
  have f19 : (Cond.fieldLink RX8 19 "RangePropagato\x72" "settings" "LRangePropagator$Settings;").before _ s = true := hts _ (by decide +kernel)
  have f120 : (Cond.fieldLink RX8 120 "RangePropagator$Settings" "delay" "I").before _ s = true := hts _ (by decide +kernel)
  have iX6 : ∀ w ∈ wsX60, w ∈ wsX8_setEffort := by decide +kernel
  have f123 : (Cond.fieldLink RX8 123 "RangePropagator$Settings" "narrowings" "I").before _ s = true := hts _ (by decide +kernel)
  refine lv_iload_n hx hb dX8_setEffort_0 rfl (lv_at hl 1 rfl) ?_
  refine lv_if_lt (tgt := 10) hx hb dX8_setEffort_1 (by decide) (fun q1 => ?_) (fun q1 => ?_)
  · skip
    exact wr_thr (text := "delay is not 0 to 10") hx hb hflag hown (by decide +kernel) kl93 kiIA (by decide +kernel) (by decide +kernel) xt_IA xg_IA xo_IA hZ hK hw (hl.1.trans hml.symm) dX8_setEffort_10 dX8_setEffort_13 dX8_setEffort_14 dX8_setEffort_16 dX8_setEffort_19 hout (Nat.le_of_ble_eq_true rfl) (Nat.le_of_ble_eq_true rfl) (Nat.le_of_ble_eq_true rfl) (Nat.le_of_ble_eq_true rfl) hlocks (Nat.le_of_ble_eq_true rfl) (Nat.le_of_ble_eq_true rfl) ⟨rfl, fun z => absurd z.1 (nB_1 q1 (by decide))⟩
  · skip
    refine lv_iload_n hx hb dX8_setEffort_4 rfl (lv_at hl 1 rfl) ?_
    refine lv_bipush (v := nI 10) hx hb dX8_setEffort_5 (by decide) ?_
    refine lv_icmp_le (tgt := 20) hx hb dX8_setEffort_7 (by decide) (fun q2 => ?_) (fun q2 => ?_)
    · skip
      refine lv_iload_n hx hb dX8_setEffort_20 rfl (lv_at hl 2 rfl) ?_
      refine lv_if_lt (tgt := 29) hx hb dX8_setEffort_21 (by decide) (fun q3 => ?_) (fun q3 => ?_)
      · skip
        exact wr_thr (text := "narrowings is not 0 to 5") hx hb hflag hown (by decide +kernel) kl93 kiIA (by decide +kernel) (by decide +kernel) xt_IA xg_IA xo_IA hZ hK hw (hl.1.trans hml.symm) dX8_setEffort_29 dX8_setEffort_32 dX8_setEffort_33 dX8_setEffort_35 dX8_setEffort_38 hout (Nat.le_of_ble_eq_true rfl) (Nat.le_of_ble_eq_true rfl) (Nat.le_of_ble_eq_true rfl) (Nat.le_of_ble_eq_true rfl) hlocks (Nat.le_of_ble_eq_true rfl) (Nat.le_of_ble_eq_true rfl) ⟨rfl, fun z => absurd z.2 (nB_1 q3 (by decide))⟩
      · skip
        refine lv_iload_n hx hb dX8_setEffort_24 rfl (lv_at hl 2 rfl) ?_
        refine lv_iconst (v := nI 5) hx hb dX8_setEffort_25 (by decide) ?_
        refine lv_icmp_le (tgt := 39) hx hb dX8_setEffort_26 (by decide) (fun q4 => ?_) (fun q4 => ?_)
        · skip
          refine lv_aload_n hx hb dX8_setEffort_39 rfl (lv_at hl 0 rfl) ?_
          refine lv_iconst (v := nI 0) hx hb dX8_setEffort_40 (by decide) ?_
          refine wr_pi hx hb hown hK hts iX8 tyX8_ok nmX8 (ci := 7) rfl 4 (by decide) f37 rfl rfl hw 329 (by omega) cs_X rfl (by decide) (by decide) dX8_setEffort_41 (fun H locs hw => ?_)
          refine lv_aload_n hx hb dX8_setEffort_44 rfl (lv_at hl 0 rfl) ?_
          refine wr_gr hx hb hown hK hts iX8 (ci := 7) rfl 1 (by decide) f19 rfl hw 329 (by omega) 332 cs_X rfl dX8_setEffort_45 ?_
          refine wr_gi hx hb hown hK hts iX6 (ci := 5) rfl 0 (by decide) f120 rfl hw 332 (by omega) cs_T rfl dX8_setEffort_48 ?_
          rw [show (wU M 329 4 (nI 0)) 332 0 = M 332 0 from (congrFun (wU_ne (by decide)) 0)]
          refine lv_iload_n hx hb dX8_setEffort_51 rfl (lv_at hl 1 rfl) ?_
          refine lv_icmp_ne (tgt := 66) hx hb dX8_setEffort_52 (by decide) (fun q5 => ?_) (fun q5 => ?_)
          · skip
            refine lv_iconst (v := nI 1) hx hb dX8_setEffort_66 (by decide) ?_
            refine lv_goto (tgt := 71) hx hb dX8_setEffort_67 (by decide) ?_
            refine lv_istore_n (lv' := [(3, .int (nI 1)), (0, .ref (ad 329)), (1, .int d), (2, .int n)]) hx hb dX8_setEffort_71 rfl hl (by decide) rfl (fun ls hl => ?_)
            refine lv_aload_n hx hb dX8_setEffort_72 rfl (lv_at hl 1 rfl) ?_
            refine wr_gr hx hb hown hK hts iX8 (ci := 7) rfl 1 (by decide) f19 rfl hw 329 (by omega) 332 cs_X rfl dX8_setEffort_73 ?_
            refine lv_iload_n hx hb dX8_setEffort_76 rfl (lv_at hl 2 rfl) ?_
            refine wr_pi hx hb hown hK hts iX6 tyX6_ok nmX6 (ci := 5) rfl 0 (by decide) f120 rfl rfl hw 332 (by omega) cs_T rfl rfl rfl dX8_setEffort_77 (fun H locs hw => ?_)
            refine lv_aload_n hx hb dX8_setEffort_80 rfl (lv_at hl 1 rfl) ?_
            refine wr_gr hx hb hown hK hts iX8 (ci := 7) rfl 1 (by decide) f19 rfl hw 329 (by omega) 332 cs_X rfl dX8_setEffort_81 ?_
            refine lv_iload_n hx hb dX8_setEffort_84 rfl (lv_at hl 3 rfl) ?_
            refine wr_pi hx hb hown hK hts iX6 tyX6_ok nmX6 (ci := 5) rfl 1 (by decide) f123 rfl rfl hw 332 (by omega) cs_T rfl rfl rfl dX8_setEffort_85 (fun H locs hw => ?_)
            refine lv_iload_n hx hb dX8_setEffort_88 rfl (lv_at hl 0 rfl) ?_
            exact vx_ret (W.widen (k := 1) (n := 6) (Nat.le_of_ble_eq_true rfl) (Nat.le_of_ble_eq_true rfl) (wr_iret hx hb hr (by decide) hK hw ⟨inB_le q1 q2 (by decide), inB_le q3 q4 (by decide), rfl, (by rw [if_neg (fun z => q5 z.1)])⟩ hlocks dX8_setEffort_89))
          · skip
            refine lv_aload_n hx hb dX8_setEffort_55 rfl (lv_at hl 0 rfl) ?_
            refine wr_gr hx hb hown hK hts iX8 (ci := 7) rfl 1 (by decide) f19 rfl hw 329 (by omega) 332 cs_X rfl dX8_setEffort_56 ?_
            refine wr_gi hx hb hown hK hts iX6 (ci := 5) rfl 1 (by decide) f123 rfl hw 332 (by omega) cs_T rfl dX8_setEffort_59 ?_
            rw [show (wU M 329 4 (nI 0)) 332 1 = M 332 1 from (congrFun (wU_ne (by decide)) 1)]
            refine lv_iload_n hx hb dX8_setEffort_62 rfl (lv_at hl 2 rfl) ?_
            refine lv_icmp_eq (tgt := 70) hx hb dX8_setEffort_63 (by decide) (fun q6 => ?_) (fun q6 => ?_)
            · skip
              refine lv_iconst (v := nI 0) hx hb dX8_setEffort_70 (by decide) ?_
              refine lv_istore_n (lv' := [(3, .int (nI 0)), (0, .ref (ad 329)), (1, .int d), (2, .int n)]) hx hb dX8_setEffort_71 rfl hl (by decide) rfl (fun ls hl => ?_)
              refine lv_aload_n hx hb dX8_setEffort_72 rfl (lv_at hl 1 rfl) ?_
              refine wr_gr hx hb hown hK hts iX8 (ci := 7) rfl 1 (by decide) f19 rfl hw 329 (by omega) 332 cs_X rfl dX8_setEffort_73 ?_
              refine lv_iload_n hx hb dX8_setEffort_76 rfl (lv_at hl 2 rfl) ?_
              refine wr_pi hx hb hown hK hts iX6 tyX6_ok nmX6 (ci := 5) rfl 0 (by decide) f120 rfl rfl hw 332 (by omega) cs_T rfl rfl rfl dX8_setEffort_77 (fun H locs hw => ?_)
              refine lv_aload_n hx hb dX8_setEffort_80 rfl (lv_at hl 1 rfl) ?_
              refine wr_gr hx hb hown hK hts iX8 (ci := 7) rfl 1 (by decide) f19 rfl hw 329 (by omega) 332 cs_X rfl dX8_setEffort_81 ?_
              refine lv_iload_n hx hb dX8_setEffort_84 rfl (lv_at hl 3 rfl) ?_
              refine wr_pi hx hb hown hK hts iX6 tyX6_ok nmX6 (ci := 5) rfl 1 (by decide) f123 rfl rfl hw 332 (by omega) cs_T rfl rfl rfl dX8_setEffort_85 (fun H locs hw => ?_)
              refine lv_iload_n hx hb dX8_setEffort_88 rfl (lv_at hl 0 rfl) ?_
              exact vx_ret (W.widen (k := 1) (n := 6) (Nat.le_of_ble_eq_true rfl) (Nat.le_of_ble_eq_true rfl) (wr_iret hx hb hr (by decide) hK hw ⟨inB_le q1 q2 (by decide), inB_le q3 q4 (by decide), rfl, (by rw [if_pos ⟨q5, q6⟩])⟩ hlocks dX8_setEffort_89))
            · skip
              refine lv_iconst (v := nI 1) hx hb dX8_setEffort_66 (by decide) ?_
              refine lv_goto (tgt := 71) hx hb dX8_setEffort_67 (by decide) ?_
              refine lv_istore_n (lv' := [(3, .int (nI 1)), (0, .ref (ad 329)), (1, .int d), (2, .int n)]) hx hb dX8_setEffort_71 rfl hl (by decide) rfl (fun ls hl => ?_)
              refine lv_aload_n hx hb dX8_setEffort_72 rfl (lv_at hl 1 rfl) ?_
              refine wr_gr hx hb hown hK hts iX8 (ci := 7) rfl 1 (by decide) f19 rfl hw 329 (by omega) 332 cs_X rfl dX8_setEffort_73 ?_
              refine lv_iload_n hx hb dX8_setEffort_76 rfl (lv_at hl 2 rfl) ?_
              refine wr_pi hx hb hown hK hts iX6 tyX6_ok nmX6 (ci := 5) rfl 0 (by decide) f120 rfl rfl hw 332 (by omega) cs_T rfl rfl rfl dX8_setEffort_77 (fun H locs hw => ?_)
              refine lv_aload_n hx hb dX8_setEffort_80 rfl (lv_at hl 1 rfl) ?_
              refine wr_gr hx hb hown hK hts iX8 (ci := 7) rfl 1 (by decide) f19 rfl hw 329 (by omega) 332 cs_X rfl dX8_setEffort_81 ?_
              refine lv_iload_n hx hb dX8_setEffort_84 rfl (lv_at hl 3 rfl) ?_
              refine wr_pi hx hb hown hK hts iX6 tyX6_ok nmX6 (ci := 5) rfl 1 (by decide) f123 rfl rfl hw 332 (by omega) cs_T rfl rfl rfl dX8_setEffort_85 (fun H locs hw => ?_)
              refine lv_iload_n hx hb dX8_setEffort_88 rfl (lv_at hl 0 rfl) ?_
              exact vx_ret (W.widen (k := 1) (n := 6) (Nat.le_of_ble_eq_true rfl) (Nat.le_of_ble_eq_true rfl) (wr_iret hx hb hr (by decide) hK hw ⟨inB_le q1 q2 (by decide), inB_le q3 q4 (by decide), rfl, (by rw [if_neg (fun z => q6 z.2)])⟩ hlocks dX8_setEffort_89))
        · skip
          exact wr_thr (text := "narrowings is not 0 to 5") hx hb hflag hown (by decide +kernel) kl93 kiIA (by decide +kernel) (by decide +kernel) xt_IA xg_IA xo_IA hZ hK hw (hl.1.trans hml.symm) dX8_setEffort_29 dX8_setEffort_32 dX8_setEffort_33 dX8_setEffort_35 dX8_setEffort_38 hout (Nat.le_of_ble_eq_true rfl) (Nat.le_of_ble_eq_true rfl) (Nat.le_of_ble_eq_true rfl) (Nat.le_of_ble_eq_true rfl) hlocks (Nat.le_of_ble_eq_true rfl) (Nat.le_of_ble_eq_true rfl) ⟨rfl, fun z => absurd z.2 (nB_3 q4 (by decide))⟩
    · skip
      exact wr_thr (text := "delay is not 0 to 10") hx hb hflag hown (by decide +kernel) kl93 kiIA (by decide +kernel) (by decide +kernel) xt_IA xg_IA xo_IA hZ hK hw (hl.1.trans hml.symm) dX8_setEffort_10 dX8_setEffort_13 dX8_setEffort_14 dX8_setEffort_16 dX8_setEffort_19 hout (Nat.le_of_ble_eq_true rfl) (Nat.le_of_ble_eq_true rfl) (Nat.le_of_ble_eq_true rfl) (Nat.le_of_ble_eq_true rfl) hlocks (Nat.le_of_ble_eq_true rfl) (Nat.le_of_ble_eq_true rfl) ⟨rfl, fun z => absurd z.1 (nB_3 q2 (by decide))⟩
set_option maxHeartbeats 4000000 in
set_option maxRecDepth 100000 in
theorem k_X8_addThreshold (l : Launch) (hflag : l.stackTraces = false) (D : va_G) (ad : Nat → Nat) (cs : Nat → ClassId) (sz : Nat) (M : wM) (J : wJ) (v : Int32) (t : Nat) (ht : M 332 2 = nI t) (ht8 : t ≤ 8) : wXi l yX8_addThreshold wsX8_addThreshold { frames := 6, cells := 1, slots := 6, locals := 100 } D 340 cSh ad cs [.ref (ad 329), .int v] sz M J 1 6 (fun r_ u_ => (¬ v ≤ (-1000000000 : Int32) ∧ v < (1000000000 : Int32)) ∧ t < 8 ∧ ((thIn M v t ∧ u_ = ((wU M 329 4 (nI 0)), J) ∧ r_ = nI t) ∨ (¬ thIn M v t ∧ u_ = (wU (wU (wU M 329 4 (nI 0)) 333 t v) 332 2 (nI (t + 1)), J) ∧ r_ = nI (t + 1)))) (fun E_ => (E_ = xIA ∧ ¬ (¬ v ≤ (-1000000000 : Int32) ∧ v < (1000000000 : Int32))) ∨ (E_ = xIS ∧ (¬ v ≤ (-1000000000 : Int32) ∧ v < (1000000000 : Int32)) ∧ ¬ t < 8)) := by
  refine wX_i (cc := cX8_addThreshold) (maxL := 2) (ret := (some .int)) (by decide) rfl (Nat.le_of_ble_eq_true rfl) ?_
  intro p e s m below meth c ls A hx hb hr hml hown hts hlocks hK hA hw hl hAe hZ hout
  clear hAe
  have hl : lv_has ls 2 [(0, .ref (ad 329)), (1, .int v)] := hl
  have k126 : (Cond.constant RX8 126 (-1000000000)).before _ s = true := hts _ (by decide +kernel)
  have kl93 : (Cond.classLink RX8 93 xIA).before _ s = true := hts _ (by decide +kernel)
  have kiIA : (Cond.initialized xIA).before _ s = true := hts _ (by decide +kernel)
  have xt_IA : ∀ w ∈ (vx_atS RX8 97 xIA xNs).filter goodWord, w.before _ s = true := fun w h => hts w ((by decide +kernel : ∀ w ∈ (vx_atS RX8 97 xIA xNs).filter goodWord, w ∈ wsX8_addThreshold) w h)
  have k127 : (Cond.constant RX8 127 (1000000000)).before _ s = true := hts _ (by decide +kernel)
  have f19 : (Cond.fieldLink RX8 19 "RangePropagato\x72" "settings" "LRangePropagator$Settings;").before _ s = true := hts _ (by decide +kernel)
  have iX8 : ∀ w ∈ wsX80, w ∈ wsX8_addThreshold := by decide +kernel
  have f130 : (Cond.fieldLink RX8 130 "RangePropagator$Settings" "thresholdCount" "I").before _ s = true := hts _ (by decide +kernel)
  have iX6 : ∀ w ∈ wsX60, w ∈ wsX8_addThreshold := by decide +kernel
  have f37 : (Cond.fieldLink RX8 37 "RangePropagato\x72" "analysisStands" "Z").before _ s = true := hts _ (by decide +kernel)
  have kl45 : (Cond.classLink RX8 45 xIS).before _ s = true := hts _ (by decide +kernel)
  have kiIS : (Cond.initialized xIS).before _ s = true := hts _ (by decide +kernel)
  have xt_IS : ∀ w ∈ (vx_atS RX8 49 xIS xNs).filter goodWord, w.before _ s = true := fun w h => hts w ((by decide +kernel : ∀ w ∈ (vx_atS RX8 49 xIS xNs).filter goodWord, w ∈ wsX8_addThreshold) w h)
  refine lv_iload_n hx hb dX8_addThreshold_0 rfl (lv_at hl 1 rfl) ?_
  refine lv_ldc hx hb hown k126 dX8_addThreshold_1 ?_
  refine lv_icmp_le (tgt := 12) hx hb dX8_addThreshold_3 (by decide) (fun q1 => ?_) (fun q1 => ?_)
  · skip
    exact wr_thr (text := "threshold is not -999999999 to 999999999") hx hb hflag hown (by decide +kernel) kl93 kiIA (by decide +kernel) (by decide +kernel) xt_IA xg_IA xo_IA hZ hK hw (hl.1.trans hml.symm) dX8_addThreshold_12 dX8_addThreshold_15 dX8_addThreshold_16 dX8_addThreshold_18 dX8_addThreshold_21 hout (Nat.le_of_ble_eq_true rfl) (Nat.le_of_ble_eq_true rfl) (Nat.le_of_ble_eq_true rfl) (Nat.le_of_ble_eq_true rfl) hlocks (Nat.le_of_ble_eq_true rfl) (Nat.le_of_ble_eq_true rfl) (Or.inl ⟨rfl, fun z => z.1 q1⟩)
  · skip
    refine lv_iload_n hx hb dX8_addThreshold_6 rfl (lv_at hl 1 rfl) ?_
    refine lv_ldc hx hb hown k127 dX8_addThreshold_7 ?_
    refine lv_icmp_lt (tgt := 22) hx hb dX8_addThreshold_9 (by decide) (fun q2 => ?_) (fun q2 => ?_)
    · skip
      refine lv_aload_n hx hb dX8_addThreshold_22 rfl (lv_at hl 0 rfl) ?_
      refine wr_gr hx hb hown hK hts iX8 (ci := 7) rfl 1 (by decide) f19 rfl hw 329 (by omega) 332 cs_X rfl dX8_addThreshold_23 ?_
      refine wr_gi hx hb hown hK hts iX6 (ci := 5) rfl 2 (by decide) f130 rfl hw 332 (by omega) cs_T rfl dX8_addThreshold_26 ?_
      rw [show M 332 2 = nI t from ht]
      refine lv_bipush (v := nI 8) hx hb dX8_addThreshold_29 (by decide) ?_
      refine lv_icmp_lt (tgt := 44) hx hb dX8_addThreshold_31 (by decide) (fun q3 => ?_) (fun q3 => ?_)
      · have q3n : t < 8 := (nI_ltI (by omega) (by omega)).mp q3
        refine lv_aload_n hx hb dX8_addThreshold_44 rfl (lv_at hl 0 rfl) ?_
        refine lv_iconst (v := nI 0) hx hb dX8_addThreshold_45 (by decide) ?_
        refine wr_pi hx hb hown hK hts iX8 tyX8_ok nmX8 (ci := 7) rfl 4 (by decide) f37 rfl rfl hw 329 (by omega) cs_X rfl (by decide) (by decide) dX8_addThreshold_46 (fun H locs hw => ?_)
        refine lv_aload_n hx hb dX8_addThreshold_49 rfl (lv_at hl 0 rfl) ?_
        refine wr_gr hx hb hown hK hts iX8 (ci := 7) rfl 1 (by decide) f19 rfl hw 329 (by omega) 332 cs_X rfl dX8_addThreshold_50 ?_
        refine lv_iload_n hx hb dX8_addThreshold_53 rfl (lv_at hl 1 rfl) ?_
        refine wr_cVv (k := 332) (ci := 5) (As := [.int v]) (rest := []) ⟨hx, hb, hml, hown, hts⟩ (cwV 1 hts gX8_addThreshold_X6_keepThreshold rfl rfl rfl (by decide +kernel) ⟨Nat.le_of_ble_eq_true rfl, Nat.le_of_ble_eq_true rfl⟩) hK hA hw (k_X6_keepThreshold l D ad cs H.size (wU M 329 4 (nI 0)) J v t ((congrFun (wU_ne (by decide)) 2).trans ht) (by omega)) (by omega) cs_T rfl rfl rfl hl.1 (Nat.le_of_ble_eq_true rfl) ⟨Nat.le_of_ble_eq_true rfl, Nat.le_of_ble_eq_true rfl⟩ dX8_addThreshold_54 (fun M5 J6 H locs h7 hw => ?_)
        refine lv_aload_n hx hb dX8_addThreshold_57 rfl (lv_at hl 0 rfl) ?_
        refine wr_gr hx hb hown hK hts iX8 (ci := 7) rfl 1 (by decide) f19 rfl hw 329 (by omega) 332 cs_X rfl dX8_addThreshold_58 ?_
        refine wr_gi hx hb hown hK hts iX6 (ci := 5) rfl 2 (by decide) f130 rfl hw 332 (by omega) cs_T rfl dX8_addThreshold_61 ?_
        exact vx_ret (W.widen (k := 1) (n := 6) (Nat.le_of_ble_eq_true rfl) (Nat.le_of_ble_eq_true rfl) (wr_iret hx hb hr rfl hK hw ⟨⟨q1, q2⟩, by omega, p_at ht h7⟩ hlocks dX8_addThreshold_64))
      · have q3n : ¬ t < 8 := fun z => q3 ((nI_ltI (by omega) (by omega)).mpr z)
        exact wr_thr (text := "there are 8 thresholds") hx hb hflag hown (by decide +kernel) kl45 kiIS (by decide +kernel) (by decide +kernel) xt_IS xg_IS xo_IS hZ hK hw (hl.1.trans hml.symm) dX8_addThreshold_34 dX8_addThreshold_37 dX8_addThreshold_38 dX8_addThreshold_40 dX8_addThreshold_43 hout (Nat.le_of_ble_eq_true rfl) (Nat.le_of_ble_eq_true rfl) (Nat.le_of_ble_eq_true rfl) (Nat.le_of_ble_eq_true rfl) hlocks (Nat.le_of_ble_eq_true rfl) (Nat.le_of_ble_eq_true rfl) (Or.inr ⟨rfl, ⟨q1, q2⟩, by omega⟩)
    · skip
      exact wr_thr (text := "threshold is not -999999999 to 999999999") hx hb hflag hown (by decide +kernel) kl93 kiIA (by decide +kernel) (by decide +kernel) xt_IA xg_IA xo_IA hZ hK hw (hl.1.trans hml.symm) dX8_addThreshold_12 dX8_addThreshold_15 dX8_addThreshold_16 dX8_addThreshold_18 dX8_addThreshold_21 hout (Nat.le_of_ble_eq_true rfl) (Nat.le_of_ble_eq_true rfl) (Nat.le_of_ble_eq_true rfl) (Nat.le_of_ble_eq_true rfl) hlocks (Nat.le_of_ble_eq_true rfl) (Nat.le_of_ble_eq_true rfl) (Or.inl ⟨rfl, fun z => q2 z.2⟩)
