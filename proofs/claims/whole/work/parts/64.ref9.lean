/-! the reference, 9: the answers of the analysis: laid by wip/gen/specs23.py -/
set_option maxHeartbeats 4000000 in
set_option maxRecDepth 100000 in
theorem k_X9_isAnalyzed (l : Launch) (D : va_G) (ad : Nat → Nat) (cs : Nat → ClassId) (sz : Nat) (M : wM) (J : wJ)  (hz9 : bz (M 0 16)) : wCi l yX9_isAnalyzed wsX9_isAnalyzed { frames := 0, cells := 0, slots := 0, locals := 0 } D 23 mSh ad cs [.ref (ad 0)] sz M J (fun r_ u_ => u_ = (wU M 0 0 (nI 0), J) ∧ r_ = M 0 16) := by
  refine wC_i (cc := cX9_isAnalyzed) (maxL := 1) (ret := (some .boolean)) (by decide) rfl (Nat.le_of_ble_eq_true rfl) ?_
  intro p e s m below meth c ls A hx hb hr hml hown hts hlocks hK hA hw hl hAe
  clear hAe
  have hl : lv_has ls 1 [(0, .ref (ad 0))] := hl
  have f87 : (Cond.fieldLink RX9 87 "RangePropagatorModel" "thrown" "I").before _ s = true := hts _ (by decide +kernel)
  have iX9 : ∀ w ∈ wsX90, w ∈ wsX9_isAnalyzed := by decide +kernel
  have f96 : (Cond.fieldLink RX9 96 "RangePropagatorModel" "isMade" "Z").before _ s = true := hts _ (by decide +kernel)
  refine lv_aload_n hx hb dX9_isAnalyzed_0 rfl (lv_at hl 0 rfl) ?_
  refine lv_iconst (v := nI 0) hx hb dX9_isAnalyzed_1 (by decide) ?_
  refine wr_pi hx hb hown hK hts iX9 tyX9_ok nmX9 (ci := 8) rfl 0 (by decide) f87 rfl rfl hw 0 (by omega) rfl rfl rfl rfl dX9_isAnalyzed_2 (fun H locs hw => ?_)
  refine lv_aload_n hx hb dX9_isAnalyzed_5 rfl (lv_at hl 0 rfl) ?_
  refine wr_gi hx hb hown hK hts iX9 (ci := 8) rfl 16 (by decide) f96 rfl hw 0 (by omega) rfl rfl dX9_isAnalyzed_6 ?_
  rw [show (wU M 0 0 (nI 0)) 0 16 = M 0 16 from (by rw [wU_at, if_neg (by decide)])]
  exact wr_iret hx hb hr (bz_n hz9) hK hw ⟨rfl, rfl⟩ hlocks dX9_isAnalyzed_9
set_option maxHeartbeats 4000000 in
set_option maxRecDepth 100000 in
theorem k_X9_isReachable (l : Launch) (D : va_G) (ad : Nat → Nat) (cs : Nat → ClassId) (sz : Nat) (M : wM) (J : wJ) (b : Int32) (cnt : Nat) (hn : M 0 1 = nI cnt) (hn16 : cnt ≤ 16) : wCi l yX9_isReachable wsX9_isReachable { frames := 1, cells := 0, slots := 0, locals := 21 } D 23 mSh ad cs [.ref (ad 0), .int b] sz M J (fun r_ u_ => (¬ M 0 16 = 0 ∧ inB b cnt ∧ u_ = (wU M 0 0 (nI 0), J) ∧ r_ = (if M 12 (tn b) = 0 then nI 0 else nI 1)) ∨ (M 0 16 = 0 ∧ u_ = (wU M 0 0 (nI 1), J) ∧ r_ = nI 0) ∨ (¬ M 0 16 = 0 ∧ ¬ inB b cnt ∧ u_ = (wU M 0 0 (nI 2), J) ∧ r_ = nI 0)) := by
  refine wC_i (cc := cX9_isReachable) (maxL := 2) (ret := (some .boolean)) (by decide) rfl (Nat.le_of_ble_eq_true rfl) ?_
  intro p e s m below meth c ls A hx hb hr hml hown hts hlocks hK hA hw hl hAe
  clear hAe
  have hl : lv_has ls 2 [(0, .ref (ad 0)), (1, .int b)] := hl
  have f96 : (Cond.fieldLink RX9 96 "RangePropagatorModel" "isMade" "Z").before _ s = true := hts _ (by decide +kernel)
  have iX9 : ∀ w ∈ wsX90, w ∈ wsX9_isReachable := by decide +kernel
  have f87 : (Cond.fieldLink RX9 87 "RangePropagatorModel" "thrown" "I").before _ s = true := hts _ (by decide +kernel)
  have f53 : (Cond.fieldLink RX9 53 "RangePropagatorModel" "isThere" "[Z").before _ s = true := hts _ (by decide +kernel)
  refine lv_aload_n hx hb dX9_isReachable_0 rfl (lv_at hl 0 rfl) ?_
  refine lv_aload_n hx hb dX9_isReachable_1 rfl (lv_at hl 0 rfl) ?_
  refine wr_gi hx hb hown hK hts iX9 (ci := 8) rfl 16 (by decide) f96 rfl hw 0 (by omega) rfl rfl dX9_isReachable_2 ?_
  refine lv_if_ne (tgt := 12) hx hb dX9_isReachable_5 (by decide) (fun q1 => ?_) (fun q1 => ?_)
  · skip
    refine lv_aload_n hx hb dX9_isReachable_12 rfl (lv_at hl 0 rfl) ?_
    refine lv_iload_n hx hb dX9_isReachable_13 rfl (lv_at hl 1 rfl) ?_
    refine wr_cVi (k := 0) (ci := 8) (As := [.int b]) (rest := [.ref (ad 0)]) ⟨hx, hb, hml, hown, hts⟩ (cwV 1 hts gX9_isReachable_X9_isBlock rfl rfl rfl (by decide +kernel) ⟨Nat.le_of_ble_eq_true rfl, Nat.le_of_ble_eq_true rfl⟩) hK hA hw (k_X9_isBlock l D ad cs s.heap.size M J b cnt hn hn16) (by omega) rfl rfl rfl rfl hl.1 (Nat.le_of_ble_eq_true rfl) ⟨Nat.le_of_ble_eq_true rfl, Nat.le_of_ble_eq_true rfl⟩ dX9_isReachable_14 (fun r2 M3 J4 H locs h5 hw => ?_)
    obtain ⟨h5u, h5z, h5i⟩ := h5
    cases h5u
    refine lv_if_ne (tgt := 24) hx hb dX9_isReachable_17 (by decide) (fun q6 => ?_) (fun q6 => ?_)
    · obtain ⟨b_n, b_h, rfl⟩ := h5i.mp q6
      refine lv_iconst (v := nI 0) hx hb dX9_isReachable_24 (by decide) ?_
      refine wr_pi hx hb hown hK hts iX9 tyX9_ok nmX9 (ci := 8) rfl 0 (by decide) f87 rfl rfl hw 0 (by omega) rfl rfl rfl rfl dX9_isReachable_25 (fun H locs hw => ?_)
      refine lv_aload_n hx hb dX9_isReachable_28 rfl (lv_at hl 0 rfl) ?_
      refine wr_gi hx hb hown hK hts iX9 (ci := 8) rfl 0 (by decide) f87 rfl hw 0 (by omega) rfl rfl dX9_isReachable_29 ?_
      rw [show (wU M 0 0 (nI 0)) 0 0 = nI 0 from (by rw [wU_at, if_pos ⟨rfl, rfl⟩])]
      refine lv_if_ne (tgt := 48) hx hb dX9_isReachable_32 (by decide) (fun q7 => ?_) (fun q7 => ?_)
      · skip
        exact absurd q7 (by decide)
      · skip
        refine lv_aload_n hx hb dX9_isReachable_35 rfl (lv_at hl 0 rfl) ?_
        refine wr_gr hx hb hown hK hts iX9 (ci := 8) rfl 17 (by decide) f53 rfl hw 0 (by omega) 12 rfl rfl dX9_isReachable_36 ?_
        refine lv_iload_n hx hb dX9_isReachable_39 rfl (lv_at hl 1 rfl) ?_
        refine wr_zldN hx hb hK hw 12 (by omega) rfl (by decide) b_n rfl (by omega) dX9_isReachable_40 ?_
        rw [show (wU M 0 0 (nI 0)) 12 b_n = M 12 b_n from (congrFun (wU_ne (by decide)) b_n)]
        refine lv_if_eq (tgt := 48) hx hb dX9_isReachable_41 (by decide) (fun q8 => ?_) (fun q8 => ?_)
        · skip
          refine lv_iconst (v := nI 0) hx hb dX9_isReachable_48 (by decide) ?_
          exact wr_iret hx hb hr (by decide) hK hw (Or.inl ⟨q1, ⟨b_n, b_h, rfl⟩, rfl, (by rw [tn_nI (by omega), if_pos q8])⟩) hlocks dX9_isReachable_49
        · skip
          refine lv_iconst (v := nI 1) hx hb dX9_isReachable_44 (by decide) ?_
          refine lv_goto (tgt := 49) hx hb dX9_isReachable_45 (by decide) ?_
          exact wr_iret hx hb hr (by decide) hK hw (Or.inl ⟨q1, ⟨b_n, b_h, rfl⟩, rfl, (by rw [tn_nI (by omega), if_neg q8])⟩) hlocks dX9_isReachable_49
    · have b_no := (fun z => (h5i.mpr z) q6)
      refine lv_iconst (v := nI 2) hx hb dX9_isReachable_20 (by decide) ?_
      refine lv_goto (tgt := 25) hx hb dX9_isReachable_21 (by decide) ?_
      refine wr_pi hx hb hown hK hts iX9 tyX9_ok nmX9 (ci := 8) rfl 0 (by decide) f87 rfl rfl hw 0 (by omega) rfl rfl rfl rfl dX9_isReachable_25 (fun H locs hw => ?_)
      refine lv_aload_n hx hb dX9_isReachable_28 rfl (lv_at hl 0 rfl) ?_
      refine wr_gi hx hb hown hK hts iX9 (ci := 8) rfl 0 (by decide) f87 rfl hw 0 (by omega) rfl rfl dX9_isReachable_29 ?_
      rw [show (wU M 0 0 (nI 2)) 0 0 = nI 2 from (by rw [wU_at, if_pos ⟨rfl, rfl⟩])]
      refine lv_if_ne (tgt := 48) hx hb dX9_isReachable_32 (by decide) (fun q9 => ?_) (fun q9 => ?_)
      · skip
        refine lv_iconst (v := nI 0) hx hb dX9_isReachable_48 (by decide) ?_
        exact wr_iret hx hb hr (by decide) hK hw (Or.inr (Or.inr ⟨q1, b_no, rfl, rfl⟩)) hlocks dX9_isReachable_49
      · skip
        exact absurd q9 (by decide)
  · skip
    refine lv_iconst (v := nI 1) hx hb dX9_isReachable_8 (by decide) ?_
    refine lv_goto (tgt := 25) hx hb dX9_isReachable_9 (by decide) ?_
    refine wr_pi hx hb hown hK hts iX9 tyX9_ok nmX9 (ci := 8) rfl 0 (by decide) f87 rfl rfl hw 0 (by omega) rfl rfl rfl rfl dX9_isReachable_25 (fun H locs hw => ?_)
    refine lv_aload_n hx hb dX9_isReachable_28 rfl (lv_at hl 0 rfl) ?_
    refine wr_gi hx hb hown hK hts iX9 (ci := 8) rfl 0 (by decide) f87 rfl hw 0 (by omega) rfl rfl dX9_isReachable_29 ?_
    rw [show (wU M 0 0 (nI 1)) 0 0 = nI 1 from (by rw [wU_at, if_pos ⟨rfl, rfl⟩])]
    refine lv_if_ne (tgt := 48) hx hb dX9_isReachable_32 (by decide) (fun q10 => ?_) (fun q10 => ?_)
    · skip
      refine lv_iconst (v := nI 0) hx hb dX9_isReachable_48 (by decide) ?_
      exact wr_iret hx hb hr (by decide) hK hw (Or.inr (Or.inl ⟨q1, rfl, rfl⟩)) hlocks dX9_isReachable_49
    · skip
      exact absurd q10 (by decide)
set_option maxHeartbeats 4000000 in
set_option maxRecDepth 100000 in
theorem k_X9_asks (l : Launch) (D : va_G) (ad : Nat → Nat) (cs : Nat → ClassId) (sz : Nat) (M : wM) (J : wJ) (b : Int32) (v : Int32) (cnt : Nat) (hn : M 0 1 = nI cnt) (hn16 : cnt ≤ 16) : wCi l yX9_asks wsX9_asks { frames := 1, cells := 0, slots := 0, locals := 21 } D 23 mSh ad cs [.ref (ad 0), .int b, .int v] sz M J (qAs M J cnt b v) := by
  refine wC_i (cc := cX9_asks) (maxL := 3) (ret := (some .boolean)) (by decide) rfl (Nat.le_of_ble_eq_true rfl) ?_
  intro p e s m below meth c ls A hx hb hr hml hown hts hlocks hK hA hw hl hAe
  clear hAe
  have hl : lv_has ls 3 [(0, .ref (ad 0)), (1, .int b), (2, .int v)] := hl
  have f96 : (Cond.fieldLink RX9 96 "RangePropagatorModel" "isMade" "Z").before _ s = true := hts _ (by decide +kernel)
  have iX9 : ∀ w ∈ wsX90, w ∈ wsX9_asks := by decide +kernel
  have f87 : (Cond.fieldLink RX9 87 "RangePropagatorModel" "thrown" "I").before _ s = true := hts _ (by decide +kernel)
  have f53 : (Cond.fieldLink RX9 53 "RangePropagatorModel" "isThere" "[Z").before _ s = true := hts _ (by decide +kernel)
  refine lv_aload_n hx hb dX9_asks_0 rfl (lv_at hl 0 rfl) ?_
  refine lv_aload_n hx hb dX9_asks_1 rfl (lv_at hl 0 rfl) ?_
  refine wr_gi hx hb hown hK hts iX9 (ci := 8) rfl 16 (by decide) f96 rfl hw 0 (by omega) rfl rfl dX9_asks_2 ?_
  refine lv_if_ne (tgt := 12) hx hb dX9_asks_5 (by decide) (fun q1 => ?_) (fun q1 => ?_)
  · skip
    refine lv_aload_n hx hb dX9_asks_12 rfl (lv_at hl 0 rfl) ?_
    refine lv_iload_n hx hb dX9_asks_13 rfl (lv_at hl 1 rfl) ?_
    refine wr_cVi (k := 0) (ci := 8) (As := [.int b]) (rest := [.ref (ad 0)]) ⟨hx, hb, hml, hown, hts⟩ (cwV 1 hts gX9_asks_X9_isBlock rfl rfl rfl (by decide +kernel) ⟨Nat.le_of_ble_eq_true rfl, Nat.le_of_ble_eq_true rfl⟩) hK hA hw (k_X9_isBlock l D ad cs s.heap.size M J b cnt hn hn16) (by omega) rfl rfl rfl rfl hl.1 (Nat.le_of_ble_eq_true rfl) ⟨Nat.le_of_ble_eq_true rfl, Nat.le_of_ble_eq_true rfl⟩ dX9_asks_14 (fun r2 M3 J4 H locs h5 hw => ?_)
    obtain ⟨h5u, h5z, h5i⟩ := h5
    cases h5u
    refine lv_if_eq (tgt := 27) hx hb dX9_asks_17 (by decide) (fun q6 => ?_) (fun q6 => ?_)
    · have b_no := (fun z => (h5i.mpr z) q6)
      refine lv_iconst (v := nI 2) hx hb dX9_asks_27 (by decide) ?_
      refine lv_goto (tgt := 45) hx hb dX9_asks_28 (by decide) ?_
      refine wr_pi hx hb hown hK hts iX9 tyX9_ok nmX9 (ci := 8) rfl 0 (by decide) f87 rfl rfl hw 0 (by omega) rfl rfl rfl rfl dX9_asks_45 (fun H locs hw => ?_)
      refine lv_aload_n hx hb dX9_asks_48 rfl (lv_at hl 0 rfl) ?_
      refine wr_gi hx hb hown hK hts iX9 (ci := 8) rfl 0 (by decide) f87 rfl hw 0 (by omega) rfl rfl dX9_asks_49 ?_
      rw [show (wU M 0 0 (nI 2)) 0 0 = nI 2 from (by rw [wU_at, if_pos ⟨rfl, rfl⟩])]
      refine lv_if_ne (tgt := 59) hx hb dX9_asks_52 (by decide) (fun q7 => ?_) (fun q7 => ?_)
      · skip
        refine lv_iconst (v := nI 0) hx hb dX9_asks_59 (by decide) ?_
        exact wr_iret hx hb hr (by decide) hK hw (Or.inr ⟨Or.inr (Or.inl ⟨q1, fun z => b_no z.1, rfl⟩), rfl⟩) hlocks dX9_asks_60
      · skip
        exact absurd q7 (by decide)
    · obtain ⟨b_n, b_h, rfl⟩ := h5i.mp q6
      refine lv_iload_n hx hb dX9_asks_20 rfl (lv_at hl 2 rfl) ?_
      refine wr_cSi (As := [.int v]) (rest := [.ref (ad 0)]) ⟨hx, hb, hml, hown, hts⟩ (va_cwS 1 hts gX9_asks_X9_isVariable rfl rfl rfl (by decide +kernel) ⟨Nat.le_of_ble_eq_true rfl, Nat.le_of_ble_eq_true rfl⟩) hK hA hw (k_X9_isVariable l D ad cs H.size M J v ) rfl rfl hl.1 (Nat.le_of_ble_eq_true rfl) ⟨Nat.le_of_ble_eq_true rfl, Nat.le_of_ble_eq_true rfl⟩ dX9_asks_21 (fun r8 M9 J10 H locs h11 hw => ?_)
      obtain ⟨h11u, h11z, h11i⟩ := h11
      cases h11u
      refine lv_if_ne (tgt := 31) hx hb dX9_asks_24 (by decide) (fun q12 => ?_) (fun q12 => ?_)
      · obtain ⟨v_n, v_h, rfl⟩ := h11i.mp q12
        refine lv_aload_n hx hb dX9_asks_31 rfl (lv_at hl 0 rfl) ?_
        refine wr_gr hx hb hown hK hts iX9 (ci := 8) rfl 17 (by decide) f53 rfl hw 0 (by omega) 12 rfl rfl dX9_asks_32 ?_
        refine lv_iload_n hx hb dX9_asks_35 rfl (lv_at hl 1 rfl) ?_
        refine wr_zldN hx hb hK hw 12 (by omega) rfl (by decide) b_n rfl (by omega) dX9_asks_36 ?_
        refine lv_if_ne (tgt := 44) hx hb dX9_asks_37 (by decide) (fun q13 => ?_) (fun q13 => ?_)
        · skip
          refine lv_iconst (v := nI 0) hx hb dX9_asks_44 (by decide) ?_
          refine wr_pi hx hb hown hK hts iX9 tyX9_ok nmX9 (ci := 8) rfl 0 (by decide) f87 rfl rfl hw 0 (by omega) rfl rfl rfl rfl dX9_asks_45 (fun H locs hw => ?_)
          refine lv_aload_n hx hb dX9_asks_48 rfl (lv_at hl 0 rfl) ?_
          refine wr_gi hx hb hown hK hts iX9 (ci := 8) rfl 0 (by decide) f87 rfl hw 0 (by omega) rfl rfl dX9_asks_49 ?_
          rw [show (wU M 0 0 (nI 0)) 0 0 = nI 0 from (by rw [wU_at, if_pos ⟨rfl, rfl⟩])]
          refine lv_if_ne (tgt := 59) hx hb dX9_asks_52 (by decide) (fun q14 => ?_) (fun q14 => ?_)
          · skip
            exact absurd q14 (by decide)
          · skip
            refine lv_iconst (v := nI 1) hx hb dX9_asks_55 (by decide) ?_
            refine lv_goto (tgt := 60) hx hb dX9_asks_56 (by decide) ?_
            exact wr_iret hx hb hr (by decide) hK hw (Or.inl ⟨q1, ⟨b_n, b_h, rfl⟩, ⟨v_n, v_h, rfl⟩, (by rw [tn_nI (by omega)]; exact q13), rfl, rfl⟩) hlocks dX9_asks_60
        · skip
          refine lv_iconst (v := nI 3) hx hb dX9_asks_40 (by decide) ?_
          refine lv_goto (tgt := 45) hx hb dX9_asks_41 (by decide) ?_
          refine wr_pi hx hb hown hK hts iX9 tyX9_ok nmX9 (ci := 8) rfl 0 (by decide) f87 rfl rfl hw 0 (by omega) rfl rfl rfl rfl dX9_asks_45 (fun H locs hw => ?_)
          refine lv_aload_n hx hb dX9_asks_48 rfl (lv_at hl 0 rfl) ?_
          refine wr_gi hx hb hown hK hts iX9 (ci := 8) rfl 0 (by decide) f87 rfl hw 0 (by omega) rfl rfl dX9_asks_49 ?_
          rw [show (wU M 0 0 (nI 3)) 0 0 = nI 3 from (by rw [wU_at, if_pos ⟨rfl, rfl⟩])]
          refine lv_if_ne (tgt := 59) hx hb dX9_asks_52 (by decide) (fun q15 => ?_) (fun q15 => ?_)
          · skip
            refine lv_iconst (v := nI 0) hx hb dX9_asks_59 (by decide) ?_
            exact wr_iret hx hb hr (by decide) hK hw (Or.inr ⟨Or.inr (Or.inr ⟨q1, ⟨b_n, b_h, rfl⟩, ⟨v_n, v_h, rfl⟩, (by rw [tn_nI (by omega)]; exact q13), rfl⟩), rfl⟩) hlocks dX9_asks_60
          · skip
            exact absurd q15 (by decide)
      · have v_no := (fun z => (h11i.mpr z) q12)
        refine lv_iconst (v := nI 2) hx hb dX9_asks_27 (by decide) ?_
        refine lv_goto (tgt := 45) hx hb dX9_asks_28 (by decide) ?_
        refine wr_pi hx hb hown hK hts iX9 tyX9_ok nmX9 (ci := 8) rfl 0 (by decide) f87 rfl rfl hw 0 (by omega) rfl rfl rfl rfl dX9_asks_45 (fun H locs hw => ?_)
        refine lv_aload_n hx hb dX9_asks_48 rfl (lv_at hl 0 rfl) ?_
        refine wr_gi hx hb hown hK hts iX9 (ci := 8) rfl 0 (by decide) f87 rfl hw 0 (by omega) rfl rfl dX9_asks_49 ?_
        rw [show (wU M 0 0 (nI 2)) 0 0 = nI 2 from (by rw [wU_at, if_pos ⟨rfl, rfl⟩])]
        refine lv_if_ne (tgt := 59) hx hb dX9_asks_52 (by decide) (fun q16 => ?_) (fun q16 => ?_)
        · skip
          refine lv_iconst (v := nI 0) hx hb dX9_asks_59 (by decide) ?_
          exact wr_iret hx hb hr (by decide) hK hw (Or.inr ⟨Or.inr (Or.inl ⟨q1, fun z => v_no z.2, rfl⟩), rfl⟩) hlocks dX9_asks_60
        · skip
          exact absurd q16 (by decide)
  · skip
    refine lv_iconst (v := nI 1) hx hb dX9_asks_8 (by decide) ?_
    refine lv_goto (tgt := 45) hx hb dX9_asks_9 (by decide) ?_
    refine wr_pi hx hb hown hK hts iX9 tyX9_ok nmX9 (ci := 8) rfl 0 (by decide) f87 rfl rfl hw 0 (by omega) rfl rfl rfl rfl dX9_asks_45 (fun H locs hw => ?_)
    refine lv_aload_n hx hb dX9_asks_48 rfl (lv_at hl 0 rfl) ?_
    refine wr_gi hx hb hown hK hts iX9 (ci := 8) rfl 0 (by decide) f87 rfl hw 0 (by omega) rfl rfl dX9_asks_49 ?_
    rw [show (wU M 0 0 (nI 1)) 0 0 = nI 1 from (by rw [wU_at, if_pos ⟨rfl, rfl⟩])]
    refine lv_if_ne (tgt := 59) hx hb dX9_asks_52 (by decide) (fun q17 => ?_) (fun q17 => ?_)
    · skip
      refine lv_iconst (v := nI 0) hx hb dX9_asks_59 (by decide) ?_
      exact wr_iret hx hb hr (by decide) hK hw (Or.inr ⟨Or.inl ⟨q1, rfl⟩, rfl⟩) hlocks dX9_asks_60
    · skip
      exact absurd q17 (by decide)
set_option maxHeartbeats 4000000 in
set_option maxRecDepth 100000 in
theorem k_X9_entry (l : Launch) (D : va_G) (ad : Nat → Nat) (cs : Nat → ClassId) (sz : Nat) (M : wM) (J : wJ) (b : Int32) (v : Int32) (h : Int32) (cnt : Nat) (hn : M 0 1 = nI cnt) (hn16 : cnt ≤ 16) : wCi l yX9_entry wsX9_entry { frames := 2, cells := 0, slots := 0, locals := 43 } D 23 mSh ad cs [.ref (ad 0), .int b, .int v, .int h] sz M J (fun r_ u_ => (¬ M 0 16 = 0 ∧ inB b cnt ∧ inB v 6 ∧ ¬ M 12 (tn b) = 0 ∧ u_ = (wU M 0 0 (nI 0), J) ∧ r_ = (if h = 0 then M 13 ((6 * tn b) + tn v) else M 14 ((6 * tn b) + tn v))) ∨ (qAE M J cnt b v u_ ∧ r_ = nI 0)) := by
  refine wC_i (cc := cX9_entry) (maxL := 4) (ret := (some .int)) (by decide) rfl (Nat.le_of_ble_eq_true rfl) ?_
  intro p e s m below meth c ls A hx hb hr hml hown hts hlocks hK hA hw hl hAe
  clear hAe
  have hl : lv_has ls 4 [(0, .ref (ad 0)), (1, .int b), (2, .int v), (3, .int h)] := hl
  have f57 : (Cond.fieldLink RX9 57 "RangePropagatorModel" "lows" "[I").before _ s = true := hts _ (by decide +kernel)
  have iX9 : ∀ w ∈ wsX90, w ∈ wsX9_entry := by decide +kernel
  have f60 : (Cond.fieldLink RX9 60 "RangePropagatorModel" "highs" "[I").before _ s = true := hts _ (by decide +kernel)
  refine lv_aload_n hx hb dX9_entry_0 rfl (lv_at hl 0 rfl) ?_
  refine lv_iload_n hx hb dX9_entry_1 rfl (lv_at hl 1 rfl) ?_
  refine lv_iload_n hx hb dX9_entry_2 rfl (lv_at hl 2 rfl) ?_
  refine wr_cVi (k := 0) (ci := 8) (As := [.int b, .int v]) (rest := []) ⟨hx, hb, hml, hown, hts⟩ (cwV 2 hts gX9_entry_X9_asks rfl rfl rfl (by decide +kernel) ⟨Nat.le_of_ble_eq_true rfl, Nat.le_of_ble_eq_true rfl⟩) hK hA hw (k_X9_asks l D ad cs s.heap.size M J b v cnt hn hn16) (by omega) rfl rfl rfl rfl hl.1 (Nat.le_of_ble_eq_true rfl) ⟨Nat.le_of_ble_eq_true rfl, Nat.le_of_ble_eq_true rfl⟩ dX9_entry_3 (fun r1 M2 J3 H locs h4 hw => ?_)
  refine lv_if_ne (tgt := 11) hx hb dX9_entry_6 (by decide) (fun q5 => ?_) (fun q5 => ?_)
  · obtain ⟨hm9, ⟨b_n, b_h, rfl⟩, ⟨v_n, v_h, rfl⟩, ht9, hu9⟩ := qAs_1 h4 q5; cases hu9
    refine lv_iload_n hx hb dX9_entry_11 rfl (lv_at hl 3 rfl) ?_
    refine lv_if_eq (tgt := 29) hx hb dX9_entry_12 (by decide) (fun q6 => ?_) (fun q6 => ?_)
    · skip
      refine lv_aload_n hx hb dX9_entry_29 rfl (lv_at hl 0 rfl) ?_
      refine wr_gr hx hb hown hK hts iX9 (ci := 8) rfl 18 (by decide) f57 rfl hw 0 (by omega) 13 rfl rfl dX9_entry_30 ?_
      refine lv_bipush (v := nI 6) hx hb dX9_entry_33 (by decide) ?_
      refine lv_iload_n hx hb dX9_entry_35 rfl (lv_at hl 1 rfl) ?_
      refine lv_imulN hx hb dX9_entry_36 ?_
      refine lv_iload_n hx hb dX9_entry_37 rfl (lv_at hl 2 rfl) ?_
      refine lv_iaddN hx hb dX9_entry_38 ?_
      refine wr_ildN hx hb hK hw 13 (by omega) rfl (by decide) ((6 * b_n) + v_n) rfl (by omega) dX9_entry_39 ?_
      rw [show (wU M 0 0 (nI 0)) 13 ((6 * b_n) + v_n) = M 13 ((6 * b_n) + v_n) from (congrFun (wU_ne (by decide)) _)]
      exact wr_iret hx hb hr rfl hK hw (Or.inl ⟨hm9, ⟨b_n, b_h, rfl⟩, ⟨v_n, v_h, rfl⟩, ht9, rfl, (by rw [tn_nI (by omega), tn_nI (by omega), if_pos q6])⟩) hlocks dX9_entry_40
    · skip
      refine lv_aload_n hx hb dX9_entry_15 rfl (lv_at hl 0 rfl) ?_
      refine wr_gr hx hb hown hK hts iX9 (ci := 8) rfl 19 (by decide) f60 rfl hw 0 (by omega) 14 rfl rfl dX9_entry_16 ?_
      refine lv_bipush (v := nI 6) hx hb dX9_entry_19 (by decide) ?_
      refine lv_iload_n hx hb dX9_entry_21 rfl (lv_at hl 1 rfl) ?_
      refine lv_imulN hx hb dX9_entry_22 ?_
      refine lv_iload_n hx hb dX9_entry_23 rfl (lv_at hl 2 rfl) ?_
      refine lv_iaddN hx hb dX9_entry_24 ?_
      refine wr_ildN hx hb hK hw 14 (by omega) rfl (by decide) ((6 * b_n) + v_n) rfl (by omega) dX9_entry_25 ?_
      rw [show (wU M 0 0 (nI 0)) 14 ((6 * b_n) + v_n) = M 14 ((6 * b_n) + v_n) from (congrFun (wU_ne (by decide)) _)]
      refine lv_goto (tgt := 40) hx hb dX9_entry_26 (by decide) ?_
      exact wr_iret hx hb hr rfl hK hw (Or.inl ⟨hm9, ⟨b_n, b_h, rfl⟩, ⟨v_n, v_h, rfl⟩, ht9, rfl, (by rw [tn_nI (by omega), tn_nI (by omega), if_neg q6])⟩) hlocks dX9_entry_40
  · have hE9 := qAs_0 h4 q5
    refine lv_iconst (v := nI 0) hx hb dX9_entry_9 (by decide) ?_
    exact wr_iret hx hb hr rfl hK hw (Or.inr ⟨hE9, rfl⟩) hlocks dX9_entry_10
set_option maxHeartbeats 4000000 in
set_option maxRecDepth 100000 in
theorem k_X9_exit (l : Launch) (D : va_G) (ad : Nat → Nat) (cs : Nat → ClassId) (sz : Nat) (M : wM) (J : wJ) (b : Int32) (v : Int32) (h : Int32) (cnt : Nat) (t : Nat) (hp : mOK M cnt t) : wCi l yX9_exit wsX9_exit { frames := 6, cells := 0, slots := 0, locals := 154 } D 23 mSh ad cs [.ref (ad 0), .int b, .int v, .int h] sz M J (fun r_ u_ => ((¬ M 0 16 = 0 ∧ inB b cnt ∧ inB v 6 ∧ ¬ M 12 (tn b) = 0) ∧ u_.2 = J ∧ tQ 0 M u_.1 ∧ r_ = (if h = 0 then (apF M (tn b)).1 (tn v) else (apF M (tn b)).2 (tn v))) ∨ (qAE M J cnt b v u_ ∧ r_ = nI 0)) := by
  refine wC_i (cc := cX9_exit) (maxL := 4) (ret := (some .int)) (by decide) rfl (Nat.le_of_ble_eq_true rfl) ?_
  intro p e s m below meth c ls A hx hb hr hml hown hts hlocks hK hA hw hl hAe
  clear hAe
  have hl : lv_has ls 4 [(0, .ref (ad 0)), (1, .int b), (2, .int v), (3, .int h)] := hl
  have f66 : (Cond.fieldLink RX9 66 "RangePropagatorModel" "low" "[I").before _ s = true := hts _ (by decide +kernel)
  have iX9 : ∀ w ∈ wsX90, w ∈ wsX9_exit := by decide +kernel
  have f69 : (Cond.fieldLink RX9 69 "RangePropagatorModel" "high" "[I").before _ s = true := hts _ (by decide +kernel)
  have hc16 : cnt ≤ 16 := hp.2.1
  refine lv_aload_n hx hb dX9_exit_0 rfl (lv_at hl 0 rfl) ?_
  refine lv_iload_n hx hb dX9_exit_1 rfl (lv_at hl 1 rfl) ?_
  refine lv_iload_n hx hb dX9_exit_2 rfl (lv_at hl 2 rfl) ?_
  refine wr_cVi (k := 0) (ci := 8) (As := [.int b, .int v]) (rest := []) ⟨hx, hb, hml, hown, hts⟩ (cwV 2 hts gX9_exit_X9_asks rfl rfl rfl (by decide +kernel) ⟨Nat.le_of_ble_eq_true rfl, Nat.le_of_ble_eq_true rfl⟩) hK hA hw (k_X9_asks l D ad cs s.heap.size M J b v cnt hp.1 hp.2.1) (by omega) rfl rfl rfl rfl hl.1 (Nat.le_of_ble_eq_true rfl) ⟨Nat.le_of_ble_eq_true rfl, Nat.le_of_ble_eq_true rfl⟩ dX9_exit_3 (fun r1 M2 J3 H locs h4 hw => ?_)
  refine lv_if_ne (tgt := 11) hx hb dX9_exit_6 (by decide) (fun q5 => ?_) (fun q5 => ?_)
  · obtain ⟨hm9, ⟨b_n, b_h, rfl⟩, ⟨v_n, v_h, rfl⟩, ht9, hu9⟩ := qAs_1 h4 q5; cases hu9
    refine lv_aload_n hx hb dX9_exit_11 rfl (lv_at hl 0 rfl) ?_
    refine lv_iload_n hx hb dX9_exit_12 rfl (lv_at hl 1 rfl) ?_
    refine wr_cVv (k := 0) (ci := 8) (As := [.int (nI b_n)]) (rest := []) ⟨hx, hb, hml, hown, hts⟩ (cwV 1 hts gX9_exit_X9_leave rfl rfl rfl (by decide +kernel) ⟨Nat.le_of_ble_eq_true rfl, Nat.le_of_ble_eq_true rfl⟩) hK hA hw (k_X9_leave l D ad cs H.size (wU M 0 0 (nI 0)) J b_n (by omega) (tQ_OK hp (tQ_0 (k := 0))).2.2.2.2.1 (tQ_OK hp (tQ_0 (k := 0))).2.2.2.2.2.1) (by omega) rfl rfl rfl rfl hl.1 (Nat.le_of_ble_eq_true rfl) ⟨Nat.le_of_ble_eq_true rfl, Nat.le_of_ble_eq_true rfl⟩ dX9_exit_13 (fun M7 J8 H locs h9 hw => ?_)
    have h9J : J8 = J := h9.1
    rw [h9J] at hw
    have hQ9 : tQ 0 M M7 := tQ_m67 tQ_0 h9.2.1
    have hF9 : rr (M7 16, M7 17) = apF M b_n := h9.2.2.trans (tQ_apF (k := 0) tQ_0)
    refine lv_iload_n hx hb dX9_exit_16 rfl (lv_at hl 3 rfl) ?_
    refine lv_if_eq (tgt := 29) hx hb dX9_exit_17 (by decide) (fun q10 => ?_) (fun q10 => ?_)
    · skip
      refine lv_aload_n hx hb dX9_exit_29 rfl (lv_at hl 0 rfl) ?_
      refine wr_gr hx hb hown hK hts iX9 (ci := 8) rfl 21 (by decide) f66 rfl hw 0 (by omega) 16 rfl rfl dX9_exit_30 ?_
      refine lv_iload_n hx hb dX9_exit_33 rfl (lv_at hl 2 rfl) ?_
      refine wr_ildN hx hb hK hw 16 (by omega) rfl (by decide) v_n rfl (by omega) dX9_exit_34 ?_
      exact wr_iret hx hb hr rfl hK hw (Or.inl ⟨⟨hm9, ⟨b_n, b_h, rfl⟩, ⟨v_n, v_h, rfl⟩, ht9⟩, rfl, hQ9, (by rw [tn_nI (by omega), tn_nI (by omega), if_pos q10, ← hF9, rr_1 (by omega)])⟩) hlocks dX9_exit_35
    · skip
      refine lv_aload_n hx hb dX9_exit_20 rfl (lv_at hl 0 rfl) ?_
      refine wr_gr hx hb hown hK hts iX9 (ci := 8) rfl 22 (by decide) f69 rfl hw 0 (by omega) 17 rfl rfl dX9_exit_21 ?_
      refine lv_iload_n hx hb dX9_exit_24 rfl (lv_at hl 2 rfl) ?_
      refine wr_ildN hx hb hK hw 17 (by omega) rfl (by decide) v_n rfl (by omega) dX9_exit_25 ?_
      refine lv_goto (tgt := 35) hx hb dX9_exit_26 (by decide) ?_
      exact wr_iret hx hb hr rfl hK hw (Or.inl ⟨⟨hm9, ⟨b_n, b_h, rfl⟩, ⟨v_n, v_h, rfl⟩, ht9⟩, rfl, hQ9, (by rw [tn_nI (by omega), tn_nI (by omega), if_neg q10, ← hF9, rr_2 (by omega)])⟩) hlocks dX9_exit_35
  · have hE9 := qAs_0 h4 q5
    refine lv_iconst (v := nI 0) hx hb dX9_exit_9 (by decide) ?_
    exact wr_iret hx hb hr rfl hK hw (Or.inr ⟨hE9, rfl⟩) hlocks dX9_exit_10
set_option maxHeartbeats 4000000 in
set_option maxRecDepth 100000 in
theorem k_X9_isDead (l : Launch) (D : va_G) (ad : Nat → Nat) (cs : Nat → ClassId) (sz : Nat) (M : wM) (J : wJ) (b : Int32) (e1 : Int32) (cnt : Nat) (t : Nat) (hp : mOK M cnt t) : wCi l yX9_isDead wsX9_isDead { frames := 7, cells := 0, slots := 0, locals := 179 } D 23 mSh ad cs [.ref (ad 0), .int b, .int e1] sz M J (fun r_ u_ => (¬ M 0 16 = 0 ∧ inB b cnt ∧ inB e1 (tn (M 3 (tn b))) ∧ u_.2 = J ∧ tQ 0 M u_.1 ∧ ((r_ = nI 1 ∧ rcm M (tn b) (tn e1) = none) ∨ (r_ = nI 0 ∧ ¬ rcm M (tn b) (tn e1) = none))) ∨ (M 0 16 = 0 ∧ u_ = (wU M 0 0 (nI 1), J) ∧ r_ = nI 0) ∨ (¬ M 0 16 = 0 ∧ ¬ (inB b cnt ∧ inB e1 (tn (M 3 (tn b)))) ∧ u_ = (wU M 0 0 (nI 2), J) ∧ r_ = nI 0)) := by
  refine wC_i (cc := cX9_isDead) (maxL := 3) (ret := (some .boolean)) (by decide) rfl (Nat.le_of_ble_eq_true rfl) ?_
  intro p e s m below meth c ls A hx hb hr hml hown hts hlocks hK hA hw hl hAe
  clear hAe
  have hl : lv_has ls 3 [(0, .ref (ad 0)), (1, .int b), (2, .int e1)] := hl
  have f96 : (Cond.fieldLink RX9 96 "RangePropagatorModel" "isMade" "Z").before _ s = true := hts _ (by decide +kernel)
  have iX9 : ∀ w ∈ wsX90, w ∈ wsX9_isDead := by decide +kernel
  have f87 : (Cond.fieldLink RX9 87 "RangePropagatorModel" "thrown" "I").before _ s = true := hts _ (by decide +kernel)
  have f20 : (Cond.fieldLink RX9 20 "RangePropagatorModel" "edges" "[I").before _ s = true := hts _ (by decide +kernel)
  have hc16 : cnt ≤ 16 := hp.2.1
  refine lv_aload_n hx hb dX9_isDead_0 rfl (lv_at hl 0 rfl) ?_
  refine lv_aload_n hx hb dX9_isDead_1 rfl (lv_at hl 0 rfl) ?_
  refine wr_gi hx hb hown hK hts iX9 (ci := 8) rfl 16 (by decide) f96 rfl hw 0 (by omega) rfl rfl dX9_isDead_2 ?_
  refine lv_if_ne (tgt := 12) hx hb dX9_isDead_5 (by decide) (fun q1 => ?_) (fun q1 => ?_)
  · skip
    refine lv_aload_n hx hb dX9_isDead_12 rfl (lv_at hl 0 rfl) ?_
    refine lv_iload_n hx hb dX9_isDead_13 rfl (lv_at hl 1 rfl) ?_
    refine wr_cVi (k := 0) (ci := 8) (As := [.int b]) (rest := [.ref (ad 0)]) ⟨hx, hb, hml, hown, hts⟩ (cwV 1 hts gX9_isDead_X9_isBlock rfl rfl rfl (by decide +kernel) ⟨Nat.le_of_ble_eq_true rfl, Nat.le_of_ble_eq_true rfl⟩) hK hA hw (k_X9_isBlock l D ad cs s.heap.size M J b cnt hp.1 hp.2.1) (by omega) rfl rfl rfl rfl hl.1 (Nat.le_of_ble_eq_true rfl) ⟨Nat.le_of_ble_eq_true rfl, Nat.le_of_ble_eq_true rfl⟩ dX9_isDead_14 (fun r2 M3 J4 H locs h5 hw => ?_)
    obtain ⟨h5u, h5z, h5i⟩ := h5
    cases h5u
    refine lv_if_eq (tgt := 34) hx hb dX9_isDead_17 (by decide) (fun q6 => ?_) (fun q6 => ?_)
    · have b_no := (fun z => (h5i.mpr z) q6)
      refine lv_iconst (v := nI 2) hx hb dX9_isDead_34 (by decide) ?_
      refine lv_goto (tgt := 39) hx hb dX9_isDead_35 (by decide) ?_
      refine wr_pi hx hb hown hK hts iX9 tyX9_ok nmX9 (ci := 8) rfl 0 (by decide) f87 rfl rfl hw 0 (by omega) rfl rfl rfl rfl dX9_isDead_39 (fun H locs hw => ?_)
      refine lv_aload_n hx hb dX9_isDead_42 rfl (lv_at hl 0 rfl) ?_
      refine wr_gi hx hb hown hK hts iX9 (ci := 8) rfl 0 (by decide) f87 rfl hw 0 (by omega) rfl rfl dX9_isDead_43 ?_
      rw [show (wU M 0 0 (nI 2)) 0 0 = nI 2 from (by rw [wU_at, if_pos ⟨rfl, rfl⟩])]
      refine lv_if_ne (tgt := 62) hx hb dX9_isDead_46 (by decide) (fun q7 => ?_) (fun q7 => ?_)
      · skip
        refine lv_iconst (v := nI 0) hx hb dX9_isDead_62 (by decide) ?_
        exact wr_iret hx hb hr (by decide) hK hw (Or.inr (Or.inr ⟨q1, fun z => b_no z.1, rfl, rfl⟩)) hlocks dX9_isDead_63
      · skip
        exact absurd q7 (by decide)
    · obtain ⟨b_n, b_h, rfl⟩ := h5i.mp q6
      refine lv_iload_n hx hb dX9_isDead_20 rfl (lv_at hl 2 rfl) ?_
      refine lv_if_lt (tgt := 34) hx hb dX9_isDead_21 (by decide) (fun q8 => ?_) (fun q8 => ?_)
      · skip
        refine lv_iconst (v := nI 2) hx hb dX9_isDead_34 (by decide) ?_
        refine lv_goto (tgt := 39) hx hb dX9_isDead_35 (by decide) ?_
        refine wr_pi hx hb hown hK hts iX9 tyX9_ok nmX9 (ci := 8) rfl 0 (by decide) f87 rfl rfl hw 0 (by omega) rfl rfl rfl rfl dX9_isDead_39 (fun H locs hw => ?_)
        refine lv_aload_n hx hb dX9_isDead_42 rfl (lv_at hl 0 rfl) ?_
        refine wr_gi hx hb hown hK hts iX9 (ci := 8) rfl 0 (by decide) f87 rfl hw 0 (by omega) rfl rfl dX9_isDead_43 ?_
        rw [show (wU M 0 0 (nI 2)) 0 0 = nI 2 from (by rw [wU_at, if_pos ⟨rfl, rfl⟩])]
        refine lv_if_ne (tgt := 62) hx hb dX9_isDead_46 (by decide) (fun q9 => ?_) (fun q9 => ?_)
        · skip
          refine lv_iconst (v := nI 0) hx hb dX9_isDead_62 (by decide) ?_
          exact wr_iret hx hb hr (by decide) hK hw (Or.inr (Or.inr ⟨q1, fun z => absurd z.2 (by rw [tn_nI (by omega)]; exact nB_1 q8 (by have := (hp.2.2.2.2.2.2.1 b_n (by omega)).2; omega)), rfl, rfl⟩)) hlocks dX9_isDead_63
        · skip
          exact absurd q9 (by decide)
      · skip
        refine lv_iload_n hx hb dX9_isDead_24 rfl (lv_at hl 2 rfl) ?_
        refine lv_aload_n hx hb dX9_isDead_25 rfl (lv_at hl 0 rfl) ?_
        refine wr_gr hx hb hown hK hts iX9 (ci := 8) rfl 4 (by decide) f20 rfl hw 0 (by omega) 3 rfl rfl dX9_isDead_26 ?_
        refine lv_iload_n hx hb dX9_isDead_29 rfl (lv_at hl 1 rfl) ?_
        refine wr_ildN hx hb hK hw 3 (by omega) rfl (by decide) b_n rfl (by omega) dX9_isDead_30 ?_
        have hE2 : tn (M 3 b_n) ≤ 2 := (hp.2.2.2.2.2.2.1 b_n (by omega)).2
        rw [show M 3 b_n = nI (tn (M 3 b_n)) from (hp.2.2.2.2.2.2.1 b_n (by omega)).1]
        refine lv_icmp_lt (tgt := 38) hx hb dX9_isDead_31 (by decide) (fun q10 => ?_) (fun q10 => ?_)
        · obtain ⟨e1_n, e1_h, rfl⟩ := inB_of q8 q10 (by omega)
          refine lv_iconst (v := nI 0) hx hb dX9_isDead_38 (by decide) ?_
          refine wr_pi hx hb hown hK hts iX9 tyX9_ok nmX9 (ci := 8) rfl 0 (by decide) f87 rfl rfl hw 0 (by omega) rfl rfl rfl rfl dX9_isDead_39 (fun H locs hw => ?_)
          refine lv_aload_n hx hb dX9_isDead_42 rfl (lv_at hl 0 rfl) ?_
          refine wr_gi hx hb hown hK hts iX9 (ci := 8) rfl 0 (by decide) f87 rfl hw 0 (by omega) rfl rfl dX9_isDead_43 ?_
          rw [show (wU M 0 0 (nI 0)) 0 0 = nI 0 from (by rw [wU_at, if_pos ⟨rfl, rfl⟩])]
          refine lv_if_ne (tgt := 62) hx hb dX9_isDead_46 (by decide) (fun q11 => ?_) (fun q11 => ?_)
          · skip
            exact absurd q11 (by decide)
          · skip
            refine lv_aload_n hx hb dX9_isDead_49 rfl (lv_at hl 0 rfl) ?_
            refine lv_iload_n hx hb dX9_isDead_50 rfl (lv_at hl 1 rfl) ?_
            refine lv_iload_n hx hb dX9_isDead_51 rfl (lv_at hl 2 rfl) ?_
            refine wr_cVi (k := 0) (ci := 8) (As := [.int (nI b_n), .int (nI e1_n)]) (rest := []) ⟨hx, hb, hml, hown, hts⟩ (cwV 2 hts gX9_isDead_X9_reach rfl rfl rfl (by decide +kernel) ⟨Nat.le_of_ble_eq_true rfl, Nat.le_of_ble_eq_true rfl⟩) hK hA hw (k_X9_reach l D ad cs H.size (wU M 0 0 (nI 0)) J b_n e1_n (by omega) (by omega) (tQ_OK hp (tQ_0 (k := 0))).2.2.2.2.1 (tQ_OK hp (tQ_0 (k := 0))).2.2.2.2.2.1 (tQ_OK hp (tQ_0 (k := 0))).2.2.2.2.2.2.1 (tQ_OK hp (tQ_0 (k := 0))).2.2.2.2.2.2.2.1 (tQ_OK hp (tQ_0 (k := 0))).2.2.2.2.2.2.2.2) (by omega) rfl rfl rfl rfl hl.1 (Nat.le_of_ble_eq_true rfl) ⟨Nat.le_of_ble_eq_true rfl, Nat.le_of_ble_eq_true rfl⟩ dX9_isDead_52 (fun r12 M13 J14 H locs h15 hw => ?_)
            have h15J : J14 = J := h15.1
            rw [h15J] at hw
            refine lv_if_ne (tgt := 62) hx hb dX9_isDead_55 (by decide) (fun q16 => ?_) (fun q16 => ?_)
            · skip
              refine lv_iconst (v := nI 0) hx hb dX9_isDead_62 (by decide) ?_
              exact wr_iret hx hb hr (by decide) hK hw (Or.inl ⟨q1, ⟨b_n, b_h, rfl⟩, (by rw [tn_nI (by omega)]; exact ⟨e1_n, e1_h, rfl⟩), rfl, tQ_m67 tQ_0 h15.2.1, (by rw [tn_nI (by omega), tn_nI (by omega), ← tQ_rcm (k := 0) (M1 := wU M 0 0 (nI 0)) tQ_0]; exact Or.inr ⟨rfl, (h15.2.2.2.elim (fun z => absurd (z.1.trans nI_0) q16) (fun z => by rw [z.2]; simp))⟩)⟩) hlocks dX9_isDead_63
            · skip
              refine lv_iconst (v := nI 1) hx hb dX9_isDead_58 (by decide) ?_
              refine lv_goto (tgt := 63) hx hb dX9_isDead_59 (by decide) ?_
              exact wr_iret hx hb hr (by decide) hK hw (Or.inl ⟨q1, ⟨b_n, b_h, rfl⟩, (by rw [tn_nI (by omega)]; exact ⟨e1_n, e1_h, rfl⟩), rfl, tQ_m67 tQ_0 h15.2.1, (by rw [tn_nI (by omega), tn_nI (by omega), ← tQ_rcm (k := 0) (M1 := wU M 0 0 (nI 0)) tQ_0]; exact Or.inl ⟨rfl, (h15.2.2.2.elim (fun z => z.2) (fun z => absurd (z.1.symm.trans q16) (by decide)))⟩)⟩) hlocks dX9_isDead_63
        · skip
          refine lv_iconst (v := nI 2) hx hb dX9_isDead_34 (by decide) ?_
          refine lv_goto (tgt := 39) hx hb dX9_isDead_35 (by decide) ?_
          refine wr_pi hx hb hown hK hts iX9 tyX9_ok nmX9 (ci := 8) rfl 0 (by decide) f87 rfl rfl hw 0 (by omega) rfl rfl rfl rfl dX9_isDead_39 (fun H locs hw => ?_)
          refine lv_aload_n hx hb dX9_isDead_42 rfl (lv_at hl 0 rfl) ?_
          refine wr_gi hx hb hown hK hts iX9 (ci := 8) rfl 0 (by decide) f87 rfl hw 0 (by omega) rfl rfl dX9_isDead_43 ?_
          rw [show (wU M 0 0 (nI 2)) 0 0 = nI 2 from (by rw [wU_at, if_pos ⟨rfl, rfl⟩])]
          refine lv_if_ne (tgt := 62) hx hb dX9_isDead_46 (by decide) (fun q17 => ?_) (fun q17 => ?_)
          · skip
            refine lv_iconst (v := nI 0) hx hb dX9_isDead_62 (by decide) ?_
            exact wr_iret hx hb hr (by decide) hK hw (Or.inr (Or.inr ⟨q1, fun z => absurd z.2 (by rw [tn_nI (by omega)]; exact nB_2 q10 (by have := (hp.2.2.2.2.2.2.1 b_n (by omega)).2; omega)), rfl, rfl⟩)) hlocks dX9_isDead_63
          · skip
            exact absurd q17 (by decide)
  · skip
    refine lv_iconst (v := nI 1) hx hb dX9_isDead_8 (by decide) ?_
    refine lv_goto (tgt := 39) hx hb dX9_isDead_9 (by decide) ?_
    refine wr_pi hx hb hown hK hts iX9 tyX9_ok nmX9 (ci := 8) rfl 0 (by decide) f87 rfl rfl hw 0 (by omega) rfl rfl rfl rfl dX9_isDead_39 (fun H locs hw => ?_)
    refine lv_aload_n hx hb dX9_isDead_42 rfl (lv_at hl 0 rfl) ?_
    refine wr_gi hx hb hown hK hts iX9 (ci := 8) rfl 0 (by decide) f87 rfl hw 0 (by omega) rfl rfl dX9_isDead_43 ?_
    rw [show (wU M 0 0 (nI 1)) 0 0 = nI 1 from (by rw [wU_at, if_pos ⟨rfl, rfl⟩])]
    refine lv_if_ne (tgt := 62) hx hb dX9_isDead_46 (by decide) (fun q18 => ?_) (fun q18 => ?_)
    · skip
      refine lv_iconst (v := nI 0) hx hb dX9_isDead_62 (by decide) ?_
      exact wr_iret hx hb hr (by decide) hK hw (Or.inr (Or.inl ⟨q1, rfl, rfl⟩)) hlocks dX9_isDead_63
    · skip
      exact absurd q18 (by decide)
set_option maxHeartbeats 4000000 in
set_option maxRecDepth 100000 in
theorem k_X9_deadEdges (l : Launch) (D : va_G) (ad : Nat → Nat) (cs : Nat → ClassId) (sz : Nat) (M : wM) (J : wJ) (cnt : Nat) (t : Nat) (hp : mOK M cnt t) : wCi l yX9_deadEdges wsX9_deadEdges { frames := 7, cells := 0, slots := 0, locals := 179 } D 23 mSh ad cs [.ref (ad 0)] sz M J (qDd M J cnt) := by
  refine wC_i (cc := cX9_deadEdges) (maxL := 4) (ret := (some .int)) (by decide) rfl (Nat.le_of_ble_eq_true rfl) ?_
  intro p e s m below meth c ls A hx hb hr hml hown hts hlocks hK hA hw hl hAe
  clear hAe
  have hl : lv_has ls 4 [(0, .ref (ad 0))] := hl
  have f96 : (Cond.fieldLink RX9 96 "RangePropagatorModel" "isMade" "Z").before _ s = true := hts _ (by decide +kernel)
  have iX9 : ∀ w ∈ wsX90, w ∈ wsX9_deadEdges := by decide +kernel
  have f87 : (Cond.fieldLink RX9 87 "RangePropagatorModel" "thrown" "I").before _ s = true := hts _ (by decide +kernel)
  have f7 : (Cond.fieldLink RX9 7 "RangePropagatorModel" "blocks" "I").before _ s = true := hts _ (by decide +kernel)
  have f20 : (Cond.fieldLink RX9 20 "RangePropagatorModel" "edges" "[I").before _ s = true := hts _ (by decide +kernel)
  have f53 : (Cond.fieldLink RX9 53 "RangePropagatorModel" "isThere" "[Z").before _ s = true := hts _ (by decide +kernel)
  have hc16 : cnt ≤ 16 := hp.2.1
  refine lv_aload_n hx hb dX9_deadEdges_0 rfl (lv_at hl 0 rfl) ?_
  refine lv_aload_n hx hb dX9_deadEdges_1 rfl (lv_at hl 0 rfl) ?_
  refine wr_gi hx hb hown hK hts iX9 (ci := 8) rfl 16 (by decide) f96 rfl hw 0 (by omega) rfl rfl dX9_deadEdges_2 ?_
  refine lv_if_eq (tgt := 12) hx hb dX9_deadEdges_5 (by decide) (fun q1 => ?_) (fun q1 => ?_)
  · skip
    refine lv_iconst (v := nI 1) hx hb dX9_deadEdges_12 (by decide) ?_
    refine wr_pi hx hb hown hK hts iX9 tyX9_ok nmX9 (ci := 8) rfl 0 (by decide) f87 rfl rfl hw 0 (by omega) rfl rfl rfl rfl dX9_deadEdges_13 (fun H locs hw => ?_)
    refine lv_iconst (v := nI 0) hx hb dX9_deadEdges_16 (by decide) ?_
    refine lv_istore_n (lv' := [(1, .int (nI 0)), (0, .ref (ad 0))]) hx hb dX9_deadEdges_17 rfl hl (by decide) rfl (fun ls hl => ?_)
    refine lv_iconst (v := nI 0) hx hb dX9_deadEdges_18 (by decide) ?_
    refine lv_istore_n (lv' := [(2, .int (nI 0)), (1, .int (nI 0)), (0, .ref (ad 0))]) hx hb dX9_deadEdges_19 rfl hl (by decide) rfl (fun ls hl => ?_)
    refine w_loop (σ := Nat) (fun k M' J' ls => lv_has ls 4 [(0, .ref (ad 0)), (1, .int (nI (dmA M k))), (2, .int (nI k))] ∧ J' = J ∧ k ≤ cnt ∧ tQ 1 M M' ∧ (1 = 1 → k = 0 ∧ M' = wU M 0 0 (nI 1))) (fun k => cnt - k) (fun k M2 J1_ H locs ls hI hw ih3 => ?_) 0 ⟨lv_sub hl [2, 1, 0] rfl, rfl, by omega, ⟨tQ_0, fun _ => ⟨rfl, rfl⟩⟩⟩ hw
    obtain ⟨hl, eJ_, hk_, hI⟩ := hI
    rw [eJ_] at hw
    clear eJ_
    refine lv_iload_n hx hb dX9_deadEdges_20 rfl (lv_at hl 2 rfl) ?_
    refine lv_aload_n hx hb dX9_deadEdges_21 rfl (lv_at hl 0 rfl) ?_
    refine wr_gi hx hb hown hK hts iX9 (ci := 8) rfl 1 (by decide) f7 rfl hw 0 (by omega) rfl rfl dX9_deadEdges_22 ?_
    rw [show M2 0 1 = nI cnt from ((hI.1.2 1).trans ((if_neg (by decide)).trans hp.1))]
    refine lv_icmp_ge (tgt := 85) hx hb dX9_deadEdges_25 (by decide) (fun q4 => ?_) (fun q4 => ?_)
    · have q4n : cnt ≤ k := (nI_leI (by omega) (by omega)).mp q4
      refine lv_iload_n hx hb dX9_deadEdges_85 rfl (lv_at hl 1 rfl) ?_
      exact wr_iret hx hb hr rfl hK hw (by obtain ⟨e9, hMM⟩ := hI.2 rfl; subst e9; rw [hMM]; exact Or.inr ⟨q1, rfl, rfl⟩) hlocks dX9_deadEdges_86
    · have q4n : ¬ cnt ≤ k := fun z => q4 ((nI_leI (by omega) (by omega)).mpr z)
      refine lv_aload_n hx hb dX9_deadEdges_28 rfl (lv_at hl 0 rfl) ?_
      refine wr_gi hx hb hown hK hts iX9 (ci := 8) rfl 0 (by decide) f87 rfl hw 0 (by omega) rfl rfl dX9_deadEdges_29 ?_
      rw [show M2 0 0 = nI 1 from ((hI.1.2 0).trans (if_pos rfl))]
      refine lv_if_ne (tgt := 85) hx hb dX9_deadEdges_32 (by decide) (fun q5 => ?_) (fun q5 => ?_)
      · skip
        refine lv_iload_n hx hb dX9_deadEdges_85 rfl (lv_at hl 1 rfl) ?_
        exact wr_iret hx hb hr rfl hK hw (by obtain ⟨e9, hMM⟩ := hI.2 rfl; subst e9; rw [hMM]; exact Or.inr ⟨q1, rfl, rfl⟩) hlocks dX9_deadEdges_86
      · skip
        exact absurd q5 (by decide)
  · skip
    refine lv_iconst (v := nI 0) hx hb dX9_deadEdges_8 (by decide) ?_
    refine lv_goto (tgt := 13) hx hb dX9_deadEdges_9 (by decide) ?_
    refine wr_pi hx hb hown hK hts iX9 tyX9_ok nmX9 (ci := 8) rfl 0 (by decide) f87 rfl rfl hw 0 (by omega) rfl rfl rfl rfl dX9_deadEdges_13 (fun H locs hw => ?_)
    refine lv_iconst (v := nI 0) hx hb dX9_deadEdges_16 (by decide) ?_
    refine lv_istore_n (lv' := [(1, .int (nI 0)), (0, .ref (ad 0))]) hx hb dX9_deadEdges_17 rfl hl (by decide) rfl (fun ls hl => ?_)
    refine lv_iconst (v := nI 0) hx hb dX9_deadEdges_18 (by decide) ?_
    refine lv_istore_n (lv' := [(2, .int (nI 0)), (1, .int (nI 0)), (0, .ref (ad 0))]) hx hb dX9_deadEdges_19 rfl hl (by decide) rfl (fun ls hl => ?_)
    refine w_loop (σ := Nat) (fun k M' J' ls => lv_has ls 4 [(0, .ref (ad 0)), (1, .int (nI (dmA M k))), (2, .int (nI k))] ∧ J' = J ∧ k ≤ cnt ∧ tQ 0 M M' ∧ (0 = 1 → k = 0 ∧ M' = wU M 0 0 (nI 1))) (fun k => cnt - k) (fun k M6 J1_ H locs ls hI hw ih7 => ?_) 0 ⟨lv_sub hl [2, 1, 0] rfl, rfl, by omega, ⟨tQ_0, fun z => absurd z (by decide)⟩⟩ hw
    obtain ⟨hl, eJ_, hk_, hI⟩ := hI
    rw [eJ_] at hw
    clear eJ_
    refine lv_iload_n hx hb dX9_deadEdges_20 rfl (lv_at hl 2 rfl) ?_
    refine lv_aload_n hx hb dX9_deadEdges_21 rfl (lv_at hl 0 rfl) ?_
    refine wr_gi hx hb hown hK hts iX9 (ci := 8) rfl 1 (by decide) f7 rfl hw 0 (by omega) rfl rfl dX9_deadEdges_22 ?_
    rw [show M6 0 1 = nI cnt from ((hI.1.2 1).trans ((if_neg (by decide)).trans hp.1))]
    refine lv_icmp_ge (tgt := 85) hx hb dX9_deadEdges_25 (by decide) (fun q8 => ?_) (fun q8 => ?_)
    · have q8n : cnt ≤ k := (nI_leI (by omega) (by omega)).mp q8
      refine lv_iload_n hx hb dX9_deadEdges_85 rfl (lv_at hl 1 rfl) ?_
      exact wr_iret hx hb hr rfl hK hw (Or.inl ⟨q1, rfl, hI.1, (by have e9 : k = cnt := (by omega); rw [e9])⟩) hlocks dX9_deadEdges_86
    · have q8n : ¬ cnt ≤ k := fun z => q8 ((nI_leI (by omega) (by omega)).mpr z)
      refine lv_aload_n hx hb dX9_deadEdges_28 rfl (lv_at hl 0 rfl) ?_
      refine wr_gi hx hb hown hK hts iX9 (ci := 8) rfl 0 (by decide) f87 rfl hw 0 (by omega) rfl rfl dX9_deadEdges_29 ?_
      rw [show M6 0 0 = nI 0 from ((hI.1.2 0).trans (if_pos rfl))]
      refine lv_if_ne (tgt := 85) hx hb dX9_deadEdges_32 (by decide) (fun q9 => ?_) (fun q9 => ?_)
      · skip
        exact absurd q9 (by decide)
      · skip
        refine lv_iconst (v := nI 0) hx hb dX9_deadEdges_35 (by decide) ?_
        refine lv_istore_n (lv' := [(3, .int (nI 0)), (0, .ref (ad 0)), (1, .int (nI (dmA M k))), (2, .int (nI k))]) hx hb dX9_deadEdges_36 rfl hl (by decide) rfl (fun ls hl => ?_)
        have hE2 : tn (M 3 k) ≤ 2 := (hp.2.2.2.2.2.2.1 k (by omega)).2
        refine w_loop (σ := Nat) (fun e8 M' J' ls => lv_has ls 4 [(0, .ref (ad 0)), (1, .int (nI (dmA M k + dmE M k e8))), (2, .int (nI k)), (3, .int (nI e8))] ∧ J' = J ∧ e8 ≤ tn (M 3 k) ∧ tQ 0 M M' ∧ (M 12 k = 0 → e8 = 0)) (fun e8 => tn (M 3 k) - e8) (fun e8 M10 J1_ H locs ls hI hw ih11 => ?_) 0 ⟨lv_sub hl [1, 2, 3, 0] rfl, rfl, by omega, ⟨hI.1, fun _ => rfl⟩⟩ hw
        obtain ⟨hl, eJ_, hk_, hI⟩ := hI
        rw [eJ_] at hw
        clear eJ_
        refine lv_iload_n hx hb dX9_deadEdges_37 rfl (lv_at hl 3 rfl) ?_
        refine lv_aload_n hx hb dX9_deadEdges_38 rfl (lv_at hl 0 rfl) ?_
        refine wr_gr hx hb hown hK hts iX9 (ci := 8) rfl 4 (by decide) f20 rfl hw 0 (by omega) 3 rfl rfl dX9_deadEdges_39 ?_
        refine lv_iload_n hx hb dX9_deadEdges_42 rfl (lv_at hl 2 rfl) ?_
        refine wr_ildN hx hb hK hw 3 (by omega) rfl (by decide) k rfl (by omega) dX9_deadEdges_43 ?_
        rw [show M10 3 k = nI (tn (M 3 k)) from ((congrFun (tQ_at hI.1 3 (by omega)) k).trans (hp.2.2.2.2.2.2.1 k (by omega)).1)]
        refine lv_icmp_ge (tgt := 79) hx hb dX9_deadEdges_44 (by decide) (fun q12 => ?_) (fun q12 => ?_)
        · have q12n : (tn (M 3 k)) ≤ e8 := (nI_leI (by omega) (by omega)).mp q12
          refine lv_iinc (v := nI (k + 1)) (lv' := [(2, .int (nI (k + 1))), (0, .ref (ad 0)), (1, .int (nI (dmA M k + dmE M k e8))), (3, .int (nI e8))]) hx hb dX9_deadEdges_79 hl (k := 2) rfl (nI_1 _) (by decide) rfl (fun ls hl => ?_)
          refine lv_goto (tgt := 20) hx hb dX9_deadEdges_82 (by decide) ?_
          exact ih7 (k + 1) M10 J _ _ _ (by omega) ⟨(by have e9 : e8 = tn (M 3 k) := (by omega); rw [show dmA M (k + 1) = dmA M k + dmE M k e8 by show dmA M k + dmB M k = _; by_cases z : M 12 k = 0; (rw [dmB_0 z, hI.2 z]; rfl); rw [dmB_1 z, e9]]; exact lv_sub hl [1, 2, 0] rfl), rfl, by omega, ⟨hI.1, fun z => absurd z (by decide)⟩⟩ hw
        · have q12n : ¬ (tn (M 3 k)) ≤ e8 := fun z => q12 ((nI_leI (by omega) (by omega)).mpr z)
          refine lv_aload_n hx hb dX9_deadEdges_47 rfl (lv_at hl 0 rfl) ?_
          refine wr_gr hx hb hown hK hts iX9 (ci := 8) rfl 17 (by decide) f53 rfl hw 0 (by omega) 12 rfl rfl dX9_deadEdges_48 ?_
          refine lv_iload_n hx hb dX9_deadEdges_51 rfl (lv_at hl 2 rfl) ?_
          refine wr_zldN hx hb hK hw 12 (by omega) rfl (by decide) k rfl (by omega) dX9_deadEdges_52 ?_
          rw [show M10 12 k = M 12 k from (congrFun (tQ_at hI.1 12 (by omega)) k)]
          refine lv_if_eq (tgt := 79) hx hb dX9_deadEdges_53 (by decide) (fun q13 => ?_) (fun q13 => ?_)
          · skip
            refine lv_iinc (v := nI (k + 1)) (lv' := [(2, .int (nI (k + 1))), (0, .ref (ad 0)), (1, .int (nI (dmA M k + dmE M k e8))), (3, .int (nI e8))]) hx hb dX9_deadEdges_79 hl (k := 2) rfl (nI_1 _) (by decide) rfl (fun ls hl => ?_)
            refine lv_goto (tgt := 20) hx hb dX9_deadEdges_82 (by decide) ?_
            exact ih7 (k + 1) M10 J _ _ _ (by omega) ⟨(by have e9 : e8 = 0 := hI.2 q13; subst e9; rw [show dmA M (k + 1) = dmA M k + dmE M k 0 by show dmA M k + dmB M k = _; rw [dmB_0 q13]; rfl]; exact lv_sub hl [1, 2, 0] rfl), rfl, by omega, ⟨hI.1, fun z => absurd z (by decide)⟩⟩ hw
          · skip
            refine lv_iload_n hx hb dX9_deadEdges_56 rfl (lv_at hl 1 rfl) ?_
            refine lv_aload_n hx hb dX9_deadEdges_57 rfl (lv_at hl 0 rfl) ?_
            refine lv_iload_n hx hb dX9_deadEdges_58 rfl (lv_at hl 2 rfl) ?_
            refine lv_iload_n hx hb dX9_deadEdges_59 rfl (lv_at hl 3 rfl) ?_
            refine wr_cVi (k := 0) (ci := 8) (As := [.int (nI k), .int (nI e8)]) (rest := [.int (nI (dmA M k + dmE M k e8))]) ⟨hx, hb, hml, hown, hts⟩ (cwV 2 hts gX9_deadEdges_X9_reach rfl rfl rfl (by decide +kernel) ⟨Nat.le_of_ble_eq_true rfl, Nat.le_of_ble_eq_true rfl⟩) hK hA hw (k_X9_reach l D ad cs H.size M10 J k e8 (by omega) (by omega) (tQ_OK hp hI.1).2.2.2.2.1 (tQ_OK hp hI.1).2.2.2.2.2.1 (tQ_OK hp hI.1).2.2.2.2.2.2.1 (tQ_OK hp hI.1).2.2.2.2.2.2.2.1 (tQ_OK hp hI.1).2.2.2.2.2.2.2.2) (by omega) rfl rfl rfl rfl hl.1 (Nat.le_of_ble_eq_true rfl) ⟨Nat.le_of_ble_eq_true rfl, Nat.le_of_ble_eq_true rfl⟩ dX9_deadEdges_60 (fun r14 M15 J16 H locs h17 hw => ?_)
            have h17J : J16 = J := h17.1
            rw [h17J] at hw
            refine lv_if_eq (tgt := 70) hx hb dX9_deadEdges_63 (by decide) (fun q18 => ?_) (fun q18 => ?_)
            · skip
              refine lv_iconst (v := nI 1) hx hb dX9_deadEdges_70 (by decide) ?_
              refine lv_iaddN hx hb dX9_deadEdges_71 ?_
              refine lv_istore_n (lv' := [(1, .int (nI ((dmA M k + dmE M k e8) + 1))), (0, .ref (ad 0)), (2, .int (nI k)), (3, .int (nI e8))]) hx hb dX9_deadEdges_72 rfl hl (by decide) rfl (fun ls hl => ?_)
              refine lv_iinc (v := nI (e8 + 1)) (lv' := [(3, .int (nI (e8 + 1))), (1, .int (nI ((dmA M k + dmE M k e8) + 1))), (0, .ref (ad 0)), (2, .int (nI k))]) hx hb dX9_deadEdges_73 hl (k := 3) rfl (nI_1 _) (by decide) rfl (fun ls hl => ?_)
              refine lv_goto (tgt := 37) hx hb dX9_deadEdges_76 (by decide) ?_
              exact ih11 (e8 + 1) M15 J _ _ _ (by omega) ⟨(by rw [← dm_0 hI.1 h17 q18]; exact lv_sub hl [2, 1, 3, 0] rfl), rfl, by omega, ⟨tQ_m67 hI.1 h17.2.1, fun z => absurd z q13⟩⟩ hw
            · skip
              refine lv_iconst (v := nI 0) hx hb dX9_deadEdges_66 (by decide) ?_
              refine lv_goto (tgt := 71) hx hb dX9_deadEdges_67 (by decide) ?_
              refine lv_iaddN hx hb dX9_deadEdges_71 ?_
              refine lv_istore_n (lv' := [(1, .int (nI ((dmA M k + dmE M k e8) + 0))), (0, .ref (ad 0)), (2, .int (nI k)), (3, .int (nI e8))]) hx hb dX9_deadEdges_72 rfl hl (by decide) rfl (fun ls hl => ?_)
              refine lv_iinc (v := nI (e8 + 1)) (lv' := [(3, .int (nI (e8 + 1))), (1, .int (nI ((dmA M k + dmE M k e8) + 0))), (0, .ref (ad 0)), (2, .int (nI k))]) hx hb dX9_deadEdges_73 hl (k := 3) rfl (nI_1 _) (by decide) rfl (fun ls hl => ?_)
              refine lv_goto (tgt := 37) hx hb dX9_deadEdges_76 (by decide) ?_
              exact ih11 (e8 + 1) M15 J _ _ _ (by omega) ⟨(by rw [← dm_1 hI.1 h17 q18]; exact lv_sub hl [2, 1, 3, 0] rfl), rfl, by omega, ⟨tQ_m67 hI.1 h17.2.1, fun z => absurd z q13⟩⟩ hw
set_option maxHeartbeats 4000000 in
set_option maxRecDepth 100000 in
theorem k_X9_constants (l : Launch) (D : va_G) (ad : Nat → Nat) (cs : Nat → ClassId) (sz : Nat) (M : wM) (J : wJ) (b : Int32) (cnt : Nat) (t : Nat) (hp : mOK M cnt t) : wCi l yX9_constants wsX9_constants { frames := 6, cells := 0, slots := 0, locals := 154 } D 23 mSh ad cs [.ref (ad 0), .int b] sz M J (fun r_ u_ => (¬ M 0 16 = 0 ∧ inB b cnt ∧ u_.2 = J ∧ tQ 0 M u_.1 ∧ ((M 12 (tn b) = 0 ∧ r_ = nI 0) ∨ (¬ M 12 (tn b) = 0 ∧ r_ = nI (ccS (some (apF M (tn b))))))) ∨ (M 0 16 = 0 ∧ u_ = (wU M 0 0 (nI 1), J) ∧ r_ = nI 0) ∨ (¬ M 0 16 = 0 ∧ ¬ inB b cnt ∧ u_ = (wU M 0 0 (nI 2), J) ∧ r_ = nI 0)) := by
  refine wC_i (cc := cX9_constants) (maxL := 4) (ret := (some .int)) (by decide) rfl (Nat.le_of_ble_eq_true rfl) ?_
  intro p e s m below meth c ls A hx hb hr hml hown hts hlocks hK hA hw hl hAe
  clear hAe
  have hl : lv_has ls 4 [(0, .ref (ad 0)), (1, .int b)] := hl
  have f96 : (Cond.fieldLink RX9 96 "RangePropagatorModel" "isMade" "Z").before _ s = true := hts _ (by decide +kernel)
  have iX9 : ∀ w ∈ wsX90, w ∈ wsX9_constants := by decide +kernel
  have f87 : (Cond.fieldLink RX9 87 "RangePropagatorModel" "thrown" "I").before _ s = true := hts _ (by decide +kernel)
  have f53 : (Cond.fieldLink RX9 53 "RangePropagatorModel" "isThere" "[Z").before _ s = true := hts _ (by decide +kernel)
  have f66 : (Cond.fieldLink RX9 66 "RangePropagatorModel" "low" "[I").before _ s = true := hts _ (by decide +kernel)
  have f69 : (Cond.fieldLink RX9 69 "RangePropagatorModel" "high" "[I").before _ s = true := hts _ (by decide +kernel)
  have hc16 : cnt ≤ 16 := hp.2.1
  refine lv_aload_n hx hb dX9_constants_0 rfl (lv_at hl 0 rfl) ?_
  refine lv_aload_n hx hb dX9_constants_1 rfl (lv_at hl 0 rfl) ?_
  refine wr_gi hx hb hown hK hts iX9 (ci := 8) rfl 16 (by decide) f96 rfl hw 0 (by omega) rfl rfl dX9_constants_2 ?_
  refine lv_if_ne (tgt := 12) hx hb dX9_constants_5 (by decide) (fun q1 => ?_) (fun q1 => ?_)
  · skip
    refine lv_aload_n hx hb dX9_constants_12 rfl (lv_at hl 0 rfl) ?_
    refine lv_iload_n hx hb dX9_constants_13 rfl (lv_at hl 1 rfl) ?_
    refine wr_cVi (k := 0) (ci := 8) (As := [.int b]) (rest := [.ref (ad 0)]) ⟨hx, hb, hml, hown, hts⟩ (cwV 1 hts gX9_constants_X9_isBlock rfl rfl rfl (by decide +kernel) ⟨Nat.le_of_ble_eq_true rfl, Nat.le_of_ble_eq_true rfl⟩) hK hA hw (k_X9_isBlock l D ad cs s.heap.size M J b cnt hp.1 hp.2.1) (by omega) rfl rfl rfl rfl hl.1 (Nat.le_of_ble_eq_true rfl) ⟨Nat.le_of_ble_eq_true rfl, Nat.le_of_ble_eq_true rfl⟩ dX9_constants_14 (fun r2 M3 J4 H locs h5 hw => ?_)
    obtain ⟨h5u, h5z, h5i⟩ := h5
    cases h5u
    refine lv_if_ne (tgt := 24) hx hb dX9_constants_17 (by decide) (fun q6 => ?_) (fun q6 => ?_)
    · obtain ⟨b_n, b_h, rfl⟩ := h5i.mp q6
      refine lv_iconst (v := nI 0) hx hb dX9_constants_24 (by decide) ?_
      refine wr_pi hx hb hown hK hts iX9 tyX9_ok nmX9 (ci := 8) rfl 0 (by decide) f87 rfl rfl hw 0 (by omega) rfl rfl rfl rfl dX9_constants_25 (fun H locs hw => ?_)
      refine lv_aload_n hx hb dX9_constants_28 rfl (lv_at hl 0 rfl) ?_
      refine wr_gi hx hb hown hK hts iX9 (ci := 8) rfl 0 (by decide) f87 rfl hw 0 (by omega) rfl rfl dX9_constants_29 ?_
      rw [show (wU M 0 0 (nI 0)) 0 0 = nI 0 from (by rw [wU_at, if_pos ⟨rfl, rfl⟩])]
      refine lv_if_ne (tgt := 44) hx hb dX9_constants_32 (by decide) (fun q7 => ?_) (fun q7 => ?_)
      · skip
        exact absurd q7 (by decide)
      · skip
        refine lv_aload_n hx hb dX9_constants_35 rfl (lv_at hl 0 rfl) ?_
        refine wr_gr hx hb hown hK hts iX9 (ci := 8) rfl 17 (by decide) f53 rfl hw 0 (by omega) 12 rfl rfl dX9_constants_36 ?_
        refine lv_iload_n hx hb dX9_constants_39 rfl (lv_at hl 1 rfl) ?_
        refine wr_zldN hx hb hK hw 12 (by omega) rfl (by decide) b_n rfl (by omega) dX9_constants_40 ?_
        rw [show (wU M 0 0 (nI 0)) 12 b_n = M 12 b_n from (congrFun (wU_ne (by decide)) b_n)]
        refine lv_if_ne (tgt := 46) hx hb dX9_constants_41 (by decide) (fun q8 => ?_) (fun q8 => ?_)
        · skip
          refine lv_aload_n hx hb dX9_constants_46 rfl (lv_at hl 0 rfl) ?_
          refine lv_iload_n hx hb dX9_constants_47 rfl (lv_at hl 1 rfl) ?_
          refine wr_cVv (k := 0) (ci := 8) (As := [.int (nI b_n)]) (rest := []) ⟨hx, hb, hml, hown, hts⟩ (cwV 1 hts gX9_constants_X9_leave rfl rfl rfl (by decide +kernel) ⟨Nat.le_of_ble_eq_true rfl, Nat.le_of_ble_eq_true rfl⟩) hK hA hw (k_X9_leave l D ad cs H.size (wU M 0 0 (nI 0)) J b_n (by omega) (tQ_OK hp (tQ_0 (k := 0))).2.2.2.2.1 (tQ_OK hp (tQ_0 (k := 0))).2.2.2.2.2.1) (by omega) rfl rfl rfl rfl hl.1 (Nat.le_of_ble_eq_true rfl) ⟨Nat.le_of_ble_eq_true rfl, Nat.le_of_ble_eq_true rfl⟩ dX9_constants_48 (fun M10 J11 H locs h12 hw => ?_)
          have h12J : J11 = J := h12.1
          rw [h12J] at hw
          have hQ9 : tQ 0 M M10 := tQ_m67 tQ_0 h12.2.1
          have hF9 : rr (M10 16, M10 17) = apF M b_n := h12.2.2.trans (tQ_apF (k := 0) tQ_0)
          refine lv_iconst (v := nI 0) hx hb dX9_constants_51 (by decide) ?_
          refine lv_istore_n (lv' := [(2, .int (nI 0)), (0, .ref (ad 0)), (1, .int (nI b_n))]) hx hb dX9_constants_52 rfl hl (by decide) rfl (fun ls hl => ?_)
          refine lv_iconst (v := nI 0) hx hb dX9_constants_53 (by decide) ?_
          refine lv_istore_n (lv' := [(3, .int (nI 0)), (2, .int (nI 0)), (0, .ref (ad 0)), (1, .int (nI b_n))]) hx hb dX9_constants_54 rfl hl (by decide) rfl (fun ls hl => ?_)
          refine w_loop (σ := Nat) (fun k M' J' ls => lv_has ls 4 [(0, .ref (ad 0)), (2, .int (nI (ccn (apF M b_n).1 (apF M b_n).2 k))), (3, .int (nI k))] ∧ J' = J ∧ k ≤ 6 ∧ M' = M10 ∧ True) (fun k => 6 - k) (fun k M13 J1_ H locs ls hI hw ih14 => ?_) 0 ⟨lv_sub hl [2, 1, 0] rfl, rfl, by omega, rfl, trivial⟩ hw
          obtain ⟨hl, eJ_, hk_, hI⟩ := hI
          rw [eJ_] at hw
          clear eJ_
          obtain ⟨eM_, hI⟩ := hI
          rw [eM_] at hw
          clear eM_
          refine lv_iload_n hx hb dX9_constants_55 rfl (lv_at hl 2 rfl) ?_
          refine lv_bipush (v := nI 6) hx hb dX9_constants_56 (by decide) ?_
          refine lv_icmp_ge (tgt := 90) hx hb dX9_constants_58 (by decide) (fun q15 => ?_) (fun q15 => ?_)
          · have q15n : 6 ≤ k := (nI_leI (by omega) (by omega)).mp q15
            refine lv_iload_n hx hb dX9_constants_90 rfl (lv_at hl 1 rfl) ?_
            exact wr_iret hx hb hr rfl hK hw (Or.inl ⟨q1, ⟨b_n, b_h, rfl⟩, rfl, hQ9, (by rw [tn_nI (by omega)]; exact Or.inr ⟨q8, (by have e9 : k = 6 := (by omega); rw [e9]; rfl)⟩)⟩) hlocks dX9_constants_91
          · have q15n : ¬ 6 ≤ k := fun z => q15 ((nI_leI (by omega) (by omega)).mpr z)
            refine lv_iload_n hx hb dX9_constants_61 rfl (lv_at hl 1 rfl) ?_
            refine lv_aload_n hx hb dX9_constants_62 rfl (lv_at hl 0 rfl) ?_
            refine wr_gr hx hb hown hK hts iX9 (ci := 8) rfl 21 (by decide) f66 rfl hw 0 (by omega) 16 rfl rfl dX9_constants_63 ?_
            refine lv_iload_n hx hb dX9_constants_66 rfl (lv_at hl 2 rfl) ?_
            refine wr_ildN hx hb hK hw 16 (by omega) rfl (by decide) k rfl (by omega) dX9_constants_67 ?_
            rw [show M10 16 k = (apF M b_n).1 k from ((rr_1 (by omega)).symm.trans (congrFun (congrArg Prod.fst hF9) k))]
            refine lv_aload_n hx hb dX9_constants_68 rfl (lv_at hl 0 rfl) ?_
            refine wr_gr hx hb hown hK hts iX9 (ci := 8) rfl 22 (by decide) f69 rfl hw 0 (by omega) 17 rfl rfl dX9_constants_69 ?_
            refine lv_iload_n hx hb dX9_constants_72 rfl (lv_at hl 2 rfl) ?_
            refine wr_ildN hx hb hK hw 17 (by omega) rfl (by decide) k rfl (by omega) dX9_constants_73 ?_
            rw [show M10 17 k = (apF M b_n).2 k from ((rr_2 (by omega)).symm.trans (congrFun (congrArg Prod.snd hF9) k))]
            refine lv_icmp_ne (tgt := 81) hx hb dX9_constants_74 (by decide) (fun q16 => ?_) (fun q16 => ?_)
            · skip
              refine lv_iconst (v := nI 0) hx hb dX9_constants_81 (by decide) ?_
              refine lv_iaddN hx hb dX9_constants_82 ?_
              refine lv_istore_n (lv' := [(2, .int (nI ((ccn (apF M b_n).1 (apF M b_n).2 k) + 0))), (0, .ref (ad 0)), (3, .int (nI k))]) hx hb dX9_constants_83 rfl hl (by decide) rfl (fun ls hl => ?_)
              refine lv_iinc (v := nI (k + 1)) (lv' := [(3, .int (nI (k + 1))), (2, .int (nI ((ccn (apF M b_n).1 (apF M b_n).2 k) + 0))), (0, .ref (ad 0))]) hx hb dX9_constants_84 hl (k := 2) rfl (nI_1 _) (by decide) rfl (fun ls hl => ?_)
              refine lv_goto (tgt := 55) hx hb dX9_constants_87 (by decide) ?_
              exact ih14 (k + 1) M10 J _ _ _ (by omega) ⟨(by rw [show ccn (apF M b_n).1 (apF M b_n).2 (k + 1) = ccn (apF M b_n).1 (apF M b_n).2 k + 0 by show ccn _ _ k + (if (apF M b_n).1 k = (apF M b_n).2 k then 1 else 0) = _; rw [if_neg q16]]; exact lv_sub hl [2, 1, 0] rfl), rfl, by omega, rfl, trivial⟩ hw
            · skip
              refine lv_iconst (v := nI 1) hx hb dX9_constants_77 (by decide) ?_
              refine lv_goto (tgt := 82) hx hb dX9_constants_78 (by decide) ?_
              refine lv_iaddN hx hb dX9_constants_82 ?_
              refine lv_istore_n (lv' := [(2, .int (nI ((ccn (apF M b_n).1 (apF M b_n).2 k) + 1))), (0, .ref (ad 0)), (3, .int (nI k))]) hx hb dX9_constants_83 rfl hl (by decide) rfl (fun ls hl => ?_)
              refine lv_iinc (v := nI (k + 1)) (lv' := [(3, .int (nI (k + 1))), (2, .int (nI ((ccn (apF M b_n).1 (apF M b_n).2 k) + 1))), (0, .ref (ad 0))]) hx hb dX9_constants_84 hl (k := 2) rfl (nI_1 _) (by decide) rfl (fun ls hl => ?_)
              refine lv_goto (tgt := 55) hx hb dX9_constants_87 (by decide) ?_
              exact ih14 (k + 1) M10 J _ _ _ (by omega) ⟨(by rw [show ccn (apF M b_n).1 (apF M b_n).2 (k + 1) = ccn (apF M b_n).1 (apF M b_n).2 k + 1 by show ccn _ _ k + (if (apF M b_n).1 k = (apF M b_n).2 k then 1 else 0) = _; rw [if_pos q16]]; exact lv_sub hl [2, 1, 0] rfl), rfl, by omega, rfl, trivial⟩ hw
        · skip
          refine lv_iconst (v := nI 0) hx hb dX9_constants_44 (by decide) ?_
          exact wr_iret hx hb hr rfl hK hw (Or.inl ⟨q1, ⟨b_n, b_h, rfl⟩, rfl, tQ_0, (by rw [tn_nI (by omega)]; exact Or.inl ⟨q8, rfl⟩)⟩) hlocks dX9_constants_45
    · have b_no := (fun z => (h5i.mpr z) q6)
      refine lv_iconst (v := nI 2) hx hb dX9_constants_20 (by decide) ?_
      refine lv_goto (tgt := 25) hx hb dX9_constants_21 (by decide) ?_
      refine wr_pi hx hb hown hK hts iX9 tyX9_ok nmX9 (ci := 8) rfl 0 (by decide) f87 rfl rfl hw 0 (by omega) rfl rfl rfl rfl dX9_constants_25 (fun H locs hw => ?_)
      refine lv_aload_n hx hb dX9_constants_28 rfl (lv_at hl 0 rfl) ?_
      refine wr_gi hx hb hown hK hts iX9 (ci := 8) rfl 0 (by decide) f87 rfl hw 0 (by omega) rfl rfl dX9_constants_29 ?_
      rw [show (wU M 0 0 (nI 2)) 0 0 = nI 2 from (by rw [wU_at, if_pos ⟨rfl, rfl⟩])]
      refine lv_if_ne (tgt := 44) hx hb dX9_constants_32 (by decide) (fun q17 => ?_) (fun q17 => ?_)
      · skip
        refine lv_iconst (v := nI 0) hx hb dX9_constants_44 (by decide) ?_
        exact wr_iret hx hb hr rfl hK hw (Or.inr (Or.inr ⟨q1, b_no, rfl, rfl⟩)) hlocks dX9_constants_45
      · skip
        exact absurd q17 (by decide)
  · skip
    refine lv_iconst (v := nI 1) hx hb dX9_constants_8 (by decide) ?_
    refine lv_goto (tgt := 25) hx hb dX9_constants_9 (by decide) ?_
    refine wr_pi hx hb hown hK hts iX9 tyX9_ok nmX9 (ci := 8) rfl 0 (by decide) f87 rfl rfl hw 0 (by omega) rfl rfl rfl rfl dX9_constants_25 (fun H locs hw => ?_)
    refine lv_aload_n hx hb dX9_constants_28 rfl (lv_at hl 0 rfl) ?_
    refine wr_gi hx hb hown hK hts iX9 (ci := 8) rfl 0 (by decide) f87 rfl hw 0 (by omega) rfl rfl dX9_constants_29 ?_
    rw [show (wU M 0 0 (nI 1)) 0 0 = nI 1 from (by rw [wU_at, if_pos ⟨rfl, rfl⟩])]
    refine lv_if_ne (tgt := 44) hx hb dX9_constants_32 (by decide) (fun q18 => ?_) (fun q18 => ?_)
    · skip
      refine lv_iconst (v := nI 0) hx hb dX9_constants_44 (by decide) ?_
      exact wr_iret hx hb hr rfl hK hw (Or.inr (Or.inl ⟨q1, rfl, rfl⟩)) hlocks dX9_constants_45
    · skip
      exact absurd q18 (by decide)
set_option maxHeartbeats 4000000 in
set_option maxRecDepth 100000 in
theorem k_X9_visits (l : Launch) (D : va_G) (ad : Nat → Nat) (cs : Nat → ClassId) (sz : Nat) (M : wM) (J : wJ) (b : Int32) (cnt : Nat) (hn : M 0 1 = nI cnt) (hn16 : cnt ≤ 16) : wCi l yX9_visits wsX9_visits { frames := 1, cells := 0, slots := 0, locals := 21 } D 23 mSh ad cs [.ref (ad 0), .int b] sz M J (fun r_ u_ => (¬ M 0 16 = 0 ∧ inB b cnt ∧ u_ = (wU M 0 0 (nI 0), J) ∧ r_ = M 15 (tn b)) ∨ (M 0 16 = 0 ∧ u_ = (wU M 0 0 (nI 1), J) ∧ r_ = nI 0) ∨ (¬ M 0 16 = 0 ∧ ¬ inB b cnt ∧ u_ = (wU M 0 0 (nI 2), J) ∧ r_ = nI 0)) := by
  refine wC_i (cc := cX9_visits) (maxL := 2) (ret := (some .int)) (by decide) rfl (Nat.le_of_ble_eq_true rfl) ?_
  intro p e s m below meth c ls A hx hb hr hml hown hts hlocks hK hA hw hl hAe
  clear hAe
  have hl : lv_has ls 2 [(0, .ref (ad 0)), (1, .int b)] := hl
  have f96 : (Cond.fieldLink RX9 96 "RangePropagatorModel" "isMade" "Z").before _ s = true := hts _ (by decide +kernel)
  have iX9 : ∀ w ∈ wsX90, w ∈ wsX9_visits := by decide +kernel
  have f87 : (Cond.fieldLink RX9 87 "RangePropagatorModel" "thrown" "I").before _ s = true := hts _ (by decide +kernel)
  have f63 : (Cond.fieldLink RX9 63 "RangePropagatorModel" "visits" "[I").before _ s = true := hts _ (by decide +kernel)
  refine lv_aload_n hx hb dX9_visits_0 rfl (lv_at hl 0 rfl) ?_
  refine lv_aload_n hx hb dX9_visits_1 rfl (lv_at hl 0 rfl) ?_
  refine wr_gi hx hb hown hK hts iX9 (ci := 8) rfl 16 (by decide) f96 rfl hw 0 (by omega) rfl rfl dX9_visits_2 ?_
  refine lv_if_ne (tgt := 12) hx hb dX9_visits_5 (by decide) (fun q1 => ?_) (fun q1 => ?_)
  · skip
    refine lv_aload_n hx hb dX9_visits_12 rfl (lv_at hl 0 rfl) ?_
    refine lv_iload_n hx hb dX9_visits_13 rfl (lv_at hl 1 rfl) ?_
    refine wr_cVi (k := 0) (ci := 8) (As := [.int b]) (rest := [.ref (ad 0)]) ⟨hx, hb, hml, hown, hts⟩ (cwV 1 hts gX9_visits_X9_isBlock rfl rfl rfl (by decide +kernel) ⟨Nat.le_of_ble_eq_true rfl, Nat.le_of_ble_eq_true rfl⟩) hK hA hw (k_X9_isBlock l D ad cs s.heap.size M J b cnt hn hn16) (by omega) rfl rfl rfl rfl hl.1 (Nat.le_of_ble_eq_true rfl) ⟨Nat.le_of_ble_eq_true rfl, Nat.le_of_ble_eq_true rfl⟩ dX9_visits_14 (fun r2 M3 J4 H locs h5 hw => ?_)
    obtain ⟨h5u, h5z, h5i⟩ := h5
    cases h5u
    refine lv_if_ne (tgt := 24) hx hb dX9_visits_17 (by decide) (fun q6 => ?_) (fun q6 => ?_)
    · obtain ⟨b_n, b_h, rfl⟩ := h5i.mp q6
      refine lv_iconst (v := nI 0) hx hb dX9_visits_24 (by decide) ?_
      refine wr_pi hx hb hown hK hts iX9 tyX9_ok nmX9 (ci := 8) rfl 0 (by decide) f87 rfl rfl hw 0 (by omega) rfl rfl rfl rfl dX9_visits_25 (fun H locs hw => ?_)
      refine lv_aload_n hx hb dX9_visits_28 rfl (lv_at hl 0 rfl) ?_
      refine wr_gi hx hb hown hK hts iX9 (ci := 8) rfl 0 (by decide) f87 rfl hw 0 (by omega) rfl rfl dX9_visits_29 ?_
      rw [show (wU M 0 0 (nI 0)) 0 0 = nI 0 from (by rw [wU_at, if_pos ⟨rfl, rfl⟩])]
      refine lv_if_ne (tgt := 44) hx hb dX9_visits_32 (by decide) (fun q7 => ?_) (fun q7 => ?_)
      · skip
        exact absurd q7 (by decide)
      · skip
        refine lv_aload_n hx hb dX9_visits_35 rfl (lv_at hl 0 rfl) ?_
        refine wr_gr hx hb hown hK hts iX9 (ci := 8) rfl 20 (by decide) f63 rfl hw 0 (by omega) 15 rfl rfl dX9_visits_36 ?_
        refine lv_iload_n hx hb dX9_visits_39 rfl (lv_at hl 1 rfl) ?_
        refine wr_ildN hx hb hK hw 15 (by omega) rfl (by decide) b_n rfl (by omega) dX9_visits_40 ?_
        rw [show (wU M 0 0 (nI 0)) 15 b_n = M 15 b_n from (congrFun (wU_ne (by decide)) b_n)]
        refine lv_goto (tgt := 45) hx hb dX9_visits_41 (by decide) ?_
        exact wr_iret hx hb hr rfl hK hw (Or.inl ⟨q1, ⟨b_n, b_h, rfl⟩, rfl, (by rw [tn_nI (by omega)])⟩) hlocks dX9_visits_45
    · have b_no := (fun z => (h5i.mpr z) q6)
      refine lv_iconst (v := nI 2) hx hb dX9_visits_20 (by decide) ?_
      refine lv_goto (tgt := 25) hx hb dX9_visits_21 (by decide) ?_
      refine wr_pi hx hb hown hK hts iX9 tyX9_ok nmX9 (ci := 8) rfl 0 (by decide) f87 rfl rfl hw 0 (by omega) rfl rfl rfl rfl dX9_visits_25 (fun H locs hw => ?_)
      refine lv_aload_n hx hb dX9_visits_28 rfl (lv_at hl 0 rfl) ?_
      refine wr_gi hx hb hown hK hts iX9 (ci := 8) rfl 0 (by decide) f87 rfl hw 0 (by omega) rfl rfl dX9_visits_29 ?_
      rw [show (wU M 0 0 (nI 2)) 0 0 = nI 2 from (by rw [wU_at, if_pos ⟨rfl, rfl⟩])]
      refine lv_if_ne (tgt := 44) hx hb dX9_visits_32 (by decide) (fun q8 => ?_) (fun q8 => ?_)
      · skip
        refine lv_iconst (v := nI 0) hx hb dX9_visits_44 (by decide) ?_
        exact wr_iret hx hb hr rfl hK hw (Or.inr (Or.inr ⟨q1, b_no, rfl, rfl⟩)) hlocks dX9_visits_45
      · skip
        exact absurd q8 (by decide)
  · skip
    refine lv_iconst (v := nI 1) hx hb dX9_visits_8 (by decide) ?_
    refine lv_goto (tgt := 25) hx hb dX9_visits_9 (by decide) ?_
    refine wr_pi hx hb hown hK hts iX9 tyX9_ok nmX9 (ci := 8) rfl 0 (by decide) f87 rfl rfl hw 0 (by omega) rfl rfl rfl rfl dX9_visits_25 (fun H locs hw => ?_)
    refine lv_aload_n hx hb dX9_visits_28 rfl (lv_at hl 0 rfl) ?_
    refine wr_gi hx hb hown hK hts iX9 (ci := 8) rfl 0 (by decide) f87 rfl hw 0 (by omega) rfl rfl dX9_visits_29 ?_
    rw [show (wU M 0 0 (nI 1)) 0 0 = nI 1 from (by rw [wU_at, if_pos ⟨rfl, rfl⟩])]
    refine lv_if_ne (tgt := 44) hx hb dX9_visits_32 (by decide) (fun q9 => ?_) (fun q9 => ?_)
    · skip
      refine lv_iconst (v := nI 0) hx hb dX9_visits_44 (by decide) ?_
      exact wr_iret hx hb hr rfl hK hw (Or.inr (Or.inl ⟨q1, rfl, rfl⟩)) hlocks dX9_visits_45
    · skip
      exact absurd q9 (by decide)
