/-! the reference, 1: laid by wip/gen/specs15.py -/
theorem lt_nle {a b : Int32} (h : ¬ a ≤ b) : b < a := Int32.not_le.mp h
theorem nle_lt {a b : Int32} (h : a < b) (g : b ≤ a) : False := Int32.not_le.mpr h g
theorem nle_lt2 {a b : Int32} (h : a ≤ b) (g : b < a) : False := Int32.not_le.mpr g h
theorem nlt_le {a b : Int32} (h : ¬ b < a) : a ≤ b := Decidable.byContradiction (fun z => h (Int32.not_le.mp z))
def E_X9_thrown (M : wM)  : Int32 := M 0 0
set_option maxHeartbeats 4000000 in
set_option maxRecDepth 100000 in
theorem k_X9_thrown (l : Launch) (D : va_G) (ad : Nat → Nat) (cs : Nat → ClassId) (sz : Nat) (M : wM) (J : wJ)   : wCi l yX9_thrown wsX9_thrown { frames := 0, cells := 0, slots := 0, locals := 0 } D 23 mSh ad cs [.ref (ad 0)] sz M J (fun r_ u_ => u_ = (M, J) ∧ r_ = E_X9_thrown M ) := by
  refine wC_i (cc := cX9_thrown) (maxL := 1) (ret := (some .int)) (by decide) rfl (Nat.le_of_ble_eq_true rfl) ?_
  intro p e s m below meth c ls A hx hb hr hml hown hts hlocks hK hA hw hl hAe
  clear hAe
  have hl : lv_has ls 1 [(0, .ref (ad 0))] := hl
  have f87 : (Cond.fieldLink RX9 87 "RangePropagatorModel" "thrown" "I").before _ s = true := hts _ (by decide +kernel)
  have iX9 : ∀ w ∈ wsX90, w ∈ wsX9_thrown := by decide +kernel
  refine lv_aload_n hx hb dX9_thrown_0 rfl (lv_at hl 0 rfl) ?_
  refine wr_gi hx hb hown hK hts iX9 (ci := 8) rfl 0 (by decide) f87 rfl hw 0 (by omega) rfl rfl dX9_thrown_1 ?_
  exact wr_iret hx hb hr rfl hK hw ⟨rfl, by unfold E_X9_thrown; rfl⟩ hlocks dX9_thrown_4
set_option maxHeartbeats 4000000 in
set_option maxRecDepth 100000 in
theorem k_X9_fail (l : Launch) (D : va_G) (ad : Nat → Nat) (cs : Nat → ClassId) (sz : Nat) (M : wM) (J : wJ) (cd : Int32)  : wCi l yX9_fail wsX9_fail { frames := 0, cells := 0, slots := 0, locals := 0 } D 23 mSh ad cs [.ref (ad 0), .int cd] sz M J (fun r_ u_ => u_ = (wU M 0 0 cd, J) ∧ r_ = nI 0) := by
  refine wC_i (cc := cX9_fail) (maxL := 2) (ret := (some .int)) (by decide) rfl (Nat.le_of_ble_eq_true rfl) ?_
  intro p e s m below meth c ls A hx hb hr hml hown hts hlocks hK hA hw hl hAe
  clear hAe
  have hl : lv_has ls 2 [(0, .ref (ad 0)), (1, .int cd)] := hl
  have f87 : (Cond.fieldLink RX9 87 "RangePropagatorModel" "thrown" "I").before _ s = true := hts _ (by decide +kernel)
  have iX9 : ∀ w ∈ wsX90, w ∈ wsX9_fail := by decide +kernel
  refine lv_aload_n hx hb dX9_fail_0 rfl (lv_at hl 0 rfl) ?_
  refine lv_iload_n hx hb dX9_fail_1 rfl (lv_at hl 1 rfl) ?_
  refine wr_pi hx hb hown hK hts iX9 tyX9_ok nmX9 (ci := 8) rfl 0 (by decide) f87 rfl rfl hw 0 (by omega) rfl rfl rfl rfl dX9_fail_2 (fun H locs hw => ?_)
  refine lv_iconst (v := nI 0) hx hb dX9_fail_5 (by decide) ?_
  exact wr_iret hx hb hr rfl hK hw ⟨rfl, rfl⟩ hlocks dX9_fail_6
set_option maxHeartbeats 4000000 in
set_option maxRecDepth 100000 in
theorem k_X9_isBlock (l : Launch) (D : va_G) (ad : Nat → Nat) (cs : Nat → ClassId) (sz : Nat) (M : wM) (J : wJ) (v : Int32) (cnt : Nat) (hn : M 0 1 = nI cnt) (hn16 : cnt ≤ 16) : wCi l yX9_isBlock wsX9_isBlock { frames := 0, cells := 0, slots := 0, locals := 0 } D 23 mSh ad cs [.ref (ad 0), .int v] sz M J (fun r_ u_ => u_ = (M, J) ∧ bz r_ ∧ (¬ r_ = 0 ↔ inB v cnt)) := by
  refine wC_i (cc := cX9_isBlock) (maxL := 2) (ret := (some .boolean)) (by decide) rfl (Nat.le_of_ble_eq_true rfl) ?_
  intro p e s m below meth c ls A hx hb hr hml hown hts hlocks hK hA hw hl hAe
  clear hAe
  have hl : lv_has ls 2 [(0, .ref (ad 0)), (1, .int v)] := hl
  have f7 : (Cond.fieldLink RX9 7 "RangePropagatorModel" "blocks" "I").before _ s = true := hts _ (by decide +kernel)
  have iX9 : ∀ w ∈ wsX90, w ∈ wsX9_isBlock := by decide +kernel
  refine lv_iload_n hx hb dX9_isBlock_0 rfl (lv_at hl 1 rfl) ?_
  refine lv_if_lt (tgt := 16) hx hb dX9_isBlock_1 (by decide) (fun q1 => ?_) (fun q1 => ?_)
  · skip
    refine lv_iconst (v := nI 0) hx hb dX9_isBlock_16 (by decide) ?_
    exact wr_iret hx hb hr (by decide) hK hw ⟨rfl, Or.inl rfl, fun z => absurd nI_0 z, fun z => absurd z (nB_1 q1 (by omega))⟩ hlocks dX9_isBlock_17
  · skip
    refine lv_iload_n hx hb dX9_isBlock_4 rfl (lv_at hl 1 rfl) ?_
    refine lv_aload_n hx hb dX9_isBlock_5 rfl (lv_at hl 0 rfl) ?_
    refine wr_gi hx hb hown hK hts iX9 (ci := 8) rfl 1 (by decide) f7 rfl hw 0 (by omega) rfl rfl dX9_isBlock_6 ?_
    rw [show M 0 1 = nI cnt from hn]
    refine lv_icmp_ge (tgt := 16) hx hb dX9_isBlock_9 (by decide) (fun q2 => ?_) (fun q2 => ?_)
    · skip
      refine lv_iconst (v := nI 0) hx hb dX9_isBlock_16 (by decide) ?_
      exact wr_iret hx hb hr (by decide) hK hw ⟨rfl, Or.inl rfl, fun z => absurd nI_0 z, fun z => absurd z (nB_2 (fun z => nle_lt z q2) (by omega))⟩ hlocks dX9_isBlock_17
    · skip
      refine lv_iconst (v := nI 1) hx hb dX9_isBlock_12 (by decide) ?_
      refine lv_goto (tgt := 17) hx hb dX9_isBlock_13 (by decide) ?_
      exact wr_iret hx hb hr (by decide) hK hw ⟨rfl, Or.inr rfl, fun _ => inB_of q1 (lt_nle q2) (by omega), fun _ => by decide⟩ hlocks dX9_isBlock_17
set_option maxHeartbeats 4000000 in
set_option maxRecDepth 100000 in
theorem k_X9_isVariable (l : Launch) (D : va_G) (ad : Nat → Nat) (cs : Nat → ClassId) (sz : Nat) (M : wM) (J : wJ) (v : Int32)  : wCi l yX9_isVariable wsX9_isVariable { frames := 0, cells := 0, slots := 0, locals := 0 } D 23 mSh ad cs [.int v] sz M J (fun r_ u_ => u_ = (M, J) ∧ bz r_ ∧ (¬ r_ = 0 ↔ inB v 6)) := by
  refine wC_i (cc := cX9_isVariable) (maxL := 1) (ret := (some .boolean)) (by decide) rfl (Nat.le_of_ble_eq_true rfl) ?_
  intro p e s m below meth c ls A hx hb hr hml hown hts hlocks hK hA hw hl hAe
  clear hAe
  have hl : lv_has ls 1 [(0, .int v)] := hl
  refine lv_iload_n hx hb dX9_isVariable_0 rfl (lv_at hl 0 rfl) ?_
  refine lv_if_lt (tgt := 14) hx hb dX9_isVariable_1 (by decide) (fun q1 => ?_) (fun q1 => ?_)
  · skip
    refine lv_iconst (v := nI 0) hx hb dX9_isVariable_14 (by decide) ?_
    exact wr_iret hx hb hr (by decide) hK hw ⟨rfl, Or.inl rfl, fun z => absurd nI_0 z, fun z => absurd z (nB_1 q1 (by decide))⟩ hlocks dX9_isVariable_15
  · skip
    refine lv_iload_n hx hb dX9_isVariable_4 rfl (lv_at hl 0 rfl) ?_
    refine lv_bipush (v := nI 6) hx hb dX9_isVariable_5 (by decide) ?_
    refine lv_icmp_ge (tgt := 14) hx hb dX9_isVariable_7 (by decide) (fun q2 => ?_) (fun q2 => ?_)
    · skip
      refine lv_iconst (v := nI 0) hx hb dX9_isVariable_14 (by decide) ?_
      exact wr_iret hx hb hr (by decide) hK hw ⟨rfl, Or.inl rfl, fun z => absurd nI_0 z, fun z => absurd z (nB_2 (fun z => nle_lt z q2) (by decide))⟩ hlocks dX9_isVariable_15
    · skip
      refine lv_iconst (v := nI 1) hx hb dX9_isVariable_10 (by decide) ?_
      refine lv_goto (tgt := 15) hx hb dX9_isVariable_11 (by decide) ?_
      exact wr_iret hx hb hr (by decide) hK hw ⟨rfl, Or.inr rfl, fun _ => inB_of q1 (lt_nle q2) (by decide), fun _ => by decide⟩ hlocks dX9_isVariable_15
set_option maxHeartbeats 4000000 in
set_option maxRecDepth 100000 in
theorem k_X9_isRange (l : Launch) (D : va_G) (ad : Nat → Nat) (cs : Nat → ClassId) (sz : Nat) (M : wM) (J : wJ) (lo : Int32) (up : Int32)  : wCi l yX9_isRange wsX9_isRange { frames := 0, cells := 0, slots := 0, locals := 0 } D 23 mSh ad cs [.int lo, .int up] sz M J (fun r_ u_ => u_ = (M, J) ∧ bz r_ ∧ (¬ r_ = 0 ↔ isRg lo up)) := by
  refine wC_i (cc := cX9_isRange) (maxL := 2) (ret := (some .boolean)) (by decide) rfl (Nat.le_of_ble_eq_true rfl) ?_
  intro p e s m below meth c ls A hx hb hr hml hown hts hlocks hK hA hw hl hAe
  clear hAe
  have hl : lv_has ls 2 [(0, .int lo), (1, .int up)] := hl
  have k90 : (Cond.constant RX9 90 (-1000000000)).before _ s = true := hts _ (by decide +kernel)
  have k91 : (Cond.constant RX9 91 (1000000000)).before _ s = true := hts _ (by decide +kernel)
  refine lv_iload_n hx hb dX9_isRange_0 rfl (lv_at hl 0 rfl) ?_
  refine lv_ldc hx hb hown k90 dX9_isRange_1 ?_
  refine lv_icmp_lt (tgt := 21) hx hb dX9_isRange_3 (by decide) (fun q1 => ?_) (fun q1 => ?_)
  · skip
    refine lv_iconst (v := nI 0) hx hb dX9_isRange_21 (by decide) ?_
    exact wr_iret hx hb hr (by decide) hK hw ⟨rfl, Or.inl rfl, fun z => absurd nI_0 z, fun z => (z.1 q1).elim⟩ hlocks dX9_isRange_22
  · skip
    refine lv_iload_n hx hb dX9_isRange_6 rfl (lv_at hl 1 rfl) ?_
    refine lv_ldc hx hb hown k91 dX9_isRange_7 ?_
    refine lv_icmp_gt (tgt := 21) hx hb dX9_isRange_9 (by decide) (fun q2 => ?_) (fun q2 => ?_)
    · skip
      refine lv_iconst (v := nI 0) hx hb dX9_isRange_21 (by decide) ?_
      exact wr_iret hx hb hr (by decide) hK hw ⟨rfl, Or.inl rfl, fun z => absurd nI_0 z, fun z => (z.2.1 q2).elim⟩ hlocks dX9_isRange_22
    · skip
      refine lv_iload_n hx hb dX9_isRange_12 rfl (lv_at hl 0 rfl) ?_
      refine lv_iload_n hx hb dX9_isRange_13 rfl (lv_at hl 1 rfl) ?_
      refine lv_icmp_gt (tgt := 21) hx hb dX9_isRange_14 (by decide) (fun q3 => ?_) (fun q3 => ?_)
      · skip
        refine lv_iconst (v := nI 0) hx hb dX9_isRange_21 (by decide) ?_
        exact wr_iret hx hb hr (by decide) hK hw ⟨rfl, Or.inl rfl, fun z => absurd nI_0 z, fun z => (nle_lt2 z.2.2 q3).elim⟩ hlocks dX9_isRange_22
      · skip
        refine lv_iconst (v := nI 1) hx hb dX9_isRange_17 (by decide) ?_
        refine lv_goto (tgt := 22) hx hb dX9_isRange_18 (by decide) ?_
        exact wr_iret hx hb hr (by decide) hK hw ⟨rfl, Or.inr rfl, fun _ => ⟨q1, q2, nlt_le q3⟩, fun _ => by decide⟩ hlocks dX9_isRange_22
set_option maxHeartbeats 4000000 in
set_option maxRecDepth 100000 in
theorem k_X9_addBlock (l : Launch) (D : va_G) (ad : Nat → Nat) (cs : Nat → ClassId) (sz : Nat) (M : wM) (J : wJ) (cnt : Nat) (hn : M 0 1 = nI cnt) (hn16 : cnt ≤ 16) : wCi l yX9_addBlock wsX9_addBlock { frames := 1, cells := 0, slots := 0, locals := 21 } D 23 mSh ad cs [.ref (ad 0)] sz M J (fun r_ u_ => (cnt < 16 ∧ u_ = (wU (wU (wU (wU (wU M 0 0 (nI 0)) 1 cnt (nI 0)) 3 cnt (nI 0)) 0 1 (nI (cnt + 1))) 0 16 (nI 0), J) ∧ r_ = nI cnt) ∨ (¬ cnt < 16 ∧ u_ = ((wU (wU M 0 0 (nI 0)) 0 0 (nI 1)), J) ∧ r_ = nI 0)) := by
  refine wC_i (cc := cX9_addBlock) (maxL := 1) (ret := (some .int)) (by decide) rfl (Nat.le_of_ble_eq_true rfl) ?_
  intro p e s m below meth c ls A hx hb hr hml hown hts hlocks hK hA hw hl hAe
  clear hAe
  have hl : lv_has ls 1 [(0, .ref (ad 0))] := hl
  have f87 : (Cond.fieldLink RX9 87 "RangePropagatorModel" "thrown" "I").before _ s = true := hts _ (by decide +kernel)
  have iX9 : ∀ w ∈ wsX90, w ∈ wsX9_addBlock := by decide +kernel
  have f7 : (Cond.fieldLink RX9 7 "RangePropagatorModel" "blocks" "I").before _ s = true := hts _ (by decide +kernel)
  have f13 : (Cond.fieldLink RX9 13 "RangePropagatorModel" "sizes" "[I").before _ s = true := hts _ (by decide +kernel)
  have f20 : (Cond.fieldLink RX9 20 "RangePropagatorModel" "edges" "[I").before _ s = true := hts _ (by decide +kernel)
  have f96 : (Cond.fieldLink RX9 96 "RangePropagatorModel" "isMade" "Z").before _ s = true := hts _ (by decide +kernel)
  refine lv_aload_n hx hb dX9_addBlock_0 rfl (lv_at hl 0 rfl) ?_
  refine lv_iconst (v := nI 0) hx hb dX9_addBlock_1 (by decide) ?_
  refine wr_pi hx hb hown hK hts iX9 tyX9_ok nmX9 (ci := 8) rfl 0 (by decide) f87 rfl rfl hw 0 (by omega) rfl rfl rfl rfl dX9_addBlock_2 (fun H locs hw => ?_)
  refine lv_aload_n hx hb dX9_addBlock_5 rfl (lv_at hl 0 rfl) ?_
  refine wr_gi hx hb hown hK hts iX9 (ci := 8) rfl 1 (by decide) f7 rfl hw 0 (by omega) rfl rfl dX9_addBlock_6 ?_
  rw [show (wU M 0 0 (nI 0)) 0 1 = nI cnt from (by simp only [wU_at]; simpa using hn)]
  refine lv_bipush (v := nI 16) hx hb dX9_addBlock_9 (by decide) ?_
  refine lv_icmp_ne (tgt := 20) hx hb dX9_addBlock_11 (by decide) (fun q1 => ?_) (fun q1 => ?_)
  · have q1n : ¬ cnt = 16 := fun z => q1 ((nI_eq (by omega) (by omega)).mpr z)
    refine lv_aload_n hx hb dX9_addBlock_20 rfl (lv_at hl 0 rfl) ?_
    refine wr_gr hx hb hown hK hts iX9 (ci := 8) rfl 2 (by decide) f13 rfl hw 0 (by omega) 1 rfl rfl dX9_addBlock_21 ?_
    refine lv_aload_n hx hb dX9_addBlock_24 rfl (lv_at hl 0 rfl) ?_
    refine wr_gi hx hb hown hK hts iX9 (ci := 8) rfl 1 (by decide) f7 rfl hw 0 (by omega) rfl rfl dX9_addBlock_25 ?_
    rw [show (wU M 0 0 (nI 0)) 0 1 = nI cnt from (by simp only [wU_at]; simpa using hn)]
    refine lv_iconst (v := nI 0) hx hb dX9_addBlock_28 (by decide) ?_
    refine wr_istN hx hb hK hw 1 (by omega) rfl (by decide) cnt rfl (by omega) dX9_addBlock_29 (fun H locs hw => ?_)
    refine lv_aload_n hx hb dX9_addBlock_30 rfl (lv_at hl 0 rfl) ?_
    refine wr_gr hx hb hown hK hts iX9 (ci := 8) rfl 4 (by decide) f20 rfl hw 0 (by omega) 3 rfl rfl dX9_addBlock_31 ?_
    refine lv_aload_n hx hb dX9_addBlock_34 rfl (lv_at hl 0 rfl) ?_
    refine wr_gi hx hb hown hK hts iX9 (ci := 8) rfl 1 (by decide) f7 rfl hw 0 (by omega) rfl rfl dX9_addBlock_35 ?_
    rw [show (wU (wU M 0 0 (nI 0)) 1 cnt (nI 0)) 0 1 = nI cnt from (by simp only [wU_at]; simpa using hn)]
    refine lv_iconst (v := nI 0) hx hb dX9_addBlock_38 (by decide) ?_
    refine wr_istN hx hb hK hw 3 (by omega) rfl (by decide) cnt rfl (by omega) dX9_addBlock_39 (fun H locs hw => ?_)
    refine lv_aload_n hx hb dX9_addBlock_40 rfl (lv_at hl 0 rfl) ?_
    refine lv_dup hx hb dX9_addBlock_41 rfl ?_
    refine wr_gi hx hb hown hK hts iX9 (ci := 8) rfl 1 (by decide) f7 rfl hw 0 (by omega) rfl rfl dX9_addBlock_42 ?_
    rw [show (wU (wU (wU M 0 0 (nI 0)) 1 cnt (nI 0)) 3 cnt (nI 0)) 0 1 = nI cnt from (by simp only [wU_at]; simpa using hn)]
    refine lv_iconst (v := nI 1) hx hb dX9_addBlock_45 (by decide) ?_
    refine lv_iaddN hx hb dX9_addBlock_46 ?_
    refine wr_pi hx hb hown hK hts iX9 tyX9_ok nmX9 (ci := 8) rfl 1 (by decide) f7 rfl rfl hw 0 (by omega) rfl rfl rfl rfl dX9_addBlock_47 (fun H locs hw => ?_)
    refine lv_aload_n hx hb dX9_addBlock_50 rfl (lv_at hl 0 rfl) ?_
    refine lv_iconst (v := nI 0) hx hb dX9_addBlock_51 (by decide) ?_
    refine wr_pi hx hb hown hK hts iX9 tyX9_ok nmX9 (ci := 8) rfl 16 (by decide) f96 rfl rfl hw 0 (by omega) rfl rfl (by decide) (by decide) dX9_addBlock_52 (fun H locs hw => ?_)
    refine lv_aload_n hx hb dX9_addBlock_55 rfl (lv_at hl 0 rfl) ?_
    refine wr_gi hx hb hown hK hts iX9 (ci := 8) rfl 1 (by decide) f7 rfl hw 0 (by omega) rfl rfl dX9_addBlock_56 ?_
    rw [show (wU (wU (wU (wU (wU M 0 0 (nI 0)) 1 cnt (nI 0)) 3 cnt (nI 0)) 0 1 (nI (cnt + 1))) 0 16 (nI 0)) 0 1 = nI (cnt + 1) from (by rw [wU_at, if_neg (by decide), wU_at, if_pos ⟨rfl, rfl⟩])]
    refine lv_iconst (v := nI 1) hx hb dX9_addBlock_59 (by decide) ?_
    refine lv_isub hx hb dX9_addBlock_60 ?_
    exact wr_iret hx hb hr rfl hK hw (Or.inl ⟨by omega, rfl, nI_pred cnt⟩) hlocks dX9_addBlock_61
  · have q1n : cnt = 16 := (nI_eq (by omega) (by omega)).mp q1
    refine lv_aload_n hx hb dX9_addBlock_14 rfl (lv_at hl 0 rfl) ?_
    refine lv_iconst (v := nI 1) hx hb dX9_addBlock_15 (by decide) ?_
    refine wr_cVi (k := 0) (ci := 8) (As := [.int (nI 1)]) (rest := []) ⟨hx, hb, hml, hown, hts⟩ (cwV 1 hts gX9_addBlock_X9_fail rfl rfl rfl (by decide +kernel) ⟨Nat.le_of_ble_eq_true rfl, Nat.le_of_ble_eq_true rfl⟩) hK hA hw (k_X9_fail l D ad cs H.size (wU M 0 0 (nI 0)) J (nI 1) ) (by omega) rfl rfl rfl rfl hl.1 (Nat.le_of_ble_eq_true rfl) ⟨Nat.le_of_ble_eq_true rfl, Nat.le_of_ble_eq_true rfl⟩ dX9_addBlock_16 (fun r2 M3 J4 H locs h5 hw => ?_)
    obtain ⟨h5, rfl⟩ := h5
    cases h5
    exact wr_iret hx hb hr rfl hK hw (Or.inr ⟨by omega, rfl, rfl⟩) hlocks dX9_addBlock_19
set_option maxHeartbeats 4000000 in
set_option maxRecDepth 100000 in
theorem k_X9_setInitial (l : Launch) (D : va_G) (ad : Nat → Nat) (cs : Nat → ClassId) (sz : Nat) (M : wM) (J : wJ) (v : Int32) (lo : Int32) (up : Int32)  : wCi l yX9_setInitial wsX9_setInitial { frames := 1, cells := 0, slots := 0, locals := 21 } D 23 mSh ad cs [.ref (ad 0), .int v, .int lo, .int up] sz M J (fun r_ u_ => (inB v 6 ∧ isRg lo up ∧ u_ = (wU (wU (wU (wU M 0 0 (nI 0)) 9 (tn v) lo) 10 (tn v) up) 0 16 (nI 0), J) ∧ r_ = (if M 9 (tn v) = lo ∧ M 10 (tn v) = up then nI 0 else nI 1)) ∨ (¬ inB v 6 ∧ u_ = ((wU (wU M 0 0 (nI 0)) 0 0 (nI 1)), J) ∧ r_ = nI 0) ∨ (inB v 6 ∧ ¬ isRg lo up ∧ u_ = ((wU (wU M 0 0 (nI 0)) 0 0 (nI 2)), J) ∧ r_ = nI 0)) := by
  refine wC_i (cc := cX9_setInitial) (maxL := 5) (ret := (some .boolean)) (by decide) rfl (Nat.le_of_ble_eq_true rfl) ?_
  intro p e s m below meth c ls A hx hb hr hml hown hts hlocks hK hA hw hl hAe
  clear hAe
  have hl : lv_has ls 5 [(0, .ref (ad 0)), (1, .int v), (2, .int lo), (3, .int up)] := hl
  have f87 : (Cond.fieldLink RX9 87 "RangePropagatorModel" "thrown" "I").before _ s = true := hts _ (by decide +kernel)
  have iX9 : ∀ w ∈ wsX90, w ∈ wsX9_setInitial := by decide +kernel
  have f38 : (Cond.fieldLink RX9 38 "RangePropagatorModel" "firstLows" "[I").before _ s = true := hts _ (by decide +kernel)
  have f41 : (Cond.fieldLink RX9 41 "RangePropagatorModel" "firstHighs" "[I").before _ s = true := hts _ (by decide +kernel)
  have f96 : (Cond.fieldLink RX9 96 "RangePropagatorModel" "isMade" "Z").before _ s = true := hts _ (by decide +kernel)
  refine lv_aload_n hx hb dX9_setInitial_0 rfl (lv_at hl 0 rfl) ?_
  refine lv_iconst (v := nI 0) hx hb dX9_setInitial_1 (by decide) ?_
  refine wr_pi hx hb hown hK hts iX9 tyX9_ok nmX9 (ci := 8) rfl 0 (by decide) f87 rfl rfl hw 0 (by omega) rfl rfl rfl rfl dX9_setInitial_2 (fun H locs hw => ?_)
  refine lv_iload_n hx hb dX9_setInitial_5 rfl (lv_at hl 1 rfl) ?_
  refine wr_cSi (As := [.int v]) (rest := []) ⟨hx, hb, hml, hown, hts⟩ (va_cwS 1 hts gX9_setInitial_X9_isVariable rfl rfl rfl (by decide +kernel) ⟨Nat.le_of_ble_eq_true rfl, Nat.le_of_ble_eq_true rfl⟩) hK hA hw (k_X9_isVariable l D ad cs H.size (wU M 0 0 (nI 0)) J v ) rfl rfl hl.1 (Nat.le_of_ble_eq_true rfl) ⟨Nat.le_of_ble_eq_true rfl, Nat.le_of_ble_eq_true rfl⟩ dX9_setInitial_6 (fun r1 M2 J3 H locs h4 hw => ?_)
  obtain ⟨h4u, h4z, h4i⟩ := h4
  cases h4u
  refine lv_if_ne (tgt := 26) hx hb dX9_setInitial_9 (by decide) (fun q5 => ?_) (fun q5 => ?_)
  · obtain ⟨v_n, v_h, rfl⟩ := h4i.mp q5
    refine lv_iload_n hx hb dX9_setInitial_26 rfl (lv_at hl 2 rfl) ?_
    refine lv_iload_n hx hb dX9_setInitial_27 rfl (lv_at hl 3 rfl) ?_
    refine wr_cSi (As := [.int lo, .int up]) (rest := []) ⟨hx, hb, hml, hown, hts⟩ (va_cwS 2 hts gX9_setInitial_X9_isRange rfl rfl rfl (by decide +kernel) ⟨Nat.le_of_ble_eq_true rfl, Nat.le_of_ble_eq_true rfl⟩) hK hA hw (k_X9_isRange l D ad cs H.size (wU M 0 0 (nI 0)) J lo up ) rfl rfl hl.1 (Nat.le_of_ble_eq_true rfl) ⟨Nat.le_of_ble_eq_true rfl, Nat.le_of_ble_eq_true rfl⟩ dX9_setInitial_28 (fun r6 M7 J8 H locs h9 hw => ?_)
    obtain ⟨h9u, h9z, h9i⟩ := h9
    cases h9u
    refine lv_if_ne (tgt := 48) hx hb dX9_setInitial_31 (by decide) (fun q10 => ?_) (fun q10 => ?_)
    · have rg_y := h9i.mp q10
      refine lv_aload_n hx hb dX9_setInitial_48 rfl (lv_at hl 0 rfl) ?_
      refine wr_gr hx hb hown hK hts iX9 (ci := 8) rfl 10 (by decide) f38 rfl hw 0 (by omega) 9 rfl rfl dX9_setInitial_49 ?_
      refine lv_iload_n hx hb dX9_setInitial_52 rfl (lv_at hl 1 rfl) ?_
      refine wr_ildN hx hb hK hw 9 (by omega) rfl (by decide) v_n rfl (by omega) dX9_setInitial_53 ?_
      rw [show (wU M 0 0 (nI 0)) 9 v_n = M 9 v_n from (congrFun (wU_ne (by decide)) v_n)]
      refine lv_iload_n hx hb dX9_setInitial_54 rfl (lv_at hl 2 rfl) ?_
      refine lv_icmp_ne (tgt := 68) hx hb dX9_setInitial_55 (by decide) (fun q11 => ?_) (fun q11 => ?_)
      · skip
        refine lv_iconst (v := nI 1) hx hb dX9_setInitial_68 (by decide) ?_
        refine lv_goto (tgt := 73) hx hb dX9_setInitial_69 (by decide) ?_
        refine lv_istore (lv' := [(4, .int (nI 1)), (0, .ref (ad 0)), (1, .int (nI v_n)), (2, .int lo), (3, .int up)]) hx hb dX9_setInitial_73 hl (by decide) rfl (fun ls hl => ?_)
        refine lv_aload_n hx hb dX9_setInitial_75 rfl (lv_at hl 1 rfl) ?_
        refine wr_gr hx hb hown hK hts iX9 (ci := 8) rfl 10 (by decide) f38 rfl hw 0 (by omega) 9 rfl rfl dX9_setInitial_76 ?_
        refine lv_iload_n hx hb dX9_setInitial_79 rfl (lv_at hl 2 rfl) ?_
        refine lv_iload_n hx hb dX9_setInitial_80 rfl (lv_at hl 3 rfl) ?_
        refine wr_istN hx hb hK hw 9 (by omega) rfl (by decide) v_n rfl (by omega) dX9_setInitial_81 (fun H locs hw => ?_)
        refine lv_aload_n hx hb dX9_setInitial_82 rfl (lv_at hl 1 rfl) ?_
        refine wr_gr hx hb hown hK hts iX9 (ci := 8) rfl 11 (by decide) f41 rfl hw 0 (by omega) 10 rfl rfl dX9_setInitial_83 ?_
        refine lv_iload_n hx hb dX9_setInitial_86 rfl (lv_at hl 2 rfl) ?_
        refine lv_iload_n hx hb dX9_setInitial_87 rfl (lv_at hl 4 rfl) ?_
        refine wr_istN hx hb hK hw 10 (by omega) rfl (by decide) v_n rfl (by omega) dX9_setInitial_88 (fun H locs hw => ?_)
        refine lv_aload_n hx hb dX9_setInitial_89 rfl (lv_at hl 1 rfl) ?_
        refine lv_iconst (v := nI 0) hx hb dX9_setInitial_90 (by decide) ?_
        refine wr_pi hx hb hown hK hts iX9 tyX9_ok nmX9 (ci := 8) rfl 16 (by decide) f96 rfl rfl hw 0 (by omega) rfl rfl (by decide) (by decide) dX9_setInitial_91 (fun H locs hw => ?_)
        refine lv_iload hx hb dX9_setInitial_94 (lv_at hl 0 rfl) ?_
        exact wr_iret hx hb hr (by decide) hK hw (Or.inl ⟨⟨v_n, v_h, rfl⟩, rg_y, (by rw [tn_nI (by omega)]), (by rw [tn_nI (by omega)]; rw [if_neg (fun z => q11 z.1)])⟩) hlocks dX9_setInitial_96
      · skip
        refine lv_aload_n hx hb dX9_setInitial_58 rfl (lv_at hl 0 rfl) ?_
        refine wr_gr hx hb hown hK hts iX9 (ci := 8) rfl 11 (by decide) f41 rfl hw 0 (by omega) 10 rfl rfl dX9_setInitial_59 ?_
        refine lv_iload_n hx hb dX9_setInitial_62 rfl (lv_at hl 1 rfl) ?_
        refine wr_ildN hx hb hK hw 10 (by omega) rfl (by decide) v_n rfl (by omega) dX9_setInitial_63 ?_
        rw [show (wU M 0 0 (nI 0)) 10 v_n = M 10 v_n from (congrFun (wU_ne (by decide)) v_n)]
        refine lv_iload_n hx hb dX9_setInitial_64 rfl (lv_at hl 3 rfl) ?_
        refine lv_icmp_eq (tgt := 72) hx hb dX9_setInitial_65 (by decide) (fun q12 => ?_) (fun q12 => ?_)
        · skip
          refine lv_iconst (v := nI 0) hx hb dX9_setInitial_72 (by decide) ?_
          refine lv_istore (lv' := [(4, .int (nI 0)), (0, .ref (ad 0)), (1, .int (nI v_n)), (2, .int lo), (3, .int up)]) hx hb dX9_setInitial_73 hl (by decide) rfl (fun ls hl => ?_)
          refine lv_aload_n hx hb dX9_setInitial_75 rfl (lv_at hl 1 rfl) ?_
          refine wr_gr hx hb hown hK hts iX9 (ci := 8) rfl 10 (by decide) f38 rfl hw 0 (by omega) 9 rfl rfl dX9_setInitial_76 ?_
          refine lv_iload_n hx hb dX9_setInitial_79 rfl (lv_at hl 2 rfl) ?_
          refine lv_iload_n hx hb dX9_setInitial_80 rfl (lv_at hl 3 rfl) ?_
          refine wr_istN hx hb hK hw 9 (by omega) rfl (by decide) v_n rfl (by omega) dX9_setInitial_81 (fun H locs hw => ?_)
          refine lv_aload_n hx hb dX9_setInitial_82 rfl (lv_at hl 1 rfl) ?_
          refine wr_gr hx hb hown hK hts iX9 (ci := 8) rfl 11 (by decide) f41 rfl hw 0 (by omega) 10 rfl rfl dX9_setInitial_83 ?_
          refine lv_iload_n hx hb dX9_setInitial_86 rfl (lv_at hl 2 rfl) ?_
          refine lv_iload_n hx hb dX9_setInitial_87 rfl (lv_at hl 4 rfl) ?_
          refine wr_istN hx hb hK hw 10 (by omega) rfl (by decide) v_n rfl (by omega) dX9_setInitial_88 (fun H locs hw => ?_)
          refine lv_aload_n hx hb dX9_setInitial_89 rfl (lv_at hl 1 rfl) ?_
          refine lv_iconst (v := nI 0) hx hb dX9_setInitial_90 (by decide) ?_
          refine wr_pi hx hb hown hK hts iX9 tyX9_ok nmX9 (ci := 8) rfl 16 (by decide) f96 rfl rfl hw 0 (by omega) rfl rfl (by decide) (by decide) dX9_setInitial_91 (fun H locs hw => ?_)
          refine lv_iload hx hb dX9_setInitial_94 (lv_at hl 0 rfl) ?_
          exact wr_iret hx hb hr (by decide) hK hw (Or.inl ⟨⟨v_n, v_h, rfl⟩, rg_y, (by rw [tn_nI (by omega)]), (by rw [tn_nI (by omega)]; rw [if_pos ⟨q11, q12⟩])⟩) hlocks dX9_setInitial_96
        · skip
          refine lv_iconst (v := nI 1) hx hb dX9_setInitial_68 (by decide) ?_
          refine lv_goto (tgt := 73) hx hb dX9_setInitial_69 (by decide) ?_
          refine lv_istore (lv' := [(4, .int (nI 1)), (0, .ref (ad 0)), (1, .int (nI v_n)), (2, .int lo), (3, .int up)]) hx hb dX9_setInitial_73 hl (by decide) rfl (fun ls hl => ?_)
          refine lv_aload_n hx hb dX9_setInitial_75 rfl (lv_at hl 1 rfl) ?_
          refine wr_gr hx hb hown hK hts iX9 (ci := 8) rfl 10 (by decide) f38 rfl hw 0 (by omega) 9 rfl rfl dX9_setInitial_76 ?_
          refine lv_iload_n hx hb dX9_setInitial_79 rfl (lv_at hl 2 rfl) ?_
          refine lv_iload_n hx hb dX9_setInitial_80 rfl (lv_at hl 3 rfl) ?_
          refine wr_istN hx hb hK hw 9 (by omega) rfl (by decide) v_n rfl (by omega) dX9_setInitial_81 (fun H locs hw => ?_)
          refine lv_aload_n hx hb dX9_setInitial_82 rfl (lv_at hl 1 rfl) ?_
          refine wr_gr hx hb hown hK hts iX9 (ci := 8) rfl 11 (by decide) f41 rfl hw 0 (by omega) 10 rfl rfl dX9_setInitial_83 ?_
          refine lv_iload_n hx hb dX9_setInitial_86 rfl (lv_at hl 2 rfl) ?_
          refine lv_iload_n hx hb dX9_setInitial_87 rfl (lv_at hl 4 rfl) ?_
          refine wr_istN hx hb hK hw 10 (by omega) rfl (by decide) v_n rfl (by omega) dX9_setInitial_88 (fun H locs hw => ?_)
          refine lv_aload_n hx hb dX9_setInitial_89 rfl (lv_at hl 1 rfl) ?_
          refine lv_iconst (v := nI 0) hx hb dX9_setInitial_90 (by decide) ?_
          refine wr_pi hx hb hown hK hts iX9 tyX9_ok nmX9 (ci := 8) rfl 16 (by decide) f96 rfl rfl hw 0 (by omega) rfl rfl (by decide) (by decide) dX9_setInitial_91 (fun H locs hw => ?_)
          refine lv_iload hx hb dX9_setInitial_94 (lv_at hl 0 rfl) ?_
          exact wr_iret hx hb hr (by decide) hK hw (Or.inl ⟨⟨v_n, v_h, rfl⟩, rg_y, (by rw [tn_nI (by omega)]), (by rw [tn_nI (by omega)]; rw [if_neg (fun z => q12 z.2)])⟩) hlocks dX9_setInitial_96
    · have rg_no := (fun z => (h9i.mpr z) q10)
      refine lv_aload_n hx hb dX9_setInitial_34 rfl (lv_at hl 0 rfl) ?_
      refine lv_iconst (v := nI 2) hx hb dX9_setInitial_35 (by decide) ?_
      refine wr_cVi (k := 0) (ci := 8) (As := [.int (nI 2)]) (rest := []) ⟨hx, hb, hml, hown, hts⟩ (cwV 1 hts gX9_setInitial_X9_fail rfl rfl rfl (by decide +kernel) ⟨Nat.le_of_ble_eq_true rfl, Nat.le_of_ble_eq_true rfl⟩) hK hA hw (k_X9_fail l D ad cs H.size (wU M 0 0 (nI 0)) J (nI 2) ) (by omega) rfl rfl rfl rfl hl.1 (Nat.le_of_ble_eq_true rfl) ⟨Nat.le_of_ble_eq_true rfl, Nat.le_of_ble_eq_true rfl⟩ dX9_setInitial_36 (fun r13 M14 J15 H locs h16 hw => ?_)
      obtain ⟨h16, rfl⟩ := h16
      cases h16
      refine lv_if_eq (tgt := 46) hx hb dX9_setInitial_39 (by decide) (fun q17 => ?_) (fun q17 => ?_)
      · skip
        refine lv_iconst (v := nI 0) hx hb dX9_setInitial_46 (by decide) ?_
        exact wr_iret hx hb hr (by decide) hK hw (Or.inr (Or.inr ⟨⟨v_n, v_h, rfl⟩, rg_no, rfl, rfl⟩)) hlocks dX9_setInitial_47
      · skip
        exact absurd q17 (by decide)
  · have v_no := (fun z => (h4i.mpr z) q5)
    refine lv_aload_n hx hb dX9_setInitial_12 rfl (lv_at hl 0 rfl) ?_
    refine lv_iconst (v := nI 1) hx hb dX9_setInitial_13 (by decide) ?_
    refine wr_cVi (k := 0) (ci := 8) (As := [.int (nI 1)]) (rest := []) ⟨hx, hb, hml, hown, hts⟩ (cwV 1 hts gX9_setInitial_X9_fail rfl rfl rfl (by decide +kernel) ⟨Nat.le_of_ble_eq_true rfl, Nat.le_of_ble_eq_true rfl⟩) hK hA hw (k_X9_fail l D ad cs H.size (wU M 0 0 (nI 0)) J (nI 1) ) (by omega) rfl rfl rfl rfl hl.1 (Nat.le_of_ble_eq_true rfl) ⟨Nat.le_of_ble_eq_true rfl, Nat.le_of_ble_eq_true rfl⟩ dX9_setInitial_14 (fun r18 M19 J20 H locs h21 hw => ?_)
    obtain ⟨h21, rfl⟩ := h21
    cases h21
    refine lv_if_eq (tgt := 24) hx hb dX9_setInitial_17 (by decide) (fun q22 => ?_) (fun q22 => ?_)
    · skip
      refine lv_iconst (v := nI 0) hx hb dX9_setInitial_24 (by decide) ?_
      exact wr_iret hx hb hr (by decide) hK hw (Or.inr (Or.inl ⟨v_no, rfl, rfl⟩)) hlocks dX9_setInitial_25
    · skip
      exact absurd q22 (by decide)
def F_X9_append (M : wM) (b : Nat) (n : Nat) (k : Int32) (x : Int32) (y : Int32) (z : Int32) : wM := (wU (wU (wU (wU (wU (wU M 2 (4 * ((8 * b) + n)) k) 2 ((4 * ((8 * b) + n)) + 1) x) 2 ((4 * ((8 * b) + n)) + 2) y) 2 ((4 * ((8 * b) + n)) + 3) z) 1 b (nI (n + 1))) 0 16 (nI 0))
def E_X9_append (M : wM) (b : Nat) (n : Nat) (k : Int32) (x : Int32) (y : Int32) (z : Int32) : Int32 := (wU (wU (wU (wU (wU (wU M 2 (4 * ((8 * b) + n)) k) 2 ((4 * ((8 * b) + n)) + 1) x) 2 ((4 * ((8 * b) + n)) + 2) y) 2 ((4 * ((8 * b) + n)) + 3) z) 1 b (nI (n + 1))) 0 16 (nI 0)) 1 b
set_option maxHeartbeats 4000000 in
set_option maxRecDepth 100000 in
theorem k_X9_append (l : Launch) (D : va_G) (ad : Nat → Nat) (cs : Nat → ClassId) (sz : Nat) (M : wM) (J : wJ) (b : Nat) (n : Nat) (k : Int32) (x : Int32) (y : Int32) (z : Int32) (hb16 : b < 16) (hst : M 1 b = nI n) (hst8 : n < 8) : wCi l yX9_append wsX9_append { frames := 0, cells := 0, slots := 0, locals := 0 } D 23 mSh ad cs [.ref (ad 0), .int (nI b), .int k, .int x, .int y, .int z] sz M J (fun r_ u_ => u_ = (F_X9_append M b n k x y z, J) ∧ r_ = E_X9_append M b n k x y z) := by
  refine wC_i (cc := cX9_append) (maxL := 7) (ret := (some .int)) (by decide) rfl (Nat.le_of_ble_eq_true rfl) ?_
  intro p e s m below meth c ls A hx hb hr hml hown hts hlocks hK hA hw hl hAe
  clear hAe
  have hl : lv_has ls 7 [(0, .ref (ad 0)), (1, .int (nI b)), (2, .int k), (3, .int x), (4, .int y), (5, .int z)] := hl
  have f13 : (Cond.fieldLink RX9 13 "RangePropagatorModel" "sizes" "[I").before _ s = true := hts _ (by decide +kernel)
  have iX9 : ∀ w ∈ wsX90, w ∈ wsX9_append := by decide +kernel
  have f17 : (Cond.fieldLink RX9 17 "RangePropagatorModel" "statements" "[I").before _ s = true := hts _ (by decide +kernel)
  have f96 : (Cond.fieldLink RX9 96 "RangePropagatorModel" "isMade" "Z").before _ s = true := hts _ (by decide +kernel)
  refine lv_iconst (v := nI 4) hx hb dX9_append_0 (by decide) ?_
  refine lv_bipush (v := nI 8) hx hb dX9_append_1 (by decide) ?_
  refine lv_iload_n hx hb dX9_append_3 rfl (lv_at hl 1 rfl) ?_
  refine lv_imulN hx hb dX9_append_4 ?_
  refine lv_aload_n hx hb dX9_append_5 rfl (lv_at hl 0 rfl) ?_
  refine wr_gr hx hb hown hK hts iX9 (ci := 8) rfl 2 (by decide) f13 rfl hw 0 (by omega) 1 rfl rfl dX9_append_6 ?_
  refine lv_iload_n hx hb dX9_append_9 rfl (lv_at hl 1 rfl) ?_
  refine wr_ildN hx hb hK hw 1 (by omega) rfl (by decide) b rfl (by omega) dX9_append_10 ?_
  rw [show M 1 b = nI n from hst]
  refine lv_iaddN hx hb dX9_append_11 ?_
  refine lv_imulN hx hb dX9_append_12 ?_
  refine lv_istore (lv' := [(6, .int (nI (4 * ((8 * b) + n)))), (0, .ref (ad 0)), (1, .int (nI b)), (2, .int k), (3, .int x), (4, .int y), (5, .int z)]) hx hb dX9_append_13 hl (by decide) rfl (fun ls hl => ?_)
  refine lv_aload_n hx hb dX9_append_15 rfl (lv_at hl 1 rfl) ?_
  refine wr_gr hx hb hown hK hts iX9 (ci := 8) rfl 3 (by decide) f17 rfl hw 0 (by omega) 2 rfl rfl dX9_append_16 ?_
  refine lv_iload hx hb dX9_append_19 (lv_at hl 0 rfl) ?_
  refine lv_iload_n hx hb dX9_append_21 rfl (lv_at hl 3 rfl) ?_
  refine wr_istN hx hb hK hw 2 (by omega) rfl (by decide) (4 * ((8 * b) + n)) rfl (by omega) dX9_append_22 (fun H locs hw => ?_)
  refine lv_aload_n hx hb dX9_append_23 rfl (lv_at hl 1 rfl) ?_
  refine wr_gr hx hb hown hK hts iX9 (ci := 8) rfl 3 (by decide) f17 rfl hw 0 (by omega) 2 rfl rfl dX9_append_24 ?_
  refine lv_iload hx hb dX9_append_27 (lv_at hl 0 rfl) ?_
  refine lv_iconst (v := nI 1) hx hb dX9_append_29 (by decide) ?_
  refine lv_iaddN hx hb dX9_append_30 ?_
  refine lv_iload_n hx hb dX9_append_31 rfl (lv_at hl 4 rfl) ?_
  refine wr_istN hx hb hK hw 2 (by omega) rfl (by decide) ((4 * ((8 * b) + n)) + 1) rfl (by omega) dX9_append_32 (fun H locs hw => ?_)
  refine lv_aload_n hx hb dX9_append_33 rfl (lv_at hl 1 rfl) ?_
  refine wr_gr hx hb hown hK hts iX9 (ci := 8) rfl 3 (by decide) f17 rfl hw 0 (by omega) 2 rfl rfl dX9_append_34 ?_
  refine lv_iload hx hb dX9_append_37 (lv_at hl 0 rfl) ?_
  refine lv_iconst (v := nI 2) hx hb dX9_append_39 (by decide) ?_
  refine lv_iaddN hx hb dX9_append_40 ?_
  refine lv_iload hx hb dX9_append_41 (lv_at hl 5 rfl) ?_
  refine wr_istN hx hb hK hw 2 (by omega) rfl (by decide) ((4 * ((8 * b) + n)) + 2) rfl (by omega) dX9_append_43 (fun H locs hw => ?_)
  refine lv_aload_n hx hb dX9_append_44 rfl (lv_at hl 1 rfl) ?_
  refine wr_gr hx hb hown hK hts iX9 (ci := 8) rfl 3 (by decide) f17 rfl hw 0 (by omega) 2 rfl rfl dX9_append_45 ?_
  refine lv_iload hx hb dX9_append_48 (lv_at hl 0 rfl) ?_
  refine lv_iconst (v := nI 3) hx hb dX9_append_50 (by decide) ?_
  refine lv_iaddN hx hb dX9_append_51 ?_
  refine lv_iload hx hb dX9_append_52 (lv_at hl 6 rfl) ?_
  refine wr_istN hx hb hK hw 2 (by omega) rfl (by decide) ((4 * ((8 * b) + n)) + 3) rfl (by omega) dX9_append_54 (fun H locs hw => ?_)
  refine lv_aload_n hx hb dX9_append_55 rfl (lv_at hl 1 rfl) ?_
  refine wr_gr hx hb hown hK hts iX9 (ci := 8) rfl 2 (by decide) f13 rfl hw 0 (by omega) 1 rfl rfl dX9_append_56 ?_
  refine lv_iload_n hx hb dX9_append_59 rfl (lv_at hl 2 rfl) ?_
  refine lv_dup2_11 hx hb dX9_append_60 rfl rfl ?_
  refine wr_ildN hx hb hK hw 1 (by omega) rfl (by decide) b rfl (by omega) dX9_append_61 ?_
  rw [show (wU (wU (wU (wU M 2 (4 * ((8 * b) + n)) k) 2 ((4 * ((8 * b) + n)) + 1) x) 2 ((4 * ((8 * b) + n)) + 2) y) 2 ((4 * ((8 * b) + n)) + 3) z) 1 b = nI n from (by simp only [wU_at]; simpa using hst)]
  refine lv_iconst (v := nI 1) hx hb dX9_append_62 (by decide) ?_
  refine lv_iaddN hx hb dX9_append_63 ?_
  refine wr_istN hx hb hK hw 1 (by omega) rfl (by decide) b rfl (by omega) dX9_append_64 (fun H locs hw => ?_)
  refine lv_aload_n hx hb dX9_append_65 rfl (lv_at hl 1 rfl) ?_
  refine lv_iconst (v := nI 0) hx hb dX9_append_66 (by decide) ?_
  refine wr_pi hx hb hown hK hts iX9 tyX9_ok nmX9 (ci := 8) rfl 16 (by decide) f96 rfl rfl hw 0 (by omega) rfl rfl (by decide) (by decide) dX9_append_67 (fun H locs hw => ?_)
  refine lv_aload_n hx hb dX9_append_70 rfl (lv_at hl 1 rfl) ?_
  refine wr_gr hx hb hown hK hts iX9 (ci := 8) rfl 2 (by decide) f13 rfl hw 0 (by omega) 1 rfl rfl dX9_append_71 ?_
  refine lv_iload_n hx hb dX9_append_74 rfl (lv_at hl 2 rfl) ?_
  refine wr_ildN hx hb hK hw 1 (by omega) rfl (by decide) b rfl (by omega) dX9_append_75 ?_
  exact wr_iret hx hb hr rfl hK hw ⟨(by show (_, _) = (_, _); unfold F_X9_append; rfl), (by unfold E_X9_append; rfl)⟩ hlocks dX9_append_76
def F_X9_end (M : wM) (b : Nat) (ne : Int32) (a : Int32) (d : Int32) : wM := (wU (wU (wU (wU M 3 b ne) 4 b a) 5 b d) 0 16 (nI 0))
def E_X9_end (M : wM) (b : Nat) (ne : Int32) (a : Int32) (d : Int32) : Int32 := M 3 b
set_option maxHeartbeats 4000000 in
set_option maxRecDepth 100000 in
theorem k_X9_end (l : Launch) (D : va_G) (ad : Nat → Nat) (cs : Nat → ClassId) (sz : Nat) (M : wM) (J : wJ) (b : Nat) (ne : Int32) (a : Int32) (d : Int32) (hb16 : b < 16) : wCi l yX9_end wsX9_end { frames := 0, cells := 0, slots := 0, locals := 0 } D 23 mSh ad cs [.ref (ad 0), .int (nI b), .int ne, .int a, .int d] sz M J (fun r_ u_ => u_ = (F_X9_end M b ne a d, J) ∧ r_ = E_X9_end M b ne a d) := by
  refine wC_i (cc := cX9_end) (maxL := 6) (ret := (some .int)) (by decide) rfl (Nat.le_of_ble_eq_true rfl) ?_
  intro p e s m below meth c ls A hx hb hr hml hown hts hlocks hK hA hw hl hAe
  clear hAe
  have hl : lv_has ls 6 [(0, .ref (ad 0)), (1, .int (nI b)), (2, .int ne), (3, .int a), (4, .int d)] := hl
  have f20 : (Cond.fieldLink RX9 20 "RangePropagatorModel" "edges" "[I").before _ s = true := hts _ (by decide +kernel)
  have iX9 : ∀ w ∈ wsX90, w ∈ wsX9_end := by decide +kernel
  have f23 : (Cond.fieldLink RX9 23 "RangePropagatorModel" "ups" "[I").before _ s = true := hts _ (by decide +kernel)
  have f26 : (Cond.fieldLink RX9 26 "RangePropagatorModel" "downs" "[I").before _ s = true := hts _ (by decide +kernel)
  have f96 : (Cond.fieldLink RX9 96 "RangePropagatorModel" "isMade" "Z").before _ s = true := hts _ (by decide +kernel)
  refine lv_aload_n hx hb dX9_end_0 rfl (lv_at hl 0 rfl) ?_
  refine wr_gr hx hb hown hK hts iX9 (ci := 8) rfl 4 (by decide) f20 rfl hw 0 (by omega) 3 rfl rfl dX9_end_1 ?_
  refine lv_iload_n hx hb dX9_end_4 rfl (lv_at hl 1 rfl) ?_
  refine wr_ildN hx hb hK hw 3 (by omega) rfl (by decide) b rfl (by omega) dX9_end_5 ?_
  refine lv_istore (lv' := [(5, .int (M 3 b)), (0, .ref (ad 0)), (1, .int (nI b)), (2, .int ne), (3, .int a), (4, .int d)]) hx hb dX9_end_6 hl (by decide) rfl (fun ls hl => ?_)
  refine lv_aload_n hx hb dX9_end_8 rfl (lv_at hl 1 rfl) ?_
  refine wr_gr hx hb hown hK hts iX9 (ci := 8) rfl 4 (by decide) f20 rfl hw 0 (by omega) 3 rfl rfl dX9_end_9 ?_
  refine lv_iload_n hx hb dX9_end_12 rfl (lv_at hl 2 rfl) ?_
  refine lv_iload_n hx hb dX9_end_13 rfl (lv_at hl 3 rfl) ?_
  refine wr_istN hx hb hK hw 3 (by omega) rfl (by decide) b rfl (by omega) dX9_end_14 (fun H locs hw => ?_)
  refine lv_aload_n hx hb dX9_end_15 rfl (lv_at hl 1 rfl) ?_
  refine wr_gr hx hb hown hK hts iX9 (ci := 8) rfl 5 (by decide) f23 rfl hw 0 (by omega) 4 rfl rfl dX9_end_16 ?_
  refine lv_iload_n hx hb dX9_end_19 rfl (lv_at hl 2 rfl) ?_
  refine lv_iload_n hx hb dX9_end_20 rfl (lv_at hl 4 rfl) ?_
  refine wr_istN hx hb hK hw 4 (by omega) rfl (by decide) b rfl (by omega) dX9_end_21 (fun H locs hw => ?_)
  refine lv_aload_n hx hb dX9_end_22 rfl (lv_at hl 1 rfl) ?_
  refine wr_gr hx hb hown hK hts iX9 (ci := 8) rfl 6 (by decide) f26 rfl hw 0 (by omega) 5 rfl rfl dX9_end_23 ?_
  refine lv_iload_n hx hb dX9_end_26 rfl (lv_at hl 2 rfl) ?_
  refine lv_iload hx hb dX9_end_27 (lv_at hl 5 rfl) ?_
  refine wr_istN hx hb hK hw 5 (by omega) rfl (by decide) b rfl (by omega) dX9_end_29 (fun H locs hw => ?_)
  refine lv_aload_n hx hb dX9_end_30 rfl (lv_at hl 1 rfl) ?_
  refine lv_iconst (v := nI 0) hx hb dX9_end_31 (by decide) ?_
  refine wr_pi hx hb hown hK hts iX9 tyX9_ok nmX9 (ci := 8) rfl 16 (by decide) f96 rfl rfl hw 0 (by omega) rfl rfl (by decide) (by decide) dX9_end_32 (fun H locs hw => ?_)
  refine lv_iload hx hb dX9_end_35 (lv_at hl 0 rfl) ?_
  exact wr_iret hx hb hr rfl hK hw ⟨(by show (_, _) = (_, _); unfold F_X9_end; rfl), (by unfold E_X9_end; rfl)⟩ hlocks dX9_end_37
