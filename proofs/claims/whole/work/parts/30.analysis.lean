/-! Flow.makeAnew, Analysis: laid by wip/gen/specs6.py -/
set_option maxHeartbeats 4000000 in
set_option maxRecDepth 100000 in
theorem k_X4_makeAnew (l : Launch) (D : va_G) (ad : Nat → Nat) (cs : Nat → ClassId) (sz : Nat) (M : wM) (J : wJ) (b : Nat) (hb16 : b < 16) (zn : bz (M (3 * (3 + 4 * b)) 0)) (ze : ∀ e1, e1 < 2 → bz (M (3 * (5 + 4 * b + e1)) 0)) (hB : blOK M b) (hE : edOK M b) : wCv l yX4_makeAnew wsX4_makeAnew { frames := 4, cells := 0, slots := 0, locals := 105 } D 340 cSh ad cs [.ref (ad (297 + 2 * b)), .ref (ad (201 + 6 * b))] sz M J (pMk M J b) := by
  refine wC_v (cc := cX4_makeAnew) (maxL := 3) (ret := none) (by decide) rfl (Nat.le_of_ble_eq_true rfl) ?_
  intro p e s m below meth c ls A hx hb hr hml hown hts hlocks hK hA hw hl hAe
  clear hAe
  have hl : lv_has ls 3 [(0, .ref (ad (297 + 2 * b))), (1, .ref (ad (201 + 6 * b)))] := hl
  have f18 : (Cond.fieldLink RX4 18 "RangePropagator$Flow" "exitState" "LRangePropagator$State;").before _ s = true := hts _ (by decide +kernel)
  have iX4 : ∀ w ∈ wsX40, w ∈ wsX4_makeAnew := by decide +kernel
  have f12 : (Cond.fieldLink RX4 12 "RangePropagator$Flow" "entryState" "LRangePropagator$State;").before _ s = true := hts _ (by decide +kernel)
  have f42 : (Cond.fieldLink RX4 42 "RangePropagator$Block" "edgeCount" "I").before _ s = true := hts _ (by decide +kernel)
  have iX2 : ∀ w ∈ wsX20, w ∈ wsX4_makeAnew := by decide +kernel
  have f21 : (Cond.fieldLink RX4 21 "RangePropagator$Flow" "edgeStates" "[LRangePropagator$State;").before _ s = true := hts _ (by decide +kernel)
  have hE2 : tn (M (201 + 6 * b) 5) ≤ 2 := hE.2.1
  refine lv_aload_n hx hb dX4_makeAnew_0 rfl (lv_at hl 0 rfl) ?_
  refine wr_gr hx hb hown hK hts iX4 (ci := 3) rfl 1 (by decide) f18 rfl hw (297 + 2 * b) (by omega) (3 * (4 + 4 * b)) (cs_F (by omega)) rfl dX4_makeAnew_1 ?_
  refine lv_aload_n hx hb dX4_makeAnew_4 rfl (lv_at hl 0 rfl) ?_
  refine wr_gr hx hb hown hK hts iX4 (ci := 3) rfl 0 (by decide) f12 rfl hw (297 + 2 * b) (by omega) (3 * (3 + 4 * b)) (cs_F (by omega)) rfl dX4_makeAnew_5 ?_
  refine wr_cVv (k := 3 * (4 + 4 * b)) (ci := 6) (As := [.ref (ad (3 * (3 + 4 * b)))]) (rest := []) ⟨hx, hb, hml, hown, hts⟩ (cwV 1 hts gX4_makeAnew_X7_become rfl rfl rfl (by decide +kernel) ⟨Nat.le_of_ble_eq_true rfl, Nat.le_of_ble_eq_true rfl⟩) hK hA hw (k_X7_become l D ad cs s.heap.size M J (4 + 4 * b) (3 + 4 * b) (by omega) (by omega) zn) (by omega) (cs_S (by omega)) rfl rfl rfl hl.1 (Nat.le_of_ble_eq_true rfl) ⟨Nat.le_of_ble_eq_true rfl, Nat.le_of_ble_eq_true rfl⟩ dX4_makeAnew_8 (fun M2 J3 H locs h4 hw => ?_)
  cases h4
  refine lv_aload_n hx hb dX4_makeAnew_11 rfl (lv_at hl 1 rfl) ?_
  refine lv_aload_n hx hb dX4_makeAnew_12 rfl (lv_at hl 0 rfl) ?_
  refine wr_gr hx hb hown hK hts iX4 (ci := 3) rfl 1 (by decide) f18 rfl hw (297 + 2 * b) (by omega) (3 * (4 + 4 * b)) (cs_F (by omega)) rfl dX4_makeAnew_13 ?_
  refine wr_cVv (k := 201 + 6 * b) (ci := 1) (As := [.ref (ad (3 * (4 + 4 * b)))]) (rest := []) ⟨hx, hb, hml, hown, hts⟩ (cwV 1 hts gX4_makeAnew_X2_applyTo rfl rfl rfl (by decide +kernel) ⟨Nat.le_of_ble_eq_true rfl, Nat.le_of_ble_eq_true rfl⟩) hK hA hw (k_X2_applyTo l D ad cs H.size (F_X7_become M (4 + 4 * b) (3 + 4 * b)) J b (4 + 4 * b) (by omega) (by omega) (by rw [become_z]; exact zn) (bkE_bl (bkE_st become_kp (by omega)) hb16 hB)) (by omega) (cs_B (by omega)) rfl rfl rfl hl.1 (Nat.le_of_ble_eq_true rfl) ⟨Nat.le_of_ble_eq_true rfl, Nat.le_of_ble_eq_true rfl⟩ dX4_makeAnew_16 (fun M6 J7 H locs h8 hw => ?_)
  have h8J : J7 = J := h8.1
  rw [h8J] at hw h8
  refine lv_iconst (v := nI 0) hx hb dX4_makeAnew_19 (by decide) ?_
  refine lv_istore_n (lv' := [(2, .int (nI 0)), (0, .ref (ad (297 + 2 * b))), (1, .ref (ad (201 + 6 * b)))]) hx hb dX4_makeAnew_20 rfl hl (by decide) rfl (fun ls hl => ?_)
  refine w_loop (σ := Nat) (fun k M' J' ls => lv_has ls 3 [(0, .ref (ad (297 + 2 * b))), (1, .ref (ad (201 + 6 * b))), (2, .int (nI k))] ∧ J' = J ∧ k ≤ tn (M (201 + 6 * b) 5) ∧ Imk M b k M') (fun k => tn (M (201 + 6 * b) 5) - k) (fun k M9 J1_ H locs ls hI hw ih10 => ?_) 0 ⟨lv_sub hl [1, 2, 0] rfl, rfl, by omega, Imk_0 (M1 := M) hb16 ze h8⟩ hw
  obtain ⟨hl, eJ_, hk_, hI⟩ := hI
  rw [eJ_] at hw
  clear eJ_
  refine lv_iload_n hx hb dX4_makeAnew_21 rfl (lv_at hl 2 rfl) ?_
  refine lv_aload_n hx hb dX4_makeAnew_22 rfl (lv_at hl 1 rfl) ?_
  refine wr_gi hx hb hown hK hts iX2 (ci := 1) rfl 5 (by decide) f42 rfl hw (201 + 6 * b) (by omega) (cs_B (by omega)) rfl dX4_makeAnew_23 ?_
  rw [show M9 (201 + 6 * b) 5 = nI (tn (M (201 + 6 * b) 5)) from ((congrFun (Imk_bkE hI hb16 (201 + 6 * b) (by omega) (by omega)) 5).trans hE.1)]
  refine lv_icmp_ge (tgt := 59) hx hb dX4_makeAnew_26 (by decide) (fun q11 => ?_) (fun q11 => ?_)
  · have q11n : (tn (M (201 + 6 * b) 5)) ≤ k := (nI_leI (by omega) (by omega)).mp q11
    exact wr_vret hx hb hr hK hw ⟨rfl, (by show Imk M b (tn (M (201 + 6 * b) 5)) _; have e9 : k = tn (M (201 + 6 * b) 5) := (by omega); rw [← e9]; exact hI)⟩ hlocks dX4_makeAnew_59
  · have q11n : ¬ (tn (M (201 + 6 * b) 5)) ≤ k := fun z => q11 ((nI_leI (by omega) (by omega)).mpr z)
    refine lv_aload_n hx hb dX4_makeAnew_29 rfl (lv_at hl 0 rfl) ?_
    refine wr_gr hx hb hown hK hts iX4 (ci := 3) rfl 2 (by decide) f21 rfl hw (297 + 2 * b) (by omega) (297 + 2 * b + 1) (cs_F (by omega)) rfl dX4_makeAnew_30 ?_
    refine lv_iload_n hx hb dX4_makeAnew_33 rfl (lv_at hl 2 rfl) ?_
    refine wr_aldN hx hb hK hw (297 + 2 * b + 1) (by omega) (cs_FE (by omega)) rfl (by decide) k rfl (by omega) dX4_makeAnew_34 ?_
    refine lv_aload_n hx hb dX4_makeAnew_35 rfl (lv_at hl 0 rfl) ?_
    refine wr_gr hx hb hown hK hts iX4 (ci := 3) rfl 1 (by decide) f18 rfl hw (297 + 2 * b) (by omega) (3 * (4 + 4 * b)) (cs_F (by omega)) rfl dX4_makeAnew_36 ?_
    refine wr_cVv (k := 3 * (5 + 4 * b + k)) (ci := 6) (As := [.ref (ad (3 * (4 + 4 * b)))]) (rest := []) ⟨hx, hb, hml, hown, hts⟩ (cwV 1 hts gX4_makeAnew_X7_become rfl rfl rfl (by decide +kernel) ⟨Nat.le_of_ble_eq_true rfl, Nat.le_of_ble_eq_true rfl⟩) hK hA hw (k_X7_become l D ad cs H.size M9 J (5 + 4 * b + k) (4 + 4 * b) (by omega) (by omega) hI.2.1) (by omega) (cs_S (by omega)) rfl rfl rfl hl.1 (Nat.le_of_ble_eq_true rfl) ⟨Nat.le_of_ble_eq_true rfl, Nat.le_of_ble_eq_true rfl⟩ dX4_makeAnew_39 (fun M13 J14 H locs h15 hw => ?_)
    cases h15
    refine lv_aload_n hx hb dX4_makeAnew_42 rfl (lv_at hl 1 rfl) ?_
    refine lv_aload_n hx hb dX4_makeAnew_43 rfl (lv_at hl 0 rfl) ?_
    refine wr_gr hx hb hown hK hts iX4 (ci := 3) rfl 2 (by decide) f21 rfl hw (297 + 2 * b) (by omega) (297 + 2 * b + 1) (cs_F (by omega)) rfl dX4_makeAnew_44 ?_
    refine lv_iload_n hx hb dX4_makeAnew_47 rfl (lv_at hl 2 rfl) ?_
    refine wr_aldN hx hb hK hw (297 + 2 * b + 1) (by omega) (cs_FE (by omega)) rfl (by decide) k rfl (by omega) dX4_makeAnew_48 ?_
    refine lv_iload_n hx hb dX4_makeAnew_49 rfl (lv_at hl 2 rfl) ?_
    refine wr_cVv (k := 201 + 6 * b) (ci := 1) (As := [.ref (ad (3 * (5 + 4 * b + k))), .int (nI k)]) (rest := []) ⟨hx, hb, hml, hown, hts⟩ (cwV 2 hts gX4_makeAnew_X2_refineForEdge rfl rfl rfl (by decide +kernel) ⟨Nat.le_of_ble_eq_true rfl, Nat.le_of_ble_eq_true rfl⟩) hK hA hw (k_X2_refineForEdge l D ad cs H.size (F_X7_become M9 (5 + 4 * b + k) (4 + 4 * b)) J b (5 + 4 * b + k) k (by omega) (by omega) (by omega) (by rw [become_z]; exact hI.2.1) (bkE_ed (bkE_trans (Imk_bkE hI hb16) (bkE_st become_kp (by omega))) hb16 hE)) (by omega) (cs_B (by omega)) rfl rfl rfl hl.1 (Nat.le_of_ble_eq_true rfl) ⟨Nat.le_of_ble_eq_true rfl, Nat.le_of_ble_eq_true rfl⟩ dX4_makeAnew_50 (fun M17 J18 H locs h19 hw => ?_)
    have h19J : J18 = J := h19.1
    rw [h19J] at hw h19
    refine lv_iinc (v := nI (k + 1)) (lv' := [(2, .int (nI (k + 1))), (0, .ref (ad (297 + 2 * b))), (1, .ref (ad (201 + 6 * b)))]) hx hb dX4_makeAnew_53 hl (k := 2) rfl (nI_1 _) (by decide) rfl (fun ls hl => ?_)
    refine lv_goto (tgt := 21) hx hb dX4_makeAnew_56 (by decide) ?_
    exact ih10 (k + 1) M17 J _ _ _ (by omega) ⟨lv_sub hl [1, 2, 0] rfl, rfl, by omega, Imk_s hb16 (by omega) hI h19⟩ hw
set_option maxHeartbeats 4000000 in
set_option maxRecDepth 100000 in
theorem k_X0_gatherIncoming (l : Launch) (D : va_G) (ad : Nat → Nat) (cs : Nat → ClassId) (sz : Nat) (M : wM) (J : wJ) (t : Nat) (cnt : Nat) (ht : t < 16) (hc : cZ M) (hn : M 330 2 = nI cnt) (hn16 : cnt ≤ 16) (hE : ∀ b, b < 16 → edOK M b) : wCv l yX0_gatherIncoming wsX0_gatherIncoming { frames := 3, cells := 0, slots := 0, locals := 103 } D 340 cSh ad cs [.ref (ad 334), .ref (ad 330), .int (nI t)] sz M J (pS M J 1 (gat M (XM M) cnt t)) := by
  refine wC_v (cc := cX0_gatherIncoming) (maxL := 6) (ret := none) (by decide) rfl (Nat.le_of_ble_eq_true rfl) ?_
  intro p e s m below meth c ls A hx hb hr hml hown hts hlocks hK hA hw hl hAe
  clear hAe
  have hl : lv_has ls 6 [(0, .ref (ad 334)), (1, .ref (ad 330)), (2, .int (nI t))] := hl
  have f20 : (Cond.fieldLink RX0 20 "RangePropagator$Analysis" "incoming" "LRangePropagator$State;").before _ s = true := hts _ (by decide +kernel)
  have iX0 : ∀ w ∈ wsX00, w ∈ wsX0_gatherIncoming := by decide +kernel
  have f49 : (Cond.fieldLink RX0 49 "RangePropagator$State" "isNone" "Z").before _ s = true := hts _ (by decide +kernel)
  have iX7 : ∀ w ∈ wsX70, w ∈ wsX0_gatherIncoming := by decide +kernel
  have f32 : (Cond.fieldLink RX0 32 "RangePropagator$Program" "count" "I").before _ s = true := hts _ (by decide +kernel)
  have iX5 : ∀ w ∈ wsX50, w ∈ wsX0_gatherIncoming := by decide +kernel
  have f79 : (Cond.fieldLink RX0 79 "RangePropagator$Program" "blocks" "[LRangePropagator$Block;").before _ s = true := hts _ (by decide +kernel)
  have f93 : (Cond.fieldLink RX0 93 "RangePropagator$Block" "edgeCount" "I").before _ s = true := hts _ (by decide +kernel)
  have iX2 : ∀ w ∈ wsX20, w ∈ wsX0_gatherIncoming := by decide +kernel
  have f98 : (Cond.fieldLink RX0 98 "RangePropagator$Block" "followers" "[I").before _ s = true := hts _ (by decide +kernel)
  have f11 : (Cond.fieldLink RX0 11 "RangePropagator$Analysis" "flows" "[LRangePropagator$Flow;").before _ s = true := hts _ (by decide +kernel)
  have f102 : (Cond.fieldLink RX0 102 "RangePropagator$Flow" "edgeStates" "[LRangePropagator$State;").before _ s = true := hts _ (by decide +kernel)
  have iX4 : ∀ w ∈ wsX40, w ∈ wsX0_gatherIncoming := by decide +kernel
  have f90 : (Cond.fieldLink RX0 90 "RangePropagator$Program" "initial" "LRangePropagator$State;").before _ s = true := hts _ (by decide +kernel)
  refine lv_aload_n hx hb dX0_gatherIncoming_0 rfl (lv_at hl 0 rfl) ?_
  refine wr_gr hx hb hown hK hts iX0 (ci := 0) rfl 1 (by decide) f20 rfl hw 334 (by omega) (3 * 1) cs_A rfl dX0_gatherIncoming_1 ?_
  refine lv_iconst (v := nI 1) hx hb dX0_gatherIncoming_4 (by decide) ?_
  refine wr_pi hx hb hown hK hts iX7 tyX7_ok nmX7 (ci := 6) rfl 0 (by decide) f49 rfl rfl hw (3 * 1) (by omega) (cs_S (by omega)) rfl (by decide) (by decide) dX0_gatherIncoming_5 (fun H locs hw => ?_)
  refine lv_iload_n hx hb dX0_gatherIncoming_8 rfl (lv_at hl 2 rfl) ?_
  refine lv_if_ne (tgt := 23) hx hb dX0_gatherIncoming_9 (by decide) (fun q1 => ?_) (fun q1 => ?_)
  · skip
    refine lv_iconst (v := nI 0) hx hb dX0_gatherIncoming_23 (by decide) ?_
    refine lv_istore_n (lv' := [(3, .int (nI 0)), (0, .ref (ad 334)), (1, .ref (ad 330)), (2, .int (nI t))]) hx hb dX0_gatherIncoming_24 rfl hl (by decide) rfl (fun ls hl => ?_)
    refine w_loop (σ := Nat) (fun k M' J' ls => lv_has ls 6 [(0, .ref (ad 334)), (1, .ref (ad 330)), (2, .int (nI t)), (3, .int (nI k))] ∧ J' = J ∧ k ≤ cnt ∧ sS M 1 M' (gB M (XM M) t k (if t = 0 then jn none (sv M 0) else none))) (fun k => cnt - k) (fun k M2 J1_ H locs ls hI hw ih3 => ?_) 0 ⟨lv_sub hl [1, 2, 3, 0] rfl, rfl, by omega, (by show sS M 1 _ (if t = 0 then jn none (sv M 0) else none); rw [if_neg (fun z => q1 (by rw [z]; rfl))]; exact sS_none)⟩ hw
    obtain ⟨hl, eJ_, hk_, hI⟩ := hI
    rw [eJ_] at hw
    clear eJ_
    refine lv_iload_n hx hb dX0_gatherIncoming_25 rfl (lv_at hl 3 rfl) ?_
    refine lv_aload_n hx hb dX0_gatherIncoming_26 rfl (lv_at hl 1 rfl) ?_
    refine wr_gi hx hb hown hK hts iX5 (ci := 4) rfl 2 (by decide) f32 rfl hw 330 (by omega) cs_P rfl dX0_gatherIncoming_27 ?_
    rw [show M2 330 2 = nI cnt from ((congrFun (hI.1 330 (by unfold stc; omega)) 2).trans hn)]
    refine lv_icmp_ge (tgt := 97) hx hb dX0_gatherIncoming_30 (by decide) (fun q4 => ?_) (fun q4 => ?_)
    · have q4n : cnt ≤ k := (nI_leI (by omega) (by omega)).mp q4
      exact wr_vret hx hb hr hK hw (sS_pS (by show sS M 1 _ (gB M (XM M) t cnt (if t = 0 then jn none (sv M 0) else none)); have e8 : k = cnt := (by omega); rw [← e8]; exact hI)) hlocks dX0_gatherIncoming_97
    · have q4n : ¬ cnt ≤ k := fun z => q4 ((nI_leI (by omega) (by omega)).mpr z)
      refine lv_aload_n hx hb dX0_gatherIncoming_33 rfl (lv_at hl 1 rfl) ?_
      refine wr_gr hx hb hown hK hts iX5 (ci := 4) rfl 0 (by decide) f79 rfl hw 330 (by omega) 331 cs_P rfl dX0_gatherIncoming_34 ?_
      refine lv_iload_n hx hb dX0_gatherIncoming_37 rfl (lv_at hl 3 rfl) ?_
      refine wr_aldN hx hb hK hw 331 (by omega) cs_PB rfl (by decide) k rfl (by omega) dX0_gatherIncoming_38 ?_
      refine lv_astore (lv' := [(4, .ref (ad (201 + 6 * k))), (0, .ref (ad 334)), (1, .ref (ad 330)), (2, .int (nI t)), (3, .int (nI k))]) hx hb dX0_gatherIncoming_39 hl (by decide) rfl (fun ls hl => ?_)
      refine lv_iconst (v := nI 0) hx hb dX0_gatherIncoming_41 (by decide) ?_
      refine lv_istore (lv' := [(5, .int (nI 0)), (4, .ref (ad (201 + 6 * k))), (0, .ref (ad 334)), (1, .ref (ad 330)), (2, .int (nI t)), (3, .int (nI k))]) hx hb dX0_gatherIncoming_42 hl (by decide) rfl (fun ls hl => ?_)
      have hE2 : tn (M (201 + 6 * k) 5) ≤ 2 := (hE k (by omega)).2.1
      refine w_loop (σ := Nat) (fun e9 M' J' ls => lv_has ls 6 [(0, .ref (ad 334)), (1, .ref (ad 330)), (2, .int (nI t)), (3, .int (nI k)), (4, .ref (ad (201 + 6 * k))), (5, .int (nI e9))] ∧ J' = J ∧ e9 ≤ tn (M (201 + 6 * k) 5) ∧ sS M 1 M' (gE M (XM M) t k e9 (gB M (XM M) t k (if t = 0 then jn none (sv M 0) else none)))) (fun e9 => tn (M (201 + 6 * k) 5) - e9) (fun e9 M5 J1_ H locs ls hI hw ih6 => ?_) 0 ⟨lv_sub hl [2, 3, 4, 5, 1, 0] rfl, rfl, by omega, hI⟩ hw
      obtain ⟨hl, eJ_, hk_, hI⟩ := hI
      rw [eJ_] at hw
      clear eJ_
      refine lv_iload hx hb dX0_gatherIncoming_44 (lv_at hl 5 rfl) ?_
      refine lv_aload hx hb dX0_gatherIncoming_46 (lv_at hl 4 rfl) ?_
      refine wr_gi hx hb hown hK hts iX2 (ci := 1) rfl 5 (by decide) f93 rfl hw (201 + 6 * k) (by omega) (cs_B (by omega)) rfl dX0_gatherIncoming_48 ?_
      rw [show M5 (201 + 6 * k) 5 = nI (tn (M (201 + 6 * k) 5)) from ((congrFun (hI.1 (201 + 6 * k) (by unfold stc; omega)) 5).trans (hE k (by omega)).1)]
      refine lv_icmp_ge (tgt := 91) hx hb dX0_gatherIncoming_51 (by decide) (fun q7 => ?_) (fun q7 => ?_)
      · have q7n : (tn (M (201 + 6 * k) 5)) ≤ e9 := (nI_leI (by omega) (by omega)).mp q7
        refine lv_iinc (v := nI (k + 1)) (lv' := [(3, .int (nI (k + 1))), (0, .ref (ad 334)), (1, .ref (ad 330)), (2, .int (nI t)), (4, .ref (ad (201 + 6 * k))), (5, .int (nI e9))]) hx hb dX0_gatherIncoming_91 hl (k := 3) rfl (nI_1 _) (by decide) rfl (fun ls hl => ?_)
        refine lv_goto (tgt := 25) hx hb dX0_gatherIncoming_94 (by decide) ?_
        exact ih3 (k + 1) M5 J _ _ _ (by omega) ⟨lv_sub hl [1, 2, 3, 0] rfl, rfl, by omega, (by show sS M 1 _ (gE M (XM M) t k (tn (M (201 + 6 * k) 5)) (gB M (XM M) t k (if t = 0 then jn none (sv M 0) else none))); have e7 : e9 = tn (M (201 + 6 * k) 5) := (by omega); rw [← e7]; exact hI)⟩ hw
      · have q7n : ¬ (tn (M (201 + 6 * k) 5)) ≤ e9 := fun z => q7 ((nI_leI (by omega) (by omega)).mpr z)
        refine lv_aload hx hb dX0_gatherIncoming_54 (lv_at hl 4 rfl) ?_
        refine wr_gr hx hb hown hK hts iX2 (ci := 1) rfl 6 (by decide) f98 rfl hw (201 + 6 * k) (by omega) (201 + 6 * k + 5) (cs_B (by omega)) rfl dX0_gatherIncoming_56 ?_
        refine lv_iload hx hb dX0_gatherIncoming_59 (lv_at hl 5 rfl) ?_
        refine wr_ildN hx hb hK hw (201 + 6 * k + 5) (by omega) (cs_B5 (by omega)) (by decide) e9 rfl (by omega) dX0_gatherIncoming_61 ?_
        rw [show M5 (201 + 6 * k + 5) e9 = M (201 + 6 * k + 5) e9 from (congrFun (hI.1 (201 + 6 * k + 5) (by unfold stc; omega)) e9)]
        refine lv_iload_n hx hb dX0_gatherIncoming_62 rfl (lv_at hl 2 rfl) ?_
        refine lv_icmp_ne (tgt := 85) hx hb dX0_gatherIncoming_63 (by decide) (fun q8 => ?_) (fun q8 => ?_)
        · skip
          refine lv_iinc (v := nI (e9 + 1)) (lv' := [(5, .int (nI (e9 + 1))), (0, .ref (ad 334)), (1, .ref (ad 330)), (2, .int (nI t)), (3, .int (nI k)), (4, .ref (ad (201 + 6 * k)))]) hx hb dX0_gatherIncoming_85 hl (k := 5) rfl (nI_1 _) (by decide) rfl (fun ls hl => ?_)
          refine lv_goto (tgt := 44) hx hb dX0_gatherIncoming_88 (by decide) ?_
          exact ih6 (e9 + 1) M5 J _ _ _ (by omega) ⟨lv_sub hl [1, 2, 3, 4, 5, 0] rfl, rfl, by omega, (by rw [gE_2 q8]; exact hI)⟩ hw
        · skip
          refine lv_aload_n hx hb dX0_gatherIncoming_66 rfl (lv_at hl 0 rfl) ?_
          refine wr_gr hx hb hown hK hts iX0 (ci := 0) rfl 1 (by decide) f20 rfl hw 334 (by omega) (3 * 1) cs_A rfl dX0_gatherIncoming_67 ?_
          refine lv_aload_n hx hb dX0_gatherIncoming_70 rfl (lv_at hl 0 rfl) ?_
          refine wr_gr hx hb hown hK hts iX0 (ci := 0) rfl 0 (by decide) f11 rfl hw 334 (by omega) 335 cs_A rfl dX0_gatherIncoming_71 ?_
          refine lv_iload_n hx hb dX0_gatherIncoming_74 rfl (lv_at hl 3 rfl) ?_
          refine wr_aldN hx hb hK hw 335 (by omega) cs_AF rfl (by decide) k rfl (by omega) dX0_gatherIncoming_75 ?_
          refine wr_gr hx hb hown hK hts iX4 (ci := 3) rfl 2 (by decide) f102 rfl hw (297 + 2 * k) (by omega) (297 + 2 * k + 1) (cs_F (by omega)) rfl dX0_gatherIncoming_76 ?_
          refine lv_iload hx hb dX0_gatherIncoming_79 (lv_at hl 5 rfl) ?_
          refine wr_aldN hx hb hK hw (297 + 2 * k + 1) (by omega) (cs_FE (by omega)) rfl (by decide) e9 rfl (by omega) dX0_gatherIncoming_81 ?_
          refine wr_cVv (k := 3 * 1) (ci := 6) (As := [.ref (ad (3 * (5 + 4 * k + e9)))]) (rest := []) ⟨hx, hb, hml, hown, hts⟩ (cwV 1 hts gX0_gatherIncoming_X7_join rfl rfl rfl (by decide +kernel) ⟨Nat.le_of_ble_eq_true rfl, Nat.le_of_ble_eq_true rfl⟩) hK hA hw (k_X7_join l D ad cs H.size M5 J 1 (5 + 4 * k + e9) (by omega) (by omega) (by omega) (sS_z hc (by omega) hI) (sS_z hc (by omega) hI)) (by omega) (cs_S (by omega)) rfl rfl rfl hl.1 (Nat.le_of_ble_eq_true rfl) ⟨Nat.le_of_ble_eq_true rfl, Nat.le_of_ble_eq_true rfl⟩ dX0_gatherIncoming_82 (fun M10 J11 H locs h12 hw => ?_)
          have h12J : J11 = J := h12.1
          rw [h12J] at hw h12
          refine lv_iinc (v := nI (e9 + 1)) (lv' := [(5, .int (nI (e9 + 1))), (0, .ref (ad 334)), (1, .ref (ad 330)), (2, .int (nI t)), (3, .int (nI k)), (4, .ref (ad (201 + 6 * k)))]) hx hb dX0_gatherIncoming_85 hl (k := 5) rfl (nI_1 _) (by decide) rfl (fun ls hl => ?_)
          refine lv_goto (tgt := 44) hx hb dX0_gatherIncoming_88 (by decide) ?_
          exact ih6 (e9 + 1) M10 J _ _ _ (by omega) ⟨lv_sub hl [1, 2, 3, 4, 5, 0] rfl, rfl, by omega, (by rw [gE_1 q8]; exact sS_join (by omega) hI h12)⟩ hw
  · skip
    refine lv_aload_n hx hb dX0_gatherIncoming_12 rfl (lv_at hl 0 rfl) ?_
    refine wr_gr hx hb hown hK hts iX0 (ci := 0) rfl 1 (by decide) f20 rfl hw 334 (by omega) (3 * 1) cs_A rfl dX0_gatherIncoming_13 ?_
    refine lv_aload_n hx hb dX0_gatherIncoming_16 rfl (lv_at hl 1 rfl) ?_
    refine wr_gr hx hb hown hK hts iX5 (ci := 4) rfl 1 (by decide) f90 rfl hw 330 (by omega) (3 * 0) cs_P rfl dX0_gatherIncoming_17 ?_
    refine wr_cVv (k := 3 * 1) (ci := 6) (As := [.ref (ad (3 * 0))]) (rest := []) ⟨hx, hb, hml, hown, hts⟩ (cwV 1 hts gX0_gatherIncoming_X7_join rfl rfl rfl (by decide +kernel) ⟨Nat.le_of_ble_eq_true rfl, Nat.le_of_ble_eq_true rfl⟩) hK hA hw (k_X7_join l D ad cs H.size (wU M (3 * 1) 0 (nI 1)) J 1 0 (by omega) (by omega) (by omega) (sS_z hc (by omega) (sS_none (i := 1))) (sS_z hc (by omega) (sS_none (i := 1)))) (by omega) (cs_S (by omega)) rfl rfl rfl hl.1 (Nat.le_of_ble_eq_true rfl) ⟨Nat.le_of_ble_eq_true rfl, Nat.le_of_ble_eq_true rfl⟩ dX0_gatherIncoming_20 (fun M14 J15 H locs h16 hw => ?_)
    have h16J : J15 = J := h16.1
    rw [h16J] at hw h16
    refine lv_iconst (v := nI 0) hx hb dX0_gatherIncoming_23 (by decide) ?_
    refine lv_istore_n (lv' := [(3, .int (nI 0)), (0, .ref (ad 334)), (1, .ref (ad 330)), (2, .int (nI t))]) hx hb dX0_gatherIncoming_24 rfl hl (by decide) rfl (fun ls hl => ?_)
    refine w_loop (σ := Nat) (fun k M' J' ls => lv_has ls 6 [(0, .ref (ad 334)), (1, .ref (ad 330)), (2, .int (nI t)), (3, .int (nI k))] ∧ J' = J ∧ k ≤ cnt ∧ sS M 1 M' (gB M (XM M) t k (if t = 0 then jn none (sv M 0) else none))) (fun k => cnt - k) (fun k M17 J1_ H locs ls hI hw ih18 => ?_) 0 ⟨lv_sub hl [1, 2, 3, 0] rfl, rfl, by omega, (by show sS M 1 _ (if t = 0 then jn none (sv M 0) else none); rw [if_pos (eN0 (by omega) q1)]; exact sS_join (by omega) sS_none h16)⟩ hw
    obtain ⟨hl, eJ_, hk_, hI⟩ := hI
    rw [eJ_] at hw
    clear eJ_
    refine lv_iload_n hx hb dX0_gatherIncoming_25 rfl (lv_at hl 3 rfl) ?_
    refine lv_aload_n hx hb dX0_gatherIncoming_26 rfl (lv_at hl 1 rfl) ?_
    refine wr_gi hx hb hown hK hts iX5 (ci := 4) rfl 2 (by decide) f32 rfl hw 330 (by omega) cs_P rfl dX0_gatherIncoming_27 ?_
    rw [show M17 330 2 = nI cnt from ((congrFun (hI.1 330 (by unfold stc; omega)) 2).trans hn)]
    refine lv_icmp_ge (tgt := 97) hx hb dX0_gatherIncoming_30 (by decide) (fun q19 => ?_) (fun q19 => ?_)
    · have q19n : cnt ≤ k := (nI_leI (by omega) (by omega)).mp q19
      exact wr_vret hx hb hr hK hw (sS_pS (by show sS M 1 _ (gB M (XM M) t cnt (if t = 0 then jn none (sv M 0) else none)); have e8 : k = cnt := (by omega); rw [← e8]; exact hI)) hlocks dX0_gatherIncoming_97
    · have q19n : ¬ cnt ≤ k := fun z => q19 ((nI_leI (by omega) (by omega)).mpr z)
      refine lv_aload_n hx hb dX0_gatherIncoming_33 rfl (lv_at hl 1 rfl) ?_
      refine wr_gr hx hb hown hK hts iX5 (ci := 4) rfl 0 (by decide) f79 rfl hw 330 (by omega) 331 cs_P rfl dX0_gatherIncoming_34 ?_
      refine lv_iload_n hx hb dX0_gatherIncoming_37 rfl (lv_at hl 3 rfl) ?_
      refine wr_aldN hx hb hK hw 331 (by omega) cs_PB rfl (by decide) k rfl (by omega) dX0_gatherIncoming_38 ?_
      refine lv_astore (lv' := [(4, .ref (ad (201 + 6 * k))), (0, .ref (ad 334)), (1, .ref (ad 330)), (2, .int (nI t)), (3, .int (nI k))]) hx hb dX0_gatherIncoming_39 hl (by decide) rfl (fun ls hl => ?_)
      refine lv_iconst (v := nI 0) hx hb dX0_gatherIncoming_41 (by decide) ?_
      refine lv_istore (lv' := [(5, .int (nI 0)), (4, .ref (ad (201 + 6 * k))), (0, .ref (ad 334)), (1, .ref (ad 330)), (2, .int (nI t)), (3, .int (nI k))]) hx hb dX0_gatherIncoming_42 hl (by decide) rfl (fun ls hl => ?_)
      have hE2 : tn (M (201 + 6 * k) 5) ≤ 2 := (hE k (by omega)).2.1
      refine w_loop (σ := Nat) (fun e9 M' J' ls => lv_has ls 6 [(0, .ref (ad 334)), (1, .ref (ad 330)), (2, .int (nI t)), (3, .int (nI k)), (4, .ref (ad (201 + 6 * k))), (5, .int (nI e9))] ∧ J' = J ∧ e9 ≤ tn (M (201 + 6 * k) 5) ∧ sS M 1 M' (gE M (XM M) t k e9 (gB M (XM M) t k (if t = 0 then jn none (sv M 0) else none)))) (fun e9 => tn (M (201 + 6 * k) 5) - e9) (fun e9 M20 J1_ H locs ls hI hw ih21 => ?_) 0 ⟨lv_sub hl [2, 3, 4, 5, 1, 0] rfl, rfl, by omega, hI⟩ hw
      obtain ⟨hl, eJ_, hk_, hI⟩ := hI
      rw [eJ_] at hw
      clear eJ_
      refine lv_iload hx hb dX0_gatherIncoming_44 (lv_at hl 5 rfl) ?_
      refine lv_aload hx hb dX0_gatherIncoming_46 (lv_at hl 4 rfl) ?_
      refine wr_gi hx hb hown hK hts iX2 (ci := 1) rfl 5 (by decide) f93 rfl hw (201 + 6 * k) (by omega) (cs_B (by omega)) rfl dX0_gatherIncoming_48 ?_
      rw [show M20 (201 + 6 * k) 5 = nI (tn (M (201 + 6 * k) 5)) from ((congrFun (hI.1 (201 + 6 * k) (by unfold stc; omega)) 5).trans (hE k (by omega)).1)]
      refine lv_icmp_ge (tgt := 91) hx hb dX0_gatherIncoming_51 (by decide) (fun q22 => ?_) (fun q22 => ?_)
      · have q22n : (tn (M (201 + 6 * k) 5)) ≤ e9 := (nI_leI (by omega) (by omega)).mp q22
        refine lv_iinc (v := nI (k + 1)) (lv' := [(3, .int (nI (k + 1))), (0, .ref (ad 334)), (1, .ref (ad 330)), (2, .int (nI t)), (4, .ref (ad (201 + 6 * k))), (5, .int (nI e9))]) hx hb dX0_gatherIncoming_91 hl (k := 3) rfl (nI_1 _) (by decide) rfl (fun ls hl => ?_)
        refine lv_goto (tgt := 25) hx hb dX0_gatherIncoming_94 (by decide) ?_
        exact ih18 (k + 1) M20 J _ _ _ (by omega) ⟨lv_sub hl [1, 2, 3, 0] rfl, rfl, by omega, (by show sS M 1 _ (gE M (XM M) t k (tn (M (201 + 6 * k) 5)) (gB M (XM M) t k (if t = 0 then jn none (sv M 0) else none))); have e7 : e9 = tn (M (201 + 6 * k) 5) := (by omega); rw [← e7]; exact hI)⟩ hw
      · have q22n : ¬ (tn (M (201 + 6 * k) 5)) ≤ e9 := fun z => q22 ((nI_leI (by omega) (by omega)).mpr z)
        refine lv_aload hx hb dX0_gatherIncoming_54 (lv_at hl 4 rfl) ?_
        refine wr_gr hx hb hown hK hts iX2 (ci := 1) rfl 6 (by decide) f98 rfl hw (201 + 6 * k) (by omega) (201 + 6 * k + 5) (cs_B (by omega)) rfl dX0_gatherIncoming_56 ?_
        refine lv_iload hx hb dX0_gatherIncoming_59 (lv_at hl 5 rfl) ?_
        refine wr_ildN hx hb hK hw (201 + 6 * k + 5) (by omega) (cs_B5 (by omega)) (by decide) e9 rfl (by omega) dX0_gatherIncoming_61 ?_
        rw [show M20 (201 + 6 * k + 5) e9 = M (201 + 6 * k + 5) e9 from (congrFun (hI.1 (201 + 6 * k + 5) (by unfold stc; omega)) e9)]
        refine lv_iload_n hx hb dX0_gatherIncoming_62 rfl (lv_at hl 2 rfl) ?_
        refine lv_icmp_ne (tgt := 85) hx hb dX0_gatherIncoming_63 (by decide) (fun q23 => ?_) (fun q23 => ?_)
        · skip
          refine lv_iinc (v := nI (e9 + 1)) (lv' := [(5, .int (nI (e9 + 1))), (0, .ref (ad 334)), (1, .ref (ad 330)), (2, .int (nI t)), (3, .int (nI k)), (4, .ref (ad (201 + 6 * k)))]) hx hb dX0_gatherIncoming_85 hl (k := 5) rfl (nI_1 _) (by decide) rfl (fun ls hl => ?_)
          refine lv_goto (tgt := 44) hx hb dX0_gatherIncoming_88 (by decide) ?_
          exact ih21 (e9 + 1) M20 J _ _ _ (by omega) ⟨lv_sub hl [1, 2, 3, 4, 5, 0] rfl, rfl, by omega, (by rw [gE_2 q23]; exact hI)⟩ hw
        · skip
          refine lv_aload_n hx hb dX0_gatherIncoming_66 rfl (lv_at hl 0 rfl) ?_
          refine wr_gr hx hb hown hK hts iX0 (ci := 0) rfl 1 (by decide) f20 rfl hw 334 (by omega) (3 * 1) cs_A rfl dX0_gatherIncoming_67 ?_
          refine lv_aload_n hx hb dX0_gatherIncoming_70 rfl (lv_at hl 0 rfl) ?_
          refine wr_gr hx hb hown hK hts iX0 (ci := 0) rfl 0 (by decide) f11 rfl hw 334 (by omega) 335 cs_A rfl dX0_gatherIncoming_71 ?_
          refine lv_iload_n hx hb dX0_gatherIncoming_74 rfl (lv_at hl 3 rfl) ?_
          refine wr_aldN hx hb hK hw 335 (by omega) cs_AF rfl (by decide) k rfl (by omega) dX0_gatherIncoming_75 ?_
          refine wr_gr hx hb hown hK hts iX4 (ci := 3) rfl 2 (by decide) f102 rfl hw (297 + 2 * k) (by omega) (297 + 2 * k + 1) (cs_F (by omega)) rfl dX0_gatherIncoming_76 ?_
          refine lv_iload hx hb dX0_gatherIncoming_79 (lv_at hl 5 rfl) ?_
          refine wr_aldN hx hb hK hw (297 + 2 * k + 1) (by omega) (cs_FE (by omega)) rfl (by decide) e9 rfl (by omega) dX0_gatherIncoming_81 ?_
          refine wr_cVv (k := 3 * 1) (ci := 6) (As := [.ref (ad (3 * (5 + 4 * k + e9)))]) (rest := []) ⟨hx, hb, hml, hown, hts⟩ (cwV 1 hts gX0_gatherIncoming_X7_join rfl rfl rfl (by decide +kernel) ⟨Nat.le_of_ble_eq_true rfl, Nat.le_of_ble_eq_true rfl⟩) hK hA hw (k_X7_join l D ad cs H.size M20 J 1 (5 + 4 * k + e9) (by omega) (by omega) (by omega) (sS_z hc (by omega) hI) (sS_z hc (by omega) hI)) (by omega) (cs_S (by omega)) rfl rfl rfl hl.1 (Nat.le_of_ble_eq_true rfl) ⟨Nat.le_of_ble_eq_true rfl, Nat.le_of_ble_eq_true rfl⟩ dX0_gatherIncoming_82 (fun M25 J26 H locs h27 hw => ?_)
          have h27J : J26 = J := h27.1
          rw [h27J] at hw h27
          refine lv_iinc (v := nI (e9 + 1)) (lv' := [(5, .int (nI (e9 + 1))), (0, .ref (ad 334)), (1, .ref (ad 330)), (2, .int (nI t)), (3, .int (nI k)), (4, .ref (ad (201 + 6 * k)))]) hx hb dX0_gatherIncoming_85 hl (k := 5) rfl (nI_1 _) (by decide) rfl (fun ls hl => ?_)
          refine lv_goto (tgt := 44) hx hb dX0_gatherIncoming_88 (by decide) ?_
          exact ih21 (e9 + 1) M25 J _ _ _ (by omega) ⟨lv_sub hl [1, 2, 3, 4, 5, 0] rfl, rfl, by omega, (by rw [gE_1 q23]; exact sS_join (by omega) hI h27)⟩ hw
set_option maxHeartbeats 4000000 in
set_option maxRecDepth 100000 in
theorem k_X0_lookAt (l : Launch) (D : va_G) (ad : Nat → Nat) (cs : Nat → ClassId) (sz : Nat) (M : wM) (J : wJ) (b : Nat) (M0 : wM) (E : Nat → aS) (V : Nat → Int32) (cnt : Nat) (tt : Nat) (hbc : b < cnt) (hp : prOK M0 cnt tt) (hN : AN M0 M E V) : wCi l yX0_lookAt wsX0_lookAt { frames := 5, cells := 0, slots := 0, locals := 128 } D 340 cSh ad cs [.ref (ad 334), .ref (ad 330), .ref (ad 332), .int (nI b)] sz M J (pLk M0 J E V cnt tt b) := by
  refine wC_i (cc := cX0_lookAt) (maxL := 5) (ret := (some .boolean)) (by decide) rfl (Nat.le_of_ble_eq_true rfl) ?_
  intro p e s m below meth c ls A hx hb hr hml hown hts hlocks hK hA hw hl hAe
  clear hAe
  have hl : lv_has ls 5 [(0, .ref (ad 334)), (1, .ref (ad 330)), (2, .ref (ad 332)), (3, .int (nI b))] := hl
  have f20 : (Cond.fieldLink RX0 20 "RangePropagator$Analysis" "incoming" "LRangePropagator$State;").before _ s = true := hts _ (by decide +kernel)
  have iX0 : ∀ w ∈ wsX00, w ∈ wsX0_lookAt := by decide +kernel
  have f49 : (Cond.fieldLink RX0 49 "RangePropagator$State" "isNone" "Z").before _ s = true := hts _ (by decide +kernel)
  have iX7 : ∀ w ∈ wsX70, w ∈ wsX0_lookAt := by decide +kernel
  have f11 : (Cond.fieldLink RX0 11 "RangePropagator$Analysis" "flows" "[LRangePropagator$Flow;").before _ s = true := hts _ (by decide +kernel)
  have f24 : (Cond.fieldLink RX0 24 "RangePropagator$Analysis" "joined" "LRangePropagator$State;").before _ s = true := hts _ (by decide +kernel)
  have f53 : (Cond.fieldLink RX0 53 "RangePropagator$Flow" "entryState" "LRangePropagator$State;").before _ s = true := hts _ (by decide +kernel)
  have iX4 : ∀ w ∈ wsX40, w ∈ wsX0_lookAt := by decide +kernel
  have f63 : (Cond.fieldLink RX0 63 "RangePropagator$Flow" "visitCount" "I").before _ s = true := hts _ (by decide +kernel)
  have f79 : (Cond.fieldLink RX0 79 "RangePropagator$Program" "blocks" "[LRangePropagator$Block;").before _ s = true := hts _ (by decide +kernel)
  have iX5 : ∀ w ∈ wsX50, w ∈ wsX0_lookAt := by decide +kernel
  have f66 : (Cond.fieldLink RX0 66 "RangePropagator$Settings" "delay" "I").before _ s = true := hts _ (by decide +kernel)
  have iX6 : ∀ w ∈ wsX60, w ∈ wsX0_lookAt := by decide +kernel
  have hc16 : cnt ≤ 16 := hp.2.1
  have hb16 : b < 16 := (by omega)
  have hcM : M 330 2 = nI cnt := (congrFun (hN.1 330 (by unfold anC; omega)) 2).trans hp.1
  have hEd : ∀ q, q < 16 → edOK M0 q := fun q h => (hp.2.2.1 q h).2
  have hEM : ∀ q, q < 16 → edOK M q := fun q h => bkE_ed (AN_bkE hN) h (hEd q h)
  refine lv_aload_n hx hb dX0_lookAt_0 rfl (lv_at hl 0 rfl) ?_
  refine lv_aload_n hx hb dX0_lookAt_1 rfl (lv_at hl 1 rfl) ?_
  refine lv_iload_n hx hb dX0_lookAt_2 rfl (lv_at hl 3 rfl) ?_
  refine wr_cVv (k := 334) (ci := 0) (As := [.ref (ad 330), .int (nI b)]) (rest := []) ⟨hx, hb, hml, hown, hts⟩ (cwV 2 hts gX0_lookAt_X0_gatherIncoming rfl rfl rfl (by decide +kernel) ⟨Nat.le_of_ble_eq_true rfl, Nat.le_of_ble_eq_true rfl⟩) hK hA hw (k_X0_gatherIncoming l D ad cs s.heap.size M J b cnt (by omega) hN.2.1 hcM (by omega) hEM) (by omega) cs_A rfl rfl rfl hl.1 (Nat.le_of_ble_eq_true rfl) ⟨Nat.le_of_ble_eq_true rfl, Nat.le_of_ble_eq_true rfl⟩ dX0_lookAt_3 (fun M2 J3 H locs h4 hw => ?_)
  have h4J : J3 = J := h4.1
  rw [h4J] at hw h4
  have zA : cZ M2 := cZ_sS (i := 1) hN.2.1 ⟨h4.2.1, h4.2.2.1, h4.2.2.2⟩
  refine lv_aload_n hx hb dX0_lookAt_6 rfl (lv_at hl 0 rfl) ?_
  refine wr_gr hx hb hown hK hts iX0 (ci := 0) rfl 1 (by decide) f20 rfl hw 334 (by omega) (3 * 1) cs_A rfl dX0_lookAt_7 ?_
  refine wr_gi hx hb hown hK hts iX7 (ci := 6) rfl 0 (by decide) f49 rfl hw (3 * 1) (by omega) (cs_S (by omega)) rfl dX0_lookAt_10 ?_
  refine lv_if_eq (tgt := 18) hx hb dX0_lookAt_13 (by decide) (fun q5 => ?_) (fun q5 => ?_)
  · skip
    refine lv_aload_n hx hb dX0_lookAt_18 rfl (lv_at hl 0 rfl) ?_
    refine wr_gr hx hb hown hK hts iX0 (ci := 0) rfl 0 (by decide) f11 rfl hw 334 (by omega) 335 cs_A rfl dX0_lookAt_19 ?_
    refine lv_iload_n hx hb dX0_lookAt_22 rfl (lv_at hl 3 rfl) ?_
    refine wr_aldN hx hb hK hw 335 (by omega) cs_AF rfl (by decide) b rfl (by omega) dX0_lookAt_23 ?_
    refine lv_astore (lv' := [(4, .ref (ad (297 + 2 * b))), (0, .ref (ad 334)), (1, .ref (ad 330)), (2, .ref (ad 332)), (3, .int (nI b))]) hx hb dX0_lookAt_24 hl (by decide) rfl (fun ls hl => ?_)
    refine lv_aload_n hx hb dX0_lookAt_26 rfl (lv_at hl 1 rfl) ?_
    refine wr_gr hx hb hown hK hts iX0 (ci := 0) rfl 2 (by decide) f24 rfl hw 334 (by omega) (3 * 2) cs_A rfl dX0_lookAt_27 ?_
    refine lv_aload hx hb dX0_lookAt_30 (lv_at hl 0 rfl) ?_
    refine wr_gr hx hb hown hK hts iX4 (ci := 3) rfl 0 (by decide) f53 rfl hw (297 + 2 * b) (by omega) (3 * (3 + 4 * b)) (cs_F (by omega)) rfl dX0_lookAt_32 ?_
    refine wr_cVv (k := 3 * 2) (ci := 6) (As := [.ref (ad (3 * (3 + 4 * b)))]) (rest := []) ⟨hx, hb, hml, hown, hts⟩ (cwV 1 hts gX0_lookAt_X7_become rfl rfl rfl (by decide +kernel) ⟨Nat.le_of_ble_eq_true rfl, Nat.le_of_ble_eq_true rfl⟩) hK hA hw (k_X7_become l D ad cs H.size M2 J 2 (3 + 4 * b) (by omega) (by omega) (zA _ (by omega))) (by omega) (cs_S (by omega)) rfl rfl rfl hl.1 (Nat.le_of_ble_eq_true rfl) ⟨Nat.le_of_ble_eq_true rfl, Nat.le_of_ble_eq_true rfl⟩ dX0_lookAt_35 (fun M7 J8 H locs h9 hw => ?_)
    cases h9
    refine lv_aload_n hx hb dX0_lookAt_38 rfl (lv_at hl 1 rfl) ?_
    refine wr_gr hx hb hown hK hts iX0 (ci := 0) rfl 2 (by decide) f24 rfl hw 334 (by omega) (3 * 2) cs_A rfl dX0_lookAt_39 ?_
    refine lv_aload_n hx hb dX0_lookAt_42 rfl (lv_at hl 1 rfl) ?_
    refine wr_gr hx hb hown hK hts iX0 (ci := 0) rfl 1 (by decide) f20 rfl hw 334 (by omega) (3 * 1) cs_A rfl dX0_lookAt_43 ?_
    refine wr_cVv (k := 3 * 2) (ci := 6) (As := [.ref (ad (3 * 1))]) (rest := []) ⟨hx, hb, hml, hown, hts⟩ (cwV 1 hts gX0_lookAt_X7_join rfl rfl rfl (by decide +kernel) ⟨Nat.le_of_ble_eq_true rfl, Nat.le_of_ble_eq_true rfl⟩) hK hA hw (k_X7_join l D ad cs H.size (F_X7_become M2 2 (3 + 4 * b)) J 2 1 (by omega) (by omega) (by omega) (by rw [become_z]; exact zA _ (by omega)) (by rw [become_kp (3 * 1) (by unfold stc; omega)]; exact zA 1 (by omega))) (by omega) (cs_S (by omega)) rfl rfl rfl hl.1 (Nat.le_of_ble_eq_true rfl) ⟨Nat.le_of_ble_eq_true rfl, Nat.le_of_ble_eq_true rfl⟩ dX0_lookAt_46 (fun M11 J12 H locs h13 hw => ?_)
    have h13J : J12 = J := h13.1
    rw [h13J] at hw h13
    have hLJ := LJ_1 hb16 hN.2.1 h4 h13
    have eG : gat M (XM M) cnt b = gatA M0 E cnt b := AN_gat hN hc16
    have hNn : ¬ gatA M0 E cnt b = none := (by rw [← eG, ← h4.2.2.2]; exact sv_nn q5)
    rw [eG, (hN.2.2 b hb16).1] at hLJ
    have eE : sv M11 (3 + 4 * b) = E b := (sv_kp hLJ.1 (by unfold stc; omega) (by unfold stc; omega) (by unfold stc; omega)).trans (hN.2.2 b hb16).1
    refine lv_aload hx hb dX0_lookAt_49 (lv_at hl 0 rfl) ?_
    refine wr_gr hx hb hown hK hts iX4 (ci := 3) rfl 0 (by decide) f53 rfl hw (297 + 2 * b) (by omega) (3 * (3 + 4 * b)) (cs_F (by omega)) rfl dX0_lookAt_51 ?_
    refine wr_gi hx hb hown hK hts iX7 (ci := 6) rfl 0 (by decide) f49 rfl hw (3 * (3 + 4 * b)) (by omega) (cs_S (by omega)) rfl dX0_lookAt_54 ?_
    refine lv_if_ne (tgt := 85) hx hb dX0_lookAt_57 (by decide) (fun q14 => ?_) (fun q14 => ?_)
    · skip
      refine lv_aload_n hx hb dX0_lookAt_85 rfl (lv_at hl 1 rfl) ?_
      refine wr_gr hx hb hown hK hts iX0 (ci := 0) rfl 2 (by decide) f24 rfl hw 334 (by omega) (3 * 2) cs_A rfl dX0_lookAt_86 ?_
      refine lv_aload hx hb dX0_lookAt_89 (lv_at hl 0 rfl) ?_
      refine wr_gr hx hb hown hK hts iX4 (ci := 3) rfl 0 (by decide) f53 rfl hw (297 + 2 * b) (by omega) (3 * (3 + 4 * b)) (cs_F (by omega)) rfl dX0_lookAt_91 ?_
      refine wr_cVi (k := 3 * 2) (ci := 6) (As := [.ref (ad (3 * (3 + 4 * b)))]) (rest := []) ⟨hx, hb, hml, hown, hts⟩ (cwV 1 hts gX0_lookAt_X7_differsFrom rfl rfl rfl (by decide +kernel) ⟨Nat.le_of_ble_eq_true rfl, Nat.le_of_ble_eq_true rfl⟩) hK hA hw (k_X7_differsFrom l D ad cs H.size M11 J 2 (3 + 4 * b) (by omega) (by omega) (hLJ.2.1 _ (by omega)) (hLJ.2.1 _ (by omega))) (by omega) (cs_S (by omega)) rfl rfl rfl hl.1 (Nat.le_of_ble_eq_true rfl) ⟨Nat.le_of_ble_eq_true rfl, Nat.le_of_ble_eq_true rfl⟩ dX0_lookAt_94 (fun r15 M16 J17 H locs h18 hw => ?_)
      rw [← nEn_1 (V := V) (t := tt) (by rw [← eE]; exact sv_none q14)] at hLJ
      obtain ⟨h18u, h18z, h18d⟩ := h18
      cases h18u
      refine lv_if_ne (tgt := 102) hx hb dX0_lookAt_97 (by decide) (fun q19 => ?_) (fun q19 => ?_)
      · skip
        refine lv_aload hx hb dX0_lookAt_102 (lv_at hl 0 rfl) ?_
        refine wr_gr hx hb hown hK hts iX4 (ci := 3) rfl 0 (by decide) f53 rfl hw (297 + 2 * b) (by omega) (3 * (3 + 4 * b)) (cs_F (by omega)) rfl dX0_lookAt_104 ?_
        refine lv_aload_n hx hb dX0_lookAt_107 rfl (lv_at hl 1 rfl) ?_
        refine wr_gr hx hb hown hK hts iX0 (ci := 0) rfl 2 (by decide) f24 rfl hw 334 (by omega) (3 * 2) cs_A rfl dX0_lookAt_108 ?_
        refine wr_cVv (k := 3 * (3 + 4 * b)) (ci := 6) (As := [.ref (ad (3 * 2))]) (rest := []) ⟨hx, hb, hml, hown, hts⟩ (cwV 1 hts gX0_lookAt_X7_become rfl rfl rfl (by decide +kernel) ⟨Nat.le_of_ble_eq_true rfl, Nat.le_of_ble_eq_true rfl⟩) hK hA hw (k_X7_become l D ad cs H.size M11 J (3 + 4 * b) 2 (by omega) (by omega) (hLJ.2.1 _ (by omega))) (by omega) (cs_S (by omega)) rfl rfl rfl hl.1 (Nat.le_of_ble_eq_true rfl) ⟨Nat.le_of_ble_eq_true rfl, Nat.le_of_ble_eq_true rfl⟩ dX0_lookAt_111 (fun M21 J22 H locs h23 hw => ?_)
        cases h23
        refine lv_aload hx hb dX0_lookAt_114 (lv_at hl 0 rfl) ?_
        refine lv_dup hx hb dX0_lookAt_116 rfl ?_
        refine wr_gi hx hb hown hK hts iX4 (ci := 3) rfl 3 (by decide) f63 rfl hw (297 + 2 * b) (by omega) (cs_F (by omega)) rfl dX0_lookAt_117 ?_
        refine lv_iconst (v := nI 1) hx hb dX0_lookAt_120 (by decide) ?_
        refine lv_iadd hx hb dX0_lookAt_121 ?_
        refine wr_pi hx hb hown hK hts iX4 tyX4_ok nmX4 (ci := 3) rfl 3 (by decide) f63 rfl rfl hw (297 + 2 * b) (by omega) (cs_F (by omega)) rfl rfl rfl dX0_lookAt_122 (fun H locs hw => ?_)
        refine lv_aload hx hb dX0_lookAt_125 (lv_at hl 0 rfl) ?_
        refine lv_aload_n hx hb dX0_lookAt_127 rfl (lv_at hl 2 rfl) ?_
        refine wr_gr hx hb hown hK hts iX5 (ci := 4) rfl 0 (by decide) f79 rfl hw 330 (by omega) 331 cs_P rfl dX0_lookAt_128 ?_
        refine lv_iload_n hx hb dX0_lookAt_131 rfl (lv_at hl 4 rfl) ?_
        refine wr_aldN hx hb hK hw 331 (by omega) cs_PB rfl (by decide) b rfl (by omega) dX0_lookAt_132 ?_
        refine wr_cVv (k := 297 + 2 * b) (ci := 3) (As := [.ref (ad (201 + 6 * b))]) (rest := []) ⟨hx, hb, hml, hown, hts⟩ (cwV 1 hts gX0_lookAt_X4_makeAnew rfl rfl rfl (by decide +kernel) ⟨Nat.le_of_ble_eq_true rfl, Nat.le_of_ble_eq_true rfl⟩) hK hA hw (k_X4_makeAnew l D ad cs H.size (wU (F_X7_become M11 (3 + 4 * b) 2) (297 + 2 * b) 3 ((((F_X7_become M11 (3 + 4 * b) 2) (297 + 2 * b) 3) + (nI 1)))) J b (by omega) (by rw [wU_ne (by omega), become_z]; exact hLJ.2.1 2 (by omega)) (fun e1 he => by rw [wU_ne (by omega), become_kp (3 * (5 + 4 * b + e1)) (by unfold stc; omega)]; exact hLJ.2.1 _ (by omega)) (bkE_bl (bkE_trans (AN_bkE hN) (bkE_trans (bkE_kp hLJ.1 (fun c h1 h2 => by unfold stc; omega)) (bkE_trans (bkE_st become_kp (by omega)) (fun c h1 h2 => wU_ne (by omega))))) hb16 (hp.2.2.1 b hb16).1) (bkE_ed (bkE_trans (AN_bkE hN) (bkE_trans (bkE_kp hLJ.1 (fun c h1 h2 => by unfold stc; omega)) (bkE_trans (bkE_st become_kp (by omega)) (fun c h1 h2 => wU_ne (by omega))))) hb16 (hp.2.2.1 b hb16).2)) (by omega) (cs_F (by omega)) rfl rfl rfl hl.1 (Nat.le_of_ble_eq_true rfl) ⟨Nat.le_of_ble_eq_true rfl, Nat.le_of_ble_eq_true rfl⟩ dX0_lookAt_133 (fun M25 J26 H locs h27 hw => ?_)
        have h27J : J26 = J := h27.1
        rw [h27J] at hw h27
        refine lv_iconst (v := nI 1) hx hb dX0_lookAt_136 (by decide) ?_
        exact wr_iret hx hb hr (by decide) hK hw (pLk_3 hb16 hEd hN hNn hLJ (fun z => q19 ((h18d.mpr z).trans nI_0)) h27) hlocks dX0_lookAt_137
      · skip
        refine lv_iconst (v := nI 0) hx hb dX0_lookAt_100 (by decide) ?_
        exact wr_iret hx hb hr (by decide) hK hw (pLk_2 hb16 hN hLJ (h18d.mp (q19.trans nI_0.symm))) hlocks dX0_lookAt_101
    · skip
      refine lv_aload hx hb dX0_lookAt_60 (lv_at hl 0 rfl) ?_
      refine wr_gi hx hb hown hK hts iX4 (ci := 3) rfl 3 (by decide) f63 rfl hw (297 + 2 * b) (by omega) (cs_F (by omega)) rfl dX0_lookAt_62 ?_
      rw [show M11 (297 + 2 * b) 3 = V b from ((congrFun (hLJ.1 (297 + 2 * b) (by unfold stc; omega)) 3).trans (hN.2.2 b hb16).2.1)]
      refine lv_aload_n hx hb dX0_lookAt_65 rfl (lv_at hl 3 rfl) ?_
      refine wr_gi hx hb hown hK hts iX6 (ci := 5) rfl 0 (by decide) f66 rfl hw 332 (by omega) cs_T rfl dX0_lookAt_66 ?_
      rw [show M11 332 0 = M0 332 0 from ((congrFun (hLJ.1 332 (by unfold stc; omega)) 0).trans (congrFun (hN.1 332 (by unfold anC; omega)) 0))]
      refine lv_icmp_lt (tgt := 85) hx hb dX0_lookAt_69 (by decide) (fun q28 => ?_) (fun q28 => ?_)
      · skip
        refine lv_aload_n hx hb dX0_lookAt_85 rfl (lv_at hl 1 rfl) ?_
        refine wr_gr hx hb hown hK hts iX0 (ci := 0) rfl 2 (by decide) f24 rfl hw 334 (by omega) (3 * 2) cs_A rfl dX0_lookAt_86 ?_
        refine lv_aload hx hb dX0_lookAt_89 (lv_at hl 0 rfl) ?_
        refine wr_gr hx hb hown hK hts iX4 (ci := 3) rfl 0 (by decide) f53 rfl hw (297 + 2 * b) (by omega) (3 * (3 + 4 * b)) (cs_F (by omega)) rfl dX0_lookAt_91 ?_
        refine wr_cVi (k := 3 * 2) (ci := 6) (As := [.ref (ad (3 * (3 + 4 * b)))]) (rest := []) ⟨hx, hb, hml, hown, hts⟩ (cwV 1 hts gX0_lookAt_X7_differsFrom rfl rfl rfl (by decide +kernel) ⟨Nat.le_of_ble_eq_true rfl, Nat.le_of_ble_eq_true rfl⟩) hK hA hw (k_X7_differsFrom l D ad cs H.size M11 J 2 (3 + 4 * b) (by omega) (by omega) (hLJ.2.1 _ (by omega)) (hLJ.2.1 _ (by omega))) (by omega) (cs_S (by omega)) rfl rfl rfl hl.1 (Nat.le_of_ble_eq_true rfl) ⟨Nat.le_of_ble_eq_true rfl, Nat.le_of_ble_eq_true rfl⟩ dX0_lookAt_94 (fun r29 M30 J31 H locs h32 hw => ?_)
        rw [← nEn_2 (V := V) (t := tt) q28] at hLJ
        obtain ⟨h32u, h32z, h32d⟩ := h32
        cases h32u
        refine lv_if_ne (tgt := 102) hx hb dX0_lookAt_97 (by decide) (fun q33 => ?_) (fun q33 => ?_)
        · skip
          refine lv_aload hx hb dX0_lookAt_102 (lv_at hl 0 rfl) ?_
          refine wr_gr hx hb hown hK hts iX4 (ci := 3) rfl 0 (by decide) f53 rfl hw (297 + 2 * b) (by omega) (3 * (3 + 4 * b)) (cs_F (by omega)) rfl dX0_lookAt_104 ?_
          refine lv_aload_n hx hb dX0_lookAt_107 rfl (lv_at hl 1 rfl) ?_
          refine wr_gr hx hb hown hK hts iX0 (ci := 0) rfl 2 (by decide) f24 rfl hw 334 (by omega) (3 * 2) cs_A rfl dX0_lookAt_108 ?_
          refine wr_cVv (k := 3 * (3 + 4 * b)) (ci := 6) (As := [.ref (ad (3 * 2))]) (rest := []) ⟨hx, hb, hml, hown, hts⟩ (cwV 1 hts gX0_lookAt_X7_become rfl rfl rfl (by decide +kernel) ⟨Nat.le_of_ble_eq_true rfl, Nat.le_of_ble_eq_true rfl⟩) hK hA hw (k_X7_become l D ad cs H.size M11 J (3 + 4 * b) 2 (by omega) (by omega) (hLJ.2.1 _ (by omega))) (by omega) (cs_S (by omega)) rfl rfl rfl hl.1 (Nat.le_of_ble_eq_true rfl) ⟨Nat.le_of_ble_eq_true rfl, Nat.le_of_ble_eq_true rfl⟩ dX0_lookAt_111 (fun M35 J36 H locs h37 hw => ?_)
          cases h37
          refine lv_aload hx hb dX0_lookAt_114 (lv_at hl 0 rfl) ?_
          refine lv_dup hx hb dX0_lookAt_116 rfl ?_
          refine wr_gi hx hb hown hK hts iX4 (ci := 3) rfl 3 (by decide) f63 rfl hw (297 + 2 * b) (by omega) (cs_F (by omega)) rfl dX0_lookAt_117 ?_
          refine lv_iconst (v := nI 1) hx hb dX0_lookAt_120 (by decide) ?_
          refine lv_iadd hx hb dX0_lookAt_121 ?_
          refine wr_pi hx hb hown hK hts iX4 tyX4_ok nmX4 (ci := 3) rfl 3 (by decide) f63 rfl rfl hw (297 + 2 * b) (by omega) (cs_F (by omega)) rfl rfl rfl dX0_lookAt_122 (fun H locs hw => ?_)
          refine lv_aload hx hb dX0_lookAt_125 (lv_at hl 0 rfl) ?_
          refine lv_aload_n hx hb dX0_lookAt_127 rfl (lv_at hl 2 rfl) ?_
          refine wr_gr hx hb hown hK hts iX5 (ci := 4) rfl 0 (by decide) f79 rfl hw 330 (by omega) 331 cs_P rfl dX0_lookAt_128 ?_
          refine lv_iload_n hx hb dX0_lookAt_131 rfl (lv_at hl 4 rfl) ?_
          refine wr_aldN hx hb hK hw 331 (by omega) cs_PB rfl (by decide) b rfl (by omega) dX0_lookAt_132 ?_
          refine wr_cVv (k := 297 + 2 * b) (ci := 3) (As := [.ref (ad (201 + 6 * b))]) (rest := []) ⟨hx, hb, hml, hown, hts⟩ (cwV 1 hts gX0_lookAt_X4_makeAnew rfl rfl rfl (by decide +kernel) ⟨Nat.le_of_ble_eq_true rfl, Nat.le_of_ble_eq_true rfl⟩) hK hA hw (k_X4_makeAnew l D ad cs H.size (wU (F_X7_become M11 (3 + 4 * b) 2) (297 + 2 * b) 3 ((((F_X7_become M11 (3 + 4 * b) 2) (297 + 2 * b) 3) + (nI 1)))) J b (by omega) (by rw [wU_ne (by omega), become_z]; exact hLJ.2.1 2 (by omega)) (fun e1 he => by rw [wU_ne (by omega), become_kp (3 * (5 + 4 * b + e1)) (by unfold stc; omega)]; exact hLJ.2.1 _ (by omega)) (bkE_bl (bkE_trans (AN_bkE hN) (bkE_trans (bkE_kp hLJ.1 (fun c h1 h2 => by unfold stc; omega)) (bkE_trans (bkE_st become_kp (by omega)) (fun c h1 h2 => wU_ne (by omega))))) hb16 (hp.2.2.1 b hb16).1) (bkE_ed (bkE_trans (AN_bkE hN) (bkE_trans (bkE_kp hLJ.1 (fun c h1 h2 => by unfold stc; omega)) (bkE_trans (bkE_st become_kp (by omega)) (fun c h1 h2 => wU_ne (by omega))))) hb16 (hp.2.2.1 b hb16).2)) (by omega) (cs_F (by omega)) rfl rfl rfl hl.1 (Nat.le_of_ble_eq_true rfl) ⟨Nat.le_of_ble_eq_true rfl, Nat.le_of_ble_eq_true rfl⟩ dX0_lookAt_133 (fun M39 J40 H locs h41 hw => ?_)
          have h41J : J40 = J := h41.1
          rw [h41J] at hw h41
          refine lv_iconst (v := nI 1) hx hb dX0_lookAt_136 (by decide) ?_
          exact wr_iret hx hb hr (by decide) hK hw (pLk_3 hb16 hEd hN hNn hLJ (fun z => q33 ((h32d.mpr z).trans nI_0)) h41) hlocks dX0_lookAt_137
        · skip
          refine lv_iconst (v := nI 0) hx hb dX0_lookAt_100 (by decide) ?_
          exact wr_iret hx hb hr (by decide) hK hw (pLk_2 hb16 hN hLJ (h32d.mp (q33.trans nI_0.symm))) hlocks dX0_lookAt_101
      · skip
        refine lv_aload_n hx hb dX0_lookAt_72 rfl (lv_at hl 3 rfl) ?_
        refine lv_aload_n hx hb dX0_lookAt_73 rfl (lv_at hl 1 rfl) ?_
        refine wr_gr hx hb hown hK hts iX0 (ci := 0) rfl 2 (by decide) f24 rfl hw 334 (by omega) (3 * 2) cs_A rfl dX0_lookAt_74 ?_
        refine lv_aload hx hb dX0_lookAt_77 (lv_at hl 0 rfl) ?_
        refine wr_gr hx hb hown hK hts iX4 (ci := 3) rfl 0 (by decide) f53 rfl hw (297 + 2 * b) (by omega) (3 * (3 + 4 * b)) (cs_F (by omega)) rfl dX0_lookAt_79 ?_
        refine wr_cVv (k := 332) (ci := 5) (As := [.ref (ad (3 * 2)), .ref (ad (3 * (3 + 4 * b)))]) (rest := []) ⟨hx, hb, hml, hown, hts⟩ (cwV 2 hts gX0_lookAt_X6_widen rfl rfl rfl (by decide +kernel) ⟨Nat.le_of_ble_eq_true rfl, Nat.le_of_ble_eq_true rfl⟩) hK hA hw (k_X6_widen l D ad cs H.size M11 J 2 (3 + 4 * b) tt (by omega) (by omega) (by omega) ((congrFun (hLJ.1 332 (by unfold stc; omega)) 2).trans ((congrFun (hN.1 332 (by unfold anC; omega)) 2).trans hp.2.2.2.1)) hp.2.2.2.2 (sv_z (by rw [hLJ.2.2]; exact jn_some hNn)) q14) (by omega) cs_T rfl rfl rfl hl.1 (Nat.le_of_ble_eq_true rfl) ⟨Nat.le_of_ble_eq_true rfl, Nat.le_of_ble_eq_true rfl⟩ dX0_lookAt_82 (fun M43 J44 H locs h45 hw => ?_)
        have h45J : J44 = J := h45.1
        rw [h45J] at hw h45
        have hLJ := LJ_2 hb16 hLJ h45
        rw [(hN.2.2 b hb16).1, wd_eq (M := M0) (hN.1 333 (by unfold anC; omega)), ← nEn_3 (V := V) (by rw [← eE]; exact sv_nn q14) q28] at hLJ
        refine lv_aload_n hx hb dX0_lookAt_85 rfl (lv_at hl 1 rfl) ?_
        refine wr_gr hx hb hown hK hts iX0 (ci := 0) rfl 2 (by decide) f24 rfl hw 334 (by omega) (3 * 2) cs_A rfl dX0_lookAt_86 ?_
        refine lv_aload hx hb dX0_lookAt_89 (lv_at hl 0 rfl) ?_
        refine wr_gr hx hb hown hK hts iX4 (ci := 3) rfl 0 (by decide) f53 rfl hw (297 + 2 * b) (by omega) (3 * (3 + 4 * b)) (cs_F (by omega)) rfl dX0_lookAt_91 ?_
        refine wr_cVi (k := 3 * 2) (ci := 6) (As := [.ref (ad (3 * (3 + 4 * b)))]) (rest := []) ⟨hx, hb, hml, hown, hts⟩ (cwV 1 hts gX0_lookAt_X7_differsFrom rfl rfl rfl (by decide +kernel) ⟨Nat.le_of_ble_eq_true rfl, Nat.le_of_ble_eq_true rfl⟩) hK hA hw (k_X7_differsFrom l D ad cs H.size M43 J 2 (3 + 4 * b) (by omega) (by omega) (hLJ.2.1 _ (by omega)) (hLJ.2.1 _ (by omega))) (by omega) (cs_S (by omega)) rfl rfl rfl hl.1 (Nat.le_of_ble_eq_true rfl) ⟨Nat.le_of_ble_eq_true rfl, Nat.le_of_ble_eq_true rfl⟩ dX0_lookAt_94 (fun r46 M47 J48 H locs h49 hw => ?_)
        obtain ⟨h49u, h49z, h49d⟩ := h49
        cases h49u
        refine lv_if_ne (tgt := 102) hx hb dX0_lookAt_97 (by decide) (fun q50 => ?_) (fun q50 => ?_)
        · skip
          refine lv_aload hx hb dX0_lookAt_102 (lv_at hl 0 rfl) ?_
          refine wr_gr hx hb hown hK hts iX4 (ci := 3) rfl 0 (by decide) f53 rfl hw (297 + 2 * b) (by omega) (3 * (3 + 4 * b)) (cs_F (by omega)) rfl dX0_lookAt_104 ?_
          refine lv_aload_n hx hb dX0_lookAt_107 rfl (lv_at hl 1 rfl) ?_
          refine wr_gr hx hb hown hK hts iX0 (ci := 0) rfl 2 (by decide) f24 rfl hw 334 (by omega) (3 * 2) cs_A rfl dX0_lookAt_108 ?_
          refine wr_cVv (k := 3 * (3 + 4 * b)) (ci := 6) (As := [.ref (ad (3 * 2))]) (rest := []) ⟨hx, hb, hml, hown, hts⟩ (cwV 1 hts gX0_lookAt_X7_become rfl rfl rfl (by decide +kernel) ⟨Nat.le_of_ble_eq_true rfl, Nat.le_of_ble_eq_true rfl⟩) hK hA hw (k_X7_become l D ad cs H.size M43 J (3 + 4 * b) 2 (by omega) (by omega) (hLJ.2.1 _ (by omega))) (by omega) (cs_S (by omega)) rfl rfl rfl hl.1 (Nat.le_of_ble_eq_true rfl) ⟨Nat.le_of_ble_eq_true rfl, Nat.le_of_ble_eq_true rfl⟩ dX0_lookAt_111 (fun M52 J53 H locs h54 hw => ?_)
          cases h54
          refine lv_aload hx hb dX0_lookAt_114 (lv_at hl 0 rfl) ?_
          refine lv_dup hx hb dX0_lookAt_116 rfl ?_
          refine wr_gi hx hb hown hK hts iX4 (ci := 3) rfl 3 (by decide) f63 rfl hw (297 + 2 * b) (by omega) (cs_F (by omega)) rfl dX0_lookAt_117 ?_
          refine lv_iconst (v := nI 1) hx hb dX0_lookAt_120 (by decide) ?_
          refine lv_iadd hx hb dX0_lookAt_121 ?_
          refine wr_pi hx hb hown hK hts iX4 tyX4_ok nmX4 (ci := 3) rfl 3 (by decide) f63 rfl rfl hw (297 + 2 * b) (by omega) (cs_F (by omega)) rfl rfl rfl dX0_lookAt_122 (fun H locs hw => ?_)
          refine lv_aload hx hb dX0_lookAt_125 (lv_at hl 0 rfl) ?_
          refine lv_aload_n hx hb dX0_lookAt_127 rfl (lv_at hl 2 rfl) ?_
          refine wr_gr hx hb hown hK hts iX5 (ci := 4) rfl 0 (by decide) f79 rfl hw 330 (by omega) 331 cs_P rfl dX0_lookAt_128 ?_
          refine lv_iload_n hx hb dX0_lookAt_131 rfl (lv_at hl 4 rfl) ?_
          refine wr_aldN hx hb hK hw 331 (by omega) cs_PB rfl (by decide) b rfl (by omega) dX0_lookAt_132 ?_
          refine wr_cVv (k := 297 + 2 * b) (ci := 3) (As := [.ref (ad (201 + 6 * b))]) (rest := []) ⟨hx, hb, hml, hown, hts⟩ (cwV 1 hts gX0_lookAt_X4_makeAnew rfl rfl rfl (by decide +kernel) ⟨Nat.le_of_ble_eq_true rfl, Nat.le_of_ble_eq_true rfl⟩) hK hA hw (k_X4_makeAnew l D ad cs H.size (wU (F_X7_become M43 (3 + 4 * b) 2) (297 + 2 * b) 3 ((((F_X7_become M43 (3 + 4 * b) 2) (297 + 2 * b) 3) + (nI 1)))) J b (by omega) (by rw [wU_ne (by omega), become_z]; exact hLJ.2.1 2 (by omega)) (fun e1 he => by rw [wU_ne (by omega), become_kp (3 * (5 + 4 * b + e1)) (by unfold stc; omega)]; exact hLJ.2.1 _ (by omega)) (bkE_bl (bkE_trans (AN_bkE hN) (bkE_trans (bkE_kp hLJ.1 (fun c h1 h2 => by unfold stc; omega)) (bkE_trans (bkE_st become_kp (by omega)) (fun c h1 h2 => wU_ne (by omega))))) hb16 (hp.2.2.1 b hb16).1) (bkE_ed (bkE_trans (AN_bkE hN) (bkE_trans (bkE_kp hLJ.1 (fun c h1 h2 => by unfold stc; omega)) (bkE_trans (bkE_st become_kp (by omega)) (fun c h1 h2 => wU_ne (by omega))))) hb16 (hp.2.2.1 b hb16).2)) (by omega) (cs_F (by omega)) rfl rfl rfl hl.1 (Nat.le_of_ble_eq_true rfl) ⟨Nat.le_of_ble_eq_true rfl, Nat.le_of_ble_eq_true rfl⟩ dX0_lookAt_133 (fun M56 J57 H locs h58 hw => ?_)
          have h58J : J57 = J := h58.1
          rw [h58J] at hw h58
          refine lv_iconst (v := nI 1) hx hb dX0_lookAt_136 (by decide) ?_
          exact wr_iret hx hb hr (by decide) hK hw (pLk_3 hb16 hEd hN hNn hLJ (fun z => q50 ((h49d.mpr z).trans nI_0)) h58) hlocks dX0_lookAt_137
        · skip
          refine lv_iconst (v := nI 0) hx hb dX0_lookAt_100 (by decide) ?_
          exact wr_iret hx hb hr (by decide) hK hw (pLk_2 hb16 hN hLJ (h49d.mp (q50.trans nI_0.symm))) hlocks dX0_lookAt_101
  · skip
    refine lv_iconst (v := nI 0) hx hb dX0_lookAt_16 (by decide) ?_
    exact wr_iret hx hb hr (by decide) hK hw (pLk_1 hc16 hN h4 q5) hlocks dX0_lookAt_17
set_option maxHeartbeats 4000000 in
set_option maxRecDepth 100000 in
theorem k_X0_narrow (l : Launch) (D : va_G) (ad : Nat → Nat) (cs : Nat → ClassId) (sz : Nat) (M : wM) (J : wJ) (b : Nat) (M0 : wM) (E : Nat → aS) (V : Nat → Int32) (cnt : Nat) (tt : Nat) (hbc : b < cnt) (hp : prOK M0 cnt tt) (hN : AN M0 M E V) : wCv l yX0_narrow wsX0_narrow { frames := 5, cells := 0, slots := 0, locals := 128 } D 340 cSh ad cs [.ref (ad 334), .ref (ad 330), .int (nI b)] sz M J (pNr M0 J E V cnt b) := by
  refine wC_v (cc := cX0_narrow) (maxL := 4) (ret := none) (by decide) rfl (Nat.le_of_ble_eq_true rfl) ?_
  intro p e s m below meth c ls A hx hb hr hml hown hts hlocks hK hA hw hl hAe
  clear hAe
  have hl : lv_has ls 4 [(0, .ref (ad 334)), (1, .ref (ad 330)), (2, .int (nI b))] := hl
  have f11 : (Cond.fieldLink RX0 11 "RangePropagator$Analysis" "flows" "[LRangePropagator$Flow;").before _ s = true := hts _ (by decide +kernel)
  have iX0 : ∀ w ∈ wsX00, w ∈ wsX0_narrow := by decide +kernel
  have f53 : (Cond.fieldLink RX0 53 "RangePropagator$Flow" "entryState" "LRangePropagator$State;").before _ s = true := hts _ (by decide +kernel)
  have iX4 : ∀ w ∈ wsX40, w ∈ wsX0_narrow := by decide +kernel
  have f49 : (Cond.fieldLink RX0 49 "RangePropagator$State" "isNone" "Z").before _ s = true := hts _ (by decide +kernel)
  have iX7 : ∀ w ∈ wsX70, w ∈ wsX0_narrow := by decide +kernel
  have f20 : (Cond.fieldLink RX0 20 "RangePropagator$Analysis" "incoming" "LRangePropagator$State;").before _ s = true := hts _ (by decide +kernel)
  have f79 : (Cond.fieldLink RX0 79 "RangePropagator$Program" "blocks" "[LRangePropagator$Block;").before _ s = true := hts _ (by decide +kernel)
  have iX5 : ∀ w ∈ wsX50, w ∈ wsX0_narrow := by decide +kernel
  have hc16 : cnt ≤ 16 := hp.2.1
  have hb16 : b < 16 := (by omega)
  have hcM : M 330 2 = nI cnt := (congrFun (hN.1 330 (by unfold anC; omega)) 2).trans hp.1
  have hEd : ∀ q, q < 16 → edOK M0 q := fun q h => (hp.2.2.1 q h).2
  have hEM : ∀ q, q < 16 → edOK M q := fun q h => bkE_ed (AN_bkE hN) h (hEd q h)
  refine lv_aload_n hx hb dX0_narrow_0 rfl (lv_at hl 0 rfl) ?_
  refine wr_gr hx hb hown hK hts iX0 (ci := 0) rfl 0 (by decide) f11 rfl hw 334 (by omega) 335 cs_A rfl dX0_narrow_1 ?_
  refine lv_iload_n hx hb dX0_narrow_4 rfl (lv_at hl 2 rfl) ?_
  refine wr_aldN hx hb hK hw 335 (by omega) cs_AF rfl (by decide) b rfl (by omega) dX0_narrow_5 ?_
  refine lv_astore_n (lv' := [(3, .ref (ad (297 + 2 * b))), (0, .ref (ad 334)), (1, .ref (ad 330)), (2, .int (nI b))]) hx hb dX0_narrow_6 rfl hl (by decide) rfl (fun ls hl => ?_)
  refine lv_aload_n hx hb dX0_narrow_7 rfl (lv_at hl 0 rfl) ?_
  refine wr_gr hx hb hown hK hts iX4 (ci := 3) rfl 0 (by decide) f53 rfl hw (297 + 2 * b) (by omega) (3 * (3 + 4 * b)) (cs_F (by omega)) rfl dX0_narrow_8 ?_
  refine wr_gi hx hb hown hK hts iX7 (ci := 6) rfl 0 (by decide) f49 rfl hw (3 * (3 + 4 * b)) (by omega) (cs_S (by omega)) rfl dX0_narrow_11 ?_
  refine lv_if_eq (tgt := 18) hx hb dX0_narrow_14 (by decide) (fun q1 => ?_) (fun q1 => ?_)
  · skip
    refine lv_aload_n hx hb dX0_narrow_18 rfl (lv_at hl 1 rfl) ?_
    refine lv_aload_n hx hb dX0_narrow_19 rfl (lv_at hl 2 rfl) ?_
    refine lv_iload_n hx hb dX0_narrow_20 rfl (lv_at hl 3 rfl) ?_
    refine wr_cVv (k := 334) (ci := 0) (As := [.ref (ad 330), .int (nI b)]) (rest := []) ⟨hx, hb, hml, hown, hts⟩ (cwV 2 hts gX0_narrow_X0_gatherIncoming rfl rfl rfl (by decide +kernel) ⟨Nat.le_of_ble_eq_true rfl, Nat.le_of_ble_eq_true rfl⟩) hK hA hw (k_X0_gatherIncoming l D ad cs s.heap.size M J b cnt (by omega) hN.2.1 hcM (by omega) hEM) (by omega) cs_A rfl rfl rfl hl.1 (Nat.le_of_ble_eq_true rfl) ⟨Nat.le_of_ble_eq_true rfl, Nat.le_of_ble_eq_true rfl⟩ dX0_narrow_21 (fun M3 J4 H locs h5 hw => ?_)
    have h5J : J4 = J := h5.1
    rw [h5J] at hw h5
    have zA : cZ M3 := cZ_sS (i := 1) hN.2.1 ⟨h5.2.1, h5.2.2.1, h5.2.2.2⟩
    refine lv_aload_n hx hb dX0_narrow_24 rfl (lv_at hl 0 rfl) ?_
    refine wr_gr hx hb hown hK hts iX4 (ci := 3) rfl 0 (by decide) f53 rfl hw (297 + 2 * b) (by omega) (3 * (3 + 4 * b)) (cs_F (by omega)) rfl dX0_narrow_25 ?_
    refine lv_aload_n hx hb dX0_narrow_28 rfl (lv_at hl 1 rfl) ?_
    refine wr_gr hx hb hown hK hts iX0 (ci := 0) rfl 1 (by decide) f20 rfl hw 334 (by omega) (3 * 1) cs_A rfl dX0_narrow_29 ?_
    refine wr_cVv (k := 3 * (3 + 4 * b)) (ci := 6) (As := [.ref (ad (3 * 1))]) (rest := []) ⟨hx, hb, hml, hown, hts⟩ (cwV 1 hts gX0_narrow_X7_narrowTo rfl rfl rfl (by decide +kernel) ⟨Nat.le_of_ble_eq_true rfl, Nat.le_of_ble_eq_true rfl⟩) hK hA hw (k_X7_narrowTo l D ad cs H.size M3 J (3 + 4 * b) 1 (by omega) (by omega) (by omega)) (by omega) (cs_S (by omega)) rfl rfl rfl hl.1 (Nat.le_of_ble_eq_true rfl) ⟨Nat.le_of_ble_eq_true rfl, Nat.le_of_ble_eq_true rfl⟩ dX0_narrow_32 (fun M7 J8 H locs h9 hw => ?_)
    have h9J : J8 = J := h9.1
    rw [h9J] at hw h9
    have zB : cZ M7 := cZ_sS (i := 3 + 4 * b) zA ⟨h9.2.1, h9.2.2.1, h9.2.2.2⟩
    refine lv_aload_n hx hb dX0_narrow_35 rfl (lv_at hl 0 rfl) ?_
    refine lv_aload_n hx hb dX0_narrow_36 rfl (lv_at hl 2 rfl) ?_
    refine wr_gr hx hb hown hK hts iX5 (ci := 4) rfl 0 (by decide) f79 rfl hw 330 (by omega) 331 cs_P rfl dX0_narrow_37 ?_
    refine lv_iload_n hx hb dX0_narrow_40 rfl (lv_at hl 3 rfl) ?_
    refine wr_aldN hx hb hK hw 331 (by omega) cs_PB rfl (by decide) b rfl (by omega) dX0_narrow_41 ?_
    refine wr_cVv (k := 297 + 2 * b) (ci := 3) (As := [.ref (ad (201 + 6 * b))]) (rest := []) ⟨hx, hb, hml, hown, hts⟩ (cwV 1 hts gX0_narrow_X4_makeAnew rfl rfl rfl (by decide +kernel) ⟨Nat.le_of_ble_eq_true rfl, Nat.le_of_ble_eq_true rfl⟩) hK hA hw (k_X4_makeAnew l D ad cs H.size M7 J b (by omega) (zB _ (by omega)) (fun e1 he => zB _ (by omega)) (bkE_bl (bkE_trans (AN_bkE hN) (bkE_trans (bkE_st h5.2.1 (by omega)) (bkE_st h9.2.1 (by omega)))) hb16 (hp.2.2.1 b hb16).1) (bkE_ed (bkE_trans (AN_bkE hN) (bkE_trans (bkE_st h5.2.1 (by omega)) (bkE_st h9.2.1 (by omega)))) hb16 (hp.2.2.1 b hb16).2)) (by omega) (cs_F (by omega)) rfl rfl rfl hl.1 (Nat.le_of_ble_eq_true rfl) ⟨Nat.le_of_ble_eq_true rfl, Nat.le_of_ble_eq_true rfl⟩ dX0_narrow_42 (fun M11 J12 H locs h13 hw => ?_)
    have h13J : J12 = J := h13.1
    rw [h13J] at hw h13
    exact wr_vret hx hb hr hK hw (pNr_2 hb16 hc16 hEd hN q1 h5 h9 h13) hlocks dX0_narrow_45
  · skip
    exact wr_vret hx hb hr hK hw (pNr_1 hb16 hN q1) hlocks dX0_narrow_17
