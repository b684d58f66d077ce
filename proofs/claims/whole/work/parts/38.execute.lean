/-! Execution.execute: laid by wip/gen/specs10.py -/
set_option maxHeartbeats 4000000 in
set_option maxRecDepth 100000 in
theorem k_X3_execute (l : Launch) (D : va_G) (ad : Nat → Nat) (cs : Nat → ClassId) (sz : Nat) (M : wM) (J : wJ) (seed : Int64) (steps : Nat) (hs1 : 1 ≤ steps) (hs3 : steps ≤ 300) (hP : ∀ b, b < 16 → blOK M b ∧ edOK M b) (hF : foOK M) : wCv l yX3_execute wsX3_execute { frames := 4, cells := 0, slots := 0, locals := 100 } D 340 cSh ad cs [.ref (ad 336), .ref (ad 330), .long seed, .int (nI steps)] sz M J (pEx M J seed steps) := by
  refine wC_v (cc := cX3_execute) (maxL := 9) (ret := none) (by decide) rfl (Nat.le_of_ble_eq_true rfl) ?_
  intro p e s m below meth c ls A hx hb hr hml hown hts hlocks hK hA hw hl hAe
  clear hAe
  have hl : lv_has ls 9 [(0, .ref (ad 336)), (1, .ref (ad 330)), (2, .long seed), (4, .int (nI steps))] := hl
  have f25 : (Cond.fieldLink RX3 25 "RangePropagator$Execution" "\x72" "J").before _ s = true := hts _ (by decide +kernel)
  have iX3 : ∀ w ∈ wsX30, w ∈ wsX3_execute := by decide +kernel
  have f29 : (Cond.fieldLink RX3 29 "RangePropagator$Program" "initial" "LRangePropagator$State;").before _ s = true := hts _ (by decide +kernel)
  have iX5 : ∀ w ∈ wsX50, w ∈ wsX3_execute := by decide +kernel
  have f21 : (Cond.fieldLink RX3 21 "RangePropagator$Execution" "stepCount" "I").before _ s = true := hts _ (by decide +kernel)
  have f47 : (Cond.fieldLink RX3 47 "RangePropagator$Program" "blocks" "[LRangePropagator$Block;").before _ s = true := hts _ (by decide +kernel)
  have f59 : (Cond.fieldLink RX3 59 "RangePropagator$Block" "edgeCount" "I").before _ s = true := hts _ (by decide +kernel)
  have iX2 : ∀ w ∈ wsX20, w ∈ wsX3_execute := by decide +kernel
  have f9 : (Cond.fieldLink RX3 9 "RangePropagator$Execution" "values" "[I").before _ s = true := hts _ (by decide +kernel)
  have f35 : (Cond.fieldLink RX3 35 "RangePropagator$State" "low" "[I").before _ s = true := hts _ (by decide +kernel)
  have iX7 : ∀ w ∈ wsX70, w ∈ wsX3_execute := by decide +kernel
  have f40 : (Cond.fieldLink RX3 40 "RangePropagator$State" "high" "[I").before _ s = true := hts _ (by decide +kernel)
  refine lv_aload_n hx hb dX3_execute_0 rfl (lv_at hl 0 rfl) ?_
  refine lv_lload_n hx hb dX3_execute_1 rfl (lv_at hl 2 rfl) ?_
  refine wr_pl hx hb hown hK hts iX3 tyX3_ok nmX3 (ci := 2) rfl 4 (by decide) f25 rfl rfl hw 336 (by omega) cs_Q rfl lone6 rfl rfl dX3_execute_2 (fun H locs hw => ?_)
  refine lv_aload_n hx hb dX3_execute_5 rfl (lv_at hl 1 rfl) ?_
  refine wr_gr hx hb hown hK hts iX5 (ci := 4) rfl 1 (by decide) f29 rfl hw 330 (by omega) (3 * 0) cs_P rfl dX3_execute_6 ?_
  refine lv_astore (lv' := [(5, .ref (ad (3 * 0))), (0, .ref (ad 336)), (1, .ref (ad 330)), (2, .long seed), (4, .int (nI steps))]) hx hb dX3_execute_9 hl (by decide) rfl (fun ls hl => ?_)
  refine lv_iconst (v := nI 0) hx hb dX3_execute_11 (by decide) ?_
  refine lv_istore (lv' := [(6, .int (nI 0)), (5, .ref (ad (3 * 0))), (0, .ref (ad 336)), (1, .ref (ad 330)), (2, .long seed), (4, .int (nI steps))]) hx hb dX3_execute_12 hl (by decide) rfl (fun ls hl => ?_)
  refine w_loop (σ := Nat) (fun k M' J' ls => lv_has ls 9 [(0, .ref (ad 336)), (1, .ref (ad 330)), (2, .long seed), (4, .int (nI steps)), (5, .ref (ad (3 * 0))), (6, .int (nI k))] ∧ J' = va_up J 336 (exI M (M 337) seed k).2 ∧ k ≤ 6 ∧ Iex M seed k M') (fun k => 6 - k) (fun k M1 J1_ H locs ls hI hw ih2 => ?_) 0 ⟨lv_sub hl [2, 3, 4, 5, 1, 0] rfl, rfl, by omega, ⟨kp_refl _ _, rfl⟩⟩ hw
  obtain ⟨hl, eJ_, hk_, hI⟩ := hI
  rw [eJ_] at hw
  clear eJ_
  refine lv_iload hx hb dX3_execute_14 (lv_at hl 5 rfl) ?_
  refine lv_bipush (v := nI 6) hx hb dX3_execute_16 (by decide) ?_
  refine lv_icmp_ge (tgt := 54) hx hb dX3_execute_18 (by decide) (fun q3 => ?_) (fun q3 => ?_)
  · have q3n : 6 ≤ k := (nI_leI (by omega) (by omega)).mp q3
    refine lv_aload_n hx hb dX3_execute_54 rfl (lv_at hl 0 rfl) ?_
    refine lv_iconst (v := nI 0) hx hb dX3_execute_55 (by decide) ?_
    refine wr_pi hx hb hown hK hts iX3 tyX3_ok nmX3 (ci := 2) rfl 3 (by decide) f21 rfl rfl hw 336 (by omega) cs_Q rfl rfl rfl dX3_execute_56 (fun H locs hw => ?_)
    refine lv_iconst (v := nI 0) hx hb dX3_execute_59 (by decide) ?_
    refine lv_istore (lv' := [(6, .int (nI 0)), (0, .ref (ad 336)), (1, .ref (ad 330)), (2, .long seed), (4, .int (nI steps)), (5, .ref (ad (3 * 0)))]) hx hb dX3_execute_60 hl (by decide) rfl (fun ls hl => ?_)
    refine lv_iconst (v := nI 0) hx hb dX3_execute_62 (by decide) ?_
    refine lv_istore (lv' := [(7, .int (nI 0)), (6, .int (nI 0)), (0, .ref (ad 336)), (1, .ref (ad 330)), (2, .long seed), (4, .int (nI steps)), (5, .ref (ad (3 * 0)))]) hx hb dX3_execute_63 hl (by decide) rfl (fun ls hl => ?_)
    refine w_loop (σ := Nat) (fun k M' J' ls => lv_has ls 9 [(0, .ref (ad 336)), (1, .ref (ad 330)), (4, .int (nI steps)), (6, .int (nI ((rnS M (exI M (M 337) seed 6) k).2))), (7, .int (nI k))] ∧ J' = va_up J 336 (rnS M (exI M (M 337) seed 6) k).1.2 ∧ k ≤ steps ∧ (Irun M (exI M (M 337) seed 6) k M' ∧ Icon M (exI M (M 337) seed 6) k)) (fun k => steps - k) (fun k M4 J1_ H locs ls hI hw ih5 => ?_) 0 ⟨lv_sub hl [2, 3, 5, 1, 0] rfl, (by have e9 : k = 6 := (by omega); subst e9; rfl), by omega, (by have e9 : k = 6 := (by omega); subst e9; exact ⟨Irun_0 hI, fun q hq => absurd hq (Nat.not_lt_zero q), (by show 0 < 16; decide)⟩)⟩ hw
    obtain ⟨hl, eJ_, hk_, hI⟩ := hI
    rw [eJ_] at hw
    clear eJ_
    have hat : (rnS M (exI M (M 337) seed 6) k).2 < 16 := hI.2.2
    have hE2 : tn (M (201 + 6 * (rnS M (exI M (M 337) seed 6) k).2) 5) ≤ 2 := (hP (rnS M (exI M (M 337) seed 6) k).2 hat).2.2.1
    refine lv_iload hx hb dX3_execute_65 (lv_at hl 4 rfl) ?_
    refine lv_iload hx hb dX3_execute_67 (lv_at hl 2 rfl) ?_
    refine lv_icmp_ge (tgt := 126) hx hb dX3_execute_69 (by decide) (fun q6 => ?_) (fun q6 => ?_)
    · have q6n : steps ≤ k := (nI_leI (by omega) (by omega)).mp q6
      exact wr_vret hx hb hr hK hw (show pEx M J seed steps _ from ⟨k, by omega, by omega, fun q hq => hI.2.1 q (by omega), Or.inl (by omega), rfl, hI.1⟩) hlocks dX3_execute_126
    · have q6n : ¬ steps ≤ k := fun z => q6 ((nI_leI (by omega) (by omega)).mpr z)
      refine lv_iload hx hb dX3_execute_72 (lv_at hl 4 rfl) ?_
      refine lv_sipush (v := nI 300) hx hb dX3_execute_74 (by decide) ?_
      refine lv_icmp_ge (tgt := 126) hx hb dX3_execute_77 (by decide) (fun q7 => ?_) (fun q7 => ?_)
      · have q7n : 300 ≤ k := (nI_leI (by omega) (by omega)).mp q7
        exfalso; omega
      · have q7n : ¬ 300 ≤ k := fun z => q7 ((nI_leI (by omega) (by omega)).mpr z)
        refine lv_aload_n hx hb dX3_execute_80 rfl (lv_at hl 1 rfl) ?_
        refine wr_gr hx hb hown hK hts iX5 (ci := 4) rfl 0 (by decide) f47 rfl hw 330 (by omega) 331 cs_P rfl dX3_execute_81 ?_
        refine lv_iload hx hb dX3_execute_84 (lv_at hl 3 rfl) ?_
        refine wr_aldN hx hb hK hw 331 (by omega) cs_PB rfl (by decide) ((rnS M (exI M (M 337) seed 6) k).2) rfl hI.2.2 dX3_execute_86 ?_
        refine lv_astore (lv' := [(8, .ref (ad (201 + 6 * ((rnS M (exI M (M 337) seed 6) k).2)))), (0, .ref (ad 336)), (1, .ref (ad 330)), (4, .int (nI steps)), (6, .int (nI ((rnS M (exI M (M 337) seed 6) k).2))), (7, .int (nI k))]) hx hb dX3_execute_87 hl (by decide) rfl (fun ls hl => ?_)
        refine lv_aload_n hx hb dX3_execute_89 rfl (lv_at hl 1 rfl) ?_
        refine lv_iload hx hb dX3_execute_90 (lv_at hl 5 rfl) ?_
        refine lv_iload hx hb dX3_execute_92 (lv_at hl 4 rfl) ?_
        refine wr_cVv (k := 336) (ci := 2) (As := [.int (nI k), .int (nI ((rnS M (exI M (M 337) seed 6) k).2))]) (rest := []) ⟨hx, hb, hml, hown, hts⟩ (cwV 2 hts gX3_execute_X3_noteStep rfl rfl rfl (by decide +kernel) ⟨Nat.le_of_ble_eq_true rfl, Nat.le_of_ble_eq_true rfl⟩) hK hA hw (k_X3_noteStep l D ad cs H.size M4 (va_up J 336 (rnS M (exI M (M 337) seed 6) k).1.2) k ((rnS M (exI M (M 337) seed 6) k).2) (by omega)) (by omega) cs_Q rfl rfl rfl hl.1 (Nat.le_of_ble_eq_true rfl) ⟨Nat.le_of_ble_eq_true rfl, Nat.le_of_ble_eq_true rfl⟩ dX3_execute_94 (fun M9 J10 H locs h11 hw => ?_)
        cases h11
        refine lv_aload_n hx hb dX3_execute_97 rfl (lv_at hl 1 rfl) ?_
        refine lv_aload hx hb dX3_execute_98 (lv_at hl 0 rfl) ?_
        refine wr_cVv (k := 336) (ci := 2) (As := [.ref (ad (201 + 6 * ((rnS M (exI M (M 337) seed 6) k).2)))]) (rest := []) ⟨hx, hb, hml, hown, hts⟩ (cwV 1 hts gX3_execute_X3_perform rfl rfl rfl (by decide +kernel) ⟨Nat.le_of_ble_eq_true rfl, Nat.le_of_ble_eq_true rfl⟩) hK hA hw (k_X3_perform l D ad cs H.size (F_X3_noteStep M4 k ((rnS M (exI M (M 337) seed 6) k).2)) (va_up J 336 (rnS M (exI M (M 337) seed 6) k).1.2) ((rnS M (exI M (M 337) seed 6) k).2) hI.2.2 (bkE_bl (exC_bkE (kp_trans hI.1.1 note_kp)) hI.2.2 (hP (rnS M (exI M (M 337) seed 6) k).2 hI.2.2).1)) (by omega) cs_Q rfl rfl rfl hl.1 (Nat.le_of_ble_eq_true rfl) ⟨Nat.le_of_ble_eq_true rfl, Nat.le_of_ble_eq_true rfl⟩ dX3_execute_100 (fun M13 J14 H locs h15 hw => ?_)
        obtain ⟨h15j, hI3⟩ := Irun_s hI.2.2 hI.1 h15
        have h15j : J14 = va_up J 336 (rnS M (exI M (M 337) seed 6) (k + 1)).1.2 := h15j
        rw [h15j] at hw
        have hI3 : Irun M (exI M (M 337) seed 6) (k + 1) M13 := hI3
        have hbk : bkE M M13 := exC_bkE hI3.1
        refine lv_aload hx hb dX3_execute_103 (lv_at hl 0 rfl) ?_
        refine wr_gi hx hb hown hK hts iX2 (ci := 1) rfl 5 (by decide) f59 rfl hw (201 + 6 * ((rnS M (exI M (M 337) seed 6) k).2)) (by omega) (cs_B (by omega)) rfl dX3_execute_105 ?_
        rw [show M13 (201 + 6 * ((rnS M (exI M (M 337) seed 6) k).2)) 5 = nI (tn (M (201 + 6 * (rnS M (exI M (M 337) seed 6) k).2) 5)) from ((congrFun (exC_bkE hI3.1 (201 + 6 * (rnS M (exI M (M 337) seed 6) k).2) (by omega) (by omega)) 5).trans (hP (rnS M (exI M (M 337) seed 6) k).2 hI.2.2).2.1)]
        refine lv_if_ne (tgt := 112) hx hb dX3_execute_108 (by decide) (fun q16 => ?_) (fun q16 => ?_)
        · skip
          refine lv_aload_n hx hb dX3_execute_112 rfl (lv_at hl 1 rfl) ?_
          refine lv_aload hx hb dX3_execute_113 (lv_at hl 0 rfl) ?_
          refine wr_cVi (k := 336) (ci := 2) (As := [.ref (ad (201 + 6 * ((rnS M (exI M (M 337) seed 6) k).2)))]) (rest := []) ⟨hx, hb, hml, hown, hts⟩ (cwV 1 hts gX3_execute_X3_follower rfl rfl rfl (by decide +kernel) ⟨Nat.le_of_ble_eq_true rfl, Nat.le_of_ble_eq_true rfl⟩) hK hA hw (k_X3_follower l D ad cs H.size M13 (va_up J 336 (rnS M (exI M (M 337) seed 6) (k + 1)).1.2) ((rnS M (exI M (M 337) seed 6) k).2) hI.2.2 (bkE_ed hbk hI.2.2 (hP (rnS M (exI M (M 337) seed 6) k).2 hI.2.2).2)) (by omega) cs_Q rfl rfl rfl hl.1 (Nat.le_of_ble_eq_true rfl) ⟨Nat.le_of_ble_eq_true rfl, Nat.le_of_ble_eq_true rfl⟩ dX3_execute_115 (fun r17 M18 J19 H locs h20 hw => ?_)
          obtain ⟨h20, rfl⟩ := h20
          cases h20
          rw [show flw M13 ((rnS M (exI M (M 337) seed 6) k).2) (M13 337) = nI (tn (flw M (rnS M (exI M (M 337) seed 6) k).2 (exB M (rnS M (exI M (M 337) seed 6) k).2 (rnS M (exI M (M 337) seed 6) k).1).1)) from ((show _ = (flw M (rnS M (exI M (M 337) seed 6) k).2 (exB M (rnS M (exI M (M 337) seed 6) k).2 (rnS M (exI M (M 337) seed 6) k).1).1) by rw [bkE_flw hbk hI.2.2, hI3.2.1]; rfl).trans (flw_ok hF hI.2.2 (fun z => q16 (by rw [z]; rfl))).1)]
          refine lv_istore (lv' := [(6, .int (nI (tn (flw M (rnS M (exI M (M 337) seed 6) k).2 (exB M (rnS M (exI M (M 337) seed 6) k).2 (rnS M (exI M (M 337) seed 6) k).1).1)))), (8, .ref (ad (201 + 6 * ((rnS M (exI M (M 337) seed 6) k).2)))), (0, .ref (ad 336)), (1, .ref (ad 330)), (4, .int (nI steps)), (7, .int (nI k))]) hx hb dX3_execute_118 hl (by decide) rfl (fun ls hl => ?_)
          refine lv_iinc (v := nI (k + 1)) (lv' := [(7, .int (nI (k + 1))), (6, .int (nI (tn (flw M (rnS M (exI M (M 337) seed 6) k).2 (exB M (rnS M (exI M (M 337) seed 6) k).2 (rnS M (exI M (M 337) seed 6) k).1).1)))), (8, .ref (ad (201 + 6 * ((rnS M (exI M (M 337) seed 6) k).2)))), (0, .ref (ad 336)), (1, .ref (ad 330)), (4, .int (nI steps))]) hx hb dX3_execute_120 hl (k := 5) rfl (nI_1 _) (by decide) rfl (fun ls hl => ?_)
          refine lv_goto (tgt := 65) hx hb dX3_execute_123 (by decide) ?_
          exact ih5 (k + 1) M13 (va_up J 336 (rnS M (exI M (M 337) seed 6) (k + 1)).1.2) _ _ _ (by omega) ⟨lv_sub hl [3, 4, 5, 1, 0] rfl, rfl, by omega, ⟨hI3, ⟨fun q hq => (by rcases Nat.lt_succ_iff_lt_or_eq.mp hq with z | z; exact hI.2.1 q z; rw [z]; exact fun y => q16 (by rw [y]; rfl)), (flw_ok hF hI.2.2 (fun z => q16 (by rw [z]; rfl))).2⟩⟩⟩ hw
        · skip
          exact wr_vret hx hb hr hK hw (show pEx M J seed steps _ from ⟨k + 1, by omega, by omega, fun q hq => hI.2.1 q (by omega), Or.inr (by rw [Nat.add_sub_cancel]; exact eN0 (by omega) q16), rfl, hI3⟩) hlocks dX3_execute_111
  · have q3n : ¬ 6 ≤ k := fun z => q3 ((nI_leI (by omega) (by omega)).mpr z)
    refine lv_aload_n hx hb dX3_execute_21 rfl (lv_at hl 0 rfl) ?_
    refine wr_gr hx hb hown hK hts iX3 (ci := 2) rfl 0 (by decide) f9 rfl hw 336 (by omega) 337 cs_Q rfl dX3_execute_22 ?_
    refine lv_iload hx hb dX3_execute_25 (lv_at hl 5 rfl) ?_
    refine lv_aload_n hx hb dX3_execute_27 rfl (lv_at hl 0 rfl) ?_
    refine lv_aload hx hb dX3_execute_28 (lv_at hl 4 rfl) ?_
    refine wr_gr hx hb hown hK hts iX7 (ci := 6) rfl 1 (by decide) f35 rfl hw (3 * 0) (by omega) (3 * 0 + 1) (cs_S (by omega)) rfl dX3_execute_30 ?_
    refine lv_iload hx hb dX3_execute_33 (lv_at hl 5 rfl) ?_
    refine wr_ildN hx hb hK hw (3 * 0 + 1) (by omega) (cs_SL (by omega)) (by decide) k rfl (by omega) dX3_execute_35 ?_
    rw [show M1 (3 * 0 + 1) k = M (3 * 0 + 1) k from (congrFun (hI.1 (3 * 0 + 1) (by omega)) k)]
    refine lv_aload hx hb dX3_execute_36 (lv_at hl 4 rfl) ?_
    refine wr_gr hx hb hown hK hts iX7 (ci := 6) rfl 2 (by decide) f40 rfl hw (3 * 0) (by omega) (3 * 0 + 2) (cs_S (by omega)) rfl dX3_execute_38 ?_
    refine lv_iload hx hb dX3_execute_41 (lv_at hl 5 rfl) ?_
    refine wr_ildN hx hb hK hw (3 * 0 + 2) (by omega) (cs_SH (by omega)) (by decide) k rfl (by omega) dX3_execute_43 ?_
    rw [show M1 (3 * 0 + 2) k = M (3 * 0 + 2) k from (congrFun (hI.1 (3 * 0 + 2) (by omega)) k)]
    refine wr_cVi (k := 336) (ci := 2) (As := [.int (M (3 * 0 + 1) k), .int (M (3 * 0 + 2) k)]) (rest := [.int (nI k), .ref (ad 337)]) ⟨hx, hb, hml, hown, hts⟩ (cwV 2 hts gX3_execute_X3_choose rfl rfl rfl (by decide +kernel) ⟨Nat.le_of_ble_eq_true rfl, Nat.le_of_ble_eq_true rfl⟩) hK hA hw (k_X3_choose l D ad cs H.size M1 (va_up J 336 (exI M (M 337) seed k).2) (M (3 * 0 + 1) k) (M (3 * 0 + 2) k) ) (by omega) cs_Q rfl rfl rfl hl.1 (Nat.le_of_ble_eq_true rfl) ⟨Nat.le_of_ble_eq_true rfl, Nat.le_of_ble_eq_true rfl⟩ dX3_execute_44 (fun r21 M22 J23 H locs h24 hw => ?_)
    obtain ⟨h24u, h24r⟩ := h24
    have h24a : (va_up J 336 (exI M (M 337) seed k).2) 336 = (exI M (M 337) seed k).2 := va_up_self _ _ _
    rw [h24a] at h24u h24r
    rw [J_up] at h24u
    cases h24u
    rw [h24r]
    refine wr_istN hx hb hK hw 337 (by omega) cs_QV (by decide) k rfl (by omega) dX3_execute_47 (fun H locs hw => ?_)
    refine lv_iinc (v := nI (k + 1)) (lv' := [(6, .int (nI (k + 1))), (0, .ref (ad 336)), (1, .ref (ad 330)), (2, .long seed), (4, .int (nI steps)), (5, .ref (ad (3 * 0)))]) hx hb dX3_execute_48 hl (k := 5) rfl (nI_1 _) (by decide) rfl (fun ls hl => ?_)
    refine lv_goto (tgt := 14) hx hb dX3_execute_51 (by decide) ?_
    exact ih2 (k + 1) (wU M1 337 k (chs (exI M (M 337) seed k).2 (M (3 * 0 + 1) k) (M (3 * 0 + 2) k))) (va_up J 336 (rnx (exI M (M 337) seed k).2)) _ _ _ (by omega) ⟨lv_sub hl [1, 2, 3, 4, 5, 0] rfl, rfl, by omega, Iex_s hI⟩ hw
