/-! Execution.execute: laid by wip/gen/specs10.py -/
set_option maxHeartbeats 4000000 in
set_option maxRecDepth 100000 in
theorem k_X3_execute (l : Launch) (D : va_G) (ad : Nat → Nat) (cs : Nat → ClassId) (sz : Nat) (M : wM) (J : wJ) (seed : Int64) (steps : Nat) (hs1 : 1 ≤ steps) (hs3 : steps ≤ 300) (hP : ∀ b, b < 16 → blOK M b ∧ edOK M b) (hF : foOK M) : wCv l yX3_execute wsX3_execute { frames := 4, cells := 0, slots := 0, locals := 100 } D 340 cSh ad cs [.ref (ad 336), .long seed, .int (nI steps)] sz M J (pEx M J seed steps) := by
  refine wC_v (cc := cX3_execute) (maxL := 7) (ret := none) (by decide) rfl (Nat.le_of_ble_eq_true rfl) ?_
  intro p e s m below meth c ls A hx hb hr hml hown hts hlocks hK hA hw hl hAe
  clear hAe
  have hl : lv_has ls 7 [(0, .ref (ad 336)), (1, .long seed), (3, .int (nI steps))] := hl
  have f25 : (Cond.fieldLink RX3 25 "RangePropagator$Execution" "\x72" "J").before _ s = true := hts _ (by decide +kernel)
  have iX3 : ∀ w ∈ wsX30, w ∈ wsX3_execute := by decide +kernel
  have f21 : (Cond.fieldLink RX3 21 "RangePropagator$Execution" "stepCount" "I").before _ s = true := hts _ (by decide +kernel)
  have f29 : (Cond.fieldLink RX3 29 "RangePropagator$Execution" "program" "LRangePropagator$Program;").before _ s = true := hts _ (by decide +kernel)
  have f51 : (Cond.fieldLink RX3 51 "RangePropagator$Program" "blocks" "[LRangePropagator$Block;").before _ s = true := hts _ (by decide +kernel)
  have iX5 : ∀ w ∈ wsX50, w ∈ wsX3_execute := by decide +kernel
  have f63 : (Cond.fieldLink RX3 63 "RangePropagator$Block" "edgeCount" "I").before _ s = true := hts _ (by decide +kernel)
  have iX2 : ∀ w ∈ wsX20, w ∈ wsX3_execute := by decide +kernel
  have f9 : (Cond.fieldLink RX3 9 "RangePropagator$Execution" "values" "[I").before _ s = true := hts _ (by decide +kernel)
  have f33 : (Cond.fieldLink RX3 33 "RangePropagator$Program" "initial" "LRangePropagator$State;").before _ s = true := hts _ (by decide +kernel)
  have f39 : (Cond.fieldLink RX3 39 "RangePropagator$State" "low" "[I").before _ s = true := hts _ (by decide +kernel)
  have iX7 : ∀ w ∈ wsX70, w ∈ wsX3_execute := by decide +kernel
  have f44 : (Cond.fieldLink RX3 44 "RangePropagator$State" "high" "[I").before _ s = true := hts _ (by decide +kernel)
  refine lv_aload_n hx hb dX3_execute_0 rfl (lv_at hl 0 rfl) ?_
  refine lv_lload_n hx hb dX3_execute_1 rfl (lv_at hl 1 rfl) ?_
  refine wr_pl hx hb hown hK hts iX3 tyX3_ok nmX3 (ci := 2) rfl 5 (by decide) f25 rfl rfl hw 336 (by omega) cs_Q rfl lone6 rfl rfl dX3_execute_2 (fun H locs hw => ?_)
  refine lv_iconst (v := nI 0) hx hb dX3_execute_5 (by decide) ?_
  refine lv_istore (lv' := [(4, .int (nI 0)), (0, .ref (ad 336)), (1, .long seed), (3, .int (nI steps))]) hx hb dX3_execute_6 hl (by decide) rfl (fun ls hl => ?_)
  refine w_loop (σ := Nat) (fun k M' J' ls => lv_has ls 7 [(0, .ref (ad 336)), (1, .long seed), (3, .int (nI steps)), (4, .int (nI k))] ∧ J' = va_up J 336 (exI M (M 337) seed k).2 ∧ k ≤ 6 ∧ Iex M seed k M') (fun k => 6 - k) (fun k M1 J1_ H locs ls hI hw ih2 => ?_) 0 ⟨lv_sub hl [1, 2, 3, 0] rfl, rfl, by omega, ⟨kp_refl _ _, rfl⟩⟩ hw
  obtain ⟨hl, eJ_, hk_, hI⟩ := hI
  rw [eJ_] at hw
  clear eJ_
  refine lv_iload hx hb dX3_execute_8 (lv_at hl 3 rfl) ?_
  refine lv_bipush (v := nI 6) hx hb dX3_execute_10 (by decide) ?_
  refine lv_icmp_ge (tgt := 58) hx hb dX3_execute_12 (by decide) (fun q3 => ?_) (fun q3 => ?_)
  · have q3n : 6 ≤ k := (nI_leI (by omega) (by omega)).mp q3
    refine lv_aload_n hx hb dX3_execute_58 rfl (lv_at hl 0 rfl) ?_
    refine lv_iconst (v := nI 0) hx hb dX3_execute_59 (by decide) ?_
    refine wr_pi hx hb hown hK hts iX3 tyX3_ok nmX3 (ci := 2) rfl 4 (by decide) f21 rfl rfl hw 336 (by omega) cs_Q rfl rfl rfl dX3_execute_60 (fun H locs hw => ?_)
    refine lv_iconst (v := nI 0) hx hb dX3_execute_63 (by decide) ?_
    refine lv_istore (lv' := [(4, .int (nI 0)), (0, .ref (ad 336)), (1, .long seed), (3, .int (nI steps))]) hx hb dX3_execute_64 hl (by decide) rfl (fun ls hl => ?_)
    refine lv_iconst (v := nI 0) hx hb dX3_execute_66 (by decide) ?_
    refine lv_istore (lv' := [(5, .int (nI 0)), (4, .int (nI 0)), (0, .ref (ad 336)), (1, .long seed), (3, .int (nI steps))]) hx hb dX3_execute_67 hl (by decide) rfl (fun ls hl => ?_)
    refine w_loop (σ := Nat) (fun k M' J' ls => lv_has ls 7 [(0, .ref (ad 336)), (3, .int (nI steps)), (4, .int (nI ((rnS M (exI M (M 337) seed 6) k).2))), (5, .int (nI k))] ∧ J' = va_up J 336 (rnS M (exI M (M 337) seed 6) k).1.2 ∧ k ≤ steps ∧ (Irun M (exI M (M 337) seed 6) k M' ∧ Icon M (exI M (M 337) seed 6) k)) (fun k => steps - k) (fun k M4 J1_ H locs ls hI hw ih5 => ?_) 0 ⟨lv_sub hl [2, 4, 1, 0] rfl, (by have e9 : k = 6 := (by omega); subst e9; rfl), by omega, (by have e9 : k = 6 := (by omega); subst e9; exact ⟨Irun_0 hI, fun q hq => absurd hq (Nat.not_lt_zero q), (by show 0 < 16; decide)⟩)⟩ hw
    obtain ⟨hl, eJ_, hk_, hI⟩ := hI
    rw [eJ_] at hw
    clear eJ_
    have hat : (rnS M (exI M (M 337) seed 6) k).2 < 16 := hI.2.2
    have hE2 : tn (M (201 + 6 * (rnS M (exI M (M 337) seed 6) k).2) 5) ≤ 2 := (hP (rnS M (exI M (M 337) seed 6) k).2 hat).2.2.1
    refine lv_iload hx hb dX3_execute_69 (lv_at hl 3 rfl) ?_
    refine lv_iload_n hx hb dX3_execute_71 rfl (lv_at hl 1 rfl) ?_
    refine lv_icmp_ge (tgt := 132) hx hb dX3_execute_72 (by decide) (fun q6 => ?_) (fun q6 => ?_)
    · have q6n : steps ≤ k := (nI_leI (by omega) (by omega)).mp q6
      exact wr_vret hx hb hr hK hw (show pEx M J seed steps _ from ⟨k, by omega, by omega, fun q hq => hI.2.1 q (by omega), Or.inl (by omega), rfl, hI.1⟩) hlocks dX3_execute_132
    · have q6n : ¬ steps ≤ k := fun z => q6 ((nI_leI (by omega) (by omega)).mpr z)
      refine lv_iload hx hb dX3_execute_75 (lv_at hl 3 rfl) ?_
      refine lv_sipush (v := nI 300) hx hb dX3_execute_77 (by decide) ?_
      refine lv_icmp_ge (tgt := 132) hx hb dX3_execute_80 (by decide) (fun q7 => ?_) (fun q7 => ?_)
      · have q7n : 300 ≤ k := (nI_leI (by omega) (by omega)).mp q7
        exfalso; omega
      · have q7n : ¬ 300 ≤ k := fun z => q7 ((nI_leI (by omega) (by omega)).mpr z)
        refine lv_aload_n hx hb dX3_execute_83 rfl (lv_at hl 0 rfl) ?_
        refine wr_gr hx hb hown hK hts iX3 (ci := 2) rfl 0 (by decide) f29 rfl hw 336 (by omega) 330 cs_Q rfl dX3_execute_84 ?_
        refine wr_gr hx hb hown hK hts iX5 (ci := 4) rfl 0 (by decide) f51 rfl hw 330 (by omega) 331 cs_P rfl dX3_execute_87 ?_
        refine lv_iload hx hb dX3_execute_90 (lv_at hl 2 rfl) ?_
        refine wr_aldN hx hb hK hw 331 (by omega) cs_PB rfl (by decide) ((rnS M (exI M (M 337) seed 6) k).2) rfl hI.2.2 dX3_execute_92 ?_
        refine lv_astore (lv' := [(6, .ref (ad (201 + 6 * ((rnS M (exI M (M 337) seed 6) k).2)))), (0, .ref (ad 336)), (3, .int (nI steps)), (4, .int (nI ((rnS M (exI M (M 337) seed 6) k).2))), (5, .int (nI k))]) hx hb dX3_execute_93 hl (by decide) rfl (fun ls hl => ?_)
        refine lv_aload_n hx hb dX3_execute_95 rfl (lv_at hl 1 rfl) ?_
        refine lv_iload hx hb dX3_execute_96 (lv_at hl 4 rfl) ?_
        refine lv_iload hx hb dX3_execute_98 (lv_at hl 3 rfl) ?_
        refine wr_cVv (k := 336) (ci := 2) (As := [.int (nI k), .int (nI ((rnS M (exI M (M 337) seed 6) k).2))]) (rest := []) ⟨hx, hb, hml, hown, hts⟩ (cwV 2 hts gX3_execute_X3_noteStep rfl rfl rfl (by decide +kernel) ⟨Nat.le_of_ble_eq_true rfl, Nat.le_of_ble_eq_true rfl⟩) hK hA hw (k_X3_noteStep l D ad cs H.size M4 (va_up J 336 (rnS M (exI M (M 337) seed 6) k).1.2) k ((rnS M (exI M (M 337) seed 6) k).2) (by omega)) (by omega) cs_Q rfl rfl rfl hl.1 (Nat.le_of_ble_eq_true rfl) ⟨Nat.le_of_ble_eq_true rfl, Nat.le_of_ble_eq_true rfl⟩ dX3_execute_100 (fun M9 J10 H locs h11 hw => ?_)
        cases h11
        refine lv_aload_n hx hb dX3_execute_103 rfl (lv_at hl 1 rfl) ?_
        refine lv_aload hx hb dX3_execute_104 (lv_at hl 0 rfl) ?_
        refine wr_cVv (k := 336) (ci := 2) (As := [.ref (ad (201 + 6 * ((rnS M (exI M (M 337) seed 6) k).2)))]) (rest := []) ⟨hx, hb, hml, hown, hts⟩ (cwV 1 hts gX3_execute_X3_perform rfl rfl rfl (by decide +kernel) ⟨Nat.le_of_ble_eq_true rfl, Nat.le_of_ble_eq_true rfl⟩) hK hA hw (k_X3_perform l D ad cs H.size (F_X3_noteStep M4 k ((rnS M (exI M (M 337) seed 6) k).2)) (va_up J 336 (rnS M (exI M (M 337) seed 6) k).1.2) ((rnS M (exI M (M 337) seed 6) k).2) hI.2.2 (bkE_bl (exC_bkE (kp_trans hI.1.1 note_kp)) hI.2.2 (hP (rnS M (exI M (M 337) seed 6) k).2 hI.2.2).1)) (by omega) cs_Q rfl rfl rfl hl.1 (Nat.le_of_ble_eq_true rfl) ⟨Nat.le_of_ble_eq_true rfl, Nat.le_of_ble_eq_true rfl⟩ dX3_execute_106 (fun M13 J14 H locs h15 hw => ?_)
        obtain ⟨h15j, hI3⟩ := Irun_s hI.2.2 hI.1 h15
        have h15j : J14 = va_up J 336 (rnS M (exI M (M 337) seed 6) (k + 1)).1.2 := h15j
        rw [h15j] at hw
        have hI3 : Irun M (exI M (M 337) seed 6) (k + 1) M13 := hI3
        have hbk : bkE M M13 := exC_bkE hI3.1
        refine lv_aload hx hb dX3_execute_109 (lv_at hl 0 rfl) ?_
        refine wr_gi hx hb hown hK hts iX2 (ci := 1) rfl 5 (by decide) f63 rfl hw (201 + 6 * ((rnS M (exI M (M 337) seed 6) k).2)) (by omega) (cs_B (by omega)) rfl dX3_execute_111 ?_
        rw [show M13 (201 + 6 * ((rnS M (exI M (M 337) seed 6) k).2)) 5 = nI (tn (M (201 + 6 * (rnS M (exI M (M 337) seed 6) k).2) 5)) from ((congrFun (exC_bkE hI3.1 (201 + 6 * (rnS M (exI M (M 337) seed 6) k).2) (by omega) (by omega)) 5).trans (hP (rnS M (exI M (M 337) seed 6) k).2 hI.2.2).2.1)]
        refine lv_if_ne (tgt := 118) hx hb dX3_execute_114 (by decide) (fun q16 => ?_) (fun q16 => ?_)
        · skip
          refine lv_aload_n hx hb dX3_execute_118 rfl (lv_at hl 1 rfl) ?_
          refine lv_aload hx hb dX3_execute_119 (lv_at hl 0 rfl) ?_
          refine wr_cVi (k := 336) (ci := 2) (As := [.ref (ad (201 + 6 * ((rnS M (exI M (M 337) seed 6) k).2)))]) (rest := []) ⟨hx, hb, hml, hown, hts⟩ (cwV 1 hts gX3_execute_X3_follower rfl rfl rfl (by decide +kernel) ⟨Nat.le_of_ble_eq_true rfl, Nat.le_of_ble_eq_true rfl⟩) hK hA hw (k_X3_follower l D ad cs H.size M13 (va_up J 336 (rnS M (exI M (M 337) seed 6) (k + 1)).1.2) ((rnS M (exI M (M 337) seed 6) k).2) hI.2.2 (bkE_ed hbk hI.2.2 (hP (rnS M (exI M (M 337) seed 6) k).2 hI.2.2).2)) (by omega) cs_Q rfl rfl rfl hl.1 (Nat.le_of_ble_eq_true rfl) ⟨Nat.le_of_ble_eq_true rfl, Nat.le_of_ble_eq_true rfl⟩ dX3_execute_121 (fun r17 M18 J19 H locs h20 hw => ?_)
          obtain ⟨h20, rfl⟩ := h20
          cases h20
          rw [show flw M13 ((rnS M (exI M (M 337) seed 6) k).2) (M13 337) = nI (tn (flw M (rnS M (exI M (M 337) seed 6) k).2 (exB M (rnS M (exI M (M 337) seed 6) k).2 (rnS M (exI M (M 337) seed 6) k).1).1)) from ((show _ = (flw M (rnS M (exI M (M 337) seed 6) k).2 (exB M (rnS M (exI M (M 337) seed 6) k).2 (rnS M (exI M (M 337) seed 6) k).1).1) by rw [bkE_flw hbk hI.2.2, hI3.2.1]; rfl).trans (flw_ok hF hI.2.2 (fun z => q16 (by rw [z]; rfl))).1)]
          refine lv_istore (lv' := [(4, .int (nI (tn (flw M (rnS M (exI M (M 337) seed 6) k).2 (exB M (rnS M (exI M (M 337) seed 6) k).2 (rnS M (exI M (M 337) seed 6) k).1).1)))), (6, .ref (ad (201 + 6 * ((rnS M (exI M (M 337) seed 6) k).2)))), (0, .ref (ad 336)), (3, .int (nI steps)), (5, .int (nI k))]) hx hb dX3_execute_124 hl (by decide) rfl (fun ls hl => ?_)
          refine lv_iinc (v := nI (k + 1)) (lv' := [(5, .int (nI (k + 1))), (4, .int (nI (tn (flw M (rnS M (exI M (M 337) seed 6) k).2 (exB M (rnS M (exI M (M 337) seed 6) k).2 (rnS M (exI M (M 337) seed 6) k).1).1)))), (6, .ref (ad (201 + 6 * ((rnS M (exI M (M 337) seed 6) k).2)))), (0, .ref (ad 336)), (3, .int (nI steps))]) hx hb dX3_execute_126 hl (k := 4) rfl (nI_1 _) (by decide) rfl (fun ls hl => ?_)
          refine lv_goto (tgt := 69) hx hb dX3_execute_129 (by decide) ?_
          exact ih5 (k + 1) M13 (va_up J 336 (rnS M (exI M (M 337) seed 6) (k + 1)).1.2) _ _ _ (by omega) ⟨lv_sub hl [3, 4, 1, 0] rfl, rfl, by omega, ⟨hI3, ⟨fun q hq => (by rcases Nat.lt_succ_iff_lt_or_eq.mp hq with z | z; exact hI.2.1 q z; rw [z]; exact fun y => q16 (by rw [y]; rfl)), (flw_ok hF hI.2.2 (fun z => q16 (by rw [z]; rfl))).2⟩⟩⟩ hw
        · skip
          exact wr_vret hx hb hr hK hw (show pEx M J seed steps _ from ⟨k + 1, by omega, by omega, fun q hq => hI.2.1 q (by omega), Or.inr (by rw [Nat.add_sub_cancel]; exact eN0 (by omega) q16), rfl, hI3⟩) hlocks dX3_execute_117
  · have q3n : ¬ 6 ≤ k := fun z => q3 ((nI_leI (by omega) (by omega)).mpr z)
    refine lv_aload_n hx hb dX3_execute_15 rfl (lv_at hl 0 rfl) ?_
    refine wr_gr hx hb hown hK hts iX3 (ci := 2) rfl 1 (by decide) f9 rfl hw 336 (by omega) 337 cs_Q rfl dX3_execute_16 ?_
    refine lv_iload hx hb dX3_execute_19 (lv_at hl 3 rfl) ?_
    refine lv_aload_n hx hb dX3_execute_21 rfl (lv_at hl 0 rfl) ?_
    refine lv_aload_n hx hb dX3_execute_22 rfl (lv_at hl 0 rfl) ?_
    refine wr_gr hx hb hown hK hts iX3 (ci := 2) rfl 0 (by decide) f29 rfl hw 336 (by omega) 330 cs_Q rfl dX3_execute_23 ?_
    refine wr_gr hx hb hown hK hts iX5 (ci := 4) rfl 1 (by decide) f33 rfl hw 330 (by omega) (3 * 0) cs_P rfl dX3_execute_26 ?_
    refine wr_gr hx hb hown hK hts iX7 (ci := 6) rfl 1 (by decide) f39 rfl hw (3 * 0) (by omega) (3 * 0 + 1) (cs_S (by omega)) rfl dX3_execute_29 ?_
    refine lv_iload hx hb dX3_execute_32 (lv_at hl 3 rfl) ?_
    refine wr_ildN hx hb hK hw (3 * 0 + 1) (by omega) (cs_SL (by omega)) (by decide) k rfl (by omega) dX3_execute_34 ?_
    rw [show M1 (3 * 0 + 1) k = M (3 * 0 + 1) k from (congrFun (hI.1 (3 * 0 + 1) (by omega)) k)]
    refine lv_aload_n hx hb dX3_execute_35 rfl (lv_at hl 0 rfl) ?_
    refine wr_gr hx hb hown hK hts iX3 (ci := 2) rfl 0 (by decide) f29 rfl hw 336 (by omega) 330 cs_Q rfl dX3_execute_36 ?_
    refine wr_gr hx hb hown hK hts iX5 (ci := 4) rfl 1 (by decide) f33 rfl hw 330 (by omega) (3 * 0) cs_P rfl dX3_execute_39 ?_
    refine wr_gr hx hb hown hK hts iX7 (ci := 6) rfl 2 (by decide) f44 rfl hw (3 * 0) (by omega) (3 * 0 + 2) (cs_S (by omega)) rfl dX3_execute_42 ?_
    refine lv_iload hx hb dX3_execute_45 (lv_at hl 3 rfl) ?_
    refine wr_ildN hx hb hK hw (3 * 0 + 2) (by omega) (cs_SH (by omega)) (by decide) k rfl (by omega) dX3_execute_47 ?_
    rw [show M1 (3 * 0 + 2) k = M (3 * 0 + 2) k from (congrFun (hI.1 (3 * 0 + 2) (by omega)) k)]
    refine wr_cVi (k := 336) (ci := 2) (As := [.int (M (3 * 0 + 1) k), .int (M (3 * 0 + 2) k)]) (rest := [.int (nI k), .ref (ad 337)]) ⟨hx, hb, hml, hown, hts⟩ (cwV 2 hts gX3_execute_X3_choose rfl rfl rfl (by decide +kernel) ⟨Nat.le_of_ble_eq_true rfl, Nat.le_of_ble_eq_true rfl⟩) hK hA hw (k_X3_choose l D ad cs H.size M1 (va_up J 336 (exI M (M 337) seed k).2) (M (3 * 0 + 1) k) (M (3 * 0 + 2) k) ) (by omega) cs_Q rfl rfl rfl hl.1 (Nat.le_of_ble_eq_true rfl) ⟨Nat.le_of_ble_eq_true rfl, Nat.le_of_ble_eq_true rfl⟩ dX3_execute_48 (fun r21 M22 J23 H locs h24 hw => ?_)
    obtain ⟨h24u, h24r⟩ := h24
    have h24a : (va_up J 336 (exI M (M 337) seed k).2) 336 = (exI M (M 337) seed k).2 := va_up_self _ _ _
    rw [h24a] at h24u h24r
    rw [J_up] at h24u
    cases h24u
    rw [h24r]
    refine wr_istN hx hb hK hw 337 (by omega) cs_QV (by decide) k rfl (by omega) dX3_execute_51 (fun H locs hw => ?_)
    refine lv_iinc (v := nI (k + 1)) (lv' := [(4, .int (nI (k + 1))), (0, .ref (ad 336)), (1, .long seed), (3, .int (nI steps))]) hx hb dX3_execute_52 hl (k := 3) rfl (nI_1 _) (by decide) rfl (fun ls hl => ?_)
    refine lv_goto (tgt := 8) hx hb dX3_execute_55 (by decide) ?_
    exact ih2 (k + 1) (wU M1 337 k (chs (exI M (M 337) seed k).2 (M (3 * 0 + 1) k) (M (3 * 0 + 2) k))) (va_up J 336 (rnx (exI M (M 337) seed k).2)) _ _ _ (by omega) ⟨lv_sub hl [1, 2, 3, 0] rfl, rfl, by omega, Iex_s hI⟩ hw
