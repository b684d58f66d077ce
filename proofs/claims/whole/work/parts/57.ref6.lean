/-! the reference, 6: gather: laid by wip/gen/specs20.py -/
set_option maxHeartbeats 4000000 in
set_option maxRecDepth 100000 in
theorem k_X9_gather (l : Launch) (D : va_G) (ad : Nat → Nat) (cs : Nat → ClassId) (sz : Nat) (M : wM) (J : wJ) (t : Nat) (cnt : Nat) (ht16 : t < 16) (hn : M 0 1 = nI cnt) (hn16 : cnt ≤ 16) (hSz : ∀ b, b < 16 → M 1 b = nI (tn (M 1 b)) ∧ tn (M 1 b) ≤ 8) (hSt : ∀ b, b < 16 → ∀ a, a < tn (M 1 b) → st9 M b a) (hEd : ∀ b, b < 16 → M 3 b = nI (tn (M 3 b)) ∧ tn (M 3 b) ≤ 2) (hXY : ∀ b, b < 16 → isV (M 6 b) ∧ isV (M 7 b)) (hR8 : ∀ b, b < 16 → inB (M 8 b) 4) : wCv l yX9_gather wsX9_gather { frames := 7, cells := 0, slots := 0, locals := 179 } D 23 mSh ad cs [.ref (ad 0), .int (nI t)] sz M J (pGm M J cnt t) := by
  refine wC_v (cc := cX9_gather) (maxL := 4) (ret := none) (by decide) rfl (Nat.le_of_ble_eq_true rfl) ?_
  intro p e s m below meth c ls A hx hb hr hml hown hts hlocks hK hA hw hl hAe
  clear hAe
  have hl : lv_has ls 4 [(0, .ref (ad 0)), (1, .int (nI t))] := hl
  have f165 : (Cond.fieldLink RX9 165 "RangePropagatorModel" "hasJoin" "Z").before _ s = true := hts _ (by decide +kernel)
  have iX9 : ∀ w ∈ wsX90, w ∈ wsX9_gather := by decide +kernel
  have f7 : (Cond.fieldLink RX9 7 "RangePropagatorModel" "blocks" "I").before _ s = true := hts _ (by decide +kernel)
  have f66 : (Cond.fieldLink RX9 66 "RangePropagatorModel" "low" "[I").before _ s = true := hts _ (by decide +kernel)
  have f38 : (Cond.fieldLink RX9 38 "RangePropagatorModel" "firstLows" "[I").before _ s = true := hts _ (by decide +kernel)
  have f69 : (Cond.fieldLink RX9 69 "RangePropagatorModel" "high" "[I").before _ s = true := hts _ (by decide +kernel)
  have f41 : (Cond.fieldLink RX9 41 "RangePropagatorModel" "firstHighs" "[I").before _ s = true := hts _ (by decide +kernel)
  have f20 : (Cond.fieldLink RX9 20 "RangePropagatorModel" "edges" "[I").before _ s = true := hts _ (by decide +kernel)
  have f26 : (Cond.fieldLink RX9 26 "RangePropagatorModel" "downs" "[I").before _ s = true := hts _ (by decide +kernel)
  have f23 : (Cond.fieldLink RX9 23 "RangePropagatorModel" "ups" "[I").before _ s = true := hts _ (by decide +kernel)
  refine lv_aload_n hx hb dX9_gather_0 rfl (lv_at hl 0 rfl) ?_
  refine lv_iconst (v := nI 0) hx hb dX9_gather_1 (by decide) ?_
  refine wr_pi hx hb hown hK hts iX9 tyX9_ok nmX9 (ci := 8) rfl 23 (by decide) f165 rfl rfl hw 0 (by omega) rfl rfl (by decide) (by decide) dX9_gather_2 (fun H locs hw => ?_)
  refine lv_iconst (v := nI 0) hx hb dX9_gather_5 (by decide) ?_
  refine lv_istore_n (lv' := [(2, .int (nI 0)), (0, .ref (ad 0)), (1, .int (nI t))]) hx hb dX9_gather_6 rfl hl (by decide) rfl (fun ls hl => ?_)
  refine w_loop (σ := Nat) (fun k M' J' ls => lv_has ls 4 [(0, .ref (ad 0)), (1, .int (nI t)), (2, .int (nI k))] ∧ J' = J ∧ k ≤ cnt ∧ Igm M (gmB M t k none) M') (fun k => cnt - k) (fun k M1 J1_ H locs ls hI hw ih2 => ?_) 0 ⟨lv_sub hl [1, 2, 0] rfl, rfl, by omega, Igm_0⟩ hw
  obtain ⟨hl, eJ_, hk_, hI⟩ := hI
  rw [eJ_] at hw
  clear eJ_
  refine lv_iload_n hx hb dX9_gather_7 rfl (lv_at hl 2 rfl) ?_
  refine lv_aload_n hx hb dX9_gather_8 rfl (lv_at hl 0 rfl) ?_
  refine wr_gi hx hb hown hK hts iX9 (ci := 8) rfl 1 (by decide) f7 rfl hw 0 (by omega) rfl rfl dX9_gather_9 ?_
  rw [show M1 0 1 = nI cnt from ((hI.1.2 1 (by decide)).trans hn)]
  refine lv_icmp_ge (tgt := 75) hx hb dX9_gather_12 (by decide) (fun q3 => ?_) (fun q3 => ?_)
  · have q3n : cnt ≤ k := (nI_leI (by omega) (by omega)).mp q3
    refine lv_iload_n hx hb dX9_gather_75 rfl (lv_at hl 1 rfl) ?_
    refine lv_if_eq (tgt := 80) hx hb dX9_gather_76 (by decide) (fun q4 => ?_) (fun q4 => ?_)
    · skip
      refine lv_iconst (v := nI 0) hx hb dX9_gather_80 (by decide) ?_
      refine lv_istore_n (lv' := [(2, .int (nI 0)), (0, .ref (ad 0)), (1, .int (nI t))]) hx hb dX9_gather_81 rfl hl (by decide) rfl (fun ls hl => ?_)
      refine w_loop (σ := Nat) (fun v9 M' J' ls => lv_has ls 4 [(0, .ref (ad 0)), (2, .int (nI v9))] ∧ J' = J ∧ v9 ≤ 6 ∧ Iin M (gmB M t cnt none) v9 M') (fun v9 => 6 - v9) (fun v9 M5 J1_ H locs ls hI hw ih6 => ?_) 0 ⟨lv_sub hl [1, 0] rfl, rfl, by omega, ⟨(by have e8 : k = cnt := (by omega); rw [e8] at hI; exact hI), fun v h => absurd h (Nat.not_lt_zero v)⟩⟩ hw
      obtain ⟨hl, eJ_, hk_, hI⟩ := hI
      rw [eJ_] at hw
      clear eJ_
      refine lv_iload_n hx hb dX9_gather_82 rfl (lv_at hl 1 rfl) ?_
      refine lv_bipush (v := nI 6) hx hb dX9_gather_83 (by decide) ?_
      refine lv_icmp_ge (tgt := 118) hx hb dX9_gather_85 (by decide) (fun q7 => ?_) (fun q7 => ?_)
      · have q7n : 6 ≤ v9 := (nI_leI (by omega) (by omega)).mp q7
        refine lv_aload_n hx hb dX9_gather_118 rfl (lv_at hl 0 rfl) ?_
        refine wr_cVv (k := 0) (ci := 8) (As := []) (rest := []) ⟨hx, hb, hml, hown, hts⟩ (cwV 0 hts gX9_gather_X9_join rfl rfl rfl (by decide +kernel) ⟨Nat.le_of_ble_eq_true rfl, Nat.le_of_ble_eq_true rfl⟩) hK hA hw (k_X9_join l D ad cs H.size M5 J  ) (by omega) rfl rfl rfl rfl hl.1 (Nat.le_of_ble_eq_true rfl) ⟨Nat.le_of_ble_eq_true rfl, Nat.le_of_ble_eq_true rfl⟩ dX9_gather_119 (fun M9 J10 H locs h11 hw => ?_)
        have h11J : J10 = J := h11.1
        rw [h11J] at hw h11
        have hJ9 : Iin M (gmB M t cnt none) 6 M5 := (by have e7 : v9 = 6 := (by omega); rw [e7] at hI; exact hI)
        exact wr_vret hx hb hr hK hw (pGm_2 (eN0 (by omega) q4) hJ9 h11) hlocks dX9_gather_122
      · have q7n : ¬ 6 ≤ v9 := fun z => q7 ((nI_leI (by omega) (by omega)).mpr z)
        refine lv_aload_n hx hb dX9_gather_88 rfl (lv_at hl 0 rfl) ?_
        refine wr_gr hx hb hown hK hts iX9 (ci := 8) rfl 21 (by decide) f66 rfl hw 0 (by omega) 16 rfl rfl dX9_gather_89 ?_
        refine lv_iload_n hx hb dX9_gather_92 rfl (lv_at hl 1 rfl) ?_
        refine lv_aload_n hx hb dX9_gather_93 rfl (lv_at hl 0 rfl) ?_
        refine wr_gr hx hb hown hK hts iX9 (ci := 8) rfl 10 (by decide) f38 rfl hw 0 (by omega) 9 rfl rfl dX9_gather_94 ?_
        refine lv_iload_n hx hb dX9_gather_97 rfl (lv_at hl 1 rfl) ?_
        refine wr_ildN hx hb hK hw 9 (by omega) rfl (by decide) v9 rfl (by omega) dX9_gather_98 ?_
        refine wr_istN hx hb hK hw 16 (by omega) rfl (by decide) v9 rfl (by omega) dX9_gather_99 (fun H locs hw => ?_)
        refine lv_aload_n hx hb dX9_gather_100 rfl (lv_at hl 0 rfl) ?_
        refine wr_gr hx hb hown hK hts iX9 (ci := 8) rfl 22 (by decide) f69 rfl hw 0 (by omega) 17 rfl rfl dX9_gather_101 ?_
        refine lv_iload_n hx hb dX9_gather_104 rfl (lv_at hl 1 rfl) ?_
        refine lv_aload_n hx hb dX9_gather_105 rfl (lv_at hl 0 rfl) ?_
        refine wr_gr hx hb hown hK hts iX9 (ci := 8) rfl 11 (by decide) f41 rfl hw 0 (by omega) 10 rfl rfl dX9_gather_106 ?_
        refine lv_iload_n hx hb dX9_gather_109 rfl (lv_at hl 1 rfl) ?_
        refine wr_ildN hx hb hK hw 10 (by omega) rfl (by decide) v9 rfl (by omega) dX9_gather_110 ?_
        refine wr_istN hx hb hK hw 17 (by omega) rfl (by decide) v9 rfl (by omega) dX9_gather_111 (fun H locs hw => ?_)
        refine lv_iinc (v := nI (v9 + 1)) (lv' := [(2, .int (nI (v9 + 1))), (0, .ref (ad 0))]) hx hb dX9_gather_112 hl (k := 1) rfl (nI_1 _) (by decide) rfl (fun ls hl => ?_)
        refine lv_goto (tgt := 82) hx hb dX9_gather_115 (by decide) ?_
        exact ih6 (v9 + 1) (wU (wU M5 16 v9 (M5 9 v9)) 17 v9 ((wU M5 16 v9 (M5 9 v9)) 10 v9)) J _ _ _ (by omega) ⟨lv_sub hl [1, 0] rfl, rfl, by omega, Iin_s hI⟩ hw
    · skip
      exact wr_vret hx hb hr hK hw (by have e8 : k = cnt := (by omega); rw [e8] at hI; exact pGm_1 (fun z => q4 (by rw [z]; rfl)) hI) hlocks dX9_gather_79
  · have q3n : ¬ cnt ≤ k := fun z => q3 ((nI_leI (by omega) (by omega)).mpr z)
    refine lv_iconst (v := nI 0) hx hb dX9_gather_15 (by decide) ?_
    refine lv_istore_n (lv' := [(3, .int (nI 0)), (0, .ref (ad 0)), (1, .int (nI t)), (2, .int (nI k))]) hx hb dX9_gather_16 rfl hl (by decide) rfl (fun ls hl => ?_)
    have hE2 : tn (M 3 k) ≤ 2 := (hEd k (by omega)).2
    refine w_loop (σ := Nat) (fun e9 M' J' ls => lv_has ls 4 [(0, .ref (ad 0)), (1, .int (nI t)), (2, .int (nI k)), (3, .int (nI e9))] ∧ J' = J ∧ e9 ≤ tn (M 3 k) ∧ Igm M (gmE M t k e9 (gmB M t k none)) M') (fun e9 => tn (M 3 k) - e9) (fun e9 M12 J1_ H locs ls hI hw ih13 => ?_) 0 ⟨lv_sub hl [1, 2, 3, 0] rfl, rfl, by omega, hI⟩ hw
    obtain ⟨hl, eJ_, hk_, hI⟩ := hI
    rw [eJ_] at hw
    clear eJ_
    refine lv_iload_n hx hb dX9_gather_17 rfl (lv_at hl 3 rfl) ?_
    refine lv_aload_n hx hb dX9_gather_18 rfl (lv_at hl 0 rfl) ?_
    refine wr_gr hx hb hown hK hts iX9 (ci := 8) rfl 4 (by decide) f20 rfl hw 0 (by omega) 3 rfl rfl dX9_gather_19 ?_
    refine lv_iload_n hx hb dX9_gather_22 rfl (lv_at hl 2 rfl) ?_
    refine wr_ildN hx hb hK hw 3 (by omega) rfl (by decide) k rfl (by omega) dX9_gather_23 ?_
    rw [show M12 3 k = nI (tn (M 3 k)) from ((congrFun (mK_at hI.1 3 (by omega)) k).trans (hEd k (by omega)).1)]
    refine lv_icmp_ge (tgt := 69) hx hb dX9_gather_24 (by decide) (fun q14 => ?_) (fun q14 => ?_)
    · have q14n : (tn (M 3 k)) ≤ e9 := (nI_leI (by omega) (by omega)).mp q14
      refine lv_iinc (v := nI (k + 1)) (lv' := [(2, .int (nI (k + 1))), (0, .ref (ad 0)), (1, .int (nI t)), (3, .int (nI e9))]) hx hb dX9_gather_69 hl (k := 2) rfl (nI_1 _) (by decide) rfl (fun ls hl => ?_)
      refine lv_goto (tgt := 7) hx hb dX9_gather_72 (by decide) ?_
      exact ih2 (k + 1) M12 J _ _ _ (by omega) ⟨lv_sub hl [1, 2, 0] rfl, rfl, by omega, (by show Igm M (gmE M t k (tn (M 3 k)) (gmB M t k none)) _; have e7 : e9 = tn (M 3 k) := (by omega); rw [← e7]; exact hI)⟩ hw
    · have q14n : ¬ (tn (M 3 k)) ≤ e9 := fun z => q14 ((nI_leI (by omega) (by omega)).mpr z)
      refine lv_iload_n hx hb dX9_gather_27 rfl (lv_at hl 3 rfl) ?_
      refine lv_if_ne (tgt := 40) hx hb dX9_gather_28 (by decide) (fun q15 => ?_) (fun q15 => ?_)
      · skip
        refine lv_aload_n hx hb dX9_gather_40 rfl (lv_at hl 0 rfl) ?_
        refine wr_gr hx hb hown hK hts iX9 (ci := 8) rfl 6 (by decide) f26 rfl hw 0 (by omega) 5 rfl rfl dX9_gather_41 ?_
        refine lv_iload_n hx hb dX9_gather_44 rfl (lv_at hl 2 rfl) ?_
        refine wr_ildN hx hb hK hw 5 (by omega) rfl (by decide) k rfl (by omega) dX9_gather_45 ?_
        rw [show M12 5 k = folm M k e9 from ((congrFun (mK_at hI.1 5 (by omega)) k).trans (by unfold folm; rw [if_neg (fun z => q15 (by rw [z]; rfl))]))]
        refine lv_iload_n hx hb dX9_gather_46 rfl (lv_at hl 1 rfl) ?_
        refine lv_icmp_ne (tgt := 63) hx hb dX9_gather_47 (by decide) (fun q16 => ?_) (fun q16 => ?_)
        · skip
          refine lv_iinc (v := nI (e9 + 1)) (lv' := [(3, .int (nI (e9 + 1))), (0, .ref (ad 0)), (1, .int (nI t)), (2, .int (nI k))]) hx hb dX9_gather_63 hl (k := 3) rfl (nI_1 _) (by decide) rfl (fun ls hl => ?_)
          refine lv_goto (tgt := 17) hx hb dX9_gather_66 (by decide) ?_
          exact ih13 (e9 + 1) M12 J _ _ _ (by omega) ⟨lv_sub hl [1, 2, 3, 0] rfl, rfl, by omega, (by rw [gmE_2 q16]; exact hI)⟩ hw
        · skip
          refine lv_aload_n hx hb dX9_gather_50 rfl (lv_at hl 0 rfl) ?_
          refine lv_iload_n hx hb dX9_gather_51 rfl (lv_at hl 2 rfl) ?_
          refine lv_iload_n hx hb dX9_gather_52 rfl (lv_at hl 3 rfl) ?_
          refine wr_cVi (k := 0) (ci := 8) (As := [.int (nI k), .int (nI e9)]) (rest := []) ⟨hx, hb, hml, hown, hts⟩ (cwV 2 hts gX9_gather_X9_reach rfl rfl rfl (by decide +kernel) ⟨Nat.le_of_ble_eq_true rfl, Nat.le_of_ble_eq_true rfl⟩) hK hA hw (k_X9_reach l D ad cs H.size M12 J k e9 (by omega) (by omega) (mK_Sz hI.1 hSz) (mK_St hI.1 hSt) (mK_Ed hI.1 hEd) (mK_XY hI.1 hXY) (mK_R8 hI.1 hR8)) (by omega) rfl rfl rfl rfl hl.1 (Nat.le_of_ble_eq_true rfl) ⟨Nat.le_of_ble_eq_true rfl, Nat.le_of_ble_eq_true rfl⟩ dX9_gather_53 (fun r17 M18 J19 H locs h20 hw => ?_)
          have h20J : J19 = J := h20.1
          rw [h20J] at hw
          refine lv_if_eq (tgt := 63) hx hb dX9_gather_56 (by decide) (fun q21 => ?_) (fun q21 => ?_)
          · skip
            refine lv_iinc (v := nI (e9 + 1)) (lv' := [(3, .int (nI (e9 + 1))), (0, .ref (ad 0)), (1, .int (nI t)), (2, .int (nI k))]) hx hb dX9_gather_63 hl (k := 3) rfl (nI_1 _) (by decide) rfl (fun ls hl => ?_)
            refine lv_goto (tgt := 17) hx hb dX9_gather_66 (by decide) ?_
            exact ih13 (e9 + 1) M18 J _ _ _ (by omega) ⟨lv_sub hl [1, 2, 3, 0] rfl, rfl, by omega, (by rw [gmE_1 q16]; exact Igm_r0 hI h20 q21)⟩ hw
          · skip
            refine lv_aload_n hx hb dX9_gather_59 rfl (lv_at hl 0 rfl) ?_
            refine wr_cVv (k := 0) (ci := 8) (As := []) (rest := []) ⟨hx, hb, hml, hown, hts⟩ (cwV 0 hts gX9_gather_X9_join rfl rfl rfl (by decide +kernel) ⟨Nat.le_of_ble_eq_true rfl, Nat.le_of_ble_eq_true rfl⟩) hK hA hw (k_X9_join l D ad cs H.size M18 J  ) (by omega) rfl rfl rfl rfl hl.1 (Nat.le_of_ble_eq_true rfl) ⟨Nat.le_of_ble_eq_true rfl, Nat.le_of_ble_eq_true rfl⟩ dX9_gather_60 (fun M23 J24 H locs h25 hw => ?_)
            have h25J : J24 = J := h25.1
            rw [h25J] at hw h25
            refine lv_iinc (v := nI (e9 + 1)) (lv' := [(3, .int (nI (e9 + 1))), (0, .ref (ad 0)), (1, .int (nI t)), (2, .int (nI k))]) hx hb dX9_gather_63 hl (k := 3) rfl (nI_1 _) (by decide) rfl (fun ls hl => ?_)
            refine lv_goto (tgt := 17) hx hb dX9_gather_66 (by decide) ?_
            exact ih13 (e9 + 1) M23 J _ _ _ (by omega) ⟨lv_sub hl [1, 2, 3, 0] rfl, rfl, by omega, (by rw [gmE_1 q16]; exact Igm_r1 hI h20 q21 h25)⟩ hw
      · skip
        refine lv_aload_n hx hb dX9_gather_31 rfl (lv_at hl 0 rfl) ?_
        refine wr_gr hx hb hown hK hts iX9 (ci := 8) rfl 5 (by decide) f23 rfl hw 0 (by omega) 4 rfl rfl dX9_gather_32 ?_
        refine lv_iload_n hx hb dX9_gather_35 rfl (lv_at hl 2 rfl) ?_
        refine wr_ildN hx hb hK hw 4 (by omega) rfl (by decide) k rfl (by omega) dX9_gather_36 ?_
        rw [show M12 4 k = folm M k e9 from ((congrFun (mK_at hI.1 4 (by omega)) k).trans (by unfold folm; rw [if_pos (eN0 (by omega) q15)]))]
        refine lv_goto (tgt := 46) hx hb dX9_gather_37 (by decide) ?_
        refine lv_iload_n hx hb dX9_gather_46 rfl (lv_at hl 1 rfl) ?_
        refine lv_icmp_ne (tgt := 63) hx hb dX9_gather_47 (by decide) (fun q26 => ?_) (fun q26 => ?_)
        · skip
          refine lv_iinc (v := nI (e9 + 1)) (lv' := [(3, .int (nI (e9 + 1))), (0, .ref (ad 0)), (1, .int (nI t)), (2, .int (nI k))]) hx hb dX9_gather_63 hl (k := 3) rfl (nI_1 _) (by decide) rfl (fun ls hl => ?_)
          refine lv_goto (tgt := 17) hx hb dX9_gather_66 (by decide) ?_
          exact ih13 (e9 + 1) M12 J _ _ _ (by omega) ⟨lv_sub hl [1, 2, 3, 0] rfl, rfl, by omega, (by rw [gmE_2 q26]; exact hI)⟩ hw
        · skip
          refine lv_aload_n hx hb dX9_gather_50 rfl (lv_at hl 0 rfl) ?_
          refine lv_iload_n hx hb dX9_gather_51 rfl (lv_at hl 2 rfl) ?_
          refine lv_iload_n hx hb dX9_gather_52 rfl (lv_at hl 3 rfl) ?_
          refine wr_cVi (k := 0) (ci := 8) (As := [.int (nI k), .int (nI e9)]) (rest := []) ⟨hx, hb, hml, hown, hts⟩ (cwV 2 hts gX9_gather_X9_reach rfl rfl rfl (by decide +kernel) ⟨Nat.le_of_ble_eq_true rfl, Nat.le_of_ble_eq_true rfl⟩) hK hA hw (k_X9_reach l D ad cs H.size M12 J k e9 (by omega) (by omega) (mK_Sz hI.1 hSz) (mK_St hI.1 hSt) (mK_Ed hI.1 hEd) (mK_XY hI.1 hXY) (mK_R8 hI.1 hR8)) (by omega) rfl rfl rfl rfl hl.1 (Nat.le_of_ble_eq_true rfl) ⟨Nat.le_of_ble_eq_true rfl, Nat.le_of_ble_eq_true rfl⟩ dX9_gather_53 (fun r27 M28 J29 H locs h30 hw => ?_)
          have h30J : J29 = J := h30.1
          rw [h30J] at hw
          refine lv_if_eq (tgt := 63) hx hb dX9_gather_56 (by decide) (fun q31 => ?_) (fun q31 => ?_)
          · skip
            refine lv_iinc (v := nI (e9 + 1)) (lv' := [(3, .int (nI (e9 + 1))), (0, .ref (ad 0)), (1, .int (nI t)), (2, .int (nI k))]) hx hb dX9_gather_63 hl (k := 3) rfl (nI_1 _) (by decide) rfl (fun ls hl => ?_)
            refine lv_goto (tgt := 17) hx hb dX9_gather_66 (by decide) ?_
            exact ih13 (e9 + 1) M28 J _ _ _ (by omega) ⟨lv_sub hl [1, 2, 3, 0] rfl, rfl, by omega, (by rw [gmE_1 q26]; exact Igm_r0 hI h30 q31)⟩ hw
          · skip
            refine lv_aload_n hx hb dX9_gather_59 rfl (lv_at hl 0 rfl) ?_
            refine wr_cVv (k := 0) (ci := 8) (As := []) (rest := []) ⟨hx, hb, hml, hown, hts⟩ (cwV 0 hts gX9_gather_X9_join rfl rfl rfl (by decide +kernel) ⟨Nat.le_of_ble_eq_true rfl, Nat.le_of_ble_eq_true rfl⟩) hK hA hw (k_X9_join l D ad cs H.size M28 J  ) (by omega) rfl rfl rfl rfl hl.1 (Nat.le_of_ble_eq_true rfl) ⟨Nat.le_of_ble_eq_true rfl, Nat.le_of_ble_eq_true rfl⟩ dX9_gather_60 (fun M33 J34 H locs h35 hw => ?_)
            have h35J : J34 = J := h35.1
            rw [h35J] at hw h35
            refine lv_iinc (v := nI (e9 + 1)) (lv' := [(3, .int (nI (e9 + 1))), (0, .ref (ad 0)), (1, .int (nI t)), (2, .int (nI k))]) hx hb dX9_gather_63 hl (k := 3) rfl (nI_1 _) (by decide) rfl (fun ls hl => ?_)
            refine lv_goto (tgt := 17) hx hb dX9_gather_66 (by decide) ?_
            exact ih13 (e9 + 1) M33 J _ _ _ (by omega) ⟨lv_sub hl [1, 2, 3, 0] rfl, rfl, by omega, (by rw [gmE_1 q26]; exact Igm_r1 hI h30 q31 h35)⟩ hw
