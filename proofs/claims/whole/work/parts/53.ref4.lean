/-! the reference, 4: laid by wip/gen/specs18.py -/
set_option maxHeartbeats 4000000 in
set_option maxRecDepth 100000 in
theorem k_X9_leave (l : Launch) (D : va_G) (ad : Nat → Nat) (cs : Nat → ClassId) (sz : Nat) (M : wM) (J : wJ) (b : Nat) (hb16 : b < 16) (hSz : ∀ b, b < 16 → M 1 b = nI (tn (M 1 b)) ∧ tn (M 1 b) ≤ 8) (hSt : ∀ b, b < 16 → ∀ a, a < tn (M 1 b) → st9 M b a) : wCv l yX9_leave wsX9_leave { frames := 5, cells := 0, slots := 0, locals := 132 } D 23 mSh ad cs [.ref (ad 0), .int (nI b)] sz M J (pLv M J b) := by
  refine wC_v (cc := cX9_leave) (maxL := 3) (ret := none) (by decide) rfl (Nat.le_of_ble_eq_true rfl) ?_
  intro p e s m below meth c ls A hx hb hr hml hown hts hlocks hK hA hw hl hAe
  clear hAe
  have hl : lv_has ls 3 [(0, .ref (ad 0)), (1, .int (nI b))] := hl
  have f13 : (Cond.fieldLink RX9 13 "RangePropagatorModel" "sizes" "[I").before _ s = true := hts _ (by decide +kernel)
  have iX9 : ∀ w ∈ wsX90, w ∈ wsX9_leave := by decide +kernel
  have f66 : (Cond.fieldLink RX9 66 "RangePropagatorModel" "low" "[I").before _ s = true := hts _ (by decide +kernel)
  have f57 : (Cond.fieldLink RX9 57 "RangePropagatorModel" "lows" "[I").before _ s = true := hts _ (by decide +kernel)
  have f69 : (Cond.fieldLink RX9 69 "RangePropagatorModel" "high" "[I").before _ s = true := hts _ (by decide +kernel)
  have f60 : (Cond.fieldLink RX9 60 "RangePropagatorModel" "highs" "[I").before _ s = true := hts _ (by decide +kernel)
  have hS8 : tn (M 1 b) ≤ 8 := (hSz b hb16).2
  refine lv_iconst (v := nI 0) hx hb dX9_leave_0 (by decide) ?_
  refine lv_istore_n (lv' := [(2, .int (nI 0)), (0, .ref (ad 0)), (1, .int (nI b))]) hx hb dX9_leave_1 rfl hl (by decide) rfl (fun ls hl => ?_)
  refine w_loop (σ := Nat) (fun k M' J' ls => lv_has ls 3 [(0, .ref (ad 0)), (1, .int (nI b)), (2, .int (nI k))] ∧ J' = J ∧ k ≤ 6 ∧ Ilv M b k M') (fun k => 6 - k) (fun k M1 J1_ H locs ls hI hw ih2 => ?_) 0 ⟨lv_sub hl [1, 2, 0] rfl, rfl, by omega, ⟨kp_refl _ _, fun v h => absurd h (Nat.not_lt_zero v)⟩⟩ hw
  obtain ⟨hl, eJ_, hk_, hI⟩ := hI
  rw [eJ_] at hw
  clear eJ_
  refine lv_iload_n hx hb dX9_leave_2 rfl (lv_at hl 2 rfl) ?_
  refine lv_bipush (v := nI 6) hx hb dX9_leave_3 (by decide) ?_
  refine lv_icmp_ge (tgt := 48) hx hb dX9_leave_5 (by decide) (fun q3 => ?_) (fun q3 => ?_)
  · have q3n : 6 ≤ k := (nI_leI (by omega) (by omega)).mp q3
    refine lv_iconst (v := nI 0) hx hb dX9_leave_48 (by decide) ?_
    refine lv_istore_n (lv' := [(2, .int (nI 0)), (0, .ref (ad 0)), (1, .int (nI b))]) hx hb dX9_leave_49 rfl hl (by decide) rfl (fun ls hl => ?_)
    refine w_loop (σ := Nat) (fun k M' J' ls => lv_has ls 3 [(0, .ref (ad 0)), (1, .int (nI b)), (2, .int (nI k))] ∧ J' = J ∧ k ≤ tn (M 1 b) ∧ Iap9 M b k M') (fun k => tn (M 1 b) - k) (fun k M4 J1_ H locs ls hI hw ih5 => ?_) 0 ⟨lv_sub hl [1, 2, 0] rfl, rfl, by omega, (by have e9 : k = 6 := (by omega); rw [e9] at hI; exact Iap9_0 hI)⟩ hw
    obtain ⟨hl, eJ_, hk_, hI⟩ := hI
    rw [eJ_] at hw
    clear eJ_
    refine lv_iload_n hx hb dX9_leave_50 rfl (lv_at hl 2 rfl) ?_
    refine lv_aload_n hx hb dX9_leave_51 rfl (lv_at hl 0 rfl) ?_
    refine wr_gr hx hb hown hK hts iX9 (ci := 8) rfl 2 (by decide) f13 rfl hw 0 (by omega) 1 rfl rfl dX9_leave_52 ?_
    refine lv_iload_n hx hb dX9_leave_55 rfl (lv_at hl 1 rfl) ?_
    refine wr_ildN hx hb hK hw 1 (by omega) rfl (by decide) b rfl (by omega) dX9_leave_56 ?_
    rw [show M4 1 b = nI (tn (M 1 b)) from ((congrFun (hI.1 1 (by unfold m67; omega)) b).trans (hSz b hb16).1)]
    refine lv_icmp_ge (tgt := 78) hx hb dX9_leave_57 (by decide) (fun q6 => ?_) (fun q6 => ?_)
    · have q6n : (tn (M 1 b)) ≤ k := (nI_leI (by omega) (by omega)).mp q6
      exact wr_vret hx hb hr hK hw (show pLv M J b _ from ⟨rfl, hI.1, (by have e9 : k = tn (M 1 b) := (by omega); have z := hI.2; rw [e9] at z; exact z)⟩) hlocks dX9_leave_78
    · have q6n : ¬ (tn (M 1 b)) ≤ k := fun z => q6 ((nI_leI (by omega) (by omega)).mpr z)
      refine lv_aload_n hx hb dX9_leave_60 rfl (lv_at hl 0 rfl) ?_
      refine lv_iconst (v := nI 4) hx hb dX9_leave_61 (by decide) ?_
      refine lv_bipush (v := nI 8) hx hb dX9_leave_62 (by decide) ?_
      refine lv_iload_n hx hb dX9_leave_64 rfl (lv_at hl 1 rfl) ?_
      refine lv_imulN hx hb dX9_leave_65 ?_
      refine lv_iload_n hx hb dX9_leave_66 rfl (lv_at hl 2 rfl) ?_
      refine lv_iaddN hx hb dX9_leave_67 ?_
      refine lv_imulN hx hb dX9_leave_68 ?_
      refine wr_cVv (k := 0) (ci := 8) (As := [.int (nI (4 * ((8 * b) + k)))]) (rest := []) ⟨hx, hb, hml, hown, hts⟩ (cwV 1 hts gX9_leave_X9_apply rfl rfl rfl (by decide +kernel) ⟨Nat.le_of_ble_eq_true rfl, Nat.le_of_ble_eq_true rfl⟩) hK hA hw (k_X9_apply l D ad cs H.size M4 J (4 * ((8 * b) + k)) (tn (M 2 (4 * ((8 * b) + k) + 1))) (by omega) ((congrFun (hI.1 2 (by unfold m67; omega)) _).trans (hSt b hb16 k (by omega)).1.1) (hSt b hb16 k (by omega)).1.2 (by rw [show M4 2 = M 2 from hI.1 2 (by unfold m67; omega)]; exact (hSt b hb16 k (by omega)).2)) (by omega) rfl rfl rfl rfl hl.1 (Nat.le_of_ble_eq_true rfl) ⟨Nat.le_of_ble_eq_true rfl, Nat.le_of_ble_eq_true rfl⟩ dX9_leave_69 (fun M8 J9 H locs h10 hw => ?_)
      cases h10
      refine lv_iinc (v := nI (k + 1)) (lv' := [(2, .int (nI (k + 1))), (0, .ref (ad 0)), (1, .int (nI b))]) hx hb dX9_leave_72 hl (k := 2) rfl (nI_1 _) (by decide) rfl (fun ls hl => ?_)
      refine lv_goto (tgt := 50) hx hb dX9_leave_75 (by decide) ?_
      exact ih5 (k + 1) (F_X9_apply M4 (4 * ((8 * b) + k)) (tn (M 2 (4 * ((8 * b) + k) + 1)))) J _ _ _ (by omega) ⟨lv_sub hl [1, 2, 0] rfl, rfl, by omega, Iap9_s hI (hSt b hb16 k (by omega))⟩ hw
  · have q3n : ¬ 6 ≤ k := fun z => q3 ((nI_leI (by omega) (by omega)).mpr z)
    refine lv_aload_n hx hb dX9_leave_8 rfl (lv_at hl 0 rfl) ?_
    refine wr_gr hx hb hown hK hts iX9 (ci := 8) rfl 21 (by decide) f66 rfl hw 0 (by omega) 16 rfl rfl dX9_leave_9 ?_
    refine lv_iload_n hx hb dX9_leave_12 rfl (lv_at hl 2 rfl) ?_
    refine lv_aload_n hx hb dX9_leave_13 rfl (lv_at hl 0 rfl) ?_
    refine wr_gr hx hb hown hK hts iX9 (ci := 8) rfl 18 (by decide) f57 rfl hw 0 (by omega) 13 rfl rfl dX9_leave_14 ?_
    refine lv_bipush (v := nI 6) hx hb dX9_leave_17 (by decide) ?_
    refine lv_iload_n hx hb dX9_leave_19 rfl (lv_at hl 1 rfl) ?_
    refine lv_imulN hx hb dX9_leave_20 ?_
    refine lv_iload_n hx hb dX9_leave_21 rfl (lv_at hl 2 rfl) ?_
    refine lv_iaddN hx hb dX9_leave_22 ?_
    refine wr_ildN hx hb hK hw 13 (by omega) rfl (by decide) ((6 * b) + k) rfl (by omega) dX9_leave_23 ?_
    refine wr_istN hx hb hK hw 16 (by omega) rfl (by decide) k rfl (by omega) dX9_leave_24 (fun H locs hw => ?_)
    refine lv_aload_n hx hb dX9_leave_25 rfl (lv_at hl 0 rfl) ?_
    refine wr_gr hx hb hown hK hts iX9 (ci := 8) rfl 22 (by decide) f69 rfl hw 0 (by omega) 17 rfl rfl dX9_leave_26 ?_
    refine lv_iload_n hx hb dX9_leave_29 rfl (lv_at hl 2 rfl) ?_
    refine lv_aload_n hx hb dX9_leave_30 rfl (lv_at hl 0 rfl) ?_
    refine wr_gr hx hb hown hK hts iX9 (ci := 8) rfl 19 (by decide) f60 rfl hw 0 (by omega) 14 rfl rfl dX9_leave_31 ?_
    refine lv_bipush (v := nI 6) hx hb dX9_leave_34 (by decide) ?_
    refine lv_iload_n hx hb dX9_leave_36 rfl (lv_at hl 1 rfl) ?_
    refine lv_imulN hx hb dX9_leave_37 ?_
    refine lv_iload_n hx hb dX9_leave_38 rfl (lv_at hl 2 rfl) ?_
    refine lv_iaddN hx hb dX9_leave_39 ?_
    refine wr_ildN hx hb hK hw 14 (by omega) rfl (by decide) ((6 * b) + k) rfl (by omega) dX9_leave_40 ?_
    refine wr_istN hx hb hK hw 17 (by omega) rfl (by decide) k rfl (by omega) dX9_leave_41 (fun H locs hw => ?_)
    refine lv_iinc (v := nI (k + 1)) (lv' := [(2, .int (nI (k + 1))), (0, .ref (ad 0)), (1, .int (nI b))]) hx hb dX9_leave_42 hl (k := 2) rfl (nI_1 _) (by decide) rfl (fun ls hl => ?_)
    refine lv_goto (tgt := 2) hx hb dX9_leave_45 (by decide) ?_
    exact ih2 (k + 1) (wU (wU M1 16 k (M1 13 ((6 * b) + k))) 17 k ((wU M1 16 k (M1 13 ((6 * b) + k))) 14 ((6 * b) + k))) J _ _ _ (by omega) ⟨lv_sub hl [1, 2, 0] rfl, rfl, by omega, Ilv_s hI⟩ hw
set_option maxHeartbeats 4000000 in
set_option maxRecDepth 100000 in
theorem k_X9_join (l : Launch) (D : va_G) (ad : Nat → Nat) (cs : Nat → ClassId) (sz : Nat) (M : wM) (J : wJ)   : wCv l yX9_join wsX9_join { frames := 1, cells := 0, slots := 0, locals := 31 } D 23 mSh ad cs [.ref (ad 0)] sz M J (pJn M J) := by
  refine wC_v (cc := cX9_join) (maxL := 2) (ret := none) (by decide) rfl (Nat.le_of_ble_eq_true rfl) ?_
  intro p e s m below meth c ls A hx hb hr hml hown hts hlocks hK hA hw hl hAe
  clear hAe
  have hl : lv_has ls 2 [(0, .ref (ad 0))] := hl
  have f165 : (Cond.fieldLink RX9 165 "RangePropagatorModel" "hasJoin" "Z").before _ s = true := hts _ (by decide +kernel)
  have iX9 : ∀ w ∈ wsX90, w ∈ wsX9_join := by decide +kernel
  have f72 : (Cond.fieldLink RX9 72 "RangePropagatorModel" "joinLow" "[I").before _ s = true := hts _ (by decide +kernel)
  have f66 : (Cond.fieldLink RX9 66 "RangePropagatorModel" "low" "[I").before _ s = true := hts _ (by decide +kernel)
  have f75 : (Cond.fieldLink RX9 75 "RangePropagatorModel" "joinHigh" "[I").before _ s = true := hts _ (by decide +kernel)
  have f69 : (Cond.fieldLink RX9 69 "RangePropagatorModel" "high" "[I").before _ s = true := hts _ (by decide +kernel)
  have m147 : (Cond.methodLink RX9 147 Lib.Math.min.name).before _ s = true := hts _ (by decide +kernel)
  have t147 : (Cond.static Lib.Math.min.name).before _ s = true := hts _ (by decide +kernel)
  have iMath : (Cond.initialized "java/lang/Math").before _ s = true := hts _ (by decide +kernel)
  have c147 : (Cond.code Lib.Math.min.name Lib.Math.min.code 2 (some .int)).before _ s = true := hts _ (by decide +kernel)
  have m150 : (Cond.methodLink RX9 150 Lib.Math.max.name).before _ s = true := hts _ (by decide +kernel)
  have t150 : (Cond.static Lib.Math.max.name).before _ s = true := hts _ (by decide +kernel)
  have c150 : (Cond.code Lib.Math.max.name Lib.Math.max.code 2 (some .int)).before _ s = true := hts _ (by decide +kernel)
  refine lv_iconst (v := nI 0) hx hb dX9_join_0 (by decide) ?_
  refine lv_istore_n (lv' := [(1, .int (nI 0)), (0, .ref (ad 0))]) hx hb dX9_join_1 rfl hl (by decide) rfl (fun ls hl => ?_)
  refine w_loop (σ := Nat) (fun k M' J' ls => lv_has ls 2 [(0, .ref (ad 0)), (1, .int (nI k))] ∧ J' = J ∧ k ≤ 6 ∧ Ijn M k M') (fun k => 6 - k) (fun k M1 J1_ H locs ls hI hw ih2 => ?_) 0 ⟨lv_sub hl [1, 0] rfl, rfl, by omega, Ijn_0⟩ hw
  obtain ⟨hl, eJ_, hk_, hI⟩ := hI
  rw [eJ_] at hw
  clear eJ_
  refine lv_iload_n hx hb dX9_join_2 rfl (lv_at hl 1 rfl) ?_
  refine lv_bipush (v := nI 6) hx hb dX9_join_3 (by decide) ?_
  refine lv_icmp_ge (tgt := 88) hx hb dX9_join_5 (by decide) (fun q3 => ?_) (fun q3 => ?_)
  · have q3n : 6 ≤ k := (nI_leI (by omega) (by omega)).mp q3
    refine lv_aload_n hx hb dX9_join_88 rfl (lv_at hl 0 rfl) ?_
    refine lv_iconst (v := nI 1) hx hb dX9_join_89 (by decide) ?_
    refine wr_pi hx hb hown hK hts iX9 tyX9_ok nmX9 (ci := 8) rfl 23 (by decide) f165 rfl rfl hw 0 (by omega) rfl rfl (by decide) (by decide) dX9_join_90 (fun H locs hw => ?_)
    exact wr_vret hx hb hr hK hw (by have e9 : k = 6 := (by omega); rw [e9] at hI; exact pJn_of hI) hlocks dX9_join_93
  · have q3n : ¬ 6 ≤ k := fun z => q3 ((nI_leI (by omega) (by omega)).mpr z)
    refine lv_aload_n hx hb dX9_join_8 rfl (lv_at hl 0 rfl) ?_
    refine wr_gr hx hb hown hK hts iX9 (ci := 8) rfl 24 (by decide) f72 rfl hw 0 (by omega) 18 rfl rfl dX9_join_9 ?_
    refine lv_iload_n hx hb dX9_join_12 rfl (lv_at hl 1 rfl) ?_
    refine lv_aload_n hx hb dX9_join_13 rfl (lv_at hl 0 rfl) ?_
    refine wr_gi hx hb hown hK hts iX9 (ci := 8) rfl 23 (by decide) f165 rfl hw 0 (by omega) rfl rfl dX9_join_14 ?_
    rw [show M1 0 23 = M 0 23 from (congrFun (hI.1 0 (by decide)) 23)]
    refine lv_if_eq (tgt := 38) hx hb dX9_join_17 (by decide) (fun q4 => ?_) (fun q4 => ?_)
    · skip
      refine lv_aload_n hx hb dX9_join_38 rfl (lv_at hl 0 rfl) ?_
      refine wr_gr hx hb hown hK hts iX9 (ci := 8) rfl 21 (by decide) f66 rfl hw 0 (by omega) 16 rfl rfl dX9_join_39 ?_
      refine lv_iload_n hx hb dX9_join_42 rfl (lv_at hl 1 rfl) ?_
      refine wr_ildN hx hb hK hw 16 (by omega) rfl (by decide) k rfl (by omega) dX9_join_43 ?_
      refine wr_istN hx hb hK hw 18 (by omega) rfl (by decide) k rfl (by omega) dX9_join_44 (fun H locs hw => ?_)
      refine lv_aload_n hx hb dX9_join_45 rfl (lv_at hl 0 rfl) ?_
      refine wr_gr hx hb hown hK hts iX9 (ci := 8) rfl 25 (by decide) f75 rfl hw 0 (by omega) 19 rfl rfl dX9_join_46 ?_
      refine lv_iload_n hx hb dX9_join_49 rfl (lv_at hl 1 rfl) ?_
      refine lv_aload_n hx hb dX9_join_50 rfl (lv_at hl 0 rfl) ?_
      refine wr_gi hx hb hown hK hts iX9 (ci := 8) rfl 23 (by decide) f165 rfl hw 0 (by omega) rfl rfl dX9_join_51 ?_
      rw [show (wU M1 18 k (M1 16 k)) 0 23 = M 0 23 from ((congrFun (wU_ne (by decide)) 23).trans (congrFun (hI.1 0 (by decide)) 23))]
      refine lv_if_eq (tgt := 75) hx hb dX9_join_54 (by decide) (fun q5 => ?_) (fun q5 => ?_)
      · skip
        refine lv_aload_n hx hb dX9_join_75 rfl (lv_at hl 0 rfl) ?_
        refine wr_gr hx hb hown hK hts iX9 (ci := 8) rfl 22 (by decide) f69 rfl hw 0 (by omega) 17 rfl rfl dX9_join_76 ?_
        refine lv_iload_n hx hb dX9_join_79 rfl (lv_at hl 1 rfl) ?_
        refine wr_ildN hx hb hK hw 17 (by omega) rfl (by decide) k rfl (by omega) dX9_join_80 ?_
        refine wr_istN hx hb hK hw 19 (by omega) rfl (by decide) k rfl (by omega) dX9_join_81 (fun H locs hw => ?_)
        refine lv_iinc (v := nI (k + 1)) (lv' := [(1, .int (nI (k + 1))), (0, .ref (ad 0))]) hx hb dX9_join_82 hl (k := 1) rfl (nI_1 _) (by decide) rfl (fun ls hl => ?_)
        refine lv_goto (tgt := 2) hx hb dX9_join_85 (by decide) ?_
        exact ih2 (k + 1) (wU (wU M1 18 k (M1 16 k)) 19 k ((wU M1 18 k (M1 16 k)) 17 k)) J _ _ _ (by omega) ⟨lv_sub hl [1, 0] rfl, rfl, by omega, Ijn_1 hI q4⟩ hw
      · skip
        exact absurd q4 q5
    · skip
      refine lv_aload_n hx hb dX9_join_20 rfl (lv_at hl 0 rfl) ?_
      refine wr_gr hx hb hown hK hts iX9 (ci := 8) rfl 24 (by decide) f72 rfl hw 0 (by omega) 18 rfl rfl dX9_join_21 ?_
      refine lv_iload_n hx hb dX9_join_24 rfl (lv_at hl 1 rfl) ?_
      refine wr_ildN hx hb hK hw 18 (by omega) rfl (by decide) k rfl (by omega) dX9_join_25 ?_
      refine lv_aload_n hx hb dX9_join_26 rfl (lv_at hl 0 rfl) ?_
      refine wr_gr hx hb hown hK hts iX9 (ci := 8) rfl 21 (by decide) f66 rfl hw 0 (by omega) 16 rfl rfl dX9_join_27 ?_
      refine lv_iload_n hx hb dX9_join_30 rfl (lv_at hl 1 rfl) ?_
      refine wr_ildN hx hb hK hw 16 (by omega) rfl (by decide) k rfl (by omega) dX9_join_31 ?_
      refine va_mmin hx hb (hml.trans hl.1.symm) hown m147 t147 iMath c147 (Nat.le_of_ble_eq_true rfl) (Nat.le_of_ble_eq_true rfl) (Nat.le_of_ble_eq_true rfl) (Nat.le_of_ble_eq_true rfl) dX9_join_32 ?_
      refine W.eq (g2 := F0 m 35 ls [.int ((i_mn (M1 18 k) (M1 16 k))), .int (nI k), .ref (ad 18)]) rfl ?_
      refine lv_goto (tgt := 44) hx hb dX9_join_35 (by decide) ?_
      refine wr_istN hx hb hK hw 18 (by omega) rfl (by decide) k rfl (by omega) dX9_join_44 (fun H locs hw => ?_)
      refine lv_aload_n hx hb dX9_join_45 rfl (lv_at hl 0 rfl) ?_
      refine wr_gr hx hb hown hK hts iX9 (ci := 8) rfl 25 (by decide) f75 rfl hw 0 (by omega) 19 rfl rfl dX9_join_46 ?_
      refine lv_iload_n hx hb dX9_join_49 rfl (lv_at hl 1 rfl) ?_
      refine lv_aload_n hx hb dX9_join_50 rfl (lv_at hl 0 rfl) ?_
      refine wr_gi hx hb hown hK hts iX9 (ci := 8) rfl 23 (by decide) f165 rfl hw 0 (by omega) rfl rfl dX9_join_51 ?_
      rw [show (wU M1 18 k ((i_mn (M1 18 k) (M1 16 k)))) 0 23 = M 0 23 from ((congrFun (wU_ne (by decide)) 23).trans (congrFun (hI.1 0 (by decide)) 23))]
      refine lv_if_eq (tgt := 75) hx hb dX9_join_54 (by decide) (fun q6 => ?_) (fun q6 => ?_)
      · skip
        exact absurd q6 q4
      · skip
        refine lv_aload_n hx hb dX9_join_57 rfl (lv_at hl 0 rfl) ?_
        refine wr_gr hx hb hown hK hts iX9 (ci := 8) rfl 25 (by decide) f75 rfl hw 0 (by omega) 19 rfl rfl dX9_join_58 ?_
        refine lv_iload_n hx hb dX9_join_61 rfl (lv_at hl 1 rfl) ?_
        refine wr_ildN hx hb hK hw 19 (by omega) rfl (by decide) k rfl (by omega) dX9_join_62 ?_
        refine lv_aload_n hx hb dX9_join_63 rfl (lv_at hl 0 rfl) ?_
        refine wr_gr hx hb hown hK hts iX9 (ci := 8) rfl 22 (by decide) f69 rfl hw 0 (by omega) 17 rfl rfl dX9_join_64 ?_
        refine lv_iload_n hx hb dX9_join_67 rfl (lv_at hl 1 rfl) ?_
        refine wr_ildN hx hb hK hw 17 (by omega) rfl (by decide) k rfl (by omega) dX9_join_68 ?_
        refine va_mmax hx hb (hml.trans hl.1.symm) hown m150 t150 iMath c150 (Nat.le_of_ble_eq_true rfl) (Nat.le_of_ble_eq_true rfl) (Nat.le_of_ble_eq_true rfl) (Nat.le_of_ble_eq_true rfl) dX9_join_69 ?_
        refine W.eq (g2 := F0 m 72 ls [.int ((i_mx ((wU M1 18 k ((i_mn (M1 18 k) (M1 16 k)))) 19 k) ((wU M1 18 k ((i_mn (M1 18 k) (M1 16 k)))) 17 k))), .int (nI k), .ref (ad 19)]) rfl ?_
        refine lv_goto (tgt := 81) hx hb dX9_join_72 (by decide) ?_
        refine wr_istN hx hb hK hw 19 (by omega) rfl (by decide) k rfl (by omega) dX9_join_81 (fun H locs hw => ?_)
        refine lv_iinc (v := nI (k + 1)) (lv' := [(1, .int (nI (k + 1))), (0, .ref (ad 0))]) hx hb dX9_join_82 hl (k := 1) rfl (nI_1 _) (by decide) rfl (fun ls hl => ?_)
        refine lv_goto (tgt := 2) hx hb dX9_join_85 (by decide) ?_
        exact ih2 (k + 1) (wU (wU M1 18 k ((i_mn (M1 18 k) (M1 16 k)))) 19 k ((i_mx ((wU M1 18 k ((i_mn (M1 18 k) (M1 16 k)))) 19 k) ((wU M1 18 k ((i_mn (M1 18 k) (M1 16 k)))) 17 k)))) J _ _ _ (by omega) ⟨lv_sub hl [1, 0] rfl, rfl, by omega, Ijn_2 hI q4⟩ hw
