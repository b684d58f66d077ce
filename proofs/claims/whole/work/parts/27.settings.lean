/-! Settings, Flow: laid by wip/gen/specs5.py -/
set_option maxHeartbeats 4000000 in
set_option maxRecDepth 100000 in
theorem k_X6_greatestUpTo (l : Launch) (D : va_G) (ad : Nat → Nat) (cs : Nat → ClassId) (sz : Nat) (M : wM) (J : wJ) (v : Int32) (t : Nat) (ht : M 332 2 = nI t) (ht8 : t ≤ 8) : wCi l yX6_greatestUpTo wsX6_greatestUpTo { frames := 0, cells := 0, slots := 0, locals := 0 } D 340 cSh ad cs [.ref (ad 332), .int v] sz M J (fun r_ u_ => u_ = (M, J) ∧ r_ = gu M v t) := by
  refine wC_i (cc := cX6_greatestUpTo) (maxL := 4) (ret := (some .int)) (by decide) rfl (Nat.le_of_ble_eq_true rfl) ?_
  intro p e s m below meth c ls A hx hb hr hml hown hts hlocks hK hA hw hl hAe
  clear hAe
  have hl : lv_has ls 4 [(0, .ref (ad 332)), (1, .int v)] := hl
  have k40 : (Cond.constant RX6 40 (-1000000000)).before _ s = true := hts _ (by decide +kernel)
  have f18 : (Cond.fieldLink RX6 18 "RangePropagator$Settings" "thresholdCount" "I").before _ s = true := hts _ (by decide +kernel)
  have iX6 : ∀ w ∈ wsX60, w ∈ wsX6_greatestUpTo := by decide +kernel
  have f21 : (Cond.fieldLink RX6 21 "RangePropagator$Settings" "thresholds" "[I").before _ s = true := hts _ (by decide +kernel)
  refine lv_ldc hx hb hown k40 dX6_greatestUpTo_0 ?_
  refine lv_istore_n (lv' := [(2, .int ((-1000000000 : Int32))), (0, .ref (ad 332)), (1, .int v)]) hx hb dX6_greatestUpTo_2 rfl hl (by decide) rfl (fun ls hl => ?_)
  refine lv_iconst (v := nI 0) hx hb dX6_greatestUpTo_3 (by decide) ?_
  refine lv_istore_n (lv' := [(3, .int (nI 0)), (2, .int ((-1000000000 : Int32))), (0, .ref (ad 332)), (1, .int v)]) hx hb dX6_greatestUpTo_4 rfl hl (by decide) rfl (fun ls hl => ?_)
  refine w_loop (σ := Nat) (fun k M' J' ls => lv_has ls 4 [(0, .ref (ad 332)), (1, .int v), (2, .int (gu M v k)), (3, .int (nI k))] ∧ J' = J ∧ k ≤ t ∧ M' = M ∧ True) (fun k => t - k) (fun k M1 J1_ H locs ls hI hw ih2 => ?_) 0 ⟨lv_sub hl [2, 3, 1, 0] rfl, rfl, by omega, rfl, trivial⟩ hw
  obtain ⟨hl, eJ_, hk_, hI⟩ := hI
  rw [eJ_] at hw
  clear eJ_
  obtain ⟨eM_, hI⟩ := hI
  rw [eM_] at hw
  clear eM_
  refine lv_iload_n hx hb dX6_greatestUpTo_5 rfl (lv_at hl 3 rfl) ?_
  refine lv_aload_n hx hb dX6_greatestUpTo_6 rfl (lv_at hl 0 rfl) ?_
  refine wr_gi hx hb hown hK hts iX6 (ci := 5) rfl 2 (by decide) f18 rfl hw 332 (by omega) cs_T rfl dX6_greatestUpTo_7 ?_
  rw [show M 332 2 = nI t from ht]
  refine lv_icmp_ge (tgt := 46) hx hb dX6_greatestUpTo_10 (by decide) (fun q3 => ?_) (fun q3 => ?_)
  · have q3n : t ≤ k := (nI_leI (by omega) (by omega)).mp q3
    refine lv_iload_n hx hb dX6_greatestUpTo_46 rfl (lv_at hl 2 rfl) ?_
    exact wr_iret hx hb hr rfl hK hw ⟨rfl, by have e : k = t := (by omega); rw [e]⟩ hlocks dX6_greatestUpTo_47
  · have q3n : ¬ t ≤ k := fun z => q3 ((nI_leI (by omega) (by omega)).mpr z)
    refine lv_aload_n hx hb dX6_greatestUpTo_13 rfl (lv_at hl 0 rfl) ?_
    refine wr_gr hx hb hown hK hts iX6 (ci := 5) rfl 3 (by decide) f21 rfl hw 332 (by omega) 333 cs_T rfl dX6_greatestUpTo_14 ?_
    refine lv_iload_n hx hb dX6_greatestUpTo_17 rfl (lv_at hl 3 rfl) ?_
    refine wr_ildN hx hb hK hw 333 (by omega) cs_TT (by decide) k rfl (by omega) dX6_greatestUpTo_18 ?_
    refine lv_iload_n hx hb dX6_greatestUpTo_19 rfl (lv_at hl 1 rfl) ?_
    refine lv_icmp_gt (tgt := 40) hx hb dX6_greatestUpTo_20 (by decide) (fun q4 => ?_) (fun q4 => ?_)
    · skip
      refine lv_iinc (v := nI (k + 1)) (lv' := [(3, .int (nI (k + 1))), (0, .ref (ad 332)), (1, .int v), (2, .int (gu M v k))]) hx hb dX6_greatestUpTo_40 hl (k := 3) rfl (nI_1 _) (by decide) rfl (fun ls hl => ?_)
      refine lv_goto (tgt := 5) hx hb dX6_greatestUpTo_43 (by decide) ?_
      exact ih2 (k + 1) M J _ _ _ (by omega) ⟨(by rw [gu_1 q4]; exact lv_sub hl [1, 2, 3, 0] rfl), rfl, by omega, rfl, trivial⟩ hw
    · skip
      refine lv_aload_n hx hb dX6_greatestUpTo_23 rfl (lv_at hl 0 rfl) ?_
      refine wr_gr hx hb hown hK hts iX6 (ci := 5) rfl 3 (by decide) f21 rfl hw 332 (by omega) 333 cs_T rfl dX6_greatestUpTo_24 ?_
      refine lv_iload_n hx hb dX6_greatestUpTo_27 rfl (lv_at hl 3 rfl) ?_
      refine wr_ildN hx hb hK hw 333 (by omega) cs_TT (by decide) k rfl (by omega) dX6_greatestUpTo_28 ?_
      refine lv_iload_n hx hb dX6_greatestUpTo_29 rfl (lv_at hl 2 rfl) ?_
      refine lv_icmp_le (tgt := 40) hx hb dX6_greatestUpTo_30 (by decide) (fun q5 => ?_) (fun q5 => ?_)
      · skip
        refine lv_iinc (v := nI (k + 1)) (lv' := [(3, .int (nI (k + 1))), (0, .ref (ad 332)), (1, .int v), (2, .int (gu M v k))]) hx hb dX6_greatestUpTo_40 hl (k := 3) rfl (nI_1 _) (by decide) rfl (fun ls hl => ?_)
        refine lv_goto (tgt := 5) hx hb dX6_greatestUpTo_43 (by decide) ?_
        exact ih2 (k + 1) M J _ _ _ (by omega) ⟨(by rw [gu_2 q4 q5]; exact lv_sub hl [1, 2, 3, 0] rfl), rfl, by omega, rfl, trivial⟩ hw
      · skip
        refine lv_aload_n hx hb dX6_greatestUpTo_33 rfl (lv_at hl 0 rfl) ?_
        refine wr_gr hx hb hown hK hts iX6 (ci := 5) rfl 3 (by decide) f21 rfl hw 332 (by omega) 333 cs_T rfl dX6_greatestUpTo_34 ?_
        refine lv_iload_n hx hb dX6_greatestUpTo_37 rfl (lv_at hl 3 rfl) ?_
        refine wr_ildN hx hb hK hw 333 (by omega) cs_TT (by decide) k rfl (by omega) dX6_greatestUpTo_38 ?_
        refine lv_istore_n (lv' := [(2, .int (M 333 k)), (0, .ref (ad 332)), (1, .int v), (3, .int (nI k))]) hx hb dX6_greatestUpTo_39 rfl hl (by decide) rfl (fun ls hl => ?_)
        refine lv_iinc (v := nI (k + 1)) (lv' := [(3, .int (nI (k + 1))), (2, .int (M 333 k)), (0, .ref (ad 332)), (1, .int v)]) hx hb dX6_greatestUpTo_40 hl (k := 3) rfl (nI_1 _) (by decide) rfl (fun ls hl => ?_)
        refine lv_goto (tgt := 5) hx hb dX6_greatestUpTo_43 (by decide) ?_
        exact ih2 (k + 1) M J _ _ _ (by omega) ⟨(by rw [gu_3 q4 q5]; exact lv_sub hl [2, 3, 1, 0] rfl), rfl, by omega, rfl, trivial⟩ hw
set_option maxHeartbeats 4000000 in
set_option maxRecDepth 100000 in
theorem k_X6_smallestFrom (l : Launch) (D : va_G) (ad : Nat → Nat) (cs : Nat → ClassId) (sz : Nat) (M : wM) (J : wJ) (v : Int32) (t : Nat) (ht : M 332 2 = nI t) (ht8 : t ≤ 8) : wCi l yX6_smallestFrom wsX6_smallestFrom { frames := 0, cells := 0, slots := 0, locals := 0 } D 340 cSh ad cs [.ref (ad 332), .int v] sz M J (fun r_ u_ => u_ = (M, J) ∧ r_ = sm M v t) := by
  refine wC_i (cc := cX6_smallestFrom) (maxL := 4) (ret := (some .int)) (by decide) rfl (Nat.le_of_ble_eq_true rfl) ?_
  intro p e s m below meth c ls A hx hb hr hml hown hts hlocks hK hA hw hl hAe
  clear hAe
  have hl : lv_has ls 4 [(0, .ref (ad 332)), (1, .int v)] := hl
  have k41 : (Cond.constant RX6 41 (1000000000)).before _ s = true := hts _ (by decide +kernel)
  have f18 : (Cond.fieldLink RX6 18 "RangePropagator$Settings" "thresholdCount" "I").before _ s = true := hts _ (by decide +kernel)
  have iX6 : ∀ w ∈ wsX60, w ∈ wsX6_smallestFrom := by decide +kernel
  have f21 : (Cond.fieldLink RX6 21 "RangePropagator$Settings" "thresholds" "[I").before _ s = true := hts _ (by decide +kernel)
  refine lv_ldc hx hb hown k41 dX6_smallestFrom_0 ?_
  refine lv_istore_n (lv' := [(2, .int ((1000000000 : Int32))), (0, .ref (ad 332)), (1, .int v)]) hx hb dX6_smallestFrom_2 rfl hl (by decide) rfl (fun ls hl => ?_)
  refine lv_iconst (v := nI 0) hx hb dX6_smallestFrom_3 (by decide) ?_
  refine lv_istore_n (lv' := [(3, .int (nI 0)), (2, .int ((1000000000 : Int32))), (0, .ref (ad 332)), (1, .int v)]) hx hb dX6_smallestFrom_4 rfl hl (by decide) rfl (fun ls hl => ?_)
  refine w_loop (σ := Nat) (fun k M' J' ls => lv_has ls 4 [(0, .ref (ad 332)), (1, .int v), (2, .int (sm M v k)), (3, .int (nI k))] ∧ J' = J ∧ k ≤ t ∧ M' = M ∧ True) (fun k => t - k) (fun k M1 J1_ H locs ls hI hw ih2 => ?_) 0 ⟨lv_sub hl [2, 3, 1, 0] rfl, rfl, by omega, rfl, trivial⟩ hw
  obtain ⟨hl, eJ_, hk_, hI⟩ := hI
  rw [eJ_] at hw
  clear eJ_
  obtain ⟨eM_, hI⟩ := hI
  rw [eM_] at hw
  clear eM_
  refine lv_iload_n hx hb dX6_smallestFrom_5 rfl (lv_at hl 3 rfl) ?_
  refine lv_aload_n hx hb dX6_smallestFrom_6 rfl (lv_at hl 0 rfl) ?_
  refine wr_gi hx hb hown hK hts iX6 (ci := 5) rfl 2 (by decide) f18 rfl hw 332 (by omega) cs_T rfl dX6_smallestFrom_7 ?_
  rw [show M 332 2 = nI t from ht]
  refine lv_icmp_ge (tgt := 46) hx hb dX6_smallestFrom_10 (by decide) (fun q3 => ?_) (fun q3 => ?_)
  · have q3n : t ≤ k := (nI_leI (by omega) (by omega)).mp q3
    refine lv_iload_n hx hb dX6_smallestFrom_46 rfl (lv_at hl 2 rfl) ?_
    exact wr_iret hx hb hr rfl hK hw ⟨rfl, by have e : k = t := (by omega); rw [e]⟩ hlocks dX6_smallestFrom_47
  · have q3n : ¬ t ≤ k := fun z => q3 ((nI_leI (by omega) (by omega)).mpr z)
    refine lv_aload_n hx hb dX6_smallestFrom_13 rfl (lv_at hl 0 rfl) ?_
    refine wr_gr hx hb hown hK hts iX6 (ci := 5) rfl 3 (by decide) f21 rfl hw 332 (by omega) 333 cs_T rfl dX6_smallestFrom_14 ?_
    refine lv_iload_n hx hb dX6_smallestFrom_17 rfl (lv_at hl 3 rfl) ?_
    refine wr_ildN hx hb hK hw 333 (by omega) cs_TT (by decide) k rfl (by omega) dX6_smallestFrom_18 ?_
    refine lv_iload_n hx hb dX6_smallestFrom_19 rfl (lv_at hl 1 rfl) ?_
    refine lv_icmp_lt (tgt := 40) hx hb dX6_smallestFrom_20 (by decide) (fun q4 => ?_) (fun q4 => ?_)
    · skip
      refine lv_iinc (v := nI (k + 1)) (lv' := [(3, .int (nI (k + 1))), (0, .ref (ad 332)), (1, .int v), (2, .int (sm M v k))]) hx hb dX6_smallestFrom_40 hl (k := 3) rfl (nI_1 _) (by decide) rfl (fun ls hl => ?_)
      refine lv_goto (tgt := 5) hx hb dX6_smallestFrom_43 (by decide) ?_
      exact ih2 (k + 1) M J _ _ _ (by omega) ⟨(by rw [sm_1 q4]; exact lv_sub hl [1, 2, 3, 0] rfl), rfl, by omega, rfl, trivial⟩ hw
    · skip
      refine lv_aload_n hx hb dX6_smallestFrom_23 rfl (lv_at hl 0 rfl) ?_
      refine wr_gr hx hb hown hK hts iX6 (ci := 5) rfl 3 (by decide) f21 rfl hw 332 (by omega) 333 cs_T rfl dX6_smallestFrom_24 ?_
      refine lv_iload_n hx hb dX6_smallestFrom_27 rfl (lv_at hl 3 rfl) ?_
      refine wr_ildN hx hb hK hw 333 (by omega) cs_TT (by decide) k rfl (by omega) dX6_smallestFrom_28 ?_
      refine lv_iload_n hx hb dX6_smallestFrom_29 rfl (lv_at hl 2 rfl) ?_
      refine lv_icmp_ge (tgt := 40) hx hb dX6_smallestFrom_30 (by decide) (fun q5 => ?_) (fun q5 => ?_)
      · skip
        refine lv_iinc (v := nI (k + 1)) (lv' := [(3, .int (nI (k + 1))), (0, .ref (ad 332)), (1, .int v), (2, .int (sm M v k))]) hx hb dX6_smallestFrom_40 hl (k := 3) rfl (nI_1 _) (by decide) rfl (fun ls hl => ?_)
        refine lv_goto (tgt := 5) hx hb dX6_smallestFrom_43 (by decide) ?_
        exact ih2 (k + 1) M J _ _ _ (by omega) ⟨(by rw [sm_2 q4 q5]; exact lv_sub hl [1, 2, 3, 0] rfl), rfl, by omega, rfl, trivial⟩ hw
      · skip
        refine lv_aload_n hx hb dX6_smallestFrom_33 rfl (lv_at hl 0 rfl) ?_
        refine wr_gr hx hb hown hK hts iX6 (ci := 5) rfl 3 (by decide) f21 rfl hw 332 (by omega) 333 cs_T rfl dX6_smallestFrom_34 ?_
        refine lv_iload_n hx hb dX6_smallestFrom_37 rfl (lv_at hl 3 rfl) ?_
        refine wr_ildN hx hb hK hw 333 (by omega) cs_TT (by decide) k rfl (by omega) dX6_smallestFrom_38 ?_
        refine lv_istore_n (lv' := [(2, .int (M 333 k)), (0, .ref (ad 332)), (1, .int v), (3, .int (nI k))]) hx hb dX6_smallestFrom_39 rfl hl (by decide) rfl (fun ls hl => ?_)
        refine lv_iinc (v := nI (k + 1)) (lv' := [(3, .int (nI (k + 1))), (2, .int (M 333 k)), (0, .ref (ad 332)), (1, .int v)]) hx hb dX6_smallestFrom_40 hl (k := 3) rfl (nI_1 _) (by decide) rfl (fun ls hl => ?_)
        refine lv_goto (tgt := 5) hx hb dX6_smallestFrom_43 (by decide) ?_
        exact ih2 (k + 1) M J _ _ _ (by omega) ⟨(by rw [sm_3 q4 q5]; exact lv_sub hl [2, 3, 1, 0] rfl), rfl, by omega, rfl, trivial⟩ hw
set_option maxHeartbeats 4000000 in
set_option maxRecDepth 100000 in
theorem k_X6_widen (l : Launch) (D : va_G) (ad : Nat → Nat) (cs : Nat → ClassId) (sz : Nat) (M : wM) (J : wJ) (i : Nat) (j : Nat) (t : Nat) (hi : i < 67) (hj : j < 67) (hij : i ≠ j) (ht : M 332 2 = nI t) (ht8 : t ≤ 8) (z0 : M (3 * i) 0 = 0) (z1 : M (3 * j) 0 = 0) : wCv l yX6_widen wsX6_widen { frames := 1, cells := 0, slots := 0, locals := 23 } D 340 cSh ad cs [.ref (ad 332), .ref (ad (3 * i)), .ref (ad (3 * j))] sz M J (pS M J i (wd M t (sv M i) (sv M j))) := by
  refine wC_v (cc := cX6_widen) (maxL := 4) (ret := none) (by decide) rfl (Nat.le_of_ble_eq_true rfl) ?_
  intro p e s m below meth c ls A hx hb hr hml hown hts hlocks hK hA hw hl hAe
  clear hAe
  have hl : lv_has ls 4 [(0, .ref (ad 332)), (1, .ref (ad (3 * i))), (2, .ref (ad (3 * j)))] := hl
  have f25 : (Cond.fieldLink RX6 25 "RangePropagator$State" "low" "[I").before _ s = true := hts _ (by decide +kernel)
  have iX7 : ∀ w ∈ wsX70, w ∈ wsX6_widen := by decide +kernel
  have f34 : (Cond.fieldLink RX6 34 "RangePropagator$State" "high" "[I").before _ s = true := hts _ (by decide +kernel)
  refine lv_iconst (v := nI 0) hx hb dX6_widen_0 (by decide) ?_
  refine lv_istore_n (lv' := [(3, .int (nI 0)), (0, .ref (ad 332)), (1, .ref (ad (3 * i))), (2, .ref (ad (3 * j)))]) hx hb dX6_widen_1 rfl hl (by decide) rfl (fun ls hl => ?_)
  refine w_loop (σ := Nat) (fun k M' J' ls => lv_has ls 4 [(0, .ref (ad 332)), (1, .ref (ad (3 * i))), (2, .ref (ad (3 * j))), (3, .int (nI k))] ∧ J' = J ∧ k ≤ 6 ∧ I2 (wlo M t) (whi M t) M i j k M') (fun k => 6 - k) (fun k M1 J1_ H locs ls hI hw ih2 => ?_) 0 ⟨lv_sub hl [1, 2, 3, 0] rfl, rfl, by omega, I2_0⟩ hw
  obtain ⟨hl, eJ_, hk_, hI⟩ := hI
  rw [eJ_] at hw
  clear eJ_
  refine lv_iload_n hx hb dX6_widen_2 rfl (lv_at hl 3 rfl) ?_
  refine lv_bipush (v := nI 6) hx hb dX6_widen_3 (by decide) ?_
  refine lv_icmp_ge (tgt := 76) hx hb dX6_widen_5 (by decide) (fun q3 => ?_) (fun q3 => ?_)
  · have q3n : 6 ≤ k := (nI_leI (by omega) (by omega)).mp q3
    exact wr_vret hx hb hr hK hw (by have e : k = 6 := (by omega); subst e; exact p_wd z0 z1 hI) hlocks dX6_widen_76
  · have q3n : ¬ 6 ≤ k := fun z => q3 ((nI_leI (by omega) (by omega)).mpr z)
    refine lv_aload_n hx hb dX6_widen_8 rfl (lv_at hl 1 rfl) ?_
    refine wr_gr hx hb hown hK hts iX7 (ci := 6) rfl 1 (by decide) f25 rfl hw (3 * i) (by omega) (3 * i + 1) (cs_S (by omega)) rfl dX6_widen_9 ?_
    refine lv_iload_n hx hb dX6_widen_12 rfl (lv_at hl 3 rfl) ?_
    refine wr_ildN hx hb hK hw (3 * i + 1) (by omega) (cs_SL (by omega)) (by decide) k rfl (by omega) dX6_widen_13 ?_
    refine lv_aload_n hx hb dX6_widen_14 rfl (lv_at hl 2 rfl) ?_
    refine wr_gr hx hb hown hK hts iX7 (ci := 6) rfl 1 (by decide) f25 rfl hw (3 * j) (by omega) (3 * j + 1) (cs_S (by omega)) rfl dX6_widen_15 ?_
    refine lv_iload_n hx hb dX6_widen_18 rfl (lv_at hl 3 rfl) ?_
    refine wr_ildN hx hb hK hw (3 * j + 1) (by omega) (cs_SL (by omega)) (by decide) k rfl (by omega) dX6_widen_19 ?_
    refine lv_icmp_ge (tgt := 39) hx hb dX6_widen_20 (by decide) (fun q4 => ?_) (fun q4 => ?_)
    · skip
      refine lv_aload_n hx hb dX6_widen_39 rfl (lv_at hl 1 rfl) ?_
      refine wr_gr hx hb hown hK hts iX7 (ci := 6) rfl 2 (by decide) f34 rfl hw (3 * i) (by omega) (3 * i + 2) (cs_S (by omega)) rfl dX6_widen_40 ?_
      refine lv_iload_n hx hb dX6_widen_43 rfl (lv_at hl 3 rfl) ?_
      refine wr_ildN hx hb hK hw (3 * i + 2) (by omega) (cs_SH (by omega)) (by decide) k rfl (by omega) dX6_widen_44 ?_
      refine lv_aload_n hx hb dX6_widen_45 rfl (lv_at hl 2 rfl) ?_
      refine wr_gr hx hb hown hK hts iX7 (ci := 6) rfl 2 (by decide) f34 rfl hw (3 * j) (by omega) (3 * j + 2) (cs_S (by omega)) rfl dX6_widen_46 ?_
      refine lv_iload_n hx hb dX6_widen_49 rfl (lv_at hl 3 rfl) ?_
      refine wr_ildN hx hb hK hw (3 * j + 2) (by omega) (cs_SH (by omega)) (by decide) k rfl (by omega) dX6_widen_50 ?_
      refine lv_icmp_le (tgt := 70) hx hb dX6_widen_51 (by decide) (fun q5 => ?_) (fun q5 => ?_)
      · skip
        refine lv_iinc (v := nI (k + 1)) (lv' := [(3, .int (nI (k + 1))), (0, .ref (ad 332)), (1, .ref (ad (3 * i))), (2, .ref (ad (3 * j)))]) hx hb dX6_widen_70 hl (k := 3) rfl (nI_1 _) (by decide) rfl (fun ls hl => ?_)
        refine lv_goto (tgt := 2) hx hb dX6_widen_73 (by decide) ?_
        exact ih2 (k + 1) M1 J _ _ _ (by omega) ⟨lv_sub hl [1, 2, 3, 0] rfl, rfl, by omega, Iw_1 hij hI q4 q5⟩ hw
      · skip
        refine lv_aload_n hx hb dX6_widen_54 rfl (lv_at hl 1 rfl) ?_
        refine wr_gr hx hb hown hK hts iX7 (ci := 6) rfl 2 (by decide) f34 rfl hw (3 * i) (by omega) (3 * i + 2) (cs_S (by omega)) rfl dX6_widen_55 ?_
        refine lv_iload_n hx hb dX6_widen_58 rfl (lv_at hl 3 rfl) ?_
        refine lv_aload_n hx hb dX6_widen_59 rfl (lv_at hl 0 rfl) ?_
        refine lv_aload_n hx hb dX6_widen_60 rfl (lv_at hl 1 rfl) ?_
        refine wr_gr hx hb hown hK hts iX7 (ci := 6) rfl 2 (by decide) f34 rfl hw (3 * i) (by omega) (3 * i + 2) (cs_S (by omega)) rfl dX6_widen_61 ?_
        refine lv_iload_n hx hb dX6_widen_64 rfl (lv_at hl 3 rfl) ?_
        refine wr_ildN hx hb hK hw (3 * i + 2) (by omega) (cs_SH (by omega)) (by decide) k rfl (by omega) dX6_widen_65 ?_
        refine wr_cVi (k := 332) (ci := 5) (As := [.int (M1 (3 * i + 2) k)]) (rest := [.int (nI k), .ref (ad (3 * i + 2))]) ⟨hx, hb, hml, hown, hts⟩ (cwV 1 hts gX6_widen_X6_smallestFrom rfl rfl rfl (by decide +kernel) ⟨Nat.le_of_ble_eq_true rfl, Nat.le_of_ble_eq_true rfl⟩) hK hA hw (k_X6_smallestFrom l D ad cs H.size M1 J (M1 (3 * i + 2) k) t ((congrFun (show M1 332 = M 332 from hI.1 332 (by omega)) 2).trans ht) (by omega)) (by omega) cs_T rfl rfl rfl hl.1 (Nat.le_of_ble_eq_true rfl) ⟨Nat.le_of_ble_eq_true rfl, Nat.le_of_ble_eq_true rfl⟩ dX6_widen_66 (fun r6 M7 J8 H locs h9 hw => ?_)
        obtain ⟨h9, rfl⟩ := h9
        cases h9
        refine wr_istN hx hb hK hw (3 * i + 2) (by omega) (cs_SH (by omega)) (by decide) k rfl (by omega) dX6_widen_69 (fun H locs hw => ?_)
        refine lv_iinc (v := nI (k + 1)) (lv' := [(3, .int (nI (k + 1))), (0, .ref (ad 332)), (1, .ref (ad (3 * i))), (2, .ref (ad (3 * j)))]) hx hb dX6_widen_70 hl (k := 3) rfl (nI_1 _) (by decide) rfl (fun ls hl => ?_)
        refine lv_goto (tgt := 2) hx hb dX6_widen_73 (by decide) ?_
        exact ih2 (k + 1) (wU M1 (3 * i + 2) k (sm M1 (M1 (3 * i + 2) k) t)) J _ _ _ (by omega) ⟨lv_sub hl [1, 2, 3, 0] rfl, rfl, by omega, Iw_3 hi hij hI q4 q5⟩ hw
    · skip
      refine lv_aload_n hx hb dX6_widen_23 rfl (lv_at hl 1 rfl) ?_
      refine wr_gr hx hb hown hK hts iX7 (ci := 6) rfl 1 (by decide) f25 rfl hw (3 * i) (by omega) (3 * i + 1) (cs_S (by omega)) rfl dX6_widen_24 ?_
      refine lv_iload_n hx hb dX6_widen_27 rfl (lv_at hl 3 rfl) ?_
      refine lv_aload_n hx hb dX6_widen_28 rfl (lv_at hl 0 rfl) ?_
      refine lv_aload_n hx hb dX6_widen_29 rfl (lv_at hl 1 rfl) ?_
      refine wr_gr hx hb hown hK hts iX7 (ci := 6) rfl 1 (by decide) f25 rfl hw (3 * i) (by omega) (3 * i + 1) (cs_S (by omega)) rfl dX6_widen_30 ?_
      refine lv_iload_n hx hb dX6_widen_33 rfl (lv_at hl 3 rfl) ?_
      refine wr_ildN hx hb hK hw (3 * i + 1) (by omega) (cs_SL (by omega)) (by decide) k rfl (by omega) dX6_widen_34 ?_
      refine wr_cVi (k := 332) (ci := 5) (As := [.int (M1 (3 * i + 1) k)]) (rest := [.int (nI k), .ref (ad (3 * i + 1))]) ⟨hx, hb, hml, hown, hts⟩ (cwV 1 hts gX6_widen_X6_greatestUpTo rfl rfl rfl (by decide +kernel) ⟨Nat.le_of_ble_eq_true rfl, Nat.le_of_ble_eq_true rfl⟩) hK hA hw (k_X6_greatestUpTo l D ad cs H.size M1 J (M1 (3 * i + 1) k) t ((congrFun (show M1 332 = M 332 from hI.1 332 (by omega)) 2).trans ht) (by omega)) (by omega) cs_T rfl rfl rfl hl.1 (Nat.le_of_ble_eq_true rfl) ⟨Nat.le_of_ble_eq_true rfl, Nat.le_of_ble_eq_true rfl⟩ dX6_widen_35 (fun r10 M11 J12 H locs h13 hw => ?_)
      obtain ⟨h13, rfl⟩ := h13
      cases h13
      refine wr_istN hx hb hK hw (3 * i + 1) (by omega) (cs_SL (by omega)) (by decide) k rfl (by omega) dX6_widen_38 (fun H locs hw => ?_)
      refine lv_aload_n hx hb dX6_widen_39 rfl (lv_at hl 1 rfl) ?_
      refine wr_gr hx hb hown hK hts iX7 (ci := 6) rfl 2 (by decide) f34 rfl hw (3 * i) (by omega) (3 * i + 2) (cs_S (by omega)) rfl dX6_widen_40 ?_
      refine lv_iload_n hx hb dX6_widen_43 rfl (lv_at hl 3 rfl) ?_
      refine wr_ildN hx hb hK hw (3 * i + 2) (by omega) (cs_SH (by omega)) (by decide) k rfl (by omega) dX6_widen_44 ?_
      refine lv_aload_n hx hb dX6_widen_45 rfl (lv_at hl 2 rfl) ?_
      refine wr_gr hx hb hown hK hts iX7 (ci := 6) rfl 2 (by decide) f34 rfl hw (3 * j) (by omega) (3 * j + 2) (cs_S (by omega)) rfl dX6_widen_46 ?_
      refine lv_iload_n hx hb dX6_widen_49 rfl (lv_at hl 3 rfl) ?_
      refine wr_ildN hx hb hK hw (3 * j + 2) (by omega) (cs_SH (by omega)) (by decide) k rfl (by omega) dX6_widen_50 ?_
      refine lv_icmp_le (tgt := 70) hx hb dX6_widen_51 (by decide) (fun q14 => ?_) (fun q14 => ?_)
      · skip
        refine lv_iinc (v := nI (k + 1)) (lv' := [(3, .int (nI (k + 1))), (0, .ref (ad 332)), (1, .ref (ad (3 * i))), (2, .ref (ad (3 * j)))]) hx hb dX6_widen_70 hl (k := 3) rfl (nI_1 _) (by decide) rfl (fun ls hl => ?_)
        refine lv_goto (tgt := 2) hx hb dX6_widen_73 (by decide) ?_
        exact ih2 (k + 1) (wU M1 (3 * i + 1) k (gu M1 (M1 (3 * i + 1) k) t)) J _ _ _ (by omega) ⟨lv_sub hl [1, 2, 3, 0] rfl, rfl, by omega, Iw_2 hi hij hI q4 q14⟩ hw
      · skip
        refine lv_aload_n hx hb dX6_widen_54 rfl (lv_at hl 1 rfl) ?_
        refine wr_gr hx hb hown hK hts iX7 (ci := 6) rfl 2 (by decide) f34 rfl hw (3 * i) (by omega) (3 * i + 2) (cs_S (by omega)) rfl dX6_widen_55 ?_
        refine lv_iload_n hx hb dX6_widen_58 rfl (lv_at hl 3 rfl) ?_
        refine lv_aload_n hx hb dX6_widen_59 rfl (lv_at hl 0 rfl) ?_
        refine lv_aload_n hx hb dX6_widen_60 rfl (lv_at hl 1 rfl) ?_
        refine wr_gr hx hb hown hK hts iX7 (ci := 6) rfl 2 (by decide) f34 rfl hw (3 * i) (by omega) (3 * i + 2) (cs_S (by omega)) rfl dX6_widen_61 ?_
        refine lv_iload_n hx hb dX6_widen_64 rfl (lv_at hl 3 rfl) ?_
        refine wr_ildN hx hb hK hw (3 * i + 2) (by omega) (cs_SH (by omega)) (by decide) k rfl (by omega) dX6_widen_65 ?_
        refine wr_cVi (k := 332) (ci := 5) (As := [.int ((wU M1 (3 * i + 1) k (gu M1 (M1 (3 * i + 1) k) t)) (3 * i + 2) k)]) (rest := [.int (nI k), .ref (ad (3 * i + 2))]) ⟨hx, hb, hml, hown, hts⟩ (cwV 1 hts gX6_widen_X6_smallestFrom rfl rfl rfl (by decide +kernel) ⟨Nat.le_of_ble_eq_true rfl, Nat.le_of_ble_eq_true rfl⟩) hK hA hw (k_X6_smallestFrom l D ad cs H.size (wU M1 (3 * i + 1) k (gu M1 (M1 (3 * i + 1) k) t)) J ((wU M1 (3 * i + 1) k (gu M1 (M1 (3 * i + 1) k) t)) (3 * i + 2) k) t ((congrFun (show (wU M1 (3 * i + 1) k (gu M1 (M1 (3 * i + 1) k) t)) 332 = M 332 from (wU_ne (by omega)).trans (hI.1 332 (by omega))) 2).trans ht) (by omega)) (by omega) cs_T rfl rfl rfl hl.1 (Nat.le_of_ble_eq_true rfl) ⟨Nat.le_of_ble_eq_true rfl, Nat.le_of_ble_eq_true rfl⟩ dX6_widen_66 (fun r15 M16 J17 H locs h18 hw => ?_)
        obtain ⟨h18, rfl⟩ := h18
        cases h18
        refine wr_istN hx hb hK hw (3 * i + 2) (by omega) (cs_SH (by omega)) (by decide) k rfl (by omega) dX6_widen_69 (fun H locs hw => ?_)
        refine lv_iinc (v := nI (k + 1)) (lv' := [(3, .int (nI (k + 1))), (0, .ref (ad 332)), (1, .ref (ad (3 * i))), (2, .ref (ad (3 * j)))]) hx hb dX6_widen_70 hl (k := 3) rfl (nI_1 _) (by decide) rfl (fun ls hl => ?_)
        refine lv_goto (tgt := 2) hx hb dX6_widen_73 (by decide) ?_
        exact ih2 (k + 1) (wU (wU M1 (3 * i + 1) k (gu M1 (M1 (3 * i + 1) k) t)) (3 * i + 2) k (sm (wU M1 (3 * i + 1) k (gu M1 (M1 (3 * i + 1) k) t)) ((wU M1 (3 * i + 1) k (gu M1 (M1 (3 * i + 1) k) t)) (3 * i + 2) k) t)) J _ _ _ (by omega) ⟨lv_sub hl [1, 2, 3, 0] rfl, rfl, by omega, Iw_4 hi hij hI q4 q14⟩ hw
set_option maxHeartbeats 4000000 in
set_option maxRecDepth 100000 in
theorem k_X6_keepThreshold (l : Launch) (D : va_G) (ad : Nat → Nat) (cs : Nat → ClassId) (sz : Nat) (M : wM) (J : wJ) (v : Int32) (t : Nat) (ht : M 332 2 = nI t) (ht8 : t < 8) : wCv l yX6_keepThreshold wsX6_keepThreshold { frames := 0, cells := 0, slots := 0, locals := 0 } D 340 cSh ad cs [.ref (ad 332), .int v] sz M J (fun u_ => (thIn M v t ∧ u_ = (M, J)) ∨ (¬ thIn M v t ∧ u_ = (wU (wU M 333 t v) 332 2 (nI (t + 1)), J))) := by
  refine wC_v (cc := cX6_keepThreshold) (maxL := 3) (ret := none) (by decide) rfl (Nat.le_of_ble_eq_true rfl) ?_
  intro p e s m below meth c ls A hx hb hr hml hown hts hlocks hK hA hw hl hAe
  clear hAe
  have hl : lv_has ls 3 [(0, .ref (ad 332)), (1, .int v)] := hl
  have f18 : (Cond.fieldLink RX6 18 "RangePropagator$Settings" "thresholdCount" "I").before _ s = true := hts _ (by decide +kernel)
  have iX6 : ∀ w ∈ wsX60, w ∈ wsX6_keepThreshold := by decide +kernel
  have f21 : (Cond.fieldLink RX6 21 "RangePropagator$Settings" "thresholds" "[I").before _ s = true := hts _ (by decide +kernel)
  refine lv_iconst (v := nI 0) hx hb dX6_keepThreshold_0 (by decide) ?_
  refine lv_istore_n (lv' := [(2, .int (nI 0)), (0, .ref (ad 332)), (1, .int v)]) hx hb dX6_keepThreshold_1 rfl hl (by decide) rfl (fun ls hl => ?_)
  refine w_loop (σ := Nat) (fun k M' J' ls => lv_has ls 3 [(0, .ref (ad 332)), (1, .int v), (2, .int (nI k))] ∧ J' = J ∧ k ≤ t ∧ M' = M ∧ (∀ a, a < k → ¬ M 333 a = v)) (fun k => t - k) (fun k M1 J1_ H locs ls hI hw ih2 => ?_) 0 ⟨lv_sub hl [1, 2, 0] rfl, rfl, by omega, rfl, (fun a h => absurd h (Nat.not_lt_zero a))⟩ hw
  obtain ⟨hl, eJ_, hk_, hI⟩ := hI
  rw [eJ_] at hw
  clear eJ_
  obtain ⟨eM_, hI⟩ := hI
  rw [eM_] at hw
  clear eM_
  refine lv_iload_n hx hb dX6_keepThreshold_2 rfl (lv_at hl 2 rfl) ?_
  refine lv_aload_n hx hb dX6_keepThreshold_3 rfl (lv_at hl 0 rfl) ?_
  refine wr_gi hx hb hown hK hts iX6 (ci := 5) rfl 2 (by decide) f18 rfl hw 332 (by omega) cs_T rfl dX6_keepThreshold_4 ?_
  rw [show M 332 2 = nI t from ht]
  refine lv_icmp_ge (tgt := 27) hx hb dX6_keepThreshold_7 (by decide) (fun q3 => ?_) (fun q3 => ?_)
  · have q3n : t ≤ k := (nI_leI (by omega) (by omega)).mp q3
    refine lv_aload_n hx hb dX6_keepThreshold_27 rfl (lv_at hl 0 rfl) ?_
    refine wr_gi hx hb hown hK hts iX6 (ci := 5) rfl 2 (by decide) f18 rfl hw 332 (by omega) cs_T rfl dX6_keepThreshold_28 ?_
    rw [show M 332 2 = nI t from ht]
    refine lv_bipush (v := nI 8) hx hb dX6_keepThreshold_31 (by decide) ?_
    refine lv_icmp_ge (tgt := 56) hx hb dX6_keepThreshold_33 (by decide) (fun q4 => ?_) (fun q4 => ?_)
    · have q4n : 8 ≤ t := (nI_leI (by omega) (by omega)).mp q4
      exfalso; omega
    · have q4n : ¬ 8 ≤ t := fun z => q4 ((nI_leI (by omega) (by omega)).mpr z)
      refine lv_aload_n hx hb dX6_keepThreshold_36 rfl (lv_at hl 0 rfl) ?_
      refine wr_gr hx hb hown hK hts iX6 (ci := 5) rfl 3 (by decide) f21 rfl hw 332 (by omega) 333 cs_T rfl dX6_keepThreshold_37 ?_
      refine lv_aload_n hx hb dX6_keepThreshold_40 rfl (lv_at hl 0 rfl) ?_
      refine wr_gi hx hb hown hK hts iX6 (ci := 5) rfl 2 (by decide) f18 rfl hw 332 (by omega) cs_T rfl dX6_keepThreshold_41 ?_
      rw [show M 332 2 = nI t from ht]
      refine lv_iload_n hx hb dX6_keepThreshold_44 rfl (lv_at hl 1 rfl) ?_
      refine wr_istN hx hb hK hw 333 (by omega) cs_TT (by decide) t rfl (by omega) dX6_keepThreshold_45 (fun H locs hw => ?_)
      refine lv_aload_n hx hb dX6_keepThreshold_46 rfl (lv_at hl 0 rfl) ?_
      refine lv_dup hx hb dX6_keepThreshold_47 rfl ?_
      refine wr_gi hx hb hown hK hts iX6 (ci := 5) rfl 2 (by decide) f18 rfl hw 332 (by omega) cs_T rfl dX6_keepThreshold_48 ?_
      rw [show (wU M 333 t v) 332 2 = nI t from ((congrFun (wU_ne (by decide)) 2).trans ht)]
      refine lv_iconst (v := nI 1) hx hb dX6_keepThreshold_51 (by decide) ?_
      refine lv_iaddN hx hb dX6_keepThreshold_52 ?_
      refine wr_pi hx hb hown hK hts iX6 tyX6_ok nmX6 (ci := 5) rfl 2 (by decide) f18 rfl rfl hw 332 (by omega) cs_T rfl rfl rfl dX6_keepThreshold_53 (fun H locs hw => ?_)
      exact wr_vret hx hb hr hK hw (Or.inr ⟨fun z => (by obtain ⟨a, h1, h2⟩ := z; exact hI a (by omega) h2), rfl⟩) hlocks dX6_keepThreshold_56
  · have q3n : ¬ t ≤ k := fun z => q3 ((nI_leI (by omega) (by omega)).mpr z)
    refine lv_aload_n hx hb dX6_keepThreshold_10 rfl (lv_at hl 0 rfl) ?_
    refine wr_gr hx hb hown hK hts iX6 (ci := 5) rfl 3 (by decide) f21 rfl hw 332 (by omega) 333 cs_T rfl dX6_keepThreshold_11 ?_
    refine lv_iload_n hx hb dX6_keepThreshold_14 rfl (lv_at hl 2 rfl) ?_
    refine wr_ildN hx hb hK hw 333 (by omega) cs_TT (by decide) k rfl (by omega) dX6_keepThreshold_15 ?_
    refine lv_iload_n hx hb dX6_keepThreshold_16 rfl (lv_at hl 1 rfl) ?_
    refine lv_icmp_ne (tgt := 21) hx hb dX6_keepThreshold_17 (by decide) (fun q5 => ?_) (fun q5 => ?_)
    · skip
      refine lv_iinc (v := nI (k + 1)) (lv' := [(2, .int (nI (k + 1))), (0, .ref (ad 332)), (1, .int v)]) hx hb dX6_keepThreshold_21 hl (k := 2) rfl (nI_1 _) (by decide) rfl (fun ls hl => ?_)
      refine lv_goto (tgt := 2) hx hb dX6_keepThreshold_24 (by decide) ?_
      exact ih2 (k + 1) M J _ _ _ (by omega) ⟨lv_sub hl [1, 2, 0] rfl, rfl, by omega, rfl, (fun a h => by rcases Nat.lt_succ_iff_lt_or_eq.mp h with q | q; exact hI a q; rw [q]; exact q5)⟩ hw
    · skip
      exact wr_vret hx hb hr hK hw (Or.inl ⟨⟨k, by omega, q5⟩, rfl⟩) hlocks dX6_keepThreshold_20
set_option maxHeartbeats 4000000 in
set_option maxRecDepth 100000 in
theorem k_X4_makeNone (l : Launch) (D : va_G) (ad : Nat → Nat) (cs : Nat → ClassId) (sz : Nat) (M : wM) (J : wJ) (b : Nat) (hb16 : b < 16) : wCv l yX4_makeNone wsX4_makeNone { frames := 0, cells := 0, slots := 0, locals := 0 } D 340 cSh ad cs [.ref (ad (297 + 2 * b))] sz M J (fun u_ => u_ = (mnE (wU (wU (wU M (297 + 2 * b) 3 (nI 0)) (3 * (3 + 4 * b)) 0 (nI 1)) (3 * (4 + 4 * b)) 0 (nI 1)) b 2, J)) := by
  refine wC_v (cc := cX4_makeNone) (maxL := 2) (ret := none) (by decide) rfl (Nat.le_of_ble_eq_true rfl) ?_
  intro p e s m below meth c ls A hx hb hr hml hown hts hlocks hK hA hw hl hAe
  clear hAe
  have hl : lv_has ls 2 [(0, .ref (ad (297 + 2 * b)))] := hl
  have f25 : (Cond.fieldLink RX4 25 "RangePropagator$Flow" "visitCount" "I").before _ s = true := hts _ (by decide +kernel)
  have iX4 : ∀ w ∈ wsX40, w ∈ wsX4_makeNone := by decide +kernel
  have f12 : (Cond.fieldLink RX4 12 "RangePropagator$Flow" "entryState" "LRangePropagator$State;").before _ s = true := hts _ (by decide +kernel)
  have f29 : (Cond.fieldLink RX4 29 "RangePropagator$State" "isNone" "Z").before _ s = true := hts _ (by decide +kernel)
  have iX7 : ∀ w ∈ wsX70, w ∈ wsX4_makeNone := by decide +kernel
  have f18 : (Cond.fieldLink RX4 18 "RangePropagator$Flow" "exitState" "LRangePropagator$State;").before _ s = true := hts _ (by decide +kernel)
  have f21 : (Cond.fieldLink RX4 21 "RangePropagator$Flow" "edgeStates" "[LRangePropagator$State;").before _ s = true := hts _ (by decide +kernel)
  refine lv_aload_n hx hb dX4_makeNone_0 rfl (lv_at hl 0 rfl) ?_
  refine lv_iconst (v := nI 0) hx hb dX4_makeNone_1 (by decide) ?_
  refine wr_pi hx hb hown hK hts iX4 tyX4_ok nmX4 (ci := 3) rfl 3 (by decide) f25 rfl rfl hw (297 + 2 * b) (by omega) (cs_F (by omega)) rfl rfl rfl dX4_makeNone_2 (fun H locs hw => ?_)
  refine lv_aload_n hx hb dX4_makeNone_5 rfl (lv_at hl 0 rfl) ?_
  refine wr_gr hx hb hown hK hts iX4 (ci := 3) rfl 0 (by decide) f12 rfl hw (297 + 2 * b) (by omega) (3 * (3 + 4 * b)) (cs_F (by omega)) rfl dX4_makeNone_6 ?_
  refine lv_iconst (v := nI 1) hx hb dX4_makeNone_9 (by decide) ?_
  refine wr_pi hx hb hown hK hts iX7 tyX7_ok nmX7 (ci := 6) rfl 0 (by decide) f29 rfl rfl hw (3 * (3 + 4 * b)) (by omega) (cs_S (by omega)) rfl (by decide) (by decide) dX4_makeNone_10 (fun H locs hw => ?_)
  refine lv_aload_n hx hb dX4_makeNone_13 rfl (lv_at hl 0 rfl) ?_
  refine wr_gr hx hb hown hK hts iX4 (ci := 3) rfl 1 (by decide) f18 rfl hw (297 + 2 * b) (by omega) (3 * (4 + 4 * b)) (cs_F (by omega)) rfl dX4_makeNone_14 ?_
  refine lv_iconst (v := nI 1) hx hb dX4_makeNone_17 (by decide) ?_
  refine wr_pi hx hb hown hK hts iX7 tyX7_ok nmX7 (ci := 6) rfl 0 (by decide) f29 rfl rfl hw (3 * (4 + 4 * b)) (by omega) (cs_S (by omega)) rfl (by decide) (by decide) dX4_makeNone_18 (fun H locs hw => ?_)
  refine lv_iconst (v := nI 0) hx hb dX4_makeNone_21 (by decide) ?_
  refine lv_istore_n (lv' := [(1, .int (nI 0)), (0, .ref (ad (297 + 2 * b)))]) hx hb dX4_makeNone_22 rfl hl (by decide) rfl (fun ls hl => ?_)
  refine w_loop (σ := Nat) (fun k M' J' ls => lv_has ls 2 [(0, .ref (ad (297 + 2 * b))), (1, .int (nI k))] ∧ J' = J ∧ k ≤ 2 ∧ M' = mnE (wU (wU (wU M (297 + 2 * b) 3 (nI 0)) (3 * (3 + 4 * b)) 0 (nI 1)) (3 * (4 + 4 * b)) 0 (nI 1)) b k) (fun k => 2 - k) (fun k M1 J1_ H locs ls hI hw ih2 => ?_) 0 ⟨lv_sub hl [1, 0] rfl, rfl, by omega, rfl⟩ hw
  obtain ⟨hl, eJ_, hk_, hI⟩ := hI
  rw [eJ_] at hw
  clear eJ_
  refine lv_iload_n hx hb dX4_makeNone_23 rfl (lv_at hl 1 rfl) ?_
  refine lv_iconst (v := nI 2) hx hb dX4_makeNone_24 (by decide) ?_
  refine lv_icmp_ge (tgt := 44) hx hb dX4_makeNone_25 (by decide) (fun q3 => ?_) (fun q3 => ?_)
  · have q3n : 2 ≤ k := (nI_leI (by omega) (by omega)).mp q3
    exact wr_vret hx hb hr hK hw (by have e : k = 2 := (by omega); rw [hI, e]) hlocks dX4_makeNone_44
  · have q3n : ¬ 2 ≤ k := fun z => q3 ((nI_leI (by omega) (by omega)).mpr z)
    refine lv_aload_n hx hb dX4_makeNone_28 rfl (lv_at hl 0 rfl) ?_
    refine wr_gr hx hb hown hK hts iX4 (ci := 3) rfl 2 (by decide) f21 rfl hw (297 + 2 * b) (by omega) (297 + 2 * b + 1) (cs_F (by omega)) rfl dX4_makeNone_29 ?_
    refine lv_iload_n hx hb dX4_makeNone_32 rfl (lv_at hl 1 rfl) ?_
    refine wr_aldN hx hb hK hw (297 + 2 * b + 1) (by omega) (cs_FE (by omega)) rfl (by decide) k rfl (by omega) dX4_makeNone_33 ?_
    refine lv_iconst (v := nI 1) hx hb dX4_makeNone_34 (by decide) ?_
    refine wr_pi hx hb hown hK hts iX7 tyX7_ok nmX7 (ci := 6) rfl 0 (by decide) f29 rfl rfl hw (3 * (5 + 4 * b + k)) (by omega) (cs_S (by omega)) rfl (by decide) (by decide) dX4_makeNone_35 (fun H locs hw => ?_)
    refine lv_iinc (v := nI (k + 1)) (lv' := [(1, .int (nI (k + 1))), (0, .ref (ad (297 + 2 * b)))]) hx hb dX4_makeNone_38 hl (k := 1) rfl (nI_1 _) (by decide) rfl (fun ls hl => ?_)
    refine lv_goto (tgt := 23) hx hb dX4_makeNone_41 (by decide) ?_
    exact ih2 (k + 1) (wU M1 (3 * (5 + 4 * b + k)) 0 (nI 1)) J _ _ _ (by omega) ⟨lv_sub hl [1, 0] rfl, rfl, by omega, (by rw [hI]; rfl)⟩ hw
set_option maxHeartbeats 4000000 in
set_option maxRecDepth 100000 in
theorem k_X4_countDeadEdges (l : Launch) (D : va_G) (ad : Nat → Nat) (cs : Nat → ClassId) (sz : Nat) (M : wM) (J : wJ) (b : Nat) (n : Nat) (hb16 : b < 16) (hn2 : n ≤ 2) : wCi l yX4_countDeadEdges wsX4_countDeadEdges { frames := 0, cells := 0, slots := 0, locals := 0 } D 340 cSh ad cs [.ref (ad (297 + 2 * b)), .int (nI n)] sz M J (fun r_ u_ => u_ = (M, J) ∧ r_ = nI (dedF M b n)) := by
  refine wC_i (cc := cX4_countDeadEdges) (maxL := 4) (ret := (some .int)) (by decide) rfl (Nat.le_of_ble_eq_true rfl) ?_
  intro p e s m below meth c ls A hx hb hr hml hown hts hlocks hK hA hw hl hAe
  clear hAe
  have hl : lv_has ls 4 [(0, .ref (ad (297 + 2 * b))), (1, .int (nI n))] := hl
  have f12 : (Cond.fieldLink RX4 12 "RangePropagator$Flow" "entryState" "LRangePropagator$State;").before _ s = true := hts _ (by decide +kernel)
  have iX4 : ∀ w ∈ wsX40, w ∈ wsX4_countDeadEdges := by decide +kernel
  have f29 : (Cond.fieldLink RX4 29 "RangePropagator$State" "isNone" "Z").before _ s = true := hts _ (by decide +kernel)
  have iX7 : ∀ w ∈ wsX70, w ∈ wsX4_countDeadEdges := by decide +kernel
  have f21 : (Cond.fieldLink RX4 21 "RangePropagator$Flow" "edgeStates" "[LRangePropagator$State;").before _ s = true := hts _ (by decide +kernel)
  refine lv_iconst (v := nI 0) hx hb dX4_countDeadEdges_0 (by decide) ?_
  refine lv_istore_n (lv' := [(2, .int (nI 0)), (0, .ref (ad (297 + 2 * b))), (1, .int (nI n))]) hx hb dX4_countDeadEdges_1 rfl hl (by decide) rfl (fun ls hl => ?_)
  refine lv_iconst (v := nI 0) hx hb dX4_countDeadEdges_2 (by decide) ?_
  refine lv_istore_n (lv' := [(3, .int (nI 0)), (2, .int (nI 0)), (0, .ref (ad (297 + 2 * b))), (1, .int (nI n))]) hx hb dX4_countDeadEdges_3 rfl hl (by decide) rfl (fun ls hl => ?_)
  refine w_loop (σ := Nat) (fun k M' J' ls => lv_has ls 4 [(0, .ref (ad (297 + 2 * b))), (1, .int (nI n)), (2, .int (nI (dedN M b k))), (3, .int (nI k))] ∧ J' = J ∧ k ≤ n ∧ M' = M ∧ (¬ M (3 * (3 + 4 * b)) 0 = 0 → k = 0)) (fun k => n - k) (fun k M1 J1_ H locs ls hI hw ih2 => ?_) 0 ⟨lv_sub hl [2, 3, 1, 0] rfl, rfl, by omega, rfl, fun _ => rfl⟩ hw
  obtain ⟨hl, eJ_, hk_, hI⟩ := hI
  rw [eJ_] at hw
  clear eJ_
  obtain ⟨eM_, hI⟩ := hI
  rw [eM_] at hw
  clear eM_
  refine lv_aload_n hx hb dX4_countDeadEdges_4 rfl (lv_at hl 0 rfl) ?_
  refine wr_gr hx hb hown hK hts iX4 (ci := 3) rfl 0 (by decide) f12 rfl hw (297 + 2 * b) (by omega) (3 * (3 + 4 * b)) (cs_F (by omega)) rfl dX4_countDeadEdges_5 ?_
  refine wr_gi hx hb hown hK hts iX7 (ci := 6) rfl 0 (by decide) f29 rfl hw (3 * (3 + 4 * b)) (by omega) (cs_S (by omega)) rfl dX4_countDeadEdges_8 ?_
  refine lv_if_ne (tgt := 40) hx hb dX4_countDeadEdges_11 (by decide) (fun q3 => ?_) (fun q3 => ?_)
  · skip
    refine lv_iload_n hx hb dX4_countDeadEdges_40 rfl (lv_at hl 2 rfl) ?_
    exact wr_iret hx hb hr rfl hK hw ⟨rfl, (by unfold dedF; rw [if_neg q3, hI q3]; rfl)⟩ hlocks dX4_countDeadEdges_41
  · skip
    refine lv_iload_n hx hb dX4_countDeadEdges_14 rfl (lv_at hl 3 rfl) ?_
    refine lv_iload_n hx hb dX4_countDeadEdges_15 rfl (lv_at hl 1 rfl) ?_
    refine lv_icmp_ge (tgt := 40) hx hb dX4_countDeadEdges_16 (by decide) (fun q4 => ?_) (fun q4 => ?_)
    · have q4n : n ≤ k := (nI_leI (by omega) (by omega)).mp q4
      refine lv_iload_n hx hb dX4_countDeadEdges_40 rfl (lv_at hl 2 rfl) ?_
      exact wr_iret hx hb hr rfl hK hw ⟨rfl, (by unfold dedF; have e : k = n := (by omega); rw [if_pos q3, e])⟩ hlocks dX4_countDeadEdges_41
    · have q4n : ¬ n ≤ k := fun z => q4 ((nI_leI (by omega) (by omega)).mpr z)
      refine lv_aload_n hx hb dX4_countDeadEdges_19 rfl (lv_at hl 0 rfl) ?_
      refine wr_gr hx hb hown hK hts iX4 (ci := 3) rfl 2 (by decide) f21 rfl hw (297 + 2 * b) (by omega) (297 + 2 * b + 1) (cs_F (by omega)) rfl dX4_countDeadEdges_20 ?_
      refine lv_iload_n hx hb dX4_countDeadEdges_23 rfl (lv_at hl 3 rfl) ?_
      refine wr_aldN hx hb hK hw (297 + 2 * b + 1) (by omega) (cs_FE (by omega)) rfl (by decide) k rfl (by omega) dX4_countDeadEdges_24 ?_
      refine wr_gi hx hb hown hK hts iX7 (ci := 6) rfl 0 (by decide) f29 rfl hw (3 * (5 + 4 * b + k)) (by omega) (cs_S (by omega)) rfl dX4_countDeadEdges_25 ?_
      refine lv_if_eq (tgt := 34) hx hb dX4_countDeadEdges_28 (by decide) (fun q5 => ?_) (fun q5 => ?_)
      · skip
        refine lv_iinc (v := nI (k + 1)) (lv' := [(3, .int (nI (k + 1))), (0, .ref (ad (297 + 2 * b))), (1, .int (nI n)), (2, .int (nI (dedN M b k)))]) hx hb dX4_countDeadEdges_34 hl (k := 3) rfl (nI_1 _) (by decide) rfl (fun ls hl => ?_)
        refine lv_goto (tgt := 4) hx hb dX4_countDeadEdges_37 (by decide) ?_
        exact ih2 (k + 1) M J _ _ _ (by omega) ⟨(by rw [dedN_1 q5]; exact lv_sub hl [1, 2, 3, 0] rfl), rfl, by omega, rfl, fun z => absurd q3 z⟩ hw
      · skip
        refine lv_iinc (v := nI (dedN M b k + 1)) (lv' := [(2, .int (nI (dedN M b k + 1))), (0, .ref (ad (297 + 2 * b))), (1, .int (nI n)), (3, .int (nI k))]) hx hb dX4_countDeadEdges_31 hl (k := 2) rfl (nI_1 _) (by decide) rfl (fun ls hl => ?_)
        refine lv_iinc (v := nI (k + 1)) (lv' := [(3, .int (nI (k + 1))), (2, .int (nI (dedN M b k + 1))), (0, .ref (ad (297 + 2 * b))), (1, .int (nI n))]) hx hb dX4_countDeadEdges_34 hl (k := 3) rfl (nI_1 _) (by decide) rfl (fun ls hl => ?_)
        refine lv_goto (tgt := 4) hx hb dX4_countDeadEdges_37 (by decide) ?_
        exact ih2 (k + 1) M J _ _ _ (by omega) ⟨(by rw [dedN_2 q5]; exact lv_sub hl [2, 3, 1, 0] rfl), rfl, by omega, rfl, fun z => absurd q3 z⟩ hw
