/-! State: the methods with loops: laid by wip/gen/specs3.py -/
set_option maxHeartbeats 4000000 in
set_option maxRecDepth 100000 in
theorem k_X7_join (l : Launch) (D : va_G) (ad : Nat → Nat) (cs : Nat → ClassId) (sz : Nat) (M : wM) (J : wJ) (i : Nat) (j : Nat) (hi : i < 67) (hj : j < 67) (hij : i ≠ j) (zi : bz (M (3 * i) 0)) (zj : bz (M (3 * j) 0)) : wCv l yX7_join wsX7_join { frames := 2, cells := 0, slots := 0, locals := 81 } D 340 cSh ad cs [.ref (ad (3 * i)), .ref (ad (3 * j))] sz M J (pS M J i (jn (sv M i) (sv M j))) := by
  refine wC_v (cc := cX7_join) (maxL := 3) (ret := none) (by decide) rfl (Nat.le_of_ble_eq_true rfl) ?_
  intro p e s m below meth c ls A hx hb hr hml hown hts hlocks hK hA hw hl hAe
  clear hAe
  have hl : lv_has ls 3 [(0, .ref (ad (3 * i))), (1, .ref (ad (3 * j)))] := hl
  have f9 : (Cond.fieldLink RX7 9 "RangePropagator$State" "isNone" "Z").before _ s = true := hts _ (by decide +kernel)
  have iX7 : ∀ w ∈ wsX70, w ∈ wsX7_join := by decide +kernel
  have f15 : (Cond.fieldLink RX7 15 "RangePropagator$State" "low" "[I").before _ s = true := hts _ (by decide +kernel)
  have m32 : (Cond.methodLink RX7 32 Lib.Math.min.name).before _ s = true := hts _ (by decide +kernel)
  have t32 : (Cond.static Lib.Math.min.name).before _ s = true := hts _ (by decide +kernel)
  have iMath : (Cond.initialized "java/lang/Math").before _ s = true := hts _ (by decide +kernel)
  have c32 : (Cond.code Lib.Math.min.name Lib.Math.min.code 2 (some .int)).before _ s = true := hts _ (by decide +kernel)
  have f19 : (Cond.fieldLink RX7 19 "RangePropagator$State" "high" "[I").before _ s = true := hts _ (by decide +kernel)
  have m38 : (Cond.methodLink RX7 38 Lib.Math.max.name).before _ s = true := hts _ (by decide +kernel)
  have t38 : (Cond.static Lib.Math.max.name).before _ s = true := hts _ (by decide +kernel)
  have c38 : (Cond.code Lib.Math.max.name Lib.Math.max.code 2 (some .int)).before _ s = true := hts _ (by decide +kernel)
  refine lv_aload_n hx hb dX7_join_0 rfl (lv_at hl 1 rfl) ?_
  refine wr_gi hx hb hown hK hts iX7 (ci := 6) rfl 0 (by decide) f9 rfl hw (3 * j) (by omega) (cs_S (by omega)) rfl dX7_join_1 ?_
  refine lv_if_eq (tgt := 8) hx hb dX7_join_4 (by decide) (fun q1 => ?_) (fun q1 => ?_)
  · skip
    refine lv_aload_n hx hb dX7_join_8 rfl (lv_at hl 0 rfl) ?_
    refine wr_gi hx hb hown hK hts iX7 (ci := 6) rfl 0 (by decide) f9 rfl hw (3 * i) (by omega) (cs_S (by omega)) rfl dX7_join_9 ?_
    refine lv_if_eq (tgt := 21) hx hb dX7_join_12 (by decide) (fun q2 => ?_) (fun q2 => ?_)
    · skip
      refine lv_iconst (v := nI 0) hx hb dX7_join_21 (by decide) ?_
      refine lv_istore_n (lv' := [(2, .int (nI 0)), (0, .ref (ad (3 * i))), (1, .ref (ad (3 * j)))]) hx hb dX7_join_22 rfl hl (by decide) rfl (fun ls hl => ?_)
      refine w_loop (σ := Nat) (fun k M' J' ls => lv_has ls 3 [(0, .ref (ad (3 * i))), (1, .ref (ad (3 * j))), (2, .int (nI k))] ∧ J' = J ∧ k ≤ 6 ∧ I2 i_mn i_mx M i j k M') (fun k => 6 - k) (fun k M3 J1_ H locs ls hI hw ih4 => ?_) 0 ⟨lv_sub hl [1, 2, 0] rfl, rfl, by omega, I2_0⟩ hw
      obtain ⟨hl, eJ_, hk_, hI⟩ := hI
      rw [eJ_] at hw
      clear eJ_
      refine lv_iload_n hx hb dX7_join_23 rfl (lv_at hl 2 rfl) ?_
      refine lv_bipush (v := nI 6) hx hb dX7_join_24 (by decide) ?_
      refine lv_icmp_ge (tgt := 77) hx hb dX7_join_26 (by decide) (fun q5 => ?_) (fun q5 => ?_)
      · have q5n : 6 ≤ k := (nI_leI (by omega) (by omega)).mp q5
        exact wr_vret hx hb hr hK hw (by have e : k = 6 := (by omega); subst e; exact p_join3 q2 q1 hI) hlocks dX7_join_77
      · have q5n : ¬ 6 ≤ k := fun z => q5 ((nI_leI (by omega) (by omega)).mpr z)
        refine lv_aload_n hx hb dX7_join_29 rfl (lv_at hl 0 rfl) ?_
        refine wr_gr hx hb hown hK hts iX7 (ci := 6) rfl 1 (by decide) f15 rfl hw (3 * i) (by omega) (3 * i + 1) (cs_S (by omega)) rfl dX7_join_30 ?_
        refine lv_iload_n hx hb dX7_join_33 rfl (lv_at hl 2 rfl) ?_
        refine lv_aload_n hx hb dX7_join_34 rfl (lv_at hl 0 rfl) ?_
        refine wr_gr hx hb hown hK hts iX7 (ci := 6) rfl 1 (by decide) f15 rfl hw (3 * i) (by omega) (3 * i + 1) (cs_S (by omega)) rfl dX7_join_35 ?_
        refine lv_iload_n hx hb dX7_join_38 rfl (lv_at hl 2 rfl) ?_
        refine wr_ildN hx hb hK hw (3 * i + 1) (by omega) (cs_SL (by omega)) (by decide) k rfl (by omega) dX7_join_39 ?_
        refine lv_aload_n hx hb dX7_join_40 rfl (lv_at hl 1 rfl) ?_
        refine wr_gr hx hb hown hK hts iX7 (ci := 6) rfl 1 (by decide) f15 rfl hw (3 * j) (by omega) (3 * j + 1) (cs_S (by omega)) rfl dX7_join_41 ?_
        refine lv_iload_n hx hb dX7_join_44 rfl (lv_at hl 2 rfl) ?_
        refine wr_ildN hx hb hK hw (3 * j + 1) (by omega) (cs_SL (by omega)) (by decide) k rfl (by omega) dX7_join_45 ?_
        refine va_mmin hx hb (hml.trans hl.1.symm) hown m32 t32 iMath c32 (Nat.le_of_ble_eq_true rfl) (Nat.le_of_ble_eq_true rfl) (Nat.le_of_ble_eq_true rfl) (Nat.le_of_ble_eq_true rfl) dX7_join_46 ?_
        refine W.eq (g2 := F0 m 49 ls [.int ((i_mn (M3 (3 * i + 1) k) (M3 (3 * j + 1) k))), .int (nI k), .ref (ad (3 * i + 1))]) rfl ?_
        refine wr_istN hx hb hK hw (3 * i + 1) (by omega) (cs_SL (by omega)) (by decide) k rfl (by omega) dX7_join_49 (fun H locs hw => ?_)
        refine lv_aload_n hx hb dX7_join_50 rfl (lv_at hl 0 rfl) ?_
        refine wr_gr hx hb hown hK hts iX7 (ci := 6) rfl 2 (by decide) f19 rfl hw (3 * i) (by omega) (3 * i + 2) (cs_S (by omega)) rfl dX7_join_51 ?_
        refine lv_iload_n hx hb dX7_join_54 rfl (lv_at hl 2 rfl) ?_
        refine lv_aload_n hx hb dX7_join_55 rfl (lv_at hl 0 rfl) ?_
        refine wr_gr hx hb hown hK hts iX7 (ci := 6) rfl 2 (by decide) f19 rfl hw (3 * i) (by omega) (3 * i + 2) (cs_S (by omega)) rfl dX7_join_56 ?_
        refine lv_iload_n hx hb dX7_join_59 rfl (lv_at hl 2 rfl) ?_
        refine wr_ildN hx hb hK hw (3 * i + 2) (by omega) (cs_SH (by omega)) (by decide) k rfl (by omega) dX7_join_60 ?_
        refine lv_aload_n hx hb dX7_join_61 rfl (lv_at hl 1 rfl) ?_
        refine wr_gr hx hb hown hK hts iX7 (ci := 6) rfl 2 (by decide) f19 rfl hw (3 * j) (by omega) (3 * j + 2) (cs_S (by omega)) rfl dX7_join_62 ?_
        refine lv_iload_n hx hb dX7_join_65 rfl (lv_at hl 2 rfl) ?_
        refine wr_ildN hx hb hK hw (3 * j + 2) (by omega) (cs_SH (by omega)) (by decide) k rfl (by omega) dX7_join_66 ?_
        refine va_mmax hx hb (hml.trans hl.1.symm) hown m38 t38 iMath c38 (Nat.le_of_ble_eq_true rfl) (Nat.le_of_ble_eq_true rfl) (Nat.le_of_ble_eq_true rfl) (Nat.le_of_ble_eq_true rfl) dX7_join_67 ?_
        refine W.eq (g2 := F0 m 70 ls [.int ((i_mx ((wU M3 (3 * i + 1) k ((i_mn (M3 (3 * i + 1) k) (M3 (3 * j + 1) k)))) (3 * i + 2) k) ((wU M3 (3 * i + 1) k ((i_mn (M3 (3 * i + 1) k) (M3 (3 * j + 1) k)))) (3 * j + 2) k))), .int (nI k), .ref (ad (3 * i + 2))]) rfl ?_
        refine wr_istN hx hb hK hw (3 * i + 2) (by omega) (cs_SH (by omega)) (by decide) k rfl (by omega) dX7_join_70 (fun H locs hw => ?_)
        refine lv_iinc (v := nI (k + 1)) (lv' := [(2, .int (nI (k + 1))), (0, .ref (ad (3 * i))), (1, .ref (ad (3 * j)))]) hx hb dX7_join_71 hl (k := 2) rfl (nI_1 _) (by decide) rfl (fun ls hl => ?_)
        refine lv_goto (tgt := 23) hx hb dX7_join_74 (by decide) ?_
        exact ih4 (k + 1) (wU (wU M3 (3 * i + 1) k ((i_mn (M3 (3 * i + 1) k) (M3 (3 * j + 1) k)))) (3 * i + 2) k ((i_mx ((wU M3 (3 * i + 1) k ((i_mn (M3 (3 * i + 1) k) (M3 (3 * j + 1) k)))) (3 * i + 2) k) ((wU M3 (3 * i + 1) k ((i_mn (M3 (3 * i + 1) k) (M3 (3 * j + 1) k)))) (3 * j + 2) k)))) J _ _ _ (by omega) ⟨lv_sub hl [1, 2, 0] rfl, rfl, by omega, I2_step hij hI⟩ hw
    · skip
      refine lv_aload_n hx hb dX7_join_15 rfl (lv_at hl 0 rfl) ?_
      refine lv_aload_n hx hb dX7_join_16 rfl (lv_at hl 1 rfl) ?_
      refine wr_cVv (k := 3 * i) (ci := 6) (As := [.ref (ad (3 * j))]) (rest := []) ⟨hx, hb, hml, hown, hts⟩ (cwV 1 hts gX7_join_X7_become rfl rfl rfl (by decide +kernel) ⟨Nat.le_of_ble_eq_true rfl, Nat.le_of_ble_eq_true rfl⟩) hK hA hw (k_X7_become l D ad cs s.heap.size M J i j (by omega) (by omega) zj) (by omega) (cs_S (by omega)) rfl rfl rfl hl.1 (Nat.le_of_ble_eq_true rfl) ⟨Nat.le_of_ble_eq_true rfl, Nat.le_of_ble_eq_true rfl⟩ dX7_join_17 (fun M7 J8 H locs h9 hw => ?_)
      cases h9
      exact wr_vret hx hb hr hK hw (p_join2 hij zj q2) hlocks dX7_join_20
  · skip
    exact wr_vret hx hb hr hK hw (p_join1 zi q1) hlocks dX7_join_7
set_option maxHeartbeats 4000000 in
set_option maxRecDepth 100000 in
theorem k_X7_narrowTo (l : Launch) (D : va_G) (ad : Nat → Nat) (cs : Nat → ClassId) (sz : Nat) (M : wM) (J : wJ) (i : Nat) (j : Nat) (hi : i < 67) (hj : j < 67) (hij : i ≠ j) : wCv l yX7_narrowTo wsX7_narrowTo { frames := 1, cells := 0, slots := 0, locals := 31 } D 340 cSh ad cs [.ref (ad (3 * i)), .ref (ad (3 * j))] sz M J (pS M J i (nw (sv M i) (sv M j))) := by
  refine wC_v (cc := cX7_narrowTo) (maxL := 3) (ret := none) (by decide) rfl (Nat.le_of_ble_eq_true rfl) ?_
  intro p e s m below meth c ls A hx hb hr hml hown hts hlocks hK hA hw hl hAe
  clear hAe
  have hl : lv_has ls 3 [(0, .ref (ad (3 * i))), (1, .ref (ad (3 * j)))] := hl
  have f9 : (Cond.fieldLink RX7 9 "RangePropagator$State" "isNone" "Z").before _ s = true := hts _ (by decide +kernel)
  have iX7 : ∀ w ∈ wsX70, w ∈ wsX7_narrowTo := by decide +kernel
  have f15 : (Cond.fieldLink RX7 15 "RangePropagator$State" "low" "[I").before _ s = true := hts _ (by decide +kernel)
  have m38 : (Cond.methodLink RX7 38 Lib.Math.max.name).before _ s = true := hts _ (by decide +kernel)
  have t38 : (Cond.static Lib.Math.max.name).before _ s = true := hts _ (by decide +kernel)
  have iMath : (Cond.initialized "java/lang/Math").before _ s = true := hts _ (by decide +kernel)
  have c38 : (Cond.code Lib.Math.max.name Lib.Math.max.code 2 (some .int)).before _ s = true := hts _ (by decide +kernel)
  have f19 : (Cond.fieldLink RX7 19 "RangePropagator$State" "high" "[I").before _ s = true := hts _ (by decide +kernel)
  have m32 : (Cond.methodLink RX7 32 Lib.Math.min.name).before _ s = true := hts _ (by decide +kernel)
  have t32 : (Cond.static Lib.Math.min.name).before _ s = true := hts _ (by decide +kernel)
  have c32 : (Cond.code Lib.Math.min.name Lib.Math.min.code 2 (some .int)).before _ s = true := hts _ (by decide +kernel)
  refine lv_aload_n hx hb dX7_narrowTo_0 rfl (lv_at hl 0 rfl) ?_
  refine wr_gi hx hb hown hK hts iX7 (ci := 6) rfl 0 (by decide) f9 rfl hw (3 * i) (by omega) (cs_S (by omega)) rfl dX7_narrowTo_1 ?_
  refine lv_if_ne (tgt := 14) hx hb dX7_narrowTo_4 (by decide) (fun q1 => ?_) (fun q1 => ?_)
  · skip
    refine lv_aload_n hx hb dX7_narrowTo_14 rfl (lv_at hl 0 rfl) ?_
    refine lv_iconst (v := nI 1) hx hb dX7_narrowTo_15 (by decide) ?_
    refine wr_pi hx hb hown hK hts iX7 tyX7_ok nmX7 (ci := 6) rfl 0 (by decide) f9 rfl rfl hw (3 * i) (by omega) (cs_S (by omega)) rfl (by decide) (by decide) dX7_narrowTo_16 (fun H locs hw => ?_)
    exact wr_vret hx hb hr hK hw (p_nar1 (Or.inl q1)) hlocks dX7_narrowTo_19
  · skip
    refine lv_aload_n hx hb dX7_narrowTo_7 rfl (lv_at hl 1 rfl) ?_
    refine wr_gi hx hb hown hK hts iX7 (ci := 6) rfl 0 (by decide) f9 rfl hw (3 * j) (by omega) (cs_S (by omega)) rfl dX7_narrowTo_8 ?_
    refine lv_if_eq (tgt := 20) hx hb dX7_narrowTo_11 (by decide) (fun q2 => ?_) (fun q2 => ?_)
    · skip
      refine lv_iconst (v := nI 0) hx hb dX7_narrowTo_20 (by decide) ?_
      refine lv_istore_n (lv' := [(2, .int (nI 0)), (0, .ref (ad (3 * i))), (1, .ref (ad (3 * j)))]) hx hb dX7_narrowTo_21 rfl hl (by decide) rfl (fun ls hl => ?_)
      refine w_loop (σ := Nat) (fun k M' J' ls => lv_has ls 3 [(0, .ref (ad (3 * i))), (1, .ref (ad (3 * j))), (2, .int (nI k))] ∧ J' = J ∧ k ≤ 6 ∧ I2 i_mx i_mn M i j k M') (fun k => 6 - k) (fun k M3 J1_ H locs ls hI hw ih4 => ?_) 0 ⟨lv_sub hl [1, 2, 0] rfl, rfl, by omega, I2_0⟩ hw
      obtain ⟨hl, eJ_, hk_, hI⟩ := hI
      rw [eJ_] at hw
      clear eJ_
      refine lv_iload_n hx hb dX7_narrowTo_22 rfl (lv_at hl 2 rfl) ?_
      refine lv_bipush (v := nI 6) hx hb dX7_narrowTo_23 (by decide) ?_
      refine lv_icmp_ge (tgt := 76) hx hb dX7_narrowTo_25 (by decide) (fun q5 => ?_) (fun q5 => ?_)
      · have q5n : 6 ≤ k := (nI_leI (by omega) (by omega)).mp q5
        exact wr_vret hx hb hr hK hw (by have e : k = 6 := (by omega); subst e; exact p_nar2 q1 q2 hI) hlocks dX7_narrowTo_76
      · have q5n : ¬ 6 ≤ k := fun z => q5 ((nI_leI (by omega) (by omega)).mpr z)
        refine lv_aload_n hx hb dX7_narrowTo_28 rfl (lv_at hl 0 rfl) ?_
        refine wr_gr hx hb hown hK hts iX7 (ci := 6) rfl 1 (by decide) f15 rfl hw (3 * i) (by omega) (3 * i + 1) (cs_S (by omega)) rfl dX7_narrowTo_29 ?_
        refine lv_iload_n hx hb dX7_narrowTo_32 rfl (lv_at hl 2 rfl) ?_
        refine lv_aload_n hx hb dX7_narrowTo_33 rfl (lv_at hl 0 rfl) ?_
        refine wr_gr hx hb hown hK hts iX7 (ci := 6) rfl 1 (by decide) f15 rfl hw (3 * i) (by omega) (3 * i + 1) (cs_S (by omega)) rfl dX7_narrowTo_34 ?_
        refine lv_iload_n hx hb dX7_narrowTo_37 rfl (lv_at hl 2 rfl) ?_
        refine wr_ildN hx hb hK hw (3 * i + 1) (by omega) (cs_SL (by omega)) (by decide) k rfl (by omega) dX7_narrowTo_38 ?_
        refine lv_aload_n hx hb dX7_narrowTo_39 rfl (lv_at hl 1 rfl) ?_
        refine wr_gr hx hb hown hK hts iX7 (ci := 6) rfl 1 (by decide) f15 rfl hw (3 * j) (by omega) (3 * j + 1) (cs_S (by omega)) rfl dX7_narrowTo_40 ?_
        refine lv_iload_n hx hb dX7_narrowTo_43 rfl (lv_at hl 2 rfl) ?_
        refine wr_ildN hx hb hK hw (3 * j + 1) (by omega) (cs_SL (by omega)) (by decide) k rfl (by omega) dX7_narrowTo_44 ?_
        refine va_mmax hx hb (hml.trans hl.1.symm) hown m38 t38 iMath c38 (Nat.le_of_ble_eq_true rfl) (Nat.le_of_ble_eq_true rfl) (Nat.le_of_ble_eq_true rfl) (Nat.le_of_ble_eq_true rfl) dX7_narrowTo_45 ?_
        refine W.eq (g2 := F0 m 48 ls [.int ((i_mx (M3 (3 * i + 1) k) (M3 (3 * j + 1) k))), .int (nI k), .ref (ad (3 * i + 1))]) rfl ?_
        refine wr_istN hx hb hK hw (3 * i + 1) (by omega) (cs_SL (by omega)) (by decide) k rfl (by omega) dX7_narrowTo_48 (fun H locs hw => ?_)
        refine lv_aload_n hx hb dX7_narrowTo_49 rfl (lv_at hl 0 rfl) ?_
        refine wr_gr hx hb hown hK hts iX7 (ci := 6) rfl 2 (by decide) f19 rfl hw (3 * i) (by omega) (3 * i + 2) (cs_S (by omega)) rfl dX7_narrowTo_50 ?_
        refine lv_iload_n hx hb dX7_narrowTo_53 rfl (lv_at hl 2 rfl) ?_
        refine lv_aload_n hx hb dX7_narrowTo_54 rfl (lv_at hl 0 rfl) ?_
        refine wr_gr hx hb hown hK hts iX7 (ci := 6) rfl 2 (by decide) f19 rfl hw (3 * i) (by omega) (3 * i + 2) (cs_S (by omega)) rfl dX7_narrowTo_55 ?_
        refine lv_iload_n hx hb dX7_narrowTo_58 rfl (lv_at hl 2 rfl) ?_
        refine wr_ildN hx hb hK hw (3 * i + 2) (by omega) (cs_SH (by omega)) (by decide) k rfl (by omega) dX7_narrowTo_59 ?_
        refine lv_aload_n hx hb dX7_narrowTo_60 rfl (lv_at hl 1 rfl) ?_
        refine wr_gr hx hb hown hK hts iX7 (ci := 6) rfl 2 (by decide) f19 rfl hw (3 * j) (by omega) (3 * j + 2) (cs_S (by omega)) rfl dX7_narrowTo_61 ?_
        refine lv_iload_n hx hb dX7_narrowTo_64 rfl (lv_at hl 2 rfl) ?_
        refine wr_ildN hx hb hK hw (3 * j + 2) (by omega) (cs_SH (by omega)) (by decide) k rfl (by omega) dX7_narrowTo_65 ?_
        refine va_mmin hx hb (hml.trans hl.1.symm) hown m32 t32 iMath c32 (Nat.le_of_ble_eq_true rfl) (Nat.le_of_ble_eq_true rfl) (Nat.le_of_ble_eq_true rfl) (Nat.le_of_ble_eq_true rfl) dX7_narrowTo_66 ?_
        refine W.eq (g2 := F0 m 69 ls [.int ((i_mn ((wU M3 (3 * i + 1) k ((i_mx (M3 (3 * i + 1) k) (M3 (3 * j + 1) k)))) (3 * i + 2) k) ((wU M3 (3 * i + 1) k ((i_mx (M3 (3 * i + 1) k) (M3 (3 * j + 1) k)))) (3 * j + 2) k))), .int (nI k), .ref (ad (3 * i + 2))]) rfl ?_
        refine wr_istN hx hb hK hw (3 * i + 2) (by omega) (cs_SH (by omega)) (by decide) k rfl (by omega) dX7_narrowTo_69 (fun H locs hw => ?_)
        refine lv_iinc (v := nI (k + 1)) (lv' := [(2, .int (nI (k + 1))), (0, .ref (ad (3 * i))), (1, .ref (ad (3 * j)))]) hx hb dX7_narrowTo_70 hl (k := 2) rfl (nI_1 _) (by decide) rfl (fun ls hl => ?_)
        refine lv_goto (tgt := 22) hx hb dX7_narrowTo_73 (by decide) ?_
        exact ih4 (k + 1) (wU (wU M3 (3 * i + 1) k ((i_mx (M3 (3 * i + 1) k) (M3 (3 * j + 1) k)))) (3 * i + 2) k ((i_mn ((wU M3 (3 * i + 1) k ((i_mx (M3 (3 * i + 1) k) (M3 (3 * j + 1) k)))) (3 * i + 2) k) ((wU M3 (3 * i + 1) k ((i_mx (M3 (3 * i + 1) k) (M3 (3 * j + 1) k)))) (3 * j + 2) k)))) J _ _ _ (by omega) ⟨lv_sub hl [1, 2, 0] rfl, rfl, by omega, I2_step hij hI⟩ hw
    · skip
      refine lv_aload_n hx hb dX7_narrowTo_14 rfl (lv_at hl 0 rfl) ?_
      refine lv_iconst (v := nI 1) hx hb dX7_narrowTo_15 (by decide) ?_
      refine wr_pi hx hb hown hK hts iX7 tyX7_ok nmX7 (ci := 6) rfl 0 (by decide) f9 rfl rfl hw (3 * i) (by omega) (cs_S (by omega)) rfl (by decide) (by decide) dX7_narrowTo_16 (fun H locs hw => ?_)
      exact wr_vret hx hb hr hK hw (p_nar1 (Or.inr q2)) hlocks dX7_narrowTo_19
set_option maxHeartbeats 4000000 in
set_option maxRecDepth 100000 in
theorem k_X7_differsFrom (l : Launch) (D : va_G) (ad : Nat → Nat) (cs : Nat → ClassId) (sz : Nat) (M : wM) (J : wJ) (i : Nat) (j : Nat) (hi : i < 67) (hj : j < 67) (zi : bz (M (3 * i) 0)) (zj : bz (M (3 * j) 0)) : wCi l yX7_differsFrom wsX7_differsFrom { frames := 0, cells := 0, slots := 0, locals := 0 } D 340 cSh ad cs [.ref (ad (3 * i)), .ref (ad (3 * j))] sz M J (fun r_ u_ => u_ = (M, J) ∧ bz r_ ∧ (r_ = nI 0 ↔ sv M i = sv M j)) := by
  refine wC_i (cc := cX7_differsFrom) (maxL := 3) (ret := (some .boolean)) (by decide) rfl (Nat.le_of_ble_eq_true rfl) ?_
  intro p e s m below meth c ls A hx hb hr hml hown hts hlocks hK hA hw hl hAe
  clear hAe
  have hl : lv_has ls 3 [(0, .ref (ad (3 * i))), (1, .ref (ad (3 * j)))] := hl
  have f9 : (Cond.fieldLink RX7 9 "RangePropagator$State" "isNone" "Z").before _ s = true := hts _ (by decide +kernel)
  have iX7 : ∀ w ∈ wsX70, w ∈ wsX7_differsFrom := by decide +kernel
  have f15 : (Cond.fieldLink RX7 15 "RangePropagator$State" "low" "[I").before _ s = true := hts _ (by decide +kernel)
  have f19 : (Cond.fieldLink RX7 19 "RangePropagator$State" "high" "[I").before _ s = true := hts _ (by decide +kernel)
  refine lv_aload_n hx hb dX7_differsFrom_0 rfl (lv_at hl 0 rfl) ?_
  refine wr_gi hx hb hown hK hts iX7 (ci := 6) rfl 0 (by decide) f9 rfl hw (3 * i) (by omega) (cs_S (by omega)) rfl dX7_differsFrom_1 ?_
  refine lv_if_ne (tgt := 14) hx hb dX7_differsFrom_4 (by decide) (fun q1 => ?_) (fun q1 => ?_)
  · skip
    refine lv_aload_n hx hb dX7_differsFrom_14 rfl (lv_at hl 0 rfl) ?_
    refine wr_gi hx hb hown hK hts iX7 (ci := 6) rfl 0 (by decide) f9 rfl hw (3 * i) (by omega) (cs_S (by omega)) rfl dX7_differsFrom_15 ?_
    refine lv_aload_n hx hb dX7_differsFrom_18 rfl (lv_at hl 1 rfl) ?_
    refine wr_gi hx hb hown hK hts iX7 (ci := 6) rfl 0 (by decide) f9 rfl hw (3 * j) (by omega) (cs_S (by omega)) rfl dX7_differsFrom_19 ?_
    refine lv_icmp_eq (tgt := 29) hx hb dX7_differsFrom_22 (by decide) (fun q2 => ?_) (fun q2 => ?_)
    · skip
      refine lv_iconst (v := nI 0) hx hb dX7_differsFrom_29 (by decide) ?_
      exact wr_iret hx hb hr (by decide) hK hw ⟨rfl, Or.inl rfl, fun _ => (Id_z zi zj (Or.inl q1)).mp q2, fun _ => rfl⟩ hlocks dX7_differsFrom_30
    · skip
      refine lv_iconst (v := nI 1) hx hb dX7_differsFrom_25 (by decide) ?_
      refine lv_goto (tgt := 30) hx hb dX7_differsFrom_26 (by decide) ?_
      exact wr_iret hx hb hr (by decide) hK hw ⟨rfl, Or.inr rfl, fun z => absurd z (by decide), fun z => absurd ((Id_z zi zj (Or.inl q1)).mpr z) q2⟩ hlocks dX7_differsFrom_30
  · skip
    refine lv_aload_n hx hb dX7_differsFrom_7 rfl (lv_at hl 1 rfl) ?_
    refine wr_gi hx hb hown hK hts iX7 (ci := 6) rfl 0 (by decide) f9 rfl hw (3 * j) (by omega) (cs_S (by omega)) rfl dX7_differsFrom_8 ?_
    refine lv_if_eq (tgt := 31) hx hb dX7_differsFrom_11 (by decide) (fun q3 => ?_) (fun q3 => ?_)
    · skip
      refine lv_iconst (v := nI 0) hx hb dX7_differsFrom_31 (by decide) ?_
      refine lv_istore_n (lv' := [(2, .int (nI 0)), (0, .ref (ad (3 * i))), (1, .ref (ad (3 * j)))]) hx hb dX7_differsFrom_32 rfl hl (by decide) rfl (fun ls hl => ?_)
      refine w_loop (σ := Nat) (fun k M' J' ls => lv_has ls 3 [(0, .ref (ad (3 * i))), (1, .ref (ad (3 * j))), (2, .int (nI k))] ∧ J' = J ∧ k ≤ 6 ∧ M' = M ∧ Id M i j k) (fun k => 6 - k) (fun k M4 J1_ H locs ls hI hw ih5 => ?_) 0 ⟨lv_sub hl [1, 2, 0] rfl, rfl, by omega, rfl, Id_0⟩ hw
      obtain ⟨hl, eJ_, hk_, hI⟩ := hI
      rw [eJ_] at hw
      clear eJ_
      obtain ⟨eM_, hI⟩ := hI
      rw [eM_] at hw
      clear eM_
      refine lv_iload_n hx hb dX7_differsFrom_33 rfl (lv_at hl 2 rfl) ?_
      refine lv_bipush (v := nI 6) hx hb dX7_differsFrom_34 (by decide) ?_
      refine lv_icmp_ge (tgt := 77) hx hb dX7_differsFrom_36 (by decide) (fun q6 => ?_) (fun q6 => ?_)
      · have q6n : 6 ≤ k := (nI_leI (by omega) (by omega)).mp q6
        refine lv_iconst (v := nI 0) hx hb dX7_differsFrom_77 (by decide) ?_
        exact wr_iret hx hb hr (by decide) hK hw ⟨rfl, Or.inl rfl, fun _ => (by have e : k = 6 := (by omega); subst e; exact Id_end hI q1 q3), fun _ => rfl⟩ hlocks dX7_differsFrom_78
      · have q6n : ¬ 6 ≤ k := fun z => q6 ((nI_leI (by omega) (by omega)).mpr z)
        refine lv_aload_n hx hb dX7_differsFrom_39 rfl (lv_at hl 0 rfl) ?_
        refine wr_gr hx hb hown hK hts iX7 (ci := 6) rfl 1 (by decide) f15 rfl hw (3 * i) (by omega) (3 * i + 1) (cs_S (by omega)) rfl dX7_differsFrom_40 ?_
        refine lv_iload_n hx hb dX7_differsFrom_43 rfl (lv_at hl 2 rfl) ?_
        refine wr_ildN hx hb hK hw (3 * i + 1) (by omega) (cs_SL (by omega)) (by decide) k rfl (by omega) dX7_differsFrom_44 ?_
        refine lv_aload_n hx hb dX7_differsFrom_45 rfl (lv_at hl 1 rfl) ?_
        refine wr_gr hx hb hown hK hts iX7 (ci := 6) rfl 1 (by decide) f15 rfl hw (3 * j) (by omega) (3 * j + 1) (cs_S (by omega)) rfl dX7_differsFrom_46 ?_
        refine lv_iload_n hx hb dX7_differsFrom_49 rfl (lv_at hl 2 rfl) ?_
        refine wr_ildN hx hb hK hw (3 * j + 1) (by omega) (cs_SL (by omega)) (by decide) k rfl (by omega) dX7_differsFrom_50 ?_
        refine lv_icmp_ne (tgt := 69) hx hb dX7_differsFrom_51 (by decide) (fun q7 => ?_) (fun q7 => ?_)
        · skip
          refine lv_iconst (v := nI 1) hx hb dX7_differsFrom_69 (by decide) ?_
          exact wr_iret hx hb hr (by decide) hK hw ⟨rfl, Or.inr rfl, fun z => absurd z (by decide), fun z => absurd z (Id_ne (by omega) q1 q3 (Or.inl q7))⟩ hlocks dX7_differsFrom_70
        · skip
          refine lv_aload_n hx hb dX7_differsFrom_54 rfl (lv_at hl 0 rfl) ?_
          refine wr_gr hx hb hown hK hts iX7 (ci := 6) rfl 2 (by decide) f19 rfl hw (3 * i) (by omega) (3 * i + 2) (cs_S (by omega)) rfl dX7_differsFrom_55 ?_
          refine lv_iload_n hx hb dX7_differsFrom_58 rfl (lv_at hl 2 rfl) ?_
          refine wr_ildN hx hb hK hw (3 * i + 2) (by omega) (cs_SH (by omega)) (by decide) k rfl (by omega) dX7_differsFrom_59 ?_
          refine lv_aload_n hx hb dX7_differsFrom_60 rfl (lv_at hl 1 rfl) ?_
          refine wr_gr hx hb hown hK hts iX7 (ci := 6) rfl 2 (by decide) f19 rfl hw (3 * j) (by omega) (3 * j + 2) (cs_S (by omega)) rfl dX7_differsFrom_61 ?_
          refine lv_iload_n hx hb dX7_differsFrom_64 rfl (lv_at hl 2 rfl) ?_
          refine wr_ildN hx hb hK hw (3 * j + 2) (by omega) (cs_SH (by omega)) (by decide) k rfl (by omega) dX7_differsFrom_65 ?_
          refine lv_icmp_eq (tgt := 71) hx hb dX7_differsFrom_66 (by decide) (fun q8 => ?_) (fun q8 => ?_)
          · skip
            refine lv_iinc (v := nI (k + 1)) (lv' := [(2, .int (nI (k + 1))), (0, .ref (ad (3 * i))), (1, .ref (ad (3 * j)))]) hx hb dX7_differsFrom_71 hl (k := 2) rfl (nI_1 _) (by decide) rfl (fun ls hl => ?_)
            refine lv_goto (tgt := 33) hx hb dX7_differsFrom_74 (by decide) ?_
            exact ih5 (k + 1) M J _ _ _ (by omega) ⟨lv_sub hl [1, 2, 0] rfl, rfl, by omega, rfl, Id_step hI q7 q8⟩ hw
          · skip
            refine lv_iconst (v := nI 1) hx hb dX7_differsFrom_69 (by decide) ?_
            exact wr_iret hx hb hr (by decide) hK hw ⟨rfl, Or.inr rfl, fun z => absurd z (by decide), fun z => absurd z (Id_ne (by omega) q1 q3 (Or.inr q8))⟩ hlocks dX7_differsFrom_70
    · skip
      refine lv_aload_n hx hb dX7_differsFrom_14 rfl (lv_at hl 0 rfl) ?_
      refine wr_gi hx hb hown hK hts iX7 (ci := 6) rfl 0 (by decide) f9 rfl hw (3 * i) (by omega) (cs_S (by omega)) rfl dX7_differsFrom_15 ?_
      refine lv_aload_n hx hb dX7_differsFrom_18 rfl (lv_at hl 1 rfl) ?_
      refine wr_gi hx hb hown hK hts iX7 (ci := 6) rfl 0 (by decide) f9 rfl hw (3 * j) (by omega) (cs_S (by omega)) rfl dX7_differsFrom_19 ?_
      refine lv_icmp_eq (tgt := 29) hx hb dX7_differsFrom_22 (by decide) (fun q9 => ?_) (fun q9 => ?_)
      · skip
        refine lv_iconst (v := nI 0) hx hb dX7_differsFrom_29 (by decide) ?_
        exact wr_iret hx hb hr (by decide) hK hw ⟨rfl, Or.inl rfl, fun _ => (Id_z zi zj (Or.inr q3)).mp q9, fun _ => rfl⟩ hlocks dX7_differsFrom_30
      · skip
        refine lv_iconst (v := nI 1) hx hb dX7_differsFrom_25 (by decide) ?_
        refine lv_goto (tgt := 30) hx hb dX7_differsFrom_26 (by decide) ?_
        exact wr_iret hx hb hr (by decide) hK hw ⟨rfl, Or.inr rfl, fun z => absurd z (by decide), fun z => absurd ((Id_z zi zj (Or.inr q3)).mpr z) q9⟩ hlocks dX7_differsFrom_30
set_option maxHeartbeats 4000000 in
set_option maxRecDepth 100000 in
theorem k_X7_countConstants (l : Launch) (D : va_G) (ad : Nat → Nat) (cs : Nat → ClassId) (sz : Nat) (M : wM) (J : wJ) (i : Nat) (hi : i < 67) : wCi l yX7_countConstants wsX7_countConstants { frames := 1, cells := 0, slots := 0, locals := 21 } D 340 cSh ad cs [.ref (ad (3 * i))] sz M J (fun r_ u_ => u_ = (M, J) ∧ r_ = nI (ccS (sv M i))) := by
  refine wC_i (cc := cX7_countConstants) (maxL := 3) (ret := (some .int)) (by decide) rfl (Nat.le_of_ble_eq_true rfl) ?_
  intro p e s m below meth c ls A hx hb hr hml hown hts hlocks hK hA hw hl hAe
  clear hAe
  have hl : lv_has ls 3 [(0, .ref (ad (3 * i)))] := hl
  have f9 : (Cond.fieldLink RX7 9 "RangePropagator$State" "isNone" "Z").before _ s = true := hts _ (by decide +kernel)
  have iX7 : ∀ w ∈ wsX70, w ∈ wsX7_countConstants := by decide +kernel
  refine lv_iconst (v := nI 0) hx hb dX7_countConstants_0 (by decide) ?_
  refine lv_istore_n (lv' := [(1, .int (nI 0)), (0, .ref (ad (3 * i)))]) hx hb dX7_countConstants_1 rfl hl (by decide) rfl (fun ls hl => ?_)
  refine lv_iconst (v := nI 0) hx hb dX7_countConstants_2 (by decide) ?_
  refine lv_istore_n (lv' := [(2, .int (nI 0)), (1, .int (nI 0)), (0, .ref (ad (3 * i)))]) hx hb dX7_countConstants_3 rfl hl (by decide) rfl (fun ls hl => ?_)
  refine w_loop (σ := Nat) (fun k M' J' ls => lv_has ls 3 [(0, .ref (ad (3 * i))), (1, .int (nI (ccn (M (3 * i + 1)) (M (3 * i + 2)) k))), (2, .int (nI k))] ∧ J' = J ∧ k ≤ 6 ∧ M' = M ∧ (¬ M (3 * i) 0 = 0 → k = 0)) (fun k => 6 - k) (fun k M1 J1_ H locs ls hI hw ih2 => ?_) 0 ⟨lv_sub hl [2, 1, 0] rfl, rfl, by omega, rfl, fun _ => rfl⟩ hw
  obtain ⟨hl, eJ_, hk_, hI⟩ := hI
  rw [eJ_] at hw
  clear eJ_
  obtain ⟨eM_, hI⟩ := hI
  rw [eM_] at hw
  clear eM_
  refine lv_aload_n hx hb dX7_countConstants_4 rfl (lv_at hl 0 rfl) ?_
  refine wr_gi hx hb hown hK hts iX7 (ci := 6) rfl 0 (by decide) f9 rfl hw (3 * i) (by omega) (cs_S (by omega)) rfl dX7_countConstants_5 ?_
  refine lv_if_ne (tgt := 34) hx hb dX7_countConstants_8 (by decide) (fun q3 => ?_) (fun q3 => ?_)
  · skip
    refine lv_iload_n hx hb dX7_countConstants_34 rfl (lv_at hl 1 rfl) ?_
    exact wr_iret hx hb hr rfl hK hw ⟨rfl, (by rw [ccS_none q3, hI q3]; rfl)⟩ hlocks dX7_countConstants_35
  · skip
    refine lv_iload_n hx hb dX7_countConstants_11 rfl (lv_at hl 2 rfl) ?_
    refine lv_bipush (v := nI 6) hx hb dX7_countConstants_12 (by decide) ?_
    refine lv_icmp_ge (tgt := 34) hx hb dX7_countConstants_14 (by decide) (fun q4 => ?_) (fun q4 => ?_)
    · have q4n : 6 ≤ k := (nI_leI (by omega) (by omega)).mp q4
      refine lv_iload_n hx hb dX7_countConstants_34 rfl (lv_at hl 1 rfl) ?_
      exact wr_iret hx hb hr rfl hK hw ⟨rfl, (by have e : k = 6 := (by omega); subst e; rw [ccS_some q3])⟩ hlocks dX7_countConstants_35
    · have q4n : ¬ 6 ≤ k := fun z => q4 ((nI_leI (by omega) (by omega)).mpr z)
      refine lv_aload_n hx hb dX7_countConstants_17 rfl (lv_at hl 0 rfl) ?_
      refine lv_iload_n hx hb dX7_countConstants_18 rfl (lv_at hl 2 rfl) ?_
      refine wr_cVi (k := 3 * i) (ci := 6) (As := [.int (nI k)]) (rest := []) ⟨hx, hb, hml, hown, hts⟩ (cwV 1 hts gX7_countConstants_X7_isConstant rfl rfl rfl (by decide +kernel) ⟨Nat.le_of_ble_eq_true rfl, Nat.le_of_ble_eq_true rfl⟩) hK hA hw (k_X7_isConstant l D ad cs H.size M J i k (by omega) (by omega)) (by omega) (cs_S (by omega)) rfl rfl rfl hl.1 (Nat.le_of_ble_eq_true rfl) ⟨Nat.le_of_ble_eq_true rfl, Nat.le_of_ble_eq_true rfl⟩ dX7_countConstants_19 (fun r5 M6 J7 H locs h8 hw => ?_)
      obtain ⟨h8, rfl⟩ := h8
      cases h8
      refine lv_if_eq (tgt := 28) hx hb dX7_countConstants_22 (by decide) (fun q9 => ?_) (fun q9 => ?_)
      · skip
        refine lv_iinc (v := nI (k + 1)) (lv' := [(2, .int (nI (k + 1))), (0, .ref (ad (3 * i))), (1, .int (nI (ccn (M (3 * i + 1)) (M (3 * i + 2)) k)))]) hx hb dX7_countConstants_28 hl (k := 2) rfl (nI_1 _) (by decide) rfl (fun ls hl => ?_)
        refine lv_goto (tgt := 4) hx hb dX7_countConstants_31 (by decide) ?_
        exact ih2 (k + 1) M J _ _ _ (by omega) ⟨(by rw [ccn_2 (isC_0.mp q9)]; exact lv_sub hl [1, 2, 0] rfl), rfl, by omega, rfl, fun z => absurd q3 z⟩ hw
      · skip
        refine lv_iinc (v := nI (ccn (M (3 * i + 1)) (M (3 * i + 2)) k + 1)) (lv' := [(1, .int (nI (ccn (M (3 * i + 1)) (M (3 * i + 2)) k + 1))), (0, .ref (ad (3 * i))), (2, .int (nI k))]) hx hb dX7_countConstants_25 hl (k := 1) rfl (nI_1 _) (by decide) rfl (fun ls hl => ?_)
        refine lv_iinc (v := nI (k + 1)) (lv' := [(2, .int (nI (k + 1))), (1, .int (nI (ccn (M (3 * i + 1)) (M (3 * i + 2)) k + 1))), (0, .ref (ad (3 * i)))]) hx hb dX7_countConstants_28 hl (k := 2) rfl (nI_1 _) (by decide) rfl (fun ls hl => ?_)
        refine lv_goto (tgt := 4) hx hb dX7_countConstants_31 (by decide) ?_
        exact ih2 (k + 1) M J _ _ _ (by omega) ⟨(by rw [ccn_1 (Decidable.not_not.mp (fun z => q9 (isC_0.mpr z)))]; exact lv_sub hl [2, 1, 0] rfl), rfl, by omega, rfl, fun z => absurd q3 z⟩ hw
