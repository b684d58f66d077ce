/-! the reference, 7: look, narrow: laid by wip/gen/specs21.py -/
set_option maxHeartbeats 4000000 in
set_option maxRecDepth 100000 in
theorem k_X9_look (l : Launch) (D : va_G) (ad : Nat → Nat) (cs : Nat → ClassId) (sz : Nat) (M : wM) (J : wJ) (b : Nat) (M0 : wM) (E : Nat → aS) (V : Nat → Int32) (cnt : Nat) (t : Nat) (hb16 : b < 16) (hp : mOK M0 cnt t) (hN : AM M0 M E V) : wCi l yX9_look wsX9_look { frames := 8, cells := 0, slots := 0, locals := 202 } D 23 mSh ad cs [.ref (ad 0), .int (nI b)] sz M J (qLk M0 J cnt t b E V) := by
  refine wC_i (cc := cX9_look) (maxL := 8) (ret := (some .boolean)) (by decide) rfl (Nat.le_of_ble_eq_true rfl) ?_
  intro p e s m below meth c ls A hx hb hr hml hown hts hlocks hK hA hw hl hAe
  clear hAe
  have hl : lv_has ls 8 [(0, .ref (ad 0)), (1, .int (nI b))] := hl
  have f165 : (Cond.fieldLink RX9 165 "RangePropagatorModel" "hasJoin" "Z").before _ s = true := hts _ (by decide +kernel)
  have iX9 : ∀ w ∈ wsX90, w ∈ wsX9_look := by decide +kernel
  have f53 : (Cond.fieldLink RX9 53 "RangePropagatorModel" "isThere" "[Z").before _ s = true := hts _ (by decide +kernel)
  have f63 : (Cond.fieldLink RX9 63 "RangePropagatorModel" "visits" "[I").before _ s = true := hts _ (by decide +kernel)
  have f57 : (Cond.fieldLink RX9 57 "RangePropagatorModel" "lows" "[I").before _ s = true := hts _ (by decide +kernel)
  have f72 : (Cond.fieldLink RX9 72 "RangePropagatorModel" "joinLow" "[I").before _ s = true := hts _ (by decide +kernel)
  have m147 : (Cond.methodLink RX9 147 Lib.Math.min.name).before _ s = true := hts _ (by decide +kernel)
  have t147 : (Cond.static Lib.Math.min.name).before _ s = true := hts _ (by decide +kernel)
  have iMath : (Cond.initialized "java/lang/Math").before _ s = true := hts _ (by decide +kernel)
  have c147 : (Cond.code Lib.Math.min.name Lib.Math.min.code 2 (some .int)).before _ s = true := hts _ (by decide +kernel)
  have f60 : (Cond.fieldLink RX9 60 "RangePropagatorModel" "highs" "[I").before _ s = true := hts _ (by decide +kernel)
  have f75 : (Cond.fieldLink RX9 75 "RangePropagatorModel" "joinHigh" "[I").before _ s = true := hts _ (by decide +kernel)
  have m150 : (Cond.methodLink RX9 150 Lib.Math.max.name).before _ s = true := hts _ (by decide +kernel)
  have t150 : (Cond.static Lib.Math.max.name).before _ s = true := hts _ (by decide +kernel)
  have c150 : (Cond.code Lib.Math.max.name Lib.Math.max.code 2 (some .int)).before _ s = true := hts _ (by decide +kernel)
  have f44 : (Cond.fieldLink RX9 44 "RangePropagatorModel" "delay" "I").before _ s = true := hts _ (by decide +kernel)
  refine lv_aload_n hx hb dX9_look_0 rfl (lv_at hl 0 rfl) ?_
  refine lv_iload_n hx hb dX9_look_1 rfl (lv_at hl 1 rfl) ?_
  refine wr_cVv (k := 0) (ci := 8) (As := [.int (nI b)]) (rest := []) ⟨hx, hb, hml, hown, hts⟩ (cwV 1 hts gX9_look_X9_gather rfl rfl rfl (by decide +kernel) ⟨Nat.le_of_ble_eq_true rfl, Nat.le_of_ble_eq_true rfl⟩) hK hA hw (k_X9_gather l D ad cs s.heap.size M J b cnt hb16 (mOK_AM hp hN).1 hp.2.1 (mOK_AM hp hN).2.2.2.2.1 (mOK_AM hp hN).2.2.2.2.2.1 (mOK_AM hp hN).2.2.2.2.2.2.1 (mOK_AM hp hN).2.2.2.2.2.2.2.1 (mOK_AM hp hN).2.2.2.2.2.2.2.2) (by omega) rfl rfl rfl rfl hl.1 (Nat.le_of_ble_eq_true rfl) ⟨Nat.le_of_ble_eq_true rfl, Nat.le_of_ble_eq_true rfl⟩ dX9_look_2 (fun M2 J3 H locs h4 hw => ?_)
  have h4J : J3 = J := h4.1
  rw [h4J] at hw
  have hG := h4.2
  obtain ⟨hgA, hgj⟩ := AM_g (t := t) hp hN hG
  refine lv_aload_n hx hb dX9_look_5 rfl (lv_at hl 0 rfl) ?_
  refine wr_gi hx hb hown hK hts iX9 (ci := 8) rfl 23 (by decide) f165 rfl hw 0 (by omega) rfl rfl dX9_look_6 ?_
  refine lv_if_ne (tgt := 14) hx hb dX9_look_9 (by decide) (fun q5 => ?_) (fun q5 => ?_)
  · skip
    refine lv_aload_n hx hb dX9_look_14 rfl (lv_at hl 0 rfl) ?_
    refine wr_gr hx hb hown hK hts iX9 (ci := 8) rfl 17 (by decide) f53 rfl hw 0 (by omega) 12 rfl rfl dX9_look_15 ?_
    refine lv_iload_n hx hb dX9_look_18 rfl (lv_at hl 1 rfl) ?_
    refine wr_zldN hx hb hK hw 12 (by omega) rfl (by decide) b rfl (by omega) dX9_look_19 ?_
    refine lv_if_ne (tgt := 27) hx hb dX9_look_20 (by decide) (fun q6 => ?_) (fun q6 => ?_)
    · skip
      refine lv_iconst (v := nI 0) hx hb dX9_look_27 (by decide) ?_
      refine lv_istore_n (lv' := [(2, .int (nI 0)), (0, .ref (ad 0)), (1, .int (nI b))]) hx hb dX9_look_28 rfl hl (by decide) rfl (fun ls hl => ?_)
      refine lv_iconst (v := nI 0) hx hb dX9_look_29 (by decide) ?_
      refine lv_istore_n (lv' := [(3, .int (nI 0)), (2, .int (nI 0)), (0, .ref (ad 0)), (1, .int (nI b))]) hx hb dX9_look_30 rfl hl (by decide) rfl (fun ls hl => ?_)
      refine w_loop (σ := Nat × Bool) (fun x9 M' J' ls => lv_has ls 8 [(0, .ref (ad 0)), (1, .int (nI b)), (2, .int ((if x9.2 = true then nI 1 else nI 0))), (3, .int (nI x9.1))] ∧ J' = J ∧ x9.1 ≤ 6 ∧ Ilk M2 b t x9.1 x9.2 M') (fun x9 => 6 - x9.1) (fun x9 M7 J1_ H locs ls hI hw ih8 => ?_) (0, false) ⟨lv_sub hl [2, 3, 1, 0] rfl, rfl, by omega, (Ilk_0 (⟨fun z => (by cases z), fun z => absurd z q6⟩))⟩ hw
      obtain ⟨hl, eJ_, hk_, hI⟩ := hI
      rw [eJ_] at hw
      clear eJ_
      refine lv_iload_n hx hb dX9_look_31 rfl (lv_at hl 3 rfl) ?_
      refine lv_bipush (v := nI 6) hx hb dX9_look_32 (by decide) ?_
      refine lv_icmp_ge (tgt := 254) hx hb dX9_look_34 (by decide) (fun q9 => ?_) (fun q9 => ?_)
      · have q9n : 6 ≤ x9.1 := (nI_leI (by omega) (by omega)).mp q9
        refine lv_aload_n hx hb dX9_look_254 rfl (lv_at hl 0 rfl) ?_
        refine wr_gr hx hb hown hK hts iX9 (ci := 8) rfl 17 (by decide) f53 rfl hw 0 (by omega) 12 rfl rfl dX9_look_255 ?_
        refine lv_iload_n hx hb dX9_look_258 rfl (lv_at hl 1 rfl) ?_
        refine lv_iconst (v := nI 1) hx hb dX9_look_259 (by decide) ?_
        refine wr_zstN hx hb hK hw 12 (by omega) rfl (by decide) b rfl (by omega) (Or.inr rfl) dX9_look_260 (fun H locs hw => ?_)
        refine lv_aload_n hx hb dX9_look_261 rfl (lv_at hl 0 rfl) ?_
        refine wr_gr hx hb hown hK hts iX9 (ci := 8) rfl 20 (by decide) f63 rfl hw 0 (by omega) 15 rfl rfl dX9_look_262 ?_
        refine lv_iload_n hx hb dX9_look_265 rfl (lv_at hl 1 rfl) ?_
        refine lv_dup2_11 hx hb dX9_look_266 rfl rfl ?_
        refine wr_ildN hx hb hK hw 15 (by omega) rfl (by decide) b rfl (by omega) dX9_look_267 ?_
        refine lv_iload_n hx hb dX9_look_268 rfl (lv_at hl 2 rfl) ?_
        refine lv_if_eq (tgt := 276) hx hb dX9_look_269 (by decide) (fun q10 => ?_) (fun q10 => ?_)
        · skip
          refine lv_iconst (v := nI 0) hx hb dX9_look_276 (by decide) ?_
          refine lv_iadd hx hb dX9_look_277 ?_
          refine wr_istN hx hb hK hw 15 (by omega) rfl (by decide) b rfl (by omega) dX9_look_278 (fun H locs hw => ?_)
          refine lv_iload_n hx hb dX9_look_279 rfl (lv_at hl 2 rfl) ?_
          exact wr_iret hx hb hr (bz_n bz_if) hK hw (qLk_2 hb16 hp hN hG q5 (by have e9 : x9.1 = 6 := (by omega); rw [← e9]; exact hI) ((if_neg (c_if.mp q10)).symm) (by rw [wU_ne (by decide), hI.1 15 (by decide)])) hlocks dX9_look_280
        · skip
          refine lv_iconst (v := nI 1) hx hb dX9_look_272 (by decide) ?_
          refine lv_goto (tgt := 277) hx hb dX9_look_273 (by decide) ?_
          refine lv_iadd hx hb dX9_look_277 ?_
          refine wr_istN hx hb hK hw 15 (by omega) rfl (by decide) b rfl (by omega) dX9_look_278 (fun H locs hw => ?_)
          refine lv_iload_n hx hb dX9_look_279 rfl (lv_at hl 2 rfl) ?_
          exact wr_iret hx hb hr (bz_n bz_if) hK hw (qLk_2 hb16 hp hN hG q5 (by have e9 : x9.1 = 6 := (by omega); rw [← e9]; exact hI) ((if_pos (Decidable.not_not.mp (fun z => q10 (c_if.mpr z)))).symm) (by rw [wU_ne (by decide), hI.1 15 (by decide)])) hlocks dX9_look_280
      · have q9n : ¬ 6 ≤ x9.1 := fun z => q9 ((nI_leI (by omega) (by omega)).mpr z)
        refine lv_bipush (v := nI 6) hx hb dX9_look_37 (by decide) ?_
        refine lv_iload_n hx hb dX9_look_39 rfl (lv_at hl 1 rfl) ?_
        refine lv_imulN hx hb dX9_look_40 ?_
        refine lv_iload_n hx hb dX9_look_41 rfl (lv_at hl 3 rfl) ?_
        refine lv_iaddN hx hb dX9_look_42 ?_
        refine lv_istore (lv' := [(4, .int (nI ((6 * b) + x9.1))), (0, .ref (ad 0)), (1, .int (nI b)), (2, .int ((if x9.2 = true then nI 1 else nI 0))), (3, .int (nI x9.1))]) hx hb dX9_look_43 hl (by decide) rfl (fun ls hl => ?_)
        refine lv_aload_n hx hb dX9_look_45 rfl (lv_at hl 1 rfl) ?_
        refine wr_gr hx hb hown hK hts iX9 (ci := 8) rfl 17 (by decide) f53 rfl hw 0 (by omega) 12 rfl rfl dX9_look_46 ?_
        refine lv_iload_n hx hb dX9_look_49 rfl (lv_at hl 2 rfl) ?_
        refine wr_zldN hx hb hK hw 12 (by omega) rfl (by decide) b rfl (by omega) dX9_look_50 ?_
        rw [show M7 12 b = M2 12 b from (congrFun (hI.1 12 (by decide)) b)]
        refine lv_if_eq (tgt := 73) hx hb dX9_look_51 (by decide) (fun q11 => ?_) (fun q11 => ?_)
        · skip
          exact absurd q11 q6
        · skip
          refine lv_aload_n hx hb dX9_look_54 rfl (lv_at hl 1 rfl) ?_
          refine wr_gr hx hb hown hK hts iX9 (ci := 8) rfl 18 (by decide) f57 rfl hw 0 (by omega) 13 rfl rfl dX9_look_55 ?_
          refine lv_iload hx hb dX9_look_58 (lv_at hl 0 rfl) ?_
          refine wr_ildN hx hb hK hw 13 (by omega) rfl (by decide) ((6 * b) + x9.1) rfl (by omega) dX9_look_60 ?_
          rw [show M7 13 ((6 * b) + x9.1) = M2 13 ((6 * b) + x9.1) from ((hI.2.1 _).trans (if_neg (by omega)))]
          refine lv_aload_n hx hb dX9_look_61 rfl (lv_at hl 1 rfl) ?_
          refine wr_gr hx hb hown hK hts iX9 (ci := 8) rfl 24 (by decide) f72 rfl hw 0 (by omega) 18 rfl rfl dX9_look_62 ?_
          refine lv_iload_n hx hb dX9_look_65 rfl (lv_at hl 4 rfl) ?_
          refine wr_ildN hx hb hK hw 18 (by omega) rfl (by decide) x9.1 rfl (by omega) dX9_look_66 ?_
          rw [show M7 18 x9.1 = M2 18 x9.1 from (congrFun (hI.1 18 (by decide)) x9.1)]
          refine va_mmin hx hb (hml.trans hl.1.symm) hown m147 t147 iMath c147 (Nat.le_of_ble_eq_true rfl) (Nat.le_of_ble_eq_true rfl) (Nat.le_of_ble_eq_true rfl) (Nat.le_of_ble_eq_true rfl) dX9_look_67 ?_
          refine W.eq (g2 := F0 m 70 ls [.int ((i_mn (M2 13 ((6 * b) + x9.1)) (M2 18 x9.1)))]) rfl ?_
          refine lv_goto (tgt := 79) hx hb dX9_look_70 (by decide) ?_
          refine lv_istore (lv' := [(5, .int ((i_mn (M2 13 ((6 * b) + x9.1)) (M2 18 x9.1)))), (4, .int (nI ((6 * b) + x9.1))), (0, .ref (ad 0)), (1, .int (nI b)), (2, .int ((if x9.2 = true then nI 1 else nI 0))), (3, .int (nI x9.1))]) hx hb dX9_look_79 hl (by decide) rfl (fun ls hl => ?_)
          refine lv_aload_n hx hb dX9_look_81 rfl (lv_at hl 2 rfl) ?_
          refine wr_gr hx hb hown hK hts iX9 (ci := 8) rfl 17 (by decide) f53 rfl hw 0 (by omega) 12 rfl rfl dX9_look_82 ?_
          refine lv_iload_n hx hb dX9_look_85 rfl (lv_at hl 3 rfl) ?_
          refine wr_zldN hx hb hK hw 12 (by omega) rfl (by decide) b rfl (by omega) dX9_look_86 ?_
          rw [show M7 12 b = M2 12 b from (congrFun (hI.1 12 (by decide)) b)]
          refine lv_if_eq (tgt := 109) hx hb dX9_look_87 (by decide) (fun q12 => ?_) (fun q12 => ?_)
          · skip
            exact absurd q12 q6
          · skip
            refine lv_aload_n hx hb dX9_look_90 rfl (lv_at hl 2 rfl) ?_
            refine wr_gr hx hb hown hK hts iX9 (ci := 8) rfl 19 (by decide) f60 rfl hw 0 (by omega) 14 rfl rfl dX9_look_91 ?_
            refine lv_iload hx hb dX9_look_94 (lv_at hl 1 rfl) ?_
            refine wr_ildN hx hb hK hw 14 (by omega) rfl (by decide) ((6 * b) + x9.1) rfl (by omega) dX9_look_96 ?_
            rw [show M7 14 ((6 * b) + x9.1) = M2 14 ((6 * b) + x9.1) from ((hI.2.2.1 _).trans (if_neg (by omega)))]
            refine lv_aload_n hx hb dX9_look_97 rfl (lv_at hl 2 rfl) ?_
            refine wr_gr hx hb hown hK hts iX9 (ci := 8) rfl 25 (by decide) f75 rfl hw 0 (by omega) 19 rfl rfl dX9_look_98 ?_
            refine lv_iload_n hx hb dX9_look_101 rfl (lv_at hl 5 rfl) ?_
            refine wr_ildN hx hb hK hw 19 (by omega) rfl (by decide) x9.1 rfl (by omega) dX9_look_102 ?_
            rw [show M7 19 x9.1 = M2 19 x9.1 from (congrFun (hI.1 19 (by decide)) x9.1)]
            refine va_mmax hx hb (hml.trans hl.1.symm) hown m150 t150 iMath c150 (Nat.le_of_ble_eq_true rfl) (Nat.le_of_ble_eq_true rfl) (Nat.le_of_ble_eq_true rfl) (Nat.le_of_ble_eq_true rfl) dX9_look_103 ?_
            refine W.eq (g2 := F0 m 106 ls [.int ((i_mx (M2 14 ((6 * b) + x9.1)) (M2 19 x9.1)))]) rfl ?_
            refine lv_goto (tgt := 115) hx hb dX9_look_106 (by decide) ?_
            refine lv_istore (lv' := [(6, .int ((i_mx (M2 14 ((6 * b) + x9.1)) (M2 19 x9.1)))), (5, .int ((i_mn (M2 13 ((6 * b) + x9.1)) (M2 18 x9.1)))), (4, .int (nI ((6 * b) + x9.1))), (0, .ref (ad 0)), (1, .int (nI b)), (2, .int ((if x9.2 = true then nI 1 else nI 0))), (3, .int (nI x9.1))]) hx hb dX9_look_115 hl (by decide) rfl (fun ls hl => ?_)
            refine lv_aload_n hx hb dX9_look_117 rfl (lv_at hl 3 rfl) ?_
            refine wr_gr hx hb hown hK hts iX9 (ci := 8) rfl 17 (by decide) f53 rfl hw 0 (by omega) 12 rfl rfl dX9_look_118 ?_
            refine lv_iload_n hx hb dX9_look_121 rfl (lv_at hl 4 rfl) ?_
            refine wr_zldN hx hb hK hw 12 (by omega) rfl (by decide) b rfl (by omega) dX9_look_122 ?_
            rw [show M7 12 b = M2 12 b from (congrFun (hI.1 12 (by decide)) b)]
            refine lv_if_eq (tgt := 143) hx hb dX9_look_123 (by decide) (fun q13 => ?_) (fun q13 => ?_)
            · skip
              exact absurd q13 q6
            · skip
              refine lv_aload_n hx hb dX9_look_126 rfl (lv_at hl 3 rfl) ?_
              refine wr_gr hx hb hown hK hts iX9 (ci := 8) rfl 20 (by decide) f63 rfl hw 0 (by omega) 15 rfl rfl dX9_look_127 ?_
              refine lv_iload_n hx hb dX9_look_130 rfl (lv_at hl 4 rfl) ?_
              refine wr_ildN hx hb hK hw 15 (by omega) rfl (by decide) b rfl (by omega) dX9_look_131 ?_
              rw [show M7 15 b = M2 15 b from (congrFun (hI.1 15 (by decide)) b)]
              refine lv_aload_n hx hb dX9_look_132 rfl (lv_at hl 3 rfl) ?_
              refine wr_gi hx hb hown hK hts iX9 (ci := 8) rfl 12 (by decide) f44 rfl hw 0 (by omega) rfl rfl dX9_look_133 ?_
              rw [show M7 0 12 = M2 0 12 from (congrFun (hI.1 0 (by decide)) 12)]
              refine lv_icmp_lt (tgt := 143) hx hb dX9_look_136 (by decide) (fun q14 => ?_) (fun q14 => ?_)
              · skip
                refine lv_iconst (v := nI 0) hx hb dX9_look_143 (by decide) ?_
                refine lv_istore (lv' := [(7, .int (nI 0)), (6, .int ((i_mx (M2 14 ((6 * b) + x9.1)) (M2 19 x9.1)))), (5, .int ((i_mn (M2 13 ((6 * b) + x9.1)) (M2 18 x9.1)))), (4, .int (nI ((6 * b) + x9.1))), (0, .ref (ad 0)), (1, .int (nI b)), (2, .int ((if x9.2 = true then nI 1 else nI 0))), (3, .int (nI x9.1))]) hx hb dX9_look_144 hl (by decide) rfl (fun ls hl => ?_)
                refine lv_iload hx hb dX9_look_146 (lv_at hl 0 rfl) ?_
                refine lv_if_eq (tgt := 171) hx hb dX9_look_148 (by decide) (fun q15 => ?_) (fun q15 => ?_)
                · skip
                  refine lv_iload hx hb dX9_look_171 (lv_at hl 0 rfl) ?_
                  refine lv_if_eq (tgt := 196) hx hb dX9_look_173 (by decide) (fun q16 => ?_) (fun q16 => ?_)
                  · skip
                    refine lv_iload_n hx hb dX9_look_196 rfl (lv_at hl 6 rfl) ?_
                    refine lv_if_ne (tgt := 224) hx hb dX9_look_197 (by decide) (fun q17 => ?_) (fun q17 => ?_)
                    · skip
                      refine lv_iconst (v := nI 1) hx hb dX9_look_224 (by decide) ?_
                      refine lv_goto (tgt := 229) hx hb dX9_look_225 (by decide) ?_
                      refine lv_istore_n (lv' := [(2, .int (nI 1)), (7, .int (nI 0)), (6, .int ((i_mx (M2 14 ((6 * b) + x9.1)) (M2 19 x9.1)))), (5, .int ((i_mn (M2 13 ((6 * b) + x9.1)) (M2 18 x9.1)))), (4, .int (nI ((6 * b) + x9.1))), (0, .ref (ad 0)), (1, .int (nI b)), (3, .int (nI x9.1))]) hx hb dX9_look_229 rfl hl (by decide) rfl (fun ls hl => ?_)
                      refine lv_aload_n hx hb dX9_look_230 rfl (lv_at hl 5 rfl) ?_
                      refine wr_gr hx hb hown hK hts iX9 (ci := 8) rfl 18 (by decide) f57 rfl hw 0 (by omega) 13 rfl rfl dX9_look_231 ?_
                      refine lv_iload hx hb dX9_look_234 (lv_at hl 4 rfl) ?_
                      refine lv_iload hx hb dX9_look_236 (lv_at hl 3 rfl) ?_
                      refine wr_istN hx hb hK hw 13 (by omega) rfl (by decide) ((6 * b) + x9.1) rfl (by omega) dX9_look_238 (fun H locs hw => ?_)
                      refine lv_aload_n hx hb dX9_look_239 rfl (lv_at hl 5 rfl) ?_
                      refine wr_gr hx hb hown hK hts iX9 (ci := 8) rfl 19 (by decide) f60 rfl hw 0 (by omega) 14 rfl rfl dX9_look_240 ?_
                      refine lv_iload hx hb dX9_look_243 (lv_at hl 4 rfl) ?_
                      refine lv_iload hx hb dX9_look_245 (lv_at hl 2 rfl) ?_
                      refine wr_istN hx hb hK hw 14 (by omega) rfl (by decide) ((6 * b) + x9.1) rfl (by omega) dX9_look_247 (fun H locs hw => ?_)
                      refine lv_iinc (v := nI (x9.1 + 1)) (lv' := [(3, .int (nI (x9.1 + 1))), (2, .int (nI 1)), (7, .int (nI 0)), (6, .int ((i_mx (M2 14 ((6 * b) + x9.1)) (M2 19 x9.1)))), (5, .int ((i_mn (M2 13 ((6 * b) + x9.1)) (M2 18 x9.1)))), (4, .int (nI ((6 * b) + x9.1))), (0, .ref (ad 0)), (1, .int (nI b))]) hx hb dX9_look_248 hl (k := 7) rfl (nI_1 _) (by decide) rfl (fun ls hl => ?_)
                      refine lv_goto (tgt := 31) hx hb dX9_look_251 (by decide) ?_
                      exact ih8 (x9.1 + 1, true) (wU (wU M7 13 ((6 * b) + x9.1) ((i_mn (M2 13 ((6 * b) + x9.1)) (M2 18 x9.1)))) 14 ((6 * b) + x9.1) ((i_mx (M2 14 ((6 * b) + x9.1)) (M2 19 x9.1)))) J _ _ _ (by omega) ⟨lv_sub hl [6, 7, 1, 0] rfl, rfl, by omega, Ilk_s hI true (nlm_1 q6 q14) (nhm_1 q6 q14) ⟨fun _ => Or.inl (Decidable.not_not.mp (fun z => q17 (c_if.mpr z))), fun _ => rfl⟩⟩ hw
                    · skip
                      refine lv_iload hx hb dX9_look_200 (lv_at hl 2 rfl) ?_
                      refine lv_aload_n hx hb dX9_look_202 rfl (lv_at hl 4 rfl) ?_
                      refine wr_gr hx hb hown hK hts iX9 (ci := 8) rfl 18 (by decide) f57 rfl hw 0 (by omega) 13 rfl rfl dX9_look_203 ?_
                      refine lv_iload hx hb dX9_look_206 (lv_at hl 3 rfl) ?_
                      refine wr_ildN hx hb hK hw 13 (by omega) rfl (by decide) ((6 * b) + x9.1) rfl (by omega) dX9_look_208 ?_
                      rw [show M7 13 ((6 * b) + x9.1) = M2 13 ((6 * b) + x9.1) from ((hI.2.1 _).trans (if_neg (by omega)))]
                      refine lv_icmp_ne (tgt := 224) hx hb dX9_look_209 (by decide) (fun q18 => ?_) (fun q18 => ?_)
                      · skip
                        refine lv_iconst (v := nI 1) hx hb dX9_look_224 (by decide) ?_
                        refine lv_goto (tgt := 229) hx hb dX9_look_225 (by decide) ?_
                        refine lv_istore_n (lv' := [(2, .int (nI 1)), (7, .int (nI 0)), (6, .int ((i_mx (M2 14 ((6 * b) + x9.1)) (M2 19 x9.1)))), (5, .int ((i_mn (M2 13 ((6 * b) + x9.1)) (M2 18 x9.1)))), (4, .int (nI ((6 * b) + x9.1))), (0, .ref (ad 0)), (1, .int (nI b)), (3, .int (nI x9.1))]) hx hb dX9_look_229 rfl hl (by decide) rfl (fun ls hl => ?_)
                        refine lv_aload_n hx hb dX9_look_230 rfl (lv_at hl 5 rfl) ?_
                        refine wr_gr hx hb hown hK hts iX9 (ci := 8) rfl 18 (by decide) f57 rfl hw 0 (by omega) 13 rfl rfl dX9_look_231 ?_
                        refine lv_iload hx hb dX9_look_234 (lv_at hl 4 rfl) ?_
                        refine lv_iload hx hb dX9_look_236 (lv_at hl 3 rfl) ?_
                        refine wr_istN hx hb hK hw 13 (by omega) rfl (by decide) ((6 * b) + x9.1) rfl (by omega) dX9_look_238 (fun H locs hw => ?_)
                        refine lv_aload_n hx hb dX9_look_239 rfl (lv_at hl 5 rfl) ?_
                        refine wr_gr hx hb hown hK hts iX9 (ci := 8) rfl 19 (by decide) f60 rfl hw 0 (by omega) 14 rfl rfl dX9_look_240 ?_
                        refine lv_iload hx hb dX9_look_243 (lv_at hl 4 rfl) ?_
                        refine lv_iload hx hb dX9_look_245 (lv_at hl 2 rfl) ?_
                        refine wr_istN hx hb hK hw 14 (by omega) rfl (by decide) ((6 * b) + x9.1) rfl (by omega) dX9_look_247 (fun H locs hw => ?_)
                        refine lv_iinc (v := nI (x9.1 + 1)) (lv' := [(3, .int (nI (x9.1 + 1))), (2, .int (nI 1)), (7, .int (nI 0)), (6, .int ((i_mx (M2 14 ((6 * b) + x9.1)) (M2 19 x9.1)))), (5, .int ((i_mn (M2 13 ((6 * b) + x9.1)) (M2 18 x9.1)))), (4, .int (nI ((6 * b) + x9.1))), (0, .ref (ad 0)), (1, .int (nI b))]) hx hb dX9_look_248 hl (k := 7) rfl (nI_1 _) (by decide) rfl (fun ls hl => ?_)
                        refine lv_goto (tgt := 31) hx hb dX9_look_251 (by decide) ?_
                        exact ih8 (x9.1 + 1, true) (wU (wU M7 13 ((6 * b) + x9.1) ((i_mn (M2 13 ((6 * b) + x9.1)) (M2 18 x9.1)))) 14 ((6 * b) + x9.1) ((i_mx (M2 14 ((6 * b) + x9.1)) (M2 19 x9.1)))) J _ _ _ (by omega) ⟨lv_sub hl [6, 7, 1, 0] rfl, rfl, by omega, Ilk_s hI true (nlm_1 q6 q14) (nhm_1 q6 q14) ⟨fun _ => Or.inr (Or.inl q18), fun _ => rfl⟩⟩ hw
                      · skip
                        refine lv_iload hx hb dX9_look_212 (lv_at hl 1 rfl) ?_
                        refine lv_aload_n hx hb dX9_look_214 rfl (lv_at hl 4 rfl) ?_
                        refine wr_gr hx hb hown hK hts iX9 (ci := 8) rfl 19 (by decide) f60 rfl hw 0 (by omega) 14 rfl rfl dX9_look_215 ?_
                        refine lv_iload hx hb dX9_look_218 (lv_at hl 3 rfl) ?_
                        refine wr_ildN hx hb hK hw 14 (by omega) rfl (by decide) ((6 * b) + x9.1) rfl (by omega) dX9_look_220 ?_
                        rw [show M7 14 ((6 * b) + x9.1) = M2 14 ((6 * b) + x9.1) from ((hI.2.2.1 _).trans (if_neg (by omega)))]
                        refine lv_icmp_eq (tgt := 228) hx hb dX9_look_221 (by decide) (fun q19 => ?_) (fun q19 => ?_)
                        · skip
                          refine lv_iconst (v := nI 0) hx hb dX9_look_228 (by decide) ?_
                          refine lv_istore_n (lv' := [(2, .int (nI 0)), (7, .int (nI 0)), (6, .int ((i_mx (M2 14 ((6 * b) + x9.1)) (M2 19 x9.1)))), (5, .int ((i_mn (M2 13 ((6 * b) + x9.1)) (M2 18 x9.1)))), (4, .int (nI ((6 * b) + x9.1))), (0, .ref (ad 0)), (1, .int (nI b)), (3, .int (nI x9.1))]) hx hb dX9_look_229 rfl hl (by decide) rfl (fun ls hl => ?_)
                          refine lv_aload_n hx hb dX9_look_230 rfl (lv_at hl 5 rfl) ?_
                          refine wr_gr hx hb hown hK hts iX9 (ci := 8) rfl 18 (by decide) f57 rfl hw 0 (by omega) 13 rfl rfl dX9_look_231 ?_
                          refine lv_iload hx hb dX9_look_234 (lv_at hl 4 rfl) ?_
                          refine lv_iload hx hb dX9_look_236 (lv_at hl 3 rfl) ?_
                          refine wr_istN hx hb hK hw 13 (by omega) rfl (by decide) ((6 * b) + x9.1) rfl (by omega) dX9_look_238 (fun H locs hw => ?_)
                          refine lv_aload_n hx hb dX9_look_239 rfl (lv_at hl 5 rfl) ?_
                          refine wr_gr hx hb hown hK hts iX9 (ci := 8) rfl 19 (by decide) f60 rfl hw 0 (by omega) 14 rfl rfl dX9_look_240 ?_
                          refine lv_iload hx hb dX9_look_243 (lv_at hl 4 rfl) ?_
                          refine lv_iload hx hb dX9_look_245 (lv_at hl 2 rfl) ?_
                          refine wr_istN hx hb hK hw 14 (by omega) rfl (by decide) ((6 * b) + x9.1) rfl (by omega) dX9_look_247 (fun H locs hw => ?_)
                          refine lv_iinc (v := nI (x9.1 + 1)) (lv' := [(3, .int (nI (x9.1 + 1))), (2, .int (nI 0)), (7, .int (nI 0)), (6, .int ((i_mx (M2 14 ((6 * b) + x9.1)) (M2 19 x9.1)))), (5, .int ((i_mn (M2 13 ((6 * b) + x9.1)) (M2 18 x9.1)))), (4, .int (nI ((6 * b) + x9.1))), (0, .ref (ad 0)), (1, .int (nI b))]) hx hb dX9_look_248 hl (k := 7) rfl (nI_1 _) (by decide) rfl (fun ls hl => ?_)
                          refine lv_goto (tgt := 31) hx hb dX9_look_251 (by decide) ?_
                          exact ih8 (x9.1 + 1, false) (wU (wU M7 13 ((6 * b) + x9.1) ((i_mn (M2 13 ((6 * b) + x9.1)) (M2 18 x9.1)))) 14 ((6 * b) + x9.1) ((i_mx (M2 14 ((6 * b) + x9.1)) (M2 19 x9.1)))) J _ _ _ (by omega) ⟨lv_sub hl [6, 7, 1, 0] rfl, rfl, by omega, Ilk_s hI false (nlm_1 q6 q14) (nhm_1 q6 q14) ⟨fun z => (by cases z), fun z => z.elim (fun z => absurd z (c_if.mp q17)) (fun z => z.elim (fun z => absurd q18 z) (fun z => absurd q19 z))⟩⟩ hw
                        · skip
                          refine lv_iconst (v := nI 1) hx hb dX9_look_224 (by decide) ?_
                          refine lv_goto (tgt := 229) hx hb dX9_look_225 (by decide) ?_
                          refine lv_istore_n (lv' := [(2, .int (nI 1)), (7, .int (nI 0)), (6, .int ((i_mx (M2 14 ((6 * b) + x9.1)) (M2 19 x9.1)))), (5, .int ((i_mn (M2 13 ((6 * b) + x9.1)) (M2 18 x9.1)))), (4, .int (nI ((6 * b) + x9.1))), (0, .ref (ad 0)), (1, .int (nI b)), (3, .int (nI x9.1))]) hx hb dX9_look_229 rfl hl (by decide) rfl (fun ls hl => ?_)
                          refine lv_aload_n hx hb dX9_look_230 rfl (lv_at hl 5 rfl) ?_
                          refine wr_gr hx hb hown hK hts iX9 (ci := 8) rfl 18 (by decide) f57 rfl hw 0 (by omega) 13 rfl rfl dX9_look_231 ?_
                          refine lv_iload hx hb dX9_look_234 (lv_at hl 4 rfl) ?_
                          refine lv_iload hx hb dX9_look_236 (lv_at hl 3 rfl) ?_
                          refine wr_istN hx hb hK hw 13 (by omega) rfl (by decide) ((6 * b) + x9.1) rfl (by omega) dX9_look_238 (fun H locs hw => ?_)
                          refine lv_aload_n hx hb dX9_look_239 rfl (lv_at hl 5 rfl) ?_
                          refine wr_gr hx hb hown hK hts iX9 (ci := 8) rfl 19 (by decide) f60 rfl hw 0 (by omega) 14 rfl rfl dX9_look_240 ?_
                          refine lv_iload hx hb dX9_look_243 (lv_at hl 4 rfl) ?_
                          refine lv_iload hx hb dX9_look_245 (lv_at hl 2 rfl) ?_
                          refine wr_istN hx hb hK hw 14 (by omega) rfl (by decide) ((6 * b) + x9.1) rfl (by omega) dX9_look_247 (fun H locs hw => ?_)
                          refine lv_iinc (v := nI (x9.1 + 1)) (lv' := [(3, .int (nI (x9.1 + 1))), (2, .int (nI 1)), (7, .int (nI 0)), (6, .int ((i_mx (M2 14 ((6 * b) + x9.1)) (M2 19 x9.1)))), (5, .int ((i_mn (M2 13 ((6 * b) + x9.1)) (M2 18 x9.1)))), (4, .int (nI ((6 * b) + x9.1))), (0, .ref (ad 0)), (1, .int (nI b))]) hx hb dX9_look_248 hl (k := 7) rfl (nI_1 _) (by decide) rfl (fun ls hl => ?_)
                          refine lv_goto (tgt := 31) hx hb dX9_look_251 (by decide) ?_
                          exact ih8 (x9.1 + 1, true) (wU (wU M7 13 ((6 * b) + x9.1) ((i_mn (M2 13 ((6 * b) + x9.1)) (M2 18 x9.1)))) 14 ((6 * b) + x9.1) ((i_mx (M2 14 ((6 * b) + x9.1)) (M2 19 x9.1)))) J _ _ _ (by omega) ⟨lv_sub hl [6, 7, 1, 0] rfl, rfl, by omega, Ilk_s hI true (nlm_1 q6 q14) (nhm_1 q6 q14) ⟨fun _ => Or.inr (Or.inr q19), fun _ => rfl⟩⟩ hw
                  · skip
                    exact absurd q16 (by decide)
                · skip
                  exact absurd q15 (by decide)
              · skip
                refine lv_iconst (v := nI 1) hx hb dX9_look_139 (by decide) ?_
                refine lv_goto (tgt := 144) hx hb dX9_look_140 (by decide) ?_
                refine lv_istore (lv' := [(7, .int (nI 1)), (6, .int ((i_mx (M2 14 ((6 * b) + x9.1)) (M2 19 x9.1)))), (5, .int ((i_mn (M2 13 ((6 * b) + x9.1)) (M2 18 x9.1)))), (4, .int (nI ((6 * b) + x9.1))), (0, .ref (ad 0)), (1, .int (nI b)), (2, .int ((if x9.2 = true then nI 1 else nI 0))), (3, .int (nI x9.1))]) hx hb dX9_look_144 hl (by decide) rfl (fun ls hl => ?_)
                refine lv_iload hx hb dX9_look_146 (lv_at hl 0 rfl) ?_
                refine lv_if_eq (tgt := 171) hx hb dX9_look_148 (by decide) (fun q20 => ?_) (fun q20 => ?_)
                · skip
                  exact absurd q20 (by decide)
                · skip
                  refine lv_iload hx hb dX9_look_151 (lv_at hl 2 rfl) ?_
                  refine lv_aload_n hx hb dX9_look_153 rfl (lv_at hl 4 rfl) ?_
                  refine wr_gr hx hb hown hK hts iX9 (ci := 8) rfl 18 (by decide) f57 rfl hw 0 (by omega) 13 rfl rfl dX9_look_154 ?_
                  refine lv_iload hx hb dX9_look_157 (lv_at hl 3 rfl) ?_
                  refine wr_ildN hx hb hK hw 13 (by omega) rfl (by decide) ((6 * b) + x9.1) rfl (by omega) dX9_look_159 ?_
                  rw [show M7 13 ((6 * b) + x9.1) = M2 13 ((6 * b) + x9.1) from ((hI.2.1 _).trans (if_neg (by omega)))]
                  refine lv_icmp_ge (tgt := 171) hx hb dX9_look_160 (by decide) (fun q21 => ?_) (fun q21 => ?_)
                  · skip
                    refine lv_iload hx hb dX9_look_171 (lv_at hl 0 rfl) ?_
                    refine lv_if_eq (tgt := 196) hx hb dX9_look_173 (by decide) (fun q22 => ?_) (fun q22 => ?_)
                    · skip
                      exact absurd q22 (by decide)
                    · skip
                      refine lv_iload hx hb dX9_look_176 (lv_at hl 1 rfl) ?_
                      refine lv_aload_n hx hb dX9_look_178 rfl (lv_at hl 4 rfl) ?_
                      refine wr_gr hx hb hown hK hts iX9 (ci := 8) rfl 19 (by decide) f60 rfl hw 0 (by omega) 14 rfl rfl dX9_look_179 ?_
                      refine lv_iload hx hb dX9_look_182 (lv_at hl 3 rfl) ?_
                      refine wr_ildN hx hb hK hw 14 (by omega) rfl (by decide) ((6 * b) + x9.1) rfl (by omega) dX9_look_184 ?_
                      rw [show M7 14 ((6 * b) + x9.1) = M2 14 ((6 * b) + x9.1) from ((hI.2.2.1 _).trans (if_neg (by omega)))]
                      refine lv_icmp_le (tgt := 196) hx hb dX9_look_185 (by decide) (fun q23 => ?_) (fun q23 => ?_)
                      · skip
                        refine lv_iload_n hx hb dX9_look_196 rfl (lv_at hl 6 rfl) ?_
                        refine lv_if_ne (tgt := 224) hx hb dX9_look_197 (by decide) (fun q24 => ?_) (fun q24 => ?_)
                        · skip
                          refine lv_iconst (v := nI 1) hx hb dX9_look_224 (by decide) ?_
                          refine lv_goto (tgt := 229) hx hb dX9_look_225 (by decide) ?_
                          refine lv_istore_n (lv' := [(2, .int (nI 1)), (7, .int (nI 1)), (6, .int ((i_mx (M2 14 ((6 * b) + x9.1)) (M2 19 x9.1)))), (5, .int ((i_mn (M2 13 ((6 * b) + x9.1)) (M2 18 x9.1)))), (4, .int (nI ((6 * b) + x9.1))), (0, .ref (ad 0)), (1, .int (nI b)), (3, .int (nI x9.1))]) hx hb dX9_look_229 rfl hl (by decide) rfl (fun ls hl => ?_)
                          refine lv_aload_n hx hb dX9_look_230 rfl (lv_at hl 5 rfl) ?_
                          refine wr_gr hx hb hown hK hts iX9 (ci := 8) rfl 18 (by decide) f57 rfl hw 0 (by omega) 13 rfl rfl dX9_look_231 ?_
                          refine lv_iload hx hb dX9_look_234 (lv_at hl 4 rfl) ?_
                          refine lv_iload hx hb dX9_look_236 (lv_at hl 3 rfl) ?_
                          refine wr_istN hx hb hK hw 13 (by omega) rfl (by decide) ((6 * b) + x9.1) rfl (by omega) dX9_look_238 (fun H locs hw => ?_)
                          refine lv_aload_n hx hb dX9_look_239 rfl (lv_at hl 5 rfl) ?_
                          refine wr_gr hx hb hown hK hts iX9 (ci := 8) rfl 19 (by decide) f60 rfl hw 0 (by omega) 14 rfl rfl dX9_look_240 ?_
                          refine lv_iload hx hb dX9_look_243 (lv_at hl 4 rfl) ?_
                          refine lv_iload hx hb dX9_look_245 (lv_at hl 2 rfl) ?_
                          refine wr_istN hx hb hK hw 14 (by omega) rfl (by decide) ((6 * b) + x9.1) rfl (by omega) dX9_look_247 (fun H locs hw => ?_)
                          refine lv_iinc (v := nI (x9.1 + 1)) (lv' := [(3, .int (nI (x9.1 + 1))), (2, .int (nI 1)), (7, .int (nI 1)), (6, .int ((i_mx (M2 14 ((6 * b) + x9.1)) (M2 19 x9.1)))), (5, .int ((i_mn (M2 13 ((6 * b) + x9.1)) (M2 18 x9.1)))), (4, .int (nI ((6 * b) + x9.1))), (0, .ref (ad 0)), (1, .int (nI b))]) hx hb dX9_look_248 hl (k := 7) rfl (nI_1 _) (by decide) rfl (fun ls hl => ?_)
                          refine lv_goto (tgt := 31) hx hb dX9_look_251 (by decide) ?_
                          exact ih8 (x9.1 + 1, true) (wU (wU M7 13 ((6 * b) + x9.1) ((i_mn (M2 13 ((6 * b) + x9.1)) (M2 18 x9.1)))) 14 ((6 * b) + x9.1) ((i_mx (M2 14 ((6 * b) + x9.1)) (M2 19 x9.1)))) J _ _ _ (by omega) ⟨lv_sub hl [6, 7, 1, 0] rfl, rfl, by omega, Ilk_s hI true (nlm_2 q6 q21) (nhm_2 q6 q23) ⟨fun _ => Or.inl (Decidable.not_not.mp (fun z => q24 (c_if.mpr z))), fun _ => rfl⟩⟩ hw
                        · skip
                          refine lv_iload hx hb dX9_look_200 (lv_at hl 2 rfl) ?_
                          refine lv_aload_n hx hb dX9_look_202 rfl (lv_at hl 4 rfl) ?_
                          refine wr_gr hx hb hown hK hts iX9 (ci := 8) rfl 18 (by decide) f57 rfl hw 0 (by omega) 13 rfl rfl dX9_look_203 ?_
                          refine lv_iload hx hb dX9_look_206 (lv_at hl 3 rfl) ?_
                          refine wr_ildN hx hb hK hw 13 (by omega) rfl (by decide) ((6 * b) + x9.1) rfl (by omega) dX9_look_208 ?_
                          rw [show M7 13 ((6 * b) + x9.1) = M2 13 ((6 * b) + x9.1) from ((hI.2.1 _).trans (if_neg (by omega)))]
                          refine lv_icmp_ne (tgt := 224) hx hb dX9_look_209 (by decide) (fun q25 => ?_) (fun q25 => ?_)
                          · skip
                            refine lv_iconst (v := nI 1) hx hb dX9_look_224 (by decide) ?_
                            refine lv_goto (tgt := 229) hx hb dX9_look_225 (by decide) ?_
                            refine lv_istore_n (lv' := [(2, .int (nI 1)), (7, .int (nI 1)), (6, .int ((i_mx (M2 14 ((6 * b) + x9.1)) (M2 19 x9.1)))), (5, .int ((i_mn (M2 13 ((6 * b) + x9.1)) (M2 18 x9.1)))), (4, .int (nI ((6 * b) + x9.1))), (0, .ref (ad 0)), (1, .int (nI b)), (3, .int (nI x9.1))]) hx hb dX9_look_229 rfl hl (by decide) rfl (fun ls hl => ?_)
                            refine lv_aload_n hx hb dX9_look_230 rfl (lv_at hl 5 rfl) ?_
                            refine wr_gr hx hb hown hK hts iX9 (ci := 8) rfl 18 (by decide) f57 rfl hw 0 (by omega) 13 rfl rfl dX9_look_231 ?_
                            refine lv_iload hx hb dX9_look_234 (lv_at hl 4 rfl) ?_
                            refine lv_iload hx hb dX9_look_236 (lv_at hl 3 rfl) ?_
                            refine wr_istN hx hb hK hw 13 (by omega) rfl (by decide) ((6 * b) + x9.1) rfl (by omega) dX9_look_238 (fun H locs hw => ?_)
                            refine lv_aload_n hx hb dX9_look_239 rfl (lv_at hl 5 rfl) ?_
                            refine wr_gr hx hb hown hK hts iX9 (ci := 8) rfl 19 (by decide) f60 rfl hw 0 (by omega) 14 rfl rfl dX9_look_240 ?_
                            refine lv_iload hx hb dX9_look_243 (lv_at hl 4 rfl) ?_
                            refine lv_iload hx hb dX9_look_245 (lv_at hl 2 rfl) ?_
                            refine wr_istN hx hb hK hw 14 (by omega) rfl (by decide) ((6 * b) + x9.1) rfl (by omega) dX9_look_247 (fun H locs hw => ?_)
                            refine lv_iinc (v := nI (x9.1 + 1)) (lv' := [(3, .int (nI (x9.1 + 1))), (2, .int (nI 1)), (7, .int (nI 1)), (6, .int ((i_mx (M2 14 ((6 * b) + x9.1)) (M2 19 x9.1)))), (5, .int ((i_mn (M2 13 ((6 * b) + x9.1)) (M2 18 x9.1)))), (4, .int (nI ((6 * b) + x9.1))), (0, .ref (ad 0)), (1, .int (nI b))]) hx hb dX9_look_248 hl (k := 7) rfl (nI_1 _) (by decide) rfl (fun ls hl => ?_)
                            refine lv_goto (tgt := 31) hx hb dX9_look_251 (by decide) ?_
                            exact ih8 (x9.1 + 1, true) (wU (wU M7 13 ((6 * b) + x9.1) ((i_mn (M2 13 ((6 * b) + x9.1)) (M2 18 x9.1)))) 14 ((6 * b) + x9.1) ((i_mx (M2 14 ((6 * b) + x9.1)) (M2 19 x9.1)))) J _ _ _ (by omega) ⟨lv_sub hl [6, 7, 1, 0] rfl, rfl, by omega, Ilk_s hI true (nlm_2 q6 q21) (nhm_2 q6 q23) ⟨fun _ => Or.inr (Or.inl q25), fun _ => rfl⟩⟩ hw
                          · skip
                            refine lv_iload hx hb dX9_look_212 (lv_at hl 1 rfl) ?_
                            refine lv_aload_n hx hb dX9_look_214 rfl (lv_at hl 4 rfl) ?_
                            refine wr_gr hx hb hown hK hts iX9 (ci := 8) rfl 19 (by decide) f60 rfl hw 0 (by omega) 14 rfl rfl dX9_look_215 ?_
                            refine lv_iload hx hb dX9_look_218 (lv_at hl 3 rfl) ?_
                            refine wr_ildN hx hb hK hw 14 (by omega) rfl (by decide) ((6 * b) + x9.1) rfl (by omega) dX9_look_220 ?_
                            rw [show M7 14 ((6 * b) + x9.1) = M2 14 ((6 * b) + x9.1) from ((hI.2.2.1 _).trans (if_neg (by omega)))]
                            refine lv_icmp_eq (tgt := 228) hx hb dX9_look_221 (by decide) (fun q26 => ?_) (fun q26 => ?_)
                            · skip
                              refine lv_iconst (v := nI 0) hx hb dX9_look_228 (by decide) ?_
                              refine lv_istore_n (lv' := [(2, .int (nI 0)), (7, .int (nI 1)), (6, .int ((i_mx (M2 14 ((6 * b) + x9.1)) (M2 19 x9.1)))), (5, .int ((i_mn (M2 13 ((6 * b) + x9.1)) (M2 18 x9.1)))), (4, .int (nI ((6 * b) + x9.1))), (0, .ref (ad 0)), (1, .int (nI b)), (3, .int (nI x9.1))]) hx hb dX9_look_229 rfl hl (by decide) rfl (fun ls hl => ?_)
                              refine lv_aload_n hx hb dX9_look_230 rfl (lv_at hl 5 rfl) ?_
                              refine wr_gr hx hb hown hK hts iX9 (ci := 8) rfl 18 (by decide) f57 rfl hw 0 (by omega) 13 rfl rfl dX9_look_231 ?_
                              refine lv_iload hx hb dX9_look_234 (lv_at hl 4 rfl) ?_
                              refine lv_iload hx hb dX9_look_236 (lv_at hl 3 rfl) ?_
                              refine wr_istN hx hb hK hw 13 (by omega) rfl (by decide) ((6 * b) + x9.1) rfl (by omega) dX9_look_238 (fun H locs hw => ?_)
                              refine lv_aload_n hx hb dX9_look_239 rfl (lv_at hl 5 rfl) ?_
                              refine wr_gr hx hb hown hK hts iX9 (ci := 8) rfl 19 (by decide) f60 rfl hw 0 (by omega) 14 rfl rfl dX9_look_240 ?_
                              refine lv_iload hx hb dX9_look_243 (lv_at hl 4 rfl) ?_
                              refine lv_iload hx hb dX9_look_245 (lv_at hl 2 rfl) ?_
                              refine wr_istN hx hb hK hw 14 (by omega) rfl (by decide) ((6 * b) + x9.1) rfl (by omega) dX9_look_247 (fun H locs hw => ?_)
                              refine lv_iinc (v := nI (x9.1 + 1)) (lv' := [(3, .int (nI (x9.1 + 1))), (2, .int (nI 0)), (7, .int (nI 1)), (6, .int ((i_mx (M2 14 ((6 * b) + x9.1)) (M2 19 x9.1)))), (5, .int ((i_mn (M2 13 ((6 * b) + x9.1)) (M2 18 x9.1)))), (4, .int (nI ((6 * b) + x9.1))), (0, .ref (ad 0)), (1, .int (nI b))]) hx hb dX9_look_248 hl (k := 7) rfl (nI_1 _) (by decide) rfl (fun ls hl => ?_)
                              refine lv_goto (tgt := 31) hx hb dX9_look_251 (by decide) ?_
                              exact ih8 (x9.1 + 1, false) (wU (wU M7 13 ((6 * b) + x9.1) ((i_mn (M2 13 ((6 * b) + x9.1)) (M2 18 x9.1)))) 14 ((6 * b) + x9.1) ((i_mx (M2 14 ((6 * b) + x9.1)) (M2 19 x9.1)))) J _ _ _ (by omega) ⟨lv_sub hl [6, 7, 1, 0] rfl, rfl, by omega, Ilk_s hI false (nlm_2 q6 q21) (nhm_2 q6 q23) ⟨fun z => (by cases z), fun z => z.elim (fun z => absurd z (c_if.mp q24)) (fun z => z.elim (fun z => absurd q25 z) (fun z => absurd q26 z))⟩⟩ hw
                            · skip
                              refine lv_iconst (v := nI 1) hx hb dX9_look_224 (by decide) ?_
                              refine lv_goto (tgt := 229) hx hb dX9_look_225 (by decide) ?_
                              refine lv_istore_n (lv' := [(2, .int (nI 1)), (7, .int (nI 1)), (6, .int ((i_mx (M2 14 ((6 * b) + x9.1)) (M2 19 x9.1)))), (5, .int ((i_mn (M2 13 ((6 * b) + x9.1)) (M2 18 x9.1)))), (4, .int (nI ((6 * b) + x9.1))), (0, .ref (ad 0)), (1, .int (nI b)), (3, .int (nI x9.1))]) hx hb dX9_look_229 rfl hl (by decide) rfl (fun ls hl => ?_)
                              refine lv_aload_n hx hb dX9_look_230 rfl (lv_at hl 5 rfl) ?_
                              refine wr_gr hx hb hown hK hts iX9 (ci := 8) rfl 18 (by decide) f57 rfl hw 0 (by omega) 13 rfl rfl dX9_look_231 ?_
                              refine lv_iload hx hb dX9_look_234 (lv_at hl 4 rfl) ?_
                              refine lv_iload hx hb dX9_look_236 (lv_at hl 3 rfl) ?_
                              refine wr_istN hx hb hK hw 13 (by omega) rfl (by decide) ((6 * b) + x9.1) rfl (by omega) dX9_look_238 (fun H locs hw => ?_)
                              refine lv_aload_n hx hb dX9_look_239 rfl (lv_at hl 5 rfl) ?_
                              refine wr_gr hx hb hown hK hts iX9 (ci := 8) rfl 19 (by decide) f60 rfl hw 0 (by omega) 14 rfl rfl dX9_look_240 ?_
                              refine lv_iload hx hb dX9_look_243 (lv_at hl 4 rfl) ?_
                              refine lv_iload hx hb dX9_look_245 (lv_at hl 2 rfl) ?_
                              refine wr_istN hx hb hK hw 14 (by omega) rfl (by decide) ((6 * b) + x9.1) rfl (by omega) dX9_look_247 (fun H locs hw => ?_)
                              refine lv_iinc (v := nI (x9.1 + 1)) (lv' := [(3, .int (nI (x9.1 + 1))), (2, .int (nI 1)), (7, .int (nI 1)), (6, .int ((i_mx (M2 14 ((6 * b) + x9.1)) (M2 19 x9.1)))), (5, .int ((i_mn (M2 13 ((6 * b) + x9.1)) (M2 18 x9.1)))), (4, .int (nI ((6 * b) + x9.1))), (0, .ref (ad 0)), (1, .int (nI b))]) hx hb dX9_look_248 hl (k := 7) rfl (nI_1 _) (by decide) rfl (fun ls hl => ?_)
                              refine lv_goto (tgt := 31) hx hb dX9_look_251 (by decide) ?_
                              exact ih8 (x9.1 + 1, true) (wU (wU M7 13 ((6 * b) + x9.1) ((i_mn (M2 13 ((6 * b) + x9.1)) (M2 18 x9.1)))) 14 ((6 * b) + x9.1) ((i_mx (M2 14 ((6 * b) + x9.1)) (M2 19 x9.1)))) J _ _ _ (by omega) ⟨lv_sub hl [6, 7, 1, 0] rfl, rfl, by omega, Ilk_s hI true (nlm_2 q6 q21) (nhm_2 q6 q23) ⟨fun _ => Or.inr (Or.inr q26), fun _ => rfl⟩⟩ hw
                      · skip
                        refine lv_aload_n hx hb dX9_look_188 rfl (lv_at hl 4 rfl) ?_
                        refine lv_iload hx hb dX9_look_189 (lv_at hl 1 rfl) ?_
                        refine wr_cVi (k := 0) (ci := 8) (As := [.int ((i_mx (M2 14 ((6 * b) + x9.1)) (M2 19 x9.1)))]) (rest := []) ⟨hx, hb, hml, hown, hts⟩ (cwV 1 hts gX9_look_X9_above rfl rfl rfl (by decide +kernel) ⟨Nat.le_of_ble_eq_true rfl, Nat.le_of_ble_eq_true rfl⟩) hK hA hw (k_X9_above l D ad cs H.size M7 J ((i_mx (M2 14 ((6 * b) + x9.1)) (M2 19 x9.1))) t ((congrFun (hI.1 0 (by decide)) 14).trans (mOK_AM hp hgA).2.2.1) hp.2.2.2.1) (by omega) rfl rfl rfl rfl hl.1 (Nat.le_of_ble_eq_true rfl) ⟨Nat.le_of_ble_eq_true rfl, Nat.le_of_ble_eq_true rfl⟩ dX9_look_191 (fun r27 M28 J29 H locs h30 hw => ?_)
                        obtain ⟨h30, rfl⟩ := h30
                        cases h30
                        rw [show (if ((i_mx (M2 14 ((6 * b) + x9.1)) (M2 19 x9.1))) = (-1000000000 : Int32) then (-1000000000 : Int32) else abo M7 ((i_mx (M2 14 ((6 * b) + x9.1)) (M2 19 x9.1))) t) = (AB M2 t ((i_mx (M2 14 ((6 * b) + x9.1)) (M2 19 x9.1)))) from (AB_eq (hI.1 11 (by decide)))]
                        refine lv_istore (lv' := [(6, .int ((AB M2 t ((i_mx (M2 14 ((6 * b) + x9.1)) (M2 19 x9.1)))))), (7, .int (nI 1)), (5, .int ((i_mn (M2 13 ((6 * b) + x9.1)) (M2 18 x9.1)))), (4, .int (nI ((6 * b) + x9.1))), (0, .ref (ad 0)), (1, .int (nI b)), (2, .int ((if x9.2 = true then nI 1 else nI 0))), (3, .int (nI x9.1))]) hx hb dX9_look_194 hl (by decide) rfl (fun ls hl => ?_)
                        refine lv_iload_n hx hb dX9_look_196 rfl (lv_at hl 6 rfl) ?_
                        refine lv_if_ne (tgt := 224) hx hb dX9_look_197 (by decide) (fun q31 => ?_) (fun q31 => ?_)
                        · skip
                          refine lv_iconst (v := nI 1) hx hb dX9_look_224 (by decide) ?_
                          refine lv_goto (tgt := 229) hx hb dX9_look_225 (by decide) ?_
                          refine lv_istore_n (lv' := [(2, .int (nI 1)), (6, .int ((AB M2 t ((i_mx (M2 14 ((6 * b) + x9.1)) (M2 19 x9.1)))))), (7, .int (nI 1)), (5, .int ((i_mn (M2 13 ((6 * b) + x9.1)) (M2 18 x9.1)))), (4, .int (nI ((6 * b) + x9.1))), (0, .ref (ad 0)), (1, .int (nI b)), (3, .int (nI x9.1))]) hx hb dX9_look_229 rfl hl (by decide) rfl (fun ls hl => ?_)
                          refine lv_aload_n hx hb dX9_look_230 rfl (lv_at hl 5 rfl) ?_
                          refine wr_gr hx hb hown hK hts iX9 (ci := 8) rfl 18 (by decide) f57 rfl hw 0 (by omega) 13 rfl rfl dX9_look_231 ?_
                          refine lv_iload hx hb dX9_look_234 (lv_at hl 4 rfl) ?_
                          refine lv_iload hx hb dX9_look_236 (lv_at hl 3 rfl) ?_
                          refine wr_istN hx hb hK hw 13 (by omega) rfl (by decide) ((6 * b) + x9.1) rfl (by omega) dX9_look_238 (fun H locs hw => ?_)
                          refine lv_aload_n hx hb dX9_look_239 rfl (lv_at hl 5 rfl) ?_
                          refine wr_gr hx hb hown hK hts iX9 (ci := 8) rfl 19 (by decide) f60 rfl hw 0 (by omega) 14 rfl rfl dX9_look_240 ?_
                          refine lv_iload hx hb dX9_look_243 (lv_at hl 4 rfl) ?_
                          refine lv_iload hx hb dX9_look_245 (lv_at hl 1 rfl) ?_
                          refine wr_istN hx hb hK hw 14 (by omega) rfl (by decide) ((6 * b) + x9.1) rfl (by omega) dX9_look_247 (fun H locs hw => ?_)
                          refine lv_iinc (v := nI (x9.1 + 1)) (lv' := [(3, .int (nI (x9.1 + 1))), (2, .int (nI 1)), (6, .int ((AB M2 t ((i_mx (M2 14 ((6 * b) + x9.1)) (M2 19 x9.1)))))), (7, .int (nI 1)), (5, .int ((i_mn (M2 13 ((6 * b) + x9.1)) (M2 18 x9.1)))), (4, .int (nI ((6 * b) + x9.1))), (0, .ref (ad 0)), (1, .int (nI b))]) hx hb dX9_look_248 hl (k := 7) rfl (nI_1 _) (by decide) rfl (fun ls hl => ?_)
                          refine lv_goto (tgt := 31) hx hb dX9_look_251 (by decide) ?_
                          exact ih8 (x9.1 + 1, true) (wU (wU M7 13 ((6 * b) + x9.1) ((i_mn (M2 13 ((6 * b) + x9.1)) (M2 18 x9.1)))) 14 ((6 * b) + x9.1) ((AB M2 t ((i_mx (M2 14 ((6 * b) + x9.1)) (M2 19 x9.1)))))) J _ _ _ (by omega) ⟨lv_sub hl [6, 7, 1, 0] rfl, rfl, by omega, Ilk_s hI true (nlm_2 q6 q21) (nhm_3 q6 q14 q23) ⟨fun _ => Or.inl (Decidable.not_not.mp (fun z => q31 (c_if.mpr z))), fun _ => rfl⟩⟩ hw
                        · skip
                          refine lv_iload hx hb dX9_look_200 (lv_at hl 2 rfl) ?_
                          refine lv_aload_n hx hb dX9_look_202 rfl (lv_at hl 4 rfl) ?_
                          refine wr_gr hx hb hown hK hts iX9 (ci := 8) rfl 18 (by decide) f57 rfl hw 0 (by omega) 13 rfl rfl dX9_look_203 ?_
                          refine lv_iload hx hb dX9_look_206 (lv_at hl 3 rfl) ?_
                          refine wr_ildN hx hb hK hw 13 (by omega) rfl (by decide) ((6 * b) + x9.1) rfl (by omega) dX9_look_208 ?_
                          rw [show M7 13 ((6 * b) + x9.1) = M2 13 ((6 * b) + x9.1) from ((hI.2.1 _).trans (if_neg (by omega)))]
                          refine lv_icmp_ne (tgt := 224) hx hb dX9_look_209 (by decide) (fun q32 => ?_) (fun q32 => ?_)
                          · skip
                            refine lv_iconst (v := nI 1) hx hb dX9_look_224 (by decide) ?_
                            refine lv_goto (tgt := 229) hx hb dX9_look_225 (by decide) ?_
                            refine lv_istore_n (lv' := [(2, .int (nI 1)), (6, .int ((AB M2 t ((i_mx (M2 14 ((6 * b) + x9.1)) (M2 19 x9.1)))))), (7, .int (nI 1)), (5, .int ((i_mn (M2 13 ((6 * b) + x9.1)) (M2 18 x9.1)))), (4, .int (nI ((6 * b) + x9.1))), (0, .ref (ad 0)), (1, .int (nI b)), (3, .int (nI x9.1))]) hx hb dX9_look_229 rfl hl (by decide) rfl (fun ls hl => ?_)
                            refine lv_aload_n hx hb dX9_look_230 rfl (lv_at hl 5 rfl) ?_
                            refine wr_gr hx hb hown hK hts iX9 (ci := 8) rfl 18 (by decide) f57 rfl hw 0 (by omega) 13 rfl rfl dX9_look_231 ?_
                            refine lv_iload hx hb dX9_look_234 (lv_at hl 4 rfl) ?_
                            refine lv_iload hx hb dX9_look_236 (lv_at hl 3 rfl) ?_
                            refine wr_istN hx hb hK hw 13 (by omega) rfl (by decide) ((6 * b) + x9.1) rfl (by omega) dX9_look_238 (fun H locs hw => ?_)
                            refine lv_aload_n hx hb dX9_look_239 rfl (lv_at hl 5 rfl) ?_
                            refine wr_gr hx hb hown hK hts iX9 (ci := 8) rfl 19 (by decide) f60 rfl hw 0 (by omega) 14 rfl rfl dX9_look_240 ?_
                            refine lv_iload hx hb dX9_look_243 (lv_at hl 4 rfl) ?_
                            refine lv_iload hx hb dX9_look_245 (lv_at hl 1 rfl) ?_
                            refine wr_istN hx hb hK hw 14 (by omega) rfl (by decide) ((6 * b) + x9.1) rfl (by omega) dX9_look_247 (fun H locs hw => ?_)
                            refine lv_iinc (v := nI (x9.1 + 1)) (lv' := [(3, .int (nI (x9.1 + 1))), (2, .int (nI 1)), (6, .int ((AB M2 t ((i_mx (M2 14 ((6 * b) + x9.1)) (M2 19 x9.1)))))), (7, .int (nI 1)), (5, .int ((i_mn (M2 13 ((6 * b) + x9.1)) (M2 18 x9.1)))), (4, .int (nI ((6 * b) + x9.1))), (0, .ref (ad 0)), (1, .int (nI b))]) hx hb dX9_look_248 hl (k := 7) rfl (nI_1 _) (by decide) rfl (fun ls hl => ?_)
                            refine lv_goto (tgt := 31) hx hb dX9_look_251 (by decide) ?_
                            exact ih8 (x9.1 + 1, true) (wU (wU M7 13 ((6 * b) + x9.1) ((i_mn (M2 13 ((6 * b) + x9.1)) (M2 18 x9.1)))) 14 ((6 * b) + x9.1) ((AB M2 t ((i_mx (M2 14 ((6 * b) + x9.1)) (M2 19 x9.1)))))) J _ _ _ (by omega) ⟨lv_sub hl [6, 7, 1, 0] rfl, rfl, by omega, Ilk_s hI true (nlm_2 q6 q21) (nhm_3 q6 q14 q23) ⟨fun _ => Or.inr (Or.inl q32), fun _ => rfl⟩⟩ hw
                          · skip
                            refine lv_iload hx hb dX9_look_212 (lv_at hl 0 rfl) ?_
                            refine lv_aload_n hx hb dX9_look_214 rfl (lv_at hl 4 rfl) ?_
                            refine wr_gr hx hb hown hK hts iX9 (ci := 8) rfl 19 (by decide) f60 rfl hw 0 (by omega) 14 rfl rfl dX9_look_215 ?_
                            refine lv_iload hx hb dX9_look_218 (lv_at hl 3 rfl) ?_
                            refine wr_ildN hx hb hK hw 14 (by omega) rfl (by decide) ((6 * b) + x9.1) rfl (by omega) dX9_look_220 ?_
                            rw [show M7 14 ((6 * b) + x9.1) = M2 14 ((6 * b) + x9.1) from ((hI.2.2.1 _).trans (if_neg (by omega)))]
                            refine lv_icmp_eq (tgt := 228) hx hb dX9_look_221 (by decide) (fun q33 => ?_) (fun q33 => ?_)
                            · skip
                              refine lv_iconst (v := nI 0) hx hb dX9_look_228 (by decide) ?_
                              refine lv_istore_n (lv' := [(2, .int (nI 0)), (6, .int ((AB M2 t ((i_mx (M2 14 ((6 * b) + x9.1)) (M2 19 x9.1)))))), (7, .int (nI 1)), (5, .int ((i_mn (M2 13 ((6 * b) + x9.1)) (M2 18 x9.1)))), (4, .int (nI ((6 * b) + x9.1))), (0, .ref (ad 0)), (1, .int (nI b)), (3, .int (nI x9.1))]) hx hb dX9_look_229 rfl hl (by decide) rfl (fun ls hl => ?_)
                              refine lv_aload_n hx hb dX9_look_230 rfl (lv_at hl 5 rfl) ?_
                              refine wr_gr hx hb hown hK hts iX9 (ci := 8) rfl 18 (by decide) f57 rfl hw 0 (by omega) 13 rfl rfl dX9_look_231 ?_
                              refine lv_iload hx hb dX9_look_234 (lv_at hl 4 rfl) ?_
                              refine lv_iload hx hb dX9_look_236 (lv_at hl 3 rfl) ?_
                              refine wr_istN hx hb hK hw 13 (by omega) rfl (by decide) ((6 * b) + x9.1) rfl (by omega) dX9_look_238 (fun H locs hw => ?_)
                              refine lv_aload_n hx hb dX9_look_239 rfl (lv_at hl 5 rfl) ?_
                              refine wr_gr hx hb hown hK hts iX9 (ci := 8) rfl 19 (by decide) f60 rfl hw 0 (by omega) 14 rfl rfl dX9_look_240 ?_
                              refine lv_iload hx hb dX9_look_243 (lv_at hl 4 rfl) ?_
                              refine lv_iload hx hb dX9_look_245 (lv_at hl 1 rfl) ?_
                              refine wr_istN hx hb hK hw 14 (by omega) rfl (by decide) ((6 * b) + x9.1) rfl (by omega) dX9_look_247 (fun H locs hw => ?_)
                              refine lv_iinc (v := nI (x9.1 + 1)) (lv' := [(3, .int (nI (x9.1 + 1))), (2, .int (nI 0)), (6, .int ((AB M2 t ((i_mx (M2 14 ((6 * b) + x9.1)) (M2 19 x9.1)))))), (7, .int (nI 1)), (5, .int ((i_mn (M2 13 ((6 * b) + x9.1)) (M2 18 x9.1)))), (4, .int (nI ((6 * b) + x9.1))), (0, .ref (ad 0)), (1, .int (nI b))]) hx hb dX9_look_248 hl (k := 7) rfl (nI_1 _) (by decide) rfl (fun ls hl => ?_)
                              refine lv_goto (tgt := 31) hx hb dX9_look_251 (by decide) ?_
                              exact ih8 (x9.1 + 1, false) (wU (wU M7 13 ((6 * b) + x9.1) ((i_mn (M2 13 ((6 * b) + x9.1)) (M2 18 x9.1)))) 14 ((6 * b) + x9.1) ((AB M2 t ((i_mx (M2 14 ((6 * b) + x9.1)) (M2 19 x9.1)))))) J _ _ _ (by omega) ⟨lv_sub hl [6, 7, 1, 0] rfl, rfl, by omega, Ilk_s hI false (nlm_2 q6 q21) (nhm_3 q6 q14 q23) ⟨fun z => (by cases z), fun z => z.elim (fun z => absurd z (c_if.mp q31)) (fun z => z.elim (fun z => absurd q32 z) (fun z => absurd q33 z))⟩⟩ hw
                            · skip
                              refine lv_iconst (v := nI 1) hx hb dX9_look_224 (by decide) ?_
                              refine lv_goto (tgt := 229) hx hb dX9_look_225 (by decide) ?_
                              refine lv_istore_n (lv' := [(2, .int (nI 1)), (6, .int ((AB M2 t ((i_mx (M2 14 ((6 * b) + x9.1)) (M2 19 x9.1)))))), (7, .int (nI 1)), (5, .int ((i_mn (M2 13 ((6 * b) + x9.1)) (M2 18 x9.1)))), (4, .int (nI ((6 * b) + x9.1))), (0, .ref (ad 0)), (1, .int (nI b)), (3, .int (nI x9.1))]) hx hb dX9_look_229 rfl hl (by decide) rfl (fun ls hl => ?_)
                              refine lv_aload_n hx hb dX9_look_230 rfl (lv_at hl 5 rfl) ?_
                              refine wr_gr hx hb hown hK hts iX9 (ci := 8) rfl 18 (by decide) f57 rfl hw 0 (by omega) 13 rfl rfl dX9_look_231 ?_
                              refine lv_iload hx hb dX9_look_234 (lv_at hl 4 rfl) ?_
                              refine lv_iload hx hb dX9_look_236 (lv_at hl 3 rfl) ?_
                              refine wr_istN hx hb hK hw 13 (by omega) rfl (by decide) ((6 * b) + x9.1) rfl (by omega) dX9_look_238 (fun H locs hw => ?_)
                              refine lv_aload_n hx hb dX9_look_239 rfl (lv_at hl 5 rfl) ?_
                              refine wr_gr hx hb hown hK hts iX9 (ci := 8) rfl 19 (by decide) f60 rfl hw 0 (by omega) 14 rfl rfl dX9_look_240 ?_
                              refine lv_iload hx hb dX9_look_243 (lv_at hl 4 rfl) ?_
                              refine lv_iload hx hb dX9_look_245 (lv_at hl 1 rfl) ?_
                              refine wr_istN hx hb hK hw 14 (by omega) rfl (by decide) ((6 * b) + x9.1) rfl (by omega) dX9_look_247 (fun H locs hw => ?_)
                              refine lv_iinc (v := nI (x9.1 + 1)) (lv' := [(3, .int (nI (x9.1 + 1))), (2, .int (nI 1)), (6, .int ((AB M2 t ((i_mx (M2 14 ((6 * b) + x9.1)) (M2 19 x9.1)))))), (7, .int (nI 1)), (5, .int ((i_mn (M2 13 ((6 * b) + x9.1)) (M2 18 x9.1)))), (4, .int (nI ((6 * b) + x9.1))), (0, .ref (ad 0)), (1, .int (nI b))]) hx hb dX9_look_248 hl (k := 7) rfl (nI_1 _) (by decide) rfl (fun ls hl => ?_)
                              refine lv_goto (tgt := 31) hx hb dX9_look_251 (by decide) ?_
                              exact ih8 (x9.1 + 1, true) (wU (wU M7 13 ((6 * b) + x9.1) ((i_mn (M2 13 ((6 * b) + x9.1)) (M2 18 x9.1)))) 14 ((6 * b) + x9.1) ((AB M2 t ((i_mx (M2 14 ((6 * b) + x9.1)) (M2 19 x9.1)))))) J _ _ _ (by omega) ⟨lv_sub hl [6, 7, 1, 0] rfl, rfl, by omega, Ilk_s hI true (nlm_2 q6 q21) (nhm_3 q6 q14 q23) ⟨fun _ => Or.inr (Or.inr q33), fun _ => rfl⟩⟩ hw
                  · skip
                    refine lv_aload_n hx hb dX9_look_163 rfl (lv_at hl 4 rfl) ?_
                    refine lv_iload hx hb dX9_look_164 (lv_at hl 2 rfl) ?_
                    refine wr_cVi (k := 0) (ci := 8) (As := [.int ((i_mn (M2 13 ((6 * b) + x9.1)) (M2 18 x9.1)))]) (rest := []) ⟨hx, hb, hml, hown, hts⟩ (cwV 1 hts gX9_look_X9_below rfl rfl rfl (by decide +kernel) ⟨Nat.le_of_ble_eq_true rfl, Nat.le_of_ble_eq_true rfl⟩) hK hA hw (k_X9_below l D ad cs H.size M7 J ((i_mn (M2 13 ((6 * b) + x9.1)) (M2 18 x9.1))) t ((congrFun (hI.1 0 (by decide)) 14).trans (mOK_AM hp hgA).2.2.1) hp.2.2.2.1) (by omega) rfl rfl rfl rfl hl.1 (Nat.le_of_ble_eq_true rfl) ⟨Nat.le_of_ble_eq_true rfl, Nat.le_of_ble_eq_true rfl⟩ dX9_look_166 (fun r34 M35 J36 H locs h37 hw => ?_)
                    obtain ⟨h37, rfl⟩ := h37
                    cases h37
                    rw [show (if ((i_mn (M2 13 ((6 * b) + x9.1)) (M2 18 x9.1))) = (1000000000 : Int32) then (1000000000 : Int32) else bel M7 ((i_mn (M2 13 ((6 * b) + x9.1)) (M2 18 x9.1))) t) = (BL M2 t ((i_mn (M2 13 ((6 * b) + x9.1)) (M2 18 x9.1)))) from (BL_eq (hI.1 11 (by decide)))]
                    refine lv_istore (lv' := [(5, .int ((BL M2 t ((i_mn (M2 13 ((6 * b) + x9.1)) (M2 18 x9.1)))))), (7, .int (nI 1)), (6, .int ((i_mx (M2 14 ((6 * b) + x9.1)) (M2 19 x9.1)))), (4, .int (nI ((6 * b) + x9.1))), (0, .ref (ad 0)), (1, .int (nI b)), (2, .int ((if x9.2 = true then nI 1 else nI 0))), (3, .int (nI x9.1))]) hx hb dX9_look_169 hl (by decide) rfl (fun ls hl => ?_)
                    refine lv_iload hx hb dX9_look_171 (lv_at hl 1 rfl) ?_
                    refine lv_if_eq (tgt := 196) hx hb dX9_look_173 (by decide) (fun q38 => ?_) (fun q38 => ?_)
                    · skip
                      exact absurd q38 (by decide)
                    · skip
                      refine lv_iload hx hb dX9_look_176 (lv_at hl 2 rfl) ?_
                      refine lv_aload_n hx hb dX9_look_178 rfl (lv_at hl 4 rfl) ?_
                      refine wr_gr hx hb hown hK hts iX9 (ci := 8) rfl 19 (by decide) f60 rfl hw 0 (by omega) 14 rfl rfl dX9_look_179 ?_
                      refine lv_iload hx hb dX9_look_182 (lv_at hl 3 rfl) ?_
                      refine wr_ildN hx hb hK hw 14 (by omega) rfl (by decide) ((6 * b) + x9.1) rfl (by omega) dX9_look_184 ?_
                      rw [show M7 14 ((6 * b) + x9.1) = M2 14 ((6 * b) + x9.1) from ((hI.2.2.1 _).trans (if_neg (by omega)))]
                      refine lv_icmp_le (tgt := 196) hx hb dX9_look_185 (by decide) (fun q39 => ?_) (fun q39 => ?_)
                      · skip
                        refine lv_iload_n hx hb dX9_look_196 rfl (lv_at hl 6 rfl) ?_
                        refine lv_if_ne (tgt := 224) hx hb dX9_look_197 (by decide) (fun q40 => ?_) (fun q40 => ?_)
                        · skip
                          refine lv_iconst (v := nI 1) hx hb dX9_look_224 (by decide) ?_
                          refine lv_goto (tgt := 229) hx hb dX9_look_225 (by decide) ?_
                          refine lv_istore_n (lv' := [(2, .int (nI 1)), (5, .int ((BL M2 t ((i_mn (M2 13 ((6 * b) + x9.1)) (M2 18 x9.1)))))), (7, .int (nI 1)), (6, .int ((i_mx (M2 14 ((6 * b) + x9.1)) (M2 19 x9.1)))), (4, .int (nI ((6 * b) + x9.1))), (0, .ref (ad 0)), (1, .int (nI b)), (3, .int (nI x9.1))]) hx hb dX9_look_229 rfl hl (by decide) rfl (fun ls hl => ?_)
                          refine lv_aload_n hx hb dX9_look_230 rfl (lv_at hl 5 rfl) ?_
                          refine wr_gr hx hb hown hK hts iX9 (ci := 8) rfl 18 (by decide) f57 rfl hw 0 (by omega) 13 rfl rfl dX9_look_231 ?_
                          refine lv_iload hx hb dX9_look_234 (lv_at hl 4 rfl) ?_
                          refine lv_iload hx hb dX9_look_236 (lv_at hl 1 rfl) ?_
                          refine wr_istN hx hb hK hw 13 (by omega) rfl (by decide) ((6 * b) + x9.1) rfl (by omega) dX9_look_238 (fun H locs hw => ?_)
                          refine lv_aload_n hx hb dX9_look_239 rfl (lv_at hl 5 rfl) ?_
                          refine wr_gr hx hb hown hK hts iX9 (ci := 8) rfl 19 (by decide) f60 rfl hw 0 (by omega) 14 rfl rfl dX9_look_240 ?_
                          refine lv_iload hx hb dX9_look_243 (lv_at hl 4 rfl) ?_
                          refine lv_iload hx hb dX9_look_245 (lv_at hl 3 rfl) ?_
                          refine wr_istN hx hb hK hw 14 (by omega) rfl (by decide) ((6 * b) + x9.1) rfl (by omega) dX9_look_247 (fun H locs hw => ?_)
                          refine lv_iinc (v := nI (x9.1 + 1)) (lv' := [(3, .int (nI (x9.1 + 1))), (2, .int (nI 1)), (5, .int ((BL M2 t ((i_mn (M2 13 ((6 * b) + x9.1)) (M2 18 x9.1)))))), (7, .int (nI 1)), (6, .int ((i_mx (M2 14 ((6 * b) + x9.1)) (M2 19 x9.1)))), (4, .int (nI ((6 * b) + x9.1))), (0, .ref (ad 0)), (1, .int (nI b))]) hx hb dX9_look_248 hl (k := 7) rfl (nI_1 _) (by decide) rfl (fun ls hl => ?_)
                          refine lv_goto (tgt := 31) hx hb dX9_look_251 (by decide) ?_
                          exact ih8 (x9.1 + 1, true) (wU (wU M7 13 ((6 * b) + x9.1) ((BL M2 t ((i_mn (M2 13 ((6 * b) + x9.1)) (M2 18 x9.1)))))) 14 ((6 * b) + x9.1) ((i_mx (M2 14 ((6 * b) + x9.1)) (M2 19 x9.1)))) J _ _ _ (by omega) ⟨lv_sub hl [6, 7, 1, 0] rfl, rfl, by omega, Ilk_s hI true (nlm_3 q6 q14 q21) (nhm_2 q6 q39) ⟨fun _ => Or.inl (Decidable.not_not.mp (fun z => q40 (c_if.mpr z))), fun _ => rfl⟩⟩ hw
                        · skip
                          refine lv_iload hx hb dX9_look_200 (lv_at hl 0 rfl) ?_
                          refine lv_aload_n hx hb dX9_look_202 rfl (lv_at hl 4 rfl) ?_
                          refine wr_gr hx hb hown hK hts iX9 (ci := 8) rfl 18 (by decide) f57 rfl hw 0 (by omega) 13 rfl rfl dX9_look_203 ?_
                          refine lv_iload hx hb dX9_look_206 (lv_at hl 3 rfl) ?_
                          refine wr_ildN hx hb hK hw 13 (by omega) rfl (by decide) ((6 * b) + x9.1) rfl (by omega) dX9_look_208 ?_
                          rw [show M7 13 ((6 * b) + x9.1) = M2 13 ((6 * b) + x9.1) from ((hI.2.1 _).trans (if_neg (by omega)))]
                          refine lv_icmp_ne (tgt := 224) hx hb dX9_look_209 (by decide) (fun q41 => ?_) (fun q41 => ?_)
                          · skip
                            refine lv_iconst (v := nI 1) hx hb dX9_look_224 (by decide) ?_
                            refine lv_goto (tgt := 229) hx hb dX9_look_225 (by decide) ?_
                            refine lv_istore_n (lv' := [(2, .int (nI 1)), (5, .int ((BL M2 t ((i_mn (M2 13 ((6 * b) + x9.1)) (M2 18 x9.1)))))), (7, .int (nI 1)), (6, .int ((i_mx (M2 14 ((6 * b) + x9.1)) (M2 19 x9.1)))), (4, .int (nI ((6 * b) + x9.1))), (0, .ref (ad 0)), (1, .int (nI b)), (3, .int (nI x9.1))]) hx hb dX9_look_229 rfl hl (by decide) rfl (fun ls hl => ?_)
                            refine lv_aload_n hx hb dX9_look_230 rfl (lv_at hl 5 rfl) ?_
                            refine wr_gr hx hb hown hK hts iX9 (ci := 8) rfl 18 (by decide) f57 rfl hw 0 (by omega) 13 rfl rfl dX9_look_231 ?_
                            refine lv_iload hx hb dX9_look_234 (lv_at hl 4 rfl) ?_
                            refine lv_iload hx hb dX9_look_236 (lv_at hl 1 rfl) ?_
                            refine wr_istN hx hb hK hw 13 (by omega) rfl (by decide) ((6 * b) + x9.1) rfl (by omega) dX9_look_238 (fun H locs hw => ?_)
                            refine lv_aload_n hx hb dX9_look_239 rfl (lv_at hl 5 rfl) ?_
                            refine wr_gr hx hb hown hK hts iX9 (ci := 8) rfl 19 (by decide) f60 rfl hw 0 (by omega) 14 rfl rfl dX9_look_240 ?_
                            refine lv_iload hx hb dX9_look_243 (lv_at hl 4 rfl) ?_
                            refine lv_iload hx hb dX9_look_245 (lv_at hl 3 rfl) ?_
                            refine wr_istN hx hb hK hw 14 (by omega) rfl (by decide) ((6 * b) + x9.1) rfl (by omega) dX9_look_247 (fun H locs hw => ?_)
                            refine lv_iinc (v := nI (x9.1 + 1)) (lv' := [(3, .int (nI (x9.1 + 1))), (2, .int (nI 1)), (5, .int ((BL M2 t ((i_mn (M2 13 ((6 * b) + x9.1)) (M2 18 x9.1)))))), (7, .int (nI 1)), (6, .int ((i_mx (M2 14 ((6 * b) + x9.1)) (M2 19 x9.1)))), (4, .int (nI ((6 * b) + x9.1))), (0, .ref (ad 0)), (1, .int (nI b))]) hx hb dX9_look_248 hl (k := 7) rfl (nI_1 _) (by decide) rfl (fun ls hl => ?_)
                            refine lv_goto (tgt := 31) hx hb dX9_look_251 (by decide) ?_
                            exact ih8 (x9.1 + 1, true) (wU (wU M7 13 ((6 * b) + x9.1) ((BL M2 t ((i_mn (M2 13 ((6 * b) + x9.1)) (M2 18 x9.1)))))) 14 ((6 * b) + x9.1) ((i_mx (M2 14 ((6 * b) + x9.1)) (M2 19 x9.1)))) J _ _ _ (by omega) ⟨lv_sub hl [6, 7, 1, 0] rfl, rfl, by omega, Ilk_s hI true (nlm_3 q6 q14 q21) (nhm_2 q6 q39) ⟨fun _ => Or.inr (Or.inl q41), fun _ => rfl⟩⟩ hw
                          · skip
                            refine lv_iload hx hb dX9_look_212 (lv_at hl 2 rfl) ?_
                            refine lv_aload_n hx hb dX9_look_214 rfl (lv_at hl 4 rfl) ?_
                            refine wr_gr hx hb hown hK hts iX9 (ci := 8) rfl 19 (by decide) f60 rfl hw 0 (by omega) 14 rfl rfl dX9_look_215 ?_
                            refine lv_iload hx hb dX9_look_218 (lv_at hl 3 rfl) ?_
                            refine wr_ildN hx hb hK hw 14 (by omega) rfl (by decide) ((6 * b) + x9.1) rfl (by omega) dX9_look_220 ?_
                            rw [show M7 14 ((6 * b) + x9.1) = M2 14 ((6 * b) + x9.1) from ((hI.2.2.1 _).trans (if_neg (by omega)))]
                            refine lv_icmp_eq (tgt := 228) hx hb dX9_look_221 (by decide) (fun q42 => ?_) (fun q42 => ?_)
                            · skip
                              refine lv_iconst (v := nI 0) hx hb dX9_look_228 (by decide) ?_
                              refine lv_istore_n (lv' := [(2, .int (nI 0)), (5, .int ((BL M2 t ((i_mn (M2 13 ((6 * b) + x9.1)) (M2 18 x9.1)))))), (7, .int (nI 1)), (6, .int ((i_mx (M2 14 ((6 * b) + x9.1)) (M2 19 x9.1)))), (4, .int (nI ((6 * b) + x9.1))), (0, .ref (ad 0)), (1, .int (nI b)), (3, .int (nI x9.1))]) hx hb dX9_look_229 rfl hl (by decide) rfl (fun ls hl => ?_)
                              refine lv_aload_n hx hb dX9_look_230 rfl (lv_at hl 5 rfl) ?_
                              refine wr_gr hx hb hown hK hts iX9 (ci := 8) rfl 18 (by decide) f57 rfl hw 0 (by omega) 13 rfl rfl dX9_look_231 ?_
                              refine lv_iload hx hb dX9_look_234 (lv_at hl 4 rfl) ?_
                              refine lv_iload hx hb dX9_look_236 (lv_at hl 1 rfl) ?_
                              refine wr_istN hx hb hK hw 13 (by omega) rfl (by decide) ((6 * b) + x9.1) rfl (by omega) dX9_look_238 (fun H locs hw => ?_)
                              refine lv_aload_n hx hb dX9_look_239 rfl (lv_at hl 5 rfl) ?_
                              refine wr_gr hx hb hown hK hts iX9 (ci := 8) rfl 19 (by decide) f60 rfl hw 0 (by omega) 14 rfl rfl dX9_look_240 ?_
                              refine lv_iload hx hb dX9_look_243 (lv_at hl 4 rfl) ?_
                              refine lv_iload hx hb dX9_look_245 (lv_at hl 3 rfl) ?_
                              refine wr_istN hx hb hK hw 14 (by omega) rfl (by decide) ((6 * b) + x9.1) rfl (by omega) dX9_look_247 (fun H locs hw => ?_)
                              refine lv_iinc (v := nI (x9.1 + 1)) (lv' := [(3, .int (nI (x9.1 + 1))), (2, .int (nI 0)), (5, .int ((BL M2 t ((i_mn (M2 13 ((6 * b) + x9.1)) (M2 18 x9.1)))))), (7, .int (nI 1)), (6, .int ((i_mx (M2 14 ((6 * b) + x9.1)) (M2 19 x9.1)))), (4, .int (nI ((6 * b) + x9.1))), (0, .ref (ad 0)), (1, .int (nI b))]) hx hb dX9_look_248 hl (k := 7) rfl (nI_1 _) (by decide) rfl (fun ls hl => ?_)
                              refine lv_goto (tgt := 31) hx hb dX9_look_251 (by decide) ?_
                              exact ih8 (x9.1 + 1, false) (wU (wU M7 13 ((6 * b) + x9.1) ((BL M2 t ((i_mn (M2 13 ((6 * b) + x9.1)) (M2 18 x9.1)))))) 14 ((6 * b) + x9.1) ((i_mx (M2 14 ((6 * b) + x9.1)) (M2 19 x9.1)))) J _ _ _ (by omega) ⟨lv_sub hl [6, 7, 1, 0] rfl, rfl, by omega, Ilk_s hI false (nlm_3 q6 q14 q21) (nhm_2 q6 q39) ⟨fun z => (by cases z), fun z => z.elim (fun z => absurd z (c_if.mp q40)) (fun z => z.elim (fun z => absurd q41 z) (fun z => absurd q42 z))⟩⟩ hw
                            · skip
                              refine lv_iconst (v := nI 1) hx hb dX9_look_224 (by decide) ?_
                              refine lv_goto (tgt := 229) hx hb dX9_look_225 (by decide) ?_
                              refine lv_istore_n (lv' := [(2, .int (nI 1)), (5, .int ((BL M2 t ((i_mn (M2 13 ((6 * b) + x9.1)) (M2 18 x9.1)))))), (7, .int (nI 1)), (6, .int ((i_mx (M2 14 ((6 * b) + x9.1)) (M2 19 x9.1)))), (4, .int (nI ((6 * b) + x9.1))), (0, .ref (ad 0)), (1, .int (nI b)), (3, .int (nI x9.1))]) hx hb dX9_look_229 rfl hl (by decide) rfl (fun ls hl => ?_)
                              refine lv_aload_n hx hb dX9_look_230 rfl (lv_at hl 5 rfl) ?_
                              refine wr_gr hx hb hown hK hts iX9 (ci := 8) rfl 18 (by decide) f57 rfl hw 0 (by omega) 13 rfl rfl dX9_look_231 ?_
                              refine lv_iload hx hb dX9_look_234 (lv_at hl 4 rfl) ?_
                              refine lv_iload hx hb dX9_look_236 (lv_at hl 1 rfl) ?_
                              refine wr_istN hx hb hK hw 13 (by omega) rfl (by decide) ((6 * b) + x9.1) rfl (by omega) dX9_look_238 (fun H locs hw => ?_)
                              refine lv_aload_n hx hb dX9_look_239 rfl (lv_at hl 5 rfl) ?_
                              refine wr_gr hx hb hown hK hts iX9 (ci := 8) rfl 19 (by decide) f60 rfl hw 0 (by omega) 14 rfl rfl dX9_look_240 ?_
                              refine lv_iload hx hb dX9_look_243 (lv_at hl 4 rfl) ?_
                              refine lv_iload hx hb dX9_look_245 (lv_at hl 3 rfl) ?_
                              refine wr_istN hx hb hK hw 14 (by omega) rfl (by decide) ((6 * b) + x9.1) rfl (by omega) dX9_look_247 (fun H locs hw => ?_)
                              refine lv_iinc (v := nI (x9.1 + 1)) (lv' := [(3, .int (nI (x9.1 + 1))), (2, .int (nI 1)), (5, .int ((BL M2 t ((i_mn (M2 13 ((6 * b) + x9.1)) (M2 18 x9.1)))))), (7, .int (nI 1)), (6, .int ((i_mx (M2 14 ((6 * b) + x9.1)) (M2 19 x9.1)))), (4, .int (nI ((6 * b) + x9.1))), (0, .ref (ad 0)), (1, .int (nI b))]) hx hb dX9_look_248 hl (k := 7) rfl (nI_1 _) (by decide) rfl (fun ls hl => ?_)
                              refine lv_goto (tgt := 31) hx hb dX9_look_251 (by decide) ?_
                              exact ih8 (x9.1 + 1, true) (wU (wU M7 13 ((6 * b) + x9.1) ((BL M2 t ((i_mn (M2 13 ((6 * b) + x9.1)) (M2 18 x9.1)))))) 14 ((6 * b) + x9.1) ((i_mx (M2 14 ((6 * b) + x9.1)) (M2 19 x9.1)))) J _ _ _ (by omega) ⟨lv_sub hl [6, 7, 1, 0] rfl, rfl, by omega, Ilk_s hI true (nlm_3 q6 q14 q21) (nhm_2 q6 q39) ⟨fun _ => Or.inr (Or.inr q42), fun _ => rfl⟩⟩ hw
                      · skip
                        refine lv_aload_n hx hb dX9_look_188 rfl (lv_at hl 4 rfl) ?_
                        refine lv_iload hx hb dX9_look_189 (lv_at hl 2 rfl) ?_
                        refine wr_cVi (k := 0) (ci := 8) (As := [.int ((i_mx (M2 14 ((6 * b) + x9.1)) (M2 19 x9.1)))]) (rest := []) ⟨hx, hb, hml, hown, hts⟩ (cwV 1 hts gX9_look_X9_above rfl rfl rfl (by decide +kernel) ⟨Nat.le_of_ble_eq_true rfl, Nat.le_of_ble_eq_true rfl⟩) hK hA hw (k_X9_above l D ad cs H.size M7 J ((i_mx (M2 14 ((6 * b) + x9.1)) (M2 19 x9.1))) t ((congrFun (hI.1 0 (by decide)) 14).trans (mOK_AM hp hgA).2.2.1) hp.2.2.2.1) (by omega) rfl rfl rfl rfl hl.1 (Nat.le_of_ble_eq_true rfl) ⟨Nat.le_of_ble_eq_true rfl, Nat.le_of_ble_eq_true rfl⟩ dX9_look_191 (fun r43 M44 J45 H locs h46 hw => ?_)
                        obtain ⟨h46, rfl⟩ := h46
                        cases h46
                        rw [show (if ((i_mx (M2 14 ((6 * b) + x9.1)) (M2 19 x9.1))) = (-1000000000 : Int32) then (-1000000000 : Int32) else abo M7 ((i_mx (M2 14 ((6 * b) + x9.1)) (M2 19 x9.1))) t) = (AB M2 t ((i_mx (M2 14 ((6 * b) + x9.1)) (M2 19 x9.1)))) from (AB_eq (hI.1 11 (by decide)))]
                        refine lv_istore (lv' := [(6, .int ((AB M2 t ((i_mx (M2 14 ((6 * b) + x9.1)) (M2 19 x9.1)))))), (5, .int ((BL M2 t ((i_mn (M2 13 ((6 * b) + x9.1)) (M2 18 x9.1)))))), (7, .int (nI 1)), (4, .int (nI ((6 * b) + x9.1))), (0, .ref (ad 0)), (1, .int (nI b)), (2, .int ((if x9.2 = true then nI 1 else nI 0))), (3, .int (nI x9.1))]) hx hb dX9_look_194 hl (by decide) rfl (fun ls hl => ?_)
                        refine lv_iload_n hx hb dX9_look_196 rfl (lv_at hl 6 rfl) ?_
                        refine lv_if_ne (tgt := 224) hx hb dX9_look_197 (by decide) (fun q47 => ?_) (fun q47 => ?_)
                        · skip
                          refine lv_iconst (v := nI 1) hx hb dX9_look_224 (by decide) ?_
                          refine lv_goto (tgt := 229) hx hb dX9_look_225 (by decide) ?_
                          refine lv_istore_n (lv' := [(2, .int (nI 1)), (6, .int ((AB M2 t ((i_mx (M2 14 ((6 * b) + x9.1)) (M2 19 x9.1)))))), (5, .int ((BL M2 t ((i_mn (M2 13 ((6 * b) + x9.1)) (M2 18 x9.1)))))), (7, .int (nI 1)), (4, .int (nI ((6 * b) + x9.1))), (0, .ref (ad 0)), (1, .int (nI b)), (3, .int (nI x9.1))]) hx hb dX9_look_229 rfl hl (by decide) rfl (fun ls hl => ?_)
                          refine lv_aload_n hx hb dX9_look_230 rfl (lv_at hl 5 rfl) ?_
                          refine wr_gr hx hb hown hK hts iX9 (ci := 8) rfl 18 (by decide) f57 rfl hw 0 (by omega) 13 rfl rfl dX9_look_231 ?_
                          refine lv_iload hx hb dX9_look_234 (lv_at hl 4 rfl) ?_
                          refine lv_iload hx hb dX9_look_236 (lv_at hl 2 rfl) ?_
                          refine wr_istN hx hb hK hw 13 (by omega) rfl (by decide) ((6 * b) + x9.1) rfl (by omega) dX9_look_238 (fun H locs hw => ?_)
                          refine lv_aload_n hx hb dX9_look_239 rfl (lv_at hl 5 rfl) ?_
                          refine wr_gr hx hb hown hK hts iX9 (ci := 8) rfl 19 (by decide) f60 rfl hw 0 (by omega) 14 rfl rfl dX9_look_240 ?_
                          refine lv_iload hx hb dX9_look_243 (lv_at hl 4 rfl) ?_
                          refine lv_iload hx hb dX9_look_245 (lv_at hl 1 rfl) ?_
                          refine wr_istN hx hb hK hw 14 (by omega) rfl (by decide) ((6 * b) + x9.1) rfl (by omega) dX9_look_247 (fun H locs hw => ?_)
                          refine lv_iinc (v := nI (x9.1 + 1)) (lv' := [(3, .int (nI (x9.1 + 1))), (2, .int (nI 1)), (6, .int ((AB M2 t ((i_mx (M2 14 ((6 * b) + x9.1)) (M2 19 x9.1)))))), (5, .int ((BL M2 t ((i_mn (M2 13 ((6 * b) + x9.1)) (M2 18 x9.1)))))), (7, .int (nI 1)), (4, .int (nI ((6 * b) + x9.1))), (0, .ref (ad 0)), (1, .int (nI b))]) hx hb dX9_look_248 hl (k := 7) rfl (nI_1 _) (by decide) rfl (fun ls hl => ?_)
                          refine lv_goto (tgt := 31) hx hb dX9_look_251 (by decide) ?_
                          exact ih8 (x9.1 + 1, true) (wU (wU M7 13 ((6 * b) + x9.1) ((BL M2 t ((i_mn (M2 13 ((6 * b) + x9.1)) (M2 18 x9.1)))))) 14 ((6 * b) + x9.1) ((AB M2 t ((i_mx (M2 14 ((6 * b) + x9.1)) (M2 19 x9.1)))))) J _ _ _ (by omega) ⟨lv_sub hl [6, 7, 1, 0] rfl, rfl, by omega, Ilk_s hI true (nlm_3 q6 q14 q21) (nhm_3 q6 q14 q39) ⟨fun _ => Or.inl (Decidable.not_not.mp (fun z => q47 (c_if.mpr z))), fun _ => rfl⟩⟩ hw
                        · skip
                          refine lv_iload hx hb dX9_look_200 (lv_at hl 1 rfl) ?_
                          refine lv_aload_n hx hb dX9_look_202 rfl (lv_at hl 4 rfl) ?_
                          refine wr_gr hx hb hown hK hts iX9 (ci := 8) rfl 18 (by decide) f57 rfl hw 0 (by omega) 13 rfl rfl dX9_look_203 ?_
                          refine lv_iload hx hb dX9_look_206 (lv_at hl 3 rfl) ?_
                          refine wr_ildN hx hb hK hw 13 (by omega) rfl (by decide) ((6 * b) + x9.1) rfl (by omega) dX9_look_208 ?_
                          rw [show M7 13 ((6 * b) + x9.1) = M2 13 ((6 * b) + x9.1) from ((hI.2.1 _).trans (if_neg (by omega)))]
                          refine lv_icmp_ne (tgt := 224) hx hb dX9_look_209 (by decide) (fun q48 => ?_) (fun q48 => ?_)
                          · skip
                            refine lv_iconst (v := nI 1) hx hb dX9_look_224 (by decide) ?_
                            refine lv_goto (tgt := 229) hx hb dX9_look_225 (by decide) ?_
                            refine lv_istore_n (lv' := [(2, .int (nI 1)), (6, .int ((AB M2 t ((i_mx (M2 14 ((6 * b) + x9.1)) (M2 19 x9.1)))))), (5, .int ((BL M2 t ((i_mn (M2 13 ((6 * b) + x9.1)) (M2 18 x9.1)))))), (7, .int (nI 1)), (4, .int (nI ((6 * b) + x9.1))), (0, .ref (ad 0)), (1, .int (nI b)), (3, .int (nI x9.1))]) hx hb dX9_look_229 rfl hl (by decide) rfl (fun ls hl => ?_)
                            refine lv_aload_n hx hb dX9_look_230 rfl (lv_at hl 5 rfl) ?_
                            refine wr_gr hx hb hown hK hts iX9 (ci := 8) rfl 18 (by decide) f57 rfl hw 0 (by omega) 13 rfl rfl dX9_look_231 ?_
                            refine lv_iload hx hb dX9_look_234 (lv_at hl 4 rfl) ?_
                            refine lv_iload hx hb dX9_look_236 (lv_at hl 2 rfl) ?_
                            refine wr_istN hx hb hK hw 13 (by omega) rfl (by decide) ((6 * b) + x9.1) rfl (by omega) dX9_look_238 (fun H locs hw => ?_)
                            refine lv_aload_n hx hb dX9_look_239 rfl (lv_at hl 5 rfl) ?_
                            refine wr_gr hx hb hown hK hts iX9 (ci := 8) rfl 19 (by decide) f60 rfl hw 0 (by omega) 14 rfl rfl dX9_look_240 ?_
                            refine lv_iload hx hb dX9_look_243 (lv_at hl 4 rfl) ?_
                            refine lv_iload hx hb dX9_look_245 (lv_at hl 1 rfl) ?_
                            refine wr_istN hx hb hK hw 14 (by omega) rfl (by decide) ((6 * b) + x9.1) rfl (by omega) dX9_look_247 (fun H locs hw => ?_)
                            refine lv_iinc (v := nI (x9.1 + 1)) (lv' := [(3, .int (nI (x9.1 + 1))), (2, .int (nI 1)), (6, .int ((AB M2 t ((i_mx (M2 14 ((6 * b) + x9.1)) (M2 19 x9.1)))))), (5, .int ((BL M2 t ((i_mn (M2 13 ((6 * b) + x9.1)) (M2 18 x9.1)))))), (7, .int (nI 1)), (4, .int (nI ((6 * b) + x9.1))), (0, .ref (ad 0)), (1, .int (nI b))]) hx hb dX9_look_248 hl (k := 7) rfl (nI_1 _) (by decide) rfl (fun ls hl => ?_)
                            refine lv_goto (tgt := 31) hx hb dX9_look_251 (by decide) ?_
                            exact ih8 (x9.1 + 1, true) (wU (wU M7 13 ((6 * b) + x9.1) ((BL M2 t ((i_mn (M2 13 ((6 * b) + x9.1)) (M2 18 x9.1)))))) 14 ((6 * b) + x9.1) ((AB M2 t ((i_mx (M2 14 ((6 * b) + x9.1)) (M2 19 x9.1)))))) J _ _ _ (by omega) ⟨lv_sub hl [6, 7, 1, 0] rfl, rfl, by omega, Ilk_s hI true (nlm_3 q6 q14 q21) (nhm_3 q6 q14 q39) ⟨fun _ => Or.inr (Or.inl q48), fun _ => rfl⟩⟩ hw
                          · skip
                            refine lv_iload hx hb dX9_look_212 (lv_at hl 0 rfl) ?_
                            refine lv_aload_n hx hb dX9_look_214 rfl (lv_at hl 4 rfl) ?_
                            refine wr_gr hx hb hown hK hts iX9 (ci := 8) rfl 19 (by decide) f60 rfl hw 0 (by omega) 14 rfl rfl dX9_look_215 ?_
                            refine lv_iload hx hb dX9_look_218 (lv_at hl 3 rfl) ?_
                            refine wr_ildN hx hb hK hw 14 (by omega) rfl (by decide) ((6 * b) + x9.1) rfl (by omega) dX9_look_220 ?_
                            rw [show M7 14 ((6 * b) + x9.1) = M2 14 ((6 * b) + x9.1) from ((hI.2.2.1 _).trans (if_neg (by omega)))]
                            refine lv_icmp_eq (tgt := 228) hx hb dX9_look_221 (by decide) (fun q49 => ?_) (fun q49 => ?_)
                            · skip
                              refine lv_iconst (v := nI 0) hx hb dX9_look_228 (by decide) ?_
                              refine lv_istore_n (lv' := [(2, .int (nI 0)), (6, .int ((AB M2 t ((i_mx (M2 14 ((6 * b) + x9.1)) (M2 19 x9.1)))))), (5, .int ((BL M2 t ((i_mn (M2 13 ((6 * b) + x9.1)) (M2 18 x9.1)))))), (7, .int (nI 1)), (4, .int (nI ((6 * b) + x9.1))), (0, .ref (ad 0)), (1, .int (nI b)), (3, .int (nI x9.1))]) hx hb dX9_look_229 rfl hl (by decide) rfl (fun ls hl => ?_)
                              refine lv_aload_n hx hb dX9_look_230 rfl (lv_at hl 5 rfl) ?_
                              refine wr_gr hx hb hown hK hts iX9 (ci := 8) rfl 18 (by decide) f57 rfl hw 0 (by omega) 13 rfl rfl dX9_look_231 ?_
                              refine lv_iload hx hb dX9_look_234 (lv_at hl 4 rfl) ?_
                              refine lv_iload hx hb dX9_look_236 (lv_at hl 2 rfl) ?_
                              refine wr_istN hx hb hK hw 13 (by omega) rfl (by decide) ((6 * b) + x9.1) rfl (by omega) dX9_look_238 (fun H locs hw => ?_)
                              refine lv_aload_n hx hb dX9_look_239 rfl (lv_at hl 5 rfl) ?_
                              refine wr_gr hx hb hown hK hts iX9 (ci := 8) rfl 19 (by decide) f60 rfl hw 0 (by omega) 14 rfl rfl dX9_look_240 ?_
                              refine lv_iload hx hb dX9_look_243 (lv_at hl 4 rfl) ?_
                              refine lv_iload hx hb dX9_look_245 (lv_at hl 1 rfl) ?_
                              refine wr_istN hx hb hK hw 14 (by omega) rfl (by decide) ((6 * b) + x9.1) rfl (by omega) dX9_look_247 (fun H locs hw => ?_)
                              refine lv_iinc (v := nI (x9.1 + 1)) (lv' := [(3, .int (nI (x9.1 + 1))), (2, .int (nI 0)), (6, .int ((AB M2 t ((i_mx (M2 14 ((6 * b) + x9.1)) (M2 19 x9.1)))))), (5, .int ((BL M2 t ((i_mn (M2 13 ((6 * b) + x9.1)) (M2 18 x9.1)))))), (7, .int (nI 1)), (4, .int (nI ((6 * b) + x9.1))), (0, .ref (ad 0)), (1, .int (nI b))]) hx hb dX9_look_248 hl (k := 7) rfl (nI_1 _) (by decide) rfl (fun ls hl => ?_)
                              refine lv_goto (tgt := 31) hx hb dX9_look_251 (by decide) ?_
                              exact ih8 (x9.1 + 1, false) (wU (wU M7 13 ((6 * b) + x9.1) ((BL M2 t ((i_mn (M2 13 ((6 * b) + x9.1)) (M2 18 x9.1)))))) 14 ((6 * b) + x9.1) ((AB M2 t ((i_mx (M2 14 ((6 * b) + x9.1)) (M2 19 x9.1)))))) J _ _ _ (by omega) ⟨lv_sub hl [6, 7, 1, 0] rfl, rfl, by omega, Ilk_s hI false (nlm_3 q6 q14 q21) (nhm_3 q6 q14 q39) ⟨fun z => (by cases z), fun z => z.elim (fun z => absurd z (c_if.mp q47)) (fun z => z.elim (fun z => absurd q48 z) (fun z => absurd q49 z))⟩⟩ hw
                            · skip
                              refine lv_iconst (v := nI 1) hx hb dX9_look_224 (by decide) ?_
                              refine lv_goto (tgt := 229) hx hb dX9_look_225 (by decide) ?_
                              refine lv_istore_n (lv' := [(2, .int (nI 1)), (6, .int ((AB M2 t ((i_mx (M2 14 ((6 * b) + x9.1)) (M2 19 x9.1)))))), (5, .int ((BL M2 t ((i_mn (M2 13 ((6 * b) + x9.1)) (M2 18 x9.1)))))), (7, .int (nI 1)), (4, .int (nI ((6 * b) + x9.1))), (0, .ref (ad 0)), (1, .int (nI b)), (3, .int (nI x9.1))]) hx hb dX9_look_229 rfl hl (by decide) rfl (fun ls hl => ?_)
                              refine lv_aload_n hx hb dX9_look_230 rfl (lv_at hl 5 rfl) ?_
                              refine wr_gr hx hb hown hK hts iX9 (ci := 8) rfl 18 (by decide) f57 rfl hw 0 (by omega) 13 rfl rfl dX9_look_231 ?_
                              refine lv_iload hx hb dX9_look_234 (lv_at hl 4 rfl) ?_
                              refine lv_iload hx hb dX9_look_236 (lv_at hl 2 rfl) ?_
                              refine wr_istN hx hb hK hw 13 (by omega) rfl (by decide) ((6 * b) + x9.1) rfl (by omega) dX9_look_238 (fun H locs hw => ?_)
                              refine lv_aload_n hx hb dX9_look_239 rfl (lv_at hl 5 rfl) ?_
                              refine wr_gr hx hb hown hK hts iX9 (ci := 8) rfl 19 (by decide) f60 rfl hw 0 (by omega) 14 rfl rfl dX9_look_240 ?_
                              refine lv_iload hx hb dX9_look_243 (lv_at hl 4 rfl) ?_
                              refine lv_iload hx hb dX9_look_245 (lv_at hl 1 rfl) ?_
                              refine wr_istN hx hb hK hw 14 (by omega) rfl (by decide) ((6 * b) + x9.1) rfl (by omega) dX9_look_247 (fun H locs hw => ?_)
                              refine lv_iinc (v := nI (x9.1 + 1)) (lv' := [(3, .int (nI (x9.1 + 1))), (2, .int (nI 1)), (6, .int ((AB M2 t ((i_mx (M2 14 ((6 * b) + x9.1)) (M2 19 x9.1)))))), (5, .int ((BL M2 t ((i_mn (M2 13 ((6 * b) + x9.1)) (M2 18 x9.1)))))), (7, .int (nI 1)), (4, .int (nI ((6 * b) + x9.1))), (0, .ref (ad 0)), (1, .int (nI b))]) hx hb dX9_look_248 hl (k := 7) rfl (nI_1 _) (by decide) rfl (fun ls hl => ?_)
                              refine lv_goto (tgt := 31) hx hb dX9_look_251 (by decide) ?_
                              exact ih8 (x9.1 + 1, true) (wU (wU M7 13 ((6 * b) + x9.1) ((BL M2 t ((i_mn (M2 13 ((6 * b) + x9.1)) (M2 18 x9.1)))))) 14 ((6 * b) + x9.1) ((AB M2 t ((i_mx (M2 14 ((6 * b) + x9.1)) (M2 19 x9.1)))))) J _ _ _ (by omega) ⟨lv_sub hl [6, 7, 1, 0] rfl, rfl, by omega, Ilk_s hI true (nlm_3 q6 q14 q21) (nhm_3 q6 q14 q39) ⟨fun _ => Or.inr (Or.inr q49), fun _ => rfl⟩⟩ hw
    · skip
      refine lv_iconst (v := nI 1) hx hb dX9_look_23 (by decide) ?_
      refine lv_goto (tgt := 28) hx hb dX9_look_24 (by decide) ?_
      refine lv_istore_n (lv' := [(2, .int (nI 1)), (0, .ref (ad 0)), (1, .int (nI b))]) hx hb dX9_look_28 rfl hl (by decide) rfl (fun ls hl => ?_)
      refine lv_iconst (v := nI 0) hx hb dX9_look_29 (by decide) ?_
      refine lv_istore_n (lv' := [(3, .int (nI 0)), (2, .int (nI 1)), (0, .ref (ad 0)), (1, .int (nI b))]) hx hb dX9_look_30 rfl hl (by decide) rfl (fun ls hl => ?_)
      refine w_loop (σ := Nat × Bool) (fun x9 M' J' ls => lv_has ls 8 [(0, .ref (ad 0)), (1, .int (nI b)), (2, .int ((if x9.2 = true then nI 1 else nI 0))), (3, .int (nI x9.1))] ∧ J' = J ∧ x9.1 ≤ 6 ∧ Ilk M2 b t x9.1 x9.2 M') (fun x9 => 6 - x9.1) (fun x9 M50 J1_ H locs ls hI hw ih51 => ?_) (0, true) ⟨lv_sub hl [2, 3, 1, 0] rfl, rfl, by omega, (Ilk_0 (⟨fun _ => q6, fun _ => rfl⟩))⟩ hw
      obtain ⟨hl, eJ_, hk_, hI⟩ := hI
      rw [eJ_] at hw
      clear eJ_
      refine lv_iload_n hx hb dX9_look_31 rfl (lv_at hl 3 rfl) ?_
      refine lv_bipush (v := nI 6) hx hb dX9_look_32 (by decide) ?_
      refine lv_icmp_ge (tgt := 254) hx hb dX9_look_34 (by decide) (fun q52 => ?_) (fun q52 => ?_)
      · have q52n : 6 ≤ x9.1 := (nI_leI (by omega) (by omega)).mp q52
        refine lv_aload_n hx hb dX9_look_254 rfl (lv_at hl 0 rfl) ?_
        refine wr_gr hx hb hown hK hts iX9 (ci := 8) rfl 17 (by decide) f53 rfl hw 0 (by omega) 12 rfl rfl dX9_look_255 ?_
        refine lv_iload_n hx hb dX9_look_258 rfl (lv_at hl 1 rfl) ?_
        refine lv_iconst (v := nI 1) hx hb dX9_look_259 (by decide) ?_
        refine wr_zstN hx hb hK hw 12 (by omega) rfl (by decide) b rfl (by omega) (Or.inr rfl) dX9_look_260 (fun H locs hw => ?_)
        refine lv_aload_n hx hb dX9_look_261 rfl (lv_at hl 0 rfl) ?_
        refine wr_gr hx hb hown hK hts iX9 (ci := 8) rfl 20 (by decide) f63 rfl hw 0 (by omega) 15 rfl rfl dX9_look_262 ?_
        refine lv_iload_n hx hb dX9_look_265 rfl (lv_at hl 1 rfl) ?_
        refine lv_dup2_11 hx hb dX9_look_266 rfl rfl ?_
        refine wr_ildN hx hb hK hw 15 (by omega) rfl (by decide) b rfl (by omega) dX9_look_267 ?_
        refine lv_iload_n hx hb dX9_look_268 rfl (lv_at hl 2 rfl) ?_
        refine lv_if_eq (tgt := 276) hx hb dX9_look_269 (by decide) (fun q53 => ?_) (fun q53 => ?_)
        · skip
          refine lv_iconst (v := nI 0) hx hb dX9_look_276 (by decide) ?_
          refine lv_iadd hx hb dX9_look_277 ?_
          refine wr_istN hx hb hK hw 15 (by omega) rfl (by decide) b rfl (by omega) dX9_look_278 (fun H locs hw => ?_)
          refine lv_iload_n hx hb dX9_look_279 rfl (lv_at hl 2 rfl) ?_
          exact wr_iret hx hb hr (bz_n bz_if) hK hw (qLk_2 hb16 hp hN hG q5 (by have e9 : x9.1 = 6 := (by omega); rw [← e9]; exact hI) ((if_neg (c_if.mp q53)).symm) (by rw [wU_ne (by decide), hI.1 15 (by decide)])) hlocks dX9_look_280
        · skip
          refine lv_iconst (v := nI 1) hx hb dX9_look_272 (by decide) ?_
          refine lv_goto (tgt := 277) hx hb dX9_look_273 (by decide) ?_
          refine lv_iadd hx hb dX9_look_277 ?_
          refine wr_istN hx hb hK hw 15 (by omega) rfl (by decide) b rfl (by omega) dX9_look_278 (fun H locs hw => ?_)
          refine lv_iload_n hx hb dX9_look_279 rfl (lv_at hl 2 rfl) ?_
          exact wr_iret hx hb hr (bz_n bz_if) hK hw (qLk_2 hb16 hp hN hG q5 (by have e9 : x9.1 = 6 := (by omega); rw [← e9]; exact hI) ((if_pos (Decidable.not_not.mp (fun z => q53 (c_if.mpr z)))).symm) (by rw [wU_ne (by decide), hI.1 15 (by decide)])) hlocks dX9_look_280
      · have q52n : ¬ 6 ≤ x9.1 := fun z => q52 ((nI_leI (by omega) (by omega)).mpr z)
        refine lv_bipush (v := nI 6) hx hb dX9_look_37 (by decide) ?_
        refine lv_iload_n hx hb dX9_look_39 rfl (lv_at hl 1 rfl) ?_
        refine lv_imulN hx hb dX9_look_40 ?_
        refine lv_iload_n hx hb dX9_look_41 rfl (lv_at hl 3 rfl) ?_
        refine lv_iaddN hx hb dX9_look_42 ?_
        refine lv_istore (lv' := [(4, .int (nI ((6 * b) + x9.1))), (0, .ref (ad 0)), (1, .int (nI b)), (2, .int ((if x9.2 = true then nI 1 else nI 0))), (3, .int (nI x9.1))]) hx hb dX9_look_43 hl (by decide) rfl (fun ls hl => ?_)
        refine lv_aload_n hx hb dX9_look_45 rfl (lv_at hl 1 rfl) ?_
        refine wr_gr hx hb hown hK hts iX9 (ci := 8) rfl 17 (by decide) f53 rfl hw 0 (by omega) 12 rfl rfl dX9_look_46 ?_
        refine lv_iload_n hx hb dX9_look_49 rfl (lv_at hl 2 rfl) ?_
        refine wr_zldN hx hb hK hw 12 (by omega) rfl (by decide) b rfl (by omega) dX9_look_50 ?_
        rw [show M50 12 b = M2 12 b from (congrFun (hI.1 12 (by decide)) b)]
        refine lv_if_eq (tgt := 73) hx hb dX9_look_51 (by decide) (fun q54 => ?_) (fun q54 => ?_)
        · skip
          refine lv_aload_n hx hb dX9_look_73 rfl (lv_at hl 1 rfl) ?_
          refine wr_gr hx hb hown hK hts iX9 (ci := 8) rfl 24 (by decide) f72 rfl hw 0 (by omega) 18 rfl rfl dX9_look_74 ?_
          refine lv_iload_n hx hb dX9_look_77 rfl (lv_at hl 4 rfl) ?_
          refine wr_ildN hx hb hK hw 18 (by omega) rfl (by decide) x9.1 rfl (by omega) dX9_look_78 ?_
          rw [show M50 18 x9.1 = M2 18 x9.1 from (congrFun (hI.1 18 (by decide)) x9.1)]
          refine lv_istore (lv' := [(5, .int (M2 18 x9.1)), (4, .int (nI ((6 * b) + x9.1))), (0, .ref (ad 0)), (1, .int (nI b)), (2, .int ((if x9.2 = true then nI 1 else nI 0))), (3, .int (nI x9.1))]) hx hb dX9_look_79 hl (by decide) rfl (fun ls hl => ?_)
          refine lv_aload_n hx hb dX9_look_81 rfl (lv_at hl 2 rfl) ?_
          refine wr_gr hx hb hown hK hts iX9 (ci := 8) rfl 17 (by decide) f53 rfl hw 0 (by omega) 12 rfl rfl dX9_look_82 ?_
          refine lv_iload_n hx hb dX9_look_85 rfl (lv_at hl 3 rfl) ?_
          refine wr_zldN hx hb hK hw 12 (by omega) rfl (by decide) b rfl (by omega) dX9_look_86 ?_
          rw [show M50 12 b = M2 12 b from (congrFun (hI.1 12 (by decide)) b)]
          refine lv_if_eq (tgt := 109) hx hb dX9_look_87 (by decide) (fun q55 => ?_) (fun q55 => ?_)
          · skip
            refine lv_aload_n hx hb dX9_look_109 rfl (lv_at hl 2 rfl) ?_
            refine wr_gr hx hb hown hK hts iX9 (ci := 8) rfl 25 (by decide) f75 rfl hw 0 (by omega) 19 rfl rfl dX9_look_110 ?_
            refine lv_iload_n hx hb dX9_look_113 rfl (lv_at hl 5 rfl) ?_
            refine wr_ildN hx hb hK hw 19 (by omega) rfl (by decide) x9.1 rfl (by omega) dX9_look_114 ?_
            rw [show M50 19 x9.1 = M2 19 x9.1 from (congrFun (hI.1 19 (by decide)) x9.1)]
            refine lv_istore (lv' := [(6, .int (M2 19 x9.1)), (5, .int (M2 18 x9.1)), (4, .int (nI ((6 * b) + x9.1))), (0, .ref (ad 0)), (1, .int (nI b)), (2, .int ((if x9.2 = true then nI 1 else nI 0))), (3, .int (nI x9.1))]) hx hb dX9_look_115 hl (by decide) rfl (fun ls hl => ?_)
            refine lv_aload_n hx hb dX9_look_117 rfl (lv_at hl 3 rfl) ?_
            refine wr_gr hx hb hown hK hts iX9 (ci := 8) rfl 17 (by decide) f53 rfl hw 0 (by omega) 12 rfl rfl dX9_look_118 ?_
            refine lv_iload_n hx hb dX9_look_121 rfl (lv_at hl 4 rfl) ?_
            refine wr_zldN hx hb hK hw 12 (by omega) rfl (by decide) b rfl (by omega) dX9_look_122 ?_
            rw [show M50 12 b = M2 12 b from (congrFun (hI.1 12 (by decide)) b)]
            refine lv_if_eq (tgt := 143) hx hb dX9_look_123 (by decide) (fun q56 => ?_) (fun q56 => ?_)
            · skip
              refine lv_iconst (v := nI 0) hx hb dX9_look_143 (by decide) ?_
              refine lv_istore (lv' := [(7, .int (nI 0)), (6, .int (M2 19 x9.1)), (5, .int (M2 18 x9.1)), (4, .int (nI ((6 * b) + x9.1))), (0, .ref (ad 0)), (1, .int (nI b)), (2, .int ((if x9.2 = true then nI 1 else nI 0))), (3, .int (nI x9.1))]) hx hb dX9_look_144 hl (by decide) rfl (fun ls hl => ?_)
              refine lv_iload hx hb dX9_look_146 (lv_at hl 0 rfl) ?_
              refine lv_if_eq (tgt := 171) hx hb dX9_look_148 (by decide) (fun q57 => ?_) (fun q57 => ?_)
              · skip
                refine lv_iload hx hb dX9_look_171 (lv_at hl 0 rfl) ?_
                refine lv_if_eq (tgt := 196) hx hb dX9_look_173 (by decide) (fun q58 => ?_) (fun q58 => ?_)
                · skip
                  refine lv_iload_n hx hb dX9_look_196 rfl (lv_at hl 6 rfl) ?_
                  refine lv_if_ne (tgt := 224) hx hb dX9_look_197 (by decide) (fun q59 => ?_) (fun q59 => ?_)
                  · skip
                    refine lv_iconst (v := nI 1) hx hb dX9_look_224 (by decide) ?_
                    refine lv_goto (tgt := 229) hx hb dX9_look_225 (by decide) ?_
                    refine lv_istore_n (lv' := [(2, .int (nI 1)), (7, .int (nI 0)), (6, .int (M2 19 x9.1)), (5, .int (M2 18 x9.1)), (4, .int (nI ((6 * b) + x9.1))), (0, .ref (ad 0)), (1, .int (nI b)), (3, .int (nI x9.1))]) hx hb dX9_look_229 rfl hl (by decide) rfl (fun ls hl => ?_)
                    refine lv_aload_n hx hb dX9_look_230 rfl (lv_at hl 5 rfl) ?_
                    refine wr_gr hx hb hown hK hts iX9 (ci := 8) rfl 18 (by decide) f57 rfl hw 0 (by omega) 13 rfl rfl dX9_look_231 ?_
                    refine lv_iload hx hb dX9_look_234 (lv_at hl 4 rfl) ?_
                    refine lv_iload hx hb dX9_look_236 (lv_at hl 3 rfl) ?_
                    refine wr_istN hx hb hK hw 13 (by omega) rfl (by decide) ((6 * b) + x9.1) rfl (by omega) dX9_look_238 (fun H locs hw => ?_)
                    refine lv_aload_n hx hb dX9_look_239 rfl (lv_at hl 5 rfl) ?_
                    refine wr_gr hx hb hown hK hts iX9 (ci := 8) rfl 19 (by decide) f60 rfl hw 0 (by omega) 14 rfl rfl dX9_look_240 ?_
                    refine lv_iload hx hb dX9_look_243 (lv_at hl 4 rfl) ?_
                    refine lv_iload hx hb dX9_look_245 (lv_at hl 2 rfl) ?_
                    refine wr_istN hx hb hK hw 14 (by omega) rfl (by decide) ((6 * b) + x9.1) rfl (by omega) dX9_look_247 (fun H locs hw => ?_)
                    refine lv_iinc (v := nI (x9.1 + 1)) (lv' := [(3, .int (nI (x9.1 + 1))), (2, .int (nI 1)), (7, .int (nI 0)), (6, .int (M2 19 x9.1)), (5, .int (M2 18 x9.1)), (4, .int (nI ((6 * b) + x9.1))), (0, .ref (ad 0)), (1, .int (nI b))]) hx hb dX9_look_248 hl (k := 7) rfl (nI_1 _) (by decide) rfl (fun ls hl => ?_)
                    refine lv_goto (tgt := 31) hx hb dX9_look_251 (by decide) ?_
                    exact ih51 (x9.1 + 1, true) (wU (wU M50 13 ((6 * b) + x9.1) (M2 18 x9.1)) 14 ((6 * b) + x9.1) (M2 19 x9.1)) J _ _ _ (by omega) ⟨lv_sub hl [6, 7, 1, 0] rfl, rfl, by omega, Ilk_s hI true (nlm_0 q6) (nhm_0 q6) ⟨fun _ => Or.inl (Decidable.not_not.mp (fun z => q59 (c_if.mpr z))), fun _ => rfl⟩⟩ hw
                  · skip
                    refine lv_iload hx hb dX9_look_200 (lv_at hl 2 rfl) ?_
                    refine lv_aload_n hx hb dX9_look_202 rfl (lv_at hl 4 rfl) ?_
                    refine wr_gr hx hb hown hK hts iX9 (ci := 8) rfl 18 (by decide) f57 rfl hw 0 (by omega) 13 rfl rfl dX9_look_203 ?_
                    refine lv_iload hx hb dX9_look_206 (lv_at hl 3 rfl) ?_
                    refine wr_ildN hx hb hK hw 13 (by omega) rfl (by decide) ((6 * b) + x9.1) rfl (by omega) dX9_look_208 ?_
                    rw [show M50 13 ((6 * b) + x9.1) = M2 13 ((6 * b) + x9.1) from ((hI.2.1 _).trans (if_neg (by omega)))]
                    refine lv_icmp_ne (tgt := 224) hx hb dX9_look_209 (by decide) (fun q60 => ?_) (fun q60 => ?_)
                    · skip
                      refine lv_iconst (v := nI 1) hx hb dX9_look_224 (by decide) ?_
                      refine lv_goto (tgt := 229) hx hb dX9_look_225 (by decide) ?_
                      refine lv_istore_n (lv' := [(2, .int (nI 1)), (7, .int (nI 0)), (6, .int (M2 19 x9.1)), (5, .int (M2 18 x9.1)), (4, .int (nI ((6 * b) + x9.1))), (0, .ref (ad 0)), (1, .int (nI b)), (3, .int (nI x9.1))]) hx hb dX9_look_229 rfl hl (by decide) rfl (fun ls hl => ?_)
                      refine lv_aload_n hx hb dX9_look_230 rfl (lv_at hl 5 rfl) ?_
                      refine wr_gr hx hb hown hK hts iX9 (ci := 8) rfl 18 (by decide) f57 rfl hw 0 (by omega) 13 rfl rfl dX9_look_231 ?_
                      refine lv_iload hx hb dX9_look_234 (lv_at hl 4 rfl) ?_
                      refine lv_iload hx hb dX9_look_236 (lv_at hl 3 rfl) ?_
                      refine wr_istN hx hb hK hw 13 (by omega) rfl (by decide) ((6 * b) + x9.1) rfl (by omega) dX9_look_238 (fun H locs hw => ?_)
                      refine lv_aload_n hx hb dX9_look_239 rfl (lv_at hl 5 rfl) ?_
                      refine wr_gr hx hb hown hK hts iX9 (ci := 8) rfl 19 (by decide) f60 rfl hw 0 (by omega) 14 rfl rfl dX9_look_240 ?_
                      refine lv_iload hx hb dX9_look_243 (lv_at hl 4 rfl) ?_
                      refine lv_iload hx hb dX9_look_245 (lv_at hl 2 rfl) ?_
                      refine wr_istN hx hb hK hw 14 (by omega) rfl (by decide) ((6 * b) + x9.1) rfl (by omega) dX9_look_247 (fun H locs hw => ?_)
                      refine lv_iinc (v := nI (x9.1 + 1)) (lv' := [(3, .int (nI (x9.1 + 1))), (2, .int (nI 1)), (7, .int (nI 0)), (6, .int (M2 19 x9.1)), (5, .int (M2 18 x9.1)), (4, .int (nI ((6 * b) + x9.1))), (0, .ref (ad 0)), (1, .int (nI b))]) hx hb dX9_look_248 hl (k := 7) rfl (nI_1 _) (by decide) rfl (fun ls hl => ?_)
                      refine lv_goto (tgt := 31) hx hb dX9_look_251 (by decide) ?_
                      exact ih51 (x9.1 + 1, true) (wU (wU M50 13 ((6 * b) + x9.1) (M2 18 x9.1)) 14 ((6 * b) + x9.1) (M2 19 x9.1)) J _ _ _ (by omega) ⟨lv_sub hl [6, 7, 1, 0] rfl, rfl, by omega, Ilk_s hI true (nlm_0 q6) (nhm_0 q6) ⟨fun _ => Or.inr (Or.inl q60), fun _ => rfl⟩⟩ hw
                    · skip
                      refine lv_iload hx hb dX9_look_212 (lv_at hl 1 rfl) ?_
                      refine lv_aload_n hx hb dX9_look_214 rfl (lv_at hl 4 rfl) ?_
                      refine wr_gr hx hb hown hK hts iX9 (ci := 8) rfl 19 (by decide) f60 rfl hw 0 (by omega) 14 rfl rfl dX9_look_215 ?_
                      refine lv_iload hx hb dX9_look_218 (lv_at hl 3 rfl) ?_
                      refine wr_ildN hx hb hK hw 14 (by omega) rfl (by decide) ((6 * b) + x9.1) rfl (by omega) dX9_look_220 ?_
                      rw [show M50 14 ((6 * b) + x9.1) = M2 14 ((6 * b) + x9.1) from ((hI.2.2.1 _).trans (if_neg (by omega)))]
                      refine lv_icmp_eq (tgt := 228) hx hb dX9_look_221 (by decide) (fun q61 => ?_) (fun q61 => ?_)
                      · skip
                        refine lv_iconst (v := nI 0) hx hb dX9_look_228 (by decide) ?_
                        refine lv_istore_n (lv' := [(2, .int (nI 0)), (7, .int (nI 0)), (6, .int (M2 19 x9.1)), (5, .int (M2 18 x9.1)), (4, .int (nI ((6 * b) + x9.1))), (0, .ref (ad 0)), (1, .int (nI b)), (3, .int (nI x9.1))]) hx hb dX9_look_229 rfl hl (by decide) rfl (fun ls hl => ?_)
                        refine lv_aload_n hx hb dX9_look_230 rfl (lv_at hl 5 rfl) ?_
                        refine wr_gr hx hb hown hK hts iX9 (ci := 8) rfl 18 (by decide) f57 rfl hw 0 (by omega) 13 rfl rfl dX9_look_231 ?_
                        refine lv_iload hx hb dX9_look_234 (lv_at hl 4 rfl) ?_
                        refine lv_iload hx hb dX9_look_236 (lv_at hl 3 rfl) ?_
                        refine wr_istN hx hb hK hw 13 (by omega) rfl (by decide) ((6 * b) + x9.1) rfl (by omega) dX9_look_238 (fun H locs hw => ?_)
                        refine lv_aload_n hx hb dX9_look_239 rfl (lv_at hl 5 rfl) ?_
                        refine wr_gr hx hb hown hK hts iX9 (ci := 8) rfl 19 (by decide) f60 rfl hw 0 (by omega) 14 rfl rfl dX9_look_240 ?_
                        refine lv_iload hx hb dX9_look_243 (lv_at hl 4 rfl) ?_
                        refine lv_iload hx hb dX9_look_245 (lv_at hl 2 rfl) ?_
                        refine wr_istN hx hb hK hw 14 (by omega) rfl (by decide) ((6 * b) + x9.1) rfl (by omega) dX9_look_247 (fun H locs hw => ?_)
                        refine lv_iinc (v := nI (x9.1 + 1)) (lv' := [(3, .int (nI (x9.1 + 1))), (2, .int (nI 0)), (7, .int (nI 0)), (6, .int (M2 19 x9.1)), (5, .int (M2 18 x9.1)), (4, .int (nI ((6 * b) + x9.1))), (0, .ref (ad 0)), (1, .int (nI b))]) hx hb dX9_look_248 hl (k := 7) rfl (nI_1 _) (by decide) rfl (fun ls hl => ?_)
                        refine lv_goto (tgt := 31) hx hb dX9_look_251 (by decide) ?_
                        exact ih51 (x9.1 + 1, false) (wU (wU M50 13 ((6 * b) + x9.1) (M2 18 x9.1)) 14 ((6 * b) + x9.1) (M2 19 x9.1)) J _ _ _ (by omega) ⟨lv_sub hl [6, 7, 1, 0] rfl, rfl, by omega, Ilk_s hI false (nlm_0 q6) (nhm_0 q6) ⟨fun z => (by cases z), fun z => z.elim (fun z => absurd z (c_if.mp q59)) (fun z => z.elim (fun z => absurd q60 z) (fun z => absurd q61 z))⟩⟩ hw
                      · skip
                        refine lv_iconst (v := nI 1) hx hb dX9_look_224 (by decide) ?_
                        refine lv_goto (tgt := 229) hx hb dX9_look_225 (by decide) ?_
                        refine lv_istore_n (lv' := [(2, .int (nI 1)), (7, .int (nI 0)), (6, .int (M2 19 x9.1)), (5, .int (M2 18 x9.1)), (4, .int (nI ((6 * b) + x9.1))), (0, .ref (ad 0)), (1, .int (nI b)), (3, .int (nI x9.1))]) hx hb dX9_look_229 rfl hl (by decide) rfl (fun ls hl => ?_)
                        refine lv_aload_n hx hb dX9_look_230 rfl (lv_at hl 5 rfl) ?_
                        refine wr_gr hx hb hown hK hts iX9 (ci := 8) rfl 18 (by decide) f57 rfl hw 0 (by omega) 13 rfl rfl dX9_look_231 ?_
                        refine lv_iload hx hb dX9_look_234 (lv_at hl 4 rfl) ?_
                        refine lv_iload hx hb dX9_look_236 (lv_at hl 3 rfl) ?_
                        refine wr_istN hx hb hK hw 13 (by omega) rfl (by decide) ((6 * b) + x9.1) rfl (by omega) dX9_look_238 (fun H locs hw => ?_)
                        refine lv_aload_n hx hb dX9_look_239 rfl (lv_at hl 5 rfl) ?_
                        refine wr_gr hx hb hown hK hts iX9 (ci := 8) rfl 19 (by decide) f60 rfl hw 0 (by omega) 14 rfl rfl dX9_look_240 ?_
                        refine lv_iload hx hb dX9_look_243 (lv_at hl 4 rfl) ?_
                        refine lv_iload hx hb dX9_look_245 (lv_at hl 2 rfl) ?_
                        refine wr_istN hx hb hK hw 14 (by omega) rfl (by decide) ((6 * b) + x9.1) rfl (by omega) dX9_look_247 (fun H locs hw => ?_)
                        refine lv_iinc (v := nI (x9.1 + 1)) (lv' := [(3, .int (nI (x9.1 + 1))), (2, .int (nI 1)), (7, .int (nI 0)), (6, .int (M2 19 x9.1)), (5, .int (M2 18 x9.1)), (4, .int (nI ((6 * b) + x9.1))), (0, .ref (ad 0)), (1, .int (nI b))]) hx hb dX9_look_248 hl (k := 7) rfl (nI_1 _) (by decide) rfl (fun ls hl => ?_)
                        refine lv_goto (tgt := 31) hx hb dX9_look_251 (by decide) ?_
                        exact ih51 (x9.1 + 1, true) (wU (wU M50 13 ((6 * b) + x9.1) (M2 18 x9.1)) 14 ((6 * b) + x9.1) (M2 19 x9.1)) J _ _ _ (by omega) ⟨lv_sub hl [6, 7, 1, 0] rfl, rfl, by omega, Ilk_s hI true (nlm_0 q6) (nhm_0 q6) ⟨fun _ => Or.inr (Or.inr q61), fun _ => rfl⟩⟩ hw
                · skip
                  exact absurd q58 (by decide)
              · skip
                exact absurd q57 (by decide)
            · skip
              exact absurd q6 q56
          · skip
            exact absurd q6 q55
        · skip
          exact absurd q6 q54
  · skip
    refine lv_iconst (v := nI 0) hx hb dX9_look_12 (by decide) ?_
    exact wr_iret hx hb hr (by decide) hK hw (qLk_1 hp hN hG q5) hlocks dX9_look_13
set_option maxHeartbeats 4000000 in
set_option maxRecDepth 100000 in
theorem k_X9_narrow (l : Launch) (D : va_G) (ad : Nat → Nat) (cs : Nat → ClassId) (sz : Nat) (M : wM) (J : wJ) (b : Nat) (M0 : wM) (E : Nat → aS) (V : Nat → Int32) (cnt : Nat) (t : Nat) (hb16 : b < 16) (hp : mOK M0 cnt t) (hN : AM M0 M E V) : wCv l yX9_narrow wsX9_narrow { frames := 8, cells := 0, slots := 0, locals := 202 } D 23 mSh ad cs [.ref (ad 0), .int (nI b)] sz M J (qNr M0 J cnt b E V) := by
  refine wC_v (cc := cX9_narrow) (maxL := 4) (ret := none) (by decide) rfl (Nat.le_of_ble_eq_true rfl) ?_
  intro p e s m below meth c ls A hx hb hr hml hown hts hlocks hK hA hw hl hAe
  clear hAe
  have hl : lv_has ls 4 [(0, .ref (ad 0)), (1, .int (nI b))] := hl
  have f53 : (Cond.fieldLink RX9 53 "RangePropagatorModel" "isThere" "[Z").before _ s = true := hts _ (by decide +kernel)
  have iX9 : ∀ w ∈ wsX90, w ∈ wsX9_narrow := by decide +kernel
  have f165 : (Cond.fieldLink RX9 165 "RangePropagatorModel" "hasJoin" "Z").before _ s = true := hts _ (by decide +kernel)
  have f57 : (Cond.fieldLink RX9 57 "RangePropagatorModel" "lows" "[I").before _ s = true := hts _ (by decide +kernel)
  have f72 : (Cond.fieldLink RX9 72 "RangePropagatorModel" "joinLow" "[I").before _ s = true := hts _ (by decide +kernel)
  have m150 : (Cond.methodLink RX9 150 Lib.Math.max.name).before _ s = true := hts _ (by decide +kernel)
  have t150 : (Cond.static Lib.Math.max.name).before _ s = true := hts _ (by decide +kernel)
  have iMath : (Cond.initialized "java/lang/Math").before _ s = true := hts _ (by decide +kernel)
  have c150 : (Cond.code Lib.Math.max.name Lib.Math.max.code 2 (some .int)).before _ s = true := hts _ (by decide +kernel)
  have f60 : (Cond.fieldLink RX9 60 "RangePropagatorModel" "highs" "[I").before _ s = true := hts _ (by decide +kernel)
  have f75 : (Cond.fieldLink RX9 75 "RangePropagatorModel" "joinHigh" "[I").before _ s = true := hts _ (by decide +kernel)
  have m147 : (Cond.methodLink RX9 147 Lib.Math.min.name).before _ s = true := hts _ (by decide +kernel)
  have t147 : (Cond.static Lib.Math.min.name).before _ s = true := hts _ (by decide +kernel)
  have c147 : (Cond.code Lib.Math.min.name Lib.Math.min.code 2 (some .int)).before _ s = true := hts _ (by decide +kernel)
  refine lv_aload_n hx hb dX9_narrow_0 rfl (lv_at hl 0 rfl) ?_
  refine wr_gr hx hb hown hK hts iX9 (ci := 8) rfl 17 (by decide) f53 rfl hw 0 (by omega) 12 rfl rfl dX9_narrow_1 ?_
  refine lv_iload_n hx hb dX9_narrow_4 rfl (lv_at hl 1 rfl) ?_
  refine wr_zldN hx hb hK hw 12 (by omega) rfl (by decide) b rfl (by omega) dX9_narrow_5 ?_
  refine lv_if_ne (tgt := 10) hx hb dX9_narrow_6 (by decide) (fun q1 => ?_) (fun q1 => ?_)
  · skip
    refine lv_aload_n hx hb dX9_narrow_10 rfl (lv_at hl 0 rfl) ?_
    refine lv_iload_n hx hb dX9_narrow_11 rfl (lv_at hl 1 rfl) ?_
    refine wr_cVv (k := 0) (ci := 8) (As := [.int (nI b)]) (rest := []) ⟨hx, hb, hml, hown, hts⟩ (cwV 1 hts gX9_narrow_X9_gather rfl rfl rfl (by decide +kernel) ⟨Nat.le_of_ble_eq_true rfl, Nat.le_of_ble_eq_true rfl⟩) hK hA hw (k_X9_gather l D ad cs s.heap.size M J b cnt hb16 (mOK_AM hp hN).1 hp.2.1 (mOK_AM hp hN).2.2.2.2.1 (mOK_AM hp hN).2.2.2.2.2.1 (mOK_AM hp hN).2.2.2.2.2.2.1 (mOK_AM hp hN).2.2.2.2.2.2.2.1 (mOK_AM hp hN).2.2.2.2.2.2.2.2) (by omega) rfl rfl rfl rfl hl.1 (Nat.le_of_ble_eq_true rfl) ⟨Nat.le_of_ble_eq_true rfl, Nat.le_of_ble_eq_true rfl⟩ dX9_narrow_12 (fun M3 J4 H locs h5 hw => ?_)
    have h5J : J4 = J := h5.1
    rw [h5J] at hw
    have hG := h5.2
    obtain ⟨hgA, hgj⟩ := AM_g (t := t) hp hN hG
    refine lv_aload_n hx hb dX9_narrow_15 rfl (lv_at hl 0 rfl) ?_
    refine wr_gr hx hb hown hK hts iX9 (ci := 8) rfl 17 (by decide) f53 rfl hw 0 (by omega) 12 rfl rfl dX9_narrow_16 ?_
    refine lv_iload_n hx hb dX9_narrow_19 rfl (lv_at hl 1 rfl) ?_
    refine lv_aload_n hx hb dX9_narrow_20 rfl (lv_at hl 0 rfl) ?_
    refine wr_gi hx hb hown hK hts iX9 (ci := 8) rfl 23 (by decide) f165 rfl hw 0 (by omega) rfl rfl dX9_narrow_21 ?_
    refine wr_zstN hx hb hK hw 12 (by omega) rfl (by decide) b rfl (by omega) hG.2.1 dX9_narrow_24 (fun H locs hw => ?_)
    refine lv_iconst (v := nI 0) hx hb dX9_narrow_25 (by decide) ?_
    refine lv_istore_n (lv' := [(2, .int (nI 0)), (0, .ref (ad 0)), (1, .int (nI b))]) hx hb dX9_narrow_26 rfl hl (by decide) rfl (fun ls hl => ?_)
    refine w_loop (σ := Nat) (fun k M' J' ls => lv_has ls 4 [(0, .ref (ad 0)), (1, .int (nI b)), (2, .int (nI k))] ∧ J' = J ∧ k ≤ 6 ∧ Inr (wU M3 12 b (M3 0 23)) b k M' ∧ (M3 0 23 = 0 → k = 0)) (fun k => 6 - k) (fun k M6 J1_ H locs ls hI hw ih7 => ?_) 0 ⟨lv_sub hl [1, 2, 0] rfl, rfl, by omega, ⟨Inr_0, fun _ => rfl⟩⟩ hw
    obtain ⟨hl, eJ_, hk_, hI⟩ := hI
    rw [eJ_] at hw
    clear eJ_
    refine lv_iload_n hx hb dX9_narrow_27 rfl (lv_at hl 2 rfl) ?_
    refine lv_bipush (v := nI 6) hx hb dX9_narrow_28 (by decide) ?_
    refine lv_icmp_ge (tgt := 95) hx hb dX9_narrow_30 (by decide) (fun q8 => ?_) (fun q8 => ?_)
    · have q8n : 6 ≤ k := (nI_leI (by omega) (by omega)).mp q8
      exact wr_vret hx hb hr hK hw (by have e9 : k = 6 := (by omega); subst e9; exact qNr_2 hb16 hp hN q1 hG (fun z => absurd (hI.2 z) (by decide)) hI.1) hlocks dX9_narrow_95
    · have q8n : ¬ 6 ≤ k := fun z => q8 ((nI_leI (by omega) (by omega)).mpr z)
      refine lv_aload_n hx hb dX9_narrow_33 rfl (lv_at hl 0 rfl) ?_
      refine wr_gi hx hb hown hK hts iX9 (ci := 8) rfl 23 (by decide) f165 rfl hw 0 (by omega) rfl rfl dX9_narrow_34 ?_
      rw [show M6 0 23 = M3 0 23 from ((congrFun (hI.1.1 0 (by decide)) 23).trans (congrFun (wU_ne (by decide)) 23))]
      refine lv_if_eq (tgt := 95) hx hb dX9_narrow_37 (by decide) (fun q9 => ?_) (fun q9 => ?_)
      · skip
        exact wr_vret hx hb hr hK hw (by have e9 : k = 0 := hI.2 q9; subst e9; exact qNr_1 hb16 hp hN q1 hG q9 hI.1) hlocks dX9_narrow_95
      · skip
        refine lv_bipush (v := nI 6) hx hb dX9_narrow_40 (by decide) ?_
        refine lv_iload_n hx hb dX9_narrow_42 rfl (lv_at hl 1 rfl) ?_
        refine lv_imulN hx hb dX9_narrow_43 ?_
        refine lv_iload_n hx hb dX9_narrow_44 rfl (lv_at hl 2 rfl) ?_
        refine lv_iaddN hx hb dX9_narrow_45 ?_
        refine lv_istore_n (lv' := [(3, .int (nI ((6 * b) + k))), (0, .ref (ad 0)), (1, .int (nI b)), (2, .int (nI k))]) hx hb dX9_narrow_46 rfl hl (by decide) rfl (fun ls hl => ?_)
        refine lv_aload_n hx hb dX9_narrow_47 rfl (lv_at hl 1 rfl) ?_
        refine wr_gr hx hb hown hK hts iX9 (ci := 8) rfl 18 (by decide) f57 rfl hw 0 (by omega) 13 rfl rfl dX9_narrow_48 ?_
        refine lv_iload_n hx hb dX9_narrow_51 rfl (lv_at hl 0 rfl) ?_
        refine lv_aload_n hx hb dX9_narrow_52 rfl (lv_at hl 1 rfl) ?_
        refine wr_gr hx hb hown hK hts iX9 (ci := 8) rfl 18 (by decide) f57 rfl hw 0 (by omega) 13 rfl rfl dX9_narrow_53 ?_
        refine lv_iload_n hx hb dX9_narrow_56 rfl (lv_at hl 0 rfl) ?_
        refine wr_ildN hx hb hK hw 13 (by omega) rfl (by decide) ((6 * b) + k) rfl (by omega) dX9_narrow_57 ?_
        rw [show M6 13 ((6 * b) + k) = M3 13 ((6 * b) + k) from ((hI.1.2.1 _).trans ((if_neg (by omega)).trans (congrFun (wU_ne (by decide)) _)))]
        refine lv_aload_n hx hb dX9_narrow_58 rfl (lv_at hl 1 rfl) ?_
        refine wr_gr hx hb hown hK hts iX9 (ci := 8) rfl 24 (by decide) f72 rfl hw 0 (by omega) 18 rfl rfl dX9_narrow_59 ?_
        refine lv_iload_n hx hb dX9_narrow_62 rfl (lv_at hl 3 rfl) ?_
        refine wr_ildN hx hb hK hw 18 (by omega) rfl (by decide) k rfl (by omega) dX9_narrow_63 ?_
        rw [show M6 18 k = M3 18 k from ((congrFun (hI.1.1 18 (by decide)) k).trans (congrFun (wU_ne (by decide)) k))]
        refine va_mmax hx hb (hml.trans hl.1.symm) hown m150 t150 iMath c150 (Nat.le_of_ble_eq_true rfl) (Nat.le_of_ble_eq_true rfl) (Nat.le_of_ble_eq_true rfl) (Nat.le_of_ble_eq_true rfl) dX9_narrow_64 ?_
        refine W.eq (g2 := F0 m 67 ls [.int ((i_mx (M3 13 ((6 * b) + k)) (M3 18 k))), .int (nI ((6 * b) + k)), .ref (ad 13)]) rfl ?_
        refine wr_istN hx hb hK hw 13 (by omega) rfl (by decide) ((6 * b) + k) rfl (by omega) dX9_narrow_67 (fun H locs hw => ?_)
        refine lv_aload_n hx hb dX9_narrow_68 rfl (lv_at hl 1 rfl) ?_
        refine wr_gr hx hb hown hK hts iX9 (ci := 8) rfl 19 (by decide) f60 rfl hw 0 (by omega) 14 rfl rfl dX9_narrow_69 ?_
        refine lv_iload_n hx hb dX9_narrow_72 rfl (lv_at hl 0 rfl) ?_
        refine lv_aload_n hx hb dX9_narrow_73 rfl (lv_at hl 1 rfl) ?_
        refine wr_gr hx hb hown hK hts iX9 (ci := 8) rfl 19 (by decide) f60 rfl hw 0 (by omega) 14 rfl rfl dX9_narrow_74 ?_
        refine lv_iload_n hx hb dX9_narrow_77 rfl (lv_at hl 0 rfl) ?_
        refine wr_ildN hx hb hK hw 14 (by omega) rfl (by decide) ((6 * b) + k) rfl (by omega) dX9_narrow_78 ?_
        rw [show (wU M6 13 ((6 * b) + k) ((i_mx (M3 13 ((6 * b) + k)) (M3 18 k)))) 14 ((6 * b) + k) = M3 14 ((6 * b) + k) from ((congrFun (wU_ne (by decide)) _).trans ((hI.1.2.2 _).trans ((if_neg (by omega)).trans (congrFun (wU_ne (by decide)) _))))]
        refine lv_aload_n hx hb dX9_narrow_79 rfl (lv_at hl 1 rfl) ?_
        refine wr_gr hx hb hown hK hts iX9 (ci := 8) rfl 25 (by decide) f75 rfl hw 0 (by omega) 19 rfl rfl dX9_narrow_80 ?_
        refine lv_iload_n hx hb dX9_narrow_83 rfl (lv_at hl 3 rfl) ?_
        refine wr_ildN hx hb hK hw 19 (by omega) rfl (by decide) k rfl (by omega) dX9_narrow_84 ?_
        rw [show (wU M6 13 ((6 * b) + k) ((i_mx (M3 13 ((6 * b) + k)) (M3 18 k)))) 19 k = M3 19 k from ((congrFun (wU_ne (by decide)) k).trans ((congrFun (hI.1.1 19 (by decide)) k).trans (congrFun (wU_ne (by decide)) k)))]
        refine va_mmin hx hb (hml.trans hl.1.symm) hown m147 t147 iMath c147 (Nat.le_of_ble_eq_true rfl) (Nat.le_of_ble_eq_true rfl) (Nat.le_of_ble_eq_true rfl) (Nat.le_of_ble_eq_true rfl) dX9_narrow_85 ?_
        refine W.eq (g2 := F0 m 88 ls [.int ((i_mn (M3 14 ((6 * b) + k)) (M3 19 k))), .int (nI ((6 * b) + k)), .ref (ad 14)]) rfl ?_
        refine wr_istN hx hb hK hw 14 (by omega) rfl (by decide) ((6 * b) + k) rfl (by omega) dX9_narrow_88 (fun H locs hw => ?_)
        refine lv_iinc (v := nI (k + 1)) (lv' := [(2, .int (nI (k + 1))), (3, .int (nI ((6 * b) + k))), (0, .ref (ad 0)), (1, .int (nI b))]) hx hb dX9_narrow_89 hl (k := 3) rfl (nI_1 _) (by decide) rfl (fun ls hl => ?_)
        refine lv_goto (tgt := 27) hx hb dX9_narrow_92 (by decide) ?_
        exact ih7 (k + 1) (wU (wU M6 13 ((6 * b) + k) ((i_mx (M3 13 ((6 * b) + k)) (M3 18 k)))) 14 ((6 * b) + k) ((i_mn (M3 14 ((6 * b) + k)) (M3 19 k)))) J _ _ _ (by omega) ⟨lv_sub hl [2, 3, 0] rfl, rfl, by omega, ⟨Inr_s hI.1 (by rw [wU_ne (by decide), wU_ne (by decide)]) (by rw [wU_ne (by decide), wU_ne (by decide)]), fun z => absurd z q9⟩⟩ hw
  · skip
    exact wr_vret hx hb hr hK hw (qNr_0 hb16 hN q1) hlocks dX9_narrow_9
