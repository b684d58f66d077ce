/-! the reference, 10: executions, digest: laid by wip/gen/specs24.py -/
set_option maxHeartbeats 4000000 in
set_option maxRecDepth 100000 in
theorem k_X9_draw (l : Launch) (D : va_G) (ad : Nat → Nat) (cs : Nat → ClassId) (sz : Nat) (M : wM) (J : wJ) (lo : Int32) (up : Int32) (hsz : ¬ szz lo up = 0) : wCi l yX9_draw wsX9_draw { frames := 0, cells := 0, slots := 0, locals := 0 } D 23 mSh ad cs [.ref (ad 0), .int lo, .int up] sz M J (fun r_ u_ => u_ = (M, va_up J 0 (rnx (J 0))) ∧ r_ = drw (J 0) lo up) := by
  refine wC_i (cc := cX9_draw) (maxL := 7) (ret := (some .int)) (by decide) rfl (Nat.le_of_ble_eq_true rfl) ?_
  intro p e s m below meth c ls A hx hb hr hml hown hts hlocks hK hA hw hl hAe
  clear hAe
  have hl : lv_has ls 7 [(0, .ref (ad 0)), (1, .int lo), (2, .int up)] := hl
  have f192 : (Cond.fieldLink RX9 192 "RangePropagatorModel" "\x72" "J").before _ s = true := hts _ (by decide +kernel)
  have iX9 : ∀ w ∈ wsX90, w ∈ wsX9_draw := by decide +kernel
  have k196 : (Cond.constantLong RX9 196 (6364136223846793005)).before _ s = true := hts _ (by decide +kernel)
  have k198 : (Cond.constantLong RX9 198 (1442695040888963407)).before _ s = true := hts _ (by decide +kernel)
  refine lv_iload_n hx hb dX9_draw_0 rfl (lv_at hl 2 rfl) ?_
  refine lv_i2l hx hb dX9_draw_1 rfl ?_
  refine lv_iload_n hx hb dX9_draw_2 rfl (lv_at hl 1 rfl) ?_
  refine lv_i2l hx hb dX9_draw_3 rfl ?_
  refine lv_lsub hx hb dX9_draw_4 ?_
  refine lv_lconst (v := 1) hx hb dX9_draw_5 rfl ?_
  refine lv_ladd hx hb dX9_draw_6 ?_
  refine lv_lstore_n (lv' := [(3, .long ((((up.toInt64 - lo.toInt64)) + ((1 : Int64))))), (0, .ref (ad 0)), (1, .int lo), (2, .int up)]) hx hb dX9_draw_7 rfl hl (by decide) rfl (fun ls hl => ?_)
  refine lv_aload_n hx hb dX9_draw_8 rfl (lv_at hl 1 rfl) ?_
  refine wr_gl hx hb hown hK hts iX9 (ci := 8) rfl 30 (by decide) f192 rfl hw 0 (by omega) rfl rfl dX9_draw_9 ?_
  refine lv_lload_n hx hb dX9_draw_12 rfl (lv_at hl 0 rfl) ?_
  refine lv_lrem hx hb dX9_draw_13 hsz ?_
  refine lv_lstore (lv' := [(5, .long (((J 0) - (J 0) / ((((up.toInt64 - lo.toInt64)) + ((1 : Int64)))) * ((((up.toInt64 - lo.toInt64)) + ((1 : Int64))))))), (3, .long ((((up.toInt64 - lo.toInt64)) + ((1 : Int64))))), (0, .ref (ad 0)), (1, .int lo), (2, .int up)]) hx hb dX9_draw_14 hl (by decide) rfl (fun ls hl => ?_)
  refine lv_lload hx hb dX9_draw_16 (lv_at hl 0 rfl) ?_
  refine lv_lconst (v := 0) hx hb dX9_draw_18 rfl ?_
  refine W.lcmp hx hb dX9_draw_19 ?_
  refine lv_if_ge (tgt := 29) hx hb dX9_draw_20 (by decide) (fun q1 => ?_) (fun q1 => ?_)
  · skip
    refine lv_aload_n hx hb dX9_draw_29 rfl (lv_at hl 2 rfl) ?_
    refine lv_aload_n hx hb dX9_draw_30 rfl (lv_at hl 2 rfl) ?_
    refine wr_gl hx hb hown hK hts iX9 (ci := 8) rfl 30 (by decide) f192 rfl hw 0 (by omega) rfl rfl dX9_draw_31 ?_
    refine lv_ldc2 hx hb hown k196 dX9_draw_34 ?_
    refine lv_lmul hx hb dX9_draw_37 ?_
    refine lv_ldc2 hx hb hown k198 dX9_draw_38 ?_
    refine lv_ladd hx hb dX9_draw_41 ?_
    refine wr_pl hx hb hown hK hts iX9 tyX9_ok nmX9 (ci := 8) rfl 30 (by decide) f192 rfl rfl hw 0 (by omega) rfl rfl lone31 rfl rfl dX9_draw_42 (fun H locs hw => ?_)
    refine lv_iload_n hx hb dX9_draw_45 rfl (lv_at hl 3 rfl) ?_
    refine lv_i2l hx hb dX9_draw_46 rfl ?_
    refine lv_lload hx hb dX9_draw_47 (lv_at hl 0 rfl) ?_
    refine lv_ladd hx hb dX9_draw_49 ?_
    refine lv_l2i hx hb dX9_draw_50 rfl ?_
    exact wr_iret hx hb hr rfl hK hw ⟨rfl, (by unfold drw rmd; rw [if_pos (show 0 ≤ lg_cmp (J 0 - J 0 / szz lo up * szz lo up) 0 from q1)]; rfl)⟩ hlocks dX9_draw_51
  · skip
    refine lv_lload hx hb dX9_draw_23 (lv_at hl 0 rfl) ?_
    refine lv_lload_n hx hb dX9_draw_25 rfl (lv_at hl 1 rfl) ?_
    refine lv_ladd hx hb dX9_draw_26 ?_
    refine lv_lstore (lv' := [(5, .long (((((J 0) - (J 0) / ((((up.toInt64 - lo.toInt64)) + ((1 : Int64)))) * ((((up.toInt64 - lo.toInt64)) + ((1 : Int64)))))) + ((((up.toInt64 - lo.toInt64)) + ((1 : Int64))))))), (3, .long ((((up.toInt64 - lo.toInt64)) + ((1 : Int64))))), (0, .ref (ad 0)), (1, .int lo), (2, .int up)]) hx hb dX9_draw_27 hl (by decide) rfl (fun ls hl => ?_)
    refine lv_aload_n hx hb dX9_draw_29 rfl (lv_at hl 2 rfl) ?_
    refine lv_aload_n hx hb dX9_draw_30 rfl (lv_at hl 2 rfl) ?_
    refine wr_gl hx hb hown hK hts iX9 (ci := 8) rfl 30 (by decide) f192 rfl hw 0 (by omega) rfl rfl dX9_draw_31 ?_
    refine lv_ldc2 hx hb hown k196 dX9_draw_34 ?_
    refine lv_lmul hx hb dX9_draw_37 ?_
    refine lv_ldc2 hx hb hown k198 dX9_draw_38 ?_
    refine lv_ladd hx hb dX9_draw_41 ?_
    refine wr_pl hx hb hown hK hts iX9 tyX9_ok nmX9 (ci := 8) rfl 30 (by decide) f192 rfl rfl hw 0 (by omega) rfl rfl lone31 rfl rfl dX9_draw_42 (fun H locs hw => ?_)
    refine lv_iload_n hx hb dX9_draw_45 rfl (lv_at hl 3 rfl) ?_
    refine lv_i2l hx hb dX9_draw_46 rfl ?_
    refine lv_lload hx hb dX9_draw_47 (lv_at hl 0 rfl) ?_
    refine lv_ladd hx hb dX9_draw_49 ?_
    refine lv_l2i hx hb dX9_draw_50 rfl ?_
    exact wr_iret hx hb hr rfl hK hw ⟨rfl, (by unfold drw rmd; rw [if_neg (show ¬ 0 ≤ lg_cmp (J 0 - J 0 / szz lo up * szz lo up) 0 from q1)]; rfl)⟩ hlocks dX9_draw_51
set_option maxHeartbeats 4000000 in
set_option maxRecDepth 100000 in
theorem k_X9_valueOf (l : Launch) (D : va_G) (ad : Nat → Nat) (cs : Nat → ClassId) (sz : Nat) (M : wM) (J : wJ) (aa : Nat) (haa : aa + 3 < 512) (hyz : ∀ k, k ≤ 5 → M 2 aa = nI k → isV (M 2 (aa + 2)) ∧ isV (M 2 (aa + 3))) (hdr : (∀ k, k ≤ 6 → ¬ M 2 aa = nI k) → ¬ szz (M 2 (aa + 2)) (M 2 (aa + 3)) = 0) : wCi l yX9_valueOf wsX9_valueOf { frames := 2, cells := 0, slots := 0, locals := 52 } D 23 mSh ad cs [.ref (ad 0), .int (nI aa)] sz M J (qVo M J aa) := by
  refine wC_i (cc := cX9_valueOf) (maxL := 4) (ret := (some .int)) (by decide) rfl (Nat.le_of_ble_eq_true rfl) ?_
  intro p e s m below meth c ls A hx hb hr hml hown hts hlocks hK hA hw hl hAe
  clear hAe
  have hl : lv_has ls 4 [(0, .ref (ad 0)), (1, .int (nI aa))] := hl
  have f17 : (Cond.fieldLink RX9 17 "RangePropagatorModel" "statements" "[I").before _ s = true := hts _ (by decide +kernel)
  have iX9 : ∀ w ∈ wsX90, w ∈ wsX9_valueOf := by decide +kernel
  have f84 : (Cond.fieldLink RX9 84 "RangePropagatorModel" "results" "[I").before _ s = true := hts _ (by decide +kernel)
  have m147 : (Cond.methodLink RX9 147 Lib.Math.min.name).before _ s = true := hts _ (by decide +kernel)
  have t147 : (Cond.static Lib.Math.min.name).before _ s = true := hts _ (by decide +kernel)
  have iMath : (Cond.initialized "java/lang/Math").before _ s = true := hts _ (by decide +kernel)
  have c147 : (Cond.code Lib.Math.min.name Lib.Math.min.code 2 (some .int)).before _ s = true := hts _ (by decide +kernel)
  have m150 : (Cond.methodLink RX9 150 Lib.Math.max.name).before _ s = true := hts _ (by decide +kernel)
  have t150 : (Cond.static Lib.Math.max.name).before _ s = true := hts _ (by decide +kernel)
  have c150 : (Cond.code Lib.Math.max.name Lib.Math.max.code 2 (some .int)).before _ s = true := hts _ (by decide +kernel)
  refine lv_aload_n hx hb dX9_valueOf_0 rfl (lv_at hl 0 rfl) ?_
  refine wr_gr hx hb hown hK hts iX9 (ci := 8) rfl 3 (by decide) f17 rfl hw 0 (by omega) 2 rfl rfl dX9_valueOf_1 ?_
  refine lv_iload_n hx hb dX9_valueOf_4 rfl (lv_at hl 1 rfl) ?_
  refine lv_iconst (v := nI 2) hx hb dX9_valueOf_5 (by decide) ?_
  refine lv_iaddN hx hb dX9_valueOf_6 ?_
  refine wr_ildN hx hb hK hw 2 (by omega) rfl (by decide) (aa + 2) rfl (by omega) dX9_valueOf_7 ?_
  refine lv_istore_n (lv' := [(2, .int (M 2 (aa + 2))), (0, .ref (ad 0)), (1, .int (nI aa))]) hx hb dX9_valueOf_8 rfl hl (by decide) rfl (fun ls hl => ?_)
  refine lv_aload_n hx hb dX9_valueOf_9 rfl (lv_at hl 1 rfl) ?_
  refine wr_gr hx hb hown hK hts iX9 (ci := 8) rfl 3 (by decide) f17 rfl hw 0 (by omega) 2 rfl rfl dX9_valueOf_10 ?_
  refine lv_iload_n hx hb dX9_valueOf_13 rfl (lv_at hl 2 rfl) ?_
  refine lv_iconst (v := nI 3) hx hb dX9_valueOf_14 (by decide) ?_
  refine lv_iaddN hx hb dX9_valueOf_15 ?_
  refine wr_ildN hx hb hK hw 2 (by omega) rfl (by decide) (aa + 3) rfl (by omega) dX9_valueOf_16 ?_
  refine lv_istore_n (lv' := [(3, .int (M 2 (aa + 3))), (2, .int (M 2 (aa + 2))), (0, .ref (ad 0)), (1, .int (nI aa))]) hx hb dX9_valueOf_17 rfl hl (by decide) rfl (fun ls hl => ?_)
  refine lv_aload_n hx hb dX9_valueOf_18 rfl (lv_at hl 2 rfl) ?_
  refine wr_gr hx hb hown hK hts iX9 (ci := 8) rfl 3 (by decide) f17 rfl hw 0 (by omega) 2 rfl rfl dX9_valueOf_19 ?_
  refine lv_iload_n hx hb dX9_valueOf_22 rfl (lv_at hl 3 rfl) ?_
  refine wr_ildN hx hb hK hw 2 (by omega) rfl (by decide) aa rfl (by omega) dX9_valueOf_23 ?_
  by_cases q1 : M 2 aa = nI 0
  · refine lv_tableIn (off := 44) (tgt := 68) hx hb dX9_valueOf_24 (by rw [q1]; decide) (by rw [q1]; decide) (by rw [q1]; decide) (by decide) ?_
    refine lv_aload_n hx hb dX9_valueOf_68 rfl (lv_at hl 2 rfl) ?_
    refine wr_gr hx hb hown hK hts iX9 (ci := 8) rfl 29 (by decide) f84 rfl hw 0 (by omega) 22 rfl rfl dX9_valueOf_69 ?_
    refine lv_iload_n hx hb dX9_valueOf_72 rfl (lv_at hl 1 rfl) ?_
    refine wr_ildN hx hb hK hw 22 (by omega) rfl (by decide) (tn (M 2 (aa + 2))) (hyz 0 (by decide) q1).1.1 (hyz 0 (by decide) q1).1.2 dX9_valueOf_73 ?_
    exact wr_iret hx hb hr rfl hK hw (qVo_of (if_pos q1)) hlocks dX9_valueOf_74
  by_cases q2 : M 2 aa = nI 1
  · refine lv_tableIn (off := 51) (tgt := 75) hx hb dX9_valueOf_24 (by rw [q2]; decide) (by rw [q2]; decide) (by rw [q2]; decide) (by decide) ?_
    refine lv_aload_n hx hb dX9_valueOf_75 rfl (lv_at hl 2 rfl) ?_
    refine wr_gr hx hb hown hK hts iX9 (ci := 8) rfl 29 (by decide) f84 rfl hw 0 (by omega) 22 rfl rfl dX9_valueOf_76 ?_
    refine lv_iload_n hx hb dX9_valueOf_79 rfl (lv_at hl 1 rfl) ?_
    refine wr_ildN hx hb hK hw 22 (by omega) rfl (by decide) (tn (M 2 (aa + 2))) (hyz 1 (by decide) q2).1.1 (hyz 1 (by decide) q2).1.2 dX9_valueOf_80 ?_
    refine lv_i2l hx hb dX9_valueOf_81 rfl ?_
    refine lv_aload_n hx hb dX9_valueOf_82 rfl (lv_at hl 2 rfl) ?_
    refine wr_gr hx hb hown hK hts iX9 (ci := 8) rfl 29 (by decide) f84 rfl hw 0 (by omega) 22 rfl rfl dX9_valueOf_83 ?_
    refine lv_iload_n hx hb dX9_valueOf_86 rfl (lv_at hl 0 rfl) ?_
    refine wr_ildN hx hb hK hw 22 (by omega) rfl (by decide) (tn (M 2 (aa + 3))) (hyz 1 (by decide) q2).2.1 (hyz 1 (by decide) q2).2.2 dX9_valueOf_87 ?_
    refine lv_i2l hx hb dX9_valueOf_88 rfl ?_
    refine lv_ladd hx hb dX9_valueOf_89 ?_
    refine wr_cSi (As := [.long ((((M 22 (tn (M 2 (aa + 2)))).toInt64) + ((M 22 (tn (M 2 (aa + 3)))).toInt64)))]) (rest := []) ⟨hx, hb, hml, hown, hts⟩ (va_cwS 1 hts gX9_valueOf_X9_limited rfl rfl rfl (by decide +kernel) ⟨Nat.le_of_ble_eq_true rfl, Nat.le_of_ble_eq_true rfl⟩) hK hA hw (k_X9_limited l D ad cs s.heap.size M J ((((M 22 (tn (M 2 (aa + 2)))).toInt64) + ((M 22 (tn (M 2 (aa + 3)))).toInt64))) ) rfl rfl hl.1 (Nat.le_of_ble_eq_true rfl) ⟨Nat.le_of_ble_eq_true rfl, Nat.le_of_ble_eq_true rfl⟩ dX9_valueOf_90 (fun r3 M4 J5 H locs h6 hw => ?_)
    obtain ⟨h6, rfl⟩ := h6
    cases h6
    exact wr_iret hx hb hr rfl hK hw (qVo_of ((if_neg q1).trans (if_pos q2))) hlocks dX9_valueOf_93
  by_cases q7 : M 2 aa = nI 2
  · refine lv_tableIn (off := 70) (tgt := 94) hx hb dX9_valueOf_24 (by rw [q7]; decide) (by rw [q7]; decide) (by rw [q7]; decide) (by decide) ?_
    refine lv_aload_n hx hb dX9_valueOf_94 rfl (lv_at hl 2 rfl) ?_
    refine wr_gr hx hb hown hK hts iX9 (ci := 8) rfl 29 (by decide) f84 rfl hw 0 (by omega) 22 rfl rfl dX9_valueOf_95 ?_
    refine lv_iload_n hx hb dX9_valueOf_98 rfl (lv_at hl 1 rfl) ?_
    refine wr_ildN hx hb hK hw 22 (by omega) rfl (by decide) (tn (M 2 (aa + 2))) (hyz 2 (by decide) q7).1.1 (hyz 2 (by decide) q7).1.2 dX9_valueOf_99 ?_
    refine lv_i2l hx hb dX9_valueOf_100 rfl ?_
    refine lv_aload_n hx hb dX9_valueOf_101 rfl (lv_at hl 2 rfl) ?_
    refine wr_gr hx hb hown hK hts iX9 (ci := 8) rfl 29 (by decide) f84 rfl hw 0 (by omega) 22 rfl rfl dX9_valueOf_102 ?_
    refine lv_iload_n hx hb dX9_valueOf_105 rfl (lv_at hl 0 rfl) ?_
    refine wr_ildN hx hb hK hw 22 (by omega) rfl (by decide) (tn (M 2 (aa + 3))) (hyz 2 (by decide) q7).2.1 (hyz 2 (by decide) q7).2.2 dX9_valueOf_106 ?_
    refine lv_i2l hx hb dX9_valueOf_107 rfl ?_
    refine lv_lsub hx hb dX9_valueOf_108 ?_
    refine wr_cSi (As := [.long ((((M 22 (tn (M 2 (aa + 2)))).toInt64) - ((M 22 (tn (M 2 (aa + 3)))).toInt64)))]) (rest := []) ⟨hx, hb, hml, hown, hts⟩ (va_cwS 1 hts gX9_valueOf_X9_limited rfl rfl rfl (by decide +kernel) ⟨Nat.le_of_ble_eq_true rfl, Nat.le_of_ble_eq_true rfl⟩) hK hA hw (k_X9_limited l D ad cs s.heap.size M J ((((M 22 (tn (M 2 (aa + 2)))).toInt64) - ((M 22 (tn (M 2 (aa + 3)))).toInt64))) ) rfl rfl hl.1 (Nat.le_of_ble_eq_true rfl) ⟨Nat.le_of_ble_eq_true rfl, Nat.le_of_ble_eq_true rfl⟩ dX9_valueOf_109 (fun r8 M9 J10 H locs h11 hw => ?_)
    obtain ⟨h11, rfl⟩ := h11
    cases h11
    exact wr_iret hx hb hr rfl hK hw (qVo_of ((if_neg q1).trans ((if_neg q2).trans (if_pos q7)))) hlocks dX9_valueOf_112
  by_cases q12 : M 2 aa = nI 3
  · refine lv_tableIn (off := 89) (tgt := 113) hx hb dX9_valueOf_24 (by rw [q12]; decide) (by rw [q12]; decide) (by rw [q12]; decide) (by decide) ?_
    refine lv_aload_n hx hb dX9_valueOf_113 rfl (lv_at hl 2 rfl) ?_
    refine wr_gr hx hb hown hK hts iX9 (ci := 8) rfl 29 (by decide) f84 rfl hw 0 (by omega) 22 rfl rfl dX9_valueOf_114 ?_
    refine lv_iload_n hx hb dX9_valueOf_117 rfl (lv_at hl 1 rfl) ?_
    refine wr_ildN hx hb hK hw 22 (by omega) rfl (by decide) (tn (M 2 (aa + 2))) (hyz 3 (by decide) q12).1.1 (hyz 3 (by decide) q12).1.2 dX9_valueOf_118 ?_
    refine lv_i2l hx hb dX9_valueOf_119 rfl ?_
    refine lv_aload_n hx hb dX9_valueOf_120 rfl (lv_at hl 2 rfl) ?_
    refine wr_gr hx hb hown hK hts iX9 (ci := 8) rfl 29 (by decide) f84 rfl hw 0 (by omega) 22 rfl rfl dX9_valueOf_121 ?_
    refine lv_iload_n hx hb dX9_valueOf_124 rfl (lv_at hl 0 rfl) ?_
    refine wr_ildN hx hb hK hw 22 (by omega) rfl (by decide) (tn (M 2 (aa + 3))) (hyz 3 (by decide) q12).2.1 (hyz 3 (by decide) q12).2.2 dX9_valueOf_125 ?_
    refine lv_i2l hx hb dX9_valueOf_126 rfl ?_
    refine lv_lmul hx hb dX9_valueOf_127 ?_
    refine wr_cSi (As := [.long ((((M 22 (tn (M 2 (aa + 2)))).toInt64) * ((M 22 (tn (M 2 (aa + 3)))).toInt64)))]) (rest := []) ⟨hx, hb, hml, hown, hts⟩ (va_cwS 1 hts gX9_valueOf_X9_limited rfl rfl rfl (by decide +kernel) ⟨Nat.le_of_ble_eq_true rfl, Nat.le_of_ble_eq_true rfl⟩) hK hA hw (k_X9_limited l D ad cs s.heap.size M J ((((M 22 (tn (M 2 (aa + 2)))).toInt64) * ((M 22 (tn (M 2 (aa + 3)))).toInt64))) ) rfl rfl hl.1 (Nat.le_of_ble_eq_true rfl) ⟨Nat.le_of_ble_eq_true rfl, Nat.le_of_ble_eq_true rfl⟩ dX9_valueOf_128 (fun r13 M14 J15 H locs h16 hw => ?_)
    obtain ⟨h16, rfl⟩ := h16
    cases h16
    exact wr_iret hx hb hr rfl hK hw (qVo_of ((if_neg q1).trans ((if_neg q2).trans ((if_neg q7).trans (if_pos q12))))) hlocks dX9_valueOf_131
  by_cases q17 : M 2 aa = nI 4
  · refine lv_tableIn (off := 108) (tgt := 132) hx hb dX9_valueOf_24 (by rw [q17]; decide) (by rw [q17]; decide) (by rw [q17]; decide) (by decide) ?_
    refine lv_aload_n hx hb dX9_valueOf_132 rfl (lv_at hl 2 rfl) ?_
    refine wr_gr hx hb hown hK hts iX9 (ci := 8) rfl 29 (by decide) f84 rfl hw 0 (by omega) 22 rfl rfl dX9_valueOf_133 ?_
    refine lv_iload_n hx hb dX9_valueOf_136 rfl (lv_at hl 1 rfl) ?_
    refine wr_ildN hx hb hK hw 22 (by omega) rfl (by decide) (tn (M 2 (aa + 2))) (hyz 4 (by decide) q17).1.1 (hyz 4 (by decide) q17).1.2 dX9_valueOf_137 ?_
    refine lv_aload_n hx hb dX9_valueOf_138 rfl (lv_at hl 2 rfl) ?_
    refine wr_gr hx hb hown hK hts iX9 (ci := 8) rfl 29 (by decide) f84 rfl hw 0 (by omega) 22 rfl rfl dX9_valueOf_139 ?_
    refine lv_iload_n hx hb dX9_valueOf_142 rfl (lv_at hl 0 rfl) ?_
    refine wr_ildN hx hb hK hw 22 (by omega) rfl (by decide) (tn (M 2 (aa + 3))) (hyz 4 (by decide) q17).2.1 (hyz 4 (by decide) q17).2.2 dX9_valueOf_143 ?_
    refine va_mmin hx hb (hml.trans hl.1.symm) hown m147 t147 iMath c147 (Nat.le_of_ble_eq_true rfl) (Nat.le_of_ble_eq_true rfl) (Nat.le_of_ble_eq_true rfl) (Nat.le_of_ble_eq_true rfl) dX9_valueOf_144 ?_
    refine W.eq (g2 := F0 m 147 ls [.int ((i_mn (M 22 (tn (M 2 (aa + 2)))) (M 22 (tn (M 2 (aa + 3))))))]) rfl ?_
    exact wr_iret hx hb hr rfl hK hw (qVo_of ((if_neg q1).trans ((if_neg q2).trans ((if_neg q7).trans ((if_neg q12).trans (if_pos q17)))))) hlocks dX9_valueOf_147
  by_cases q18 : M 2 aa = nI 5
  · refine lv_tableIn (off := 124) (tgt := 148) hx hb dX9_valueOf_24 (by rw [q18]; decide) (by rw [q18]; decide) (by rw [q18]; decide) (by decide) ?_
    refine lv_aload_n hx hb dX9_valueOf_148 rfl (lv_at hl 2 rfl) ?_
    refine wr_gr hx hb hown hK hts iX9 (ci := 8) rfl 29 (by decide) f84 rfl hw 0 (by omega) 22 rfl rfl dX9_valueOf_149 ?_
    refine lv_iload_n hx hb dX9_valueOf_152 rfl (lv_at hl 1 rfl) ?_
    refine wr_ildN hx hb hK hw 22 (by omega) rfl (by decide) (tn (M 2 (aa + 2))) (hyz 5 (by decide) q18).1.1 (hyz 5 (by decide) q18).1.2 dX9_valueOf_153 ?_
    refine lv_aload_n hx hb dX9_valueOf_154 rfl (lv_at hl 2 rfl) ?_
    refine wr_gr hx hb hown hK hts iX9 (ci := 8) rfl 29 (by decide) f84 rfl hw 0 (by omega) 22 rfl rfl dX9_valueOf_155 ?_
    refine lv_iload_n hx hb dX9_valueOf_158 rfl (lv_at hl 0 rfl) ?_
    refine wr_ildN hx hb hK hw 22 (by omega) rfl (by decide) (tn (M 2 (aa + 3))) (hyz 5 (by decide) q18).2.1 (hyz 5 (by decide) q18).2.2 dX9_valueOf_159 ?_
    refine va_mmax hx hb (hml.trans hl.1.symm) hown m150 t150 iMath c150 (Nat.le_of_ble_eq_true rfl) (Nat.le_of_ble_eq_true rfl) (Nat.le_of_ble_eq_true rfl) (Nat.le_of_ble_eq_true rfl) dX9_valueOf_160 ?_
    refine W.eq (g2 := F0 m 163 ls [.int ((i_mx (M 22 (tn (M 2 (aa + 2)))) (M 22 (tn (M 2 (aa + 3))))))]) rfl ?_
    exact wr_iret hx hb hr rfl hK hw (qVo_of ((if_neg q1).trans ((if_neg q2).trans ((if_neg q7).trans ((if_neg q12).trans ((if_neg q17).trans (if_pos q18))))))) hlocks dX9_valueOf_163
  by_cases q19 : M 2 aa = nI 6
  · refine lv_tableIn (off := 140) (tgt := 164) hx hb dX9_valueOf_24 (by rw [q19]; decide) (by rw [q19]; decide) (by rw [q19]; decide) (by decide) ?_
    refine lv_iload_n hx hb dX9_valueOf_164 rfl (lv_at hl 1 rfl) ?_
    exact wr_iret hx hb hr rfl hK hw (qVo_of ((if_neg q1).trans ((if_neg q2).trans ((if_neg q7).trans ((if_neg q12).trans ((if_neg q17).trans ((if_neg q18).trans (if_pos q19)))))))) hlocks dX9_valueOf_165
  refine lv_tableOut (tgt := 166) hx hb dX9_valueOf_24 (sw_out 0 6 (by decide) (fun k h1 h2 => by rcases (show k = 0 ∨ k = 1 ∨ k = 2 ∨ k = 3 ∨ k = 4 ∨ k = 5 ∨ k = 6 by omega) with rfl | rfl | rfl | rfl | rfl | rfl | rfl <;> assumption)) (by decide) ?_
  refine lv_aload_n hx hb dX9_valueOf_166 rfl (lv_at hl 2 rfl) ?_
  refine lv_iload_n hx hb dX9_valueOf_167 rfl (lv_at hl 1 rfl) ?_
  refine lv_iload_n hx hb dX9_valueOf_168 rfl (lv_at hl 0 rfl) ?_
  refine wr_cVi (k := 0) (ci := 8) (As := [.int (M 2 (aa + 2)), .int (M 2 (aa + 3))]) (rest := []) ⟨hx, hb, hml, hown, hts⟩ (cwV 2 hts gX9_valueOf_X9_draw rfl rfl rfl (by decide +kernel) ⟨Nat.le_of_ble_eq_true rfl, Nat.le_of_ble_eq_true rfl⟩) hK hA hw (k_X9_draw l D ad cs s.heap.size M J (M 2 (aa + 2)) (M 2 (aa + 3)) (hdr (fun k hk => by rcases (show k = 0 ∨ k = 1 ∨ k = 2 ∨ k = 3 ∨ k = 4 ∨ k = 5 ∨ k = 6 by omega) with rfl | rfl | rfl | rfl | rfl | rfl | rfl <;> assumption))) (by omega) rfl rfl rfl rfl hl.1 (Nat.le_of_ble_eq_true rfl) ⟨Nat.le_of_ble_eq_true rfl, Nat.le_of_ble_eq_true rfl⟩ dX9_valueOf_169 (fun r20 M21 J22 H locs h23 hw => ?_)
  obtain ⟨h23u, h23r⟩ := h23
  cases h23u
  rw [h23r]
  exact wr_iret hx hb hr rfl hK hw (by have e9 : vM (M 2 aa) (M 2 (aa + 2)) (M 2 (aa + 3)) (M 22) (J 0) = (drw (J 0) (M 2 (aa + 2)) (M 2 (aa + 3)), rnx (J 0)) := ((if_neg q1).trans ((if_neg q2).trans ((if_neg q7).trans ((if_neg q12).trans ((if_neg q17).trans ((if_neg q18).trans (if_neg q19))))))); exact ⟨by rw [e9], by rw [e9]⟩) hlocks dX9_valueOf_172
set_option maxHeartbeats 4000000 in
set_option maxRecDepth 100000 in
theorem k_X9_isTrue (l : Launch) (D : va_G) (ad : Nat → Nat) (cs : Nat → ClassId) (sz : Nat) (M : wM) (J : wJ) (b : Nat) (hb16 : b < 16) (hV : isV (M 6 b) ∧ isV (M 7 b)) : wCi l yX9_isTrue wsX9_isTrue { frames := 0, cells := 0, slots := 0, locals := 0 } D 23 mSh ad cs [.ref (ad 0), .int (nI b)] sz M J (fun r_ u_ => u_ = (M, J) ∧ bz r_ ∧ (¬ r_ = 0 ↔ trm M b (M 22))) := by
  refine wC_i (cc := cX9_isTrue) (maxL := 4) (ret := (some .boolean)) (by decide) rfl (Nat.le_of_ble_eq_true rfl) ?_
  intro p e s m below meth c ls A hx hb hr hml hown hts hlocks hK hA hw hl hAe
  clear hAe
  have hl : lv_has ls 4 [(0, .ref (ad 0)), (1, .int (nI b))] := hl
  have f84 : (Cond.fieldLink RX9 84 "RangePropagatorModel" "results" "[I").before _ s = true := hts _ (by decide +kernel)
  have iX9 : ∀ w ∈ wsX90, w ∈ wsX9_isTrue := by decide +kernel
  have f29 : (Cond.fieldLink RX9 29 "RangePropagatorModel" "xs" "[I").before _ s = true := hts _ (by decide +kernel)
  have f32 : (Cond.fieldLink RX9 32 "RangePropagatorModel" "ys" "[I").before _ s = true := hts _ (by decide +kernel)
  have f35 : (Cond.fieldLink RX9 35 "RangePropagatorModel" "relations" "[I").before _ s = true := hts _ (by decide +kernel)
  refine lv_aload_n hx hb dX9_isTrue_0 rfl (lv_at hl 0 rfl) ?_
  refine wr_gr hx hb hown hK hts iX9 (ci := 8) rfl 29 (by decide) f84 rfl hw 0 (by omega) 22 rfl rfl dX9_isTrue_1 ?_
  refine lv_aload_n hx hb dX9_isTrue_4 rfl (lv_at hl 0 rfl) ?_
  refine wr_gr hx hb hown hK hts iX9 (ci := 8) rfl 7 (by decide) f29 rfl hw 0 (by omega) 6 rfl rfl dX9_isTrue_5 ?_
  refine lv_iload_n hx hb dX9_isTrue_8 rfl (lv_at hl 1 rfl) ?_
  refine wr_ildN hx hb hK hw 6 (by omega) rfl (by decide) b rfl (by omega) dX9_isTrue_9 ?_
  rw [show M 6 b = nI (tn (M 6 b)) from hV.1.1]
  refine wr_ildN hx hb hK hw 22 (by omega) rfl (by decide) (tn (M 6 b)) rfl hV.1.2 dX9_isTrue_10 ?_
  refine lv_istore_n (lv' := [(2, .int (M 22 (tn (M 6 b)))), (0, .ref (ad 0)), (1, .int (nI b))]) hx hb dX9_isTrue_11 rfl hl (by decide) rfl (fun ls hl => ?_)
  refine lv_aload_n hx hb dX9_isTrue_12 rfl (lv_at hl 1 rfl) ?_
  refine wr_gr hx hb hown hK hts iX9 (ci := 8) rfl 29 (by decide) f84 rfl hw 0 (by omega) 22 rfl rfl dX9_isTrue_13 ?_
  refine lv_aload_n hx hb dX9_isTrue_16 rfl (lv_at hl 1 rfl) ?_
  refine wr_gr hx hb hown hK hts iX9 (ci := 8) rfl 8 (by decide) f32 rfl hw 0 (by omega) 7 rfl rfl dX9_isTrue_17 ?_
  refine lv_iload_n hx hb dX9_isTrue_20 rfl (lv_at hl 2 rfl) ?_
  refine wr_ildN hx hb hK hw 7 (by omega) rfl (by decide) b rfl (by omega) dX9_isTrue_21 ?_
  rw [show M 7 b = nI (tn (M 7 b)) from hV.2.1]
  refine wr_ildN hx hb hK hw 22 (by omega) rfl (by decide) (tn (M 7 b)) rfl hV.2.2 dX9_isTrue_22 ?_
  refine lv_istore_n (lv' := [(3, .int (M 22 (tn (M 7 b)))), (2, .int (M 22 (tn (M 6 b)))), (0, .ref (ad 0)), (1, .int (nI b))]) hx hb dX9_isTrue_23 rfl hl (by decide) rfl (fun ls hl => ?_)
  refine lv_aload_n hx hb dX9_isTrue_24 rfl (lv_at hl 2 rfl) ?_
  refine wr_gr hx hb hown hK hts iX9 (ci := 8) rfl 9 (by decide) f35 rfl hw 0 (by omega) 8 rfl rfl dX9_isTrue_25 ?_
  refine lv_iload_n hx hb dX9_isTrue_28 rfl (lv_at hl 3 rfl) ?_
  refine wr_ildN hx hb hK hw 8 (by omega) rfl (by decide) b rfl (by omega) dX9_isTrue_29 ?_
  refine lv_if_ne (tgt := 46) hx hb dX9_isTrue_30 (by decide) (fun q1 => ?_) (fun q1 => ?_)
  · skip
    refine lv_aload_n hx hb dX9_isTrue_46 rfl (lv_at hl 2 rfl) ?_
    refine wr_gr hx hb hown hK hts iX9 (ci := 8) rfl 9 (by decide) f35 rfl hw 0 (by omega) 8 rfl rfl dX9_isTrue_47 ?_
    refine lv_iload_n hx hb dX9_isTrue_50 rfl (lv_at hl 3 rfl) ?_
    refine wr_ildN hx hb hK hw 8 (by omega) rfl (by decide) b rfl (by omega) dX9_isTrue_51 ?_
    refine lv_iconst (v := nI 1) hx hb dX9_isTrue_52 (by decide) ?_
    refine lv_icmp_ne (tgt := 69) hx hb dX9_isTrue_53 (by decide) (fun q2 => ?_) (fun q2 => ?_)
    · skip
      refine lv_aload_n hx hb dX9_isTrue_69 rfl (lv_at hl 2 rfl) ?_
      refine wr_gr hx hb hown hK hts iX9 (ci := 8) rfl 9 (by decide) f35 rfl hw 0 (by omega) 8 rfl rfl dX9_isTrue_70 ?_
      refine lv_iload_n hx hb dX9_isTrue_73 rfl (lv_at hl 3 rfl) ?_
      refine wr_ildN hx hb hK hw 8 (by omega) rfl (by decide) b rfl (by omega) dX9_isTrue_74 ?_
      refine lv_iconst (v := nI 2) hx hb dX9_isTrue_75 (by decide) ?_
      refine lv_icmp_ne (tgt := 92) hx hb dX9_isTrue_76 (by decide) (fun q3 => ?_) (fun q3 => ?_)
      · skip
        refine lv_iload_n hx hb dX9_isTrue_92 rfl (lv_at hl 1 rfl) ?_
        refine lv_iload_n hx hb dX9_isTrue_93 rfl (lv_at hl 0 rfl) ?_
        refine lv_icmp_eq (tgt := 101) hx hb dX9_isTrue_94 (by decide) (fun q4 => ?_) (fun q4 => ?_)
        · skip
          refine lv_iconst (v := nI 0) hx hb dX9_isTrue_101 (by decide) ?_
          exact wr_iret hx hb hr (by decide) hK hw ⟨rfl, Or.inl rfl, (by unfold trm; rw [if_neg q1, if_neg q2, if_neg q3]; exact ⟨fun z => absurd nI_0 z, fun z => (z q4).elim⟩)⟩ hlocks dX9_isTrue_102
        · skip
          refine lv_iconst (v := nI 1) hx hb dX9_isTrue_97 (by decide) ?_
          refine lv_goto (tgt := 102) hx hb dX9_isTrue_98 (by decide) ?_
          exact wr_iret hx hb hr (by decide) hK hw ⟨rfl, Or.inr rfl, (by unfold trm; rw [if_neg q1, if_neg q2, if_neg q3]; exact ⟨fun _ => q4, fun _ => by decide⟩)⟩ hlocks dX9_isTrue_102
      · skip
        refine lv_iload_n hx hb dX9_isTrue_79 rfl (lv_at hl 1 rfl) ?_
        refine lv_iload_n hx hb dX9_isTrue_80 rfl (lv_at hl 0 rfl) ?_
        refine lv_icmp_ne (tgt := 88) hx hb dX9_isTrue_81 (by decide) (fun q5 => ?_) (fun q5 => ?_)
        · skip
          refine lv_iconst (v := nI 0) hx hb dX9_isTrue_88 (by decide) ?_
          refine lv_goto (tgt := 102) hx hb dX9_isTrue_89 (by decide) ?_
          exact wr_iret hx hb hr (by decide) hK hw ⟨rfl, Or.inl rfl, (by unfold trm; rw [if_neg q1, if_neg q2, if_pos q3]; exact ⟨fun z => absurd nI_0 z, fun z => (q5 z).elim⟩)⟩ hlocks dX9_isTrue_102
        · skip
          refine lv_iconst (v := nI 1) hx hb dX9_isTrue_84 (by decide) ?_
          refine lv_goto (tgt := 102) hx hb dX9_isTrue_85 (by decide) ?_
          exact wr_iret hx hb hr (by decide) hK hw ⟨rfl, Or.inr rfl, (by unfold trm; rw [if_neg q1, if_neg q2, if_pos q3]; exact ⟨fun _ => q5, fun _ => by decide⟩)⟩ hlocks dX9_isTrue_102
    · skip
      refine lv_iload_n hx hb dX9_isTrue_56 rfl (lv_at hl 1 rfl) ?_
      refine lv_iload_n hx hb dX9_isTrue_57 rfl (lv_at hl 0 rfl) ?_
      refine lv_icmp_gt (tgt := 65) hx hb dX9_isTrue_58 (by decide) (fun q6 => ?_) (fun q6 => ?_)
      · skip
        refine lv_iconst (v := nI 0) hx hb dX9_isTrue_65 (by decide) ?_
        refine lv_goto (tgt := 102) hx hb dX9_isTrue_66 (by decide) ?_
        exact wr_iret hx hb hr (by decide) hK hw ⟨rfl, Or.inl rfl, (by unfold trm; rw [if_neg q1, if_pos q2]; exact ⟨fun z => absurd nI_0 z, fun z => (nle_lt2 z q6).elim⟩)⟩ hlocks dX9_isTrue_102
      · skip
        refine lv_iconst (v := nI 1) hx hb dX9_isTrue_61 (by decide) ?_
        refine lv_goto (tgt := 102) hx hb dX9_isTrue_62 (by decide) ?_
        exact wr_iret hx hb hr (by decide) hK hw ⟨rfl, Or.inr rfl, (by unfold trm; rw [if_neg q1, if_pos q2]; exact ⟨fun _ => nlt_le q6, fun _ => by decide⟩)⟩ hlocks dX9_isTrue_102
  · skip
    refine lv_iload_n hx hb dX9_isTrue_33 rfl (lv_at hl 1 rfl) ?_
    refine lv_iload_n hx hb dX9_isTrue_34 rfl (lv_at hl 0 rfl) ?_
    refine lv_icmp_ge (tgt := 42) hx hb dX9_isTrue_35 (by decide) (fun q7 => ?_) (fun q7 => ?_)
    · skip
      refine lv_iconst (v := nI 0) hx hb dX9_isTrue_42 (by decide) ?_
      refine lv_goto (tgt := 102) hx hb dX9_isTrue_43 (by decide) ?_
      exact wr_iret hx hb hr (by decide) hK hw ⟨rfl, Or.inl rfl, (by unfold trm; rw [if_pos q1]; exact ⟨fun z => absurd nI_0 z, fun z => (nle_lt z q7).elim⟩)⟩ hlocks dX9_isTrue_102
    · skip
      refine lv_iconst (v := nI 1) hx hb dX9_isTrue_38 (by decide) ?_
      refine lv_goto (tgt := 102) hx hb dX9_isTrue_39 (by decide) ?_
      exact wr_iret hx hb hr (by decide) hK hw ⟨rfl, Or.inr rfl, (by unfold trm; rw [if_pos q1]; exact ⟨fun _ => lt_nle q7, fun _ => by decide⟩)⟩ hlocks dX9_isTrue_102
set_option maxHeartbeats 4000000 in
set_option maxRecDepth 100000 in
theorem k_X9_run (l : Launch) (D : va_G) (ad : Nat → Nat) (cs : Nat → ClassId) (sz : Nat) (M : wM) (J : wJ) (seed : Int64) (steps : Int32) (cnt : Nat) (t : Nat) (hp : mOK M cnt t) (hX : xOK M) : wCi l yX9_run wsX9_run { frames := 3, cells := 0, slots := 0, locals := 75 } D 23 mSh ad cs [.ref (ad 0), .long seed, .int steps] sz M J (fun r_ u_ => (inS steps ∧ qRn M J seed (tn steps) r_ u_) ∨ (¬ inS steps ∧ u_ = ((wU (wU M 0 0 (nI 0)) 0 0 (nI 1)), J) ∧ r_ = nI 0)) := by
  refine wC_i (cc := cX9_run) (maxL := 7) (ret := (some .int)) (by decide) rfl (Nat.le_of_ble_eq_true rfl) ?_
  intro p e s m below meth c ls A hx hb hr hml hown hts hlocks hK hA hw hl hAe
  clear hAe
  have hl : lv_has ls 7 [(0, .ref (ad 0)), (1, .long seed), (3, .int steps)] := hl
  have f87 : (Cond.fieldLink RX9 87 "RangePropagatorModel" "thrown" "I").before _ s = true := hts _ (by decide +kernel)
  have iX9 : ∀ w ∈ wsX90, w ∈ wsX9_run := by decide +kernel
  have f192 : (Cond.fieldLink RX9 192 "RangePropagatorModel" "\x72" "J").before _ s = true := hts _ (by decide +kernel)
  have f203 : (Cond.fieldLink RX9 203 "RangePropagatorModel" "steps" "I").before _ s = true := hts _ (by decide +kernel)
  have f78 : (Cond.fieldLink RX9 78 "RangePropagatorModel" "entered" "[I").before _ s = true := hts _ (by decide +kernel)
  have f13 : (Cond.fieldLink RX9 13 "RangePropagatorModel" "sizes" "[I").before _ s = true := hts _ (by decide +kernel)
  have f20 : (Cond.fieldLink RX9 20 "RangePropagatorModel" "edges" "[I").before _ s = true := hts _ (by decide +kernel)
  have f23 : (Cond.fieldLink RX9 23 "RangePropagatorModel" "ups" "[I").before _ s = true := hts _ (by decide +kernel)
  have f26 : (Cond.fieldLink RX9 26 "RangePropagatorModel" "downs" "[I").before _ s = true := hts _ (by decide +kernel)
  have f84 : (Cond.fieldLink RX9 84 "RangePropagatorModel" "results" "[I").before _ s = true := hts _ (by decide +kernel)
  have f17 : (Cond.fieldLink RX9 17 "RangePropagatorModel" "statements" "[I").before _ s = true := hts _ (by decide +kernel)
  have f81 : (Cond.fieldLink RX9 81 "RangePropagatorModel" "enteredWith" "[I").before _ s = true := hts _ (by decide +kernel)
  have f38 : (Cond.fieldLink RX9 38 "RangePropagatorModel" "firstLows" "[I").before _ s = true := hts _ (by decide +kernel)
  have f41 : (Cond.fieldLink RX9 41 "RangePropagatorModel" "firstHighs" "[I").before _ s = true := hts _ (by decide +kernel)
  refine lv_aload_n hx hb dX9_run_0 rfl (lv_at hl 0 rfl) ?_
  refine lv_iconst (v := nI 0) hx hb dX9_run_1 (by decide) ?_
  refine wr_pi hx hb hown hK hts iX9 tyX9_ok nmX9 (ci := 8) rfl 0 (by decide) f87 rfl rfl hw 0 (by omega) rfl rfl rfl rfl dX9_run_2 (fun H locs hw => ?_)
  refine lv_iload_n hx hb dX9_run_5 rfl (lv_at hl 2 rfl) ?_
  refine lv_iconst (v := nI 1) hx hb dX9_run_6 (by decide) ?_
  refine lv_icmp_lt (tgt := 17) hx hb dX9_run_7 (by decide) (fun q1 => ?_) (fun q1 => ?_)
  · skip
    refine lv_aload_n hx hb dX9_run_17 rfl (lv_at hl 0 rfl) ?_
    refine lv_iconst (v := nI 1) hx hb dX9_run_18 (by decide) ?_
    refine wr_cVi (k := 0) (ci := 8) (As := [.int (nI 1)]) (rest := []) ⟨hx, hb, hml, hown, hts⟩ (cwV 1 hts gX9_run_X9_fail rfl rfl rfl (by decide +kernel) ⟨Nat.le_of_ble_eq_true rfl, Nat.le_of_ble_eq_true rfl⟩) hK hA hw (k_X9_fail l D ad cs H.size (wU M 0 0 (nI 0)) J (nI 1) ) (by omega) rfl rfl rfl rfl hl.1 (Nat.le_of_ble_eq_true rfl) ⟨Nat.le_of_ble_eq_true rfl, Nat.le_of_ble_eq_true rfl⟩ dX9_run_19 (fun r2 M3 J4 H locs h5 hw => ?_)
    obtain ⟨h5, rfl⟩ := h5
    cases h5
    exact wr_iret hx hb hr rfl hK hw (Or.inr ⟨nS_1 q1, rfl, rfl⟩) hlocks dX9_run_22
  · skip
    refine lv_iload_n hx hb dX9_run_10 rfl (lv_at hl 2 rfl) ?_
    refine lv_sipush (v := nI 300) hx hb dX9_run_11 (by decide) ?_
    refine lv_icmp_le (tgt := 23) hx hb dX9_run_14 (by decide) (fun q6 => ?_) (fun q6 => ?_)
    · obtain ⟨steps_n, steps_1, steps_3, rfl⟩ := inS_of q1 q6
      refine lv_aload_n hx hb dX9_run_23 rfl (lv_at hl 0 rfl) ?_
      refine lv_lload_n hx hb dX9_run_24 rfl (lv_at hl 1 rfl) ?_
      refine wr_pl hx hb hown hK hts iX9 tyX9_ok nmX9 (ci := 8) rfl 30 (by decide) f192 rfl rfl hw 0 (by omega) rfl rfl lone31 rfl rfl dX9_run_25 (fun H locs hw => ?_)
      refine lv_iconst (v := nI 0) hx hb dX9_run_28 (by decide) ?_
      refine lv_istore (lv' := [(4, .int (nI 0)), (0, .ref (ad 0)), (1, .long seed), (3, .int (nI steps_n))]) hx hb dX9_run_29 hl (by decide) rfl (fun ls hl => ?_)
      refine w_loop (σ := Nat) (fun k M' J' ls => lv_has ls 7 [(0, .ref (ad 0)), (3, .int (nI steps_n)), (4, .int (nI k))] ∧ J' = va_up J 0 (xIm M (M 22) seed k).2 ∧ k ≤ 6 ∧ Ixi M seed k M') (fun k => 6 - k) (fun k M7 J1_ H locs ls hI hw ih8 => ?_) 0 ⟨lv_sub hl [1, 3, 0] rfl, rfl, by omega, ⟨kp_refl _ _, (by show (wU M 0 0 (nI 0)) 22 = M 22; rw [wU_ne (by decide)])⟩⟩ hw
      obtain ⟨hl, eJ_, hk_, hI⟩ := hI
      rw [eJ_] at hw
      clear eJ_
      refine lv_iload hx hb dX9_run_31 (lv_at hl 2 rfl) ?_
      refine lv_bipush (v := nI 6) hx hb dX9_run_33 (by decide) ?_
      refine lv_icmp_ge (tgt := 69) hx hb dX9_run_35 (by decide) (fun q9 => ?_) (fun q9 => ?_)
      · have q9n : 6 ≤ k := (nI_leI (by omega) (by omega)).mp q9
        refine lv_aload_n hx hb dX9_run_69 rfl (lv_at hl 0 rfl) ?_
        refine lv_iconst (v := nI 0) hx hb dX9_run_70 (by decide) ?_
        refine wr_pi hx hb hown hK hts iX9 tyX9_ok nmX9 (ci := 8) rfl 26 (by decide) f203 rfl rfl hw 0 (by omega) rfl rfl rfl rfl dX9_run_71 (fun H locs hw => ?_)
        refine lv_iconst (v := nI 0) hx hb dX9_run_74 (by decide) ?_
        refine lv_istore (lv' := [(4, .int (nI 0)), (0, .ref (ad 0)), (3, .int (nI steps_n))]) hx hb dX9_run_75 hl (by decide) rfl (fun ls hl => ?_)
        refine w_loop (σ := Nat) (fun k M' J' ls => lv_has ls 7 [(0, .ref (ad 0)), (3, .int (nI steps_n)), (4, .int ((rnM M (xIm M (M 22) seed 6) k).2))] ∧ J' = va_up J 0 (rnM M (xIm M (M 22) seed 6) k).1.2 ∧ k ≤ steps_n ∧ (Irm M (xIm M (M 22) seed 6) k M' ∧ Icm M (xIm M (M 22) seed 6) k)) (fun k => steps_n - k) (fun k M10 J1_ H locs ls hI hw ih11 => ?_) 0 ⟨lv_sub hl [1, 2, 0] rfl, (by have e9 : k = 6 := (by omega); subst e9; rfl), by omega, (by have e9 : k = 6 := (by omega); subst e9; exact ⟨Irm_0 hI, fun q hq => absurd hq (Nat.not_lt_zero q), Or.inr ⟨0, by decide, rfl⟩⟩)⟩ hw
        obtain ⟨hl, eJ_, hk_, hI⟩ := hI
        rw [eJ_] at hw
        clear eJ_
        refine lv_iload hx hb dX9_run_77 (lv_at hl 2 rfl) ?_
        refine lv_iconst (v := (-1 : Int32)) hx hb dX9_run_79 (by decide) ?_
        refine lv_icmp_eq (tgt := 259) hx hb dX9_run_80 (by decide) (fun q12 => ?_) (fun q12 => ?_)
        · skip
          refine lv_aload_n hx hb dX9_run_259 rfl (lv_at hl 0 rfl) ?_
          refine wr_gi hx hb hown hK hts iX9 (ci := 8) rfl 26 (by decide) f203 rfl hw 0 (by omega) rfl rfl dX9_run_260 ?_
          rw [show M10 0 26 = nI k from (hI.1.2.1 26)]
          exact wr_iret hx hb hr rfl hK hw (Or.inl ⟨⟨steps_n, steps_1, steps_3, rfl⟩, (by rw [tn_nI (by omega)]; exact ⟨k, by omega, hI.2, Or.inl q12, rfl, hI.1, rfl⟩)⟩) hlocks dX9_run_263
        · obtain ⟨b9, h16, eb9⟩ := hI.2.2.resolve_left q12; rw [eb9] at hl; have hE2 : tn (M 3 b9) ≤ 2 := (hp.2.2.2.2.2.2.1 b9 h16).2; have hS8 : tn (M 1 b9) ≤ 8 := (hp.2.2.2.2.1 b9 h16).2
          refine lv_aload_n hx hb dX9_run_83 rfl (lv_at hl 0 rfl) ?_
          refine wr_gi hx hb hown hK hts iX9 (ci := 8) rfl 26 (by decide) f203 rfl hw 0 (by omega) rfl rfl dX9_run_84 ?_
          rw [show M10 0 26 = nI k from (hI.1.2.1 26)]
          refine lv_iload_n hx hb dX9_run_87 rfl (lv_at hl 1 rfl) ?_
          refine lv_icmp_ge (tgt := 259) hx hb dX9_run_88 (by decide) (fun q13 => ?_) (fun q13 => ?_)
          · have q13n : steps_n ≤ k := (nI_leI (by omega) (by omega)).mp q13
            refine lv_aload_n hx hb dX9_run_259 rfl (lv_at hl 0 rfl) ?_
            refine wr_gi hx hb hown hK hts iX9 (ci := 8) rfl 26 (by decide) f203 rfl hw 0 (by omega) rfl rfl dX9_run_260 ?_
            rw [show M10 0 26 = nI k from (hI.1.2.1 26)]
            exact wr_iret hx hb hr rfl hK hw (Or.inl ⟨⟨steps_n, steps_1, steps_3, rfl⟩, (by rw [tn_nI (by omega)]; exact ⟨k, by omega, hI.2, Or.inr (by omega), rfl, hI.1, rfl⟩)⟩) hlocks dX9_run_263
          · have q13n : ¬ steps_n ≤ k := fun z => q13 ((nI_leI (by omega) (by omega)).mpr z)
            refine lv_aload_n hx hb dX9_run_91 rfl (lv_at hl 0 rfl) ?_
            refine wr_gr hx hb hown hK hts iX9 (ci := 8) rfl 27 (by decide) f78 rfl hw 0 (by omega) 20 rfl rfl dX9_run_92 ?_
            refine lv_aload_n hx hb dX9_run_95 rfl (lv_at hl 0 rfl) ?_
            refine wr_gi hx hb hown hK hts iX9 (ci := 8) rfl 26 (by decide) f203 rfl hw 0 (by omega) rfl rfl dX9_run_96 ?_
            rw [show M10 0 26 = nI k from (hI.1.2.1 26)]
            refine lv_iload hx hb dX9_run_99 (lv_at hl 2 rfl) ?_
            refine wr_istN hx hb hK hw 20 (by omega) rfl (by decide) k rfl (by omega) dX9_run_101 (fun H locs hw => ?_)
            refine lv_iconst (v := nI 0) hx hb dX9_run_102 (by decide) ?_
            refine lv_istore (lv' := [(5, .int (nI 0)), (0, .ref (ad 0)), (3, .int (nI steps_n)), (4, .int (nI b9))]) hx hb dX9_run_103 hl (by decide) rfl (fun ls hl => ?_)
            have hO := hI
            refine w_loop (σ := Nat) (fun v9 M' J' ls => lv_has ls 7 [(0, .ref (ad 0)), (3, .int (nI steps_n)), (4, .int (nI b9)), (5, .int (nI v9))] ∧ J' = (va_up J 0 (rnM M (xIm M (M 22) seed 6) k).1.2) ∧ v9 ≤ 6 ∧ Inm ((wU M10 20 k (nI b9))) k v9 M') (fun v9 => 6 - v9) (fun v9 M14 J1_ H locs ls hI hw ih15 => ?_) 0 ⟨lv_sub hl [1, 2, 3, 0] rfl, rfl, by omega, Inm_0⟩ hw
            obtain ⟨hl, eJ_, hk_, hI⟩ := hI
            rw [eJ_] at hw
            clear eJ_
            refine lv_iload hx hb dX9_run_105 (lv_at hl 3 rfl) ?_
            refine lv_bipush (v := nI 6) hx hb dX9_run_107 (by decide) ?_
            refine lv_icmp_ge (tgt := 140) hx hb dX9_run_109 (by decide) (fun q16 => ?_) (fun q16 => ?_)
            · have q16n : 6 ≤ v9 := (nI_leI (by omega) (by omega)).mp q16
              refine lv_aload_n hx hb dX9_run_140 rfl (lv_at hl 0 rfl) ?_
              refine lv_dup hx hb dX9_run_141 rfl ?_
              refine wr_gi hx hb hown hK hts iX9 (ci := 8) rfl 26 (by decide) f203 rfl hw 0 (by omega) rfl rfl dX9_run_142 ?_
              rw [show M14 0 26 = nI k from ((congrFun (hI.1 0 (by decide)) 26).trans ((congrFun (wU_ne (by decide)) 26).trans (hO.1.2.1 26)))]
              refine lv_iconst (v := nI 1) hx hb dX9_run_145 (by decide) ?_
              refine lv_iaddN hx hb dX9_run_146 ?_
              refine wr_pi hx hb hown hK hts iX9 tyX9_ok nmX9 (ci := 8) rfl 26 (by decide) f203 rfl rfl hw 0 (by omega) rfl rfl rfl rfl dX9_run_147 (fun H locs hw => ?_)
              refine lv_iconst (v := nI 0) hx hb dX9_run_150 (by decide) ?_
              refine lv_istore (lv' := [(5, .int (nI 0)), (0, .ref (ad 0)), (3, .int (nI steps_n)), (4, .int (nI b9))]) hx hb dX9_run_151 hl (by decide) rfl (fun ls hl => ?_)
              refine w_loop (σ := Nat) (fun s9 M' J' ls => lv_has ls 7 [(0, .ref (ad 0)), (3, .int (nI steps_n)), (4, .int (nI b9)), (5, .int (nI s9))] ∧ J' = va_up J 0 (xNm M b9 s9 (rnM M (xIm M (M 22) seed 6) k).1).2 ∧ s9 ≤ tn (M 1 b9) ∧ Ism M (xIm M (M 22) seed 6) k b9 s9 M') (fun s9 => tn (M 1 b9) - s9) (fun s9 M17 J1_ H locs ls hI hw ih18 => ?_) 0 ⟨lv_sub hl [1, 2, 3, 0] rfl, rfl, by omega, (by have e8 : v9 = 6 := (by omega); rw [e8] at hI; exact Ism_0 eb9 hO.1 hI)⟩ hw
              obtain ⟨hl, eJ_, hk_, hI⟩ := hI
              rw [eJ_] at hw
              clear eJ_
              refine lv_iload hx hb dX9_run_153 (lv_at hl 3 rfl) ?_
              refine lv_aload_n hx hb dX9_run_155 rfl (lv_at hl 0 rfl) ?_
              refine wr_gr hx hb hown hK hts iX9 (ci := 8) rfl 2 (by decide) f13 rfl hw 0 (by omega) 1 rfl rfl dX9_run_156 ?_
              refine lv_iload hx hb dX9_run_159 (lv_at hl 2 rfl) ?_
              refine wr_ildN hx hb hK hw 1 (by omega) rfl (by decide) b9 rfl (by omega) dX9_run_161 ?_
              rw [show M17 1 b9 = nI (tn (M 1 b9)) from ((congrFun (xC_at hI.1 1 (by omega)) b9).trans (hp.2.2.2.2.1 b9 h16).1)]
              refine lv_icmp_ge (tgt := 203) hx hb dX9_run_162 (by decide) (fun q19 => ?_) (fun q19 => ?_)
              · have q19n : (tn (M 1 b9)) ≤ s9 := (nI_leI (by omega) (by omega)).mp q19
                refine lv_aload_n hx hb dX9_run_203 rfl (lv_at hl 0 rfl) ?_
                refine wr_gr hx hb hown hK hts iX9 (ci := 8) rfl 4 (by decide) f20 rfl hw 0 (by omega) 3 rfl rfl dX9_run_204 ?_
                refine lv_iload hx hb dX9_run_207 (lv_at hl 2 rfl) ?_
                refine wr_ildN hx hb hK hw 3 (by omega) rfl (by decide) b9 rfl (by omega) dX9_run_209 ?_
                rw [show M17 3 b9 = nI (tn (M 3 b9)) from ((congrFun (xC_at hI.1 3 (by omega)) b9).trans (hp.2.2.2.2.2.2.1 b9 h16).1)]
                refine lv_if_ne (tgt := 217) hx hb dX9_run_210 (by decide) (fun q20 => ?_) (fun q20 => ?_)
                · skip
                  refine lv_aload_n hx hb dX9_run_217 rfl (lv_at hl 0 rfl) ?_
                  refine wr_gr hx hb hown hK hts iX9 (ci := 8) rfl 4 (by decide) f20 rfl hw 0 (by omega) 3 rfl rfl dX9_run_218 ?_
                  refine lv_iload hx hb dX9_run_221 (lv_at hl 2 rfl) ?_
                  refine wr_ildN hx hb hK hw 3 (by omega) rfl (by decide) b9 rfl (by omega) dX9_run_223 ?_
                  rw [show M17 3 b9 = nI (tn (M 3 b9)) from ((congrFun (xC_at hI.1 3 (by omega)) b9).trans (hp.2.2.2.2.2.2.1 b9 h16).1)]
                  refine lv_iconst (v := nI 1) hx hb dX9_run_224 (by decide) ?_
                  refine lv_icmp_eq (tgt := 237) hx hb dX9_run_225 (by decide) (fun q21 => ?_) (fun q21 => ?_)
                  · have q21n : (tn (M 3 b9)) = 1 := (nI_eq (by omega) (by omega)).mp q21
                    refine lv_aload_n hx hb dX9_run_237 rfl (lv_at hl 0 rfl) ?_
                    refine wr_gr hx hb hown hK hts iX9 (ci := 8) rfl 5 (by decide) f23 rfl hw 0 (by omega) 4 rfl rfl dX9_run_238 ?_
                    refine lv_iload hx hb dX9_run_241 (lv_at hl 2 rfl) ?_
                    refine wr_ildN hx hb hK hw 4 (by omega) rfl (by decide) b9 rfl (by omega) dX9_run_243 ?_
                    rw [show M17 4 b9 = M 4 b9 from (congrFun (xC_at hI.1 4 (by omega)) b9)]
                    refine lv_goto (tgt := 254) hx hb dX9_run_244 (by decide) ?_
                    refine lv_istore (lv' := [(4, .int (M 4 b9)), (0, .ref (ad 0)), (3, .int (nI steps_n)), (5, .int (nI s9))]) hx hb dX9_run_254 hl (by decide) rfl (fun ls hl => ?_)
                    refine lv_goto (tgt := 77) hx hb dX9_run_256 (by decide) ?_
                    exact ih11 (k + 1) M17 (va_up J 0 (xNm M b9 s9 (rnM M (xIm M (M 22) seed 6) k).1).2) _ _ _ (by omega) ⟨(by have e8 : s9 = tn (M 1 b9) := (by omega); rw [show (rnM M (xIm M (M 22) seed 6) (k + 1)).2 = M 4 b9 by rw [rnM_s eb9 h16]; exact nxm_1 q21n]; exact lv_sub hl [1, 2, 0] rfl), (by have e8 : s9 = tn (M 1 b9) := (by omega); rw [e8, rnM_s eb9 h16]), by omega, ⟨(by have e8 : s9 = tn (M 1 b9) := (by omega); rw [e8] at hI; exact Irm_s eb9 h16 hI), Icm_s hX hE2 eb9 h16 hO.2⟩⟩ hw
                  · have q21n : ¬ (tn (M 3 b9)) = 1 := fun z => q21 ((nI_eq (by omega) (by omega)).mpr z)
                    refine lv_aload_n hx hb dX9_run_228 rfl (lv_at hl 0 rfl) ?_
                    refine lv_iload hx hb dX9_run_229 (lv_at hl 2 rfl) ?_
                    refine wr_cVi (k := 0) (ci := 8) (As := [.int (nI b9)]) (rest := []) ⟨hx, hb, hml, hown, hts⟩ (cwV 1 hts gX9_run_X9_isTrue rfl rfl rfl (by decide +kernel) ⟨Nat.le_of_ble_eq_true rfl, Nat.le_of_ble_eq_true rfl⟩) hK hA hw (k_X9_isTrue l D ad cs H.size M17 (va_up J 0 (xNm M b9 s9 (rnM M (xIm M (M 22) seed 6) k).1).2) b9 (by omega) (by rw [xC_at hI.1 6 (by omega), xC_at hI.1 7 (by omega)]; exact hp.2.2.2.2.2.2.2.1 b9 h16)) (by omega) rfl rfl rfl rfl hl.1 (Nat.le_of_ble_eq_true rfl) ⟨Nat.le_of_ble_eq_true rfl, Nat.le_of_ble_eq_true rfl⟩ dX9_run_231 (fun r22 M23 J24 H locs h25 hw => ?_)
                    obtain ⟨h25u, h25z, h25i⟩ := h25
                    cases h25u
                    have hTr := h25i
                    rw [trm_eq hI.1 hI.2.2.1] at hTr
                    refine lv_if_eq (tgt := 247) hx hb dX9_run_234 (by decide) (fun q26 => ?_) (fun q26 => ?_)
                    · skip
                      refine lv_aload_n hx hb dX9_run_247 rfl (lv_at hl 0 rfl) ?_
                      refine wr_gr hx hb hown hK hts iX9 (ci := 8) rfl 6 (by decide) f26 rfl hw 0 (by omega) 5 rfl rfl dX9_run_248 ?_
                      refine lv_iload hx hb dX9_run_251 (lv_at hl 2 rfl) ?_
                      refine wr_ildN hx hb hK hw 5 (by omega) rfl (by decide) b9 rfl (by omega) dX9_run_253 ?_
                      rw [show M17 5 b9 = M 5 b9 from (congrFun (xC_at hI.1 5 (by omega)) b9)]
                      refine lv_istore (lv' := [(4, .int (M 5 b9)), (0, .ref (ad 0)), (3, .int (nI steps_n)), (5, .int (nI s9))]) hx hb dX9_run_254 hl (by decide) rfl (fun ls hl => ?_)
                      refine lv_goto (tgt := 77) hx hb dX9_run_256 (by decide) ?_
                      exact ih11 (k + 1) M17 (va_up J 0 (xNm M b9 s9 (rnM M (xIm M (M 22) seed 6) k).1).2) _ _ _ (by omega) ⟨(by have e8 : s9 = tn (M 1 b9) := (by omega); rw [show (rnM M (xIm M (M 22) seed 6) (k + 1)).2 = M 5 b9 by rw [rnM_s eb9 h16]; exact nxm_3 (fun z => q20 (by rw [z]; rfl)) q21n (by rw [← e8]; exact fun z => (hTr.mpr z) q26)]; exact lv_sub hl [1, 2, 0] rfl), (by have e8 : s9 = tn (M 1 b9) := (by omega); rw [e8, rnM_s eb9 h16]), by omega, ⟨(by have e8 : s9 = tn (M 1 b9) := (by omega); rw [e8] at hI; exact Irm_s eb9 h16 hI), Icm_s hX hE2 eb9 h16 hO.2⟩⟩ hw
                    · skip
                      refine lv_aload_n hx hb dX9_run_237 rfl (lv_at hl 0 rfl) ?_
                      refine wr_gr hx hb hown hK hts iX9 (ci := 8) rfl 5 (by decide) f23 rfl hw 0 (by omega) 4 rfl rfl dX9_run_238 ?_
                      refine lv_iload hx hb dX9_run_241 (lv_at hl 2 rfl) ?_
                      refine wr_ildN hx hb hK hw 4 (by omega) rfl (by decide) b9 rfl (by omega) dX9_run_243 ?_
                      rw [show M17 4 b9 = M 4 b9 from (congrFun (xC_at hI.1 4 (by omega)) b9)]
                      refine lv_goto (tgt := 254) hx hb dX9_run_244 (by decide) ?_
                      refine lv_istore (lv' := [(4, .int (M 4 b9)), (0, .ref (ad 0)), (3, .int (nI steps_n)), (5, .int (nI s9))]) hx hb dX9_run_254 hl (by decide) rfl (fun ls hl => ?_)
                      refine lv_goto (tgt := 77) hx hb dX9_run_256 (by decide) ?_
                      exact ih11 (k + 1) M17 (va_up J 0 (xNm M b9 s9 (rnM M (xIm M (M 22) seed 6) k).1).2) _ _ _ (by omega) ⟨(by have e8 : s9 = tn (M 1 b9) := (by omega); rw [show (rnM M (xIm M (M 22) seed 6) (k + 1)).2 = M 4 b9 by rw [rnM_s eb9 h16]; exact nxm_2 (fun z => q20 (by rw [z]; rfl)) q21n (by rw [← e8]; exact hTr.mp q26)]; exact lv_sub hl [1, 2, 0] rfl), (by have e8 : s9 = tn (M 1 b9) := (by omega); rw [e8, rnM_s eb9 h16]), by omega, ⟨(by have e8 : s9 = tn (M 1 b9) := (by omega); rw [e8] at hI; exact Irm_s eb9 h16 hI), Icm_s hX hE2 eb9 h16 hO.2⟩⟩ hw
                · skip
                  refine lv_iconst (v := (-1 : Int32)) hx hb dX9_run_213 (by decide) ?_
                  refine lv_goto (tgt := 254) hx hb dX9_run_214 (by decide) ?_
                  refine lv_istore (lv' := [(4, .int ((-1 : Int32))), (0, .ref (ad 0)), (3, .int (nI steps_n)), (5, .int (nI s9))]) hx hb dX9_run_254 hl (by decide) rfl (fun ls hl => ?_)
                  refine lv_goto (tgt := 77) hx hb dX9_run_256 (by decide) ?_
                  exact ih11 (k + 1) M17 (va_up J 0 (xNm M b9 s9 (rnM M (xIm M (M 22) seed 6) k).1).2) _ _ _ (by omega) ⟨(by have e8 : s9 = tn (M 1 b9) := (by omega); rw [show (rnM M (xIm M (M 22) seed 6) (k + 1)).2 = (-1 : Int32) by rw [rnM_s eb9 h16]; exact nxm_0 (eN0 (by omega) q20)]; exact lv_sub hl [1, 2, 0] rfl), (by have e8 : s9 = tn (M 1 b9) := (by omega); rw [e8, rnM_s eb9 h16]), by omega, ⟨(by have e8 : s9 = tn (M 1 b9) := (by omega); rw [e8] at hI; exact Irm_s eb9 h16 hI), Icm_s hX hE2 eb9 h16 hO.2⟩⟩ hw
              · have q19n : ¬ (tn (M 1 b9)) ≤ s9 := fun z => q19 ((nI_leI (by omega) (by omega)).mpr z)
                refine lv_iconst (v := nI 4) hx hb dX9_run_165 (by decide) ?_
                refine lv_bipush (v := nI 8) hx hb dX9_run_166 (by decide) ?_
                refine lv_iload hx hb dX9_run_168 (lv_at hl 2 rfl) ?_
                refine lv_imulN hx hb dX9_run_170 ?_
                refine lv_iload hx hb dX9_run_171 (lv_at hl 3 rfl) ?_
                refine lv_iaddN hx hb dX9_run_173 ?_
                refine lv_imulN hx hb dX9_run_174 ?_
                refine lv_istore (lv' := [(6, .int (nI (4 * ((8 * b9) + s9)))), (0, .ref (ad 0)), (3, .int (nI steps_n)), (4, .int (nI b9)), (5, .int (nI s9))]) hx hb dX9_run_175 hl (by decide) rfl (fun ls hl => ?_)
                refine lv_aload_n hx hb dX9_run_177 rfl (lv_at hl 1 rfl) ?_
                refine wr_gr hx hb hown hK hts iX9 (ci := 8) rfl 29 (by decide) f84 rfl hw 0 (by omega) 22 rfl rfl dX9_run_178 ?_
                refine lv_aload_n hx hb dX9_run_181 rfl (lv_at hl 1 rfl) ?_
                refine wr_gr hx hb hown hK hts iX9 (ci := 8) rfl 3 (by decide) f17 rfl hw 0 (by omega) 2 rfl rfl dX9_run_182 ?_
                refine lv_iload hx hb dX9_run_185 (lv_at hl 0 rfl) ?_
                refine lv_iconst (v := nI 1) hx hb dX9_run_187 (by decide) ?_
                refine lv_iaddN hx hb dX9_run_188 ?_
                refine wr_ildN hx hb hK hw 2 (by omega) rfl (by decide) ((4 * ((8 * b9) + s9)) + 1) rfl (by omega) dX9_run_189 ?_
                rw [show M17 2 ((4 * ((8 * b9) + s9)) + 1) = nI (tn (M 2 (4 * ((8 * b9) + s9) + 1))) from ((congrFun (xC_at hI.1 2 (by omega)) _).trans (hp.2.2.2.2.2.1 b9 h16 s9 (by omega)).1.1)]
                refine lv_aload_n hx hb dX9_run_190 rfl (lv_at hl 1 rfl) ?_
                refine lv_iload hx hb dX9_run_191 (lv_at hl 0 rfl) ?_
                refine wr_cVi (k := 0) (ci := 8) (As := [.int (nI (4 * ((8 * b9) + s9)))]) (rest := [.int (nI (tn (M 2 (4 * ((8 * b9) + s9) + 1)))), .ref (ad 22)]) ⟨hx, hb, hml, hown, hts⟩ (cwV 1 hts gX9_run_X9_valueOf rfl rfl rfl (by decide +kernel) ⟨Nat.le_of_ble_eq_true rfl, Nat.le_of_ble_eq_true rfl⟩) hK hA hw (k_X9_valueOf l D ad cs H.size M17 (va_up J 0 (xNm M b9 s9 (rnM M (xIm M (M 22) seed 6) k).1).2) (4 * ((8 * b9) + s9)) (by omega) (by rw [xC_at hI.1 2 (by omega)]; exact (hp.2.2.2.2.2.1 b9 h16 s9 (by omega)).2) (by rw [xC_at hI.1 2 (by omega)]; exact hX.2.1 b9 h16 s9 (by omega))) (by omega) rfl rfl rfl rfl hl.1 (Nat.le_of_ble_eq_true rfl) ⟨Nat.le_of_ble_eq_true rfl, Nat.le_of_ble_eq_true rfl⟩ dX9_run_193 (fun r27 M28 J29 H locs h30 hw => ?_)
                obtain ⟨h30u, h30r⟩ := h30
                have h30a : (va_up J 0 (xNm M b9 s9 (rnM M (xIm M (M 22) seed 6) k).1).2) 0 = (xNm M b9 s9 (rnM M (xIm M (M 22) seed 6) k).1).2 := va_up_self _ _ _
                rw [h30a, hI.2.2.1, xC_at hI.1 2 (by omega)] at h30u h30r
                rw [J_up] at h30u
                cases h30u
                rw [h30r]
                refine wr_istN hx hb hK hw 22 (by omega) rfl (by decide) (tn (M 2 (4 * ((8 * b9) + s9) + 1))) rfl (hp.2.2.2.2.2.1 b9 h16 s9 (by omega)).1.2 dX9_run_196 (fun H locs hw => ?_)
                refine lv_iinc (v := nI (s9 + 1)) (lv' := [(5, .int (nI (s9 + 1))), (6, .int (nI (4 * ((8 * b9) + s9)))), (0, .ref (ad 0)), (3, .int (nI steps_n)), (4, .int (nI b9))]) hx hb dX9_run_197 hl (k := 4) rfl (nI_1 _) (by decide) rfl (fun ls hl => ?_)
                refine lv_goto (tgt := 153) hx hb dX9_run_200 (by decide) ?_
                exact ih18 (s9 + 1) (wU M17 22 (tn (M 2 (4 * ((8 * b9) + s9) + 1))) ((vM (M 2 (4 * ((8 * b9) + s9))) (M 2 (4 * ((8 * b9) + s9) + 2)) (M 2 (4 * ((8 * b9) + s9) + 3)) (xNm M b9 s9 (rnM M (xIm M (M 22) seed 6) k).1).1 (xNm M b9 s9 (rnM M (xIm M (M 22) seed 6) k).1).2).1)) (va_up J 0 (vM (M 2 (4 * ((8 * b9) + s9))) (M 2 (4 * ((8 * b9) + s9) + 2)) (M 2 (4 * ((8 * b9) + s9) + 3)) (xNm M b9 s9 (rnM M (xIm M (M 22) seed 6) k).1).1 (xNm M b9 s9 (rnM M (xIm M (M 22) seed 6) k).1).2).2) _ _ _ (by omega) ⟨lv_sub hl [2, 3, 4, 0] rfl, rfl, by omega, Ism_s hI⟩ hw
            · have q16n : ¬ 6 ≤ v9 := fun z => q16 ((nI_leI (by omega) (by omega)).mpr z)
              refine lv_aload_n hx hb dX9_run_112 rfl (lv_at hl 0 rfl) ?_
              refine wr_gr hx hb hown hK hts iX9 (ci := 8) rfl 28 (by decide) f81 rfl hw 0 (by omega) 21 rfl rfl dX9_run_113 ?_
              refine lv_bipush (v := nI 6) hx hb dX9_run_116 (by decide) ?_
              refine lv_aload_n hx hb dX9_run_118 rfl (lv_at hl 0 rfl) ?_
              refine wr_gi hx hb hown hK hts iX9 (ci := 8) rfl 26 (by decide) f203 rfl hw 0 (by omega) rfl rfl dX9_run_119 ?_
              rw [show M14 0 26 = nI k from ((congrFun (hI.1 0 (by decide)) 26).trans ((congrFun (wU_ne (by decide)) 26).trans (hO.1.2.1 26)))]
              refine lv_imulN hx hb dX9_run_122 ?_
              refine lv_iload hx hb dX9_run_123 (lv_at hl 3 rfl) ?_
              refine lv_iaddN hx hb dX9_run_125 ?_
              refine lv_aload_n hx hb dX9_run_126 rfl (lv_at hl 0 rfl) ?_
              refine wr_gr hx hb hown hK hts iX9 (ci := 8) rfl 29 (by decide) f84 rfl hw 0 (by omega) 22 rfl rfl dX9_run_127 ?_
              refine lv_iload hx hb dX9_run_130 (lv_at hl 3 rfl) ?_
              refine wr_ildN hx hb hK hw 22 (by omega) rfl (by decide) v9 rfl (by omega) dX9_run_132 ?_
              rw [show M14 22 v9 = (wU M10 20 k (nI b9)) 22 v9 from (congrFun (hI.1 22 (by decide)) v9)]
              refine wr_istN hx hb hK hw 21 (by omega) rfl (by decide) ((6 * k) + v9) rfl (by omega) dX9_run_133 (fun H locs hw => ?_)
              refine lv_iinc (v := nI (v9 + 1)) (lv' := [(5, .int (nI (v9 + 1))), (0, .ref (ad 0)), (3, .int (nI steps_n)), (4, .int (nI b9))]) hx hb dX9_run_134 hl (k := 3) rfl (nI_1 _) (by decide) rfl (fun ls hl => ?_)
              refine lv_goto (tgt := 105) hx hb dX9_run_137 (by decide) ?_
              exact ih15 (v9 + 1) (wU M14 21 ((6 * k) + v9) ((wU M10 20 k (nI b9)) 22 v9)) (va_up J 0 (rnM M (xIm M (M 22) seed 6) k).1.2) _ _ _ (by omega) ⟨lv_sub hl [1, 2, 3, 0] rfl, rfl, by omega, (Inm_s hI rfl)⟩ hw
      · have q9n : ¬ 6 ≤ k := fun z => q9 ((nI_leI (by omega) (by omega)).mpr z)
        refine lv_aload_n hx hb dX9_run_38 rfl (lv_at hl 0 rfl) ?_
        refine wr_gr hx hb hown hK hts iX9 (ci := 8) rfl 29 (by decide) f84 rfl hw 0 (by omega) 22 rfl rfl dX9_run_39 ?_
        refine lv_iload hx hb dX9_run_42 (lv_at hl 2 rfl) ?_
        refine lv_aload_n hx hb dX9_run_44 rfl (lv_at hl 0 rfl) ?_
        refine lv_aload_n hx hb dX9_run_45 rfl (lv_at hl 0 rfl) ?_
        refine wr_gr hx hb hown hK hts iX9 (ci := 8) rfl 10 (by decide) f38 rfl hw 0 (by omega) 9 rfl rfl dX9_run_46 ?_
        refine lv_iload hx hb dX9_run_49 (lv_at hl 2 rfl) ?_
        refine wr_ildN hx hb hK hw 9 (by omega) rfl (by decide) k rfl (by omega) dX9_run_51 ?_
        rw [show M7 9 k = M 9 k from (congrFun ((hI.1 9 (by decide)).trans (wU_ne (by decide))) k)]
        refine lv_aload_n hx hb dX9_run_52 rfl (lv_at hl 0 rfl) ?_
        refine wr_gr hx hb hown hK hts iX9 (ci := 8) rfl 11 (by decide) f41 rfl hw 0 (by omega) 10 rfl rfl dX9_run_53 ?_
        refine lv_iload hx hb dX9_run_56 (lv_at hl 2 rfl) ?_
        refine wr_ildN hx hb hK hw 10 (by omega) rfl (by decide) k rfl (by omega) dX9_run_58 ?_
        rw [show M7 10 k = M 10 k from (congrFun ((hI.1 10 (by decide)).trans (wU_ne (by decide))) k)]
        refine wr_cVi (k := 0) (ci := 8) (As := [.int (M 9 k), .int (M 10 k)]) (rest := [.int (nI k), .ref (ad 22)]) ⟨hx, hb, hml, hown, hts⟩ (cwV 2 hts gX9_run_X9_draw rfl rfl rfl (by decide +kernel) ⟨Nat.le_of_ble_eq_true rfl, Nat.le_of_ble_eq_true rfl⟩) hK hA hw (k_X9_draw l D ad cs H.size M7 (va_up J 0 (xIm M (M 22) seed k).2) (M 9 k) (M 10 k) (hX.1 k (by omega))) (by omega) rfl rfl rfl rfl hl.1 (Nat.le_of_ble_eq_true rfl) ⟨Nat.le_of_ble_eq_true rfl, Nat.le_of_ble_eq_true rfl⟩ dX9_run_59 (fun r31 M32 J33 H locs h34 hw => ?_)
        obtain ⟨h34u, h34r⟩ := h34
        have h34a : (va_up J 0 (xIm M (M 22) seed k).2) 0 = (xIm M (M 22) seed k).2 := va_up_self _ _ _
        rw [h34a] at h34u h34r
        rw [J_up] at h34u
        cases h34u
        rw [h34r]
        refine wr_istN hx hb hK hw 22 (by omega) rfl (by decide) k rfl (by omega) dX9_run_62 (fun H locs hw => ?_)
        refine lv_iinc (v := nI (k + 1)) (lv' := [(4, .int (nI (k + 1))), (0, .ref (ad 0)), (3, .int (nI steps_n))]) hx hb dX9_run_63 hl (k := 2) rfl (nI_1 _) (by decide) rfl (fun ls hl => ?_)
        refine lv_goto (tgt := 31) hx hb dX9_run_66 (by decide) ?_
        exact ih8 (k + 1) (wU M7 22 k (drw (xIm M (M 22) seed k).2 (M 9 k) (M 10 k))) (va_up J 0 (rnx (xIm M (M 22) seed k).2)) _ _ _ (by omega) ⟨lv_sub hl [1, 2, 0] rfl, rfl, by omega, Ixi_s hI⟩ hw
    · skip
      refine lv_aload_n hx hb dX9_run_17 rfl (lv_at hl 0 rfl) ?_
      refine lv_iconst (v := nI 1) hx hb dX9_run_18 (by decide) ?_
      refine wr_cVi (k := 0) (ci := 8) (As := [.int (nI 1)]) (rest := []) ⟨hx, hb, hml, hown, hts⟩ (cwV 1 hts gX9_run_X9_fail rfl rfl rfl (by decide +kernel) ⟨Nat.le_of_ble_eq_true rfl, Nat.le_of_ble_eq_true rfl⟩) hK hA hw (k_X9_fail l D ad cs H.size (wU M 0 0 (nI 0)) J (nI 1) ) (by omega) rfl rfl rfl rfl hl.1 (Nat.le_of_ble_eq_true rfl) ⟨Nat.le_of_ble_eq_true rfl, Nat.le_of_ble_eq_true rfl⟩ dX9_run_19 (fun r35 M36 J37 H locs h38 hw => ?_)
      obtain ⟨h38, rfl⟩ := h38
      cases h38
      exact wr_iret hx hb hr rfl hK hw (Or.inr ⟨nS_2 q6, rfl, rfl⟩) hlocks dX9_run_22
set_option maxHeartbeats 4000000 in
set_option maxRecDepth 100000 in
theorem k_X9_enteredBlock (l : Launch) (D : va_G) (ad : Nat → Nat) (cs : Nat → ClassId) (sz : Nat) (M : wM) (J : wJ) (st : Int32) (sc : Nat) (hsc : M 0 26 = nI sc) (hsc3 : sc ≤ 300) : wCi l yX9_enteredBlock wsX9_enteredBlock { frames := 1, cells := 0, slots := 0, locals := 21 } D 23 mSh ad cs [.ref (ad 0), .int st] sz M J (fun r_ u_ => (inB st sc ∧ u_ = (wU M 0 0 (nI 0), J) ∧ r_ = M 20 (tn st)) ∨ (¬ inB st sc ∧ u_ = ((wU (wU M 0 0 (nI 0)) 0 0 (nI 1)), J) ∧ r_ = nI 0)) := by
  refine wC_i (cc := cX9_enteredBlock) (maxL := 2) (ret := (some .int)) (by decide) rfl (Nat.le_of_ble_eq_true rfl) ?_
  intro p e s m below meth c ls A hx hb hr hml hown hts hlocks hK hA hw hl hAe
  clear hAe
  have hl : lv_has ls 2 [(0, .ref (ad 0)), (1, .int st)] := hl
  have f87 : (Cond.fieldLink RX9 87 "RangePropagatorModel" "thrown" "I").before _ s = true := hts _ (by decide +kernel)
  have iX9 : ∀ w ∈ wsX90, w ∈ wsX9_enteredBlock := by decide +kernel
  have f203 : (Cond.fieldLink RX9 203 "RangePropagatorModel" "steps" "I").before _ s = true := hts _ (by decide +kernel)
  have f78 : (Cond.fieldLink RX9 78 "RangePropagatorModel" "entered" "[I").before _ s = true := hts _ (by decide +kernel)
  refine lv_aload_n hx hb dX9_enteredBlock_0 rfl (lv_at hl 0 rfl) ?_
  refine lv_iconst (v := nI 0) hx hb dX9_enteredBlock_1 (by decide) ?_
  refine wr_pi hx hb hown hK hts iX9 tyX9_ok nmX9 (ci := 8) rfl 0 (by decide) f87 rfl rfl hw 0 (by omega) rfl rfl rfl rfl dX9_enteredBlock_2 (fun H locs hw => ?_)
  refine lv_iload_n hx hb dX9_enteredBlock_5 rfl (lv_at hl 1 rfl) ?_
  refine lv_if_lt (tgt := 26) hx hb dX9_enteredBlock_6 (by decide) (fun q1 => ?_) (fun q1 => ?_)
  · skip
    refine lv_aload_n hx hb dX9_enteredBlock_26 rfl (lv_at hl 0 rfl) ?_
    refine lv_iconst (v := nI 1) hx hb dX9_enteredBlock_27 (by decide) ?_
    refine wr_cVi (k := 0) (ci := 8) (As := [.int (nI 1)]) (rest := []) ⟨hx, hb, hml, hown, hts⟩ (cwV 1 hts gX9_enteredBlock_X9_fail rfl rfl rfl (by decide +kernel) ⟨Nat.le_of_ble_eq_true rfl, Nat.le_of_ble_eq_true rfl⟩) hK hA hw (k_X9_fail l D ad cs H.size (wU M 0 0 (nI 0)) J (nI 1) ) (by omega) rfl rfl rfl rfl hl.1 (Nat.le_of_ble_eq_true rfl) ⟨Nat.le_of_ble_eq_true rfl, Nat.le_of_ble_eq_true rfl⟩ dX9_enteredBlock_28 (fun r2 M3 J4 H locs h5 hw => ?_)
    obtain ⟨h5, rfl⟩ := h5
    cases h5
    exact wr_iret hx hb hr rfl hK hw (Or.inr ⟨nB_1 q1 (by omega), rfl, rfl⟩) hlocks dX9_enteredBlock_31
  · skip
    refine lv_iload_n hx hb dX9_enteredBlock_9 rfl (lv_at hl 1 rfl) ?_
    refine lv_aload_n hx hb dX9_enteredBlock_10 rfl (lv_at hl 0 rfl) ?_
    refine wr_gi hx hb hown hK hts iX9 (ci := 8) rfl 26 (by decide) f203 rfl hw 0 (by omega) rfl rfl dX9_enteredBlock_11 ?_
    rw [show (wU M 0 0 (nI 0)) 0 26 = nI sc from ((by rw [wU_at, if_neg (by decide)]; exact hsc))]
    refine lv_icmp_ge (tgt := 26) hx hb dX9_enteredBlock_14 (by decide) (fun q6 => ?_) (fun q6 => ?_)
    · skip
      refine lv_aload_n hx hb dX9_enteredBlock_26 rfl (lv_at hl 0 rfl) ?_
      refine lv_iconst (v := nI 1) hx hb dX9_enteredBlock_27 (by decide) ?_
      refine wr_cVi (k := 0) (ci := 8) (As := [.int (nI 1)]) (rest := []) ⟨hx, hb, hml, hown, hts⟩ (cwV 1 hts gX9_enteredBlock_X9_fail rfl rfl rfl (by decide +kernel) ⟨Nat.le_of_ble_eq_true rfl, Nat.le_of_ble_eq_true rfl⟩) hK hA hw (k_X9_fail l D ad cs H.size (wU M 0 0 (nI 0)) J (nI 1) ) (by omega) rfl rfl rfl rfl hl.1 (Nat.le_of_ble_eq_true rfl) ⟨Nat.le_of_ble_eq_true rfl, Nat.le_of_ble_eq_true rfl⟩ dX9_enteredBlock_28 (fun r7 M8 J9 H locs h10 hw => ?_)
      obtain ⟨h10, rfl⟩ := h10
      cases h10
      exact wr_iret hx hb hr rfl hK hw (Or.inr ⟨nB_2 (fun z => nle_lt z q6) (by omega), rfl, rfl⟩) hlocks dX9_enteredBlock_31
    · obtain ⟨st_n, st_h, rfl⟩ := inB_of q1 (lt_nle q6) (by omega)
      refine lv_aload_n hx hb dX9_enteredBlock_17 rfl (lv_at hl 0 rfl) ?_
      refine wr_gr hx hb hown hK hts iX9 (ci := 8) rfl 27 (by decide) f78 rfl hw 0 (by omega) 20 rfl rfl dX9_enteredBlock_18 ?_
      refine lv_iload_n hx hb dX9_enteredBlock_21 rfl (lv_at hl 1 rfl) ?_
      refine wr_ildN hx hb hK hw 20 (by omega) rfl (by decide) st_n rfl (by omega) dX9_enteredBlock_22 ?_
      rw [show (wU M 0 0 (nI 0)) 20 st_n = M 20 st_n from (congrFun (wU_ne (by decide)) _)]
      refine lv_goto (tgt := 31) hx hb dX9_enteredBlock_23 (by decide) ?_
      exact wr_iret hx hb hr rfl hK hw (Or.inl ⟨⟨st_n, st_h, rfl⟩, rfl, (by rw [tn_nI (by omega)])⟩) hlocks dX9_enteredBlock_31
set_option maxHeartbeats 4000000 in
set_option maxRecDepth 100000 in
theorem k_X9_enteredWith (l : Launch) (D : va_G) (ad : Nat → Nat) (cs : Nat → ClassId) (sz : Nat) (M : wM) (J : wJ) (st : Int32) (v : Int32) (sc : Nat) (hsc : M 0 26 = nI sc) (hsc3 : sc ≤ 300) : wCi l yX9_enteredWith wsX9_enteredWith { frames := 1, cells := 0, slots := 0, locals := 21 } D 23 mSh ad cs [.ref (ad 0), .int st, .int v] sz M J (fun r_ u_ => (inB st sc ∧ inB v 6 ∧ u_ = (wU M 0 0 (nI 0), J) ∧ r_ = M 21 ((6 * tn st) + tn v)) ∨ (¬ (inB st sc ∧ inB v 6) ∧ u_ = ((wU (wU M 0 0 (nI 0)) 0 0 (nI 1)), J) ∧ r_ = nI 0)) := by
  refine wC_i (cc := cX9_enteredWith) (maxL := 3) (ret := (some .int)) (by decide) rfl (Nat.le_of_ble_eq_true rfl) ?_
  intro p e s m below meth c ls A hx hb hr hml hown hts hlocks hK hA hw hl hAe
  clear hAe
  have hl : lv_has ls 3 [(0, .ref (ad 0)), (1, .int st), (2, .int v)] := hl
  have f87 : (Cond.fieldLink RX9 87 "RangePropagatorModel" "thrown" "I").before _ s = true := hts _ (by decide +kernel)
  have iX9 : ∀ w ∈ wsX90, w ∈ wsX9_enteredWith := by decide +kernel
  have f203 : (Cond.fieldLink RX9 203 "RangePropagatorModel" "steps" "I").before _ s = true := hts _ (by decide +kernel)
  have f81 : (Cond.fieldLink RX9 81 "RangePropagatorModel" "enteredWith" "[I").before _ s = true := hts _ (by decide +kernel)
  refine lv_aload_n hx hb dX9_enteredWith_0 rfl (lv_at hl 0 rfl) ?_
  refine lv_iconst (v := nI 0) hx hb dX9_enteredWith_1 (by decide) ?_
  refine wr_pi hx hb hown hK hts iX9 tyX9_ok nmX9 (ci := 8) rfl 0 (by decide) f87 rfl rfl hw 0 (by omega) rfl rfl rfl rfl dX9_enteredWith_2 (fun H locs hw => ?_)
  refine lv_iload_n hx hb dX9_enteredWith_5 rfl (lv_at hl 1 rfl) ?_
  refine lv_if_lt (tgt := 38) hx hb dX9_enteredWith_6 (by decide) (fun q1 => ?_) (fun q1 => ?_)
  · skip
    refine lv_aload_n hx hb dX9_enteredWith_38 rfl (lv_at hl 0 rfl) ?_
    refine lv_iconst (v := nI 1) hx hb dX9_enteredWith_39 (by decide) ?_
    refine wr_cVi (k := 0) (ci := 8) (As := [.int (nI 1)]) (rest := []) ⟨hx, hb, hml, hown, hts⟩ (cwV 1 hts gX9_enteredWith_X9_fail rfl rfl rfl (by decide +kernel) ⟨Nat.le_of_ble_eq_true rfl, Nat.le_of_ble_eq_true rfl⟩) hK hA hw (k_X9_fail l D ad cs H.size (wU M 0 0 (nI 0)) J (nI 1) ) (by omega) rfl rfl rfl rfl hl.1 (Nat.le_of_ble_eq_true rfl) ⟨Nat.le_of_ble_eq_true rfl, Nat.le_of_ble_eq_true rfl⟩ dX9_enteredWith_40 (fun r2 M3 J4 H locs h5 hw => ?_)
    obtain ⟨h5, rfl⟩ := h5
    cases h5
    exact wr_iret hx hb hr rfl hK hw (Or.inr ⟨fun z => absurd z.1 (nB_1 q1 (by omega)), rfl, rfl⟩) hlocks dX9_enteredWith_43
  · skip
    refine lv_iload_n hx hb dX9_enteredWith_9 rfl (lv_at hl 1 rfl) ?_
    refine lv_aload_n hx hb dX9_enteredWith_10 rfl (lv_at hl 0 rfl) ?_
    refine wr_gi hx hb hown hK hts iX9 (ci := 8) rfl 26 (by decide) f203 rfl hw 0 (by omega) rfl rfl dX9_enteredWith_11 ?_
    rw [show (wU M 0 0 (nI 0)) 0 26 = nI sc from ((by rw [wU_at, if_neg (by decide)]; exact hsc))]
    refine lv_icmp_ge (tgt := 38) hx hb dX9_enteredWith_14 (by decide) (fun q6 => ?_) (fun q6 => ?_)
    · skip
      refine lv_aload_n hx hb dX9_enteredWith_38 rfl (lv_at hl 0 rfl) ?_
      refine lv_iconst (v := nI 1) hx hb dX9_enteredWith_39 (by decide) ?_
      refine wr_cVi (k := 0) (ci := 8) (As := [.int (nI 1)]) (rest := []) ⟨hx, hb, hml, hown, hts⟩ (cwV 1 hts gX9_enteredWith_X9_fail rfl rfl rfl (by decide +kernel) ⟨Nat.le_of_ble_eq_true rfl, Nat.le_of_ble_eq_true rfl⟩) hK hA hw (k_X9_fail l D ad cs H.size (wU M 0 0 (nI 0)) J (nI 1) ) (by omega) rfl rfl rfl rfl hl.1 (Nat.le_of_ble_eq_true rfl) ⟨Nat.le_of_ble_eq_true rfl, Nat.le_of_ble_eq_true rfl⟩ dX9_enteredWith_40 (fun r7 M8 J9 H locs h10 hw => ?_)
      obtain ⟨h10, rfl⟩ := h10
      cases h10
      exact wr_iret hx hb hr rfl hK hw (Or.inr ⟨fun z => absurd z.1 (nB_2 (fun z => nle_lt z q6) (by omega)), rfl, rfl⟩) hlocks dX9_enteredWith_43
    · obtain ⟨st_n, st_h, rfl⟩ := inB_of q1 (lt_nle q6) (by omega)
      refine lv_iload_n hx hb dX9_enteredWith_17 rfl (lv_at hl 2 rfl) ?_
      refine wr_cSi (As := [.int v]) (rest := []) ⟨hx, hb, hml, hown, hts⟩ (va_cwS 1 hts gX9_enteredWith_X9_isVariable rfl rfl rfl (by decide +kernel) ⟨Nat.le_of_ble_eq_true rfl, Nat.le_of_ble_eq_true rfl⟩) hK hA hw (k_X9_isVariable l D ad cs H.size (wU M 0 0 (nI 0)) J v ) rfl rfl hl.1 (Nat.le_of_ble_eq_true rfl) ⟨Nat.le_of_ble_eq_true rfl, Nat.le_of_ble_eq_true rfl⟩ dX9_enteredWith_18 (fun r11 M12 J13 H locs h14 hw => ?_)
      obtain ⟨h14u, h14z, h14i⟩ := h14
      cases h14u
      refine lv_if_eq (tgt := 38) hx hb dX9_enteredWith_21 (by decide) (fun q15 => ?_) (fun q15 => ?_)
      · have v_no := (fun z => (h14i.mpr z) q15)
        refine lv_aload_n hx hb dX9_enteredWith_38 rfl (lv_at hl 0 rfl) ?_
        refine lv_iconst (v := nI 1) hx hb dX9_enteredWith_39 (by decide) ?_
        refine wr_cVi (k := 0) (ci := 8) (As := [.int (nI 1)]) (rest := []) ⟨hx, hb, hml, hown, hts⟩ (cwV 1 hts gX9_enteredWith_X9_fail rfl rfl rfl (by decide +kernel) ⟨Nat.le_of_ble_eq_true rfl, Nat.le_of_ble_eq_true rfl⟩) hK hA hw (k_X9_fail l D ad cs H.size (wU M 0 0 (nI 0)) J (nI 1) ) (by omega) rfl rfl rfl rfl hl.1 (Nat.le_of_ble_eq_true rfl) ⟨Nat.le_of_ble_eq_true rfl, Nat.le_of_ble_eq_true rfl⟩ dX9_enteredWith_40 (fun r16 M17 J18 H locs h19 hw => ?_)
        obtain ⟨h19, rfl⟩ := h19
        cases h19
        exact wr_iret hx hb hr rfl hK hw (Or.inr ⟨fun z => v_no z.2, rfl, rfl⟩) hlocks dX9_enteredWith_43
      · obtain ⟨v_n, v_h, rfl⟩ := h14i.mp q15
        refine lv_aload_n hx hb dX9_enteredWith_24 rfl (lv_at hl 0 rfl) ?_
        refine wr_gr hx hb hown hK hts iX9 (ci := 8) rfl 28 (by decide) f81 rfl hw 0 (by omega) 21 rfl rfl dX9_enteredWith_25 ?_
        refine lv_bipush (v := nI 6) hx hb dX9_enteredWith_28 (by decide) ?_
        refine lv_iload_n hx hb dX9_enteredWith_30 rfl (lv_at hl 1 rfl) ?_
        refine lv_imulN hx hb dX9_enteredWith_31 ?_
        refine lv_iload_n hx hb dX9_enteredWith_32 rfl (lv_at hl 2 rfl) ?_
        refine lv_iaddN hx hb dX9_enteredWith_33 ?_
        refine wr_ildN hx hb hK hw 21 (by omega) rfl (by decide) ((6 * st_n) + v_n) rfl (by omega) dX9_enteredWith_34 ?_
        rw [show (wU M 0 0 (nI 0)) 21 ((6 * st_n) + v_n) = M 21 ((6 * st_n) + v_n) from (congrFun (wU_ne (by decide)) _)]
        refine lv_goto (tgt := 43) hx hb dX9_enteredWith_35 (by decide) ?_
        exact wr_iret hx hb hr rfl hK hw (Or.inl ⟨⟨st_n, st_h, rfl⟩, ⟨v_n, v_h, rfl⟩, rfl, (by rw [tn_nI (by omega), tn_nI (by omega)])⟩) hlocks dX9_enteredWith_43
set_option maxHeartbeats 4000000 in
set_option maxRecDepth 100000 in
theorem k_X9_result (l : Launch) (D : va_G) (ad : Nat → Nat) (cs : Nat → ClassId) (sz : Nat) (M : wM) (J : wJ) (v : Int32)  : wCi l yX9_result wsX9_result { frames := 1, cells := 0, slots := 0, locals := 21 } D 23 mSh ad cs [.ref (ad 0), .int v] sz M J (fun r_ u_ => (inB v 6 ∧ u_ = (wU M 0 0 (nI 0), J) ∧ r_ = M 22 (tn v)) ∨ (¬ inB v 6 ∧ u_ = ((wU (wU M 0 0 (nI 0)) 0 0 (nI 1)), J) ∧ r_ = nI 0)) := by
  refine wC_i (cc := cX9_result) (maxL := 2) (ret := (some .int)) (by decide) rfl (Nat.le_of_ble_eq_true rfl) ?_
  intro p e s m below meth c ls A hx hb hr hml hown hts hlocks hK hA hw hl hAe
  clear hAe
  have hl : lv_has ls 2 [(0, .ref (ad 0)), (1, .int v)] := hl
  have f87 : (Cond.fieldLink RX9 87 "RangePropagatorModel" "thrown" "I").before _ s = true := hts _ (by decide +kernel)
  have iX9 : ∀ w ∈ wsX90, w ∈ wsX9_result := by decide +kernel
  have f84 : (Cond.fieldLink RX9 84 "RangePropagatorModel" "results" "[I").before _ s = true := hts _ (by decide +kernel)
  refine lv_aload_n hx hb dX9_result_0 rfl (lv_at hl 0 rfl) ?_
  refine lv_iconst (v := nI 0) hx hb dX9_result_1 (by decide) ?_
  refine wr_pi hx hb hown hK hts iX9 tyX9_ok nmX9 (ci := 8) rfl 0 (by decide) f87 rfl rfl hw 0 (by omega) rfl rfl rfl rfl dX9_result_2 (fun H locs hw => ?_)
  refine lv_iload_n hx hb dX9_result_5 rfl (lv_at hl 1 rfl) ?_
  refine wr_cSi (As := [.int v]) (rest := []) ⟨hx, hb, hml, hown, hts⟩ (va_cwS 1 hts gX9_result_X9_isVariable rfl rfl rfl (by decide +kernel) ⟨Nat.le_of_ble_eq_true rfl, Nat.le_of_ble_eq_true rfl⟩) hK hA hw (k_X9_isVariable l D ad cs H.size (wU M 0 0 (nI 0)) J v ) rfl rfl hl.1 (Nat.le_of_ble_eq_true rfl) ⟨Nat.le_of_ble_eq_true rfl, Nat.le_of_ble_eq_true rfl⟩ dX9_result_6 (fun r1 M2 J3 H locs h4 hw => ?_)
  obtain ⟨h4u, h4z, h4i⟩ := h4
  cases h4u
  refine lv_if_eq (tgt := 21) hx hb dX9_result_9 (by decide) (fun q5 => ?_) (fun q5 => ?_)
  · have v_no := (fun z => (h4i.mpr z) q5)
    refine lv_aload_n hx hb dX9_result_21 rfl (lv_at hl 0 rfl) ?_
    refine lv_iconst (v := nI 1) hx hb dX9_result_22 (by decide) ?_
    refine wr_cVi (k := 0) (ci := 8) (As := [.int (nI 1)]) (rest := []) ⟨hx, hb, hml, hown, hts⟩ (cwV 1 hts gX9_result_X9_fail rfl rfl rfl (by decide +kernel) ⟨Nat.le_of_ble_eq_true rfl, Nat.le_of_ble_eq_true rfl⟩) hK hA hw (k_X9_fail l D ad cs H.size (wU M 0 0 (nI 0)) J (nI 1) ) (by omega) rfl rfl rfl rfl hl.1 (Nat.le_of_ble_eq_true rfl) ⟨Nat.le_of_ble_eq_true rfl, Nat.le_of_ble_eq_true rfl⟩ dX9_result_23 (fun r6 M7 J8 H locs h9 hw => ?_)
    obtain ⟨h9, rfl⟩ := h9
    cases h9
    exact wr_iret hx hb hr rfl hK hw (Or.inr ⟨v_no, rfl, rfl⟩) hlocks dX9_result_26
  · obtain ⟨v_n, v_h, rfl⟩ := h4i.mp q5
    refine lv_aload_n hx hb dX9_result_12 rfl (lv_at hl 0 rfl) ?_
    refine wr_gr hx hb hown hK hts iX9 (ci := 8) rfl 29 (by decide) f84 rfl hw 0 (by omega) 22 rfl rfl dX9_result_13 ?_
    refine lv_iload_n hx hb dX9_result_16 rfl (lv_at hl 1 rfl) ?_
    refine wr_ildN hx hb hK hw 22 (by omega) rfl (by decide) v_n rfl (by omega) dX9_result_17 ?_
    rw [show (wU M 0 0 (nI 0)) 22 v_n = M 22 v_n from (congrFun (wU_ne (by decide)) _)]
    refine lv_goto (tgt := 26) hx hb dX9_result_18 (by decide) ?_
    exact wr_iret hx hb hr rfl hK hw (Or.inl ⟨⟨v_n, v_h, rfl⟩, rfl, (by rw [tn_nI (by omega)])⟩) hlocks dX9_result_26
set_option maxHeartbeats 4000000 in
set_option maxRecDepth 100000 in
theorem k_X9_digest (l : Launch) (D : va_G) (ad : Nat → Nat) (cs : Nat → ClassId) (sz : Nat) (M : wM) (J : wJ) (cnt : Nat) (hn : M 0 1 = nI cnt) (hn16 : cnt ≤ 16) : wCl l yX9_digest wsX9_digest { frames := 0, cells := 0, slots := 0, locals := 0 } D 23 mSh ad cs [.ref (ad 0)] sz M J (fun r_ u_ => u_ = (wU M 0 0 (nI 0), J) ∧ r_ = gX M cnt) := by
  refine wC_l (cc := cX9_digest) (maxL := 5) (ret := (some .long)) (by decide) rfl (Nat.le_of_ble_eq_true rfl) ?_
  intro p e s m below meth c ls A hx hb hr hml hown hts hlocks hK hA hw hl hAe
  clear hAe
  have hl : lv_has ls 5 [(0, .ref (ad 0))] := hl
  have f87 : (Cond.fieldLink RX9 87 "RangePropagatorModel" "thrown" "I").before _ s = true := hts _ (by decide +kernel)
  have iX9 : ∀ w ∈ wsX90, w ∈ wsX9_digest := by decide +kernel
  have k212 : (Cond.constantLong RX9 212 (2759)).before _ s = true := hts _ (by decide +kernel)
  have f7 : (Cond.fieldLink RX9 7 "RangePropagatorModel" "blocks" "I").before _ s = true := hts _ (by decide +kernel)
  have k214 : (Cond.constantLong RX9 214 (31)).before _ s = true := hts _ (by decide +kernel)
  have f44 : (Cond.fieldLink RX9 44 "RangePropagatorModel" "delay" "I").before _ s = true := hts _ (by decide +kernel)
  have f47 : (Cond.fieldLink RX9 47 "RangePropagatorModel" "narrowings" "I").before _ s = true := hts _ (by decide +kernel)
  have f119 : (Cond.fieldLink RX9 119 "RangePropagatorModel" "thresholds" "I").before _ s = true := hts _ (by decide +kernel)
  have f84 : (Cond.fieldLink RX9 84 "RangePropagatorModel" "results" "[I").before _ s = true := hts _ (by decide +kernel)
  have f96 : (Cond.fieldLink RX9 96 "RangePropagatorModel" "isMade" "Z").before _ s = true := hts _ (by decide +kernel)
  have f63 : (Cond.fieldLink RX9 63 "RangePropagatorModel" "visits" "[I").before _ s = true := hts _ (by decide +kernel)
  have f53 : (Cond.fieldLink RX9 53 "RangePropagatorModel" "isThere" "[Z").before _ s = true := hts _ (by decide +kernel)
  have f57 : (Cond.fieldLink RX9 57 "RangePropagatorModel" "lows" "[I").before _ s = true := hts _ (by decide +kernel)
  have f60 : (Cond.fieldLink RX9 60 "RangePropagatorModel" "highs" "[I").before _ s = true := hts _ (by decide +kernel)
  have f13 : (Cond.fieldLink RX9 13 "RangePropagatorModel" "sizes" "[I").before _ s = true := hts _ (by decide +kernel)
  have f20 : (Cond.fieldLink RX9 20 "RangePropagatorModel" "edges" "[I").before _ s = true := hts _ (by decide +kernel)
  refine lv_aload_n hx hb dX9_digest_0 rfl (lv_at hl 0 rfl) ?_
  refine lv_iconst (v := nI 0) hx hb dX9_digest_1 (by decide) ?_
  refine wr_pi hx hb hown hK hts iX9 tyX9_ok nmX9 (ci := 8) rfl 0 (by decide) f87 rfl rfl hw 0 (by omega) rfl rfl rfl rfl dX9_digest_2 (fun H locs hw => ?_)
  refine lv_ldc2 hx hb hown k212 dX9_digest_5 ?_
  refine lv_aload_n hx hb dX9_digest_8 rfl (lv_at hl 0 rfl) ?_
  refine wr_gi hx hb hown hK hts iX9 (ci := 8) rfl 1 (by decide) f7 rfl hw 0 (by omega) rfl rfl dX9_digest_9 ?_
  rw [show (wU M 0 0 (nI 0)) 0 1 = nI cnt from (by rw [wU_at, if_neg (by decide)]; exact hn)]
  refine lv_i2l hx hb dX9_digest_12 rfl ?_
  refine lv_ladd hx hb dX9_digest_13 ?_
  refine lv_lstore_n (lv' := [(1, .long ((((2759 : Int64)) + ((nI cnt).toInt64)))), (0, .ref (ad 0))]) hx hb dX9_digest_14 rfl hl (by decide) rfl (fun ls hl => ?_)
  refine lv_iconst (v := nI 0) hx hb dX9_digest_15 (by decide) ?_
  refine lv_istore_n (lv' := [(3, .int (nI 0)), (1, .long ((((2759 : Int64)) + ((nI cnt).toInt64)))), (0, .ref (ad 0))]) hx hb dX9_digest_16 rfl hl (by decide) rfl (fun ls hl => ?_)
  refine w_loop (σ := Nat) (fun k M' J' ls => lv_has ls 5 [(0, .ref (ad 0)), (1, .long (gP M (2759 + (nI cnt).toInt64) k)), (3, .int (nI k))] ∧ J' = J ∧ k ≤ cnt ∧ M' = (wU M 0 0 (nI 0)) ∧ True) (fun k => cnt - k) (fun k M1 J1_ H locs ls hI hw ih2 => ?_) 0 ⟨lv_sub hl [2, 1, 0] rfl, rfl, by omega, rfl, trivial⟩ hw
  obtain ⟨hl, eJ_, hk_, hI⟩ := hI
  rw [eJ_] at hw
  clear eJ_
  obtain ⟨eM_, hI⟩ := hI
  rw [eM_] at hw
  clear eM_
  refine lv_iload_n hx hb dX9_digest_17 rfl (lv_at hl 2 rfl) ?_
  refine lv_aload_n hx hb dX9_digest_18 rfl (lv_at hl 0 rfl) ?_
  refine wr_gi hx hb hown hK hts iX9 (ci := 8) rfl 1 (by decide) f7 rfl hw 0 (by omega) rfl rfl dX9_digest_19 ?_
  rw [show (wU M 0 0 (nI 0)) 0 1 = nI cnt from (by rw [wU_at, if_neg (by decide)]; exact hn)]
  refine lv_icmp_ge (tgt := 57) hx hb dX9_digest_22 (by decide) (fun q3 => ?_) (fun q3 => ?_)
  · have q3n : cnt ≤ k := (nI_leI (by omega) (by omega)).mp q3
    refine lv_lload_n hx hb dX9_digest_57 rfl (lv_at hl 1 rfl) ?_
    refine lv_ldc2 hx hb hown k214 dX9_digest_58 ?_
    refine lv_lmul hx hb dX9_digest_61 ?_
    refine lv_aload_n hx hb dX9_digest_62 rfl (lv_at hl 0 rfl) ?_
    refine wr_gi hx hb hown hK hts iX9 (ci := 8) rfl 12 (by decide) f44 rfl hw 0 (by omega) rfl rfl dX9_digest_63 ?_
    rw [show (wU M 0 0 (nI 0)) 0 12 = M 0 12 from (by rw [wU_at, if_neg (by decide)])]
    refine lv_i2l hx hb dX9_digest_66 rfl ?_
    refine lv_ladd hx hb dX9_digest_67 ?_
    refine lv_ldc2 hx hb hown k214 dX9_digest_68 ?_
    refine lv_lmul hx hb dX9_digest_71 ?_
    refine lv_aload_n hx hb dX9_digest_72 rfl (lv_at hl 0 rfl) ?_
    refine wr_gi hx hb hown hK hts iX9 (ci := 8) rfl 13 (by decide) f47 rfl hw 0 (by omega) rfl rfl dX9_digest_73 ?_
    rw [show (wU M 0 0 (nI 0)) 0 13 = M 0 13 from (by rw [wU_at, if_neg (by decide)])]
    refine lv_i2l hx hb dX9_digest_76 rfl ?_
    refine lv_ladd hx hb dX9_digest_77 ?_
    refine lv_ldc2 hx hb hown k214 dX9_digest_78 ?_
    refine lv_lmul hx hb dX9_digest_81 ?_
    refine lv_aload_n hx hb dX9_digest_82 rfl (lv_at hl 0 rfl) ?_
    refine wr_gi hx hb hown hK hts iX9 (ci := 8) rfl 14 (by decide) f119 rfl hw 0 (by omega) rfl rfl dX9_digest_83 ?_
    rw [show (wU M 0 0 (nI 0)) 0 14 = M 0 14 from (by rw [wU_at, if_neg (by decide)])]
    refine lv_i2l hx hb dX9_digest_86 rfl ?_
    refine lv_ladd hx hb dX9_digest_87 ?_
    refine lv_lstore_n (lv' := [(1, .long (((((((((((((gP M (2759 + (nI cnt).toInt64) k) * ((31 : Int64)))) + ((M 0 12).toInt64))) * ((31 : Int64)))) + ((M 0 13).toInt64))) * ((31 : Int64)))) + ((M 0 14).toInt64)))), (0, .ref (ad 0)), (3, .int (nI k))]) hx hb dX9_digest_88 rfl hl (by decide) rfl (fun ls hl => ?_)
    refine lv_iconst (v := nI 0) hx hb dX9_digest_89 (by decide) ?_
    refine lv_istore_n (lv' := [(3, .int (nI 0)), (1, .long (((((((((((((gP M (2759 + (nI cnt).toInt64) k) * ((31 : Int64)))) + ((M 0 12).toInt64))) * ((31 : Int64)))) + ((M 0 13).toInt64))) * ((31 : Int64)))) + ((M 0 14).toInt64)))), (0, .ref (ad 0))]) hx hb dX9_digest_90 rfl hl (by decide) rfl (fun ls hl => ?_)
    refine w_loop (σ := Nat) (fun k2 M' J' ls => lv_has ls 5 [(0, .ref (ad 0)), (1, .long ((gA M (g1 M cnt) k2))), (3, .int (nI k2))] ∧ J' = J ∧ k2 ≤ cnt ∧ M' = (wU M 0 0 (nI 0)) ∧ (M 0 16 = 0 → k2 = 0)) (fun k2 => cnt - k2) (fun k2 M4 J1_ H locs ls hI hw ih5 => ?_) 0 ⟨(by have e9 : k = cnt := (by omega); rw [e9] at hl; exact lv_sub hl [2, 1, 0] rfl), rfl, by omega, rfl, (fun _ => rfl)⟩ hw
    obtain ⟨hl, eJ_, hk_, hI⟩ := hI
    rw [eJ_] at hw
    clear eJ_
    obtain ⟨eM_, hI⟩ := hI
    rw [eM_] at hw
    clear eM_
    refine lv_iload_n hx hb dX9_digest_91 rfl (lv_at hl 2 rfl) ?_
    refine lv_aload_n hx hb dX9_digest_92 rfl (lv_at hl 0 rfl) ?_
    refine wr_gi hx hb hown hK hts iX9 (ci := 8) rfl 1 (by decide) f7 rfl hw 0 (by omega) rfl rfl dX9_digest_93 ?_
    rw [show (wU M 0 0 (nI 0)) 0 1 = nI cnt from (by rw [wU_at, if_neg (by decide)]; exact hn)]
    refine lv_icmp_ge (tgt := 189) hx hb dX9_digest_96 (by decide) (fun q6 => ?_) (fun q6 => ?_)
    · have q6n : cnt ≤ k2 := (nI_leI (by omega) (by omega)).mp q6
      refine lv_iconst (v := nI 0) hx hb dX9_digest_189 (by decide) ?_
      refine lv_istore_n (lv' := [(3, .int (nI 0)), (0, .ref (ad 0)), (1, .long ((gA M (g1 M cnt) k2)))]) hx hb dX9_digest_190 rfl hl (by decide) rfl (fun ls hl => ?_)
      refine w_loop (σ := Nat) (fun v8 M' J' ls => lv_has ls 5 [(0, .ref (ad 0)), (1, .long (gV M (if M 0 16 = 0 then g1 M cnt else gA M (g1 M cnt) cnt) v8)), (3, .int (nI v8))] ∧ J' = J ∧ v8 ≤ 6 ∧ M' = (wU M 0 0 (nI 0)) ∧ True) (fun v8 => 6 - v8) (fun v8 M7 J1_ H locs ls hI hw ih8 => ?_) 0 ⟨(by have e9 : k2 = cnt := (by omega); show lv_has _ _ [_, (1, .long (if M 0 16 = 0 then g1 M cnt else gA M (g1 M cnt) cnt)), _]; rw [show (if M 0 16 = 0 then g1 M cnt else gA M (g1 M cnt) cnt) = gA M (g1 M cnt) k2 by by_cases z : M 0 16 = 0; (rw [if_pos z, hI z]; rfl); rw [if_neg z, e9]]; exact lv_sub hl [1, 2, 0] rfl), rfl, by omega, rfl, trivial⟩ hw
      obtain ⟨hl, eJ_, hk_, hI⟩ := hI
      rw [eJ_] at hw
      clear eJ_
      obtain ⟨eM_, hI⟩ := hI
      rw [eM_] at hw
      clear eM_
      refine lv_iload_n hx hb dX9_digest_191 rfl (lv_at hl 2 rfl) ?_
      refine lv_bipush (v := nI 6) hx hb dX9_digest_192 (by decide) ?_
      refine lv_icmp_ge (tgt := 217) hx hb dX9_digest_194 (by decide) (fun q9 => ?_) (fun q9 => ?_)
      · have q9n : 6 ≤ v8 := (nI_leI (by omega) (by omega)).mp q9
        refine lv_lload_n hx hb dX9_digest_217 rfl (lv_at hl 1 rfl) ?_
        exact wr_lret hx hb hr hK hw ⟨rfl, by have e : v8 = 6 := (by omega); unfold gX; rw [e]⟩ hlocks dX9_digest_218
      · have q9n : ¬ 6 ≤ v8 := fun z => q9 ((nI_leI (by omega) (by omega)).mpr z)
        refine lv_lload_n hx hb dX9_digest_197 rfl (lv_at hl 1 rfl) ?_
        refine lv_ldc2 hx hb hown k214 dX9_digest_198 ?_
        refine lv_lmul hx hb dX9_digest_201 ?_
        refine lv_aload_n hx hb dX9_digest_202 rfl (lv_at hl 0 rfl) ?_
        refine wr_gr hx hb hown hK hts iX9 (ci := 8) rfl 29 (by decide) f84 rfl hw 0 (by omega) 22 rfl rfl dX9_digest_203 ?_
        refine lv_iload_n hx hb dX9_digest_206 rfl (lv_at hl 2 rfl) ?_
        refine wr_ildN hx hb hK hw 22 (by omega) rfl (by decide) v8 rfl (by omega) dX9_digest_207 ?_
        rw [show (wU M 0 0 (nI 0)) 22 v8 = M 22 v8 from (congrFun (wU_ne (by decide)) _)]
        refine lv_i2l hx hb dX9_digest_208 rfl ?_
        refine lv_ladd hx hb dX9_digest_209 ?_
        refine lv_lstore_n (lv' := [(1, .long (((((gV M (if M 0 16 = 0 then g1 M cnt else gA M (g1 M cnt) cnt) v8) * ((31 : Int64)))) + ((M 22 v8).toInt64)))), (0, .ref (ad 0)), (3, .int (nI v8))]) hx hb dX9_digest_210 rfl hl (by decide) rfl (fun ls hl => ?_)
        refine lv_iinc (v := nI (v8 + 1)) (lv' := [(3, .int (nI (v8 + 1))), (1, .long (((((gV M (if M 0 16 = 0 then g1 M cnt else gA M (g1 M cnt) cnt) v8) * ((31 : Int64)))) + ((M 22 v8).toInt64)))), (0, .ref (ad 0))]) hx hb dX9_digest_211 hl (k := 2) rfl (nI_1 _) (by decide) rfl (fun ls hl => ?_)
        refine lv_goto (tgt := 191) hx hb dX9_digest_214 (by decide) ?_
        exact ih8 (v8 + 1) (wU M 0 0 (nI 0)) J _ _ _ (by omega) ⟨lv_sub hl [2, 1, 0] rfl, rfl, by omega, rfl, trivial⟩ hw
    · have q6n : ¬ cnt ≤ k2 := fun z => q6 ((nI_leI (by omega) (by omega)).mpr z)
      refine lv_aload_n hx hb dX9_digest_99 rfl (lv_at hl 0 rfl) ?_
      refine wr_gi hx hb hown hK hts iX9 (ci := 8) rfl 16 (by decide) f96 rfl hw 0 (by omega) rfl rfl dX9_digest_100 ?_
      rw [show (wU M 0 0 (nI 0)) 0 16 = M 0 16 from (by rw [wU_at, if_neg (by decide)])]
      refine lv_if_eq (tgt := 189) hx hb dX9_digest_103 (by decide) (fun q10 => ?_) (fun q10 => ?_)
      · skip
        refine lv_iconst (v := nI 0) hx hb dX9_digest_189 (by decide) ?_
        refine lv_istore_n (lv' := [(3, .int (nI 0)), (0, .ref (ad 0)), (1, .long ((gA M (g1 M cnt) k2)))]) hx hb dX9_digest_190 rfl hl (by decide) rfl (fun ls hl => ?_)
        refine w_loop (σ := Nat) (fun v8 M' J' ls => lv_has ls 5 [(0, .ref (ad 0)), (1, .long (gV M (if M 0 16 = 0 then g1 M cnt else gA M (g1 M cnt) cnt) v8)), (3, .int (nI v8))] ∧ J' = J ∧ v8 ≤ 6 ∧ M' = (wU M 0 0 (nI 0)) ∧ True) (fun v8 => 6 - v8) (fun v8 M11 J1_ H locs ls hI hw ih12 => ?_) 0 ⟨(by have e9 : k2 = 0 := hI q10; subst e9; show lv_has _ _ [_, (1, .long (if M 0 16 = 0 then g1 M cnt else gA M (g1 M cnt) cnt)), _]; rw [if_pos q10]; exact lv_sub hl [1, 2, 0] rfl), rfl, by omega, rfl, trivial⟩ hw
        obtain ⟨hl, eJ_, hk_, hI⟩ := hI
        rw [eJ_] at hw
        clear eJ_
        obtain ⟨eM_, hI⟩ := hI
        rw [eM_] at hw
        clear eM_
        refine lv_iload_n hx hb dX9_digest_191 rfl (lv_at hl 2 rfl) ?_
        refine lv_bipush (v := nI 6) hx hb dX9_digest_192 (by decide) ?_
        refine lv_icmp_ge (tgt := 217) hx hb dX9_digest_194 (by decide) (fun q13 => ?_) (fun q13 => ?_)
        · have q13n : 6 ≤ v8 := (nI_leI (by omega) (by omega)).mp q13
          refine lv_lload_n hx hb dX9_digest_217 rfl (lv_at hl 1 rfl) ?_
          exact wr_lret hx hb hr hK hw ⟨rfl, by have e : v8 = 6 := (by omega); unfold gX; rw [e]⟩ hlocks dX9_digest_218
        · have q13n : ¬ 6 ≤ v8 := fun z => q13 ((nI_leI (by omega) (by omega)).mpr z)
          refine lv_lload_n hx hb dX9_digest_197 rfl (lv_at hl 1 rfl) ?_
          refine lv_ldc2 hx hb hown k214 dX9_digest_198 ?_
          refine lv_lmul hx hb dX9_digest_201 ?_
          refine lv_aload_n hx hb dX9_digest_202 rfl (lv_at hl 0 rfl) ?_
          refine wr_gr hx hb hown hK hts iX9 (ci := 8) rfl 29 (by decide) f84 rfl hw 0 (by omega) 22 rfl rfl dX9_digest_203 ?_
          refine lv_iload_n hx hb dX9_digest_206 rfl (lv_at hl 2 rfl) ?_
          refine wr_ildN hx hb hK hw 22 (by omega) rfl (by decide) v8 rfl (by omega) dX9_digest_207 ?_
          rw [show (wU M 0 0 (nI 0)) 22 v8 = M 22 v8 from (congrFun (wU_ne (by decide)) _)]
          refine lv_i2l hx hb dX9_digest_208 rfl ?_
          refine lv_ladd hx hb dX9_digest_209 ?_
          refine lv_lstore_n (lv' := [(1, .long (((((gV M (if M 0 16 = 0 then g1 M cnt else gA M (g1 M cnt) cnt) v8) * ((31 : Int64)))) + ((M 22 v8).toInt64)))), (0, .ref (ad 0)), (3, .int (nI v8))]) hx hb dX9_digest_210 rfl hl (by decide) rfl (fun ls hl => ?_)
          refine lv_iinc (v := nI (v8 + 1)) (lv' := [(3, .int (nI (v8 + 1))), (1, .long (((((gV M (if M 0 16 = 0 then g1 M cnt else gA M (g1 M cnt) cnt) v8) * ((31 : Int64)))) + ((M 22 v8).toInt64)))), (0, .ref (ad 0))]) hx hb dX9_digest_211 hl (k := 2) rfl (nI_1 _) (by decide) rfl (fun ls hl => ?_)
          refine lv_goto (tgt := 191) hx hb dX9_digest_214 (by decide) ?_
          exact ih12 (v8 + 1) (wU M 0 0 (nI 0)) J _ _ _ (by omega) ⟨lv_sub hl [2, 1, 0] rfl, rfl, by omega, rfl, trivial⟩ hw
      · skip
        refine lv_lload_n hx hb dX9_digest_106 rfl (lv_at hl 1 rfl) ?_
        refine lv_ldc2 hx hb hown k214 dX9_digest_107 ?_
        refine lv_lmul hx hb dX9_digest_110 ?_
        refine lv_aload_n hx hb dX9_digest_111 rfl (lv_at hl 0 rfl) ?_
        refine wr_gr hx hb hown hK hts iX9 (ci := 8) rfl 20 (by decide) f63 rfl hw 0 (by omega) 15 rfl rfl dX9_digest_112 ?_
        refine lv_iload_n hx hb dX9_digest_115 rfl (lv_at hl 2 rfl) ?_
        refine wr_ildN hx hb hK hw 15 (by omega) rfl (by decide) k2 rfl (by omega) dX9_digest_116 ?_
        rw [show (wU M 0 0 (nI 0)) 15 k2 = M 15 k2 from (congrFun (wU_ne (by decide)) _)]
        refine lv_i2l hx hb dX9_digest_117 rfl ?_
        refine lv_ladd hx hb dX9_digest_118 ?_
        refine lv_lstore_n (lv' := [(1, .long ((((((gA M (g1 M cnt) k2)) * ((31 : Int64)))) + ((M 15 k2).toInt64)))), (0, .ref (ad 0)), (3, .int (nI k2))]) hx hb dX9_digest_119 rfl hl (by decide) rfl (fun ls hl => ?_)
        refine lv_iconst (v := nI 0) hx hb dX9_digest_120 (by decide) ?_
        refine lv_istore (lv' := [(4, .int (nI 0)), (1, .long ((((((gA M (g1 M cnt) k2)) * ((31 : Int64)))) + ((M 15 k2).toInt64)))), (0, .ref (ad 0)), (3, .int (nI k2))]) hx hb dX9_digest_121 hl (by decide) rfl (fun ls hl => ?_)
        refine w_loop (σ := Nat) (fun v9 M' J' ls => lv_has ls 5 [(0, .ref (ad 0)), (1, .long (gR M k2 ((gA M (g1 M cnt) k2) * 31 + (M 15 k2).toInt64) v9)), (3, .int (nI k2)), (4, .int (nI v9))] ∧ J' = J ∧ v9 ≤ 6 ∧ M' = (wU M 0 0 (nI 0)) ∧ (M 12 k2 = 0 → v9 = 0)) (fun v9 => 6 - v9) (fun v9 M14 J1_ H locs ls hI hw ih15 => ?_) 0 ⟨lv_sub hl [2, 1, 3, 0] rfl, rfl, by omega, rfl, (fun _ => rfl)⟩ hw
        obtain ⟨hl, eJ_, hk_, hI⟩ := hI
        rw [eJ_] at hw
        clear eJ_
        obtain ⟨eM_, hI⟩ := hI
        rw [eM_] at hw
        clear eM_
        refine lv_iload hx hb dX9_digest_123 (lv_at hl 3 rfl) ?_
        refine lv_bipush (v := nI 6) hx hb dX9_digest_125 (by decide) ?_
        refine lv_icmp_ge (tgt := 183) hx hb dX9_digest_127 (by decide) (fun q16 => ?_) (fun q16 => ?_)
        · have q16n : 6 ≤ v9 := (nI_leI (by omega) (by omega)).mp q16
          refine lv_iinc (v := nI (k2 + 1)) (lv' := [(3, .int (nI (k2 + 1))), (0, .ref (ad 0)), (1, .long (gR M k2 ((gA M (g1 M cnt) k2) * 31 + (M 15 k2).toInt64) v9)), (4, .int (nI v9))]) hx hb dX9_digest_183 hl (k := 2) rfl (nI_1 _) (by decide) rfl (fun ls hl => ?_)
          refine lv_goto (tgt := 91) hx hb dX9_digest_186 (by decide) ?_
          exact ih5 (k2 + 1) (wU M 0 0 (nI 0)) J _ _ _ (by omega) ⟨(by have e9 : v9 = 6 := (by omega); rw [show gA M (g1 M cnt) (k2 + 1) = gR M k2 (gA M (g1 M cnt) k2 * 31 + (M 15 k2).toInt64) v9 by rw [gA_2 (fun z => absurd (hI z) (by omega)), e9]]; exact lv_sub hl [1, 2, 0] rfl), rfl, by omega, rfl, (fun z => absurd z q10)⟩ hw
        · have q16n : ¬ 6 ≤ v9 := fun z => q16 ((nI_leI (by omega) (by omega)).mpr z)
          refine lv_aload_n hx hb dX9_digest_130 rfl (lv_at hl 0 rfl) ?_
          refine wr_gr hx hb hown hK hts iX9 (ci := 8) rfl 17 (by decide) f53 rfl hw 0 (by omega) 12 rfl rfl dX9_digest_131 ?_
          refine lv_iload_n hx hb dX9_digest_134 rfl (lv_at hl 2 rfl) ?_
          refine wr_zldN hx hb hK hw 12 (by omega) rfl (by decide) k2 rfl (by omega) dX9_digest_135 ?_
          rw [show (wU M 0 0 (nI 0)) 12 k2 = M 12 k2 from (congrFun (wU_ne (by decide)) _)]
          refine lv_if_eq (tgt := 183) hx hb dX9_digest_136 (by decide) (fun q17 => ?_) (fun q17 => ?_)
          · skip
            refine lv_iinc (v := nI (k2 + 1)) (lv' := [(3, .int (nI (k2 + 1))), (0, .ref (ad 0)), (1, .long (gR M k2 ((gA M (g1 M cnt) k2) * 31 + (M 15 k2).toInt64) v9)), (4, .int (nI v9))]) hx hb dX9_digest_183 hl (k := 2) rfl (nI_1 _) (by decide) rfl (fun ls hl => ?_)
            refine lv_goto (tgt := 91) hx hb dX9_digest_186 (by decide) ?_
            exact ih5 (k2 + 1) (wU M 0 0 (nI 0)) J _ _ _ (by omega) ⟨(by have e9 : v9 = 0 := hI q17; subst e9; rw [gA_1 q17]; exact lv_sub hl [1, 2, 0] rfl), rfl, by omega, rfl, (fun z => absurd z q10)⟩ hw
          · skip
            refine lv_lload_n hx hb dX9_digest_139 rfl (lv_at hl 1 rfl) ?_
            refine lv_ldc2 hx hb hown k214 dX9_digest_140 ?_
            refine lv_lmul hx hb dX9_digest_143 ?_
            refine lv_aload_n hx hb dX9_digest_144 rfl (lv_at hl 0 rfl) ?_
            refine wr_gr hx hb hown hK hts iX9 (ci := 8) rfl 18 (by decide) f57 rfl hw 0 (by omega) 13 rfl rfl dX9_digest_145 ?_
            refine lv_bipush (v := nI 6) hx hb dX9_digest_148 (by decide) ?_
            refine lv_iload_n hx hb dX9_digest_150 rfl (lv_at hl 2 rfl) ?_
            refine lv_imulN hx hb dX9_digest_151 ?_
            refine lv_iload hx hb dX9_digest_152 (lv_at hl 3 rfl) ?_
            refine lv_iaddN hx hb dX9_digest_154 ?_
            refine wr_ildN hx hb hK hw 13 (by omega) rfl (by decide) ((6 * k2) + v9) rfl (by omega) dX9_digest_155 ?_
            rw [show (wU M 0 0 (nI 0)) 13 ((6 * k2) + v9) = M 13 ((6 * k2) + v9) from (congrFun (wU_ne (by decide)) _)]
            refine lv_i2l hx hb dX9_digest_156 rfl ?_
            refine lv_ladd hx hb dX9_digest_157 ?_
            refine lv_ldc2 hx hb hown k214 dX9_digest_158 ?_
            refine lv_lmul hx hb dX9_digest_161 ?_
            refine lv_aload_n hx hb dX9_digest_162 rfl (lv_at hl 0 rfl) ?_
            refine wr_gr hx hb hown hK hts iX9 (ci := 8) rfl 19 (by decide) f60 rfl hw 0 (by omega) 14 rfl rfl dX9_digest_163 ?_
            refine lv_bipush (v := nI 6) hx hb dX9_digest_166 (by decide) ?_
            refine lv_iload_n hx hb dX9_digest_168 rfl (lv_at hl 2 rfl) ?_
            refine lv_imulN hx hb dX9_digest_169 ?_
            refine lv_iload hx hb dX9_digest_170 (lv_at hl 3 rfl) ?_
            refine lv_iaddN hx hb dX9_digest_172 ?_
            refine wr_ildN hx hb hK hw 14 (by omega) rfl (by decide) ((6 * k2) + v9) rfl (by omega) dX9_digest_173 ?_
            rw [show (wU M 0 0 (nI 0)) 14 ((6 * k2) + v9) = M 14 ((6 * k2) + v9) from (congrFun (wU_ne (by decide)) _)]
            refine lv_i2l hx hb dX9_digest_174 rfl ?_
            refine lv_ladd hx hb dX9_digest_175 ?_
            refine lv_lstore_n (lv' := [(1, .long (((((((((gR M k2 ((gA M (g1 M cnt) k2) * 31 + (M 15 k2).toInt64) v9) * ((31 : Int64)))) + ((M 13 ((6 * k2) + v9)).toInt64))) * ((31 : Int64)))) + ((M 14 ((6 * k2) + v9)).toInt64)))), (0, .ref (ad 0)), (3, .int (nI k2)), (4, .int (nI v9))]) hx hb dX9_digest_176 rfl hl (by decide) rfl (fun ls hl => ?_)
            refine lv_iinc (v := nI (v9 + 1)) (lv' := [(4, .int (nI (v9 + 1))), (1, .long (((((((((gR M k2 ((gA M (g1 M cnt) k2) * 31 + (M 15 k2).toInt64) v9) * ((31 : Int64)))) + ((M 13 ((6 * k2) + v9)).toInt64))) * ((31 : Int64)))) + ((M 14 ((6 * k2) + v9)).toInt64)))), (0, .ref (ad 0)), (3, .int (nI k2))]) hx hb dX9_digest_177 hl (k := 3) rfl (nI_1 _) (by decide) rfl (fun ls hl => ?_)
            refine lv_goto (tgt := 123) hx hb dX9_digest_180 (by decide) ?_
            exact ih15 (v9 + 1) (wU M 0 0 (nI 0)) J _ _ _ (by omega) ⟨lv_sub hl [2, 1, 3, 0] rfl, rfl, by omega, rfl, (fun z => absurd z q17)⟩ hw
  · have q3n : ¬ cnt ≤ k := fun z => q3 ((nI_leI (by omega) (by omega)).mpr z)
    refine lv_lload_n hx hb dX9_digest_25 rfl (lv_at hl 1 rfl) ?_
    refine lv_ldc2 hx hb hown k214 dX9_digest_26 ?_
    refine lv_lmul hx hb dX9_digest_29 ?_
    refine lv_aload_n hx hb dX9_digest_30 rfl (lv_at hl 0 rfl) ?_
    refine wr_gr hx hb hown hK hts iX9 (ci := 8) rfl 2 (by decide) f13 rfl hw 0 (by omega) 1 rfl rfl dX9_digest_31 ?_
    refine lv_iload_n hx hb dX9_digest_34 rfl (lv_at hl 2 rfl) ?_
    refine wr_ildN hx hb hK hw 1 (by omega) rfl (by decide) k rfl (by omega) dX9_digest_35 ?_
    rw [show (wU M 0 0 (nI 0)) 1 k = M 1 k from (congrFun (wU_ne (by decide)) _)]
    refine lv_i2l hx hb dX9_digest_36 rfl ?_
    refine lv_ladd hx hb dX9_digest_37 ?_
    refine lv_ldc2 hx hb hown k214 dX9_digest_38 ?_
    refine lv_lmul hx hb dX9_digest_41 ?_
    refine lv_aload_n hx hb dX9_digest_42 rfl (lv_at hl 0 rfl) ?_
    refine wr_gr hx hb hown hK hts iX9 (ci := 8) rfl 4 (by decide) f20 rfl hw 0 (by omega) 3 rfl rfl dX9_digest_43 ?_
    refine lv_iload_n hx hb dX9_digest_46 rfl (lv_at hl 2 rfl) ?_
    refine wr_ildN hx hb hK hw 3 (by omega) rfl (by decide) k rfl (by omega) dX9_digest_47 ?_
    rw [show (wU M 0 0 (nI 0)) 3 k = M 3 k from (congrFun (wU_ne (by decide)) _)]
    refine lv_i2l hx hb dX9_digest_48 rfl ?_
    refine lv_ladd hx hb dX9_digest_49 ?_
    refine lv_lstore_n (lv' := [(1, .long (((((((((gP M (2759 + (nI cnt).toInt64) k) * ((31 : Int64)))) + ((M 1 k).toInt64))) * ((31 : Int64)))) + ((M 3 k).toInt64)))), (0, .ref (ad 0)), (3, .int (nI k))]) hx hb dX9_digest_50 rfl hl (by decide) rfl (fun ls hl => ?_)
    refine lv_iinc (v := nI (k + 1)) (lv' := [(3, .int (nI (k + 1))), (1, .long (((((((((gP M (2759 + (nI cnt).toInt64) k) * ((31 : Int64)))) + ((M 1 k).toInt64))) * ((31 : Int64)))) + ((M 3 k).toInt64)))), (0, .ref (ad 0))]) hx hb dX9_digest_51 hl (k := 2) rfl (nI_1 _) (by decide) rfl (fun ls hl => ?_)
    refine lv_goto (tgt := 17) hx hb dX9_digest_54 (by decide) ?_
    exact ih2 (k + 1) (wU M 0 0 (nI 0)) J _ _ _ (by omega) ⟨lv_sub hl [2, 1, 0] rfl, rfl, by omega, rfl, trivial⟩ hw
