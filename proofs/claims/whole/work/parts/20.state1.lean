/-! Arithmetic, State without loops: laid by wip/gen/specs1.py -/
def E_X1_outcome (M : wM) (k : Int32) (y : Int32) (z : Int32) : Int32 := (if k = nI 1 then ((l_mx ((-1000000000 : Int64)) ((l_mn ((1000000000 : Int64)) ((y.toInt64 + z.toInt64)))))).toInt32 else (if k = nI 2 then ((l_mx ((-1000000000 : Int64)) ((l_mn ((1000000000 : Int64)) ((y.toInt64 - z.toInt64)))))).toInt32 else (if k = nI 3 then ((l_mx ((-1000000000 : Int64)) ((l_mn ((1000000000 : Int64)) ((y.toInt64 * z.toInt64)))))).toInt32 else (if k = nI 4 then ((l_mx ((-1000000000 : Int64)) ((l_mn ((1000000000 : Int64)) (((i_mn y z)).toInt64))))).toInt32 else (if k = nI 5 then ((l_mx ((-1000000000 : Int64)) ((l_mn ((1000000000 : Int64)) (((i_mx y z)).toInt64))))).toInt32 else ((l_mx ((-1000000000 : Int64)) ((l_mn ((1000000000 : Int64)) y.toInt64)))).toInt32)))))
set_option maxHeartbeats 4000000 in
set_option maxRecDepth 100000 in
theorem k_X1_outcome (l : Launch) (D : va_G) (ad : Nat → Nat) (cs : Nat → ClassId) (sz : Nat) (M : wM) (J : wJ) (k : Int32) (y : Int32) (z : Int32)  : wCi l yX1_outcome wsX1_outcome { frames := 1, cells := 0, slots := 0, locals := 31 } D 340 cSh ad cs [.int k, .int y, .int z] sz M J (fun r_ u_ => u_ = (M, J) ∧ r_ = E_X1_outcome M k y z) := by
  refine wC_i (cc := cX1_outcome) (maxL := 5) (ret := (some .int)) (by decide) rfl (Nat.le_of_ble_eq_true rfl) ?_
  intro p e s m below meth c ls A hx hb hr hml hown hts hlocks hK hA hw hl hAe
  clear hAe
  have hl : lv_has ls 5 [(0, .int k), (1, .int y), (2, .int z)] := hl
  have k18 : (Cond.constantLong RX1 18 (-1000000000)).before _ s = true := hts _ (by decide +kernel)
  have k20 : (Cond.constantLong RX1 20 (1000000000)).before _ s = true := hts _ (by decide +kernel)
  have m22 : (Cond.methodLink RX1 22 Lib.MathLoose.min_long.x).before _ s = true := hts _ (by decide +kernel)
  have t22 : (Cond.static Lib.MathLoose.min_long.x).before _ s = true := hts _ (by decide +kernel)
  have iMath : (Cond.initialized "java/lang/Math").before _ s = true := hts _ (by decide +kernel)
  have c22 : (Cond.code Lib.MathLoose.min_long.x Lib.MathLoose.min_long.code 4 (some .long)).before _ s = true := hts _ (by decide +kernel)
  have m25 : (Cond.methodLink RX1 25 Lib.MathLoose.max_long.x).before _ s = true := hts _ (by decide +kernel)
  have t25 : (Cond.static Lib.MathLoose.max_long.x).before _ s = true := hts _ (by decide +kernel)
  have c25 : (Cond.code Lib.MathLoose.max_long.x Lib.MathLoose.max_long.code 4 (some .long)).before _ s = true := hts _ (by decide +kernel)
  have m9 : (Cond.methodLink RX1 9 Lib.Math.min.name).before _ s = true := hts _ (by decide +kernel)
  have t9 : (Cond.static Lib.Math.min.name).before _ s = true := hts _ (by decide +kernel)
  have c9 : (Cond.code Lib.Math.min.name Lib.Math.min.code 2 (some .int)).before _ s = true := hts _ (by decide +kernel)
  have m15 : (Cond.methodLink RX1 15 Lib.Math.max.name).before _ s = true := hts _ (by decide +kernel)
  have t15 : (Cond.static Lib.Math.max.name).before _ s = true := hts _ (by decide +kernel)
  have c15 : (Cond.code Lib.Math.max.name Lib.Math.max.code 2 (some .int)).before _ s = true := hts _ (by decide +kernel)
  refine lv_iload_n hx hb dX1_outcome_0 rfl (lv_at hl 0 rfl) ?_
  by_cases q1 : k = nI 1
  · refine lv_tableIn (off := 35) (tgt := 36) hx hb dX1_outcome_1 (by rw [q1]; decide) (by rw [q1]; decide) (by rw [q1]; decide) (by decide) ?_
    refine lv_iload_n hx hb dX1_outcome_36 rfl (lv_at hl 1 rfl) ?_
    refine lv_i2l hx hb dX1_outcome_37 rfl ?_
    refine lv_iload_n hx hb dX1_outcome_38 rfl (lv_at hl 2 rfl) ?_
    refine lv_i2l hx hb dX1_outcome_39 rfl ?_
    refine lv_ladd hx hb dX1_outcome_40 ?_
    refine lv_lstore_n (lv' := [(3, .long ((y.toInt64 + z.toInt64))), (0, .int k), (1, .int y), (2, .int z)]) hx hb dX1_outcome_41 rfl hl (by decide) rfl (fun ls hl => ?_)
    refine lv_goto (tgt := 86) hx hb dX1_outcome_42 (by decide) ?_
    refine lv_ldc2 hx hb hown k18 dX1_outcome_86 ?_
    refine lv_ldc2 hx hb hown k20 dX1_outcome_89 ?_
    refine lv_lload_n hx hb dX1_outcome_92 rfl (lv_at hl 0 rfl) ?_
    refine va_mmin_long hx hb (hml.trans hl.1.symm) hown m22 t22 iMath c22 (Nat.le_of_ble_eq_true rfl) (Nat.le_of_ble_eq_true rfl) (Nat.le_of_ble_eq_true rfl) (Nat.le_of_ble_eq_true rfl) dX1_outcome_93 ?_
    refine W.eq (g2 := F0 m 96 ls [.long ((l_mn ((1000000000 : Int64)) ((y.toInt64 + z.toInt64)))), .long ((-1000000000 : Int64))]) rfl ?_
    refine va_mmax_long hx hb (hml.trans hl.1.symm) hown m25 t25 iMath c25 (Nat.le_of_ble_eq_true rfl) (Nat.le_of_ble_eq_true rfl) (Nat.le_of_ble_eq_true rfl) (Nat.le_of_ble_eq_true rfl) dX1_outcome_96 ?_
    refine W.eq (g2 := F0 m 99 ls [.long ((l_mx ((-1000000000 : Int64)) ((l_mn ((1000000000 : Int64)) ((y.toInt64 + z.toInt64))))))]) rfl ?_
    refine lv_l2i hx hb dX1_outcome_99 rfl ?_
    exact wr_iret hx hb hr rfl hK hw ⟨rfl, by unfold E_X1_outcome; rw [if_pos q1]⟩ hlocks dX1_outcome_100
  by_cases q2 : k = nI 2
  · refine lv_tableIn (off := 44) (tgt := 45) hx hb dX1_outcome_1 (by rw [q2]; decide) (by rw [q2]; decide) (by rw [q2]; decide) (by decide) ?_
    refine lv_iload_n hx hb dX1_outcome_45 rfl (lv_at hl 1 rfl) ?_
    refine lv_i2l hx hb dX1_outcome_46 rfl ?_
    refine lv_iload_n hx hb dX1_outcome_47 rfl (lv_at hl 2 rfl) ?_
    refine lv_i2l hx hb dX1_outcome_48 rfl ?_
    refine lv_lsub hx hb dX1_outcome_49 ?_
    refine lv_lstore_n (lv' := [(3, .long ((y.toInt64 - z.toInt64))), (0, .int k), (1, .int y), (2, .int z)]) hx hb dX1_outcome_50 rfl hl (by decide) rfl (fun ls hl => ?_)
    refine lv_goto (tgt := 86) hx hb dX1_outcome_51 (by decide) ?_
    refine lv_ldc2 hx hb hown k18 dX1_outcome_86 ?_
    refine lv_ldc2 hx hb hown k20 dX1_outcome_89 ?_
    refine lv_lload_n hx hb dX1_outcome_92 rfl (lv_at hl 0 rfl) ?_
    refine va_mmin_long hx hb (hml.trans hl.1.symm) hown m22 t22 iMath c22 (Nat.le_of_ble_eq_true rfl) (Nat.le_of_ble_eq_true rfl) (Nat.le_of_ble_eq_true rfl) (Nat.le_of_ble_eq_true rfl) dX1_outcome_93 ?_
    refine W.eq (g2 := F0 m 96 ls [.long ((l_mn ((1000000000 : Int64)) ((y.toInt64 - z.toInt64)))), .long ((-1000000000 : Int64))]) rfl ?_
    refine va_mmax_long hx hb (hml.trans hl.1.symm) hown m25 t25 iMath c25 (Nat.le_of_ble_eq_true rfl) (Nat.le_of_ble_eq_true rfl) (Nat.le_of_ble_eq_true rfl) (Nat.le_of_ble_eq_true rfl) dX1_outcome_96 ?_
    refine W.eq (g2 := F0 m 99 ls [.long ((l_mx ((-1000000000 : Int64)) ((l_mn ((1000000000 : Int64)) ((y.toInt64 - z.toInt64))))))]) rfl ?_
    refine lv_l2i hx hb dX1_outcome_99 rfl ?_
    exact wr_iret hx hb hr rfl hK hw ⟨rfl, by unfold E_X1_outcome; rw [if_neg q1, if_pos q2]⟩ hlocks dX1_outcome_100
  by_cases q3 : k = nI 3
  · refine lv_tableIn (off := 53) (tgt := 54) hx hb dX1_outcome_1 (by rw [q3]; decide) (by rw [q3]; decide) (by rw [q3]; decide) (by decide) ?_
    refine lv_iload_n hx hb dX1_outcome_54 rfl (lv_at hl 1 rfl) ?_
    refine lv_i2l hx hb dX1_outcome_55 rfl ?_
    refine lv_iload_n hx hb dX1_outcome_56 rfl (lv_at hl 2 rfl) ?_
    refine lv_i2l hx hb dX1_outcome_57 rfl ?_
    refine lv_lmul hx hb dX1_outcome_58 ?_
    refine lv_lstore_n (lv' := [(3, .long ((y.toInt64 * z.toInt64))), (0, .int k), (1, .int y), (2, .int z)]) hx hb dX1_outcome_59 rfl hl (by decide) rfl (fun ls hl => ?_)
    refine lv_goto (tgt := 86) hx hb dX1_outcome_60 (by decide) ?_
    refine lv_ldc2 hx hb hown k18 dX1_outcome_86 ?_
    refine lv_ldc2 hx hb hown k20 dX1_outcome_89 ?_
    refine lv_lload_n hx hb dX1_outcome_92 rfl (lv_at hl 0 rfl) ?_
    refine va_mmin_long hx hb (hml.trans hl.1.symm) hown m22 t22 iMath c22 (Nat.le_of_ble_eq_true rfl) (Nat.le_of_ble_eq_true rfl) (Nat.le_of_ble_eq_true rfl) (Nat.le_of_ble_eq_true rfl) dX1_outcome_93 ?_
    refine W.eq (g2 := F0 m 96 ls [.long ((l_mn ((1000000000 : Int64)) ((y.toInt64 * z.toInt64)))), .long ((-1000000000 : Int64))]) rfl ?_
    refine va_mmax_long hx hb (hml.trans hl.1.symm) hown m25 t25 iMath c25 (Nat.le_of_ble_eq_true rfl) (Nat.le_of_ble_eq_true rfl) (Nat.le_of_ble_eq_true rfl) (Nat.le_of_ble_eq_true rfl) dX1_outcome_96 ?_
    refine W.eq (g2 := F0 m 99 ls [.long ((l_mx ((-1000000000 : Int64)) ((l_mn ((1000000000 : Int64)) ((y.toInt64 * z.toInt64))))))]) rfl ?_
    refine lv_l2i hx hb dX1_outcome_99 rfl ?_
    exact wr_iret hx hb hr rfl hK hw ⟨rfl, by unfold E_X1_outcome; rw [if_neg q1, if_neg q2, if_pos q3]⟩ hlocks dX1_outcome_100
  by_cases q4 : k = nI 4
  · refine lv_tableIn (off := 62) (tgt := 63) hx hb dX1_outcome_1 (by rw [q4]; decide) (by rw [q4]; decide) (by rw [q4]; decide) (by decide) ?_
    refine lv_iload_n hx hb dX1_outcome_63 rfl (lv_at hl 1 rfl) ?_
    refine lv_iload_n hx hb dX1_outcome_64 rfl (lv_at hl 2 rfl) ?_
    refine va_mmin hx hb (hml.trans hl.1.symm) hown m9 t9 iMath c9 (Nat.le_of_ble_eq_true rfl) (Nat.le_of_ble_eq_true rfl) (Nat.le_of_ble_eq_true rfl) (Nat.le_of_ble_eq_true rfl) dX1_outcome_65 ?_
    refine W.eq (g2 := F0 m 68 ls [.int ((i_mn y z))]) rfl ?_
    refine lv_i2l hx hb dX1_outcome_68 rfl ?_
    refine lv_lstore_n (lv' := [(3, .long (((i_mn y z)).toInt64)), (0, .int k), (1, .int y), (2, .int z)]) hx hb dX1_outcome_69 rfl hl (by decide) rfl (fun ls hl => ?_)
    refine lv_goto (tgt := 86) hx hb dX1_outcome_70 (by decide) ?_
    refine lv_ldc2 hx hb hown k18 dX1_outcome_86 ?_
    refine lv_ldc2 hx hb hown k20 dX1_outcome_89 ?_
    refine lv_lload_n hx hb dX1_outcome_92 rfl (lv_at hl 0 rfl) ?_
    refine va_mmin_long hx hb (hml.trans hl.1.symm) hown m22 t22 iMath c22 (Nat.le_of_ble_eq_true rfl) (Nat.le_of_ble_eq_true rfl) (Nat.le_of_ble_eq_true rfl) (Nat.le_of_ble_eq_true rfl) dX1_outcome_93 ?_
    refine W.eq (g2 := F0 m 96 ls [.long ((l_mn ((1000000000 : Int64)) (((i_mn y z)).toInt64))), .long ((-1000000000 : Int64))]) rfl ?_
    refine va_mmax_long hx hb (hml.trans hl.1.symm) hown m25 t25 iMath c25 (Nat.le_of_ble_eq_true rfl) (Nat.le_of_ble_eq_true rfl) (Nat.le_of_ble_eq_true rfl) (Nat.le_of_ble_eq_true rfl) dX1_outcome_96 ?_
    refine W.eq (g2 := F0 m 99 ls [.long ((l_mx ((-1000000000 : Int64)) ((l_mn ((1000000000 : Int64)) (((i_mn y z)).toInt64)))))]) rfl ?_
    refine lv_l2i hx hb dX1_outcome_99 rfl ?_
    exact wr_iret hx hb hr rfl hK hw ⟨rfl, by unfold E_X1_outcome; rw [if_neg q1, if_neg q2, if_neg q3, if_pos q4]⟩ hlocks dX1_outcome_100
  by_cases q5 : k = nI 5
  · refine lv_tableIn (off := 72) (tgt := 73) hx hb dX1_outcome_1 (by rw [q5]; decide) (by rw [q5]; decide) (by rw [q5]; decide) (by decide) ?_
    refine lv_iload_n hx hb dX1_outcome_73 rfl (lv_at hl 1 rfl) ?_
    refine lv_iload_n hx hb dX1_outcome_74 rfl (lv_at hl 2 rfl) ?_
    refine va_mmax hx hb (hml.trans hl.1.symm) hown m15 t15 iMath c15 (Nat.le_of_ble_eq_true rfl) (Nat.le_of_ble_eq_true rfl) (Nat.le_of_ble_eq_true rfl) (Nat.le_of_ble_eq_true rfl) dX1_outcome_75 ?_
    refine W.eq (g2 := F0 m 78 ls [.int ((i_mx y z))]) rfl ?_
    refine lv_i2l hx hb dX1_outcome_78 rfl ?_
    refine lv_lstore_n (lv' := [(3, .long (((i_mx y z)).toInt64)), (0, .int k), (1, .int y), (2, .int z)]) hx hb dX1_outcome_79 rfl hl (by decide) rfl (fun ls hl => ?_)
    refine lv_goto (tgt := 86) hx hb dX1_outcome_80 (by decide) ?_
    refine lv_ldc2 hx hb hown k18 dX1_outcome_86 ?_
    refine lv_ldc2 hx hb hown k20 dX1_outcome_89 ?_
    refine lv_lload_n hx hb dX1_outcome_92 rfl (lv_at hl 0 rfl) ?_
    refine va_mmin_long hx hb (hml.trans hl.1.symm) hown m22 t22 iMath c22 (Nat.le_of_ble_eq_true rfl) (Nat.le_of_ble_eq_true rfl) (Nat.le_of_ble_eq_true rfl) (Nat.le_of_ble_eq_true rfl) dX1_outcome_93 ?_
    refine W.eq (g2 := F0 m 96 ls [.long ((l_mn ((1000000000 : Int64)) (((i_mx y z)).toInt64))), .long ((-1000000000 : Int64))]) rfl ?_
    refine va_mmax_long hx hb (hml.trans hl.1.symm) hown m25 t25 iMath c25 (Nat.le_of_ble_eq_true rfl) (Nat.le_of_ble_eq_true rfl) (Nat.le_of_ble_eq_true rfl) (Nat.le_of_ble_eq_true rfl) dX1_outcome_96 ?_
    refine W.eq (g2 := F0 m 99 ls [.long ((l_mx ((-1000000000 : Int64)) ((l_mn ((1000000000 : Int64)) (((i_mx y z)).toInt64)))))]) rfl ?_
    refine lv_l2i hx hb dX1_outcome_99 rfl ?_
    exact wr_iret hx hb hr rfl hK hw ⟨rfl, by unfold E_X1_outcome; rw [if_neg q1, if_neg q2, if_neg q3, if_neg q4, if_pos q5]⟩ hlocks dX1_outcome_100
  refine lv_tableOut (tgt := 83) hx hb dX1_outcome_1 (sw_out 1 5 (by decide) (fun k h1 h2 => by rcases (show k = 1 ∨ k = 2 ∨ k = 3 ∨ k = 4 ∨ k = 5 by omega) with rfl | rfl | rfl | rfl | rfl <;> assumption)) (by decide) ?_
  refine lv_iload_n hx hb dX1_outcome_83 rfl (lv_at hl 1 rfl) ?_
  refine lv_i2l hx hb dX1_outcome_84 rfl ?_
  refine lv_lstore_n (lv' := [(3, .long y.toInt64), (0, .int k), (1, .int y), (2, .int z)]) hx hb dX1_outcome_85 rfl hl (by decide) rfl (fun ls hl => ?_)
  refine lv_ldc2 hx hb hown k18 dX1_outcome_86 ?_
  refine lv_ldc2 hx hb hown k20 dX1_outcome_89 ?_
  refine lv_lload_n hx hb dX1_outcome_92 rfl (lv_at hl 0 rfl) ?_
  refine va_mmin_long hx hb (hml.trans hl.1.symm) hown m22 t22 iMath c22 (Nat.le_of_ble_eq_true rfl) (Nat.le_of_ble_eq_true rfl) (Nat.le_of_ble_eq_true rfl) (Nat.le_of_ble_eq_true rfl) dX1_outcome_93 ?_
  refine W.eq (g2 := F0 m 96 ls [.long ((l_mn ((1000000000 : Int64)) y.toInt64)), .long ((-1000000000 : Int64))]) rfl ?_
  refine va_mmax_long hx hb (hml.trans hl.1.symm) hown m25 t25 iMath c25 (Nat.le_of_ble_eq_true rfl) (Nat.le_of_ble_eq_true rfl) (Nat.le_of_ble_eq_true rfl) (Nat.le_of_ble_eq_true rfl) dX1_outcome_96 ?_
  refine W.eq (g2 := F0 m 99 ls [.long ((l_mx ((-1000000000 : Int64)) ((l_mn ((1000000000 : Int64)) y.toInt64))))]) rfl ?_
  refine lv_l2i hx hb dX1_outcome_99 rfl ?_
  exact wr_iret hx hb hr rfl hK hw ⟨rfl, by unfold E_X1_outcome; rw [if_neg q1, if_neg q2, if_neg q3, if_neg q4, if_neg q5]⟩ hlocks dX1_outcome_100
def E_X1_isTrue (M : wM) (x : Int32) (r : Int32) (y : Int32) : Int32 := (if r = nI 0 then (if y ≤ x then nI 0 else nI 1) else (if r = nI 1 then (if y < x then nI 0 else nI 1) else (if r = nI 2 then (if x = y then nI 1 else nI 0) else (if x = y then nI 0 else nI 1))))
set_option maxHeartbeats 4000000 in
set_option maxRecDepth 100000 in
theorem k_X1_isTrue (l : Launch) (D : va_G) (ad : Nat → Nat) (cs : Nat → ClassId) (sz : Nat) (M : wM) (J : wJ) (x : Int32) (r : Int32) (y : Int32)  : wCi l yX1_isTrue wsX1_isTrue { frames := 0, cells := 0, slots := 0, locals := 0 } D 340 cSh ad cs [.int x, .int r, .int y] sz M J (fun r_ u_ => u_ = (M, J) ∧ r_ = E_X1_isTrue M x r y) := by
  refine wC_i (cc := cX1_isTrue) (maxL := 3) (ret := (some .boolean)) (by decide) rfl (Nat.le_of_ble_eq_true rfl) ?_
  intro p e s m below meth c ls A hx hb hr hml hown hts hlocks hK hA hw hl hAe
  clear hAe
  have hl : lv_has ls 3 [(0, .int x), (1, .int r), (2, .int y)] := hl
  refine lv_iload_n hx hb dX1_isTrue_0 rfl (lv_at hl 1 rfl) ?_
  by_cases q1 : r = nI 0
  · refine lv_tableIn (off := 27) (tgt := 28) hx hb dX1_isTrue_1 (by rw [q1]; decide) (by rw [q1]; decide) (by rw [q1]; decide) (by decide) ?_
    refine lv_iload_n hx hb dX1_isTrue_28 rfl (lv_at hl 0 rfl) ?_
    refine lv_iload_n hx hb dX1_isTrue_29 rfl (lv_at hl 2 rfl) ?_
    refine lv_icmp_ge (tgt := 37) hx hb dX1_isTrue_30 (by decide) (fun q2 => ?_) (fun q2 => ?_)
    · skip
      refine lv_iconst (v := nI 0) hx hb dX1_isTrue_37 (by decide) ?_
      exact wr_iret hx hb hr (by decide) hK hw ⟨rfl, by unfold E_X1_isTrue; rw [if_pos q1, if_pos q2]⟩ hlocks dX1_isTrue_38
    · skip
      refine lv_iconst (v := nI 1) hx hb dX1_isTrue_33 (by decide) ?_
      refine lv_goto (tgt := 38) hx hb dX1_isTrue_34 (by decide) ?_
      exact wr_iret hx hb hr (by decide) hK hw ⟨rfl, by unfold E_X1_isTrue; rw [if_pos q1, if_neg q2]⟩ hlocks dX1_isTrue_38
  by_cases q3 : r = nI 1
  · refine lv_tableIn (off := 38) (tgt := 39) hx hb dX1_isTrue_1 (by rw [q3]; decide) (by rw [q3]; decide) (by rw [q3]; decide) (by decide) ?_
    refine lv_iload_n hx hb dX1_isTrue_39 rfl (lv_at hl 0 rfl) ?_
    refine lv_iload_n hx hb dX1_isTrue_40 rfl (lv_at hl 2 rfl) ?_
    refine lv_icmp_gt (tgt := 48) hx hb dX1_isTrue_41 (by decide) (fun q4 => ?_) (fun q4 => ?_)
    · skip
      refine lv_iconst (v := nI 0) hx hb dX1_isTrue_48 (by decide) ?_
      exact wr_iret hx hb hr (by decide) hK hw ⟨rfl, by unfold E_X1_isTrue; rw [if_neg q1, if_pos q3, if_pos q4]⟩ hlocks dX1_isTrue_49
    · skip
      refine lv_iconst (v := nI 1) hx hb dX1_isTrue_44 (by decide) ?_
      refine lv_goto (tgt := 49) hx hb dX1_isTrue_45 (by decide) ?_
      exact wr_iret hx hb hr (by decide) hK hw ⟨rfl, by unfold E_X1_isTrue; rw [if_neg q1, if_pos q3, if_neg q4]⟩ hlocks dX1_isTrue_49
  by_cases q5 : r = nI 2
  · refine lv_tableIn (off := 49) (tgt := 50) hx hb dX1_isTrue_1 (by rw [q5]; decide) (by rw [q5]; decide) (by rw [q5]; decide) (by decide) ?_
    refine lv_iload_n hx hb dX1_isTrue_50 rfl (lv_at hl 0 rfl) ?_
    refine lv_iload_n hx hb dX1_isTrue_51 rfl (lv_at hl 2 rfl) ?_
    refine lv_icmp_ne (tgt := 59) hx hb dX1_isTrue_52 (by decide) (fun q6 => ?_) (fun q6 => ?_)
    · skip
      refine lv_iconst (v := nI 0) hx hb dX1_isTrue_59 (by decide) ?_
      exact wr_iret hx hb hr (by decide) hK hw ⟨rfl, by unfold E_X1_isTrue; rw [if_neg q1, if_neg q3, if_pos q5, if_neg q6]⟩ hlocks dX1_isTrue_60
    · skip
      refine lv_iconst (v := nI 1) hx hb dX1_isTrue_55 (by decide) ?_
      refine lv_goto (tgt := 60) hx hb dX1_isTrue_56 (by decide) ?_
      exact wr_iret hx hb hr (by decide) hK hw ⟨rfl, by unfold E_X1_isTrue; rw [if_neg q1, if_neg q3, if_pos q5, if_pos q6]⟩ hlocks dX1_isTrue_60
  refine lv_tableOut (tgt := 61) hx hb dX1_isTrue_1 (sw_out 0 2 (by decide) (fun k h1 h2 => by rcases (show k = 0 ∨ k = 1 ∨ k = 2 by omega) with rfl | rfl | rfl <;> assumption)) (by decide) ?_
  refine lv_iload_n hx hb dX1_isTrue_61 rfl (lv_at hl 0 rfl) ?_
  refine lv_iload_n hx hb dX1_isTrue_62 rfl (lv_at hl 2 rfl) ?_
  refine lv_icmp_eq (tgt := 70) hx hb dX1_isTrue_63 (by decide) (fun q7 => ?_) (fun q7 => ?_)
  · skip
    refine lv_iconst (v := nI 0) hx hb dX1_isTrue_70 (by decide) ?_
    exact wr_iret hx hb hr (by decide) hK hw ⟨rfl, by unfold E_X1_isTrue; rw [if_neg q1, if_neg q3, if_neg q5, if_pos q7]⟩ hlocks dX1_isTrue_71
  · skip
    refine lv_iconst (v := nI 1) hx hb dX1_isTrue_66 (by decide) ?_
    refine lv_goto (tgt := 71) hx hb dX1_isTrue_67 (by decide) ?_
    exact wr_iret hx hb hr (by decide) hK hw ⟨rfl, by unfold E_X1_isTrue; rw [if_neg q1, if_neg q3, if_neg q5, if_neg q7]⟩ hlocks dX1_isTrue_71
def E_X1_oppositeOfSwapped (M : wM) (r : Int32) : Int32 := (if r = nI 0 then nI 1 else (if r = nI 1 then nI 0 else (if r = nI 2 then nI 3 else nI 2)))
set_option maxHeartbeats 4000000 in
set_option maxRecDepth 100000 in
theorem k_X1_oppositeOfSwapped (l : Launch) (D : va_G) (ad : Nat → Nat) (cs : Nat → ClassId) (sz : Nat) (M : wM) (J : wJ) (r : Int32)  : wCi l yX1_oppositeOfSwapped wsX1_oppositeOfSwapped { frames := 0, cells := 0, slots := 0, locals := 0 } D 340 cSh ad cs [.int r] sz M J (fun r_ u_ => u_ = (M, J) ∧ r_ = E_X1_oppositeOfSwapped M r) := by
  refine wC_i (cc := cX1_oppositeOfSwapped) (maxL := 1) (ret := (some .int)) (by decide) rfl (Nat.le_of_ble_eq_true rfl) ?_
  intro p e s m below meth c ls A hx hb hr hml hown hts hlocks hK hA hw hl hAe
  clear hAe
  have hl : lv_has ls 1 [(0, .int r)] := hl
  refine lv_iload_n hx hb dX1_oppositeOfSwapped_0 rfl (lv_at hl 0 rfl) ?_
  by_cases q1 : r = nI 0
  · refine lv_tableIn (off := 27) (tgt := 28) hx hb dX1_oppositeOfSwapped_1 (by rw [q1]; decide) (by rw [q1]; decide) (by rw [q1]; decide) (by decide) ?_
    refine lv_iconst (v := nI 1) hx hb dX1_oppositeOfSwapped_28 (by decide) ?_
    exact wr_iret hx hb hr rfl hK hw ⟨rfl, by unfold E_X1_oppositeOfSwapped; rw [if_pos q1]⟩ hlocks dX1_oppositeOfSwapped_29
  by_cases q2 : r = nI 1
  · refine lv_tableIn (off := 29) (tgt := 30) hx hb dX1_oppositeOfSwapped_1 (by rw [q2]; decide) (by rw [q2]; decide) (by rw [q2]; decide) (by decide) ?_
    refine lv_iconst (v := nI 0) hx hb dX1_oppositeOfSwapped_30 (by decide) ?_
    exact wr_iret hx hb hr rfl hK hw ⟨rfl, by unfold E_X1_oppositeOfSwapped; rw [if_neg q1, if_pos q2]⟩ hlocks dX1_oppositeOfSwapped_31
  by_cases q3 : r = nI 2
  · refine lv_tableIn (off := 31) (tgt := 32) hx hb dX1_oppositeOfSwapped_1 (by rw [q3]; decide) (by rw [q3]; decide) (by rw [q3]; decide) (by decide) ?_
    refine lv_iconst (v := nI 3) hx hb dX1_oppositeOfSwapped_32 (by decide) ?_
    exact wr_iret hx hb hr rfl hK hw ⟨rfl, by unfold E_X1_oppositeOfSwapped; rw [if_neg q1, if_neg q2, if_pos q3]⟩ hlocks dX1_oppositeOfSwapped_33
  refine lv_tableOut (tgt := 34) hx hb dX1_oppositeOfSwapped_1 (sw_out 0 2 (by decide) (fun k h1 h2 => by rcases (show k = 0 ∨ k = 1 ∨ k = 2 by omega) with rfl | rfl | rfl <;> assumption)) (by decide) ?_
  refine lv_iconst (v := nI 2) hx hb dX1_oppositeOfSwapped_34 (by decide) ?_
  exact wr_iret hx hb hr rfl hK hw ⟨rfl, by unfold E_X1_oppositeOfSwapped; rw [if_neg q1, if_neg q2, if_neg q3]⟩ hlocks dX1_oppositeOfSwapped_35
def F_X7_setRange (M : wM) (i : Nat) (v : Nat) (lo : Int32) (up : Int32) : wM := (wU (wU M (3 * i + 1) v lo) (3 * i + 2) v up)
set_option maxHeartbeats 4000000 in
set_option maxRecDepth 100000 in
theorem k_X7_setRange (l : Launch) (D : va_G) (ad : Nat → Nat) (cs : Nat → ClassId) (sz : Nat) (M : wM) (J : wJ) (i : Nat) (v : Nat) (lo : Int32) (up : Int32) (hi : i < 67) (hv : v < 6) : wCv l yX7_setRange wsX7_setRange { frames := 0, cells := 0, slots := 0, locals := 0 } D 340 cSh ad cs [.ref (ad (3 * i)), .int (nI v), .int lo, .int up] sz M J (fun u_ => u_ = (F_X7_setRange M i v lo up, J)) := by
  refine wC_v (cc := cX7_setRange) (maxL := 4) (ret := none) (by decide) rfl (Nat.le_of_ble_eq_true rfl) ?_
  intro p e s m below meth c ls A hx hb hr hml hown hts hlocks hK hA hw hl hAe
  clear hAe
  have hl : lv_has ls 4 [(0, .ref (ad (3 * i))), (1, .int (nI v)), (2, .int lo), (3, .int up)] := hl
  have f15 : (Cond.fieldLink RX7 15 "RangePropagator$State" "low" "[I").before _ s = true := hts _ (by decide +kernel)
  have iX7 : ∀ w ∈ wsX70, w ∈ wsX7_setRange := by decide +kernel
  have f19 : (Cond.fieldLink RX7 19 "RangePropagator$State" "high" "[I").before _ s = true := hts _ (by decide +kernel)
  refine lv_aload_n hx hb dX7_setRange_0 rfl (lv_at hl 0 rfl) ?_
  refine wr_gr hx hb hown hK hts iX7 (ci := 6) rfl 1 (by decide) f15 rfl hw (3 * i) (by omega) (3 * i + 1) (cs_S (by omega)) rfl dX7_setRange_1 ?_
  refine lv_iload_n hx hb dX7_setRange_4 rfl (lv_at hl 1 rfl) ?_
  refine lv_iload_n hx hb dX7_setRange_5 rfl (lv_at hl 2 rfl) ?_
  refine wr_istN hx hb hK hw (3 * i + 1) (by omega) (cs_SL (by omega)) (by decide) v rfl (by omega) dX7_setRange_6 (fun H locs hw => ?_)
  refine lv_aload_n hx hb dX7_setRange_7 rfl (lv_at hl 0 rfl) ?_
  refine wr_gr hx hb hown hK hts iX7 (ci := 6) rfl 2 (by decide) f19 rfl hw (3 * i) (by omega) (3 * i + 2) (cs_S (by omega)) rfl dX7_setRange_8 ?_
  refine lv_iload_n hx hb dX7_setRange_11 rfl (lv_at hl 1 rfl) ?_
  refine lv_iload_n hx hb dX7_setRange_12 rfl (lv_at hl 3 rfl) ?_
  refine wr_istN hx hb hK hw (3 * i + 2) (by omega) (cs_SH (by omega)) (by decide) v rfl (by omega) dX7_setRange_13 (fun H locs hw => ?_)
  exact wr_vret hx hb hr hK hw (by show (_, _) = (_, _); unfold F_X7_setRange; rfl) hlocks dX7_setRange_14
def E_X7_isConstant (M : wM) (i : Nat) (v : Nat) : Int32 := (if M (3 * i + 1) v = M (3 * i + 2) v then nI 1 else nI 0)
set_option maxHeartbeats 4000000 in
set_option maxRecDepth 100000 in
theorem k_X7_isConstant (l : Launch) (D : va_G) (ad : Nat → Nat) (cs : Nat → ClassId) (sz : Nat) (M : wM) (J : wJ) (i : Nat) (v : Nat) (hi : i < 67) (hv : v < 6) : wCi l yX7_isConstant wsX7_isConstant { frames := 0, cells := 0, slots := 0, locals := 0 } D 340 cSh ad cs [.ref (ad (3 * i)), .int (nI v)] sz M J (fun r_ u_ => u_ = (M, J) ∧ r_ = E_X7_isConstant M i v) := by
  refine wC_i (cc := cX7_isConstant) (maxL := 2) (ret := (some .boolean)) (by decide) rfl (Nat.le_of_ble_eq_true rfl) ?_
  intro p e s m below meth c ls A hx hb hr hml hown hts hlocks hK hA hw hl hAe
  clear hAe
  have hl : lv_has ls 2 [(0, .ref (ad (3 * i))), (1, .int (nI v))] := hl
  have f15 : (Cond.fieldLink RX7 15 "RangePropagator$State" "low" "[I").before _ s = true := hts _ (by decide +kernel)
  have iX7 : ∀ w ∈ wsX70, w ∈ wsX7_isConstant := by decide +kernel
  have f19 : (Cond.fieldLink RX7 19 "RangePropagator$State" "high" "[I").before _ s = true := hts _ (by decide +kernel)
  refine lv_aload_n hx hb dX7_isConstant_0 rfl (lv_at hl 0 rfl) ?_
  refine wr_gr hx hb hown hK hts iX7 (ci := 6) rfl 1 (by decide) f15 rfl hw (3 * i) (by omega) (3 * i + 1) (cs_S (by omega)) rfl dX7_isConstant_1 ?_
  refine lv_iload_n hx hb dX7_isConstant_4 rfl (lv_at hl 1 rfl) ?_
  refine wr_ildN hx hb hK hw (3 * i + 1) (by omega) (cs_SL (by omega)) (by decide) v rfl (by omega) dX7_isConstant_5 ?_
  refine lv_aload_n hx hb dX7_isConstant_6 rfl (lv_at hl 0 rfl) ?_
  refine wr_gr hx hb hown hK hts iX7 (ci := 6) rfl 2 (by decide) f19 rfl hw (3 * i) (by omega) (3 * i + 2) (cs_S (by omega)) rfl dX7_isConstant_7 ?_
  refine lv_iload_n hx hb dX7_isConstant_10 rfl (lv_at hl 1 rfl) ?_
  refine wr_ildN hx hb hK hw (3 * i + 2) (by omega) (cs_SH (by omega)) (by decide) v rfl (by omega) dX7_isConstant_11 ?_
  refine lv_icmp_ne (tgt := 19) hx hb dX7_isConstant_12 (by decide) (fun q1 => ?_) (fun q1 => ?_)
  · skip
    refine lv_iconst (v := nI 0) hx hb dX7_isConstant_19 (by decide) ?_
    exact wr_iret hx hb hr (by decide) hK hw ⟨rfl, by unfold E_X7_isConstant; rw [if_neg q1]⟩ hlocks dX7_isConstant_20
  · skip
    refine lv_iconst (v := nI 1) hx hb dX7_isConstant_15 (by decide) ?_
    refine lv_goto (tgt := 20) hx hb dX7_isConstant_16 (by decide) ?_
    exact wr_iret hx hb hr (by decide) hK hw ⟨rfl, by unfold E_X7_isConstant; rw [if_pos q1]⟩ hlocks dX7_isConstant_20
def F_X7_cutOff (M : wM) (i : Nat) (v : Nat) (a : Int32) : wM := (if M (3 * i + 1) v = a then (wU M (3 * i + 1) v ((a + (nI 1)))) else (if M (3 * i + 2) v = a then (wU M (3 * i + 2) v ((a - (nI 1)))) else M))
set_option maxHeartbeats 4000000 in
set_option maxRecDepth 100000 in
theorem k_X7_cutOff (l : Launch) (D : va_G) (ad : Nat → Nat) (cs : Nat → ClassId) (sz : Nat) (M : wM) (J : wJ) (i : Nat) (v : Nat) (a : Int32) (hi : i < 67) (hv : v < 6) : wCv l yX7_cutOff wsX7_cutOff { frames := 0, cells := 0, slots := 0, locals := 0 } D 340 cSh ad cs [.ref (ad (3 * i)), .int (nI v), .int a] sz M J (fun u_ => u_ = (F_X7_cutOff M i v a, J)) := by
  refine wC_v (cc := cX7_cutOff) (maxL := 3) (ret := none) (by decide) rfl (Nat.le_of_ble_eq_true rfl) ?_
  intro p e s m below meth c ls A hx hb hr hml hown hts hlocks hK hA hw hl hAe
  clear hAe
  have hl : lv_has ls 3 [(0, .ref (ad (3 * i))), (1, .int (nI v)), (2, .int a)] := hl
  have f15 : (Cond.fieldLink RX7 15 "RangePropagator$State" "low" "[I").before _ s = true := hts _ (by decide +kernel)
  have iX7 : ∀ w ∈ wsX70, w ∈ wsX7_cutOff := by decide +kernel
  have f19 : (Cond.fieldLink RX7 19 "RangePropagator$State" "high" "[I").before _ s = true := hts _ (by decide +kernel)
  refine lv_aload_n hx hb dX7_cutOff_0 rfl (lv_at hl 0 rfl) ?_
  refine wr_gr hx hb hown hK hts iX7 (ci := 6) rfl 1 (by decide) f15 rfl hw (3 * i) (by omega) (3 * i + 1) (cs_S (by omega)) rfl dX7_cutOff_1 ?_
  refine lv_iload_n hx hb dX7_cutOff_4 rfl (lv_at hl 1 rfl) ?_
  refine wr_ildN hx hb hK hw (3 * i + 1) (by omega) (cs_SL (by omega)) (by decide) v rfl (by omega) dX7_cutOff_5 ?_
  refine lv_iload_n hx hb dX7_cutOff_6 rfl (lv_at hl 2 rfl) ?_
  refine lv_icmp_ne (tgt := 22) hx hb dX7_cutOff_7 (by decide) (fun q1 => ?_) (fun q1 => ?_)
  · skip
    refine lv_aload_n hx hb dX7_cutOff_22 rfl (lv_at hl 0 rfl) ?_
    refine wr_gr hx hb hown hK hts iX7 (ci := 6) rfl 2 (by decide) f19 rfl hw (3 * i) (by omega) (3 * i + 2) (cs_S (by omega)) rfl dX7_cutOff_23 ?_
    refine lv_iload_n hx hb dX7_cutOff_26 rfl (lv_at hl 1 rfl) ?_
    refine wr_ildN hx hb hK hw (3 * i + 2) (by omega) (cs_SH (by omega)) (by decide) v rfl (by omega) dX7_cutOff_27 ?_
    refine lv_iload_n hx hb dX7_cutOff_28 rfl (lv_at hl 2 rfl) ?_
    refine lv_icmp_ne (tgt := 41) hx hb dX7_cutOff_29 (by decide) (fun q2 => ?_) (fun q2 => ?_)
    · skip
      exact wr_vret hx hb hr hK hw (by show (_, _) = (_, _); unfold F_X7_cutOff; rw [if_neg q1, if_neg q2]) hlocks dX7_cutOff_41
    · skip
      refine lv_aload_n hx hb dX7_cutOff_32 rfl (lv_at hl 0 rfl) ?_
      refine wr_gr hx hb hown hK hts iX7 (ci := 6) rfl 2 (by decide) f19 rfl hw (3 * i) (by omega) (3 * i + 2) (cs_S (by omega)) rfl dX7_cutOff_33 ?_
      refine lv_iload_n hx hb dX7_cutOff_36 rfl (lv_at hl 1 rfl) ?_
      refine lv_iload_n hx hb dX7_cutOff_37 rfl (lv_at hl 2 rfl) ?_
      refine lv_iconst (v := nI 1) hx hb dX7_cutOff_38 (by decide) ?_
      refine lv_isub hx hb dX7_cutOff_39 ?_
      refine wr_istN hx hb hK hw (3 * i + 2) (by omega) (cs_SH (by omega)) (by decide) v rfl (by omega) dX7_cutOff_40 (fun H locs hw => ?_)
      exact wr_vret hx hb hr hK hw (by show (_, _) = (_, _); unfold F_X7_cutOff; rw [if_neg q1, if_pos q2]) hlocks dX7_cutOff_41
  · skip
    refine lv_aload_n hx hb dX7_cutOff_10 rfl (lv_at hl 0 rfl) ?_
    refine wr_gr hx hb hown hK hts iX7 (ci := 6) rfl 1 (by decide) f15 rfl hw (3 * i) (by omega) (3 * i + 1) (cs_S (by omega)) rfl dX7_cutOff_11 ?_
    refine lv_iload_n hx hb dX7_cutOff_14 rfl (lv_at hl 1 rfl) ?_
    refine lv_iload_n hx hb dX7_cutOff_15 rfl (lv_at hl 2 rfl) ?_
    refine lv_iconst (v := nI 1) hx hb dX7_cutOff_16 (by decide) ?_
    refine lv_iadd hx hb dX7_cutOff_17 ?_
    refine wr_istN hx hb hK hw (3 * i + 1) (by omega) (cs_SL (by omega)) (by decide) v rfl (by omega) dX7_cutOff_18 (fun H locs hw => ?_)
    refine lv_goto (tgt := 41) hx hb dX7_cutOff_19 (by decide) ?_
    exact wr_vret hx hb hr hK hw (by show (_, _) = (_, _); unfold F_X7_cutOff; rw [if_pos q1]) hlocks dX7_cutOff_41
def F_X7_keepOrdered (M : wM) (i : Nat) (x : Nat) (y : Nat) (g : Int32) : wM := (if ((M (3 * i + 1) x) + g) ≤ M (3 * i + 2) y then (wU (wU M (3 * i + 2) x ((i_mn (M (3 * i + 2) x) (((M (3 * i + 2) y) - g))))) (3 * i + 1) y ((i_mx ((wU M (3 * i + 2) x ((i_mn (M (3 * i + 2) x) (((M (3 * i + 2) y) - g))))) (3 * i + 1) y) ((((wU M (3 * i + 2) x ((i_mn (M (3 * i + 2) x) (((M (3 * i + 2) y) - g))))) (3 * i + 1) x) + g))))) else (wU M (3 * i) 0 (nI 1)))
set_option maxHeartbeats 4000000 in
set_option maxRecDepth 100000 in
theorem k_X7_keepOrdered (l : Launch) (D : va_G) (ad : Nat → Nat) (cs : Nat → ClassId) (sz : Nat) (M : wM) (J : wJ) (i : Nat) (x : Nat) (y : Nat) (g : Int32) (hi : i < 67) (hx6 : x < 6) (hy6 : y < 6) : wCv l yX7_keepOrdered wsX7_keepOrdered { frames := 1, cells := 0, slots := 0, locals := 31 } D 340 cSh ad cs [.ref (ad (3 * i)), .int (nI x), .int (nI y), .int g] sz M J (fun u_ => u_ = (F_X7_keepOrdered M i x y g, J)) := by
  refine wC_v (cc := cX7_keepOrdered) (maxL := 4) (ret := none) (by decide) rfl (Nat.le_of_ble_eq_true rfl) ?_
  intro p e s m below meth c ls A hx hb hr hml hown hts hlocks hK hA hw hl hAe
  clear hAe
  have hl : lv_has ls 4 [(0, .ref (ad (3 * i))), (1, .int (nI x)), (2, .int (nI y)), (3, .int g)] := hl
  have f15 : (Cond.fieldLink RX7 15 "RangePropagator$State" "low" "[I").before _ s = true := hts _ (by decide +kernel)
  have iX7 : ∀ w ∈ wsX70, w ∈ wsX7_keepOrdered := by decide +kernel
  have f19 : (Cond.fieldLink RX7 19 "RangePropagator$State" "high" "[I").before _ s = true := hts _ (by decide +kernel)
  have m32 : (Cond.methodLink RX7 32 Lib.Math.min.name).before _ s = true := hts _ (by decide +kernel)
  have t32 : (Cond.static Lib.Math.min.name).before _ s = true := hts _ (by decide +kernel)
  have iMath : (Cond.initialized "java/lang/Math").before _ s = true := hts _ (by decide +kernel)
  have c32 : (Cond.code Lib.Math.min.name Lib.Math.min.code 2 (some .int)).before _ s = true := hts _ (by decide +kernel)
  have m38 : (Cond.methodLink RX7 38 Lib.Math.max.name).before _ s = true := hts _ (by decide +kernel)
  have t38 : (Cond.static Lib.Math.max.name).before _ s = true := hts _ (by decide +kernel)
  have c38 : (Cond.code Lib.Math.max.name Lib.Math.max.code 2 (some .int)).before _ s = true := hts _ (by decide +kernel)
  have f9 : (Cond.fieldLink RX7 9 "RangePropagator$State" "isNone" "Z").before _ s = true := hts _ (by decide +kernel)
  refine lv_aload_n hx hb dX7_keepOrdered_0 rfl (lv_at hl 0 rfl) ?_
  refine wr_gr hx hb hown hK hts iX7 (ci := 6) rfl 1 (by decide) f15 rfl hw (3 * i) (by omega) (3 * i + 1) (cs_S (by omega)) rfl dX7_keepOrdered_1 ?_
  refine lv_iload_n hx hb dX7_keepOrdered_4 rfl (lv_at hl 1 rfl) ?_
  refine wr_ildN hx hb hK hw (3 * i + 1) (by omega) (cs_SL (by omega)) (by decide) x rfl (by omega) dX7_keepOrdered_5 ?_
  refine lv_iload_n hx hb dX7_keepOrdered_6 rfl (lv_at hl 3 rfl) ?_
  refine lv_iadd hx hb dX7_keepOrdered_7 ?_
  refine lv_aload_n hx hb dX7_keepOrdered_8 rfl (lv_at hl 0 rfl) ?_
  refine wr_gr hx hb hown hK hts iX7 (ci := 6) rfl 2 (by decide) f19 rfl hw (3 * i) (by omega) (3 * i + 2) (cs_S (by omega)) rfl dX7_keepOrdered_9 ?_
  refine lv_iload_n hx hb dX7_keepOrdered_12 rfl (lv_at hl 2 rfl) ?_
  refine wr_ildN hx hb hK hw (3 * i + 2) (by omega) (cs_SH (by omega)) (by decide) y rfl (by omega) dX7_keepOrdered_13 ?_
  refine lv_icmp_le (tgt := 23) hx hb dX7_keepOrdered_14 (by decide) (fun q1 => ?_) (fun q1 => ?_)
  · skip
    refine lv_aload_n hx hb dX7_keepOrdered_23 rfl (lv_at hl 0 rfl) ?_
    refine wr_gr hx hb hown hK hts iX7 (ci := 6) rfl 2 (by decide) f19 rfl hw (3 * i) (by omega) (3 * i + 2) (cs_S (by omega)) rfl dX7_keepOrdered_24 ?_
    refine lv_iload_n hx hb dX7_keepOrdered_27 rfl (lv_at hl 1 rfl) ?_
    refine lv_aload_n hx hb dX7_keepOrdered_28 rfl (lv_at hl 0 rfl) ?_
    refine wr_gr hx hb hown hK hts iX7 (ci := 6) rfl 2 (by decide) f19 rfl hw (3 * i) (by omega) (3 * i + 2) (cs_S (by omega)) rfl dX7_keepOrdered_29 ?_
    refine lv_iload_n hx hb dX7_keepOrdered_32 rfl (lv_at hl 1 rfl) ?_
    refine wr_ildN hx hb hK hw (3 * i + 2) (by omega) (cs_SH (by omega)) (by decide) x rfl (by omega) dX7_keepOrdered_33 ?_
    refine lv_aload_n hx hb dX7_keepOrdered_34 rfl (lv_at hl 0 rfl) ?_
    refine wr_gr hx hb hown hK hts iX7 (ci := 6) rfl 2 (by decide) f19 rfl hw (3 * i) (by omega) (3 * i + 2) (cs_S (by omega)) rfl dX7_keepOrdered_35 ?_
    refine lv_iload_n hx hb dX7_keepOrdered_38 rfl (lv_at hl 2 rfl) ?_
    refine wr_ildN hx hb hK hw (3 * i + 2) (by omega) (cs_SH (by omega)) (by decide) y rfl (by omega) dX7_keepOrdered_39 ?_
    refine lv_iload_n hx hb dX7_keepOrdered_40 rfl (lv_at hl 3 rfl) ?_
    refine lv_isub hx hb dX7_keepOrdered_41 ?_
    refine va_mmin hx hb (hml.trans hl.1.symm) hown m32 t32 iMath c32 (Nat.le_of_ble_eq_true rfl) (Nat.le_of_ble_eq_true rfl) (Nat.le_of_ble_eq_true rfl) (Nat.le_of_ble_eq_true rfl) dX7_keepOrdered_42 ?_
    refine W.eq (g2 := F0 m 45 ls [.int ((i_mn (M (3 * i + 2) x) (((M (3 * i + 2) y) - g)))), .int (nI x), .ref (ad (3 * i + 2))]) rfl ?_
    refine wr_istN hx hb hK hw (3 * i + 2) (by omega) (cs_SH (by omega)) (by decide) x rfl (by omega) dX7_keepOrdered_45 (fun H locs hw => ?_)
    refine lv_aload_n hx hb dX7_keepOrdered_46 rfl (lv_at hl 0 rfl) ?_
    refine wr_gr hx hb hown hK hts iX7 (ci := 6) rfl 1 (by decide) f15 rfl hw (3 * i) (by omega) (3 * i + 1) (cs_S (by omega)) rfl dX7_keepOrdered_47 ?_
    refine lv_iload_n hx hb dX7_keepOrdered_50 rfl (lv_at hl 2 rfl) ?_
    refine lv_aload_n hx hb dX7_keepOrdered_51 rfl (lv_at hl 0 rfl) ?_
    refine wr_gr hx hb hown hK hts iX7 (ci := 6) rfl 1 (by decide) f15 rfl hw (3 * i) (by omega) (3 * i + 1) (cs_S (by omega)) rfl dX7_keepOrdered_52 ?_
    refine lv_iload_n hx hb dX7_keepOrdered_55 rfl (lv_at hl 2 rfl) ?_
    refine wr_ildN hx hb hK hw (3 * i + 1) (by omega) (cs_SL (by omega)) (by decide) y rfl (by omega) dX7_keepOrdered_56 ?_
    refine lv_aload_n hx hb dX7_keepOrdered_57 rfl (lv_at hl 0 rfl) ?_
    refine wr_gr hx hb hown hK hts iX7 (ci := 6) rfl 1 (by decide) f15 rfl hw (3 * i) (by omega) (3 * i + 1) (cs_S (by omega)) rfl dX7_keepOrdered_58 ?_
    refine lv_iload_n hx hb dX7_keepOrdered_61 rfl (lv_at hl 1 rfl) ?_
    refine wr_ildN hx hb hK hw (3 * i + 1) (by omega) (cs_SL (by omega)) (by decide) x rfl (by omega) dX7_keepOrdered_62 ?_
    refine lv_iload_n hx hb dX7_keepOrdered_63 rfl (lv_at hl 3 rfl) ?_
    refine lv_iadd hx hb dX7_keepOrdered_64 ?_
    refine va_mmax hx hb (hml.trans hl.1.symm) hown m38 t38 iMath c38 (Nat.le_of_ble_eq_true rfl) (Nat.le_of_ble_eq_true rfl) (Nat.le_of_ble_eq_true rfl) (Nat.le_of_ble_eq_true rfl) dX7_keepOrdered_65 ?_
    refine W.eq (g2 := F0 m 68 ls [.int ((i_mx ((wU M (3 * i + 2) x ((i_mn (M (3 * i + 2) x) (((M (3 * i + 2) y) - g))))) (3 * i + 1) y) ((((wU M (3 * i + 2) x ((i_mn (M (3 * i + 2) x) (((M (3 * i + 2) y) - g))))) (3 * i + 1) x) + g)))), .int (nI y), .ref (ad (3 * i + 1))]) rfl ?_
    refine wr_istN hx hb hK hw (3 * i + 1) (by omega) (cs_SL (by omega)) (by decide) y rfl (by omega) dX7_keepOrdered_68 (fun H locs hw => ?_)
    exact wr_vret hx hb hr hK hw (by show (_, _) = (_, _); unfold F_X7_keepOrdered; rw [if_pos q1]) hlocks dX7_keepOrdered_69
  · skip
    refine lv_aload_n hx hb dX7_keepOrdered_17 rfl (lv_at hl 0 rfl) ?_
    refine lv_iconst (v := nI 1) hx hb dX7_keepOrdered_18 (by decide) ?_
    refine wr_pi hx hb hown hK hts iX7 tyX7_ok nmX7 (ci := 6) rfl 0 (by decide) f9 rfl rfl hw (3 * i) (by omega) (cs_S (by omega)) rfl (by decide) (by decide) dX7_keepOrdered_19 (fun H locs hw => ?_)
    exact wr_vret hx hb hr hK hw (by show (_, _) = (_, _); unfold F_X7_keepOrdered; rw [if_neg q1]) hlocks dX7_keepOrdered_22
def F_X7_keepEqual (M : wM) (i : Nat) (x : Nat) (y : Nat) : wM := (if (i_mx (M (3 * i + 1) x) (M (3 * i + 1) y)) ≤ (i_mn (M (3 * i + 2) x) (M (3 * i + 2) y)) then (F_X7_setRange (F_X7_setRange M i x ((i_mx (M (3 * i + 1) x) (M (3 * i + 1) y))) ((i_mn (M (3 * i + 2) x) (M (3 * i + 2) y)))) i y ((i_mx (M (3 * i + 1) x) (M (3 * i + 1) y))) ((i_mn (M (3 * i + 2) x) (M (3 * i + 2) y)))) else (wU M (3 * i) 0 (nI 1)))
set_option maxHeartbeats 4000000 in
set_option maxRecDepth 100000 in
theorem k_X7_keepEqual (l : Launch) (D : va_G) (ad : Nat → Nat) (cs : Nat → ClassId) (sz : Nat) (M : wM) (J : wJ) (i : Nat) (x : Nat) (y : Nat) (hi : i < 67) (hx6 : x < 6) (hy6 : y < 6) : wCv l yX7_keepEqual wsX7_keepEqual { frames := 1, cells := 0, slots := 0, locals := 31 } D 340 cSh ad cs [.ref (ad (3 * i)), .int (nI x), .int (nI y)] sz M J (fun u_ => u_ = (F_X7_keepEqual M i x y, J)) := by
  refine wC_v (cc := cX7_keepEqual) (maxL := 5) (ret := none) (by decide) rfl (Nat.le_of_ble_eq_true rfl) ?_
  intro p e s m below meth c ls A hx hb hr hml hown hts hlocks hK hA hw hl hAe
  clear hAe
  have hl : lv_has ls 5 [(0, .ref (ad (3 * i))), (1, .int (nI x)), (2, .int (nI y))] := hl
  have f15 : (Cond.fieldLink RX7 15 "RangePropagator$State" "low" "[I").before _ s = true := hts _ (by decide +kernel)
  have iX7 : ∀ w ∈ wsX70, w ∈ wsX7_keepEqual := by decide +kernel
  have m38 : (Cond.methodLink RX7 38 Lib.Math.max.name).before _ s = true := hts _ (by decide +kernel)
  have t38 : (Cond.static Lib.Math.max.name).before _ s = true := hts _ (by decide +kernel)
  have iMath : (Cond.initialized "java/lang/Math").before _ s = true := hts _ (by decide +kernel)
  have c38 : (Cond.code Lib.Math.max.name Lib.Math.max.code 2 (some .int)).before _ s = true := hts _ (by decide +kernel)
  have f19 : (Cond.fieldLink RX7 19 "RangePropagator$State" "high" "[I").before _ s = true := hts _ (by decide +kernel)
  have m32 : (Cond.methodLink RX7 32 Lib.Math.min.name).before _ s = true := hts _ (by decide +kernel)
  have t32 : (Cond.static Lib.Math.min.name).before _ s = true := hts _ (by decide +kernel)
  have c32 : (Cond.code Lib.Math.min.name Lib.Math.min.code 2 (some .int)).before _ s = true := hts _ (by decide +kernel)
  have f9 : (Cond.fieldLink RX7 9 "RangePropagator$State" "isNone" "Z").before _ s = true := hts _ (by decide +kernel)
  refine lv_aload_n hx hb dX7_keepEqual_0 rfl (lv_at hl 0 rfl) ?_
  refine wr_gr hx hb hown hK hts iX7 (ci := 6) rfl 1 (by decide) f15 rfl hw (3 * i) (by omega) (3 * i + 1) (cs_S (by omega)) rfl dX7_keepEqual_1 ?_
  refine lv_iload_n hx hb dX7_keepEqual_4 rfl (lv_at hl 1 rfl) ?_
  refine wr_ildN hx hb hK hw (3 * i + 1) (by omega) (cs_SL (by omega)) (by decide) x rfl (by omega) dX7_keepEqual_5 ?_
  refine lv_aload_n hx hb dX7_keepEqual_6 rfl (lv_at hl 0 rfl) ?_
  refine wr_gr hx hb hown hK hts iX7 (ci := 6) rfl 1 (by decide) f15 rfl hw (3 * i) (by omega) (3 * i + 1) (cs_S (by omega)) rfl dX7_keepEqual_7 ?_
  refine lv_iload_n hx hb dX7_keepEqual_10 rfl (lv_at hl 2 rfl) ?_
  refine wr_ildN hx hb hK hw (3 * i + 1) (by omega) (cs_SL (by omega)) (by decide) y rfl (by omega) dX7_keepEqual_11 ?_
  refine va_mmax hx hb (hml.trans hl.1.symm) hown m38 t38 iMath c38 (Nat.le_of_ble_eq_true rfl) (Nat.le_of_ble_eq_true rfl) (Nat.le_of_ble_eq_true rfl) (Nat.le_of_ble_eq_true rfl) dX7_keepEqual_12 ?_
  refine W.eq (g2 := F0 m 15 ls [.int ((i_mx (M (3 * i + 1) x) (M (3 * i + 1) y)))]) rfl ?_
  refine lv_istore_n (lv' := [(3, .int ((i_mx (M (3 * i + 1) x) (M (3 * i + 1) y)))), (0, .ref (ad (3 * i))), (1, .int (nI x)), (2, .int (nI y))]) hx hb dX7_keepEqual_15 rfl hl (by decide) rfl (fun ls hl => ?_)
  refine lv_aload_n hx hb dX7_keepEqual_16 rfl (lv_at hl 1 rfl) ?_
  refine wr_gr hx hb hown hK hts iX7 (ci := 6) rfl 2 (by decide) f19 rfl hw (3 * i) (by omega) (3 * i + 2) (cs_S (by omega)) rfl dX7_keepEqual_17 ?_
  refine lv_iload_n hx hb dX7_keepEqual_20 rfl (lv_at hl 2 rfl) ?_
  refine wr_ildN hx hb hK hw (3 * i + 2) (by omega) (cs_SH (by omega)) (by decide) x rfl (by omega) dX7_keepEqual_21 ?_
  refine lv_aload_n hx hb dX7_keepEqual_22 rfl (lv_at hl 1 rfl) ?_
  refine wr_gr hx hb hown hK hts iX7 (ci := 6) rfl 2 (by decide) f19 rfl hw (3 * i) (by omega) (3 * i + 2) (cs_S (by omega)) rfl dX7_keepEqual_23 ?_
  refine lv_iload_n hx hb dX7_keepEqual_26 rfl (lv_at hl 3 rfl) ?_
  refine wr_ildN hx hb hK hw (3 * i + 2) (by omega) (cs_SH (by omega)) (by decide) y rfl (by omega) dX7_keepEqual_27 ?_
  refine va_mmin hx hb (hml.trans hl.1.symm) hown m32 t32 iMath c32 (Nat.le_of_ble_eq_true rfl) (Nat.le_of_ble_eq_true rfl) (Nat.le_of_ble_eq_true rfl) (Nat.le_of_ble_eq_true rfl) dX7_keepEqual_28 ?_
  refine W.eq (g2 := F0 m 31 ls [.int ((i_mn (M (3 * i + 2) x) (M (3 * i + 2) y)))]) rfl ?_
  refine lv_istore (lv' := [(4, .int ((i_mn (M (3 * i + 2) x) (M (3 * i + 2) y)))), (3, .int ((i_mx (M (3 * i + 1) x) (M (3 * i + 1) y)))), (0, .ref (ad (3 * i))), (1, .int (nI x)), (2, .int (nI y))]) hx hb dX7_keepEqual_31 hl (by decide) rfl (fun ls hl => ?_)
  refine lv_iload_n hx hb dX7_keepEqual_33 rfl (lv_at hl 1 rfl) ?_
  refine lv_iload hx hb dX7_keepEqual_34 (lv_at hl 0 rfl) ?_
  refine lv_icmp_le (tgt := 45) hx hb dX7_keepEqual_36 (by decide) (fun q1 => ?_) (fun q1 => ?_)
  · skip
    refine lv_aload_n hx hb dX7_keepEqual_45 rfl (lv_at hl 2 rfl) ?_
    refine lv_iload_n hx hb dX7_keepEqual_46 rfl (lv_at hl 3 rfl) ?_
    refine lv_iload_n hx hb dX7_keepEqual_47 rfl (lv_at hl 1 rfl) ?_
    refine lv_iload hx hb dX7_keepEqual_48 (lv_at hl 0 rfl) ?_
    refine wr_cVv (k := 3 * i) (ci := 6) (As := [.int (nI x), .int ((i_mx (M (3 * i + 1) x) (M (3 * i + 1) y))), .int ((i_mn (M (3 * i + 2) x) (M (3 * i + 2) y)))]) (rest := []) ⟨hx, hb, hml, hown, hts⟩ (cwV 3 hts gX7_keepEqual_X7_setRange rfl rfl rfl (by decide +kernel) ⟨Nat.le_of_ble_eq_true rfl, Nat.le_of_ble_eq_true rfl⟩) hK hA hw (k_X7_setRange l D ad cs s.heap.size M J i x ((i_mx (M (3 * i + 1) x) (M (3 * i + 1) y))) ((i_mn (M (3 * i + 2) x) (M (3 * i + 2) y))) (by omega) (by omega)) (by omega) (cs_S (by omega)) rfl rfl rfl hl.1 (Nat.le_of_ble_eq_true rfl) ⟨Nat.le_of_ble_eq_true rfl, Nat.le_of_ble_eq_true rfl⟩ dX7_keepEqual_50 (fun M3 J4 H locs h5 hw => ?_)
    cases h5
    refine lv_aload_n hx hb dX7_keepEqual_53 rfl (lv_at hl 2 rfl) ?_
    refine lv_iload_n hx hb dX7_keepEqual_54 rfl (lv_at hl 4 rfl) ?_
    refine lv_iload_n hx hb dX7_keepEqual_55 rfl (lv_at hl 1 rfl) ?_
    refine lv_iload hx hb dX7_keepEqual_56 (lv_at hl 0 rfl) ?_
    refine wr_cVv (k := 3 * i) (ci := 6) (As := [.int (nI y), .int ((i_mx (M (3 * i + 1) x) (M (3 * i + 1) y))), .int ((i_mn (M (3 * i + 2) x) (M (3 * i + 2) y)))]) (rest := []) ⟨hx, hb, hml, hown, hts⟩ (cwV 3 hts gX7_keepEqual_X7_setRange rfl rfl rfl (by decide +kernel) ⟨Nat.le_of_ble_eq_true rfl, Nat.le_of_ble_eq_true rfl⟩) hK hA hw (k_X7_setRange l D ad cs H.size (F_X7_setRange M i x ((i_mx (M (3 * i + 1) x) (M (3 * i + 1) y))) ((i_mn (M (3 * i + 2) x) (M (3 * i + 2) y)))) J i y ((i_mx (M (3 * i + 1) x) (M (3 * i + 1) y))) ((i_mn (M (3 * i + 2) x) (M (3 * i + 2) y))) (by omega) (by omega)) (by omega) (cs_S (by omega)) rfl rfl rfl hl.1 (Nat.le_of_ble_eq_true rfl) ⟨Nat.le_of_ble_eq_true rfl, Nat.le_of_ble_eq_true rfl⟩ dX7_keepEqual_58 (fun M7 J8 H locs h9 hw => ?_)
    cases h9
    exact wr_vret hx hb hr hK hw (by show (_, _) = (_, _); unfold F_X7_keepEqual; rw [if_pos q1]) hlocks dX7_keepEqual_61
  · skip
    refine lv_aload_n hx hb dX7_keepEqual_39 rfl (lv_at hl 2 rfl) ?_
    refine lv_iconst (v := nI 1) hx hb dX7_keepEqual_40 (by decide) ?_
    refine wr_pi hx hb hown hK hts iX7 tyX7_ok nmX7 (ci := 6) rfl 0 (by decide) f9 rfl rfl hw (3 * i) (by omega) (cs_S (by omega)) rfl (by decide) (by decide) dX7_keepEqual_41 (fun H locs hw => ?_)
    exact wr_vret hx hb hr hK hw (by show (_, _) = (_, _); unfold F_X7_keepEqual; rw [if_neg q1]) hlocks dX7_keepEqual_44
def F_X7_assign (M : wM) (i : Nat) (k : Int32) (x : Nat) (y : Nat) (z : Nat) : wM := (wU (wU M (3 * i + 1) x ((i_mn ((i_mn (E_X1_outcome M k (M (3 * i + 1) y) (M (3 * i + 1) z)) (E_X1_outcome M k (M (3 * i + 1) y) (M (3 * i + 2) z)))) ((i_mn (E_X1_outcome M k (M (3 * i + 2) y) (M (3 * i + 1) z)) (E_X1_outcome M k (M (3 * i + 2) y) (M (3 * i + 2) z))))))) (3 * i + 2) x ((i_mx ((i_mx (E_X1_outcome M k (M (3 * i + 1) y) (M (3 * i + 1) z)) (E_X1_outcome M k (M (3 * i + 1) y) (M (3 * i + 2) z)))) ((i_mx (E_X1_outcome M k (M (3 * i + 2) y) (M (3 * i + 1) z)) (E_X1_outcome M k (M (3 * i + 2) y) (M (3 * i + 2) z)))))))
set_option maxHeartbeats 4000000 in
set_option maxRecDepth 100000 in
theorem k_X7_assign (l : Launch) (D : va_G) (ad : Nat → Nat) (cs : Nat → ClassId) (sz : Nat) (M : wM) (J : wJ) (i : Nat) (k : Int32) (x : Nat) (y : Nat) (z : Nat) (hi : i < 67) (hx6 : x < 6) (hy6 : y < 6) (hz6 : z < 6) : wCv l yX7_assign wsX7_assign { frames := 2, cells := 0, slots := 0, locals := 55 } D 340 cSh ad cs [.ref (ad (3 * i)), .int k, .int (nI x), .int (nI y), .int (nI z)] sz M J (fun u_ => u_ = (F_X7_assign M i k x y z, J)) := by
  refine wC_v (cc := cX7_assign) (maxL := 9) (ret := none) (by decide) rfl (Nat.le_of_ble_eq_true rfl) ?_
  intro p e s m below meth c ls A hx hb hr hml hown hts hlocks hK hA hw hl hAe
  clear hAe
  have hl : lv_has ls 9 [(0, .ref (ad (3 * i))), (1, .int k), (2, .int (nI x)), (3, .int (nI y)), (4, .int (nI z))] := hl
  have f15 : (Cond.fieldLink RX7 15 "RangePropagator$State" "low" "[I").before _ s = true := hts _ (by decide +kernel)
  have iX7 : ∀ w ∈ wsX70, w ∈ wsX7_assign := by decide +kernel
  have f19 : (Cond.fieldLink RX7 19 "RangePropagator$State" "high" "[I").before _ s = true := hts _ (by decide +kernel)
  have m32 : (Cond.methodLink RX7 32 Lib.Math.min.name).before _ s = true := hts _ (by decide +kernel)
  have t32 : (Cond.static Lib.Math.min.name).before _ s = true := hts _ (by decide +kernel)
  have iMath : (Cond.initialized "java/lang/Math").before _ s = true := hts _ (by decide +kernel)
  have c32 : (Cond.code Lib.Math.min.name Lib.Math.min.code 2 (some .int)).before _ s = true := hts _ (by decide +kernel)
  have m38 : (Cond.methodLink RX7 38 Lib.Math.max.name).before _ s = true := hts _ (by decide +kernel)
  have t38 : (Cond.static Lib.Math.max.name).before _ s = true := hts _ (by decide +kernel)
  have c38 : (Cond.code Lib.Math.max.name Lib.Math.max.code 2 (some .int)).before _ s = true := hts _ (by decide +kernel)
  refine lv_iload_n hx hb dX7_assign_0 rfl (lv_at hl 1 rfl) ?_
  refine lv_aload_n hx hb dX7_assign_1 rfl (lv_at hl 0 rfl) ?_
  refine wr_gr hx hb hown hK hts iX7 (ci := 6) rfl 1 (by decide) f15 rfl hw (3 * i) (by omega) (3 * i + 1) (cs_S (by omega)) rfl dX7_assign_2 ?_
  refine lv_iload_n hx hb dX7_assign_5 rfl (lv_at hl 3 rfl) ?_
  refine wr_ildN hx hb hK hw (3 * i + 1) (by omega) (cs_SL (by omega)) (by decide) y rfl (by omega) dX7_assign_6 ?_
  refine lv_aload_n hx hb dX7_assign_7 rfl (lv_at hl 0 rfl) ?_
  refine wr_gr hx hb hown hK hts iX7 (ci := 6) rfl 1 (by decide) f15 rfl hw (3 * i) (by omega) (3 * i + 1) (cs_S (by omega)) rfl dX7_assign_8 ?_
  refine lv_iload hx hb dX7_assign_11 (lv_at hl 4 rfl) ?_
  refine wr_ildN hx hb hK hw (3 * i + 1) (by omega) (cs_SL (by omega)) (by decide) z rfl (by omega) dX7_assign_13 ?_
  refine wr_cSi (As := [.int k, .int (M (3 * i + 1) y), .int (M (3 * i + 1) z)]) (rest := []) ⟨hx, hb, hml, hown, hts⟩ (va_cwS 3 hts gX7_assign_X1_outcome rfl rfl rfl (by decide +kernel) ⟨Nat.le_of_ble_eq_true rfl, Nat.le_of_ble_eq_true rfl⟩) hK hA hw (k_X1_outcome l D ad cs s.heap.size M J k (M (3 * i + 1) y) (M (3 * i + 1) z) ) rfl rfl hl.1 (Nat.le_of_ble_eq_true rfl) ⟨Nat.le_of_ble_eq_true rfl, Nat.le_of_ble_eq_true rfl⟩ dX7_assign_14 (fun r1 M2 J3 H locs h4 hw => ?_)
  obtain ⟨h4, rfl⟩ := h4
  cases h4
  refine lv_istore (lv' := [(5, .int (E_X1_outcome M k (M (3 * i + 1) y) (M (3 * i + 1) z))), (0, .ref (ad (3 * i))), (1, .int k), (2, .int (nI x)), (3, .int (nI y)), (4, .int (nI z))]) hx hb dX7_assign_17 hl (by decide) rfl (fun ls hl => ?_)
  refine lv_iload_n hx hb dX7_assign_19 rfl (lv_at hl 2 rfl) ?_
  refine lv_aload_n hx hb dX7_assign_20 rfl (lv_at hl 1 rfl) ?_
  refine wr_gr hx hb hown hK hts iX7 (ci := 6) rfl 1 (by decide) f15 rfl hw (3 * i) (by omega) (3 * i + 1) (cs_S (by omega)) rfl dX7_assign_21 ?_
  refine lv_iload_n hx hb dX7_assign_24 rfl (lv_at hl 4 rfl) ?_
  refine wr_ildN hx hb hK hw (3 * i + 1) (by omega) (cs_SL (by omega)) (by decide) y rfl (by omega) dX7_assign_25 ?_
  refine lv_aload_n hx hb dX7_assign_26 rfl (lv_at hl 1 rfl) ?_
  refine wr_gr hx hb hown hK hts iX7 (ci := 6) rfl 2 (by decide) f19 rfl hw (3 * i) (by omega) (3 * i + 2) (cs_S (by omega)) rfl dX7_assign_27 ?_
  refine lv_iload hx hb dX7_assign_30 (lv_at hl 5 rfl) ?_
  refine wr_ildN hx hb hK hw (3 * i + 2) (by omega) (cs_SH (by omega)) (by decide) z rfl (by omega) dX7_assign_32 ?_
  refine wr_cSi (As := [.int k, .int (M (3 * i + 1) y), .int (M (3 * i + 2) z)]) (rest := []) ⟨hx, hb, hml, hown, hts⟩ (va_cwS 3 hts gX7_assign_X1_outcome rfl rfl rfl (by decide +kernel) ⟨Nat.le_of_ble_eq_true rfl, Nat.le_of_ble_eq_true rfl⟩) hK hA hw (k_X1_outcome l D ad cs H.size M J k (M (3 * i + 1) y) (M (3 * i + 2) z) ) rfl rfl hl.1 (Nat.le_of_ble_eq_true rfl) ⟨Nat.le_of_ble_eq_true rfl, Nat.le_of_ble_eq_true rfl⟩ dX7_assign_33 (fun r5 M6 J7 H locs h8 hw => ?_)
  obtain ⟨h8, rfl⟩ := h8
  cases h8
  refine lv_istore (lv' := [(6, .int (E_X1_outcome M k (M (3 * i + 1) y) (M (3 * i + 2) z))), (5, .int (E_X1_outcome M k (M (3 * i + 1) y) (M (3 * i + 1) z))), (0, .ref (ad (3 * i))), (1, .int k), (2, .int (nI x)), (3, .int (nI y)), (4, .int (nI z))]) hx hb dX7_assign_36 hl (by decide) rfl (fun ls hl => ?_)
  refine lv_iload_n hx hb dX7_assign_38 rfl (lv_at hl 3 rfl) ?_
  refine lv_aload_n hx hb dX7_assign_39 rfl (lv_at hl 2 rfl) ?_
  refine wr_gr hx hb hown hK hts iX7 (ci := 6) rfl 2 (by decide) f19 rfl hw (3 * i) (by omega) (3 * i + 2) (cs_S (by omega)) rfl dX7_assign_40 ?_
  refine lv_iload_n hx hb dX7_assign_43 rfl (lv_at hl 5 rfl) ?_
  refine wr_ildN hx hb hK hw (3 * i + 2) (by omega) (cs_SH (by omega)) (by decide) y rfl (by omega) dX7_assign_44 ?_
  refine lv_aload_n hx hb dX7_assign_45 rfl (lv_at hl 2 rfl) ?_
  refine wr_gr hx hb hown hK hts iX7 (ci := 6) rfl 1 (by decide) f15 rfl hw (3 * i) (by omega) (3 * i + 1) (cs_S (by omega)) rfl dX7_assign_46 ?_
  refine lv_iload hx hb dX7_assign_49 (lv_at hl 6 rfl) ?_
  refine wr_ildN hx hb hK hw (3 * i + 1) (by omega) (cs_SL (by omega)) (by decide) z rfl (by omega) dX7_assign_51 ?_
  refine wr_cSi (As := [.int k, .int (M (3 * i + 2) y), .int (M (3 * i + 1) z)]) (rest := []) ⟨hx, hb, hml, hown, hts⟩ (va_cwS 3 hts gX7_assign_X1_outcome rfl rfl rfl (by decide +kernel) ⟨Nat.le_of_ble_eq_true rfl, Nat.le_of_ble_eq_true rfl⟩) hK hA hw (k_X1_outcome l D ad cs H.size M J k (M (3 * i + 2) y) (M (3 * i + 1) z) ) rfl rfl hl.1 (Nat.le_of_ble_eq_true rfl) ⟨Nat.le_of_ble_eq_true rfl, Nat.le_of_ble_eq_true rfl⟩ dX7_assign_52 (fun r9 M10 J11 H locs h12 hw => ?_)
  obtain ⟨h12, rfl⟩ := h12
  cases h12
  refine lv_istore (lv' := [(7, .int (E_X1_outcome M k (M (3 * i + 2) y) (M (3 * i + 1) z))), (6, .int (E_X1_outcome M k (M (3 * i + 1) y) (M (3 * i + 2) z))), (5, .int (E_X1_outcome M k (M (3 * i + 1) y) (M (3 * i + 1) z))), (0, .ref (ad (3 * i))), (1, .int k), (2, .int (nI x)), (3, .int (nI y)), (4, .int (nI z))]) hx hb dX7_assign_55 hl (by decide) rfl (fun ls hl => ?_)
  refine lv_iload_n hx hb dX7_assign_57 rfl (lv_at hl 4 rfl) ?_
  refine lv_aload_n hx hb dX7_assign_58 rfl (lv_at hl 3 rfl) ?_
  refine wr_gr hx hb hown hK hts iX7 (ci := 6) rfl 2 (by decide) f19 rfl hw (3 * i) (by omega) (3 * i + 2) (cs_S (by omega)) rfl dX7_assign_59 ?_
  refine lv_iload_n hx hb dX7_assign_62 rfl (lv_at hl 6 rfl) ?_
  refine wr_ildN hx hb hK hw (3 * i + 2) (by omega) (cs_SH (by omega)) (by decide) y rfl (by omega) dX7_assign_63 ?_
  refine lv_aload_n hx hb dX7_assign_64 rfl (lv_at hl 3 rfl) ?_
  refine wr_gr hx hb hown hK hts iX7 (ci := 6) rfl 2 (by decide) f19 rfl hw (3 * i) (by omega) (3 * i + 2) (cs_S (by omega)) rfl dX7_assign_65 ?_
  refine lv_iload hx hb dX7_assign_68 (lv_at hl 7 rfl) ?_
  refine wr_ildN hx hb hK hw (3 * i + 2) (by omega) (cs_SH (by omega)) (by decide) z rfl (by omega) dX7_assign_70 ?_
  refine wr_cSi (As := [.int k, .int (M (3 * i + 2) y), .int (M (3 * i + 2) z)]) (rest := []) ⟨hx, hb, hml, hown, hts⟩ (va_cwS 3 hts gX7_assign_X1_outcome rfl rfl rfl (by decide +kernel) ⟨Nat.le_of_ble_eq_true rfl, Nat.le_of_ble_eq_true rfl⟩) hK hA hw (k_X1_outcome l D ad cs H.size M J k (M (3 * i + 2) y) (M (3 * i + 2) z) ) rfl rfl hl.1 (Nat.le_of_ble_eq_true rfl) ⟨Nat.le_of_ble_eq_true rfl, Nat.le_of_ble_eq_true rfl⟩ dX7_assign_71 (fun r13 M14 J15 H locs h16 hw => ?_)
  obtain ⟨h16, rfl⟩ := h16
  cases h16
  refine lv_istore (lv' := [(8, .int (E_X1_outcome M k (M (3 * i + 2) y) (M (3 * i + 2) z))), (7, .int (E_X1_outcome M k (M (3 * i + 2) y) (M (3 * i + 1) z))), (6, .int (E_X1_outcome M k (M (3 * i + 1) y) (M (3 * i + 2) z))), (5, .int (E_X1_outcome M k (M (3 * i + 1) y) (M (3 * i + 1) z))), (0, .ref (ad (3 * i))), (1, .int k), (2, .int (nI x)), (3, .int (nI y)), (4, .int (nI z))]) hx hb dX7_assign_74 hl (by decide) rfl (fun ls hl => ?_)
  refine lv_aload_n hx hb dX7_assign_76 rfl (lv_at hl 4 rfl) ?_
  refine wr_gr hx hb hown hK hts iX7 (ci := 6) rfl 1 (by decide) f15 rfl hw (3 * i) (by omega) (3 * i + 1) (cs_S (by omega)) rfl dX7_assign_77 ?_
  refine lv_iload_n hx hb dX7_assign_80 rfl (lv_at hl 6 rfl) ?_
  refine lv_iload hx hb dX7_assign_81 (lv_at hl 3 rfl) ?_
  refine lv_iload hx hb dX7_assign_83 (lv_at hl 2 rfl) ?_
  refine va_mmin hx hb (hml.trans hl.1.symm) hown m32 t32 iMath c32 (Nat.le_of_ble_eq_true rfl) (Nat.le_of_ble_eq_true rfl) (Nat.le_of_ble_eq_true rfl) (Nat.le_of_ble_eq_true rfl) dX7_assign_85 ?_
  refine W.eq (g2 := F0 m 88 ls [.int ((i_mn (E_X1_outcome M k (M (3 * i + 1) y) (M (3 * i + 1) z)) (E_X1_outcome M k (M (3 * i + 1) y) (M (3 * i + 2) z)))), .int (nI x), .ref (ad (3 * i + 1))]) rfl ?_
  refine lv_iload hx hb dX7_assign_88 (lv_at hl 1 rfl) ?_
  refine lv_iload hx hb dX7_assign_90 (lv_at hl 0 rfl) ?_
  refine va_mmin hx hb (hml.trans hl.1.symm) hown m32 t32 iMath c32 (Nat.le_of_ble_eq_true rfl) (Nat.le_of_ble_eq_true rfl) (Nat.le_of_ble_eq_true rfl) (Nat.le_of_ble_eq_true rfl) dX7_assign_92 ?_
  refine W.eq (g2 := F0 m 95 ls [.int ((i_mn (E_X1_outcome M k (M (3 * i + 2) y) (M (3 * i + 1) z)) (E_X1_outcome M k (M (3 * i + 2) y) (M (3 * i + 2) z)))), .int ((i_mn (E_X1_outcome M k (M (3 * i + 1) y) (M (3 * i + 1) z)) (E_X1_outcome M k (M (3 * i + 1) y) (M (3 * i + 2) z)))), .int (nI x), .ref (ad (3 * i + 1))]) rfl ?_
  refine va_mmin hx hb (hml.trans hl.1.symm) hown m32 t32 iMath c32 (Nat.le_of_ble_eq_true rfl) (Nat.le_of_ble_eq_true rfl) (Nat.le_of_ble_eq_true rfl) (Nat.le_of_ble_eq_true rfl) dX7_assign_95 ?_
  refine W.eq (g2 := F0 m 98 ls [.int ((i_mn ((i_mn (E_X1_outcome M k (M (3 * i + 1) y) (M (3 * i + 1) z)) (E_X1_outcome M k (M (3 * i + 1) y) (M (3 * i + 2) z)))) ((i_mn (E_X1_outcome M k (M (3 * i + 2) y) (M (3 * i + 1) z)) (E_X1_outcome M k (M (3 * i + 2) y) (M (3 * i + 2) z)))))), .int (nI x), .ref (ad (3 * i + 1))]) rfl ?_
  refine wr_istN hx hb hK hw (3 * i + 1) (by omega) (cs_SL (by omega)) (by decide) x rfl (by omega) dX7_assign_98 (fun H locs hw => ?_)
  refine lv_aload_n hx hb dX7_assign_99 rfl (lv_at hl 4 rfl) ?_
  refine wr_gr hx hb hown hK hts iX7 (ci := 6) rfl 2 (by decide) f19 rfl hw (3 * i) (by omega) (3 * i + 2) (cs_S (by omega)) rfl dX7_assign_100 ?_
  refine lv_iload_n hx hb dX7_assign_103 rfl (lv_at hl 6 rfl) ?_
  refine lv_iload hx hb dX7_assign_104 (lv_at hl 3 rfl) ?_
  refine lv_iload hx hb dX7_assign_106 (lv_at hl 2 rfl) ?_
  refine va_mmax hx hb (hml.trans hl.1.symm) hown m38 t38 iMath c38 (Nat.le_of_ble_eq_true rfl) (Nat.le_of_ble_eq_true rfl) (Nat.le_of_ble_eq_true rfl) (Nat.le_of_ble_eq_true rfl) dX7_assign_108 ?_
  refine W.eq (g2 := F0 m 111 ls [.int ((i_mx (E_X1_outcome M k (M (3 * i + 1) y) (M (3 * i + 1) z)) (E_X1_outcome M k (M (3 * i + 1) y) (M (3 * i + 2) z)))), .int (nI x), .ref (ad (3 * i + 2))]) rfl ?_
  refine lv_iload hx hb dX7_assign_111 (lv_at hl 1 rfl) ?_
  refine lv_iload hx hb dX7_assign_113 (lv_at hl 0 rfl) ?_
  refine va_mmax hx hb (hml.trans hl.1.symm) hown m38 t38 iMath c38 (Nat.le_of_ble_eq_true rfl) (Nat.le_of_ble_eq_true rfl) (Nat.le_of_ble_eq_true rfl) (Nat.le_of_ble_eq_true rfl) dX7_assign_115 ?_
  refine W.eq (g2 := F0 m 118 ls [.int ((i_mx (E_X1_outcome M k (M (3 * i + 2) y) (M (3 * i + 1) z)) (E_X1_outcome M k (M (3 * i + 2) y) (M (3 * i + 2) z)))), .int ((i_mx (E_X1_outcome M k (M (3 * i + 1) y) (M (3 * i + 1) z)) (E_X1_outcome M k (M (3 * i + 1) y) (M (3 * i + 2) z)))), .int (nI x), .ref (ad (3 * i + 2))]) rfl ?_
  refine va_mmax hx hb (hml.trans hl.1.symm) hown m38 t38 iMath c38 (Nat.le_of_ble_eq_true rfl) (Nat.le_of_ble_eq_true rfl) (Nat.le_of_ble_eq_true rfl) (Nat.le_of_ble_eq_true rfl) dX7_assign_118 ?_
  refine W.eq (g2 := F0 m 121 ls [.int ((i_mx ((i_mx (E_X1_outcome M k (M (3 * i + 1) y) (M (3 * i + 1) z)) (E_X1_outcome M k (M (3 * i + 1) y) (M (3 * i + 2) z)))) ((i_mx (E_X1_outcome M k (M (3 * i + 2) y) (M (3 * i + 1) z)) (E_X1_outcome M k (M (3 * i + 2) y) (M (3 * i + 2) z)))))), .int (nI x), .ref (ad (3 * i + 2))]) rfl ?_
  refine wr_istN hx hb hK hw (3 * i + 2) (by omega) (cs_SH (by omega)) (by decide) x rfl (by omega) dX7_assign_121 (fun H locs hw => ?_)
  exact wr_vret hx hb hr hK hw (by show (_, _) = (_, _); unfold F_X7_assign; rfl) hlocks dX7_assign_122
