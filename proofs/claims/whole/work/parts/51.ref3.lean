/-! the reference, 3: laid by wip/gen/specs17.py -/
def bel (M : wM) (v : Int32) : Nat → Int32
  | 0 => -1000000000
  | k + 1 => if v < M 11 k then bel M v k else i_mx (bel M v k) (M 11 k)
def abo (M : wM) (v : Int32) : Nat → Int32
  | 0 => 1000000000
  | k + 1 => if M 11 k < v then abo M v k else i_mn (abo M v k) (M 11 k)
theorem bel_1 {M : wM} {v : Int32} {k : Nat} (h : v < M 11 k) : bel M v (k + 1) = bel M v k := by
  show (if v < M 11 k then bel M v k else i_mx (bel M v k) (M 11 k)) = _
  rw [if_pos h]
theorem bel_2 {M : wM} {v : Int32} {k : Nat} (h : ¬ v < M 11 k) : bel M v (k + 1) = i_mx (bel M v k) (M 11 k) := by
  show (if v < M 11 k then bel M v k else i_mx (bel M v k) (M 11 k)) = _
  rw [if_neg h]
theorem abo_1 {M : wM} {v : Int32} {k : Nat} (h : M 11 k < v) : abo M v (k + 1) = abo M v k := by
  show (if M 11 k < v then abo M v k else i_mn (abo M v k) (M 11 k)) = _
  rw [if_pos h]
theorem abo_2 {M : wM} {v : Int32} {k : Nat} (h : ¬ M 11 k < v) : abo M v (k + 1) = i_mn (abo M v k) (M 11 k) := by
  show (if M 11 k < v then abo M v k else i_mn (abo M v k) (M 11 k)) = _
  rw [if_neg h]
def E_X9_limited (M : wM) (x : Int64) : Int32 := ((l_mx ((-1000000000 : Int64)) ((l_mn ((1000000000 : Int64)) x)))).toInt32
set_option maxHeartbeats 4000000 in
set_option maxRecDepth 100000 in
theorem k_X9_limited (l : Launch) (D : va_G) (ad : Nat → Nat) (cs : Nat → ClassId) (sz : Nat) (M : wM) (J : wJ) (x : Int64)  : wCi l yX9_limited wsX9_limited { frames := 1, cells := 0, slots := 0, locals := 31 } D 23 mSh ad cs [.long x] sz M J (fun r_ u_ => u_ = (M, J) ∧ r_ = E_X9_limited M x) := by
  refine wC_i (cc := cX9_limited) (maxL := 2) (ret := (some .int)) (by decide) rfl (Nat.le_of_ble_eq_true rfl) ?_
  intro p e s m below meth c ls A hx hb hr hml hown hts hlocks hK hA hw hl hAe
  clear hAe
  have hl : lv_has ls 2 [(0, .long x)] := hl
  have k122 : (Cond.constantLong RX9 122 (-1000000000)).before _ s = true := hts _ (by decide +kernel)
  have k124 : (Cond.constantLong RX9 124 (1000000000)).before _ s = true := hts _ (by decide +kernel)
  have m126 : (Cond.methodLink RX9 126 Lib.MathLoose.min_long.x).before _ s = true := hts _ (by decide +kernel)
  have t126 : (Cond.static Lib.MathLoose.min_long.x).before _ s = true := hts _ (by decide +kernel)
  have iMath : (Cond.initialized "java/lang/Math").before _ s = true := hts _ (by decide +kernel)
  have c126 : (Cond.code Lib.MathLoose.min_long.x Lib.MathLoose.min_long.code 4 (some .long)).before _ s = true := hts _ (by decide +kernel)
  have m132 : (Cond.methodLink RX9 132 Lib.MathLoose.max_long.x).before _ s = true := hts _ (by decide +kernel)
  have t132 : (Cond.static Lib.MathLoose.max_long.x).before _ s = true := hts _ (by decide +kernel)
  have c132 : (Cond.code Lib.MathLoose.max_long.x Lib.MathLoose.max_long.code 4 (some .long)).before _ s = true := hts _ (by decide +kernel)
  refine lv_ldc2 hx hb hown k122 dX9_limited_0 ?_
  refine lv_ldc2 hx hb hown k124 dX9_limited_3 ?_
  refine lv_lload_n hx hb dX9_limited_6 rfl (lv_at hl 0 rfl) ?_
  refine va_mmin_long hx hb (hml.trans hl.1.symm) hown m126 t126 iMath c126 (Nat.le_of_ble_eq_true rfl) (Nat.le_of_ble_eq_true rfl) (Nat.le_of_ble_eq_true rfl) (Nat.le_of_ble_eq_true rfl) dX9_limited_7 ?_
  refine W.eq (g2 := F0 m 10 ls [.long ((l_mn ((1000000000 : Int64)) x)), .long ((-1000000000 : Int64))]) rfl ?_
  refine va_mmax_long hx hb (hml.trans hl.1.symm) hown m132 t132 iMath c132 (Nat.le_of_ble_eq_true rfl) (Nat.le_of_ble_eq_true rfl) (Nat.le_of_ble_eq_true rfl) (Nat.le_of_ble_eq_true rfl) dX9_limited_10 ?_
  refine W.eq (g2 := F0 m 13 ls [.long ((l_mx ((-1000000000 : Int64)) ((l_mn ((1000000000 : Int64)) x))))]) rfl ?_
  refine lv_l2i hx hb dX9_limited_13 rfl ?_
  exact wr_iret hx hb hr rfl hK hw ⟨rfl, by unfold E_X9_limited; rfl⟩ hlocks dX9_limited_14
def F_X9_set (M : wM) (x : Nat) (a : Int64) (d : Int64) : wM := (wU (wU M 16 x (E_X9_limited M a)) 17 x (E_X9_limited (wU M 16 x (E_X9_limited M a)) d))
set_option maxHeartbeats 4000000 in
set_option maxRecDepth 100000 in
theorem k_X9_set (l : Launch) (D : va_G) (ad : Nat → Nat) (cs : Nat → ClassId) (sz : Nat) (M : wM) (J : wJ) (x : Nat) (a : Int64) (d : Int64) (hx6 : x < 6) : wCv l yX9_set wsX9_set { frames := 2, cells := 0, slots := 0, locals := 52 } D 23 mSh ad cs [.ref (ad 0), .int (nI x), .long a, .long d] sz M J (fun u_ => u_ = (F_X9_set M x a d, J)) := by
  refine wC_v (cc := cX9_set) (maxL := 6) (ret := none) (by decide) rfl (Nat.le_of_ble_eq_true rfl) ?_
  intro p e s m below meth c ls A hx hb hr hml hown hts hlocks hK hA hw hl hAe
  clear hAe
  have hl : lv_has ls 6 [(0, .ref (ad 0)), (1, .int (nI x)), (2, .long a), (4, .long d)] := hl
  have f66 : (Cond.fieldLink RX9 66 "RangePropagatorModel" "low" "[I").before _ s = true := hts _ (by decide +kernel)
  have iX9 : ∀ w ∈ wsX90, w ∈ wsX9_set := by decide +kernel
  have f69 : (Cond.fieldLink RX9 69 "RangePropagatorModel" "high" "[I").before _ s = true := hts _ (by decide +kernel)
  refine lv_aload_n hx hb dX9_set_0 rfl (lv_at hl 0 rfl) ?_
  refine wr_gr hx hb hown hK hts iX9 (ci := 8) rfl 21 (by decide) f66 rfl hw 0 (by omega) 16 rfl rfl dX9_set_1 ?_
  refine lv_iload_n hx hb dX9_set_4 rfl (lv_at hl 1 rfl) ?_
  refine lv_lload_n hx hb dX9_set_5 rfl (lv_at hl 2 rfl) ?_
  refine wr_cSi (As := [.long a]) (rest := [.int (nI x), .ref (ad 16)]) ⟨hx, hb, hml, hown, hts⟩ (va_cwS 1 hts gX9_set_X9_limited rfl rfl rfl (by decide +kernel) ⟨Nat.le_of_ble_eq_true rfl, Nat.le_of_ble_eq_true rfl⟩) hK hA hw (k_X9_limited l D ad cs s.heap.size M J a ) rfl rfl hl.1 (Nat.le_of_ble_eq_true rfl) ⟨Nat.le_of_ble_eq_true rfl, Nat.le_of_ble_eq_true rfl⟩ dX9_set_6 (fun r1 M2 J3 H locs h4 hw => ?_)
  obtain ⟨h4, rfl⟩ := h4
  cases h4
  refine wr_istN hx hb hK hw 16 (by omega) rfl (by decide) x rfl (by omega) dX9_set_9 (fun H locs hw => ?_)
  refine lv_aload_n hx hb dX9_set_10 rfl (lv_at hl 0 rfl) ?_
  refine wr_gr hx hb hown hK hts iX9 (ci := 8) rfl 22 (by decide) f69 rfl hw 0 (by omega) 17 rfl rfl dX9_set_11 ?_
  refine lv_iload_n hx hb dX9_set_14 rfl (lv_at hl 1 rfl) ?_
  refine lv_lload hx hb dX9_set_15 (lv_at hl 3 rfl) ?_
  refine wr_cSi (As := [.long d]) (rest := [.int (nI x), .ref (ad 17)]) ⟨hx, hb, hml, hown, hts⟩ (va_cwS 1 hts gX9_set_X9_limited rfl rfl rfl (by decide +kernel) ⟨Nat.le_of_ble_eq_true rfl, Nat.le_of_ble_eq_true rfl⟩) hK hA hw (k_X9_limited l D ad cs H.size (wU M 16 x (E_X9_limited M a)) J d ) rfl rfl hl.1 (Nat.le_of_ble_eq_true rfl) ⟨Nat.le_of_ble_eq_true rfl, Nat.le_of_ble_eq_true rfl⟩ dX9_set_17 (fun r5 M6 J7 H locs h8 hw => ?_)
  obtain ⟨h8, rfl⟩ := h8
  cases h8
  refine wr_istN hx hb hK hw 17 (by omega) rfl (by decide) x rfl (by omega) dX9_set_20 (fun H locs hw => ?_)
  exact wr_vret hx hb hr hK hw (by show (_, _) = (_, _); unfold F_X9_set; rfl) hlocks dX9_set_21
def F_X9_product (M : wM) (x : Nat) (y : Nat) (z : Nat) : wM := (F_X9_set M x ((l_mn ((l_mn ((((M 16 y).toInt64) * ((M 16 z).toInt64))) ((((M 16 y).toInt64) * ((M 17 z).toInt64))))) ((l_mn ((((M 17 y).toInt64) * ((M 16 z).toInt64))) ((((M 17 y).toInt64) * ((M 17 z).toInt64))))))) ((l_mx ((l_mx ((((M 16 y).toInt64) * ((M 16 z).toInt64))) ((((M 16 y).toInt64) * ((M 17 z).toInt64))))) ((l_mx ((((M 17 y).toInt64) * ((M 16 z).toInt64))) ((((M 17 y).toInt64) * ((M 17 z).toInt64))))))))
set_option maxHeartbeats 4000000 in
set_option maxRecDepth 100000 in
theorem k_X9_product (l : Launch) (D : va_G) (ad : Nat → Nat) (cs : Nat → ClassId) (sz : Nat) (M : wM) (J : wJ) (x : Nat) (y : Nat) (z : Nat) (hx6 : x < 6) (hy6 : y < 6) (hz6 : z < 6) : wCv l yX9_product wsX9_product { frames := 3, cells := 0, slots := 0, locals := 77 } D 23 mSh ad cs [.ref (ad 0), .int (nI x), .int (nI y), .int (nI z)] sz M J (fun u_ => u_ = (F_X9_product M x y z, J)) := by
  refine wC_v (cc := cX9_product) (maxL := 12) (ret := none) (by decide) rfl (Nat.le_of_ble_eq_true rfl) ?_
  intro p e s m below meth c ls A hx hb hr hml hown hts hlocks hK hA hw hl hAe
  clear hAe
  have hl : lv_has ls 12 [(0, .ref (ad 0)), (1, .int (nI x)), (2, .int (nI y)), (3, .int (nI z))] := hl
  have f66 : (Cond.fieldLink RX9 66 "RangePropagatorModel" "low" "[I").before _ s = true := hts _ (by decide +kernel)
  have iX9 : ∀ w ∈ wsX90, w ∈ wsX9_product := by decide +kernel
  have f69 : (Cond.fieldLink RX9 69 "RangePropagatorModel" "high" "[I").before _ s = true := hts _ (by decide +kernel)
  have m126 : (Cond.methodLink RX9 126 Lib.MathLoose.min_long.x).before _ s = true := hts _ (by decide +kernel)
  have t126 : (Cond.static Lib.MathLoose.min_long.x).before _ s = true := hts _ (by decide +kernel)
  have iMath : (Cond.initialized "java/lang/Math").before _ s = true := hts _ (by decide +kernel)
  have c126 : (Cond.code Lib.MathLoose.min_long.x Lib.MathLoose.min_long.code 4 (some .long)).before _ s = true := hts _ (by decide +kernel)
  have m132 : (Cond.methodLink RX9 132 Lib.MathLoose.max_long.x).before _ s = true := hts _ (by decide +kernel)
  have t132 : (Cond.static Lib.MathLoose.max_long.x).before _ s = true := hts _ (by decide +kernel)
  have c132 : (Cond.code Lib.MathLoose.max_long.x Lib.MathLoose.max_long.code 4 (some .long)).before _ s = true := hts _ (by decide +kernel)
  refine lv_aload_n hx hb dX9_product_0 rfl (lv_at hl 0 rfl) ?_
  refine wr_gr hx hb hown hK hts iX9 (ci := 8) rfl 21 (by decide) f66 rfl hw 0 (by omega) 16 rfl rfl dX9_product_1 ?_
  refine lv_iload_n hx hb dX9_product_4 rfl (lv_at hl 2 rfl) ?_
  refine wr_ildN hx hb hK hw 16 (by omega) rfl (by decide) y rfl (by omega) dX9_product_5 ?_
  refine lv_i2l hx hb dX9_product_6 rfl ?_
  refine lv_aload_n hx hb dX9_product_7 rfl (lv_at hl 0 rfl) ?_
  refine wr_gr hx hb hown hK hts iX9 (ci := 8) rfl 21 (by decide) f66 rfl hw 0 (by omega) 16 rfl rfl dX9_product_8 ?_
  refine lv_iload_n hx hb dX9_product_11 rfl (lv_at hl 3 rfl) ?_
  refine wr_ildN hx hb hK hw 16 (by omega) rfl (by decide) z rfl (by omega) dX9_product_12 ?_
  refine lv_i2l hx hb dX9_product_13 rfl ?_
  refine lv_lmul hx hb dX9_product_14 ?_
  refine lv_lstore (lv' := [(4, .long ((((M 16 y).toInt64) * ((M 16 z).toInt64)))), (0, .ref (ad 0)), (1, .int (nI x)), (2, .int (nI y)), (3, .int (nI z))]) hx hb dX9_product_15 hl (by decide) rfl (fun ls hl => ?_)
  refine lv_aload_n hx hb dX9_product_17 rfl (lv_at hl 1 rfl) ?_
  refine wr_gr hx hb hown hK hts iX9 (ci := 8) rfl 21 (by decide) f66 rfl hw 0 (by omega) 16 rfl rfl dX9_product_18 ?_
  refine lv_iload_n hx hb dX9_product_21 rfl (lv_at hl 3 rfl) ?_
  refine wr_ildN hx hb hK hw 16 (by omega) rfl (by decide) y rfl (by omega) dX9_product_22 ?_
  refine lv_i2l hx hb dX9_product_23 rfl ?_
  refine lv_aload_n hx hb dX9_product_24 rfl (lv_at hl 1 rfl) ?_
  refine wr_gr hx hb hown hK hts iX9 (ci := 8) rfl 22 (by decide) f69 rfl hw 0 (by omega) 17 rfl rfl dX9_product_25 ?_
  refine lv_iload_n hx hb dX9_product_28 rfl (lv_at hl 4 rfl) ?_
  refine wr_ildN hx hb hK hw 17 (by omega) rfl (by decide) z rfl (by omega) dX9_product_29 ?_
  refine lv_i2l hx hb dX9_product_30 rfl ?_
  refine lv_lmul hx hb dX9_product_31 ?_
  refine lv_lstore (lv' := [(6, .long ((((M 16 y).toInt64) * ((M 17 z).toInt64)))), (4, .long ((((M 16 y).toInt64) * ((M 16 z).toInt64)))), (0, .ref (ad 0)), (1, .int (nI x)), (2, .int (nI y)), (3, .int (nI z))]) hx hb dX9_product_32 hl (by decide) rfl (fun ls hl => ?_)
  refine lv_aload_n hx hb dX9_product_34 rfl (lv_at hl 2 rfl) ?_
  refine wr_gr hx hb hown hK hts iX9 (ci := 8) rfl 22 (by decide) f69 rfl hw 0 (by omega) 17 rfl rfl dX9_product_35 ?_
  refine lv_iload_n hx hb dX9_product_38 rfl (lv_at hl 4 rfl) ?_
  refine wr_ildN hx hb hK hw 17 (by omega) rfl (by decide) y rfl (by omega) dX9_product_39 ?_
  refine lv_i2l hx hb dX9_product_40 rfl ?_
  refine lv_aload_n hx hb dX9_product_41 rfl (lv_at hl 2 rfl) ?_
  refine wr_gr hx hb hown hK hts iX9 (ci := 8) rfl 21 (by decide) f66 rfl hw 0 (by omega) 16 rfl rfl dX9_product_42 ?_
  refine lv_iload_n hx hb dX9_product_45 rfl (lv_at hl 5 rfl) ?_
  refine wr_ildN hx hb hK hw 16 (by omega) rfl (by decide) z rfl (by omega) dX9_product_46 ?_
  refine lv_i2l hx hb dX9_product_47 rfl ?_
  refine lv_lmul hx hb dX9_product_48 ?_
  refine lv_lstore (lv' := [(8, .long ((((M 17 y).toInt64) * ((M 16 z).toInt64)))), (6, .long ((((M 16 y).toInt64) * ((M 17 z).toInt64)))), (4, .long ((((M 16 y).toInt64) * ((M 16 z).toInt64)))), (0, .ref (ad 0)), (1, .int (nI x)), (2, .int (nI y)), (3, .int (nI z))]) hx hb dX9_product_49 hl (by decide) rfl (fun ls hl => ?_)
  refine lv_aload_n hx hb dX9_product_51 rfl (lv_at hl 3 rfl) ?_
  refine wr_gr hx hb hown hK hts iX9 (ci := 8) rfl 22 (by decide) f69 rfl hw 0 (by omega) 17 rfl rfl dX9_product_52 ?_
  refine lv_iload_n hx hb dX9_product_55 rfl (lv_at hl 5 rfl) ?_
  refine wr_ildN hx hb hK hw 17 (by omega) rfl (by decide) y rfl (by omega) dX9_product_56 ?_
  refine lv_i2l hx hb dX9_product_57 rfl ?_
  refine lv_aload_n hx hb dX9_product_58 rfl (lv_at hl 3 rfl) ?_
  refine wr_gr hx hb hown hK hts iX9 (ci := 8) rfl 22 (by decide) f69 rfl hw 0 (by omega) 17 rfl rfl dX9_product_59 ?_
  refine lv_iload_n hx hb dX9_product_62 rfl (lv_at hl 6 rfl) ?_
  refine wr_ildN hx hb hK hw 17 (by omega) rfl (by decide) z rfl (by omega) dX9_product_63 ?_
  refine lv_i2l hx hb dX9_product_64 rfl ?_
  refine lv_lmul hx hb dX9_product_65 ?_
  refine lv_lstore (lv' := [(10, .long ((((M 17 y).toInt64) * ((M 17 z).toInt64)))), (8, .long ((((M 17 y).toInt64) * ((M 16 z).toInt64)))), (6, .long ((((M 16 y).toInt64) * ((M 17 z).toInt64)))), (4, .long ((((M 16 y).toInt64) * ((M 16 z).toInt64)))), (0, .ref (ad 0)), (1, .int (nI x)), (2, .int (nI y)), (3, .int (nI z))]) hx hb dX9_product_66 hl (by decide) rfl (fun ls hl => ?_)
  refine lv_aload_n hx hb dX9_product_68 rfl (lv_at hl 4 rfl) ?_
  refine lv_iload_n hx hb dX9_product_69 rfl (lv_at hl 5 rfl) ?_
  refine lv_lload hx hb dX9_product_70 (lv_at hl 3 rfl) ?_
  refine lv_lload hx hb dX9_product_72 (lv_at hl 2 rfl) ?_
  refine va_mmin_long hx hb (hml.trans hl.1.symm) hown m126 t126 iMath c126 (Nat.le_of_ble_eq_true rfl) (Nat.le_of_ble_eq_true rfl) (Nat.le_of_ble_eq_true rfl) (Nat.le_of_ble_eq_true rfl) dX9_product_74 ?_
  refine W.eq (g2 := F0 m 77 ls [.long ((l_mn ((((M 16 y).toInt64) * ((M 16 z).toInt64))) ((((M 16 y).toInt64) * ((M 17 z).toInt64))))), .int (nI x), .ref (ad 0)]) rfl ?_
  refine lv_lload hx hb dX9_product_77 (lv_at hl 1 rfl) ?_
  refine lv_lload hx hb dX9_product_79 (lv_at hl 0 rfl) ?_
  refine va_mmin_long hx hb (hml.trans hl.1.symm) hown m126 t126 iMath c126 (Nat.le_of_ble_eq_true rfl) (Nat.le_of_ble_eq_true rfl) (Nat.le_of_ble_eq_true rfl) (Nat.le_of_ble_eq_true rfl) dX9_product_81 ?_
  refine W.eq (g2 := F0 m 84 ls [.long ((l_mn ((((M 17 y).toInt64) * ((M 16 z).toInt64))) ((((M 17 y).toInt64) * ((M 17 z).toInt64))))), .long ((l_mn ((((M 16 y).toInt64) * ((M 16 z).toInt64))) ((((M 16 y).toInt64) * ((M 17 z).toInt64))))), .int (nI x), .ref (ad 0)]) rfl ?_
  refine va_mmin_long hx hb (hml.trans hl.1.symm) hown m126 t126 iMath c126 (Nat.le_of_ble_eq_true rfl) (Nat.le_of_ble_eq_true rfl) (Nat.le_of_ble_eq_true rfl) (Nat.le_of_ble_eq_true rfl) dX9_product_84 ?_
  refine W.eq (g2 := F0 m 87 ls [.long ((l_mn ((l_mn ((((M 16 y).toInt64) * ((M 16 z).toInt64))) ((((M 16 y).toInt64) * ((M 17 z).toInt64))))) ((l_mn ((((M 17 y).toInt64) * ((M 16 z).toInt64))) ((((M 17 y).toInt64) * ((M 17 z).toInt64))))))), .int (nI x), .ref (ad 0)]) rfl ?_
  refine lv_lload hx hb dX9_product_87 (lv_at hl 3 rfl) ?_
  refine lv_lload hx hb dX9_product_89 (lv_at hl 2 rfl) ?_
  refine va_mmax_long hx hb (hml.trans hl.1.symm) hown m132 t132 iMath c132 (Nat.le_of_ble_eq_true rfl) (Nat.le_of_ble_eq_true rfl) (Nat.le_of_ble_eq_true rfl) (Nat.le_of_ble_eq_true rfl) dX9_product_91 ?_
  refine W.eq (g2 := F0 m 94 ls [.long ((l_mx ((((M 16 y).toInt64) * ((M 16 z).toInt64))) ((((M 16 y).toInt64) * ((M 17 z).toInt64))))), .long ((l_mn ((l_mn ((((M 16 y).toInt64) * ((M 16 z).toInt64))) ((((M 16 y).toInt64) * ((M 17 z).toInt64))))) ((l_mn ((((M 17 y).toInt64) * ((M 16 z).toInt64))) ((((M 17 y).toInt64) * ((M 17 z).toInt64))))))), .int (nI x), .ref (ad 0)]) rfl ?_
  refine lv_lload hx hb dX9_product_94 (lv_at hl 1 rfl) ?_
  refine lv_lload hx hb dX9_product_96 (lv_at hl 0 rfl) ?_
  refine va_mmax_long hx hb (hml.trans hl.1.symm) hown m132 t132 iMath c132 (Nat.le_of_ble_eq_true rfl) (Nat.le_of_ble_eq_true rfl) (Nat.le_of_ble_eq_true rfl) (Nat.le_of_ble_eq_true rfl) dX9_product_98 ?_
  refine W.eq (g2 := F0 m 101 ls [.long ((l_mx ((((M 17 y).toInt64) * ((M 16 z).toInt64))) ((((M 17 y).toInt64) * ((M 17 z).toInt64))))), .long ((l_mx ((((M 16 y).toInt64) * ((M 16 z).toInt64))) ((((M 16 y).toInt64) * ((M 17 z).toInt64))))), .long ((l_mn ((l_mn ((((M 16 y).toInt64) * ((M 16 z).toInt64))) ((((M 16 y).toInt64) * ((M 17 z).toInt64))))) ((l_mn ((((M 17 y).toInt64) * ((M 16 z).toInt64))) ((((M 17 y).toInt64) * ((M 17 z).toInt64))))))), .int (nI x), .ref (ad 0)]) rfl ?_
  refine va_mmax_long hx hb (hml.trans hl.1.symm) hown m132 t132 iMath c132 (Nat.le_of_ble_eq_true rfl) (Nat.le_of_ble_eq_true rfl) (Nat.le_of_ble_eq_true rfl) (Nat.le_of_ble_eq_true rfl) dX9_product_101 ?_
  refine W.eq (g2 := F0 m 104 ls [.long ((l_mx ((l_mx ((((M 16 y).toInt64) * ((M 16 z).toInt64))) ((((M 16 y).toInt64) * ((M 17 z).toInt64))))) ((l_mx ((((M 17 y).toInt64) * ((M 16 z).toInt64))) ((((M 17 y).toInt64) * ((M 17 z).toInt64))))))), .long ((l_mn ((l_mn ((((M 16 y).toInt64) * ((M 16 z).toInt64))) ((((M 16 y).toInt64) * ((M 17 z).toInt64))))) ((l_mn ((((M 17 y).toInt64) * ((M 16 z).toInt64))) ((((M 17 y).toInt64) * ((M 17 z).toInt64))))))), .int (nI x), .ref (ad 0)]) rfl ?_
  refine wr_cVv (k := 0) (ci := 8) (As := [.int (nI x), .long ((l_mn ((l_mn ((((M 16 y).toInt64) * ((M 16 z).toInt64))) ((((M 16 y).toInt64) * ((M 17 z).toInt64))))) ((l_mn ((((M 17 y).toInt64) * ((M 16 z).toInt64))) ((((M 17 y).toInt64) * ((M 17 z).toInt64))))))), .long ((l_mx ((l_mx ((((M 16 y).toInt64) * ((M 16 z).toInt64))) ((((M 16 y).toInt64) * ((M 17 z).toInt64))))) ((l_mx ((((M 17 y).toInt64) * ((M 16 z).toInt64))) ((((M 17 y).toInt64) * ((M 17 z).toInt64)))))))]) (rest := []) ⟨hx, hb, hml, hown, hts⟩ (cwV 3 hts gX9_product_X9_set rfl rfl rfl (by decide +kernel) ⟨Nat.le_of_ble_eq_true rfl, Nat.le_of_ble_eq_true rfl⟩) hK hA hw (k_X9_set l D ad cs s.heap.size M J x ((l_mn ((l_mn ((((M 16 y).toInt64) * ((M 16 z).toInt64))) ((((M 16 y).toInt64) * ((M 17 z).toInt64))))) ((l_mn ((((M 17 y).toInt64) * ((M 16 z).toInt64))) ((((M 17 y).toInt64) * ((M 17 z).toInt64))))))) ((l_mx ((l_mx ((((M 16 y).toInt64) * ((M 16 z).toInt64))) ((((M 16 y).toInt64) * ((M 17 z).toInt64))))) ((l_mx ((((M 17 y).toInt64) * ((M 16 z).toInt64))) ((((M 17 y).toInt64) * ((M 17 z).toInt64))))))) (by omega)) (by omega) rfl rfl rfl rfl hl.1 (Nat.le_of_ble_eq_true rfl) ⟨Nat.le_of_ble_eq_true rfl, Nat.le_of_ble_eq_true rfl⟩ dX9_product_104 (fun M2 J3 H locs h4 hw => ?_)
  cases h4
  exact wr_vret hx hb hr hK hw (by show (_, _) = (_, _); unfold F_X9_product; rfl) hlocks dX9_product_107
def F_X9_apply (M : wM) (aa : Nat) (x : Nat) : wM := (if M 2 aa = nI 0 then (F_X9_set M x ((M 16 (tn (M 2 (aa + 2)))).toInt64) ((M 17 (tn (M 2 (aa + 2)))).toInt64)) else (if M 2 aa = nI 1 then (F_X9_set M x ((((M 16 (tn (M 2 (aa + 2)))).toInt64) + ((M 16 (tn (M 2 (aa + 3)))).toInt64))) ((((M 17 (tn (M 2 (aa + 2)))).toInt64) + ((M 17 (tn (M 2 (aa + 3)))).toInt64)))) else (if M 2 aa = nI 2 then (F_X9_set M x ((((M 16 (tn (M 2 (aa + 2)))).toInt64) - ((M 17 (tn (M 2 (aa + 3)))).toInt64))) ((((M 17 (tn (M 2 (aa + 2)))).toInt64) - ((M 16 (tn (M 2 (aa + 3)))).toInt64)))) else (if M 2 aa = nI 3 then (F_X9_product M x (tn (M 2 (aa + 2))) (tn (M 2 (aa + 3)))) else (if M 2 aa = nI 4 then (F_X9_set M x (((i_mn (M 16 (tn (M 2 (aa + 2)))) (M 16 (tn (M 2 (aa + 3)))))).toInt64) (((i_mn (M 17 (tn (M 2 (aa + 2)))) (M 17 (tn (M 2 (aa + 3)))))).toInt64)) else (if M 2 aa = nI 5 then (F_X9_set M x (((i_mx (M 16 (tn (M 2 (aa + 2)))) (M 16 (tn (M 2 (aa + 3)))))).toInt64) (((i_mx (M 17 (tn (M 2 (aa + 2)))) (M 17 (tn (M 2 (aa + 3)))))).toInt64)) else (F_X9_set M x ((M 2 (aa + 2)).toInt64) ((M 2 (aa + 3)).toInt64))))))))
set_option maxHeartbeats 4000000 in
set_option maxRecDepth 100000 in
theorem k_X9_apply (l : Launch) (D : va_G) (ad : Nat → Nat) (cs : Nat → ClassId) (sz : Nat) (M : wM) (J : wJ) (aa : Nat) (x : Nat) (haa : aa + 3 < 512) (hxx : M 2 (aa + 1) = nI x) (hx6 : x < 6) (hyz : ∀ k, k ≤ 5 → M 2 aa = nI k → isV (M 2 (aa + 2)) ∧ isV (M 2 (aa + 3))) : wCv l yX9_apply wsX9_apply { frames := 4, cells := 0, slots := 0, locals := 108 } D 23 mSh ad cs [.ref (ad 0), .int (nI aa)] sz M J (fun u_ => u_ = (F_X9_apply M aa x, J)) := by
  refine wC_v (cc := cX9_apply) (maxL := 5) (ret := none) (by decide) rfl (Nat.le_of_ble_eq_true rfl) ?_
  intro p e s m below meth c ls A hx hb hr hml hown hts hlocks hK hA hw hl hAe
  clear hAe
  have hl : lv_has ls 5 [(0, .ref (ad 0)), (1, .int (nI aa))] := hl
  have f17 : (Cond.fieldLink RX9 17 "RangePropagatorModel" "statements" "[I").before _ s = true := hts _ (by decide +kernel)
  have iX9 : ∀ w ∈ wsX90, w ∈ wsX9_apply := by decide +kernel
  have f66 : (Cond.fieldLink RX9 66 "RangePropagatorModel" "low" "[I").before _ s = true := hts _ (by decide +kernel)
  have f69 : (Cond.fieldLink RX9 69 "RangePropagatorModel" "high" "[I").before _ s = true := hts _ (by decide +kernel)
  have m147 : (Cond.methodLink RX9 147 Lib.Math.min.name).before _ s = true := hts _ (by decide +kernel)
  have t147 : (Cond.static Lib.Math.min.name).before _ s = true := hts _ (by decide +kernel)
  have iMath : (Cond.initialized "java/lang/Math").before _ s = true := hts _ (by decide +kernel)
  have c147 : (Cond.code Lib.Math.min.name Lib.Math.min.code 2 (some .int)).before _ s = true := hts _ (by decide +kernel)
  have m150 : (Cond.methodLink RX9 150 Lib.Math.max.name).before _ s = true := hts _ (by decide +kernel)
  have t150 : (Cond.static Lib.Math.max.name).before _ s = true := hts _ (by decide +kernel)
  have c150 : (Cond.code Lib.Math.max.name Lib.Math.max.code 2 (some .int)).before _ s = true := hts _ (by decide +kernel)
  refine lv_aload_n hx hb dX9_apply_0 rfl (lv_at hl 0 rfl) ?_
  refine wr_gr hx hb hown hK hts iX9 (ci := 8) rfl 3 (by decide) f17 rfl hw 0 (by omega) 2 rfl rfl dX9_apply_1 ?_
  refine lv_iload_n hx hb dX9_apply_4 rfl (lv_at hl 1 rfl) ?_
  refine lv_iconst (v := nI 1) hx hb dX9_apply_5 (by decide) ?_
  refine lv_iaddN hx hb dX9_apply_6 ?_
  refine wr_ildN hx hb hK hw 2 (by omega) rfl (by decide) (aa + 1) rfl (by omega) dX9_apply_7 ?_
  rw [show M 2 (aa + 1) = nI x from hxx]
  refine lv_istore_n (lv' := [(2, .int (nI x)), (0, .ref (ad 0)), (1, .int (nI aa))]) hx hb dX9_apply_8 rfl hl (by decide) rfl (fun ls hl => ?_)
  refine lv_aload_n hx hb dX9_apply_9 rfl (lv_at hl 1 rfl) ?_
  refine wr_gr hx hb hown hK hts iX9 (ci := 8) rfl 3 (by decide) f17 rfl hw 0 (by omega) 2 rfl rfl dX9_apply_10 ?_
  refine lv_iload_n hx hb dX9_apply_13 rfl (lv_at hl 2 rfl) ?_
  refine lv_iconst (v := nI 2) hx hb dX9_apply_14 (by decide) ?_
  refine lv_iaddN hx hb dX9_apply_15 ?_
  refine wr_ildN hx hb hK hw 2 (by omega) rfl (by decide) (aa + 2) rfl (by omega) dX9_apply_16 ?_
  refine lv_istore_n (lv' := [(3, .int (M 2 (aa + 2))), (2, .int (nI x)), (0, .ref (ad 0)), (1, .int (nI aa))]) hx hb dX9_apply_17 rfl hl (by decide) rfl (fun ls hl => ?_)
  refine lv_aload_n hx hb dX9_apply_18 rfl (lv_at hl 2 rfl) ?_
  refine wr_gr hx hb hown hK hts iX9 (ci := 8) rfl 3 (by decide) f17 rfl hw 0 (by omega) 2 rfl rfl dX9_apply_19 ?_
  refine lv_iload_n hx hb dX9_apply_22 rfl (lv_at hl 3 rfl) ?_
  refine lv_iconst (v := nI 3) hx hb dX9_apply_23 (by decide) ?_
  refine lv_iaddN hx hb dX9_apply_24 ?_
  refine wr_ildN hx hb hK hw 2 (by omega) rfl (by decide) (aa + 3) rfl (by omega) dX9_apply_25 ?_
  refine lv_istore (lv' := [(4, .int (M 2 (aa + 3))), (3, .int (M 2 (aa + 2))), (2, .int (nI x)), (0, .ref (ad 0)), (1, .int (nI aa))]) hx hb dX9_apply_26 hl (by decide) rfl (fun ls hl => ?_)
  refine lv_aload_n hx hb dX9_apply_28 rfl (lv_at hl 3 rfl) ?_
  refine wr_gr hx hb hown hK hts iX9 (ci := 8) rfl 3 (by decide) f17 rfl hw 0 (by omega) 2 rfl rfl dX9_apply_29 ?_
  refine lv_iload_n hx hb dX9_apply_32 rfl (lv_at hl 4 rfl) ?_
  refine wr_ildN hx hb hK hw 2 (by omega) rfl (by decide) aa rfl (by omega) dX9_apply_33 ?_
  by_cases q1 : M 2 aa = nI 0
  · refine lv_tableIn (off := 38) (tgt := 72) hx hb dX9_apply_34 (by rw [q1]; decide) (by rw [q1]; decide) (by rw [q1]; decide) (by decide) ?_
    refine lv_aload_n hx hb dX9_apply_72 rfl (lv_at hl 3 rfl) ?_
    refine lv_iload_n hx hb dX9_apply_73 rfl (lv_at hl 2 rfl) ?_
    refine lv_aload_n hx hb dX9_apply_74 rfl (lv_at hl 3 rfl) ?_
    refine wr_gr hx hb hown hK hts iX9 (ci := 8) rfl 21 (by decide) f66 rfl hw 0 (by omega) 16 rfl rfl dX9_apply_75 ?_
    refine lv_iload_n hx hb dX9_apply_78 rfl (lv_at hl 1 rfl) ?_
    refine wr_ildN hx hb hK hw 16 (by omega) rfl (by decide) (tn (M 2 (aa + 2))) (hyz 0 (by decide) q1).1.1 (hyz 0 (by decide) q1).1.2 dX9_apply_79 ?_
    refine lv_i2l hx hb dX9_apply_80 rfl ?_
    refine lv_aload_n hx hb dX9_apply_81 rfl (lv_at hl 3 rfl) ?_
    refine wr_gr hx hb hown hK hts iX9 (ci := 8) rfl 22 (by decide) f69 rfl hw 0 (by omega) 17 rfl rfl dX9_apply_82 ?_
    refine lv_iload_n hx hb dX9_apply_85 rfl (lv_at hl 1 rfl) ?_
    refine wr_ildN hx hb hK hw 17 (by omega) rfl (by decide) (tn (M 2 (aa + 2))) (hyz 0 (by decide) q1).1.1 (hyz 0 (by decide) q1).1.2 dX9_apply_86 ?_
    refine lv_i2l hx hb dX9_apply_87 rfl ?_
    refine wr_cVv (k := 0) (ci := 8) (As := [.int (nI x), .long ((M 16 (tn (M 2 (aa + 2)))).toInt64), .long ((M 17 (tn (M 2 (aa + 2)))).toInt64)]) (rest := []) ⟨hx, hb, hml, hown, hts⟩ (cwV 3 hts gX9_apply_X9_set rfl rfl rfl (by decide +kernel) ⟨Nat.le_of_ble_eq_true rfl, Nat.le_of_ble_eq_true rfl⟩) hK hA hw (k_X9_set l D ad cs s.heap.size M J x ((M 16 (tn (M 2 (aa + 2)))).toInt64) ((M 17 (tn (M 2 (aa + 2)))).toInt64) (by omega)) (by omega) rfl rfl rfl rfl hl.1 (Nat.le_of_ble_eq_true rfl) ⟨Nat.le_of_ble_eq_true rfl, Nat.le_of_ble_eq_true rfl⟩ dX9_apply_88 (fun M3 J4 H locs h5 hw => ?_)
    cases h5
    refine lv_goto (tgt := 279) hx hb dX9_apply_91 (by decide) ?_
    exact wr_vret hx hb hr hK hw (by show (_, _) = (_, _); unfold F_X9_apply; rw [if_pos q1]) hlocks dX9_apply_279
  by_cases q6 : M 2 aa = nI 1
  · refine lv_tableIn (off := 60) (tgt := 94) hx hb dX9_apply_34 (by rw [q6]; decide) (by rw [q6]; decide) (by rw [q6]; decide) (by decide) ?_
    refine lv_aload_n hx hb dX9_apply_94 rfl (lv_at hl 3 rfl) ?_
    refine lv_iload_n hx hb dX9_apply_95 rfl (lv_at hl 2 rfl) ?_
    refine lv_aload_n hx hb dX9_apply_96 rfl (lv_at hl 3 rfl) ?_
    refine wr_gr hx hb hown hK hts iX9 (ci := 8) rfl 21 (by decide) f66 rfl hw 0 (by omega) 16 rfl rfl dX9_apply_97 ?_
    refine lv_iload_n hx hb dX9_apply_100 rfl (lv_at hl 1 rfl) ?_
    refine wr_ildN hx hb hK hw 16 (by omega) rfl (by decide) (tn (M 2 (aa + 2))) (hyz 1 (by decide) q6).1.1 (hyz 1 (by decide) q6).1.2 dX9_apply_101 ?_
    refine lv_i2l hx hb dX9_apply_102 rfl ?_
    refine lv_aload_n hx hb dX9_apply_103 rfl (lv_at hl 3 rfl) ?_
    refine wr_gr hx hb hown hK hts iX9 (ci := 8) rfl 21 (by decide) f66 rfl hw 0 (by omega) 16 rfl rfl dX9_apply_104 ?_
    refine lv_iload hx hb dX9_apply_107 (lv_at hl 0 rfl) ?_
    refine wr_ildN hx hb hK hw 16 (by omega) rfl (by decide) (tn (M 2 (aa + 3))) (hyz 1 (by decide) q6).2.1 (hyz 1 (by decide) q6).2.2 dX9_apply_109 ?_
    refine lv_i2l hx hb dX9_apply_110 rfl ?_
    refine lv_ladd hx hb dX9_apply_111 ?_
    refine lv_aload_n hx hb dX9_apply_112 rfl (lv_at hl 3 rfl) ?_
    refine wr_gr hx hb hown hK hts iX9 (ci := 8) rfl 22 (by decide) f69 rfl hw 0 (by omega) 17 rfl rfl dX9_apply_113 ?_
    refine lv_iload_n hx hb dX9_apply_116 rfl (lv_at hl 1 rfl) ?_
    refine wr_ildN hx hb hK hw 17 (by omega) rfl (by decide) (tn (M 2 (aa + 2))) (hyz 1 (by decide) q6).1.1 (hyz 1 (by decide) q6).1.2 dX9_apply_117 ?_
    refine lv_i2l hx hb dX9_apply_118 rfl ?_
    refine lv_aload_n hx hb dX9_apply_119 rfl (lv_at hl 3 rfl) ?_
    refine wr_gr hx hb hown hK hts iX9 (ci := 8) rfl 22 (by decide) f69 rfl hw 0 (by omega) 17 rfl rfl dX9_apply_120 ?_
    refine lv_iload hx hb dX9_apply_123 (lv_at hl 0 rfl) ?_
    refine wr_ildN hx hb hK hw 17 (by omega) rfl (by decide) (tn (M 2 (aa + 3))) (hyz 1 (by decide) q6).2.1 (hyz 1 (by decide) q6).2.2 dX9_apply_125 ?_
    refine lv_i2l hx hb dX9_apply_126 rfl ?_
    refine lv_ladd hx hb dX9_apply_127 ?_
    refine wr_cVv (k := 0) (ci := 8) (As := [.int (nI x), .long ((((M 16 (tn (M 2 (aa + 2)))).toInt64) + ((M 16 (tn (M 2 (aa + 3)))).toInt64))), .long ((((M 17 (tn (M 2 (aa + 2)))).toInt64) + ((M 17 (tn (M 2 (aa + 3)))).toInt64)))]) (rest := []) ⟨hx, hb, hml, hown, hts⟩ (cwV 3 hts gX9_apply_X9_set rfl rfl rfl (by decide +kernel) ⟨Nat.le_of_ble_eq_true rfl, Nat.le_of_ble_eq_true rfl⟩) hK hA hw (k_X9_set l D ad cs s.heap.size M J x ((((M 16 (tn (M 2 (aa + 2)))).toInt64) + ((M 16 (tn (M 2 (aa + 3)))).toInt64))) ((((M 17 (tn (M 2 (aa + 2)))).toInt64) + ((M 17 (tn (M 2 (aa + 3)))).toInt64))) (by omega)) (by omega) rfl rfl rfl rfl hl.1 (Nat.le_of_ble_eq_true rfl) ⟨Nat.le_of_ble_eq_true rfl, Nat.le_of_ble_eq_true rfl⟩ dX9_apply_128 (fun M8 J9 H locs h10 hw => ?_)
    cases h10
    refine lv_goto (tgt := 279) hx hb dX9_apply_131 (by decide) ?_
    exact wr_vret hx hb hr hK hw (by show (_, _) = (_, _); unfold F_X9_apply; rw [if_neg q1, if_pos q6]) hlocks dX9_apply_279
  by_cases q11 : M 2 aa = nI 2
  · refine lv_tableIn (off := 100) (tgt := 134) hx hb dX9_apply_34 (by rw [q11]; decide) (by rw [q11]; decide) (by rw [q11]; decide) (by decide) ?_
    refine lv_aload_n hx hb dX9_apply_134 rfl (lv_at hl 3 rfl) ?_
    refine lv_iload_n hx hb dX9_apply_135 rfl (lv_at hl 2 rfl) ?_
    refine lv_aload_n hx hb dX9_apply_136 rfl (lv_at hl 3 rfl) ?_
    refine wr_gr hx hb hown hK hts iX9 (ci := 8) rfl 21 (by decide) f66 rfl hw 0 (by omega) 16 rfl rfl dX9_apply_137 ?_
    refine lv_iload_n hx hb dX9_apply_140 rfl (lv_at hl 1 rfl) ?_
    refine wr_ildN hx hb hK hw 16 (by omega) rfl (by decide) (tn (M 2 (aa + 2))) (hyz 2 (by decide) q11).1.1 (hyz 2 (by decide) q11).1.2 dX9_apply_141 ?_
    refine lv_i2l hx hb dX9_apply_142 rfl ?_
    refine lv_aload_n hx hb dX9_apply_143 rfl (lv_at hl 3 rfl) ?_
    refine wr_gr hx hb hown hK hts iX9 (ci := 8) rfl 22 (by decide) f69 rfl hw 0 (by omega) 17 rfl rfl dX9_apply_144 ?_
    refine lv_iload hx hb dX9_apply_147 (lv_at hl 0 rfl) ?_
    refine wr_ildN hx hb hK hw 17 (by omega) rfl (by decide) (tn (M 2 (aa + 3))) (hyz 2 (by decide) q11).2.1 (hyz 2 (by decide) q11).2.2 dX9_apply_149 ?_
    refine lv_i2l hx hb dX9_apply_150 rfl ?_
    refine lv_lsub hx hb dX9_apply_151 ?_
    refine lv_aload_n hx hb dX9_apply_152 rfl (lv_at hl 3 rfl) ?_
    refine wr_gr hx hb hown hK hts iX9 (ci := 8) rfl 22 (by decide) f69 rfl hw 0 (by omega) 17 rfl rfl dX9_apply_153 ?_
    refine lv_iload_n hx hb dX9_apply_156 rfl (lv_at hl 1 rfl) ?_
    refine wr_ildN hx hb hK hw 17 (by omega) rfl (by decide) (tn (M 2 (aa + 2))) (hyz 2 (by decide) q11).1.1 (hyz 2 (by decide) q11).1.2 dX9_apply_157 ?_
    refine lv_i2l hx hb dX9_apply_158 rfl ?_
    refine lv_aload_n hx hb dX9_apply_159 rfl (lv_at hl 3 rfl) ?_
    refine wr_gr hx hb hown hK hts iX9 (ci := 8) rfl 21 (by decide) f66 rfl hw 0 (by omega) 16 rfl rfl dX9_apply_160 ?_
    refine lv_iload hx hb dX9_apply_163 (lv_at hl 0 rfl) ?_
    refine wr_ildN hx hb hK hw 16 (by omega) rfl (by decide) (tn (M 2 (aa + 3))) (hyz 2 (by decide) q11).2.1 (hyz 2 (by decide) q11).2.2 dX9_apply_165 ?_
    refine lv_i2l hx hb dX9_apply_166 rfl ?_
    refine lv_lsub hx hb dX9_apply_167 ?_
    refine wr_cVv (k := 0) (ci := 8) (As := [.int (nI x), .long ((((M 16 (tn (M 2 (aa + 2)))).toInt64) - ((M 17 (tn (M 2 (aa + 3)))).toInt64))), .long ((((M 17 (tn (M 2 (aa + 2)))).toInt64) - ((M 16 (tn (M 2 (aa + 3)))).toInt64)))]) (rest := []) ⟨hx, hb, hml, hown, hts⟩ (cwV 3 hts gX9_apply_X9_set rfl rfl rfl (by decide +kernel) ⟨Nat.le_of_ble_eq_true rfl, Nat.le_of_ble_eq_true rfl⟩) hK hA hw (k_X9_set l D ad cs s.heap.size M J x ((((M 16 (tn (M 2 (aa + 2)))).toInt64) - ((M 17 (tn (M 2 (aa + 3)))).toInt64))) ((((M 17 (tn (M 2 (aa + 2)))).toInt64) - ((M 16 (tn (M 2 (aa + 3)))).toInt64))) (by omega)) (by omega) rfl rfl rfl rfl hl.1 (Nat.le_of_ble_eq_true rfl) ⟨Nat.le_of_ble_eq_true rfl, Nat.le_of_ble_eq_true rfl⟩ dX9_apply_168 (fun M13 J14 H locs h15 hw => ?_)
    cases h15
    refine lv_goto (tgt := 279) hx hb dX9_apply_171 (by decide) ?_
    exact wr_vret hx hb hr hK hw (by show (_, _) = (_, _); unfold F_X9_apply; rw [if_neg q1, if_neg q6, if_pos q11]) hlocks dX9_apply_279
  by_cases q16 : M 2 aa = nI 3
  · refine lv_tableIn (off := 140) (tgt := 174) hx hb dX9_apply_34 (by rw [q16]; decide) (by rw [q16]; decide) (by rw [q16]; decide) (by decide) ?_
    refine lv_aload_n hx hb dX9_apply_174 rfl (lv_at hl 3 rfl) ?_
    refine lv_iload_n hx hb dX9_apply_175 rfl (lv_at hl 2 rfl) ?_
    refine lv_iload_n hx hb dX9_apply_176 rfl (lv_at hl 1 rfl) ?_
    refine lv_iload hx hb dX9_apply_177 (lv_at hl 0 rfl) ?_
    rw [(hyz 3 (by decide) q16).1.1]
    rw [(hyz 3 (by decide) q16).2.1]
    refine wr_cVv (k := 0) (ci := 8) (As := [.int (nI x), .int (nI (tn (M 2 (aa + 2)))), .int (nI (tn (M 2 (aa + 3))))]) (rest := []) ⟨hx, hb, hml, hown, hts⟩ (cwV 3 hts gX9_apply_X9_product rfl rfl rfl (by decide +kernel) ⟨Nat.le_of_ble_eq_true rfl, Nat.le_of_ble_eq_true rfl⟩) hK hA hw (k_X9_product l D ad cs s.heap.size M J x (tn (M 2 (aa + 2))) (tn (M 2 (aa + 3))) (by omega) (hyz 3 (by decide) q16).1.2 (hyz 3 (by decide) q16).2.2) (by omega) rfl rfl rfl rfl hl.1 (Nat.le_of_ble_eq_true rfl) ⟨Nat.le_of_ble_eq_true rfl, Nat.le_of_ble_eq_true rfl⟩ dX9_apply_179 (fun M18 J19 H locs h20 hw => ?_)
    cases h20
    refine lv_goto (tgt := 279) hx hb dX9_apply_182 (by decide) ?_
    exact wr_vret hx hb hr hK hw (by show (_, _) = (_, _); unfold F_X9_apply; rw [if_neg q1, if_neg q6, if_neg q11, if_pos q16]) hlocks dX9_apply_279
  by_cases q21 : M 2 aa = nI 4
  · refine lv_tableIn (off := 151) (tgt := 185) hx hb dX9_apply_34 (by rw [q21]; decide) (by rw [q21]; decide) (by rw [q21]; decide) (by decide) ?_
    refine lv_aload_n hx hb dX9_apply_185 rfl (lv_at hl 3 rfl) ?_
    refine lv_iload_n hx hb dX9_apply_186 rfl (lv_at hl 2 rfl) ?_
    refine lv_aload_n hx hb dX9_apply_187 rfl (lv_at hl 3 rfl) ?_
    refine wr_gr hx hb hown hK hts iX9 (ci := 8) rfl 21 (by decide) f66 rfl hw 0 (by omega) 16 rfl rfl dX9_apply_188 ?_
    refine lv_iload_n hx hb dX9_apply_191 rfl (lv_at hl 1 rfl) ?_
    refine wr_ildN hx hb hK hw 16 (by omega) rfl (by decide) (tn (M 2 (aa + 2))) (hyz 4 (by decide) q21).1.1 (hyz 4 (by decide) q21).1.2 dX9_apply_192 ?_
    refine lv_aload_n hx hb dX9_apply_193 rfl (lv_at hl 3 rfl) ?_
    refine wr_gr hx hb hown hK hts iX9 (ci := 8) rfl 21 (by decide) f66 rfl hw 0 (by omega) 16 rfl rfl dX9_apply_194 ?_
    refine lv_iload hx hb dX9_apply_197 (lv_at hl 0 rfl) ?_
    refine wr_ildN hx hb hK hw 16 (by omega) rfl (by decide) (tn (M 2 (aa + 3))) (hyz 4 (by decide) q21).2.1 (hyz 4 (by decide) q21).2.2 dX9_apply_199 ?_
    refine va_mmin hx hb (hml.trans hl.1.symm) hown m147 t147 iMath c147 (Nat.le_of_ble_eq_true rfl) (Nat.le_of_ble_eq_true rfl) (Nat.le_of_ble_eq_true rfl) (Nat.le_of_ble_eq_true rfl) dX9_apply_200 ?_
    refine W.eq (g2 := F0 m 203 ls [.int ((i_mn (M 16 (tn (M 2 (aa + 2)))) (M 16 (tn (M 2 (aa + 3)))))), .int (nI x), .ref (ad 0)]) rfl ?_
    refine lv_i2l hx hb dX9_apply_203 rfl ?_
    refine lv_aload_n hx hb dX9_apply_204 rfl (lv_at hl 3 rfl) ?_
    refine wr_gr hx hb hown hK hts iX9 (ci := 8) rfl 22 (by decide) f69 rfl hw 0 (by omega) 17 rfl rfl dX9_apply_205 ?_
    refine lv_iload_n hx hb dX9_apply_208 rfl (lv_at hl 1 rfl) ?_
    refine wr_ildN hx hb hK hw 17 (by omega) rfl (by decide) (tn (M 2 (aa + 2))) (hyz 4 (by decide) q21).1.1 (hyz 4 (by decide) q21).1.2 dX9_apply_209 ?_
    refine lv_aload_n hx hb dX9_apply_210 rfl (lv_at hl 3 rfl) ?_
    refine wr_gr hx hb hown hK hts iX9 (ci := 8) rfl 22 (by decide) f69 rfl hw 0 (by omega) 17 rfl rfl dX9_apply_211 ?_
    refine lv_iload hx hb dX9_apply_214 (lv_at hl 0 rfl) ?_
    refine wr_ildN hx hb hK hw 17 (by omega) rfl (by decide) (tn (M 2 (aa + 3))) (hyz 4 (by decide) q21).2.1 (hyz 4 (by decide) q21).2.2 dX9_apply_216 ?_
    refine va_mmin hx hb (hml.trans hl.1.symm) hown m147 t147 iMath c147 (Nat.le_of_ble_eq_true rfl) (Nat.le_of_ble_eq_true rfl) (Nat.le_of_ble_eq_true rfl) (Nat.le_of_ble_eq_true rfl) dX9_apply_217 ?_
    refine W.eq (g2 := F0 m 220 ls [.int ((i_mn (M 17 (tn (M 2 (aa + 2)))) (M 17 (tn (M 2 (aa + 3)))))), .long (((i_mn (M 16 (tn (M 2 (aa + 2)))) (M 16 (tn (M 2 (aa + 3)))))).toInt64), .int (nI x), .ref (ad 0)]) rfl ?_
    refine lv_i2l hx hb dX9_apply_220 rfl ?_
    refine wr_cVv (k := 0) (ci := 8) (As := [.int (nI x), .long (((i_mn (M 16 (tn (M 2 (aa + 2)))) (M 16 (tn (M 2 (aa + 3)))))).toInt64), .long (((i_mn (M 17 (tn (M 2 (aa + 2)))) (M 17 (tn (M 2 (aa + 3)))))).toInt64)]) (rest := []) ⟨hx, hb, hml, hown, hts⟩ (cwV 3 hts gX9_apply_X9_set rfl rfl rfl (by decide +kernel) ⟨Nat.le_of_ble_eq_true rfl, Nat.le_of_ble_eq_true rfl⟩) hK hA hw (k_X9_set l D ad cs s.heap.size M J x (((i_mn (M 16 (tn (M 2 (aa + 2)))) (M 16 (tn (M 2 (aa + 3)))))).toInt64) (((i_mn (M 17 (tn (M 2 (aa + 2)))) (M 17 (tn (M 2 (aa + 3)))))).toInt64) (by omega)) (by omega) rfl rfl rfl rfl hl.1 (Nat.le_of_ble_eq_true rfl) ⟨Nat.le_of_ble_eq_true rfl, Nat.le_of_ble_eq_true rfl⟩ dX9_apply_221 (fun M23 J24 H locs h25 hw => ?_)
    cases h25
    refine lv_goto (tgt := 279) hx hb dX9_apply_224 (by decide) ?_
    exact wr_vret hx hb hr hK hw (by show (_, _) = (_, _); unfold F_X9_apply; rw [if_neg q1, if_neg q6, if_neg q11, if_neg q16, if_pos q21]) hlocks dX9_apply_279
  by_cases q26 : M 2 aa = nI 5
  · refine lv_tableIn (off := 193) (tgt := 227) hx hb dX9_apply_34 (by rw [q26]; decide) (by rw [q26]; decide) (by rw [q26]; decide) (by decide) ?_
    refine lv_aload_n hx hb dX9_apply_227 rfl (lv_at hl 3 rfl) ?_
    refine lv_iload_n hx hb dX9_apply_228 rfl (lv_at hl 2 rfl) ?_
    refine lv_aload_n hx hb dX9_apply_229 rfl (lv_at hl 3 rfl) ?_
    refine wr_gr hx hb hown hK hts iX9 (ci := 8) rfl 21 (by decide) f66 rfl hw 0 (by omega) 16 rfl rfl dX9_apply_230 ?_
    refine lv_iload_n hx hb dX9_apply_233 rfl (lv_at hl 1 rfl) ?_
    refine wr_ildN hx hb hK hw 16 (by omega) rfl (by decide) (tn (M 2 (aa + 2))) (hyz 5 (by decide) q26).1.1 (hyz 5 (by decide) q26).1.2 dX9_apply_234 ?_
    refine lv_aload_n hx hb dX9_apply_235 rfl (lv_at hl 3 rfl) ?_
    refine wr_gr hx hb hown hK hts iX9 (ci := 8) rfl 21 (by decide) f66 rfl hw 0 (by omega) 16 rfl rfl dX9_apply_236 ?_
    refine lv_iload hx hb dX9_apply_239 (lv_at hl 0 rfl) ?_
    refine wr_ildN hx hb hK hw 16 (by omega) rfl (by decide) (tn (M 2 (aa + 3))) (hyz 5 (by decide) q26).2.1 (hyz 5 (by decide) q26).2.2 dX9_apply_241 ?_
    refine va_mmax hx hb (hml.trans hl.1.symm) hown m150 t150 iMath c150 (Nat.le_of_ble_eq_true rfl) (Nat.le_of_ble_eq_true rfl) (Nat.le_of_ble_eq_true rfl) (Nat.le_of_ble_eq_true rfl) dX9_apply_242 ?_
    refine W.eq (g2 := F0 m 245 ls [.int ((i_mx (M 16 (tn (M 2 (aa + 2)))) (M 16 (tn (M 2 (aa + 3)))))), .int (nI x), .ref (ad 0)]) rfl ?_
    refine lv_i2l hx hb dX9_apply_245 rfl ?_
    refine lv_aload_n hx hb dX9_apply_246 rfl (lv_at hl 3 rfl) ?_
    refine wr_gr hx hb hown hK hts iX9 (ci := 8) rfl 22 (by decide) f69 rfl hw 0 (by omega) 17 rfl rfl dX9_apply_247 ?_
    refine lv_iload_n hx hb dX9_apply_250 rfl (lv_at hl 1 rfl) ?_
    refine wr_ildN hx hb hK hw 17 (by omega) rfl (by decide) (tn (M 2 (aa + 2))) (hyz 5 (by decide) q26).1.1 (hyz 5 (by decide) q26).1.2 dX9_apply_251 ?_
    refine lv_aload_n hx hb dX9_apply_252 rfl (lv_at hl 3 rfl) ?_
    refine wr_gr hx hb hown hK hts iX9 (ci := 8) rfl 22 (by decide) f69 rfl hw 0 (by omega) 17 rfl rfl dX9_apply_253 ?_
    refine lv_iload hx hb dX9_apply_256 (lv_at hl 0 rfl) ?_
    refine wr_ildN hx hb hK hw 17 (by omega) rfl (by decide) (tn (M 2 (aa + 3))) (hyz 5 (by decide) q26).2.1 (hyz 5 (by decide) q26).2.2 dX9_apply_258 ?_
    refine va_mmax hx hb (hml.trans hl.1.symm) hown m150 t150 iMath c150 (Nat.le_of_ble_eq_true rfl) (Nat.le_of_ble_eq_true rfl) (Nat.le_of_ble_eq_true rfl) (Nat.le_of_ble_eq_true rfl) dX9_apply_259 ?_
    refine W.eq (g2 := F0 m 262 ls [.int ((i_mx (M 17 (tn (M 2 (aa + 2)))) (M 17 (tn (M 2 (aa + 3)))))), .long (((i_mx (M 16 (tn (M 2 (aa + 2)))) (M 16 (tn (M 2 (aa + 3)))))).toInt64), .int (nI x), .ref (ad 0)]) rfl ?_
    refine lv_i2l hx hb dX9_apply_262 rfl ?_
    refine wr_cVv (k := 0) (ci := 8) (As := [.int (nI x), .long (((i_mx (M 16 (tn (M 2 (aa + 2)))) (M 16 (tn (M 2 (aa + 3)))))).toInt64), .long (((i_mx (M 17 (tn (M 2 (aa + 2)))) (M 17 (tn (M 2 (aa + 3)))))).toInt64)]) (rest := []) ⟨hx, hb, hml, hown, hts⟩ (cwV 3 hts gX9_apply_X9_set rfl rfl rfl (by decide +kernel) ⟨Nat.le_of_ble_eq_true rfl, Nat.le_of_ble_eq_true rfl⟩) hK hA hw (k_X9_set l D ad cs s.heap.size M J x (((i_mx (M 16 (tn (M 2 (aa + 2)))) (M 16 (tn (M 2 (aa + 3)))))).toInt64) (((i_mx (M 17 (tn (M 2 (aa + 2)))) (M 17 (tn (M 2 (aa + 3)))))).toInt64) (by omega)) (by omega) rfl rfl rfl rfl hl.1 (Nat.le_of_ble_eq_true rfl) ⟨Nat.le_of_ble_eq_true rfl, Nat.le_of_ble_eq_true rfl⟩ dX9_apply_263 (fun M28 J29 H locs h30 hw => ?_)
    cases h30
    refine lv_goto (tgt := 279) hx hb dX9_apply_266 (by decide) ?_
    exact wr_vret hx hb hr hK hw (by show (_, _) = (_, _); unfold F_X9_apply; rw [if_neg q1, if_neg q6, if_neg q11, if_neg q16, if_neg q21, if_pos q26]) hlocks dX9_apply_279
  refine lv_tableOut (tgt := 269) hx hb dX9_apply_34 (sw_out 0 5 (by decide) (fun k h1 h2 => by rcases (show k = 0 ∨ k = 1 ∨ k = 2 ∨ k = 3 ∨ k = 4 ∨ k = 5 by omega) with rfl | rfl | rfl | rfl | rfl | rfl <;> assumption)) (by decide) ?_
  refine lv_aload_n hx hb dX9_apply_269 rfl (lv_at hl 3 rfl) ?_
  refine lv_iload_n hx hb dX9_apply_270 rfl (lv_at hl 2 rfl) ?_
  refine lv_iload_n hx hb dX9_apply_271 rfl (lv_at hl 1 rfl) ?_
  refine lv_i2l hx hb dX9_apply_272 rfl ?_
  refine lv_iload hx hb dX9_apply_273 (lv_at hl 0 rfl) ?_
  refine lv_i2l hx hb dX9_apply_275 rfl ?_
  refine wr_cVv (k := 0) (ci := 8) (As := [.int (nI x), .long ((M 2 (aa + 2)).toInt64), .long ((M 2 (aa + 3)).toInt64)]) (rest := []) ⟨hx, hb, hml, hown, hts⟩ (cwV 3 hts gX9_apply_X9_set rfl rfl rfl (by decide +kernel) ⟨Nat.le_of_ble_eq_true rfl, Nat.le_of_ble_eq_true rfl⟩) hK hA hw (k_X9_set l D ad cs s.heap.size M J x ((M 2 (aa + 2)).toInt64) ((M 2 (aa + 3)).toInt64) (by omega)) (by omega) rfl rfl rfl rfl hl.1 (Nat.le_of_ble_eq_true rfl) ⟨Nat.le_of_ble_eq_true rfl, Nat.le_of_ble_eq_true rfl⟩ dX9_apply_276 (fun M32 J33 H locs h34 hw => ?_)
  cases h34
  exact wr_vret hx hb hr hK hw (by show (_, _) = (_, _); unfold F_X9_apply; rw [if_neg q1, if_neg q6, if_neg q11, if_neg q16, if_neg q21, if_neg q26]) hlocks dX9_apply_279
def E_X9_opposite (M : wM) (r : Int32) : Int32 := (if r = 0 then nI 4 else (if r = nI 1 then nI 5 else (if r = nI 2 then nI 3 else nI 2)))
set_option maxHeartbeats 4000000 in
set_option maxRecDepth 100000 in
theorem k_X9_opposite (l : Launch) (D : va_G) (ad : Nat → Nat) (cs : Nat → ClassId) (sz : Nat) (M : wM) (J : wJ) (r : Int32)  : wCi l yX9_opposite wsX9_opposite { frames := 0, cells := 0, slots := 0, locals := 0 } D 23 mSh ad cs [.int r] sz M J (fun r_ u_ => u_ = (M, J) ∧ r_ = E_X9_opposite M r) := by
  refine wC_i (cc := cX9_opposite) (maxL := 1) (ret := (some .int)) (by decide) rfl (Nat.le_of_ble_eq_true rfl) ?_
  intro p e s m below meth c ls A hx hb hr hml hown hts hlocks hK hA hw hl hAe
  clear hAe
  have hl : lv_has ls 1 [(0, .int r)] := hl
  refine lv_iload_n hx hb dX9_opposite_0 rfl (lv_at hl 0 rfl) ?_
  refine lv_if_ne (tgt := 8) hx hb dX9_opposite_1 (by decide) (fun q1 => ?_) (fun q1 => ?_)
  · skip
    refine lv_iload_n hx hb dX9_opposite_8 rfl (lv_at hl 0 rfl) ?_
    refine lv_iconst (v := nI 1) hx hb dX9_opposite_9 (by decide) ?_
    refine lv_icmp_ne (tgt := 17) hx hb dX9_opposite_10 (by decide) (fun q2 => ?_) (fun q2 => ?_)
    · skip
      refine lv_iload_n hx hb dX9_opposite_17 rfl (lv_at hl 0 rfl) ?_
      refine lv_iconst (v := nI 2) hx hb dX9_opposite_18 (by decide) ?_
      refine lv_icmp_ne (tgt := 26) hx hb dX9_opposite_19 (by decide) (fun q3 => ?_) (fun q3 => ?_)
      · skip
        refine lv_iconst (v := nI 2) hx hb dX9_opposite_26 (by decide) ?_
        exact wr_iret hx hb hr rfl hK hw ⟨rfl, by unfold E_X9_opposite; rw [if_neg q1, if_neg q2, if_neg q3]⟩ hlocks dX9_opposite_27
      · skip
        refine lv_iconst (v := nI 3) hx hb dX9_opposite_22 (by decide) ?_
        refine lv_goto (tgt := 27) hx hb dX9_opposite_23 (by decide) ?_
        exact wr_iret hx hb hr rfl hK hw ⟨rfl, by unfold E_X9_opposite; rw [if_neg q1, if_neg q2, if_pos q3]⟩ hlocks dX9_opposite_27
    · skip
      refine lv_iconst (v := nI 5) hx hb dX9_opposite_13 (by decide) ?_
      refine lv_goto (tgt := 27) hx hb dX9_opposite_14 (by decide) ?_
      exact wr_iret hx hb hr rfl hK hw ⟨rfl, by unfold E_X9_opposite; rw [if_neg q1, if_pos q2]⟩ hlocks dX9_opposite_27
  · skip
    refine lv_iconst (v := nI 4) hx hb dX9_opposite_4 (by decide) ?_
    refine lv_goto (tgt := 27) hx hb dX9_opposite_5 (by decide) ?_
    exact wr_iret hx hb hr rfl hK hw ⟨rfl, by unfold E_X9_opposite; rw [if_pos q1]⟩ hlocks dX9_opposite_27
def F_X9_refine_r0 (M : wM) (x : Nat) (y : Nat) : wM := (wU (wU M 17 x ((i_mn (M 17 x) (((M 17 y) - (nI 1)))))) 16 y ((i_mx (M 16 y) (((M 16 x) + (nI 1))))))
set_option maxHeartbeats 4000000 in
set_option maxRecDepth 100000 in
theorem k_X9_refine_r0 (l : Launch) (D : va_G) (ad : Nat → Nat) (cs : Nat → ClassId) (sz : Nat) (M : wM) (J : wJ) (x : Nat) (y : Nat) (hx6 : x < 6) (hy6 : y < 6) : wCv l yX9_refine wsX9_refine { frames := 1, cells := 0, slots := 0, locals := 31 } D 23 mSh ad cs [.ref (ad 0), .int (nI x), .int (nI 0), .int (nI y)] sz M J (fun u_ => u_ = (F_X9_refine_r0 M x y, J)) := by
  refine wC_v (cc := cX9_refine) (maxL := 8) (ret := none) (by decide) rfl (Nat.le_of_ble_eq_true rfl) ?_
  intro p e s m below meth c ls A hx hb hr hml hown hts hlocks hK hA hw hl hAe
  clear hAe
  have hl : lv_has ls 8 [(0, .ref (ad 0)), (1, .int (nI x)), (2, .int (nI 0)), (3, .int (nI y))] := hl
  have f66 : (Cond.fieldLink RX9 66 "RangePropagatorModel" "low" "[I").before _ s = true := hts _ (by decide +kernel)
  have iX9 : ∀ w ∈ wsX90, w ∈ wsX9_refine := by decide +kernel
  have f69 : (Cond.fieldLink RX9 69 "RangePropagatorModel" "high" "[I").before _ s = true := hts _ (by decide +kernel)
  have m147 : (Cond.methodLink RX9 147 Lib.Math.min.name).before _ s = true := hts _ (by decide +kernel)
  have t147 : (Cond.static Lib.Math.min.name).before _ s = true := hts _ (by decide +kernel)
  have iMath : (Cond.initialized "java/lang/Math").before _ s = true := hts _ (by decide +kernel)
  have c147 : (Cond.code Lib.Math.min.name Lib.Math.min.code 2 (some .int)).before _ s = true := hts _ (by decide +kernel)
  have m150 : (Cond.methodLink RX9 150 Lib.Math.max.name).before _ s = true := hts _ (by decide +kernel)
  have t150 : (Cond.static Lib.Math.max.name).before _ s = true := hts _ (by decide +kernel)
  have c150 : (Cond.code Lib.Math.max.name Lib.Math.max.code 2 (some .int)).before _ s = true := hts _ (by decide +kernel)
  refine lv_aload_n hx hb dX9_refine_0 rfl (lv_at hl 0 rfl) ?_
  refine wr_gr hx hb hown hK hts iX9 (ci := 8) rfl 21 (by decide) f66 rfl hw 0 (by omega) 16 rfl rfl dX9_refine_1 ?_
  refine lv_iload_n hx hb dX9_refine_4 rfl (lv_at hl 1 rfl) ?_
  refine wr_ildN hx hb hK hw 16 (by omega) rfl (by decide) x rfl (by omega) dX9_refine_5 ?_
  refine lv_istore (lv' := [(4, .int (M 16 x)), (0, .ref (ad 0)), (1, .int (nI x)), (2, .int (nI 0)), (3, .int (nI y))]) hx hb dX9_refine_6 hl (by decide) rfl (fun ls hl => ?_)
  refine lv_aload_n hx hb dX9_refine_8 rfl (lv_at hl 1 rfl) ?_
  refine wr_gr hx hb hown hK hts iX9 (ci := 8) rfl 22 (by decide) f69 rfl hw 0 (by omega) 17 rfl rfl dX9_refine_9 ?_
  refine lv_iload_n hx hb dX9_refine_12 rfl (lv_at hl 2 rfl) ?_
  refine wr_ildN hx hb hK hw 17 (by omega) rfl (by decide) x rfl (by omega) dX9_refine_13 ?_
  refine lv_istore (lv' := [(5, .int (M 17 x)), (4, .int (M 16 x)), (0, .ref (ad 0)), (1, .int (nI x)), (2, .int (nI 0)), (3, .int (nI y))]) hx hb dX9_refine_14 hl (by decide) rfl (fun ls hl => ?_)
  refine lv_aload_n hx hb dX9_refine_16 rfl (lv_at hl 2 rfl) ?_
  refine wr_gr hx hb hown hK hts iX9 (ci := 8) rfl 21 (by decide) f66 rfl hw 0 (by omega) 16 rfl rfl dX9_refine_17 ?_
  refine lv_iload_n hx hb dX9_refine_20 rfl (lv_at hl 5 rfl) ?_
  refine wr_ildN hx hb hK hw 16 (by omega) rfl (by decide) y rfl (by omega) dX9_refine_21 ?_
  refine lv_istore (lv' := [(6, .int (M 16 y)), (5, .int (M 17 x)), (4, .int (M 16 x)), (0, .ref (ad 0)), (1, .int (nI x)), (2, .int (nI 0)), (3, .int (nI y))]) hx hb dX9_refine_22 hl (by decide) rfl (fun ls hl => ?_)
  refine lv_aload_n hx hb dX9_refine_24 rfl (lv_at hl 3 rfl) ?_
  refine wr_gr hx hb hown hK hts iX9 (ci := 8) rfl 22 (by decide) f69 rfl hw 0 (by omega) 17 rfl rfl dX9_refine_25 ?_
  refine lv_iload_n hx hb dX9_refine_28 rfl (lv_at hl 6 rfl) ?_
  refine wr_ildN hx hb hK hw 17 (by omega) rfl (by decide) y rfl (by omega) dX9_refine_29 ?_
  refine lv_istore (lv' := [(7, .int (M 17 y)), (6, .int (M 16 y)), (5, .int (M 17 x)), (4, .int (M 16 x)), (0, .ref (ad 0)), (1, .int (nI x)), (2, .int (nI 0)), (3, .int (nI y))]) hx hb dX9_refine_30 hl (by decide) rfl (fun ls hl => ?_)
  refine lv_iload_n hx hb dX9_refine_32 rfl (lv_at hl 6 rfl) ?_
  refine lv_iconst (v := nI 3) hx hb dX9_refine_33 (by decide) ?_
  refine lv_icmp_ge (tgt := 85) hx hb dX9_refine_34 (by decide) (fun q1 => ?_) (fun q1 => ?_)
  · have q1n : 3 ≤ 0 := (nI_leI (by omega) (by omega)).mp q1
    exact absurd q1 (by decide)
  · have q1n : ¬ 3 ≤ 0 := fun z => q1 ((nI_leI (by omega) (by omega)).mpr z)
    refine lv_aload_n hx hb dX9_refine_37 rfl (lv_at hl 4 rfl) ?_
    refine wr_gr hx hb hown hK hts iX9 (ci := 8) rfl 22 (by decide) f69 rfl hw 0 (by omega) 17 rfl rfl dX9_refine_38 ?_
    refine lv_iload_n hx hb dX9_refine_41 rfl (lv_at hl 5 rfl) ?_
    refine lv_iload hx hb dX9_refine_42 (lv_at hl 2 rfl) ?_
    refine lv_iload_n hx hb dX9_refine_44 rfl (lv_at hl 6 rfl) ?_
    refine lv_if_ne (tgt := 55) hx hb dX9_refine_45 (by decide) (fun q2 => ?_) (fun q2 => ?_)
    · skip
      exact absurd q2 (by decide)
    · skip
      refine lv_iload hx hb dX9_refine_48 (lv_at hl 0 rfl) ?_
      refine lv_iconst (v := nI 1) hx hb dX9_refine_50 (by decide) ?_
      refine lv_isub hx hb dX9_refine_51 ?_
      refine lv_goto (tgt := 57) hx hb dX9_refine_52 (by decide) ?_
      refine va_mmin hx hb (hml.trans hl.1.symm) hown m147 t147 iMath c147 (Nat.le_of_ble_eq_true rfl) (Nat.le_of_ble_eq_true rfl) (Nat.le_of_ble_eq_true rfl) (Nat.le_of_ble_eq_true rfl) dX9_refine_57 ?_
      refine W.eq (g2 := F0 m 60 ls [.int ((i_mn (M 17 x) (((M 17 y) - (nI 1))))), .int (nI x), .ref (ad 17)]) rfl ?_
      refine wr_istN hx hb hK hw 17 (by omega) rfl (by decide) x rfl (by omega) dX9_refine_60 (fun H locs hw => ?_)
      refine lv_aload_n hx hb dX9_refine_61 rfl (lv_at hl 4 rfl) ?_
      refine wr_gr hx hb hown hK hts iX9 (ci := 8) rfl 21 (by decide) f66 rfl hw 0 (by omega) 16 rfl rfl dX9_refine_62 ?_
      refine lv_iload_n hx hb dX9_refine_65 rfl (lv_at hl 7 rfl) ?_
      refine lv_iload hx hb dX9_refine_66 (lv_at hl 1 rfl) ?_
      refine lv_iload_n hx hb dX9_refine_68 rfl (lv_at hl 6 rfl) ?_
      refine lv_if_ne (tgt := 79) hx hb dX9_refine_69 (by decide) (fun q3 => ?_) (fun q3 => ?_)
      · skip
        exact absurd q3 (by decide)
      · skip
        refine lv_iload hx hb dX9_refine_72 (lv_at hl 3 rfl) ?_
        refine lv_iconst (v := nI 1) hx hb dX9_refine_74 (by decide) ?_
        refine lv_iadd hx hb dX9_refine_75 ?_
        refine lv_goto (tgt := 81) hx hb dX9_refine_76 (by decide) ?_
        refine va_mmax hx hb (hml.trans hl.1.symm) hown m150 t150 iMath c150 (Nat.le_of_ble_eq_true rfl) (Nat.le_of_ble_eq_true rfl) (Nat.le_of_ble_eq_true rfl) (Nat.le_of_ble_eq_true rfl) dX9_refine_81 ?_
        refine W.eq (g2 := F0 m 84 ls [.int ((i_mx (M 16 y) (((M 16 x) + (nI 1))))), .int (nI y), .ref (ad 16)]) rfl ?_
        refine wr_istN hx hb hK hw 16 (by omega) rfl (by decide) y rfl (by omega) dX9_refine_84 (fun H locs hw => ?_)
        refine lv_iload_n hx hb dX9_refine_85 rfl (lv_at hl 6 rfl) ?_
        refine lv_iconst (v := nI 2) hx hb dX9_refine_86 (by decide) ?_
        refine lv_icmp_eq (tgt := 95) hx hb dX9_refine_87 (by decide) (fun q4 => ?_) (fun q4 => ?_)
        · have q4n : 0 = 2 := (nI_eq (by omega) (by omega)).mp q4
          exact absurd q4 (by decide)
        · have q4n : ¬ 0 = 2 := fun z => q4 ((nI_eq (by omega) (by omega)).mpr z)
          refine lv_iload_n hx hb dX9_refine_90 rfl (lv_at hl 6 rfl) ?_
          refine lv_iconst (v := nI 3) hx hb dX9_refine_91 (by decide) ?_
          refine lv_icmp_le (tgt := 145) hx hb dX9_refine_92 (by decide) (fun q5 => ?_) (fun q5 => ?_)
          · have q5n : 0 ≤ 3 := (nI_leI (by omega) (by omega)).mp q5
            refine lv_iload_n hx hb dX9_refine_145 rfl (lv_at hl 6 rfl) ?_
            refine lv_iconst (v := nI 3) hx hb dX9_refine_146 (by decide) ?_
            refine lv_icmp_eq (tgt := 151) hx hb dX9_refine_147 (by decide) (fun q6 => ?_) (fun q6 => ?_)
            · have q6n : 0 = 3 := (nI_eq (by omega) (by omega)).mp q6
              exact absurd q6 (by decide)
            · have q6n : ¬ 0 = 3 := fun z => q6 ((nI_eq (by omega) (by omega)).mpr z)
              exact wr_vret hx hb hr hK hw (by show (_, _) = (_, _); unfold F_X9_refine_r0; rfl) hlocks dX9_refine_150
          · have q5n : ¬ 0 ≤ 3 := fun z => q5 ((nI_leI (by omega) (by omega)).mpr z)
            exact absurd q5 (by decide)
def F_X9_refine_r1 (M : wM) (x : Nat) (y : Nat) : wM := (wU (wU M 17 x ((i_mn (M 17 x) (M 17 y)))) 16 y ((i_mx (M 16 y) (M 16 x))))
set_option maxHeartbeats 4000000 in
set_option maxRecDepth 100000 in
theorem k_X9_refine_r1 (l : Launch) (D : va_G) (ad : Nat → Nat) (cs : Nat → ClassId) (sz : Nat) (M : wM) (J : wJ) (x : Nat) (y : Nat) (hx6 : x < 6) (hy6 : y < 6) : wCv l yX9_refine wsX9_refine { frames := 1, cells := 0, slots := 0, locals := 31 } D 23 mSh ad cs [.ref (ad 0), .int (nI x), .int (nI 1), .int (nI y)] sz M J (fun u_ => u_ = (F_X9_refine_r1 M x y, J)) := by
  refine wC_v (cc := cX9_refine) (maxL := 8) (ret := none) (by decide) rfl (Nat.le_of_ble_eq_true rfl) ?_
  intro p e s m below meth c ls A hx hb hr hml hown hts hlocks hK hA hw hl hAe
  clear hAe
  have hl : lv_has ls 8 [(0, .ref (ad 0)), (1, .int (nI x)), (2, .int (nI 1)), (3, .int (nI y))] := hl
  have f66 : (Cond.fieldLink RX9 66 "RangePropagatorModel" "low" "[I").before _ s = true := hts _ (by decide +kernel)
  have iX9 : ∀ w ∈ wsX90, w ∈ wsX9_refine := by decide +kernel
  have f69 : (Cond.fieldLink RX9 69 "RangePropagatorModel" "high" "[I").before _ s = true := hts _ (by decide +kernel)
  have m147 : (Cond.methodLink RX9 147 Lib.Math.min.name).before _ s = true := hts _ (by decide +kernel)
  have t147 : (Cond.static Lib.Math.min.name).before _ s = true := hts _ (by decide +kernel)
  have iMath : (Cond.initialized "java/lang/Math").before _ s = true := hts _ (by decide +kernel)
  have c147 : (Cond.code Lib.Math.min.name Lib.Math.min.code 2 (some .int)).before _ s = true := hts _ (by decide +kernel)
  have m150 : (Cond.methodLink RX9 150 Lib.Math.max.name).before _ s = true := hts _ (by decide +kernel)
  have t150 : (Cond.static Lib.Math.max.name).before _ s = true := hts _ (by decide +kernel)
  have c150 : (Cond.code Lib.Math.max.name Lib.Math.max.code 2 (some .int)).before _ s = true := hts _ (by decide +kernel)
  refine lv_aload_n hx hb dX9_refine_0 rfl (lv_at hl 0 rfl) ?_
  refine wr_gr hx hb hown hK hts iX9 (ci := 8) rfl 21 (by decide) f66 rfl hw 0 (by omega) 16 rfl rfl dX9_refine_1 ?_
  refine lv_iload_n hx hb dX9_refine_4 rfl (lv_at hl 1 rfl) ?_
  refine wr_ildN hx hb hK hw 16 (by omega) rfl (by decide) x rfl (by omega) dX9_refine_5 ?_
  refine lv_istore (lv' := [(4, .int (M 16 x)), (0, .ref (ad 0)), (1, .int (nI x)), (2, .int (nI 1)), (3, .int (nI y))]) hx hb dX9_refine_6 hl (by decide) rfl (fun ls hl => ?_)
  refine lv_aload_n hx hb dX9_refine_8 rfl (lv_at hl 1 rfl) ?_
  refine wr_gr hx hb hown hK hts iX9 (ci := 8) rfl 22 (by decide) f69 rfl hw 0 (by omega) 17 rfl rfl dX9_refine_9 ?_
  refine lv_iload_n hx hb dX9_refine_12 rfl (lv_at hl 2 rfl) ?_
  refine wr_ildN hx hb hK hw 17 (by omega) rfl (by decide) x rfl (by omega) dX9_refine_13 ?_
  refine lv_istore (lv' := [(5, .int (M 17 x)), (4, .int (M 16 x)), (0, .ref (ad 0)), (1, .int (nI x)), (2, .int (nI 1)), (3, .int (nI y))]) hx hb dX9_refine_14 hl (by decide) rfl (fun ls hl => ?_)
  refine lv_aload_n hx hb dX9_refine_16 rfl (lv_at hl 2 rfl) ?_
  refine wr_gr hx hb hown hK hts iX9 (ci := 8) rfl 21 (by decide) f66 rfl hw 0 (by omega) 16 rfl rfl dX9_refine_17 ?_
  refine lv_iload_n hx hb dX9_refine_20 rfl (lv_at hl 5 rfl) ?_
  refine wr_ildN hx hb hK hw 16 (by omega) rfl (by decide) y rfl (by omega) dX9_refine_21 ?_
  refine lv_istore (lv' := [(6, .int (M 16 y)), (5, .int (M 17 x)), (4, .int (M 16 x)), (0, .ref (ad 0)), (1, .int (nI x)), (2, .int (nI 1)), (3, .int (nI y))]) hx hb dX9_refine_22 hl (by decide) rfl (fun ls hl => ?_)
  refine lv_aload_n hx hb dX9_refine_24 rfl (lv_at hl 3 rfl) ?_
  refine wr_gr hx hb hown hK hts iX9 (ci := 8) rfl 22 (by decide) f69 rfl hw 0 (by omega) 17 rfl rfl dX9_refine_25 ?_
  refine lv_iload_n hx hb dX9_refine_28 rfl (lv_at hl 6 rfl) ?_
  refine wr_ildN hx hb hK hw 17 (by omega) rfl (by decide) y rfl (by omega) dX9_refine_29 ?_
  refine lv_istore (lv' := [(7, .int (M 17 y)), (6, .int (M 16 y)), (5, .int (M 17 x)), (4, .int (M 16 x)), (0, .ref (ad 0)), (1, .int (nI x)), (2, .int (nI 1)), (3, .int (nI y))]) hx hb dX9_refine_30 hl (by decide) rfl (fun ls hl => ?_)
  refine lv_iload_n hx hb dX9_refine_32 rfl (lv_at hl 6 rfl) ?_
  refine lv_iconst (v := nI 3) hx hb dX9_refine_33 (by decide) ?_
  refine lv_icmp_ge (tgt := 85) hx hb dX9_refine_34 (by decide) (fun q1 => ?_) (fun q1 => ?_)
  · have q1n : 3 ≤ 1 := (nI_leI (by omega) (by omega)).mp q1
    exact absurd q1 (by decide)
  · have q1n : ¬ 3 ≤ 1 := fun z => q1 ((nI_leI (by omega) (by omega)).mpr z)
    refine lv_aload_n hx hb dX9_refine_37 rfl (lv_at hl 4 rfl) ?_
    refine wr_gr hx hb hown hK hts iX9 (ci := 8) rfl 22 (by decide) f69 rfl hw 0 (by omega) 17 rfl rfl dX9_refine_38 ?_
    refine lv_iload_n hx hb dX9_refine_41 rfl (lv_at hl 5 rfl) ?_
    refine lv_iload hx hb dX9_refine_42 (lv_at hl 2 rfl) ?_
    refine lv_iload_n hx hb dX9_refine_44 rfl (lv_at hl 6 rfl) ?_
    refine lv_if_ne (tgt := 55) hx hb dX9_refine_45 (by decide) (fun q2 => ?_) (fun q2 => ?_)
    · skip
      refine lv_iload hx hb dX9_refine_55 (lv_at hl 0 rfl) ?_
      refine va_mmin hx hb (hml.trans hl.1.symm) hown m147 t147 iMath c147 (Nat.le_of_ble_eq_true rfl) (Nat.le_of_ble_eq_true rfl) (Nat.le_of_ble_eq_true rfl) (Nat.le_of_ble_eq_true rfl) dX9_refine_57 ?_
      refine W.eq (g2 := F0 m 60 ls [.int ((i_mn (M 17 x) (M 17 y))), .int (nI x), .ref (ad 17)]) rfl ?_
      refine wr_istN hx hb hK hw 17 (by omega) rfl (by decide) x rfl (by omega) dX9_refine_60 (fun H locs hw => ?_)
      refine lv_aload_n hx hb dX9_refine_61 rfl (lv_at hl 4 rfl) ?_
      refine wr_gr hx hb hown hK hts iX9 (ci := 8) rfl 21 (by decide) f66 rfl hw 0 (by omega) 16 rfl rfl dX9_refine_62 ?_
      refine lv_iload_n hx hb dX9_refine_65 rfl (lv_at hl 7 rfl) ?_
      refine lv_iload hx hb dX9_refine_66 (lv_at hl 1 rfl) ?_
      refine lv_iload_n hx hb dX9_refine_68 rfl (lv_at hl 6 rfl) ?_
      refine lv_if_ne (tgt := 79) hx hb dX9_refine_69 (by decide) (fun q3 => ?_) (fun q3 => ?_)
      · skip
        refine lv_iload hx hb dX9_refine_79 (lv_at hl 3 rfl) ?_
        refine va_mmax hx hb (hml.trans hl.1.symm) hown m150 t150 iMath c150 (Nat.le_of_ble_eq_true rfl) (Nat.le_of_ble_eq_true rfl) (Nat.le_of_ble_eq_true rfl) (Nat.le_of_ble_eq_true rfl) dX9_refine_81 ?_
        refine W.eq (g2 := F0 m 84 ls [.int ((i_mx (M 16 y) (M 16 x))), .int (nI y), .ref (ad 16)]) rfl ?_
        refine wr_istN hx hb hK hw 16 (by omega) rfl (by decide) y rfl (by omega) dX9_refine_84 (fun H locs hw => ?_)
        refine lv_iload_n hx hb dX9_refine_85 rfl (lv_at hl 6 rfl) ?_
        refine lv_iconst (v := nI 2) hx hb dX9_refine_86 (by decide) ?_
        refine lv_icmp_eq (tgt := 95) hx hb dX9_refine_87 (by decide) (fun q4 => ?_) (fun q4 => ?_)
        · have q4n : 1 = 2 := (nI_eq (by omega) (by omega)).mp q4
          exact absurd q4 (by decide)
        · have q4n : ¬ 1 = 2 := fun z => q4 ((nI_eq (by omega) (by omega)).mpr z)
          refine lv_iload_n hx hb dX9_refine_90 rfl (lv_at hl 6 rfl) ?_
          refine lv_iconst (v := nI 3) hx hb dX9_refine_91 (by decide) ?_
          refine lv_icmp_le (tgt := 145) hx hb dX9_refine_92 (by decide) (fun q5 => ?_) (fun q5 => ?_)
          · have q5n : 1 ≤ 3 := (nI_leI (by omega) (by omega)).mp q5
            refine lv_iload_n hx hb dX9_refine_145 rfl (lv_at hl 6 rfl) ?_
            refine lv_iconst (v := nI 3) hx hb dX9_refine_146 (by decide) ?_
            refine lv_icmp_eq (tgt := 151) hx hb dX9_refine_147 (by decide) (fun q6 => ?_) (fun q6 => ?_)
            · have q6n : 1 = 3 := (nI_eq (by omega) (by omega)).mp q6
              exact absurd q6 (by decide)
            · have q6n : ¬ 1 = 3 := fun z => q6 ((nI_eq (by omega) (by omega)).mpr z)
              exact wr_vret hx hb hr hK hw (by show (_, _) = (_, _); unfold F_X9_refine_r1; rfl) hlocks dX9_refine_150
          · have q5n : ¬ 1 ≤ 3 := fun z => q5 ((nI_leI (by omega) (by omega)).mpr z)
            exact absurd q5 (by decide)
      · skip
        exact absurd q3 (by decide)
    · skip
      exact absurd q2 (by decide)
def F_X9_refine_r2 (M : wM) (x : Nat) (y : Nat) : wM := (wU (wU (wU (wU M 17 x ((i_mn (M 17 x) (M 17 y)))) 16 y ((i_mx (M 16 y) (M 16 x)))) 16 x ((i_mx (M 16 x) (M 16 y)))) 17 y ((i_mn (M 17 y) (M 17 x))))
set_option maxHeartbeats 4000000 in
set_option maxRecDepth 100000 in
theorem k_X9_refine_r2 (l : Launch) (D : va_G) (ad : Nat → Nat) (cs : Nat → ClassId) (sz : Nat) (M : wM) (J : wJ) (x : Nat) (y : Nat) (hx6 : x < 6) (hy6 : y < 6) : wCv l yX9_refine wsX9_refine { frames := 1, cells := 0, slots := 0, locals := 31 } D 23 mSh ad cs [.ref (ad 0), .int (nI x), .int (nI 2), .int (nI y)] sz M J (fun u_ => u_ = (F_X9_refine_r2 M x y, J)) := by
  refine wC_v (cc := cX9_refine) (maxL := 8) (ret := none) (by decide) rfl (Nat.le_of_ble_eq_true rfl) ?_
  intro p e s m below meth c ls A hx hb hr hml hown hts hlocks hK hA hw hl hAe
  clear hAe
  have hl : lv_has ls 8 [(0, .ref (ad 0)), (1, .int (nI x)), (2, .int (nI 2)), (3, .int (nI y))] := hl
  have f66 : (Cond.fieldLink RX9 66 "RangePropagatorModel" "low" "[I").before _ s = true := hts _ (by decide +kernel)
  have iX9 : ∀ w ∈ wsX90, w ∈ wsX9_refine := by decide +kernel
  have f69 : (Cond.fieldLink RX9 69 "RangePropagatorModel" "high" "[I").before _ s = true := hts _ (by decide +kernel)
  have m147 : (Cond.methodLink RX9 147 Lib.Math.min.name).before _ s = true := hts _ (by decide +kernel)
  have t147 : (Cond.static Lib.Math.min.name).before _ s = true := hts _ (by decide +kernel)
  have iMath : (Cond.initialized "java/lang/Math").before _ s = true := hts _ (by decide +kernel)
  have c147 : (Cond.code Lib.Math.min.name Lib.Math.min.code 2 (some .int)).before _ s = true := hts _ (by decide +kernel)
  have m150 : (Cond.methodLink RX9 150 Lib.Math.max.name).before _ s = true := hts _ (by decide +kernel)
  have t150 : (Cond.static Lib.Math.max.name).before _ s = true := hts _ (by decide +kernel)
  have c150 : (Cond.code Lib.Math.max.name Lib.Math.max.code 2 (some .int)).before _ s = true := hts _ (by decide +kernel)
  refine lv_aload_n hx hb dX9_refine_0 rfl (lv_at hl 0 rfl) ?_
  refine wr_gr hx hb hown hK hts iX9 (ci := 8) rfl 21 (by decide) f66 rfl hw 0 (by omega) 16 rfl rfl dX9_refine_1 ?_
  refine lv_iload_n hx hb dX9_refine_4 rfl (lv_at hl 1 rfl) ?_
  refine wr_ildN hx hb hK hw 16 (by omega) rfl (by decide) x rfl (by omega) dX9_refine_5 ?_
  refine lv_istore (lv' := [(4, .int (M 16 x)), (0, .ref (ad 0)), (1, .int (nI x)), (2, .int (nI 2)), (3, .int (nI y))]) hx hb dX9_refine_6 hl (by decide) rfl (fun ls hl => ?_)
  refine lv_aload_n hx hb dX9_refine_8 rfl (lv_at hl 1 rfl) ?_
  refine wr_gr hx hb hown hK hts iX9 (ci := 8) rfl 22 (by decide) f69 rfl hw 0 (by omega) 17 rfl rfl dX9_refine_9 ?_
  refine lv_iload_n hx hb dX9_refine_12 rfl (lv_at hl 2 rfl) ?_
  refine wr_ildN hx hb hK hw 17 (by omega) rfl (by decide) x rfl (by omega) dX9_refine_13 ?_
  refine lv_istore (lv' := [(5, .int (M 17 x)), (4, .int (M 16 x)), (0, .ref (ad 0)), (1, .int (nI x)), (2, .int (nI 2)), (3, .int (nI y))]) hx hb dX9_refine_14 hl (by decide) rfl (fun ls hl => ?_)
  refine lv_aload_n hx hb dX9_refine_16 rfl (lv_at hl 2 rfl) ?_
  refine wr_gr hx hb hown hK hts iX9 (ci := 8) rfl 21 (by decide) f66 rfl hw 0 (by omega) 16 rfl rfl dX9_refine_17 ?_
  refine lv_iload_n hx hb dX9_refine_20 rfl (lv_at hl 5 rfl) ?_
  refine wr_ildN hx hb hK hw 16 (by omega) rfl (by decide) y rfl (by omega) dX9_refine_21 ?_
  refine lv_istore (lv' := [(6, .int (M 16 y)), (5, .int (M 17 x)), (4, .int (M 16 x)), (0, .ref (ad 0)), (1, .int (nI x)), (2, .int (nI 2)), (3, .int (nI y))]) hx hb dX9_refine_22 hl (by decide) rfl (fun ls hl => ?_)
  refine lv_aload_n hx hb dX9_refine_24 rfl (lv_at hl 3 rfl) ?_
  refine wr_gr hx hb hown hK hts iX9 (ci := 8) rfl 22 (by decide) f69 rfl hw 0 (by omega) 17 rfl rfl dX9_refine_25 ?_
  refine lv_iload_n hx hb dX9_refine_28 rfl (lv_at hl 6 rfl) ?_
  refine wr_ildN hx hb hK hw 17 (by omega) rfl (by decide) y rfl (by omega) dX9_refine_29 ?_
  refine lv_istore (lv' := [(7, .int (M 17 y)), (6, .int (M 16 y)), (5, .int (M 17 x)), (4, .int (M 16 x)), (0, .ref (ad 0)), (1, .int (nI x)), (2, .int (nI 2)), (3, .int (nI y))]) hx hb dX9_refine_30 hl (by decide) rfl (fun ls hl => ?_)
  refine lv_iload_n hx hb dX9_refine_32 rfl (lv_at hl 6 rfl) ?_
  refine lv_iconst (v := nI 3) hx hb dX9_refine_33 (by decide) ?_
  refine lv_icmp_ge (tgt := 85) hx hb dX9_refine_34 (by decide) (fun q1 => ?_) (fun q1 => ?_)
  · have q1n : 3 ≤ 2 := (nI_leI (by omega) (by omega)).mp q1
    exact absurd q1 (by decide)
  · have q1n : ¬ 3 ≤ 2 := fun z => q1 ((nI_leI (by omega) (by omega)).mpr z)
    refine lv_aload_n hx hb dX9_refine_37 rfl (lv_at hl 4 rfl) ?_
    refine wr_gr hx hb hown hK hts iX9 (ci := 8) rfl 22 (by decide) f69 rfl hw 0 (by omega) 17 rfl rfl dX9_refine_38 ?_
    refine lv_iload_n hx hb dX9_refine_41 rfl (lv_at hl 5 rfl) ?_
    refine lv_iload hx hb dX9_refine_42 (lv_at hl 2 rfl) ?_
    refine lv_iload_n hx hb dX9_refine_44 rfl (lv_at hl 6 rfl) ?_
    refine lv_if_ne (tgt := 55) hx hb dX9_refine_45 (by decide) (fun q2 => ?_) (fun q2 => ?_)
    · skip
      refine lv_iload hx hb dX9_refine_55 (lv_at hl 0 rfl) ?_
      refine va_mmin hx hb (hml.trans hl.1.symm) hown m147 t147 iMath c147 (Nat.le_of_ble_eq_true rfl) (Nat.le_of_ble_eq_true rfl) (Nat.le_of_ble_eq_true rfl) (Nat.le_of_ble_eq_true rfl) dX9_refine_57 ?_
      refine W.eq (g2 := F0 m 60 ls [.int ((i_mn (M 17 x) (M 17 y))), .int (nI x), .ref (ad 17)]) rfl ?_
      refine wr_istN hx hb hK hw 17 (by omega) rfl (by decide) x rfl (by omega) dX9_refine_60 (fun H locs hw => ?_)
      refine lv_aload_n hx hb dX9_refine_61 rfl (lv_at hl 4 rfl) ?_
      refine wr_gr hx hb hown hK hts iX9 (ci := 8) rfl 21 (by decide) f66 rfl hw 0 (by omega) 16 rfl rfl dX9_refine_62 ?_
      refine lv_iload_n hx hb dX9_refine_65 rfl (lv_at hl 7 rfl) ?_
      refine lv_iload hx hb dX9_refine_66 (lv_at hl 1 rfl) ?_
      refine lv_iload_n hx hb dX9_refine_68 rfl (lv_at hl 6 rfl) ?_
      refine lv_if_ne (tgt := 79) hx hb dX9_refine_69 (by decide) (fun q3 => ?_) (fun q3 => ?_)
      · skip
        refine lv_iload hx hb dX9_refine_79 (lv_at hl 3 rfl) ?_
        refine va_mmax hx hb (hml.trans hl.1.symm) hown m150 t150 iMath c150 (Nat.le_of_ble_eq_true rfl) (Nat.le_of_ble_eq_true rfl) (Nat.le_of_ble_eq_true rfl) (Nat.le_of_ble_eq_true rfl) dX9_refine_81 ?_
        refine W.eq (g2 := F0 m 84 ls [.int ((i_mx (M 16 y) (M 16 x))), .int (nI y), .ref (ad 16)]) rfl ?_
        refine wr_istN hx hb hK hw 16 (by omega) rfl (by decide) y rfl (by omega) dX9_refine_84 (fun H locs hw => ?_)
        refine lv_iload_n hx hb dX9_refine_85 rfl (lv_at hl 6 rfl) ?_
        refine lv_iconst (v := nI 2) hx hb dX9_refine_86 (by decide) ?_
        refine lv_icmp_eq (tgt := 95) hx hb dX9_refine_87 (by decide) (fun q4 => ?_) (fun q4 => ?_)
        · have q4n : 2 = 2 := (nI_eq (by omega) (by omega)).mp q4
          refine lv_aload_n hx hb dX9_refine_95 rfl (lv_at hl 4 rfl) ?_
          refine wr_gr hx hb hown hK hts iX9 (ci := 8) rfl 21 (by decide) f66 rfl hw 0 (by omega) 16 rfl rfl dX9_refine_96 ?_
          refine lv_iload_n hx hb dX9_refine_99 rfl (lv_at hl 5 rfl) ?_
          refine lv_iload hx hb dX9_refine_100 (lv_at hl 3 rfl) ?_
          refine lv_iload_n hx hb dX9_refine_102 rfl (lv_at hl 6 rfl) ?_
          refine lv_iconst (v := nI 5) hx hb dX9_refine_103 (by decide) ?_
          refine lv_icmp_ne (tgt := 114) hx hb dX9_refine_104 (by decide) (fun q5 => ?_) (fun q5 => ?_)
          · have q5n : ¬ 2 = 5 := fun z => q5 ((nI_eq (by omega) (by omega)).mpr z)
            refine lv_iload hx hb dX9_refine_114 (lv_at hl 1 rfl) ?_
            refine va_mmax hx hb (hml.trans hl.1.symm) hown m150 t150 iMath c150 (Nat.le_of_ble_eq_true rfl) (Nat.le_of_ble_eq_true rfl) (Nat.le_of_ble_eq_true rfl) (Nat.le_of_ble_eq_true rfl) dX9_refine_116 ?_
            refine W.eq (g2 := F0 m 119 ls [.int ((i_mx (M 16 x) (M 16 y))), .int (nI x), .ref (ad 16)]) rfl ?_
            refine wr_istN hx hb hK hw 16 (by omega) rfl (by decide) x rfl (by omega) dX9_refine_119 (fun H locs hw => ?_)
            refine lv_aload_n hx hb dX9_refine_120 rfl (lv_at hl 4 rfl) ?_
            refine wr_gr hx hb hown hK hts iX9 (ci := 8) rfl 22 (by decide) f69 rfl hw 0 (by omega) 17 rfl rfl dX9_refine_121 ?_
            refine lv_iload_n hx hb dX9_refine_124 rfl (lv_at hl 7 rfl) ?_
            refine lv_iload hx hb dX9_refine_125 (lv_at hl 0 rfl) ?_
            refine lv_iload_n hx hb dX9_refine_127 rfl (lv_at hl 6 rfl) ?_
            refine lv_iconst (v := nI 5) hx hb dX9_refine_128 (by decide) ?_
            refine lv_icmp_ne (tgt := 139) hx hb dX9_refine_129 (by decide) (fun q6 => ?_) (fun q6 => ?_)
            · have q6n : ¬ 2 = 5 := fun z => q6 ((nI_eq (by omega) (by omega)).mpr z)
              refine lv_iload hx hb dX9_refine_139 (lv_at hl 2 rfl) ?_
              refine va_mmin hx hb (hml.trans hl.1.symm) hown m147 t147 iMath c147 (Nat.le_of_ble_eq_true rfl) (Nat.le_of_ble_eq_true rfl) (Nat.le_of_ble_eq_true rfl) (Nat.le_of_ble_eq_true rfl) dX9_refine_141 ?_
              refine W.eq (g2 := F0 m 144 ls [.int ((i_mn (M 17 y) (M 17 x))), .int (nI y), .ref (ad 17)]) rfl ?_
              refine wr_istN hx hb hK hw 17 (by omega) rfl (by decide) y rfl (by omega) dX9_refine_144 (fun H locs hw => ?_)
              refine lv_iload_n hx hb dX9_refine_145 rfl (lv_at hl 6 rfl) ?_
              refine lv_iconst (v := nI 3) hx hb dX9_refine_146 (by decide) ?_
              refine lv_icmp_eq (tgt := 151) hx hb dX9_refine_147 (by decide) (fun q7 => ?_) (fun q7 => ?_)
              · have q7n : 2 = 3 := (nI_eq (by omega) (by omega)).mp q7
                exact absurd q7 (by decide)
              · have q7n : ¬ 2 = 3 := fun z => q7 ((nI_eq (by omega) (by omega)).mpr z)
                exact wr_vret hx hb hr hK hw (by show (_, _) = (_, _); unfold F_X9_refine_r2; rfl) hlocks dX9_refine_150
            · have q6n : 2 = 5 := (nI_eq (by omega) (by omega)).mp q6
              exact absurd q6 (by decide)
          · have q5n : 2 = 5 := (nI_eq (by omega) (by omega)).mp q5
            exact absurd q5 (by decide)
        · have q4n : ¬ 2 = 2 := fun z => q4 ((nI_eq (by omega) (by omega)).mpr z)
          exact absurd q4 (by decide)
      · skip
        exact absurd q3 (by decide)
    · skip
      exact absurd q2 (by decide)
def F_X9_refine_r3 (M : wM) (x : Nat) (y : Nat) : wM := (if M 16 y = M 17 y then (if M 16 x = M 16 y then (if M 17 x = M 16 y then (if M 16 x = M 17 x then (if M 16 y = M 16 x then (if M 17 y = M 16 x then (wU (wU (wU (wU M 16 x (((M 16 x) + (nI 1)))) 17 x ((((wU M 16 x (((M 16 x) + (nI 1)))) 17 x) - (nI 1)))) 16 y ((((wU (wU M 16 x (((M 16 x) + (nI 1)))) 17 x ((((wU M 16 x (((M 16 x) + (nI 1)))) 17 x) - (nI 1)))) 16 y) + (nI 1)))) 17 y ((((wU (wU (wU M 16 x (((M 16 x) + (nI 1)))) 17 x ((((wU M 16 x (((M 16 x) + (nI 1)))) 17 x) - (nI 1)))) 16 y ((((wU (wU M 16 x (((M 16 x) + (nI 1)))) 17 x ((((wU M 16 x (((M 16 x) + (nI 1)))) 17 x) - (nI 1)))) 16 y) + (nI 1)))) 17 y) - (nI 1)))) else (wU (wU (wU (wU M 16 x (((M 16 x) + (nI 1)))) 17 x ((((wU M 16 x (((M 16 x) + (nI 1)))) 17 x) - (nI 1)))) 16 y ((((wU (wU M 16 x (((M 16 x) + (nI 1)))) 17 x ((((wU M 16 x (((M 16 x) + (nI 1)))) 17 x) - (nI 1)))) 16 y) + (nI 1)))) 17 y ((((wU (wU (wU M 16 x (((M 16 x) + (nI 1)))) 17 x ((((wU M 16 x (((M 16 x) + (nI 1)))) 17 x) - (nI 1)))) 16 y ((((wU (wU M 16 x (((M 16 x) + (nI 1)))) 17 x ((((wU M 16 x (((M 16 x) + (nI 1)))) 17 x) - (nI 1)))) 16 y) + (nI 1)))) 17 y) - (nI 0))))) else (if M 17 y = M 16 x then (wU (wU (wU (wU M 16 x (((M 16 x) + (nI 1)))) 17 x ((((wU M 16 x (((M 16 x) + (nI 1)))) 17 x) - (nI 1)))) 16 y ((((wU (wU M 16 x (((M 16 x) + (nI 1)))) 17 x ((((wU M 16 x (((M 16 x) + (nI 1)))) 17 x) - (nI 1)))) 16 y) + (nI 0)))) 17 y ((((wU (wU (wU M 16 x (((M 16 x) + (nI 1)))) 17 x ((((wU M 16 x (((M 16 x) + (nI 1)))) 17 x) - (nI 1)))) 16 y ((((wU (wU M 16 x (((M 16 x) + (nI 1)))) 17 x ((((wU M 16 x (((M 16 x) + (nI 1)))) 17 x) - (nI 1)))) 16 y) + (nI 0)))) 17 y) - (nI 1)))) else (wU (wU (wU (wU M 16 x (((M 16 x) + (nI 1)))) 17 x ((((wU M 16 x (((M 16 x) + (nI 1)))) 17 x) - (nI 1)))) 16 y ((((wU (wU M 16 x (((M 16 x) + (nI 1)))) 17 x ((((wU M 16 x (((M 16 x) + (nI 1)))) 17 x) - (nI 1)))) 16 y) + (nI 0)))) 17 y ((((wU (wU (wU M 16 x (((M 16 x) + (nI 1)))) 17 x ((((wU M 16 x (((M 16 x) + (nI 1)))) 17 x) - (nI 1)))) 16 y ((((wU (wU M 16 x (((M 16 x) + (nI 1)))) 17 x ((((wU M 16 x (((M 16 x) + (nI 1)))) 17 x) - (nI 1)))) 16 y) + (nI 0)))) 17 y) - (nI 0)))))) else (wU (wU M 16 x (((M 16 x) + (nI 1)))) 17 x ((((wU M 16 x (((M 16 x) + (nI 1)))) 17 x) - (nI 1))))) else (if M 16 x = M 17 x then (if M 16 y = M 16 x then (if M 17 y = M 16 x then (wU (wU (wU (wU M 16 x (((M 16 x) + (nI 1)))) 17 x ((((wU M 16 x (((M 16 x) + (nI 1)))) 17 x) - (nI 0)))) 16 y ((((wU (wU M 16 x (((M 16 x) + (nI 1)))) 17 x ((((wU M 16 x (((M 16 x) + (nI 1)))) 17 x) - (nI 0)))) 16 y) + (nI 1)))) 17 y ((((wU (wU (wU M 16 x (((M 16 x) + (nI 1)))) 17 x ((((wU M 16 x (((M 16 x) + (nI 1)))) 17 x) - (nI 0)))) 16 y ((((wU (wU M 16 x (((M 16 x) + (nI 1)))) 17 x ((((wU M 16 x (((M 16 x) + (nI 1)))) 17 x) - (nI 0)))) 16 y) + (nI 1)))) 17 y) - (nI 1)))) else (wU (wU (wU (wU M 16 x (((M 16 x) + (nI 1)))) 17 x ((((wU M 16 x (((M 16 x) + (nI 1)))) 17 x) - (nI 0)))) 16 y ((((wU (wU M 16 x (((M 16 x) + (nI 1)))) 17 x ((((wU M 16 x (((M 16 x) + (nI 1)))) 17 x) - (nI 0)))) 16 y) + (nI 1)))) 17 y ((((wU (wU (wU M 16 x (((M 16 x) + (nI 1)))) 17 x ((((wU M 16 x (((M 16 x) + (nI 1)))) 17 x) - (nI 0)))) 16 y ((((wU (wU M 16 x (((M 16 x) + (nI 1)))) 17 x ((((wU M 16 x (((M 16 x) + (nI 1)))) 17 x) - (nI 0)))) 16 y) + (nI 1)))) 17 y) - (nI 0))))) else (if M 17 y = M 16 x then (wU (wU (wU (wU M 16 x (((M 16 x) + (nI 1)))) 17 x ((((wU M 16 x (((M 16 x) + (nI 1)))) 17 x) - (nI 0)))) 16 y ((((wU (wU M 16 x (((M 16 x) + (nI 1)))) 17 x ((((wU M 16 x (((M 16 x) + (nI 1)))) 17 x) - (nI 0)))) 16 y) + (nI 0)))) 17 y ((((wU (wU (wU M 16 x (((M 16 x) + (nI 1)))) 17 x ((((wU M 16 x (((M 16 x) + (nI 1)))) 17 x) - (nI 0)))) 16 y ((((wU (wU M 16 x (((M 16 x) + (nI 1)))) 17 x ((((wU M 16 x (((M 16 x) + (nI 1)))) 17 x) - (nI 0)))) 16 y) + (nI 0)))) 17 y) - (nI 1)))) else (wU (wU (wU (wU M 16 x (((M 16 x) + (nI 1)))) 17 x ((((wU M 16 x (((M 16 x) + (nI 1)))) 17 x) - (nI 0)))) 16 y ((((wU (wU M 16 x (((M 16 x) + (nI 1)))) 17 x ((((wU M 16 x (((M 16 x) + (nI 1)))) 17 x) - (nI 0)))) 16 y) + (nI 0)))) 17 y ((((wU (wU (wU M 16 x (((M 16 x) + (nI 1)))) 17 x ((((wU M 16 x (((M 16 x) + (nI 1)))) 17 x) - (nI 0)))) 16 y ((((wU (wU M 16 x (((M 16 x) + (nI 1)))) 17 x ((((wU M 16 x (((M 16 x) + (nI 1)))) 17 x) - (nI 0)))) 16 y) + (nI 0)))) 17 y) - (nI 0)))))) else (wU (wU M 16 x (((M 16 x) + (nI 1)))) 17 x ((((wU M 16 x (((M 16 x) + (nI 1)))) 17 x) - (nI 0)))))) else (if M 17 x = M 16 y then (if M 16 x = M 17 x then (if M 16 y = M 16 x then (if M 17 y = M 16 x then (wU (wU (wU (wU M 16 x (((M 16 x) + (nI 0)))) 17 x ((((wU M 16 x (((M 16 x) + (nI 0)))) 17 x) - (nI 1)))) 16 y ((((wU (wU M 16 x (((M 16 x) + (nI 0)))) 17 x ((((wU M 16 x (((M 16 x) + (nI 0)))) 17 x) - (nI 1)))) 16 y) + (nI 1)))) 17 y ((((wU (wU (wU M 16 x (((M 16 x) + (nI 0)))) 17 x ((((wU M 16 x (((M 16 x) + (nI 0)))) 17 x) - (nI 1)))) 16 y ((((wU (wU M 16 x (((M 16 x) + (nI 0)))) 17 x ((((wU M 16 x (((M 16 x) + (nI 0)))) 17 x) - (nI 1)))) 16 y) + (nI 1)))) 17 y) - (nI 1)))) else (wU (wU (wU (wU M 16 x (((M 16 x) + (nI 0)))) 17 x ((((wU M 16 x (((M 16 x) + (nI 0)))) 17 x) - (nI 1)))) 16 y ((((wU (wU M 16 x (((M 16 x) + (nI 0)))) 17 x ((((wU M 16 x (((M 16 x) + (nI 0)))) 17 x) - (nI 1)))) 16 y) + (nI 1)))) 17 y ((((wU (wU (wU M 16 x (((M 16 x) + (nI 0)))) 17 x ((((wU M 16 x (((M 16 x) + (nI 0)))) 17 x) - (nI 1)))) 16 y ((((wU (wU M 16 x (((M 16 x) + (nI 0)))) 17 x ((((wU M 16 x (((M 16 x) + (nI 0)))) 17 x) - (nI 1)))) 16 y) + (nI 1)))) 17 y) - (nI 0))))) else (if M 17 y = M 16 x then (wU (wU (wU (wU M 16 x (((M 16 x) + (nI 0)))) 17 x ((((wU M 16 x (((M 16 x) + (nI 0)))) 17 x) - (nI 1)))) 16 y ((((wU (wU M 16 x (((M 16 x) + (nI 0)))) 17 x ((((wU M 16 x (((M 16 x) + (nI 0)))) 17 x) - (nI 1)))) 16 y) + (nI 0)))) 17 y ((((wU (wU (wU M 16 x (((M 16 x) + (nI 0)))) 17 x ((((wU M 16 x (((M 16 x) + (nI 0)))) 17 x) - (nI 1)))) 16 y ((((wU (wU M 16 x (((M 16 x) + (nI 0)))) 17 x ((((wU M 16 x (((M 16 x) + (nI 0)))) 17 x) - (nI 1)))) 16 y) + (nI 0)))) 17 y) - (nI 1)))) else (wU (wU (wU (wU M 16 x (((M 16 x) + (nI 0)))) 17 x ((((wU M 16 x (((M 16 x) + (nI 0)))) 17 x) - (nI 1)))) 16 y ((((wU (wU M 16 x (((M 16 x) + (nI 0)))) 17 x ((((wU M 16 x (((M 16 x) + (nI 0)))) 17 x) - (nI 1)))) 16 y) + (nI 0)))) 17 y ((((wU (wU (wU M 16 x (((M 16 x) + (nI 0)))) 17 x ((((wU M 16 x (((M 16 x) + (nI 0)))) 17 x) - (nI 1)))) 16 y ((((wU (wU M 16 x (((M 16 x) + (nI 0)))) 17 x ((((wU M 16 x (((M 16 x) + (nI 0)))) 17 x) - (nI 1)))) 16 y) + (nI 0)))) 17 y) - (nI 0)))))) else (wU (wU M 16 x (((M 16 x) + (nI 0)))) 17 x ((((wU M 16 x (((M 16 x) + (nI 0)))) 17 x) - (nI 1))))) else (if M 16 x = M 17 x then (if M 16 y = M 16 x then (if M 17 y = M 16 x then (wU (wU (wU (wU M 16 x (((M 16 x) + (nI 0)))) 17 x ((((wU M 16 x (((M 16 x) + (nI 0)))) 17 x) - (nI 0)))) 16 y ((((wU (wU M 16 x (((M 16 x) + (nI 0)))) 17 x ((((wU M 16 x (((M 16 x) + (nI 0)))) 17 x) - (nI 0)))) 16 y) + (nI 1)))) 17 y ((((wU (wU (wU M 16 x (((M 16 x) + (nI 0)))) 17 x ((((wU M 16 x (((M 16 x) + (nI 0)))) 17 x) - (nI 0)))) 16 y ((((wU (wU M 16 x (((M 16 x) + (nI 0)))) 17 x ((((wU M 16 x (((M 16 x) + (nI 0)))) 17 x) - (nI 0)))) 16 y) + (nI 1)))) 17 y) - (nI 1)))) else (wU (wU (wU (wU M 16 x (((M 16 x) + (nI 0)))) 17 x ((((wU M 16 x (((M 16 x) + (nI 0)))) 17 x) - (nI 0)))) 16 y ((((wU (wU M 16 x (((M 16 x) + (nI 0)))) 17 x ((((wU M 16 x (((M 16 x) + (nI 0)))) 17 x) - (nI 0)))) 16 y) + (nI 1)))) 17 y ((((wU (wU (wU M 16 x (((M 16 x) + (nI 0)))) 17 x ((((wU M 16 x (((M 16 x) + (nI 0)))) 17 x) - (nI 0)))) 16 y ((((wU (wU M 16 x (((M 16 x) + (nI 0)))) 17 x ((((wU M 16 x (((M 16 x) + (nI 0)))) 17 x) - (nI 0)))) 16 y) + (nI 1)))) 17 y) - (nI 0))))) else (if M 17 y = M 16 x then (wU (wU (wU (wU M 16 x (((M 16 x) + (nI 0)))) 17 x ((((wU M 16 x (((M 16 x) + (nI 0)))) 17 x) - (nI 0)))) 16 y ((((wU (wU M 16 x (((M 16 x) + (nI 0)))) 17 x ((((wU M 16 x (((M 16 x) + (nI 0)))) 17 x) - (nI 0)))) 16 y) + (nI 0)))) 17 y ((((wU (wU (wU M 16 x (((M 16 x) + (nI 0)))) 17 x ((((wU M 16 x (((M 16 x) + (nI 0)))) 17 x) - (nI 0)))) 16 y ((((wU (wU M 16 x (((M 16 x) + (nI 0)))) 17 x ((((wU M 16 x (((M 16 x) + (nI 0)))) 17 x) - (nI 0)))) 16 y) + (nI 0)))) 17 y) - (nI 1)))) else (wU (wU (wU (wU M 16 x (((M 16 x) + (nI 0)))) 17 x ((((wU M 16 x (((M 16 x) + (nI 0)))) 17 x) - (nI 0)))) 16 y ((((wU (wU M 16 x (((M 16 x) + (nI 0)))) 17 x ((((wU M 16 x (((M 16 x) + (nI 0)))) 17 x) - (nI 0)))) 16 y) + (nI 0)))) 17 y ((((wU (wU (wU M 16 x (((M 16 x) + (nI 0)))) 17 x ((((wU M 16 x (((M 16 x) + (nI 0)))) 17 x) - (nI 0)))) 16 y ((((wU (wU M 16 x (((M 16 x) + (nI 0)))) 17 x ((((wU M 16 x (((M 16 x) + (nI 0)))) 17 x) - (nI 0)))) 16 y) + (nI 0)))) 17 y) - (nI 0)))))) else (wU (wU M 16 x (((M 16 x) + (nI 0)))) 17 x ((((wU M 16 x (((M 16 x) + (nI 0)))) 17 x) - (nI 0))))))) else (if M 16 x = M 17 x then (if M 16 y = M 16 x then (if M 17 y = M 16 x then (wU (wU M 16 y (((M 16 y) + (nI 1)))) 17 y ((((wU M 16 y (((M 16 y) + (nI 1)))) 17 y) - (nI 1)))) else (wU (wU M 16 y (((M 16 y) + (nI 1)))) 17 y ((((wU M 16 y (((M 16 y) + (nI 1)))) 17 y) - (nI 0))))) else (if M 17 y = M 16 x then (wU (wU M 16 y (((M 16 y) + (nI 0)))) 17 y ((((wU M 16 y (((M 16 y) + (nI 0)))) 17 y) - (nI 1)))) else (wU (wU M 16 y (((M 16 y) + (nI 0)))) 17 y ((((wU M 16 y (((M 16 y) + (nI 0)))) 17 y) - (nI 0)))))) else M))
set_option maxHeartbeats 4000000 in
set_option maxRecDepth 100000 in
theorem k_X9_refine_r3 (l : Launch) (D : va_G) (ad : Nat → Nat) (cs : Nat → ClassId) (sz : Nat) (M : wM) (J : wJ) (x : Nat) (y : Nat) (hx6 : x < 6) (hy6 : y < 6) : wCv l yX9_refine wsX9_refine { frames := 0, cells := 0, slots := 0, locals := 0 } D 23 mSh ad cs [.ref (ad 0), .int (nI x), .int (nI 3), .int (nI y)] sz M J (fun u_ => u_ = (F_X9_refine_r3 M x y, J)) := by
  refine wC_v (cc := cX9_refine) (maxL := 8) (ret := none) (by decide) rfl (Nat.le_of_ble_eq_true rfl) ?_
  intro p e s m below meth c ls A hx hb hr hml hown hts hlocks hK hA hw hl hAe
  clear hAe
  have hl : lv_has ls 8 [(0, .ref (ad 0)), (1, .int (nI x)), (2, .int (nI 3)), (3, .int (nI y))] := hl
  have f66 : (Cond.fieldLink RX9 66 "RangePropagatorModel" "low" "[I").before _ s = true := hts _ (by decide +kernel)
  have iX9 : ∀ w ∈ wsX90, w ∈ wsX9_refine := by decide +kernel
  have f69 : (Cond.fieldLink RX9 69 "RangePropagatorModel" "high" "[I").before _ s = true := hts _ (by decide +kernel)
  refine lv_aload_n hx hb dX9_refine_0 rfl (lv_at hl 0 rfl) ?_
  refine wr_gr hx hb hown hK hts iX9 (ci := 8) rfl 21 (by decide) f66 rfl hw 0 (by omega) 16 rfl rfl dX9_refine_1 ?_
  refine lv_iload_n hx hb dX9_refine_4 rfl (lv_at hl 1 rfl) ?_
  refine wr_ildN hx hb hK hw 16 (by omega) rfl (by decide) x rfl (by omega) dX9_refine_5 ?_
  refine lv_istore (lv' := [(4, .int (M 16 x)), (0, .ref (ad 0)), (1, .int (nI x)), (2, .int (nI 3)), (3, .int (nI y))]) hx hb dX9_refine_6 hl (by decide) rfl (fun ls hl => ?_)
  refine lv_aload_n hx hb dX9_refine_8 rfl (lv_at hl 1 rfl) ?_
  refine wr_gr hx hb hown hK hts iX9 (ci := 8) rfl 22 (by decide) f69 rfl hw 0 (by omega) 17 rfl rfl dX9_refine_9 ?_
  refine lv_iload_n hx hb dX9_refine_12 rfl (lv_at hl 2 rfl) ?_
  refine wr_ildN hx hb hK hw 17 (by omega) rfl (by decide) x rfl (by omega) dX9_refine_13 ?_
  refine lv_istore (lv' := [(5, .int (M 17 x)), (4, .int (M 16 x)), (0, .ref (ad 0)), (1, .int (nI x)), (2, .int (nI 3)), (3, .int (nI y))]) hx hb dX9_refine_14 hl (by decide) rfl (fun ls hl => ?_)
  refine lv_aload_n hx hb dX9_refine_16 rfl (lv_at hl 2 rfl) ?_
  refine wr_gr hx hb hown hK hts iX9 (ci := 8) rfl 21 (by decide) f66 rfl hw 0 (by omega) 16 rfl rfl dX9_refine_17 ?_
  refine lv_iload_n hx hb dX9_refine_20 rfl (lv_at hl 5 rfl) ?_
  refine wr_ildN hx hb hK hw 16 (by omega) rfl (by decide) y rfl (by omega) dX9_refine_21 ?_
  refine lv_istore (lv' := [(6, .int (M 16 y)), (5, .int (M 17 x)), (4, .int (M 16 x)), (0, .ref (ad 0)), (1, .int (nI x)), (2, .int (nI 3)), (3, .int (nI y))]) hx hb dX9_refine_22 hl (by decide) rfl (fun ls hl => ?_)
  refine lv_aload_n hx hb dX9_refine_24 rfl (lv_at hl 3 rfl) ?_
  refine wr_gr hx hb hown hK hts iX9 (ci := 8) rfl 22 (by decide) f69 rfl hw 0 (by omega) 17 rfl rfl dX9_refine_25 ?_
  refine lv_iload_n hx hb dX9_refine_28 rfl (lv_at hl 6 rfl) ?_
  refine wr_ildN hx hb hK hw 17 (by omega) rfl (by decide) y rfl (by omega) dX9_refine_29 ?_
  refine lv_istore (lv' := [(7, .int (M 17 y)), (6, .int (M 16 y)), (5, .int (M 17 x)), (4, .int (M 16 x)), (0, .ref (ad 0)), (1, .int (nI x)), (2, .int (nI 3)), (3, .int (nI y))]) hx hb dX9_refine_30 hl (by decide) rfl (fun ls hl => ?_)
  refine lv_iload_n hx hb dX9_refine_32 rfl (lv_at hl 6 rfl) ?_
  refine lv_iconst (v := nI 3) hx hb dX9_refine_33 (by decide) ?_
  refine lv_icmp_ge (tgt := 85) hx hb dX9_refine_34 (by decide) (fun q1 => ?_) (fun q1 => ?_)
  · have q1n : 3 ≤ 3 := (nI_leI (by omega) (by omega)).mp q1
    refine lv_iload_n hx hb dX9_refine_85 rfl (lv_at hl 6 rfl) ?_
    refine lv_iconst (v := nI 2) hx hb dX9_refine_86 (by decide) ?_
    refine lv_icmp_eq (tgt := 95) hx hb dX9_refine_87 (by decide) (fun q2 => ?_) (fun q2 => ?_)
    · have q2n : 3 = 2 := (nI_eq (by omega) (by omega)).mp q2
      exact absurd q2 (by decide)
    · have q2n : ¬ 3 = 2 := fun z => q2 ((nI_eq (by omega) (by omega)).mpr z)
      refine lv_iload_n hx hb dX9_refine_90 rfl (lv_at hl 6 rfl) ?_
      refine lv_iconst (v := nI 3) hx hb dX9_refine_91 (by decide) ?_
      refine lv_icmp_le (tgt := 145) hx hb dX9_refine_92 (by decide) (fun q3 => ?_) (fun q3 => ?_)
      · have q3n : 3 ≤ 3 := (nI_leI (by omega) (by omega)).mp q3
        refine lv_iload_n hx hb dX9_refine_145 rfl (lv_at hl 6 rfl) ?_
        refine lv_iconst (v := nI 3) hx hb dX9_refine_146 (by decide) ?_
        refine lv_icmp_eq (tgt := 151) hx hb dX9_refine_147 (by decide) (fun q4 => ?_) (fun q4 => ?_)
        · have q4n : 3 = 3 := (nI_eq (by omega) (by omega)).mp q4
          refine lv_iload hx hb dX9_refine_151 (lv_at hl 1 rfl) ?_
          refine lv_iload hx hb dX9_refine_153 (lv_at hl 0 rfl) ?_
          refine lv_icmp_ne (tgt := 200) hx hb dX9_refine_155 (by decide) (fun q5 => ?_) (fun q5 => ?_)
          · skip
            refine lv_iload hx hb dX9_refine_200 (lv_at hl 3 rfl) ?_
            refine lv_iload hx hb dX9_refine_202 (lv_at hl 2 rfl) ?_
            refine lv_icmp_ne (tgt := 249) hx hb dX9_refine_204 (by decide) (fun q6 => ?_) (fun q6 => ?_)
            · skip
              exact wr_vret hx hb hr hK hw (by show (_, _) = (_, _); unfold F_X9_refine_r3; rw [if_neg q5, if_neg q6]) hlocks dX9_refine_249
            · skip
              refine lv_aload_n hx hb dX9_refine_207 rfl (lv_at hl 4 rfl) ?_
              refine wr_gr hx hb hown hK hts iX9 (ci := 8) rfl 21 (by decide) f66 rfl hw 0 (by omega) 16 rfl rfl dX9_refine_208 ?_
              refine lv_iload_n hx hb dX9_refine_211 rfl (lv_at hl 7 rfl) ?_
              refine lv_dup2_11 hx hb dX9_refine_212 rfl rfl ?_
              refine wr_ildN hx hb hK hw 16 (by omega) rfl (by decide) y rfl (by omega) dX9_refine_213 ?_
              refine lv_iload hx hb dX9_refine_214 (lv_at hl 1 rfl) ?_
              refine lv_iload hx hb dX9_refine_216 (lv_at hl 3 rfl) ?_
              refine lv_icmp_ne (tgt := 225) hx hb dX9_refine_218 (by decide) (fun q7 => ?_) (fun q7 => ?_)
              · skip
                refine lv_iconst (v := nI 0) hx hb dX9_refine_225 (by decide) ?_
                refine lv_iadd hx hb dX9_refine_226 ?_
                refine wr_istN hx hb hK hw 16 (by omega) rfl (by decide) y rfl (by omega) dX9_refine_227 (fun H locs hw => ?_)
                refine lv_aload_n hx hb dX9_refine_228 rfl (lv_at hl 4 rfl) ?_
                refine wr_gr hx hb hown hK hts iX9 (ci := 8) rfl 22 (by decide) f69 rfl hw 0 (by omega) 17 rfl rfl dX9_refine_229 ?_
                refine lv_iload_n hx hb dX9_refine_232 rfl (lv_at hl 7 rfl) ?_
                refine lv_dup2_11 hx hb dX9_refine_233 rfl rfl ?_
                refine wr_ildN hx hb hK hw 17 (by omega) rfl (by decide) y rfl (by omega) dX9_refine_234 ?_
                refine lv_iload hx hb dX9_refine_235 (lv_at hl 0 rfl) ?_
                refine lv_iload hx hb dX9_refine_237 (lv_at hl 3 rfl) ?_
                refine lv_icmp_ne (tgt := 246) hx hb dX9_refine_239 (by decide) (fun q8 => ?_) (fun q8 => ?_)
                · skip
                  refine lv_iconst (v := nI 0) hx hb dX9_refine_246 (by decide) ?_
                  refine lv_isub hx hb dX9_refine_247 ?_
                  refine wr_istN hx hb hK hw 17 (by omega) rfl (by decide) y rfl (by omega) dX9_refine_248 (fun H locs hw => ?_)
                  exact wr_vret hx hb hr hK hw (by show (_, _) = (_, _); unfold F_X9_refine_r3; rw [if_neg q5, if_pos q6, if_neg q7, if_neg q8]) hlocks dX9_refine_249
                · skip
                  refine lv_iconst (v := nI 1) hx hb dX9_refine_242 (by decide) ?_
                  refine lv_goto (tgt := 247) hx hb dX9_refine_243 (by decide) ?_
                  refine lv_isub hx hb dX9_refine_247 ?_
                  refine wr_istN hx hb hK hw 17 (by omega) rfl (by decide) y rfl (by omega) dX9_refine_248 (fun H locs hw => ?_)
                  exact wr_vret hx hb hr hK hw (by show (_, _) = (_, _); unfold F_X9_refine_r3; rw [if_neg q5, if_pos q6, if_neg q7, if_pos q8]) hlocks dX9_refine_249
              · skip
                refine lv_iconst (v := nI 1) hx hb dX9_refine_221 (by decide) ?_
                refine lv_goto (tgt := 226) hx hb dX9_refine_222 (by decide) ?_
                refine lv_iadd hx hb dX9_refine_226 ?_
                refine wr_istN hx hb hK hw 16 (by omega) rfl (by decide) y rfl (by omega) dX9_refine_227 (fun H locs hw => ?_)
                refine lv_aload_n hx hb dX9_refine_228 rfl (lv_at hl 4 rfl) ?_
                refine wr_gr hx hb hown hK hts iX9 (ci := 8) rfl 22 (by decide) f69 rfl hw 0 (by omega) 17 rfl rfl dX9_refine_229 ?_
                refine lv_iload_n hx hb dX9_refine_232 rfl (lv_at hl 7 rfl) ?_
                refine lv_dup2_11 hx hb dX9_refine_233 rfl rfl ?_
                refine wr_ildN hx hb hK hw 17 (by omega) rfl (by decide) y rfl (by omega) dX9_refine_234 ?_
                refine lv_iload hx hb dX9_refine_235 (lv_at hl 0 rfl) ?_
                refine lv_iload hx hb dX9_refine_237 (lv_at hl 3 rfl) ?_
                refine lv_icmp_ne (tgt := 246) hx hb dX9_refine_239 (by decide) (fun q9 => ?_) (fun q9 => ?_)
                · skip
                  refine lv_iconst (v := nI 0) hx hb dX9_refine_246 (by decide) ?_
                  refine lv_isub hx hb dX9_refine_247 ?_
                  refine wr_istN hx hb hK hw 17 (by omega) rfl (by decide) y rfl (by omega) dX9_refine_248 (fun H locs hw => ?_)
                  exact wr_vret hx hb hr hK hw (by show (_, _) = (_, _); unfold F_X9_refine_r3; rw [if_neg q5, if_pos q6, if_pos q7, if_neg q9]) hlocks dX9_refine_249
                · skip
                  refine lv_iconst (v := nI 1) hx hb dX9_refine_242 (by decide) ?_
                  refine lv_goto (tgt := 247) hx hb dX9_refine_243 (by decide) ?_
                  refine lv_isub hx hb dX9_refine_247 ?_
                  refine wr_istN hx hb hK hw 17 (by omega) rfl (by decide) y rfl (by omega) dX9_refine_248 (fun H locs hw => ?_)
                  exact wr_vret hx hb hr hK hw (by show (_, _) = (_, _); unfold F_X9_refine_r3; rw [if_neg q5, if_pos q6, if_pos q7, if_pos q9]) hlocks dX9_refine_249
          · skip
            refine lv_aload_n hx hb dX9_refine_158 rfl (lv_at hl 4 rfl) ?_
            refine wr_gr hx hb hown hK hts iX9 (ci := 8) rfl 21 (by decide) f66 rfl hw 0 (by omega) 16 rfl rfl dX9_refine_159 ?_
            refine lv_iload_n hx hb dX9_refine_162 rfl (lv_at hl 5 rfl) ?_
            refine lv_dup2_11 hx hb dX9_refine_163 rfl rfl ?_
            refine wr_ildN hx hb hK hw 16 (by omega) rfl (by decide) x rfl (by omega) dX9_refine_164 ?_
            refine lv_iload hx hb dX9_refine_165 (lv_at hl 3 rfl) ?_
            refine lv_iload hx hb dX9_refine_167 (lv_at hl 1 rfl) ?_
            refine lv_icmp_ne (tgt := 176) hx hb dX9_refine_169 (by decide) (fun q10 => ?_) (fun q10 => ?_)
            · skip
              refine lv_iconst (v := nI 0) hx hb dX9_refine_176 (by decide) ?_
              refine lv_iadd hx hb dX9_refine_177 ?_
              refine wr_istN hx hb hK hw 16 (by omega) rfl (by decide) x rfl (by omega) dX9_refine_178 (fun H locs hw => ?_)
              refine lv_aload_n hx hb dX9_refine_179 rfl (lv_at hl 4 rfl) ?_
              refine wr_gr hx hb hown hK hts iX9 (ci := 8) rfl 22 (by decide) f69 rfl hw 0 (by omega) 17 rfl rfl dX9_refine_180 ?_
              refine lv_iload_n hx hb dX9_refine_183 rfl (lv_at hl 5 rfl) ?_
              refine lv_dup2_11 hx hb dX9_refine_184 rfl rfl ?_
              refine wr_ildN hx hb hK hw 17 (by omega) rfl (by decide) x rfl (by omega) dX9_refine_185 ?_
              refine lv_iload hx hb dX9_refine_186 (lv_at hl 2 rfl) ?_
              refine lv_iload hx hb dX9_refine_188 (lv_at hl 1 rfl) ?_
              refine lv_icmp_ne (tgt := 197) hx hb dX9_refine_190 (by decide) (fun q11 => ?_) (fun q11 => ?_)
              · skip
                refine lv_iconst (v := nI 0) hx hb dX9_refine_197 (by decide) ?_
                refine lv_isub hx hb dX9_refine_198 ?_
                refine wr_istN hx hb hK hw 17 (by omega) rfl (by decide) x rfl (by omega) dX9_refine_199 (fun H locs hw => ?_)
                refine lv_iload hx hb dX9_refine_200 (lv_at hl 3 rfl) ?_
                refine lv_iload hx hb dX9_refine_202 (lv_at hl 2 rfl) ?_
                refine lv_icmp_ne (tgt := 249) hx hb dX9_refine_204 (by decide) (fun q12 => ?_) (fun q12 => ?_)
                · skip
                  exact wr_vret hx hb hr hK hw (by show (_, _) = (_, _); unfold F_X9_refine_r3; rw [if_pos q5, if_neg q10, if_neg q11, if_neg q12]) hlocks dX9_refine_249
                · skip
                  refine lv_aload_n hx hb dX9_refine_207 rfl (lv_at hl 4 rfl) ?_
                  refine wr_gr hx hb hown hK hts iX9 (ci := 8) rfl 21 (by decide) f66 rfl hw 0 (by omega) 16 rfl rfl dX9_refine_208 ?_
                  refine lv_iload_n hx hb dX9_refine_211 rfl (lv_at hl 7 rfl) ?_
                  refine lv_dup2_11 hx hb dX9_refine_212 rfl rfl ?_
                  refine wr_ildN hx hb hK hw 16 (by omega) rfl (by decide) y rfl (by omega) dX9_refine_213 ?_
                  refine lv_iload hx hb dX9_refine_214 (lv_at hl 1 rfl) ?_
                  refine lv_iload hx hb dX9_refine_216 (lv_at hl 3 rfl) ?_
                  refine lv_icmp_ne (tgt := 225) hx hb dX9_refine_218 (by decide) (fun q13 => ?_) (fun q13 => ?_)
                  · skip
                    refine lv_iconst (v := nI 0) hx hb dX9_refine_225 (by decide) ?_
                    refine lv_iadd hx hb dX9_refine_226 ?_
                    refine wr_istN hx hb hK hw 16 (by omega) rfl (by decide) y rfl (by omega) dX9_refine_227 (fun H locs hw => ?_)
                    refine lv_aload_n hx hb dX9_refine_228 rfl (lv_at hl 4 rfl) ?_
                    refine wr_gr hx hb hown hK hts iX9 (ci := 8) rfl 22 (by decide) f69 rfl hw 0 (by omega) 17 rfl rfl dX9_refine_229 ?_
                    refine lv_iload_n hx hb dX9_refine_232 rfl (lv_at hl 7 rfl) ?_
                    refine lv_dup2_11 hx hb dX9_refine_233 rfl rfl ?_
                    refine wr_ildN hx hb hK hw 17 (by omega) rfl (by decide) y rfl (by omega) dX9_refine_234 ?_
                    refine lv_iload hx hb dX9_refine_235 (lv_at hl 0 rfl) ?_
                    refine lv_iload hx hb dX9_refine_237 (lv_at hl 3 rfl) ?_
                    refine lv_icmp_ne (tgt := 246) hx hb dX9_refine_239 (by decide) (fun q14 => ?_) (fun q14 => ?_)
                    · skip
                      refine lv_iconst (v := nI 0) hx hb dX9_refine_246 (by decide) ?_
                      refine lv_isub hx hb dX9_refine_247 ?_
                      refine wr_istN hx hb hK hw 17 (by omega) rfl (by decide) y rfl (by omega) dX9_refine_248 (fun H locs hw => ?_)
                      exact wr_vret hx hb hr hK hw (by show (_, _) = (_, _); unfold F_X9_refine_r3; rw [if_pos q5, if_neg q10, if_neg q11, if_pos q12, if_neg q13, if_neg q14]) hlocks dX9_refine_249
                    · skip
                      refine lv_iconst (v := nI 1) hx hb dX9_refine_242 (by decide) ?_
                      refine lv_goto (tgt := 247) hx hb dX9_refine_243 (by decide) ?_
                      refine lv_isub hx hb dX9_refine_247 ?_
                      refine wr_istN hx hb hK hw 17 (by omega) rfl (by decide) y rfl (by omega) dX9_refine_248 (fun H locs hw => ?_)
                      exact wr_vret hx hb hr hK hw (by show (_, _) = (_, _); unfold F_X9_refine_r3; rw [if_pos q5, if_neg q10, if_neg q11, if_pos q12, if_neg q13, if_pos q14]) hlocks dX9_refine_249
                  · skip
                    refine lv_iconst (v := nI 1) hx hb dX9_refine_221 (by decide) ?_
                    refine lv_goto (tgt := 226) hx hb dX9_refine_222 (by decide) ?_
                    refine lv_iadd hx hb dX9_refine_226 ?_
                    refine wr_istN hx hb hK hw 16 (by omega) rfl (by decide) y rfl (by omega) dX9_refine_227 (fun H locs hw => ?_)
                    refine lv_aload_n hx hb dX9_refine_228 rfl (lv_at hl 4 rfl) ?_
                    refine wr_gr hx hb hown hK hts iX9 (ci := 8) rfl 22 (by decide) f69 rfl hw 0 (by omega) 17 rfl rfl dX9_refine_229 ?_
                    refine lv_iload_n hx hb dX9_refine_232 rfl (lv_at hl 7 rfl) ?_
                    refine lv_dup2_11 hx hb dX9_refine_233 rfl rfl ?_
                    refine wr_ildN hx hb hK hw 17 (by omega) rfl (by decide) y rfl (by omega) dX9_refine_234 ?_
                    refine lv_iload hx hb dX9_refine_235 (lv_at hl 0 rfl) ?_
                    refine lv_iload hx hb dX9_refine_237 (lv_at hl 3 rfl) ?_
                    refine lv_icmp_ne (tgt := 246) hx hb dX9_refine_239 (by decide) (fun q15 => ?_) (fun q15 => ?_)
                    · skip
                      refine lv_iconst (v := nI 0) hx hb dX9_refine_246 (by decide) ?_
                      refine lv_isub hx hb dX9_refine_247 ?_
                      refine wr_istN hx hb hK hw 17 (by omega) rfl (by decide) y rfl (by omega) dX9_refine_248 (fun H locs hw => ?_)
                      exact wr_vret hx hb hr hK hw (by show (_, _) = (_, _); unfold F_X9_refine_r3; rw [if_pos q5, if_neg q10, if_neg q11, if_pos q12, if_pos q13, if_neg q15]) hlocks dX9_refine_249
                    · skip
                      refine lv_iconst (v := nI 1) hx hb dX9_refine_242 (by decide) ?_
                      refine lv_goto (tgt := 247) hx hb dX9_refine_243 (by decide) ?_
                      refine lv_isub hx hb dX9_refine_247 ?_
                      refine wr_istN hx hb hK hw 17 (by omega) rfl (by decide) y rfl (by omega) dX9_refine_248 (fun H locs hw => ?_)
                      exact wr_vret hx hb hr hK hw (by show (_, _) = (_, _); unfold F_X9_refine_r3; rw [if_pos q5, if_neg q10, if_neg q11, if_pos q12, if_pos q13, if_pos q15]) hlocks dX9_refine_249
              · skip
                refine lv_iconst (v := nI 1) hx hb dX9_refine_193 (by decide) ?_
                refine lv_goto (tgt := 198) hx hb dX9_refine_194 (by decide) ?_
                refine lv_isub hx hb dX9_refine_198 ?_
                refine wr_istN hx hb hK hw 17 (by omega) rfl (by decide) x rfl (by omega) dX9_refine_199 (fun H locs hw => ?_)
                refine lv_iload hx hb dX9_refine_200 (lv_at hl 3 rfl) ?_
                refine lv_iload hx hb dX9_refine_202 (lv_at hl 2 rfl) ?_
                refine lv_icmp_ne (tgt := 249) hx hb dX9_refine_204 (by decide) (fun q16 => ?_) (fun q16 => ?_)
                · skip
                  exact wr_vret hx hb hr hK hw (by show (_, _) = (_, _); unfold F_X9_refine_r3; rw [if_pos q5, if_neg q10, if_pos q11, if_neg q16]) hlocks dX9_refine_249
                · skip
                  refine lv_aload_n hx hb dX9_refine_207 rfl (lv_at hl 4 rfl) ?_
                  refine wr_gr hx hb hown hK hts iX9 (ci := 8) rfl 21 (by decide) f66 rfl hw 0 (by omega) 16 rfl rfl dX9_refine_208 ?_
                  refine lv_iload_n hx hb dX9_refine_211 rfl (lv_at hl 7 rfl) ?_
                  refine lv_dup2_11 hx hb dX9_refine_212 rfl rfl ?_
                  refine wr_ildN hx hb hK hw 16 (by omega) rfl (by decide) y rfl (by omega) dX9_refine_213 ?_
                  refine lv_iload hx hb dX9_refine_214 (lv_at hl 1 rfl) ?_
                  refine lv_iload hx hb dX9_refine_216 (lv_at hl 3 rfl) ?_
                  refine lv_icmp_ne (tgt := 225) hx hb dX9_refine_218 (by decide) (fun q17 => ?_) (fun q17 => ?_)
                  · skip
                    refine lv_iconst (v := nI 0) hx hb dX9_refine_225 (by decide) ?_
                    refine lv_iadd hx hb dX9_refine_226 ?_
                    refine wr_istN hx hb hK hw 16 (by omega) rfl (by decide) y rfl (by omega) dX9_refine_227 (fun H locs hw => ?_)
                    refine lv_aload_n hx hb dX9_refine_228 rfl (lv_at hl 4 rfl) ?_
                    refine wr_gr hx hb hown hK hts iX9 (ci := 8) rfl 22 (by decide) f69 rfl hw 0 (by omega) 17 rfl rfl dX9_refine_229 ?_
                    refine lv_iload_n hx hb dX9_refine_232 rfl (lv_at hl 7 rfl) ?_
                    refine lv_dup2_11 hx hb dX9_refine_233 rfl rfl ?_
                    refine wr_ildN hx hb hK hw 17 (by omega) rfl (by decide) y rfl (by omega) dX9_refine_234 ?_
                    refine lv_iload hx hb dX9_refine_235 (lv_at hl 0 rfl) ?_
                    refine lv_iload hx hb dX9_refine_237 (lv_at hl 3 rfl) ?_
                    refine lv_icmp_ne (tgt := 246) hx hb dX9_refine_239 (by decide) (fun q18 => ?_) (fun q18 => ?_)
                    · skip
                      refine lv_iconst (v := nI 0) hx hb dX9_refine_246 (by decide) ?_
                      refine lv_isub hx hb dX9_refine_247 ?_
                      refine wr_istN hx hb hK hw 17 (by omega) rfl (by decide) y rfl (by omega) dX9_refine_248 (fun H locs hw => ?_)
                      exact wr_vret hx hb hr hK hw (by show (_, _) = (_, _); unfold F_X9_refine_r3; rw [if_pos q5, if_neg q10, if_pos q11, if_pos q16, if_neg q17, if_neg q18]) hlocks dX9_refine_249
                    · skip
                      refine lv_iconst (v := nI 1) hx hb dX9_refine_242 (by decide) ?_
                      refine lv_goto (tgt := 247) hx hb dX9_refine_243 (by decide) ?_
                      refine lv_isub hx hb dX9_refine_247 ?_
                      refine wr_istN hx hb hK hw 17 (by omega) rfl (by decide) y rfl (by omega) dX9_refine_248 (fun H locs hw => ?_)
                      exact wr_vret hx hb hr hK hw (by show (_, _) = (_, _); unfold F_X9_refine_r3; rw [if_pos q5, if_neg q10, if_pos q11, if_pos q16, if_neg q17, if_pos q18]) hlocks dX9_refine_249
                  · skip
                    refine lv_iconst (v := nI 1) hx hb dX9_refine_221 (by decide) ?_
                    refine lv_goto (tgt := 226) hx hb dX9_refine_222 (by decide) ?_
                    refine lv_iadd hx hb dX9_refine_226 ?_
                    refine wr_istN hx hb hK hw 16 (by omega) rfl (by decide) y rfl (by omega) dX9_refine_227 (fun H locs hw => ?_)
                    refine lv_aload_n hx hb dX9_refine_228 rfl (lv_at hl 4 rfl) ?_
                    refine wr_gr hx hb hown hK hts iX9 (ci := 8) rfl 22 (by decide) f69 rfl hw 0 (by omega) 17 rfl rfl dX9_refine_229 ?_
                    refine lv_iload_n hx hb dX9_refine_232 rfl (lv_at hl 7 rfl) ?_
                    refine lv_dup2_11 hx hb dX9_refine_233 rfl rfl ?_
                    refine wr_ildN hx hb hK hw 17 (by omega) rfl (by decide) y rfl (by omega) dX9_refine_234 ?_
                    refine lv_iload hx hb dX9_refine_235 (lv_at hl 0 rfl) ?_
                    refine lv_iload hx hb dX9_refine_237 (lv_at hl 3 rfl) ?_
                    refine lv_icmp_ne (tgt := 246) hx hb dX9_refine_239 (by decide) (fun q19 => ?_) (fun q19 => ?_)
                    · skip
                      refine lv_iconst (v := nI 0) hx hb dX9_refine_246 (by decide) ?_
                      refine lv_isub hx hb dX9_refine_247 ?_
                      refine wr_istN hx hb hK hw 17 (by omega) rfl (by decide) y rfl (by omega) dX9_refine_248 (fun H locs hw => ?_)
                      exact wr_vret hx hb hr hK hw (by show (_, _) = (_, _); unfold F_X9_refine_r3; rw [if_pos q5, if_neg q10, if_pos q11, if_pos q16, if_pos q17, if_neg q19]) hlocks dX9_refine_249
                    · skip
                      refine lv_iconst (v := nI 1) hx hb dX9_refine_242 (by decide) ?_
                      refine lv_goto (tgt := 247) hx hb dX9_refine_243 (by decide) ?_
                      refine lv_isub hx hb dX9_refine_247 ?_
                      refine wr_istN hx hb hK hw 17 (by omega) rfl (by decide) y rfl (by omega) dX9_refine_248 (fun H locs hw => ?_)
                      exact wr_vret hx hb hr hK hw (by show (_, _) = (_, _); unfold F_X9_refine_r3; rw [if_pos q5, if_neg q10, if_pos q11, if_pos q16, if_pos q17, if_pos q19]) hlocks dX9_refine_249
            · skip
              refine lv_iconst (v := nI 1) hx hb dX9_refine_172 (by decide) ?_
              refine lv_goto (tgt := 177) hx hb dX9_refine_173 (by decide) ?_
              refine lv_iadd hx hb dX9_refine_177 ?_
              refine wr_istN hx hb hK hw 16 (by omega) rfl (by decide) x rfl (by omega) dX9_refine_178 (fun H locs hw => ?_)
              refine lv_aload_n hx hb dX9_refine_179 rfl (lv_at hl 4 rfl) ?_
              refine wr_gr hx hb hown hK hts iX9 (ci := 8) rfl 22 (by decide) f69 rfl hw 0 (by omega) 17 rfl rfl dX9_refine_180 ?_
              refine lv_iload_n hx hb dX9_refine_183 rfl (lv_at hl 5 rfl) ?_
              refine lv_dup2_11 hx hb dX9_refine_184 rfl rfl ?_
              refine wr_ildN hx hb hK hw 17 (by omega) rfl (by decide) x rfl (by omega) dX9_refine_185 ?_
              refine lv_iload hx hb dX9_refine_186 (lv_at hl 2 rfl) ?_
              refine lv_iload hx hb dX9_refine_188 (lv_at hl 1 rfl) ?_
              refine lv_icmp_ne (tgt := 197) hx hb dX9_refine_190 (by decide) (fun q20 => ?_) (fun q20 => ?_)
              · skip
                refine lv_iconst (v := nI 0) hx hb dX9_refine_197 (by decide) ?_
                refine lv_isub hx hb dX9_refine_198 ?_
                refine wr_istN hx hb hK hw 17 (by omega) rfl (by decide) x rfl (by omega) dX9_refine_199 (fun H locs hw => ?_)
                refine lv_iload hx hb dX9_refine_200 (lv_at hl 3 rfl) ?_
                refine lv_iload hx hb dX9_refine_202 (lv_at hl 2 rfl) ?_
                refine lv_icmp_ne (tgt := 249) hx hb dX9_refine_204 (by decide) (fun q21 => ?_) (fun q21 => ?_)
                · skip
                  exact wr_vret hx hb hr hK hw (by show (_, _) = (_, _); unfold F_X9_refine_r3; rw [if_pos q5, if_pos q10, if_neg q20, if_neg q21]) hlocks dX9_refine_249
                · skip
                  refine lv_aload_n hx hb dX9_refine_207 rfl (lv_at hl 4 rfl) ?_
                  refine wr_gr hx hb hown hK hts iX9 (ci := 8) rfl 21 (by decide) f66 rfl hw 0 (by omega) 16 rfl rfl dX9_refine_208 ?_
                  refine lv_iload_n hx hb dX9_refine_211 rfl (lv_at hl 7 rfl) ?_
                  refine lv_dup2_11 hx hb dX9_refine_212 rfl rfl ?_
                  refine wr_ildN hx hb hK hw 16 (by omega) rfl (by decide) y rfl (by omega) dX9_refine_213 ?_
                  refine lv_iload hx hb dX9_refine_214 (lv_at hl 1 rfl) ?_
                  refine lv_iload hx hb dX9_refine_216 (lv_at hl 3 rfl) ?_
                  refine lv_icmp_ne (tgt := 225) hx hb dX9_refine_218 (by decide) (fun q22 => ?_) (fun q22 => ?_)
                  · skip
                    refine lv_iconst (v := nI 0) hx hb dX9_refine_225 (by decide) ?_
                    refine lv_iadd hx hb dX9_refine_226 ?_
                    refine wr_istN hx hb hK hw 16 (by omega) rfl (by decide) y rfl (by omega) dX9_refine_227 (fun H locs hw => ?_)
                    refine lv_aload_n hx hb dX9_refine_228 rfl (lv_at hl 4 rfl) ?_
                    refine wr_gr hx hb hown hK hts iX9 (ci := 8) rfl 22 (by decide) f69 rfl hw 0 (by omega) 17 rfl rfl dX9_refine_229 ?_
                    refine lv_iload_n hx hb dX9_refine_232 rfl (lv_at hl 7 rfl) ?_
                    refine lv_dup2_11 hx hb dX9_refine_233 rfl rfl ?_
                    refine wr_ildN hx hb hK hw 17 (by omega) rfl (by decide) y rfl (by omega) dX9_refine_234 ?_
                    refine lv_iload hx hb dX9_refine_235 (lv_at hl 0 rfl) ?_
                    refine lv_iload hx hb dX9_refine_237 (lv_at hl 3 rfl) ?_
                    refine lv_icmp_ne (tgt := 246) hx hb dX9_refine_239 (by decide) (fun q23 => ?_) (fun q23 => ?_)
                    · skip
                      refine lv_iconst (v := nI 0) hx hb dX9_refine_246 (by decide) ?_
                      refine lv_isub hx hb dX9_refine_247 ?_
                      refine wr_istN hx hb hK hw 17 (by omega) rfl (by decide) y rfl (by omega) dX9_refine_248 (fun H locs hw => ?_)
                      exact wr_vret hx hb hr hK hw (by show (_, _) = (_, _); unfold F_X9_refine_r3; rw [if_pos q5, if_pos q10, if_neg q20, if_pos q21, if_neg q22, if_neg q23]) hlocks dX9_refine_249
                    · skip
                      refine lv_iconst (v := nI 1) hx hb dX9_refine_242 (by decide) ?_
                      refine lv_goto (tgt := 247) hx hb dX9_refine_243 (by decide) ?_
                      refine lv_isub hx hb dX9_refine_247 ?_
                      refine wr_istN hx hb hK hw 17 (by omega) rfl (by decide) y rfl (by omega) dX9_refine_248 (fun H locs hw => ?_)
                      exact wr_vret hx hb hr hK hw (by show (_, _) = (_, _); unfold F_X9_refine_r3; rw [if_pos q5, if_pos q10, if_neg q20, if_pos q21, if_neg q22, if_pos q23]) hlocks dX9_refine_249
                  · skip
                    refine lv_iconst (v := nI 1) hx hb dX9_refine_221 (by decide) ?_
                    refine lv_goto (tgt := 226) hx hb dX9_refine_222 (by decide) ?_
                    refine lv_iadd hx hb dX9_refine_226 ?_
                    refine wr_istN hx hb hK hw 16 (by omega) rfl (by decide) y rfl (by omega) dX9_refine_227 (fun H locs hw => ?_)
                    refine lv_aload_n hx hb dX9_refine_228 rfl (lv_at hl 4 rfl) ?_
                    refine wr_gr hx hb hown hK hts iX9 (ci := 8) rfl 22 (by decide) f69 rfl hw 0 (by omega) 17 rfl rfl dX9_refine_229 ?_
                    refine lv_iload_n hx hb dX9_refine_232 rfl (lv_at hl 7 rfl) ?_
                    refine lv_dup2_11 hx hb dX9_refine_233 rfl rfl ?_
                    refine wr_ildN hx hb hK hw 17 (by omega) rfl (by decide) y rfl (by omega) dX9_refine_234 ?_
                    refine lv_iload hx hb dX9_refine_235 (lv_at hl 0 rfl) ?_
                    refine lv_iload hx hb dX9_refine_237 (lv_at hl 3 rfl) ?_
                    refine lv_icmp_ne (tgt := 246) hx hb dX9_refine_239 (by decide) (fun q24 => ?_) (fun q24 => ?_)
                    · skip
                      refine lv_iconst (v := nI 0) hx hb dX9_refine_246 (by decide) ?_
                      refine lv_isub hx hb dX9_refine_247 ?_
                      refine wr_istN hx hb hK hw 17 (by omega) rfl (by decide) y rfl (by omega) dX9_refine_248 (fun H locs hw => ?_)
                      exact wr_vret hx hb hr hK hw (by show (_, _) = (_, _); unfold F_X9_refine_r3; rw [if_pos q5, if_pos q10, if_neg q20, if_pos q21, if_pos q22, if_neg q24]) hlocks dX9_refine_249
                    · skip
                      refine lv_iconst (v := nI 1) hx hb dX9_refine_242 (by decide) ?_
                      refine lv_goto (tgt := 247) hx hb dX9_refine_243 (by decide) ?_
                      refine lv_isub hx hb dX9_refine_247 ?_
                      refine wr_istN hx hb hK hw 17 (by omega) rfl (by decide) y rfl (by omega) dX9_refine_248 (fun H locs hw => ?_)
                      exact wr_vret hx hb hr hK hw (by show (_, _) = (_, _); unfold F_X9_refine_r3; rw [if_pos q5, if_pos q10, if_neg q20, if_pos q21, if_pos q22, if_pos q24]) hlocks dX9_refine_249
              · skip
                refine lv_iconst (v := nI 1) hx hb dX9_refine_193 (by decide) ?_
                refine lv_goto (tgt := 198) hx hb dX9_refine_194 (by decide) ?_
                refine lv_isub hx hb dX9_refine_198 ?_
                refine wr_istN hx hb hK hw 17 (by omega) rfl (by decide) x rfl (by omega) dX9_refine_199 (fun H locs hw => ?_)
                refine lv_iload hx hb dX9_refine_200 (lv_at hl 3 rfl) ?_
                refine lv_iload hx hb dX9_refine_202 (lv_at hl 2 rfl) ?_
                refine lv_icmp_ne (tgt := 249) hx hb dX9_refine_204 (by decide) (fun q25 => ?_) (fun q25 => ?_)
                · skip
                  exact wr_vret hx hb hr hK hw (by show (_, _) = (_, _); unfold F_X9_refine_r3; rw [if_pos q5, if_pos q10, if_pos q20, if_neg q25]) hlocks dX9_refine_249
                · skip
                  refine lv_aload_n hx hb dX9_refine_207 rfl (lv_at hl 4 rfl) ?_
                  refine wr_gr hx hb hown hK hts iX9 (ci := 8) rfl 21 (by decide) f66 rfl hw 0 (by omega) 16 rfl rfl dX9_refine_208 ?_
                  refine lv_iload_n hx hb dX9_refine_211 rfl (lv_at hl 7 rfl) ?_
                  refine lv_dup2_11 hx hb dX9_refine_212 rfl rfl ?_
                  refine wr_ildN hx hb hK hw 16 (by omega) rfl (by decide) y rfl (by omega) dX9_refine_213 ?_
                  refine lv_iload hx hb dX9_refine_214 (lv_at hl 1 rfl) ?_
                  refine lv_iload hx hb dX9_refine_216 (lv_at hl 3 rfl) ?_
                  refine lv_icmp_ne (tgt := 225) hx hb dX9_refine_218 (by decide) (fun q26 => ?_) (fun q26 => ?_)
                  · skip
                    refine lv_iconst (v := nI 0) hx hb dX9_refine_225 (by decide) ?_
                    refine lv_iadd hx hb dX9_refine_226 ?_
                    refine wr_istN hx hb hK hw 16 (by omega) rfl (by decide) y rfl (by omega) dX9_refine_227 (fun H locs hw => ?_)
                    refine lv_aload_n hx hb dX9_refine_228 rfl (lv_at hl 4 rfl) ?_
                    refine wr_gr hx hb hown hK hts iX9 (ci := 8) rfl 22 (by decide) f69 rfl hw 0 (by omega) 17 rfl rfl dX9_refine_229 ?_
                    refine lv_iload_n hx hb dX9_refine_232 rfl (lv_at hl 7 rfl) ?_
                    refine lv_dup2_11 hx hb dX9_refine_233 rfl rfl ?_
                    refine wr_ildN hx hb hK hw 17 (by omega) rfl (by decide) y rfl (by omega) dX9_refine_234 ?_
                    refine lv_iload hx hb dX9_refine_235 (lv_at hl 0 rfl) ?_
                    refine lv_iload hx hb dX9_refine_237 (lv_at hl 3 rfl) ?_
                    refine lv_icmp_ne (tgt := 246) hx hb dX9_refine_239 (by decide) (fun q27 => ?_) (fun q27 => ?_)
                    · skip
                      refine lv_iconst (v := nI 0) hx hb dX9_refine_246 (by decide) ?_
                      refine lv_isub hx hb dX9_refine_247 ?_
                      refine wr_istN hx hb hK hw 17 (by omega) rfl (by decide) y rfl (by omega) dX9_refine_248 (fun H locs hw => ?_)
                      exact wr_vret hx hb hr hK hw (by show (_, _) = (_, _); unfold F_X9_refine_r3; rw [if_pos q5, if_pos q10, if_pos q20, if_pos q25, if_neg q26, if_neg q27]) hlocks dX9_refine_249
                    · skip
                      refine lv_iconst (v := nI 1) hx hb dX9_refine_242 (by decide) ?_
                      refine lv_goto (tgt := 247) hx hb dX9_refine_243 (by decide) ?_
                      refine lv_isub hx hb dX9_refine_247 ?_
                      refine wr_istN hx hb hK hw 17 (by omega) rfl (by decide) y rfl (by omega) dX9_refine_248 (fun H locs hw => ?_)
                      exact wr_vret hx hb hr hK hw (by show (_, _) = (_, _); unfold F_X9_refine_r3; rw [if_pos q5, if_pos q10, if_pos q20, if_pos q25, if_neg q26, if_pos q27]) hlocks dX9_refine_249
                  · skip
                    refine lv_iconst (v := nI 1) hx hb dX9_refine_221 (by decide) ?_
                    refine lv_goto (tgt := 226) hx hb dX9_refine_222 (by decide) ?_
                    refine lv_iadd hx hb dX9_refine_226 ?_
                    refine wr_istN hx hb hK hw 16 (by omega) rfl (by decide) y rfl (by omega) dX9_refine_227 (fun H locs hw => ?_)
                    refine lv_aload_n hx hb dX9_refine_228 rfl (lv_at hl 4 rfl) ?_
                    refine wr_gr hx hb hown hK hts iX9 (ci := 8) rfl 22 (by decide) f69 rfl hw 0 (by omega) 17 rfl rfl dX9_refine_229 ?_
                    refine lv_iload_n hx hb dX9_refine_232 rfl (lv_at hl 7 rfl) ?_
                    refine lv_dup2_11 hx hb dX9_refine_233 rfl rfl ?_
                    refine wr_ildN hx hb hK hw 17 (by omega) rfl (by decide) y rfl (by omega) dX9_refine_234 ?_
                    refine lv_iload hx hb dX9_refine_235 (lv_at hl 0 rfl) ?_
                    refine lv_iload hx hb dX9_refine_237 (lv_at hl 3 rfl) ?_
                    refine lv_icmp_ne (tgt := 246) hx hb dX9_refine_239 (by decide) (fun q28 => ?_) (fun q28 => ?_)
                    · skip
                      refine lv_iconst (v := nI 0) hx hb dX9_refine_246 (by decide) ?_
                      refine lv_isub hx hb dX9_refine_247 ?_
                      refine wr_istN hx hb hK hw 17 (by omega) rfl (by decide) y rfl (by omega) dX9_refine_248 (fun H locs hw => ?_)
                      exact wr_vret hx hb hr hK hw (by show (_, _) = (_, _); unfold F_X9_refine_r3; rw [if_pos q5, if_pos q10, if_pos q20, if_pos q25, if_pos q26, if_neg q28]) hlocks dX9_refine_249
                    · skip
                      refine lv_iconst (v := nI 1) hx hb dX9_refine_242 (by decide) ?_
                      refine lv_goto (tgt := 247) hx hb dX9_refine_243 (by decide) ?_
                      refine lv_isub hx hb dX9_refine_247 ?_
                      refine wr_istN hx hb hK hw 17 (by omega) rfl (by decide) y rfl (by omega) dX9_refine_248 (fun H locs hw => ?_)
                      exact wr_vret hx hb hr hK hw (by show (_, _) = (_, _); unfold F_X9_refine_r3; rw [if_pos q5, if_pos q10, if_pos q20, if_pos q25, if_pos q26, if_pos q28]) hlocks dX9_refine_249
        · have q4n : ¬ 3 = 3 := fun z => q4 ((nI_eq (by omega) (by omega)).mpr z)
          exact absurd q4 (by decide)
      · have q3n : ¬ 3 ≤ 3 := fun z => q3 ((nI_leI (by omega) (by omega)).mpr z)
        exact absurd q3 (by decide)
  · have q1n : ¬ 3 ≤ 3 := fun z => q1 ((nI_leI (by omega) (by omega)).mpr z)
    exact absurd q1 (by decide)
def F_X9_refine_r4 (M : wM) (x : Nat) (y : Nat) : wM := (wU (wU M 16 x ((i_mx (M 16 x) (M 16 y)))) 17 y ((i_mn (M 17 y) (M 17 x))))
set_option maxHeartbeats 4000000 in
set_option maxRecDepth 100000 in
theorem k_X9_refine_r4 (l : Launch) (D : va_G) (ad : Nat → Nat) (cs : Nat → ClassId) (sz : Nat) (M : wM) (J : wJ) (x : Nat) (y : Nat) (hx6 : x < 6) (hy6 : y < 6) : wCv l yX9_refine wsX9_refine { frames := 1, cells := 0, slots := 0, locals := 31 } D 23 mSh ad cs [.ref (ad 0), .int (nI x), .int (nI 4), .int (nI y)] sz M J (fun u_ => u_ = (F_X9_refine_r4 M x y, J)) := by
  refine wC_v (cc := cX9_refine) (maxL := 8) (ret := none) (by decide) rfl (Nat.le_of_ble_eq_true rfl) ?_
  intro p e s m below meth c ls A hx hb hr hml hown hts hlocks hK hA hw hl hAe
  clear hAe
  have hl : lv_has ls 8 [(0, .ref (ad 0)), (1, .int (nI x)), (2, .int (nI 4)), (3, .int (nI y))] := hl
  have f66 : (Cond.fieldLink RX9 66 "RangePropagatorModel" "low" "[I").before _ s = true := hts _ (by decide +kernel)
  have iX9 : ∀ w ∈ wsX90, w ∈ wsX9_refine := by decide +kernel
  have f69 : (Cond.fieldLink RX9 69 "RangePropagatorModel" "high" "[I").before _ s = true := hts _ (by decide +kernel)
  have m150 : (Cond.methodLink RX9 150 Lib.Math.max.name).before _ s = true := hts _ (by decide +kernel)
  have t150 : (Cond.static Lib.Math.max.name).before _ s = true := hts _ (by decide +kernel)
  have iMath : (Cond.initialized "java/lang/Math").before _ s = true := hts _ (by decide +kernel)
  have c150 : (Cond.code Lib.Math.max.name Lib.Math.max.code 2 (some .int)).before _ s = true := hts _ (by decide +kernel)
  have m147 : (Cond.methodLink RX9 147 Lib.Math.min.name).before _ s = true := hts _ (by decide +kernel)
  have t147 : (Cond.static Lib.Math.min.name).before _ s = true := hts _ (by decide +kernel)
  have c147 : (Cond.code Lib.Math.min.name Lib.Math.min.code 2 (some .int)).before _ s = true := hts _ (by decide +kernel)
  refine lv_aload_n hx hb dX9_refine_0 rfl (lv_at hl 0 rfl) ?_
  refine wr_gr hx hb hown hK hts iX9 (ci := 8) rfl 21 (by decide) f66 rfl hw 0 (by omega) 16 rfl rfl dX9_refine_1 ?_
  refine lv_iload_n hx hb dX9_refine_4 rfl (lv_at hl 1 rfl) ?_
  refine wr_ildN hx hb hK hw 16 (by omega) rfl (by decide) x rfl (by omega) dX9_refine_5 ?_
  refine lv_istore (lv' := [(4, .int (M 16 x)), (0, .ref (ad 0)), (1, .int (nI x)), (2, .int (nI 4)), (3, .int (nI y))]) hx hb dX9_refine_6 hl (by decide) rfl (fun ls hl => ?_)
  refine lv_aload_n hx hb dX9_refine_8 rfl (lv_at hl 1 rfl) ?_
  refine wr_gr hx hb hown hK hts iX9 (ci := 8) rfl 22 (by decide) f69 rfl hw 0 (by omega) 17 rfl rfl dX9_refine_9 ?_
  refine lv_iload_n hx hb dX9_refine_12 rfl (lv_at hl 2 rfl) ?_
  refine wr_ildN hx hb hK hw 17 (by omega) rfl (by decide) x rfl (by omega) dX9_refine_13 ?_
  refine lv_istore (lv' := [(5, .int (M 17 x)), (4, .int (M 16 x)), (0, .ref (ad 0)), (1, .int (nI x)), (2, .int (nI 4)), (3, .int (nI y))]) hx hb dX9_refine_14 hl (by decide) rfl (fun ls hl => ?_)
  refine lv_aload_n hx hb dX9_refine_16 rfl (lv_at hl 2 rfl) ?_
  refine wr_gr hx hb hown hK hts iX9 (ci := 8) rfl 21 (by decide) f66 rfl hw 0 (by omega) 16 rfl rfl dX9_refine_17 ?_
  refine lv_iload_n hx hb dX9_refine_20 rfl (lv_at hl 5 rfl) ?_
  refine wr_ildN hx hb hK hw 16 (by omega) rfl (by decide) y rfl (by omega) dX9_refine_21 ?_
  refine lv_istore (lv' := [(6, .int (M 16 y)), (5, .int (M 17 x)), (4, .int (M 16 x)), (0, .ref (ad 0)), (1, .int (nI x)), (2, .int (nI 4)), (3, .int (nI y))]) hx hb dX9_refine_22 hl (by decide) rfl (fun ls hl => ?_)
  refine lv_aload_n hx hb dX9_refine_24 rfl (lv_at hl 3 rfl) ?_
  refine wr_gr hx hb hown hK hts iX9 (ci := 8) rfl 22 (by decide) f69 rfl hw 0 (by omega) 17 rfl rfl dX9_refine_25 ?_
  refine lv_iload_n hx hb dX9_refine_28 rfl (lv_at hl 6 rfl) ?_
  refine wr_ildN hx hb hK hw 17 (by omega) rfl (by decide) y rfl (by omega) dX9_refine_29 ?_
  refine lv_istore (lv' := [(7, .int (M 17 y)), (6, .int (M 16 y)), (5, .int (M 17 x)), (4, .int (M 16 x)), (0, .ref (ad 0)), (1, .int (nI x)), (2, .int (nI 4)), (3, .int (nI y))]) hx hb dX9_refine_30 hl (by decide) rfl (fun ls hl => ?_)
  refine lv_iload_n hx hb dX9_refine_32 rfl (lv_at hl 6 rfl) ?_
  refine lv_iconst (v := nI 3) hx hb dX9_refine_33 (by decide) ?_
  refine lv_icmp_ge (tgt := 85) hx hb dX9_refine_34 (by decide) (fun q1 => ?_) (fun q1 => ?_)
  · have q1n : 3 ≤ 4 := (nI_leI (by omega) (by omega)).mp q1
    refine lv_iload_n hx hb dX9_refine_85 rfl (lv_at hl 6 rfl) ?_
    refine lv_iconst (v := nI 2) hx hb dX9_refine_86 (by decide) ?_
    refine lv_icmp_eq (tgt := 95) hx hb dX9_refine_87 (by decide) (fun q2 => ?_) (fun q2 => ?_)
    · have q2n : 4 = 2 := (nI_eq (by omega) (by omega)).mp q2
      exact absurd q2 (by decide)
    · have q2n : ¬ 4 = 2 := fun z => q2 ((nI_eq (by omega) (by omega)).mpr z)
      refine lv_iload_n hx hb dX9_refine_90 rfl (lv_at hl 6 rfl) ?_
      refine lv_iconst (v := nI 3) hx hb dX9_refine_91 (by decide) ?_
      refine lv_icmp_le (tgt := 145) hx hb dX9_refine_92 (by decide) (fun q3 => ?_) (fun q3 => ?_)
      · have q3n : 4 ≤ 3 := (nI_leI (by omega) (by omega)).mp q3
        exact absurd q3 (by decide)
      · have q3n : ¬ 4 ≤ 3 := fun z => q3 ((nI_leI (by omega) (by omega)).mpr z)
        refine lv_aload_n hx hb dX9_refine_95 rfl (lv_at hl 4 rfl) ?_
        refine wr_gr hx hb hown hK hts iX9 (ci := 8) rfl 21 (by decide) f66 rfl hw 0 (by omega) 16 rfl rfl dX9_refine_96 ?_
        refine lv_iload_n hx hb dX9_refine_99 rfl (lv_at hl 5 rfl) ?_
        refine lv_iload hx hb dX9_refine_100 (lv_at hl 3 rfl) ?_
        refine lv_iload_n hx hb dX9_refine_102 rfl (lv_at hl 6 rfl) ?_
        refine lv_iconst (v := nI 5) hx hb dX9_refine_103 (by decide) ?_
        refine lv_icmp_ne (tgt := 114) hx hb dX9_refine_104 (by decide) (fun q4 => ?_) (fun q4 => ?_)
        · have q4n : ¬ 4 = 5 := fun z => q4 ((nI_eq (by omega) (by omega)).mpr z)
          refine lv_iload hx hb dX9_refine_114 (lv_at hl 1 rfl) ?_
          refine va_mmax hx hb (hml.trans hl.1.symm) hown m150 t150 iMath c150 (Nat.le_of_ble_eq_true rfl) (Nat.le_of_ble_eq_true rfl) (Nat.le_of_ble_eq_true rfl) (Nat.le_of_ble_eq_true rfl) dX9_refine_116 ?_
          refine W.eq (g2 := F0 m 119 ls [.int ((i_mx (M 16 x) (M 16 y))), .int (nI x), .ref (ad 16)]) rfl ?_
          refine wr_istN hx hb hK hw 16 (by omega) rfl (by decide) x rfl (by omega) dX9_refine_119 (fun H locs hw => ?_)
          refine lv_aload_n hx hb dX9_refine_120 rfl (lv_at hl 4 rfl) ?_
          refine wr_gr hx hb hown hK hts iX9 (ci := 8) rfl 22 (by decide) f69 rfl hw 0 (by omega) 17 rfl rfl dX9_refine_121 ?_
          refine lv_iload_n hx hb dX9_refine_124 rfl (lv_at hl 7 rfl) ?_
          refine lv_iload hx hb dX9_refine_125 (lv_at hl 0 rfl) ?_
          refine lv_iload_n hx hb dX9_refine_127 rfl (lv_at hl 6 rfl) ?_
          refine lv_iconst (v := nI 5) hx hb dX9_refine_128 (by decide) ?_
          refine lv_icmp_ne (tgt := 139) hx hb dX9_refine_129 (by decide) (fun q5 => ?_) (fun q5 => ?_)
          · have q5n : ¬ 4 = 5 := fun z => q5 ((nI_eq (by omega) (by omega)).mpr z)
            refine lv_iload hx hb dX9_refine_139 (lv_at hl 2 rfl) ?_
            refine va_mmin hx hb (hml.trans hl.1.symm) hown m147 t147 iMath c147 (Nat.le_of_ble_eq_true rfl) (Nat.le_of_ble_eq_true rfl) (Nat.le_of_ble_eq_true rfl) (Nat.le_of_ble_eq_true rfl) dX9_refine_141 ?_
            refine W.eq (g2 := F0 m 144 ls [.int ((i_mn (M 17 y) (M 17 x))), .int (nI y), .ref (ad 17)]) rfl ?_
            refine wr_istN hx hb hK hw 17 (by omega) rfl (by decide) y rfl (by omega) dX9_refine_144 (fun H locs hw => ?_)
            refine lv_iload_n hx hb dX9_refine_145 rfl (lv_at hl 6 rfl) ?_
            refine lv_iconst (v := nI 3) hx hb dX9_refine_146 (by decide) ?_
            refine lv_icmp_eq (tgt := 151) hx hb dX9_refine_147 (by decide) (fun q6 => ?_) (fun q6 => ?_)
            · have q6n : 4 = 3 := (nI_eq (by omega) (by omega)).mp q6
              exact absurd q6 (by decide)
            · have q6n : ¬ 4 = 3 := fun z => q6 ((nI_eq (by omega) (by omega)).mpr z)
              exact wr_vret hx hb hr hK hw (by show (_, _) = (_, _); unfold F_X9_refine_r4; rfl) hlocks dX9_refine_150
          · have q5n : 4 = 5 := (nI_eq (by omega) (by omega)).mp q5
            exact absurd q5 (by decide)
        · have q4n : 4 = 5 := (nI_eq (by omega) (by omega)).mp q4
          exact absurd q4 (by decide)
  · have q1n : ¬ 3 ≤ 4 := fun z => q1 ((nI_leI (by omega) (by omega)).mpr z)
    exact absurd q1 (by decide)
def F_X9_refine_r5 (M : wM) (x : Nat) (y : Nat) : wM := (wU (wU M 16 x ((i_mx (M 16 x) (((M 16 y) + (nI 1)))))) 17 y ((i_mn (M 17 y) (((M 17 x) - (nI 1))))))
set_option maxHeartbeats 4000000 in
set_option maxRecDepth 100000 in
theorem k_X9_refine_r5 (l : Launch) (D : va_G) (ad : Nat → Nat) (cs : Nat → ClassId) (sz : Nat) (M : wM) (J : wJ) (x : Nat) (y : Nat) (hx6 : x < 6) (hy6 : y < 6) : wCv l yX9_refine wsX9_refine { frames := 1, cells := 0, slots := 0, locals := 31 } D 23 mSh ad cs [.ref (ad 0), .int (nI x), .int (nI 5), .int (nI y)] sz M J (fun u_ => u_ = (F_X9_refine_r5 M x y, J)) := by
  refine wC_v (cc := cX9_refine) (maxL := 8) (ret := none) (by decide) rfl (Nat.le_of_ble_eq_true rfl) ?_
  intro p e s m below meth c ls A hx hb hr hml hown hts hlocks hK hA hw hl hAe
  clear hAe
  have hl : lv_has ls 8 [(0, .ref (ad 0)), (1, .int (nI x)), (2, .int (nI 5)), (3, .int (nI y))] := hl
  have f66 : (Cond.fieldLink RX9 66 "RangePropagatorModel" "low" "[I").before _ s = true := hts _ (by decide +kernel)
  have iX9 : ∀ w ∈ wsX90, w ∈ wsX9_refine := by decide +kernel
  have f69 : (Cond.fieldLink RX9 69 "RangePropagatorModel" "high" "[I").before _ s = true := hts _ (by decide +kernel)
  have m150 : (Cond.methodLink RX9 150 Lib.Math.max.name).before _ s = true := hts _ (by decide +kernel)
  have t150 : (Cond.static Lib.Math.max.name).before _ s = true := hts _ (by decide +kernel)
  have iMath : (Cond.initialized "java/lang/Math").before _ s = true := hts _ (by decide +kernel)
  have c150 : (Cond.code Lib.Math.max.name Lib.Math.max.code 2 (some .int)).before _ s = true := hts _ (by decide +kernel)
  have m147 : (Cond.methodLink RX9 147 Lib.Math.min.name).before _ s = true := hts _ (by decide +kernel)
  have t147 : (Cond.static Lib.Math.min.name).before _ s = true := hts _ (by decide +kernel)
  have c147 : (Cond.code Lib.Math.min.name Lib.Math.min.code 2 (some .int)).before _ s = true := hts _ (by decide +kernel)
  refine lv_aload_n hx hb dX9_refine_0 rfl (lv_at hl 0 rfl) ?_
  refine wr_gr hx hb hown hK hts iX9 (ci := 8) rfl 21 (by decide) f66 rfl hw 0 (by omega) 16 rfl rfl dX9_refine_1 ?_
  refine lv_iload_n hx hb dX9_refine_4 rfl (lv_at hl 1 rfl) ?_
  refine wr_ildN hx hb hK hw 16 (by omega) rfl (by decide) x rfl (by omega) dX9_refine_5 ?_
  refine lv_istore (lv' := [(4, .int (M 16 x)), (0, .ref (ad 0)), (1, .int (nI x)), (2, .int (nI 5)), (3, .int (nI y))]) hx hb dX9_refine_6 hl (by decide) rfl (fun ls hl => ?_)
  refine lv_aload_n hx hb dX9_refine_8 rfl (lv_at hl 1 rfl) ?_
  refine wr_gr hx hb hown hK hts iX9 (ci := 8) rfl 22 (by decide) f69 rfl hw 0 (by omega) 17 rfl rfl dX9_refine_9 ?_
  refine lv_iload_n hx hb dX9_refine_12 rfl (lv_at hl 2 rfl) ?_
  refine wr_ildN hx hb hK hw 17 (by omega) rfl (by decide) x rfl (by omega) dX9_refine_13 ?_
  refine lv_istore (lv' := [(5, .int (M 17 x)), (4, .int (M 16 x)), (0, .ref (ad 0)), (1, .int (nI x)), (2, .int (nI 5)), (3, .int (nI y))]) hx hb dX9_refine_14 hl (by decide) rfl (fun ls hl => ?_)
  refine lv_aload_n hx hb dX9_refine_16 rfl (lv_at hl 2 rfl) ?_
  refine wr_gr hx hb hown hK hts iX9 (ci := 8) rfl 21 (by decide) f66 rfl hw 0 (by omega) 16 rfl rfl dX9_refine_17 ?_
  refine lv_iload_n hx hb dX9_refine_20 rfl (lv_at hl 5 rfl) ?_
  refine wr_ildN hx hb hK hw 16 (by omega) rfl (by decide) y rfl (by omega) dX9_refine_21 ?_
  refine lv_istore (lv' := [(6, .int (M 16 y)), (5, .int (M 17 x)), (4, .int (M 16 x)), (0, .ref (ad 0)), (1, .int (nI x)), (2, .int (nI 5)), (3, .int (nI y))]) hx hb dX9_refine_22 hl (by decide) rfl (fun ls hl => ?_)
  refine lv_aload_n hx hb dX9_refine_24 rfl (lv_at hl 3 rfl) ?_
  refine wr_gr hx hb hown hK hts iX9 (ci := 8) rfl 22 (by decide) f69 rfl hw 0 (by omega) 17 rfl rfl dX9_refine_25 ?_
  refine lv_iload_n hx hb dX9_refine_28 rfl (lv_at hl 6 rfl) ?_
  refine wr_ildN hx hb hK hw 17 (by omega) rfl (by decide) y rfl (by omega) dX9_refine_29 ?_
  refine lv_istore (lv' := [(7, .int (M 17 y)), (6, .int (M 16 y)), (5, .int (M 17 x)), (4, .int (M 16 x)), (0, .ref (ad 0)), (1, .int (nI x)), (2, .int (nI 5)), (3, .int (nI y))]) hx hb dX9_refine_30 hl (by decide) rfl (fun ls hl => ?_)
  refine lv_iload_n hx hb dX9_refine_32 rfl (lv_at hl 6 rfl) ?_
  refine lv_iconst (v := nI 3) hx hb dX9_refine_33 (by decide) ?_
  refine lv_icmp_ge (tgt := 85) hx hb dX9_refine_34 (by decide) (fun q1 => ?_) (fun q1 => ?_)
  · have q1n : 3 ≤ 5 := (nI_leI (by omega) (by omega)).mp q1
    refine lv_iload_n hx hb dX9_refine_85 rfl (lv_at hl 6 rfl) ?_
    refine lv_iconst (v := nI 2) hx hb dX9_refine_86 (by decide) ?_
    refine lv_icmp_eq (tgt := 95) hx hb dX9_refine_87 (by decide) (fun q2 => ?_) (fun q2 => ?_)
    · have q2n : 5 = 2 := (nI_eq (by omega) (by omega)).mp q2
      exact absurd q2 (by decide)
    · have q2n : ¬ 5 = 2 := fun z => q2 ((nI_eq (by omega) (by omega)).mpr z)
      refine lv_iload_n hx hb dX9_refine_90 rfl (lv_at hl 6 rfl) ?_
      refine lv_iconst (v := nI 3) hx hb dX9_refine_91 (by decide) ?_
      refine lv_icmp_le (tgt := 145) hx hb dX9_refine_92 (by decide) (fun q3 => ?_) (fun q3 => ?_)
      · have q3n : 5 ≤ 3 := (nI_leI (by omega) (by omega)).mp q3
        exact absurd q3 (by decide)
      · have q3n : ¬ 5 ≤ 3 := fun z => q3 ((nI_leI (by omega) (by omega)).mpr z)
        refine lv_aload_n hx hb dX9_refine_95 rfl (lv_at hl 4 rfl) ?_
        refine wr_gr hx hb hown hK hts iX9 (ci := 8) rfl 21 (by decide) f66 rfl hw 0 (by omega) 16 rfl rfl dX9_refine_96 ?_
        refine lv_iload_n hx hb dX9_refine_99 rfl (lv_at hl 5 rfl) ?_
        refine lv_iload hx hb dX9_refine_100 (lv_at hl 3 rfl) ?_
        refine lv_iload_n hx hb dX9_refine_102 rfl (lv_at hl 6 rfl) ?_
        refine lv_iconst (v := nI 5) hx hb dX9_refine_103 (by decide) ?_
        refine lv_icmp_ne (tgt := 114) hx hb dX9_refine_104 (by decide) (fun q4 => ?_) (fun q4 => ?_)
        · have q4n : ¬ 5 = 5 := fun z => q4 ((nI_eq (by omega) (by omega)).mpr z)
          exact absurd q4 (by decide)
        · have q4n : 5 = 5 := (nI_eq (by omega) (by omega)).mp q4
          refine lv_iload hx hb dX9_refine_107 (lv_at hl 1 rfl) ?_
          refine lv_iconst (v := nI 1) hx hb dX9_refine_109 (by decide) ?_
          refine lv_iadd hx hb dX9_refine_110 ?_
          refine lv_goto (tgt := 116) hx hb dX9_refine_111 (by decide) ?_
          refine va_mmax hx hb (hml.trans hl.1.symm) hown m150 t150 iMath c150 (Nat.le_of_ble_eq_true rfl) (Nat.le_of_ble_eq_true rfl) (Nat.le_of_ble_eq_true rfl) (Nat.le_of_ble_eq_true rfl) dX9_refine_116 ?_
          refine W.eq (g2 := F0 m 119 ls [.int ((i_mx (M 16 x) (((M 16 y) + (nI 1))))), .int (nI x), .ref (ad 16)]) rfl ?_
          refine wr_istN hx hb hK hw 16 (by omega) rfl (by decide) x rfl (by omega) dX9_refine_119 (fun H locs hw => ?_)
          refine lv_aload_n hx hb dX9_refine_120 rfl (lv_at hl 4 rfl) ?_
          refine wr_gr hx hb hown hK hts iX9 (ci := 8) rfl 22 (by decide) f69 rfl hw 0 (by omega) 17 rfl rfl dX9_refine_121 ?_
          refine lv_iload_n hx hb dX9_refine_124 rfl (lv_at hl 7 rfl) ?_
          refine lv_iload hx hb dX9_refine_125 (lv_at hl 0 rfl) ?_
          refine lv_iload_n hx hb dX9_refine_127 rfl (lv_at hl 6 rfl) ?_
          refine lv_iconst (v := nI 5) hx hb dX9_refine_128 (by decide) ?_
          refine lv_icmp_ne (tgt := 139) hx hb dX9_refine_129 (by decide) (fun q5 => ?_) (fun q5 => ?_)
          · have q5n : ¬ 5 = 5 := fun z => q5 ((nI_eq (by omega) (by omega)).mpr z)
            exact absurd q5 (by decide)
          · have q5n : 5 = 5 := (nI_eq (by omega) (by omega)).mp q5
            refine lv_iload hx hb dX9_refine_132 (lv_at hl 2 rfl) ?_
            refine lv_iconst (v := nI 1) hx hb dX9_refine_134 (by decide) ?_
            refine lv_isub hx hb dX9_refine_135 ?_
            refine lv_goto (tgt := 141) hx hb dX9_refine_136 (by decide) ?_
            refine va_mmin hx hb (hml.trans hl.1.symm) hown m147 t147 iMath c147 (Nat.le_of_ble_eq_true rfl) (Nat.le_of_ble_eq_true rfl) (Nat.le_of_ble_eq_true rfl) (Nat.le_of_ble_eq_true rfl) dX9_refine_141 ?_
            refine W.eq (g2 := F0 m 144 ls [.int ((i_mn (M 17 y) (((M 17 x) - (nI 1))))), .int (nI y), .ref (ad 17)]) rfl ?_
            refine wr_istN hx hb hK hw 17 (by omega) rfl (by decide) y rfl (by omega) dX9_refine_144 (fun H locs hw => ?_)
            refine lv_iload_n hx hb dX9_refine_145 rfl (lv_at hl 6 rfl) ?_
            refine lv_iconst (v := nI 3) hx hb dX9_refine_146 (by decide) ?_
            refine lv_icmp_eq (tgt := 151) hx hb dX9_refine_147 (by decide) (fun q6 => ?_) (fun q6 => ?_)
            · have q6n : 5 = 3 := (nI_eq (by omega) (by omega)).mp q6
              exact absurd q6 (by decide)
            · have q6n : ¬ 5 = 3 := fun z => q6 ((nI_eq (by omega) (by omega)).mpr z)
              exact wr_vret hx hb hr hK hw (by show (_, _) = (_, _); unfold F_X9_refine_r5; rfl) hlocks dX9_refine_150
  · have q1n : ¬ 3 ≤ 5 := fun z => q1 ((nI_leI (by omega) (by omega)).mpr z)
    exact absurd q1 (by decide)
set_option maxHeartbeats 4000000 in
set_option maxRecDepth 100000 in
theorem k_X9_below (l : Launch) (D : va_G) (ad : Nat → Nat) (cs : Nat → ClassId) (sz : Nat) (M : wM) (J : wJ) (v : Int32) (t : Nat) (ht : M 0 14 = nI t) (ht8 : t ≤ 8) : wCi l yX9_below wsX9_below { frames := 1, cells := 0, slots := 0, locals := 31 } D 23 mSh ad cs [.ref (ad 0), .int v] sz M J (fun r_ u_ => u_ = (M, J) ∧ r_ = (if v = (1000000000 : Int32) then (1000000000 : Int32) else bel M v t)) := by
  refine wC_i (cc := cX9_below) (maxL := 4) (ret := (some .int)) (by decide) rfl (Nat.le_of_ble_eq_true rfl) ?_
  intro p e s m below meth c ls A hx hb hr hml hown hts hlocks hK hA hw hl hAe
  clear hAe
  have hl : lv_has ls 4 [(0, .ref (ad 0)), (1, .int v)] := hl
  have k90 : (Cond.constant RX9 90 (-1000000000)).before _ s = true := hts _ (by decide +kernel)
  have f119 : (Cond.fieldLink RX9 119 "RangePropagatorModel" "thresholds" "I").before _ s = true := hts _ (by decide +kernel)
  have iX9 : ∀ w ∈ wsX90, w ∈ wsX9_below := by decide +kernel
  have k91 : (Cond.constant RX9 91 (1000000000)).before _ s = true := hts _ (by decide +kernel)
  have f50 : (Cond.fieldLink RX9 50 "RangePropagatorModel" "threshold" "[I").before _ s = true := hts _ (by decide +kernel)
  have m150 : (Cond.methodLink RX9 150 Lib.Math.max.name).before _ s = true := hts _ (by decide +kernel)
  have t150 : (Cond.static Lib.Math.max.name).before _ s = true := hts _ (by decide +kernel)
  have iMath : (Cond.initialized "java/lang/Math").before _ s = true := hts _ (by decide +kernel)
  have c150 : (Cond.code Lib.Math.max.name Lib.Math.max.code 2 (some .int)).before _ s = true := hts _ (by decide +kernel)
  refine lv_ldc hx hb hown k90 dX9_below_0 ?_
  refine lv_istore_n (lv' := [(2, .int ((-1000000000 : Int32))), (0, .ref (ad 0)), (1, .int v)]) hx hb dX9_below_2 rfl hl (by decide) rfl (fun ls hl => ?_)
  refine lv_iconst (v := nI 0) hx hb dX9_below_3 (by decide) ?_
  refine lv_istore_n (lv' := [(3, .int (nI 0)), (2, .int ((-1000000000 : Int32))), (0, .ref (ad 0)), (1, .int v)]) hx hb dX9_below_4 rfl hl (by decide) rfl (fun ls hl => ?_)
  refine w_loop (σ := Nat) (fun k M' J' ls => lv_has ls 4 [(0, .ref (ad 0)), (1, .int v), (2, .int (bel M v k)), (3, .int (nI k))] ∧ J' = J ∧ k ≤ t ∧ M' = M ∧ True) (fun k => t - k) (fun k M1 J1_ H locs ls hI hw ih2 => ?_) 0 ⟨lv_sub hl [2, 3, 1, 0] rfl, rfl, by omega, rfl, trivial⟩ hw
  obtain ⟨hl, eJ_, hk_, hI⟩ := hI
  rw [eJ_] at hw
  clear eJ_
  obtain ⟨eM_, hI⟩ := hI
  rw [eM_] at hw
  clear eM_
  refine lv_iload_n hx hb dX9_below_5 rfl (lv_at hl 3 rfl) ?_
  refine lv_aload_n hx hb dX9_below_6 rfl (lv_at hl 0 rfl) ?_
  refine wr_gi hx hb hown hK hts iX9 (ci := 8) rfl 14 (by decide) f119 rfl hw 0 (by omega) rfl rfl dX9_below_7 ?_
  rw [show M 0 14 = nI t from ht]
  refine lv_icmp_ge (tgt := 40) hx hb dX9_below_10 (by decide) (fun q3 => ?_) (fun q3 => ?_)
  · have q3n : t ≤ k := (nI_leI (by omega) (by omega)).mp q3
    refine lv_iload_n hx hb dX9_below_40 rfl (lv_at hl 1 rfl) ?_
    refine lv_ldc hx hb hown k91 dX9_below_41 ?_
    refine lv_icmp_ne (tgt := 51) hx hb dX9_below_43 (by decide) (fun q4 => ?_) (fun q4 => ?_)
    · skip
      refine lv_iload_n hx hb dX9_below_51 rfl (lv_at hl 2 rfl) ?_
      exact wr_iret hx hb hr rfl hK hw ⟨rfl, by have e : k = t := (by omega); rw [if_neg q4, e]⟩ hlocks dX9_below_52
    · skip
      refine lv_ldc hx hb hown k91 dX9_below_46 ?_
      refine lv_goto (tgt := 52) hx hb dX9_below_48 (by decide) ?_
      exact wr_iret hx hb hr rfl hK hw ⟨rfl, by rw [if_pos q4]⟩ hlocks dX9_below_52
  · have q3n : ¬ t ≤ k := fun z => q3 ((nI_leI (by omega) (by omega)).mpr z)
    refine lv_aload_n hx hb dX9_below_13 rfl (lv_at hl 0 rfl) ?_
    refine wr_gr hx hb hown hK hts iX9 (ci := 8) rfl 15 (by decide) f50 rfl hw 0 (by omega) 11 rfl rfl dX9_below_14 ?_
    refine lv_iload_n hx hb dX9_below_17 rfl (lv_at hl 3 rfl) ?_
    refine wr_ildN hx hb hK hw 11 (by omega) rfl (by decide) k rfl (by omega) dX9_below_18 ?_
    refine lv_iload_n hx hb dX9_below_19 rfl (lv_at hl 1 rfl) ?_
    refine lv_icmp_gt (tgt := 34) hx hb dX9_below_20 (by decide) (fun q5 => ?_) (fun q5 => ?_)
    · skip
      refine lv_iinc (v := nI (k + 1)) (lv' := [(3, .int (nI (k + 1))), (0, .ref (ad 0)), (1, .int v), (2, .int (bel M v k))]) hx hb dX9_below_34 hl (k := 3) rfl (nI_1 _) (by decide) rfl (fun ls hl => ?_)
      refine lv_goto (tgt := 5) hx hb dX9_below_37 (by decide) ?_
      exact ih2 (k + 1) M J _ _ _ (by omega) ⟨(by rw [bel_1 q5]; exact lv_sub hl [1, 2, 3, 0] rfl), rfl, by omega, rfl, trivial⟩ hw
    · skip
      refine lv_iload_n hx hb dX9_below_23 rfl (lv_at hl 2 rfl) ?_
      refine lv_aload_n hx hb dX9_below_24 rfl (lv_at hl 0 rfl) ?_
      refine wr_gr hx hb hown hK hts iX9 (ci := 8) rfl 15 (by decide) f50 rfl hw 0 (by omega) 11 rfl rfl dX9_below_25 ?_
      refine lv_iload_n hx hb dX9_below_28 rfl (lv_at hl 3 rfl) ?_
      refine wr_ildN hx hb hK hw 11 (by omega) rfl (by decide) k rfl (by omega) dX9_below_29 ?_
      refine va_mmax hx hb (hml.trans hl.1.symm) hown m150 t150 iMath c150 (Nat.le_of_ble_eq_true rfl) (Nat.le_of_ble_eq_true rfl) (Nat.le_of_ble_eq_true rfl) (Nat.le_of_ble_eq_true rfl) dX9_below_30 ?_
      refine W.eq (g2 := F0 m 33 ls [.int ((i_mx (bel M v k) (M 11 k)))]) rfl ?_
      refine lv_istore_n (lv' := [(2, .int ((i_mx (bel M v k) (M 11 k)))), (0, .ref (ad 0)), (1, .int v), (3, .int (nI k))]) hx hb dX9_below_33 rfl hl (by decide) rfl (fun ls hl => ?_)
      refine lv_iinc (v := nI (k + 1)) (lv' := [(3, .int (nI (k + 1))), (2, .int ((i_mx (bel M v k) (M 11 k)))), (0, .ref (ad 0)), (1, .int v)]) hx hb dX9_below_34 hl (k := 3) rfl (nI_1 _) (by decide) rfl (fun ls hl => ?_)
      refine lv_goto (tgt := 5) hx hb dX9_below_37 (by decide) ?_
      exact ih2 (k + 1) M J _ _ _ (by omega) ⟨(by rw [bel_2 q5]; exact lv_sub hl [2, 3, 1, 0] rfl), rfl, by omega, rfl, trivial⟩ hw
set_option maxHeartbeats 4000000 in
set_option maxRecDepth 100000 in
theorem k_X9_above (l : Launch) (D : va_G) (ad : Nat → Nat) (cs : Nat → ClassId) (sz : Nat) (M : wM) (J : wJ) (v : Int32) (t : Nat) (ht : M 0 14 = nI t) (ht8 : t ≤ 8) : wCi l yX9_above wsX9_above { frames := 1, cells := 0, slots := 0, locals := 31 } D 23 mSh ad cs [.ref (ad 0), .int v] sz M J (fun r_ u_ => u_ = (M, J) ∧ r_ = (if v = (-1000000000 : Int32) then (-1000000000 : Int32) else abo M v t)) := by
  refine wC_i (cc := cX9_above) (maxL := 4) (ret := (some .int)) (by decide) rfl (Nat.le_of_ble_eq_true rfl) ?_
  intro p e s m below meth c ls A hx hb hr hml hown hts hlocks hK hA hw hl hAe
  clear hAe
  have hl : lv_has ls 4 [(0, .ref (ad 0)), (1, .int v)] := hl
  have k91 : (Cond.constant RX9 91 (1000000000)).before _ s = true := hts _ (by decide +kernel)
  have f119 : (Cond.fieldLink RX9 119 "RangePropagatorModel" "thresholds" "I").before _ s = true := hts _ (by decide +kernel)
  have iX9 : ∀ w ∈ wsX90, w ∈ wsX9_above := by decide +kernel
  have k90 : (Cond.constant RX9 90 (-1000000000)).before _ s = true := hts _ (by decide +kernel)
  have f50 : (Cond.fieldLink RX9 50 "RangePropagatorModel" "threshold" "[I").before _ s = true := hts _ (by decide +kernel)
  have m147 : (Cond.methodLink RX9 147 Lib.Math.min.name).before _ s = true := hts _ (by decide +kernel)
  have t147 : (Cond.static Lib.Math.min.name).before _ s = true := hts _ (by decide +kernel)
  have iMath : (Cond.initialized "java/lang/Math").before _ s = true := hts _ (by decide +kernel)
  have c147 : (Cond.code Lib.Math.min.name Lib.Math.min.code 2 (some .int)).before _ s = true := hts _ (by decide +kernel)
  refine lv_ldc hx hb hown k91 dX9_above_0 ?_
  refine lv_istore_n (lv' := [(2, .int ((1000000000 : Int32))), (0, .ref (ad 0)), (1, .int v)]) hx hb dX9_above_2 rfl hl (by decide) rfl (fun ls hl => ?_)
  refine lv_iconst (v := nI 0) hx hb dX9_above_3 (by decide) ?_
  refine lv_istore_n (lv' := [(3, .int (nI 0)), (2, .int ((1000000000 : Int32))), (0, .ref (ad 0)), (1, .int v)]) hx hb dX9_above_4 rfl hl (by decide) rfl (fun ls hl => ?_)
  refine w_loop (σ := Nat) (fun k M' J' ls => lv_has ls 4 [(0, .ref (ad 0)), (1, .int v), (2, .int (abo M v k)), (3, .int (nI k))] ∧ J' = J ∧ k ≤ t ∧ M' = M ∧ True) (fun k => t - k) (fun k M1 J1_ H locs ls hI hw ih2 => ?_) 0 ⟨lv_sub hl [2, 3, 1, 0] rfl, rfl, by omega, rfl, trivial⟩ hw
  obtain ⟨hl, eJ_, hk_, hI⟩ := hI
  rw [eJ_] at hw
  clear eJ_
  obtain ⟨eM_, hI⟩ := hI
  rw [eM_] at hw
  clear eM_
  refine lv_iload_n hx hb dX9_above_5 rfl (lv_at hl 3 rfl) ?_
  refine lv_aload_n hx hb dX9_above_6 rfl (lv_at hl 0 rfl) ?_
  refine wr_gi hx hb hown hK hts iX9 (ci := 8) rfl 14 (by decide) f119 rfl hw 0 (by omega) rfl rfl dX9_above_7 ?_
  rw [show M 0 14 = nI t from ht]
  refine lv_icmp_ge (tgt := 40) hx hb dX9_above_10 (by decide) (fun q3 => ?_) (fun q3 => ?_)
  · have q3n : t ≤ k := (nI_leI (by omega) (by omega)).mp q3
    refine lv_iload_n hx hb dX9_above_40 rfl (lv_at hl 1 rfl) ?_
    refine lv_ldc hx hb hown k90 dX9_above_41 ?_
    refine lv_icmp_ne (tgt := 51) hx hb dX9_above_43 (by decide) (fun q4 => ?_) (fun q4 => ?_)
    · skip
      refine lv_iload_n hx hb dX9_above_51 rfl (lv_at hl 2 rfl) ?_
      exact wr_iret hx hb hr rfl hK hw ⟨rfl, by have e : k = t := (by omega); rw [if_neg q4, e]⟩ hlocks dX9_above_52
    · skip
      refine lv_ldc hx hb hown k90 dX9_above_46 ?_
      refine lv_goto (tgt := 52) hx hb dX9_above_48 (by decide) ?_
      exact wr_iret hx hb hr rfl hK hw ⟨rfl, by rw [if_pos q4]⟩ hlocks dX9_above_52
  · have q3n : ¬ t ≤ k := fun z => q3 ((nI_leI (by omega) (by omega)).mpr z)
    refine lv_aload_n hx hb dX9_above_13 rfl (lv_at hl 0 rfl) ?_
    refine wr_gr hx hb hown hK hts iX9 (ci := 8) rfl 15 (by decide) f50 rfl hw 0 (by omega) 11 rfl rfl dX9_above_14 ?_
    refine lv_iload_n hx hb dX9_above_17 rfl (lv_at hl 3 rfl) ?_
    refine wr_ildN hx hb hK hw 11 (by omega) rfl (by decide) k rfl (by omega) dX9_above_18 ?_
    refine lv_iload_n hx hb dX9_above_19 rfl (lv_at hl 1 rfl) ?_
    refine lv_icmp_lt (tgt := 34) hx hb dX9_above_20 (by decide) (fun q5 => ?_) (fun q5 => ?_)
    · skip
      refine lv_iinc (v := nI (k + 1)) (lv' := [(3, .int (nI (k + 1))), (0, .ref (ad 0)), (1, .int v), (2, .int (abo M v k))]) hx hb dX9_above_34 hl (k := 3) rfl (nI_1 _) (by decide) rfl (fun ls hl => ?_)
      refine lv_goto (tgt := 5) hx hb dX9_above_37 (by decide) ?_
      exact ih2 (k + 1) M J _ _ _ (by omega) ⟨(by rw [abo_1 q5]; exact lv_sub hl [1, 2, 3, 0] rfl), rfl, by omega, rfl, trivial⟩ hw
    · skip
      refine lv_iload_n hx hb dX9_above_23 rfl (lv_at hl 2 rfl) ?_
      refine lv_aload_n hx hb dX9_above_24 rfl (lv_at hl 0 rfl) ?_
      refine wr_gr hx hb hown hK hts iX9 (ci := 8) rfl 15 (by decide) f50 rfl hw 0 (by omega) 11 rfl rfl dX9_above_25 ?_
      refine lv_iload_n hx hb dX9_above_28 rfl (lv_at hl 3 rfl) ?_
      refine wr_ildN hx hb hK hw 11 (by omega) rfl (by decide) k rfl (by omega) dX9_above_29 ?_
      refine va_mmin hx hb (hml.trans hl.1.symm) hown m147 t147 iMath c147 (Nat.le_of_ble_eq_true rfl) (Nat.le_of_ble_eq_true rfl) (Nat.le_of_ble_eq_true rfl) (Nat.le_of_ble_eq_true rfl) dX9_above_30 ?_
      refine W.eq (g2 := F0 m 33 ls [.int ((i_mn (abo M v k) (M 11 k)))]) rfl ?_
      refine lv_istore_n (lv' := [(2, .int ((i_mn (abo M v k) (M 11 k)))), (0, .ref (ad 0)), (1, .int v), (3, .int (nI k))]) hx hb dX9_above_33 rfl hl (by decide) rfl (fun ls hl => ?_)
      refine lv_iinc (v := nI (k + 1)) (lv' := [(3, .int (nI (k + 1))), (2, .int ((i_mn (abo M v k) (M 11 k)))), (0, .ref (ad 0)), (1, .int v)]) hx hb dX9_above_34 hl (k := 3) rfl (nI_1 _) (by decide) rfl (fun ls hl => ?_)
      refine lv_goto (tgt := 5) hx hb dX9_above_37 (by decide) ?_
      exact ih2 (k + 1) M J _ _ _ (by omega) ⟨(by rw [abo_2 q5]; exact lv_sub hl [2, 3, 1, 0] rfl), rfl, by omega, rfl, trivial⟩ hw
