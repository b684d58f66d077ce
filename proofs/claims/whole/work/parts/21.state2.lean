/-! State: become, keepUnequal, refine: laid by wip/gen/specs2.py -/
def F_X7_become (M : wM) (i : Nat) (j : Nat) : wM := (va_up (va_up (wU M (3 * i) 0 (M (3 * j) 0)) (3 * i + 1) (va_cpy ((wU M (3 * i) 0 (M (3 * j) 0)) (3 * j + 1)) ((wU M (3 * i) 0 (M (3 * j) 0)) (3 * i + 1)) 0 0 6)) (3 * i + 2) (va_cpy ((va_up (wU M (3 * i) 0 (M (3 * j) 0)) (3 * i + 1) (va_cpy ((wU M (3 * i) 0 (M (3 * j) 0)) (3 * j + 1)) ((wU M (3 * i) 0 (M (3 * j) 0)) (3 * i + 1)) 0 0 6)) (3 * j + 2)) ((va_up (wU M (3 * i) 0 (M (3 * j) 0)) (3 * i + 1) (va_cpy ((wU M (3 * i) 0 (M (3 * j) 0)) (3 * j + 1)) ((wU M (3 * i) 0 (M (3 * j) 0)) (3 * i + 1)) 0 0 6)) (3 * i + 2)) 0 0 6))
set_option maxHeartbeats 4000000 in
set_option maxRecDepth 100000 in
theorem k_X7_become (l : Launch) (D : va_G) (ad : Nat → Nat) (cs : Nat → ClassId) (sz : Nat) (M : wM) (J : wJ) (i : Nat) (j : Nat) (hi : i < 67) (hj : j < 67) (hz : bz (M (3 * j) 0)) : wCv l yX7_become wsX7_become { frames := 1, cells := 0, slots := 0, locals := 60 } D 340 cSh ad cs [.ref (ad (3 * i)), .ref (ad (3 * j))] sz M J (fun u_ => u_ = (F_X7_become M i j, J)) := by
  refine wC_v (cc := cX7_become) (maxL := 2) (ret := none) (by decide) rfl (Nat.le_of_ble_eq_true rfl) ?_
  intro p e s m below meth c ls A hx hb hr hml hown hts hlocks hK hA hw hl hAe
  clear hAe
  have hl : lv_has ls 2 [(0, .ref (ad (3 * i))), (1, .ref (ad (3 * j)))] := hl
  have f9 : (Cond.fieldLink RX7 9 "RangePropagator$State" "isNone" "Z").before _ s = true := hts _ (by decide +kernel)
  have iX7 : ∀ w ∈ wsX70, w ∈ wsX7_become := by decide +kernel
  have f15 : (Cond.fieldLink RX7 15 "RangePropagator$State" "low" "[I").before _ s = true := hts _ (by decide +kernel)
  have m22 : (Cond.methodLink RX7 22 arraycopyName).before _ s = true := hts _ (by decide +kernel)
  have cNat : (Cond.native arraycopyName).before _ s = true := hts _ (by decide +kernel)
  have cSta : (Cond.static arraycopyName).before _ s = true := hts _ (by decide +kernel)
  have cIni : (Cond.initialized "java/lang/System").before _ s = true := hts _ (by decide +kernel)
  have f19 : (Cond.fieldLink RX7 19 "RangePropagator$State" "high" "[I").before _ s = true := hts _ (by decide +kernel)
  refine lv_aload_n hx hb dX7_become_0 rfl (lv_at hl 0 rfl) ?_
  refine lv_aload_n hx hb dX7_become_1 rfl (lv_at hl 1 rfl) ?_
  refine wr_gi hx hb hown hK hts iX7 (ci := 6) rfl 0 (by decide) f9 rfl hw (3 * j) (by omega) (cs_S (by omega)) rfl dX7_become_2 ?_
  refine wr_pi hx hb hown hK hts iX7 tyX7_ok nmX7 (ci := 6) rfl 0 (by decide) f9 rfl rfl hw (3 * i) (by omega) (cs_S (by omega)) rfl (bz_n hz) (bz_f hz) dX7_become_5 (fun H locs hw => ?_)
  refine lv_aload_n hx hb dX7_become_8 rfl (lv_at hl 1 rfl) ?_
  refine wr_gr hx hb hown hK hts iX7 (ci := 6) rfl 1 (by decide) f15 rfl hw (3 * j) (by omega) (3 * j + 1) (cs_S (by omega)) rfl dX7_become_9 ?_
  refine lv_iconst (v := nI 0) hx hb dX7_become_12 (by decide) ?_
  refine lv_aload_n hx hb dX7_become_13 rfl (lv_at hl 0 rfl) ?_
  refine wr_gr hx hb hown hK hts iX7 (ci := 6) rfl 1 (by decide) f15 rfl hw (3 * i) (by omega) (3 * i + 1) (cs_S (by omega)) rfl dX7_become_14 ?_
  refine lv_iconst (v := nI 0) hx hb dX7_become_17 (by decide) ?_
  refine lv_bipush (v := nI 6) hx hb dX7_become_18 (by decide) ?_
  refine wr_cpy hx hb (hml.trans hl.1.symm) hown m22 cNat cSta cIni hK hw (3 * j + 1) (3 * i + 1) (by omega) (by omega) (cs_SL (by omega)) (cs_SL (by omega)) 0 0 6 rfl rfl rfl (by decide) (by decide) (by omega) (by omega) (Nat.le_of_ble_eq_true rfl) (Nat.le_of_ble_eq_true rfl) dX7_become_20 (fun H locs hw => ?_)
  refine lv_aload_n hx hb dX7_become_23 rfl (lv_at hl 1 rfl) ?_
  refine wr_gr hx hb hown hK hts iX7 (ci := 6) rfl 2 (by decide) f19 rfl hw (3 * j) (by omega) (3 * j + 2) (cs_S (by omega)) rfl dX7_become_24 ?_
  refine lv_iconst (v := nI 0) hx hb dX7_become_27 (by decide) ?_
  refine lv_aload_n hx hb dX7_become_28 rfl (lv_at hl 0 rfl) ?_
  refine wr_gr hx hb hown hK hts iX7 (ci := 6) rfl 2 (by decide) f19 rfl hw (3 * i) (by omega) (3 * i + 2) (cs_S (by omega)) rfl dX7_become_29 ?_
  refine lv_iconst (v := nI 0) hx hb dX7_become_32 (by decide) ?_
  refine lv_bipush (v := nI 6) hx hb dX7_become_33 (by decide) ?_
  refine wr_cpy hx hb (hml.trans hl.1.symm) hown m22 cNat cSta cIni hK hw (3 * j + 2) (3 * i + 2) (by omega) (by omega) (cs_SH (by omega)) (cs_SH (by omega)) 0 0 6 rfl rfl rfl (by decide) (by decide) (by omega) (by omega) (Nat.le_of_ble_eq_true rfl) (Nat.le_of_ble_eq_true rfl) dX7_become_35 (fun H locs hw => ?_)
  exact wr_vret hx hb hr hK hw (by show (_, _) = (_, _); unfold F_X7_become; rfl) hlocks dX7_become_38
def F_X7_keepUnequal (M : wM) (i : Nat) (x : Nat) (y : Nat) : wM := (if E_X7_isConstant M i x = 0 then (if E_X7_isConstant M i x = 0 then (if E_X7_isConstant M i y = 0 then M else (F_X7_cutOff M i x (M (3 * i + 1) y))) else (F_X7_cutOff M i y (M (3 * i + 1) x))) else (if E_X7_isConstant M i y = 0 then (if E_X7_isConstant M i x = 0 then (if E_X7_isConstant M i y = 0 then M else (F_X7_cutOff M i x (M (3 * i + 1) y))) else (F_X7_cutOff M i y (M (3 * i + 1) x))) else (if M (3 * i + 1) x = M (3 * i + 1) y then (wU M (3 * i) 0 (nI 1)) else (wU M (3 * i) 0 (nI 0)))))
set_option maxHeartbeats 4000000 in
set_option maxRecDepth 100000 in
theorem k_X7_keepUnequal (l : Launch) (D : va_G) (ad : Nat → Nat) (cs : Nat → ClassId) (sz : Nat) (M : wM) (J : wJ) (i : Nat) (x : Nat) (y : Nat) (hi : i < 67) (hx6 : x < 6) (hy6 : y < 6) : wCv l yX7_keepUnequal wsX7_keepUnequal { frames := 1, cells := 0, slots := 0, locals := 22 } D 340 cSh ad cs [.ref (ad (3 * i)), .int (nI x), .int (nI y)] sz M J (fun u_ => u_ = (F_X7_keepUnequal M i x y, J)) := by
  refine wC_v (cc := cX7_keepUnequal) (maxL := 3) (ret := none) (by decide) rfl (Nat.le_of_ble_eq_true rfl) ?_
  intro p e s m below meth c ls A hx hb hr hml hown hts hlocks hK hA hw hl hAe
  clear hAe
  have hl : lv_has ls 3 [(0, .ref (ad (3 * i))), (1, .int (nI x)), (2, .int (nI y))] := hl
  have f15 : (Cond.fieldLink RX7 15 "RangePropagator$State" "low" "[I").before _ s = true := hts _ (by decide +kernel)
  have iX7 : ∀ w ∈ wsX70, w ∈ wsX7_keepUnequal := by decide +kernel
  have f9 : (Cond.fieldLink RX7 9 "RangePropagator$State" "isNone" "Z").before _ s = true := hts _ (by decide +kernel)
  refine lv_aload_n hx hb dX7_keepUnequal_0 rfl (lv_at hl 0 rfl) ?_
  refine lv_iload_n hx hb dX7_keepUnequal_1 rfl (lv_at hl 1 rfl) ?_
  refine wr_cVi (k := 3 * i) (ci := 6) (As := [.int (nI x)]) (rest := []) ⟨hx, hb, hml, hown, hts⟩ (cwV 1 hts gX7_keepUnequal_X7_isConstant rfl rfl rfl (by decide +kernel) ⟨Nat.le_of_ble_eq_true rfl, Nat.le_of_ble_eq_true rfl⟩) hK hA hw (k_X7_isConstant l D ad cs s.heap.size M J i x (by omega) (by omega)) (by omega) (cs_S (by omega)) rfl rfl rfl hl.1 (Nat.le_of_ble_eq_true rfl) ⟨Nat.le_of_ble_eq_true rfl, Nat.le_of_ble_eq_true rfl⟩ dX7_keepUnequal_2 (fun r1 M2 J3 H locs h4 hw => ?_)
  obtain ⟨h4, rfl⟩ := h4
  cases h4
  refine lv_if_eq (tgt := 43) hx hb dX7_keepUnequal_5 (by decide) (fun q5 => ?_) (fun q5 => ?_)
  · skip
    refine lv_aload_n hx hb dX7_keepUnequal_43 rfl (lv_at hl 0 rfl) ?_
    refine lv_iload_n hx hb dX7_keepUnequal_44 rfl (lv_at hl 1 rfl) ?_
    refine wr_cVi (k := 3 * i) (ci := 6) (As := [.int (nI x)]) (rest := []) ⟨hx, hb, hml, hown, hts⟩ (cwV 1 hts gX7_keepUnequal_X7_isConstant rfl rfl rfl (by decide +kernel) ⟨Nat.le_of_ble_eq_true rfl, Nat.le_of_ble_eq_true rfl⟩) hK hA hw (k_X7_isConstant l D ad cs H.size M J i x (by omega) (by omega)) (by omega) (cs_S (by omega)) rfl rfl rfl hl.1 (Nat.le_of_ble_eq_true rfl) ⟨Nat.le_of_ble_eq_true rfl, Nat.le_of_ble_eq_true rfl⟩ dX7_keepUnequal_45 (fun r6 M7 J8 H locs h9 hw => ?_)
    obtain ⟨h9, rfl⟩ := h9
    cases h9
    refine lv_if_eq (tgt := 65) hx hb dX7_keepUnequal_48 (by decide) (fun q10 => ?_) (fun q10 => ?_)
    · skip
      refine lv_aload_n hx hb dX7_keepUnequal_65 rfl (lv_at hl 0 rfl) ?_
      refine lv_iload_n hx hb dX7_keepUnequal_66 rfl (lv_at hl 2 rfl) ?_
      refine wr_cVi (k := 3 * i) (ci := 6) (As := [.int (nI y)]) (rest := []) ⟨hx, hb, hml, hown, hts⟩ (cwV 1 hts gX7_keepUnequal_X7_isConstant rfl rfl rfl (by decide +kernel) ⟨Nat.le_of_ble_eq_true rfl, Nat.le_of_ble_eq_true rfl⟩) hK hA hw (k_X7_isConstant l D ad cs H.size M J i y (by omega) (by omega)) (by omega) (cs_S (by omega)) rfl rfl rfl hl.1 (Nat.le_of_ble_eq_true rfl) ⟨Nat.le_of_ble_eq_true rfl, Nat.le_of_ble_eq_true rfl⟩ dX7_keepUnequal_67 (fun r11 M12 J13 H locs h14 hw => ?_)
      obtain ⟨h14, rfl⟩ := h14
      cases h14
      refine lv_if_eq (tgt := 84) hx hb dX7_keepUnequal_70 (by decide) (fun q15 => ?_) (fun q15 => ?_)
      · skip
        exact wr_vret hx hb hr hK hw (by show (_, _) = (_, _); unfold F_X7_keepUnequal; rw [if_pos q5, if_pos q10, if_pos q15]) hlocks dX7_keepUnequal_84
      · skip
        refine lv_aload_n hx hb dX7_keepUnequal_73 rfl (lv_at hl 0 rfl) ?_
        refine lv_iload_n hx hb dX7_keepUnequal_74 rfl (lv_at hl 1 rfl) ?_
        refine lv_aload_n hx hb dX7_keepUnequal_75 rfl (lv_at hl 0 rfl) ?_
        refine wr_gr hx hb hown hK hts iX7 (ci := 6) rfl 1 (by decide) f15 rfl hw (3 * i) (by omega) (3 * i + 1) (cs_S (by omega)) rfl dX7_keepUnequal_76 ?_
        refine lv_iload_n hx hb dX7_keepUnequal_79 rfl (lv_at hl 2 rfl) ?_
        refine wr_ildN hx hb hK hw (3 * i + 1) (by omega) (cs_SL (by omega)) (by decide) y rfl (by omega) dX7_keepUnequal_80 ?_
        refine wr_cVv (k := 3 * i) (ci := 6) (As := [.int (nI x), .int (M (3 * i + 1) y)]) (rest := []) ⟨hx, hb, hml, hown, hts⟩ (cwV 2 hts gX7_keepUnequal_X7_cutOff rfl rfl rfl (by decide +kernel) ⟨Nat.le_of_ble_eq_true rfl, Nat.le_of_ble_eq_true rfl⟩) hK hA hw (k_X7_cutOff l D ad cs H.size M J i x (M (3 * i + 1) y) (by omega) (by omega)) (by omega) (cs_S (by omega)) rfl rfl rfl hl.1 (Nat.le_of_ble_eq_true rfl) ⟨Nat.le_of_ble_eq_true rfl, Nat.le_of_ble_eq_true rfl⟩ dX7_keepUnequal_81 (fun M17 J18 H locs h19 hw => ?_)
        cases h19
        exact wr_vret hx hb hr hK hw (by show (_, _) = (_, _); unfold F_X7_keepUnequal; rw [if_pos q5, if_pos q10, if_neg q15]) hlocks dX7_keepUnequal_84
    · skip
      refine lv_aload_n hx hb dX7_keepUnequal_51 rfl (lv_at hl 0 rfl) ?_
      refine lv_iload_n hx hb dX7_keepUnequal_52 rfl (lv_at hl 2 rfl) ?_
      refine lv_aload_n hx hb dX7_keepUnequal_53 rfl (lv_at hl 0 rfl) ?_
      refine wr_gr hx hb hown hK hts iX7 (ci := 6) rfl 1 (by decide) f15 rfl hw (3 * i) (by omega) (3 * i + 1) (cs_S (by omega)) rfl dX7_keepUnequal_54 ?_
      refine lv_iload_n hx hb dX7_keepUnequal_57 rfl (lv_at hl 1 rfl) ?_
      refine wr_ildN hx hb hK hw (3 * i + 1) (by omega) (cs_SL (by omega)) (by decide) x rfl (by omega) dX7_keepUnequal_58 ?_
      refine wr_cVv (k := 3 * i) (ci := 6) (As := [.int (nI y), .int (M (3 * i + 1) x)]) (rest := []) ⟨hx, hb, hml, hown, hts⟩ (cwV 2 hts gX7_keepUnequal_X7_cutOff rfl rfl rfl (by decide +kernel) ⟨Nat.le_of_ble_eq_true rfl, Nat.le_of_ble_eq_true rfl⟩) hK hA hw (k_X7_cutOff l D ad cs H.size M J i y (M (3 * i + 1) x) (by omega) (by omega)) (by omega) (cs_S (by omega)) rfl rfl rfl hl.1 (Nat.le_of_ble_eq_true rfl) ⟨Nat.le_of_ble_eq_true rfl, Nat.le_of_ble_eq_true rfl⟩ dX7_keepUnequal_59 (fun M21 J22 H locs h23 hw => ?_)
      cases h23
      refine lv_goto (tgt := 84) hx hb dX7_keepUnequal_62 (by decide) ?_
      exact wr_vret hx hb hr hK hw (by show (_, _) = (_, _); unfold F_X7_keepUnequal; rw [if_pos q5, if_neg q10]) hlocks dX7_keepUnequal_84
  · skip
    refine lv_aload_n hx hb dX7_keepUnequal_8 rfl (lv_at hl 0 rfl) ?_
    refine lv_iload_n hx hb dX7_keepUnequal_9 rfl (lv_at hl 2 rfl) ?_
    refine wr_cVi (k := 3 * i) (ci := 6) (As := [.int (nI y)]) (rest := []) ⟨hx, hb, hml, hown, hts⟩ (cwV 1 hts gX7_keepUnequal_X7_isConstant rfl rfl rfl (by decide +kernel) ⟨Nat.le_of_ble_eq_true rfl, Nat.le_of_ble_eq_true rfl⟩) hK hA hw (k_X7_isConstant l D ad cs H.size M J i y (by omega) (by omega)) (by omega) (cs_S (by omega)) rfl rfl rfl hl.1 (Nat.le_of_ble_eq_true rfl) ⟨Nat.le_of_ble_eq_true rfl, Nat.le_of_ble_eq_true rfl⟩ dX7_keepUnequal_10 (fun r24 M25 J26 H locs h27 hw => ?_)
    obtain ⟨h27, rfl⟩ := h27
    cases h27
    refine lv_if_eq (tgt := 43) hx hb dX7_keepUnequal_13 (by decide) (fun q28 => ?_) (fun q28 => ?_)
    · skip
      refine lv_aload_n hx hb dX7_keepUnequal_43 rfl (lv_at hl 0 rfl) ?_
      refine lv_iload_n hx hb dX7_keepUnequal_44 rfl (lv_at hl 1 rfl) ?_
      refine wr_cVi (k := 3 * i) (ci := 6) (As := [.int (nI x)]) (rest := []) ⟨hx, hb, hml, hown, hts⟩ (cwV 1 hts gX7_keepUnequal_X7_isConstant rfl rfl rfl (by decide +kernel) ⟨Nat.le_of_ble_eq_true rfl, Nat.le_of_ble_eq_true rfl⟩) hK hA hw (k_X7_isConstant l D ad cs H.size M J i x (by omega) (by omega)) (by omega) (cs_S (by omega)) rfl rfl rfl hl.1 (Nat.le_of_ble_eq_true rfl) ⟨Nat.le_of_ble_eq_true rfl, Nat.le_of_ble_eq_true rfl⟩ dX7_keepUnequal_45 (fun r29 M30 J31 H locs h32 hw => ?_)
      obtain ⟨h32, rfl⟩ := h32
      cases h32
      refine lv_if_eq (tgt := 65) hx hb dX7_keepUnequal_48 (by decide) (fun q33 => ?_) (fun q33 => ?_)
      · skip
        refine lv_aload_n hx hb dX7_keepUnequal_65 rfl (lv_at hl 0 rfl) ?_
        refine lv_iload_n hx hb dX7_keepUnequal_66 rfl (lv_at hl 2 rfl) ?_
        refine wr_cVi (k := 3 * i) (ci := 6) (As := [.int (nI y)]) (rest := []) ⟨hx, hb, hml, hown, hts⟩ (cwV 1 hts gX7_keepUnequal_X7_isConstant rfl rfl rfl (by decide +kernel) ⟨Nat.le_of_ble_eq_true rfl, Nat.le_of_ble_eq_true rfl⟩) hK hA hw (k_X7_isConstant l D ad cs H.size M J i y (by omega) (by omega)) (by omega) (cs_S (by omega)) rfl rfl rfl hl.1 (Nat.le_of_ble_eq_true rfl) ⟨Nat.le_of_ble_eq_true rfl, Nat.le_of_ble_eq_true rfl⟩ dX7_keepUnequal_67 (fun r34 M35 J36 H locs h37 hw => ?_)
        obtain ⟨h37, rfl⟩ := h37
        cases h37
        refine lv_if_eq (tgt := 84) hx hb dX7_keepUnequal_70 (by decide) (fun q38 => ?_) (fun q38 => ?_)
        · skip
          exact wr_vret hx hb hr hK hw (by show (_, _) = (_, _); unfold F_X7_keepUnequal; rw [if_neg q5, if_pos q28, if_pos q33, if_pos q38]) hlocks dX7_keepUnequal_84
        · skip
          refine lv_aload_n hx hb dX7_keepUnequal_73 rfl (lv_at hl 0 rfl) ?_
          refine lv_iload_n hx hb dX7_keepUnequal_74 rfl (lv_at hl 1 rfl) ?_
          refine lv_aload_n hx hb dX7_keepUnequal_75 rfl (lv_at hl 0 rfl) ?_
          refine wr_gr hx hb hown hK hts iX7 (ci := 6) rfl 1 (by decide) f15 rfl hw (3 * i) (by omega) (3 * i + 1) (cs_S (by omega)) rfl dX7_keepUnequal_76 ?_
          refine lv_iload_n hx hb dX7_keepUnequal_79 rfl (lv_at hl 2 rfl) ?_
          refine wr_ildN hx hb hK hw (3 * i + 1) (by omega) (cs_SL (by omega)) (by decide) y rfl (by omega) dX7_keepUnequal_80 ?_
          refine wr_cVv (k := 3 * i) (ci := 6) (As := [.int (nI x), .int (M (3 * i + 1) y)]) (rest := []) ⟨hx, hb, hml, hown, hts⟩ (cwV 2 hts gX7_keepUnequal_X7_cutOff rfl rfl rfl (by decide +kernel) ⟨Nat.le_of_ble_eq_true rfl, Nat.le_of_ble_eq_true rfl⟩) hK hA hw (k_X7_cutOff l D ad cs H.size M J i x (M (3 * i + 1) y) (by omega) (by omega)) (by omega) (cs_S (by omega)) rfl rfl rfl hl.1 (Nat.le_of_ble_eq_true rfl) ⟨Nat.le_of_ble_eq_true rfl, Nat.le_of_ble_eq_true rfl⟩ dX7_keepUnequal_81 (fun M40 J41 H locs h42 hw => ?_)
          cases h42
          exact wr_vret hx hb hr hK hw (by show (_, _) = (_, _); unfold F_X7_keepUnequal; rw [if_neg q5, if_pos q28, if_pos q33, if_neg q38]) hlocks dX7_keepUnequal_84
      · skip
        refine lv_aload_n hx hb dX7_keepUnequal_51 rfl (lv_at hl 0 rfl) ?_
        refine lv_iload_n hx hb dX7_keepUnequal_52 rfl (lv_at hl 2 rfl) ?_
        refine lv_aload_n hx hb dX7_keepUnequal_53 rfl (lv_at hl 0 rfl) ?_
        refine wr_gr hx hb hown hK hts iX7 (ci := 6) rfl 1 (by decide) f15 rfl hw (3 * i) (by omega) (3 * i + 1) (cs_S (by omega)) rfl dX7_keepUnequal_54 ?_
        refine lv_iload_n hx hb dX7_keepUnequal_57 rfl (lv_at hl 1 rfl) ?_
        refine wr_ildN hx hb hK hw (3 * i + 1) (by omega) (cs_SL (by omega)) (by decide) x rfl (by omega) dX7_keepUnequal_58 ?_
        refine wr_cVv (k := 3 * i) (ci := 6) (As := [.int (nI y), .int (M (3 * i + 1) x)]) (rest := []) ⟨hx, hb, hml, hown, hts⟩ (cwV 2 hts gX7_keepUnequal_X7_cutOff rfl rfl rfl (by decide +kernel) ⟨Nat.le_of_ble_eq_true rfl, Nat.le_of_ble_eq_true rfl⟩) hK hA hw (k_X7_cutOff l D ad cs H.size M J i y (M (3 * i + 1) x) (by omega) (by omega)) (by omega) (cs_S (by omega)) rfl rfl rfl hl.1 (Nat.le_of_ble_eq_true rfl) ⟨Nat.le_of_ble_eq_true rfl, Nat.le_of_ble_eq_true rfl⟩ dX7_keepUnequal_59 (fun M44 J45 H locs h46 hw => ?_)
        cases h46
        refine lv_goto (tgt := 84) hx hb dX7_keepUnequal_62 (by decide) ?_
        exact wr_vret hx hb hr hK hw (by show (_, _) = (_, _); unfold F_X7_keepUnequal; rw [if_neg q5, if_pos q28, if_neg q33]) hlocks dX7_keepUnequal_84
    · skip
      refine lv_aload_n hx hb dX7_keepUnequal_16 rfl (lv_at hl 0 rfl) ?_
      refine lv_aload_n hx hb dX7_keepUnequal_17 rfl (lv_at hl 0 rfl) ?_
      refine wr_gr hx hb hown hK hts iX7 (ci := 6) rfl 1 (by decide) f15 rfl hw (3 * i) (by omega) (3 * i + 1) (cs_S (by omega)) rfl dX7_keepUnequal_18 ?_
      refine lv_iload_n hx hb dX7_keepUnequal_21 rfl (lv_at hl 1 rfl) ?_
      refine wr_ildN hx hb hK hw (3 * i + 1) (by omega) (cs_SL (by omega)) (by decide) x rfl (by omega) dX7_keepUnequal_22 ?_
      refine lv_aload_n hx hb dX7_keepUnequal_23 rfl (lv_at hl 0 rfl) ?_
      refine wr_gr hx hb hown hK hts iX7 (ci := 6) rfl 1 (by decide) f15 rfl hw (3 * i) (by omega) (3 * i + 1) (cs_S (by omega)) rfl dX7_keepUnequal_24 ?_
      refine lv_iload_n hx hb dX7_keepUnequal_27 rfl (lv_at hl 2 rfl) ?_
      refine wr_ildN hx hb hK hw (3 * i + 1) (by omega) (cs_SL (by omega)) (by decide) y rfl (by omega) dX7_keepUnequal_28 ?_
      refine lv_icmp_ne (tgt := 36) hx hb dX7_keepUnequal_29 (by decide) (fun q47 => ?_) (fun q47 => ?_)
      · skip
        refine lv_iconst (v := nI 0) hx hb dX7_keepUnequal_36 (by decide) ?_
        refine wr_pi hx hb hown hK hts iX7 tyX7_ok nmX7 (ci := 6) rfl 0 (by decide) f9 rfl rfl hw (3 * i) (by omega) (cs_S (by omega)) rfl (by decide) (by decide) dX7_keepUnequal_37 (fun H locs hw => ?_)
        refine lv_goto (tgt := 84) hx hb dX7_keepUnequal_40 (by decide) ?_
        exact wr_vret hx hb hr hK hw (by show (_, _) = (_, _); unfold F_X7_keepUnequal; rw [if_neg q5, if_neg q28, if_neg q47]) hlocks dX7_keepUnequal_84
      · skip
        refine lv_iconst (v := nI 1) hx hb dX7_keepUnequal_32 (by decide) ?_
        refine lv_goto (tgt := 37) hx hb dX7_keepUnequal_33 (by decide) ?_
        refine wr_pi hx hb hown hK hts iX7 tyX7_ok nmX7 (ci := 6) rfl 0 (by decide) f9 rfl rfl hw (3 * i) (by omega) (cs_S (by omega)) rfl (by decide) (by decide) dX7_keepUnequal_37 (fun H locs hw => ?_)
        refine lv_goto (tgt := 84) hx hb dX7_keepUnequal_40 (by decide) ?_
        exact wr_vret hx hb hr hK hw (by show (_, _) = (_, _); unfold F_X7_keepUnequal; rw [if_neg q5, if_neg q28, if_pos q47]) hlocks dX7_keepUnequal_84
def F_X7_refine (M : wM) (i : Nat) (x : Nat) (r : Int32) (y : Nat) : wM := (if nI x = nI y then (if E_X1_isTrue M (nI 0) r (nI 0) = 0 then (wU M (3 * i) 0 (nI 1)) else (wU M (3 * i) 0 (nI 0))) else (if r = nI 0 then (F_X7_keepOrdered M i x y (nI 1)) else (if r = nI 1 then (F_X7_keepOrdered M i x y (nI 0)) else (if r = nI 2 then (F_X7_keepEqual M i x y) else (F_X7_keepUnequal M i x y)))))
set_option maxHeartbeats 4000000 in
set_option maxRecDepth 100000 in
theorem k_X7_refine (l : Launch) (D : va_G) (ad : Nat → Nat) (cs : Nat → ClassId) (sz : Nat) (M : wM) (J : wJ) (i : Nat) (x : Nat) (r : Int32) (y : Nat) (hi : i < 67) (hx6 : x < 6) (hy6 : y < 6) : wCv l yX7_refine wsX7_refine { frames := 2, cells := 0, slots := 0, locals := 55 } D 340 cSh ad cs [.ref (ad (3 * i)), .int (nI x), .int r, .int (nI y)] sz M J (fun u_ => u_ = (F_X7_refine M i x r y, J)) := by
  refine wC_v (cc := cX7_refine) (maxL := 4) (ret := none) (by decide) rfl (Nat.le_of_ble_eq_true rfl) ?_
  intro p e s m below meth c ls A hx hb hr hml hown hts hlocks hK hA hw hl hAe
  clear hAe
  have hl : lv_has ls 4 [(0, .ref (ad (3 * i))), (1, .int (nI x)), (2, .int r), (3, .int (nI y))] := hl
  have f9 : (Cond.fieldLink RX7 9 "RangePropagator$State" "isNone" "Z").before _ s = true := hts _ (by decide +kernel)
  have iX7 : ∀ w ∈ wsX70, w ∈ wsX7_refine := by decide +kernel
  refine lv_iload_n hx hb dX7_refine_0 rfl (lv_at hl 1 rfl) ?_
  refine lv_iload_n hx hb dX7_refine_1 rfl (lv_at hl 3 rfl) ?_
  refine lv_icmp_ne (tgt := 24) hx hb dX7_refine_2 (by decide) (fun q1 => ?_) (fun q1 => ?_)
  · have q1n : ¬ x = y := fun z => q1 ((nI_eq (by omega) (by omega)).mpr z)
    refine lv_iload_n hx hb dX7_refine_24 rfl (lv_at hl 2 rfl) ?_
    by_cases q2 : r = nI 0
    · refine lv_tableIn (off := 27) (tgt := 52) hx hb dX7_refine_25 (by rw [q2]; decide) (by rw [q2]; decide) (by rw [q2]; decide) (by decide) ?_
      refine lv_aload_n hx hb dX7_refine_52 rfl (lv_at hl 0 rfl) ?_
      refine lv_iload_n hx hb dX7_refine_53 rfl (lv_at hl 1 rfl) ?_
      refine lv_iload_n hx hb dX7_refine_54 rfl (lv_at hl 3 rfl) ?_
      refine lv_iconst (v := nI 1) hx hb dX7_refine_55 (by decide) ?_
      refine wr_cVv (k := 3 * i) (ci := 6) (As := [.int (nI x), .int (nI y), .int (nI 1)]) (rest := []) ⟨hx, hb, hml, hown, hts⟩ (cwV 3 hts gX7_refine_X7_keepOrdered rfl rfl rfl (by decide +kernel) ⟨Nat.le_of_ble_eq_true rfl, Nat.le_of_ble_eq_true rfl⟩) hK hA hw (k_X7_keepOrdered l D ad cs s.heap.size M J i x y (nI 1) (by omega) (by omega) (by omega)) (by omega) (cs_S (by omega)) rfl rfl rfl hl.1 (Nat.le_of_ble_eq_true rfl) ⟨Nat.le_of_ble_eq_true rfl, Nat.le_of_ble_eq_true rfl⟩ dX7_refine_56 (fun M4 J5 H locs h6 hw => ?_)
      cases h6
      refine lv_goto (tgt := 87) hx hb dX7_refine_59 (by decide) ?_
      exact wr_vret hx hb hr hK hw (by show (_, _) = (_, _); unfold F_X7_refine; rw [if_neg q1, if_pos q2]) hlocks dX7_refine_87
    by_cases q7 : r = nI 1
    · refine lv_tableIn (off := 37) (tgt := 62) hx hb dX7_refine_25 (by rw [q7]; decide) (by rw [q7]; decide) (by rw [q7]; decide) (by decide) ?_
      refine lv_aload_n hx hb dX7_refine_62 rfl (lv_at hl 0 rfl) ?_
      refine lv_iload_n hx hb dX7_refine_63 rfl (lv_at hl 1 rfl) ?_
      refine lv_iload_n hx hb dX7_refine_64 rfl (lv_at hl 3 rfl) ?_
      refine lv_iconst (v := nI 0) hx hb dX7_refine_65 (by decide) ?_
      refine wr_cVv (k := 3 * i) (ci := 6) (As := [.int (nI x), .int (nI y), .int (nI 0)]) (rest := []) ⟨hx, hb, hml, hown, hts⟩ (cwV 3 hts gX7_refine_X7_keepOrdered rfl rfl rfl (by decide +kernel) ⟨Nat.le_of_ble_eq_true rfl, Nat.le_of_ble_eq_true rfl⟩) hK hA hw (k_X7_keepOrdered l D ad cs s.heap.size M J i x y (nI 0) (by omega) (by omega) (by omega)) (by omega) (cs_S (by omega)) rfl rfl rfl hl.1 (Nat.le_of_ble_eq_true rfl) ⟨Nat.le_of_ble_eq_true rfl, Nat.le_of_ble_eq_true rfl⟩ dX7_refine_66 (fun M9 J10 H locs h11 hw => ?_)
      cases h11
      refine lv_goto (tgt := 87) hx hb dX7_refine_69 (by decide) ?_
      exact wr_vret hx hb hr hK hw (by show (_, _) = (_, _); unfold F_X7_refine; rw [if_neg q1, if_neg q2, if_pos q7]) hlocks dX7_refine_87
    by_cases q12 : r = nI 2
    · refine lv_tableIn (off := 47) (tgt := 72) hx hb dX7_refine_25 (by rw [q12]; decide) (by rw [q12]; decide) (by rw [q12]; decide) (by decide) ?_
      refine lv_aload_n hx hb dX7_refine_72 rfl (lv_at hl 0 rfl) ?_
      refine lv_iload_n hx hb dX7_refine_73 rfl (lv_at hl 1 rfl) ?_
      refine lv_iload_n hx hb dX7_refine_74 rfl (lv_at hl 3 rfl) ?_
      refine wr_cVv (k := 3 * i) (ci := 6) (As := [.int (nI x), .int (nI y)]) (rest := []) ⟨hx, hb, hml, hown, hts⟩ (cwV 2 hts gX7_refine_X7_keepEqual rfl rfl rfl (by decide +kernel) ⟨Nat.le_of_ble_eq_true rfl, Nat.le_of_ble_eq_true rfl⟩) hK hA hw (k_X7_keepEqual l D ad cs s.heap.size M J i x y (by omega) (by omega) (by omega)) (by omega) (cs_S (by omega)) rfl rfl rfl hl.1 (Nat.le_of_ble_eq_true rfl) ⟨Nat.le_of_ble_eq_true rfl, Nat.le_of_ble_eq_true rfl⟩ dX7_refine_75 (fun M14 J15 H locs h16 hw => ?_)
      cases h16
      refine lv_goto (tgt := 87) hx hb dX7_refine_78 (by decide) ?_
      exact wr_vret hx hb hr hK hw (by show (_, _) = (_, _); unfold F_X7_refine; rw [if_neg q1, if_neg q2, if_neg q7, if_pos q12]) hlocks dX7_refine_87
    refine lv_tableOut (tgt := 81) hx hb dX7_refine_25 (sw_out 0 2 (by decide) (fun k h1 h2 => by rcases (show k = 0 ∨ k = 1 ∨ k = 2 by omega) with rfl | rfl | rfl <;> assumption)) (by decide) ?_
    refine lv_aload_n hx hb dX7_refine_81 rfl (lv_at hl 0 rfl) ?_
    refine lv_iload_n hx hb dX7_refine_82 rfl (lv_at hl 1 rfl) ?_
    refine lv_iload_n hx hb dX7_refine_83 rfl (lv_at hl 3 rfl) ?_
    refine wr_cVv (k := 3 * i) (ci := 6) (As := [.int (nI x), .int (nI y)]) (rest := []) ⟨hx, hb, hml, hown, hts⟩ (cwV 2 hts gX7_refine_X7_keepUnequal rfl rfl rfl (by decide +kernel) ⟨Nat.le_of_ble_eq_true rfl, Nat.le_of_ble_eq_true rfl⟩) hK hA hw (k_X7_keepUnequal l D ad cs s.heap.size M J i x y (by omega) (by omega) (by omega)) (by omega) (cs_S (by omega)) rfl rfl rfl hl.1 (Nat.le_of_ble_eq_true rfl) ⟨Nat.le_of_ble_eq_true rfl, Nat.le_of_ble_eq_true rfl⟩ dX7_refine_84 (fun M18 J19 H locs h20 hw => ?_)
    cases h20
    exact wr_vret hx hb hr hK hw (by show (_, _) = (_, _); unfold F_X7_refine; rw [if_neg q1, if_neg q2, if_neg q7, if_neg q12]) hlocks dX7_refine_87
  · have q1n : x = y := (nI_eq (by omega) (by omega)).mp q1
    refine lv_aload_n hx hb dX7_refine_5 rfl (lv_at hl 0 rfl) ?_
    refine lv_iconst (v := nI 0) hx hb dX7_refine_6 (by decide) ?_
    refine lv_iload_n hx hb dX7_refine_7 rfl (lv_at hl 2 rfl) ?_
    refine lv_iconst (v := nI 0) hx hb dX7_refine_8 (by decide) ?_
    refine wr_cSi (As := [.int (nI 0), .int r, .int (nI 0)]) (rest := [.ref (ad (3 * i))]) ⟨hx, hb, hml, hown, hts⟩ (va_cwS 3 hts gX7_refine_X1_isTrue rfl rfl rfl (by decide +kernel) ⟨Nat.le_of_ble_eq_true rfl, Nat.le_of_ble_eq_true rfl⟩) hK hA hw (k_X1_isTrue l D ad cs s.heap.size M J (nI 0) r (nI 0) ) rfl rfl hl.1 (Nat.le_of_ble_eq_true rfl) ⟨Nat.le_of_ble_eq_true rfl, Nat.le_of_ble_eq_true rfl⟩ dX7_refine_9 (fun r21 M22 J23 H locs h24 hw => ?_)
    obtain ⟨h24, rfl⟩ := h24
    cases h24
    refine lv_if_ne (tgt := 19) hx hb dX7_refine_12 (by decide) (fun q25 => ?_) (fun q25 => ?_)
    · skip
      refine lv_iconst (v := nI 0) hx hb dX7_refine_19 (by decide) ?_
      refine wr_pi hx hb hown hK hts iX7 tyX7_ok nmX7 (ci := 6) rfl 0 (by decide) f9 rfl rfl hw (3 * i) (by omega) (cs_S (by omega)) rfl (by decide) (by decide) dX7_refine_20 (fun H locs hw => ?_)
      exact wr_vret hx hb hr hK hw (by show (_, _) = (_, _); unfold F_X7_refine; rw [if_pos q1, if_neg q25]) hlocks dX7_refine_23
    · skip
      refine lv_iconst (v := nI 1) hx hb dX7_refine_15 (by decide) ?_
      refine lv_goto (tgt := 20) hx hb dX7_refine_16 (by decide) ?_
      refine wr_pi hx hb hown hK hts iX7 tyX7_ok nmX7 (ci := 6) rfl 0 (by decide) f9 rfl rfl hw (3 * i) (by omega) (cs_S (by omega)) rfl (by decide) (by decide) dX7_refine_20 (fun H locs hw => ?_)
      exact wr_vret hx hb hr hK hw (by show (_, _) = (_, _); unfold F_X7_refine; rw [if_pos q1, if_pos q25]) hlocks dX7_refine_23
