/-! Block: laid by wip/gen/specs4.py -/
theorem p_ap1 {M : wM} {J : wJ} {b i : Nat} (zi : bz (M (3 * i) 0)) (h : ¬ M (3 * i) 0 = 0) : pS M J i (apB M b (sv M i)) (M, J) := ⟨rfl, kp_refl _ _, zi, by rw [sv_none h]; exact (apN_none M b _).symm⟩
theorem p_ap2 {M M1 : wM} {J : wJ} {b i : Nat} (h : Iap M b i (tn (M (201 + 6 * b) 0)) M1) : pS M J i (apB M b (sv M i)) (M1, J) := ⟨rfl, h.1, by show bz (M1 (3 * i) 0); rw [h.2.1]; exact bz_0, h.2.2⟩
theorem p_ed1 {M : wM} {J : wJ} {b i e : Nat} (zi : bz (M (3 * i) 0)) (h : ¬ M (3 * i) 0 = 0) : pS M J i (edB M b e (sv M i)) (M, J) := ⟨rfl, kp_refl _ _, zi, by show sv M i = _; rw [sv_none h, edB_none]⟩
theorem p_ed2 {M : wM} {J : wJ} {b i e : Nat} (zi : bz (M (3 * i) 0)) (h : tn (M (201 + 6 * b) 5) < 2) : pS M J i (edB M b e (sv M i)) (M, J) := ⟨rfl, kp_refl _ _, zi, by unfold edB; rw [if_pos h]⟩
theorem p_ed3 {M : wM} {J : wJ} {b i e : Nat} (h0 : M (3 * i) 0 = 0) (hE : edOK M b) (h : 2 ≤ tn (M (201 + 6 * b) 5)) (he : e = 0) : pS M J i (edB M b e (sv M i)) (F_X7_refine M i (tn (M (201 + 6 * b) 7)) (M (201 + 6 * b) 9) (tn (M (201 + 6 * b) 8)), J) := by
  unfold edB
  rw [if_neg (by omega), if_pos he]
  exact sS_pS (sS_rf (hE.2.2 h).1.2 (hE.2.2 h).2.2 h0)
theorem p_ed4 {M : wM} {J : wJ} {b i e : Nat} (h0 : M (3 * i) 0 = 0) (hE : edOK M b) (h : 2 ≤ tn (M (201 + 6 * b) 5)) (he : ¬ e = 0) : pS M J i (edB M b e (sv M i)) (F_X7_refine M i (tn (M (201 + 6 * b) 8)) (E_X1_oppositeOfSwapped M (M (201 + 6 * b) 9)) (tn (M (201 + 6 * b) 7)), J) := by
  unfold edB
  rw [if_neg (by omega), if_neg he]
  exact sS_pS (sS_rf (hE.2.2 h).2.2 (hE.2.2 h).1.2 h0)
theorem eN0 {e : Nat} (h : e < 2147483648) (q : nI e = 0) : e = 0 := (nI_eq h (by decide)).mp (q.trans nI_0.symm)
def F_X2_append (M : wM) (b : Nat) (n : Nat) (k : Int32) (x : Int32) (p1 : Int32) (p2 : Int32) : wM := (wU (wU (wU (wU (wU M (201 + 6 * b + 1) n k) (201 + 6 * b + 2) n x) (201 + 6 * b + 3) n p1) (201 + 6 * b + 4) n p2) (201 + 6 * b) 0 (nI (n + 1)))
def E_X2_append (M : wM) (b : Nat) (n : Nat) (k : Int32) (x : Int32) (p1 : Int32) (p2 : Int32) : Int32 := (wU (wU (wU (wU (wU M (201 + 6 * b + 1) n k) (201 + 6 * b + 2) n x) (201 + 6 * b + 3) n p1) (201 + 6 * b + 4) n p2) (201 + 6 * b) 0 (nI (n + 1))) (201 + 6 * b) 0
set_option maxHeartbeats 4000000 in
set_option maxRecDepth 100000 in
theorem k_X2_append (l : Launch) (D : va_G) (ad : Nat → Nat) (cs : Nat → ClassId) (sz : Nat) (M : wM) (J : wJ) (b : Nat) (n : Nat) (k : Int32) (x : Int32) (p1 : Int32) (p2 : Int32) (hb16 : b < 16) (hn : M (201 + 6 * b) 0 = nI n) (hn8 : n < 8) : wCi l yX2_append wsX2_append { frames := 0, cells := 0, slots := 0, locals := 0 } D 340 cSh ad cs [.ref (ad (201 + 6 * b)), .int k, .int x, .int p1, .int p2] sz M J (fun r_ u_ => u_ = (F_X2_append M b n k x p1 p2, J) ∧ r_ = E_X2_append M b n k x p1 p2) := by
  refine wC_i (cc := cX2_append) (maxL := 6) (ret := (some .int)) (by decide) rfl (Nat.le_of_ble_eq_true rfl) ?_
  intro p e s m below meth c ls A hx hb hr hml hown hts hlocks hK hA hw hl hAe
  clear hAe
  have hl : lv_has ls 6 [(0, .ref (ad (201 + 6 * b))), (1, .int k), (2, .int x), (3, .int p1), (4, .int p2)] := hl
  have f9 : (Cond.fieldLink RX2 9 "RangePropagator$Block" "statementCount" "I").before _ s = true := hts _ (by decide +kernel)
  have iX2 : ∀ w ∈ wsX20, w ∈ wsX2_append := by decide +kernel
  have f15 : (Cond.fieldLink RX2 15 "RangePropagator$Block" "kinds" "[I").before _ s = true := hts _ (by decide +kernel)
  have f19 : (Cond.fieldLink RX2 19 "RangePropagator$Block" "targets" "[I").before _ s = true := hts _ (by decide +kernel)
  have f22 : (Cond.fieldLink RX2 22 "RangePropagator$Block" "firsts" "[I").before _ s = true := hts _ (by decide +kernel)
  have f25 : (Cond.fieldLink RX2 25 "RangePropagator$Block" "seconds" "[I").before _ s = true := hts _ (by decide +kernel)
  refine lv_aload_n hx hb dX2_append_0 rfl (lv_at hl 0 rfl) ?_
  refine wr_gi hx hb hown hK hts iX2 (ci := 1) rfl 0 (by decide) f9 rfl hw (201 + 6 * b) (by omega) (cs_B (by omega)) rfl dX2_append_1 ?_
  rw [show M (201 + 6 * b) 0 = nI n from hn]
  refine lv_istore (lv' := [(5, .int (nI n)), (0, .ref (ad (201 + 6 * b))), (1, .int k), (2, .int x), (3, .int p1), (4, .int p2)]) hx hb dX2_append_4 hl (by decide) rfl (fun ls hl => ?_)
  refine lv_iload hx hb dX2_append_6 (lv_at hl 0 rfl) ?_
  refine lv_bipush (v := nI 8) hx hb dX2_append_8 (by decide) ?_
  refine lv_icmp_ge (tgt := 54) hx hb dX2_append_10 (by decide) (fun q1 => ?_) (fun q1 => ?_)
  · have q1n : 8 ≤ n := (nI_leI (by omega) (by omega)).mp q1
    exfalso; omega
  · have q1n : ¬ 8 ≤ n := fun z => q1 ((nI_leI (by omega) (by omega)).mpr z)
    refine lv_aload_n hx hb dX2_append_13 rfl (lv_at hl 1 rfl) ?_
    refine wr_gr hx hb hown hK hts iX2 (ci := 1) rfl 1 (by decide) f15 rfl hw (201 + 6 * b) (by omega) (201 + 6 * b + 1) (cs_B (by omega)) rfl dX2_append_14 ?_
    refine lv_iload hx hb dX2_append_17 (lv_at hl 0 rfl) ?_
    refine lv_iload_n hx hb dX2_append_19 rfl (lv_at hl 2 rfl) ?_
    refine wr_istN hx hb hK hw (201 + 6 * b + 1) (by omega) (cs_B1 (by omega)) (by decide) n rfl (by omega) dX2_append_20 (fun H locs hw => ?_)
    refine lv_aload_n hx hb dX2_append_21 rfl (lv_at hl 1 rfl) ?_
    refine wr_gr hx hb hown hK hts iX2 (ci := 1) rfl 2 (by decide) f19 rfl hw (201 + 6 * b) (by omega) (201 + 6 * b + 2) (cs_B (by omega)) rfl dX2_append_22 ?_
    refine lv_iload hx hb dX2_append_25 (lv_at hl 0 rfl) ?_
    refine lv_iload_n hx hb dX2_append_27 rfl (lv_at hl 3 rfl) ?_
    refine wr_istN hx hb hK hw (201 + 6 * b + 2) (by omega) (cs_B2 (by omega)) (by decide) n rfl (by omega) dX2_append_28 (fun H locs hw => ?_)
    refine lv_aload_n hx hb dX2_append_29 rfl (lv_at hl 1 rfl) ?_
    refine wr_gr hx hb hown hK hts iX2 (ci := 1) rfl 3 (by decide) f22 rfl hw (201 + 6 * b) (by omega) (201 + 6 * b + 3) (cs_B (by omega)) rfl dX2_append_30 ?_
    refine lv_iload hx hb dX2_append_33 (lv_at hl 0 rfl) ?_
    refine lv_iload_n hx hb dX2_append_35 rfl (lv_at hl 4 rfl) ?_
    refine wr_istN hx hb hK hw (201 + 6 * b + 3) (by omega) (cs_B3 (by omega)) (by decide) n rfl (by omega) dX2_append_36 (fun H locs hw => ?_)
    refine lv_aload_n hx hb dX2_append_37 rfl (lv_at hl 1 rfl) ?_
    refine wr_gr hx hb hown hK hts iX2 (ci := 1) rfl 4 (by decide) f25 rfl hw (201 + 6 * b) (by omega) (201 + 6 * b + 4) (cs_B (by omega)) rfl dX2_append_38 ?_
    refine lv_iload hx hb dX2_append_41 (lv_at hl 0 rfl) ?_
    refine lv_iload hx hb dX2_append_43 (lv_at hl 5 rfl) ?_
    refine wr_istN hx hb hK hw (201 + 6 * b + 4) (by omega) (cs_B4 (by omega)) (by decide) n rfl (by omega) dX2_append_45 (fun H locs hw => ?_)
    refine lv_aload_n hx hb dX2_append_46 rfl (lv_at hl 1 rfl) ?_
    refine lv_iload hx hb dX2_append_47 (lv_at hl 0 rfl) ?_
    refine lv_iconst (v := nI 1) hx hb dX2_append_49 (by decide) ?_
    refine lv_iaddN hx hb dX2_append_50 ?_
    refine wr_pi hx hb hown hK hts iX2 tyX2_ok nmX2 (ci := 1) rfl 0 (by decide) f9 rfl rfl hw (201 + 6 * b) (by omega) (cs_B (by omega)) rfl rfl rfl dX2_append_51 (fun H locs hw => ?_)
    refine lv_aload_n hx hb dX2_append_54 rfl (lv_at hl 1 rfl) ?_
    refine wr_gi hx hb hown hK hts iX2 (ci := 1) rfl 0 (by decide) f9 rfl hw (201 + 6 * b) (by omega) (cs_B (by omega)) rfl dX2_append_55 ?_
    exact wr_iret hx hb hr rfl hK hw ⟨(by show (_, _) = (_, _); unfold F_X2_append; rfl), (by unfold E_X2_append; rfl)⟩ hlocks dX2_append_58
def F_X2_endWithJump (M : wM) (b : Nat) (a : Int32) : wM := (wU (wU M (201 + 6 * b) 5 (nI 1)) (201 + 6 * b + 5) 0 a)
set_option maxHeartbeats 4000000 in
set_option maxRecDepth 100000 in
theorem k_X2_endWithJump (l : Launch) (D : va_G) (ad : Nat → Nat) (cs : Nat → ClassId) (sz : Nat) (M : wM) (J : wJ) (b : Nat) (a : Int32) (hb16 : b < 16) : wCv l yX2_endWithJump wsX2_endWithJump { frames := 0, cells := 0, slots := 0, locals := 0 } D 340 cSh ad cs [.ref (ad (201 + 6 * b)), .int a] sz M J (fun u_ => u_ = (F_X2_endWithJump M b a, J)) := by
  refine wC_v (cc := cX2_endWithJump) (maxL := 2) (ret := none) (by decide) rfl (Nat.le_of_ble_eq_true rfl) ?_
  intro p e s m below meth c ls A hx hb hr hml hown hts hlocks hK hA hw hl hAe
  clear hAe
  have hl : lv_has ls 2 [(0, .ref (ad (201 + 6 * b))), (1, .int a)] := hl
  have f28 : (Cond.fieldLink RX2 28 "RangePropagator$Block" "edgeCount" "I").before _ s = true := hts _ (by decide +kernel)
  have iX2 : ∀ w ∈ wsX20, w ∈ wsX2_endWithJump := by decide +kernel
  have f31 : (Cond.fieldLink RX2 31 "RangePropagator$Block" "followers" "[I").before _ s = true := hts _ (by decide +kernel)
  refine lv_aload_n hx hb dX2_endWithJump_0 rfl (lv_at hl 0 rfl) ?_
  refine lv_iconst (v := nI 1) hx hb dX2_endWithJump_1 (by decide) ?_
  refine wr_pi hx hb hown hK hts iX2 tyX2_ok nmX2 (ci := 1) rfl 5 (by decide) f28 rfl rfl hw (201 + 6 * b) (by omega) (cs_B (by omega)) rfl rfl rfl dX2_endWithJump_2 (fun H locs hw => ?_)
  refine lv_aload_n hx hb dX2_endWithJump_5 rfl (lv_at hl 0 rfl) ?_
  refine wr_gr hx hb hown hK hts iX2 (ci := 1) rfl 6 (by decide) f31 rfl hw (201 + 6 * b) (by omega) (201 + 6 * b + 5) (cs_B (by omega)) rfl dX2_endWithJump_6 ?_
  refine lv_iconst (v := nI 0) hx hb dX2_endWithJump_9 (by decide) ?_
  refine lv_iload_n hx hb dX2_endWithJump_10 rfl (lv_at hl 1 rfl) ?_
  refine wr_istN hx hb hK hw (201 + 6 * b + 5) (by omega) (cs_B5 (by omega)) (by decide) 0 rfl (by omega) dX2_endWithJump_11 (fun H locs hw => ?_)
  exact wr_vret hx hb hr hK hw (by show (_, _) = (_, _); unfold F_X2_endWithJump; rfl) hlocks dX2_endWithJump_12
def F_X2_endWithBranch (M : wM) (b : Nat) (x : Int32) (r : Int32) (y : Int32) (a : Int32) (d : Int32) : wM := (wU (wU (wU (wU (wU (wU M (201 + 6 * b) 5 (nI 2)) (201 + 6 * b) 7 x) (201 + 6 * b) 9 r) (201 + 6 * b) 8 y) (201 + 6 * b + 5) 0 a) (201 + 6 * b + 5) 1 d)
set_option maxHeartbeats 4000000 in
set_option maxRecDepth 100000 in
theorem k_X2_endWithBranch (l : Launch) (D : va_G) (ad : Nat → Nat) (cs : Nat → ClassId) (sz : Nat) (M : wM) (J : wJ) (b : Nat) (x : Int32) (r : Int32) (y : Int32) (a : Int32) (d : Int32) (hb16 : b < 16) : wCv l yX2_endWithBranch wsX2_endWithBranch { frames := 0, cells := 0, slots := 0, locals := 0 } D 340 cSh ad cs [.ref (ad (201 + 6 * b)), .int x, .int r, .int y, .int a, .int d] sz M J (fun u_ => u_ = (F_X2_endWithBranch M b x r y a d, J)) := by
  refine wC_v (cc := cX2_endWithBranch) (maxL := 6) (ret := none) (by decide) rfl (Nat.le_of_ble_eq_true rfl) ?_
  intro p e s m below meth c ls A hx hb hr hml hown hts hlocks hK hA hw hl hAe
  clear hAe
  have hl : lv_has ls 6 [(0, .ref (ad (201 + 6 * b))), (1, .int x), (2, .int r), (3, .int y), (4, .int a), (5, .int d)] := hl
  have f28 : (Cond.fieldLink RX2 28 "RangePropagator$Block" "edgeCount" "I").before _ s = true := hts _ (by decide +kernel)
  have iX2 : ∀ w ∈ wsX20, w ∈ wsX2_endWithBranch := by decide +kernel
  have f34 : (Cond.fieldLink RX2 34 "RangePropagator$Block" "branchX" "I").before _ s = true := hts _ (by decide +kernel)
  have f40 : (Cond.fieldLink RX2 40 "RangePropagator$Block" "relation" "I").before _ s = true := hts _ (by decide +kernel)
  have f37 : (Cond.fieldLink RX2 37 "RangePropagator$Block" "branchY" "I").before _ s = true := hts _ (by decide +kernel)
  have f31 : (Cond.fieldLink RX2 31 "RangePropagator$Block" "followers" "[I").before _ s = true := hts _ (by decide +kernel)
  refine lv_aload_n hx hb dX2_endWithBranch_0 rfl (lv_at hl 0 rfl) ?_
  refine lv_iconst (v := nI 2) hx hb dX2_endWithBranch_1 (by decide) ?_
  refine wr_pi hx hb hown hK hts iX2 tyX2_ok nmX2 (ci := 1) rfl 5 (by decide) f28 rfl rfl hw (201 + 6 * b) (by omega) (cs_B (by omega)) rfl rfl rfl dX2_endWithBranch_2 (fun H locs hw => ?_)
  refine lv_aload_n hx hb dX2_endWithBranch_5 rfl (lv_at hl 0 rfl) ?_
  refine lv_iload_n hx hb dX2_endWithBranch_6 rfl (lv_at hl 1 rfl) ?_
  refine wr_pi hx hb hown hK hts iX2 tyX2_ok nmX2 (ci := 1) rfl 7 (by decide) f34 rfl rfl hw (201 + 6 * b) (by omega) (cs_B (by omega)) rfl rfl rfl dX2_endWithBranch_7 (fun H locs hw => ?_)
  refine lv_aload_n hx hb dX2_endWithBranch_10 rfl (lv_at hl 0 rfl) ?_
  refine lv_iload_n hx hb dX2_endWithBranch_11 rfl (lv_at hl 2 rfl) ?_
  refine wr_pi hx hb hown hK hts iX2 tyX2_ok nmX2 (ci := 1) rfl 9 (by decide) f40 rfl rfl hw (201 + 6 * b) (by omega) (cs_B (by omega)) rfl rfl rfl dX2_endWithBranch_12 (fun H locs hw => ?_)
  refine lv_aload_n hx hb dX2_endWithBranch_15 rfl (lv_at hl 0 rfl) ?_
  refine lv_iload_n hx hb dX2_endWithBranch_16 rfl (lv_at hl 3 rfl) ?_
  refine wr_pi hx hb hown hK hts iX2 tyX2_ok nmX2 (ci := 1) rfl 8 (by decide) f37 rfl rfl hw (201 + 6 * b) (by omega) (cs_B (by omega)) rfl rfl rfl dX2_endWithBranch_17 (fun H locs hw => ?_)
  refine lv_aload_n hx hb dX2_endWithBranch_20 rfl (lv_at hl 0 rfl) ?_
  refine wr_gr hx hb hown hK hts iX2 (ci := 1) rfl 6 (by decide) f31 rfl hw (201 + 6 * b) (by omega) (201 + 6 * b + 5) (cs_B (by omega)) rfl dX2_endWithBranch_21 ?_
  refine lv_iconst (v := nI 0) hx hb dX2_endWithBranch_24 (by decide) ?_
  refine lv_iload hx hb dX2_endWithBranch_25 (lv_at hl 4 rfl) ?_
  refine wr_istN hx hb hK hw (201 + 6 * b + 5) (by omega) (cs_B5 (by omega)) (by decide) 0 rfl (by omega) dX2_endWithBranch_27 (fun H locs hw => ?_)
  refine lv_aload_n hx hb dX2_endWithBranch_28 rfl (lv_at hl 0 rfl) ?_
  refine wr_gr hx hb hown hK hts iX2 (ci := 1) rfl 6 (by decide) f31 rfl hw (201 + 6 * b) (by omega) (201 + 6 * b + 5) (cs_B (by omega)) rfl dX2_endWithBranch_29 ?_
  refine lv_iconst (v := nI 1) hx hb dX2_endWithBranch_32 (by decide) ?_
  refine lv_iload hx hb dX2_endWithBranch_33 (lv_at hl 5 rfl) ?_
  refine wr_istN hx hb hK hw (201 + 6 * b + 5) (by omega) (cs_B5 (by omega)) (by decide) 1 rfl (by omega) dX2_endWithBranch_35 (fun H locs hw => ?_)
  exact wr_vret hx hb hr hK hw (by show (_, _) = (_, _); unfold F_X2_endWithBranch; rfl) hlocks dX2_endWithBranch_36
def F_X2_makeEmpty (M : wM) (b : Nat) : wM := (wU (wU M (201 + 6 * b) 0 (nI 0)) (201 + 6 * b) 5 (nI 0))
set_option maxHeartbeats 4000000 in
set_option maxRecDepth 100000 in
theorem k_X2_makeEmpty (l : Launch) (D : va_G) (ad : Nat → Nat) (cs : Nat → ClassId) (sz : Nat) (M : wM) (J : wJ) (b : Nat) (hb16 : b < 16) : wCv l yX2_makeEmpty wsX2_makeEmpty { frames := 0, cells := 0, slots := 0, locals := 0 } D 340 cSh ad cs [.ref (ad (201 + 6 * b))] sz M J (fun u_ => u_ = (F_X2_makeEmpty M b, J)) := by
  refine wC_v (cc := cX2_makeEmpty) (maxL := 1) (ret := none) (by decide) rfl (Nat.le_of_ble_eq_true rfl) ?_
  intro p e s m below meth c ls A hx hb hr hml hown hts hlocks hK hA hw hl hAe
  clear hAe
  have hl : lv_has ls 1 [(0, .ref (ad (201 + 6 * b)))] := hl
  have f9 : (Cond.fieldLink RX2 9 "RangePropagator$Block" "statementCount" "I").before _ s = true := hts _ (by decide +kernel)
  have iX2 : ∀ w ∈ wsX20, w ∈ wsX2_makeEmpty := by decide +kernel
  have f28 : (Cond.fieldLink RX2 28 "RangePropagator$Block" "edgeCount" "I").before _ s = true := hts _ (by decide +kernel)
  refine lv_aload_n hx hb dX2_makeEmpty_0 rfl (lv_at hl 0 rfl) ?_
  refine lv_iconst (v := nI 0) hx hb dX2_makeEmpty_1 (by decide) ?_
  refine wr_pi hx hb hown hK hts iX2 tyX2_ok nmX2 (ci := 1) rfl 0 (by decide) f9 rfl rfl hw (201 + 6 * b) (by omega) (cs_B (by omega)) rfl rfl rfl dX2_makeEmpty_2 (fun H locs hw => ?_)
  refine lv_aload_n hx hb dX2_makeEmpty_5 rfl (lv_at hl 0 rfl) ?_
  refine lv_iconst (v := nI 0) hx hb dX2_makeEmpty_6 (by decide) ?_
  refine wr_pi hx hb hown hK hts iX2 tyX2_ok nmX2 (ci := 1) rfl 5 (by decide) f28 rfl rfl hw (201 + 6 * b) (by omega) (cs_B (by omega)) rfl rfl rfl dX2_makeEmpty_7 (fun H locs hw => ?_)
  exact wr_vret hx hb hr hK hw (by show (_, _) = (_, _); unfold F_X2_makeEmpty; rfl) hlocks dX2_makeEmpty_10
set_option maxHeartbeats 4000000 in
set_option maxRecDepth 100000 in
theorem k_X2_applyTo (l : Launch) (D : va_G) (ad : Nat → Nat) (cs : Nat → ClassId) (sz : Nat) (M : wM) (J : wJ) (b : Nat) (i : Nat) (hb16 : b < 16) (hi : i < 67) (zi : bz (M (3 * i) 0)) (hB : blOK M b) : wCv l yX2_applyTo wsX2_applyTo { frames := 3, cells := 0, slots := 0, locals := 83 } D 340 cSh ad cs [.ref (ad (201 + 6 * b)), .ref (ad (3 * i))] sz M J (pS M J i (apB M b (sv M i))) := by
  refine wC_v (cc := cX2_applyTo) (maxL := 3) (ret := none) (by decide) rfl (Nat.le_of_ble_eq_true rfl) ?_
  intro p e s m below meth c ls A hx hb hr hml hown hts hlocks hK hA hw hl hAe
  clear hAe
  have hl : lv_has ls 3 [(0, .ref (ad (201 + 6 * b))), (1, .ref (ad (3 * i)))] := hl
  have f43 : (Cond.fieldLink RX2 43 "RangePropagator$State" "isNone" "Z").before _ s = true := hts _ (by decide +kernel)
  have iX7 : ∀ w ∈ wsX70, w ∈ wsX2_applyTo := by decide +kernel
  have f9 : (Cond.fieldLink RX2 9 "RangePropagator$Block" "statementCount" "I").before _ s = true := hts _ (by decide +kernel)
  have iX2 : ∀ w ∈ wsX20, w ∈ wsX2_applyTo := by decide +kernel
  have f15 : (Cond.fieldLink RX2 15 "RangePropagator$Block" "kinds" "[I").before _ s = true := hts _ (by decide +kernel)
  have f19 : (Cond.fieldLink RX2 19 "RangePropagator$Block" "targets" "[I").before _ s = true := hts _ (by decide +kernel)
  have f22 : (Cond.fieldLink RX2 22 "RangePropagator$Block" "firsts" "[I").before _ s = true := hts _ (by decide +kernel)
  have f25 : (Cond.fieldLink RX2 25 "RangePropagator$Block" "seconds" "[I").before _ s = true := hts _ (by decide +kernel)
  have hB8 : tn (M (201 + 6 * b) 0) ≤ 8 := hB.2.1
  refine lv_aload_n hx hb dX2_applyTo_0 rfl (lv_at hl 1 rfl) ?_
  refine wr_gi hx hb hown hK hts iX7 (ci := 6) rfl 0 (by decide) f43 rfl hw (3 * i) (by omega) (cs_S (by omega)) rfl dX2_applyTo_1 ?_
  refine lv_if_eq (tgt := 8) hx hb dX2_applyTo_4 (by decide) (fun q1 => ?_) (fun q1 => ?_)
  · skip
    refine lv_iconst (v := nI 0) hx hb dX2_applyTo_8 (by decide) ?_
    refine lv_istore_n (lv' := [(2, .int (nI 0)), (0, .ref (ad (201 + 6 * b))), (1, .ref (ad (3 * i)))]) hx hb dX2_applyTo_9 rfl hl (by decide) rfl (fun ls hl => ?_)
    refine w_loop (σ := Nat) (fun k M' J' ls => lv_has ls 3 [(0, .ref (ad (201 + 6 * b))), (1, .ref (ad (3 * i))), (2, .int (nI k))] ∧ J' = J ∧ k ≤ tn (M (201 + 6 * b) 0) ∧ Iap M b i k M') (fun k => tn (M (201 + 6 * b) 0) - k) (fun k M2 J1_ H locs ls hI hw ih3 => ?_) 0 ⟨lv_sub hl [1, 2, 0] rfl, rfl, by omega, ⟨kp_refl _ _, q1, rfl⟩⟩ hw
    obtain ⟨hl, eJ_, hk_, hI⟩ := hI
    rw [eJ_] at hw
    clear eJ_
    refine lv_iload_n hx hb dX2_applyTo_10 rfl (lv_at hl 2 rfl) ?_
    refine lv_aload_n hx hb dX2_applyTo_11 rfl (lv_at hl 0 rfl) ?_
    refine wr_gi hx hb hown hK hts iX2 (ci := 1) rfl 0 (by decide) f9 rfl hw (201 + 6 * b) (by omega) (cs_B (by omega)) rfl dX2_applyTo_12 ?_
    rw [show M2 (201 + 6 * b) 0 = nI (tn (M (201 + 6 * b) 0)) from ((congrFun (hI.1 (201 + 6 * b) (by unfold stc; omega)) 0).trans hB.1)]
    refine lv_icmp_ge (tgt := 99) hx hb dX2_applyTo_15 (by decide) (fun q4 => ?_) (fun q4 => ?_)
    · have q4n : (tn (M (201 + 6 * b) 0)) ≤ k := (nI_leI (by omega) (by omega)).mp q4
      exact wr_vret hx hb hr hK hw (p_ap2 (by have e : k = tn (M (201 + 6 * b) 0) := (by omega); rw [← e]; exact hI)) hlocks dX2_applyTo_99
    · have q4n : ¬ (tn (M (201 + 6 * b) 0)) ≤ k := fun z => q4 ((nI_leI (by omega) (by omega)).mpr z)
      refine lv_aload_n hx hb dX2_applyTo_18 rfl (lv_at hl 0 rfl) ?_
      refine wr_gr hx hb hown hK hts iX2 (ci := 1) rfl 1 (by decide) f15 rfl hw (201 + 6 * b) (by omega) (201 + 6 * b + 1) (cs_B (by omega)) rfl dX2_applyTo_19 ?_
      refine lv_iload_n hx hb dX2_applyTo_22 rfl (lv_at hl 2 rfl) ?_
      refine wr_ildN hx hb hK hw (201 + 6 * b + 1) (by omega) (cs_B1 (by omega)) (by decide) k rfl (by omega) dX2_applyTo_23 ?_
      rw [show M2 (201 + 6 * b + 1) k = M (201 + 6 * b + 1) k from (congrFun (hI.1 (201 + 6 * b + 1) (by unfold stc; omega)) k)]
      refine lv_bipush (v := nI 6) hx hb dX2_applyTo_24 (by decide) ?_
      refine lv_icmp_eq (tgt := 40) hx hb dX2_applyTo_26 (by decide) (fun q5 => ?_) (fun q5 => ?_)
      · skip
        refine lv_aload_n hx hb dX2_applyTo_40 rfl (lv_at hl 1 rfl) ?_
        refine lv_aload_n hx hb dX2_applyTo_41 rfl (lv_at hl 0 rfl) ?_
        refine wr_gr hx hb hown hK hts iX2 (ci := 1) rfl 2 (by decide) f19 rfl hw (201 + 6 * b) (by omega) (201 + 6 * b + 2) (cs_B (by omega)) rfl dX2_applyTo_42 ?_
        refine lv_iload_n hx hb dX2_applyTo_45 rfl (lv_at hl 2 rfl) ?_
        refine wr_ildN hx hb hK hw (201 + 6 * b + 2) (by omega) (cs_B2 (by omega)) (by decide) k rfl (by omega) dX2_applyTo_46 ?_
        rw [show M2 (201 + 6 * b + 2) k = nI (tn (M (201 + 6 * b + 2) k)) from ((congrFun (hI.1 (201 + 6 * b + 2) (by unfold stc; omega)) k).trans (hB.2.2 k (by omega)).1.1)]
        refine lv_aload_n hx hb dX2_applyTo_47 rfl (lv_at hl 0 rfl) ?_
        refine wr_gr hx hb hown hK hts iX2 (ci := 1) rfl 3 (by decide) f22 rfl hw (201 + 6 * b) (by omega) (201 + 6 * b + 3) (cs_B (by omega)) rfl dX2_applyTo_48 ?_
        refine lv_iload_n hx hb dX2_applyTo_51 rfl (lv_at hl 2 rfl) ?_
        refine wr_ildN hx hb hK hw (201 + 6 * b + 3) (by omega) (cs_B3 (by omega)) (by decide) k rfl (by omega) dX2_applyTo_52 ?_
        rw [show M2 (201 + 6 * b + 3) k = M (201 + 6 * b + 3) k from (congrFun (hI.1 (201 + 6 * b + 3) (by unfold stc; omega)) k)]
        refine lv_aload_n hx hb dX2_applyTo_53 rfl (lv_at hl 0 rfl) ?_
        refine wr_gr hx hb hown hK hts iX2 (ci := 1) rfl 4 (by decide) f25 rfl hw (201 + 6 * b) (by omega) (201 + 6 * b + 4) (cs_B (by omega)) rfl dX2_applyTo_54 ?_
        refine lv_iload_n hx hb dX2_applyTo_57 rfl (lv_at hl 2 rfl) ?_
        refine wr_ildN hx hb hK hw (201 + 6 * b + 4) (by omega) (cs_B4 (by omega)) (by decide) k rfl (by omega) dX2_applyTo_58 ?_
        rw [show M2 (201 + 6 * b + 4) k = M (201 + 6 * b + 4) k from (congrFun (hI.1 (201 + 6 * b + 4) (by unfold stc; omega)) k)]
        refine wr_cVv (k := 3 * i) (ci := 6) (As := [.int (nI (tn (M (201 + 6 * b + 2) k))), .int (M (201 + 6 * b + 3) k), .int (M (201 + 6 * b + 4) k)]) (rest := []) ⟨hx, hb, hml, hown, hts⟩ (cwV 3 hts gX2_applyTo_X7_setRange rfl rfl rfl (by decide +kernel) ⟨Nat.le_of_ble_eq_true rfl, Nat.le_of_ble_eq_true rfl⟩) hK hA hw (k_X7_setRange l D ad cs H.size M2 J i (tn (M (201 + 6 * b + 2) k)) (M (201 + 6 * b + 3) k) (M (201 + 6 * b + 4) k) (by omega) (hB.2.2 k (by omega)).1.2) (by omega) (cs_S (by omega)) rfl rfl rfl hl.1 (Nat.le_of_ble_eq_true rfl) ⟨Nat.le_of_ble_eq_true rfl, Nat.le_of_ble_eq_true rfl⟩ dX2_applyTo_59 (fun M7 J8 H locs h9 hw => ?_)
        cases h9
        refine lv_goto (tgt := 93) hx hb dX2_applyTo_62 (by decide) ?_
        refine lv_iinc (v := nI (k + 1)) (lv' := [(2, .int (nI (k + 1))), (0, .ref (ad (201 + 6 * b))), (1, .ref (ad (3 * i)))]) hx hb dX2_applyTo_93 hl (k := 2) rfl (nI_1 _) (by decide) rfl (fun ls hl => ?_)
        refine lv_goto (tgt := 10) hx hb dX2_applyTo_96 (by decide) ?_
        exact ih3 (k + 1) (F_X7_setRange M2 i (tn (M (201 + 6 * b + 2) k)) (M (201 + 6 * b + 3) k) (M (201 + 6 * b + 4) k)) J _ _ _ (by omega) ⟨lv_sub hl [1, 2, 0] rfl, rfl, by omega, Iap_set hI (hB.2.2 k (by omega)) (Or.inl q5)⟩ hw
      · skip
        refine lv_aload_n hx hb dX2_applyTo_29 rfl (lv_at hl 0 rfl) ?_
        refine wr_gr hx hb hown hK hts iX2 (ci := 1) rfl 1 (by decide) f15 rfl hw (201 + 6 * b) (by omega) (201 + 6 * b + 1) (cs_B (by omega)) rfl dX2_applyTo_30 ?_
        refine lv_iload_n hx hb dX2_applyTo_33 rfl (lv_at hl 2 rfl) ?_
        refine wr_ildN hx hb hK hw (201 + 6 * b + 1) (by omega) (cs_B1 (by omega)) (by decide) k rfl (by omega) dX2_applyTo_34 ?_
        rw [show M2 (201 + 6 * b + 1) k = M (201 + 6 * b + 1) k from (congrFun (hI.1 (201 + 6 * b + 1) (by unfold stc; omega)) k)]
        refine lv_bipush (v := nI 7) hx hb dX2_applyTo_35 (by decide) ?_
        refine lv_icmp_ne (tgt := 65) hx hb dX2_applyTo_37 (by decide) (fun q10 => ?_) (fun q10 => ?_)
        · skip
          refine lv_aload_n hx hb dX2_applyTo_65 rfl (lv_at hl 1 rfl) ?_
          refine lv_aload_n hx hb dX2_applyTo_66 rfl (lv_at hl 0 rfl) ?_
          refine wr_gr hx hb hown hK hts iX2 (ci := 1) rfl 1 (by decide) f15 rfl hw (201 + 6 * b) (by omega) (201 + 6 * b + 1) (cs_B (by omega)) rfl dX2_applyTo_67 ?_
          refine lv_iload_n hx hb dX2_applyTo_70 rfl (lv_at hl 2 rfl) ?_
          refine wr_ildN hx hb hK hw (201 + 6 * b + 1) (by omega) (cs_B1 (by omega)) (by decide) k rfl (by omega) dX2_applyTo_71 ?_
          rw [show M2 (201 + 6 * b + 1) k = M (201 + 6 * b + 1) k from (congrFun (hI.1 (201 + 6 * b + 1) (by unfold stc; omega)) k)]
          refine lv_aload_n hx hb dX2_applyTo_72 rfl (lv_at hl 0 rfl) ?_
          refine wr_gr hx hb hown hK hts iX2 (ci := 1) rfl 2 (by decide) f19 rfl hw (201 + 6 * b) (by omega) (201 + 6 * b + 2) (cs_B (by omega)) rfl dX2_applyTo_73 ?_
          refine lv_iload_n hx hb dX2_applyTo_76 rfl (lv_at hl 2 rfl) ?_
          refine wr_ildN hx hb hK hw (201 + 6 * b + 2) (by omega) (cs_B2 (by omega)) (by decide) k rfl (by omega) dX2_applyTo_77 ?_
          rw [show M2 (201 + 6 * b + 2) k = nI (tn (M (201 + 6 * b + 2) k)) from ((congrFun (hI.1 (201 + 6 * b + 2) (by unfold stc; omega)) k).trans (hB.2.2 k (by omega)).1.1)]
          refine lv_aload_n hx hb dX2_applyTo_78 rfl (lv_at hl 0 rfl) ?_
          refine wr_gr hx hb hown hK hts iX2 (ci := 1) rfl 3 (by decide) f22 rfl hw (201 + 6 * b) (by omega) (201 + 6 * b + 3) (cs_B (by omega)) rfl dX2_applyTo_79 ?_
          refine lv_iload_n hx hb dX2_applyTo_82 rfl (lv_at hl 2 rfl) ?_
          refine wr_ildN hx hb hK hw (201 + 6 * b + 3) (by omega) (cs_B3 (by omega)) (by decide) k rfl (by omega) dX2_applyTo_83 ?_
          rw [show M2 (201 + 6 * b + 3) k = nI (tn (M (201 + 6 * b + 3) k)) from ((congrFun (hI.1 (201 + 6 * b + 3) (by unfold stc; omega)) k).trans ((hB.2.2 k (by omega)).2 (fun z => z.elim q5 q10)).1.1)]
          refine lv_aload_n hx hb dX2_applyTo_84 rfl (lv_at hl 0 rfl) ?_
          refine wr_gr hx hb hown hK hts iX2 (ci := 1) rfl 4 (by decide) f25 rfl hw (201 + 6 * b) (by omega) (201 + 6 * b + 4) (cs_B (by omega)) rfl dX2_applyTo_85 ?_
          refine lv_iload_n hx hb dX2_applyTo_88 rfl (lv_at hl 2 rfl) ?_
          refine wr_ildN hx hb hK hw (201 + 6 * b + 4) (by omega) (cs_B4 (by omega)) (by decide) k rfl (by omega) dX2_applyTo_89 ?_
          rw [show M2 (201 + 6 * b + 4) k = nI (tn (M (201 + 6 * b + 4) k)) from ((congrFun (hI.1 (201 + 6 * b + 4) (by unfold stc; omega)) k).trans ((hB.2.2 k (by omega)).2 (fun z => z.elim q5 q10)).2.1)]
          refine wr_cVv (k := 3 * i) (ci := 6) (As := [.int (M (201 + 6 * b + 1) k), .int (nI (tn (M (201 + 6 * b + 2) k))), .int (nI (tn (M (201 + 6 * b + 3) k))), .int (nI (tn (M (201 + 6 * b + 4) k)))]) (rest := []) ⟨hx, hb, hml, hown, hts⟩ (cwV 4 hts gX2_applyTo_X7_assign rfl rfl rfl (by decide +kernel) ⟨Nat.le_of_ble_eq_true rfl, Nat.le_of_ble_eq_true rfl⟩) hK hA hw (k_X7_assign l D ad cs H.size M2 J i (M (201 + 6 * b + 1) k) (tn (M (201 + 6 * b + 2) k)) (tn (M (201 + 6 * b + 3) k)) (tn (M (201 + 6 * b + 4) k)) (by omega) (hB.2.2 k (by omega)).1.2 ((hB.2.2 k (by omega)).2 (fun z => z.elim q5 q10)).1.2 ((hB.2.2 k (by omega)).2 (fun z => z.elim q5 q10)).2.2) (by omega) (cs_S (by omega)) rfl rfl rfl hl.1 (Nat.le_of_ble_eq_true rfl) ⟨Nat.le_of_ble_eq_true rfl, Nat.le_of_ble_eq_true rfl⟩ dX2_applyTo_90 (fun M12 J13 H locs h14 hw => ?_)
          cases h14
          refine lv_iinc (v := nI (k + 1)) (lv' := [(2, .int (nI (k + 1))), (0, .ref (ad (201 + 6 * b))), (1, .ref (ad (3 * i)))]) hx hb dX2_applyTo_93 hl (k := 2) rfl (nI_1 _) (by decide) rfl (fun ls hl => ?_)
          refine lv_goto (tgt := 10) hx hb dX2_applyTo_96 (by decide) ?_
          exact ih3 (k + 1) (F_X7_assign M2 i (M (201 + 6 * b + 1) k) (tn (M (201 + 6 * b + 2) k)) (tn (M (201 + 6 * b + 3) k)) (tn (M (201 + 6 * b + 4) k))) J _ _ _ (by omega) ⟨lv_sub hl [1, 2, 0] rfl, rfl, by omega, Iap_as hI (hB.2.2 k (by omega)) (fun z => z.elim q5 q10)⟩ hw
        · skip
          refine lv_aload_n hx hb dX2_applyTo_40 rfl (lv_at hl 1 rfl) ?_
          refine lv_aload_n hx hb dX2_applyTo_41 rfl (lv_at hl 0 rfl) ?_
          refine wr_gr hx hb hown hK hts iX2 (ci := 1) rfl 2 (by decide) f19 rfl hw (201 + 6 * b) (by omega) (201 + 6 * b + 2) (cs_B (by omega)) rfl dX2_applyTo_42 ?_
          refine lv_iload_n hx hb dX2_applyTo_45 rfl (lv_at hl 2 rfl) ?_
          refine wr_ildN hx hb hK hw (201 + 6 * b + 2) (by omega) (cs_B2 (by omega)) (by decide) k rfl (by omega) dX2_applyTo_46 ?_
          rw [show M2 (201 + 6 * b + 2) k = nI (tn (M (201 + 6 * b + 2) k)) from ((congrFun (hI.1 (201 + 6 * b + 2) (by unfold stc; omega)) k).trans (hB.2.2 k (by omega)).1.1)]
          refine lv_aload_n hx hb dX2_applyTo_47 rfl (lv_at hl 0 rfl) ?_
          refine wr_gr hx hb hown hK hts iX2 (ci := 1) rfl 3 (by decide) f22 rfl hw (201 + 6 * b) (by omega) (201 + 6 * b + 3) (cs_B (by omega)) rfl dX2_applyTo_48 ?_
          refine lv_iload_n hx hb dX2_applyTo_51 rfl (lv_at hl 2 rfl) ?_
          refine wr_ildN hx hb hK hw (201 + 6 * b + 3) (by omega) (cs_B3 (by omega)) (by decide) k rfl (by omega) dX2_applyTo_52 ?_
          rw [show M2 (201 + 6 * b + 3) k = M (201 + 6 * b + 3) k from (congrFun (hI.1 (201 + 6 * b + 3) (by unfold stc; omega)) k)]
          refine lv_aload_n hx hb dX2_applyTo_53 rfl (lv_at hl 0 rfl) ?_
          refine wr_gr hx hb hown hK hts iX2 (ci := 1) rfl 4 (by decide) f25 rfl hw (201 + 6 * b) (by omega) (201 + 6 * b + 4) (cs_B (by omega)) rfl dX2_applyTo_54 ?_
          refine lv_iload_n hx hb dX2_applyTo_57 rfl (lv_at hl 2 rfl) ?_
          refine wr_ildN hx hb hK hw (201 + 6 * b + 4) (by omega) (cs_B4 (by omega)) (by decide) k rfl (by omega) dX2_applyTo_58 ?_
          rw [show M2 (201 + 6 * b + 4) k = M (201 + 6 * b + 4) k from (congrFun (hI.1 (201 + 6 * b + 4) (by unfold stc; omega)) k)]
          refine wr_cVv (k := 3 * i) (ci := 6) (As := [.int (nI (tn (M (201 + 6 * b + 2) k))), .int (M (201 + 6 * b + 3) k), .int (M (201 + 6 * b + 4) k)]) (rest := []) ⟨hx, hb, hml, hown, hts⟩ (cwV 3 hts gX2_applyTo_X7_setRange rfl rfl rfl (by decide +kernel) ⟨Nat.le_of_ble_eq_true rfl, Nat.le_of_ble_eq_true rfl⟩) hK hA hw (k_X7_setRange l D ad cs H.size M2 J i (tn (M (201 + 6 * b + 2) k)) (M (201 + 6 * b + 3) k) (M (201 + 6 * b + 4) k) (by omega) (hB.2.2 k (by omega)).1.2) (by omega) (cs_S (by omega)) rfl rfl rfl hl.1 (Nat.le_of_ble_eq_true rfl) ⟨Nat.le_of_ble_eq_true rfl, Nat.le_of_ble_eq_true rfl⟩ dX2_applyTo_59 (fun M16 J17 H locs h18 hw => ?_)
          cases h18
          refine lv_goto (tgt := 93) hx hb dX2_applyTo_62 (by decide) ?_
          refine lv_iinc (v := nI (k + 1)) (lv' := [(2, .int (nI (k + 1))), (0, .ref (ad (201 + 6 * b))), (1, .ref (ad (3 * i)))]) hx hb dX2_applyTo_93 hl (k := 2) rfl (nI_1 _) (by decide) rfl (fun ls hl => ?_)
          refine lv_goto (tgt := 10) hx hb dX2_applyTo_96 (by decide) ?_
          exact ih3 (k + 1) (F_X7_setRange M2 i (tn (M (201 + 6 * b + 2) k)) (M (201 + 6 * b + 3) k) (M (201 + 6 * b + 4) k)) J _ _ _ (by omega) ⟨lv_sub hl [1, 2, 0] rfl, rfl, by omega, Iap_set hI (hB.2.2 k (by omega)) (Or.inr q10)⟩ hw
  · skip
    exact wr_vret hx hb hr hK hw (p_ap1 zi q1) hlocks dX2_applyTo_7
set_option maxHeartbeats 4000000 in
set_option maxRecDepth 100000 in
theorem k_X2_refineForEdge (l : Launch) (D : va_G) (ad : Nat → Nat) (cs : Nat → ClassId) (sz : Nat) (M : wM) (J : wJ) (b : Nat) (i : Nat) (e1 : Nat) (hb16 : b < 16) (hi : i < 67) (he2 : e1 < 2) (zi : bz (M (3 * i) 0)) (hE : edOK M b) : wCv l yX2_refineForEdge wsX2_refineForEdge { frames := 3, cells := 0, slots := 0, locals := 78 } D 340 cSh ad cs [.ref (ad (201 + 6 * b)), .ref (ad (3 * i)), .int (nI e1)] sz M J (pS M J i (edB M b e1 (sv M i))) := by
  refine wC_v (cc := cX2_refineForEdge) (maxL := 3) (ret := none) (by decide) rfl (Nat.le_of_ble_eq_true rfl) ?_
  intro p e s m below meth c ls A hx hb hr hml hown hts hlocks hK hA hw hl hAe
  clear hAe
  have hl : lv_has ls 3 [(0, .ref (ad (201 + 6 * b))), (1, .ref (ad (3 * i))), (2, .int (nI e1))] := hl
  have f43 : (Cond.fieldLink RX2 43 "RangePropagator$State" "isNone" "Z").before _ s = true := hts _ (by decide +kernel)
  have iX7 : ∀ w ∈ wsX70, w ∈ wsX2_refineForEdge := by decide +kernel
  have f28 : (Cond.fieldLink RX2 28 "RangePropagator$Block" "edgeCount" "I").before _ s = true := hts _ (by decide +kernel)
  have iX2 : ∀ w ∈ wsX20, w ∈ wsX2_refineForEdge := by decide +kernel
  have f37 : (Cond.fieldLink RX2 37 "RangePropagator$Block" "branchY" "I").before _ s = true := hts _ (by decide +kernel)
  have f40 : (Cond.fieldLink RX2 40 "RangePropagator$Block" "relation" "I").before _ s = true := hts _ (by decide +kernel)
  have f34 : (Cond.fieldLink RX2 34 "RangePropagator$Block" "branchX" "I").before _ s = true := hts _ (by decide +kernel)
  have hE2 : tn (M (201 + 6 * b) 5) ≤ 2 := hE.2.1
  refine lv_aload_n hx hb dX2_refineForEdge_0 rfl (lv_at hl 1 rfl) ?_
  refine wr_gi hx hb hown hK hts iX7 (ci := 6) rfl 0 (by decide) f43 rfl hw (3 * i) (by omega) (cs_S (by omega)) rfl dX2_refineForEdge_1 ?_
  refine lv_if_ne (tgt := 15) hx hb dX2_refineForEdge_4 (by decide) (fun q1 => ?_) (fun q1 => ?_)
  · skip
    exact wr_vret hx hb hr hK hw (p_ed1 zi q1) hlocks dX2_refineForEdge_15
  · skip
    refine lv_aload_n hx hb dX2_refineForEdge_7 rfl (lv_at hl 0 rfl) ?_
    refine wr_gi hx hb hown hK hts iX2 (ci := 1) rfl 5 (by decide) f28 rfl hw (201 + 6 * b) (by omega) (cs_B (by omega)) rfl dX2_refineForEdge_8 ?_
    rw [show M (201 + 6 * b) 5 = nI (tn (M (201 + 6 * b) 5)) from hE.1]
    refine lv_iconst (v := nI 2) hx hb dX2_refineForEdge_11 (by decide) ?_
    refine lv_icmp_ge (tgt := 16) hx hb dX2_refineForEdge_12 (by decide) (fun q2 => ?_) (fun q2 => ?_)
    · have q2n : 2 ≤ (tn (M (201 + 6 * b) 5)) := (nI_leI (by omega) (by omega)).mp q2
      refine lv_iload_n hx hb dX2_refineForEdge_16 rfl (lv_at hl 2 rfl) ?_
      refine lv_if_ne (tgt := 39) hx hb dX2_refineForEdge_17 (by decide) (fun q3 => ?_) (fun q3 => ?_)
      · skip
        refine lv_aload_n hx hb dX2_refineForEdge_39 rfl (lv_at hl 1 rfl) ?_
        refine lv_aload_n hx hb dX2_refineForEdge_40 rfl (lv_at hl 0 rfl) ?_
        refine wr_gi hx hb hown hK hts iX2 (ci := 1) rfl 8 (by decide) f37 rfl hw (201 + 6 * b) (by omega) (cs_B (by omega)) rfl dX2_refineForEdge_41 ?_
        rw [show M (201 + 6 * b) 8 = nI (tn (M (201 + 6 * b) 8)) from (hE.2.2 (by omega)).2.1]
        refine lv_aload_n hx hb dX2_refineForEdge_44 rfl (lv_at hl 0 rfl) ?_
        refine wr_gi hx hb hown hK hts iX2 (ci := 1) rfl 9 (by decide) f40 rfl hw (201 + 6 * b) (by omega) (cs_B (by omega)) rfl dX2_refineForEdge_45 ?_
        refine wr_cSi (As := [.int (M (201 + 6 * b) 9)]) (rest := [.int (nI (tn (M (201 + 6 * b) 8))), .ref (ad (3 * i))]) ⟨hx, hb, hml, hown, hts⟩ (va_cwS 1 hts gX2_refineForEdge_X1_oppositeOfSwapped rfl rfl rfl (by decide +kernel) ⟨Nat.le_of_ble_eq_true rfl, Nat.le_of_ble_eq_true rfl⟩) hK hA hw (k_X1_oppositeOfSwapped l D ad cs s.heap.size M J (M (201 + 6 * b) 9) ) rfl rfl hl.1 (Nat.le_of_ble_eq_true rfl) ⟨Nat.le_of_ble_eq_true rfl, Nat.le_of_ble_eq_true rfl⟩ dX2_refineForEdge_48 (fun r4 M5 J6 H locs h7 hw => ?_)
        obtain ⟨h7, rfl⟩ := h7
        cases h7
        refine lv_aload_n hx hb dX2_refineForEdge_51 rfl (lv_at hl 0 rfl) ?_
        refine wr_gi hx hb hown hK hts iX2 (ci := 1) rfl 7 (by decide) f34 rfl hw (201 + 6 * b) (by omega) (cs_B (by omega)) rfl dX2_refineForEdge_52 ?_
        rw [show M (201 + 6 * b) 7 = nI (tn (M (201 + 6 * b) 7)) from (hE.2.2 (by omega)).1.1]
        refine wr_cVv (k := 3 * i) (ci := 6) (As := [.int (nI (tn (M (201 + 6 * b) 8))), .int (E_X1_oppositeOfSwapped M (M (201 + 6 * b) 9)), .int (nI (tn (M (201 + 6 * b) 7)))]) (rest := []) ⟨hx, hb, hml, hown, hts⟩ (cwV 3 hts gX2_refineForEdge_X7_refine rfl rfl rfl (by decide +kernel) ⟨Nat.le_of_ble_eq_true rfl, Nat.le_of_ble_eq_true rfl⟩) hK hA hw (k_X7_refine l D ad cs H.size M J i (tn (M (201 + 6 * b) 8)) (E_X1_oppositeOfSwapped M (M (201 + 6 * b) 9)) (tn (M (201 + 6 * b) 7)) (by omega) (hE.2.2 (by omega)).2.2 (hE.2.2 (by omega)).1.2) (by omega) (cs_S (by omega)) rfl rfl rfl hl.1 (Nat.le_of_ble_eq_true rfl) ⟨Nat.le_of_ble_eq_true rfl, Nat.le_of_ble_eq_true rfl⟩ dX2_refineForEdge_55 (fun M9 J10 H locs h11 hw => ?_)
        cases h11
        exact wr_vret hx hb hr hK hw (p_ed4 q1 hE (by omega) (fun z => q3 (by rw [z]; rfl))) hlocks dX2_refineForEdge_58
      · skip
        refine lv_aload_n hx hb dX2_refineForEdge_20 rfl (lv_at hl 1 rfl) ?_
        refine lv_aload_n hx hb dX2_refineForEdge_21 rfl (lv_at hl 0 rfl) ?_
        refine wr_gi hx hb hown hK hts iX2 (ci := 1) rfl 7 (by decide) f34 rfl hw (201 + 6 * b) (by omega) (cs_B (by omega)) rfl dX2_refineForEdge_22 ?_
        rw [show M (201 + 6 * b) 7 = nI (tn (M (201 + 6 * b) 7)) from (hE.2.2 (by omega)).1.1]
        refine lv_aload_n hx hb dX2_refineForEdge_25 rfl (lv_at hl 0 rfl) ?_
        refine wr_gi hx hb hown hK hts iX2 (ci := 1) rfl 9 (by decide) f40 rfl hw (201 + 6 * b) (by omega) (cs_B (by omega)) rfl dX2_refineForEdge_26 ?_
        refine lv_aload_n hx hb dX2_refineForEdge_29 rfl (lv_at hl 0 rfl) ?_
        refine wr_gi hx hb hown hK hts iX2 (ci := 1) rfl 8 (by decide) f37 rfl hw (201 + 6 * b) (by omega) (cs_B (by omega)) rfl dX2_refineForEdge_30 ?_
        rw [show M (201 + 6 * b) 8 = nI (tn (M (201 + 6 * b) 8)) from (hE.2.2 (by omega)).2.1]
        refine wr_cVv (k := 3 * i) (ci := 6) (As := [.int (nI (tn (M (201 + 6 * b) 7))), .int (M (201 + 6 * b) 9), .int (nI (tn (M (201 + 6 * b) 8)))]) (rest := []) ⟨hx, hb, hml, hown, hts⟩ (cwV 3 hts gX2_refineForEdge_X7_refine rfl rfl rfl (by decide +kernel) ⟨Nat.le_of_ble_eq_true rfl, Nat.le_of_ble_eq_true rfl⟩) hK hA hw (k_X7_refine l D ad cs s.heap.size M J i (tn (M (201 + 6 * b) 7)) (M (201 + 6 * b) 9) (tn (M (201 + 6 * b) 8)) (by omega) (hE.2.2 (by omega)).1.2 (hE.2.2 (by omega)).2.2) (by omega) (cs_S (by omega)) rfl rfl rfl hl.1 (Nat.le_of_ble_eq_true rfl) ⟨Nat.le_of_ble_eq_true rfl, Nat.le_of_ble_eq_true rfl⟩ dX2_refineForEdge_33 (fun M13 J14 H locs h15 hw => ?_)
        cases h15
        refine lv_goto (tgt := 58) hx hb dX2_refineForEdge_36 (by decide) ?_
        exact wr_vret hx hb hr hK hw (p_ed3 q1 hE (by omega) (eN0 (by omega) q3)) hlocks dX2_refineForEdge_58
    · have q2n : ¬ 2 ≤ (tn (M (201 + 6 * b) 5)) := fun z => q2 ((nI_leI (by omega) (by omega)).mpr z)
      exact wr_vret hx hb hr hK hw (p_ed2 zi (by omega)) hlocks dX2_refineForEdge_15
