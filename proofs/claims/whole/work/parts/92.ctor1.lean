/-! constructors of State, Block, Settings, Execution, Flow: laid by wip/gen/ctors.py -/
set_option maxHeartbeats 4000000 in
set_option maxRecDepth 100000 in
/-- State() -/
theorem c_X7_init (l : Launch) (D : va_G) (cs : Nat → ClassId)  : cMt l yX7_init wsX7_init { frames := 1, cells := 2, slots := 12, locals := 12 } D cs 6 [.int 0, .null, .null] [] 2 12 (isS cs) := by
  refine cM_of (cc := cX7_init) (maxL := 1) (by decide) rfl rfl (fun _ => (Nat.le_of_ble_eq_true rfl)) ?_
  intro q p e s m below meth c ls A hx hb hr hml hown hts hlocks hin hK hN hA hc hl
  have hl : lv_has ls 1 [(0, .ref q)] := hl
  have f9 : (Cond.fieldLink RX7 9 "RangePropagator$State" "isNone" "Z").before _ s = true := hts _ (by decide +kernel)
  have iX7 : ∀ w ∈ wsX70, w ∈ wsX7_init := by decide +kernel
  have f15 : (Cond.fieldLink RX7 15 "RangePropagator$State" "low" "[I").before _ s = true := hts _ (by decide +kernel)
  have f19 : (Cond.fieldLink RX7 19 "RangePropagator$State" "high" "[I").before _ s = true := hts _ (by decide +kernel)
  refine lv_aload_n hx hb dX7_init_0 rfl (lv_at hl 0 rfl) ?_
  refine vr_oi hx hb hown (hts (.methodLink RX7 3 objectInit) (by decide +kernel)) (hts (.instanceMethod objectInit) (by decide +kernel)) (hts (.code objectInit ⟨#[0xb1]⟩ 1 none) (by decide +kernel)) (hl.1.trans hml.symm) dX7_init_1 (Nat.le_of_ble_eq_true rfl) (Nat.le_of_ble_eq_true rfl) ?_
  refine lv_aload_n hx hb dX7_init_4 rfl (lv_at hl 0 rfl) ?_
  refine lv_iconst (v := nI 1) hx hb dX7_init_5 (by decide) ?_
  refine vr_pt hx hb hts iX7 tyX7_ok nmX7 hown hK hc 0 rfl rfl 0 (by decide) f9 rfl rfl (v := .int (nI 1)) (by decide) (by decide) (Nat.le_of_ble_eq_true rfl) dX7_init_6 (fun H locs hc => ?_)
  have hc : lC D A s.heap [(q, .inr (6, [.int (nI 1), .null, .null]))] H locs := hc
  refine lv_aload_n hx hb dX7_init_9 rfl (lv_at hl 0 rfl) ?_
  refine lv_bipush (v := nI 6) hx hb dX7_init_10 (by decide) ?_
  refine vr_na (N' := 6) hx hb (hts (.arrayClass .int) (by decide +kernel)) hK hA hc (by decide) (by decide) (Nat.le_of_ble_eq_true rfl) (Nat.le_of_ble_eq_true rfl) (Nat.le_of_ble_eq_true rfl) dX7_init_12 (fun q1 H hc => ?_)
  have hc : lC D A s.heap [(q1, .inl (cs 0, 6, .inl (fun _ => 0))), (q, .inr (6, [.int (nI 1), .null, .null]))] H locs := hc
  refine vr_pf hx hb hts iX7 tyX7_ok nmX7 hown hK hc 1 rfl rfl 1 (by decide) f15 rfl rfl hin rfl (v := .ref q1) rfl rfl (Nat.le_of_ble_eq_true rfl) dX7_init_14 (fun H locs hc => ?_)
  have hc : lC D A s.heap [(q1, .inl (cs 0, 6, .inl (fun _ => 0))), (q, .inr (6, [.int (nI 1), .ref q1, .null]))] H locs := hc
  refine lv_aload_n hx hb dX7_init_17 rfl (lv_at hl 0 rfl) ?_
  refine lv_bipush (v := nI 6) hx hb dX7_init_18 (by decide) ?_
  refine vr_na (N' := 6) hx hb (hts (.arrayClass .int) (by decide +kernel)) hK hA hc (by decide) (by decide) (Nat.le_of_ble_eq_true rfl) (Nat.le_of_ble_eq_true rfl) (Nat.le_of_ble_eq_true rfl) dX7_init_20 (fun q2 H hc => ?_)
  have hc : lC D A s.heap [(q2, .inl (cs 0, 6, .inl (fun _ => 0))), (q1, .inl (cs 0, 6, .inl (fun _ => 0))), (q, .inr (6, [.int (nI 1), .ref q1, .null]))] H locs := hc
  refine vr_pf hx hb hts iX7 tyX7_ok nmX7 hown hK hc 2 rfl rfl 2 (by decide) f19 rfl rfl hin rfl (v := .ref q2) rfl rfl (Nat.le_of_ble_eq_true rfl) dX7_init_22 (fun H locs hc => ?_)
  have hc : lC D A s.heap [(q2, .inl (cs 0, 6, .inl (fun _ => 0))), (q1, .inl (cs 0, 6, .inl (fun _ => 0))), (q, .inr (6, [.int (nI 1), .ref q1, .ref q2]))] H locs := hc
  exact vr_rt (oS cs (vl [q, q1, q2]) (nI 1)) ⟨vl [q, q1, q2], rfl, rfl⟩ hx hb hr hK (lC_perm hc (List.reverse_perm (oS cs (vl [q, q1, q2]) (nI 1)))) hlocks (Nat.le_of_ble_eq_true rfl) (Nat.le_of_ble_eq_true rfl) dX7_init_25
set_option maxHeartbeats 4000000 in
set_option maxRecDepth 100000 in
/-- Block() -/
theorem c_X2_init (l : Launch) (D : va_G) (cs : Nat → ClassId)  : cMt l yX2_init wsX2_init { frames := 1, cells := 5, slots := 34, locals := 12 } D cs 1 [.int 0, .null, .null, .null, .null, .int 0, .null, .int 0, .int 0, .int 0] [] 5 34 (isB cs) := by
  refine cM_of (cc := cX2_init) (maxL := 1) (by decide) rfl rfl (fun _ => (Nat.le_of_ble_eq_true rfl)) ?_
  intro q p e s m below meth c ls A hx hb hr hml hown hts hlocks hin hK hN hA hc hl
  have hl : lv_has ls 1 [(0, .ref q)] := hl
  have f9 : (Cond.fieldLink RX2 9 "RangePropagator$Block" "statementCount" "I").before _ s = true := hts _ (by decide +kernel)
  have iX2 : ∀ w ∈ wsX20, w ∈ wsX2_init := by decide +kernel
  have f15 : (Cond.fieldLink RX2 15 "RangePropagator$Block" "kinds" "[I").before _ s = true := hts _ (by decide +kernel)
  have f19 : (Cond.fieldLink RX2 19 "RangePropagator$Block" "targets" "[I").before _ s = true := hts _ (by decide +kernel)
  have f22 : (Cond.fieldLink RX2 22 "RangePropagator$Block" "firsts" "[I").before _ s = true := hts _ (by decide +kernel)
  have f25 : (Cond.fieldLink RX2 25 "RangePropagator$Block" "seconds" "[I").before _ s = true := hts _ (by decide +kernel)
  have f28 : (Cond.fieldLink RX2 28 "RangePropagator$Block" "edgeCount" "I").before _ s = true := hts _ (by decide +kernel)
  have f31 : (Cond.fieldLink RX2 31 "RangePropagator$Block" "followers" "[I").before _ s = true := hts _ (by decide +kernel)
  have f34 : (Cond.fieldLink RX2 34 "RangePropagator$Block" "branchX" "I").before _ s = true := hts _ (by decide +kernel)
  have f37 : (Cond.fieldLink RX2 37 "RangePropagator$Block" "branchY" "I").before _ s = true := hts _ (by decide +kernel)
  have f40 : (Cond.fieldLink RX2 40 "RangePropagator$Block" "relation" "I").before _ s = true := hts _ (by decide +kernel)
  refine lv_aload_n hx hb dX2_init_0 rfl (lv_at hl 0 rfl) ?_
  refine vr_oi hx hb hown (hts (.methodLink RX2 3 objectInit) (by decide +kernel)) (hts (.instanceMethod objectInit) (by decide +kernel)) (hts (.code objectInit ⟨#[0xb1]⟩ 1 none) (by decide +kernel)) (hl.1.trans hml.symm) dX2_init_1 (Nat.le_of_ble_eq_true rfl) (Nat.le_of_ble_eq_true rfl) ?_
  refine lv_aload_n hx hb dX2_init_4 rfl (lv_at hl 0 rfl) ?_
  refine lv_iconst (v := nI 0) hx hb dX2_init_5 (by decide) ?_
  refine vr_pt hx hb hts iX2 tyX2_ok nmX2 hown hK hc 0 rfl rfl 0 (by decide) f9 rfl rfl (v := .int (nI 0)) (by decide) (by decide) (Nat.le_of_ble_eq_true rfl) dX2_init_6 (fun H locs hc => ?_)
  have hc : lC D A s.heap [(q, .inr (1, [.int (nI 0), .null, .null, .null, .null, .int 0, .null, .int 0, .int 0, .int 0]))] H locs := hc
  refine lv_aload_n hx hb dX2_init_9 rfl (lv_at hl 0 rfl) ?_
  refine lv_bipush (v := nI 8) hx hb dX2_init_10 (by decide) ?_
  refine vr_na (N' := 8) hx hb (hts (.arrayClass .int) (by decide +kernel)) hK hA hc (by decide) (by decide) (Nat.le_of_ble_eq_true rfl) (Nat.le_of_ble_eq_true rfl) (Nat.le_of_ble_eq_true rfl) dX2_init_12 (fun q1 H hc => ?_)
  have hc : lC D A s.heap [(q1, .inl (cs 0, 8, .inl (fun _ => 0))), (q, .inr (1, [.int (nI 0), .null, .null, .null, .null, .int 0, .null, .int 0, .int 0, .int 0]))] H locs := hc
  refine vr_pf hx hb hts iX2 tyX2_ok nmX2 hown hK hc 1 rfl rfl 1 (by decide) f15 rfl rfl hin rfl (v := .ref q1) rfl rfl (Nat.le_of_ble_eq_true rfl) dX2_init_14 (fun H locs hc => ?_)
  have hc : lC D A s.heap [(q1, .inl (cs 0, 8, .inl (fun _ => 0))), (q, .inr (1, [.int (nI 0), .ref q1, .null, .null, .null, .int 0, .null, .int 0, .int 0, .int 0]))] H locs := hc
  refine lv_aload_n hx hb dX2_init_17 rfl (lv_at hl 0 rfl) ?_
  refine lv_bipush (v := nI 8) hx hb dX2_init_18 (by decide) ?_
  refine vr_na (N' := 8) hx hb (hts (.arrayClass .int) (by decide +kernel)) hK hA hc (by decide) (by decide) (Nat.le_of_ble_eq_true rfl) (Nat.le_of_ble_eq_true rfl) (Nat.le_of_ble_eq_true rfl) dX2_init_20 (fun q2 H hc => ?_)
  have hc : lC D A s.heap [(q2, .inl (cs 0, 8, .inl (fun _ => 0))), (q1, .inl (cs 0, 8, .inl (fun _ => 0))), (q, .inr (1, [.int (nI 0), .ref q1, .null, .null, .null, .int 0, .null, .int 0, .int 0, .int 0]))] H locs := hc
  refine vr_pf hx hb hts iX2 tyX2_ok nmX2 hown hK hc 2 rfl rfl 2 (by decide) f19 rfl rfl hin rfl (v := .ref q2) rfl rfl (Nat.le_of_ble_eq_true rfl) dX2_init_22 (fun H locs hc => ?_)
  have hc : lC D A s.heap [(q2, .inl (cs 0, 8, .inl (fun _ => 0))), (q1, .inl (cs 0, 8, .inl (fun _ => 0))), (q, .inr (1, [.int (nI 0), .ref q1, .ref q2, .null, .null, .int 0, .null, .int 0, .int 0, .int 0]))] H locs := hc
  refine lv_aload_n hx hb dX2_init_25 rfl (lv_at hl 0 rfl) ?_
  refine lv_bipush (v := nI 8) hx hb dX2_init_26 (by decide) ?_
  refine vr_na (N' := 8) hx hb (hts (.arrayClass .int) (by decide +kernel)) hK hA hc (by decide) (by decide) (Nat.le_of_ble_eq_true rfl) (Nat.le_of_ble_eq_true rfl) (Nat.le_of_ble_eq_true rfl) dX2_init_28 (fun q3 H hc => ?_)
  have hc : lC D A s.heap [(q3, .inl (cs 0, 8, .inl (fun _ => 0))), (q2, .inl (cs 0, 8, .inl (fun _ => 0))), (q1, .inl (cs 0, 8, .inl (fun _ => 0))), (q, .inr (1, [.int (nI 0), .ref q1, .ref q2, .null, .null, .int 0, .null, .int 0, .int 0, .int 0]))] H locs := hc
  refine vr_pf hx hb hts iX2 tyX2_ok nmX2 hown hK hc 3 rfl rfl 3 (by decide) f22 rfl rfl hin rfl (v := .ref q3) rfl rfl (Nat.le_of_ble_eq_true rfl) dX2_init_30 (fun H locs hc => ?_)
  have hc : lC D A s.heap [(q3, .inl (cs 0, 8, .inl (fun _ => 0))), (q2, .inl (cs 0, 8, .inl (fun _ => 0))), (q1, .inl (cs 0, 8, .inl (fun _ => 0))), (q, .inr (1, [.int (nI 0), .ref q1, .ref q2, .ref q3, .null, .int 0, .null, .int 0, .int 0, .int 0]))] H locs := hc
  refine lv_aload_n hx hb dX2_init_33 rfl (lv_at hl 0 rfl) ?_
  refine lv_bipush (v := nI 8) hx hb dX2_init_34 (by decide) ?_
  refine vr_na (N' := 8) hx hb (hts (.arrayClass .int) (by decide +kernel)) hK hA hc (by decide) (by decide) (Nat.le_of_ble_eq_true rfl) (Nat.le_of_ble_eq_true rfl) (Nat.le_of_ble_eq_true rfl) dX2_init_36 (fun q4 H hc => ?_)
  have hc : lC D A s.heap [(q4, .inl (cs 0, 8, .inl (fun _ => 0))), (q3, .inl (cs 0, 8, .inl (fun _ => 0))), (q2, .inl (cs 0, 8, .inl (fun _ => 0))), (q1, .inl (cs 0, 8, .inl (fun _ => 0))), (q, .inr (1, [.int (nI 0), .ref q1, .ref q2, .ref q3, .null, .int 0, .null, .int 0, .int 0, .int 0]))] H locs := hc
  refine vr_pf hx hb hts iX2 tyX2_ok nmX2 hown hK hc 4 rfl rfl 4 (by decide) f25 rfl rfl hin rfl (v := .ref q4) rfl rfl (Nat.le_of_ble_eq_true rfl) dX2_init_38 (fun H locs hc => ?_)
  have hc : lC D A s.heap [(q4, .inl (cs 0, 8, .inl (fun _ => 0))), (q3, .inl (cs 0, 8, .inl (fun _ => 0))), (q2, .inl (cs 0, 8, .inl (fun _ => 0))), (q1, .inl (cs 0, 8, .inl (fun _ => 0))), (q, .inr (1, [.int (nI 0), .ref q1, .ref q2, .ref q3, .ref q4, .int 0, .null, .int 0, .int 0, .int 0]))] H locs := hc
  refine lv_aload_n hx hb dX2_init_41 rfl (lv_at hl 0 rfl) ?_
  refine lv_iconst (v := nI 0) hx hb dX2_init_42 (by decide) ?_
  refine vr_pt hx hb hts iX2 tyX2_ok nmX2 hown hK hc 4 rfl rfl 5 (by decide) f28 rfl rfl (v := .int (nI 0)) (by decide) (by decide) (Nat.le_of_ble_eq_true rfl) dX2_init_43 (fun H locs hc => ?_)
  have hc : lC D A s.heap [(q4, .inl (cs 0, 8, .inl (fun _ => 0))), (q3, .inl (cs 0, 8, .inl (fun _ => 0))), (q2, .inl (cs 0, 8, .inl (fun _ => 0))), (q1, .inl (cs 0, 8, .inl (fun _ => 0))), (q, .inr (1, [.int (nI 0), .ref q1, .ref q2, .ref q3, .ref q4, .int (nI 0), .null, .int 0, .int 0, .int 0]))] H locs := hc
  refine lv_aload_n hx hb dX2_init_46 rfl (lv_at hl 0 rfl) ?_
  refine lv_iconst (v := nI 2) hx hb dX2_init_47 (by decide) ?_
  refine vr_na (N' := 2) hx hb (hts (.arrayClass .int) (by decide +kernel)) hK hA hc (by decide) (by decide) (Nat.le_of_ble_eq_true rfl) (Nat.le_of_ble_eq_true rfl) (Nat.le_of_ble_eq_true rfl) dX2_init_48 (fun q5 H hc => ?_)
  have hc : lC D A s.heap [(q5, .inl (cs 0, 2, .inl (fun _ => 0))), (q4, .inl (cs 0, 8, .inl (fun _ => 0))), (q3, .inl (cs 0, 8, .inl (fun _ => 0))), (q2, .inl (cs 0, 8, .inl (fun _ => 0))), (q1, .inl (cs 0, 8, .inl (fun _ => 0))), (q, .inr (1, [.int (nI 0), .ref q1, .ref q2, .ref q3, .ref q4, .int (nI 0), .null, .int 0, .int 0, .int 0]))] H locs := hc
  refine vr_pf hx hb hts iX2 tyX2_ok nmX2 hown hK hc 5 rfl rfl 6 (by decide) f31 rfl rfl hin rfl (v := .ref q5) rfl rfl (Nat.le_of_ble_eq_true rfl) dX2_init_50 (fun H locs hc => ?_)
  have hc : lC D A s.heap [(q5, .inl (cs 0, 2, .inl (fun _ => 0))), (q4, .inl (cs 0, 8, .inl (fun _ => 0))), (q3, .inl (cs 0, 8, .inl (fun _ => 0))), (q2, .inl (cs 0, 8, .inl (fun _ => 0))), (q1, .inl (cs 0, 8, .inl (fun _ => 0))), (q, .inr (1, [.int (nI 0), .ref q1, .ref q2, .ref q3, .ref q4, .int (nI 0), .ref q5, .int 0, .int 0, .int 0]))] H locs := hc
  refine lv_aload_n hx hb dX2_init_53 rfl (lv_at hl 0 rfl) ?_
  refine lv_iconst (v := nI 0) hx hb dX2_init_54 (by decide) ?_
  refine vr_pt hx hb hts iX2 tyX2_ok nmX2 hown hK hc 5 rfl rfl 7 (by decide) f34 rfl rfl (v := .int (nI 0)) (by decide) (by decide) (Nat.le_of_ble_eq_true rfl) dX2_init_55 (fun H locs hc => ?_)
  have hc : lC D A s.heap [(q5, .inl (cs 0, 2, .inl (fun _ => 0))), (q4, .inl (cs 0, 8, .inl (fun _ => 0))), (q3, .inl (cs 0, 8, .inl (fun _ => 0))), (q2, .inl (cs 0, 8, .inl (fun _ => 0))), (q1, .inl (cs 0, 8, .inl (fun _ => 0))), (q, .inr (1, [.int (nI 0), .ref q1, .ref q2, .ref q3, .ref q4, .int (nI 0), .ref q5, .int (nI 0), .int 0, .int 0]))] H locs := hc
  refine lv_aload_n hx hb dX2_init_58 rfl (lv_at hl 0 rfl) ?_
  refine lv_iconst (v := nI 0) hx hb dX2_init_59 (by decide) ?_
  refine vr_pt hx hb hts iX2 tyX2_ok nmX2 hown hK hc 5 rfl rfl 8 (by decide) f37 rfl rfl (v := .int (nI 0)) (by decide) (by decide) (Nat.le_of_ble_eq_true rfl) dX2_init_60 (fun H locs hc => ?_)
  have hc : lC D A s.heap [(q5, .inl (cs 0, 2, .inl (fun _ => 0))), (q4, .inl (cs 0, 8, .inl (fun _ => 0))), (q3, .inl (cs 0, 8, .inl (fun _ => 0))), (q2, .inl (cs 0, 8, .inl (fun _ => 0))), (q1, .inl (cs 0, 8, .inl (fun _ => 0))), (q, .inr (1, [.int (nI 0), .ref q1, .ref q2, .ref q3, .ref q4, .int (nI 0), .ref q5, .int (nI 0), .int (nI 0), .int 0]))] H locs := hc
  refine lv_aload_n hx hb dX2_init_63 rfl (lv_at hl 0 rfl) ?_
  refine lv_iconst (v := nI 0) hx hb dX2_init_64 (by decide) ?_
  refine vr_pt hx hb hts iX2 tyX2_ok nmX2 hown hK hc 5 rfl rfl 9 (by decide) f40 rfl rfl (v := .int (nI 0)) (by decide) (by decide) (Nat.le_of_ble_eq_true rfl) dX2_init_65 (fun H locs hc => ?_)
  have hc : lC D A s.heap [(q5, .inl (cs 0, 2, .inl (fun _ => 0))), (q4, .inl (cs 0, 8, .inl (fun _ => 0))), (q3, .inl (cs 0, 8, .inl (fun _ => 0))), (q2, .inl (cs 0, 8, .inl (fun _ => 0))), (q1, .inl (cs 0, 8, .inl (fun _ => 0))), (q, .inr (1, [.int (nI 0), .ref q1, .ref q2, .ref q3, .ref q4, .int (nI 0), .ref q5, .int (nI 0), .int (nI 0), .int (nI 0)]))] H locs := hc
  exact vr_rt (oB cs (vl [q, q1, q2, q3, q4, q5])) ⟨vl [q, q1, q2, q3, q4, q5], rfl, rfl⟩ hx hb hr hK (lC_perm hc (List.reverse_perm (oB cs (vl [q, q1, q2, q3, q4, q5])))) hlocks (Nat.le_of_ble_eq_true rfl) (Nat.le_of_ble_eq_true rfl) dX2_init_68
set_option maxHeartbeats 4000000 in
set_option maxRecDepth 100000 in
/-- Settings() -/
theorem c_X6_init (l : Launch) (D : va_G) (cs : Nat → ClassId)  : cMt l yX6_init wsX6_init { frames := 1, cells := 1, slots := 8, locals := 12 } D cs 5 [.int 0, .int 0, .int 0, .null] [] 1 8 (isT cs) := by
  refine cM_of (cc := cX6_init) (maxL := 1) (by decide) rfl rfl (fun _ => (Nat.le_of_ble_eq_true rfl)) ?_
  intro q p e s m below meth c ls A hx hb hr hml hown hts hlocks hin hK hN hA hc hl
  have hl : lv_has ls 1 [(0, .ref q)] := hl
  have f9 : (Cond.fieldLink RX6 9 "RangePropagator$Settings" "delay" "I").before _ s = true := hts _ (by decide +kernel)
  have iX6 : ∀ w ∈ wsX60, w ∈ wsX6_init := by decide +kernel
  have f15 : (Cond.fieldLink RX6 15 "RangePropagator$Settings" "narrowings" "I").before _ s = true := hts _ (by decide +kernel)
  have f18 : (Cond.fieldLink RX6 18 "RangePropagator$Settings" "thresholdCount" "I").before _ s = true := hts _ (by decide +kernel)
  have f21 : (Cond.fieldLink RX6 21 "RangePropagator$Settings" "thresholds" "[I").before _ s = true := hts _ (by decide +kernel)
  refine lv_aload_n hx hb dX6_init_0 rfl (lv_at hl 0 rfl) ?_
  refine vr_oi hx hb hown (hts (.methodLink RX6 3 objectInit) (by decide +kernel)) (hts (.instanceMethod objectInit) (by decide +kernel)) (hts (.code objectInit ⟨#[0xb1]⟩ 1 none) (by decide +kernel)) (hl.1.trans hml.symm) dX6_init_1 (Nat.le_of_ble_eq_true rfl) (Nat.le_of_ble_eq_true rfl) ?_
  refine lv_aload_n hx hb dX6_init_4 rfl (lv_at hl 0 rfl) ?_
  refine lv_iconst (v := nI 2) hx hb dX6_init_5 (by decide) ?_
  refine vr_pt hx hb hts iX6 tyX6_ok nmX6 hown hK hc 0 rfl rfl 0 (by decide) f9 rfl rfl (v := .int (nI 2)) (by decide) (by decide) (Nat.le_of_ble_eq_true rfl) dX6_init_6 (fun H locs hc => ?_)
  have hc : lC D A s.heap [(q, .inr (5, [.int (nI 2), .int 0, .int 0, .null]))] H locs := hc
  refine lv_aload_n hx hb dX6_init_9 rfl (lv_at hl 0 rfl) ?_
  refine lv_iconst (v := nI 1) hx hb dX6_init_10 (by decide) ?_
  refine vr_pt hx hb hts iX6 tyX6_ok nmX6 hown hK hc 0 rfl rfl 1 (by decide) f15 rfl rfl (v := .int (nI 1)) (by decide) (by decide) (Nat.le_of_ble_eq_true rfl) dX6_init_11 (fun H locs hc => ?_)
  have hc : lC D A s.heap [(q, .inr (5, [.int (nI 2), .int (nI 1), .int 0, .null]))] H locs := hc
  refine lv_aload_n hx hb dX6_init_14 rfl (lv_at hl 0 rfl) ?_
  refine lv_iconst (v := nI 0) hx hb dX6_init_15 (by decide) ?_
  refine vr_pt hx hb hts iX6 tyX6_ok nmX6 hown hK hc 0 rfl rfl 2 (by decide) f18 rfl rfl (v := .int (nI 0)) (by decide) (by decide) (Nat.le_of_ble_eq_true rfl) dX6_init_16 (fun H locs hc => ?_)
  have hc : lC D A s.heap [(q, .inr (5, [.int (nI 2), .int (nI 1), .int (nI 0), .null]))] H locs := hc
  refine lv_aload_n hx hb dX6_init_19 rfl (lv_at hl 0 rfl) ?_
  refine lv_bipush (v := nI 8) hx hb dX6_init_20 (by decide) ?_
  refine vr_na (N' := 8) hx hb (hts (.arrayClass .int) (by decide +kernel)) hK hA hc (by decide) (by decide) (Nat.le_of_ble_eq_true rfl) (Nat.le_of_ble_eq_true rfl) (Nat.le_of_ble_eq_true rfl) dX6_init_22 (fun q1 H hc => ?_)
  have hc : lC D A s.heap [(q1, .inl (cs 0, 8, .inl (fun _ => 0))), (q, .inr (5, [.int (nI 2), .int (nI 1), .int (nI 0), .null]))] H locs := hc
  refine vr_pf hx hb hts iX6 tyX6_ok nmX6 hown hK hc 1 rfl rfl 3 (by decide) f21 rfl rfl hin rfl (v := .ref q1) rfl rfl (Nat.le_of_ble_eq_true rfl) dX6_init_24 (fun H locs hc => ?_)
  have hc : lC D A s.heap [(q1, .inl (cs 0, 8, .inl (fun _ => 0))), (q, .inr (5, [.int (nI 2), .int (nI 1), .int (nI 0), .ref q1]))] H locs := hc
  exact vr_rt (oT cs (vl [q, q1])) ⟨vl [q, q1], rfl, rfl⟩ hx hb hr hK (lC_perm hc (List.reverse_perm (oT cs (vl [q, q1])))) hlocks (Nat.le_of_ble_eq_true rfl) (Nat.le_of_ble_eq_true rfl) dX6_init_27
set_option maxHeartbeats 4000000 in
set_option maxRecDepth 100000 in
/-- Execution() -/
theorem c_X3_init (l : Launch) (D : va_G) (cs : Nat → ClassId)  : cMt l yX3_init wsX3_init { frames := 1, cells := 3, slots := 2106, locals := 12 } D cs 2 [.null, .null, .null, .int 0, .long 0] [] 3 2106 (isQ cs) := by
  refine cM_of (cc := cX3_init) (maxL := 1) (by decide) rfl rfl (fun _ => (Nat.le_of_ble_eq_true rfl)) ?_
  intro q p e s m below meth c ls A hx hb hr hml hown hts hlocks hin hK hN hA hc hl
  have hl : lv_has ls 1 [(0, .ref q)] := hl
  have f9 : (Cond.fieldLink RX3 9 "RangePropagator$Execution" "values" "[I").before _ s = true := hts _ (by decide +kernel)
  have iX3 : ∀ w ∈ wsX30, w ∈ wsX3_init := by decide +kernel
  have f15 : (Cond.fieldLink RX3 15 "RangePropagator$Execution" "stepBlocks" "[I").before _ s = true := hts _ (by decide +kernel)
  have f18 : (Cond.fieldLink RX3 18 "RangePropagator$Execution" "stepValues" "[I").before _ s = true := hts _ (by decide +kernel)
  have f21 : (Cond.fieldLink RX3 21 "RangePropagator$Execution" "stepCount" "I").before _ s = true := hts _ (by decide +kernel)
  have f25 : (Cond.fieldLink RX3 25 "RangePropagator$Execution" "\x72" "J").before _ s = true := hts _ (by decide +kernel)
  refine lv_aload_n hx hb dX3_init_0 rfl (lv_at hl 0 rfl) ?_
  refine vr_oi hx hb hown (hts (.methodLink RX3 3 objectInit) (by decide +kernel)) (hts (.instanceMethod objectInit) (by decide +kernel)) (hts (.code objectInit ⟨#[0xb1]⟩ 1 none) (by decide +kernel)) (hl.1.trans hml.symm) dX3_init_1 (Nat.le_of_ble_eq_true rfl) (Nat.le_of_ble_eq_true rfl) ?_
  refine lv_aload_n hx hb dX3_init_4 rfl (lv_at hl 0 rfl) ?_
  refine lv_bipush (v := nI 6) hx hb dX3_init_5 (by decide) ?_
  refine vr_na (N' := 6) hx hb (hts (.arrayClass .int) (by decide +kernel)) hK hA hc (by decide) (by decide) (Nat.le_of_ble_eq_true rfl) (Nat.le_of_ble_eq_true rfl) (Nat.le_of_ble_eq_true rfl) dX3_init_7 (fun q1 H hc => ?_)
  have hc : lC D A s.heap [(q1, .inl (cs 0, 6, .inl (fun _ => 0))), (q, .inr (2, [.null, .null, .null, .int 0, .long 0]))] H [] := hc
  refine vr_pf hx hb hts iX3 tyX3_ok nmX3 hown hK hc 1 rfl rfl 0 (by decide) f9 rfl rfl hin rfl (v := .ref q1) rfl rfl (Nat.le_of_ble_eq_true rfl) dX3_init_9 (fun H locs hc => ?_)
  have hc : lC D A s.heap [(q1, .inl (cs 0, 6, .inl (fun _ => 0))), (q, .inr (2, [.ref q1, .null, .null, .int 0, .long 0]))] H locs := hc
  refine lv_aload_n hx hb dX3_init_12 rfl (lv_at hl 0 rfl) ?_
  refine lv_sipush (v := nI 300) hx hb dX3_init_13 (by decide) ?_
  refine vr_na (N' := 300) hx hb (hts (.arrayClass .int) (by decide +kernel)) hK hA hc (by decide) (by decide) (Nat.le_of_ble_eq_true rfl) (Nat.le_of_ble_eq_true rfl) (Nat.le_of_ble_eq_true rfl) dX3_init_16 (fun q2 H hc => ?_)
  have hc : lC D A s.heap [(q2, .inl (cs 0, 300, .inl (fun _ => 0))), (q1, .inl (cs 0, 6, .inl (fun _ => 0))), (q, .inr (2, [.ref q1, .null, .null, .int 0, .long 0]))] H locs := hc
  refine vr_pf hx hb hts iX3 tyX3_ok nmX3 hown hK hc 2 rfl rfl 1 (by decide) f15 rfl rfl hin rfl (v := .ref q2) rfl rfl (Nat.le_of_ble_eq_true rfl) dX3_init_18 (fun H locs hc => ?_)
  have hc : lC D A s.heap [(q2, .inl (cs 0, 300, .inl (fun _ => 0))), (q1, .inl (cs 0, 6, .inl (fun _ => 0))), (q, .inr (2, [.ref q1, .ref q2, .null, .int 0, .long 0]))] H locs := hc
  refine lv_aload_n hx hb dX3_init_21 rfl (lv_at hl 0 rfl) ?_
  refine lv_sipush (v := nI 1800) hx hb dX3_init_22 (by decide) ?_
  refine vr_na (N' := 1800) hx hb (hts (.arrayClass .int) (by decide +kernel)) hK hA hc (by decide) (by decide) (Nat.le_of_ble_eq_true rfl) (Nat.le_of_ble_eq_true rfl) (Nat.le_of_ble_eq_true rfl) dX3_init_25 (fun q3 H hc => ?_)
  have hc : lC D A s.heap [(q3, .inl (cs 0, 1800, .inl (fun _ => 0))), (q2, .inl (cs 0, 300, .inl (fun _ => 0))), (q1, .inl (cs 0, 6, .inl (fun _ => 0))), (q, .inr (2, [.ref q1, .ref q2, .null, .int 0, .long 0]))] H locs := hc
  refine vr_pf hx hb hts iX3 tyX3_ok nmX3 hown hK hc 3 rfl rfl 2 (by decide) f18 rfl rfl hin rfl (v := .ref q3) rfl rfl (Nat.le_of_ble_eq_true rfl) dX3_init_27 (fun H locs hc => ?_)
  have hc : lC D A s.heap [(q3, .inl (cs 0, 1800, .inl (fun _ => 0))), (q2, .inl (cs 0, 300, .inl (fun _ => 0))), (q1, .inl (cs 0, 6, .inl (fun _ => 0))), (q, .inr (2, [.ref q1, .ref q2, .ref q3, .int 0, .long 0]))] H locs := hc
  refine lv_aload_n hx hb dX3_init_30 rfl (lv_at hl 0 rfl) ?_
  refine lv_iconst (v := nI 0) hx hb dX3_init_31 (by decide) ?_
  refine vr_pt hx hb hts iX3 tyX3_ok nmX3 hown hK hc 3 rfl rfl 3 (by decide) f21 rfl rfl (v := .int (nI 0)) (by decide) (by decide) (Nat.le_of_ble_eq_true rfl) dX3_init_32 (fun H locs hc => ?_)
  have hc : lC D A s.heap [(q3, .inl (cs 0, 1800, .inl (fun _ => 0))), (q2, .inl (cs 0, 300, .inl (fun _ => 0))), (q1, .inl (cs 0, 6, .inl (fun _ => 0))), (q, .inr (2, [.ref q1, .ref q2, .ref q3, .int (nI 0), .long 0]))] H locs := hc
  refine lv_aload_n hx hb dX3_init_35 rfl (lv_at hl 0 rfl) ?_
  refine lv_lconst (v := 0) hx hb dX3_init_36 rfl ?_
  refine vr_pt hx hb hts iX3 tyX3_ok nmX3 hown hK hc 3 rfl rfl 4 (by decide) f25 rfl rfl (v := .long 0) rfl rfl (Nat.le_of_ble_eq_true rfl) dX3_init_37 (fun H locs hc => ?_)
  have hc : lC D A s.heap [(q3, .inl (cs 0, 1800, .inl (fun _ => 0))), (q2, .inl (cs 0, 300, .inl (fun _ => 0))), (q1, .inl (cs 0, 6, .inl (fun _ => 0))), (q, .inr (2, [.ref q1, .ref q2, .ref q3, .int (nI 0), .long 0]))] H locs := hc
  exact vr_rt (oQ cs (vl [q, q1, q2, q3])) ⟨vl [q, q1, q2, q3], rfl, rfl⟩ hx hb hr hK (lC_perm hc (List.reverse_perm (oQ cs (vl [q, q1, q2, q3])))) hlocks (Nat.le_of_ble_eq_true rfl) (Nat.le_of_ble_eq_true rfl) dX3_init_40
set_option maxHeartbeats 4000000 in
set_option maxRecDepth 100000 in
/-- Flow() -/
theorem c_X4_init (l : Launch) (D : va_G) (cs : Nat → ClassId)  : cMt l yX4_init wsX4_init { frames := 2, cells := 13, slots := 62, locals := 32 } D cs 3 [.null, .null, .null, .int 0] [] 13 62 (isF cs) := by
  refine cM_of (cc := cX4_init) (maxL := 2) (by decide) rfl rfl (fun _ => (Nat.le_of_ble_eq_true rfl)) ?_
  intro q p e s m below meth c ls A hx hb hr hml hown hts hlocks hin hK hN hA hc hl
  have hl : lv_has ls 2 [(0, .ref q)] := hl
  have iX7 : ∀ w ∈ wsX70, w ∈ wsX4_init := by decide +kernel
  have f12 : (Cond.fieldLink RX4 12 "RangePropagator$Flow" "entryState" "LRangePropagator$State;").before _ s = true := hts _ (by decide +kernel)
  have iX4 : ∀ w ∈ wsX40, w ∈ wsX4_init := by decide +kernel
  have f18 : (Cond.fieldLink RX4 18 "RangePropagator$Flow" "exitState" "LRangePropagator$State;").before _ s = true := hts _ (by decide +kernel)
  have f21 : (Cond.fieldLink RX4 21 "RangePropagator$Flow" "edgeStates" "[LRangePropagator$State;").before _ s = true := hts _ (by decide +kernel)
  have f25 : (Cond.fieldLink RX4 25 "RangePropagator$Flow" "visitCount" "I").before _ s = true := hts _ (by decide +kernel)
  refine lv_aload_n hx hb dX4_init_0 rfl (lv_at hl 0 rfl) ?_
  refine vr_oi hx hb hown (hts (.methodLink RX4 3 objectInit) (by decide +kernel)) (hts (.instanceMethod objectInit) (by decide +kernel)) (hts (.code objectInit ⟨#[0xb1]⟩ 1 none) (by decide +kernel)) (hl.1.trans hml.symm) dX4_init_1 (Nat.le_of_ble_eq_true rfl) (Nat.le_of_ble_eq_true rfl) ?_
  refine lv_aload_n hx hb dX4_init_4 rfl (lv_at hl 0 rfl) ?_
  refine vr_new (ci := 6) (fs := [.int 0, .null, .null]) hx hb hts iX7 tyX7 tyX7_ok hown (hts (.classLink RX4 9 RX7) (by decide +kernel)) (hts (.instantiable RX7 3) (by decide +kernel)) (hts (.initialized RX7) (by decide +kernel)) hK hA rfl (fun j hj => by rcases (show j = 0 ∨ j = 1 ∨ j = 2 by omega) with rfl | rfl | rfl <;> rfl) hc (Nat.le_of_ble_eq_true rfl) (Nat.le_of_ble_eq_true rfl) dX4_init_5 (fun q1 H hc => ?_)
  have hc : lC D A s.heap [(q1, .inr (6, [.int 0, .null, .null])), (q, .inr (3, [.null, .null, .null, .int 0]))] H [] := hc
  refine lv_dup hx hb dX4_init_8 rfl ?_
  refine vr_cN (mc := 2) (ms := 12) (As := []) (rest := [.ref q1, .ref q]) ⟨hx, hb, hml, hown, hts⟩ ⟨va_cnB 0 hts gX4_init_X7_init_n11 rfl rfl rfl hN.2.2.1 (hts (.initialized RX7) (by decide +kernel)) (by decide +kernel) ⟨(Nat.le_of_ble_eq_true rfl), (Nat.le_of_ble_eq_true rfl)⟩, rfl, (hts (.instanceMethod yX7_init) (by decide +kernel))⟩ hK hN hA hc (c_X7_init l D cs) rfl rfl hl.1 (Nat.le_of_ble_eq_true rfl) ⟨(Nat.le_of_ble_eq_true rfl), (Nat.le_of_ble_eq_true rfl)⟩ dX4_init_9 (fun w2 H locs ho3 hd => ?_)
  obtain ⟨h4, e5, rfl⟩ := ho3
  subst e5
  have hc : lC D A s.heap [(h4 0, .inr (6, [.int (nI 1), .ref (h4 1), .ref (h4 2)])), (h4 1, .inl (cs 0, 6, .inl (fun _ => 0))), (h4 2, .inl (cs 0, 6, .inl (fun _ => 0))), (q, .inr (3, [.null, .null, .null, .int 0]))] H locs := hd
  refine vr_pf hx hb hts iX4 tyX4_ok nmX4 hown hK hc 3 rfl rfl 0 (by decide) f12 rfl rfl hin rfl (v := .ref (h4 0)) rfl rfl (Nat.le_of_ble_eq_true rfl) dX4_init_12 (fun H locs hc => ?_)
  have hc : lC D A s.heap [(h4 0, .inr (6, [.int (nI 1), .ref (h4 1), .ref (h4 2)])), (h4 1, .inl (cs 0, 6, .inl (fun _ => 0))), (h4 2, .inl (cs 0, 6, .inl (fun _ => 0))), (q, .inr (3, [.ref (h4 0), .null, .null, .int 0]))] H locs := hc
  refine lv_aload_n hx hb dX4_init_15 rfl (lv_at hl 0 rfl) ?_
  refine vr_new (ci := 6) (fs := [.int 0, .null, .null]) hx hb hts iX7 tyX7 tyX7_ok hown (hts (.classLink RX4 9 RX7) (by decide +kernel)) (hts (.instantiable RX7 3) (by decide +kernel)) (hts (.initialized RX7) (by decide +kernel)) hK hA rfl (fun j hj => by rcases (show j = 0 ∨ j = 1 ∨ j = 2 by omega) with rfl | rfl | rfl <;> rfl) hc (Nat.le_of_ble_eq_true rfl) (Nat.le_of_ble_eq_true rfl) dX4_init_16 (fun q6 H hc => ?_)
  have hc : lC D A s.heap [(q6, .inr (6, [.int 0, .null, .null])), (h4 0, .inr (6, [.int (nI 1), .ref (h4 1), .ref (h4 2)])), (h4 1, .inl (cs 0, 6, .inl (fun _ => 0))), (h4 2, .inl (cs 0, 6, .inl (fun _ => 0))), (q, .inr (3, [.ref (h4 0), .null, .null, .int 0]))] H locs := hc
  refine lv_dup hx hb dX4_init_19 rfl ?_
  refine vr_cN (mc := 2) (ms := 12) (As := []) (rest := [.ref q6, .ref q]) ⟨hx, hb, hml, hown, hts⟩ ⟨va_cnB 0 hts gX4_init_X7_init_n11 rfl rfl rfl hN.2.2.1 (hts (.initialized RX7) (by decide +kernel)) (by decide +kernel) ⟨(Nat.le_of_ble_eq_true rfl), (Nat.le_of_ble_eq_true rfl)⟩, rfl, (hts (.instanceMethod yX7_init) (by decide +kernel))⟩ hK hN hA hc (c_X7_init l D cs) rfl rfl hl.1 (Nat.le_of_ble_eq_true rfl) ⟨(Nat.le_of_ble_eq_true rfl), (Nat.le_of_ble_eq_true rfl)⟩ dX4_init_20 (fun w7 H locs ho8 hd => ?_)
  obtain ⟨h9, e10, rfl⟩ := ho8
  subst e10
  have hc : lC D A s.heap [(h9 0, .inr (6, [.int (nI 1), .ref (h9 1), .ref (h9 2)])), (h9 1, .inl (cs 0, 6, .inl (fun _ => 0))), (h9 2, .inl (cs 0, 6, .inl (fun _ => 0))), (h4 0, .inr (6, [.int (nI 1), .ref (h4 1), .ref (h4 2)])), (h4 1, .inl (cs 0, 6, .inl (fun _ => 0))), (h4 2, .inl (cs 0, 6, .inl (fun _ => 0))), (q, .inr (3, [.ref (h4 0), .null, .null, .int 0]))] H locs := hd
  refine vr_pf hx hb hts iX4 tyX4_ok nmX4 hown hK hc 6 rfl rfl 1 (by decide) f18 rfl rfl hin rfl (v := .ref (h9 0)) rfl rfl (Nat.le_of_ble_eq_true rfl) dX4_init_23 (fun H locs hc => ?_)
  have hc : lC D A s.heap [(h9 0, .inr (6, [.int (nI 1), .ref (h9 1), .ref (h9 2)])), (h9 1, .inl (cs 0, 6, .inl (fun _ => 0))), (h9 2, .inl (cs 0, 6, .inl (fun _ => 0))), (h4 0, .inr (6, [.int (nI 1), .ref (h4 1), .ref (h4 2)])), (h4 1, .inl (cs 0, 6, .inl (fun _ => 0))), (h4 2, .inl (cs 0, 6, .inl (fun _ => 0))), (q, .inr (3, [.ref (h4 0), .ref (h9 0), .null, .int 0]))] H locs := hc
  refine lv_aload_n hx hb dX4_init_26 rfl (lv_at hl 0 rfl) ?_
  refine lv_iconst (v := nI 2) hx hb dX4_init_27 (by decide) ?_
  refine vr_nq (N' := 2) hx hb 4 rfl hown (hts (.classLink RX4 9 RX7) (by decide +kernel)) hN.2.2.2.2.2.2.2.1 hK hA hc (by decide) (by decide) (Nat.le_of_ble_eq_true rfl) (Nat.le_of_ble_eq_true rfl) (Nat.le_of_ble_eq_true rfl) dX4_init_28 (fun q11 H hc => ?_)
  have hc : lC D A s.heap [(q11, .inl (cs 4, 2, .inr (.inr (.inr (.inr (fun _ => none)))))), (h9 0, .inr (6, [.int (nI 1), .ref (h9 1), .ref (h9 2)])), (h9 1, .inl (cs 0, 6, .inl (fun _ => 0))), (h9 2, .inl (cs 0, 6, .inl (fun _ => 0))), (h4 0, .inr (6, [.int (nI 1), .ref (h4 1), .ref (h4 2)])), (h4 1, .inl (cs 0, 6, .inl (fun _ => 0))), (h4 2, .inl (cs 0, 6, .inl (fun _ => 0))), (q, .inr (3, [.ref (h4 0), .ref (h9 0), .null, .int 0]))] H locs := hc
  refine vr_pf hx hb hts iX4 tyX4_ok nmX4 hown hK hc 7 rfl rfl 2 (by decide) f21 rfl rfl hin rfl (v := .ref q11) rfl rfl (Nat.le_of_ble_eq_true rfl) dX4_init_31 (fun H locs hc => ?_)
  have hc : lC D A s.heap [(q11, .inl (cs 4, 2, .inr (.inr (.inr (.inr (fun _ => none)))))), (h9 0, .inr (6, [.int (nI 1), .ref (h9 1), .ref (h9 2)])), (h9 1, .inl (cs 0, 6, .inl (fun _ => 0))), (h9 2, .inl (cs 0, 6, .inl (fun _ => 0))), (h4 0, .inr (6, [.int (nI 1), .ref (h4 1), .ref (h4 2)])), (h4 1, .inl (cs 0, 6, .inl (fun _ => 0))), (h4 2, .inl (cs 0, 6, .inl (fun _ => 0))), (q, .inr (3, [.ref (h4 0), .ref (h9 0), .ref q11, .int 0]))] H locs := hc
  refine lv_aload_n hx hb dX4_init_34 rfl (lv_at hl 0 rfl) ?_
  refine lv_iconst (v := nI 0) hx hb dX4_init_35 (by decide) ?_
  refine vr_pt hx hb hts iX4 tyX4_ok nmX4 hown hK hc 7 rfl rfl 3 (by decide) f25 rfl rfl (v := .int (nI 0)) (by decide) (by decide) (Nat.le_of_ble_eq_true rfl) dX4_init_36 (fun H locs hc => ?_)
  have hc : lC D A s.heap [(q11, .inl (cs 4, 2, .inr (.inr (.inr (.inr (fun _ => none)))))), (h9 0, .inr (6, [.int (nI 1), .ref (h9 1), .ref (h9 2)])), (h9 1, .inl (cs 0, 6, .inl (fun _ => 0))), (h9 2, .inl (cs 0, 6, .inl (fun _ => 0))), (h4 0, .inr (6, [.int (nI 1), .ref (h4 1), .ref (h4 2)])), (h4 1, .inl (cs 0, 6, .inl (fun _ => 0))), (h4 2, .inl (cs 0, 6, .inl (fun _ => 0))), (q, .inr (3, [.ref (h4 0), .ref (h9 0), .ref q11, .int (nI 0)]))] H locs := hc
  refine lv_iconst (v := nI 0) hx hb dX4_init_39 (by decide) ?_
  refine lv_istore_n (lv' := [(1, .int (nI 0)), (0, .ref q)]) hx hb dX4_init_40 rfl hl (by decide) rfl (fun ls hl => ?_)
  refine lv_iload_n hx hb dX4_init_41 rfl (lv_at hl 0 rfl) ?_
  refine lv_iconst (v := nI 2) hx hb dX4_init_42 (by decide) ?_
  refine lv_icmp_ge (tgt := 65) hx hb dX4_init_43 (by decide) (fun z => absurd z (by decide)) (fun _ => ?_)
  refine lv_aload_n hx hb dX4_init_46 rfl (lv_at hl 1 rfl) ?_
  refine vr_gt hx hb hts iX4 hown hK hc 7 rfl rfl 2 (by decide) f21 rfl rfl dX4_init_47 ?_
  refine lv_iload_n hx hb dX4_init_50 rfl (lv_at hl 0 rfl) ?_
  refine vr_new (ci := 6) (fs := [.int 0, .null, .null]) hx hb hts iX7 tyX7 tyX7_ok hown (hts (.classLink RX4 9 RX7) (by decide +kernel)) (hts (.instantiable RX7 3) (by decide +kernel)) (hts (.initialized RX7) (by decide +kernel)) hK hA rfl (fun j hj => by rcases (show j = 0 ∨ j = 1 ∨ j = 2 by omega) with rfl | rfl | rfl <;> rfl) hc (Nat.le_of_ble_eq_true rfl) (Nat.le_of_ble_eq_true rfl) dX4_init_51 (fun q12 H hc => ?_)
  have hc : lC D A s.heap [(q12, .inr (6, [.int 0, .null, .null])), (q11, .inl (cs 4, 2, .inr (.inr (.inr (.inr (fun _ => none)))))), (h9 0, .inr (6, [.int (nI 1), .ref (h9 1), .ref (h9 2)])), (h9 1, .inl (cs 0, 6, .inl (fun _ => 0))), (h9 2, .inl (cs 0, 6, .inl (fun _ => 0))), (h4 0, .inr (6, [.int (nI 1), .ref (h4 1), .ref (h4 2)])), (h4 1, .inl (cs 0, 6, .inl (fun _ => 0))), (h4 2, .inl (cs 0, 6, .inl (fun _ => 0))), (q, .inr (3, [.ref (h4 0), .ref (h9 0), .ref q11, .int (nI 0)]))] H locs := hc
  refine lv_dup hx hb dX4_init_54 rfl ?_
  refine vr_cN (mc := 2) (ms := 12) (As := []) (rest := [.ref q12, .int (nI 0), .ref q11]) ⟨hx, hb, hml, hown, hts⟩ ⟨va_cnB 0 hts gX4_init_X7_init_n11 rfl rfl rfl hN.2.2.1 (hts (.initialized RX7) (by decide +kernel)) (by decide +kernel) ⟨(Nat.le_of_ble_eq_true rfl), (Nat.le_of_ble_eq_true rfl)⟩, rfl, (hts (.instanceMethod yX7_init) (by decide +kernel))⟩ hK hN hA hc (c_X7_init l D cs) rfl rfl hl.1 (Nat.le_of_ble_eq_true rfl) ⟨(Nat.le_of_ble_eq_true rfl), (Nat.le_of_ble_eq_true rfl)⟩ dX4_init_55 (fun w13 H locs ho14 hd => ?_)
  obtain ⟨h15, e16, rfl⟩ := ho14
  subst e16
  have hc : lC D A s.heap [(h15 0, .inr (6, [.int (nI 1), .ref (h15 1), .ref (h15 2)])), (h15 1, .inl (cs 0, 6, .inl (fun _ => 0))), (h15 2, .inl (cs 0, 6, .inl (fun _ => 0))), (q11, .inl (cs 4, 2, .inr (.inr (.inr (.inr (fun _ => none)))))), (h9 0, .inr (6, [.int (nI 1), .ref (h9 1), .ref (h9 2)])), (h9 1, .inl (cs 0, 6, .inl (fun _ => 0))), (h9 2, .inl (cs 0, 6, .inl (fun _ => 0))), (h4 0, .inr (6, [.int (nI 1), .ref (h4 1), .ref (h4 2)])), (h4 1, .inl (cs 0, 6, .inl (fun _ => 0))), (h4 2, .inl (cs 0, 6, .inl (fun _ => 0))), (q, .inr (3, [.ref (h4 0), .ref (h9 0), .ref q11, .int (nI 0)]))] H locs := hd
  refine vr_as hx hb hK hc 3 4 0 6 rfl rfl rfl rfl 0 (by omega) (by decide) dX4_init_58 (fun H locs hc => ?_)
  have hc : lC D A s.heap [(h15 0, .inr (6, [.int (nI 1), .ref (h15 1), .ref (h15 2)])), (h15 1, .inl (cs 0, 6, .inl (fun _ => 0))), (h15 2, .inl (cs 0, 6, .inl (fun _ => 0))), (q11, .inl (cs 4, 2, .inr (.inr (.inr (.inr (va_up (fun _ => none) 0 (some (h15 0)))))))), (h9 0, .inr (6, [.int (nI 1), .ref (h9 1), .ref (h9 2)])), (h9 1, .inl (cs 0, 6, .inl (fun _ => 0))), (h9 2, .inl (cs 0, 6, .inl (fun _ => 0))), (h4 0, .inr (6, [.int (nI 1), .ref (h4 1), .ref (h4 2)])), (h4 1, .inl (cs 0, 6, .inl (fun _ => 0))), (h4 2, .inl (cs 0, 6, .inl (fun _ => 0))), (q, .inr (3, [.ref (h4 0), .ref (h9 0), .ref q11, .int (nI 0)]))] H locs := hc
  refine lv_iinc (v := nI 1) (lv' := [(1, .int (nI 1)), (0, .ref q)]) hx hb dX4_init_59 hl (k := 0) rfl (by decide) (by decide) rfl (fun ls hl => ?_)
  refine lv_goto (tgt := 41) hx hb dX4_init_62 (by decide) ?_
  refine lv_iload_n hx hb dX4_init_41 rfl (lv_at hl 0 rfl) ?_
  refine lv_iconst (v := nI 2) hx hb dX4_init_42 (by decide) ?_
  refine lv_icmp_ge (tgt := 65) hx hb dX4_init_43 (by decide) (fun z => absurd z (by decide)) (fun _ => ?_)
  refine lv_aload_n hx hb dX4_init_46 rfl (lv_at hl 1 rfl) ?_
  refine vr_gt hx hb hts iX4 hown hK hc 10 rfl rfl 2 (by decide) f21 rfl rfl dX4_init_47 ?_
  refine lv_iload_n hx hb dX4_init_50 rfl (lv_at hl 0 rfl) ?_
  refine vr_new (ci := 6) (fs := [.int 0, .null, .null]) hx hb hts iX7 tyX7 tyX7_ok hown (hts (.classLink RX4 9 RX7) (by decide +kernel)) (hts (.instantiable RX7 3) (by decide +kernel)) (hts (.initialized RX7) (by decide +kernel)) hK hA rfl (fun j hj => by rcases (show j = 0 ∨ j = 1 ∨ j = 2 by omega) with rfl | rfl | rfl <;> rfl) hc (Nat.le_of_ble_eq_true rfl) (Nat.le_of_ble_eq_true rfl) dX4_init_51 (fun q17 H hc => ?_)
  have hc : lC D A s.heap [(q17, .inr (6, [.int 0, .null, .null])), (h15 0, .inr (6, [.int (nI 1), .ref (h15 1), .ref (h15 2)])), (h15 1, .inl (cs 0, 6, .inl (fun _ => 0))), (h15 2, .inl (cs 0, 6, .inl (fun _ => 0))), (q11, .inl (cs 4, 2, .inr (.inr (.inr (.inr (va_up (fun _ => none) 0 (some (h15 0)))))))), (h9 0, .inr (6, [.int (nI 1), .ref (h9 1), .ref (h9 2)])), (h9 1, .inl (cs 0, 6, .inl (fun _ => 0))), (h9 2, .inl (cs 0, 6, .inl (fun _ => 0))), (h4 0, .inr (6, [.int (nI 1), .ref (h4 1), .ref (h4 2)])), (h4 1, .inl (cs 0, 6, .inl (fun _ => 0))), (h4 2, .inl (cs 0, 6, .inl (fun _ => 0))), (q, .inr (3, [.ref (h4 0), .ref (h9 0), .ref q11, .int (nI 0)]))] H locs := hc
  refine lv_dup hx hb dX4_init_54 rfl ?_
  refine vr_cN (mc := 2) (ms := 12) (As := []) (rest := [.ref q17, .int (nI 1), .ref q11]) ⟨hx, hb, hml, hown, hts⟩ ⟨va_cnB 0 hts gX4_init_X7_init_n11 rfl rfl rfl hN.2.2.1 (hts (.initialized RX7) (by decide +kernel)) (by decide +kernel) ⟨(Nat.le_of_ble_eq_true rfl), (Nat.le_of_ble_eq_true rfl)⟩, rfl, (hts (.instanceMethod yX7_init) (by decide +kernel))⟩ hK hN hA hc (c_X7_init l D cs) rfl rfl hl.1 (Nat.le_of_ble_eq_true rfl) ⟨(Nat.le_of_ble_eq_true rfl), (Nat.le_of_ble_eq_true rfl)⟩ dX4_init_55 (fun w18 H locs ho19 hd => ?_)
  obtain ⟨h20, e21, rfl⟩ := ho19
  subst e21
  have hc : lC D A s.heap [(h20 0, .inr (6, [.int (nI 1), .ref (h20 1), .ref (h20 2)])), (h20 1, .inl (cs 0, 6, .inl (fun _ => 0))), (h20 2, .inl (cs 0, 6, .inl (fun _ => 0))), (h15 0, .inr (6, [.int (nI 1), .ref (h15 1), .ref (h15 2)])), (h15 1, .inl (cs 0, 6, .inl (fun _ => 0))), (h15 2, .inl (cs 0, 6, .inl (fun _ => 0))), (q11, .inl (cs 4, 2, .inr (.inr (.inr (.inr (va_up (fun _ => none) 0 (some (h15 0)))))))), (h9 0, .inr (6, [.int (nI 1), .ref (h9 1), .ref (h9 2)])), (h9 1, .inl (cs 0, 6, .inl (fun _ => 0))), (h9 2, .inl (cs 0, 6, .inl (fun _ => 0))), (h4 0, .inr (6, [.int (nI 1), .ref (h4 1), .ref (h4 2)])), (h4 1, .inl (cs 0, 6, .inl (fun _ => 0))), (h4 2, .inl (cs 0, 6, .inl (fun _ => 0))), (q, .inr (3, [.ref (h4 0), .ref (h9 0), .ref q11, .int (nI 0)]))] H locs := hd
  refine vr_as hx hb hK hc 6 4 0 6 rfl rfl rfl rfl 1 (by omega) (by decide) dX4_init_58 (fun H locs hc => ?_)
  have hc : lC D A s.heap [(h20 0, .inr (6, [.int (nI 1), .ref (h20 1), .ref (h20 2)])), (h20 1, .inl (cs 0, 6, .inl (fun _ => 0))), (h20 2, .inl (cs 0, 6, .inl (fun _ => 0))), (h15 0, .inr (6, [.int (nI 1), .ref (h15 1), .ref (h15 2)])), (h15 1, .inl (cs 0, 6, .inl (fun _ => 0))), (h15 2, .inl (cs 0, 6, .inl (fun _ => 0))), (q11, .inl (cs 4, 2, .inr (.inr (.inr (.inr (va_up (va_up (fun _ => none) 0 (some (h15 0))) 1 (some (h20 0)))))))), (h9 0, .inr (6, [.int (nI 1), .ref (h9 1), .ref (h9 2)])), (h9 1, .inl (cs 0, 6, .inl (fun _ => 0))), (h9 2, .inl (cs 0, 6, .inl (fun _ => 0))), (h4 0, .inr (6, [.int (nI 1), .ref (h4 1), .ref (h4 2)])), (h4 1, .inl (cs 0, 6, .inl (fun _ => 0))), (h4 2, .inl (cs 0, 6, .inl (fun _ => 0))), (q, .inr (3, [.ref (h4 0), .ref (h9 0), .ref q11, .int (nI 0)]))] H locs := hc
  refine lv_iinc (v := nI 2) (lv' := [(1, .int (nI 2)), (0, .ref q)]) hx hb dX4_init_59 hl (k := 0) rfl (by decide) (by decide) rfl (fun ls hl => ?_)
  refine lv_goto (tgt := 41) hx hb dX4_init_62 (by decide) ?_
  refine lv_iload_n hx hb dX4_init_41 rfl (lv_at hl 0 rfl) ?_
  refine lv_iconst (v := nI 2) hx hb dX4_init_42 (by decide) ?_
  refine lv_icmp_ge (tgt := 65) hx hb dX4_init_43 (by decide) (fun _ => ?_) (fun z => absurd (by decide) z)
  have ef : va_up (va_up (fun _ => none) 0 (some (h15 0))) 1 (some (h20 0)) = fun e => if e < 2 then some (vl [q, q11, h4 0, h4 1, h4 2, h9 0, h9 1, h9 2, h15 0, h15 1, h15 2, h20 0, h20 1, h20 2] (8 + 3 * e)) else none := by
    funext e
    match e with
    | 0 => rfl
    | 1 => rfl
    | e + 2 => rw [if_neg (by omega), va_up_ne _ _ (by omega), va_up_ne _ _ (by omega)]
  rw [ef] at hc
  exact vr_rt (oF cs (vl [q, q11, h4 0, h4 1, h4 2, h9 0, h9 1, h9 2, h15 0, h15 1, h15 2, h20 0, h20 1, h20 2])) ⟨vl [q, q11, h4 0, h4 1, h4 2, h9 0, h9 1, h9 2, h15 0, h15 1, h15 2, h20 0, h20 1, h20 2], rfl, rfl⟩ hx hb hr hK hc hlocks (Nat.le_of_ble_eq_true rfl) (Nat.le_of_ble_eq_true rfl) dX4_init_65
