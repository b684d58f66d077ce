/-! constructors of Program and Analysis: laid by wip/gen/ctors.py -/
set_option maxHeartbeats 4000000 in
set_option maxRecDepth 100000 in
/-- Program() -/
theorem c_X5_init (l : Launch) (D : va_G) (cs : Nat → ClassId)  : cMt l yX5_init wsX5_init { frames := 2, cells := 100, slots := 735, locals := 32 } D cs 4 [.null, .null, .int 0] [] 100 735 (isP cs) := by
  refine cM_of (cc := cX5_init) (maxL := 2) (by decide) rfl rfl (fun _ => (Nat.le_of_ble_eq_true rfl)) ?_
  intro q p e s m below meth c ls A hx hb hr hml hown hts hlocks hin hK hN hA hc hl
  have hl : lv_has ls 2 [(0, .ref q)] := hl
  have f11 : (Cond.fieldLink RX5 11 "RangePropagator$Program" "blocks" "[LRangePropagator$Block;").before _ s = true := hts _ (by decide +kernel)
  have iX5 : ∀ w ∈ wsX50, w ∈ wsX5_init := by decide +kernel
  have iX7 : ∀ w ∈ wsX70, w ∈ wsX5_init := by decide +kernel
  have f20 : (Cond.fieldLink RX5 20 "RangePropagator$Program" "initial" "LRangePropagator$State;").before _ s = true := hts _ (by decide +kernel)
  have f24 : (Cond.fieldLink RX5 24 "RangePropagator$Program" "count" "I").before _ s = true := hts _ (by decide +kernel)
  have iX2 : ∀ w ∈ wsX20, w ∈ wsX5_init := by decide +kernel
  have f29 : (Cond.fieldLink RX5 29 "RangePropagator$State" "isNone" "Z").before _ s = true := hts _ (by decide +kernel)
  refine lv_aload_n hx hb dX5_init_0 rfl (lv_at hl 0 rfl) ?_
  refine vr_oi hx hb hown (hts (.methodLink RX5 3 objectInit) (by decide +kernel)) (hts (.instanceMethod objectInit) (by decide +kernel)) (hts (.code objectInit ⟨#[0xb1]⟩ 1 none) (by decide +kernel)) (hl.1.trans hml.symm) dX5_init_1 (Nat.le_of_ble_eq_true rfl) (Nat.le_of_ble_eq_true rfl) ?_
  refine lv_aload_n hx hb dX5_init_4 rfl (lv_at hl 0 rfl) ?_
  refine lv_bipush (v := nI 16) hx hb dX5_init_5 (by decide) ?_
  refine vr_nq (N' := 16) hx hb 2 rfl hown (hts (.classLink RX5 9 RX2) (by decide +kernel)) hN.2.2.2.2.2.1 hK hA hc (by decide) (by decide) (Nat.le_of_ble_eq_true rfl) (Nat.le_of_ble_eq_true rfl) (Nat.le_of_ble_eq_true rfl) dX5_init_7 (fun q1 H hc => ?_)
  have hc : lC D A s.heap [(q1, .inl (cs 2, 16, .inr (.inr (.inr (.inr (fun _ => none)))))), (q, .inr (4, [.null, .null, .int 0]))] H [] := hc
  refine vr_pf hx hb hts iX5 tyX5_ok nmX5 hown hK hc 1 rfl rfl 0 (by decide) f11 rfl rfl hin rfl (v := .ref q1) rfl rfl (Nat.le_of_ble_eq_true rfl) dX5_init_10 (fun H locs hc => ?_)
  have hc : lC D A s.heap [(q1, .inl (cs 2, 16, .inr (.inr (.inr (.inr (fun _ => none)))))), (q, .inr (4, [.ref q1, .null, .int 0]))] H locs := hc
  refine lv_aload_n hx hb dX5_init_13 rfl (lv_at hl 0 rfl) ?_
  refine vr_new (ci := 6) (fs := [.int 0, .null, .null]) hx hb hts iX7 tyX7 tyX7_ok hown (hts (.classLink RX5 17 RX7) (by decide +kernel)) (hts (.instantiable RX7 3) (by decide +kernel)) (hts (.initialized RX7) (by decide +kernel)) hK hA rfl (fun j hj => by rcases (show j = 0 ∨ j = 1 ∨ j = 2 by omega) with rfl | rfl | rfl <;> rfl) hc (Nat.le_of_ble_eq_true rfl) (Nat.le_of_ble_eq_true rfl) dX5_init_14 (fun q2 H hc => ?_)
  have hc : lC D A s.heap [(q2, .inr (6, [.int 0, .null, .null])), (q1, .inl (cs 2, 16, .inr (.inr (.inr (.inr (fun _ => none)))))), (q, .inr (4, [.ref q1, .null, .int 0]))] H locs := hc
  refine lv_dup hx hb dX5_init_17 rfl ?_
  refine vr_cN (mc := 2) (ms := 12) (As := []) (rest := [.ref q2, .ref q]) ⟨hx, hb, hml, hown, hts⟩ ⟨va_cnB 0 hts gX5_init_X7_init_n19 rfl rfl rfl hN.2.2.2.1 (hts (.initialized RX7) (by decide +kernel)) (by decide +kernel) ⟨(Nat.le_of_ble_eq_true rfl), (Nat.le_of_ble_eq_true rfl)⟩, rfl, (hts (.instanceMethod yX7_init) (by decide +kernel))⟩ hK hN hA hc (c_X7_init l D cs) rfl rfl hl.1 (Nat.le_of_ble_eq_true rfl) ⟨(Nat.le_of_ble_eq_true rfl), (Nat.le_of_ble_eq_true rfl)⟩ dX5_init_18 (fun w3 H locs ho4 hd => ?_)
  obtain ⟨h5, e6, rfl⟩ := ho4
  subst e6
  have hc : lC D A s.heap [(h5 0, .inr (6, [.int (nI 1), .ref (h5 1), .ref (h5 2)])), (h5 1, .inl (cs 0, 6, .inl (fun _ => 0))), (h5 2, .inl (cs 0, 6, .inl (fun _ => 0))), (q1, .inl (cs 2, 16, .inr (.inr (.inr (.inr (fun _ => none)))))), (q, .inr (4, [.ref q1, .null, .int 0]))] H locs := hd
  refine vr_pf hx hb hts iX5 tyX5_ok nmX5 hown hK hc 4 rfl rfl 1 (by decide) f20 rfl rfl hin rfl (v := .ref (h5 0)) rfl rfl (Nat.le_of_ble_eq_true rfl) dX5_init_21 (fun H locs hc => ?_)
  have hc : lC D A s.heap [(h5 0, .inr (6, [.int (nI 1), .ref (h5 1), .ref (h5 2)])), (h5 1, .inl (cs 0, 6, .inl (fun _ => 0))), (h5 2, .inl (cs 0, 6, .inl (fun _ => 0))), (q1, .inl (cs 2, 16, .inr (.inr (.inr (.inr (fun _ => none)))))), (q, .inr (4, [.ref q1, .ref (h5 0), .int 0]))] H locs := hc
  refine lv_aload_n hx hb dX5_init_24 rfl (lv_at hl 0 rfl) ?_
  refine lv_iconst (v := nI 1) hx hb dX5_init_25 (by decide) ?_
  refine vr_pt hx hb hts iX5 tyX5_ok nmX5 hown hK hc 4 rfl rfl 2 (by decide) f24 rfl rfl (v := .int (nI 1)) (by decide) (by decide) (Nat.le_of_ble_eq_true rfl) dX5_init_26 (fun H locs hc => ?_)
  have hc : lC D A s.heap [(h5 0, .inr (6, [.int (nI 1), .ref (h5 1), .ref (h5 2)])), (h5 1, .inl (cs 0, 6, .inl (fun _ => 0))), (h5 2, .inl (cs 0, 6, .inl (fun _ => 0))), (q1, .inl (cs 2, 16, .inr (.inr (.inr (.inr (fun _ => none)))))), (q, .inr (4, [.ref q1, .ref (h5 0), .int (nI 1)]))] H locs := hc
  refine lv_iconst (v := nI 0) hx hb dX5_init_29 (by decide) ?_
  refine lv_istore_n (lv' := [(1, .int (nI 0)), (0, .ref q)]) hx hb dX5_init_30 rfl hl (by decide) rfl (fun ls hl => ?_)
  refine c_loop (N := 16) (fun i H locs ls => ∃ g, lC D A s.heap (oP cs (vl [q, q1, h5 0, h5 1, h5 2]) g i (nI 1)) H locs ∧ lv_has ls 2 [(1, .int (nI i)), (0, .ref q)]) (fun i => 4 + i * 6) (fun i => 31 + i * 44) ?_ ?_ 0 H locs ls (by omega) ⟨fun _ _ => 0, (by unfold oP oP5; rw [rA_0]; exact hc), lv_sub hl [0, 1] rfl⟩
  · intro i H locs ls hi hI ih
    obtain ⟨g, hc, hl⟩ := hI
    have hc : lC D A s.heap ([(h5 0, .inr (6, [.int (nI 1), .ref (h5 1), .ref (h5 2)])), (h5 1, .inl (cs 0, 6, .inl (fun _ => 0))), (h5 2, .inl (cs 0, 6, .inl (fun _ => 0))), (q1, .inl (cs 2, 16, .inr (.inr (.inr (.inr (rA i g)))))), (q, .inr (4, [.ref q1, .ref (h5 0), .int (nI 1)]))] ++ blk (fun b => oB cs (g b)) i) H locs := hc
    refine lv_iload_n hx hb dX5_init_31 rfl (lv_at hl 0 rfl) ?_
    refine lv_bipush (v := nI 16) hx hb dX5_init_32 (by decide) ?_
    refine lv_icmp_ge (tgt := 56) hx hb dX5_init_34 (by decide) (fun z => absurd ((nI_leI (by decide) (by omega)).mp z) (by omega)) (fun _ => ?_)
    refine lv_aload_n hx hb dX5_init_37 rfl (lv_at hl 1 rfl) ?_
    refine vr_gt hx hb hts iX5 hown hK hc 4 rfl rfl 0 (by decide) f11 rfl rfl dX5_init_38 ?_
    refine lv_iload_n hx hb dX5_init_41 rfl (lv_at hl 0 rfl) ?_
    refine vr_new (ci := 1) (fs := [.int 0, .null, .null, .null, .null, .int 0, .null, .int 0, .int 0, .int 0]) hx hb hts iX2 tyX2 tyX2_ok hown (hts (.classLink RX5 9 RX2) (by decide +kernel)) (hts (.instantiable RX2 10) (by decide +kernel)) (hts (.initialized RX2) (by decide +kernel)) hK hA rfl (fun j hj => by rcases (show j = 0 ∨ j = 1 ∨ j = 2 ∨ j = 3 ∨ j = 4 ∨ j = 5 ∨ j = 6 ∨ j = 7 ∨ j = 8 ∨ j = 9 by omega) with rfl | rfl | rfl | rfl | rfl | rfl | rfl | rfl | rfl | rfl <;> rfl) hc (by show _ ≤ 100; omega) (by show _ ≤ 735; omega) dX5_init_42 (fun q7 H hc => ?_)
    have hc : lC D A s.heap ([(q7, .inr (1, [.int 0, .null, .null, .null, .null, .int 0, .null, .int 0, .int 0, .int 0])), (h5 0, .inr (6, [.int (nI 1), .ref (h5 1), .ref (h5 2)])), (h5 1, .inl (cs 0, 6, .inl (fun _ => 0))), (h5 2, .inl (cs 0, 6, .inl (fun _ => 0))), (q1, .inl (cs 2, 16, .inr (.inr (.inr (.inr (rA i g)))))), (q, .inr (4, [.ref q1, .ref (h5 0), .int (nI 1)]))] ++ blk (fun b => oB cs (g b)) i) H locs := hc
    refine lv_dup hx hb dX5_init_45 rfl ?_
    refine vr_cN (mc := 5) (ms := 34) (As := []) (rest := [.ref q7, .int (nI i), .ref q1]) ⟨hx, hb, hml, hown, hts⟩ ⟨va_cnB 0 hts gX5_init_X2_init_n28 rfl rfl rfl hN.2.2.2.2.1 (hts (.initialized RX2) (by decide +kernel)) (by decide +kernel) ⟨(Nat.le_of_ble_eq_true rfl), (Nat.le_of_ble_eq_true rfl)⟩, rfl, (hts (.instanceMethod yX2_init) (by decide +kernel))⟩ hK hN hA hc (c_X2_init l D cs) rfl rfl hl.1 (Nat.le_of_ble_eq_true rfl) ⟨(by show _ ≤ 100; omega), (by show _ ≤ 735; omega)⟩ dX5_init_46 (fun w8 H locs ho9 hd => ?_)
    obtain ⟨h10, e11, rfl⟩ := ho9
    subst e11
    have hc : lC D A s.heap ([(h10 0, .inr (1, [.int (nI 0), .ref (h10 1), .ref (h10 2), .ref (h10 3), .ref (h10 4), .int (nI 0), .ref (h10 5), .int (nI 0), .int (nI 0), .int (nI 0)])), (h10 1, .inl (cs 0, 8, .inl (fun _ => 0))), (h10 2, .inl (cs 0, 8, .inl (fun _ => 0))), (h10 3, .inl (cs 0, 8, .inl (fun _ => 0))), (h10 4, .inl (cs 0, 8, .inl (fun _ => 0))), (h10 5, .inl (cs 0, 2, .inl (fun _ => 0))), (h5 0, .inr (6, [.int (nI 1), .ref (h5 1), .ref (h5 2)])), (h5 1, .inl (cs 0, 6, .inl (fun _ => 0))), (h5 2, .inl (cs 0, 6, .inl (fun _ => 0))), (q1, .inl (cs 2, 16, .inr (.inr (.inr (.inr (rA i g)))))), (q, .inr (4, [.ref q1, .ref (h5 0), .int (nI 1)]))] ++ blk (fun b => oB cs (g b)) i) H locs := hd
    refine vr_as hx hb hK hc 9 2 0 1 rfl rfl rfl rfl i (by omega) (by decide) dX5_init_49 (fun H locs hc => ?_)
    have hc : lC D A s.heap ([(h10 0, .inr (1, [.int (nI 0), .ref (h10 1), .ref (h10 2), .ref (h10 3), .ref (h10 4), .int (nI 0), .ref (h10 5), .int (nI 0), .int (nI 0), .int (nI 0)])), (h10 1, .inl (cs 0, 8, .inl (fun _ => 0))), (h10 2, .inl (cs 0, 8, .inl (fun _ => 0))), (h10 3, .inl (cs 0, 8, .inl (fun _ => 0))), (h10 4, .inl (cs 0, 8, .inl (fun _ => 0))), (h10 5, .inl (cs 0, 2, .inl (fun _ => 0))), (h5 0, .inr (6, [.int (nI 1), .ref (h5 1), .ref (h5 2)])), (h5 1, .inl (cs 0, 6, .inl (fun _ => 0))), (h5 2, .inl (cs 0, 6, .inl (fun _ => 0))), (q1, .inl (cs 2, 16, .inr (.inr (.inr (.inr (va_up (rA i g) i (some (h10 0)))))))), (q, .inr (4, [.ref q1, .ref (h5 0), .int (nI 1)]))] ++ blk (fun b => oB cs (g b)) i) H locs := hc
    refine lv_iinc (v := nI (i + 1)) (lv' := [(1, .int (nI (i + 1))), (0, .ref q)]) hx hb dX5_init_50 hl (k := 0) rfl (nI_1 i) (by decide) rfl (fun ls hl => ?_)
    refine lv_goto (tgt := 31) hx hb dX5_init_53 (by decide) ?_
    refine W.widen (k := 4 + (i + 1) * 6) (n := 31 + (i + 1) * 44) (by omega) (by omega) (ih _ _ _ ⟨va_up g i h10, ?_, hl⟩)
    unfold oP oP5; rw [← rA_up, blk_up]
    exact lC_perm hc (List.perm_append_comm_assoc (oB cs h10) [(h5 0, .inr (6, [.int (nI 1), .ref (h5 1), .ref (h5 2)])), (h5 1, .inl (cs 0, 6, .inl (fun _ => 0))), (h5 2, .inl (cs 0, 6, .inl (fun _ => 0))), (q1, .inl (cs 2, 16, .inr (.inr (.inr (.inr (va_up (rA i g) i (some (h10 0)))))))), (q, .inr (4, [.ref q1, .ref (h5 0), .int (nI 1)]))] (blk (fun b => oB cs (g b)) i))
  · intro H locs ls hI
    obtain ⟨g, hc, hl⟩ := hI
    have hc : lC D A s.heap ([(h5 0, .inr (6, [.int (nI 1), .ref (h5 1), .ref (h5 2)])), (h5 1, .inl (cs 0, 6, .inl (fun _ => 0))), (h5 2, .inl (cs 0, 6, .inl (fun _ => 0))), (q1, .inl (cs 2, 16, .inr (.inr (.inr (.inr (rA 16 g)))))), (q, .inr (4, [.ref q1, .ref (h5 0), .int (nI 1)]))] ++ blk (fun b => oB cs (g b)) 16) H locs := hc
    refine lv_iload_n hx hb dX5_init_31 rfl (lv_at hl 0 rfl) ?_
    refine lv_bipush (v := nI 16) hx hb dX5_init_32 (by decide) ?_
    refine lv_icmp_ge (tgt := 56) hx hb dX5_init_34 (by decide) (fun _ => ?_) (fun z => absurd (by decide) z)
    refine lv_aload_n hx hb dX5_init_56 rfl (lv_at hl 1 rfl) ?_
    refine vr_gt hx hb hts iX5 hown hK hc 4 rfl rfl 1 (by decide) f20 rfl rfl dX5_init_57 ?_
    refine lv_iconst (v := nI 0) hx hb dX5_init_60 (by decide) ?_
    refine vr_pt hx hb hts iX7 tyX7_ok nmX7 hown hK hc 0 rfl rfl 0 (by decide) f29 rfl rfl (v := .int (nI 0)) (by decide) (by decide) (Nat.le_of_ble_eq_true rfl) dX5_init_61 (fun H locs hc => ?_)
    have hc : lC D A s.heap ([(h5 0, .inr (6, [.int (nI 0), .ref (h5 1), .ref (h5 2)])), (h5 1, .inl (cs 0, 6, .inl (fun _ => 0))), (h5 2, .inl (cs 0, 6, .inl (fun _ => 0))), (q1, .inl (cs 2, 16, .inr (.inr (.inr (.inr (rA 16 g)))))), (q, .inr (4, [.ref q1, .ref (h5 0), .int (nI 1)]))] ++ blk (fun b => oB cs (g b)) 16) H locs := hc
    exact vr_rt (oP cs (vl [q, q1, h5 0, h5 1, h5 2]) g 16 (nI 0)) ⟨vl [q, q1, h5 0, h5 1, h5 2], g, rfl, rfl⟩ hx hb hr hK hc hlocks (Nat.le_of_ble_eq_true rfl) (Nat.le_of_ble_eq_true rfl) dX5_init_64
set_option maxHeartbeats 4000000 in
set_option maxRecDepth 100000 in
/-- Analysis() -/
theorem c_X0_init (l : Launch) (D : va_G) (cs : Nat → ClassId)  : cMt l yX0_init wsX0_init { frames := 3, cells := 231, slots := 1102, locals := 53 } D cs 0 [.null, .null, .null] [] 231 1102 (isA cs) := by
  refine cM_of (cc := cX0_init) (maxL := 2) (by decide) rfl rfl (fun _ => (Nat.le_of_ble_eq_true rfl)) ?_
  intro q p e s m below meth c ls A hx hb hr hml hown hts hlocks hin hK hN hA hc hl
  have hl : lv_has ls 2 [(0, .ref q)] := hl
  have f11 : (Cond.fieldLink RX0 11 "RangePropagator$Analysis" "flows" "[LRangePropagator$Flow;").before _ s = true := hts _ (by decide +kernel)
  have iX0 : ∀ w ∈ wsX00, w ∈ wsX0_init := by decide +kernel
  have iX7 : ∀ w ∈ wsX70, w ∈ wsX0_init := by decide +kernel
  have f20 : (Cond.fieldLink RX0 20 "RangePropagator$Analysis" "incoming" "LRangePropagator$State;").before _ s = true := hts _ (by decide +kernel)
  have f24 : (Cond.fieldLink RX0 24 "RangePropagator$Analysis" "joined" "LRangePropagator$State;").before _ s = true := hts _ (by decide +kernel)
  have iX4 : ∀ w ∈ wsX40, w ∈ wsX0_init := by decide +kernel
  refine lv_aload_n hx hb dX0_init_0 rfl (lv_at hl 0 rfl) ?_
  refine vr_oi hx hb hown (hts (.methodLink RX0 3 objectInit) (by decide +kernel)) (hts (.instanceMethod objectInit) (by decide +kernel)) (hts (.code objectInit ⟨#[0xb1]⟩ 1 none) (by decide +kernel)) (hl.1.trans hml.symm) dX0_init_1 (Nat.le_of_ble_eq_true rfl) (Nat.le_of_ble_eq_true rfl) ?_
  refine lv_aload_n hx hb dX0_init_4 rfl (lv_at hl 0 rfl) ?_
  refine lv_bipush (v := nI 16) hx hb dX0_init_5 (by decide) ?_
  refine vr_nq (N' := 16) hx hb 3 rfl hown (hts (.classLink RX0 9 RX4) (by decide +kernel)) hN.2.2.2.2.2.2.1 hK hA hc (by decide) (by decide) (Nat.le_of_ble_eq_true rfl) (Nat.le_of_ble_eq_true rfl) (Nat.le_of_ble_eq_true rfl) dX0_init_7 (fun q1 H hc => ?_)
  have hc : lC D A s.heap [(q1, .inl (cs 3, 16, .inr (.inr (.inr (.inr (fun _ => none)))))), (q, .inr (0, [.null, .null, .null]))] H [] := hc
  refine vr_pf hx hb hts iX0 tyX0_ok nmX0 hown hK hc 1 rfl rfl 0 (by decide) f11 rfl rfl hin rfl (v := .ref q1) rfl rfl (Nat.le_of_ble_eq_true rfl) dX0_init_10 (fun H locs hc => ?_)
  have hc : lC D A s.heap [(q1, .inl (cs 3, 16, .inr (.inr (.inr (.inr (fun _ => none)))))), (q, .inr (0, [.ref q1, .null, .null]))] H locs := hc
  refine lv_aload_n hx hb dX0_init_13 rfl (lv_at hl 0 rfl) ?_
  refine vr_new (ci := 6) (fs := [.int 0, .null, .null]) hx hb hts iX7 tyX7 tyX7_ok hown (hts (.classLink RX0 17 RX7) (by decide +kernel)) (hts (.instantiable RX7 3) (by decide +kernel)) (hts (.initialized RX7) (by decide +kernel)) hK hA rfl (fun j hj => by rcases (show j = 0 ∨ j = 1 ∨ j = 2 by omega) with rfl | rfl | rfl <;> rfl) hc (Nat.le_of_ble_eq_true rfl) (Nat.le_of_ble_eq_true rfl) dX0_init_14 (fun q2 H hc => ?_)
  have hc : lC D A s.heap [(q2, .inr (6, [.int 0, .null, .null])), (q1, .inl (cs 3, 16, .inr (.inr (.inr (.inr (fun _ => none)))))), (q, .inr (0, [.ref q1, .null, .null]))] H locs := hc
  refine lv_dup hx hb dX0_init_17 rfl ?_
  refine vr_cN (mc := 2) (ms := 12) (As := []) (rest := [.ref q2, .ref q]) ⟨hx, hb, hml, hown, hts⟩ ⟨va_cnB 0 hts gX0_init_X7_init_n19 rfl rfl rfl hN.2.1 (hts (.initialized RX7) (by decide +kernel)) (by decide +kernel) ⟨(Nat.le_of_ble_eq_true rfl), (Nat.le_of_ble_eq_true rfl)⟩, rfl, (hts (.instanceMethod yX7_init) (by decide +kernel))⟩ hK hN hA hc (c_X7_init l D cs) rfl rfl hl.1 (Nat.le_of_ble_eq_true rfl) ⟨(Nat.le_of_ble_eq_true rfl), (Nat.le_of_ble_eq_true rfl)⟩ dX0_init_18 (fun w3 H locs ho4 hd => ?_)
  obtain ⟨h5, e6, rfl⟩ := ho4
  subst e6
  have hc : lC D A s.heap [(h5 0, .inr (6, [.int (nI 1), .ref (h5 1), .ref (h5 2)])), (h5 1, .inl (cs 0, 6, .inl (fun _ => 0))), (h5 2, .inl (cs 0, 6, .inl (fun _ => 0))), (q1, .inl (cs 3, 16, .inr (.inr (.inr (.inr (fun _ => none)))))), (q, .inr (0, [.ref q1, .null, .null]))] H locs := hd
  refine vr_pf hx hb hts iX0 tyX0_ok nmX0 hown hK hc 4 rfl rfl 1 (by decide) f20 rfl rfl hin rfl (v := .ref (h5 0)) rfl rfl (Nat.le_of_ble_eq_true rfl) dX0_init_21 (fun H locs hc => ?_)
  have hc : lC D A s.heap [(h5 0, .inr (6, [.int (nI 1), .ref (h5 1), .ref (h5 2)])), (h5 1, .inl (cs 0, 6, .inl (fun _ => 0))), (h5 2, .inl (cs 0, 6, .inl (fun _ => 0))), (q1, .inl (cs 3, 16, .inr (.inr (.inr (.inr (fun _ => none)))))), (q, .inr (0, [.ref q1, .ref (h5 0), .null]))] H locs := hc
  refine lv_aload_n hx hb dX0_init_24 rfl (lv_at hl 0 rfl) ?_
  refine vr_new (ci := 6) (fs := [.int 0, .null, .null]) hx hb hts iX7 tyX7 tyX7_ok hown (hts (.classLink RX0 17 RX7) (by decide +kernel)) (hts (.instantiable RX7 3) (by decide +kernel)) (hts (.initialized RX7) (by decide +kernel)) hK hA rfl (fun j hj => by rcases (show j = 0 ∨ j = 1 ∨ j = 2 by omega) with rfl | rfl | rfl <;> rfl) hc (Nat.le_of_ble_eq_true rfl) (Nat.le_of_ble_eq_true rfl) dX0_init_25 (fun q7 H hc => ?_)
  have hc : lC D A s.heap [(q7, .inr (6, [.int 0, .null, .null])), (h5 0, .inr (6, [.int (nI 1), .ref (h5 1), .ref (h5 2)])), (h5 1, .inl (cs 0, 6, .inl (fun _ => 0))), (h5 2, .inl (cs 0, 6, .inl (fun _ => 0))), (q1, .inl (cs 3, 16, .inr (.inr (.inr (.inr (fun _ => none)))))), (q, .inr (0, [.ref q1, .ref (h5 0), .null]))] H locs := hc
  refine lv_dup hx hb dX0_init_28 rfl ?_
  refine vr_cN (mc := 2) (ms := 12) (As := []) (rest := [.ref q7, .ref q]) ⟨hx, hb, hml, hown, hts⟩ ⟨va_cnB 0 hts gX0_init_X7_init_n19 rfl rfl rfl hN.2.1 (hts (.initialized RX7) (by decide +kernel)) (by decide +kernel) ⟨(Nat.le_of_ble_eq_true rfl), (Nat.le_of_ble_eq_true rfl)⟩, rfl, (hts (.instanceMethod yX7_init) (by decide +kernel))⟩ hK hN hA hc (c_X7_init l D cs) rfl rfl hl.1 (Nat.le_of_ble_eq_true rfl) ⟨(Nat.le_of_ble_eq_true rfl), (Nat.le_of_ble_eq_true rfl)⟩ dX0_init_29 (fun w8 H locs ho9 hd => ?_)
  obtain ⟨h10, e11, rfl⟩ := ho9
  subst e11
  have hc : lC D A s.heap [(h10 0, .inr (6, [.int (nI 1), .ref (h10 1), .ref (h10 2)])), (h10 1, .inl (cs 0, 6, .inl (fun _ => 0))), (h10 2, .inl (cs 0, 6, .inl (fun _ => 0))), (h5 0, .inr (6, [.int (nI 1), .ref (h5 1), .ref (h5 2)])), (h5 1, .inl (cs 0, 6, .inl (fun _ => 0))), (h5 2, .inl (cs 0, 6, .inl (fun _ => 0))), (q1, .inl (cs 3, 16, .inr (.inr (.inr (.inr (fun _ => none)))))), (q, .inr (0, [.ref q1, .ref (h5 0), .null]))] H locs := hd
  refine vr_pf hx hb hts iX0 tyX0_ok nmX0 hown hK hc 7 rfl rfl 2 (by decide) f24 rfl rfl hin rfl (v := .ref (h10 0)) rfl rfl (Nat.le_of_ble_eq_true rfl) dX0_init_32 (fun H locs hc => ?_)
  have hc : lC D A s.heap [(h10 0, .inr (6, [.int (nI 1), .ref (h10 1), .ref (h10 2)])), (h10 1, .inl (cs 0, 6, .inl (fun _ => 0))), (h10 2, .inl (cs 0, 6, .inl (fun _ => 0))), (h5 0, .inr (6, [.int (nI 1), .ref (h5 1), .ref (h5 2)])), (h5 1, .inl (cs 0, 6, .inl (fun _ => 0))), (h5 2, .inl (cs 0, 6, .inl (fun _ => 0))), (q1, .inl (cs 3, 16, .inr (.inr (.inr (.inr (fun _ => none)))))), (q, .inr (0, [.ref q1, .ref (h5 0), .ref (h10 0)]))] H locs := hc
  refine lv_iconst (v := nI 0) hx hb dX0_init_35 (by decide) ?_
  refine lv_istore_n (lv' := [(1, .int (nI 0)), (0, .ref q)]) hx hb dX0_init_36 rfl hl (by decide) rfl (fun ls hl => ?_)
  refine c_loop (N := 16) (fun i H locs ls => ∃ g, lC D A s.heap (oA cs (vl [q, q1, h5 0, h5 1, h5 2, h10 0, h10 1, h10 2]) g i) H locs ∧ lv_has ls 2 [(1, .int (nI i)), (0, .ref q)]) (fun i => 7 + i * 14) (fun i => 46 + i * 66) ?_ ?_ 0 H locs ls (by omega) ⟨fun _ _ => 0, (by unfold oA oA8; rw [rA_0]; exact hc), lv_sub hl [0, 1] rfl⟩
  · intro i H locs ls hi hI ih
    obtain ⟨g, hc, hl⟩ := hI
    have hc : lC D A s.heap ([(h10 0, .inr (6, [.int (nI 1), .ref (h10 1), .ref (h10 2)])), (h10 1, .inl (cs 0, 6, .inl (fun _ => 0))), (h10 2, .inl (cs 0, 6, .inl (fun _ => 0))), (h5 0, .inr (6, [.int (nI 1), .ref (h5 1), .ref (h5 2)])), (h5 1, .inl (cs 0, 6, .inl (fun _ => 0))), (h5 2, .inl (cs 0, 6, .inl (fun _ => 0))), (q1, .inl (cs 3, 16, .inr (.inr (.inr (.inr (rA i g)))))), (q, .inr (0, [.ref q1, .ref (h5 0), .ref (h10 0)]))] ++ blk (fun b => oF cs (g b)) i) H locs := hc
    refine lv_iload_n hx hb dX0_init_37 rfl (lv_at hl 0 rfl) ?_
    refine lv_bipush (v := nI 16) hx hb dX0_init_38 (by decide) ?_
    refine lv_icmp_ge (tgt := 62) hx hb dX0_init_40 (by decide) (fun z => absurd ((nI_leI (by decide) (by omega)).mp z) (by omega)) (fun _ => ?_)
    refine lv_aload_n hx hb dX0_init_43 rfl (lv_at hl 1 rfl) ?_
    refine vr_gt hx hb hts iX0 hown hK hc 7 rfl rfl 0 (by decide) f11 rfl rfl dX0_init_44 ?_
    refine lv_iload_n hx hb dX0_init_47 rfl (lv_at hl 0 rfl) ?_
    refine vr_new (ci := 3) (fs := [.null, .null, .null, .int 0]) hx hb hts iX4 tyX4 tyX4_ok hown (hts (.classLink RX0 9 RX4) (by decide +kernel)) (hts (.instantiable RX4 4) (by decide +kernel)) (hts (.initialized RX4) (by decide +kernel)) hK hA rfl (fun j hj => by rcases (show j = 0 ∨ j = 1 ∨ j = 2 ∨ j = 3 by omega) with rfl | rfl | rfl | rfl <;> rfl) hc (by show _ ≤ 231; omega) (by show _ ≤ 1102; omega) dX0_init_48 (fun q12 H hc => ?_)
    have hc : lC D A s.heap ([(q12, .inr (3, [.null, .null, .null, .int 0])), (h10 0, .inr (6, [.int (nI 1), .ref (h10 1), .ref (h10 2)])), (h10 1, .inl (cs 0, 6, .inl (fun _ => 0))), (h10 2, .inl (cs 0, 6, .inl (fun _ => 0))), (h5 0, .inr (6, [.int (nI 1), .ref (h5 1), .ref (h5 2)])), (h5 1, .inl (cs 0, 6, .inl (fun _ => 0))), (h5 2, .inl (cs 0, 6, .inl (fun _ => 0))), (q1, .inl (cs 3, 16, .inr (.inr (.inr (.inr (rA i g)))))), (q, .inr (0, [.ref q1, .ref (h5 0), .ref (h10 0)]))] ++ blk (fun b => oF cs (g b)) i) H locs := hc
    refine lv_dup hx hb dX0_init_51 rfl ?_
    refine vr_cI (mc := 13) (ms := 62) (As := []) (rest := [.ref q12, .int (nI i), .ref q1]) ⟨hx, hb, hml, hown, hts⟩ (cwI 0 hts gX0_init_X4_init rfl rfl rfl (hts (.initialized RX4) (by decide +kernel)) (hts (.methodLink RX0 27 yX4_init) (by decide +kernel)) (hts (.instanceMethod yX4_init) (by decide +kernel)) rfl (by decide +kernel) ⟨(Nat.le_of_ble_eq_true rfl), (Nat.le_of_ble_eq_true rfl)⟩) hK hN hA hc (c_X4_init l D cs) rfl rfl hl.1 (Nat.le_of_ble_eq_true rfl) ⟨(by show _ ≤ 231; omega), (by show _ ≤ 1102; omega)⟩ dX0_init_52 (fun w13 H locs ho14 hd => ?_)
    obtain ⟨h15, e16, rfl⟩ := ho14
    subst e16
    have hc : lC D A s.heap ([(h15 11, .inr (6, [.int (nI 1), .ref (h15 12), .ref (h15 13)])), (h15 12, .inl (cs 0, 6, .inl (fun _ => 0))), (h15 13, .inl (cs 0, 6, .inl (fun _ => 0))), (h15 8, .inr (6, [.int (nI 1), .ref (h15 9), .ref (h15 10)])), (h15 9, .inl (cs 0, 6, .inl (fun _ => 0))), (h15 10, .inl (cs 0, 6, .inl (fun _ => 0))), (h15 1, .inl (cs 4, 2, .inr (.inr (.inr (.inr (fun e => if e < 2 then some (h15 (8 + 3 * e)) else none)))))), (h15 5, .inr (6, [.int (nI 1), .ref (h15 6), .ref (h15 7)])), (h15 6, .inl (cs 0, 6, .inl (fun _ => 0))), (h15 7, .inl (cs 0, 6, .inl (fun _ => 0))), (h15 2, .inr (6, [.int (nI 1), .ref (h15 3), .ref (h15 4)])), (h15 3, .inl (cs 0, 6, .inl (fun _ => 0))), (h15 4, .inl (cs 0, 6, .inl (fun _ => 0))), (h15 0, .inr (3, [.ref (h15 2), .ref (h15 5), .ref (h15 1), .int (nI 0)])), (h10 0, .inr (6, [.int (nI 1), .ref (h10 1), .ref (h10 2)])), (h10 1, .inl (cs 0, 6, .inl (fun _ => 0))), (h10 2, .inl (cs 0, 6, .inl (fun _ => 0))), (h5 0, .inr (6, [.int (nI 1), .ref (h5 1), .ref (h5 2)])), (h5 1, .inl (cs 0, 6, .inl (fun _ => 0))), (h5 2, .inl (cs 0, 6, .inl (fun _ => 0))), (q1, .inl (cs 3, 16, .inr (.inr (.inr (.inr (rA i g)))))), (q, .inr (0, [.ref q1, .ref (h5 0), .ref (h10 0)]))] ++ blk (fun b => oF cs (g b)) i) H locs := hd
    refine vr_as hx hb hK hc 20 3 13 3 rfl rfl rfl rfl i (by omega) (by decide) dX0_init_55 (fun H locs hc => ?_)
    have hc : lC D A s.heap ([(h15 11, .inr (6, [.int (nI 1), .ref (h15 12), .ref (h15 13)])), (h15 12, .inl (cs 0, 6, .inl (fun _ => 0))), (h15 13, .inl (cs 0, 6, .inl (fun _ => 0))), (h15 8, .inr (6, [.int (nI 1), .ref (h15 9), .ref (h15 10)])), (h15 9, .inl (cs 0, 6, .inl (fun _ => 0))), (h15 10, .inl (cs 0, 6, .inl (fun _ => 0))), (h15 1, .inl (cs 4, 2, .inr (.inr (.inr (.inr (fun e => if e < 2 then some (h15 (8 + 3 * e)) else none)))))), (h15 5, .inr (6, [.int (nI 1), .ref (h15 6), .ref (h15 7)])), (h15 6, .inl (cs 0, 6, .inl (fun _ => 0))), (h15 7, .inl (cs 0, 6, .inl (fun _ => 0))), (h15 2, .inr (6, [.int (nI 1), .ref (h15 3), .ref (h15 4)])), (h15 3, .inl (cs 0, 6, .inl (fun _ => 0))), (h15 4, .inl (cs 0, 6, .inl (fun _ => 0))), (h15 0, .inr (3, [.ref (h15 2), .ref (h15 5), .ref (h15 1), .int (nI 0)])), (h10 0, .inr (6, [.int (nI 1), .ref (h10 1), .ref (h10 2)])), (h10 1, .inl (cs 0, 6, .inl (fun _ => 0))), (h10 2, .inl (cs 0, 6, .inl (fun _ => 0))), (h5 0, .inr (6, [.int (nI 1), .ref (h5 1), .ref (h5 2)])), (h5 1, .inl (cs 0, 6, .inl (fun _ => 0))), (h5 2, .inl (cs 0, 6, .inl (fun _ => 0))), (q1, .inl (cs 3, 16, .inr (.inr (.inr (.inr (va_up (rA i g) i (some (h15 0)))))))), (q, .inr (0, [.ref q1, .ref (h5 0), .ref (h10 0)]))] ++ blk (fun b => oF cs (g b)) i) H locs := hc
    refine lv_iinc (v := nI (i + 1)) (lv' := [(1, .int (nI (i + 1))), (0, .ref q)]) hx hb dX0_init_56 hl (k := 0) rfl (nI_1 i) (by decide) rfl (fun ls hl => ?_)
    refine lv_goto (tgt := 37) hx hb dX0_init_59 (by decide) ?_
    refine W.widen (k := 7 + (i + 1) * 14) (n := 46 + (i + 1) * 66) (by omega) (by omega) (ih _ _ _ ⟨va_up g i h15, ?_, hl⟩)
    unfold oA oA8; rw [← rA_up, blk_up]
    exact lC_perm hc (List.perm_append_comm_assoc (oF cs h15) [(h10 0, .inr (6, [.int (nI 1), .ref (h10 1), .ref (h10 2)])), (h10 1, .inl (cs 0, 6, .inl (fun _ => 0))), (h10 2, .inl (cs 0, 6, .inl (fun _ => 0))), (h5 0, .inr (6, [.int (nI 1), .ref (h5 1), .ref (h5 2)])), (h5 1, .inl (cs 0, 6, .inl (fun _ => 0))), (h5 2, .inl (cs 0, 6, .inl (fun _ => 0))), (q1, .inl (cs 3, 16, .inr (.inr (.inr (.inr (va_up (rA i g) i (some (h15 0)))))))), (q, .inr (0, [.ref q1, .ref (h5 0), .ref (h10 0)]))] (blk (fun b => oF cs (g b)) i))
  · intro H locs ls hI
    obtain ⟨g, hc, hl⟩ := hI
    refine lv_iload_n hx hb dX0_init_37 rfl (lv_at hl 0 rfl) ?_
    refine lv_bipush (v := nI 16) hx hb dX0_init_38 (by decide) ?_
    refine lv_icmp_ge (tgt := 62) hx hb dX0_init_40 (by decide) (fun _ => ?_) (fun z => absurd (by decide) z)
    exact vr_rt (oA cs (vl [q, q1, h5 0, h5 1, h5 2, h10 0, h10 1, h10 2]) g 16) ⟨vl [q, q1, h5 0, h5 1, h5 2, h10 0, h10 1, h10 2], g, rfl, rfl⟩ hx hb hr hK hc hlocks (Nat.le_of_ble_eq_true rfl) (Nat.le_of_ble_eq_true rfl) dX0_init_62
