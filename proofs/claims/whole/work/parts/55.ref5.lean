/-! the reference, 5: reach: laid by wip/gen/specs19.py -/
set_option maxHeartbeats 4000000 in
set_option maxRecDepth 100000 in
theorem k_X9_reach_r0 (l : Launch) (D : va_G) (ad : Nat → Nat) (cs : Nat → ClassId) (sz : Nat) (M : wM) (J : wJ) (b : Nat) (e1 : Nat) (hb16 : b < 16) (he2 : e1 < 2) (hSz : ∀ b, b < 16 → M 1 b = nI (tn (M 1 b)) ∧ tn (M 1 b) ≤ 8) (hSt : ∀ b, b < 16 → ∀ a, a < tn (M 1 b) → st9 M b a) (hEd : ∀ b, b < 16 → M 3 b = nI (tn (M 3 b)) ∧ tn (M 3 b) ≤ 2) (hXY : ∀ b, b < 16 → isV (M 6 b) ∧ isV (M 7 b)) (hr8 : M 8 b = nI 0) : wCi l yX9_reach wsX9_reach { frames := 6, cells := 0, slots := 0, locals := 154 } D 23 mSh ad cs [.ref (ad 0), .int (nI b), .int (nI e1)] sz M J (pRc M J b e1) := by
  refine wC_i (cc := cX9_reach) (maxL := 6) (ret := (some .boolean)) (by decide) rfl (Nat.le_of_ble_eq_true rfl) ?_
  intro p e s m below meth c ls A hx hb hr hml hown hts hlocks hK hA hw hl hAe
  clear hAe
  have hl : lv_has ls 6 [(0, .ref (ad 0)), (1, .int (nI b)), (2, .int (nI e1))] := hl
  have f53 : (Cond.fieldLink RX9 53 "RangePropagatorModel" "isThere" "[Z").before _ s = true := hts _ (by decide +kernel)
  have iX9 : ∀ w ∈ wsX90, w ∈ wsX9_reach := by decide +kernel
  have f20 : (Cond.fieldLink RX9 20 "RangePropagatorModel" "edges" "[I").before _ s = true := hts _ (by decide +kernel)
  have f29 : (Cond.fieldLink RX9 29 "RangePropagatorModel" "xs" "[I").before _ s = true := hts _ (by decide +kernel)
  have f32 : (Cond.fieldLink RX9 32 "RangePropagatorModel" "ys" "[I").before _ s = true := hts _ (by decide +kernel)
  have f35 : (Cond.fieldLink RX9 35 "RangePropagatorModel" "relations" "[I").before _ s = true := hts _ (by decide +kernel)
  have f66 : (Cond.fieldLink RX9 66 "RangePropagatorModel" "low" "[I").before _ s = true := hts _ (by decide +kernel)
  have f69 : (Cond.fieldLink RX9 69 "RangePropagatorModel" "high" "[I").before _ s = true := hts _ (by decide +kernel)
  have hE2 : tn (M 3 b) ≤ 2 := (hEd b hb16).2
  have hr9 : tn (M 8 b) = 0 := (by rw [hr8]; exact tn_nI (by decide))
  have hX6 : tn (M 6 b) < 6 := (hXY b hb16).1.2
  have hY6 : tn (M 7 b) < 6 := (hXY b hb16).2.2
  refine lv_aload_n hx hb dX9_reach_0 rfl (lv_at hl 0 rfl) ?_
  refine wr_gr hx hb hown hK hts iX9 (ci := 8) rfl 17 (by decide) f53 rfl hw 0 (by omega) 12 rfl rfl dX9_reach_1 ?_
  refine lv_iload_n hx hb dX9_reach_4 rfl (lv_at hl 1 rfl) ?_
  refine wr_zldN hx hb hK hw 12 (by omega) rfl (by decide) b rfl (by omega) dX9_reach_5 ?_
  refine lv_if_ne (tgt := 11) hx hb dX9_reach_6 (by decide) (fun q1 => ?_) (fun q1 => ?_)
  · skip
    refine lv_aload_n hx hb dX9_reach_11 rfl (lv_at hl 0 rfl) ?_
    refine lv_iload_n hx hb dX9_reach_12 rfl (lv_at hl 1 rfl) ?_
    refine wr_cVv (k := 0) (ci := 8) (As := [.int (nI b)]) (rest := []) ⟨hx, hb, hml, hown, hts⟩ (cwV 1 hts gX9_reach_X9_leave rfl rfl rfl (by decide +kernel) ⟨Nat.le_of_ble_eq_true rfl, Nat.le_of_ble_eq_true rfl⟩) hK hA hw (k_X9_leave l D ad cs s.heap.size M J b (by omega) hSz hSt) (by omega) rfl rfl rfl rfl hl.1 (Nat.le_of_ble_eq_true rfl) ⟨Nat.le_of_ble_eq_true rfl, Nat.le_of_ble_eq_true rfl⟩ dX9_reach_13 (fun M3 J4 H locs h5 hw => ?_)
    have h5J : J4 = J := h5.1
    rw [h5J] at hw h5
    refine lv_aload_n hx hb dX9_reach_16 rfl (lv_at hl 0 rfl) ?_
    refine wr_gr hx hb hown hK hts iX9 (ci := 8) rfl 4 (by decide) f20 rfl hw 0 (by omega) 3 rfl rfl dX9_reach_17 ?_
    refine lv_iload_n hx hb dX9_reach_20 rfl (lv_at hl 1 rfl) ?_
    refine wr_ildN hx hb hK hw 3 (by omega) rfl (by decide) b rfl (by omega) dX9_reach_21 ?_
    rw [show M3 3 b = nI (tn (M 3 b)) from ((congrFun (h5.2.1 3 (by unfold m67; omega)) b).trans (hEd b hb16).1)]
    refine lv_iconst (v := nI 2) hx hb dX9_reach_22 (by decide) ?_
    refine lv_icmp_ge (tgt := 28) hx hb dX9_reach_23 (by decide) (fun q6 => ?_) (fun q6 => ?_)
    · have q6n : 2 ≤ (tn (M 3 b)) := (nI_leI (by omega) (by omega)).mp q6
      refine lv_aload_n hx hb dX9_reach_28 rfl (lv_at hl 0 rfl) ?_
      refine wr_gr hx hb hown hK hts iX9 (ci := 8) rfl 7 (by decide) f29 rfl hw 0 (by omega) 6 rfl rfl dX9_reach_29 ?_
      refine lv_iload_n hx hb dX9_reach_32 rfl (lv_at hl 1 rfl) ?_
      refine wr_ildN hx hb hK hw 6 (by omega) rfl (by decide) b rfl (by omega) dX9_reach_33 ?_
      rw [show M3 6 b = nI (tn (M 6 b)) from ((congrFun (h5.2.1 6 (by unfold m67; omega)) b).trans (hXY b hb16).1.1)]
      refine lv_istore_n (lv' := [(3, .int (nI (tn (M 6 b)))), (0, .ref (ad 0)), (1, .int (nI b)), (2, .int (nI e1))]) hx hb dX9_reach_34 rfl hl (by decide) rfl (fun ls hl => ?_)
      refine lv_aload_n hx hb dX9_reach_35 rfl (lv_at hl 1 rfl) ?_
      refine wr_gr hx hb hown hK hts iX9 (ci := 8) rfl 8 (by decide) f32 rfl hw 0 (by omega) 7 rfl rfl dX9_reach_36 ?_
      refine lv_iload_n hx hb dX9_reach_39 rfl (lv_at hl 2 rfl) ?_
      refine wr_ildN hx hb hK hw 7 (by omega) rfl (by decide) b rfl (by omega) dX9_reach_40 ?_
      rw [show M3 7 b = nI (tn (M 7 b)) from ((congrFun (h5.2.1 7 (by unfold m67; omega)) b).trans (hXY b hb16).2.1)]
      refine lv_istore (lv' := [(4, .int (nI (tn (M 7 b)))), (3, .int (nI (tn (M 6 b)))), (0, .ref (ad 0)), (1, .int (nI b)), (2, .int (nI e1))]) hx hb dX9_reach_41 hl (by decide) rfl (fun ls hl => ?_)
      refine lv_iload_n hx hb dX9_reach_43 rfl (lv_at hl 4 rfl) ?_
      refine lv_if_ne (tgt := 56) hx hb dX9_reach_44 (by decide) (fun q7 => ?_) (fun q7 => ?_)
      · skip
        refine lv_aload_n hx hb dX9_reach_56 rfl (lv_at hl 2 rfl) ?_
        refine wr_gr hx hb hown hK hts iX9 (ci := 8) rfl 9 (by decide) f35 rfl hw 0 (by omega) 8 rfl rfl dX9_reach_57 ?_
        refine lv_iload_n hx hb dX9_reach_60 rfl (lv_at hl 3 rfl) ?_
        refine wr_ildN hx hb hK hw 8 (by omega) rfl (by decide) b rfl (by omega) dX9_reach_61 ?_
        rw [show M3 8 b = nI 0 from ((congrFun (h5.2.1 8 (by unfold m67; omega)) b).trans hr8)]
        refine wr_cSi (As := [.int (nI 0)]) (rest := []) ⟨hx, hb, hml, hown, hts⟩ (va_cwS 1 hts gX9_reach_X9_opposite rfl rfl rfl (by decide +kernel) ⟨Nat.le_of_ble_eq_true rfl, Nat.le_of_ble_eq_true rfl⟩) hK hA hw (k_X9_opposite l D ad cs H.size M3 J (nI 0) ) rfl rfl hl.1 (Nat.le_of_ble_eq_true rfl) ⟨Nat.le_of_ble_eq_true rfl, Nat.le_of_ble_eq_true rfl⟩ dX9_reach_62 (fun r8 M9 J10 H locs h11 hw => ?_)
        obtain ⟨h11, rfl⟩ := h11
        cases h11
        rw [show E_X9_opposite M3 (nI 0) = nI 4 from (by unfold E_X9_opposite; decide)]
        refine lv_istore (lv' := [(5, .int (nI 4)), (4, .int (nI (tn (M 7 b)))), (3, .int (nI (tn (M 6 b)))), (0, .ref (ad 0)), (1, .int (nI b)), (2, .int (nI e1))]) hx hb dX9_reach_65 hl (by decide) rfl (fun ls hl => ?_)
        refine lv_iload_n hx hb dX9_reach_67 rfl (lv_at hl 2 rfl) ?_
        refine lv_iload hx hb dX9_reach_68 (lv_at hl 1 rfl) ?_
        refine lv_icmp_ne (tgt := 97) hx hb dX9_reach_70 (by decide) (fun q12 => ?_) (fun q12 => ?_)
        · have q12n : ¬ (tn (M 6 b)) = (tn (M 7 b)) := fun z => q12 ((nI_eq (by omega) (by omega)).mpr z)
          refine lv_aload_n hx hb dX9_reach_97 rfl (lv_at hl 3 rfl) ?_
          refine lv_iload_n hx hb dX9_reach_98 rfl (lv_at hl 2 rfl) ?_
          refine lv_iload hx hb dX9_reach_99 (lv_at hl 0 rfl) ?_
          refine lv_iload hx hb dX9_reach_101 (lv_at hl 1 rfl) ?_
          refine wr_cVv (k := 0) (ci := 8) (As := [.int (nI (tn (M 6 b))), .int (nI 4), .int (nI (tn (M 7 b)))]) (rest := []) ⟨hx, hb, hml, hown, hts⟩ (cwV 3 hts gX9_reach_X9_refine rfl rfl rfl (by decide +kernel) ⟨Nat.le_of_ble_eq_true rfl, Nat.le_of_ble_eq_true rfl⟩) hK hA hw (k_X9_refine_r4 l D ad cs H.size M3 J (tn (M 6 b)) (tn (M 7 b)) (by omega) (by omega)) (by omega) rfl rfl rfl rfl hl.1 (Nat.le_of_ble_eq_true rfl) ⟨Nat.le_of_ble_eq_true rfl, Nat.le_of_ble_eq_true rfl⟩ dX9_reach_103 (fun M14 J15 H locs h16 hw => ?_)
          cases h16
          refine lv_aload_n hx hb dX9_reach_106 rfl (lv_at hl 3 rfl) ?_
          refine wr_gr hx hb hown hK hts iX9 (ci := 8) rfl 21 (by decide) f66 rfl hw 0 (by omega) 16 rfl rfl dX9_reach_107 ?_
          refine lv_iload_n hx hb dX9_reach_110 rfl (lv_at hl 2 rfl) ?_
          refine wr_ildN hx hb hK hw 16 (by omega) rfl (by decide) (tn (M 6 b)) rfl (by omega) dX9_reach_111 ?_
          refine lv_aload_n hx hb dX9_reach_112 rfl (lv_at hl 3 rfl) ?_
          refine wr_gr hx hb hown hK hts iX9 (ci := 8) rfl 22 (by decide) f69 rfl hw 0 (by omega) 17 rfl rfl dX9_reach_113 ?_
          refine lv_iload_n hx hb dX9_reach_116 rfl (lv_at hl 2 rfl) ?_
          refine wr_ildN hx hb hK hw 17 (by omega) rfl (by decide) (tn (M 6 b)) rfl (by omega) dX9_reach_117 ?_
          refine lv_icmp_gt (tgt := 142) hx hb dX9_reach_118 (by decide) (fun q17 => ?_) (fun q17 => ?_)
          · skip
            refine lv_iconst (v := nI 0) hx hb dX9_reach_142 (by decide) ?_
            exact wr_iret hx hb hr (by decide) hK hw (pRc_6 q1 h5 (by omega) (by rw [hr9]; unfold relN; rw [if_neg (fun z => q7 (by rw [z]; rfl))]; rfl) (by omega) (hXY b hb16).1.2 (hXY b hb16).2.2 refine_4 (Or.inl q17)) hlocks dX9_reach_143
          · skip
            refine lv_aload_n hx hb dX9_reach_121 rfl (lv_at hl 3 rfl) ?_
            refine wr_gr hx hb hown hK hts iX9 (ci := 8) rfl 21 (by decide) f66 rfl hw 0 (by omega) 16 rfl rfl dX9_reach_122 ?_
            refine lv_iload hx hb dX9_reach_125 (lv_at hl 1 rfl) ?_
            refine wr_ildN hx hb hK hw 16 (by omega) rfl (by decide) (tn (M 7 b)) rfl (by omega) dX9_reach_127 ?_
            refine lv_aload_n hx hb dX9_reach_128 rfl (lv_at hl 3 rfl) ?_
            refine wr_gr hx hb hown hK hts iX9 (ci := 8) rfl 22 (by decide) f69 rfl hw 0 (by omega) 17 rfl rfl dX9_reach_129 ?_
            refine lv_iload hx hb dX9_reach_132 (lv_at hl 1 rfl) ?_
            refine wr_ildN hx hb hK hw 17 (by omega) rfl (by decide) (tn (M 7 b)) rfl (by omega) dX9_reach_134 ?_
            refine lv_icmp_gt (tgt := 142) hx hb dX9_reach_135 (by decide) (fun q18 => ?_) (fun q18 => ?_)
            · skip
              refine lv_iconst (v := nI 0) hx hb dX9_reach_142 (by decide) ?_
              exact wr_iret hx hb hr (by decide) hK hw (pRc_6 q1 h5 (by omega) (by rw [hr9]; unfold relN; rw [if_neg (fun z => q7 (by rw [z]; rfl))]; rfl) (by omega) (hXY b hb16).1.2 (hXY b hb16).2.2 refine_4 (Or.inr q18)) hlocks dX9_reach_143
            · skip
              refine lv_iconst (v := nI 1) hx hb dX9_reach_138 (by decide) ?_
              refine lv_goto (tgt := 143) hx hb dX9_reach_139 (by decide) ?_
              exact wr_iret hx hb hr (by decide) hK hw (pRc_5 q1 h5 (by omega) (by rw [hr9]; unfold relN; rw [if_neg (fun z => q7 (by rw [z]; rfl))]; rfl) (by omega) (hXY b hb16).1.2 (hXY b hb16).2.2 refine_4 q17 q18) hlocks dX9_reach_143
        · have q12n : (tn (M 6 b)) = (tn (M 7 b)) := (nI_eq (by omega) (by omega)).mp q12
          refine lv_iload hx hb dX9_reach_73 (lv_at hl 0 rfl) ?_
          refine lv_iconst (v := nI 1) hx hb dX9_reach_75 (by decide) ?_
          refine lv_icmp_eq (tgt := 91) hx hb dX9_reach_76 (by decide) (fun q19 => ?_) (fun q19 => ?_)
          · have q19n : 4 = 1 := (nI_eq (by omega) (by omega)).mp q19
            exact absurd q19 (by decide)
          · have q19n : ¬ 4 = 1 := fun z => q19 ((nI_eq (by omega) (by omega)).mpr z)
            refine lv_iload hx hb dX9_reach_79 (lv_at hl 0 rfl) ?_
            refine lv_iconst (v := nI 2) hx hb dX9_reach_81 (by decide) ?_
            refine lv_icmp_eq (tgt := 91) hx hb dX9_reach_82 (by decide) (fun q20 => ?_) (fun q20 => ?_)
            · have q20n : 4 = 2 := (nI_eq (by omega) (by omega)).mp q20
              exact absurd q20 (by decide)
            · have q20n : ¬ 4 = 2 := fun z => q20 ((nI_eq (by omega) (by omega)).mpr z)
              refine lv_iload hx hb dX9_reach_85 (lv_at hl 0 rfl) ?_
              refine lv_iconst (v := nI 4) hx hb dX9_reach_87 (by decide) ?_
              refine lv_icmp_ne (tgt := 95) hx hb dX9_reach_88 (by decide) (fun q21 => ?_) (fun q21 => ?_)
              · have q21n : ¬ 4 = 4 := fun z => q21 ((nI_eq (by omega) (by omega)).mpr z)
                exact absurd q21 (by decide)
              · have q21n : 4 = 4 := (nI_eq (by omega) (by omega)).mp q21
                refine lv_iconst (v := nI 1) hx hb dX9_reach_91 (by decide) ?_
                refine lv_goto (tgt := 96) hx hb dX9_reach_92 (by decide) ?_
                exact wr_iret hx hb hr (by decide) hK hw (pRc_3 (q := 4) q1 h5 (by omega) (by rw [hr9]; unfold relN; rw [if_neg (fun z => q7 (by rw [z]; rfl))]; rfl) (by omega) (by decide)) hlocks dX9_reach_96
      · skip
        refine lv_aload_n hx hb dX9_reach_47 rfl (lv_at hl 2 rfl) ?_
        refine wr_gr hx hb hown hK hts iX9 (ci := 8) rfl 9 (by decide) f35 rfl hw 0 (by omega) 8 rfl rfl dX9_reach_48 ?_
        refine lv_iload_n hx hb dX9_reach_51 rfl (lv_at hl 3 rfl) ?_
        refine wr_ildN hx hb hK hw 8 (by omega) rfl (by decide) b rfl (by omega) dX9_reach_52 ?_
        rw [show M3 8 b = nI 0 from ((congrFun (h5.2.1 8 (by unfold m67; omega)) b).trans hr8)]
        refine lv_goto (tgt := 65) hx hb dX9_reach_53 (by decide) ?_
        refine lv_istore (lv' := [(5, .int (nI 0)), (4, .int (nI (tn (M 7 b)))), (3, .int (nI (tn (M 6 b)))), (0, .ref (ad 0)), (1, .int (nI b)), (2, .int (nI e1))]) hx hb dX9_reach_65 hl (by decide) rfl (fun ls hl => ?_)
        refine lv_iload_n hx hb dX9_reach_67 rfl (lv_at hl 2 rfl) ?_
        refine lv_iload hx hb dX9_reach_68 (lv_at hl 1 rfl) ?_
        refine lv_icmp_ne (tgt := 97) hx hb dX9_reach_70 (by decide) (fun q22 => ?_) (fun q22 => ?_)
        · have q22n : ¬ (tn (M 6 b)) = (tn (M 7 b)) := fun z => q22 ((nI_eq (by omega) (by omega)).mpr z)
          refine lv_aload_n hx hb dX9_reach_97 rfl (lv_at hl 3 rfl) ?_
          refine lv_iload_n hx hb dX9_reach_98 rfl (lv_at hl 2 rfl) ?_
          refine lv_iload hx hb dX9_reach_99 (lv_at hl 0 rfl) ?_
          refine lv_iload hx hb dX9_reach_101 (lv_at hl 1 rfl) ?_
          refine wr_cVv (k := 0) (ci := 8) (As := [.int (nI (tn (M 6 b))), .int (nI 0), .int (nI (tn (M 7 b)))]) (rest := []) ⟨hx, hb, hml, hown, hts⟩ (cwV 3 hts gX9_reach_X9_refine rfl rfl rfl (by decide +kernel) ⟨Nat.le_of_ble_eq_true rfl, Nat.le_of_ble_eq_true rfl⟩) hK hA hw (k_X9_refine_r0 l D ad cs H.size M3 J (tn (M 6 b)) (tn (M 7 b)) (by omega) (by omega)) (by omega) rfl rfl rfl rfl hl.1 (Nat.le_of_ble_eq_true rfl) ⟨Nat.le_of_ble_eq_true rfl, Nat.le_of_ble_eq_true rfl⟩ dX9_reach_103 (fun M24 J25 H locs h26 hw => ?_)
          cases h26
          refine lv_aload_n hx hb dX9_reach_106 rfl (lv_at hl 3 rfl) ?_
          refine wr_gr hx hb hown hK hts iX9 (ci := 8) rfl 21 (by decide) f66 rfl hw 0 (by omega) 16 rfl rfl dX9_reach_107 ?_
          refine lv_iload_n hx hb dX9_reach_110 rfl (lv_at hl 2 rfl) ?_
          refine wr_ildN hx hb hK hw 16 (by omega) rfl (by decide) (tn (M 6 b)) rfl (by omega) dX9_reach_111 ?_
          refine lv_aload_n hx hb dX9_reach_112 rfl (lv_at hl 3 rfl) ?_
          refine wr_gr hx hb hown hK hts iX9 (ci := 8) rfl 22 (by decide) f69 rfl hw 0 (by omega) 17 rfl rfl dX9_reach_113 ?_
          refine lv_iload_n hx hb dX9_reach_116 rfl (lv_at hl 2 rfl) ?_
          refine wr_ildN hx hb hK hw 17 (by omega) rfl (by decide) (tn (M 6 b)) rfl (by omega) dX9_reach_117 ?_
          refine lv_icmp_gt (tgt := 142) hx hb dX9_reach_118 (by decide) (fun q27 => ?_) (fun q27 => ?_)
          · skip
            refine lv_iconst (v := nI 0) hx hb dX9_reach_142 (by decide) ?_
            exact wr_iret hx hb hr (by decide) hK hw (pRc_6 q1 h5 (by omega) (by rw [hr9]; unfold relN; rw [if_pos (eN0 (by omega) q7)]) (by omega) (hXY b hb16).1.2 (hXY b hb16).2.2 refine_0 (Or.inl q27)) hlocks dX9_reach_143
          · skip
            refine lv_aload_n hx hb dX9_reach_121 rfl (lv_at hl 3 rfl) ?_
            refine wr_gr hx hb hown hK hts iX9 (ci := 8) rfl 21 (by decide) f66 rfl hw 0 (by omega) 16 rfl rfl dX9_reach_122 ?_
            refine lv_iload hx hb dX9_reach_125 (lv_at hl 1 rfl) ?_
            refine wr_ildN hx hb hK hw 16 (by omega) rfl (by decide) (tn (M 7 b)) rfl (by omega) dX9_reach_127 ?_
            refine lv_aload_n hx hb dX9_reach_128 rfl (lv_at hl 3 rfl) ?_
            refine wr_gr hx hb hown hK hts iX9 (ci := 8) rfl 22 (by decide) f69 rfl hw 0 (by omega) 17 rfl rfl dX9_reach_129 ?_
            refine lv_iload hx hb dX9_reach_132 (lv_at hl 1 rfl) ?_
            refine wr_ildN hx hb hK hw 17 (by omega) rfl (by decide) (tn (M 7 b)) rfl (by omega) dX9_reach_134 ?_
            refine lv_icmp_gt (tgt := 142) hx hb dX9_reach_135 (by decide) (fun q28 => ?_) (fun q28 => ?_)
            · skip
              refine lv_iconst (v := nI 0) hx hb dX9_reach_142 (by decide) ?_
              exact wr_iret hx hb hr (by decide) hK hw (pRc_6 q1 h5 (by omega) (by rw [hr9]; unfold relN; rw [if_pos (eN0 (by omega) q7)]) (by omega) (hXY b hb16).1.2 (hXY b hb16).2.2 refine_0 (Or.inr q28)) hlocks dX9_reach_143
            · skip
              refine lv_iconst (v := nI 1) hx hb dX9_reach_138 (by decide) ?_
              refine lv_goto (tgt := 143) hx hb dX9_reach_139 (by decide) ?_
              exact wr_iret hx hb hr (by decide) hK hw (pRc_5 q1 h5 (by omega) (by rw [hr9]; unfold relN; rw [if_pos (eN0 (by omega) q7)]) (by omega) (hXY b hb16).1.2 (hXY b hb16).2.2 refine_0 q27 q28) hlocks dX9_reach_143
        · have q22n : (tn (M 6 b)) = (tn (M 7 b)) := (nI_eq (by omega) (by omega)).mp q22
          refine lv_iload hx hb dX9_reach_73 (lv_at hl 0 rfl) ?_
          refine lv_iconst (v := nI 1) hx hb dX9_reach_75 (by decide) ?_
          refine lv_icmp_eq (tgt := 91) hx hb dX9_reach_76 (by decide) (fun q29 => ?_) (fun q29 => ?_)
          · have q29n : 0 = 1 := (nI_eq (by omega) (by omega)).mp q29
            exact absurd q29 (by decide)
          · have q29n : ¬ 0 = 1 := fun z => q29 ((nI_eq (by omega) (by omega)).mpr z)
            refine lv_iload hx hb dX9_reach_79 (lv_at hl 0 rfl) ?_
            refine lv_iconst (v := nI 2) hx hb dX9_reach_81 (by decide) ?_
            refine lv_icmp_eq (tgt := 91) hx hb dX9_reach_82 (by decide) (fun q30 => ?_) (fun q30 => ?_)
            · have q30n : 0 = 2 := (nI_eq (by omega) (by omega)).mp q30
              exact absurd q30 (by decide)
            · have q30n : ¬ 0 = 2 := fun z => q30 ((nI_eq (by omega) (by omega)).mpr z)
              refine lv_iload hx hb dX9_reach_85 (lv_at hl 0 rfl) ?_
              refine lv_iconst (v := nI 4) hx hb dX9_reach_87 (by decide) ?_
              refine lv_icmp_ne (tgt := 95) hx hb dX9_reach_88 (by decide) (fun q31 => ?_) (fun q31 => ?_)
              · have q31n : ¬ 0 = 4 := fun z => q31 ((nI_eq (by omega) (by omega)).mpr z)
                refine lv_iconst (v := nI 0) hx hb dX9_reach_95 (by decide) ?_
                exact wr_iret hx hb hr (by decide) hK hw (pRc_4 (q := 0) q1 h5 (by omega) (by rw [hr9]; unfold relN; rw [if_pos (eN0 (by omega) q7)]) (by omega) (by decide)) hlocks dX9_reach_96
              · have q31n : 0 = 4 := (nI_eq (by omega) (by omega)).mp q31
                exact absurd q31 (by decide)
    · have q6n : ¬ 2 ≤ (tn (M 3 b)) := fun z => q6 ((nI_leI (by omega) (by omega)).mpr z)
      refine lv_iconst (v := nI 1) hx hb dX9_reach_26 (by decide) ?_
      exact wr_iret hx hb hr (by decide) hK hw (pRc_2 q1 h5 (by omega)) hlocks dX9_reach_27
  · skip
    refine lv_iconst (v := nI 0) hx hb dX9_reach_9 (by decide) ?_
    exact wr_iret hx hb hr (by decide) hK hw (pRc_1 q1) hlocks dX9_reach_10
set_option maxHeartbeats 4000000 in
set_option maxRecDepth 100000 in
theorem k_X9_reach_r1 (l : Launch) (D : va_G) (ad : Nat → Nat) (cs : Nat → ClassId) (sz : Nat) (M : wM) (J : wJ) (b : Nat) (e1 : Nat) (hb16 : b < 16) (he2 : e1 < 2) (hSz : ∀ b, b < 16 → M 1 b = nI (tn (M 1 b)) ∧ tn (M 1 b) ≤ 8) (hSt : ∀ b, b < 16 → ∀ a, a < tn (M 1 b) → st9 M b a) (hEd : ∀ b, b < 16 → M 3 b = nI (tn (M 3 b)) ∧ tn (M 3 b) ≤ 2) (hXY : ∀ b, b < 16 → isV (M 6 b) ∧ isV (M 7 b)) (hr8 : M 8 b = nI 1) : wCi l yX9_reach wsX9_reach { frames := 6, cells := 0, slots := 0, locals := 154 } D 23 mSh ad cs [.ref (ad 0), .int (nI b), .int (nI e1)] sz M J (pRc M J b e1) := by
  refine wC_i (cc := cX9_reach) (maxL := 6) (ret := (some .boolean)) (by decide) rfl (Nat.le_of_ble_eq_true rfl) ?_
  intro p e s m below meth c ls A hx hb hr hml hown hts hlocks hK hA hw hl hAe
  clear hAe
  have hl : lv_has ls 6 [(0, .ref (ad 0)), (1, .int (nI b)), (2, .int (nI e1))] := hl
  have f53 : (Cond.fieldLink RX9 53 "RangePropagatorModel" "isThere" "[Z").before _ s = true := hts _ (by decide +kernel)
  have iX9 : ∀ w ∈ wsX90, w ∈ wsX9_reach := by decide +kernel
  have f20 : (Cond.fieldLink RX9 20 "RangePropagatorModel" "edges" "[I").before _ s = true := hts _ (by decide +kernel)
  have f29 : (Cond.fieldLink RX9 29 "RangePropagatorModel" "xs" "[I").before _ s = true := hts _ (by decide +kernel)
  have f32 : (Cond.fieldLink RX9 32 "RangePropagatorModel" "ys" "[I").before _ s = true := hts _ (by decide +kernel)
  have f35 : (Cond.fieldLink RX9 35 "RangePropagatorModel" "relations" "[I").before _ s = true := hts _ (by decide +kernel)
  have f66 : (Cond.fieldLink RX9 66 "RangePropagatorModel" "low" "[I").before _ s = true := hts _ (by decide +kernel)
  have f69 : (Cond.fieldLink RX9 69 "RangePropagatorModel" "high" "[I").before _ s = true := hts _ (by decide +kernel)
  have hE2 : tn (M 3 b) ≤ 2 := (hEd b hb16).2
  have hr9 : tn (M 8 b) = 1 := (by rw [hr8]; exact tn_nI (by decide))
  have hX6 : tn (M 6 b) < 6 := (hXY b hb16).1.2
  have hY6 : tn (M 7 b) < 6 := (hXY b hb16).2.2
  refine lv_aload_n hx hb dX9_reach_0 rfl (lv_at hl 0 rfl) ?_
  refine wr_gr hx hb hown hK hts iX9 (ci := 8) rfl 17 (by decide) f53 rfl hw 0 (by omega) 12 rfl rfl dX9_reach_1 ?_
  refine lv_iload_n hx hb dX9_reach_4 rfl (lv_at hl 1 rfl) ?_
  refine wr_zldN hx hb hK hw 12 (by omega) rfl (by decide) b rfl (by omega) dX9_reach_5 ?_
  refine lv_if_ne (tgt := 11) hx hb dX9_reach_6 (by decide) (fun q1 => ?_) (fun q1 => ?_)
  · skip
    refine lv_aload_n hx hb dX9_reach_11 rfl (lv_at hl 0 rfl) ?_
    refine lv_iload_n hx hb dX9_reach_12 rfl (lv_at hl 1 rfl) ?_
    refine wr_cVv (k := 0) (ci := 8) (As := [.int (nI b)]) (rest := []) ⟨hx, hb, hml, hown, hts⟩ (cwV 1 hts gX9_reach_X9_leave rfl rfl rfl (by decide +kernel) ⟨Nat.le_of_ble_eq_true rfl, Nat.le_of_ble_eq_true rfl⟩) hK hA hw (k_X9_leave l D ad cs s.heap.size M J b (by omega) hSz hSt) (by omega) rfl rfl rfl rfl hl.1 (Nat.le_of_ble_eq_true rfl) ⟨Nat.le_of_ble_eq_true rfl, Nat.le_of_ble_eq_true rfl⟩ dX9_reach_13 (fun M3 J4 H locs h5 hw => ?_)
    have h5J : J4 = J := h5.1
    rw [h5J] at hw h5
    refine lv_aload_n hx hb dX9_reach_16 rfl (lv_at hl 0 rfl) ?_
    refine wr_gr hx hb hown hK hts iX9 (ci := 8) rfl 4 (by decide) f20 rfl hw 0 (by omega) 3 rfl rfl dX9_reach_17 ?_
    refine lv_iload_n hx hb dX9_reach_20 rfl (lv_at hl 1 rfl) ?_
    refine wr_ildN hx hb hK hw 3 (by omega) rfl (by decide) b rfl (by omega) dX9_reach_21 ?_
    rw [show M3 3 b = nI (tn (M 3 b)) from ((congrFun (h5.2.1 3 (by unfold m67; omega)) b).trans (hEd b hb16).1)]
    refine lv_iconst (v := nI 2) hx hb dX9_reach_22 (by decide) ?_
    refine lv_icmp_ge (tgt := 28) hx hb dX9_reach_23 (by decide) (fun q6 => ?_) (fun q6 => ?_)
    · have q6n : 2 ≤ (tn (M 3 b)) := (nI_leI (by omega) (by omega)).mp q6
      refine lv_aload_n hx hb dX9_reach_28 rfl (lv_at hl 0 rfl) ?_
      refine wr_gr hx hb hown hK hts iX9 (ci := 8) rfl 7 (by decide) f29 rfl hw 0 (by omega) 6 rfl rfl dX9_reach_29 ?_
      refine lv_iload_n hx hb dX9_reach_32 rfl (lv_at hl 1 rfl) ?_
      refine wr_ildN hx hb hK hw 6 (by omega) rfl (by decide) b rfl (by omega) dX9_reach_33 ?_
      rw [show M3 6 b = nI (tn (M 6 b)) from ((congrFun (h5.2.1 6 (by unfold m67; omega)) b).trans (hXY b hb16).1.1)]
      refine lv_istore_n (lv' := [(3, .int (nI (tn (M 6 b)))), (0, .ref (ad 0)), (1, .int (nI b)), (2, .int (nI e1))]) hx hb dX9_reach_34 rfl hl (by decide) rfl (fun ls hl => ?_)
      refine lv_aload_n hx hb dX9_reach_35 rfl (lv_at hl 1 rfl) ?_
      refine wr_gr hx hb hown hK hts iX9 (ci := 8) rfl 8 (by decide) f32 rfl hw 0 (by omega) 7 rfl rfl dX9_reach_36 ?_
      refine lv_iload_n hx hb dX9_reach_39 rfl (lv_at hl 2 rfl) ?_
      refine wr_ildN hx hb hK hw 7 (by omega) rfl (by decide) b rfl (by omega) dX9_reach_40 ?_
      rw [show M3 7 b = nI (tn (M 7 b)) from ((congrFun (h5.2.1 7 (by unfold m67; omega)) b).trans (hXY b hb16).2.1)]
      refine lv_istore (lv' := [(4, .int (nI (tn (M 7 b)))), (3, .int (nI (tn (M 6 b)))), (0, .ref (ad 0)), (1, .int (nI b)), (2, .int (nI e1))]) hx hb dX9_reach_41 hl (by decide) rfl (fun ls hl => ?_)
      refine lv_iload_n hx hb dX9_reach_43 rfl (lv_at hl 4 rfl) ?_
      refine lv_if_ne (tgt := 56) hx hb dX9_reach_44 (by decide) (fun q7 => ?_) (fun q7 => ?_)
      · skip
        refine lv_aload_n hx hb dX9_reach_56 rfl (lv_at hl 2 rfl) ?_
        refine wr_gr hx hb hown hK hts iX9 (ci := 8) rfl 9 (by decide) f35 rfl hw 0 (by omega) 8 rfl rfl dX9_reach_57 ?_
        refine lv_iload_n hx hb dX9_reach_60 rfl (lv_at hl 3 rfl) ?_
        refine wr_ildN hx hb hK hw 8 (by omega) rfl (by decide) b rfl (by omega) dX9_reach_61 ?_
        rw [show M3 8 b = nI 1 from ((congrFun (h5.2.1 8 (by unfold m67; omega)) b).trans hr8)]
        refine wr_cSi (As := [.int (nI 1)]) (rest := []) ⟨hx, hb, hml, hown, hts⟩ (va_cwS 1 hts gX9_reach_X9_opposite rfl rfl rfl (by decide +kernel) ⟨Nat.le_of_ble_eq_true rfl, Nat.le_of_ble_eq_true rfl⟩) hK hA hw (k_X9_opposite l D ad cs H.size M3 J (nI 1) ) rfl rfl hl.1 (Nat.le_of_ble_eq_true rfl) ⟨Nat.le_of_ble_eq_true rfl, Nat.le_of_ble_eq_true rfl⟩ dX9_reach_62 (fun r8 M9 J10 H locs h11 hw => ?_)
        obtain ⟨h11, rfl⟩ := h11
        cases h11
        rw [show E_X9_opposite M3 (nI 1) = nI 5 from (by unfold E_X9_opposite; decide)]
        refine lv_istore (lv' := [(5, .int (nI 5)), (4, .int (nI (tn (M 7 b)))), (3, .int (nI (tn (M 6 b)))), (0, .ref (ad 0)), (1, .int (nI b)), (2, .int (nI e1))]) hx hb dX9_reach_65 hl (by decide) rfl (fun ls hl => ?_)
        refine lv_iload_n hx hb dX9_reach_67 rfl (lv_at hl 2 rfl) ?_
        refine lv_iload hx hb dX9_reach_68 (lv_at hl 1 rfl) ?_
        refine lv_icmp_ne (tgt := 97) hx hb dX9_reach_70 (by decide) (fun q12 => ?_) (fun q12 => ?_)
        · have q12n : ¬ (tn (M 6 b)) = (tn (M 7 b)) := fun z => q12 ((nI_eq (by omega) (by omega)).mpr z)
          refine lv_aload_n hx hb dX9_reach_97 rfl (lv_at hl 3 rfl) ?_
          refine lv_iload_n hx hb dX9_reach_98 rfl (lv_at hl 2 rfl) ?_
          refine lv_iload hx hb dX9_reach_99 (lv_at hl 0 rfl) ?_
          refine lv_iload hx hb dX9_reach_101 (lv_at hl 1 rfl) ?_
          refine wr_cVv (k := 0) (ci := 8) (As := [.int (nI (tn (M 6 b))), .int (nI 5), .int (nI (tn (M 7 b)))]) (rest := []) ⟨hx, hb, hml, hown, hts⟩ (cwV 3 hts gX9_reach_X9_refine rfl rfl rfl (by decide +kernel) ⟨Nat.le_of_ble_eq_true rfl, Nat.le_of_ble_eq_true rfl⟩) hK hA hw (k_X9_refine_r5 l D ad cs H.size M3 J (tn (M 6 b)) (tn (M 7 b)) (by omega) (by omega)) (by omega) rfl rfl rfl rfl hl.1 (Nat.le_of_ble_eq_true rfl) ⟨Nat.le_of_ble_eq_true rfl, Nat.le_of_ble_eq_true rfl⟩ dX9_reach_103 (fun M14 J15 H locs h16 hw => ?_)
          cases h16
          refine lv_aload_n hx hb dX9_reach_106 rfl (lv_at hl 3 rfl) ?_
          refine wr_gr hx hb hown hK hts iX9 (ci := 8) rfl 21 (by decide) f66 rfl hw 0 (by omega) 16 rfl rfl dX9_reach_107 ?_
          refine lv_iload_n hx hb dX9_reach_110 rfl (lv_at hl 2 rfl) ?_
          refine wr_ildN hx hb hK hw 16 (by omega) rfl (by decide) (tn (M 6 b)) rfl (by omega) dX9_reach_111 ?_
          refine lv_aload_n hx hb dX9_reach_112 rfl (lv_at hl 3 rfl) ?_
          refine wr_gr hx hb hown hK hts iX9 (ci := 8) rfl 22 (by decide) f69 rfl hw 0 (by omega) 17 rfl rfl dX9_reach_113 ?_
          refine lv_iload_n hx hb dX9_reach_116 rfl (lv_at hl 2 rfl) ?_
          refine wr_ildN hx hb hK hw 17 (by omega) rfl (by decide) (tn (M 6 b)) rfl (by omega) dX9_reach_117 ?_
          refine lv_icmp_gt (tgt := 142) hx hb dX9_reach_118 (by decide) (fun q17 => ?_) (fun q17 => ?_)
          · skip
            refine lv_iconst (v := nI 0) hx hb dX9_reach_142 (by decide) ?_
            exact wr_iret hx hb hr (by decide) hK hw (pRc_6 q1 h5 (by omega) (by rw [hr9]; unfold relN; rw [if_neg (fun z => q7 (by rw [z]; rfl))]; rfl) (by omega) (hXY b hb16).1.2 (hXY b hb16).2.2 refine_5 (Or.inl q17)) hlocks dX9_reach_143
          · skip
            refine lv_aload_n hx hb dX9_reach_121 rfl (lv_at hl 3 rfl) ?_
            refine wr_gr hx hb hown hK hts iX9 (ci := 8) rfl 21 (by decide) f66 rfl hw 0 (by omega) 16 rfl rfl dX9_reach_122 ?_
            refine lv_iload hx hb dX9_reach_125 (lv_at hl 1 rfl) ?_
            refine wr_ildN hx hb hK hw 16 (by omega) rfl (by decide) (tn (M 7 b)) rfl (by omega) dX9_reach_127 ?_
            refine lv_aload_n hx hb dX9_reach_128 rfl (lv_at hl 3 rfl) ?_
            refine wr_gr hx hb hown hK hts iX9 (ci := 8) rfl 22 (by decide) f69 rfl hw 0 (by omega) 17 rfl rfl dX9_reach_129 ?_
            refine lv_iload hx hb dX9_reach_132 (lv_at hl 1 rfl) ?_
            refine wr_ildN hx hb hK hw 17 (by omega) rfl (by decide) (tn (M 7 b)) rfl (by omega) dX9_reach_134 ?_
            refine lv_icmp_gt (tgt := 142) hx hb dX9_reach_135 (by decide) (fun q18 => ?_) (fun q18 => ?_)
            · skip
              refine lv_iconst (v := nI 0) hx hb dX9_reach_142 (by decide) ?_
              exact wr_iret hx hb hr (by decide) hK hw (pRc_6 q1 h5 (by omega) (by rw [hr9]; unfold relN; rw [if_neg (fun z => q7 (by rw [z]; rfl))]; rfl) (by omega) (hXY b hb16).1.2 (hXY b hb16).2.2 refine_5 (Or.inr q18)) hlocks dX9_reach_143
            · skip
              refine lv_iconst (v := nI 1) hx hb dX9_reach_138 (by decide) ?_
              refine lv_goto (tgt := 143) hx hb dX9_reach_139 (by decide) ?_
              exact wr_iret hx hb hr (by decide) hK hw (pRc_5 q1 h5 (by omega) (by rw [hr9]; unfold relN; rw [if_neg (fun z => q7 (by rw [z]; rfl))]; rfl) (by omega) (hXY b hb16).1.2 (hXY b hb16).2.2 refine_5 q17 q18) hlocks dX9_reach_143
        · have q12n : (tn (M 6 b)) = (tn (M 7 b)) := (nI_eq (by omega) (by omega)).mp q12
          refine lv_iload hx hb dX9_reach_73 (lv_at hl 0 rfl) ?_
          refine lv_iconst (v := nI 1) hx hb dX9_reach_75 (by decide) ?_
          refine lv_icmp_eq (tgt := 91) hx hb dX9_reach_76 (by decide) (fun q19 => ?_) (fun q19 => ?_)
          · have q19n : 5 = 1 := (nI_eq (by omega) (by omega)).mp q19
            exact absurd q19 (by decide)
          · have q19n : ¬ 5 = 1 := fun z => q19 ((nI_eq (by omega) (by omega)).mpr z)
            refine lv_iload hx hb dX9_reach_79 (lv_at hl 0 rfl) ?_
            refine lv_iconst (v := nI 2) hx hb dX9_reach_81 (by decide) ?_
            refine lv_icmp_eq (tgt := 91) hx hb dX9_reach_82 (by decide) (fun q20 => ?_) (fun q20 => ?_)
            · have q20n : 5 = 2 := (nI_eq (by omega) (by omega)).mp q20
              exact absurd q20 (by decide)
            · have q20n : ¬ 5 = 2 := fun z => q20 ((nI_eq (by omega) (by omega)).mpr z)
              refine lv_iload hx hb dX9_reach_85 (lv_at hl 0 rfl) ?_
              refine lv_iconst (v := nI 4) hx hb dX9_reach_87 (by decide) ?_
              refine lv_icmp_ne (tgt := 95) hx hb dX9_reach_88 (by decide) (fun q21 => ?_) (fun q21 => ?_)
              · have q21n : ¬ 5 = 4 := fun z => q21 ((nI_eq (by omega) (by omega)).mpr z)
                refine lv_iconst (v := nI 0) hx hb dX9_reach_95 (by decide) ?_
                exact wr_iret hx hb hr (by decide) hK hw (pRc_4 (q := 5) q1 h5 (by omega) (by rw [hr9]; unfold relN; rw [if_neg (fun z => q7 (by rw [z]; rfl))]; rfl) (by omega) (by decide)) hlocks dX9_reach_96
              · have q21n : 5 = 4 := (nI_eq (by omega) (by omega)).mp q21
                exact absurd q21 (by decide)
      · skip
        refine lv_aload_n hx hb dX9_reach_47 rfl (lv_at hl 2 rfl) ?_
        refine wr_gr hx hb hown hK hts iX9 (ci := 8) rfl 9 (by decide) f35 rfl hw 0 (by omega) 8 rfl rfl dX9_reach_48 ?_
        refine lv_iload_n hx hb dX9_reach_51 rfl (lv_at hl 3 rfl) ?_
        refine wr_ildN hx hb hK hw 8 (by omega) rfl (by decide) b rfl (by omega) dX9_reach_52 ?_
        rw [show M3 8 b = nI 1 from ((congrFun (h5.2.1 8 (by unfold m67; omega)) b).trans hr8)]
        refine lv_goto (tgt := 65) hx hb dX9_reach_53 (by decide) ?_
        refine lv_istore (lv' := [(5, .int (nI 1)), (4, .int (nI (tn (M 7 b)))), (3, .int (nI (tn (M 6 b)))), (0, .ref (ad 0)), (1, .int (nI b)), (2, .int (nI e1))]) hx hb dX9_reach_65 hl (by decide) rfl (fun ls hl => ?_)
        refine lv_iload_n hx hb dX9_reach_67 rfl (lv_at hl 2 rfl) ?_
        refine lv_iload hx hb dX9_reach_68 (lv_at hl 1 rfl) ?_
        refine lv_icmp_ne (tgt := 97) hx hb dX9_reach_70 (by decide) (fun q22 => ?_) (fun q22 => ?_)
        · have q22n : ¬ (tn (M 6 b)) = (tn (M 7 b)) := fun z => q22 ((nI_eq (by omega) (by omega)).mpr z)
          refine lv_aload_n hx hb dX9_reach_97 rfl (lv_at hl 3 rfl) ?_
          refine lv_iload_n hx hb dX9_reach_98 rfl (lv_at hl 2 rfl) ?_
          refine lv_iload hx hb dX9_reach_99 (lv_at hl 0 rfl) ?_
          refine lv_iload hx hb dX9_reach_101 (lv_at hl 1 rfl) ?_
          refine wr_cVv (k := 0) (ci := 8) (As := [.int (nI (tn (M 6 b))), .int (nI 1), .int (nI (tn (M 7 b)))]) (rest := []) ⟨hx, hb, hml, hown, hts⟩ (cwV 3 hts gX9_reach_X9_refine rfl rfl rfl (by decide +kernel) ⟨Nat.le_of_ble_eq_true rfl, Nat.le_of_ble_eq_true rfl⟩) hK hA hw (k_X9_refine_r1 l D ad cs H.size M3 J (tn (M 6 b)) (tn (M 7 b)) (by omega) (by omega)) (by omega) rfl rfl rfl rfl hl.1 (Nat.le_of_ble_eq_true rfl) ⟨Nat.le_of_ble_eq_true rfl, Nat.le_of_ble_eq_true rfl⟩ dX9_reach_103 (fun M24 J25 H locs h26 hw => ?_)
          cases h26
          refine lv_aload_n hx hb dX9_reach_106 rfl (lv_at hl 3 rfl) ?_
          refine wr_gr hx hb hown hK hts iX9 (ci := 8) rfl 21 (by decide) f66 rfl hw 0 (by omega) 16 rfl rfl dX9_reach_107 ?_
          refine lv_iload_n hx hb dX9_reach_110 rfl (lv_at hl 2 rfl) ?_
          refine wr_ildN hx hb hK hw 16 (by omega) rfl (by decide) (tn (M 6 b)) rfl (by omega) dX9_reach_111 ?_
          refine lv_aload_n hx hb dX9_reach_112 rfl (lv_at hl 3 rfl) ?_
          refine wr_gr hx hb hown hK hts iX9 (ci := 8) rfl 22 (by decide) f69 rfl hw 0 (by omega) 17 rfl rfl dX9_reach_113 ?_
          refine lv_iload_n hx hb dX9_reach_116 rfl (lv_at hl 2 rfl) ?_
          refine wr_ildN hx hb hK hw 17 (by omega) rfl (by decide) (tn (M 6 b)) rfl (by omega) dX9_reach_117 ?_
          refine lv_icmp_gt (tgt := 142) hx hb dX9_reach_118 (by decide) (fun q27 => ?_) (fun q27 => ?_)
          · skip
            refine lv_iconst (v := nI 0) hx hb dX9_reach_142 (by decide) ?_
            exact wr_iret hx hb hr (by decide) hK hw (pRc_6 q1 h5 (by omega) (by rw [hr9]; unfold relN; rw [if_pos (eN0 (by omega) q7)]) (by omega) (hXY b hb16).1.2 (hXY b hb16).2.2 refine_1 (Or.inl q27)) hlocks dX9_reach_143
          · skip
            refine lv_aload_n hx hb dX9_reach_121 rfl (lv_at hl 3 rfl) ?_
            refine wr_gr hx hb hown hK hts iX9 (ci := 8) rfl 21 (by decide) f66 rfl hw 0 (by omega) 16 rfl rfl dX9_reach_122 ?_
            refine lv_iload hx hb dX9_reach_125 (lv_at hl 1 rfl) ?_
            refine wr_ildN hx hb hK hw 16 (by omega) rfl (by decide) (tn (M 7 b)) rfl (by omega) dX9_reach_127 ?_
            refine lv_aload_n hx hb dX9_reach_128 rfl (lv_at hl 3 rfl) ?_
            refine wr_gr hx hb hown hK hts iX9 (ci := 8) rfl 22 (by decide) f69 rfl hw 0 (by omega) 17 rfl rfl dX9_reach_129 ?_
            refine lv_iload hx hb dX9_reach_132 (lv_at hl 1 rfl) ?_
            refine wr_ildN hx hb hK hw 17 (by omega) rfl (by decide) (tn (M 7 b)) rfl (by omega) dX9_reach_134 ?_
            refine lv_icmp_gt (tgt := 142) hx hb dX9_reach_135 (by decide) (fun q28 => ?_) (fun q28 => ?_)
            · skip
              refine lv_iconst (v := nI 0) hx hb dX9_reach_142 (by decide) ?_
              exact wr_iret hx hb hr (by decide) hK hw (pRc_6 q1 h5 (by omega) (by rw [hr9]; unfold relN; rw [if_pos (eN0 (by omega) q7)]) (by omega) (hXY b hb16).1.2 (hXY b hb16).2.2 refine_1 (Or.inr q28)) hlocks dX9_reach_143
            · skip
              refine lv_iconst (v := nI 1) hx hb dX9_reach_138 (by decide) ?_
              refine lv_goto (tgt := 143) hx hb dX9_reach_139 (by decide) ?_
              exact wr_iret hx hb hr (by decide) hK hw (pRc_5 q1 h5 (by omega) (by rw [hr9]; unfold relN; rw [if_pos (eN0 (by omega) q7)]) (by omega) (hXY b hb16).1.2 (hXY b hb16).2.2 refine_1 q27 q28) hlocks dX9_reach_143
        · have q22n : (tn (M 6 b)) = (tn (M 7 b)) := (nI_eq (by omega) (by omega)).mp q22
          refine lv_iload hx hb dX9_reach_73 (lv_at hl 0 rfl) ?_
          refine lv_iconst (v := nI 1) hx hb dX9_reach_75 (by decide) ?_
          refine lv_icmp_eq (tgt := 91) hx hb dX9_reach_76 (by decide) (fun q29 => ?_) (fun q29 => ?_)
          · have q29n : 1 = 1 := (nI_eq (by omega) (by omega)).mp q29
            refine lv_iconst (v := nI 1) hx hb dX9_reach_91 (by decide) ?_
            refine lv_goto (tgt := 96) hx hb dX9_reach_92 (by decide) ?_
            exact wr_iret hx hb hr (by decide) hK hw (pRc_3 (q := 1) q1 h5 (by omega) (by rw [hr9]; unfold relN; rw [if_pos (eN0 (by omega) q7)]) (by omega) (by decide)) hlocks dX9_reach_96
          · have q29n : ¬ 1 = 1 := fun z => q29 ((nI_eq (by omega) (by omega)).mpr z)
            exact absurd q29 (by decide)
    · have q6n : ¬ 2 ≤ (tn (M 3 b)) := fun z => q6 ((nI_leI (by omega) (by omega)).mpr z)
      refine lv_iconst (v := nI 1) hx hb dX9_reach_26 (by decide) ?_
      exact wr_iret hx hb hr (by decide) hK hw (pRc_2 q1 h5 (by omega)) hlocks dX9_reach_27
  · skip
    refine lv_iconst (v := nI 0) hx hb dX9_reach_9 (by decide) ?_
    exact wr_iret hx hb hr (by decide) hK hw (pRc_1 q1) hlocks dX9_reach_10
set_option maxHeartbeats 4000000 in
set_option maxRecDepth 100000 in
theorem k_X9_reach_r2 (l : Launch) (D : va_G) (ad : Nat → Nat) (cs : Nat → ClassId) (sz : Nat) (M : wM) (J : wJ) (b : Nat) (e1 : Nat) (hb16 : b < 16) (he2 : e1 < 2) (hSz : ∀ b, b < 16 → M 1 b = nI (tn (M 1 b)) ∧ tn (M 1 b) ≤ 8) (hSt : ∀ b, b < 16 → ∀ a, a < tn (M 1 b) → st9 M b a) (hEd : ∀ b, b < 16 → M 3 b = nI (tn (M 3 b)) ∧ tn (M 3 b) ≤ 2) (hXY : ∀ b, b < 16 → isV (M 6 b) ∧ isV (M 7 b)) (hr8 : M 8 b = nI 2) : wCi l yX9_reach wsX9_reach { frames := 6, cells := 0, slots := 0, locals := 154 } D 23 mSh ad cs [.ref (ad 0), .int (nI b), .int (nI e1)] sz M J (pRc M J b e1) := by
  refine wC_i (cc := cX9_reach) (maxL := 6) (ret := (some .boolean)) (by decide) rfl (Nat.le_of_ble_eq_true rfl) ?_
  intro p e s m below meth c ls A hx hb hr hml hown hts hlocks hK hA hw hl hAe
  clear hAe
  have hl : lv_has ls 6 [(0, .ref (ad 0)), (1, .int (nI b)), (2, .int (nI e1))] := hl
  have f53 : (Cond.fieldLink RX9 53 "RangePropagatorModel" "isThere" "[Z").before _ s = true := hts _ (by decide +kernel)
  have iX9 : ∀ w ∈ wsX90, w ∈ wsX9_reach := by decide +kernel
  have f20 : (Cond.fieldLink RX9 20 "RangePropagatorModel" "edges" "[I").before _ s = true := hts _ (by decide +kernel)
  have f29 : (Cond.fieldLink RX9 29 "RangePropagatorModel" "xs" "[I").before _ s = true := hts _ (by decide +kernel)
  have f32 : (Cond.fieldLink RX9 32 "RangePropagatorModel" "ys" "[I").before _ s = true := hts _ (by decide +kernel)
  have f35 : (Cond.fieldLink RX9 35 "RangePropagatorModel" "relations" "[I").before _ s = true := hts _ (by decide +kernel)
  have f66 : (Cond.fieldLink RX9 66 "RangePropagatorModel" "low" "[I").before _ s = true := hts _ (by decide +kernel)
  have f69 : (Cond.fieldLink RX9 69 "RangePropagatorModel" "high" "[I").before _ s = true := hts _ (by decide +kernel)
  have hE2 : tn (M 3 b) ≤ 2 := (hEd b hb16).2
  have hr9 : tn (M 8 b) = 2 := (by rw [hr8]; exact tn_nI (by decide))
  have hX6 : tn (M 6 b) < 6 := (hXY b hb16).1.2
  have hY6 : tn (M 7 b) < 6 := (hXY b hb16).2.2
  refine lv_aload_n hx hb dX9_reach_0 rfl (lv_at hl 0 rfl) ?_
  refine wr_gr hx hb hown hK hts iX9 (ci := 8) rfl 17 (by decide) f53 rfl hw 0 (by omega) 12 rfl rfl dX9_reach_1 ?_
  refine lv_iload_n hx hb dX9_reach_4 rfl (lv_at hl 1 rfl) ?_
  refine wr_zldN hx hb hK hw 12 (by omega) rfl (by decide) b rfl (by omega) dX9_reach_5 ?_
  refine lv_if_ne (tgt := 11) hx hb dX9_reach_6 (by decide) (fun q1 => ?_) (fun q1 => ?_)
  · skip
    refine lv_aload_n hx hb dX9_reach_11 rfl (lv_at hl 0 rfl) ?_
    refine lv_iload_n hx hb dX9_reach_12 rfl (lv_at hl 1 rfl) ?_
    refine wr_cVv (k := 0) (ci := 8) (As := [.int (nI b)]) (rest := []) ⟨hx, hb, hml, hown, hts⟩ (cwV 1 hts gX9_reach_X9_leave rfl rfl rfl (by decide +kernel) ⟨Nat.le_of_ble_eq_true rfl, Nat.le_of_ble_eq_true rfl⟩) hK hA hw (k_X9_leave l D ad cs s.heap.size M J b (by omega) hSz hSt) (by omega) rfl rfl rfl rfl hl.1 (Nat.le_of_ble_eq_true rfl) ⟨Nat.le_of_ble_eq_true rfl, Nat.le_of_ble_eq_true rfl⟩ dX9_reach_13 (fun M3 J4 H locs h5 hw => ?_)
    have h5J : J4 = J := h5.1
    rw [h5J] at hw h5
    refine lv_aload_n hx hb dX9_reach_16 rfl (lv_at hl 0 rfl) ?_
    refine wr_gr hx hb hown hK hts iX9 (ci := 8) rfl 4 (by decide) f20 rfl hw 0 (by omega) 3 rfl rfl dX9_reach_17 ?_
    refine lv_iload_n hx hb dX9_reach_20 rfl (lv_at hl 1 rfl) ?_
    refine wr_ildN hx hb hK hw 3 (by omega) rfl (by decide) b rfl (by omega) dX9_reach_21 ?_
    rw [show M3 3 b = nI (tn (M 3 b)) from ((congrFun (h5.2.1 3 (by unfold m67; omega)) b).trans (hEd b hb16).1)]
    refine lv_iconst (v := nI 2) hx hb dX9_reach_22 (by decide) ?_
    refine lv_icmp_ge (tgt := 28) hx hb dX9_reach_23 (by decide) (fun q6 => ?_) (fun q6 => ?_)
    · have q6n : 2 ≤ (tn (M 3 b)) := (nI_leI (by omega) (by omega)).mp q6
      refine lv_aload_n hx hb dX9_reach_28 rfl (lv_at hl 0 rfl) ?_
      refine wr_gr hx hb hown hK hts iX9 (ci := 8) rfl 7 (by decide) f29 rfl hw 0 (by omega) 6 rfl rfl dX9_reach_29 ?_
      refine lv_iload_n hx hb dX9_reach_32 rfl (lv_at hl 1 rfl) ?_
      refine wr_ildN hx hb hK hw 6 (by omega) rfl (by decide) b rfl (by omega) dX9_reach_33 ?_
      rw [show M3 6 b = nI (tn (M 6 b)) from ((congrFun (h5.2.1 6 (by unfold m67; omega)) b).trans (hXY b hb16).1.1)]
      refine lv_istore_n (lv' := [(3, .int (nI (tn (M 6 b)))), (0, .ref (ad 0)), (1, .int (nI b)), (2, .int (nI e1))]) hx hb dX9_reach_34 rfl hl (by decide) rfl (fun ls hl => ?_)
      refine lv_aload_n hx hb dX9_reach_35 rfl (lv_at hl 1 rfl) ?_
      refine wr_gr hx hb hown hK hts iX9 (ci := 8) rfl 8 (by decide) f32 rfl hw 0 (by omega) 7 rfl rfl dX9_reach_36 ?_
      refine lv_iload_n hx hb dX9_reach_39 rfl (lv_at hl 2 rfl) ?_
      refine wr_ildN hx hb hK hw 7 (by omega) rfl (by decide) b rfl (by omega) dX9_reach_40 ?_
      rw [show M3 7 b = nI (tn (M 7 b)) from ((congrFun (h5.2.1 7 (by unfold m67; omega)) b).trans (hXY b hb16).2.1)]
      refine lv_istore (lv' := [(4, .int (nI (tn (M 7 b)))), (3, .int (nI (tn (M 6 b)))), (0, .ref (ad 0)), (1, .int (nI b)), (2, .int (nI e1))]) hx hb dX9_reach_41 hl (by decide) rfl (fun ls hl => ?_)
      refine lv_iload_n hx hb dX9_reach_43 rfl (lv_at hl 4 rfl) ?_
      refine lv_if_ne (tgt := 56) hx hb dX9_reach_44 (by decide) (fun q7 => ?_) (fun q7 => ?_)
      · skip
        refine lv_aload_n hx hb dX9_reach_56 rfl (lv_at hl 2 rfl) ?_
        refine wr_gr hx hb hown hK hts iX9 (ci := 8) rfl 9 (by decide) f35 rfl hw 0 (by omega) 8 rfl rfl dX9_reach_57 ?_
        refine lv_iload_n hx hb dX9_reach_60 rfl (lv_at hl 3 rfl) ?_
        refine wr_ildN hx hb hK hw 8 (by omega) rfl (by decide) b rfl (by omega) dX9_reach_61 ?_
        rw [show M3 8 b = nI 2 from ((congrFun (h5.2.1 8 (by unfold m67; omega)) b).trans hr8)]
        refine wr_cSi (As := [.int (nI 2)]) (rest := []) ⟨hx, hb, hml, hown, hts⟩ (va_cwS 1 hts gX9_reach_X9_opposite rfl rfl rfl (by decide +kernel) ⟨Nat.le_of_ble_eq_true rfl, Nat.le_of_ble_eq_true rfl⟩) hK hA hw (k_X9_opposite l D ad cs H.size M3 J (nI 2) ) rfl rfl hl.1 (Nat.le_of_ble_eq_true rfl) ⟨Nat.le_of_ble_eq_true rfl, Nat.le_of_ble_eq_true rfl⟩ dX9_reach_62 (fun r8 M9 J10 H locs h11 hw => ?_)
        obtain ⟨h11, rfl⟩ := h11
        cases h11
        rw [show E_X9_opposite M3 (nI 2) = nI 3 from (by unfold E_X9_opposite; decide)]
        refine lv_istore (lv' := [(5, .int (nI 3)), (4, .int (nI (tn (M 7 b)))), (3, .int (nI (tn (M 6 b)))), (0, .ref (ad 0)), (1, .int (nI b)), (2, .int (nI e1))]) hx hb dX9_reach_65 hl (by decide) rfl (fun ls hl => ?_)
        refine lv_iload_n hx hb dX9_reach_67 rfl (lv_at hl 2 rfl) ?_
        refine lv_iload hx hb dX9_reach_68 (lv_at hl 1 rfl) ?_
        refine lv_icmp_ne (tgt := 97) hx hb dX9_reach_70 (by decide) (fun q12 => ?_) (fun q12 => ?_)
        · have q12n : ¬ (tn (M 6 b)) = (tn (M 7 b)) := fun z => q12 ((nI_eq (by omega) (by omega)).mpr z)
          refine lv_aload_n hx hb dX9_reach_97 rfl (lv_at hl 3 rfl) ?_
          refine lv_iload_n hx hb dX9_reach_98 rfl (lv_at hl 2 rfl) ?_
          refine lv_iload hx hb dX9_reach_99 (lv_at hl 0 rfl) ?_
          refine lv_iload hx hb dX9_reach_101 (lv_at hl 1 rfl) ?_
          refine wr_cVv (k := 0) (ci := 8) (As := [.int (nI (tn (M 6 b))), .int (nI 3), .int (nI (tn (M 7 b)))]) (rest := []) ⟨hx, hb, hml, hown, hts⟩ (cwV 3 hts gX9_reach_X9_refine rfl rfl rfl (by decide +kernel) ⟨Nat.le_of_ble_eq_true rfl, Nat.le_of_ble_eq_true rfl⟩) hK hA hw (k_X9_refine_r3 l D ad cs H.size M3 J (tn (M 6 b)) (tn (M 7 b)) (by omega) (by omega)) (by omega) rfl rfl rfl rfl hl.1 (Nat.le_of_ble_eq_true rfl) ⟨Nat.le_of_ble_eq_true rfl, Nat.le_of_ble_eq_true rfl⟩ dX9_reach_103 (fun M14 J15 H locs h16 hw => ?_)
          cases h16
          refine lv_aload_n hx hb dX9_reach_106 rfl (lv_at hl 3 rfl) ?_
          refine wr_gr hx hb hown hK hts iX9 (ci := 8) rfl 21 (by decide) f66 rfl hw 0 (by omega) 16 rfl rfl dX9_reach_107 ?_
          refine lv_iload_n hx hb dX9_reach_110 rfl (lv_at hl 2 rfl) ?_
          refine wr_ildN hx hb hK hw 16 (by omega) rfl (by decide) (tn (M 6 b)) rfl (by omega) dX9_reach_111 ?_
          refine lv_aload_n hx hb dX9_reach_112 rfl (lv_at hl 3 rfl) ?_
          refine wr_gr hx hb hown hK hts iX9 (ci := 8) rfl 22 (by decide) f69 rfl hw 0 (by omega) 17 rfl rfl dX9_reach_113 ?_
          refine lv_iload_n hx hb dX9_reach_116 rfl (lv_at hl 2 rfl) ?_
          refine wr_ildN hx hb hK hw 17 (by omega) rfl (by decide) (tn (M 6 b)) rfl (by omega) dX9_reach_117 ?_
          refine lv_icmp_gt (tgt := 142) hx hb dX9_reach_118 (by decide) (fun q17 => ?_) (fun q17 => ?_)
          · skip
            refine lv_iconst (v := nI 0) hx hb dX9_reach_142 (by decide) ?_
            exact wr_iret hx hb hr (by decide) hK hw (pRc_6 q1 h5 (by omega) (by rw [hr9]; unfold relN; rw [if_neg (fun z => q7 (by rw [z]; rfl))]; rfl) (by omega) (hXY b hb16).1.2 (hXY b hb16).2.2 (refine_3 (by omega)) (Or.inl q17)) hlocks dX9_reach_143
          · skip
            refine lv_aload_n hx hb dX9_reach_121 rfl (lv_at hl 3 rfl) ?_
            refine wr_gr hx hb hown hK hts iX9 (ci := 8) rfl 21 (by decide) f66 rfl hw 0 (by omega) 16 rfl rfl dX9_reach_122 ?_
            refine lv_iload hx hb dX9_reach_125 (lv_at hl 1 rfl) ?_
            refine wr_ildN hx hb hK hw 16 (by omega) rfl (by decide) (tn (M 7 b)) rfl (by omega) dX9_reach_127 ?_
            refine lv_aload_n hx hb dX9_reach_128 rfl (lv_at hl 3 rfl) ?_
            refine wr_gr hx hb hown hK hts iX9 (ci := 8) rfl 22 (by decide) f69 rfl hw 0 (by omega) 17 rfl rfl dX9_reach_129 ?_
            refine lv_iload hx hb dX9_reach_132 (lv_at hl 1 rfl) ?_
            refine wr_ildN hx hb hK hw 17 (by omega) rfl (by decide) (tn (M 7 b)) rfl (by omega) dX9_reach_134 ?_
            refine lv_icmp_gt (tgt := 142) hx hb dX9_reach_135 (by decide) (fun q18 => ?_) (fun q18 => ?_)
            · skip
              refine lv_iconst (v := nI 0) hx hb dX9_reach_142 (by decide) ?_
              exact wr_iret hx hb hr (by decide) hK hw (pRc_6 q1 h5 (by omega) (by rw [hr9]; unfold relN; rw [if_neg (fun z => q7 (by rw [z]; rfl))]; rfl) (by omega) (hXY b hb16).1.2 (hXY b hb16).2.2 (refine_3 (by omega)) (Or.inr q18)) hlocks dX9_reach_143
            · skip
              refine lv_iconst (v := nI 1) hx hb dX9_reach_138 (by decide) ?_
              refine lv_goto (tgt := 143) hx hb dX9_reach_139 (by decide) ?_
              exact wr_iret hx hb hr (by decide) hK hw (pRc_5 q1 h5 (by omega) (by rw [hr9]; unfold relN; rw [if_neg (fun z => q7 (by rw [z]; rfl))]; rfl) (by omega) (hXY b hb16).1.2 (hXY b hb16).2.2 (refine_3 (by omega)) q17 q18) hlocks dX9_reach_143
        · have q12n : (tn (M 6 b)) = (tn (M 7 b)) := (nI_eq (by omega) (by omega)).mp q12
          refine lv_iload hx hb dX9_reach_73 (lv_at hl 0 rfl) ?_
          refine lv_iconst (v := nI 1) hx hb dX9_reach_75 (by decide) ?_
          refine lv_icmp_eq (tgt := 91) hx hb dX9_reach_76 (by decide) (fun q19 => ?_) (fun q19 => ?_)
          · have q19n : 3 = 1 := (nI_eq (by omega) (by omega)).mp q19
            exact absurd q19 (by decide)
          · have q19n : ¬ 3 = 1 := fun z => q19 ((nI_eq (by omega) (by omega)).mpr z)
            refine lv_iload hx hb dX9_reach_79 (lv_at hl 0 rfl) ?_
            refine lv_iconst (v := nI 2) hx hb dX9_reach_81 (by decide) ?_
            refine lv_icmp_eq (tgt := 91) hx hb dX9_reach_82 (by decide) (fun q20 => ?_) (fun q20 => ?_)
            · have q20n : 3 = 2 := (nI_eq (by omega) (by omega)).mp q20
              exact absurd q20 (by decide)
            · have q20n : ¬ 3 = 2 := fun z => q20 ((nI_eq (by omega) (by omega)).mpr z)
              refine lv_iload hx hb dX9_reach_85 (lv_at hl 0 rfl) ?_
              refine lv_iconst (v := nI 4) hx hb dX9_reach_87 (by decide) ?_
              refine lv_icmp_ne (tgt := 95) hx hb dX9_reach_88 (by decide) (fun q21 => ?_) (fun q21 => ?_)
              · have q21n : ¬ 3 = 4 := fun z => q21 ((nI_eq (by omega) (by omega)).mpr z)
                refine lv_iconst (v := nI 0) hx hb dX9_reach_95 (by decide) ?_
                exact wr_iret hx hb hr (by decide) hK hw (pRc_4 (q := 3) q1 h5 (by omega) (by rw [hr9]; unfold relN; rw [if_neg (fun z => q7 (by rw [z]; rfl))]; rfl) (by omega) (by decide)) hlocks dX9_reach_96
              · have q21n : 3 = 4 := (nI_eq (by omega) (by omega)).mp q21
                exact absurd q21 (by decide)
      · skip
        refine lv_aload_n hx hb dX9_reach_47 rfl (lv_at hl 2 rfl) ?_
        refine wr_gr hx hb hown hK hts iX9 (ci := 8) rfl 9 (by decide) f35 rfl hw 0 (by omega) 8 rfl rfl dX9_reach_48 ?_
        refine lv_iload_n hx hb dX9_reach_51 rfl (lv_at hl 3 rfl) ?_
        refine wr_ildN hx hb hK hw 8 (by omega) rfl (by decide) b rfl (by omega) dX9_reach_52 ?_
        rw [show M3 8 b = nI 2 from ((congrFun (h5.2.1 8 (by unfold m67; omega)) b).trans hr8)]
        refine lv_goto (tgt := 65) hx hb dX9_reach_53 (by decide) ?_
        refine lv_istore (lv' := [(5, .int (nI 2)), (4, .int (nI (tn (M 7 b)))), (3, .int (nI (tn (M 6 b)))), (0, .ref (ad 0)), (1, .int (nI b)), (2, .int (nI e1))]) hx hb dX9_reach_65 hl (by decide) rfl (fun ls hl => ?_)
        refine lv_iload_n hx hb dX9_reach_67 rfl (lv_at hl 2 rfl) ?_
        refine lv_iload hx hb dX9_reach_68 (lv_at hl 1 rfl) ?_
        refine lv_icmp_ne (tgt := 97) hx hb dX9_reach_70 (by decide) (fun q22 => ?_) (fun q22 => ?_)
        · have q22n : ¬ (tn (M 6 b)) = (tn (M 7 b)) := fun z => q22 ((nI_eq (by omega) (by omega)).mpr z)
          refine lv_aload_n hx hb dX9_reach_97 rfl (lv_at hl 3 rfl) ?_
          refine lv_iload_n hx hb dX9_reach_98 rfl (lv_at hl 2 rfl) ?_
          refine lv_iload hx hb dX9_reach_99 (lv_at hl 0 rfl) ?_
          refine lv_iload hx hb dX9_reach_101 (lv_at hl 1 rfl) ?_
          refine wr_cVv (k := 0) (ci := 8) (As := [.int (nI (tn (M 6 b))), .int (nI 2), .int (nI (tn (M 7 b)))]) (rest := []) ⟨hx, hb, hml, hown, hts⟩ (cwV 3 hts gX9_reach_X9_refine rfl rfl rfl (by decide +kernel) ⟨Nat.le_of_ble_eq_true rfl, Nat.le_of_ble_eq_true rfl⟩) hK hA hw (k_X9_refine_r2 l D ad cs H.size M3 J (tn (M 6 b)) (tn (M 7 b)) (by omega) (by omega)) (by omega) rfl rfl rfl rfl hl.1 (Nat.le_of_ble_eq_true rfl) ⟨Nat.le_of_ble_eq_true rfl, Nat.le_of_ble_eq_true rfl⟩ dX9_reach_103 (fun M24 J25 H locs h26 hw => ?_)
          cases h26
          refine lv_aload_n hx hb dX9_reach_106 rfl (lv_at hl 3 rfl) ?_
          refine wr_gr hx hb hown hK hts iX9 (ci := 8) rfl 21 (by decide) f66 rfl hw 0 (by omega) 16 rfl rfl dX9_reach_107 ?_
          refine lv_iload_n hx hb dX9_reach_110 rfl (lv_at hl 2 rfl) ?_
          refine wr_ildN hx hb hK hw 16 (by omega) rfl (by decide) (tn (M 6 b)) rfl (by omega) dX9_reach_111 ?_
          refine lv_aload_n hx hb dX9_reach_112 rfl (lv_at hl 3 rfl) ?_
          refine wr_gr hx hb hown hK hts iX9 (ci := 8) rfl 22 (by decide) f69 rfl hw 0 (by omega) 17 rfl rfl dX9_reach_113 ?_
          refine lv_iload_n hx hb dX9_reach_116 rfl (lv_at hl 2 rfl) ?_
          refine wr_ildN hx hb hK hw 17 (by omega) rfl (by decide) (tn (M 6 b)) rfl (by omega) dX9_reach_117 ?_
          refine lv_icmp_gt (tgt := 142) hx hb dX9_reach_118 (by decide) (fun q27 => ?_) (fun q27 => ?_)
          · skip
            refine lv_iconst (v := nI 0) hx hb dX9_reach_142 (by decide) ?_
            exact wr_iret hx hb hr (by decide) hK hw (pRc_6 q1 h5 (by omega) (by rw [hr9]; unfold relN; rw [if_pos (eN0 (by omega) q7)]) (by omega) (hXY b hb16).1.2 (hXY b hb16).2.2 refine_2 (Or.inl q27)) hlocks dX9_reach_143
          · skip
            refine lv_aload_n hx hb dX9_reach_121 rfl (lv_at hl 3 rfl) ?_
            refine wr_gr hx hb hown hK hts iX9 (ci := 8) rfl 21 (by decide) f66 rfl hw 0 (by omega) 16 rfl rfl dX9_reach_122 ?_
            refine lv_iload hx hb dX9_reach_125 (lv_at hl 1 rfl) ?_
            refine wr_ildN hx hb hK hw 16 (by omega) rfl (by decide) (tn (M 7 b)) rfl (by omega) dX9_reach_127 ?_
            refine lv_aload_n hx hb dX9_reach_128 rfl (lv_at hl 3 rfl) ?_
            refine wr_gr hx hb hown hK hts iX9 (ci := 8) rfl 22 (by decide) f69 rfl hw 0 (by omega) 17 rfl rfl dX9_reach_129 ?_
            refine lv_iload hx hb dX9_reach_132 (lv_at hl 1 rfl) ?_
            refine wr_ildN hx hb hK hw 17 (by omega) rfl (by decide) (tn (M 7 b)) rfl (by omega) dX9_reach_134 ?_
            refine lv_icmp_gt (tgt := 142) hx hb dX9_reach_135 (by decide) (fun q28 => ?_) (fun q28 => ?_)
            · skip
              refine lv_iconst (v := nI 0) hx hb dX9_reach_142 (by decide) ?_
              exact wr_iret hx hb hr (by decide) hK hw (pRc_6 q1 h5 (by omega) (by rw [hr9]; unfold relN; rw [if_pos (eN0 (by omega) q7)]) (by omega) (hXY b hb16).1.2 (hXY b hb16).2.2 refine_2 (Or.inr q28)) hlocks dX9_reach_143
            · skip
              refine lv_iconst (v := nI 1) hx hb dX9_reach_138 (by decide) ?_
              refine lv_goto (tgt := 143) hx hb dX9_reach_139 (by decide) ?_
              exact wr_iret hx hb hr (by decide) hK hw (pRc_5 q1 h5 (by omega) (by rw [hr9]; unfold relN; rw [if_pos (eN0 (by omega) q7)]) (by omega) (hXY b hb16).1.2 (hXY b hb16).2.2 refine_2 q27 q28) hlocks dX9_reach_143
        · have q22n : (tn (M 6 b)) = (tn (M 7 b)) := (nI_eq (by omega) (by omega)).mp q22
          refine lv_iload hx hb dX9_reach_73 (lv_at hl 0 rfl) ?_
          refine lv_iconst (v := nI 1) hx hb dX9_reach_75 (by decide) ?_
          refine lv_icmp_eq (tgt := 91) hx hb dX9_reach_76 (by decide) (fun q29 => ?_) (fun q29 => ?_)
          · have q29n : 2 = 1 := (nI_eq (by omega) (by omega)).mp q29
            exact absurd q29 (by decide)
          · have q29n : ¬ 2 = 1 := fun z => q29 ((nI_eq (by omega) (by omega)).mpr z)
            refine lv_iload hx hb dX9_reach_79 (lv_at hl 0 rfl) ?_
            refine lv_iconst (v := nI 2) hx hb dX9_reach_81 (by decide) ?_
            refine lv_icmp_eq (tgt := 91) hx hb dX9_reach_82 (by decide) (fun q30 => ?_) (fun q30 => ?_)
            · have q30n : 2 = 2 := (nI_eq (by omega) (by omega)).mp q30
              refine lv_iconst (v := nI 1) hx hb dX9_reach_91 (by decide) ?_
              refine lv_goto (tgt := 96) hx hb dX9_reach_92 (by decide) ?_
              exact wr_iret hx hb hr (by decide) hK hw (pRc_3 (q := 2) q1 h5 (by omega) (by rw [hr9]; unfold relN; rw [if_pos (eN0 (by omega) q7)]) (by omega) (by decide)) hlocks dX9_reach_96
            · have q30n : ¬ 2 = 2 := fun z => q30 ((nI_eq (by omega) (by omega)).mpr z)
              exact absurd q30 (by decide)
    · have q6n : ¬ 2 ≤ (tn (M 3 b)) := fun z => q6 ((nI_leI (by omega) (by omega)).mpr z)
      refine lv_iconst (v := nI 1) hx hb dX9_reach_26 (by decide) ?_
      exact wr_iret hx hb hr (by decide) hK hw (pRc_2 q1 h5 (by omega)) hlocks dX9_reach_27
  · skip
    refine lv_iconst (v := nI 0) hx hb dX9_reach_9 (by decide) ?_
    exact wr_iret hx hb hr (by decide) hK hw (pRc_1 q1) hlocks dX9_reach_10
set_option maxHeartbeats 4000000 in
set_option maxRecDepth 100000 in
theorem k_X9_reach_r3 (l : Launch) (D : va_G) (ad : Nat → Nat) (cs : Nat → ClassId) (sz : Nat) (M : wM) (J : wJ) (b : Nat) (e1 : Nat) (hb16 : b < 16) (he2 : e1 < 2) (hSz : ∀ b, b < 16 → M 1 b = nI (tn (M 1 b)) ∧ tn (M 1 b) ≤ 8) (hSt : ∀ b, b < 16 → ∀ a, a < tn (M 1 b) → st9 M b a) (hEd : ∀ b, b < 16 → M 3 b = nI (tn (M 3 b)) ∧ tn (M 3 b) ≤ 2) (hXY : ∀ b, b < 16 → isV (M 6 b) ∧ isV (M 7 b)) (hr8 : M 8 b = nI 3) : wCi l yX9_reach wsX9_reach { frames := 6, cells := 0, slots := 0, locals := 154 } D 23 mSh ad cs [.ref (ad 0), .int (nI b), .int (nI e1)] sz M J (pRc M J b e1) := by
  refine wC_i (cc := cX9_reach) (maxL := 6) (ret := (some .boolean)) (by decide) rfl (Nat.le_of_ble_eq_true rfl) ?_
  intro p e s m below meth c ls A hx hb hr hml hown hts hlocks hK hA hw hl hAe
  clear hAe
  have hl : lv_has ls 6 [(0, .ref (ad 0)), (1, .int (nI b)), (2, .int (nI e1))] := hl
  have f53 : (Cond.fieldLink RX9 53 "RangePropagatorModel" "isThere" "[Z").before _ s = true := hts _ (by decide +kernel)
  have iX9 : ∀ w ∈ wsX90, w ∈ wsX9_reach := by decide +kernel
  have f20 : (Cond.fieldLink RX9 20 "RangePropagatorModel" "edges" "[I").before _ s = true := hts _ (by decide +kernel)
  have f29 : (Cond.fieldLink RX9 29 "RangePropagatorModel" "xs" "[I").before _ s = true := hts _ (by decide +kernel)
  have f32 : (Cond.fieldLink RX9 32 "RangePropagatorModel" "ys" "[I").before _ s = true := hts _ (by decide +kernel)
  have f35 : (Cond.fieldLink RX9 35 "RangePropagatorModel" "relations" "[I").before _ s = true := hts _ (by decide +kernel)
  have f66 : (Cond.fieldLink RX9 66 "RangePropagatorModel" "low" "[I").before _ s = true := hts _ (by decide +kernel)
  have f69 : (Cond.fieldLink RX9 69 "RangePropagatorModel" "high" "[I").before _ s = true := hts _ (by decide +kernel)
  have hE2 : tn (M 3 b) ≤ 2 := (hEd b hb16).2
  have hr9 : tn (M 8 b) = 3 := (by rw [hr8]; exact tn_nI (by decide))
  have hX6 : tn (M 6 b) < 6 := (hXY b hb16).1.2
  have hY6 : tn (M 7 b) < 6 := (hXY b hb16).2.2
  refine lv_aload_n hx hb dX9_reach_0 rfl (lv_at hl 0 rfl) ?_
  refine wr_gr hx hb hown hK hts iX9 (ci := 8) rfl 17 (by decide) f53 rfl hw 0 (by omega) 12 rfl rfl dX9_reach_1 ?_
  refine lv_iload_n hx hb dX9_reach_4 rfl (lv_at hl 1 rfl) ?_
  refine wr_zldN hx hb hK hw 12 (by omega) rfl (by decide) b rfl (by omega) dX9_reach_5 ?_
  refine lv_if_ne (tgt := 11) hx hb dX9_reach_6 (by decide) (fun q1 => ?_) (fun q1 => ?_)
  · skip
    refine lv_aload_n hx hb dX9_reach_11 rfl (lv_at hl 0 rfl) ?_
    refine lv_iload_n hx hb dX9_reach_12 rfl (lv_at hl 1 rfl) ?_
    refine wr_cVv (k := 0) (ci := 8) (As := [.int (nI b)]) (rest := []) ⟨hx, hb, hml, hown, hts⟩ (cwV 1 hts gX9_reach_X9_leave rfl rfl rfl (by decide +kernel) ⟨Nat.le_of_ble_eq_true rfl, Nat.le_of_ble_eq_true rfl⟩) hK hA hw (k_X9_leave l D ad cs s.heap.size M J b (by omega) hSz hSt) (by omega) rfl rfl rfl rfl hl.1 (Nat.le_of_ble_eq_true rfl) ⟨Nat.le_of_ble_eq_true rfl, Nat.le_of_ble_eq_true rfl⟩ dX9_reach_13 (fun M3 J4 H locs h5 hw => ?_)
    have h5J : J4 = J := h5.1
    rw [h5J] at hw h5
    refine lv_aload_n hx hb dX9_reach_16 rfl (lv_at hl 0 rfl) ?_
    refine wr_gr hx hb hown hK hts iX9 (ci := 8) rfl 4 (by decide) f20 rfl hw 0 (by omega) 3 rfl rfl dX9_reach_17 ?_
    refine lv_iload_n hx hb dX9_reach_20 rfl (lv_at hl 1 rfl) ?_
    refine wr_ildN hx hb hK hw 3 (by omega) rfl (by decide) b rfl (by omega) dX9_reach_21 ?_
    rw [show M3 3 b = nI (tn (M 3 b)) from ((congrFun (h5.2.1 3 (by unfold m67; omega)) b).trans (hEd b hb16).1)]
    refine lv_iconst (v := nI 2) hx hb dX9_reach_22 (by decide) ?_
    refine lv_icmp_ge (tgt := 28) hx hb dX9_reach_23 (by decide) (fun q6 => ?_) (fun q6 => ?_)
    · have q6n : 2 ≤ (tn (M 3 b)) := (nI_leI (by omega) (by omega)).mp q6
      refine lv_aload_n hx hb dX9_reach_28 rfl (lv_at hl 0 rfl) ?_
      refine wr_gr hx hb hown hK hts iX9 (ci := 8) rfl 7 (by decide) f29 rfl hw 0 (by omega) 6 rfl rfl dX9_reach_29 ?_
      refine lv_iload_n hx hb dX9_reach_32 rfl (lv_at hl 1 rfl) ?_
      refine wr_ildN hx hb hK hw 6 (by omega) rfl (by decide) b rfl (by omega) dX9_reach_33 ?_
      rw [show M3 6 b = nI (tn (M 6 b)) from ((congrFun (h5.2.1 6 (by unfold m67; omega)) b).trans (hXY b hb16).1.1)]
      refine lv_istore_n (lv' := [(3, .int (nI (tn (M 6 b)))), (0, .ref (ad 0)), (1, .int (nI b)), (2, .int (nI e1))]) hx hb dX9_reach_34 rfl hl (by decide) rfl (fun ls hl => ?_)
      refine lv_aload_n hx hb dX9_reach_35 rfl (lv_at hl 1 rfl) ?_
      refine wr_gr hx hb hown hK hts iX9 (ci := 8) rfl 8 (by decide) f32 rfl hw 0 (by omega) 7 rfl rfl dX9_reach_36 ?_
      refine lv_iload_n hx hb dX9_reach_39 rfl (lv_at hl 2 rfl) ?_
      refine wr_ildN hx hb hK hw 7 (by omega) rfl (by decide) b rfl (by omega) dX9_reach_40 ?_
      rw [show M3 7 b = nI (tn (M 7 b)) from ((congrFun (h5.2.1 7 (by unfold m67; omega)) b).trans (hXY b hb16).2.1)]
      refine lv_istore (lv' := [(4, .int (nI (tn (M 7 b)))), (3, .int (nI (tn (M 6 b)))), (0, .ref (ad 0)), (1, .int (nI b)), (2, .int (nI e1))]) hx hb dX9_reach_41 hl (by decide) rfl (fun ls hl => ?_)
      refine lv_iload_n hx hb dX9_reach_43 rfl (lv_at hl 4 rfl) ?_
      refine lv_if_ne (tgt := 56) hx hb dX9_reach_44 (by decide) (fun q7 => ?_) (fun q7 => ?_)
      · skip
        refine lv_aload_n hx hb dX9_reach_56 rfl (lv_at hl 2 rfl) ?_
        refine wr_gr hx hb hown hK hts iX9 (ci := 8) rfl 9 (by decide) f35 rfl hw 0 (by omega) 8 rfl rfl dX9_reach_57 ?_
        refine lv_iload_n hx hb dX9_reach_60 rfl (lv_at hl 3 rfl) ?_
        refine wr_ildN hx hb hK hw 8 (by omega) rfl (by decide) b rfl (by omega) dX9_reach_61 ?_
        rw [show M3 8 b = nI 3 from ((congrFun (h5.2.1 8 (by unfold m67; omega)) b).trans hr8)]
        refine wr_cSi (As := [.int (nI 3)]) (rest := []) ⟨hx, hb, hml, hown, hts⟩ (va_cwS 1 hts gX9_reach_X9_opposite rfl rfl rfl (by decide +kernel) ⟨Nat.le_of_ble_eq_true rfl, Nat.le_of_ble_eq_true rfl⟩) hK hA hw (k_X9_opposite l D ad cs H.size M3 J (nI 3) ) rfl rfl hl.1 (Nat.le_of_ble_eq_true rfl) ⟨Nat.le_of_ble_eq_true rfl, Nat.le_of_ble_eq_true rfl⟩ dX9_reach_62 (fun r8 M9 J10 H locs h11 hw => ?_)
        obtain ⟨h11, rfl⟩ := h11
        cases h11
        rw [show E_X9_opposite M3 (nI 3) = nI 2 from (by unfold E_X9_opposite; decide)]
        refine lv_istore (lv' := [(5, .int (nI 2)), (4, .int (nI (tn (M 7 b)))), (3, .int (nI (tn (M 6 b)))), (0, .ref (ad 0)), (1, .int (nI b)), (2, .int (nI e1))]) hx hb dX9_reach_65 hl (by decide) rfl (fun ls hl => ?_)
        refine lv_iload_n hx hb dX9_reach_67 rfl (lv_at hl 2 rfl) ?_
        refine lv_iload hx hb dX9_reach_68 (lv_at hl 1 rfl) ?_
        refine lv_icmp_ne (tgt := 97) hx hb dX9_reach_70 (by decide) (fun q12 => ?_) (fun q12 => ?_)
        · have q12n : ¬ (tn (M 6 b)) = (tn (M 7 b)) := fun z => q12 ((nI_eq (by omega) (by omega)).mpr z)
          refine lv_aload_n hx hb dX9_reach_97 rfl (lv_at hl 3 rfl) ?_
          refine lv_iload_n hx hb dX9_reach_98 rfl (lv_at hl 2 rfl) ?_
          refine lv_iload hx hb dX9_reach_99 (lv_at hl 0 rfl) ?_
          refine lv_iload hx hb dX9_reach_101 (lv_at hl 1 rfl) ?_
          refine wr_cVv (k := 0) (ci := 8) (As := [.int (nI (tn (M 6 b))), .int (nI 2), .int (nI (tn (M 7 b)))]) (rest := []) ⟨hx, hb, hml, hown, hts⟩ (cwV 3 hts gX9_reach_X9_refine rfl rfl rfl (by decide +kernel) ⟨Nat.le_of_ble_eq_true rfl, Nat.le_of_ble_eq_true rfl⟩) hK hA hw (k_X9_refine_r2 l D ad cs H.size M3 J (tn (M 6 b)) (tn (M 7 b)) (by omega) (by omega)) (by omega) rfl rfl rfl rfl hl.1 (Nat.le_of_ble_eq_true rfl) ⟨Nat.le_of_ble_eq_true rfl, Nat.le_of_ble_eq_true rfl⟩ dX9_reach_103 (fun M14 J15 H locs h16 hw => ?_)
          cases h16
          refine lv_aload_n hx hb dX9_reach_106 rfl (lv_at hl 3 rfl) ?_
          refine wr_gr hx hb hown hK hts iX9 (ci := 8) rfl 21 (by decide) f66 rfl hw 0 (by omega) 16 rfl rfl dX9_reach_107 ?_
          refine lv_iload_n hx hb dX9_reach_110 rfl (lv_at hl 2 rfl) ?_
          refine wr_ildN hx hb hK hw 16 (by omega) rfl (by decide) (tn (M 6 b)) rfl (by omega) dX9_reach_111 ?_
          refine lv_aload_n hx hb dX9_reach_112 rfl (lv_at hl 3 rfl) ?_
          refine wr_gr hx hb hown hK hts iX9 (ci := 8) rfl 22 (by decide) f69 rfl hw 0 (by omega) 17 rfl rfl dX9_reach_113 ?_
          refine lv_iload_n hx hb dX9_reach_116 rfl (lv_at hl 2 rfl) ?_
          refine wr_ildN hx hb hK hw 17 (by omega) rfl (by decide) (tn (M 6 b)) rfl (by omega) dX9_reach_117 ?_
          refine lv_icmp_gt (tgt := 142) hx hb dX9_reach_118 (by decide) (fun q17 => ?_) (fun q17 => ?_)
          · skip
            refine lv_iconst (v := nI 0) hx hb dX9_reach_142 (by decide) ?_
            exact wr_iret hx hb hr (by decide) hK hw (pRc_6 q1 h5 (by omega) (by rw [hr9]; unfold relN; rw [if_neg (fun z => q7 (by rw [z]; rfl))]; rfl) (by omega) (hXY b hb16).1.2 (hXY b hb16).2.2 refine_2 (Or.inl q17)) hlocks dX9_reach_143
          · skip
            refine lv_aload_n hx hb dX9_reach_121 rfl (lv_at hl 3 rfl) ?_
            refine wr_gr hx hb hown hK hts iX9 (ci := 8) rfl 21 (by decide) f66 rfl hw 0 (by omega) 16 rfl rfl dX9_reach_122 ?_
            refine lv_iload hx hb dX9_reach_125 (lv_at hl 1 rfl) ?_
            refine wr_ildN hx hb hK hw 16 (by omega) rfl (by decide) (tn (M 7 b)) rfl (by omega) dX9_reach_127 ?_
            refine lv_aload_n hx hb dX9_reach_128 rfl (lv_at hl 3 rfl) ?_
            refine wr_gr hx hb hown hK hts iX9 (ci := 8) rfl 22 (by decide) f69 rfl hw 0 (by omega) 17 rfl rfl dX9_reach_129 ?_
            refine lv_iload hx hb dX9_reach_132 (lv_at hl 1 rfl) ?_
            refine wr_ildN hx hb hK hw 17 (by omega) rfl (by decide) (tn (M 7 b)) rfl (by omega) dX9_reach_134 ?_
            refine lv_icmp_gt (tgt := 142) hx hb dX9_reach_135 (by decide) (fun q18 => ?_) (fun q18 => ?_)
            · skip
              refine lv_iconst (v := nI 0) hx hb dX9_reach_142 (by decide) ?_
              exact wr_iret hx hb hr (by decide) hK hw (pRc_6 q1 h5 (by omega) (by rw [hr9]; unfold relN; rw [if_neg (fun z => q7 (by rw [z]; rfl))]; rfl) (by omega) (hXY b hb16).1.2 (hXY b hb16).2.2 refine_2 (Or.inr q18)) hlocks dX9_reach_143
            · skip
              refine lv_iconst (v := nI 1) hx hb dX9_reach_138 (by decide) ?_
              refine lv_goto (tgt := 143) hx hb dX9_reach_139 (by decide) ?_
              exact wr_iret hx hb hr (by decide) hK hw (pRc_5 q1 h5 (by omega) (by rw [hr9]; unfold relN; rw [if_neg (fun z => q7 (by rw [z]; rfl))]; rfl) (by omega) (hXY b hb16).1.2 (hXY b hb16).2.2 refine_2 q17 q18) hlocks dX9_reach_143
        · have q12n : (tn (M 6 b)) = (tn (M 7 b)) := (nI_eq (by omega) (by omega)).mp q12
          refine lv_iload hx hb dX9_reach_73 (lv_at hl 0 rfl) ?_
          refine lv_iconst (v := nI 1) hx hb dX9_reach_75 (by decide) ?_
          refine lv_icmp_eq (tgt := 91) hx hb dX9_reach_76 (by decide) (fun q19 => ?_) (fun q19 => ?_)
          · have q19n : 2 = 1 := (nI_eq (by omega) (by omega)).mp q19
            exact absurd q19 (by decide)
          · have q19n : ¬ 2 = 1 := fun z => q19 ((nI_eq (by omega) (by omega)).mpr z)
            refine lv_iload hx hb dX9_reach_79 (lv_at hl 0 rfl) ?_
            refine lv_iconst (v := nI 2) hx hb dX9_reach_81 (by decide) ?_
            refine lv_icmp_eq (tgt := 91) hx hb dX9_reach_82 (by decide) (fun q20 => ?_) (fun q20 => ?_)
            · have q20n : 2 = 2 := (nI_eq (by omega) (by omega)).mp q20
              refine lv_iconst (v := nI 1) hx hb dX9_reach_91 (by decide) ?_
              refine lv_goto (tgt := 96) hx hb dX9_reach_92 (by decide) ?_
              exact wr_iret hx hb hr (by decide) hK hw (pRc_3 (q := 2) q1 h5 (by omega) (by rw [hr9]; unfold relN; rw [if_neg (fun z => q7 (by rw [z]; rfl))]; rfl) (by omega) (by decide)) hlocks dX9_reach_96
            · have q20n : ¬ 2 = 2 := fun z => q20 ((nI_eq (by omega) (by omega)).mpr z)
              exact absurd q20 (by decide)
      · skip
        refine lv_aload_n hx hb dX9_reach_47 rfl (lv_at hl 2 rfl) ?_
        refine wr_gr hx hb hown hK hts iX9 (ci := 8) rfl 9 (by decide) f35 rfl hw 0 (by omega) 8 rfl rfl dX9_reach_48 ?_
        refine lv_iload_n hx hb dX9_reach_51 rfl (lv_at hl 3 rfl) ?_
        refine wr_ildN hx hb hK hw 8 (by omega) rfl (by decide) b rfl (by omega) dX9_reach_52 ?_
        rw [show M3 8 b = nI 3 from ((congrFun (h5.2.1 8 (by unfold m67; omega)) b).trans hr8)]
        refine lv_goto (tgt := 65) hx hb dX9_reach_53 (by decide) ?_
        refine lv_istore (lv' := [(5, .int (nI 3)), (4, .int (nI (tn (M 7 b)))), (3, .int (nI (tn (M 6 b)))), (0, .ref (ad 0)), (1, .int (nI b)), (2, .int (nI e1))]) hx hb dX9_reach_65 hl (by decide) rfl (fun ls hl => ?_)
        refine lv_iload_n hx hb dX9_reach_67 rfl (lv_at hl 2 rfl) ?_
        refine lv_iload hx hb dX9_reach_68 (lv_at hl 1 rfl) ?_
        refine lv_icmp_ne (tgt := 97) hx hb dX9_reach_70 (by decide) (fun q21 => ?_) (fun q21 => ?_)
        · have q21n : ¬ (tn (M 6 b)) = (tn (M 7 b)) := fun z => q21 ((nI_eq (by omega) (by omega)).mpr z)
          refine lv_aload_n hx hb dX9_reach_97 rfl (lv_at hl 3 rfl) ?_
          refine lv_iload_n hx hb dX9_reach_98 rfl (lv_at hl 2 rfl) ?_
          refine lv_iload hx hb dX9_reach_99 (lv_at hl 0 rfl) ?_
          refine lv_iload hx hb dX9_reach_101 (lv_at hl 1 rfl) ?_
          refine wr_cVv (k := 0) (ci := 8) (As := [.int (nI (tn (M 6 b))), .int (nI 3), .int (nI (tn (M 7 b)))]) (rest := []) ⟨hx, hb, hml, hown, hts⟩ (cwV 3 hts gX9_reach_X9_refine rfl rfl rfl (by decide +kernel) ⟨Nat.le_of_ble_eq_true rfl, Nat.le_of_ble_eq_true rfl⟩) hK hA hw (k_X9_refine_r3 l D ad cs H.size M3 J (tn (M 6 b)) (tn (M 7 b)) (by omega) (by omega)) (by omega) rfl rfl rfl rfl hl.1 (Nat.le_of_ble_eq_true rfl) ⟨Nat.le_of_ble_eq_true rfl, Nat.le_of_ble_eq_true rfl⟩ dX9_reach_103 (fun M23 J24 H locs h25 hw => ?_)
          cases h25
          refine lv_aload_n hx hb dX9_reach_106 rfl (lv_at hl 3 rfl) ?_
          refine wr_gr hx hb hown hK hts iX9 (ci := 8) rfl 21 (by decide) f66 rfl hw 0 (by omega) 16 rfl rfl dX9_reach_107 ?_
          refine lv_iload_n hx hb dX9_reach_110 rfl (lv_at hl 2 rfl) ?_
          refine wr_ildN hx hb hK hw 16 (by omega) rfl (by decide) (tn (M 6 b)) rfl (by omega) dX9_reach_111 ?_
          refine lv_aload_n hx hb dX9_reach_112 rfl (lv_at hl 3 rfl) ?_
          refine wr_gr hx hb hown hK hts iX9 (ci := 8) rfl 22 (by decide) f69 rfl hw 0 (by omega) 17 rfl rfl dX9_reach_113 ?_
          refine lv_iload_n hx hb dX9_reach_116 rfl (lv_at hl 2 rfl) ?_
          refine wr_ildN hx hb hK hw 17 (by omega) rfl (by decide) (tn (M 6 b)) rfl (by omega) dX9_reach_117 ?_
          refine lv_icmp_gt (tgt := 142) hx hb dX9_reach_118 (by decide) (fun q26 => ?_) (fun q26 => ?_)
          · skip
            refine lv_iconst (v := nI 0) hx hb dX9_reach_142 (by decide) ?_
            exact wr_iret hx hb hr (by decide) hK hw (pRc_6 q1 h5 (by omega) (by rw [hr9]; unfold relN; rw [if_pos (eN0 (by omega) q7)]) (by omega) (hXY b hb16).1.2 (hXY b hb16).2.2 (refine_3 (by omega)) (Or.inl q26)) hlocks dX9_reach_143
          · skip
            refine lv_aload_n hx hb dX9_reach_121 rfl (lv_at hl 3 rfl) ?_
            refine wr_gr hx hb hown hK hts iX9 (ci := 8) rfl 21 (by decide) f66 rfl hw 0 (by omega) 16 rfl rfl dX9_reach_122 ?_
            refine lv_iload hx hb dX9_reach_125 (lv_at hl 1 rfl) ?_
            refine wr_ildN hx hb hK hw 16 (by omega) rfl (by decide) (tn (M 7 b)) rfl (by omega) dX9_reach_127 ?_
            refine lv_aload_n hx hb dX9_reach_128 rfl (lv_at hl 3 rfl) ?_
            refine wr_gr hx hb hown hK hts iX9 (ci := 8) rfl 22 (by decide) f69 rfl hw 0 (by omega) 17 rfl rfl dX9_reach_129 ?_
            refine lv_iload hx hb dX9_reach_132 (lv_at hl 1 rfl) ?_
            refine wr_ildN hx hb hK hw 17 (by omega) rfl (by decide) (tn (M 7 b)) rfl (by omega) dX9_reach_134 ?_
            refine lv_icmp_gt (tgt := 142) hx hb dX9_reach_135 (by decide) (fun q27 => ?_) (fun q27 => ?_)
            · skip
              refine lv_iconst (v := nI 0) hx hb dX9_reach_142 (by decide) ?_
              exact wr_iret hx hb hr (by decide) hK hw (pRc_6 q1 h5 (by omega) (by rw [hr9]; unfold relN; rw [if_pos (eN0 (by omega) q7)]) (by omega) (hXY b hb16).1.2 (hXY b hb16).2.2 (refine_3 (by omega)) (Or.inr q27)) hlocks dX9_reach_143
            · skip
              refine lv_iconst (v := nI 1) hx hb dX9_reach_138 (by decide) ?_
              refine lv_goto (tgt := 143) hx hb dX9_reach_139 (by decide) ?_
              exact wr_iret hx hb hr (by decide) hK hw (pRc_5 q1 h5 (by omega) (by rw [hr9]; unfold relN; rw [if_pos (eN0 (by omega) q7)]) (by omega) (hXY b hb16).1.2 (hXY b hb16).2.2 (refine_3 (by omega)) q26 q27) hlocks dX9_reach_143
        · have q21n : (tn (M 6 b)) = (tn (M 7 b)) := (nI_eq (by omega) (by omega)).mp q21
          refine lv_iload hx hb dX9_reach_73 (lv_at hl 0 rfl) ?_
          refine lv_iconst (v := nI 1) hx hb dX9_reach_75 (by decide) ?_
          refine lv_icmp_eq (tgt := 91) hx hb dX9_reach_76 (by decide) (fun q28 => ?_) (fun q28 => ?_)
          · have q28n : 3 = 1 := (nI_eq (by omega) (by omega)).mp q28
            exact absurd q28 (by decide)
          · have q28n : ¬ 3 = 1 := fun z => q28 ((nI_eq (by omega) (by omega)).mpr z)
            refine lv_iload hx hb dX9_reach_79 (lv_at hl 0 rfl) ?_
            refine lv_iconst (v := nI 2) hx hb dX9_reach_81 (by decide) ?_
            refine lv_icmp_eq (tgt := 91) hx hb dX9_reach_82 (by decide) (fun q29 => ?_) (fun q29 => ?_)
            · have q29n : 3 = 2 := (nI_eq (by omega) (by omega)).mp q29
              exact absurd q29 (by decide)
            · have q29n : ¬ 3 = 2 := fun z => q29 ((nI_eq (by omega) (by omega)).mpr z)
              refine lv_iload hx hb dX9_reach_85 (lv_at hl 0 rfl) ?_
              refine lv_iconst (v := nI 4) hx hb dX9_reach_87 (by decide) ?_
              refine lv_icmp_ne (tgt := 95) hx hb dX9_reach_88 (by decide) (fun q30 => ?_) (fun q30 => ?_)
              · have q30n : ¬ 3 = 4 := fun z => q30 ((nI_eq (by omega) (by omega)).mpr z)
                refine lv_iconst (v := nI 0) hx hb dX9_reach_95 (by decide) ?_
                exact wr_iret hx hb hr (by decide) hK hw (pRc_4 (q := 3) q1 h5 (by omega) (by rw [hr9]; unfold relN; rw [if_pos (eN0 (by omega) q7)]) (by omega) (by decide)) hlocks dX9_reach_96
              · have q30n : 3 = 4 := (nI_eq (by omega) (by omega)).mp q30
                exact absurd q30 (by decide)
    · have q6n : ¬ 2 ≤ (tn (M 3 b)) := fun z => q6 ((nI_leI (by omega) (by omega)).mpr z)
      refine lv_iconst (v := nI 1) hx hb dX9_reach_26 (by decide) ?_
      exact wr_iret hx hb hr (by decide) hK hw (pRc_2 q1 h5 (by omega)) hlocks dX9_reach_27
  · skip
    refine lv_iconst (v := nI 0) hx hb dX9_reach_9 (by decide) ?_
    exact wr_iret hx hb hr (by decide) hK hw (pRc_1 q1) hlocks dX9_reach_10
theorem k_X9_reach (l : Launch) (D : va_G) (ad : Nat → Nat) (cs : Nat → ClassId) (sz : Nat) (M : wM) (J : wJ) (b : Nat) (e1 : Nat) (hb16 : b < 16) (he2 : e1 < 2) (hSz : ∀ b, b < 16 → M 1 b = nI (tn (M 1 b)) ∧ tn (M 1 b) ≤ 8) (hSt : ∀ b, b < 16 → ∀ a, a < tn (M 1 b) → st9 M b a) (hEd : ∀ b, b < 16 → M 3 b = nI (tn (M 3 b)) ∧ tn (M 3 b) ≤ 2) (hXY : ∀ b, b < 16 → isV (M 6 b) ∧ isV (M 7 b)) (hR8 : ∀ b, b < 16 → inB (M 8 b) 4) : wCi l yX9_reach wsX9_reach { frames := 6, cells := 0, slots := 0, locals := 154 } D 23 mSh ad cs [.ref (ad 0), .int (nI b), .int (nI e1)] sz M J (pRc M J b e1) := by
  obtain ⟨r, hr, e⟩ := hR8 b hb16
  rcases (show r = 0 ∨ r = 1 ∨ r = 2 ∨ r = 3 by omega) with rfl | rfl | rfl | rfl
  · exact k_X9_reach_r0 l D ad cs sz M J b e1 hb16 he2 hSz hSt hEd hXY e
  · exact k_X9_reach_r1 l D ad cs sz M J b e1 hb16 he2 hSz hSt hEd hXY e
  · exact k_X9_reach_r2 l D ad cs sz M J b e1 hb16 he2 hSz hSt hEd hXY e
  · exact k_X9_reach_r3 l D ad cs sz M J b e1 hb16 he2 hSz hSt hEd hXY e
