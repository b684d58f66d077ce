/-! the reference, 8: analyze: laid by wip/gen/specs22.py -/
set_option maxHeartbeats 4000000 in
set_option maxRecDepth 100000 in
theorem k_X9_analyze (l : Launch) (D : va_G) (ad : Nat → Nat) (cs : Nat → ClassId) (sz : Nat) (M : wM) (J : wJ) (cnt : Nat) (t : Nat) (n : Nat) (hp : mOK M cnt t) (hn13 : (anM M) 0 13 = nI n) (hn5 : n ≤ 5) (hT : tmR (anM M) cnt t 1000000 z0) : wCi l yX9_analyze wsX9_analyze { frames := 9, cells := 0, slots := 0, locals := 229 } D 23 mSh ad cs [.ref (ad 0)] sz M J (qAn M J cnt t n) := by
  refine wC_i (cc := cX9_analyze) (maxL := 5) (ret := (some .int)) (by decide) rfl (Nat.le_of_ble_eq_true rfl) ?_
  intro p e s m below meth c ls A hx hb hr hml hown hts hlocks hK hA hw hl hAe
  clear hAe
  have hl : lv_has ls 5 [(0, .ref (ad 0))] := hl
  have f87 : (Cond.fieldLink RX9 87 "RangePropagatorModel" "thrown" "I").before _ s = true := hts _ (by decide +kernel)
  have iX9 : ∀ w ∈ wsX90, w ∈ wsX9_analyze := by decide +kernel
  have f96 : (Cond.fieldLink RX9 96 "RangePropagatorModel" "isMade" "Z").before _ s = true := hts _ (by decide +kernel)
  have f47 : (Cond.fieldLink RX9 47 "RangePropagatorModel" "narrowings" "I").before _ s = true := hts _ (by decide +kernel)
  have f7 : (Cond.fieldLink RX9 7 "RangePropagatorModel" "blocks" "I").before _ s = true := hts _ (by decide +kernel)
  have f53 : (Cond.fieldLink RX9 53 "RangePropagatorModel" "isThere" "[Z").before _ s = true := hts _ (by decide +kernel)
  have f63 : (Cond.fieldLink RX9 63 "RangePropagatorModel" "visits" "[I").before _ s = true := hts _ (by decide +kernel)
  have hp2 := mOK_an hp
  have hc16 : cnt ≤ 16 := hp.2.1
  refine lv_aload_n hx hb dX9_analyze_0 rfl (lv_at hl 0 rfl) ?_
  refine lv_iconst (v := nI 0) hx hb dX9_analyze_1 (by decide) ?_
  refine wr_pi hx hb hown hK hts iX9 tyX9_ok nmX9 (ci := 8) rfl 0 (by decide) f87 rfl rfl hw 0 (by omega) rfl rfl rfl rfl dX9_analyze_2 (fun H locs hw => ?_)
  refine lv_aload_n hx hb dX9_analyze_5 rfl (lv_at hl 0 rfl) ?_
  refine lv_iconst (v := nI 1) hx hb dX9_analyze_6 (by decide) ?_
  refine wr_pi hx hb hown hK hts iX9 tyX9_ok nmX9 (ci := 8) rfl 16 (by decide) f96 rfl rfl hw 0 (by omega) rfl rfl (by decide) (by decide) dX9_analyze_7 (fun H locs hw => ?_)
  refine lv_iconst (v := nI 0) hx hb dX9_analyze_10 (by decide) ?_
  refine lv_istore_n (lv' := [(1, .int (nI 0)), (0, .ref (ad 0))]) hx hb dX9_analyze_11 rfl hl (by decide) rfl (fun ls hl => ?_)
  refine w_loop (σ := Nat) (fun k M' J' ls => lv_has ls 5 [(0, .ref (ad 0)), (1, .int (nI k))] ∧ J' = J ∧ k ≤ 16 ∧ Ini (anM M) k M') (fun k => 16 - k) (fun k M1 J1_ H locs ls hI hw ih2 => ?_) 0 ⟨lv_sub hl [1, 0] rfl, rfl, by omega, ⟨kp_refl _ _, fun b h => absurd h (Nat.not_lt_zero b)⟩⟩ hw
  obtain ⟨hl, eJ_, hk_, hI⟩ := hI
  rw [eJ_] at hw
  clear eJ_
  refine lv_iload_n hx hb dX9_analyze_12 rfl (lv_at hl 1 rfl) ?_
  refine lv_bipush (v := nI 16) hx hb dX9_analyze_13 (by decide) ?_
  refine lv_icmp_ge (tgt := 38) hx hb dX9_analyze_15 (by decide) (fun q3 => ?_) (fun q3 => ?_)
  · have q3n : 16 ≤ k := (nI_leI (by omega) (by omega)).mp q3
    refine lv_iconst (v := nI 0) hx hb dX9_analyze_38 (by decide) ?_
    refine lv_istore_n (lv' := [(1, .int (nI 0)), (0, .ref (ad 0))]) hx hb dX9_analyze_39 rfl hl (by decide) rfl (fun ls hl => ?_)
    refine lv_iconst (v := nI 1) hx hb dX9_analyze_40 (by decide) ?_
    refine lv_istore_n (lv' := [(2, .int (nI 1)), (1, .int (nI 0)), (0, .ref (ad 0))]) hx hb dX9_analyze_41 rfl hl (by decide) rfl (fun ls hl => ?_)
    refine w_loop (σ := Nat × Bool × aN) (fun x9 M' J' ls => lv_has ls 5 [(0, .ref (ad 0)), (1, .int (nI x9.1)), (2, .int ((if x9.2.1 = true then nI 1 else nI 0)))] ∧ J' = J ∧ x9.1 ≤ 1000000 ∧ (AM (anM M) M' x9.2.2.1 x9.2.2.2 ∧ ItR (anM M) cnt t z0 x9.1 x9.2.1 x9.2.2)) (fun x9 => 1000000 - x9.1) (fun x9 M4 J1_ H locs ls hI hw ih5 => ?_) (0, true, z0) ⟨lv_sub hl [2, 1, 0] rfl, rfl, by omega, ⟨(by have e8 : k = 16 := (by omega); rw [e8] at hI; exact Ini_AM hI), ItR_0 hT⟩⟩ hw
    obtain ⟨hl, eJ_, hk_, hI⟩ := hI
    rw [eJ_] at hw
    clear eJ_
    refine lv_iload_n hx hb dX9_analyze_42 rfl (lv_at hl 2 rfl) ?_
    refine lv_if_eq (tgt := 88) hx hb dX9_analyze_43 (by decide) (fun q6 => ?_) (fun q6 => ?_)
    · skip
      refine lv_iconst (v := nI 0) hx hb dX9_analyze_88 (by decide) ?_
      refine lv_istore_n (lv' := [(3, .int (nI 0)), (0, .ref (ad 0)), (1, .int (nI x9.1)), (2, .int ((if x9.2.1 = true then nI 1 else nI 0)))]) hx hb dX9_analyze_89 rfl hl (by decide) rfl (fun ls hl => ?_)
      have hD9 : itR (anM M) cnt t 1000000 z0 = (x9.1, x9.2.2) := ItR_e (c_if.mp q6) hI.2
      refine w_loop (σ := Nat) (fun k M' J' ls => lv_has ls 5 [(0, .ref (ad 0)), (1, .int (nI x9.1)), (3, .int (nI k))] ∧ J' = J ∧ k ≤ n ∧ True ∧ AM (anM M) M' (nrRR (anM M) cnt k x9.2.2.1) x9.2.2.2) (fun k => n - k) (fun k M7 J1_ H locs ls hI hw ih8 => ?_) 0 ⟨lv_sub hl [1, 2, 0] rfl, rfl, by omega, ⟨trivial, hI.1⟩⟩ hw
      obtain ⟨hl, eJ_, hk_, hI⟩ := hI
      rw [eJ_] at hw
      clear eJ_
      refine lv_iload_n hx hb dX9_analyze_90 rfl (lv_at hl 2 rfl) ?_
      refine lv_aload_n hx hb dX9_analyze_91 rfl (lv_at hl 0 rfl) ?_
      refine wr_gi hx hb hown hK hts iX9 (ci := 8) rfl 13 (by decide) f47 rfl hw 0 (by omega) rfl rfl dX9_analyze_92 ?_
      rw [show M7 0 13 = nI n from ((hI.2.2.1 13 (by decide)).trans hn13)]
      refine lv_icmp_ge (tgt := 128) hx hb dX9_analyze_95 (by decide) (fun q9 => ?_) (fun q9 => ?_)
      · have q9n : n ≤ k := (nI_leI (by omega) (by omega)).mp q9
        refine lv_iload_n hx hb dX9_analyze_128 rfl (lv_at hl 1 rfl) ?_
        exact wr_iret hx hb hr rfl hK hw (by have e8 : k = n := (by omega); subst e8; exact ⟨rfl, by rw [hD9], by have z := hI.2; rw [hD9]; exact z⟩) hlocks dX9_analyze_129
      · have q9n : ¬ n ≤ k := fun z => q9 ((nI_leI (by omega) (by omega)).mpr z)
        refine lv_iconst (v := nI 0) hx hb dX9_analyze_98 (by decide) ?_
        refine lv_istore (lv' := [(4, .int (nI 0)), (0, .ref (ad 0)), (1, .int (nI x9.1)), (3, .int (nI k))]) hx hb dX9_analyze_99 hl (by decide) rfl (fun ls hl => ?_)
        refine w_loop (σ := Nat) (fun b9 M' J' ls => lv_has ls 5 [(0, .ref (ad 0)), (1, .int (nI x9.1)), (3, .int (nI k)), (4, .int (nI b9))] ∧ J' = J ∧ b9 ≤ cnt ∧ True ∧ AM (anM M) M' (nbR (anM M) cnt b9 (nrRR (anM M) cnt k x9.2.2.1)) x9.2.2.2) (fun b9 => cnt - b9) (fun b9 M10 J1_ H locs ls hI hw ih11 => ?_) 0 ⟨lv_sub hl [1, 2, 3, 0] rfl, rfl, by omega, hI⟩ hw
        obtain ⟨hl, eJ_, hk_, hI⟩ := hI
        rw [eJ_] at hw
        clear eJ_
        refine lv_iload hx hb dX9_analyze_101 (lv_at hl 3 rfl) ?_
        refine lv_aload_n hx hb dX9_analyze_103 rfl (lv_at hl 0 rfl) ?_
        refine wr_gi hx hb hown hK hts iX9 (ci := 8) rfl 1 (by decide) f7 rfl hw 0 (by omega) rfl rfl dX9_analyze_104 ?_
        rw [show M10 0 1 = nI cnt from ((hI.2.2.1 1 (by decide)).trans hp2.1)]
        refine lv_icmp_ge (tgt := 122) hx hb dX9_analyze_107 (by decide) (fun q12 => ?_) (fun q12 => ?_)
        · have q12n : cnt ≤ b9 := (nI_leI (by omega) (by omega)).mp q12
          refine lv_iinc (v := nI (k + 1)) (lv' := [(3, .int (nI (k + 1))), (0, .ref (ad 0)), (1, .int (nI x9.1)), (4, .int (nI b9))]) hx hb dX9_analyze_122 hl (k := 2) rfl (nI_1 _) (by decide) rfl (fun ls hl => ?_)
          refine lv_goto (tgt := 90) hx hb dX9_analyze_125 (by decide) ?_
          exact ih8 (k + 1) M10 J _ _ _ (by omega) ⟨lv_sub hl [1, 2, 0] rfl, rfl, by omega, (by show True ∧ AM (anM M) _ (nbR (anM M) cnt cnt (nrRR (anM M) cnt k x9.2.2.1)) _; have e8 : b9 = cnt := (by omega); rw [e8] at hI; exact hI)⟩ hw
        · have q12n : ¬ cnt ≤ b9 := fun z => q12 ((nI_leI (by omega) (by omega)).mpr z)
          refine lv_aload_n hx hb dX9_analyze_110 rfl (lv_at hl 0 rfl) ?_
          refine lv_iload hx hb dX9_analyze_111 (lv_at hl 3 rfl) ?_
          refine wr_cVv (k := 0) (ci := 8) (As := [.int (nI b9)]) (rest := []) ⟨hx, hb, hml, hown, hts⟩ (cwV 1 hts gX9_analyze_X9_narrow rfl rfl rfl (by decide +kernel) ⟨Nat.le_of_ble_eq_true rfl, Nat.le_of_ble_eq_true rfl⟩) hK hA hw (k_X9_narrow l D ad cs H.size M10 J b9 ((anM M)) ((nbR (anM M) cnt b9 (nrRR (anM M) cnt k x9.2.2.1))) x9.2.2.2 cnt t (by omega) hp2 hI.2) (by omega) rfl rfl rfl rfl hl.1 (Nat.le_of_ble_eq_true rfl) ⟨Nat.le_of_ble_eq_true rfl, Nat.le_of_ble_eq_true rfl⟩ dX9_analyze_113 (fun M14 J15 H locs h16 hw => ?_)
          have h16J : J15 = J := h16.1
          rw [h16J] at hw
          refine lv_iinc (v := nI (b9 + 1)) (lv' := [(4, .int (nI (b9 + 1))), (0, .ref (ad 0)), (1, .int (nI x9.1)), (3, .int (nI k))]) hx hb dX9_analyze_116 hl (k := 3) rfl (nI_1 _) (by decide) rfl (fun ls hl => ?_)
          refine lv_goto (tgt := 101) hx hb dX9_analyze_119 (by decide) ?_
          exact ih11 (b9 + 1) M14 J _ _ _ (by omega) ⟨lv_sub hl [1, 2, 3, 0] rfl, rfl, by omega, ⟨trivial, h16.2⟩⟩ hw
    · skip
      refine lv_iconst (v := nI 0) hx hb dX9_analyze_46 (by decide) ?_
      refine lv_istore_n (lv' := [(2, .int (nI 0)), (0, .ref (ad 0)), (1, .int (nI x9.1))]) hx hb dX9_analyze_47 rfl hl (by decide) rfl (fun ls hl => ?_)
      refine lv_iinc (v := nI (x9.1 + 1)) (lv' := [(1, .int (nI (x9.1 + 1))), (2, .int (nI 0)), (0, .ref (ad 0))]) hx hb dX9_analyze_48 hl (k := 2) rfl (nI_1 _) (by decide) rfl (fun ls hl => ?_)
      refine lv_iconst (v := nI 0) hx hb dX9_analyze_51 (by decide) ?_
      refine lv_istore_n (lv' := [(3, .int (nI 0)), (1, .int (nI (x9.1 + 1))), (2, .int (nI 0)), (0, .ref (ad 0))]) hx hb dX9_analyze_52 rfl hl (by decide) rfl (fun ls hl => ?_)
      have hO := hI
      have hC : x9.2.1 = true := Decidable.not_not.mp (fun z => q6 (c_if.mpr z))
      have hlt := ItR_lt hC hO.2
      refine w_loop (σ := Nat × Bool) (fun x8 M' J' ls => lv_has ls 5 [(0, .ref (ad 0)), (1, .int (nI (x9.1 + 1))), (2, .int ((if x8.2 = true then nI 1 else nI 0))), (3, .int (nI x8.1))] ∧ J' = J ∧ x8.1 ≤ cnt ∧ (AM (anM M) M' (rdSR (anM M) cnt t x8.1 x9.2.2).1 (rdSR (anM M) cnt t x8.1 x9.2.2).2 ∧ (x8.2 = true ↔ rdCR (anM M) cnt t x8.1 x9.2.2))) (fun x8 => cnt - x8.1) (fun x8 M17 J1_ H locs ls hI hw ih18 => ?_) (0, false) ⟨lv_sub hl [3, 1, 2, 0] rfl, rfl, by omega, ⟨hI.1, (⟨fun z => (by cases z), fun z => z.elim⟩)⟩⟩ hw
      obtain ⟨hl, eJ_, hk_, hI⟩ := hI
      rw [eJ_] at hw
      clear eJ_
      refine lv_iload_n hx hb dX9_analyze_53 rfl (lv_at hl 3 rfl) ?_
      refine lv_aload_n hx hb dX9_analyze_54 rfl (lv_at hl 0 rfl) ?_
      refine wr_gi hx hb hown hK hts iX9 (ci := 8) rfl 1 (by decide) f7 rfl hw 0 (by omega) rfl rfl dX9_analyze_55 ?_
      rw [show M17 0 1 = nI cnt from ((hI.1.2.1 1 (by decide)).trans hp2.1)]
      refine lv_icmp_ge (tgt := 85) hx hb dX9_analyze_58 (by decide) (fun q19 => ?_) (fun q19 => ?_)
      · have q19n : cnt ≤ x8.1 := (nI_leI (by omega) (by omega)).mp q19
        refine lv_goto (tgt := 42) hx hb dX9_analyze_85 (by decide) ?_
        exact ih5 (x9.1 + 1, x8.2, rdSR (anM M) cnt t cnt x9.2.2) M17 J _ _ _ (by omega) ⟨lv_sub hl [0, 1, 2] rfl, rfl, by omega, ⟨(by have e8 : x8.1 = cnt := (by omega); rw [e8] at hI; exact hI.1), (by have e8 : x8.1 = cnt := (by omega); rw [e8] at hI; exact ItR_s hC hO.2 hI.2)⟩⟩ hw
      · have q19n : ¬ cnt ≤ x8.1 := fun z => q19 ((nI_leI (by omega) (by omega)).mpr z)
        refine lv_aload_n hx hb dX9_analyze_61 rfl (lv_at hl 0 rfl) ?_
        refine lv_iload_n hx hb dX9_analyze_62 rfl (lv_at hl 3 rfl) ?_
        refine wr_cVi (k := 0) (ci := 8) (As := [.int (nI x8.1)]) (rest := []) ⟨hx, hb, hml, hown, hts⟩ (cwV 1 hts gX9_analyze_X9_look rfl rfl rfl (by decide +kernel) ⟨Nat.le_of_ble_eq_true rfl, Nat.le_of_ble_eq_true rfl⟩) hK hA hw (k_X9_look l D ad cs H.size M17 J x8.1 ((anM M)) ((rdSR (anM M) cnt t x8.1 x9.2.2).1) ((rdSR (anM M) cnt t x8.1 x9.2.2).2) cnt t (by omega) hp2 hI.1) (by omega) rfl rfl rfl rfl hl.1 (Nat.le_of_ble_eq_true rfl) ⟨Nat.le_of_ble_eq_true rfl, Nat.le_of_ble_eq_true rfl⟩ dX9_analyze_63 (fun r20 M21 J22 H locs h23 hw => ?_)
        have h23J : J22 = J := h23.1
        rw [h23J] at hw
        refine lv_if_ne (tgt := 73) hx hb dX9_analyze_66 (by decide) (fun q24 => ?_) (fun q24 => ?_)
        · skip
          refine lv_iconst (v := nI 1) hx hb dX9_analyze_73 (by decide) ?_
          refine lv_goto (tgt := 78) hx hb dX9_analyze_74 (by decide) ?_
          refine lv_istore_n (lv' := [(2, .int (nI 1)), (0, .ref (ad 0)), (1, .int (nI (x9.1 + 1))), (3, .int (nI x8.1))]) hx hb dX9_analyze_78 rfl hl (by decide) rfl (fun ls hl => ?_)
          refine lv_iinc (v := nI (x8.1 + 1)) (lv' := [(3, .int (nI (x8.1 + 1))), (2, .int (nI 1)), (0, .ref (ad 0)), (1, .int (nI (x9.1 + 1)))]) hx hb dX9_analyze_79 hl (k := 3) rfl (nI_1 _) (by decide) rfl (fun ls hl => ?_)
          refine lv_goto (tgt := 53) hx hb dX9_analyze_82 (by decide) ?_
          exact ih18 (x8.1 + 1, true) M21 J _ _ _ (by omega) ⟨lv_sub hl [2, 3, 1, 0] rfl, rfl, by omega, ⟨h23.2.2, cr_t (h23.2.1.elim (fun z => z.2) (fun z => absurd (z.1.trans nI_0) q24))⟩⟩ hw
        · skip
          refine lv_iload_n hx hb dX9_analyze_69 rfl (lv_at hl 2 rfl) ?_
          refine lv_if_eq (tgt := 77) hx hb dX9_analyze_70 (by decide) (fun q25 => ?_) (fun q25 => ?_)
          · skip
            refine lv_iconst (v := nI 0) hx hb dX9_analyze_77 (by decide) ?_
            refine lv_istore_n (lv' := [(2, .int (nI 0)), (0, .ref (ad 0)), (1, .int (nI (x9.1 + 1))), (3, .int (nI x8.1))]) hx hb dX9_analyze_78 rfl hl (by decide) rfl (fun ls hl => ?_)
            refine lv_iinc (v := nI (x8.1 + 1)) (lv' := [(3, .int (nI (x8.1 + 1))), (2, .int (nI 0)), (0, .ref (ad 0)), (1, .int (nI (x9.1 + 1)))]) hx hb dX9_analyze_79 hl (k := 3) rfl (nI_1 _) (by decide) rfl (fun ls hl => ?_)
            refine lv_goto (tgt := 53) hx hb dX9_analyze_82 (by decide) ?_
            exact ih18 (x8.1 + 1, false) M21 J _ _ _ (by omega) ⟨lv_sub hl [2, 3, 1, 0] rfl, rfl, by omega, ⟨h23.2.2, cr_f hI.2 (h23.2.1.elim (fun z => absurd (q24.symm.trans z.1) (by decide)) (fun z => z.2)) (by have z := c_if.mp q25; cases hx : x8.2; rfl; exact absurd hx z)⟩⟩ hw
          · skip
            refine lv_iconst (v := nI 1) hx hb dX9_analyze_73 (by decide) ?_
            refine lv_goto (tgt := 78) hx hb dX9_analyze_74 (by decide) ?_
            refine lv_istore_n (lv' := [(2, .int (nI 1)), (0, .ref (ad 0)), (1, .int (nI (x9.1 + 1))), (3, .int (nI x8.1))]) hx hb dX9_analyze_78 rfl hl (by decide) rfl (fun ls hl => ?_)
            refine lv_iinc (v := nI (x8.1 + 1)) (lv' := [(3, .int (nI (x8.1 + 1))), (2, .int (nI 1)), (0, .ref (ad 0)), (1, .int (nI (x9.1 + 1)))]) hx hb dX9_analyze_79 hl (k := 3) rfl (nI_1 _) (by decide) rfl (fun ls hl => ?_)
            refine lv_goto (tgt := 53) hx hb dX9_analyze_82 (by decide) ?_
            exact ih18 (x8.1 + 1, true) M21 J _ _ _ (by omega) ⟨lv_sub hl [2, 3, 1, 0] rfl, rfl, by omega, ⟨h23.2.2, cr_f hI.2 (h23.2.1.elim (fun z => absurd (q24.symm.trans z.1) (by decide)) (fun z => z.2)) (Decidable.not_not.mp (fun z => q25 (c_if.mpr z))).symm⟩⟩ hw
  · have q3n : ¬ 16 ≤ k := fun z => q3 ((nI_leI (by omega) (by omega)).mpr z)
    refine lv_aload_n hx hb dX9_analyze_18 rfl (lv_at hl 0 rfl) ?_
    refine wr_gr hx hb hown hK hts iX9 (ci := 8) rfl 17 (by decide) f53 rfl hw 0 (by omega) 12 rfl rfl dX9_analyze_19 ?_
    refine lv_iload_n hx hb dX9_analyze_22 rfl (lv_at hl 1 rfl) ?_
    refine lv_iconst (v := nI 0) hx hb dX9_analyze_23 (by decide) ?_
    refine wr_zstN hx hb hK hw 12 (by omega) rfl (by decide) k rfl (by omega) (Or.inl rfl) dX9_analyze_24 (fun H locs hw => ?_)
    refine lv_aload_n hx hb dX9_analyze_25 rfl (lv_at hl 0 rfl) ?_
    refine wr_gr hx hb hown hK hts iX9 (ci := 8) rfl 20 (by decide) f63 rfl hw 0 (by omega) 15 rfl rfl dX9_analyze_26 ?_
    refine lv_iload_n hx hb dX9_analyze_29 rfl (lv_at hl 1 rfl) ?_
    refine lv_iconst (v := nI 0) hx hb dX9_analyze_30 (by decide) ?_
    refine wr_istN hx hb hK hw 15 (by omega) rfl (by decide) k rfl (by omega) dX9_analyze_31 (fun H locs hw => ?_)
    refine lv_iinc (v := nI (k + 1)) (lv' := [(1, .int (nI (k + 1))), (0, .ref (ad 0))]) hx hb dX9_analyze_32 hl (k := 1) rfl (nI_1 _) (by decide) rfl (fun ls hl => ?_)
    refine lv_goto (tgt := 12) hx hb dX9_analyze_35 (by decide) ?_
    exact ih2 (k + 1) (wU (wU M1 12 k (nI 0)) 15 k (nI 0)) J _ _ _ (by omega) ⟨lv_sub hl [1, 0] rfl, rfl, by omega, Ini_s hI⟩ hw
