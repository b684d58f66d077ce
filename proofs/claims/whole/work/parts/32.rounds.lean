/-! Analysis: forget, makeRounds, makeNarrowings: laid by wip/gen/specs7.py -/
set_option maxHeartbeats 4000000 in
set_option maxRecDepth 100000 in
theorem k_X0_forget (l : Launch) (D : va_G) (ad : Nat → Nat) (cs : Nat → ClassId) (sz : Nat) (M : wM) (J : wJ)  (hc : cZ M) : wCv l yX0_forget wsX0_forget { frames := 1, cells := 0, slots := 0, locals := 21 } D 340 cSh ad cs [.ref (ad 334)] sz M J (fun u_ => u_.2 = J ∧ Ifg M 16 u_.1) := by
  refine wC_v (cc := cX0_forget) (maxL := 2) (ret := none) (by decide) rfl (Nat.le_of_ble_eq_true rfl) ?_
  intro p e s m below meth c ls A hx hb hr hml hown hts hlocks hK hA hw hl hAe
  clear hAe
  have hl : lv_has ls 2 [(0, .ref (ad 334))] := hl
  have f11 : (Cond.fieldLink RX0 11 "RangePropagator$Analysis" "flows" "[LRangePropagator$Flow;").before _ s = true := hts _ (by decide +kernel)
  have iX0 : ∀ w ∈ wsX00, w ∈ wsX0_forget := by decide +kernel
  refine lv_iconst (v := nI 0) hx hb dX0_forget_0 (by decide) ?_
  refine lv_istore_n (lv' := [(1, .int (nI 0)), (0, .ref (ad 334))]) hx hb dX0_forget_1 rfl hl (by decide) rfl (fun ls hl => ?_)
  refine w_loop (σ := Nat) (fun k M' J' ls => lv_has ls 2 [(0, .ref (ad 334)), (1, .int (nI k))] ∧ J' = J ∧ k ≤ 16 ∧ Ifg M k M') (fun k => 16 - k) (fun k M1 J1_ H locs ls hI hw ih2 => ?_) 0 ⟨lv_sub hl [1, 0] rfl, rfl, by omega, ⟨kp_refl _ _, hc, fun b h => absurd h (Nat.not_lt_zero b)⟩⟩ hw
  obtain ⟨hl, eJ_, hk_, hI⟩ := hI
  rw [eJ_] at hw
  clear eJ_
  refine lv_iload_n hx hb dX0_forget_2 rfl (lv_at hl 1 rfl) ?_
  refine lv_bipush (v := nI 16) hx hb dX0_forget_3 (by decide) ?_
  refine lv_icmp_ge (tgt := 23) hx hb dX0_forget_5 (by decide) (fun q3 => ?_) (fun q3 => ?_)
  · have q3n : 16 ≤ k := (nI_leI (by omega) (by omega)).mp q3
    exact wr_vret hx hb hr hK hw ⟨rfl, (by have e8 : k = 16 := (by omega); rw [← e8]; exact hI)⟩ hlocks dX0_forget_23
  · have q3n : ¬ 16 ≤ k := fun z => q3 ((nI_leI (by omega) (by omega)).mpr z)
    refine lv_aload_n hx hb dX0_forget_8 rfl (lv_at hl 0 rfl) ?_
    refine wr_gr hx hb hown hK hts iX0 (ci := 0) rfl 0 (by decide) f11 rfl hw 334 (by omega) 335 cs_A rfl dX0_forget_9 ?_
    refine lv_iload_n hx hb dX0_forget_12 rfl (lv_at hl 1 rfl) ?_
    refine wr_aldN hx hb hK hw 335 (by omega) cs_AF rfl (by decide) k rfl (by omega) dX0_forget_13 ?_
    refine wr_cVv (k := 297 + 2 * k) (ci := 3) (As := []) (rest := []) ⟨hx, hb, hml, hown, hts⟩ (cwV 0 hts gX0_forget_X4_makeNone rfl rfl rfl (by decide +kernel) ⟨Nat.le_of_ble_eq_true rfl, Nat.le_of_ble_eq_true rfl⟩) hK hA hw (k_X4_makeNone l D ad cs H.size M1 J k (by omega)) (by omega) (cs_F (by omega)) rfl rfl rfl hl.1 (Nat.le_of_ble_eq_true rfl) ⟨Nat.le_of_ble_eq_true rfl, Nat.le_of_ble_eq_true rfl⟩ dX0_forget_14 (fun M5 J6 H locs h7 hw => ?_)
    cases h7
    refine lv_iinc (v := nI (k + 1)) (lv' := [(1, .int (nI (k + 1))), (0, .ref (ad 334))]) hx hb dX0_forget_17 hl (k := 1) rfl (nI_1 _) (by decide) rfl (fun ls hl => ?_)
    refine lv_goto (tgt := 2) hx hb dX0_forget_20 (by decide) ?_
    exact ih2 (k + 1) (mnE (wU (wU (wU M1 (297 + 2 * k) 3 (nI 0)) (3 * (3 + 4 * k)) 0 (nI 1)) (3 * (4 + 4 * k)) 0 (nI 1)) k 2) J _ _ _ (by omega) ⟨lv_sub hl [1, 0] rfl, rfl, by omega, Ifg_s (by omega) hI⟩ hw
set_option maxHeartbeats 4000000 in
set_option maxRecDepth 100000 in
theorem k_X0_makeRounds (l : Launch) (D : va_G) (ad : Nat → Nat) (cs : Nat → ClassId) (sz : Nat) (M : wM) (J : wJ) (M0 : wM) (E : Nat → aS) (V : Nat → Int32) (cnt : Nat) (tt : Nat) (hp : prOK M0 cnt tt) (hN : AN M0 M E V) : wCi l yX0_makeRounds wsX0_makeRounds { frames := 6, cells := 0, slots := 0, locals := 152 } D 340 cSh ad cs [.ref (ad 334), .ref (ad 330), .ref (ad 332)] sz M J (pRd M0 J cnt tt (E, V)) := by
  refine wC_i (cc := cX0_makeRounds) (maxL := 6) (ret := (some .int)) (by decide) rfl (Nat.le_of_ble_eq_true rfl) ?_
  intro p e s m below meth c ls A hx hb hr hml hown hts hlocks hK hA hw hl hAe
  clear hAe
  have hl : lv_has ls 6 [(0, .ref (ad 334)), (1, .ref (ad 330)), (2, .ref (ad 332))] := hl
  have k31 : (Cond.constant RX0 31 (1000000)).before _ s = true := hts _ (by decide +kernel)
  have f32 : (Cond.fieldLink RX0 32 "RangePropagator$Program" "count" "I").before _ s = true := hts _ (by decide +kernel)
  have iX5 : ∀ w ∈ wsX50, w ∈ wsX0_makeRounds := by decide +kernel
  have hc16 : cnt ≤ 16 := hp.2.1
  refine lv_iconst (v := nI 1) hx hb dX0_makeRounds_0 (by decide) ?_
  refine lv_istore_n (lv' := [(3, .int (nI 1)), (0, .ref (ad 334)), (1, .ref (ad 330)), (2, .ref (ad 332))]) hx hb dX0_makeRounds_1 rfl hl (by decide) rfl (fun ls hl => ?_)
  refine lv_iconst (v := nI 0) hx hb dX0_makeRounds_2 (by decide) ?_
  refine lv_istore (lv' := [(4, .int (nI 0)), (3, .int (nI 1)), (0, .ref (ad 334)), (1, .ref (ad 330)), (2, .ref (ad 332))]) hx hb dX0_makeRounds_3 hl (by decide) rfl (fun ls hl => ?_)
  refine w_loop (σ := Nat × Bool × aN) (fun x9 M' J' ls => lv_has ls 6 [(0, .ref (ad 334)), (1, .ref (ad 330)), (2, .ref (ad 332)), (3, .int ((if x9.2.1 = true then nI 1 else nI 0))), (4, .int (nI x9.1))] ∧ J' = J ∧ x9.1 ≤ 1000000 ∧ (AN M0 M' x9.2.2.1 x9.2.2.2 ∧ Itr M0 cnt tt (E, V) x9.1 x9.2.1 x9.2.2)) (fun x9 => 1000000 - x9.1) (fun x9 M1 J1_ H locs ls hI hw ih2 => ?_) (0, true, E, V) ⟨lv_sub hl [2, 3, 4, 1, 0] rfl, rfl, by omega, ⟨hN, Itr_0⟩⟩ hw
  obtain ⟨hl, eJ_, hk_, hI⟩ := hI
  rw [eJ_] at hw
  clear eJ_
  refine lv_iload_n hx hb dX0_makeRounds_5 rfl (lv_at hl 3 rfl) ?_
  refine lv_if_eq (tgt := 55) hx hb dX0_makeRounds_6 (by decide) (fun q3 => ?_) (fun q3 => ?_)
  · skip
    refine lv_iload hx hb dX0_makeRounds_55 (lv_at hl 4 rfl) ?_
    exact wr_iret hx hb hr rfl hK hw (pRd_of (Itr_e1 (c_if.mp q3) hI.2) hI.1) hlocks dX0_makeRounds_57
  · skip
    refine lv_iload hx hb dX0_makeRounds_9 (lv_at hl 4 rfl) ?_
    refine lv_ldc hx hb hown k31 dX0_makeRounds_11 ?_
    rw [show (1000000 : Int32) = nI 1000000 from rfl]
    refine lv_icmp_ge (tgt := 55) hx hb dX0_makeRounds_13 (by decide) (fun q4 => ?_) (fun q4 => ?_)
    · have q4n : 1000000 ≤ x9.1 := (nI_leI (by omega) (by omega)).mp q4
      refine lv_iload hx hb dX0_makeRounds_55 (lv_at hl 4 rfl) ?_
      exact wr_iret hx hb hr rfl hK hw (pRd_of (Itr_e2 (by omega) (Decidable.not_not.mp (fun z => q3 (c_if.mpr z))) hI.2) hI.1) hlocks dX0_makeRounds_57
    · have q4n : ¬ 1000000 ≤ x9.1 := fun z => q4 ((nI_leI (by omega) (by omega)).mpr z)
      refine lv_iinc (v := nI (x9.1 + 1)) (lv' := [(4, .int (nI (x9.1 + 1))), (0, .ref (ad 334)), (1, .ref (ad 330)), (2, .ref (ad 332)), (3, .int ((if x9.2.1 = true then nI 1 else nI 0)))]) hx hb dX0_makeRounds_16 hl (k := 4) rfl (nI_1 _) (by decide) rfl (fun ls hl => ?_)
      refine lv_iconst (v := nI 0) hx hb dX0_makeRounds_19 (by decide) ?_
      refine lv_istore_n (lv' := [(3, .int (nI 0)), (4, .int (nI (x9.1 + 1))), (0, .ref (ad 334)), (1, .ref (ad 330)), (2, .ref (ad 332))]) hx hb dX0_makeRounds_20 rfl hl (by decide) rfl (fun ls hl => ?_)
      refine lv_iconst (v := nI 0) hx hb dX0_makeRounds_21 (by decide) ?_
      refine lv_istore (lv' := [(5, .int (nI 0)), (3, .int (nI 0)), (4, .int (nI (x9.1 + 1))), (0, .ref (ad 334)), (1, .ref (ad 330)), (2, .ref (ad 332))]) hx hb dX0_makeRounds_22 hl (by decide) rfl (fun ls hl => ?_)
      have hO := hI
      refine w_loop (σ := Nat × Bool) (fun x8 M' J' ls => lv_has ls 6 [(0, .ref (ad 334)), (1, .ref (ad 330)), (2, .ref (ad 332)), (3, .int ((if x8.2 = true then nI 1 else nI 0))), (4, .int (nI (x9.1 + 1))), (5, .int (nI x8.1))] ∧ J' = J ∧ x8.1 ≤ cnt ∧ (AN M0 M' (rdS M0 cnt tt x8.1 x9.2.2).1 (rdS M0 cnt tt x8.1 x9.2.2).2 ∧ (x8.2 = true ↔ rdC M0 cnt tt x8.1 x9.2.2))) (fun x8 => cnt - x8.1) (fun x8 M5 J1_ H locs ls hI hw ih6 => ?_) (0, false) ⟨lv_sub hl [3, 4, 5, 1, 2, 0] rfl, rfl, by omega, ⟨hI.1, (⟨fun z => (by cases z), fun z => z.elim⟩)⟩⟩ hw
      obtain ⟨hl, eJ_, hk_, hI⟩ := hI
      rw [eJ_] at hw
      clear eJ_
      refine lv_iload hx hb dX0_makeRounds_24 (lv_at hl 5 rfl) ?_
      refine lv_aload_n hx hb dX0_makeRounds_26 rfl (lv_at hl 1 rfl) ?_
      refine wr_gi hx hb hown hK hts iX5 (ci := 4) rfl 2 (by decide) f32 rfl hw 330 (by omega) cs_P rfl dX0_makeRounds_27 ?_
      rw [show M5 330 2 = nI cnt from ((congrFun (hI.1.1 330 (by unfold anC; omega)) 2).trans hp.1)]
      refine lv_icmp_ge (tgt := 52) hx hb dX0_makeRounds_30 (by decide) (fun q7 => ?_) (fun q7 => ?_)
      · have q7n : cnt ≤ x8.1 := (nI_leI (by omega) (by omega)).mp q7
        refine lv_goto (tgt := 5) hx hb dX0_makeRounds_52 (by decide) ?_
        exact ih2 (x9.1 + 1, x8.2, rdS M0 cnt tt cnt x9.2.2) M5 J _ _ _ (by omega) ⟨lv_sub hl [0, 1, 2, 3, 4] rfl, rfl, by omega, ⟨(by have e8 : x8.1 = cnt := (by omega); rw [e8] at hI; exact hI.1), (by have e8 : x8.1 = cnt := (by omega); rw [e8] at hI; exact Itr_s (by omega) (Decidable.not_not.mp (fun z => q3 (c_if.mpr z))) hO.2 hI.2)⟩⟩ hw
      · have q7n : ¬ cnt ≤ x8.1 := fun z => q7 ((nI_leI (by omega) (by omega)).mpr z)
        refine lv_aload_n hx hb dX0_makeRounds_33 rfl (lv_at hl 0 rfl) ?_
        refine lv_aload_n hx hb dX0_makeRounds_34 rfl (lv_at hl 1 rfl) ?_
        refine lv_aload_n hx hb dX0_makeRounds_35 rfl (lv_at hl 2 rfl) ?_
        refine lv_iload hx hb dX0_makeRounds_36 (lv_at hl 5 rfl) ?_
        refine wr_cVi (k := 334) (ci := 0) (As := [.ref (ad 330), .ref (ad 332), .int (nI x8.1)]) (rest := []) ⟨hx, hb, hml, hown, hts⟩ (cwV 3 hts gX0_makeRounds_X0_lookAt rfl rfl rfl (by decide +kernel) ⟨Nat.le_of_ble_eq_true rfl, Nat.le_of_ble_eq_true rfl⟩) hK hA hw (k_X0_lookAt l D ad cs H.size M5 J x8.1 M0 ((rdS M0 cnt tt x8.1 x9.2.2).1) ((rdS M0 cnt tt x8.1 x9.2.2).2) cnt tt (by omega) hp hI.1) (by omega) cs_A rfl rfl rfl hl.1 (Nat.le_of_ble_eq_true rfl) ⟨Nat.le_of_ble_eq_true rfl, Nat.le_of_ble_eq_true rfl⟩ dX0_makeRounds_38 (fun r8 M9 J10 H locs h11 hw => ?_)
        have h11J : J10 = J := h11.1
        rw [h11J] at hw h11
        refine lv_if_eq (tgt := 46) hx hb dX0_makeRounds_41 (by decide) (fun q12 => ?_) (fun q12 => ?_)
        · skip
          refine lv_iinc (v := nI (x8.1 + 1)) (lv' := [(5, .int (nI (x8.1 + 1))), (0, .ref (ad 334)), (1, .ref (ad 330)), (2, .ref (ad 332)), (3, .int ((if x8.2 = true then nI 1 else nI 0))), (4, .int (nI (x9.1 + 1)))]) hx hb dX0_makeRounds_46 hl (k := 5) rfl (nI_1 _) (by decide) rfl (fun ls hl => ?_)
          refine lv_goto (tgt := 24) hx hb dX0_makeRounds_49 (by decide) ?_
          exact ih6 (x8.1 + 1, x8.2) M9 J _ _ _ (by omega) ⟨lv_sub hl [1, 2, 3, 4, 5, 0] rfl, rfl, by omega, ⟨h11.2.2, ch_f hI.2 (h11.2.1.elim (fun z => absurd (q12.symm.trans z.2) (by decide)) (fun z => z.1))⟩⟩ hw
        · skip
          refine lv_iconst (v := nI 1) hx hb dX0_makeRounds_44 (by decide) ?_
          refine lv_istore_n (lv' := [(3, .int (nI 1)), (0, .ref (ad 334)), (1, .ref (ad 330)), (2, .ref (ad 332)), (4, .int (nI (x9.1 + 1))), (5, .int (nI x8.1))]) hx hb dX0_makeRounds_45 rfl hl (by decide) rfl (fun ls hl => ?_)
          refine lv_iinc (v := nI (x8.1 + 1)) (lv' := [(5, .int (nI (x8.1 + 1))), (3, .int (nI 1)), (0, .ref (ad 334)), (1, .ref (ad 330)), (2, .ref (ad 332)), (4, .int (nI (x9.1 + 1)))]) hx hb dX0_makeRounds_46 hl (k := 5) rfl (nI_1 _) (by decide) rfl (fun ls hl => ?_)
          refine lv_goto (tgt := 24) hx hb dX0_makeRounds_49 (by decide) ?_
          exact ih6 (x8.1 + 1, true) M9 J _ _ _ (by omega) ⟨lv_sub hl [2, 3, 4, 1, 5, 0] rfl, rfl, by omega, ⟨h11.2.2, ch_t (c := true) (h11.2.1.elim (fun z => z.1) (fun z => absurd (z.2.trans nI_0) q12))⟩⟩ hw
set_option maxHeartbeats 4000000 in
set_option maxRecDepth 100000 in
theorem k_X0_makeNarrowings (l : Launch) (D : va_G) (ad : Nat → Nat) (cs : Nat → ClassId) (sz : Nat) (M : wM) (J : wJ) (M0 : wM) (E : Nat → aS) (V : Nat → Int32) (cnt : Nat) (tt : Nat) (n : Nat) (hp : prOK M0 cnt tt) (hn5 : n ≤ 5) (hN : AN M0 M E V) : wCv l yX0_makeNarrowings wsX0_makeNarrowings { frames := 6, cells := 0, slots := 0, locals := 151 } D 340 cSh ad cs [.ref (ad 334), .ref (ad 330), .int (nI n)] sz M J (fun u_ => u_.2 = J ∧ AN M0 u_.1 (nrR M0 cnt n E) V) := by
  refine wC_v (cc := cX0_makeNarrowings) (maxL := 5) (ret := none) (by decide) rfl (Nat.le_of_ble_eq_true rfl) ?_
  intro p e s m below meth c ls A hx hb hr hml hown hts hlocks hK hA hw hl hAe
  clear hAe
  have hl : lv_has ls 5 [(0, .ref (ad 334)), (1, .ref (ad 330)), (2, .int (nI n))] := hl
  have f32 : (Cond.fieldLink RX0 32 "RangePropagator$Program" "count" "I").before _ s = true := hts _ (by decide +kernel)
  have iX5 : ∀ w ∈ wsX50, w ∈ wsX0_makeNarrowings := by decide +kernel
  have hc16 : cnt ≤ 16 := hp.2.1
  refine lv_iconst (v := nI 0) hx hb dX0_makeNarrowings_0 (by decide) ?_
  refine lv_istore_n (lv' := [(3, .int (nI 0)), (0, .ref (ad 334)), (1, .ref (ad 330)), (2, .int (nI n))]) hx hb dX0_makeNarrowings_1 rfl hl (by decide) rfl (fun ls hl => ?_)
  refine w_loop (σ := Nat) (fun k M' J' ls => lv_has ls 5 [(0, .ref (ad 334)), (1, .ref (ad 330)), (2, .int (nI n)), (3, .int (nI k))] ∧ J' = J ∧ k ≤ n ∧ AN M0 M' (nrR M0 cnt k E) V) (fun k => n - k) (fun k M1 J1_ H locs ls hI hw ih2 => ?_) 0 ⟨lv_sub hl [1, 2, 3, 0] rfl, rfl, by omega, hN⟩ hw
  obtain ⟨hl, eJ_, hk_, hI⟩ := hI
  rw [eJ_] at hw
  clear eJ_
  refine lv_iload_n hx hb dX0_makeNarrowings_2 rfl (lv_at hl 3 rfl) ?_
  refine lv_iload_n hx hb dX0_makeNarrowings_3 rfl (lv_at hl 2 rfl) ?_
  refine lv_icmp_ge (tgt := 38) hx hb dX0_makeNarrowings_4 (by decide) (fun q3 => ?_) (fun q3 => ?_)
  · have q3n : n ≤ k := (nI_leI (by omega) (by omega)).mp q3
    exact wr_vret hx hb hr hK hw ⟨rfl, (by have e8 : k = n := (by omega); rw [← e8]; exact hI)⟩ hlocks dX0_makeNarrowings_38
  · have q3n : ¬ n ≤ k := fun z => q3 ((nI_leI (by omega) (by omega)).mpr z)
    refine lv_iconst (v := nI 0) hx hb dX0_makeNarrowings_7 (by decide) ?_
    refine lv_istore (lv' := [(4, .int (nI 0)), (0, .ref (ad 334)), (1, .ref (ad 330)), (2, .int (nI n)), (3, .int (nI k))]) hx hb dX0_makeNarrowings_8 hl (by decide) rfl (fun ls hl => ?_)
    refine w_loop (σ := Nat) (fun b9 M' J' ls => lv_has ls 5 [(0, .ref (ad 334)), (1, .ref (ad 330)), (2, .int (nI n)), (3, .int (nI k)), (4, .int (nI b9))] ∧ J' = J ∧ b9 ≤ cnt ∧ AN M0 M' (nrB M0 cnt b9 (nrR M0 cnt k E)) V) (fun b9 => cnt - b9) (fun b9 M4 J1_ H locs ls hI hw ih5 => ?_) 0 ⟨lv_sub hl [1, 2, 3, 4, 0] rfl, rfl, by omega, hI⟩ hw
    obtain ⟨hl, eJ_, hk_, hI⟩ := hI
    rw [eJ_] at hw
    clear eJ_
    refine lv_iload hx hb dX0_makeNarrowings_10 (lv_at hl 4 rfl) ?_
    refine lv_aload_n hx hb dX0_makeNarrowings_12 rfl (lv_at hl 1 rfl) ?_
    refine wr_gi hx hb hown hK hts iX5 (ci := 4) rfl 2 (by decide) f32 rfl hw 330 (by omega) cs_P rfl dX0_makeNarrowings_13 ?_
    rw [show M4 330 2 = nI cnt from ((congrFun (hI.1 330 (by unfold anC; omega)) 2).trans hp.1)]
    refine lv_icmp_ge (tgt := 32) hx hb dX0_makeNarrowings_16 (by decide) (fun q6 => ?_) (fun q6 => ?_)
    · have q6n : cnt ≤ b9 := (nI_leI (by omega) (by omega)).mp q6
      refine lv_iinc (v := nI (k + 1)) (lv' := [(3, .int (nI (k + 1))), (0, .ref (ad 334)), (1, .ref (ad 330)), (2, .int (nI n)), (4, .int (nI b9))]) hx hb dX0_makeNarrowings_32 hl (k := 3) rfl (nI_1 _) (by decide) rfl (fun ls hl => ?_)
      refine lv_goto (tgt := 2) hx hb dX0_makeNarrowings_35 (by decide) ?_
      exact ih2 (k + 1) M4 J _ _ _ (by omega) ⟨lv_sub hl [1, 2, 3, 0] rfl, rfl, by omega, (by show AN M0 _ (nrB M0 cnt cnt (nrR M0 cnt k E)) V; have e8 : b9 = cnt := (by omega); rw [e8] at hI; exact hI)⟩ hw
    · have q6n : ¬ cnt ≤ b9 := fun z => q6 ((nI_leI (by omega) (by omega)).mpr z)
      refine lv_aload_n hx hb dX0_makeNarrowings_19 rfl (lv_at hl 0 rfl) ?_
      refine lv_aload_n hx hb dX0_makeNarrowings_20 rfl (lv_at hl 1 rfl) ?_
      refine lv_iload hx hb dX0_makeNarrowings_21 (lv_at hl 4 rfl) ?_
      refine wr_cVv (k := 334) (ci := 0) (As := [.ref (ad 330), .int (nI b9)]) (rest := []) ⟨hx, hb, hml, hown, hts⟩ (cwV 2 hts gX0_makeNarrowings_X0_narrow rfl rfl rfl (by decide +kernel) ⟨Nat.le_of_ble_eq_true rfl, Nat.le_of_ble_eq_true rfl⟩) hK hA hw (k_X0_narrow l D ad cs H.size M4 J b9 M0 ((nrB M0 cnt b9 (nrR M0 cnt k E))) V cnt tt (by omega) hp hI) (by omega) cs_A rfl rfl rfl hl.1 (Nat.le_of_ble_eq_true rfl) ⟨Nat.le_of_ble_eq_true rfl, Nat.le_of_ble_eq_true rfl⟩ dX0_makeNarrowings_23 (fun M8 J9 H locs h10 hw => ?_)
      have h10J : J9 = J := h10.1
      rw [h10J] at hw h10
      refine lv_iinc (v := nI (b9 + 1)) (lv' := [(4, .int (nI (b9 + 1))), (0, .ref (ad 334)), (1, .ref (ad 330)), (2, .int (nI n)), (3, .int (nI k))]) hx hb dX0_makeNarrowings_26 hl (k := 4) rfl (nI_1 _) (by decide) rfl (fun ls hl => ?_)
      refine lv_goto (tgt := 10) hx hb dX0_makeNarrowings_29 (by decide) ?_
      exact ih5 (b9 + 1) M8 J _ _ _ (by omega) ⟨lv_sub hl [1, 2, 3, 4, 0] rfl, rfl, by omega, h10.2⟩ hw
