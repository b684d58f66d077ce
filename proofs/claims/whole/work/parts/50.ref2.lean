/-! the reference, 2: laid by wip/gen/specs16.py -/
def thI9 (M : wM) (v : Int32) (t : Nat) : Prop := ∃ a, a < t ∧ M 11 a = v
def thT (M : wM) (v : Int32) : Nat → Int32
  | 0 => nI 1
  | k + 1 => if thT M v k = 0 then nI 0 else if M 11 k = v then nI 0 else nI 1
theorem thT_0 {M : wM} {v : Int32} {k : Nat} (h : thT M v k = 0) : thT M v (k + 1) = nI 0 := by
  show (if thT M v k = 0 then nI 0 else if M 11 k = v then nI 0 else nI 1) = _
  rw [if_pos h]
theorem thT_1 {M : wM} {v : Int32} {k : Nat} (h : ¬ thT M v k = 0) (g : M 11 k = v) : thT M v (k + 1) = nI 0 := by
  show (if thT M v k = 0 then nI 0 else if M 11 k = v then nI 0 else nI 1) = _
  rw [if_neg h, if_pos g]
theorem thT_2 {M : wM} {v : Int32} {k : Nat} (h : ¬ thT M v k = 0) (g : ¬ M 11 k = v) : thT M v (k + 1) = nI 1 := by
  show (if thT M v k = 0 then nI 0 else if M 11 k = v then nI 0 else nI 1) = _
  rw [if_neg h, if_neg g]
theorem thT_i {M : wM} {v : Int32} : ∀ k, thT M v k = 0 ↔ thI9 M v k
  | 0 => ⟨fun z => absurd (show nI 1 = 0 from z) (by decide), fun ⟨a, ha, _⟩ => absurd ha (Nat.not_lt_zero a)⟩
  | k + 1 => by
    have ih := thT_i (M := M) (v := v) k
    by_cases h : thT M v k = 0
    · rw [thT_0 h]
      exact ⟨fun _ => (by obtain ⟨a, ha, hb⟩ := ih.mp h; exact ⟨a, by omega, hb⟩), fun _ => nI_0⟩
    · by_cases g : M 11 k = v
      · rw [thT_1 h g]; exact ⟨fun _ => ⟨k, by omega, g⟩, fun _ => nI_0⟩
      · rw [thT_2 h g]
        refine ⟨fun z => absurd z (by decide), fun z => ?_⟩
        obtain ⟨a, ha, hb⟩ := z
        by_cases q : a = k
        · subst q; exact absurd hb g
        · exact absurd (ih.mpr ⟨a, by omega, hb⟩) h
theorem p_at9a {M : wM} {J : wJ} {v : Int32} {t : Nat} (h : thT M v t = 0) : (thI9 M v t ∧ ((wU (wU (wU (wU M 0 0 (nI 0)) 11 t v) 0 14 (nI (t + 0))) 0 16 (nI 0)), J) = ((wU (wU (wU (wU M 0 0 (nI 0)) 11 t v) 0 14 (nI (t + 0))) 0 16 (nI 0)), J) ∧ (wU (wU (wU (wU M 0 0 (nI 0)) 11 t v) 0 14 (nI (t + 0))) 0 16 (nI 0)) 0 14 = nI (t + 0)) ∨ (¬ thI9 M v t ∧ ((wU (wU (wU (wU M 0 0 (nI 0)) 11 t v) 0 14 (nI (t + 0))) 0 16 (nI 0)), J) = ((wU (wU (wU (wU M 0 0 (nI 0)) 11 t v) 0 14 (nI (t + 1))) 0 16 (nI 0)), J) ∧ (wU (wU (wU (wU M 0 0 (nI 0)) 11 t v) 0 14 (nI (t + 0))) 0 16 (nI 0)) 0 14 = nI (t + 1)) :=
  Or.inl ⟨(thT_i t).mp h, rfl, by simp only [wU_at]; simp⟩
theorem p_at9b {M : wM} {J : wJ} {v : Int32} {t : Nat} (h : ¬ thT M v t = 0) : (thI9 M v t ∧ ((wU (wU (wU (wU M 0 0 (nI 0)) 11 t v) 0 14 (nI (t + 1))) 0 16 (nI 0)), J) = ((wU (wU (wU (wU M 0 0 (nI 0)) 11 t v) 0 14 (nI (t + 0))) 0 16 (nI 0)), J) ∧ (wU (wU (wU (wU M 0 0 (nI 0)) 11 t v) 0 14 (nI (t + 1))) 0 16 (nI 0)) 0 14 = nI (t + 0)) ∨ (¬ thI9 M v t ∧ ((wU (wU (wU (wU M 0 0 (nI 0)) 11 t v) 0 14 (nI (t + 1))) 0 16 (nI 0)), J) = ((wU (wU (wU (wU M 0 0 (nI 0)) 11 t v) 0 14 (nI (t + 1))) 0 16 (nI 0)), J) ∧ (wU (wU (wU (wU M 0 0 (nI 0)) 11 t v) 0 14 (nI (t + 1))) 0 16 (nI 0)) 0 14 = nI (t + 1)) :=
  Or.inr ⟨fun z => h ((thT_i t).mpr z), rfl, by simp only [wU_at]; simp⟩
set_option maxHeartbeats 4000000 in
set_option maxRecDepth 100000 in
theorem k_X9_input (l : Launch) (D : va_G) (ad : Nat → Nat) (cs : Nat → ClassId) (sz : Nat) (M : wM) (J : wJ) (b : Int32) (x : Int32) (lo : Int32) (up : Int32) (cnt : Nat) (hn : M 0 1 = nI cnt) (hn16 : cnt ≤ 16) (hSz : ∀ b, b < 16 → M 1 b = nI (tn (M 1 b)) ∧ tn (M 1 b) ≤ 8) : wCi l yX9_input wsX9_input { frames := 1, cells := 0, slots := 0, locals := 26 } D 23 mSh ad cs [.ref (ad 0), .int b, .int x, .int lo, .int up] sz M J (fun r_ u_ => (inB b cnt ∧ inB x 6 ∧ isRg lo up ∧ tn (M 1 (tn b)) < 8 ∧ u_ = (F_X9_append (wU M 0 0 (nI 0)) (tn b) (tn (M 1 (tn b))) (if lo = up then nI 6 else nI 7) x lo up, J) ∧ r_ = nI (tn (M 1 (tn b)) + 1)) ∨ (¬ (inB b cnt ∧ inB x 6) ∧ u_ = ((wU (wU M 0 0 (nI 0)) 0 0 (nI 1)), J) ∧ r_ = nI 0) ∨ (inB b cnt ∧ inB x 6 ∧ ¬ isRg lo up ∧ u_ = ((wU (wU M 0 0 (nI 0)) 0 0 (nI 2)), J) ∧ r_ = nI 0) ∨ (inB b cnt ∧ inB x 6 ∧ isRg lo up ∧ ¬ tn (M 1 (tn b)) < 8 ∧ u_ = ((wU (wU M 0 0 (nI 0)) 0 0 (nI 3)), J) ∧ r_ = nI 0)) := by
  refine wC_i (cc := cX9_input) (maxL := 5) (ret := (some .int)) (by decide) rfl (Nat.le_of_ble_eq_true rfl) ?_
  intro p e s m below meth c ls A hx hb hr hml hown hts hlocks hK hA hw hl hAe
  clear hAe
  have hl : lv_has ls 5 [(0, .ref (ad 0)), (1, .int b), (2, .int x), (3, .int lo), (4, .int up)] := hl
  have f87 : (Cond.fieldLink RX9 87 "RangePropagatorModel" "thrown" "I").before _ s = true := hts _ (by decide +kernel)
  have iX9 : ∀ w ∈ wsX90, w ∈ wsX9_input := by decide +kernel
  have f13 : (Cond.fieldLink RX9 13 "RangePropagatorModel" "sizes" "[I").before _ s = true := hts _ (by decide +kernel)
  refine lv_aload_n hx hb dX9_input_0 rfl (lv_at hl 0 rfl) ?_
  refine lv_iconst (v := nI 0) hx hb dX9_input_1 (by decide) ?_
  refine wr_pi hx hb hown hK hts iX9 tyX9_ok nmX9 (ci := 8) rfl 0 (by decide) f87 rfl rfl hw 0 (by omega) rfl rfl rfl rfl dX9_input_2 (fun H locs hw => ?_)
  refine lv_aload_n hx hb dX9_input_5 rfl (lv_at hl 0 rfl) ?_
  refine lv_iload_n hx hb dX9_input_6 rfl (lv_at hl 1 rfl) ?_
  refine wr_cVi (k := 0) (ci := 8) (As := [.int b]) (rest := []) ⟨hx, hb, hml, hown, hts⟩ (cwV 1 hts gX9_input_X9_isBlock rfl rfl rfl (by decide +kernel) ⟨Nat.le_of_ble_eq_true rfl, Nat.le_of_ble_eq_true rfl⟩) hK hA hw (k_X9_isBlock l D ad cs H.size (wU M 0 0 (nI 0)) J b cnt (by simp only [wU_at]; simpa using hn) hn16) (by omega) rfl rfl rfl rfl hl.1 (Nat.le_of_ble_eq_true rfl) ⟨Nat.le_of_ble_eq_true rfl, Nat.le_of_ble_eq_true rfl⟩ dX9_input_7 (fun r1 M2 J3 H locs h4 hw => ?_)
  obtain ⟨h4u, h4z, h4i⟩ := h4
  cases h4u
  refine lv_if_eq (tgt := 20) hx hb dX9_input_10 (by decide) (fun q5 => ?_) (fun q5 => ?_)
  · have b_no := (fun z => (h4i.mpr z) q5)
    refine lv_aload_n hx hb dX9_input_20 rfl (lv_at hl 0 rfl) ?_
    refine lv_iconst (v := nI 1) hx hb dX9_input_21 (by decide) ?_
    refine wr_cVi (k := 0) (ci := 8) (As := [.int (nI 1)]) (rest := []) ⟨hx, hb, hml, hown, hts⟩ (cwV 1 hts gX9_input_X9_fail rfl rfl rfl (by decide +kernel) ⟨Nat.le_of_ble_eq_true rfl, Nat.le_of_ble_eq_true rfl⟩) hK hA hw (k_X9_fail l D ad cs H.size (wU M 0 0 (nI 0)) J (nI 1) ) (by omega) rfl rfl rfl rfl hl.1 (Nat.le_of_ble_eq_true rfl) ⟨Nat.le_of_ble_eq_true rfl, Nat.le_of_ble_eq_true rfl⟩ dX9_input_22 (fun r6 M7 J8 H locs h9 hw => ?_)
    obtain ⟨h9, rfl⟩ := h9
    cases h9
    exact wr_iret hx hb hr rfl hK hw (Or.inr (Or.inl ⟨fun z => b_no z.1, rfl, rfl⟩)) hlocks dX9_input_25
  · obtain ⟨b_n, b_h, rfl⟩ := h4i.mp q5
    refine lv_iload_n hx hb dX9_input_13 rfl (lv_at hl 2 rfl) ?_
    refine wr_cSi (As := [.int x]) (rest := []) ⟨hx, hb, hml, hown, hts⟩ (va_cwS 1 hts gX9_input_X9_isVariable rfl rfl rfl (by decide +kernel) ⟨Nat.le_of_ble_eq_true rfl, Nat.le_of_ble_eq_true rfl⟩) hK hA hw (k_X9_isVariable l D ad cs H.size (wU M 0 0 (nI 0)) J x ) rfl rfl hl.1 (Nat.le_of_ble_eq_true rfl) ⟨Nat.le_of_ble_eq_true rfl, Nat.le_of_ble_eq_true rfl⟩ dX9_input_14 (fun r10 M11 J12 H locs h13 hw => ?_)
    obtain ⟨h13u, h13z, h13i⟩ := h13
    cases h13u
    refine lv_if_ne (tgt := 26) hx hb dX9_input_17 (by decide) (fun q14 => ?_) (fun q14 => ?_)
    · obtain ⟨x_n, x_h, rfl⟩ := h13i.mp q14
      refine lv_iload_n hx hb dX9_input_26 rfl (lv_at hl 3 rfl) ?_
      refine lv_iload hx hb dX9_input_27 (lv_at hl 4 rfl) ?_
      refine wr_cSi (As := [.int lo, .int up]) (rest := []) ⟨hx, hb, hml, hown, hts⟩ (va_cwS 2 hts gX9_input_X9_isRange rfl rfl rfl (by decide +kernel) ⟨Nat.le_of_ble_eq_true rfl, Nat.le_of_ble_eq_true rfl⟩) hK hA hw (k_X9_isRange l D ad cs H.size (wU M 0 0 (nI 0)) J lo up ) rfl rfl hl.1 (Nat.le_of_ble_eq_true rfl) ⟨Nat.le_of_ble_eq_true rfl, Nat.le_of_ble_eq_true rfl⟩ dX9_input_29 (fun r15 M16 J17 H locs h18 hw => ?_)
      obtain ⟨h18u, h18z, h18i⟩ := h18
      cases h18u
      refine lv_if_ne (tgt := 41) hx hb dX9_input_32 (by decide) (fun q19 => ?_) (fun q19 => ?_)
      · have rg_y := h18i.mp q19
        refine lv_aload_n hx hb dX9_input_41 rfl (lv_at hl 0 rfl) ?_
        refine wr_gr hx hb hown hK hts iX9 (ci := 8) rfl 2 (by decide) f13 rfl hw 0 (by omega) 1 rfl rfl dX9_input_42 ?_
        refine lv_iload_n hx hb dX9_input_45 rfl (lv_at hl 1 rfl) ?_
        refine wr_ildN hx hb hK hw 1 (by omega) rfl (by decide) b_n rfl (by omega) dX9_input_46 ?_
        have hS8 : tn (M 1 b_n) ≤ 8 := (hSz b_n (by omega)).2
        rw [show (wU M 0 0 (nI 0)) 1 b_n = nI (tn (M 1 b_n)) from ((congrFun (wU_ne (by decide)) b_n).trans (hSz b_n (by omega)).1)]
        refine lv_bipush (v := nI 8) hx hb dX9_input_47 (by decide) ?_
        refine lv_icmp_ne (tgt := 60) hx hb dX9_input_49 (by decide) (fun q20 => ?_) (fun q20 => ?_)
        · have q20n : ¬ (tn (M 1 b_n)) = 8 := fun z => q20 ((nI_eq (by omega) (by omega)).mpr z)
          refine lv_aload_n hx hb dX9_input_60 rfl (lv_at hl 0 rfl) ?_
          refine lv_iload_n hx hb dX9_input_61 rfl (lv_at hl 1 rfl) ?_
          refine lv_iload_n hx hb dX9_input_62 rfl (lv_at hl 3 rfl) ?_
          refine lv_iload hx hb dX9_input_63 (lv_at hl 4 rfl) ?_
          refine lv_icmp_ne (tgt := 73) hx hb dX9_input_65 (by decide) (fun q21 => ?_) (fun q21 => ?_)
          · skip
            refine lv_bipush (v := nI 7) hx hb dX9_input_73 (by decide) ?_
            refine lv_iload_n hx hb dX9_input_75 rfl (lv_at hl 2 rfl) ?_
            refine lv_iload_n hx hb dX9_input_76 rfl (lv_at hl 3 rfl) ?_
            refine lv_iload hx hb dX9_input_77 (lv_at hl 4 rfl) ?_
            refine wr_cVi (k := 0) (ci := 8) (As := [.int (nI b_n), .int (nI 7), .int (nI x_n), .int lo, .int up]) (rest := []) ⟨hx, hb, hml, hown, hts⟩ (cwV 5 hts gX9_input_X9_append rfl rfl rfl (by decide +kernel) ⟨Nat.le_of_ble_eq_true rfl, Nat.le_of_ble_eq_true rfl⟩) hK hA hw (k_X9_append l D ad cs H.size (wU M 0 0 (nI 0)) J b_n (tn (M 1 b_n)) (nI 7) (nI x_n) lo up (by omega) ((congrFun (wU_ne (by decide)) b_n).trans (hSz b_n (by omega)).1) (by have := (hSz b_n (by omega)).2; omega)) (by omega) rfl rfl rfl rfl hl.1 (Nat.le_of_ble_eq_true rfl) ⟨Nat.le_of_ble_eq_true rfl, Nat.le_of_ble_eq_true rfl⟩ dX9_input_79 (fun r22 M23 J24 H locs h25 hw => ?_)
            obtain ⟨h25, rfl⟩ := h25
            cases h25
            exact wr_iret hx hb hr rfl hK hw (Or.inl ⟨⟨b_n, b_h, rfl⟩, ⟨x_n, x_h, rfl⟩, rg_y, (by rw [tn_nI (by omega)]; have := (hSz b_n (by omega)).2; omega), (by rw [tn_nI (by omega), if_neg q21]), (by rw [tn_nI (by omega)]; unfold E_X9_append; simp only [wU_at]; simp)⟩) hlocks dX9_input_82
          · skip
            refine lv_bipush (v := nI 6) hx hb dX9_input_68 (by decide) ?_
            refine lv_goto (tgt := 75) hx hb dX9_input_70 (by decide) ?_
            refine lv_iload_n hx hb dX9_input_75 rfl (lv_at hl 2 rfl) ?_
            refine lv_iload_n hx hb dX9_input_76 rfl (lv_at hl 3 rfl) ?_
            refine lv_iload hx hb dX9_input_77 (lv_at hl 4 rfl) ?_
            refine wr_cVi (k := 0) (ci := 8) (As := [.int (nI b_n), .int (nI 6), .int (nI x_n), .int lo, .int up]) (rest := []) ⟨hx, hb, hml, hown, hts⟩ (cwV 5 hts gX9_input_X9_append rfl rfl rfl (by decide +kernel) ⟨Nat.le_of_ble_eq_true rfl, Nat.le_of_ble_eq_true rfl⟩) hK hA hw (k_X9_append l D ad cs H.size (wU M 0 0 (nI 0)) J b_n (tn (M 1 b_n)) (nI 6) (nI x_n) lo up (by omega) ((congrFun (wU_ne (by decide)) b_n).trans (hSz b_n (by omega)).1) (by have := (hSz b_n (by omega)).2; omega)) (by omega) rfl rfl rfl rfl hl.1 (Nat.le_of_ble_eq_true rfl) ⟨Nat.le_of_ble_eq_true rfl, Nat.le_of_ble_eq_true rfl⟩ dX9_input_79 (fun r26 M27 J28 H locs h29 hw => ?_)
            obtain ⟨h29, rfl⟩ := h29
            cases h29
            exact wr_iret hx hb hr rfl hK hw (Or.inl ⟨⟨b_n, b_h, rfl⟩, ⟨x_n, x_h, rfl⟩, rg_y, (by rw [tn_nI (by omega)]; have := (hSz b_n (by omega)).2; omega), (by rw [tn_nI (by omega), if_pos q21]), (by rw [tn_nI (by omega)]; unfold E_X9_append; simp only [wU_at]; simp)⟩) hlocks dX9_input_82
        · have q20n : (tn (M 1 b_n)) = 8 := (nI_eq (by omega) (by omega)).mp q20
          refine lv_aload_n hx hb dX9_input_52 rfl (lv_at hl 0 rfl) ?_
          refine lv_iconst (v := nI 3) hx hb dX9_input_53 (by decide) ?_
          refine wr_cVi (k := 0) (ci := 8) (As := [.int (nI 3)]) (rest := []) ⟨hx, hb, hml, hown, hts⟩ (cwV 1 hts gX9_input_X9_fail rfl rfl rfl (by decide +kernel) ⟨Nat.le_of_ble_eq_true rfl, Nat.le_of_ble_eq_true rfl⟩) hK hA hw (k_X9_fail l D ad cs H.size (wU M 0 0 (nI 0)) J (nI 3) ) (by omega) rfl rfl rfl rfl hl.1 (Nat.le_of_ble_eq_true rfl) ⟨Nat.le_of_ble_eq_true rfl, Nat.le_of_ble_eq_true rfl⟩ dX9_input_54 (fun r30 M31 J32 H locs h33 hw => ?_)
          obtain ⟨h33, rfl⟩ := h33
          cases h33
          refine lv_goto (tgt := 82) hx hb dX9_input_57 (by decide) ?_
          exact wr_iret hx hb hr rfl hK hw (Or.inr (Or.inr (Or.inr ⟨⟨b_n, b_h, rfl⟩, ⟨x_n, x_h, rfl⟩, rg_y, (by rw [tn_nI (by omega)]; omega), rfl, rfl⟩))) hlocks dX9_input_82
      · have rg_no := (fun z => (h18i.mpr z) q19)
        refine lv_aload_n hx hb dX9_input_35 rfl (lv_at hl 0 rfl) ?_
        refine lv_iconst (v := nI 2) hx hb dX9_input_36 (by decide) ?_
        refine wr_cVi (k := 0) (ci := 8) (As := [.int (nI 2)]) (rest := []) ⟨hx, hb, hml, hown, hts⟩ (cwV 1 hts gX9_input_X9_fail rfl rfl rfl (by decide +kernel) ⟨Nat.le_of_ble_eq_true rfl, Nat.le_of_ble_eq_true rfl⟩) hK hA hw (k_X9_fail l D ad cs H.size (wU M 0 0 (nI 0)) J (nI 2) ) (by omega) rfl rfl rfl rfl hl.1 (Nat.le_of_ble_eq_true rfl) ⟨Nat.le_of_ble_eq_true rfl, Nat.le_of_ble_eq_true rfl⟩ dX9_input_37 (fun r34 M35 J36 H locs h37 hw => ?_)
        obtain ⟨h37, rfl⟩ := h37
        cases h37
        exact wr_iret hx hb hr rfl hK hw (Or.inr (Or.inr (Or.inl ⟨⟨b_n, b_h, rfl⟩, ⟨x_n, x_h, rfl⟩, rg_no, rfl, rfl⟩))) hlocks dX9_input_40
    · have x_no := (fun z => (h13i.mpr z) q14)
      refine lv_aload_n hx hb dX9_input_20 rfl (lv_at hl 0 rfl) ?_
      refine lv_iconst (v := nI 1) hx hb dX9_input_21 (by decide) ?_
      refine wr_cVi (k := 0) (ci := 8) (As := [.int (nI 1)]) (rest := []) ⟨hx, hb, hml, hown, hts⟩ (cwV 1 hts gX9_input_X9_fail rfl rfl rfl (by decide +kernel) ⟨Nat.le_of_ble_eq_true rfl, Nat.le_of_ble_eq_true rfl⟩) hK hA hw (k_X9_fail l D ad cs H.size (wU M 0 0 (nI 0)) J (nI 1) ) (by omega) rfl rfl rfl rfl hl.1 (Nat.le_of_ble_eq_true rfl) ⟨Nat.le_of_ble_eq_true rfl, Nat.le_of_ble_eq_true rfl⟩ dX9_input_22 (fun r38 M39 J40 H locs h41 hw => ?_)
      obtain ⟨h41, rfl⟩ := h41
      cases h41
      exact wr_iret hx hb hr rfl hK hw (Or.inr (Or.inl ⟨fun z => x_no z.2, rfl, rfl⟩)) hlocks dX9_input_25
set_option maxHeartbeats 4000000 in
set_option maxRecDepth 100000 in
theorem k_X9_compute (l : Launch) (D : va_G) (ad : Nat → Nat) (cs : Nat → ClassId) (sz : Nat) (M : wM) (J : wJ) (b : Int32) (k : Int32) (x : Int32) (y : Int32) (z : Int32) (cnt : Nat) (hn : M 0 1 = nI cnt) (hn16 : cnt ≤ 16) (hSz : ∀ b, b < 16 → M 1 b = nI (tn (M 1 b)) ∧ tn (M 1 b) ≤ 8) : wCi l yX9_compute wsX9_compute { frames := 1, cells := 0, slots := 0, locals := 26 } D 23 mSh ad cs [.ref (ad 0), .int b, .int k, .int x, .int y, .int z] sz M J (fun r_ u_ => ((inB b cnt ∧ inB x 6 ∧ inB y 6 ∧ inB z 6) ∧ inB k 6 ∧ tn (M 1 (tn b)) < 8 ∧ u_ = (F_X9_append (wU M 0 0 (nI 0)) (tn b) (tn (M 1 (tn b))) k x y z, J) ∧ r_ = nI (tn (M 1 (tn b)) + 1)) ∨ (¬ (inB b cnt ∧ inB x 6 ∧ inB y 6 ∧ inB z 6) ∧ u_ = ((wU (wU M 0 0 (nI 0)) 0 0 (nI 1)), J) ∧ r_ = nI 0) ∨ ((inB b cnt ∧ inB x 6 ∧ inB y 6 ∧ inB z 6) ∧ ¬ inB k 6 ∧ u_ = ((wU (wU M 0 0 (nI 0)) 0 0 (nI 2)), J) ∧ r_ = nI 0) ∨ ((inB b cnt ∧ inB x 6 ∧ inB y 6 ∧ inB z 6) ∧ inB k 6 ∧ ¬ tn (M 1 (tn b)) < 8 ∧ u_ = ((wU (wU M 0 0 (nI 0)) 0 0 (nI 3)), J) ∧ r_ = nI 0)) := by
  refine wC_i (cc := cX9_compute) (maxL := 6) (ret := (some .int)) (by decide) rfl (Nat.le_of_ble_eq_true rfl) ?_
  intro p e s m below meth c ls A hx hb hr hml hown hts hlocks hK hA hw hl hAe
  clear hAe
  have hl : lv_has ls 6 [(0, .ref (ad 0)), (1, .int b), (2, .int k), (3, .int x), (4, .int y), (5, .int z)] := hl
  have f87 : (Cond.fieldLink RX9 87 "RangePropagatorModel" "thrown" "I").before _ s = true := hts _ (by decide +kernel)
  have iX9 : ∀ w ∈ wsX90, w ∈ wsX9_compute := by decide +kernel
  have f13 : (Cond.fieldLink RX9 13 "RangePropagatorModel" "sizes" "[I").before _ s = true := hts _ (by decide +kernel)
  refine lv_aload_n hx hb dX9_compute_0 rfl (lv_at hl 0 rfl) ?_
  refine lv_iconst (v := nI 0) hx hb dX9_compute_1 (by decide) ?_
  refine wr_pi hx hb hown hK hts iX9 tyX9_ok nmX9 (ci := 8) rfl 0 (by decide) f87 rfl rfl hw 0 (by omega) rfl rfl rfl rfl dX9_compute_2 (fun H locs hw => ?_)
  refine lv_aload_n hx hb dX9_compute_5 rfl (lv_at hl 0 rfl) ?_
  refine lv_iload_n hx hb dX9_compute_6 rfl (lv_at hl 1 rfl) ?_
  refine wr_cVi (k := 0) (ci := 8) (As := [.int b]) (rest := []) ⟨hx, hb, hml, hown, hts⟩ (cwV 1 hts gX9_compute_X9_isBlock rfl rfl rfl (by decide +kernel) ⟨Nat.le_of_ble_eq_true rfl, Nat.le_of_ble_eq_true rfl⟩) hK hA hw (k_X9_isBlock l D ad cs H.size (wU M 0 0 (nI 0)) J b cnt (by simp only [wU_at]; simpa using hn) hn16) (by omega) rfl rfl rfl rfl hl.1 (Nat.le_of_ble_eq_true rfl) ⟨Nat.le_of_ble_eq_true rfl, Nat.le_of_ble_eq_true rfl⟩ dX9_compute_7 (fun r1 M2 J3 H locs h4 hw => ?_)
  obtain ⟨h4u, h4z, h4i⟩ := h4
  cases h4u
  refine lv_if_eq (tgt := 36) hx hb dX9_compute_10 (by decide) (fun q5 => ?_) (fun q5 => ?_)
  · have b_no := (fun z => (h4i.mpr z) q5)
    refine lv_aload_n hx hb dX9_compute_36 rfl (lv_at hl 0 rfl) ?_
    refine lv_iconst (v := nI 1) hx hb dX9_compute_37 (by decide) ?_
    refine wr_cVi (k := 0) (ci := 8) (As := [.int (nI 1)]) (rest := []) ⟨hx, hb, hml, hown, hts⟩ (cwV 1 hts gX9_compute_X9_fail rfl rfl rfl (by decide +kernel) ⟨Nat.le_of_ble_eq_true rfl, Nat.le_of_ble_eq_true rfl⟩) hK hA hw (k_X9_fail l D ad cs H.size (wU M 0 0 (nI 0)) J (nI 1) ) (by omega) rfl rfl rfl rfl hl.1 (Nat.le_of_ble_eq_true rfl) ⟨Nat.le_of_ble_eq_true rfl, Nat.le_of_ble_eq_true rfl⟩ dX9_compute_38 (fun r6 M7 J8 H locs h9 hw => ?_)
    obtain ⟨h9, rfl⟩ := h9
    cases h9
    exact wr_iret hx hb hr rfl hK hw (Or.inr (Or.inl ⟨fun z => b_no z.1, rfl, rfl⟩)) hlocks dX9_compute_41
  · obtain ⟨b_n, b_h, rfl⟩ := h4i.mp q5
    refine lv_iload_n hx hb dX9_compute_13 rfl (lv_at hl 3 rfl) ?_
    refine wr_cSi (As := [.int x]) (rest := []) ⟨hx, hb, hml, hown, hts⟩ (va_cwS 1 hts gX9_compute_X9_isVariable rfl rfl rfl (by decide +kernel) ⟨Nat.le_of_ble_eq_true rfl, Nat.le_of_ble_eq_true rfl⟩) hK hA hw (k_X9_isVariable l D ad cs H.size (wU M 0 0 (nI 0)) J x ) rfl rfl hl.1 (Nat.le_of_ble_eq_true rfl) ⟨Nat.le_of_ble_eq_true rfl, Nat.le_of_ble_eq_true rfl⟩ dX9_compute_14 (fun r10 M11 J12 H locs h13 hw => ?_)
    obtain ⟨h13u, h13z, h13i⟩ := h13
    cases h13u
    refine lv_if_eq (tgt := 36) hx hb dX9_compute_17 (by decide) (fun q14 => ?_) (fun q14 => ?_)
    · have x_no := (fun z => (h13i.mpr z) q14)
      refine lv_aload_n hx hb dX9_compute_36 rfl (lv_at hl 0 rfl) ?_
      refine lv_iconst (v := nI 1) hx hb dX9_compute_37 (by decide) ?_
      refine wr_cVi (k := 0) (ci := 8) (As := [.int (nI 1)]) (rest := []) ⟨hx, hb, hml, hown, hts⟩ (cwV 1 hts gX9_compute_X9_fail rfl rfl rfl (by decide +kernel) ⟨Nat.le_of_ble_eq_true rfl, Nat.le_of_ble_eq_true rfl⟩) hK hA hw (k_X9_fail l D ad cs H.size (wU M 0 0 (nI 0)) J (nI 1) ) (by omega) rfl rfl rfl rfl hl.1 (Nat.le_of_ble_eq_true rfl) ⟨Nat.le_of_ble_eq_true rfl, Nat.le_of_ble_eq_true rfl⟩ dX9_compute_38 (fun r15 M16 J17 H locs h18 hw => ?_)
      obtain ⟨h18, rfl⟩ := h18
      cases h18
      exact wr_iret hx hb hr rfl hK hw (Or.inr (Or.inl ⟨fun z => x_no z.2.1, rfl, rfl⟩)) hlocks dX9_compute_41
    · obtain ⟨x_n, x_h, rfl⟩ := h13i.mp q14
      refine lv_iload hx hb dX9_compute_20 (lv_at hl 4 rfl) ?_
      refine wr_cSi (As := [.int y]) (rest := []) ⟨hx, hb, hml, hown, hts⟩ (va_cwS 1 hts gX9_compute_X9_isVariable rfl rfl rfl (by decide +kernel) ⟨Nat.le_of_ble_eq_true rfl, Nat.le_of_ble_eq_true rfl⟩) hK hA hw (k_X9_isVariable l D ad cs H.size (wU M 0 0 (nI 0)) J y ) rfl rfl hl.1 (Nat.le_of_ble_eq_true rfl) ⟨Nat.le_of_ble_eq_true rfl, Nat.le_of_ble_eq_true rfl⟩ dX9_compute_22 (fun r19 M20 J21 H locs h22 hw => ?_)
      obtain ⟨h22u, h22z, h22i⟩ := h22
      cases h22u
      refine lv_if_eq (tgt := 36) hx hb dX9_compute_25 (by decide) (fun q23 => ?_) (fun q23 => ?_)
      · have y_no := (fun z => (h22i.mpr z) q23)
        refine lv_aload_n hx hb dX9_compute_36 rfl (lv_at hl 0 rfl) ?_
        refine lv_iconst (v := nI 1) hx hb dX9_compute_37 (by decide) ?_
        refine wr_cVi (k := 0) (ci := 8) (As := [.int (nI 1)]) (rest := []) ⟨hx, hb, hml, hown, hts⟩ (cwV 1 hts gX9_compute_X9_fail rfl rfl rfl (by decide +kernel) ⟨Nat.le_of_ble_eq_true rfl, Nat.le_of_ble_eq_true rfl⟩) hK hA hw (k_X9_fail l D ad cs H.size (wU M 0 0 (nI 0)) J (nI 1) ) (by omega) rfl rfl rfl rfl hl.1 (Nat.le_of_ble_eq_true rfl) ⟨Nat.le_of_ble_eq_true rfl, Nat.le_of_ble_eq_true rfl⟩ dX9_compute_38 (fun r24 M25 J26 H locs h27 hw => ?_)
        obtain ⟨h27, rfl⟩ := h27
        cases h27
        exact wr_iret hx hb hr rfl hK hw (Or.inr (Or.inl ⟨fun z => y_no z.2.2.1, rfl, rfl⟩)) hlocks dX9_compute_41
      · obtain ⟨y_n, y_h, rfl⟩ := h22i.mp q23
        refine lv_iload hx hb dX9_compute_28 (lv_at hl 5 rfl) ?_
        refine wr_cSi (As := [.int z]) (rest := []) ⟨hx, hb, hml, hown, hts⟩ (va_cwS 1 hts gX9_compute_X9_isVariable rfl rfl rfl (by decide +kernel) ⟨Nat.le_of_ble_eq_true rfl, Nat.le_of_ble_eq_true rfl⟩) hK hA hw (k_X9_isVariable l D ad cs H.size (wU M 0 0 (nI 0)) J z ) rfl rfl hl.1 (Nat.le_of_ble_eq_true rfl) ⟨Nat.le_of_ble_eq_true rfl, Nat.le_of_ble_eq_true rfl⟩ dX9_compute_30 (fun r28 M29 J30 H locs h31 hw => ?_)
        obtain ⟨h31u, h31z, h31i⟩ := h31
        cases h31u
        refine lv_if_ne (tgt := 42) hx hb dX9_compute_33 (by decide) (fun q32 => ?_) (fun q32 => ?_)
        · obtain ⟨z_n, z_h, rfl⟩ := h31i.mp q32
          refine lv_iload_n hx hb dX9_compute_42 rfl (lv_at hl 2 rfl) ?_
          refine lv_if_lt (tgt := 51) hx hb dX9_compute_43 (by decide) (fun q33 => ?_) (fun q33 => ?_)
          · skip
            refine lv_aload_n hx hb dX9_compute_51 rfl (lv_at hl 0 rfl) ?_
            refine lv_iconst (v := nI 2) hx hb dX9_compute_52 (by decide) ?_
            refine wr_cVi (k := 0) (ci := 8) (As := [.int (nI 2)]) (rest := []) ⟨hx, hb, hml, hown, hts⟩ (cwV 1 hts gX9_compute_X9_fail rfl rfl rfl (by decide +kernel) ⟨Nat.le_of_ble_eq_true rfl, Nat.le_of_ble_eq_true rfl⟩) hK hA hw (k_X9_fail l D ad cs H.size (wU M 0 0 (nI 0)) J (nI 2) ) (by omega) rfl rfl rfl rfl hl.1 (Nat.le_of_ble_eq_true rfl) ⟨Nat.le_of_ble_eq_true rfl, Nat.le_of_ble_eq_true rfl⟩ dX9_compute_53 (fun r34 M35 J36 H locs h37 hw => ?_)
            obtain ⟨h37, rfl⟩ := h37
            cases h37
            exact wr_iret hx hb hr rfl hK hw (Or.inr (Or.inr (Or.inl ⟨⟨⟨b_n, b_h, rfl⟩, ⟨x_n, x_h, rfl⟩, ⟨y_n, y_h, rfl⟩, ⟨z_n, z_h, rfl⟩⟩, nB_1 q33 (by decide), rfl, rfl⟩))) hlocks dX9_compute_56
          · skip
            refine lv_iload_n hx hb dX9_compute_46 rfl (lv_at hl 2 rfl) ?_
            refine lv_iconst (v := nI 5) hx hb dX9_compute_47 (by decide) ?_
            refine lv_icmp_le (tgt := 57) hx hb dX9_compute_48 (by decide) (fun q38 => ?_) (fun q38 => ?_)
            · skip
              refine lv_aload_n hx hb dX9_compute_57 rfl (lv_at hl 0 rfl) ?_
              refine wr_gr hx hb hown hK hts iX9 (ci := 8) rfl 2 (by decide) f13 rfl hw 0 (by omega) 1 rfl rfl dX9_compute_58 ?_
              refine lv_iload_n hx hb dX9_compute_61 rfl (lv_at hl 1 rfl) ?_
              refine wr_ildN hx hb hK hw 1 (by omega) rfl (by decide) b_n rfl (by omega) dX9_compute_62 ?_
              have hS8 : tn (M 1 b_n) ≤ 8 := (hSz b_n (by omega)).2
              rw [show (wU M 0 0 (nI 0)) 1 b_n = nI (tn (M 1 b_n)) from ((congrFun (wU_ne (by decide)) b_n).trans (hSz b_n (by omega)).1)]
              refine lv_bipush (v := nI 8) hx hb dX9_compute_63 (by decide) ?_
              refine lv_icmp_ne (tgt := 76) hx hb dX9_compute_65 (by decide) (fun q39 => ?_) (fun q39 => ?_)
              · have q39n : ¬ (tn (M 1 b_n)) = 8 := fun z => q39 ((nI_eq (by omega) (by omega)).mpr z)
                refine lv_aload_n hx hb dX9_compute_76 rfl (lv_at hl 0 rfl) ?_
                refine lv_iload_n hx hb dX9_compute_77 rfl (lv_at hl 1 rfl) ?_
                refine lv_iload_n hx hb dX9_compute_78 rfl (lv_at hl 2 rfl) ?_
                refine lv_iload_n hx hb dX9_compute_79 rfl (lv_at hl 3 rfl) ?_
                refine lv_iload hx hb dX9_compute_80 (lv_at hl 4 rfl) ?_
                refine lv_iload hx hb dX9_compute_82 (lv_at hl 5 rfl) ?_
                refine wr_cVi (k := 0) (ci := 8) (As := [.int (nI b_n), .int k, .int (nI x_n), .int (nI y_n), .int (nI z_n)]) (rest := []) ⟨hx, hb, hml, hown, hts⟩ (cwV 5 hts gX9_compute_X9_append rfl rfl rfl (by decide +kernel) ⟨Nat.le_of_ble_eq_true rfl, Nat.le_of_ble_eq_true rfl⟩) hK hA hw (k_X9_append l D ad cs H.size (wU M 0 0 (nI 0)) J b_n (tn (M 1 b_n)) k (nI x_n) (nI y_n) (nI z_n) (by omega) ((congrFun (wU_ne (by decide)) b_n).trans (hSz b_n (by omega)).1) (by have := (hSz b_n (by omega)).2; omega)) (by omega) rfl rfl rfl rfl hl.1 (Nat.le_of_ble_eq_true rfl) ⟨Nat.le_of_ble_eq_true rfl, Nat.le_of_ble_eq_true rfl⟩ dX9_compute_84 (fun r40 M41 J42 H locs h43 hw => ?_)
                obtain ⟨h43, rfl⟩ := h43
                cases h43
                exact wr_iret hx hb hr rfl hK hw (Or.inl ⟨⟨⟨b_n, b_h, rfl⟩, ⟨x_n, x_h, rfl⟩, ⟨y_n, y_h, rfl⟩, ⟨z_n, z_h, rfl⟩⟩, inB_le q33 q38 (by decide), (by rw [tn_nI (by omega)]; have := (hSz b_n (by omega)).2; omega), (by rw [tn_nI (by omega)]), (by rw [tn_nI (by omega)]; unfold E_X9_append; simp only [wU_at]; simp)⟩) hlocks dX9_compute_87
              · have q39n : (tn (M 1 b_n)) = 8 := (nI_eq (by omega) (by omega)).mp q39
                refine lv_aload_n hx hb dX9_compute_68 rfl (lv_at hl 0 rfl) ?_
                refine lv_iconst (v := nI 3) hx hb dX9_compute_69 (by decide) ?_
                refine wr_cVi (k := 0) (ci := 8) (As := [.int (nI 3)]) (rest := []) ⟨hx, hb, hml, hown, hts⟩ (cwV 1 hts gX9_compute_X9_fail rfl rfl rfl (by decide +kernel) ⟨Nat.le_of_ble_eq_true rfl, Nat.le_of_ble_eq_true rfl⟩) hK hA hw (k_X9_fail l D ad cs H.size (wU M 0 0 (nI 0)) J (nI 3) ) (by omega) rfl rfl rfl rfl hl.1 (Nat.le_of_ble_eq_true rfl) ⟨Nat.le_of_ble_eq_true rfl, Nat.le_of_ble_eq_true rfl⟩ dX9_compute_70 (fun r44 M45 J46 H locs h47 hw => ?_)
                obtain ⟨h47, rfl⟩ := h47
                cases h47
                refine lv_goto (tgt := 87) hx hb dX9_compute_73 (by decide) ?_
                exact wr_iret hx hb hr rfl hK hw (Or.inr (Or.inr (Or.inr ⟨⟨⟨b_n, b_h, rfl⟩, ⟨x_n, x_h, rfl⟩, ⟨y_n, y_h, rfl⟩, ⟨z_n, z_h, rfl⟩⟩, inB_le q33 q38 (by decide), (by rw [tn_nI (by omega)]; omega), rfl, rfl⟩))) hlocks dX9_compute_87
            · skip
              refine lv_aload_n hx hb dX9_compute_51 rfl (lv_at hl 0 rfl) ?_
              refine lv_iconst (v := nI 2) hx hb dX9_compute_52 (by decide) ?_
              refine wr_cVi (k := 0) (ci := 8) (As := [.int (nI 2)]) (rest := []) ⟨hx, hb, hml, hown, hts⟩ (cwV 1 hts gX9_compute_X9_fail rfl rfl rfl (by decide +kernel) ⟨Nat.le_of_ble_eq_true rfl, Nat.le_of_ble_eq_true rfl⟩) hK hA hw (k_X9_fail l D ad cs H.size (wU M 0 0 (nI 0)) J (nI 2) ) (by omega) rfl rfl rfl rfl hl.1 (Nat.le_of_ble_eq_true rfl) ⟨Nat.le_of_ble_eq_true rfl, Nat.le_of_ble_eq_true rfl⟩ dX9_compute_53 (fun r48 M49 J50 H locs h51 hw => ?_)
              obtain ⟨h51, rfl⟩ := h51
              cases h51
              exact wr_iret hx hb hr rfl hK hw (Or.inr (Or.inr (Or.inl ⟨⟨⟨b_n, b_h, rfl⟩, ⟨x_n, x_h, rfl⟩, ⟨y_n, y_h, rfl⟩, ⟨z_n, z_h, rfl⟩⟩, nB_3 q38 (by decide), rfl, rfl⟩))) hlocks dX9_compute_56
        · have z_no := (fun z => (h31i.mpr z) q32)
          refine lv_aload_n hx hb dX9_compute_36 rfl (lv_at hl 0 rfl) ?_
          refine lv_iconst (v := nI 1) hx hb dX9_compute_37 (by decide) ?_
          refine wr_cVi (k := 0) (ci := 8) (As := [.int (nI 1)]) (rest := []) ⟨hx, hb, hml, hown, hts⟩ (cwV 1 hts gX9_compute_X9_fail rfl rfl rfl (by decide +kernel) ⟨Nat.le_of_ble_eq_true rfl, Nat.le_of_ble_eq_true rfl⟩) hK hA hw (k_X9_fail l D ad cs H.size (wU M 0 0 (nI 0)) J (nI 1) ) (by omega) rfl rfl rfl rfl hl.1 (Nat.le_of_ble_eq_true rfl) ⟨Nat.le_of_ble_eq_true rfl, Nat.le_of_ble_eq_true rfl⟩ dX9_compute_38 (fun r52 M53 J54 H locs h55 hw => ?_)
          obtain ⟨h55, rfl⟩ := h55
          cases h55
          exact wr_iret hx hb hr rfl hK hw (Or.inr (Or.inl ⟨fun z => z_no z.2.2.2, rfl, rfl⟩)) hlocks dX9_compute_41
set_option maxHeartbeats 4000000 in
set_option maxRecDepth 100000 in
theorem k_X9_jump (l : Launch) (D : va_G) (ad : Nat → Nat) (cs : Nat → ClassId) (sz : Nat) (M : wM) (J : wJ) (b : Int32) (a : Int32) (cnt : Nat) (hn : M 0 1 = nI cnt) (hn16 : cnt ≤ 16) : wCi l yX9_jump wsX9_jump { frames := 1, cells := 0, slots := 0, locals := 25 } D 23 mSh ad cs [.ref (ad 0), .int b, .int a] sz M J (fun r_ u_ => (inB b cnt ∧ inB a cnt ∧ u_ = (F_X9_end (wU M 0 0 (nI 0)) (tn b) (nI 1) a (-1 : Int32), J) ∧ r_ = M 3 (tn b)) ∨ (¬ (inB b cnt ∧ inB a cnt) ∧ u_ = ((wU (wU M 0 0 (nI 0)) 0 0 (nI 1)), J) ∧ r_ = nI 0)) := by
  refine wC_i (cc := cX9_jump) (maxL := 3) (ret := (some .int)) (by decide) rfl (Nat.le_of_ble_eq_true rfl) ?_
  intro p e s m below meth c ls A hx hb hr hml hown hts hlocks hK hA hw hl hAe
  clear hAe
  have hl : lv_has ls 3 [(0, .ref (ad 0)), (1, .int b), (2, .int a)] := hl
  have f87 : (Cond.fieldLink RX9 87 "RangePropagatorModel" "thrown" "I").before _ s = true := hts _ (by decide +kernel)
  have iX9 : ∀ w ∈ wsX90, w ∈ wsX9_jump := by decide +kernel
  refine lv_aload_n hx hb dX9_jump_0 rfl (lv_at hl 0 rfl) ?_
  refine lv_iconst (v := nI 0) hx hb dX9_jump_1 (by decide) ?_
  refine wr_pi hx hb hown hK hts iX9 tyX9_ok nmX9 (ci := 8) rfl 0 (by decide) f87 rfl rfl hw 0 (by omega) rfl rfl rfl rfl dX9_jump_2 (fun H locs hw => ?_)
  refine lv_aload_n hx hb dX9_jump_5 rfl (lv_at hl 0 rfl) ?_
  refine lv_iload_n hx hb dX9_jump_6 rfl (lv_at hl 1 rfl) ?_
  refine wr_cVi (k := 0) (ci := 8) (As := [.int b]) (rest := []) ⟨hx, hb, hml, hown, hts⟩ (cwV 1 hts gX9_jump_X9_isBlock rfl rfl rfl (by decide +kernel) ⟨Nat.le_of_ble_eq_true rfl, Nat.le_of_ble_eq_true rfl⟩) hK hA hw (k_X9_isBlock l D ad cs H.size (wU M 0 0 (nI 0)) J b cnt (by simp only [wU_at]; simpa using hn) hn16) (by omega) rfl rfl rfl rfl hl.1 (Nat.le_of_ble_eq_true rfl) ⟨Nat.le_of_ble_eq_true rfl, Nat.le_of_ble_eq_true rfl⟩ dX9_jump_7 (fun r1 M2 J3 H locs h4 hw => ?_)
  obtain ⟨h4u, h4z, h4i⟩ := h4
  cases h4u
  refine lv_if_eq (tgt := 32) hx hb dX9_jump_10 (by decide) (fun q5 => ?_) (fun q5 => ?_)
  · have b_no := (fun z => (h4i.mpr z) q5)
    refine lv_aload_n hx hb dX9_jump_32 rfl (lv_at hl 0 rfl) ?_
    refine lv_iconst (v := nI 1) hx hb dX9_jump_33 (by decide) ?_
    refine wr_cVi (k := 0) (ci := 8) (As := [.int (nI 1)]) (rest := []) ⟨hx, hb, hml, hown, hts⟩ (cwV 1 hts gX9_jump_X9_fail rfl rfl rfl (by decide +kernel) ⟨Nat.le_of_ble_eq_true rfl, Nat.le_of_ble_eq_true rfl⟩) hK hA hw (k_X9_fail l D ad cs H.size (wU M 0 0 (nI 0)) J (nI 1) ) (by omega) rfl rfl rfl rfl hl.1 (Nat.le_of_ble_eq_true rfl) ⟨Nat.le_of_ble_eq_true rfl, Nat.le_of_ble_eq_true rfl⟩ dX9_jump_34 (fun r6 M7 J8 H locs h9 hw => ?_)
    obtain ⟨h9, rfl⟩ := h9
    cases h9
    exact wr_iret hx hb hr rfl hK hw (Or.inr ⟨fun z => b_no z.1, rfl, rfl⟩) hlocks dX9_jump_37
  · obtain ⟨b_n, b_h, rfl⟩ := h4i.mp q5
    refine lv_aload_n hx hb dX9_jump_13 rfl (lv_at hl 0 rfl) ?_
    refine lv_iload_n hx hb dX9_jump_14 rfl (lv_at hl 2 rfl) ?_
    refine wr_cVi (k := 0) (ci := 8) (As := [.int a]) (rest := []) ⟨hx, hb, hml, hown, hts⟩ (cwV 1 hts gX9_jump_X9_isBlock rfl rfl rfl (by decide +kernel) ⟨Nat.le_of_ble_eq_true rfl, Nat.le_of_ble_eq_true rfl⟩) hK hA hw (k_X9_isBlock l D ad cs H.size (wU M 0 0 (nI 0)) J a cnt (by simp only [wU_at]; simpa using hn) hn16) (by omega) rfl rfl rfl rfl hl.1 (Nat.le_of_ble_eq_true rfl) ⟨Nat.le_of_ble_eq_true rfl, Nat.le_of_ble_eq_true rfl⟩ dX9_jump_15 (fun r10 M11 J12 H locs h13 hw => ?_)
    obtain ⟨h13u, h13z, h13i⟩ := h13
    cases h13u
    refine lv_if_eq (tgt := 32) hx hb dX9_jump_18 (by decide) (fun q14 => ?_) (fun q14 => ?_)
    · have a_no := (fun z => (h13i.mpr z) q14)
      refine lv_aload_n hx hb dX9_jump_32 rfl (lv_at hl 0 rfl) ?_
      refine lv_iconst (v := nI 1) hx hb dX9_jump_33 (by decide) ?_
      refine wr_cVi (k := 0) (ci := 8) (As := [.int (nI 1)]) (rest := []) ⟨hx, hb, hml, hown, hts⟩ (cwV 1 hts gX9_jump_X9_fail rfl rfl rfl (by decide +kernel) ⟨Nat.le_of_ble_eq_true rfl, Nat.le_of_ble_eq_true rfl⟩) hK hA hw (k_X9_fail l D ad cs H.size (wU M 0 0 (nI 0)) J (nI 1) ) (by omega) rfl rfl rfl rfl hl.1 (Nat.le_of_ble_eq_true rfl) ⟨Nat.le_of_ble_eq_true rfl, Nat.le_of_ble_eq_true rfl⟩ dX9_jump_34 (fun r15 M16 J17 H locs h18 hw => ?_)
      obtain ⟨h18, rfl⟩ := h18
      cases h18
      exact wr_iret hx hb hr rfl hK hw (Or.inr ⟨fun z => a_no z.2, rfl, rfl⟩) hlocks dX9_jump_37
    · obtain ⟨a_n, a_h, rfl⟩ := h13i.mp q14
      refine lv_aload_n hx hb dX9_jump_21 rfl (lv_at hl 0 rfl) ?_
      refine lv_iload_n hx hb dX9_jump_22 rfl (lv_at hl 1 rfl) ?_
      refine lv_iconst (v := nI 1) hx hb dX9_jump_23 (by decide) ?_
      refine lv_iload_n hx hb dX9_jump_24 rfl (lv_at hl 2 rfl) ?_
      refine lv_iconst (v := (-1 : Int32)) hx hb dX9_jump_25 (by decide) ?_
      refine wr_cVi (k := 0) (ci := 8) (As := [.int (nI b_n), .int (nI 1), .int (nI a_n), .int ((-1 : Int32))]) (rest := []) ⟨hx, hb, hml, hown, hts⟩ (cwV 4 hts gX9_jump_X9_end rfl rfl rfl (by decide +kernel) ⟨Nat.le_of_ble_eq_true rfl, Nat.le_of_ble_eq_true rfl⟩) hK hA hw (k_X9_end l D ad cs H.size (wU M 0 0 (nI 0)) J b_n (nI 1) (nI a_n) ((-1 : Int32)) (by omega)) (by omega) rfl rfl rfl rfl hl.1 (Nat.le_of_ble_eq_true rfl) ⟨Nat.le_of_ble_eq_true rfl, Nat.le_of_ble_eq_true rfl⟩ dX9_jump_26 (fun r19 M20 J21 H locs h22 hw => ?_)
      obtain ⟨h22, rfl⟩ := h22
      cases h22
      refine lv_goto (tgt := 37) hx hb dX9_jump_29 (by decide) ?_
      exact wr_iret hx hb hr rfl hK hw (Or.inl ⟨⟨b_n, b_h, rfl⟩, ⟨a_n, a_h, rfl⟩, (by rw [tn_nI (by omega)]), (by rw [tn_nI (by omega)]; exact congrFun (wU_ne (by decide)) b_n)⟩) hlocks dX9_jump_37
set_option maxHeartbeats 4000000 in
set_option maxRecDepth 100000 in
theorem k_X9_branch (l : Launch) (D : va_G) (ad : Nat → Nat) (cs : Nat → ClassId) (sz : Nat) (M : wM) (J : wJ) (b : Int32) (x : Int32) (r : Int32) (y : Int32) (a : Int32) (d : Int32) (cnt : Nat) (hn : M 0 1 = nI cnt) (hn16 : cnt ≤ 16) : wCi l yX9_branch wsX9_branch { frames := 1, cells := 0, slots := 0, locals := 25 } D 23 mSh ad cs [.ref (ad 0), .int b, .int x, .int r, .int y, .int a, .int d] sz M J (fun r_ u_ => ((inB b cnt ∧ inB x 6 ∧ inB y 6 ∧ inB a cnt ∧ inB d cnt) ∧ inB r 4 ∧ u_ = (F_X9_end (wU (wU (wU (wU M 0 0 (nI 0)) 6 (tn b) x) 7 (tn b) y) 8 (tn b) r) (tn b) (nI 2) a d, J) ∧ r_ = M 3 (tn b)) ∨ (¬ (inB b cnt ∧ inB x 6 ∧ inB y 6 ∧ inB a cnt ∧ inB d cnt) ∧ u_ = ((wU (wU M 0 0 (nI 0)) 0 0 (nI 1)), J) ∧ r_ = nI 0) ∨ ((inB b cnt ∧ inB x 6 ∧ inB y 6 ∧ inB a cnt ∧ inB d cnt) ∧ ¬ inB r 4 ∧ u_ = ((wU (wU M 0 0 (nI 0)) 0 0 (nI 2)), J) ∧ r_ = nI 0)) := by
  refine wC_i (cc := cX9_branch) (maxL := 7) (ret := (some .int)) (by decide) rfl (Nat.le_of_ble_eq_true rfl) ?_
  intro p e s m below meth c ls A hx hb hr hml hown hts hlocks hK hA hw hl hAe
  clear hAe
  have hl : lv_has ls 7 [(0, .ref (ad 0)), (1, .int b), (2, .int x), (3, .int r), (4, .int y), (5, .int a), (6, .int d)] := hl
  have f87 : (Cond.fieldLink RX9 87 "RangePropagatorModel" "thrown" "I").before _ s = true := hts _ (by decide +kernel)
  have iX9 : ∀ w ∈ wsX90, w ∈ wsX9_branch := by decide +kernel
  have f29 : (Cond.fieldLink RX9 29 "RangePropagatorModel" "xs" "[I").before _ s = true := hts _ (by decide +kernel)
  have f32 : (Cond.fieldLink RX9 32 "RangePropagatorModel" "ys" "[I").before _ s = true := hts _ (by decide +kernel)
  have f35 : (Cond.fieldLink RX9 35 "RangePropagatorModel" "relations" "[I").before _ s = true := hts _ (by decide +kernel)
  refine lv_aload_n hx hb dX9_branch_0 rfl (lv_at hl 0 rfl) ?_
  refine lv_iconst (v := nI 0) hx hb dX9_branch_1 (by decide) ?_
  refine wr_pi hx hb hown hK hts iX9 tyX9_ok nmX9 (ci := 8) rfl 0 (by decide) f87 rfl rfl hw 0 (by omega) rfl rfl rfl rfl dX9_branch_2 (fun H locs hw => ?_)
  refine lv_aload_n hx hb dX9_branch_5 rfl (lv_at hl 0 rfl) ?_
  refine lv_iload_n hx hb dX9_branch_6 rfl (lv_at hl 1 rfl) ?_
  refine wr_cVi (k := 0) (ci := 8) (As := [.int b]) (rest := []) ⟨hx, hb, hml, hown, hts⟩ (cwV 1 hts gX9_branch_X9_isBlock rfl rfl rfl (by decide +kernel) ⟨Nat.le_of_ble_eq_true rfl, Nat.le_of_ble_eq_true rfl⟩) hK hA hw (k_X9_isBlock l D ad cs H.size (wU M 0 0 (nI 0)) J b cnt (by simp only [wU_at]; simpa using hn) hn16) (by omega) rfl rfl rfl rfl hl.1 (Nat.le_of_ble_eq_true rfl) ⟨Nat.le_of_ble_eq_true rfl, Nat.le_of_ble_eq_true rfl⟩ dX9_branch_7 (fun r1 M2 J3 H locs h4 hw => ?_)
  obtain ⟨h4u, h4z, h4i⟩ := h4
  cases h4u
  refine lv_if_eq (tgt := 46) hx hb dX9_branch_10 (by decide) (fun q5 => ?_) (fun q5 => ?_)
  · have b_no := (fun z => (h4i.mpr z) q5)
    refine lv_aload_n hx hb dX9_branch_46 rfl (lv_at hl 0 rfl) ?_
    refine lv_iconst (v := nI 1) hx hb dX9_branch_47 (by decide) ?_
    refine wr_cVi (k := 0) (ci := 8) (As := [.int (nI 1)]) (rest := []) ⟨hx, hb, hml, hown, hts⟩ (cwV 1 hts gX9_branch_X9_fail rfl rfl rfl (by decide +kernel) ⟨Nat.le_of_ble_eq_true rfl, Nat.le_of_ble_eq_true rfl⟩) hK hA hw (k_X9_fail l D ad cs H.size (wU M 0 0 (nI 0)) J (nI 1) ) (by omega) rfl rfl rfl rfl hl.1 (Nat.le_of_ble_eq_true rfl) ⟨Nat.le_of_ble_eq_true rfl, Nat.le_of_ble_eq_true rfl⟩ dX9_branch_48 (fun r6 M7 J8 H locs h9 hw => ?_)
    obtain ⟨h9, rfl⟩ := h9
    cases h9
    exact wr_iret hx hb hr rfl hK hw (Or.inr (Or.inl ⟨fun z => b_no z.1, rfl, rfl⟩)) hlocks dX9_branch_51
  · obtain ⟨b_n, b_h, rfl⟩ := h4i.mp q5
    refine lv_iload_n hx hb dX9_branch_13 rfl (lv_at hl 2 rfl) ?_
    refine wr_cSi (As := [.int x]) (rest := []) ⟨hx, hb, hml, hown, hts⟩ (va_cwS 1 hts gX9_branch_X9_isVariable rfl rfl rfl (by decide +kernel) ⟨Nat.le_of_ble_eq_true rfl, Nat.le_of_ble_eq_true rfl⟩) hK hA hw (k_X9_isVariable l D ad cs H.size (wU M 0 0 (nI 0)) J x ) rfl rfl hl.1 (Nat.le_of_ble_eq_true rfl) ⟨Nat.le_of_ble_eq_true rfl, Nat.le_of_ble_eq_true rfl⟩ dX9_branch_14 (fun r10 M11 J12 H locs h13 hw => ?_)
    obtain ⟨h13u, h13z, h13i⟩ := h13
    cases h13u
    refine lv_if_eq (tgt := 46) hx hb dX9_branch_17 (by decide) (fun q14 => ?_) (fun q14 => ?_)
    · have x_no := (fun z => (h13i.mpr z) q14)
      refine lv_aload_n hx hb dX9_branch_46 rfl (lv_at hl 0 rfl) ?_
      refine lv_iconst (v := nI 1) hx hb dX9_branch_47 (by decide) ?_
      refine wr_cVi (k := 0) (ci := 8) (As := [.int (nI 1)]) (rest := []) ⟨hx, hb, hml, hown, hts⟩ (cwV 1 hts gX9_branch_X9_fail rfl rfl rfl (by decide +kernel) ⟨Nat.le_of_ble_eq_true rfl, Nat.le_of_ble_eq_true rfl⟩) hK hA hw (k_X9_fail l D ad cs H.size (wU M 0 0 (nI 0)) J (nI 1) ) (by omega) rfl rfl rfl rfl hl.1 (Nat.le_of_ble_eq_true rfl) ⟨Nat.le_of_ble_eq_true rfl, Nat.le_of_ble_eq_true rfl⟩ dX9_branch_48 (fun r15 M16 J17 H locs h18 hw => ?_)
      obtain ⟨h18, rfl⟩ := h18
      cases h18
      exact wr_iret hx hb hr rfl hK hw (Or.inr (Or.inl ⟨fun z => x_no z.2.1, rfl, rfl⟩)) hlocks dX9_branch_51
    · obtain ⟨x_n, x_h, rfl⟩ := h13i.mp q14
      refine lv_iload hx hb dX9_branch_20 (lv_at hl 4 rfl) ?_
      refine wr_cSi (As := [.int y]) (rest := []) ⟨hx, hb, hml, hown, hts⟩ (va_cwS 1 hts gX9_branch_X9_isVariable rfl rfl rfl (by decide +kernel) ⟨Nat.le_of_ble_eq_true rfl, Nat.le_of_ble_eq_true rfl⟩) hK hA hw (k_X9_isVariable l D ad cs H.size (wU M 0 0 (nI 0)) J y ) rfl rfl hl.1 (Nat.le_of_ble_eq_true rfl) ⟨Nat.le_of_ble_eq_true rfl, Nat.le_of_ble_eq_true rfl⟩ dX9_branch_22 (fun r19 M20 J21 H locs h22 hw => ?_)
      obtain ⟨h22u, h22z, h22i⟩ := h22
      cases h22u
      refine lv_if_eq (tgt := 46) hx hb dX9_branch_25 (by decide) (fun q23 => ?_) (fun q23 => ?_)
      · have y_no := (fun z => (h22i.mpr z) q23)
        refine lv_aload_n hx hb dX9_branch_46 rfl (lv_at hl 0 rfl) ?_
        refine lv_iconst (v := nI 1) hx hb dX9_branch_47 (by decide) ?_
        refine wr_cVi (k := 0) (ci := 8) (As := [.int (nI 1)]) (rest := []) ⟨hx, hb, hml, hown, hts⟩ (cwV 1 hts gX9_branch_X9_fail rfl rfl rfl (by decide +kernel) ⟨Nat.le_of_ble_eq_true rfl, Nat.le_of_ble_eq_true rfl⟩) hK hA hw (k_X9_fail l D ad cs H.size (wU M 0 0 (nI 0)) J (nI 1) ) (by omega) rfl rfl rfl rfl hl.1 (Nat.le_of_ble_eq_true rfl) ⟨Nat.le_of_ble_eq_true rfl, Nat.le_of_ble_eq_true rfl⟩ dX9_branch_48 (fun r24 M25 J26 H locs h27 hw => ?_)
        obtain ⟨h27, rfl⟩ := h27
        cases h27
        exact wr_iret hx hb hr rfl hK hw (Or.inr (Or.inl ⟨fun z => y_no z.2.2.1, rfl, rfl⟩)) hlocks dX9_branch_51
      · obtain ⟨y_n, y_h, rfl⟩ := h22i.mp q23
        refine lv_aload_n hx hb dX9_branch_28 rfl (lv_at hl 0 rfl) ?_
        refine lv_iload hx hb dX9_branch_29 (lv_at hl 5 rfl) ?_
        refine wr_cVi (k := 0) (ci := 8) (As := [.int a]) (rest := []) ⟨hx, hb, hml, hown, hts⟩ (cwV 1 hts gX9_branch_X9_isBlock rfl rfl rfl (by decide +kernel) ⟨Nat.le_of_ble_eq_true rfl, Nat.le_of_ble_eq_true rfl⟩) hK hA hw (k_X9_isBlock l D ad cs H.size (wU M 0 0 (nI 0)) J a cnt (by simp only [wU_at]; simpa using hn) hn16) (by omega) rfl rfl rfl rfl hl.1 (Nat.le_of_ble_eq_true rfl) ⟨Nat.le_of_ble_eq_true rfl, Nat.le_of_ble_eq_true rfl⟩ dX9_branch_31 (fun r28 M29 J30 H locs h31 hw => ?_)
        obtain ⟨h31u, h31z, h31i⟩ := h31
        cases h31u
        refine lv_if_eq (tgt := 46) hx hb dX9_branch_34 (by decide) (fun q32 => ?_) (fun q32 => ?_)
        · have a_no := (fun z => (h31i.mpr z) q32)
          refine lv_aload_n hx hb dX9_branch_46 rfl (lv_at hl 0 rfl) ?_
          refine lv_iconst (v := nI 1) hx hb dX9_branch_47 (by decide) ?_
          refine wr_cVi (k := 0) (ci := 8) (As := [.int (nI 1)]) (rest := []) ⟨hx, hb, hml, hown, hts⟩ (cwV 1 hts gX9_branch_X9_fail rfl rfl rfl (by decide +kernel) ⟨Nat.le_of_ble_eq_true rfl, Nat.le_of_ble_eq_true rfl⟩) hK hA hw (k_X9_fail l D ad cs H.size (wU M 0 0 (nI 0)) J (nI 1) ) (by omega) rfl rfl rfl rfl hl.1 (Nat.le_of_ble_eq_true rfl) ⟨Nat.le_of_ble_eq_true rfl, Nat.le_of_ble_eq_true rfl⟩ dX9_branch_48 (fun r33 M34 J35 H locs h36 hw => ?_)
          obtain ⟨h36, rfl⟩ := h36
          cases h36
          exact wr_iret hx hb hr rfl hK hw (Or.inr (Or.inl ⟨fun z => a_no z.2.2.2.1, rfl, rfl⟩)) hlocks dX9_branch_51
        · obtain ⟨a_n, a_h, rfl⟩ := h31i.mp q32
          refine lv_aload_n hx hb dX9_branch_37 rfl (lv_at hl 0 rfl) ?_
          refine lv_iload hx hb dX9_branch_38 (lv_at hl 6 rfl) ?_
          refine wr_cVi (k := 0) (ci := 8) (As := [.int d]) (rest := []) ⟨hx, hb, hml, hown, hts⟩ (cwV 1 hts gX9_branch_X9_isBlock rfl rfl rfl (by decide +kernel) ⟨Nat.le_of_ble_eq_true rfl, Nat.le_of_ble_eq_true rfl⟩) hK hA hw (k_X9_isBlock l D ad cs H.size (wU M 0 0 (nI 0)) J d cnt (by simp only [wU_at]; simpa using hn) hn16) (by omega) rfl rfl rfl rfl hl.1 (Nat.le_of_ble_eq_true rfl) ⟨Nat.le_of_ble_eq_true rfl, Nat.le_of_ble_eq_true rfl⟩ dX9_branch_40 (fun r37 M38 J39 H locs h40 hw => ?_)
          obtain ⟨h40u, h40z, h40i⟩ := h40
          cases h40u
          refine lv_if_ne (tgt := 52) hx hb dX9_branch_43 (by decide) (fun q41 => ?_) (fun q41 => ?_)
          · obtain ⟨d_n, d_h, rfl⟩ := h40i.mp q41
            refine lv_iload_n hx hb dX9_branch_52 rfl (lv_at hl 3 rfl) ?_
            refine lv_if_lt (tgt := 61) hx hb dX9_branch_53 (by decide) (fun q42 => ?_) (fun q42 => ?_)
            · skip
              refine lv_aload_n hx hb dX9_branch_61 rfl (lv_at hl 0 rfl) ?_
              refine lv_iconst (v := nI 2) hx hb dX9_branch_62 (by decide) ?_
              refine wr_cVi (k := 0) (ci := 8) (As := [.int (nI 2)]) (rest := []) ⟨hx, hb, hml, hown, hts⟩ (cwV 1 hts gX9_branch_X9_fail rfl rfl rfl (by decide +kernel) ⟨Nat.le_of_ble_eq_true rfl, Nat.le_of_ble_eq_true rfl⟩) hK hA hw (k_X9_fail l D ad cs H.size (wU M 0 0 (nI 0)) J (nI 2) ) (by omega) rfl rfl rfl rfl hl.1 (Nat.le_of_ble_eq_true rfl) ⟨Nat.le_of_ble_eq_true rfl, Nat.le_of_ble_eq_true rfl⟩ dX9_branch_63 (fun r43 M44 J45 H locs h46 hw => ?_)
              obtain ⟨h46, rfl⟩ := h46
              cases h46
              exact wr_iret hx hb hr rfl hK hw (Or.inr (Or.inr ⟨⟨⟨b_n, b_h, rfl⟩, ⟨x_n, x_h, rfl⟩, ⟨y_n, y_h, rfl⟩, ⟨a_n, a_h, rfl⟩, ⟨d_n, d_h, rfl⟩⟩, nB_1 q42 (by decide), rfl, rfl⟩)) hlocks dX9_branch_66
            · skip
              refine lv_iload_n hx hb dX9_branch_56 rfl (lv_at hl 3 rfl) ?_
              refine lv_iconst (v := nI 3) hx hb dX9_branch_57 (by decide) ?_
              refine lv_icmp_le (tgt := 67) hx hb dX9_branch_58 (by decide) (fun q47 => ?_) (fun q47 => ?_)
              · skip
                refine lv_aload_n hx hb dX9_branch_67 rfl (lv_at hl 0 rfl) ?_
                refine wr_gr hx hb hown hK hts iX9 (ci := 8) rfl 7 (by decide) f29 rfl hw 0 (by omega) 6 rfl rfl dX9_branch_68 ?_
                refine lv_iload_n hx hb dX9_branch_71 rfl (lv_at hl 1 rfl) ?_
                refine lv_iload_n hx hb dX9_branch_72 rfl (lv_at hl 2 rfl) ?_
                refine wr_istN hx hb hK hw 6 (by omega) rfl (by decide) b_n rfl (by omega) dX9_branch_73 (fun H locs hw => ?_)
                refine lv_aload_n hx hb dX9_branch_74 rfl (lv_at hl 0 rfl) ?_
                refine wr_gr hx hb hown hK hts iX9 (ci := 8) rfl 8 (by decide) f32 rfl hw 0 (by omega) 7 rfl rfl dX9_branch_75 ?_
                refine lv_iload_n hx hb dX9_branch_78 rfl (lv_at hl 1 rfl) ?_
                refine lv_iload hx hb dX9_branch_79 (lv_at hl 4 rfl) ?_
                refine wr_istN hx hb hK hw 7 (by omega) rfl (by decide) b_n rfl (by omega) dX9_branch_81 (fun H locs hw => ?_)
                refine lv_aload_n hx hb dX9_branch_82 rfl (lv_at hl 0 rfl) ?_
                refine wr_gr hx hb hown hK hts iX9 (ci := 8) rfl 9 (by decide) f35 rfl hw 0 (by omega) 8 rfl rfl dX9_branch_83 ?_
                refine lv_iload_n hx hb dX9_branch_86 rfl (lv_at hl 1 rfl) ?_
                refine lv_iload_n hx hb dX9_branch_87 rfl (lv_at hl 3 rfl) ?_
                refine wr_istN hx hb hK hw 8 (by omega) rfl (by decide) b_n rfl (by omega) dX9_branch_88 (fun H locs hw => ?_)
                refine lv_aload_n hx hb dX9_branch_89 rfl (lv_at hl 0 rfl) ?_
                refine lv_iload_n hx hb dX9_branch_90 rfl (lv_at hl 1 rfl) ?_
                refine lv_iconst (v := nI 2) hx hb dX9_branch_91 (by decide) ?_
                refine lv_iload hx hb dX9_branch_92 (lv_at hl 5 rfl) ?_
                refine lv_iload hx hb dX9_branch_94 (lv_at hl 6 rfl) ?_
                refine wr_cVi (k := 0) (ci := 8) (As := [.int (nI b_n), .int (nI 2), .int (nI a_n), .int (nI d_n)]) (rest := []) ⟨hx, hb, hml, hown, hts⟩ (cwV 4 hts gX9_branch_X9_end rfl rfl rfl (by decide +kernel) ⟨Nat.le_of_ble_eq_true rfl, Nat.le_of_ble_eq_true rfl⟩) hK hA hw (k_X9_end l D ad cs H.size (wU (wU (wU (wU M 0 0 (nI 0)) 6 b_n (nI x_n)) 7 b_n (nI y_n)) 8 b_n r) J b_n (nI 2) (nI a_n) (nI d_n) (by omega)) (by omega) rfl rfl rfl rfl hl.1 (Nat.le_of_ble_eq_true rfl) ⟨Nat.le_of_ble_eq_true rfl, Nat.le_of_ble_eq_true rfl⟩ dX9_branch_96 (fun r48 M49 J50 H locs h51 hw => ?_)
                obtain ⟨h51, rfl⟩ := h51
                cases h51
                exact wr_iret hx hb hr rfl hK hw (Or.inl ⟨⟨⟨b_n, b_h, rfl⟩, ⟨x_n, x_h, rfl⟩, ⟨y_n, y_h, rfl⟩, ⟨a_n, a_h, rfl⟩, ⟨d_n, d_h, rfl⟩⟩, inB_le q42 q47 (by decide), (by rw [tn_nI (by omega)]), (by rw [tn_nI (by omega)]; unfold E_X9_end; simp only [wU_at]; simp)⟩) hlocks dX9_branch_99
              · skip
                refine lv_aload_n hx hb dX9_branch_61 rfl (lv_at hl 0 rfl) ?_
                refine lv_iconst (v := nI 2) hx hb dX9_branch_62 (by decide) ?_
                refine wr_cVi (k := 0) (ci := 8) (As := [.int (nI 2)]) (rest := []) ⟨hx, hb, hml, hown, hts⟩ (cwV 1 hts gX9_branch_X9_fail rfl rfl rfl (by decide +kernel) ⟨Nat.le_of_ble_eq_true rfl, Nat.le_of_ble_eq_true rfl⟩) hK hA hw (k_X9_fail l D ad cs H.size (wU M 0 0 (nI 0)) J (nI 2) ) (by omega) rfl rfl rfl rfl hl.1 (Nat.le_of_ble_eq_true rfl) ⟨Nat.le_of_ble_eq_true rfl, Nat.le_of_ble_eq_true rfl⟩ dX9_branch_63 (fun r52 M53 J54 H locs h55 hw => ?_)
                obtain ⟨h55, rfl⟩ := h55
                cases h55
                exact wr_iret hx hb hr rfl hK hw (Or.inr (Or.inr ⟨⟨⟨b_n, b_h, rfl⟩, ⟨x_n, x_h, rfl⟩, ⟨y_n, y_h, rfl⟩, ⟨a_n, a_h, rfl⟩, ⟨d_n, d_h, rfl⟩⟩, nB_3 q47 (by decide), rfl, rfl⟩)) hlocks dX9_branch_66
          · have d_no := (fun z => (h40i.mpr z) q41)
            refine lv_aload_n hx hb dX9_branch_46 rfl (lv_at hl 0 rfl) ?_
            refine lv_iconst (v := nI 1) hx hb dX9_branch_47 (by decide) ?_
            refine wr_cVi (k := 0) (ci := 8) (As := [.int (nI 1)]) (rest := []) ⟨hx, hb, hml, hown, hts⟩ (cwV 1 hts gX9_branch_X9_fail rfl rfl rfl (by decide +kernel) ⟨Nat.le_of_ble_eq_true rfl, Nat.le_of_ble_eq_true rfl⟩) hK hA hw (k_X9_fail l D ad cs H.size (wU M 0 0 (nI 0)) J (nI 1) ) (by omega) rfl rfl rfl rfl hl.1 (Nat.le_of_ble_eq_true rfl) ⟨Nat.le_of_ble_eq_true rfl, Nat.le_of_ble_eq_true rfl⟩ dX9_branch_48 (fun r56 M57 J58 H locs h59 hw => ?_)
            obtain ⟨h59, rfl⟩ := h59
            cases h59
            exact wr_iret hx hb hr rfl hK hw (Or.inr (Or.inl ⟨fun z => d_no z.2.2.2.2, rfl, rfl⟩)) hlocks dX9_branch_51
set_option maxHeartbeats 4000000 in
set_option maxRecDepth 100000 in
theorem k_X9_clear (l : Launch) (D : va_G) (ad : Nat → Nat) (cs : Nat → ClassId) (sz : Nat) (M : wM) (J : wJ) (b : Int32) (cnt : Nat) (hn : M 0 1 = nI cnt) (hn16 : cnt ≤ 16) : wCi l yX9_clear wsX9_clear { frames := 1, cells := 0, slots := 0, locals := 25 } D 23 mSh ad cs [.ref (ad 0), .int b] sz M J (fun r_ u_ => (inB b cnt ∧ u_ = (F_X9_end (wU (wU M 0 0 (nI 0)) 1 (tn b) (nI 0)) (tn b) (nI 0) (-1 : Int32) (-1 : Int32), J) ∧ r_ = M 1 (tn b)) ∨ (¬ inB b cnt ∧ u_ = ((wU (wU M 0 0 (nI 0)) 0 0 (nI 1)), J) ∧ r_ = nI 0)) := by
  refine wC_i (cc := cX9_clear) (maxL := 3) (ret := (some .int)) (by decide) rfl (Nat.le_of_ble_eq_true rfl) ?_
  intro p e s m below meth c ls A hx hb hr hml hown hts hlocks hK hA hw hl hAe
  clear hAe
  have hl : lv_has ls 3 [(0, .ref (ad 0)), (1, .int b)] := hl
  have f87 : (Cond.fieldLink RX9 87 "RangePropagatorModel" "thrown" "I").before _ s = true := hts _ (by decide +kernel)
  have iX9 : ∀ w ∈ wsX90, w ∈ wsX9_clear := by decide +kernel
  have f13 : (Cond.fieldLink RX9 13 "RangePropagatorModel" "sizes" "[I").before _ s = true := hts _ (by decide +kernel)
  refine lv_aload_n hx hb dX9_clear_0 rfl (lv_at hl 0 rfl) ?_
  refine lv_iconst (v := nI 0) hx hb dX9_clear_1 (by decide) ?_
  refine wr_pi hx hb hown hK hts iX9 tyX9_ok nmX9 (ci := 8) rfl 0 (by decide) f87 rfl rfl hw 0 (by omega) rfl rfl rfl rfl dX9_clear_2 (fun H locs hw => ?_)
  refine lv_aload_n hx hb dX9_clear_5 rfl (lv_at hl 0 rfl) ?_
  refine lv_iload_n hx hb dX9_clear_6 rfl (lv_at hl 1 rfl) ?_
  refine wr_cVi (k := 0) (ci := 8) (As := [.int b]) (rest := []) ⟨hx, hb, hml, hown, hts⟩ (cwV 1 hts gX9_clear_X9_isBlock rfl rfl rfl (by decide +kernel) ⟨Nat.le_of_ble_eq_true rfl, Nat.le_of_ble_eq_true rfl⟩) hK hA hw (k_X9_isBlock l D ad cs H.size (wU M 0 0 (nI 0)) J b cnt (by simp only [wU_at]; simpa using hn) hn16) (by omega) rfl rfl rfl rfl hl.1 (Nat.le_of_ble_eq_true rfl) ⟨Nat.le_of_ble_eq_true rfl, Nat.le_of_ble_eq_true rfl⟩ dX9_clear_7 (fun r1 M2 J3 H locs h4 hw => ?_)
  obtain ⟨h4u, h4z, h4i⟩ := h4
  cases h4u
  refine lv_if_ne (tgt := 19) hx hb dX9_clear_10 (by decide) (fun q5 => ?_) (fun q5 => ?_)
  · obtain ⟨b_n, b_h, rfl⟩ := h4i.mp q5
    refine lv_aload_n hx hb dX9_clear_19 rfl (lv_at hl 0 rfl) ?_
    refine wr_gr hx hb hown hK hts iX9 (ci := 8) rfl 2 (by decide) f13 rfl hw 0 (by omega) 1 rfl rfl dX9_clear_20 ?_
    refine lv_iload_n hx hb dX9_clear_23 rfl (lv_at hl 1 rfl) ?_
    refine wr_ildN hx hb hK hw 1 (by omega) rfl (by decide) b_n rfl (by omega) dX9_clear_24 ?_
    rw [show (wU M 0 0 (nI 0)) 1 b_n = M 1 b_n from (congrFun (wU_ne (by decide)) b_n)]
    refine lv_istore_n (lv' := [(2, .int (M 1 b_n)), (0, .ref (ad 0)), (1, .int (nI b_n))]) hx hb dX9_clear_25 rfl hl (by decide) rfl (fun ls hl => ?_)
    refine lv_aload_n hx hb dX9_clear_26 rfl (lv_at hl 1 rfl) ?_
    refine wr_gr hx hb hown hK hts iX9 (ci := 8) rfl 2 (by decide) f13 rfl hw 0 (by omega) 1 rfl rfl dX9_clear_27 ?_
    refine lv_iload_n hx hb dX9_clear_30 rfl (lv_at hl 2 rfl) ?_
    refine lv_iconst (v := nI 0) hx hb dX9_clear_31 (by decide) ?_
    refine wr_istN hx hb hK hw 1 (by omega) rfl (by decide) b_n rfl (by omega) dX9_clear_32 (fun H locs hw => ?_)
    refine lv_aload_n hx hb dX9_clear_33 rfl (lv_at hl 1 rfl) ?_
    refine lv_iload_n hx hb dX9_clear_34 rfl (lv_at hl 2 rfl) ?_
    refine lv_iconst (v := nI 0) hx hb dX9_clear_35 (by decide) ?_
    refine lv_iconst (v := (-1 : Int32)) hx hb dX9_clear_36 (by decide) ?_
    refine lv_iconst (v := (-1 : Int32)) hx hb dX9_clear_37 (by decide) ?_
    refine wr_cVi (k := 0) (ci := 8) (As := [.int (nI b_n), .int (nI 0), .int ((-1 : Int32)), .int ((-1 : Int32))]) (rest := []) ⟨hx, hb, hml, hown, hts⟩ (cwV 4 hts gX9_clear_X9_end rfl rfl rfl (by decide +kernel) ⟨Nat.le_of_ble_eq_true rfl, Nat.le_of_ble_eq_true rfl⟩) hK hA hw (k_X9_end l D ad cs H.size (wU (wU M 0 0 (nI 0)) 1 b_n (nI 0)) J b_n (nI 0) ((-1 : Int32)) ((-1 : Int32)) (by omega)) (by omega) rfl rfl rfl rfl hl.1 (Nat.le_of_ble_eq_true rfl) ⟨Nat.le_of_ble_eq_true rfl, Nat.le_of_ble_eq_true rfl⟩ dX9_clear_38 (fun r6 M7 J8 H locs h9 hw => ?_)
    obtain ⟨h9, rfl⟩ := h9
    cases h9
    refine lv_pop hx hb dX9_clear_41 rfl ?_
    refine lv_iload_n hx hb dX9_clear_42 rfl (lv_at hl 0 rfl) ?_
    exact wr_iret hx hb hr rfl hK hw (Or.inl ⟨⟨b_n, b_h, rfl⟩, (by rw [tn_nI (by omega)]), (by rw [tn_nI (by omega)])⟩) hlocks dX9_clear_43
  · have b_no := (fun z => (h4i.mpr z) q5)
    refine lv_aload_n hx hb dX9_clear_13 rfl (lv_at hl 0 rfl) ?_
    refine lv_iconst (v := nI 1) hx hb dX9_clear_14 (by decide) ?_
    refine wr_cVi (k := 0) (ci := 8) (As := [.int (nI 1)]) (rest := []) ⟨hx, hb, hml, hown, hts⟩ (cwV 1 hts gX9_clear_X9_fail rfl rfl rfl (by decide +kernel) ⟨Nat.le_of_ble_eq_true rfl, Nat.le_of_ble_eq_true rfl⟩) hK hA hw (k_X9_fail l D ad cs H.size (wU M 0 0 (nI 0)) J (nI 1) ) (by omega) rfl rfl rfl rfl hl.1 (Nat.le_of_ble_eq_true rfl) ⟨Nat.le_of_ble_eq_true rfl, Nat.le_of_ble_eq_true rfl⟩ dX9_clear_15 (fun r10 M11 J12 H locs h13 hw => ?_)
    obtain ⟨h13, rfl⟩ := h13
    cases h13
    exact wr_iret hx hb hr rfl hK hw (Or.inr ⟨b_no, rfl, rfl⟩) hlocks dX9_clear_18
def F_X9_blockCount (M : wM)  : wM := (wU M 0 0 (nI 0))
def E_X9_blockCount (M : wM)  : Int32 := (wU M 0 0 (nI 0)) 0 1
set_option maxHeartbeats 4000000 in
set_option maxRecDepth 100000 in
theorem k_X9_blockCount (l : Launch) (D : va_G) (ad : Nat → Nat) (cs : Nat → ClassId) (sz : Nat) (M : wM) (J : wJ)   : wCi l yX9_blockCount wsX9_blockCount { frames := 0, cells := 0, slots := 0, locals := 0 } D 23 mSh ad cs [.ref (ad 0)] sz M J (fun r_ u_ => u_ = (F_X9_blockCount M , J) ∧ r_ = E_X9_blockCount M ) := by
  refine wC_i (cc := cX9_blockCount) (maxL := 1) (ret := (some .int)) (by decide) rfl (Nat.le_of_ble_eq_true rfl) ?_
  intro p e s m below meth c ls A hx hb hr hml hown hts hlocks hK hA hw hl hAe
  clear hAe
  have hl : lv_has ls 1 [(0, .ref (ad 0))] := hl
  have f87 : (Cond.fieldLink RX9 87 "RangePropagatorModel" "thrown" "I").before _ s = true := hts _ (by decide +kernel)
  have iX9 : ∀ w ∈ wsX90, w ∈ wsX9_blockCount := by decide +kernel
  have f7 : (Cond.fieldLink RX9 7 "RangePropagatorModel" "blocks" "I").before _ s = true := hts _ (by decide +kernel)
  refine lv_aload_n hx hb dX9_blockCount_0 rfl (lv_at hl 0 rfl) ?_
  refine lv_iconst (v := nI 0) hx hb dX9_blockCount_1 (by decide) ?_
  refine wr_pi hx hb hown hK hts iX9 tyX9_ok nmX9 (ci := 8) rfl 0 (by decide) f87 rfl rfl hw 0 (by omega) rfl rfl rfl rfl dX9_blockCount_2 (fun H locs hw => ?_)
  refine lv_aload_n hx hb dX9_blockCount_5 rfl (lv_at hl 0 rfl) ?_
  refine wr_gi hx hb hown hK hts iX9 (ci := 8) rfl 1 (by decide) f7 rfl hw 0 (by omega) rfl rfl dX9_blockCount_6 ?_
  exact wr_iret hx hb hr rfl hK hw ⟨(by show (_, _) = (_, _); unfold F_X9_blockCount; rfl), (by unfold E_X9_blockCount; rfl)⟩ hlocks dX9_blockCount_9
set_option maxHeartbeats 4000000 in
set_option maxRecDepth 100000 in
theorem k_X9_setEffort (l : Launch) (D : va_G) (ad : Nat → Nat) (cs : Nat → ClassId) (sz : Nat) (M : wM) (J : wJ) (d : Int32) (n : Int32)  : wCi l yX9_setEffort wsX9_setEffort { frames := 1, cells := 0, slots := 0, locals := 21 } D 23 mSh ad cs [.ref (ad 0), .int d, .int n] sz M J (fun r_ u_ => (inB d 11 ∧ inB n 6 ∧ u_ = (wU (wU (wU (wU M 0 0 (nI 0)) 0 12 d) 0 13 n) 0 16 (nI 0), J) ∧ r_ = (if M 0 12 = d ∧ M 0 13 = n then nI 0 else nI 1)) ∨ (¬ (inB d 11 ∧ inB n 6) ∧ u_ = ((wU (wU M 0 0 (nI 0)) 0 0 (nI 1)), J) ∧ r_ = nI 0)) := by
  refine wC_i (cc := cX9_setEffort) (maxL := 4) (ret := (some .boolean)) (by decide) rfl (Nat.le_of_ble_eq_true rfl) ?_
  intro p e s m below meth c ls A hx hb hr hml hown hts hlocks hK hA hw hl hAe
  clear hAe
  have hl : lv_has ls 4 [(0, .ref (ad 0)), (1, .int d), (2, .int n)] := hl
  have f87 : (Cond.fieldLink RX9 87 "RangePropagatorModel" "thrown" "I").before _ s = true := hts _ (by decide +kernel)
  have iX9 : ∀ w ∈ wsX90, w ∈ wsX9_setEffort := by decide +kernel
  have f44 : (Cond.fieldLink RX9 44 "RangePropagatorModel" "delay" "I").before _ s = true := hts _ (by decide +kernel)
  have f47 : (Cond.fieldLink RX9 47 "RangePropagatorModel" "narrowings" "I").before _ s = true := hts _ (by decide +kernel)
  have f96 : (Cond.fieldLink RX9 96 "RangePropagatorModel" "isMade" "Z").before _ s = true := hts _ (by decide +kernel)
  refine lv_aload_n hx hb dX9_setEffort_0 rfl (lv_at hl 0 rfl) ?_
  refine lv_iconst (v := nI 0) hx hb dX9_setEffort_1 (by decide) ?_
  refine wr_pi hx hb hown hK hts iX9 tyX9_ok nmX9 (ci := 8) rfl 0 (by decide) f87 rfl rfl hw 0 (by omega) rfl rfl rfl rfl dX9_setEffort_2 (fun H locs hw => ?_)
  refine lv_iload_n hx hb dX9_setEffort_5 rfl (lv_at hl 1 rfl) ?_
  refine lv_if_lt (tgt := 24) hx hb dX9_setEffort_6 (by decide) (fun q1 => ?_) (fun q1 => ?_)
  · skip
    refine lv_aload_n hx hb dX9_setEffort_24 rfl (lv_at hl 0 rfl) ?_
    refine lv_iconst (v := nI 1) hx hb dX9_setEffort_25 (by decide) ?_
    refine wr_cVi (k := 0) (ci := 8) (As := [.int (nI 1)]) (rest := []) ⟨hx, hb, hml, hown, hts⟩ (cwV 1 hts gX9_setEffort_X9_fail rfl rfl rfl (by decide +kernel) ⟨Nat.le_of_ble_eq_true rfl, Nat.le_of_ble_eq_true rfl⟩) hK hA hw (k_X9_fail l D ad cs H.size (wU M 0 0 (nI 0)) J (nI 1) ) (by omega) rfl rfl rfl rfl hl.1 (Nat.le_of_ble_eq_true rfl) ⟨Nat.le_of_ble_eq_true rfl, Nat.le_of_ble_eq_true rfl⟩ dX9_setEffort_26 (fun r2 M3 J4 H locs h5 hw => ?_)
    obtain ⟨h5, rfl⟩ := h5
    cases h5
    refine lv_if_eq (tgt := 36) hx hb dX9_setEffort_29 (by decide) (fun q6 => ?_) (fun q6 => ?_)
    · skip
      refine lv_iconst (v := nI 0) hx hb dX9_setEffort_36 (by decide) ?_
      exact wr_iret hx hb hr (by decide) hK hw (Or.inr ⟨fun z => absurd z.1 (nB_1 q1 (by decide)), rfl, rfl⟩) hlocks dX9_setEffort_37
    · skip
      exact absurd q6 (by decide)
  · skip
    refine lv_iload_n hx hb dX9_setEffort_9 rfl (lv_at hl 1 rfl) ?_
    refine lv_bipush (v := nI 10) hx hb dX9_setEffort_10 (by decide) ?_
    refine lv_icmp_gt (tgt := 24) hx hb dX9_setEffort_12 (by decide) (fun q7 => ?_) (fun q7 => ?_)
    · skip
      refine lv_aload_n hx hb dX9_setEffort_24 rfl (lv_at hl 0 rfl) ?_
      refine lv_iconst (v := nI 1) hx hb dX9_setEffort_25 (by decide) ?_
      refine wr_cVi (k := 0) (ci := 8) (As := [.int (nI 1)]) (rest := []) ⟨hx, hb, hml, hown, hts⟩ (cwV 1 hts gX9_setEffort_X9_fail rfl rfl rfl (by decide +kernel) ⟨Nat.le_of_ble_eq_true rfl, Nat.le_of_ble_eq_true rfl⟩) hK hA hw (k_X9_fail l D ad cs H.size (wU M 0 0 (nI 0)) J (nI 1) ) (by omega) rfl rfl rfl rfl hl.1 (Nat.le_of_ble_eq_true rfl) ⟨Nat.le_of_ble_eq_true rfl, Nat.le_of_ble_eq_true rfl⟩ dX9_setEffort_26 (fun r8 M9 J10 H locs h11 hw => ?_)
      obtain ⟨h11, rfl⟩ := h11
      cases h11
      refine lv_if_eq (tgt := 36) hx hb dX9_setEffort_29 (by decide) (fun q12 => ?_) (fun q12 => ?_)
      · skip
        refine lv_iconst (v := nI 0) hx hb dX9_setEffort_36 (by decide) ?_
        exact wr_iret hx hb hr (by decide) hK hw (Or.inr ⟨fun z => absurd z.1 (nB_3 (fun y => nle_lt2 y q7) (by decide)), rfl, rfl⟩) hlocks dX9_setEffort_37
      · skip
        exact absurd q12 (by decide)
    · skip
      refine lv_iload_n hx hb dX9_setEffort_15 rfl (lv_at hl 2 rfl) ?_
      refine lv_if_lt (tgt := 24) hx hb dX9_setEffort_16 (by decide) (fun q13 => ?_) (fun q13 => ?_)
      · skip
        refine lv_aload_n hx hb dX9_setEffort_24 rfl (lv_at hl 0 rfl) ?_
        refine lv_iconst (v := nI 1) hx hb dX9_setEffort_25 (by decide) ?_
        refine wr_cVi (k := 0) (ci := 8) (As := [.int (nI 1)]) (rest := []) ⟨hx, hb, hml, hown, hts⟩ (cwV 1 hts gX9_setEffort_X9_fail rfl rfl rfl (by decide +kernel) ⟨Nat.le_of_ble_eq_true rfl, Nat.le_of_ble_eq_true rfl⟩) hK hA hw (k_X9_fail l D ad cs H.size (wU M 0 0 (nI 0)) J (nI 1) ) (by omega) rfl rfl rfl rfl hl.1 (Nat.le_of_ble_eq_true rfl) ⟨Nat.le_of_ble_eq_true rfl, Nat.le_of_ble_eq_true rfl⟩ dX9_setEffort_26 (fun r14 M15 J16 H locs h17 hw => ?_)
        obtain ⟨h17, rfl⟩ := h17
        cases h17
        refine lv_if_eq (tgt := 36) hx hb dX9_setEffort_29 (by decide) (fun q18 => ?_) (fun q18 => ?_)
        · skip
          refine lv_iconst (v := nI 0) hx hb dX9_setEffort_36 (by decide) ?_
          exact wr_iret hx hb hr (by decide) hK hw (Or.inr ⟨fun z => absurd z.2 (nB_1 q13 (by decide)), rfl, rfl⟩) hlocks dX9_setEffort_37
        · skip
          exact absurd q18 (by decide)
      · skip
        refine lv_iload_n hx hb dX9_setEffort_19 rfl (lv_at hl 2 rfl) ?_
        refine lv_iconst (v := nI 5) hx hb dX9_setEffort_20 (by decide) ?_
        refine lv_icmp_le (tgt := 38) hx hb dX9_setEffort_21 (by decide) (fun q19 => ?_) (fun q19 => ?_)
        · skip
          refine lv_aload_n hx hb dX9_setEffort_38 rfl (lv_at hl 0 rfl) ?_
          refine wr_gi hx hb hown hK hts iX9 (ci := 8) rfl 12 (by decide) f44 rfl hw 0 (by omega) rfl rfl dX9_setEffort_39 ?_
          rw [show (wU M 0 0 (nI 0)) 0 12 = M 0 12 from (by simp only [wU_at]; simp)]
          refine lv_iload_n hx hb dX9_setEffort_42 rfl (lv_at hl 1 rfl) ?_
          refine lv_icmp_ne (tgt := 54) hx hb dX9_setEffort_43 (by decide) (fun q20 => ?_) (fun q20 => ?_)
          · skip
            refine lv_iconst (v := nI 1) hx hb dX9_setEffort_54 (by decide) ?_
            refine lv_goto (tgt := 59) hx hb dX9_setEffort_55 (by decide) ?_
            refine lv_istore_n (lv' := [(3, .int (nI 1)), (0, .ref (ad 0)), (1, .int d), (2, .int n)]) hx hb dX9_setEffort_59 rfl hl (by decide) rfl (fun ls hl => ?_)
            refine lv_aload_n hx hb dX9_setEffort_60 rfl (lv_at hl 1 rfl) ?_
            refine lv_iload_n hx hb dX9_setEffort_61 rfl (lv_at hl 2 rfl) ?_
            refine wr_pi hx hb hown hK hts iX9 tyX9_ok nmX9 (ci := 8) rfl 12 (by decide) f44 rfl rfl hw 0 (by omega) rfl rfl rfl rfl dX9_setEffort_62 (fun H locs hw => ?_)
            refine lv_aload_n hx hb dX9_setEffort_65 rfl (lv_at hl 1 rfl) ?_
            refine lv_iload_n hx hb dX9_setEffort_66 rfl (lv_at hl 3 rfl) ?_
            refine wr_pi hx hb hown hK hts iX9 tyX9_ok nmX9 (ci := 8) rfl 13 (by decide) f47 rfl rfl hw 0 (by omega) rfl rfl rfl rfl dX9_setEffort_67 (fun H locs hw => ?_)
            refine lv_aload_n hx hb dX9_setEffort_70 rfl (lv_at hl 1 rfl) ?_
            refine lv_iconst (v := nI 0) hx hb dX9_setEffort_71 (by decide) ?_
            refine wr_pi hx hb hown hK hts iX9 tyX9_ok nmX9 (ci := 8) rfl 16 (by decide) f96 rfl rfl hw 0 (by omega) rfl rfl (by decide) (by decide) dX9_setEffort_72 (fun H locs hw => ?_)
            refine lv_iload_n hx hb dX9_setEffort_75 rfl (lv_at hl 0 rfl) ?_
            exact wr_iret hx hb hr (by decide) hK hw (Or.inl ⟨inB_le q1 (nlt_le q7) (by decide), inB_le q13 q19 (by decide), rfl, (by rw [if_neg (fun z => q20 z.1)])⟩) hlocks dX9_setEffort_76
          · skip
            refine lv_aload_n hx hb dX9_setEffort_46 rfl (lv_at hl 0 rfl) ?_
            refine wr_gi hx hb hown hK hts iX9 (ci := 8) rfl 13 (by decide) f47 rfl hw 0 (by omega) rfl rfl dX9_setEffort_47 ?_
            rw [show (wU M 0 0 (nI 0)) 0 13 = M 0 13 from (by simp only [wU_at]; simp)]
            refine lv_iload_n hx hb dX9_setEffort_50 rfl (lv_at hl 2 rfl) ?_
            refine lv_icmp_eq (tgt := 58) hx hb dX9_setEffort_51 (by decide) (fun q21 => ?_) (fun q21 => ?_)
            · skip
              refine lv_iconst (v := nI 0) hx hb dX9_setEffort_58 (by decide) ?_
              refine lv_istore_n (lv' := [(3, .int (nI 0)), (0, .ref (ad 0)), (1, .int d), (2, .int n)]) hx hb dX9_setEffort_59 rfl hl (by decide) rfl (fun ls hl => ?_)
              refine lv_aload_n hx hb dX9_setEffort_60 rfl (lv_at hl 1 rfl) ?_
              refine lv_iload_n hx hb dX9_setEffort_61 rfl (lv_at hl 2 rfl) ?_
              refine wr_pi hx hb hown hK hts iX9 tyX9_ok nmX9 (ci := 8) rfl 12 (by decide) f44 rfl rfl hw 0 (by omega) rfl rfl rfl rfl dX9_setEffort_62 (fun H locs hw => ?_)
              refine lv_aload_n hx hb dX9_setEffort_65 rfl (lv_at hl 1 rfl) ?_
              refine lv_iload_n hx hb dX9_setEffort_66 rfl (lv_at hl 3 rfl) ?_
              refine wr_pi hx hb hown hK hts iX9 tyX9_ok nmX9 (ci := 8) rfl 13 (by decide) f47 rfl rfl hw 0 (by omega) rfl rfl rfl rfl dX9_setEffort_67 (fun H locs hw => ?_)
              refine lv_aload_n hx hb dX9_setEffort_70 rfl (lv_at hl 1 rfl) ?_
              refine lv_iconst (v := nI 0) hx hb dX9_setEffort_71 (by decide) ?_
              refine wr_pi hx hb hown hK hts iX9 tyX9_ok nmX9 (ci := 8) rfl 16 (by decide) f96 rfl rfl hw 0 (by omega) rfl rfl (by decide) (by decide) dX9_setEffort_72 (fun H locs hw => ?_)
              refine lv_iload_n hx hb dX9_setEffort_75 rfl (lv_at hl 0 rfl) ?_
              exact wr_iret hx hb hr (by decide) hK hw (Or.inl ⟨inB_le q1 (nlt_le q7) (by decide), inB_le q13 q19 (by decide), rfl, (by rw [if_pos ⟨q20, q21⟩])⟩) hlocks dX9_setEffort_76
            · skip
              refine lv_iconst (v := nI 1) hx hb dX9_setEffort_54 (by decide) ?_
              refine lv_goto (tgt := 59) hx hb dX9_setEffort_55 (by decide) ?_
              refine lv_istore_n (lv' := [(3, .int (nI 1)), (0, .ref (ad 0)), (1, .int d), (2, .int n)]) hx hb dX9_setEffort_59 rfl hl (by decide) rfl (fun ls hl => ?_)
              refine lv_aload_n hx hb dX9_setEffort_60 rfl (lv_at hl 1 rfl) ?_
              refine lv_iload_n hx hb dX9_setEffort_61 rfl (lv_at hl 2 rfl) ?_
              refine wr_pi hx hb hown hK hts iX9 tyX9_ok nmX9 (ci := 8) rfl 12 (by decide) f44 rfl rfl hw 0 (by omega) rfl rfl rfl rfl dX9_setEffort_62 (fun H locs hw => ?_)
              refine lv_aload_n hx hb dX9_setEffort_65 rfl (lv_at hl 1 rfl) ?_
              refine lv_iload_n hx hb dX9_setEffort_66 rfl (lv_at hl 3 rfl) ?_
              refine wr_pi hx hb hown hK hts iX9 tyX9_ok nmX9 (ci := 8) rfl 13 (by decide) f47 rfl rfl hw 0 (by omega) rfl rfl rfl rfl dX9_setEffort_67 (fun H locs hw => ?_)
              refine lv_aload_n hx hb dX9_setEffort_70 rfl (lv_at hl 1 rfl) ?_
              refine lv_iconst (v := nI 0) hx hb dX9_setEffort_71 (by decide) ?_
              refine wr_pi hx hb hown hK hts iX9 tyX9_ok nmX9 (ci := 8) rfl 16 (by decide) f96 rfl rfl hw 0 (by omega) rfl rfl (by decide) (by decide) dX9_setEffort_72 (fun H locs hw => ?_)
              refine lv_iload_n hx hb dX9_setEffort_75 rfl (lv_at hl 0 rfl) ?_
              exact wr_iret hx hb hr (by decide) hK hw (Or.inl ⟨inB_le q1 (nlt_le q7) (by decide), inB_le q13 q19 (by decide), rfl, (by rw [if_neg (fun z => q21 z.2)])⟩) hlocks dX9_setEffort_76
        · skip
          refine lv_aload_n hx hb dX9_setEffort_24 rfl (lv_at hl 0 rfl) ?_
          refine lv_iconst (v := nI 1) hx hb dX9_setEffort_25 (by decide) ?_
          refine wr_cVi (k := 0) (ci := 8) (As := [.int (nI 1)]) (rest := []) ⟨hx, hb, hml, hown, hts⟩ (cwV 1 hts gX9_setEffort_X9_fail rfl rfl rfl (by decide +kernel) ⟨Nat.le_of_ble_eq_true rfl, Nat.le_of_ble_eq_true rfl⟩) hK hA hw (k_X9_fail l D ad cs H.size (wU M 0 0 (nI 0)) J (nI 1) ) (by omega) rfl rfl rfl rfl hl.1 (Nat.le_of_ble_eq_true rfl) ⟨Nat.le_of_ble_eq_true rfl, Nat.le_of_ble_eq_true rfl⟩ dX9_setEffort_26 (fun r22 M23 J24 H locs h25 hw => ?_)
          obtain ⟨h25, rfl⟩ := h25
          cases h25
          refine lv_if_eq (tgt := 36) hx hb dX9_setEffort_29 (by decide) (fun q26 => ?_) (fun q26 => ?_)
          · skip
            refine lv_iconst (v := nI 0) hx hb dX9_setEffort_36 (by decide) ?_
            exact wr_iret hx hb hr (by decide) hK hw (Or.inr ⟨fun z => absurd z.2 (nB_3 q19 (by decide)), rfl, rfl⟩) hlocks dX9_setEffort_37
          · skip
            exact absurd q26 (by decide)
set_option maxHeartbeats 4000000 in
set_option maxRecDepth 100000 in
theorem k_X9_addThreshold (l : Launch) (D : va_G) (ad : Nat → Nat) (cs : Nat → ClassId) (sz : Nat) (M : wM) (J : wJ) (v : Int32) (t : Nat) (ht : M 0 14 = nI t) (ht8 : t ≤ 8) : wCi l yX9_addThreshold wsX9_addThreshold { frames := 1, cells := 0, slots := 0, locals := 21 } D 23 mSh ad cs [.ref (ad 0), .int v] sz M J (fun r_ u_ => ((¬ v ≤ (-1000000000 : Int32) ∧ v < (1000000000 : Int32)) ∧ t < 8 ∧ ((thI9 M v t ∧ u_ = ((wU (wU (wU (wU M 0 0 (nI 0)) 11 t v) 0 14 (nI (t + 0))) 0 16 (nI 0)), J) ∧ r_ = nI (t + 0)) ∨ (¬ thI9 M v t ∧ u_ = ((wU (wU (wU (wU M 0 0 (nI 0)) 11 t v) 0 14 (nI (t + 1))) 0 16 (nI 0)), J) ∧ r_ = nI (t + 1)))) ∨ (¬ (¬ v ≤ (-1000000000 : Int32) ∧ v < (1000000000 : Int32)) ∧ u_ = ((wU (wU M 0 0 (nI 0)) 0 0 (nI 1)), J) ∧ r_ = nI 0) ∨ ((¬ v ≤ (-1000000000 : Int32) ∧ v < (1000000000 : Int32)) ∧ ¬ t < 8 ∧ u_ = ((wU (wU M 0 0 (nI 0)) 0 0 (nI 2)), J) ∧ r_ = nI 0)) := by
  refine wC_i (cc := cX9_addThreshold) (maxL := 4) (ret := (some .int)) (by decide) rfl (Nat.le_of_ble_eq_true rfl) ?_
  intro p e s m below meth c ls A hx hb hr hml hown hts hlocks hK hA hw hl hAe
  clear hAe
  have hl : lv_has ls 4 [(0, .ref (ad 0)), (1, .int v)] := hl
  have f87 : (Cond.fieldLink RX9 87 "RangePropagatorModel" "thrown" "I").before _ s = true := hts _ (by decide +kernel)
  have iX9 : ∀ w ∈ wsX90, w ∈ wsX9_addThreshold := by decide +kernel
  have k90 : (Cond.constant RX9 90 (-1000000000)).before _ s = true := hts _ (by decide +kernel)
  have k91 : (Cond.constant RX9 91 (1000000000)).before _ s = true := hts _ (by decide +kernel)
  have f119 : (Cond.fieldLink RX9 119 "RangePropagatorModel" "thresholds" "I").before _ s = true := hts _ (by decide +kernel)
  have f50 : (Cond.fieldLink RX9 50 "RangePropagatorModel" "threshold" "[I").before _ s = true := hts _ (by decide +kernel)
  have f96 : (Cond.fieldLink RX9 96 "RangePropagatorModel" "isMade" "Z").before _ s = true := hts _ (by decide +kernel)
  refine lv_aload_n hx hb dX9_addThreshold_0 rfl (lv_at hl 0 rfl) ?_
  refine lv_iconst (v := nI 0) hx hb dX9_addThreshold_1 (by decide) ?_
  refine wr_pi hx hb hown hK hts iX9 tyX9_ok nmX9 (ci := 8) rfl 0 (by decide) f87 rfl rfl hw 0 (by omega) rfl rfl rfl rfl dX9_addThreshold_2 (fun H locs hw => ?_)
  refine lv_iload_n hx hb dX9_addThreshold_5 rfl (lv_at hl 1 rfl) ?_
  refine lv_ldc hx hb hown k90 dX9_addThreshold_6 ?_
  refine lv_icmp_le (tgt := 17) hx hb dX9_addThreshold_8 (by decide) (fun q1 => ?_) (fun q1 => ?_)
  · skip
    refine lv_aload_n hx hb dX9_addThreshold_17 rfl (lv_at hl 0 rfl) ?_
    refine lv_iconst (v := nI 1) hx hb dX9_addThreshold_18 (by decide) ?_
    refine wr_cVi (k := 0) (ci := 8) (As := [.int (nI 1)]) (rest := []) ⟨hx, hb, hml, hown, hts⟩ (cwV 1 hts gX9_addThreshold_X9_fail rfl rfl rfl (by decide +kernel) ⟨Nat.le_of_ble_eq_true rfl, Nat.le_of_ble_eq_true rfl⟩) hK hA hw (k_X9_fail l D ad cs H.size (wU M 0 0 (nI 0)) J (nI 1) ) (by omega) rfl rfl rfl rfl hl.1 (Nat.le_of_ble_eq_true rfl) ⟨Nat.le_of_ble_eq_true rfl, Nat.le_of_ble_eq_true rfl⟩ dX9_addThreshold_19 (fun r2 M3 J4 H locs h5 hw => ?_)
    obtain ⟨h5, rfl⟩ := h5
    cases h5
    exact wr_iret hx hb hr rfl hK hw (Or.inr (Or.inl ⟨fun z => z.1 q1, rfl, rfl⟩)) hlocks dX9_addThreshold_22
  · skip
    refine lv_iload_n hx hb dX9_addThreshold_11 rfl (lv_at hl 1 rfl) ?_
    refine lv_ldc hx hb hown k91 dX9_addThreshold_12 ?_
    refine lv_icmp_lt (tgt := 23) hx hb dX9_addThreshold_14 (by decide) (fun q6 => ?_) (fun q6 => ?_)
    · skip
      refine lv_aload_n hx hb dX9_addThreshold_23 rfl (lv_at hl 0 rfl) ?_
      refine wr_gi hx hb hown hK hts iX9 (ci := 8) rfl 14 (by decide) f119 rfl hw 0 (by omega) rfl rfl dX9_addThreshold_24 ?_
      rw [show (wU M 0 0 (nI 0)) 0 14 = nI t from (by simp only [wU_at]; simpa using ht)]
      refine lv_bipush (v := nI 8) hx hb dX9_addThreshold_27 (by decide) ?_
      refine lv_icmp_ne (tgt := 38) hx hb dX9_addThreshold_29 (by decide) (fun q7 => ?_) (fun q7 => ?_)
      · have q7n : ¬ t = 8 := fun z => q7 ((nI_eq (by omega) (by omega)).mpr z)
        refine lv_iconst (v := nI 1) hx hb dX9_addThreshold_38 (by decide) ?_
        refine lv_istore_n (lv' := [(2, .int (nI 1)), (0, .ref (ad 0)), (1, .int v)]) hx hb dX9_addThreshold_39 rfl hl (by decide) rfl (fun ls hl => ?_)
        refine lv_iconst (v := nI 0) hx hb dX9_addThreshold_40 (by decide) ?_
        refine lv_istore_n (lv' := [(3, .int (nI 0)), (2, .int (nI 1)), (0, .ref (ad 0)), (1, .int v)]) hx hb dX9_addThreshold_41 rfl hl (by decide) rfl (fun ls hl => ?_)
        refine w_loop (σ := Nat) (fun k M' J' ls => lv_has ls 4 [(0, .ref (ad 0)), (1, .int v), (2, .int (thT M v k)), (3, .int (nI k))] ∧ J' = J ∧ k ≤ t ∧ M' = (wU M 0 0 (nI 0)) ∧ True) (fun k => t - k) (fun k M8 J1_ H locs ls hI hw ih9 => ?_) 0 ⟨lv_sub hl [2, 3, 1, 0] rfl, rfl, by omega, rfl, trivial⟩ hw
        obtain ⟨hl, eJ_, hk_, hI⟩ := hI
        rw [eJ_] at hw
        clear eJ_
        obtain ⟨eM_, hI⟩ := hI
        rw [eM_] at hw
        clear eM_
        refine lv_iload_n hx hb dX9_addThreshold_42 rfl (lv_at hl 3 rfl) ?_
        refine lv_aload_n hx hb dX9_addThreshold_43 rfl (lv_at hl 0 rfl) ?_
        refine wr_gi hx hb hown hK hts iX9 (ci := 8) rfl 14 (by decide) f119 rfl hw 0 (by omega) rfl rfl dX9_addThreshold_44 ?_
        rw [show (wU M 0 0 (nI 0)) 0 14 = nI t from (by simp only [wU_at]; simpa using ht)]
        refine lv_icmp_ge (tgt := 76) hx hb dX9_addThreshold_47 (by decide) (fun q10 => ?_) (fun q10 => ?_)
        · have q10n : t ≤ k := (nI_leI (by omega) (by omega)).mp q10
          refine lv_aload_n hx hb dX9_addThreshold_76 rfl (lv_at hl 0 rfl) ?_
          refine wr_gr hx hb hown hK hts iX9 (ci := 8) rfl 15 (by decide) f50 rfl hw 0 (by omega) 11 rfl rfl dX9_addThreshold_77 ?_
          refine lv_aload_n hx hb dX9_addThreshold_80 rfl (lv_at hl 0 rfl) ?_
          refine wr_gi hx hb hown hK hts iX9 (ci := 8) rfl 14 (by decide) f119 rfl hw 0 (by omega) rfl rfl dX9_addThreshold_81 ?_
          rw [show (wU M 0 0 (nI 0)) 0 14 = nI t from (by simp only [wU_at]; simpa using ht)]
          refine lv_iload_n hx hb dX9_addThreshold_84 rfl (lv_at hl 1 rfl) ?_
          refine wr_istN hx hb hK hw 11 (by omega) rfl (by decide) t rfl (by omega) dX9_addThreshold_85 (fun H locs hw => ?_)
          refine lv_aload_n hx hb dX9_addThreshold_86 rfl (lv_at hl 0 rfl) ?_
          refine lv_dup hx hb dX9_addThreshold_87 rfl ?_
          refine wr_gi hx hb hown hK hts iX9 (ci := 8) rfl 14 (by decide) f119 rfl hw 0 (by omega) rfl rfl dX9_addThreshold_88 ?_
          rw [show (wU (wU M 0 0 (nI 0)) 11 t v) 0 14 = nI t from (by simp only [wU_at]; simpa using ht)]
          refine lv_iload_n hx hb dX9_addThreshold_91 rfl (lv_at hl 2 rfl) ?_
          refine lv_if_eq (tgt := 99) hx hb dX9_addThreshold_92 (by decide) (fun q11 => ?_) (fun q11 => ?_)
          · skip
            refine lv_iconst (v := nI 0) hx hb dX9_addThreshold_99 (by decide) ?_
            refine lv_iaddN hx hb dX9_addThreshold_100 ?_
            refine wr_pi hx hb hown hK hts iX9 tyX9_ok nmX9 (ci := 8) rfl 14 (by decide) f119 rfl rfl hw 0 (by omega) rfl rfl rfl rfl dX9_addThreshold_101 (fun H locs hw => ?_)
            refine lv_aload_n hx hb dX9_addThreshold_104 rfl (lv_at hl 0 rfl) ?_
            refine lv_iconst (v := nI 0) hx hb dX9_addThreshold_105 (by decide) ?_
            refine wr_pi hx hb hown hK hts iX9 tyX9_ok nmX9 (ci := 8) rfl 16 (by decide) f96 rfl rfl hw 0 (by omega) rfl rfl (by decide) (by decide) dX9_addThreshold_106 (fun H locs hw => ?_)
            refine lv_aload_n hx hb dX9_addThreshold_109 rfl (lv_at hl 0 rfl) ?_
            refine wr_gi hx hb hown hK hts iX9 (ci := 8) rfl 14 (by decide) f119 rfl hw 0 (by omega) rfl rfl dX9_addThreshold_110 ?_
            exact wr_iret hx hb hr rfl hK hw (Or.inl ⟨⟨q1, q6⟩, by omega, (by have e9 : k = t := (by omega); subst e9; exact p_at9a q11)⟩) hlocks dX9_addThreshold_113
          · skip
            refine lv_iconst (v := nI 1) hx hb dX9_addThreshold_95 (by decide) ?_
            refine lv_goto (tgt := 100) hx hb dX9_addThreshold_96 (by decide) ?_
            refine lv_iaddN hx hb dX9_addThreshold_100 ?_
            refine wr_pi hx hb hown hK hts iX9 tyX9_ok nmX9 (ci := 8) rfl 14 (by decide) f119 rfl rfl hw 0 (by omega) rfl rfl rfl rfl dX9_addThreshold_101 (fun H locs hw => ?_)
            refine lv_aload_n hx hb dX9_addThreshold_104 rfl (lv_at hl 0 rfl) ?_
            refine lv_iconst (v := nI 0) hx hb dX9_addThreshold_105 (by decide) ?_
            refine wr_pi hx hb hown hK hts iX9 tyX9_ok nmX9 (ci := 8) rfl 16 (by decide) f96 rfl rfl hw 0 (by omega) rfl rfl (by decide) (by decide) dX9_addThreshold_106 (fun H locs hw => ?_)
            refine lv_aload_n hx hb dX9_addThreshold_109 rfl (lv_at hl 0 rfl) ?_
            refine wr_gi hx hb hown hK hts iX9 (ci := 8) rfl 14 (by decide) f119 rfl hw 0 (by omega) rfl rfl dX9_addThreshold_110 ?_
            exact wr_iret hx hb hr rfl hK hw (Or.inl ⟨⟨q1, q6⟩, by omega, (by have e9 : k = t := (by omega); subst e9; exact p_at9b q11)⟩) hlocks dX9_addThreshold_113
        · have q10n : ¬ t ≤ k := fun z => q10 ((nI_leI (by omega) (by omega)).mpr z)
          refine lv_iload_n hx hb dX9_addThreshold_50 rfl (lv_at hl 2 rfl) ?_
          refine lv_if_eq (tgt := 68) hx hb dX9_addThreshold_51 (by decide) (fun q12 => ?_) (fun q12 => ?_)
          · skip
            refine lv_iconst (v := nI 0) hx hb dX9_addThreshold_68 (by decide) ?_
            refine lv_istore_n (lv' := [(2, .int (nI 0)), (0, .ref (ad 0)), (1, .int v), (3, .int (nI k))]) hx hb dX9_addThreshold_69 rfl hl (by decide) rfl (fun ls hl => ?_)
            refine lv_iinc (v := nI (k + 1)) (lv' := [(3, .int (nI (k + 1))), (2, .int (nI 0)), (0, .ref (ad 0)), (1, .int v)]) hx hb dX9_addThreshold_70 hl (k := 3) rfl (nI_1 _) (by decide) rfl (fun ls hl => ?_)
            refine lv_goto (tgt := 42) hx hb dX9_addThreshold_73 (by decide) ?_
            exact ih9 (k + 1) (wU M 0 0 (nI 0)) J _ _ _ (by omega) ⟨(by rw [thT_0 q12]; exact lv_sub hl [2, 3, 1, 0] rfl), rfl, by omega, rfl, trivial⟩ hw
          · skip
            refine lv_aload_n hx hb dX9_addThreshold_54 rfl (lv_at hl 0 rfl) ?_
            refine wr_gr hx hb hown hK hts iX9 (ci := 8) rfl 15 (by decide) f50 rfl hw 0 (by omega) 11 rfl rfl dX9_addThreshold_55 ?_
            refine lv_iload_n hx hb dX9_addThreshold_58 rfl (lv_at hl 3 rfl) ?_
            refine wr_ildN hx hb hK hw 11 (by omega) rfl (by decide) k rfl (by omega) dX9_addThreshold_59 ?_
            rw [show (wU M 0 0 (nI 0)) 11 k = M 11 k from (congrFun (wU_ne (by decide)) k)]
            refine lv_iload_n hx hb dX9_addThreshold_60 rfl (lv_at hl 1 rfl) ?_
            refine lv_icmp_eq (tgt := 68) hx hb dX9_addThreshold_61 (by decide) (fun q13 => ?_) (fun q13 => ?_)
            · skip
              refine lv_iconst (v := nI 0) hx hb dX9_addThreshold_68 (by decide) ?_
              refine lv_istore_n (lv' := [(2, .int (nI 0)), (0, .ref (ad 0)), (1, .int v), (3, .int (nI k))]) hx hb dX9_addThreshold_69 rfl hl (by decide) rfl (fun ls hl => ?_)
              refine lv_iinc (v := nI (k + 1)) (lv' := [(3, .int (nI (k + 1))), (2, .int (nI 0)), (0, .ref (ad 0)), (1, .int v)]) hx hb dX9_addThreshold_70 hl (k := 3) rfl (nI_1 _) (by decide) rfl (fun ls hl => ?_)
              refine lv_goto (tgt := 42) hx hb dX9_addThreshold_73 (by decide) ?_
              exact ih9 (k + 1) (wU M 0 0 (nI 0)) J _ _ _ (by omega) ⟨(by rw [thT_1 q12 q13]; exact lv_sub hl [2, 3, 1, 0] rfl), rfl, by omega, rfl, trivial⟩ hw
            · skip
              refine lv_iconst (v := nI 1) hx hb dX9_addThreshold_64 (by decide) ?_
              refine lv_goto (tgt := 69) hx hb dX9_addThreshold_65 (by decide) ?_
              refine lv_istore_n (lv' := [(2, .int (nI 1)), (0, .ref (ad 0)), (1, .int v), (3, .int (nI k))]) hx hb dX9_addThreshold_69 rfl hl (by decide) rfl (fun ls hl => ?_)
              refine lv_iinc (v := nI (k + 1)) (lv' := [(3, .int (nI (k + 1))), (2, .int (nI 1)), (0, .ref (ad 0)), (1, .int v)]) hx hb dX9_addThreshold_70 hl (k := 3) rfl (nI_1 _) (by decide) rfl (fun ls hl => ?_)
              refine lv_goto (tgt := 42) hx hb dX9_addThreshold_73 (by decide) ?_
              exact ih9 (k + 1) (wU M 0 0 (nI 0)) J _ _ _ (by omega) ⟨(by rw [thT_2 q12 q13]; exact lv_sub hl [2, 3, 1, 0] rfl), rfl, by omega, rfl, trivial⟩ hw
      · have q7n : t = 8 := (nI_eq (by omega) (by omega)).mp q7
        refine lv_aload_n hx hb dX9_addThreshold_32 rfl (lv_at hl 0 rfl) ?_
        refine lv_iconst (v := nI 2) hx hb dX9_addThreshold_33 (by decide) ?_
        refine wr_cVi (k := 0) (ci := 8) (As := [.int (nI 2)]) (rest := []) ⟨hx, hb, hml, hown, hts⟩ (cwV 1 hts gX9_addThreshold_X9_fail rfl rfl rfl (by decide +kernel) ⟨Nat.le_of_ble_eq_true rfl, Nat.le_of_ble_eq_true rfl⟩) hK hA hw (k_X9_fail l D ad cs H.size (wU M 0 0 (nI 0)) J (nI 2) ) (by omega) rfl rfl rfl rfl hl.1 (Nat.le_of_ble_eq_true rfl) ⟨Nat.le_of_ble_eq_true rfl, Nat.le_of_ble_eq_true rfl⟩ dX9_addThreshold_34 (fun r14 M15 J16 H locs h17 hw => ?_)
        obtain ⟨h17, rfl⟩ := h17
        cases h17
        exact wr_iret hx hb hr rfl hK hw (Or.inr (Or.inr ⟨⟨q1, q6⟩, by omega, rfl, rfl⟩)) hlocks dX9_addThreshold_37
    · skip
      refine lv_aload_n hx hb dX9_addThreshold_17 rfl (lv_at hl 0 rfl) ?_
      refine lv_iconst (v := nI 1) hx hb dX9_addThreshold_18 (by decide) ?_
      refine wr_cVi (k := 0) (ci := 8) (As := [.int (nI 1)]) (rest := []) ⟨hx, hb, hml, hown, hts⟩ (cwV 1 hts gX9_addThreshold_X9_fail rfl rfl rfl (by decide +kernel) ⟨Nat.le_of_ble_eq_true rfl, Nat.le_of_ble_eq_true rfl⟩) hK hA hw (k_X9_fail l D ad cs H.size (wU M 0 0 (nI 0)) J (nI 1) ) (by omega) rfl rfl rfl rfl hl.1 (Nat.le_of_ble_eq_true rfl) ⟨Nat.le_of_ble_eq_true rfl, Nat.le_of_ble_eq_true rfl⟩ dX9_addThreshold_19 (fun r18 M19 J20 H locs h21 hw => ?_)
      obtain ⟨h21, rfl⟩ := h21
      cases h21
      exact wr_iret hx hb hr rfl hK hw (Or.inr (Or.inl ⟨fun z => q6 z.2, rfl, rfl⟩)) hlocks dX9_addThreshold_22
