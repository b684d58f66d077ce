/-! the wrappers: laid by wip/gen/wrap.py -/
set_option maxHeartbeats 4000000 in
set_option maxRecDepth 100000 in
theorem k_L_addBlock (l : Launch) (hflag : l.stackTraces = false) (D : va_G) (ad : Nat → Nat) (cs : Nat → ClassId) (o : Nat) (f : Nat → Int64) (M : wM) (J : wJ) (cnt : Nat) (hn_9 : M 330 2 = nI cnt) (hn16_9 : cnt ≤ 16) : lMt l yL_addBlock wsL_addBlock { frames := 7, cells := 1, slots := 6, locals := 120 } D cs ad o f [.ref (ad 329), .ref o] M J 1 6 (wX_addBlock M J cnt) := by
  refine lM_of (cc := cL_addBlock) (maxL := 3) (hh := [(0, 8, 11, 13)]) (by decide) rfl (Nat.le_of_ble_eq_true rfl) ?_
  intro p e s m below meth c ls A hx hb hr hml hown hts hlocks hK hA hZ htab hc hl
  have hl : lv_has ls 3 [(0, .ref (ad 329)), (1, .ref o)] := hl
  refine lv_aload_n hx hb dL_addBlock_0 rfl (lv_at hl 1 rfl) ?_
  refine lv_iconst (v := nI 0) hx hb dL_addBlock_1 (by decide) ?_
  refine lv_aload_n hx hb dL_addBlock_2 rfl (lv_at hl 0 rfl) ?_
  refine lr_xVi (As := []) (rest := [.int (nI 0), .ref o]) (post := pX_addBlock M J cnt) (pxc := eX_addBlock M cnt) ⟨hx, hb, hml, hown, hts⟩ (cwV 0 hts gL_addBlock_X8_addBlock rfl rfl rfl (by decide +kernel) ⟨(Nat.le_of_ble_eq_true rfl), (Nat.le_of_ble_eq_true rfl)⟩) hK hA hZ hc (k_X8_addBlock l hflag D ad cs s.heap.size M J cnt hn_9 hn16_9) rfl rfl hl.1 (Nat.le_of_ble_eq_true rfl) ⟨(Nat.le_of_ble_eq_true rfl), (Nat.le_of_ble_eq_true rfl)⟩ dL_addBlock_3 ?_ ?_
  · intro E ce q9 H locs hp hc hce hcv hcl
    have hp0 := hp
    obtain ⟨rfl, hp⟩ := hp
    refine vx_catch (own := RL) (name := xIS) hown [] ⟨0, 8, 11, 13⟩ [] (htab.trans rfl) (fun z hz => absurd hz List.not_mem_nil) (by decide) (by decide) (hts (.classLink RL 13 xIS) (by decide +kernel)) (va_Nw.use rfl (hZ.2.2.2.1 xIS (by decide +kernel))) hce hcv hcl ?_
    refine lv_astore_n (lv' := [(2, .ref q9), (0, .ref (ad 329)), (1, .ref o)]) hx hb dL_addBlock_11 rfl hl (by decide) rfl (fun ls hl => ?_)
    refine lv_iconst (v := nI 1) hx hb dL_addBlock_12 (by decide) ?_
    exact lr_ret hx hb hr hK hc (Or.inr ⟨rfl, rfl, xIS, hp0, ⟨rfl, rfl⟩⟩) hlocks (Nat.le_of_ble_eq_true rfl) (Nat.le_of_ble_eq_true rfl) dL_addBlock_13
  · intro r9 M' J' H locs hq hc
    refine lv_i2l hx hb dL_addBlock_6 rfl ?_
    refine lr_ls hx hb hK hc dL_addBlock_7 (fun H locs hc => ?_)
    refine lv_goto (tgt := 14) hx hb dL_addBlock_8 (by decide) ?_
    refine lv_iconst (v := nI 0) hx hb dL_addBlock_14 (by decide) ?_
    exact lr_ret hx hb hr hK hc (Or.inl ⟨rfl, r9, hq, rfl⟩) hlocks (Nat.le_of_ble_eq_true rfl) (Nat.le_of_ble_eq_true rfl) dL_addBlock_15
set_option maxHeartbeats 4000000 in
set_option maxRecDepth 100000 in
theorem k_L_setInitial (l : Launch) (hflag : l.stackTraces = false) (D : va_G) (ad : Nat → Nat) (cs : Nat → ClassId) (o : Nat) (f : Nat → Int64) (M : wM) (J : wJ) (v : Int32) (lo : Int32) (up : Int32)  : lMt l yL_setInitial wsL_setInitial { frames := 8, cells := 2, slots := 12, locals := 146 } D cs ad o f [.ref (ad 329), .int v, .int lo, .int up, .ref o] M J 2 12 (wX_setInitial M J v lo up) := by
  refine lM_of (cc := cL_setInitial) (maxL := 6) (hh := [(0, 19, 22, 19), (0, 19, 26, 21)]) (by decide) rfl (Nat.le_of_ble_eq_true rfl) ?_
  intro p e s m below meth c ls A hx hb hr hml hown hts hlocks hK hA hZ htab hc hl
  have hl : lv_has ls 6 [(0, .ref (ad 329)), (1, .int v), (2, .int lo), (3, .int up), (4, .ref o)] := hl
  refine lv_aload hx hb dL_setInitial_0 (lv_at hl 4 rfl) ?_
  refine lv_iconst (v := nI 0) hx hb dL_setInitial_2 (by decide) ?_
  refine lv_aload_n hx hb dL_setInitial_3 rfl (lv_at hl 0 rfl) ?_
  refine lv_iload_n hx hb dL_setInitial_4 rfl (lv_at hl 1 rfl) ?_
  refine lv_iload_n hx hb dL_setInitial_5 rfl (lv_at hl 2 rfl) ?_
  refine lv_iload_n hx hb dL_setInitial_6 rfl (lv_at hl 3 rfl) ?_
  refine lr_xVi (As := [.int v, .int lo, .int up]) (rest := [.int (nI 0), .ref o]) (post := pX_setInitial M J v lo up) (pxc := eX_setInitial M v lo up) ⟨hx, hb, hml, hown, hts⟩ (cwV 3 hts gL_setInitial_X8_setInitial rfl rfl rfl (by decide +kernel) ⟨(Nat.le_of_ble_eq_true rfl), (Nat.le_of_ble_eq_true rfl)⟩) hK hA hZ hc (k_X8_setInitial l hflag D ad cs s.heap.size M J v lo up ) rfl rfl hl.1 (Nat.le_of_ble_eq_true rfl) ⟨(Nat.le_of_ble_eq_true rfl), (Nat.le_of_ble_eq_true rfl)⟩ dL_setInitial_7 ?_ ?_
  · intro E ce q9 H locs hp hc hce hcv hcl
    have hp0 := hp
    rcases hp with ⟨rfl, hp⟩ | ⟨rfl, hp⟩
    · refine vx_catch (own := RL) (name := xIX) hown [] ⟨0, 19, 22, 19⟩ [⟨0, 19, 26, 21⟩] (htab.trans rfl) (fun z hz => absurd hz List.not_mem_nil) (by decide) (by decide) (hts (.classLink RL 19 xIX) (by decide +kernel)) (va_Nw.use rfl (hZ.2.2.2.1 xIX (by decide +kernel))) hce hcv hcl ?_
      refine lv_astore (lv' := [(5, .ref q9), (0, .ref (ad 329)), (1, .int v), (2, .int lo), (3, .int up), (4, .ref o)]) hx hb dL_setInitial_22 hl (by decide) rfl (fun ls hl => ?_)
      refine lv_iconst (v := nI 1) hx hb dL_setInitial_24 (by decide) ?_
      exact lr_ret hx hb hr hK hc (Or.inr ⟨rfl, rfl, xIX, hp0, Or.inl ⟨rfl, rfl⟩⟩) hlocks (Nat.le_of_ble_eq_true rfl) (Nat.le_of_ble_eq_true rfl) dL_setInitial_25
    · refine vx_catch (own := RL) (name := xIA) hown [⟨0, 19, 22, 19⟩] ⟨0, 19, 26, 21⟩ [] (htab.trans rfl) (List.forall_mem_cons.mpr ⟨Or.inr ⟨by decide, xIX, hts (.classLink RL 19 xIX) (by decide +kernel), hZ.2.2.2.2.1 xIA (by decide +kernel) xIX (by decide +kernel) (by decide)⟩, (fun z hz => absurd hz List.not_mem_nil)⟩) (by decide) (by decide) (hts (.classLink RL 21 xIA) (by decide +kernel)) (va_Nw.use rfl (hZ.2.2.2.1 xIA (by decide +kernel))) hce hcv hcl ?_
      refine lv_astore (lv' := [(5, .ref q9), (0, .ref (ad 329)), (1, .int v), (2, .int lo), (3, .int up), (4, .ref o)]) hx hb dL_setInitial_26 hl (by decide) rfl (fun ls hl => ?_)
      refine lv_iconst (v := nI 2) hx hb dL_setInitial_28 (by decide) ?_
      exact lr_ret hx hb hr hK hc (Or.inr ⟨rfl, rfl, xIA, hp0, Or.inr (⟨rfl, rfl⟩)⟩) hlocks (Nat.le_of_ble_eq_true rfl) (Nat.le_of_ble_eq_true rfl) dL_setInitial_29
  · intro r9 M' J' H locs hq hc
    refine lv_if_eq (tgt := 17) hx hb dL_setInitial_10 (by decide) (fun z => ?_) (fun z => ?_)
    · refine lv_lconst (v := 0) hx hb dL_setInitial_17 rfl ?_
      refine lr_ls hx hb hK hc dL_setInitial_18 (fun H locs hc => ?_)
      refine lv_goto (tgt := 30) hx hb dL_setInitial_19 (by decide) ?_
      refine lv_iconst (v := nI 0) hx hb dL_setInitial_30 (by decide) ?_
      exact lr_ret hx hb hr hK hc (Or.inl ⟨rfl, r9, hq, (if_pos z).symm⟩) hlocks (Nat.le_of_ble_eq_true rfl) (Nat.le_of_ble_eq_true rfl) dL_setInitial_31
    · refine lv_lconst (v := 1) hx hb dL_setInitial_13 rfl ?_
      refine lv_goto (tgt := 18) hx hb dL_setInitial_14 (by decide) ?_
      refine lr_ls hx hb hK hc dL_setInitial_18 (fun H locs hc => ?_)
      refine lv_goto (tgt := 30) hx hb dL_setInitial_19 (by decide) ?_
      refine lv_iconst (v := nI 0) hx hb dL_setInitial_30 (by decide) ?_
      exact lr_ret hx hb hr hK hc (Or.inl ⟨rfl, r9, hq, (if_neg z).symm⟩) hlocks (Nat.le_of_ble_eq_true rfl) (Nat.le_of_ble_eq_true rfl) dL_setInitial_31
set_option maxHeartbeats 4000000 in
set_option maxRecDepth 100000 in
theorem k_L_input (l : Launch) (hflag : l.stackTraces = false) (D : va_G) (ad : Nat → Nat) (cs : Nat → ClassId) (o : Nat) (f : Nat → Int64) (M : wM) (J : wJ) (b : Int32) (x : Int32) (lo : Int32) (up : Int32) (cnt : Nat) (hn_9 : M 330 2 = nI cnt) (hn16_9 : cnt ≤ 16) (hPr_9 : ∀ b, b < 16 → blOK M b) : lMt l yL_input wsL_input { frames := 8, cells := 4, slots := 24, locals := 145 } D cs ad o f [.ref (ad 329), .int b, .int x, .int lo, .int up, .ref o] M J 4 24 (wX_input M J b x lo up cnt) := by
  refine lM_of (cc := cL_input) (maxL := 7) (hh := [(0, 14, 17, 19), (0, 14, 21, 21), (0, 14, 25, 13)]) (by decide) rfl (Nat.le_of_ble_eq_true rfl) ?_
  intro p e s m below meth c ls A hx hb hr hml hown hts hlocks hK hA hZ htab hc hl
  have hl : lv_has ls 7 [(0, .ref (ad 329)), (1, .int b), (2, .int x), (3, .int lo), (4, .int up), (5, .ref o)] := hl
  refine lv_aload hx hb dL_input_0 (lv_at hl 5 rfl) ?_
  refine lv_iconst (v := nI 0) hx hb dL_input_2 (by decide) ?_
  refine lv_aload_n hx hb dL_input_3 rfl (lv_at hl 0 rfl) ?_
  refine lv_iload_n hx hb dL_input_4 rfl (lv_at hl 1 rfl) ?_
  refine lv_iload_n hx hb dL_input_5 rfl (lv_at hl 2 rfl) ?_
  refine lv_iload_n hx hb dL_input_6 rfl (lv_at hl 3 rfl) ?_
  refine lv_iload hx hb dL_input_7 (lv_at hl 4 rfl) ?_
  refine lr_xVi (As := [.int b, .int x, .int lo, .int up]) (rest := [.int (nI 0), .ref o]) (post := pX_input M J b x lo up cnt) (pxc := eX_input M b x lo up cnt) ⟨hx, hb, hml, hown, hts⟩ (cwV 4 hts gL_input_X8_input rfl rfl rfl (by decide +kernel) ⟨(Nat.le_of_ble_eq_true rfl), (Nat.le_of_ble_eq_true rfl)⟩) hK hA hZ hc (k_X8_input l hflag D ad cs s.heap.size M J b x lo up cnt hn_9 hn16_9 hPr_9) rfl rfl hl.1 (Nat.le_of_ble_eq_true rfl) ⟨(Nat.le_of_ble_eq_true rfl), (Nat.le_of_ble_eq_true rfl)⟩ dL_input_9 ?_ ?_
  · intro E ce q9 H locs hp hc hce hcv hcl
    have hp0 := hp
    rcases hp with ⟨rfl, hp⟩ | ⟨rfl, hp⟩ | ⟨rfl, hp⟩
    · refine vx_catch (own := RL) (name := xIX) hown [] ⟨0, 14, 17, 19⟩ [⟨0, 14, 21, 21⟩, ⟨0, 14, 25, 13⟩] (htab.trans rfl) (fun z hz => absurd hz List.not_mem_nil) (by decide) (by decide) (hts (.classLink RL 19 xIX) (by decide +kernel)) (va_Nw.use rfl (hZ.2.2.2.1 xIX (by decide +kernel))) hce hcv hcl ?_
      refine lv_astore (lv' := [(6, .ref q9), (0, .ref (ad 329)), (1, .int b), (2, .int x), (3, .int lo), (4, .int up), (5, .ref o)]) hx hb dL_input_17 hl (by decide) rfl (fun ls hl => ?_)
      refine lv_iconst (v := nI 1) hx hb dL_input_19 (by decide) ?_
      exact lr_ret hx hb hr hK hc (Or.inr ⟨rfl, rfl, xIX, hp0, Or.inl ⟨rfl, rfl⟩⟩) hlocks (Nat.le_of_ble_eq_true rfl) (Nat.le_of_ble_eq_true rfl) dL_input_20
    · refine vx_catch (own := RL) (name := xIA) hown [⟨0, 14, 17, 19⟩] ⟨0, 14, 21, 21⟩ [⟨0, 14, 25, 13⟩] (htab.trans rfl) (List.forall_mem_cons.mpr ⟨Or.inr ⟨by decide, xIX, hts (.classLink RL 19 xIX) (by decide +kernel), hZ.2.2.2.2.1 xIA (by decide +kernel) xIX (by decide +kernel) (by decide)⟩, (fun z hz => absurd hz List.not_mem_nil)⟩) (by decide) (by decide) (hts (.classLink RL 21 xIA) (by decide +kernel)) (va_Nw.use rfl (hZ.2.2.2.1 xIA (by decide +kernel))) hce hcv hcl ?_
      refine lv_astore (lv' := [(6, .ref q9), (0, .ref (ad 329)), (1, .int b), (2, .int x), (3, .int lo), (4, .int up), (5, .ref o)]) hx hb dL_input_21 hl (by decide) rfl (fun ls hl => ?_)
      refine lv_iconst (v := nI 2) hx hb dL_input_23 (by decide) ?_
      exact lr_ret hx hb hr hK hc (Or.inr ⟨rfl, rfl, xIA, hp0, Or.inr (Or.inl ⟨rfl, rfl⟩)⟩) hlocks (Nat.le_of_ble_eq_true rfl) (Nat.le_of_ble_eq_true rfl) dL_input_24
    · refine vx_catch (own := RL) (name := xIS) hown [⟨0, 14, 17, 19⟩, ⟨0, 14, 21, 21⟩] ⟨0, 14, 25, 13⟩ [] (htab.trans rfl) (List.forall_mem_cons.mpr ⟨Or.inr ⟨by decide, xIX, hts (.classLink RL 19 xIX) (by decide +kernel), hZ.2.2.2.2.1 xIS (by decide +kernel) xIX (by decide +kernel) (by decide)⟩, (List.forall_mem_cons.mpr ⟨Or.inr ⟨by decide, xIA, hts (.classLink RL 21 xIA) (by decide +kernel), hZ.2.2.2.2.1 xIS (by decide +kernel) xIA (by decide +kernel) (by decide)⟩, (fun z hz => absurd hz List.not_mem_nil)⟩)⟩) (by decide) (by decide) (hts (.classLink RL 13 xIS) (by decide +kernel)) (va_Nw.use rfl (hZ.2.2.2.1 xIS (by decide +kernel))) hce hcv hcl ?_
      refine lv_astore (lv' := [(6, .ref q9), (0, .ref (ad 329)), (1, .int b), (2, .int x), (3, .int lo), (4, .int up), (5, .ref o)]) hx hb dL_input_25 hl (by decide) rfl (fun ls hl => ?_)
      refine lv_iconst (v := nI 3) hx hb dL_input_27 (by decide) ?_
      exact lr_ret hx hb hr hK hc (Or.inr ⟨rfl, rfl, xIS, hp0, Or.inr (Or.inr (⟨rfl, rfl⟩))⟩) hlocks (Nat.le_of_ble_eq_true rfl) (Nat.le_of_ble_eq_true rfl) dL_input_28
  · intro r9 M' J' H locs hq hc
    refine lv_i2l hx hb dL_input_12 rfl ?_
    refine lr_ls hx hb hK hc dL_input_13 (fun H locs hc => ?_)
    refine lv_goto (tgt := 29) hx hb dL_input_14 (by decide) ?_
    refine lv_iconst (v := nI 0) hx hb dL_input_29 (by decide) ?_
    exact lr_ret hx hb hr hK hc (Or.inl ⟨rfl, r9, hq, rfl⟩) hlocks (Nat.le_of_ble_eq_true rfl) (Nat.le_of_ble_eq_true rfl) dL_input_30
set_option maxHeartbeats 4000000 in
set_option maxRecDepth 100000 in
theorem k_L_compute (l : Launch) (hflag : l.stackTraces = false) (D : va_G) (ad : Nat → Nat) (cs : Nat → ClassId) (o : Nat) (f : Nat → Int64) (M : wM) (J : wJ) (b : Int32) (k : Int32) (x : Int32) (y : Int32) (z : Int32) (cnt : Nat) (hn_9 : M 330 2 = nI cnt) (hn16_9 : cnt ≤ 16) (hPr_9 : ∀ b, b < 16 → blOK M b) : lMt l yL_compute wsL_compute { frames := 8, cells := 5, slots := 30, locals := 146 } D cs ad o f [.ref (ad 329), .int b, .int k, .int x, .int y, .int z, .ref o] M J 5 30 (wX_compute M J b k x y z cnt) := by
  refine lM_of (cc := cL_compute) (maxL := 8) (hh := [(0, 16, 19, 19), (0, 16, 23, 21), (0, 16, 27, 13)]) (by decide) rfl (Nat.le_of_ble_eq_true rfl) ?_
  intro p e s m below meth c ls A hx hb hr hml hown hts hlocks hK hA hZ htab hc hl
  have hl : lv_has ls 8 [(0, .ref (ad 329)), (1, .int b), (2, .int k), (3, .int x), (4, .int y), (5, .int z), (6, .ref o)] := hl
  refine lv_aload hx hb dL_compute_0 (lv_at hl 6 rfl) ?_
  refine lv_iconst (v := nI 0) hx hb dL_compute_2 (by decide) ?_
  refine lv_aload_n hx hb dL_compute_3 rfl (lv_at hl 0 rfl) ?_
  refine lv_iload_n hx hb dL_compute_4 rfl (lv_at hl 1 rfl) ?_
  refine lv_iload_n hx hb dL_compute_5 rfl (lv_at hl 2 rfl) ?_
  refine lv_iload_n hx hb dL_compute_6 rfl (lv_at hl 3 rfl) ?_
  refine lv_iload hx hb dL_compute_7 (lv_at hl 4 rfl) ?_
  refine lv_iload hx hb dL_compute_9 (lv_at hl 5 rfl) ?_
  refine lr_xVi (As := [.int b, .int k, .int x, .int y, .int z]) (rest := [.int (nI 0), .ref o]) (post := pX_compute M J b k x y z cnt) (pxc := eX_compute M b k x y z cnt) ⟨hx, hb, hml, hown, hts⟩ (cwV 5 hts gL_compute_X8_compute rfl rfl rfl (by decide +kernel) ⟨(Nat.le_of_ble_eq_true rfl), (Nat.le_of_ble_eq_true rfl)⟩) hK hA hZ hc (k_X8_compute l hflag D ad cs s.heap.size M J b k x y z cnt hn_9 hn16_9 hPr_9) rfl rfl hl.1 (Nat.le_of_ble_eq_true rfl) ⟨(Nat.le_of_ble_eq_true rfl), (Nat.le_of_ble_eq_true rfl)⟩ dL_compute_11 ?_ ?_
  · intro E ce q9 H locs hp hc hce hcv hcl
    have hp0 := hp
    rcases hp with ⟨rfl, hp⟩ | ⟨rfl, hp⟩ | ⟨rfl, hp⟩
    · refine vx_catch (own := RL) (name := xIX) hown [] ⟨0, 16, 19, 19⟩ [⟨0, 16, 23, 21⟩, ⟨0, 16, 27, 13⟩] (htab.trans rfl) (fun z hz => absurd hz List.not_mem_nil) (by decide) (by decide) (hts (.classLink RL 19 xIX) (by decide +kernel)) (va_Nw.use rfl (hZ.2.2.2.1 xIX (by decide +kernel))) hce hcv hcl ?_
      refine lv_astore (lv' := [(7, .ref q9), (0, .ref (ad 329)), (1, .int b), (2, .int k), (3, .int x), (4, .int y), (5, .int z), (6, .ref o)]) hx hb dL_compute_19 hl (by decide) rfl (fun ls hl => ?_)
      refine lv_iconst (v := nI 1) hx hb dL_compute_21 (by decide) ?_
      exact lr_ret hx hb hr hK hc (Or.inr ⟨rfl, rfl, xIX, hp0, Or.inl ⟨rfl, rfl⟩⟩) hlocks (Nat.le_of_ble_eq_true rfl) (Nat.le_of_ble_eq_true rfl) dL_compute_22
    · refine vx_catch (own := RL) (name := xIA) hown [⟨0, 16, 19, 19⟩] ⟨0, 16, 23, 21⟩ [⟨0, 16, 27, 13⟩] (htab.trans rfl) (List.forall_mem_cons.mpr ⟨Or.inr ⟨by decide, xIX, hts (.classLink RL 19 xIX) (by decide +kernel), hZ.2.2.2.2.1 xIA (by decide +kernel) xIX (by decide +kernel) (by decide)⟩, (fun z hz => absurd hz List.not_mem_nil)⟩) (by decide) (by decide) (hts (.classLink RL 21 xIA) (by decide +kernel)) (va_Nw.use rfl (hZ.2.2.2.1 xIA (by decide +kernel))) hce hcv hcl ?_
      refine lv_astore (lv' := [(7, .ref q9), (0, .ref (ad 329)), (1, .int b), (2, .int k), (3, .int x), (4, .int y), (5, .int z), (6, .ref o)]) hx hb dL_compute_23 hl (by decide) rfl (fun ls hl => ?_)
      refine lv_iconst (v := nI 2) hx hb dL_compute_25 (by decide) ?_
      exact lr_ret hx hb hr hK hc (Or.inr ⟨rfl, rfl, xIA, hp0, Or.inr (Or.inl ⟨rfl, rfl⟩)⟩) hlocks (Nat.le_of_ble_eq_true rfl) (Nat.le_of_ble_eq_true rfl) dL_compute_26
    · refine vx_catch (own := RL) (name := xIS) hown [⟨0, 16, 19, 19⟩, ⟨0, 16, 23, 21⟩] ⟨0, 16, 27, 13⟩ [] (htab.trans rfl) (List.forall_mem_cons.mpr ⟨Or.inr ⟨by decide, xIX, hts (.classLink RL 19 xIX) (by decide +kernel), hZ.2.2.2.2.1 xIS (by decide +kernel) xIX (by decide +kernel) (by decide)⟩, (List.forall_mem_cons.mpr ⟨Or.inr ⟨by decide, xIA, hts (.classLink RL 21 xIA) (by decide +kernel), hZ.2.2.2.2.1 xIS (by decide +kernel) xIA (by decide +kernel) (by decide)⟩, (fun z hz => absurd hz List.not_mem_nil)⟩)⟩) (by decide) (by decide) (hts (.classLink RL 13 xIS) (by decide +kernel)) (va_Nw.use rfl (hZ.2.2.2.1 xIS (by decide +kernel))) hce hcv hcl ?_
      refine lv_astore (lv' := [(7, .ref q9), (0, .ref (ad 329)), (1, .int b), (2, .int k), (3, .int x), (4, .int y), (5, .int z), (6, .ref o)]) hx hb dL_compute_27 hl (by decide) rfl (fun ls hl => ?_)
      refine lv_iconst (v := nI 3) hx hb dL_compute_29 (by decide) ?_
      exact lr_ret hx hb hr hK hc (Or.inr ⟨rfl, rfl, xIS, hp0, Or.inr (Or.inr (⟨rfl, rfl⟩))⟩) hlocks (Nat.le_of_ble_eq_true rfl) (Nat.le_of_ble_eq_true rfl) dL_compute_30
  · intro r9 M' J' H locs hq hc
    refine lv_i2l hx hb dL_compute_14 rfl ?_
    refine lr_ls hx hb hK hc dL_compute_15 (fun H locs hc => ?_)
    refine lv_goto (tgt := 31) hx hb dL_compute_16 (by decide) ?_
    refine lv_iconst (v := nI 0) hx hb dL_compute_31 (by decide) ?_
    exact lr_ret hx hb hr hK hc (Or.inl ⟨rfl, r9, hq, rfl⟩) hlocks (Nat.le_of_ble_eq_true rfl) (Nat.le_of_ble_eq_true rfl) dL_compute_32
set_option maxHeartbeats 4000000 in
set_option maxRecDepth 100000 in
theorem k_L_jump (l : Launch) (hflag : l.stackTraces = false) (D : va_G) (ad : Nat → Nat) (cs : Nat → ClassId) (o : Nat) (f : Nat → Int64) (M : wM) (J : wJ) (b : Int32) (a : Int32) (cnt : Nat) (hn_9 : M 330 2 = nI cnt) (hn16_9 : cnt ≤ 16) : lMt l yL_jump wsL_jump { frames := 8, cells := 2, slots := 12, locals := 145 } D cs ad o f [.ref (ad 329), .int b, .int a, .ref o] M J 2 12 (wX_jump M J b a cnt) := by
  refine lM_of (cc := cL_jump) (maxL := 5) (hh := [(0, 10, 13, 19)]) (by decide) rfl (Nat.le_of_ble_eq_true rfl) ?_
  intro p e s m below meth c ls A hx hb hr hml hown hts hlocks hK hA hZ htab hc hl
  have hl : lv_has ls 5 [(0, .ref (ad 329)), (1, .int b), (2, .int a), (3, .ref o)] := hl
  refine lv_aload_n hx hb dL_jump_0 rfl (lv_at hl 3 rfl) ?_
  refine lv_iconst (v := nI 0) hx hb dL_jump_1 (by decide) ?_
  refine lv_aload_n hx hb dL_jump_2 rfl (lv_at hl 0 rfl) ?_
  refine lv_iload_n hx hb dL_jump_3 rfl (lv_at hl 1 rfl) ?_
  refine lv_iload_n hx hb dL_jump_4 rfl (lv_at hl 2 rfl) ?_
  refine lr_xVi (As := [.int b, .int a]) (rest := [.int (nI 0), .ref o]) (post := pX_jump M J b a cnt) (pxc := eX_jump M b a cnt) ⟨hx, hb, hml, hown, hts⟩ (cwV 2 hts gL_jump_X8_jump rfl rfl rfl (by decide +kernel) ⟨(Nat.le_of_ble_eq_true rfl), (Nat.le_of_ble_eq_true rfl)⟩) hK hA hZ hc (k_X8_jump l hflag D ad cs s.heap.size M J b a cnt hn_9 hn16_9) rfl rfl hl.1 (Nat.le_of_ble_eq_true rfl) ⟨(Nat.le_of_ble_eq_true rfl), (Nat.le_of_ble_eq_true rfl)⟩ dL_jump_5 ?_ ?_
  · intro E ce q9 H locs hp hc hce hcv hcl
    have hp0 := hp
    obtain ⟨rfl, hp⟩ := hp
    refine vx_catch (own := RL) (name := xIX) hown [] ⟨0, 10, 13, 19⟩ [] (htab.trans rfl) (fun z hz => absurd hz List.not_mem_nil) (by decide) (by decide) (hts (.classLink RL 19 xIX) (by decide +kernel)) (va_Nw.use rfl (hZ.2.2.2.1 xIX (by decide +kernel))) hce hcv hcl ?_
    refine lv_astore (lv' := [(4, .ref q9), (0, .ref (ad 329)), (1, .int b), (2, .int a), (3, .ref o)]) hx hb dL_jump_13 hl (by decide) rfl (fun ls hl => ?_)
    refine lv_iconst (v := nI 1) hx hb dL_jump_15 (by decide) ?_
    exact lr_ret hx hb hr hK hc (Or.inr ⟨rfl, rfl, xIX, hp0, ⟨rfl, rfl⟩⟩) hlocks (Nat.le_of_ble_eq_true rfl) (Nat.le_of_ble_eq_true rfl) dL_jump_16
  · intro r9 M' J' H locs hq hc
    refine lv_i2l hx hb dL_jump_8 rfl ?_
    refine lr_ls hx hb hK hc dL_jump_9 (fun H locs hc => ?_)
    refine lv_goto (tgt := 17) hx hb dL_jump_10 (by decide) ?_
    refine lv_iconst (v := nI 0) hx hb dL_jump_17 (by decide) ?_
    exact lr_ret hx hb hr hK hc (Or.inl ⟨rfl, r9, hq, rfl⟩) hlocks (Nat.le_of_ble_eq_true rfl) (Nat.le_of_ble_eq_true rfl) dL_jump_18
set_option maxHeartbeats 4000000 in
set_option maxRecDepth 100000 in
theorem k_L_branch (l : Launch) (hflag : l.stackTraces = false) (D : va_G) (ad : Nat → Nat) (cs : Nat → ClassId) (o : Nat) (f : Nat → Int64) (M : wM) (J : wJ) (b : Int32) (x : Int32) (r : Int32) (y : Int32) (a : Int32) (d : Int32) (cnt : Nat) (hn_9 : M 330 2 = nI cnt) (hn16_9 : cnt ≤ 16) : lMt l yL_branch wsL_branch { frames := 8, cells := 6, slots := 36, locals := 149 } D cs ad o f [.ref (ad 329), .int b, .int x, .int r, .int y, .int a, .int d, .ref o] M J 6 36 (wX_branch M J b x r y a d cnt) := by
  refine lM_of (cc := cL_branch) (maxL := 9) (hh := [(0, 18, 21, 19), (0, 18, 25, 21)]) (by decide) rfl (Nat.le_of_ble_eq_true rfl) ?_
  intro p e s m below meth c ls A hx hb hr hml hown hts hlocks hK hA hZ htab hc hl
  have hl : lv_has ls 9 [(0, .ref (ad 329)), (1, .int b), (2, .int x), (3, .int r), (4, .int y), (5, .int a), (6, .int d), (7, .ref o)] := hl
  refine lv_aload hx hb dL_branch_0 (lv_at hl 7 rfl) ?_
  refine lv_iconst (v := nI 0) hx hb dL_branch_2 (by decide) ?_
  refine lv_aload_n hx hb dL_branch_3 rfl (lv_at hl 0 rfl) ?_
  refine lv_iload_n hx hb dL_branch_4 rfl (lv_at hl 1 rfl) ?_
  refine lv_iload_n hx hb dL_branch_5 rfl (lv_at hl 2 rfl) ?_
  refine lv_iload_n hx hb dL_branch_6 rfl (lv_at hl 3 rfl) ?_
  refine lv_iload hx hb dL_branch_7 (lv_at hl 4 rfl) ?_
  refine lv_iload hx hb dL_branch_9 (lv_at hl 5 rfl) ?_
  refine lv_iload hx hb dL_branch_11 (lv_at hl 6 rfl) ?_
  refine lr_xVi (As := [.int b, .int x, .int r, .int y, .int a, .int d]) (rest := [.int (nI 0), .ref o]) (post := pX_branch M J b x r y a d cnt) (pxc := eX_branch M b x r y a d cnt) ⟨hx, hb, hml, hown, hts⟩ (cwV 6 hts gL_branch_X8_branch rfl rfl rfl (by decide +kernel) ⟨(Nat.le_of_ble_eq_true rfl), (Nat.le_of_ble_eq_true rfl)⟩) hK hA hZ hc (k_X8_branch l hflag D ad cs s.heap.size M J b x r y a d cnt hn_9 hn16_9) rfl rfl hl.1 (Nat.le_of_ble_eq_true rfl) ⟨(Nat.le_of_ble_eq_true rfl), (Nat.le_of_ble_eq_true rfl)⟩ dL_branch_13 ?_ ?_
  · intro E ce q9 H locs hp hc hce hcv hcl
    have hp0 := hp
    rcases hp with ⟨rfl, hp⟩ | ⟨rfl, hp⟩
    · refine vx_catch (own := RL) (name := xIX) hown [] ⟨0, 18, 21, 19⟩ [⟨0, 18, 25, 21⟩] (htab.trans rfl) (fun z hz => absurd hz List.not_mem_nil) (by decide) (by decide) (hts (.classLink RL 19 xIX) (by decide +kernel)) (va_Nw.use rfl (hZ.2.2.2.1 xIX (by decide +kernel))) hce hcv hcl ?_
      refine lv_astore (lv' := [(8, .ref q9), (0, .ref (ad 329)), (1, .int b), (2, .int x), (3, .int r), (4, .int y), (5, .int a), (6, .int d), (7, .ref o)]) hx hb dL_branch_21 hl (by decide) rfl (fun ls hl => ?_)
      refine lv_iconst (v := nI 1) hx hb dL_branch_23 (by decide) ?_
      exact lr_ret hx hb hr hK hc (Or.inr ⟨rfl, rfl, xIX, hp0, Or.inl ⟨rfl, rfl⟩⟩) hlocks (Nat.le_of_ble_eq_true rfl) (Nat.le_of_ble_eq_true rfl) dL_branch_24
    · refine vx_catch (own := RL) (name := xIA) hown [⟨0, 18, 21, 19⟩] ⟨0, 18, 25, 21⟩ [] (htab.trans rfl) (List.forall_mem_cons.mpr ⟨Or.inr ⟨by decide, xIX, hts (.classLink RL 19 xIX) (by decide +kernel), hZ.2.2.2.2.1 xIA (by decide +kernel) xIX (by decide +kernel) (by decide)⟩, (fun z hz => absurd hz List.not_mem_nil)⟩) (by decide) (by decide) (hts (.classLink RL 21 xIA) (by decide +kernel)) (va_Nw.use rfl (hZ.2.2.2.1 xIA (by decide +kernel))) hce hcv hcl ?_
      refine lv_astore (lv' := [(8, .ref q9), (0, .ref (ad 329)), (1, .int b), (2, .int x), (3, .int r), (4, .int y), (5, .int a), (6, .int d), (7, .ref o)]) hx hb dL_branch_25 hl (by decide) rfl (fun ls hl => ?_)
      refine lv_iconst (v := nI 2) hx hb dL_branch_27 (by decide) ?_
      exact lr_ret hx hb hr hK hc (Or.inr ⟨rfl, rfl, xIA, hp0, Or.inr (⟨rfl, rfl⟩)⟩) hlocks (Nat.le_of_ble_eq_true rfl) (Nat.le_of_ble_eq_true rfl) dL_branch_28
  · intro r9 M' J' H locs hq hc
    refine lv_i2l hx hb dL_branch_16 rfl ?_
    refine lr_ls hx hb hK hc dL_branch_17 (fun H locs hc => ?_)
    refine lv_goto (tgt := 29) hx hb dL_branch_18 (by decide) ?_
    refine lv_iconst (v := nI 0) hx hb dL_branch_29 (by decide) ?_
    exact lr_ret hx hb hr hK hc (Or.inl ⟨rfl, r9, hq, rfl⟩) hlocks (Nat.le_of_ble_eq_true rfl) (Nat.le_of_ble_eq_true rfl) dL_branch_30
set_option maxHeartbeats 4000000 in
set_option maxRecDepth 100000 in
theorem k_L_clear (l : Launch) (hflag : l.stackTraces = false) (D : va_G) (ad : Nat → Nat) (cs : Nat → ClassId) (o : Nat) (f : Nat → Int64) (M : wM) (J : wJ) (b : Int32) (cnt : Nat) (hn_9 : M 330 2 = nI cnt) (hn16_9 : cnt ≤ 16) : lMt l yL_clear wsL_clear { frames := 8, cells := 1, slots := 6, locals := 144 } D cs ad o f [.ref (ad 329), .int b, .ref o] M J 1 6 (wX_clear M J b cnt) := by
  refine lM_of (cc := cL_clear) (maxL := 4) (hh := [(0, 9, 12, 19)]) (by decide) rfl (Nat.le_of_ble_eq_true rfl) ?_
  intro p e s m below meth c ls A hx hb hr hml hown hts hlocks hK hA hZ htab hc hl
  have hl : lv_has ls 4 [(0, .ref (ad 329)), (1, .int b), (2, .ref o)] := hl
  refine lv_aload_n hx hb dL_clear_0 rfl (lv_at hl 2 rfl) ?_
  refine lv_iconst (v := nI 0) hx hb dL_clear_1 (by decide) ?_
  refine lv_aload_n hx hb dL_clear_2 rfl (lv_at hl 0 rfl) ?_
  refine lv_iload_n hx hb dL_clear_3 rfl (lv_at hl 1 rfl) ?_
  refine lr_xVi (As := [.int b]) (rest := [.int (nI 0), .ref o]) (post := pX_clear M J b cnt) (pxc := eX_clear M b cnt) ⟨hx, hb, hml, hown, hts⟩ (cwV 1 hts gL_clear_X8_clear rfl rfl rfl (by decide +kernel) ⟨(Nat.le_of_ble_eq_true rfl), (Nat.le_of_ble_eq_true rfl)⟩) hK hA hZ hc (k_X8_clear l hflag D ad cs s.heap.size M J b cnt hn_9 hn16_9) rfl rfl hl.1 (Nat.le_of_ble_eq_true rfl) ⟨(Nat.le_of_ble_eq_true rfl), (Nat.le_of_ble_eq_true rfl)⟩ dL_clear_4 ?_ ?_
  · intro E ce q9 H locs hp hc hce hcv hcl
    have hp0 := hp
    obtain ⟨rfl, hp⟩ := hp
    refine vx_catch (own := RL) (name := xIX) hown [] ⟨0, 9, 12, 19⟩ [] (htab.trans rfl) (fun z hz => absurd hz List.not_mem_nil) (by decide) (by decide) (hts (.classLink RL 19 xIX) (by decide +kernel)) (va_Nw.use rfl (hZ.2.2.2.1 xIX (by decide +kernel))) hce hcv hcl ?_
    refine lv_astore_n (lv' := [(3, .ref q9), (0, .ref (ad 329)), (1, .int b), (2, .ref o)]) hx hb dL_clear_12 rfl hl (by decide) rfl (fun ls hl => ?_)
    refine lv_iconst (v := nI 1) hx hb dL_clear_13 (by decide) ?_
    exact lr_ret hx hb hr hK hc (Or.inr ⟨rfl, rfl, xIX, hp0, ⟨rfl, rfl⟩⟩) hlocks (Nat.le_of_ble_eq_true rfl) (Nat.le_of_ble_eq_true rfl) dL_clear_14
  · intro r9 M' J' H locs hq hc
    refine lv_i2l hx hb dL_clear_7 rfl ?_
    refine lr_ls hx hb hK hc dL_clear_8 (fun H locs hc => ?_)
    refine lv_goto (tgt := 15) hx hb dL_clear_9 (by decide) ?_
    refine lv_iconst (v := nI 0) hx hb dL_clear_15 (by decide) ?_
    exact lr_ret hx hb hr hK hc (Or.inl ⟨rfl, r9, hq, rfl⟩) hlocks (Nat.le_of_ble_eq_true rfl) (Nat.le_of_ble_eq_true rfl) dL_clear_16
set_option maxHeartbeats 4000000 in
set_option maxRecDepth 100000 in
theorem k_L_setEffort (l : Launch) (hflag : l.stackTraces = false) (D : va_G) (ad : Nat → Nat) (cs : Nat → ClassId) (o : Nat) (f : Nat → Int64) (M : wM) (J : wJ) (d : Int32) (n : Int32)  : lMt l yL_setEffort wsL_setEffort { frames := 7, cells := 1, slots := 6, locals := 123 } D cs ad o f [.ref (ad 329), .int d, .int n, .ref o] M J 1 6 (wX_setEffort M J d n) := by
  refine lM_of (cc := cL_setEffort) (maxL := 5) (hh := [(0, 17, 20, 21)]) (by decide) rfl (Nat.le_of_ble_eq_true rfl) ?_
  intro p e s m below meth c ls A hx hb hr hml hown hts hlocks hK hA hZ htab hc hl
  have hl : lv_has ls 5 [(0, .ref (ad 329)), (1, .int d), (2, .int n), (3, .ref o)] := hl
  refine lv_aload_n hx hb dL_setEffort_0 rfl (lv_at hl 3 rfl) ?_
  refine lv_iconst (v := nI 0) hx hb dL_setEffort_1 (by decide) ?_
  refine lv_aload_n hx hb dL_setEffort_2 rfl (lv_at hl 0 rfl) ?_
  refine lv_iload_n hx hb dL_setEffort_3 rfl (lv_at hl 1 rfl) ?_
  refine lv_iload_n hx hb dL_setEffort_4 rfl (lv_at hl 2 rfl) ?_
  refine lr_xVi (As := [.int d, .int n]) (rest := [.int (nI 0), .ref o]) (post := pX_setEffort M J d n) (pxc := eX_setEffort M d n) ⟨hx, hb, hml, hown, hts⟩ (cwV 2 hts gL_setEffort_X8_setEffort rfl rfl rfl (by decide +kernel) ⟨(Nat.le_of_ble_eq_true rfl), (Nat.le_of_ble_eq_true rfl)⟩) hK hA hZ hc (k_X8_setEffort l hflag D ad cs s.heap.size M J d n ) rfl rfl hl.1 (Nat.le_of_ble_eq_true rfl) ⟨(Nat.le_of_ble_eq_true rfl), (Nat.le_of_ble_eq_true rfl)⟩ dL_setEffort_5 ?_ ?_
  · intro E ce q9 H locs hp hc hce hcv hcl
    have hp0 := hp
    obtain ⟨rfl, hp⟩ := hp
    refine vx_catch (own := RL) (name := xIA) hown [] ⟨0, 17, 20, 21⟩ [] (htab.trans rfl) (fun z hz => absurd hz List.not_mem_nil) (by decide) (by decide) (hts (.classLink RL 21 xIA) (by decide +kernel)) (va_Nw.use rfl (hZ.2.2.2.1 xIA (by decide +kernel))) hce hcv hcl ?_
    refine lv_astore (lv' := [(4, .ref q9), (0, .ref (ad 329)), (1, .int d), (2, .int n), (3, .ref o)]) hx hb dL_setEffort_20 hl (by decide) rfl (fun ls hl => ?_)
    refine lv_iconst (v := nI 1) hx hb dL_setEffort_22 (by decide) ?_
    exact lr_ret hx hb hr hK hc (Or.inr ⟨rfl, rfl, xIA, hp0, ⟨rfl, rfl⟩⟩) hlocks (Nat.le_of_ble_eq_true rfl) (Nat.le_of_ble_eq_true rfl) dL_setEffort_23
  · intro r9 M' J' H locs hq hc
    refine lv_if_eq (tgt := 15) hx hb dL_setEffort_8 (by decide) (fun z => ?_) (fun z => ?_)
    · refine lv_lconst (v := 0) hx hb dL_setEffort_15 rfl ?_
      refine lr_ls hx hb hK hc dL_setEffort_16 (fun H locs hc => ?_)
      refine lv_goto (tgt := 24) hx hb dL_setEffort_17 (by decide) ?_
      refine lv_iconst (v := nI 0) hx hb dL_setEffort_24 (by decide) ?_
      exact lr_ret hx hb hr hK hc (Or.inl ⟨rfl, r9, hq, (if_pos z).symm⟩) hlocks (Nat.le_of_ble_eq_true rfl) (Nat.le_of_ble_eq_true rfl) dL_setEffort_25
    · refine lv_lconst (v := 1) hx hb dL_setEffort_11 rfl ?_
      refine lv_goto (tgt := 16) hx hb dL_setEffort_12 (by decide) ?_
      refine lr_ls hx hb hK hc dL_setEffort_16 (fun H locs hc => ?_)
      refine lv_goto (tgt := 24) hx hb dL_setEffort_17 (by decide) ?_
      refine lv_iconst (v := nI 0) hx hb dL_setEffort_24 (by decide) ?_
      exact lr_ret hx hb hr hK hc (Or.inl ⟨rfl, r9, hq, (if_neg z).symm⟩) hlocks (Nat.le_of_ble_eq_true rfl) (Nat.le_of_ble_eq_true rfl) dL_setEffort_25
set_option maxHeartbeats 4000000 in
set_option maxRecDepth 100000 in
theorem k_L_addThreshold (l : Launch) (hflag : l.stackTraces = false) (D : va_G) (ad : Nat → Nat) (cs : Nat → ClassId) (o : Nat) (f : Nat → Int64) (M : wM) (J : wJ) (v : Int32) (t : Nat) (ht_9 : M 332 2 = nI t) (ht8_9 : t ≤ 8) : lMt l yL_addThreshold wsL_addThreshold { frames := 7, cells := 1, slots := 6, locals := 121 } D cs ad o f [.ref (ad 329), .int v, .ref o] M J 1 6 (wX_addThreshold M J v t) := by
  refine lM_of (cc := cL_addThreshold) (maxL := 4) (hh := [(0, 9, 12, 21), (0, 9, 15, 13)]) (by decide) rfl (Nat.le_of_ble_eq_true rfl) ?_
  intro p e s m below meth c ls A hx hb hr hml hown hts hlocks hK hA hZ htab hc hl
  have hl : lv_has ls 4 [(0, .ref (ad 329)), (1, .int v), (2, .ref o)] := hl
  refine lv_aload_n hx hb dL_addThreshold_0 rfl (lv_at hl 2 rfl) ?_
  refine lv_iconst (v := nI 0) hx hb dL_addThreshold_1 (by decide) ?_
  refine lv_aload_n hx hb dL_addThreshold_2 rfl (lv_at hl 0 rfl) ?_
  refine lv_iload_n hx hb dL_addThreshold_3 rfl (lv_at hl 1 rfl) ?_
  refine lr_xVi (As := [.int v]) (rest := [.int (nI 0), .ref o]) (post := pX_addThreshold M J v t) (pxc := eX_addThreshold M v t) ⟨hx, hb, hml, hown, hts⟩ (cwV 1 hts gL_addThreshold_X8_addThreshold rfl rfl rfl (by decide +kernel) ⟨(Nat.le_of_ble_eq_true rfl), (Nat.le_of_ble_eq_true rfl)⟩) hK hA hZ hc (k_X8_addThreshold l hflag D ad cs s.heap.size M J v t ht_9 ht8_9) rfl rfl hl.1 (Nat.le_of_ble_eq_true rfl) ⟨(Nat.le_of_ble_eq_true rfl), (Nat.le_of_ble_eq_true rfl)⟩ dL_addThreshold_4 ?_ ?_
  · intro E ce q9 H locs hp hc hce hcv hcl
    have hp0 := hp
    rcases hp with ⟨rfl, hp⟩ | ⟨rfl, hp⟩
    · refine vx_catch (own := RL) (name := xIA) hown [] ⟨0, 9, 12, 21⟩ [⟨0, 9, 15, 13⟩] (htab.trans rfl) (fun z hz => absurd hz List.not_mem_nil) (by decide) (by decide) (hts (.classLink RL 21 xIA) (by decide +kernel)) (va_Nw.use rfl (hZ.2.2.2.1 xIA (by decide +kernel))) hce hcv hcl ?_
      refine lv_astore_n (lv' := [(3, .ref q9), (0, .ref (ad 329)), (1, .int v), (2, .ref o)]) hx hb dL_addThreshold_12 rfl hl (by decide) rfl (fun ls hl => ?_)
      refine lv_iconst (v := nI 1) hx hb dL_addThreshold_13 (by decide) ?_
      exact lr_ret hx hb hr hK hc (Or.inr ⟨rfl, rfl, xIA, hp0, Or.inl ⟨rfl, rfl⟩⟩) hlocks (Nat.le_of_ble_eq_true rfl) (Nat.le_of_ble_eq_true rfl) dL_addThreshold_14
    · refine vx_catch (own := RL) (name := xIS) hown [⟨0, 9, 12, 21⟩] ⟨0, 9, 15, 13⟩ [] (htab.trans rfl) (List.forall_mem_cons.mpr ⟨Or.inr ⟨by decide, xIA, hts (.classLink RL 21 xIA) (by decide +kernel), hZ.2.2.2.2.1 xIS (by decide +kernel) xIA (by decide +kernel) (by decide)⟩, (fun z hz => absurd hz List.not_mem_nil)⟩) (by decide) (by decide) (hts (.classLink RL 13 xIS) (by decide +kernel)) (va_Nw.use rfl (hZ.2.2.2.1 xIS (by decide +kernel))) hce hcv hcl ?_
      refine lv_astore_n (lv' := [(3, .ref q9), (0, .ref (ad 329)), (1, .int v), (2, .ref o)]) hx hb dL_addThreshold_15 rfl hl (by decide) rfl (fun ls hl => ?_)
      refine lv_iconst (v := nI 2) hx hb dL_addThreshold_16 (by decide) ?_
      exact lr_ret hx hb hr hK hc (Or.inr ⟨rfl, rfl, xIS, hp0, Or.inr (⟨rfl, rfl⟩)⟩) hlocks (Nat.le_of_ble_eq_true rfl) (Nat.le_of_ble_eq_true rfl) dL_addThreshold_17
  · intro r9 M' J' H locs hq hc
    refine lv_i2l hx hb dL_addThreshold_7 rfl ?_
    refine lr_ls hx hb hK hc dL_addThreshold_8 (fun H locs hc => ?_)
    refine lv_goto (tgt := 18) hx hb dL_addThreshold_9 (by decide) ?_
    refine lv_iconst (v := nI 0) hx hb dL_addThreshold_18 (by decide) ?_
    exact lr_ret hx hb hr hK hc (Or.inl ⟨rfl, r9, hq, rfl⟩) hlocks (Nat.le_of_ble_eq_true rfl) (Nat.le_of_ble_eq_true rfl) dL_addThreshold_19
set_option maxHeartbeats 4000000 in
set_option maxRecDepth 100000 in
theorem k_L_isReachable (l : Launch) (hflag : l.stackTraces = false) (D : va_G) (ad : Nat → Nat) (cs : Nat → ClassId) (o : Nat) (f : Nat → Int64) (M : wM) (J : wJ) (b : Int32) (cnt : Nat) (hn_9 : M 330 2 = nI cnt) (hn16_9 : cnt ≤ 16) : lMt l yL_isReachable wsL_isReachable { frames := 8, cells := 2, slots := 12, locals := 142 } D cs ad o f [.ref (ad 329), .int b, .ref o] M J 2 12 (wX_isReachable M J b cnt) := by
  refine lM_of (cc := cL_isReachable) (maxL := 4) (hh := [(0, 16, 19, 13), (0, 16, 22, 19)]) (by decide) rfl (Nat.le_of_ble_eq_true rfl) ?_
  intro p e s m below meth c ls A hx hb hr hml hown hts hlocks hK hA hZ htab hc hl
  have hl : lv_has ls 4 [(0, .ref (ad 329)), (1, .int b), (2, .ref o)] := hl
  refine lv_aload_n hx hb dL_isReachable_0 rfl (lv_at hl 2 rfl) ?_
  refine lv_iconst (v := nI 0) hx hb dL_isReachable_1 (by decide) ?_
  refine lv_aload_n hx hb dL_isReachable_2 rfl (lv_at hl 0 rfl) ?_
  refine lv_iload_n hx hb dL_isReachable_3 rfl (lv_at hl 1 rfl) ?_
  refine lr_xVi (As := [.int b]) (rest := [.int (nI 0), .ref o]) (post := pX_isReachable M J b cnt) (pxc := eX_isReachable M b cnt) ⟨hx, hb, hml, hown, hts⟩ (cwV 1 hts gL_isReachable_X8_isReachable rfl rfl rfl (by decide +kernel) ⟨(Nat.le_of_ble_eq_true rfl), (Nat.le_of_ble_eq_true rfl)⟩) hK hA hZ hc (k_X8_isReachable l hflag D ad cs s.heap.size M J b cnt hn_9 hn16_9) rfl rfl hl.1 (Nat.le_of_ble_eq_true rfl) ⟨(Nat.le_of_ble_eq_true rfl), (Nat.le_of_ble_eq_true rfl)⟩ dL_isReachable_4 ?_ ?_
  · intro E ce q9 H locs hp hc hce hcv hcl
    have hp0 := hp
    rcases hp with ⟨rfl, hp⟩ | ⟨rfl, hp⟩
    · refine vx_catch (own := RL) (name := xIS) hown [] ⟨0, 16, 19, 13⟩ [⟨0, 16, 22, 19⟩] (htab.trans rfl) (fun z hz => absurd hz List.not_mem_nil) (by decide) (by decide) (hts (.classLink RL 13 xIS) (by decide +kernel)) (va_Nw.use rfl (hZ.2.2.2.1 xIS (by decide +kernel))) hce hcv hcl ?_
      refine lv_astore_n (lv' := [(3, .ref q9), (0, .ref (ad 329)), (1, .int b), (2, .ref o)]) hx hb dL_isReachable_19 rfl hl (by decide) rfl (fun ls hl => ?_)
      refine lv_iconst (v := nI 1) hx hb dL_isReachable_20 (by decide) ?_
      exact lr_ret hx hb hr hK hc (Or.inr ⟨rfl, rfl, xIS, hp0, Or.inl ⟨rfl, rfl⟩⟩) hlocks (Nat.le_of_ble_eq_true rfl) (Nat.le_of_ble_eq_true rfl) dL_isReachable_21
    · refine vx_catch (own := RL) (name := xIX) hown [⟨0, 16, 19, 13⟩] ⟨0, 16, 22, 19⟩ [] (htab.trans rfl) (List.forall_mem_cons.mpr ⟨Or.inr ⟨by decide, xIS, hts (.classLink RL 13 xIS) (by decide +kernel), hZ.2.2.2.2.1 xIX (by decide +kernel) xIS (by decide +kernel) (by decide)⟩, (fun z hz => absurd hz List.not_mem_nil)⟩) (by decide) (by decide) (hts (.classLink RL 19 xIX) (by decide +kernel)) (va_Nw.use rfl (hZ.2.2.2.1 xIX (by decide +kernel))) hce hcv hcl ?_
      refine lv_astore_n (lv' := [(3, .ref q9), (0, .ref (ad 329)), (1, .int b), (2, .ref o)]) hx hb dL_isReachable_22 rfl hl (by decide) rfl (fun ls hl => ?_)
      refine lv_iconst (v := nI 2) hx hb dL_isReachable_23 (by decide) ?_
      exact lr_ret hx hb hr hK hc (Or.inr ⟨rfl, rfl, xIX, hp0, Or.inr (⟨rfl, rfl⟩)⟩) hlocks (Nat.le_of_ble_eq_true rfl) (Nat.le_of_ble_eq_true rfl) dL_isReachable_24
  · intro r9 M' J' H locs hq hc
    refine lv_if_eq (tgt := 14) hx hb dL_isReachable_7 (by decide) (fun z => ?_) (fun z => ?_)
    · refine lv_lconst (v := 0) hx hb dL_isReachable_14 rfl ?_
      refine lr_ls hx hb hK hc dL_isReachable_15 (fun H locs hc => ?_)
      refine lv_goto (tgt := 25) hx hb dL_isReachable_16 (by decide) ?_
      refine lv_iconst (v := nI 0) hx hb dL_isReachable_25 (by decide) ?_
      exact lr_ret hx hb hr hK hc (Or.inl ⟨rfl, r9, hq, (if_pos z).symm⟩) hlocks (Nat.le_of_ble_eq_true rfl) (Nat.le_of_ble_eq_true rfl) dL_isReachable_26
    · refine lv_lconst (v := 1) hx hb dL_isReachable_10 rfl ?_
      refine lv_goto (tgt := 15) hx hb dL_isReachable_11 (by decide) ?_
      refine lr_ls hx hb hK hc dL_isReachable_15 (fun H locs hc => ?_)
      refine lv_goto (tgt := 25) hx hb dL_isReachable_16 (by decide) ?_
      refine lv_iconst (v := nI 0) hx hb dL_isReachable_25 (by decide) ?_
      exact lr_ret hx hb hr hK hc (Or.inl ⟨rfl, r9, hq, (if_neg z).symm⟩) hlocks (Nat.le_of_ble_eq_true rfl) (Nat.le_of_ble_eq_true rfl) dL_isReachable_26
set_option maxHeartbeats 4000000 in
set_option maxRecDepth 100000 in
theorem k_L_entry (l : Launch) (hflag : l.stackTraces = false) (D : va_G) (ad : Nat → Nat) (cs : Nat → ClassId) (o : Nat) (f : Nat → Int64) (M : wM) (J : wJ) (b : Int32) (v : Int32) (h : Int32) (cnt : Nat) (hn_9 : M 330 2 = nI cnt) (hn16_9 : cnt ≤ 16) : lMt l yL_entry wsL_entry { frames := 8, cells := 4, slots := 24, locals := 145 } D cs ad o f [.ref (ad 329), .int b, .int v, .int h, .ref o] M J 4 24 (wX_entry M J b v h cnt) := by
  refine lM_of (cc := cL_entry) (maxL := 6) (hh := [(0, 12, 15, 13), (0, 12, 19, 19), (0, 12, 23, 58)]) (by decide) rfl (Nat.le_of_ble_eq_true rfl) ?_
  intro p e s m below meth c ls A hx hb hr hml hown hts hlocks hK hA hZ htab hc hl
  have hl : lv_has ls 6 [(0, .ref (ad 329)), (1, .int b), (2, .int v), (3, .int h), (4, .ref o)] := hl
  refine lv_aload hx hb dL_entry_0 (lv_at hl 4 rfl) ?_
  refine lv_iconst (v := nI 0) hx hb dL_entry_2 (by decide) ?_
  refine lv_aload_n hx hb dL_entry_3 rfl (lv_at hl 0 rfl) ?_
  refine lv_iload_n hx hb dL_entry_4 rfl (lv_at hl 1 rfl) ?_
  refine lv_iload_n hx hb dL_entry_5 rfl (lv_at hl 2 rfl) ?_
  refine lv_iload_n hx hb dL_entry_6 rfl (lv_at hl 3 rfl) ?_
  refine lr_xVi (As := [.int b, .int v, .int h]) (rest := [.int (nI 0), .ref o]) (post := pX_entry M J b v h cnt) (pxc := eX_entry M b v h cnt) ⟨hx, hb, hml, hown, hts⟩ (cwV 3 hts gL_entry_X8_entry rfl rfl rfl (by decide +kernel) ⟨(Nat.le_of_ble_eq_true rfl), (Nat.le_of_ble_eq_true rfl)⟩) hK hA hZ hc (k_X8_entry l hflag D ad cs s.heap.size M J b v h cnt hn_9 hn16_9) rfl rfl hl.1 (Nat.le_of_ble_eq_true rfl) ⟨(Nat.le_of_ble_eq_true rfl), (Nat.le_of_ble_eq_true rfl)⟩ dL_entry_7 ?_ ?_
  · intro E ce q9 H locs hp hc hce hcv hcl
    have hp0 := hp
    rcases hp with ⟨rfl, hp⟩ | ⟨rfl, hp⟩ | ⟨rfl, hp⟩
    · refine vx_catch (own := RL) (name := xIS) hown [] ⟨0, 12, 15, 13⟩ [⟨0, 12, 19, 19⟩, ⟨0, 12, 23, 58⟩] (htab.trans rfl) (fun z hz => absurd hz List.not_mem_nil) (by decide) (by decide) (hts (.classLink RL 13 xIS) (by decide +kernel)) (va_Nw.use rfl (hZ.2.2.2.1 xIS (by decide +kernel))) hce hcv hcl ?_
      refine lv_astore (lv' := [(5, .ref q9), (0, .ref (ad 329)), (1, .int b), (2, .int v), (3, .int h), (4, .ref o)]) hx hb dL_entry_15 hl (by decide) rfl (fun ls hl => ?_)
      refine lv_iconst (v := nI 1) hx hb dL_entry_17 (by decide) ?_
      exact lr_ret hx hb hr hK hc (Or.inr ⟨rfl, rfl, xIS, hp0, Or.inl ⟨rfl, rfl⟩⟩) hlocks (Nat.le_of_ble_eq_true rfl) (Nat.le_of_ble_eq_true rfl) dL_entry_18
    · refine vx_catch (own := RL) (name := xIX) hown [⟨0, 12, 15, 13⟩] ⟨0, 12, 19, 19⟩ [⟨0, 12, 23, 58⟩] (htab.trans rfl) (List.forall_mem_cons.mpr ⟨Or.inr ⟨by decide, xIS, hts (.classLink RL 13 xIS) (by decide +kernel), hZ.2.2.2.2.1 xIX (by decide +kernel) xIS (by decide +kernel) (by decide)⟩, (fun z hz => absurd hz List.not_mem_nil)⟩) (by decide) (by decide) (hts (.classLink RL 19 xIX) (by decide +kernel)) (va_Nw.use rfl (hZ.2.2.2.1 xIX (by decide +kernel))) hce hcv hcl ?_
      refine lv_astore (lv' := [(5, .ref q9), (0, .ref (ad 329)), (1, .int b), (2, .int v), (3, .int h), (4, .ref o)]) hx hb dL_entry_19 hl (by decide) rfl (fun ls hl => ?_)
      refine lv_iconst (v := nI 2) hx hb dL_entry_21 (by decide) ?_
      exact lr_ret hx hb hr hK hc (Or.inr ⟨rfl, rfl, xIX, hp0, Or.inr (Or.inl ⟨rfl, rfl⟩)⟩) hlocks (Nat.le_of_ble_eq_true rfl) (Nat.le_of_ble_eq_true rfl) dL_entry_22
    · refine vx_catch (own := RL) (name := xNE) hown [⟨0, 12, 15, 13⟩, ⟨0, 12, 19, 19⟩] ⟨0, 12, 23, 58⟩ [] (htab.trans rfl) (List.forall_mem_cons.mpr ⟨Or.inr ⟨by decide, xIS, hts (.classLink RL 13 xIS) (by decide +kernel), hZ.2.2.2.2.1 xNE (by decide +kernel) xIS (by decide +kernel) (by decide)⟩, (List.forall_mem_cons.mpr ⟨Or.inr ⟨by decide, xIX, hts (.classLink RL 19 xIX) (by decide +kernel), hZ.2.2.2.2.1 xNE (by decide +kernel) xIX (by decide +kernel) (by decide)⟩, (fun z hz => absurd hz List.not_mem_nil)⟩)⟩) (by decide) (by decide) (hts (.classLink RL 58 xNE) (by decide +kernel)) (va_Nw.use rfl (hZ.2.2.2.1 xNE (by decide +kernel))) hce hcv hcl ?_
      refine lv_astore (lv' := [(5, .ref q9), (0, .ref (ad 329)), (1, .int b), (2, .int v), (3, .int h), (4, .ref o)]) hx hb dL_entry_23 hl (by decide) rfl (fun ls hl => ?_)
      refine lv_iconst (v := nI 3) hx hb dL_entry_25 (by decide) ?_
      exact lr_ret hx hb hr hK hc (Or.inr ⟨rfl, rfl, xNE, hp0, Or.inr (Or.inr (⟨rfl, rfl⟩))⟩) hlocks (Nat.le_of_ble_eq_true rfl) (Nat.le_of_ble_eq_true rfl) dL_entry_26
  · intro r9 M' J' H locs hq hc
    refine lv_i2l hx hb dL_entry_10 rfl ?_
    refine lr_ls hx hb hK hc dL_entry_11 (fun H locs hc => ?_)
    refine lv_goto (tgt := 27) hx hb dL_entry_12 (by decide) ?_
    refine lv_iconst (v := nI 0) hx hb dL_entry_27 (by decide) ?_
    exact lr_ret hx hb hr hK hc (Or.inl ⟨rfl, r9, hq, rfl⟩) hlocks (Nat.le_of_ble_eq_true rfl) (Nat.le_of_ble_eq_true rfl) dL_entry_28
set_option maxHeartbeats 4000000 in
set_option maxRecDepth 100000 in
theorem k_L_exit (l : Launch) (hflag : l.stackTraces = false) (D : va_G) (ad : Nat → Nat) (cs : Nat → ClassId) (o : Nat) (f : Nat → Int64) (M : wM) (J : wJ) (b : Int32) (v : Int32) (h : Int32) (cnt : Nat) (hn_9 : M 330 2 = nI cnt) (hn16_9 : cnt ≤ 16) : lMt l yL_exit wsL_exit { frames := 8, cells := 4, slots := 24, locals := 145 } D cs ad o f [.ref (ad 329), .int b, .int v, .int h, .ref o] M J 4 24 (wX_exit M J b v h cnt) := by
  refine lM_of (cc := cL_exit) (maxL := 6) (hh := [(0, 12, 15, 13), (0, 12, 19, 19), (0, 12, 23, 58)]) (by decide) rfl (Nat.le_of_ble_eq_true rfl) ?_
  intro p e s m below meth c ls A hx hb hr hml hown hts hlocks hK hA hZ htab hc hl
  have hl : lv_has ls 6 [(0, .ref (ad 329)), (1, .int b), (2, .int v), (3, .int h), (4, .ref o)] := hl
  refine lv_aload hx hb dL_exit_0 (lv_at hl 4 rfl) ?_
  refine lv_iconst (v := nI 0) hx hb dL_exit_2 (by decide) ?_
  refine lv_aload_n hx hb dL_exit_3 rfl (lv_at hl 0 rfl) ?_
  refine lv_iload_n hx hb dL_exit_4 rfl (lv_at hl 1 rfl) ?_
  refine lv_iload_n hx hb dL_exit_5 rfl (lv_at hl 2 rfl) ?_
  refine lv_iload_n hx hb dL_exit_6 rfl (lv_at hl 3 rfl) ?_
  refine lr_xVi (As := [.int b, .int v, .int h]) (rest := [.int (nI 0), .ref o]) (post := pX_exit M J b v h cnt) (pxc := eX_exit M b v h cnt) ⟨hx, hb, hml, hown, hts⟩ (cwV 3 hts gL_exit_X8_exit rfl rfl rfl (by decide +kernel) ⟨(Nat.le_of_ble_eq_true rfl), (Nat.le_of_ble_eq_true rfl)⟩) hK hA hZ hc (k_X8_exit l hflag D ad cs s.heap.size M J b v h cnt hn_9 hn16_9) rfl rfl hl.1 (Nat.le_of_ble_eq_true rfl) ⟨(Nat.le_of_ble_eq_true rfl), (Nat.le_of_ble_eq_true rfl)⟩ dL_exit_7 ?_ ?_
  · intro E ce q9 H locs hp hc hce hcv hcl
    have hp0 := hp
    rcases hp with ⟨rfl, hp⟩ | ⟨rfl, hp⟩ | ⟨rfl, hp⟩
    · refine vx_catch (own := RL) (name := xIS) hown [] ⟨0, 12, 15, 13⟩ [⟨0, 12, 19, 19⟩, ⟨0, 12, 23, 58⟩] (htab.trans rfl) (fun z hz => absurd hz List.not_mem_nil) (by decide) (by decide) (hts (.classLink RL 13 xIS) (by decide +kernel)) (va_Nw.use rfl (hZ.2.2.2.1 xIS (by decide +kernel))) hce hcv hcl ?_
      refine lv_astore (lv' := [(5, .ref q9), (0, .ref (ad 329)), (1, .int b), (2, .int v), (3, .int h), (4, .ref o)]) hx hb dL_exit_15 hl (by decide) rfl (fun ls hl => ?_)
      refine lv_iconst (v := nI 1) hx hb dL_exit_17 (by decide) ?_
      exact lr_ret hx hb hr hK hc (Or.inr ⟨rfl, rfl, xIS, hp0, Or.inl ⟨rfl, rfl⟩⟩) hlocks (Nat.le_of_ble_eq_true rfl) (Nat.le_of_ble_eq_true rfl) dL_exit_18
    · refine vx_catch (own := RL) (name := xIX) hown [⟨0, 12, 15, 13⟩] ⟨0, 12, 19, 19⟩ [⟨0, 12, 23, 58⟩] (htab.trans rfl) (List.forall_mem_cons.mpr ⟨Or.inr ⟨by decide, xIS, hts (.classLink RL 13 xIS) (by decide +kernel), hZ.2.2.2.2.1 xIX (by decide +kernel) xIS (by decide +kernel) (by decide)⟩, (fun z hz => absurd hz List.not_mem_nil)⟩) (by decide) (by decide) (hts (.classLink RL 19 xIX) (by decide +kernel)) (va_Nw.use rfl (hZ.2.2.2.1 xIX (by decide +kernel))) hce hcv hcl ?_
      refine lv_astore (lv' := [(5, .ref q9), (0, .ref (ad 329)), (1, .int b), (2, .int v), (3, .int h), (4, .ref o)]) hx hb dL_exit_19 hl (by decide) rfl (fun ls hl => ?_)
      refine lv_iconst (v := nI 2) hx hb dL_exit_21 (by decide) ?_
      exact lr_ret hx hb hr hK hc (Or.inr ⟨rfl, rfl, xIX, hp0, Or.inr (Or.inl ⟨rfl, rfl⟩)⟩) hlocks (Nat.le_of_ble_eq_true rfl) (Nat.le_of_ble_eq_true rfl) dL_exit_22
    · refine vx_catch (own := RL) (name := xNE) hown [⟨0, 12, 15, 13⟩, ⟨0, 12, 19, 19⟩] ⟨0, 12, 23, 58⟩ [] (htab.trans rfl) (List.forall_mem_cons.mpr ⟨Or.inr ⟨by decide, xIS, hts (.classLink RL 13 xIS) (by decide +kernel), hZ.2.2.2.2.1 xNE (by decide +kernel) xIS (by decide +kernel) (by decide)⟩, (List.forall_mem_cons.mpr ⟨Or.inr ⟨by decide, xIX, hts (.classLink RL 19 xIX) (by decide +kernel), hZ.2.2.2.2.1 xNE (by decide +kernel) xIX (by decide +kernel) (by decide)⟩, (fun z hz => absurd hz List.not_mem_nil)⟩)⟩) (by decide) (by decide) (hts (.classLink RL 58 xNE) (by decide +kernel)) (va_Nw.use rfl (hZ.2.2.2.1 xNE (by decide +kernel))) hce hcv hcl ?_
      refine lv_astore (lv' := [(5, .ref q9), (0, .ref (ad 329)), (1, .int b), (2, .int v), (3, .int h), (4, .ref o)]) hx hb dL_exit_23 hl (by decide) rfl (fun ls hl => ?_)
      refine lv_iconst (v := nI 3) hx hb dL_exit_25 (by decide) ?_
      exact lr_ret hx hb hr hK hc (Or.inr ⟨rfl, rfl, xNE, hp0, Or.inr (Or.inr (⟨rfl, rfl⟩))⟩) hlocks (Nat.le_of_ble_eq_true rfl) (Nat.le_of_ble_eq_true rfl) dL_exit_26
  · intro r9 M' J' H locs hq hc
    refine lv_i2l hx hb dL_exit_10 rfl ?_
    refine lr_ls hx hb hK hc dL_exit_11 (fun H locs hc => ?_)
    refine lv_goto (tgt := 27) hx hb dL_exit_12 (by decide) ?_
    refine lv_iconst (v := nI 0) hx hb dL_exit_27 (by decide) ?_
    exact lr_ret hx hb hr hK hc (Or.inl ⟨rfl, r9, hq, rfl⟩) hlocks (Nat.le_of_ble_eq_true rfl) (Nat.le_of_ble_eq_true rfl) dL_exit_28
set_option maxHeartbeats 4000000 in
set_option maxRecDepth 100000 in
theorem k_L_isDead (l : Launch) (hflag : l.stackTraces = false) (D : va_G) (ad : Nat → Nat) (cs : Nat → ClassId) (o : Nat) (f : Nat → Int64) (M : wM) (J : wJ) (b : Int32) (e1 : Int32) (cnt : Nat) (hn_9 : M 330 2 = nI cnt) (hn16_9 : cnt ≤ 16) (hE_9 : ∀ b, b < 16 → edOK M b) (hc_9 : cZ M) : lMt l yL_isDead wsL_isDead { frames := 8, cells := 3, slots := 18, locals := 143 } D cs ad o f [.ref (ad 329), .int b, .int e1, .ref o] M J 3 18 (wX_isDead M J b e1 cnt) := by
  refine lM_of (cc := cL_isDead) (maxL := 5) (hh := [(0, 17, 20, 13), (0, 17, 24, 19)]) (by decide) rfl (Nat.le_of_ble_eq_true rfl) ?_
  intro p e s m below meth c ls A hx hb hr hml hown hts hlocks hK hA hZ htab hc hl
  have hl : lv_has ls 5 [(0, .ref (ad 329)), (1, .int b), (2, .int e1), (3, .ref o)] := hl
  refine lv_aload_n hx hb dL_isDead_0 rfl (lv_at hl 3 rfl) ?_
  refine lv_iconst (v := nI 0) hx hb dL_isDead_1 (by decide) ?_
  refine lv_aload_n hx hb dL_isDead_2 rfl (lv_at hl 0 rfl) ?_
  refine lv_iload_n hx hb dL_isDead_3 rfl (lv_at hl 1 rfl) ?_
  refine lv_iload_n hx hb dL_isDead_4 rfl (lv_at hl 2 rfl) ?_
  refine lr_xVi (As := [.int b, .int e1]) (rest := [.int (nI 0), .ref o]) (post := pX_isDead M J b e1 cnt) (pxc := eX_isDead M b e1 cnt) ⟨hx, hb, hml, hown, hts⟩ (cwV 2 hts gL_isDead_X8_isDead rfl rfl rfl (by decide +kernel) ⟨(Nat.le_of_ble_eq_true rfl), (Nat.le_of_ble_eq_true rfl)⟩) hK hA hZ hc (k_X8_isDead l hflag D ad cs s.heap.size M J b e1 cnt hn_9 hn16_9 hE_9 hc_9) rfl rfl hl.1 (Nat.le_of_ble_eq_true rfl) ⟨(Nat.le_of_ble_eq_true rfl), (Nat.le_of_ble_eq_true rfl)⟩ dL_isDead_5 ?_ ?_
  · intro E ce q9 H locs hp hc hce hcv hcl
    have hp0 := hp
    rcases hp with ⟨rfl, hp⟩ | ⟨rfl, hp⟩ | ⟨rfl, hp⟩
    · refine vx_catch (own := RL) (name := xIS) hown [] ⟨0, 17, 20, 13⟩ [⟨0, 17, 24, 19⟩] (htab.trans rfl) (fun z hz => absurd hz List.not_mem_nil) (by decide) (by decide) (hts (.classLink RL 13 xIS) (by decide +kernel)) (va_Nw.use rfl (hZ.2.2.2.1 xIS (by decide +kernel))) hce hcv hcl ?_
      refine lv_astore (lv' := [(4, .ref q9), (0, .ref (ad 329)), (1, .int b), (2, .int e1), (3, .ref o)]) hx hb dL_isDead_20 hl (by decide) rfl (fun ls hl => ?_)
      refine lv_iconst (v := nI 1) hx hb dL_isDead_22 (by decide) ?_
      exact lr_ret hx hb hr hK hc (Or.inr ⟨rfl, rfl, xIS, hp0, Or.inl ⟨rfl, rfl⟩⟩) hlocks (Nat.le_of_ble_eq_true rfl) (Nat.le_of_ble_eq_true rfl) dL_isDead_23
    · refine vx_catch (own := RL) (name := xIX) hown [⟨0, 17, 20, 13⟩] ⟨0, 17, 24, 19⟩ [] (htab.trans rfl) (List.forall_mem_cons.mpr ⟨Or.inr ⟨by decide, xIS, hts (.classLink RL 13 xIS) (by decide +kernel), hZ.2.2.2.2.1 xIX (by decide +kernel) xIS (by decide +kernel) (by decide)⟩, (fun z hz => absurd hz List.not_mem_nil)⟩) (by decide) (by decide) (hts (.classLink RL 19 xIX) (by decide +kernel)) (va_Nw.use rfl (hZ.2.2.2.1 xIX (by decide +kernel))) hce hcv hcl ?_
      refine lv_astore (lv' := [(4, .ref q9), (0, .ref (ad 329)), (1, .int b), (2, .int e1), (3, .ref o)]) hx hb dL_isDead_24 hl (by decide) rfl (fun ls hl => ?_)
      refine lv_iconst (v := nI 2) hx hb dL_isDead_26 (by decide) ?_
      exact lr_ret hx hb hr hK hc (Or.inr ⟨rfl, rfl, xIX, hp0, Or.inr (⟨rfl, rfl⟩)⟩) hlocks (Nat.le_of_ble_eq_true rfl) (Nat.le_of_ble_eq_true rfl) dL_isDead_27
    · refine vx_catch (own := RL) (name := xIX) hown [⟨0, 17, 20, 13⟩] ⟨0, 17, 24, 19⟩ [] (htab.trans rfl) (List.forall_mem_cons.mpr ⟨Or.inr ⟨by decide, xIS, hts (.classLink RL 13 xIS) (by decide +kernel), hZ.2.2.2.2.1 xIX (by decide +kernel) xIS (by decide +kernel) (by decide)⟩, (fun z hz => absurd hz List.not_mem_nil)⟩) (by decide) (by decide) (hts (.classLink RL 19 xIX) (by decide +kernel)) (va_Nw.use rfl (hZ.2.2.2.1 xIX (by decide +kernel))) hce hcv hcl ?_
      refine lv_astore (lv' := [(4, .ref q9), (0, .ref (ad 329)), (1, .int b), (2, .int e1), (3, .ref o)]) hx hb dL_isDead_24 hl (by decide) rfl (fun ls hl => ?_)
      refine lv_iconst (v := nI 2) hx hb dL_isDead_26 (by decide) ?_
      exact lr_ret hx hb hr hK hc (Or.inr ⟨rfl, rfl, xIX, hp0, Or.inr (⟨rfl, rfl⟩)⟩) hlocks (Nat.le_of_ble_eq_true rfl) (Nat.le_of_ble_eq_true rfl) dL_isDead_27
  · intro r9 M' J' H locs hq hc
    refine lv_if_eq (tgt := 15) hx hb dL_isDead_8 (by decide) (fun z => ?_) (fun z => ?_)
    · refine lv_lconst (v := 0) hx hb dL_isDead_15 rfl ?_
      refine lr_ls hx hb hK hc dL_isDead_16 (fun H locs hc => ?_)
      refine lv_goto (tgt := 28) hx hb dL_isDead_17 (by decide) ?_
      refine lv_iconst (v := nI 0) hx hb dL_isDead_28 (by decide) ?_
      exact lr_ret hx hb hr hK hc (Or.inl ⟨rfl, r9, hq, (if_pos z).symm⟩) hlocks (Nat.le_of_ble_eq_true rfl) (Nat.le_of_ble_eq_true rfl) dL_isDead_29
    · refine lv_lconst (v := 1) hx hb dL_isDead_11 rfl ?_
      refine lv_goto (tgt := 16) hx hb dL_isDead_12 (by decide) ?_
      refine lr_ls hx hb hK hc dL_isDead_16 (fun H locs hc => ?_)
      refine lv_goto (tgt := 28) hx hb dL_isDead_17 (by decide) ?_
      refine lv_iconst (v := nI 0) hx hb dL_isDead_28 (by decide) ?_
      exact lr_ret hx hb hr hK hc (Or.inl ⟨rfl, r9, hq, (if_neg z).symm⟩) hlocks (Nat.le_of_ble_eq_true rfl) (Nat.le_of_ble_eq_true rfl) dL_isDead_29
set_option maxHeartbeats 4000000 in
set_option maxRecDepth 100000 in
theorem k_L_deadEdges (l : Launch) (hflag : l.stackTraces = false) (D : va_G) (ad : Nat → Nat) (cs : Nat → ClassId) (o : Nat) (f : Nat → Int64) (M : wM) (J : wJ) (cnt : Nat) (hn_9 : M 330 2 = nI cnt) (hn16_9 : cnt ≤ 16) (hE_9 : ∀ b, b < 16 → edOK M b) : lMt l yL_deadEdges wsL_deadEdges { frames := 8, cells := 1, slots := 6, locals := 142 } D cs ad o f [.ref (ad 329), .ref o] M J 1 6 (wX_deadEdges M J cnt) := by
  refine lM_of (cc := cL_deadEdges) (maxL := 3) (hh := [(0, 8, 11, 13)]) (by decide) rfl (Nat.le_of_ble_eq_true rfl) ?_
  intro p e s m below meth c ls A hx hb hr hml hown hts hlocks hK hA hZ htab hc hl
  have hl : lv_has ls 3 [(0, .ref (ad 329)), (1, .ref o)] := hl
  refine lv_aload_n hx hb dL_deadEdges_0 rfl (lv_at hl 1 rfl) ?_
  refine lv_iconst (v := nI 0) hx hb dL_deadEdges_1 (by decide) ?_
  refine lv_aload_n hx hb dL_deadEdges_2 rfl (lv_at hl 0 rfl) ?_
  refine lr_xVi (As := []) (rest := [.int (nI 0), .ref o]) (post := pX_deadEdges M J cnt) (pxc := eX_deadEdges M cnt) ⟨hx, hb, hml, hown, hts⟩ (cwV 0 hts gL_deadEdges_X8_deadEdges rfl rfl rfl (by decide +kernel) ⟨(Nat.le_of_ble_eq_true rfl), (Nat.le_of_ble_eq_true rfl)⟩) hK hA hZ hc (k_X8_deadEdges l hflag D ad cs s.heap.size M J cnt hn_9 hn16_9 hE_9) rfl rfl hl.1 (Nat.le_of_ble_eq_true rfl) ⟨(Nat.le_of_ble_eq_true rfl), (Nat.le_of_ble_eq_true rfl)⟩ dL_deadEdges_3 ?_ ?_
  · intro E ce q9 H locs hp hc hce hcv hcl
    have hp0 := hp
    obtain ⟨rfl, hp⟩ := hp
    refine vx_catch (own := RL) (name := xIS) hown [] ⟨0, 8, 11, 13⟩ [] (htab.trans rfl) (fun z hz => absurd hz List.not_mem_nil) (by decide) (by decide) (hts (.classLink RL 13 xIS) (by decide +kernel)) (va_Nw.use rfl (hZ.2.2.2.1 xIS (by decide +kernel))) hce hcv hcl ?_
    refine lv_astore_n (lv' := [(2, .ref q9), (0, .ref (ad 329)), (1, .ref o)]) hx hb dL_deadEdges_11 rfl hl (by decide) rfl (fun ls hl => ?_)
    refine lv_iconst (v := nI 1) hx hb dL_deadEdges_12 (by decide) ?_
    exact lr_ret hx hb hr hK hc (Or.inr ⟨rfl, rfl, xIS, hp0, ⟨rfl, rfl⟩⟩) hlocks (Nat.le_of_ble_eq_true rfl) (Nat.le_of_ble_eq_true rfl) dL_deadEdges_13
  · intro r9 M' J' H locs hq hc
    refine lv_i2l hx hb dL_deadEdges_6 rfl ?_
    refine lr_ls hx hb hK hc dL_deadEdges_7 (fun H locs hc => ?_)
    refine lv_goto (tgt := 14) hx hb dL_deadEdges_8 (by decide) ?_
    refine lv_iconst (v := nI 0) hx hb dL_deadEdges_14 (by decide) ?_
    exact lr_ret hx hb hr hK hc (Or.inl ⟨rfl, r9, hq, rfl⟩) hlocks (Nat.le_of_ble_eq_true rfl) (Nat.le_of_ble_eq_true rfl) dL_deadEdges_15
set_option maxHeartbeats 4000000 in
set_option maxRecDepth 100000 in
theorem k_L_constants (l : Launch) (hflag : l.stackTraces = false) (D : va_G) (ad : Nat → Nat) (cs : Nat → ClassId) (o : Nat) (f : Nat → Int64) (M : wM) (J : wJ) (b : Int32) (cnt : Nat) (hn_9 : M 330 2 = nI cnt) (hn16_9 : cnt ≤ 16) : lMt l yL_constants wsL_constants { frames := 8, cells := 2, slots := 12, locals := 142 } D cs ad o f [.ref (ad 329), .int b, .ref o] M J 2 12 (wX_constants M J b cnt) := by
  refine lM_of (cc := cL_constants) (maxL := 4) (hh := [(0, 9, 12, 13), (0, 9, 15, 19)]) (by decide) rfl (Nat.le_of_ble_eq_true rfl) ?_
  intro p e s m below meth c ls A hx hb hr hml hown hts hlocks hK hA hZ htab hc hl
  have hl : lv_has ls 4 [(0, .ref (ad 329)), (1, .int b), (2, .ref o)] := hl
  refine lv_aload_n hx hb dL_constants_0 rfl (lv_at hl 2 rfl) ?_
  refine lv_iconst (v := nI 0) hx hb dL_constants_1 (by decide) ?_
  refine lv_aload_n hx hb dL_constants_2 rfl (lv_at hl 0 rfl) ?_
  refine lv_iload_n hx hb dL_constants_3 rfl (lv_at hl 1 rfl) ?_
  refine lr_xVi (As := [.int b]) (rest := [.int (nI 0), .ref o]) (post := pX_constants M J b cnt) (pxc := eX_constants M b cnt) ⟨hx, hb, hml, hown, hts⟩ (cwV 1 hts gL_constants_X8_constants rfl rfl rfl (by decide +kernel) ⟨(Nat.le_of_ble_eq_true rfl), (Nat.le_of_ble_eq_true rfl)⟩) hK hA hZ hc (k_X8_constants l hflag D ad cs s.heap.size M J b cnt hn_9 hn16_9) rfl rfl hl.1 (Nat.le_of_ble_eq_true rfl) ⟨(Nat.le_of_ble_eq_true rfl), (Nat.le_of_ble_eq_true rfl)⟩ dL_constants_4 ?_ ?_
  · intro E ce q9 H locs hp hc hce hcv hcl
    have hp0 := hp
    rcases hp with ⟨rfl, hp⟩ | ⟨rfl, hp⟩
    · refine vx_catch (own := RL) (name := xIS) hown [] ⟨0, 9, 12, 13⟩ [⟨0, 9, 15, 19⟩] (htab.trans rfl) (fun z hz => absurd hz List.not_mem_nil) (by decide) (by decide) (hts (.classLink RL 13 xIS) (by decide +kernel)) (va_Nw.use rfl (hZ.2.2.2.1 xIS (by decide +kernel))) hce hcv hcl ?_
      refine lv_astore_n (lv' := [(3, .ref q9), (0, .ref (ad 329)), (1, .int b), (2, .ref o)]) hx hb dL_constants_12 rfl hl (by decide) rfl (fun ls hl => ?_)
      refine lv_iconst (v := nI 1) hx hb dL_constants_13 (by decide) ?_
      exact lr_ret hx hb hr hK hc (Or.inr ⟨rfl, rfl, xIS, hp0, Or.inl ⟨rfl, rfl⟩⟩) hlocks (Nat.le_of_ble_eq_true rfl) (Nat.le_of_ble_eq_true rfl) dL_constants_14
    · refine vx_catch (own := RL) (name := xIX) hown [⟨0, 9, 12, 13⟩] ⟨0, 9, 15, 19⟩ [] (htab.trans rfl) (List.forall_mem_cons.mpr ⟨Or.inr ⟨by decide, xIS, hts (.classLink RL 13 xIS) (by decide +kernel), hZ.2.2.2.2.1 xIX (by decide +kernel) xIS (by decide +kernel) (by decide)⟩, (fun z hz => absurd hz List.not_mem_nil)⟩) (by decide) (by decide) (hts (.classLink RL 19 xIX) (by decide +kernel)) (va_Nw.use rfl (hZ.2.2.2.1 xIX (by decide +kernel))) hce hcv hcl ?_
      refine lv_astore_n (lv' := [(3, .ref q9), (0, .ref (ad 329)), (1, .int b), (2, .ref o)]) hx hb dL_constants_15 rfl hl (by decide) rfl (fun ls hl => ?_)
      refine lv_iconst (v := nI 2) hx hb dL_constants_16 (by decide) ?_
      exact lr_ret hx hb hr hK hc (Or.inr ⟨rfl, rfl, xIX, hp0, Or.inr (⟨rfl, rfl⟩)⟩) hlocks (Nat.le_of_ble_eq_true rfl) (Nat.le_of_ble_eq_true rfl) dL_constants_17
  · intro r9 M' J' H locs hq hc
    refine lv_i2l hx hb dL_constants_7 rfl ?_
    refine lr_ls hx hb hK hc dL_constants_8 (fun H locs hc => ?_)
    refine lv_goto (tgt := 18) hx hb dL_constants_9 (by decide) ?_
    refine lv_iconst (v := nI 0) hx hb dL_constants_18 (by decide) ?_
    exact lr_ret hx hb hr hK hc (Or.inl ⟨rfl, r9, hq, rfl⟩) hlocks (Nat.le_of_ble_eq_true rfl) (Nat.le_of_ble_eq_true rfl) dL_constants_19
set_option maxHeartbeats 4000000 in
set_option maxRecDepth 100000 in
theorem k_L_visits (l : Launch) (hflag : l.stackTraces = false) (D : va_G) (ad : Nat → Nat) (cs : Nat → ClassId) (o : Nat) (f : Nat → Int64) (M : wM) (J : wJ) (b : Int32) (cnt : Nat) (hn_9 : M 330 2 = nI cnt) (hn16_9 : cnt ≤ 16) : lMt l yL_visits wsL_visits { frames := 8, cells := 2, slots := 12, locals := 142 } D cs ad o f [.ref (ad 329), .int b, .ref o] M J 2 12 (wX_visits M J b cnt) := by
  refine lM_of (cc := cL_visits) (maxL := 4) (hh := [(0, 9, 12, 13), (0, 9, 15, 19)]) (by decide) rfl (Nat.le_of_ble_eq_true rfl) ?_
  intro p e s m below meth c ls A hx hb hr hml hown hts hlocks hK hA hZ htab hc hl
  have hl : lv_has ls 4 [(0, .ref (ad 329)), (1, .int b), (2, .ref o)] := hl
  refine lv_aload_n hx hb dL_visits_0 rfl (lv_at hl 2 rfl) ?_
  refine lv_iconst (v := nI 0) hx hb dL_visits_1 (by decide) ?_
  refine lv_aload_n hx hb dL_visits_2 rfl (lv_at hl 0 rfl) ?_
  refine lv_iload_n hx hb dL_visits_3 rfl (lv_at hl 1 rfl) ?_
  refine lr_xVi (As := [.int b]) (rest := [.int (nI 0), .ref o]) (post := pX_visits M J b cnt) (pxc := eX_visits M b cnt) ⟨hx, hb, hml, hown, hts⟩ (cwV 1 hts gL_visits_X8_visits rfl rfl rfl (by decide +kernel) ⟨(Nat.le_of_ble_eq_true rfl), (Nat.le_of_ble_eq_true rfl)⟩) hK hA hZ hc (k_X8_visits l hflag D ad cs s.heap.size M J b cnt hn_9 hn16_9) rfl rfl hl.1 (Nat.le_of_ble_eq_true rfl) ⟨(Nat.le_of_ble_eq_true rfl), (Nat.le_of_ble_eq_true rfl)⟩ dL_visits_4 ?_ ?_
  · intro E ce q9 H locs hp hc hce hcv hcl
    have hp0 := hp
    rcases hp with ⟨rfl, hp⟩ | ⟨rfl, hp⟩
    · refine vx_catch (own := RL) (name := xIS) hown [] ⟨0, 9, 12, 13⟩ [⟨0, 9, 15, 19⟩] (htab.trans rfl) (fun z hz => absurd hz List.not_mem_nil) (by decide) (by decide) (hts (.classLink RL 13 xIS) (by decide +kernel)) (va_Nw.use rfl (hZ.2.2.2.1 xIS (by decide +kernel))) hce hcv hcl ?_
      refine lv_astore_n (lv' := [(3, .ref q9), (0, .ref (ad 329)), (1, .int b), (2, .ref o)]) hx hb dL_visits_12 rfl hl (by decide) rfl (fun ls hl => ?_)
      refine lv_iconst (v := nI 1) hx hb dL_visits_13 (by decide) ?_
      exact lr_ret hx hb hr hK hc (Or.inr ⟨rfl, rfl, xIS, hp0, Or.inl ⟨rfl, rfl⟩⟩) hlocks (Nat.le_of_ble_eq_true rfl) (Nat.le_of_ble_eq_true rfl) dL_visits_14
    · refine vx_catch (own := RL) (name := xIX) hown [⟨0, 9, 12, 13⟩] ⟨0, 9, 15, 19⟩ [] (htab.trans rfl) (List.forall_mem_cons.mpr ⟨Or.inr ⟨by decide, xIS, hts (.classLink RL 13 xIS) (by decide +kernel), hZ.2.2.2.2.1 xIX (by decide +kernel) xIS (by decide +kernel) (by decide)⟩, (fun z hz => absurd hz List.not_mem_nil)⟩) (by decide) (by decide) (hts (.classLink RL 19 xIX) (by decide +kernel)) (va_Nw.use rfl (hZ.2.2.2.1 xIX (by decide +kernel))) hce hcv hcl ?_
      refine lv_astore_n (lv' := [(3, .ref q9), (0, .ref (ad 329)), (1, .int b), (2, .ref o)]) hx hb dL_visits_15 rfl hl (by decide) rfl (fun ls hl => ?_)
      refine lv_iconst (v := nI 2) hx hb dL_visits_16 (by decide) ?_
      exact lr_ret hx hb hr hK hc (Or.inr ⟨rfl, rfl, xIX, hp0, Or.inr (⟨rfl, rfl⟩)⟩) hlocks (Nat.le_of_ble_eq_true rfl) (Nat.le_of_ble_eq_true rfl) dL_visits_17
  · intro r9 M' J' H locs hq hc
    refine lv_i2l hx hb dL_visits_7 rfl ?_
    refine lr_ls hx hb hK hc dL_visits_8 (fun H locs hc => ?_)
    refine lv_goto (tgt := 18) hx hb dL_visits_9 (by decide) ?_
    refine lv_iconst (v := nI 0) hx hb dL_visits_18 (by decide) ?_
    exact lr_ret hx hb hr hK hc (Or.inl ⟨rfl, r9, hq, rfl⟩) hlocks (Nat.le_of_ble_eq_true rfl) (Nat.le_of_ble_eq_true rfl) dL_visits_19
set_option maxHeartbeats 4000000 in
set_option maxRecDepth 100000 in
theorem k_L_run (l : Launch) (hflag : l.stackTraces = false) (D : va_G) (ad : Nat → Nat) (cs : Nat → ClassId) (o : Nat) (f : Nat → Int64) (M : wM) (J : wJ) (seed : Int64) (steps : Int32) (hP_9 : ∀ b, b < 16 → blOK M b ∧ edOK M b) (hF_9 : foOK M) : lMt l yL_run wsL_run { frames := 7, cells := 1, slots := 6, locals := 151 } D cs ad o f [.ref (ad 329), .long seed, .int steps, .ref o] M J 1 6 (wX_run M J seed steps) := by
  refine lM_of (cc := cL_run) (maxL := 6) (hh := [(0, 11, 14, 21)]) (by decide) rfl (Nat.le_of_ble_eq_true rfl) ?_
  intro p e s m below meth c ls A hx hb hr hml hown hts hlocks hK hA hZ htab hc hl
  have hl : lv_has ls 6 [(0, .ref (ad 329)), (1, .long seed), (3, .int steps), (4, .ref o)] := hl
  refine lv_aload hx hb dL_run_0 (lv_at hl 3 rfl) ?_
  refine lv_iconst (v := nI 0) hx hb dL_run_2 (by decide) ?_
  refine lv_aload_n hx hb dL_run_3 rfl (lv_at hl 0 rfl) ?_
  refine lv_lload_n hx hb dL_run_4 rfl (lv_at hl 1 rfl) ?_
  refine lv_iload_n hx hb dL_run_5 rfl (lv_at hl 2 rfl) ?_
  refine lr_xVi (As := [.long seed, .int steps]) (rest := [.int (nI 0), .ref o]) (post := pX_run M J seed steps) (pxc := eX_run M seed steps) ⟨hx, hb, hml, hown, hts⟩ (cwV 2 hts gL_run_X8_run rfl rfl rfl (by decide +kernel) ⟨(Nat.le_of_ble_eq_true rfl), (Nat.le_of_ble_eq_true rfl)⟩) hK hA hZ hc (k_X8_run l hflag D ad cs s.heap.size M J seed steps hP_9 hF_9) rfl rfl hl.1 (Nat.le_of_ble_eq_true rfl) ⟨(Nat.le_of_ble_eq_true rfl), (Nat.le_of_ble_eq_true rfl)⟩ dL_run_6 ?_ ?_
  · intro E ce q9 H locs hp hc hce hcv hcl
    have hp0 := hp
    obtain ⟨rfl, hp⟩ := hp
    refine vx_catch (own := RL) (name := xIA) hown [] ⟨0, 11, 14, 21⟩ [] (htab.trans rfl) (fun z hz => absurd hz List.not_mem_nil) (by decide) (by decide) (hts (.classLink RL 21 xIA) (by decide +kernel)) (va_Nw.use rfl (hZ.2.2.2.1 xIA (by decide +kernel))) hce hcv hcl ?_
    refine lv_astore (lv' := [(5, .ref q9), (0, .ref (ad 329)), (1, .long seed), (3, .int steps), (4, .ref o)]) hx hb dL_run_14 hl (by decide) rfl (fun ls hl => ?_)
    refine lv_iconst (v := nI 1) hx hb dL_run_16 (by decide) ?_
    exact lr_ret hx hb hr hK hc (Or.inr ⟨rfl, rfl, xIA, hp0, ⟨rfl, rfl⟩⟩) hlocks (Nat.le_of_ble_eq_true rfl) (Nat.le_of_ble_eq_true rfl) dL_run_17
  · intro r9 M' J' H locs hq hc
    refine lv_i2l hx hb dL_run_9 rfl ?_
    refine lr_ls hx hb hK hc dL_run_10 (fun H locs hc => ?_)
    refine lv_goto (tgt := 18) hx hb dL_run_11 (by decide) ?_
    refine lv_iconst (v := nI 0) hx hb dL_run_18 (by decide) ?_
    exact lr_ret hx hb hr hK hc (Or.inl ⟨rfl, r9, hq, rfl⟩) hlocks (Nat.le_of_ble_eq_true rfl) (Nat.le_of_ble_eq_true rfl) dL_run_19
set_option maxHeartbeats 4000000 in
set_option maxRecDepth 100000 in
theorem k_L_enteredBlock (l : Launch) (hflag : l.stackTraces = false) (D : va_G) (ad : Nat → Nat) (cs : Nat → ClassId) (o : Nat) (f : Nat → Int64) (M : wM) (J : wJ) (st : Int32) (sc : Nat) (hsc_9 : M 336 3 = nI sc) (hsc3_9 : sc ≤ 300) : lMt l yL_enteredBlock wsL_enteredBlock { frames := 8, cells := 1, slots := 6, locals := 142 } D cs ad o f [.ref (ad 329), .int st, .ref o] M J 1 6 (wX_enteredBlock M J st sc) := by
  refine lM_of (cc := cL_enteredBlock) (maxL := 4) (hh := [(0, 9, 12, 19)]) (by decide) rfl (Nat.le_of_ble_eq_true rfl) ?_
  intro p e s m below meth c ls A hx hb hr hml hown hts hlocks hK hA hZ htab hc hl
  have hl : lv_has ls 4 [(0, .ref (ad 329)), (1, .int st), (2, .ref o)] := hl
  refine lv_aload_n hx hb dL_enteredBlock_0 rfl (lv_at hl 2 rfl) ?_
  refine lv_iconst (v := nI 0) hx hb dL_enteredBlock_1 (by decide) ?_
  refine lv_aload_n hx hb dL_enteredBlock_2 rfl (lv_at hl 0 rfl) ?_
  refine lv_iload_n hx hb dL_enteredBlock_3 rfl (lv_at hl 1 rfl) ?_
  refine lr_xVi (As := [.int st]) (rest := [.int (nI 0), .ref o]) (post := pX_enteredBlock M J st sc) (pxc := eX_enteredBlock M st sc) ⟨hx, hb, hml, hown, hts⟩ (cwV 1 hts gL_enteredBlock_X8_enteredBlock rfl rfl rfl (by decide +kernel) ⟨(Nat.le_of_ble_eq_true rfl), (Nat.le_of_ble_eq_true rfl)⟩) hK hA hZ hc (k_X8_enteredBlock l hflag D ad cs s.heap.size M J st sc hsc_9 hsc3_9) rfl rfl hl.1 (Nat.le_of_ble_eq_true rfl) ⟨(Nat.le_of_ble_eq_true rfl), (Nat.le_of_ble_eq_true rfl)⟩ dL_enteredBlock_4 ?_ ?_
  · intro E ce q9 H locs hp hc hce hcv hcl
    have hp0 := hp
    obtain ⟨rfl, hp⟩ := hp
    refine vx_catch (own := RL) (name := xIX) hown [] ⟨0, 9, 12, 19⟩ [] (htab.trans rfl) (fun z hz => absurd hz List.not_mem_nil) (by decide) (by decide) (hts (.classLink RL 19 xIX) (by decide +kernel)) (va_Nw.use rfl (hZ.2.2.2.1 xIX (by decide +kernel))) hce hcv hcl ?_
    refine lv_astore_n (lv' := [(3, .ref q9), (0, .ref (ad 329)), (1, .int st), (2, .ref o)]) hx hb dL_enteredBlock_12 rfl hl (by decide) rfl (fun ls hl => ?_)
    refine lv_iconst (v := nI 1) hx hb dL_enteredBlock_13 (by decide) ?_
    exact lr_ret hx hb hr hK hc (Or.inr ⟨rfl, rfl, xIX, hp0, ⟨rfl, rfl⟩⟩) hlocks (Nat.le_of_ble_eq_true rfl) (Nat.le_of_ble_eq_true rfl) dL_enteredBlock_14
  · intro r9 M' J' H locs hq hc
    refine lv_i2l hx hb dL_enteredBlock_7 rfl ?_
    refine lr_ls hx hb hK hc dL_enteredBlock_8 (fun H locs hc => ?_)
    refine lv_goto (tgt := 15) hx hb dL_enteredBlock_9 (by decide) ?_
    refine lv_iconst (v := nI 0) hx hb dL_enteredBlock_15 (by decide) ?_
    exact lr_ret hx hb hr hK hc (Or.inl ⟨rfl, r9, hq, rfl⟩) hlocks (Nat.le_of_ble_eq_true rfl) (Nat.le_of_ble_eq_true rfl) dL_enteredBlock_16
set_option maxHeartbeats 4000000 in
set_option maxRecDepth 100000 in
theorem k_L_enteredWith (l : Launch) (hflag : l.stackTraces = false) (D : va_G) (ad : Nat → Nat) (cs : Nat → ClassId) (o : Nat) (f : Nat → Int64) (M : wM) (J : wJ) (st : Int32) (v : Int32) (sc : Nat) (hsc_9 : M 336 3 = nI sc) (hsc3_9 : sc ≤ 300) : lMt l yL_enteredWith wsL_enteredWith { frames := 8, cells := 2, slots := 12, locals := 143 } D cs ad o f [.ref (ad 329), .int st, .int v, .ref o] M J 2 12 (wX_enteredWith M J st v sc) := by
  refine lM_of (cc := cL_enteredWith) (maxL := 5) (hh := [(0, 10, 13, 19)]) (by decide) rfl (Nat.le_of_ble_eq_true rfl) ?_
  intro p e s m below meth c ls A hx hb hr hml hown hts hlocks hK hA hZ htab hc hl
  have hl : lv_has ls 5 [(0, .ref (ad 329)), (1, .int st), (2, .int v), (3, .ref o)] := hl
  refine lv_aload_n hx hb dL_enteredWith_0 rfl (lv_at hl 3 rfl) ?_
  refine lv_iconst (v := nI 0) hx hb dL_enteredWith_1 (by decide) ?_
  refine lv_aload_n hx hb dL_enteredWith_2 rfl (lv_at hl 0 rfl) ?_
  refine lv_iload_n hx hb dL_enteredWith_3 rfl (lv_at hl 1 rfl) ?_
  refine lv_iload_n hx hb dL_enteredWith_4 rfl (lv_at hl 2 rfl) ?_
  refine lr_xVi (As := [.int st, .int v]) (rest := [.int (nI 0), .ref o]) (post := pX_enteredWith M J st v sc) (pxc := eX_enteredWith M st v sc) ⟨hx, hb, hml, hown, hts⟩ (cwV 2 hts gL_enteredWith_X8_enteredWith rfl rfl rfl (by decide +kernel) ⟨(Nat.le_of_ble_eq_true rfl), (Nat.le_of_ble_eq_true rfl)⟩) hK hA hZ hc (k_X8_enteredWith l hflag D ad cs s.heap.size M J st v sc hsc_9 hsc3_9) rfl rfl hl.1 (Nat.le_of_ble_eq_true rfl) ⟨(Nat.le_of_ble_eq_true rfl), (Nat.le_of_ble_eq_true rfl)⟩ dL_enteredWith_5 ?_ ?_
  · intro E ce q9 H locs hp hc hce hcv hcl
    have hp0 := hp
    obtain ⟨rfl, hp⟩ := hp
    refine vx_catch (own := RL) (name := xIX) hown [] ⟨0, 10, 13, 19⟩ [] (htab.trans rfl) (fun z hz => absurd hz List.not_mem_nil) (by decide) (by decide) (hts (.classLink RL 19 xIX) (by decide +kernel)) (va_Nw.use rfl (hZ.2.2.2.1 xIX (by decide +kernel))) hce hcv hcl ?_
    refine lv_astore (lv' := [(4, .ref q9), (0, .ref (ad 329)), (1, .int st), (2, .int v), (3, .ref o)]) hx hb dL_enteredWith_13 hl (by decide) rfl (fun ls hl => ?_)
    refine lv_iconst (v := nI 1) hx hb dL_enteredWith_15 (by decide) ?_
    exact lr_ret hx hb hr hK hc (Or.inr ⟨rfl, rfl, xIX, hp0, ⟨rfl, rfl⟩⟩) hlocks (Nat.le_of_ble_eq_true rfl) (Nat.le_of_ble_eq_true rfl) dL_enteredWith_16
  · intro r9 M' J' H locs hq hc
    refine lv_i2l hx hb dL_enteredWith_8 rfl ?_
    refine lr_ls hx hb hK hc dL_enteredWith_9 (fun H locs hc => ?_)
    refine lv_goto (tgt := 17) hx hb dL_enteredWith_10 (by decide) ?_
    refine lv_iconst (v := nI 0) hx hb dL_enteredWith_17 (by decide) ?_
    exact lr_ret hx hb hr hK hc (Or.inl ⟨rfl, r9, hq, rfl⟩) hlocks (Nat.le_of_ble_eq_true rfl) (Nat.le_of_ble_eq_true rfl) dL_enteredWith_18
set_option maxHeartbeats 4000000 in
set_option maxRecDepth 100000 in
theorem k_L_result (l : Launch) (hflag : l.stackTraces = false) (D : va_G) (ad : Nat → Nat) (cs : Nat → ClassId) (o : Nat) (f : Nat → Int64) (M : wM) (J : wJ) (v : Int32)  : lMt l yL_result wsL_result { frames := 8, cells := 1, slots := 6, locals := 141 } D cs ad o f [.ref (ad 329), .int v, .ref o] M J 1 6 (wX_result M J v) := by
  refine lM_of (cc := cL_result) (maxL := 4) (hh := [(0, 9, 12, 19)]) (by decide) rfl (Nat.le_of_ble_eq_true rfl) ?_
  intro p e s m below meth c ls A hx hb hr hml hown hts hlocks hK hA hZ htab hc hl
  have hl : lv_has ls 4 [(0, .ref (ad 329)), (1, .int v), (2, .ref o)] := hl
  refine lv_aload_n hx hb dL_result_0 rfl (lv_at hl 2 rfl) ?_
  refine lv_iconst (v := nI 0) hx hb dL_result_1 (by decide) ?_
  refine lv_aload_n hx hb dL_result_2 rfl (lv_at hl 0 rfl) ?_
  refine lv_iload_n hx hb dL_result_3 rfl (lv_at hl 1 rfl) ?_
  refine lr_xVi (As := [.int v]) (rest := [.int (nI 0), .ref o]) (post := pX_result M J v) (pxc := eX_result M v) ⟨hx, hb, hml, hown, hts⟩ (cwV 1 hts gL_result_X8_result rfl rfl rfl (by decide +kernel) ⟨(Nat.le_of_ble_eq_true rfl), (Nat.le_of_ble_eq_true rfl)⟩) hK hA hZ hc (k_X8_result l hflag D ad cs s.heap.size M J v ) rfl rfl hl.1 (Nat.le_of_ble_eq_true rfl) ⟨(Nat.le_of_ble_eq_true rfl), (Nat.le_of_ble_eq_true rfl)⟩ dL_result_4 ?_ ?_
  · intro E ce q9 H locs hp hc hce hcv hcl
    have hp0 := hp
    obtain ⟨rfl, hp⟩ := hp
    refine vx_catch (own := RL) (name := xIX) hown [] ⟨0, 9, 12, 19⟩ [] (htab.trans rfl) (fun z hz => absurd hz List.not_mem_nil) (by decide) (by decide) (hts (.classLink RL 19 xIX) (by decide +kernel)) (va_Nw.use rfl (hZ.2.2.2.1 xIX (by decide +kernel))) hce hcv hcl ?_
    refine lv_astore_n (lv' := [(3, .ref q9), (0, .ref (ad 329)), (1, .int v), (2, .ref o)]) hx hb dL_result_12 rfl hl (by decide) rfl (fun ls hl => ?_)
    refine lv_iconst (v := nI 1) hx hb dL_result_13 (by decide) ?_
    exact lr_ret hx hb hr hK hc (Or.inr ⟨rfl, rfl, xIX, hp0, ⟨rfl, rfl⟩⟩) hlocks (Nat.le_of_ble_eq_true rfl) (Nat.le_of_ble_eq_true rfl) dL_result_14
  · intro r9 M' J' H locs hq hc
    refine lv_i2l hx hb dL_result_7 rfl ?_
    refine lr_ls hx hb hK hc dL_result_8 (fun H locs hc => ?_)
    refine lv_goto (tgt := 15) hx hb dL_result_9 (by decide) ?_
    refine lv_iconst (v := nI 0) hx hb dL_result_15 (by decide) ?_
    exact lr_ret hx hb hr hK hc (Or.inl ⟨rfl, r9, hq, rfl⟩) hlocks (Nat.le_of_ble_eq_true rfl) (Nat.le_of_ble_eq_true rfl) dL_result_16
