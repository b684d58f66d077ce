/-! ===== the law's loop ===== -/
theorem t_sub7 {L : Nat} (h : L ≤ 3584) : (nI L - nI 7).toInt = (L : Int) - 7 := by
  rw [Int32.toInt_sub, nI_toInt (by omega), nI_toInt (by omega), b32 (by omega) (by omega)]
  rfl
section LWL
variable {p : Program} {l : Launch} {e : Env} {s : State} {m : MethodId} {below : List Frame} {meth : Method} {c : Code}
variable {b L : Nat} {xs : Nat → Int32} {D : va_G} {cs : Nat → ClassId} {ad am : Nat → Nat} {o : Nat}
set_option maxHeartbeats 4000000 in
set_option maxRecDepth 100000 in
/-- a round of the law's loop, from its switch -/
theorem law_sw {Q : State → Prop} {H : Heap} {locs : List Loc} {cells slots : Nat} {ls : Array Slot} {i : Nat} {f : Nat → Int64} {M N : wM} {J K : wJ} {y : Int32} (Cx : lwK p l s m c b L xs D cs) (hi : i + 7 ≤ L) (h1 : cells + 6 ≤ 601024) (h2 : slots + 36 ≤ 7293034) (hc : lC D (lAq s) s.heap (wL cs ad o f M J ++ wW 23 mSh am cs N K) H locs) (hS : Sim M N) (hl : lv_has ls 7 (lv0 b ad am o i)) (kk : lwE p l e s m below meth c b D cs ad am o i (cells + 6) (slots + 36) Q) : W p l e room_1 s m #[Value.ref b] below meth c H locs cells slots Q (F0 m 40 ls [.int y]) := by
  have hx := Cx.1.1
  have hb := Cx.1.2.1
  by_cases h : y.toInt < 0 ∨ 23 < y.toInt
  · exact lv_tableOut (tgt := 1671) hx hb dL_law_40 h (by decide) (W.widen (by omega) (by omega) (kk f M J N K _ _ ls hc hS hl))
  · have ha : ¬ y.toInt < 0 := fun z => h (Or.inl z)
    have hz : ¬ 23 < y.toInt := fun z => h (Or.inr z)
    rcases (show y.toInt = 0 ∨ y.toInt = 1 ∨ y.toInt = 2 ∨ y.toInt = 3 ∨ y.toInt = 4 ∨ y.toInt = 5 ∨ y.toInt = 6 ∨ y.toInt = 7 ∨ y.toInt = 8 ∨ y.toInt = 9 ∨ y.toInt = 10 ∨ y.toInt = 11 ∨ y.toInt = 12 ∨ y.toInt = 13 ∨ y.toInt = 14 ∨ y.toInt = 15 ∨ y.toInt = 16 ∨ y.toInt = 17 ∨ y.toInt = 18 ∨ y.toInt = 19 ∨ y.toInt = 20 ∨ y.toInt = 21 ∨ y.toInt = 22 ∨ y.toInt = 23 by omega) with g | g | g | g | g | g | g | g | g | g | g | g | g | g | g | g | g | g | g | g | g | g | g | g
    · exact lv_tableIn (off := 112) (tgt := 152) hx hb dL_law_40 ha hz (by rw [g]; rfl) (by decide) (law_c0 Cx hi h1 h2 hc hS hl kk)
    · exact lv_tableIn (off := 156) (tgt := 196) hx hb dL_law_40 ha hz (by rw [g]; rfl) (by decide) (law_c1 Cx hi h1 h2 hc hS hl kk)
    · exact lv_tableIn (off := 243) (tgt := 283) hx hb dL_law_40 ha hz (by rw [g]; rfl) (by decide) (law_c2 Cx hi h1 h2 hc hS hl kk)
    · exact lv_tableIn (off := 335) (tgt := 375) hx hb dL_law_40 ha hz (by rw [g]; rfl) (by decide) (law_c3 Cx hi h1 h2 hc hS hl kk)
    · exact lv_tableIn (off := 439) (tgt := 479) hx hb dL_law_40 ha hz (by rw [g]; rfl) (by decide) (law_c4 Cx hi h1 h2 hc hS hl kk)
    · exact lv_tableIn (off := 507) (tgt := 547) hx hb dL_law_40 ha hz (by rw [g]; rfl) (by decide) (law_c5 Cx hi h1 h2 hc hS hl kk)
    · exact lv_tableIn (off := 625) (tgt := 665) hx hb dL_law_40 ha hz (by rw [g]; rfl) (by decide) (law_c6 Cx hi h1 h2 hc hS hl kk)
    · exact lv_tableIn (off := 681) (tgt := 721) hx hb dL_law_40 ha hz (by rw [g]; rfl) (by decide) (law_c7 Cx hi h1 h2 hc hS hl kk)
    · exact lv_tableIn (off := 694) (tgt := 734) hx hb dL_law_40 ha hz (by rw [g]; rfl) (by decide) (law_c8 Cx hi h1 h2 hc hS hl kk)
    · exact lv_tableIn (off := 769) (tgt := 809) hx hb dL_law_40 ha hz (by rw [g]; rfl) (by decide) (law_c9 Cx hi h1 h2 hc hS hl kk)
    · exact lv_tableIn (off := 825) (tgt := 865) hx hb dL_law_40 ha hz (by rw [g]; rfl) (by decide) (law_c10 Cx hi h1 h2 hc hS hl kk)
    · exact lv_tableIn (off := 838) (tgt := 878) hx hb dL_law_40 ha hz (by rw [g]; rfl) (by decide) (law_c11 Cx hi h1 h2 hc hS hl kk)
    · exact lv_tableIn (off := 851) (tgt := 891) hx hb dL_law_40 ha hz (by rw [g]; rfl) (by decide) (law_c12 Cx hi h1 h2 hc hS hl kk)
    · exact lv_tableIn (off := 914) (tgt := 954) hx hb dL_law_40 ha hz (by rw [g]; rfl) (by decide) (law_c13 Cx hi h1 h2 hc hS hl kk)
    · exact lv_tableIn (off := 1010) (tgt := 1050) hx hb dL_law_40 ha hz (by rw [g]; rfl) (by decide) (law_c14 Cx hi h1 h2 hc hS hl kk)
    · exact lv_tableIn (off := 1106) (tgt := 1146) hx hb dL_law_40 ha hz (by rw [g]; rfl) (by decide) (law_c15 Cx hi h1 h2 hc hS hl kk)
    · exact lv_tableIn (off := 1181) (tgt := 1221) hx hb dL_law_40 ha hz (by rw [g]; rfl) (by decide) (law_c16 Cx hi h1 h2 hc hS hl kk)
    · exact lv_tableIn (off := 1225) (tgt := 1265) hx hb dL_law_40 ha hz (by rw [g]; rfl) (by decide) (law_c17 Cx hi h1 h2 hc hS hl kk)
    · exact lv_tableIn (off := 1281) (tgt := 1321) hx hb dL_law_40 ha hz (by rw [g]; rfl) (by decide) (law_c18 Cx hi h1 h2 hc hS hl kk)
    · exact lv_tableIn (off := 1337) (tgt := 1377) hx hb dL_law_40 ha hz (by rw [g]; rfl) (by decide) (law_c19 Cx hi h1 h2 hc hS hl kk)
    · exact lv_tableIn (off := 1437) (tgt := 1477) hx hb dL_law_40 ha hz (by rw [g]; rfl) (by decide) (law_c20 Cx hi h1 h2 hc hS hl kk)
    · exact lv_tableIn (off := 1493) (tgt := 1533) hx hb dL_law_40 ha hz (by rw [g]; rfl) (by decide) (law_c21 Cx hi h1 h2 hc hS hl kk)
    · exact lv_tableIn (off := 1561) (tgt := 1601) hx hb dL_law_40 ha hz (by rw [g]; rfl) (by decide) (law_c22 Cx hi h1 h2 hc hS hl kk)
    · exact lv_tableIn (off := 1617) (tgt := 1657) hx hb dL_law_40 ha hz (by rw [g]; rfl) (by decide) (law_c23 Cx hi h1 h2 hc hS hl kk)
set_option maxHeartbeats 4000000 in
set_option maxRecDepth 100000 in
theorem law_loop (Cx : lwK p l s m c b L xs D cs) (hr : meth.sig.returnType = ret) (hlocks : meth.locks = false) : ∀ (n j : Nat) (f : Nat → Int64) (M : wM) (J : wJ) (N : wM) (K : wJ) (H : Heap) (locs : List Loc) (ls : Array Slot), 7 * j ≤ L → L < 7 * j + n → lC D (lAq s) s.heap (wL cs ad o f M J ++ wW 23 mSh am cs N K) H locs → Sim M N → lv_has ls 7 (lv0 b ad am o (7 * j)) →
    W p l e room_1 s m #[Value.ref b] below meth c H locs (364 + 6 * j) (7004 + 36 * j) (lw_Z below #[Value.ref b] s) (F0 m 23 ls []) := by
  intro n
  obtain ⟨hF, hflag, hK, hZ, hX, hbl, hL⟩ := id Cx
  obtain ⟨hx, hb, hml, hown, hts⟩ := id hF
  have hbA : ¬ lAq s b := Nat.not_le.mpr hbl
  induction n with
  | zero => intro j f M J N K H locs ls hj hn; exact absurd hn (by omega)
  | succ n ih =>
    intro j f M J N K H locs ls hj hn hc hS hl
    refine lv_iload hx hb dL_law_23 (lv_at hl 4 rfl) ?_
    refine lv_aload_n hx hb dL_law_25 rfl (lv_at hl 0 rfl) ?_
    refine va_slen hx hb hX hbl hbA hc.2.2 dL_law_26 ?_
    refine lv_bipush (v := nI 7) hx hb dL_law_27 (by decide) ?_
    refine lv_isub hx hb dL_law_29 ?_
    refine lv_icmp_gt (tgt := 1677) hx hb dL_law_30 (by decide) (fun z => ?_) (fun z => ?_)
    · refine lv_iconst (v := 1) hx hb dL_law_1677 (by decide) ?_
      refine va_forget (fun q hq => hc.2.2.2.2 q hq) ?_
      exact W.widen (k := 601024) (n := 7293034) (by omega) (by omega) (lw_ret hx hb hr hlocks dL_law_1678)
    · have hi : 7 * j + 7 ≤ L := by
        have z2 : ¬ (nI L - nI 7).toInt < (nI (7 * j)).toInt := fun q => z (Int32.lt_iff_toInt_lt.mpr q)
        rw [t_sub7 hL, nI_toInt (by omega)] at z2
        omega
      refine lv_aload_n hx hb dL_law_33 rfl (lv_at hl 0 rfl) ?_
      refine lv_iload hx hb dL_law_34 (lv_at hl 4 rfl) ?_
      refine va_sld hx hb hX hbl hbA hc.2.2 (vp_in_nI (by omega) (by omega)) dL_law_36 ?_
      refine lv_bipush (v := nI 31) hx hb dL_law_37 (by decide) ?_
      refine lv_iand hx hb dL_law_39 ?_
      refine law_sw Cx hi (by omega) (by omega) hc hS hl ?_
      intro f1 M1 J1 N1 K1 H1 locs1 ls1 hc1 hS1 hl1
      refine lv_iinc (k := 4) (v := nI (7 * (j + 1))) (lv' := [(4, .int (nI (7 * (j + 1)))), (0, .ref b), (1, .ref (ad 329)), (2, .ref (am 0)), (3, .ref o)]) hx hb dL_law_1671 hl1 rfl ?_ (by decide) rfl (fun ls2 hl2 => ?_)
      · rw [show Int32.ofInt 7 = nI 7 from by decide, nI_add]
        exact congrArg nI (by omega)
      · refine lv_goto (tgt := 23) hx hb dL_law_1674 (by decide) ?_
        exact W.widen (by omega) (by omega) (ih (j + 1) f1 M1 J1 N1 K1 H1 locs1 ls2 (by omega) (by omega) hc1 hS1 (lv_sub hl2 [1, 2, 3, 4, 0] rfl))
end LWL
