/-! the cases of the law: laid by wip/gen/law.py -/
set_option maxHeartbeats 4000000 in
set_option maxRecDepth 100000 in
theorem law_c7 {p : Program} {l : Launch} {e : Env} {s : State} {m : MethodId} {below : List Frame} {meth : Method} {c : Code} {H : Heap} {locs : List Loc} {cells slots : Nat} {Q : State → Prop} {ls : Array Slot} {b L i : Nat} {xs : Nat → Int32} {D : va_G} {cs : Nat → ClassId} {ad am : Nat → Nat} {o : Nat} {f : Nat → Int64} {M N : wM} {J K : wJ} (Cx : lwK p l s m c b L xs D cs) (hi : i + 7 ≤ L) (h1 : cells + 6 ≤ 601024) (h2 : slots + 36 ≤ 7293034) (hc : lC D (lAq s) s.heap (wL cs ad o f M J ++ wW 23 mSh am cs N K) H locs) (hS : Sim M N) (hl : lv_has ls 7 (lv0 b ad am o i)) (kk : lwE p l e s m below meth c b D cs ad am o i (cells + 6) (slots + 36) Q) : W p l e room_1 s m #[Value.ref b] below meth c H locs cells slots Q (F0 m 721 ls []) := by
  obtain ⟨hF, hflag, hK, hZ, hX, hbl, hL⟩ := id Cx
  obtain ⟨hx, hb, hml, hown, hts⟩ := id hF
  obtain ⟨cnt, t, d, n, sc, hs⟩ := hS
  have hA : ∀ q : Nat, s.heap.size ≤ q → lAq s q := fun _ h => h
  refine lv_aload_n hx hb dL_law_721 rfl (lv_at hl 1 rfl) ?_
  refine fr_Vi (sh := cSh) (ad := ad) (k := 329) (As := []) (rest := []) (post := fun r_ u_ => u_ = (M, J) ∧ r_ = E_X8_blockCount M) hF (cwV 0 hts gL_law_X8_blockCount rfl rfl rfl (by decide +kernel) ⟨(Nat.le_of_ble_eq_true rfl), (Nat.le_of_ble_eq_true rfl)⟩) hK hA (lC_perm hc wL_mid) (k_X8_blockCount l D ad cs _ M J) (by decide) cs_X rfl rfl rfl hl.1 (Nat.le_of_ble_eq_true rfl) ⟨(by show cells ≤ 601024; omega), (by show slots ≤ 7293034; omega)⟩ dL_law_722 (fun r M1 J1 H1 locs1 hw hc => ?_)
  have hc := lC_perm hc (wL_mid (f := f) (M := M1) (J := J1)).symm
  refine lv_aload_n hx hb dL_law_725 rfl (lv_at hl 2 rfl) ?_
  refine fr_Vi (sh := mSh) (ad := am) (k := 0) (As := []) (rest := [.int r]) (post := fun r_ u_ => u_ = (F_X9_blockCount N, K) ∧ r_ = E_X9_blockCount N) hF (cwV 0 hts gL_law_X9_blockCount rfl rfl rfl (by decide +kernel) ⟨(Nat.le_of_ble_eq_true rfl), (Nat.le_of_ble_eq_true rfl)⟩) hK hA (lC_perm hc List.perm_append_comm) (k_X9_blockCount l D am cs _ N K) (by decide) rfl rfl rfl rfl hl.1 (Nat.le_of_ble_eq_true rfl) ⟨(by show cells ≤ 601024; omega), (by show slots ≤ 7293034; omega)⟩ dL_law_726 (fun b9 N1 K1 H2 locs2 hm hc => ?_)
  obtain ⟨hu, hr⟩ := hw
  obtain ⟨hv, hb9⟩ := hm
  have hg : r = b9 ∧ Sim M1 N1 := by
    have e1 : M1 = M := (Prod.mk.inj hu).1
    have e2 : N1 = wU N 0 0 (nI 0) := (Prod.mk.inj hv).1
    have z1 : E_X8_blockCount M = nI cnt := hs.1.cM
    have z2 : E_X9_blockCount N = nI cnt := by
      unfold E_X9_blockCount
      rw [wU_at, if_neg (by decide)]; exact hs.1.cN
    exact ⟨by rw [hr, hb9, z1, z2], by rw [e1, e2]; exact Sim_tQ hs.sim tQ_U⟩
  have fin : W p l e room_1 s m #[Value.ref b] below meth c H2 locs2 cells slots Q (F0 m 1671 ls []) :=
    W.widen (by omega) (by omega) (kk f M1 J1 N1 K1 _ _ ls (lC_perm hc List.perm_append_comm) hg.2 hl)
  exact lv_icmp_eq (tgt := 1671) hx hb dL_law_729 (by decide) (fun _ => fin) (fun z => absurd hg.1 z)
set_option maxHeartbeats 4000000 in
set_option maxRecDepth 100000 in
theorem law_c8 {p : Program} {l : Launch} {e : Env} {s : State} {m : MethodId} {below : List Frame} {meth : Method} {c : Code} {H : Heap} {locs : List Loc} {cells slots : Nat} {Q : State → Prop} {ls : Array Slot} {b L i : Nat} {xs : Nat → Int32} {D : va_G} {cs : Nat → ClassId} {ad am : Nat → Nat} {o : Nat} {f : Nat → Int64} {M N : wM} {J K : wJ} (Cx : lwK p l s m c b L xs D cs) (hi : i + 7 ≤ L) (h1 : cells + 6 ≤ 601024) (h2 : slots + 36 ≤ 7293034) (hc : lC D (lAq s) s.heap (wL cs ad o f M J ++ wW 23 mSh am cs N K) H locs) (hS : Sim M N) (hl : lv_has ls 7 (lv0 b ad am o i)) (kk : lwE p l e s m below meth c b D cs ad am o i (cells + 6) (slots + 36) Q) : W p l e room_1 s m #[Value.ref b] below meth c H locs cells slots Q (F0 m 734 ls []) := by
  obtain ⟨hF, hflag, hK, hZ, hX, hbl, hL⟩ := id Cx
  obtain ⟨hx, hb, hml, hown, hts⟩ := id hF
  obtain ⟨cnt, t, d, n, sc, hs⟩ := hS
  have hA : ∀ q : Nat, s.heap.size ≤ q → lAq s q := fun _ h => h
  refine lv_aload_n hx hb dL_law_734 rfl (lv_at hl 1 rfl) ?_
  refine lw_arg (k := 1) Cx hi (by decide) (lv_at hl 0 rfl) (lv_at hl 4 rfl) hc.2.2 dL_law_735 dL_law_736 dL_law_738 (by decide) dL_law_739 dL_law_740 ?_
  refine lw_arg (k := 2) Cx hi (by decide) (lv_at hl 0 rfl) (lv_at hl 4 rfl) hc.2.2 dL_law_741 dL_law_742 dL_law_744 (by decide) dL_law_745 dL_law_746 ?_
  refine lv_aload_n hx hb dL_law_747 rfl (lv_at hl 3 rfl) ?_
  refine fr_L (As := [.ref (ad 329), .int (xs (i + 1)), .int (xs (i + 2)), .ref o]) (rest := []) (mc := 1) (ms := 6) (post := wX_setEffort M J (xs (i + 1)) (xs (i + 2))) hF (vx_cwSW 4 hts gL_law_L_setEffort rfl rfl rfl (by decide +kernel) ⟨(Nat.le_of_ble_eq_true rfl), (Nat.le_of_ble_eq_true rfl)⟩) hK hA hZ hc (k_L_setEffort l hflag D ad cs o f M J (xs (i + 1)) (xs (i + 2))) rfl rfl hl.1 (Nat.le_of_ble_eq_true rfl) ⟨(by show cells + 1 ≤ 601024; omega), (by show slots + 6 ≤ 7293034; omega)⟩ dL_law_748 (fun k M1 J1 f1 H1 locs1 hw hc => ?_)
  refine lv_istore (lv' := (5, .int k) :: lv0 b ad am o i) hx hb dL_law_751 hl (by decide) rfl (fun ls hl => ?_)
  refine lv_aload_n hx hb dL_law_753 rfl (lv_at hl 3 rfl) ?_
  refine lw_arg (k := 1) Cx hi (by decide) (lv_at hl 1 rfl) (lv_at hl 5 rfl) hc.2.2 dL_law_754 dL_law_755 dL_law_757 (by decide) dL_law_758 dL_law_759 ?_
  refine lw_arg (k := 2) Cx hi (by decide) (lv_at hl 1 rfl) (lv_at hl 5 rfl) hc.2.2 dL_law_760 dL_law_761 dL_law_763 (by decide) dL_law_764 dL_law_765 ?_
  refine fr_Vi (sh := mSh) (ad := am) (k := 0) (As := [.int (xs (i + 1)), .int (xs (i + 2))]) (rest := []) (post := qM_setEffort N K (xs (i + 1)) (xs (i + 2))) hF (cwV 2 hts gL_law_X9_setEffort rfl rfl rfl (by decide +kernel) ⟨(Nat.le_of_ble_eq_true rfl), (Nat.le_of_ble_eq_true rfl)⟩) hK hA (lC_perm hc List.perm_append_comm) (k_X9_setEffort l D am cs _ N K (xs (i + 1)) (xs (i + 2))) (by decide) rfl rfl rfl rfl hl.1 (Nat.le_of_ble_eq_true rfl) ⟨(by show cells + 1 ≤ 601024; omega), (by show slots + 6 ≤ 7293034; omega)⟩ dL_law_766 (fun b9 N1 K1 H2 locs2 hm hc => ?_)
  exact lw_tZ (P := 769) Cx (lC_perm hc List.perm_append_comm) (St_setEffort hs hw hm) hl (by omega) (by omega) (by omega) (by omega) kk dL_law_769 dL_law_771 dL_law_772 dL_law_775 dL_law_777 dL_law_782 dL_law_784 dL_law_787 dL_law_788 dL_law_789 dL_law_790 dL_law_792 dL_law_795 dL_law_796 dL_law_799 dL_law_800 dL_law_801 dL_law_806 (by decide)
set_option maxHeartbeats 4000000 in
set_option maxRecDepth 100000 in
theorem law_c9 {p : Program} {l : Launch} {e : Env} {s : State} {m : MethodId} {below : List Frame} {meth : Method} {c : Code} {H : Heap} {locs : List Loc} {cells slots : Nat} {Q : State → Prop} {ls : Array Slot} {b L i : Nat} {xs : Nat → Int32} {D : va_G} {cs : Nat → ClassId} {ad am : Nat → Nat} {o : Nat} {f : Nat → Int64} {M N : wM} {J K : wJ} (Cx : lwK p l s m c b L xs D cs) (hi : i + 7 ≤ L) (h1 : cells + 6 ≤ 601024) (h2 : slots + 36 ≤ 7293034) (hc : lC D (lAq s) s.heap (wL cs ad o f M J ++ wW 23 mSh am cs N K) H locs) (hS : Sim M N) (hl : lv_has ls 7 (lv0 b ad am o i)) (kk : lwE p l e s m below meth c b D cs ad am o i (cells + 6) (slots + 36) Q) : W p l e room_1 s m #[Value.ref b] below meth c H locs cells slots Q (F0 m 809 ls []) := by
  obtain ⟨hF, hflag, hK, hZ, hX, hbl, hL⟩ := id Cx
  obtain ⟨hx, hb, hml, hown, hts⟩ := id hF
  obtain ⟨cnt, t, d, n, sc, hs⟩ := hS
  have hA : ∀ q : Nat, s.heap.size ≤ q → lAq s q := fun _ h => h
  refine lv_aload_n hx hb dL_law_809 rfl (lv_at hl 1 rfl) ?_
  refine lw_arg (k := 1) Cx hi (by decide) (lv_at hl 0 rfl) (lv_at hl 4 rfl) hc.2.2 dL_law_810 dL_law_811 dL_law_813 (by decide) dL_law_814 dL_law_815 ?_
  refine lv_aload_n hx hb dL_law_816 rfl (lv_at hl 3 rfl) ?_
  refine fr_L (As := [.ref (ad 329), .int (xs (i + 1)), .ref o]) (rest := []) (mc := 1) (ms := 6) (post := wX_addThreshold M J (xs (i + 1)) t) hF (vx_cwSW 3 hts gL_law_L_addThreshold rfl rfl rfl (by decide +kernel) ⟨(Nat.le_of_ble_eq_true rfl), (Nat.le_of_ble_eq_true rfl)⟩) hK hA hZ hc (k_L_addThreshold l hflag D ad cs o f M J (xs (i + 1)) t hs.1.tM hs.1.t8) rfl rfl hl.1 (Nat.le_of_ble_eq_true rfl) ⟨(by show cells + 1 ≤ 601024; omega), (by show slots + 6 ≤ 7293034; omega)⟩ dL_law_817 (fun k M1 J1 f1 H1 locs1 hw hc => ?_)
  refine lv_istore (lv' := (5, .int k) :: lv0 b ad am o i) hx hb dL_law_820 hl (by decide) rfl (fun ls hl => ?_)
  refine lv_aload_n hx hb dL_law_822 rfl (lv_at hl 3 rfl) ?_
  refine lw_arg (k := 1) Cx hi (by decide) (lv_at hl 1 rfl) (lv_at hl 5 rfl) hc.2.2 dL_law_823 dL_law_824 dL_law_826 (by decide) dL_law_827 dL_law_828 ?_
  refine fr_Vi (sh := mSh) (ad := am) (k := 0) (As := [.int (xs (i + 1))]) (rest := []) (post := qM_addThreshold N K (xs (i + 1)) t) hF (cwV 1 hts gL_law_X9_addThreshold rfl rfl rfl (by decide +kernel) ⟨(Nat.le_of_ble_eq_true rfl), (Nat.le_of_ble_eq_true rfl)⟩) hK hA (lC_perm hc List.perm_append_comm) (k_X9_addThreshold l D am cs _ N K (xs (i + 1)) t hs.1.tN hs.1.t8) (by decide) rfl rfl rfl rfl hl.1 (Nat.le_of_ble_eq_true rfl) ⟨(by show cells + 1 ≤ 601024; omega), (by show slots + 6 ≤ 7293034; omega)⟩ dL_law_829 (fun b9 N1 K1 H2 locs2 hm hc => ?_)
  exact lw_tI (P := 832) Cx (lC_perm hc List.perm_append_comm) (St_addThreshold hs hw hm) hl (by omega) (by omega) (by omega) (by omega) kk dL_law_832 dL_law_834 dL_law_835 dL_law_838 dL_law_840 dL_law_845 dL_law_847 dL_law_850 dL_law_851 dL_law_852 dL_law_853 dL_law_855 dL_law_856 dL_law_857 dL_law_862 (by decide)
set_option maxHeartbeats 4000000 in
set_option maxRecDepth 100000 in
theorem law_c10 {p : Program} {l : Launch} {e : Env} {s : State} {m : MethodId} {below : List Frame} {meth : Method} {c : Code} {H : Heap} {locs : List Loc} {cells slots : Nat} {Q : State → Prop} {ls : Array Slot} {b L i : Nat} {xs : Nat → Int32} {D : va_G} {cs : Nat → ClassId} {ad am : Nat → Nat} {o : Nat} {f : Nat → Int64} {M N : wM} {J K : wJ} (Cx : lwK p l s m c b L xs D cs) (hi : i + 7 ≤ L) (h1 : cells + 6 ≤ 601024) (h2 : slots + 36 ≤ 7293034) (hc : lC D (lAq s) s.heap (wL cs ad o f M J ++ wW 23 mSh am cs N K) H locs) (hS : Sim M N) (hl : lv_has ls 7 (lv0 b ad am o i)) (kk : lwE p l e s m below meth c b D cs ad am o i (cells + 6) (slots + 36) Q) : W p l e room_1 s m #[Value.ref b] below meth c H locs cells slots Q (F0 m 865 ls []) := by
  obtain ⟨hF, hflag, hK, hZ, hX, hbl, hL⟩ := id Cx
  obtain ⟨hx, hb, hml, hown, hts⟩ := id hF
  obtain ⟨cnt, t, d, n, sc, hs⟩ := hS
  have hA : ∀ q : Nat, s.heap.size ≤ q → lAq s q := fun _ h => h
  refine lv_aload_n hx hb dL_law_865 rfl (lv_at hl 1 rfl) ?_
  refine fr_Vi (sh := cSh) (ad := ad) (k := 329) (As := []) (rest := []) (post := pAn M J cnt t n) hF (cwV 0 hts gL_law_X8_analyze rfl rfl rfl (by decide +kernel) ⟨(Nat.le_of_ble_eq_true rfl), (Nat.le_of_ble_eq_true rfl)⟩) hK hA (lC_perm hc wL_mid) (k_X8_analyze l D ad cs _ M J cnt t n hs.2.1 hs.1.pr hs.1.nM hs.1.n5) (by decide) cs_X rfl rfl rfl hl.1 (Nat.le_of_ble_eq_true rfl) ⟨(by show cells ≤ 601024; omega), (by show slots ≤ 7293034; omega)⟩ dL_law_866 (fun r M1 J1 H1 locs1 hw hc => ?_)
  have hc := lC_perm hc (wL_mid (f := f) (M := M1) (J := J1)).symm
  refine lv_aload_n hx hb dL_law_869 rfl (lv_at hl 2 rfl) ?_
  refine fr_Vi (sh := mSh) (ad := am) (k := 0) (As := []) (rest := [.int r]) (post := qAn N K cnt t n) hF (cwV 0 hts gL_law_X9_analyze rfl rfl rfl (by decide +kernel) ⟨(Nat.le_of_ble_eq_true rfl), (Nat.le_of_ble_eq_true rfl)⟩) hK hA (lC_perm hc List.perm_append_comm) (k_X9_analyze l D am cs _ N K cnt t n hs.1.m (by rw [anM_0 (by decide) (by decide)]; exact hs.1.nN) hs.1.n5 (an_eq (pgS_an hs.1)).1) (by decide) rfl rfl rfl rfl hl.1 (Nat.le_of_ble_eq_true rfl) ⟨(by show cells ≤ 601024; omega), (by show slots ≤ 7293034; omega)⟩ dL_law_870 (fun b9 N1 K1 H2 locs2 hm hc => ?_)
  have hg : r = b9 ∧ Sim M1 N1 := Sim_analyze (u := (M1, J1)) (v := (N1, K1)) hs hw hm
  have fin : W p l e room_1 s m #[Value.ref b] below meth c H2 locs2 cells slots Q (F0 m 1671 ls []) :=
    W.widen (by omega) (by omega) (kk f M1 J1 N1 K1 _ _ ls (lC_perm hc List.perm_append_comm) hg.2 hl)
  exact lv_icmp_eq (tgt := 1671) hx hb dL_law_873 (by decide) (fun _ => fin) (fun z => absurd hg.1 z)
set_option maxHeartbeats 4000000 in
set_option maxRecDepth 100000 in
theorem law_c11 {p : Program} {l : Launch} {e : Env} {s : State} {m : MethodId} {below : List Frame} {meth : Method} {c : Code} {H : Heap} {locs : List Loc} {cells slots : Nat} {Q : State → Prop} {ls : Array Slot} {b L i : Nat} {xs : Nat → Int32} {D : va_G} {cs : Nat → ClassId} {ad am : Nat → Nat} {o : Nat} {f : Nat → Int64} {M N : wM} {J K : wJ} (Cx : lwK p l s m c b L xs D cs) (hi : i + 7 ≤ L) (h1 : cells + 6 ≤ 601024) (h2 : slots + 36 ≤ 7293034) (hc : lC D (lAq s) s.heap (wL cs ad o f M J ++ wW 23 mSh am cs N K) H locs) (hS : Sim M N) (hl : lv_has ls 7 (lv0 b ad am o i)) (kk : lwE p l e s m below meth c b D cs ad am o i (cells + 6) (slots + 36) Q) : W p l e room_1 s m #[Value.ref b] below meth c H locs cells slots Q (F0 m 878 ls []) := by
  obtain ⟨hF, hflag, hK, hZ, hX, hbl, hL⟩ := id Cx
  obtain ⟨hx, hb, hml, hown, hts⟩ := id hF
  obtain ⟨cnt, t, d, n, sc, hs⟩ := hS
  have hA : ∀ q : Nat, s.heap.size ≤ q → lAq s q := fun _ h => h
  refine lv_aload_n hx hb dL_law_878 rfl (lv_at hl 1 rfl) ?_
  refine fr_Vi (sh := cSh) (ad := ad) (k := 329) (As := []) (rest := []) (post := fun r_ u_ => u_ = (M, J) ∧ r_ = E_X8_isAnalyzed M) hF (cwV 0 hts gL_law_X8_isAnalyzed rfl rfl rfl (by decide +kernel) ⟨(Nat.le_of_ble_eq_true rfl), (Nat.le_of_ble_eq_true rfl)⟩) hK hA (lC_perm hc wL_mid) (k_X8_isAnalyzed l D ad cs _ M J (by rw [hs.2.2.2.1]; exact hs.2.2.1)) (by decide) cs_X rfl rfl rfl hl.1 (Nat.le_of_ble_eq_true rfl) ⟨(by show cells ≤ 601024; omega), (by show slots ≤ 7293034; omega)⟩ dL_law_879 (fun r M1 J1 H1 locs1 hw hc => ?_)
  have hc := lC_perm hc (wL_mid (f := f) (M := M1) (J := J1)).symm
  refine lv_aload_n hx hb dL_law_882 rfl (lv_at hl 2 rfl) ?_
  refine fr_Vi (sh := mSh) (ad := am) (k := 0) (As := []) (rest := [.int r]) (post := fun r_ u_ => u_ = (wU N 0 0 (nI 0), K) ∧ r_ = N 0 16) hF (cwV 0 hts gL_law_X9_isAnalyzed rfl rfl rfl (by decide +kernel) ⟨(Nat.le_of_ble_eq_true rfl), (Nat.le_of_ble_eq_true rfl)⟩) hK hA (lC_perm hc List.perm_append_comm) (k_X9_isAnalyzed l D am cs _ N K hs.2.2.1) (by decide) rfl rfl rfl rfl hl.1 (Nat.le_of_ble_eq_true rfl) ⟨(by show cells ≤ 601024; omega), (by show slots ≤ 7293034; omega)⟩ dL_law_883 (fun b9 N1 K1 H2 locs2 hm hc => ?_)
  obtain ⟨hu, hr⟩ := hw
  obtain ⟨hv, hb9⟩ := hm
  have hg : r = b9 ∧ Sim M1 N1 := by
    have e1 : M1 = M := (Prod.mk.inj hu).1
    have e2 : N1 = wU N 0 0 (nI 0) := (Prod.mk.inj hv).1
    have z1 : E_X8_isAnalyzed M = N 0 16 := hs.2.2.2.1
    exact ⟨by rw [hr, hb9, z1], by rw [e1, e2]; exact Sim_tQ hs.sim tQ_U⟩
  have fin : W p l e room_1 s m #[Value.ref b] below meth c H2 locs2 cells slots Q (F0 m 1671 ls []) :=
    W.widen (by omega) (by omega) (kk f M1 J1 N1 K1 _ _ ls (lC_perm hc List.perm_append_comm) hg.2 hl)
  exact lv_icmp_eq (tgt := 1671) hx hb dL_law_886 (by decide) (fun _ => fin) (fun z => absurd hg.1 z)
set_option maxHeartbeats 4000000 in
set_option maxRecDepth 100000 in
theorem law_c12 {p : Program} {l : Launch} {e : Env} {s : State} {m : MethodId} {below : List Frame} {meth : Method} {c : Code} {H : Heap} {locs : List Loc} {cells slots : Nat} {Q : State → Prop} {ls : Array Slot} {b L i : Nat} {xs : Nat → Int32} {D : va_G} {cs : Nat → ClassId} {ad am : Nat → Nat} {o : Nat} {f : Nat → Int64} {M N : wM} {J K : wJ} (Cx : lwK p l s m c b L xs D cs) (hi : i + 7 ≤ L) (h1 : cells + 6 ≤ 601024) (h2 : slots + 36 ≤ 7293034) (hc : lC D (lAq s) s.heap (wL cs ad o f M J ++ wW 23 mSh am cs N K) H locs) (hS : Sim M N) (hl : lv_has ls 7 (lv0 b ad am o i)) (kk : lwE p l e s m below meth c b D cs ad am o i (cells + 6) (slots + 36) Q) : W p l e room_1 s m #[Value.ref b] below meth c H locs cells slots Q (F0 m 891 ls []) := by
  obtain ⟨hF, hflag, hK, hZ, hX, hbl, hL⟩ := id Cx
  obtain ⟨hx, hb, hml, hown, hts⟩ := id hF
  obtain ⟨cnt, t, d, n, sc, hs⟩ := hS
  have hA : ∀ q : Nat, s.heap.size ≤ q → lAq s q := fun _ h => h
  refine lv_aload_n hx hb dL_law_891 rfl (lv_at hl 1 rfl) ?_
  refine lw_arg (k := 1) Cx hi (by decide) (lv_at hl 0 rfl) (lv_at hl 4 rfl) hc.2.2 dL_law_892 dL_law_893 dL_law_895 (by decide) dL_law_896 dL_law_897 ?_
  refine lv_aload_n hx hb dL_law_898 rfl (lv_at hl 3 rfl) ?_
  refine fr_L (As := [.ref (ad 329), .int (xs (i + 1)), .ref o]) (rest := []) (mc := 2) (ms := 12) (post := wX_isReachable M J (xs (i + 1)) cnt) hF (vx_cwSW 3 hts gL_law_L_isReachable rfl rfl rfl (by decide +kernel) ⟨(Nat.le_of_ble_eq_true rfl), (Nat.le_of_ble_eq_true rfl)⟩) hK hA hZ hc (k_L_isReachable l hflag D ad cs o f M J (xs (i + 1)) cnt hs.1.cM hs.1.c16) rfl rfl hl.1 (Nat.le_of_ble_eq_true rfl) ⟨(by show cells + 2 ≤ 601024; omega), (by show slots + 12 ≤ 7293034; omega)⟩ dL_law_899 (fun k M1 J1 f1 H1 locs1 hw hc => ?_)
  refine lv_istore (lv' := (5, .int k) :: lv0 b ad am o i) hx hb dL_law_902 hl (by decide) rfl (fun ls hl => ?_)
  refine lv_aload_n hx hb dL_law_904 rfl (lv_at hl 3 rfl) ?_
  refine lw_arg (k := 1) Cx hi (by decide) (lv_at hl 1 rfl) (lv_at hl 5 rfl) hc.2.2 dL_law_905 dL_law_906 dL_law_908 (by decide) dL_law_909 dL_law_910 ?_
  refine fr_Vi (sh := mSh) (ad := am) (k := 0) (As := [.int (xs (i + 1))]) (rest := []) (post := qM_isReachable N K (xs (i + 1)) cnt) hF (cwV 1 hts gL_law_X9_isReachable rfl rfl rfl (by decide +kernel) ⟨(Nat.le_of_ble_eq_true rfl), (Nat.le_of_ble_eq_true rfl)⟩) hK hA (lC_perm hc List.perm_append_comm) (k_X9_isReachable l D am cs _ N K (xs (i + 1)) cnt hs.1.cN hs.1.c16) (by decide) rfl rfl rfl rfl hl.1 (Nat.le_of_ble_eq_true rfl) ⟨(by show cells + 2 ≤ 601024; omega), (by show slots + 12 ≤ 7293034; omega)⟩ dL_law_911 (fun b9 N1 K1 H2 locs2 hm hc => ?_)
  exact lw_tZ (P := 914) Cx (lC_perm hc List.perm_append_comm) (St_isReachable hs hw hm) hl (by omega) (by omega) (by omega) (by omega) kk dL_law_914 dL_law_916 dL_law_917 dL_law_920 dL_law_922 dL_law_927 dL_law_929 dL_law_932 dL_law_933 dL_law_934 dL_law_935 dL_law_937 dL_law_940 dL_law_941 dL_law_944 dL_law_945 dL_law_946 dL_law_951 (by decide)
set_option maxHeartbeats 4000000 in
set_option maxRecDepth 100000 in
theorem law_c13 {p : Program} {l : Launch} {e : Env} {s : State} {m : MethodId} {below : List Frame} {meth : Method} {c : Code} {H : Heap} {locs : List Loc} {cells slots : Nat} {Q : State → Prop} {ls : Array Slot} {b L i : Nat} {xs : Nat → Int32} {D : va_G} {cs : Nat → ClassId} {ad am : Nat → Nat} {o : Nat} {f : Nat → Int64} {M N : wM} {J K : wJ} (Cx : lwK p l s m c b L xs D cs) (hi : i + 7 ≤ L) (h1 : cells + 6 ≤ 601024) (h2 : slots + 36 ≤ 7293034) (hc : lC D (lAq s) s.heap (wL cs ad o f M J ++ wW 23 mSh am cs N K) H locs) (hS : Sim M N) (hl : lv_has ls 7 (lv0 b ad am o i)) (kk : lwE p l e s m below meth c b D cs ad am o i (cells + 6) (slots + 36) Q) : W p l e room_1 s m #[Value.ref b] below meth c H locs cells slots Q (F0 m 954 ls []) := by
  obtain ⟨hF, hflag, hK, hZ, hX, hbl, hL⟩ := id Cx
  obtain ⟨hx, hb, hml, hown, hts⟩ := id hF
  obtain ⟨cnt, t, d, n, sc, hs⟩ := hS
  have hA : ∀ q : Nat, s.heap.size ≤ q → lAq s q := fun _ h => h
  refine lv_aload_n hx hb dL_law_954 rfl (lv_at hl 1 rfl) ?_
  refine lw_arg (k := 1) Cx hi (by decide) (lv_at hl 0 rfl) (lv_at hl 4 rfl) hc.2.2 dL_law_955 dL_law_956 dL_law_958 (by decide) dL_law_959 dL_law_960 ?_
  refine lw_arg (k := 2) Cx hi (by decide) (lv_at hl 0 rfl) (lv_at hl 4 rfl) hc.2.2 dL_law_961 dL_law_962 dL_law_964 (by decide) dL_law_965 dL_law_966 ?_
  refine lw_arg (k := 3) Cx hi (by decide) (lv_at hl 0 rfl) (lv_at hl 4 rfl) hc.2.2 dL_law_967 dL_law_968 dL_law_970 (by decide) dL_law_971 dL_law_972 ?_
  refine lw_bool Cx dL_law_973 dL_law_976 dL_law_977 dL_law_980 ?_
  refine lv_aload_n hx hb dL_law_981 rfl (lv_at hl 3 rfl) ?_
  refine fr_L (As := [.ref (ad 329), .int (xs (i + 1)), .int (xs (i + 2)), .int (if xs (i + 3) = 0 then nI 0 else nI 1), .ref o]) (rest := []) (mc := 4) (ms := 24) (post := wX_entry M J (xs (i + 1)) (xs (i + 2)) (if xs (i + 3) = 0 then nI 0 else nI 1) cnt) hF (vx_cwSW 5 hts gL_law_L_entry rfl rfl rfl (by decide +kernel) ⟨(Nat.le_of_ble_eq_true rfl), (Nat.le_of_ble_eq_true rfl)⟩) hK hA hZ hc (k_L_entry l hflag D ad cs o f M J (xs (i + 1)) (xs (i + 2)) (if xs (i + 3) = 0 then nI 0 else nI 1) cnt hs.1.cM hs.1.c16) rfl rfl hl.1 (Nat.le_of_ble_eq_true rfl) ⟨(by show cells + 4 ≤ 601024; omega), (by show slots + 24 ≤ 7293034; omega)⟩ dL_law_982 (fun k M1 J1 f1 H1 locs1 hw hc => ?_)
  refine lv_istore (lv' := (5, .int k) :: lv0 b ad am o i) hx hb dL_law_985 hl (by decide) rfl (fun ls hl => ?_)
  refine lv_aload_n hx hb dL_law_987 rfl (lv_at hl 3 rfl) ?_
  refine lw_arg (k := 1) Cx hi (by decide) (lv_at hl 1 rfl) (lv_at hl 5 rfl) hc.2.2 dL_law_988 dL_law_989 dL_law_991 (by decide) dL_law_992 dL_law_993 ?_
  refine lw_arg (k := 2) Cx hi (by decide) (lv_at hl 1 rfl) (lv_at hl 5 rfl) hc.2.2 dL_law_994 dL_law_995 dL_law_997 (by decide) dL_law_998 dL_law_999 ?_
  refine lw_arg (k := 3) Cx hi (by decide) (lv_at hl 1 rfl) (lv_at hl 5 rfl) hc.2.2 dL_law_1000 dL_law_1001 dL_law_1003 (by decide) dL_law_1004 dL_law_1005 ?_
  refine lw_bool Cx dL_law_1006 dL_law_1009 dL_law_1010 dL_law_1013 ?_
  refine fr_Vi (sh := mSh) (ad := am) (k := 0) (As := [.int (xs (i + 1)), .int (xs (i + 2)), .int (if xs (i + 3) = 0 then nI 0 else nI 1)]) (rest := []) (post := qM_entry N K (xs (i + 1)) (xs (i + 2)) (if xs (i + 3) = 0 then nI 0 else nI 1) cnt) hF (cwV 3 hts gL_law_X9_entry rfl rfl rfl (by decide +kernel) ⟨(Nat.le_of_ble_eq_true rfl), (Nat.le_of_ble_eq_true rfl)⟩) hK hA (lC_perm hc List.perm_append_comm) (k_X9_entry l D am cs _ N K (xs (i + 1)) (xs (i + 2)) (if xs (i + 3) = 0 then nI 0 else nI 1) cnt hs.1.cN hs.1.c16) (by decide) rfl rfl rfl rfl hl.1 (Nat.le_of_ble_eq_true rfl) ⟨(by show cells + 4 ≤ 601024; omega), (by show slots + 24 ≤ 7293034; omega)⟩ dL_law_1014 (fun b9 N1 K1 H2 locs2 hm hc => ?_)
  exact lw_tI (P := 1017) Cx (lC_perm hc List.perm_append_comm) (St_entry hs hw hm) hl (by omega) (by omega) (by omega) (by omega) kk dL_law_1017 dL_law_1019 dL_law_1020 dL_law_1023 dL_law_1025 dL_law_1030 dL_law_1032 dL_law_1035 dL_law_1036 dL_law_1037 dL_law_1038 dL_law_1040 dL_law_1041 dL_law_1042 dL_law_1047 (by decide)
