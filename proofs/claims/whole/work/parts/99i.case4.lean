/-! the cases of the law: laid by wip/gen/law.py -/
set_option maxHeartbeats 4000000 in
set_option maxRecDepth 100000 in
theorem law_c20 {p : Program} {l : Launch} {e : Env} {s : State} {m : MethodId} {below : List Frame} {meth : Method} {c : Code} {H : Heap} {locs : List Loc} {cells slots : Nat} {Q : State → Prop} {ls : Array Slot} {b L i : Nat} {xs : Nat → Int32} {D : va_G} {cs : Nat → ClassId} {ad am : Nat → Nat} {o : Nat} {f : Nat → Int64} {M N : wM} {J K : wJ} (Cx : lwK p l s m c b L xs D cs) (hi : i + 7 ≤ L) (h1 : cells + 6 ≤ 601024) (h2 : slots + 36 ≤ 7293034) (hc : lC D (lAq s) s.heap (wL cs ad o f M J ++ wW 23 mSh am cs N K) H locs) (hS : Sim M N) (hl : lv_has ls 7 (lv0 b ad am o i)) (kk : lwE p l e s m below meth c b D cs ad am o i (cells + 6) (slots + 36) Q) : W p l e room_1 s m #[Value.ref b] below meth c H locs cells slots Q (F0 m 1477 ls []) := by
  obtain ⟨hF, hflag, hK, hZ, hX, hbl, hL⟩ := id Cx
  obtain ⟨hx, hb, hml, hown, hts⟩ := id hF
  obtain ⟨cnt, t, d, n, sc, hs⟩ := hS
  have hA : ∀ q : Nat, s.heap.size ≤ q → lAq s q := fun _ h => h
  refine lv_aload_n hx hb dL_law_1477 rfl (lv_at hl 1 rfl) ?_
  refine lw_arg (k := 1) Cx hi (by decide) (lv_at hl 0 rfl) (lv_at hl 4 rfl) hc.2.2 dL_law_1478 dL_law_1479 dL_law_1481 (by decide) dL_law_1482 dL_law_1483 ?_
  refine lv_aload_n hx hb dL_law_1484 rfl (lv_at hl 3 rfl) ?_
  refine fr_L (As := [.ref (ad 329), .int (xs (i + 1)), .ref o]) (rest := []) (mc := 1) (ms := 6) (post := wX_enteredBlock M J (xs (i + 1)) sc) hF (vx_cwSW 3 hts gL_law_L_enteredBlock rfl rfl rfl (by decide +kernel) ⟨(Nat.le_of_ble_eq_true rfl), (Nat.le_of_ble_eq_true rfl)⟩) hK hA hZ hc (k_L_enteredBlock l hflag D ad cs o f M J (xs (i + 1)) sc hs.2.2.2.2.2.2.1 hs.2.2.2.2.2.2.2.2.1) rfl rfl hl.1 (Nat.le_of_ble_eq_true rfl) ⟨(by show cells + 1 ≤ 601024; omega), (by show slots + 6 ≤ 7293034; omega)⟩ dL_law_1485 (fun k M1 J1 f1 H1 locs1 hw hc => ?_)
  refine lv_istore (lv' := (5, .int k) :: lv0 b ad am o i) hx hb dL_law_1488 hl (by decide) rfl (fun ls hl => ?_)
  refine lv_aload_n hx hb dL_law_1490 rfl (lv_at hl 3 rfl) ?_
  refine lw_arg (k := 1) Cx hi (by decide) (lv_at hl 1 rfl) (lv_at hl 5 rfl) hc.2.2 dL_law_1491 dL_law_1492 dL_law_1494 (by decide) dL_law_1495 dL_law_1496 ?_
  refine fr_Vi (sh := mSh) (ad := am) (k := 0) (As := [.int (xs (i + 1))]) (rest := []) (post := qM_enteredBlock N K (xs (i + 1)) sc) hF (cwV 1 hts gL_law_X9_enteredBlock rfl rfl rfl (by decide +kernel) ⟨(Nat.le_of_ble_eq_true rfl), (Nat.le_of_ble_eq_true rfl)⟩) hK hA (lC_perm hc List.perm_append_comm) (k_X9_enteredBlock l D am cs _ N K (xs (i + 1)) sc hs.2.2.2.2.2.2.2.1 hs.2.2.2.2.2.2.2.2.1) (by decide) rfl rfl rfl rfl hl.1 (Nat.le_of_ble_eq_true rfl) ⟨(by show cells + 1 ≤ 601024; omega), (by show slots + 6 ≤ 7293034; omega)⟩ dL_law_1497 (fun b9 N1 K1 H2 locs2 hm hc => ?_)
  exact lw_tI (P := 1500) Cx (lC_perm hc List.perm_append_comm) (St_enteredBlock hs hw hm) hl (by omega) (by omega) (by omega) (by omega) kk dL_law_1500 dL_law_1502 dL_law_1503 dL_law_1506 dL_law_1508 dL_law_1513 dL_law_1515 dL_law_1518 dL_law_1519 dL_law_1520 dL_law_1521 dL_law_1523 dL_law_1524 dL_law_1525 dL_law_1530 (by decide)
set_option maxHeartbeats 4000000 in
set_option maxRecDepth 100000 in
theorem law_c21 {p : Program} {l : Launch} {e : Env} {s : State} {m : MethodId} {below : List Frame} {meth : Method} {c : Code} {H : Heap} {locs : List Loc} {cells slots : Nat} {Q : State → Prop} {ls : Array Slot} {b L i : Nat} {xs : Nat → Int32} {D : va_G} {cs : Nat → ClassId} {ad am : Nat → Nat} {o : Nat} {f : Nat → Int64} {M N : wM} {J K : wJ} (Cx : lwK p l s m c b L xs D cs) (hi : i + 7 ≤ L) (h1 : cells + 6 ≤ 601024) (h2 : slots + 36 ≤ 7293034) (hc : lC D (lAq s) s.heap (wL cs ad o f M J ++ wW 23 mSh am cs N K) H locs) (hS : Sim M N) (hl : lv_has ls 7 (lv0 b ad am o i)) (kk : lwE p l e s m below meth c b D cs ad am o i (cells + 6) (slots + 36) Q) : W p l e room_1 s m #[Value.ref b] below meth c H locs cells slots Q (F0 m 1533 ls []) := by
  obtain ⟨hF, hflag, hK, hZ, hX, hbl, hL⟩ := id Cx
  obtain ⟨hx, hb, hml, hown, hts⟩ := id hF
  obtain ⟨cnt, t, d, n, sc, hs⟩ := hS
  have hA : ∀ q : Nat, s.heap.size ≤ q → lAq s q := fun _ h => h
  refine lv_aload_n hx hb dL_law_1533 rfl (lv_at hl 1 rfl) ?_
  refine lw_arg (k := 1) Cx hi (by decide) (lv_at hl 0 rfl) (lv_at hl 4 rfl) hc.2.2 dL_law_1534 dL_law_1535 dL_law_1537 (by decide) dL_law_1538 dL_law_1539 ?_
  refine lw_arg (k := 2) Cx hi (by decide) (lv_at hl 0 rfl) (lv_at hl 4 rfl) hc.2.2 dL_law_1540 dL_law_1541 dL_law_1543 (by decide) dL_law_1544 dL_law_1545 ?_
  refine lv_aload_n hx hb dL_law_1546 rfl (lv_at hl 3 rfl) ?_
  refine fr_L (As := [.ref (ad 329), .int (xs (i + 1)), .int (xs (i + 2)), .ref o]) (rest := []) (mc := 2) (ms := 12) (post := wX_enteredWith M J (xs (i + 1)) (xs (i + 2)) sc) hF (vx_cwSW 4 hts gL_law_L_enteredWith rfl rfl rfl (by decide +kernel) ⟨(Nat.le_of_ble_eq_true rfl), (Nat.le_of_ble_eq_true rfl)⟩) hK hA hZ hc (k_L_enteredWith l hflag D ad cs o f M J (xs (i + 1)) (xs (i + 2)) sc hs.2.2.2.2.2.2.1 hs.2.2.2.2.2.2.2.2.1) rfl rfl hl.1 (Nat.le_of_ble_eq_true rfl) ⟨(by show cells + 2 ≤ 601024; omega), (by show slots + 12 ≤ 7293034; omega)⟩ dL_law_1547 (fun k M1 J1 f1 H1 locs1 hw hc => ?_)
  refine lv_istore (lv' := (5, .int k) :: lv0 b ad am o i) hx hb dL_law_1550 hl (by decide) rfl (fun ls hl => ?_)
  refine lv_aload_n hx hb dL_law_1552 rfl (lv_at hl 3 rfl) ?_
  refine lw_arg (k := 1) Cx hi (by decide) (lv_at hl 1 rfl) (lv_at hl 5 rfl) hc.2.2 dL_law_1553 dL_law_1554 dL_law_1556 (by decide) dL_law_1557 dL_law_1558 ?_
  refine lw_arg (k := 2) Cx hi (by decide) (lv_at hl 1 rfl) (lv_at hl 5 rfl) hc.2.2 dL_law_1559 dL_law_1560 dL_law_1562 (by decide) dL_law_1563 dL_law_1564 ?_
  refine fr_Vi (sh := mSh) (ad := am) (k := 0) (As := [.int (xs (i + 1)), .int (xs (i + 2))]) (rest := []) (post := qM_enteredWith N K (xs (i + 1)) (xs (i + 2)) sc) hF (cwV 2 hts gL_law_X9_enteredWith rfl rfl rfl (by decide +kernel) ⟨(Nat.le_of_ble_eq_true rfl), (Nat.le_of_ble_eq_true rfl)⟩) hK hA (lC_perm hc List.perm_append_comm) (k_X9_enteredWith l D am cs _ N K (xs (i + 1)) (xs (i + 2)) sc hs.2.2.2.2.2.2.2.1 hs.2.2.2.2.2.2.2.2.1) (by decide) rfl rfl rfl rfl hl.1 (Nat.le_of_ble_eq_true rfl) ⟨(by show cells + 2 ≤ 601024; omega), (by show slots + 12 ≤ 7293034; omega)⟩ dL_law_1565 (fun b9 N1 K1 H2 locs2 hm hc => ?_)
  exact lw_tI (P := 1568) Cx (lC_perm hc List.perm_append_comm) (St_enteredWith hs hw hm) hl (by omega) (by omega) (by omega) (by omega) kk dL_law_1568 dL_law_1570 dL_law_1571 dL_law_1574 dL_law_1576 dL_law_1581 dL_law_1583 dL_law_1586 dL_law_1587 dL_law_1588 dL_law_1589 dL_law_1591 dL_law_1592 dL_law_1593 dL_law_1598 (by decide)
set_option maxHeartbeats 4000000 in
set_option maxRecDepth 100000 in
theorem law_c22 {p : Program} {l : Launch} {e : Env} {s : State} {m : MethodId} {below : List Frame} {meth : Method} {c : Code} {H : Heap} {locs : List Loc} {cells slots : Nat} {Q : State → Prop} {ls : Array Slot} {b L i : Nat} {xs : Nat → Int32} {D : va_G} {cs : Nat → ClassId} {ad am : Nat → Nat} {o : Nat} {f : Nat → Int64} {M N : wM} {J K : wJ} (Cx : lwK p l s m c b L xs D cs) (hi : i + 7 ≤ L) (h1 : cells + 6 ≤ 601024) (h2 : slots + 36 ≤ 7293034) (hc : lC D (lAq s) s.heap (wL cs ad o f M J ++ wW 23 mSh am cs N K) H locs) (hS : Sim M N) (hl : lv_has ls 7 (lv0 b ad am o i)) (kk : lwE p l e s m below meth c b D cs ad am o i (cells + 6) (slots + 36) Q) : W p l e room_1 s m #[Value.ref b] below meth c H locs cells slots Q (F0 m 1601 ls []) := by
  obtain ⟨hF, hflag, hK, hZ, hX, hbl, hL⟩ := id Cx
  obtain ⟨hx, hb, hml, hown, hts⟩ := id hF
  obtain ⟨cnt, t, d, n, sc, hs⟩ := hS
  have hA : ∀ q : Nat, s.heap.size ≤ q → lAq s q := fun _ h => h
  refine lv_aload_n hx hb dL_law_1601 rfl (lv_at hl 1 rfl) ?_
  refine lw_arg (k := 1) Cx hi (by decide) (lv_at hl 0 rfl) (lv_at hl 4 rfl) hc.2.2 dL_law_1602 dL_law_1603 dL_law_1605 (by decide) dL_law_1606 dL_law_1607 ?_
  refine lv_aload_n hx hb dL_law_1608 rfl (lv_at hl 3 rfl) ?_
  refine fr_L (As := [.ref (ad 329), .int (xs (i + 1)), .ref o]) (rest := []) (mc := 1) (ms := 6) (post := wX_result M J (xs (i + 1))) hF (vx_cwSW 3 hts gL_law_L_result rfl rfl rfl (by decide +kernel) ⟨(Nat.le_of_ble_eq_true rfl), (Nat.le_of_ble_eq_true rfl)⟩) hK hA hZ hc (k_L_result l hflag D ad cs o f M J (xs (i + 1))) rfl rfl hl.1 (Nat.le_of_ble_eq_true rfl) ⟨(by show cells + 1 ≤ 601024; omega), (by show slots + 6 ≤ 7293034; omega)⟩ dL_law_1609 (fun k M1 J1 f1 H1 locs1 hw hc => ?_)
  refine lv_istore (lv' := (5, .int k) :: lv0 b ad am o i) hx hb dL_law_1612 hl (by decide) rfl (fun ls hl => ?_)
  refine lv_aload_n hx hb dL_law_1614 rfl (lv_at hl 3 rfl) ?_
  refine lw_arg (k := 1) Cx hi (by decide) (lv_at hl 1 rfl) (lv_at hl 5 rfl) hc.2.2 dL_law_1615 dL_law_1616 dL_law_1618 (by decide) dL_law_1619 dL_law_1620 ?_
  refine fr_Vi (sh := mSh) (ad := am) (k := 0) (As := [.int (xs (i + 1))]) (rest := []) (post := qM_result N K (xs (i + 1))) hF (cwV 1 hts gL_law_X9_result rfl rfl rfl (by decide +kernel) ⟨(Nat.le_of_ble_eq_true rfl), (Nat.le_of_ble_eq_true rfl)⟩) hK hA (lC_perm hc List.perm_append_comm) (k_X9_result l D am cs _ N K (xs (i + 1))) (by decide) rfl rfl rfl rfl hl.1 (Nat.le_of_ble_eq_true rfl) ⟨(by show cells + 1 ≤ 601024; omega), (by show slots + 6 ≤ 7293034; omega)⟩ dL_law_1621 (fun b9 N1 K1 H2 locs2 hm hc => ?_)
  exact lw_tI (P := 1624) Cx (lC_perm hc List.perm_append_comm) (St_result hs hw hm) hl (by omega) (by omega) (by omega) (by omega) kk dL_law_1624 dL_law_1626 dL_law_1627 dL_law_1630 dL_law_1632 dL_law_1637 dL_law_1639 dL_law_1642 dL_law_1643 dL_law_1644 dL_law_1645 dL_law_1647 dL_law_1648 dL_law_1649 dL_law_1654 (by decide)
set_option maxHeartbeats 4000000 in
set_option maxRecDepth 100000 in
theorem law_c23 {p : Program} {l : Launch} {e : Env} {s : State} {m : MethodId} {below : List Frame} {meth : Method} {c : Code} {H : Heap} {locs : List Loc} {cells slots : Nat} {Q : State → Prop} {ls : Array Slot} {b L i : Nat} {xs : Nat → Int32} {D : va_G} {cs : Nat → ClassId} {ad am : Nat → Nat} {o : Nat} {f : Nat → Int64} {M N : wM} {J K : wJ} (Cx : lwK p l s m c b L xs D cs) (hi : i + 7 ≤ L) (h1 : cells + 6 ≤ 601024) (h2 : slots + 36 ≤ 7293034) (hc : lC D (lAq s) s.heap (wL cs ad o f M J ++ wW 23 mSh am cs N K) H locs) (hS : Sim M N) (hl : lv_has ls 7 (lv0 b ad am o i)) (kk : lwE p l e s m below meth c b D cs ad am o i (cells + 6) (slots + 36) Q) : W p l e room_1 s m #[Value.ref b] below meth c H locs cells slots Q (F0 m 1657 ls []) := by
  obtain ⟨hF, hflag, hK, hZ, hX, hbl, hL⟩ := id Cx
  obtain ⟨hx, hb, hml, hown, hts⟩ := id hF
  obtain ⟨cnt, t, d, n, sc, hs⟩ := hS
  have hA : ∀ q : Nat, s.heap.size ≤ q → lAq s q := fun _ h => h
  refine lv_aload_n hx hb dL_law_1657 rfl (lv_at hl 1 rfl) ?_
  refine fr_Vl (sh := cSh) (ad := ad) (k := 329) (As := []) (rest := []) (post := fun r_ u_ => u_ = (M, J) ∧ r_ = dgX M cnt) hF (cwV 0 hts gL_law_X8_digest rfl rfl rfl (by decide +kernel) ⟨(Nat.le_of_ble_eq_true rfl), (Nat.le_of_ble_eq_true rfl)⟩) hK hA (lC_perm hc wL_mid) (k_X8_digest l D ad cs _ M J cnt hs.1.cM hs.1.c16) (by decide) cs_X rfl rfl rfl hl.1 (Nat.le_of_ble_eq_true rfl) ⟨(by show cells ≤ 601024; omega), (by show slots ≤ 7293034; omega)⟩ dL_law_1658 (fun r M1 J1 H1 locs1 hw hc => ?_)
  have hc := lC_perm hc (wL_mid (f := f) (M := M1) (J := J1)).symm
  refine lv_aload_n hx hb dL_law_1661 rfl (lv_at hl 2 rfl) ?_
  refine fr_Vl (sh := mSh) (ad := am) (k := 0) (As := []) (rest := [.long r]) (post := fun r_ u_ => u_ = (wU N 0 0 (nI 0), K) ∧ r_ = gX N cnt) hF (cwV 0 hts gL_law_X9_digest rfl rfl rfl (by decide +kernel) ⟨(Nat.le_of_ble_eq_true rfl), (Nat.le_of_ble_eq_true rfl)⟩) hK hA (lC_perm hc List.perm_append_comm) (k_X9_digest l D am cs _ N K cnt hs.1.cN hs.1.c16) (by decide) rfl rfl rfl rfl hl.1 (Nat.le_of_ble_eq_true rfl) ⟨(by show cells ≤ 601024; omega), (by show slots ≤ 7293034; omega)⟩ dL_law_1662 (fun b9 N1 K1 H2 locs2 hm hc => ?_)
  obtain ⟨hu, hr⟩ := hw
  obtain ⟨hv, hb9⟩ := hm
  have hg : r = b9 ∧ Sim M1 N1 := by
    have e1 : M1 = M := (Prod.mk.inj hu).1
    have e2 : N1 = wU N 0 0 (nI 0) := (Prod.mk.inj hv).1
    exact ⟨by rw [hr, hb9, dg_X hs], by rw [e1, e2]; exact Sim_tQ hs.sim tQ_U⟩
  have fin : W p l e room_1 s m #[Value.ref b] below meth c H2 locs2 cells slots Q (F0 m 1671 ls []) :=
    W.widen (by omega) (by omega) (kk f M1 J1 N1 K1 _ _ ls (lC_perm hc List.perm_append_comm) hg.2 hl)
  refine W.lcmp hx hb dL_law_1665 ?_
  exact lv_if_eq (tgt := 1671) hx hb dL_law_1666 (by decide) (fun _ => fin) (fun z => absurd ((lg_cmp_eq _ _).mpr hg.1) z)
