/-! ===== the law's start ===== -/
section LST
variable {s : State} {args : Array Value}
theorem lw_arI (h : (Cond.arrayClass .int).before args s = true) : ∃ cA, ArrOfT s cA .int ∧ va_RA s cA .int := by
  obtain ⟨cA, kA, comp, h1, h2, h3⟩ := Cond.arrayClass_spec h
  exact ⟨cA, fun n z => ⟨fun k h => (by cases h), kA, h2, comp, h3⟩, h1⟩
theorem lw_arZ (h : (Cond.arrayClass .boolean).before args s = true) : ∃ cA, ArrOfT s cA .boolean ∧ va_RA s cA .boolean := by
  obtain ⟨cA, kA, comp, h1, h2, h3⟩ := Cond.arrayClass_spec h
  exact ⟨cA, fun n z => ⟨fun k h => (by cases h), kA, h2, comp, h3⟩, h1⟩
theorem lw_arJ (h : (Cond.arrayClass .long).before args s = true) : ∃ cA, ArrOfT s cA .long ∧ va_RA s cA .long := by
  obtain ⟨cA, kA, comp, h1, h2, h3⟩ := Cond.arrayClass_spec h
  exact ⟨cA, fun n z => ⟨fun k h => (by cases h), kA, h2, comp, h3⟩, h1⟩
theorem lw_arO {C : String} (h : (Cond.arrayOver (.object C)).before args s = true) : ∃ cA, ArrOfT s cA (.object C) ∧ va_RA s cA (.object C) := by
  obtain ⟨comp, cA, kA, h1, -, h2, h3, h4⟩ := Cond.arrayOver_spec h
  exact ⟨cA, fun n z => ⟨fun k h => (by cases h), kA, h2, comp, h3⟩, kA, comp, h2, h3, h1, h4⟩
theorem lw_Kn (hts : ∀ w ∈ lw_tbl, w.before args s = true) : ∃ (D : va_G) (cs : Nat → ClassId), va_K D vwCl (wT cs) s := by
  obtain ⟨c0, i0, k0⟩ := u_known (C := RX0) (T := TX0) (N := 3) (n := 3) hts inX0 (hts (.instantiable RX0 3) (by decide +kernel))
  obtain ⟨c1, i1, k1⟩ := u_known (C := RX2) (T := TX2) (N := 10) (n := 10) hts inX2 (hts (.instantiable RX2 10) (by decide +kernel))
  obtain ⟨c2, i2, k2⟩ := u_known (C := RX3) (T := TX3) (N := 5) (n := 5) hts inX3 (hts (.instantiable RX3 5) (by decide +kernel))
  obtain ⟨c3, i3, k3⟩ := u_known (C := RX4) (T := TX4) (N := 4) (n := 4) hts inX4 (hts (.instantiable RX4 4) (by decide +kernel))
  obtain ⟨c4, i4, k4⟩ := u_known (C := RX5) (T := TX5) (N := 3) (n := 3) hts inX5 (hts (.instantiable RX5 3) (by decide +kernel))
  obtain ⟨c5, i5, k5⟩ := u_known (C := RX6) (T := TX6) (N := 4) (n := 4) hts inX6 (hts (.instantiable RX6 4) (by decide +kernel))
  obtain ⟨c6, i6, k6⟩ := u_known (C := RX7) (T := TX7) (N := 3) (n := 3) hts inX7 (hts (.instantiable RX7 3) (by decide +kernel))
  obtain ⟨c7, i7, k7⟩ := u_known (C := RX8) (T := TX8) (N := 5) (n := 5) hts inX8 (hts (.instantiable RX8 5) (by decide +kernel))
  obtain ⟨c8, i8, k8⟩ := u_known (C := RX9) (T := TX9) (N := 31) (n := 31) hts inX9 (hts (.instantiable RX9 31) (by decide +kernel))
  obtain ⟨a0, A0⟩ := lw_arI (hts (.arrayClass .int) (by decide +kernel))
  obtain ⟨a1, A1⟩ := lw_arZ (hts (.arrayClass .boolean) (by decide +kernel))
  obtain ⟨a2, A2⟩ := lw_arO (C := "RangePropagator$Block") (hts (.arrayOver (.object "RangePropagator$Block")) (by decide +kernel))
  obtain ⟨a3, A3⟩ := lw_arO (C := "RangePropagator$Flow") (hts (.arrayOver (.object "RangePropagator$Flow")) (by decide +kernel))
  obtain ⟨a4, A4⟩ := lw_arO (C := "RangePropagator$State") (hts (.arrayOver (.object "RangePropagator$State")) (by decide +kernel))
  obtain ⟨a5, A5⟩ := lw_arJ (hts (.arrayClass .long) (by decide +kernel))
  refine ⟨(fun k => if k = 0 then c0 else if k = 1 then c1 else if k = 2 then c2 else if k = 3 then c3 else if k = 4 then c4 else if k = 5 then c5 else if k = 6 then c6 else if k = 7 then c7 else c8, fun k => if k = 0 then i0 else if k = 1 then i1 else if k = 2 then i2 else if k = 3 then i3 else if k = 4 then i4 else if k = 5 then i5 else if k = 6 then i6 else if k = 7 then i7 else i8), fun k => if k = 0 then a0 else if k = 1 then a1 else if k = 2 then a2 else if k = 3 then a3 else if k = 4 then a4 else a5, ?_, ?_⟩
  · intro k q hq
    match k, hq with
    | 0, hq => obtain rfl : (RX0, TX0, 3) = q := Option.some.inj hq; exact k0
    | 1, hq => obtain rfl : (RX2, TX2, 10) = q := Option.some.inj hq; exact k1
    | 2, hq => obtain rfl : (RX3, TX3, 5) = q := Option.some.inj hq; exact k2
    | 3, hq => obtain rfl : (RX4, TX4, 4) = q := Option.some.inj hq; exact k3
    | 4, hq => obtain rfl : (RX5, TX5, 3) = q := Option.some.inj hq; exact k4
    | 5, hq => obtain rfl : (RX6, TX6, 4) = q := Option.some.inj hq; exact k5
    | 6, hq => obtain rfl : (RX7, TX7, 3) = q := Option.some.inj hq; exact k6
    | 7, hq => obtain rfl : (RX8, TX8, 5) = q := Option.some.inj hq; exact k7
    | 8, hq => obtain rfl : (RX9, TX9, 31) = q := Option.some.inj hq; exact k8
    | k + 9, hq => exact absurd (List.getElem?_eq_some_iff.mp hq).1 (by show ¬ (k + 9 < 9); omega)
  · intro k q hq
    match k, hq with
    | 0, hq => obtain rfl : (a0, .int) = q := Option.some.inj hq; exact A0
    | 1, hq => obtain rfl : (a1, .boolean) = q := Option.some.inj hq; exact A1
    | 2, hq => obtain rfl : (a2, .object "RangePropagator$Block") = q := Option.some.inj hq; exact A2
    | 3, hq => obtain rfl : (a3, .object "RangePropagator$Flow") = q := Option.some.inj hq; exact A3
    | 4, hq => obtain rfl : (a4, .object "RangePropagator$State") = q := Option.some.inj hq; exact A4
    | 5, hq => obtain rfl : (a5, .long) = q := Option.some.inj hq; exact A5
    | k + 6, hq => exact absurd (List.getElem?_eq_some_iff.mp hq).1 (by show ¬ (k + 6 < 6); omega)
theorem lw_st : ∀ q ∈ xSt, Cond.stringRef RX8 q.1 q.2 ∈ lw_tbl := by decide +kernel
theorem lw_ca : ∀ E ∈ xEs, Cond.castable E E ∈ lw_tbl := by decide +kernel
theorem lw_de : ∀ d ∈ xDs, Cond.declares d ∈ lw_tbl := by decide +kernel
set_option maxRecDepth 100000 in
theorem lw_nc : ∀ E ∈ xEs, ∀ F ∈ xEs, E ≠ F → Cond.not (.castable E F) ∈ flatC (Jvm.Cond.and given_1 narrow_1) := by decide +kernel
set_option maxRecDepth 100000 in
theorem lw_xZ {D : va_G} {cs : Nat → ClassId} (hts : ∀ w ∈ lw_tbl, w.before args s = true) (hgv : (Jvm.Cond.and given_1 narrow_1).before args s = true) (hK : va_K D vwCl (wT cs) s) : xZ (lAq s) s := by
  have hfl := flat_of_before _ hgv
  have hcur : s.vm.findClass RX8 = some (D.1 7) := (hK.1 7 (RX8, TX8, 5) rfl).2.1
  refine ⟨vx_Zqof (hts (.laysStatic Bundle.tN "UNASSIGNED_STACK" Bundle.steD) (by decide +kernel)) (hts (.initialized Bundle.tN) (by decide +kernel)) (hfl _ (by decide +kernel)) (fun a ha => Nat.not_le.mpr ha), vx_Zqof (hts (.laysStatic Bundle.tN "SUPPRESSED_SENTINEL" Bundle.listD) (by decide +kernel)) (hts (.initialized Bundle.tN) (by decide +kernel)) (hfl _ (by decide +kernel)) (fun a ha => Nat.not_le.mpr ha), fun q hq => ?_, fun E hE => va_Nw.of rfl (hts _ (lw_ca E hE)), fun E hE F hF hn => va_Nc.of (hfl _ (lw_nc E hE F hF hn)), fun d hd => va_Nw.of rfl (hts _ (lw_de d hd))⟩
  have h1 := hts _ (lw_st q hq)
  obtain ⟨k, cf, j, a, -, -, -, -, -, hev⟩ := Cond.stringRef_spec hcur h1
  exact ⟨a, vk_R.of h1 hev⟩
theorem lw_nZ (hts : ∀ w ∈ lw_tbl, w.before args s = true) : nZ s :=
  ⟨va_Nw.of rfl (hts _ (by decide +kernel)), va_Nw.of rfl (hts _ (by decide +kernel)), va_Nw.of rfl (hts _ (by decide +kernel)), va_Nw.of rfl (hts _ (by decide +kernel)), va_Nw.of rfl (hts _ (by decide +kernel)), va_AO.of (hts (.arrayOver (.object RX2)) (by decide +kernel)), va_AO.of (hts (.arrayOver (.object RX4)) (by decide +kernel)), va_AO.of (hts (.arrayOver (.object RX7)) (by decide +kernel)), va_Nw.of rfl (hts _ (by decide +kernel))⟩
end LST
set_option maxHeartbeats 4000000 in
set_option maxRecDepth 100000 in
/-- from the entry, for every script of at most 3584 ints, the law comes to its end with true -/
theorem whole_start {p : Program} {e : Env} {s : State} {m : MethodId} {below : List Frame} {meth : Method} {c : Code} (l : Launch) (hflags : l.flags = flags0) {b L : Nat} {xs : Nat → Int32} (hL : L ≤ 3584) (C0 : lw_At p s m meth c b L xs) : W p l e room_1 s m #[Value.ref b] below meth c s.heap [] 0 0 (lw_Z below #[Value.ref b] s) (entryFrame m ([Value.ref b] : List Value).toArray 7) := by
  obtain ⟨hx, hb, hr, hml, hown, hts, hX, hbl, hlocks, hgv⟩ := id C0
  have hflag : l.stackTraces = false := by
    unfold Launch.stackTraces
    rw [hflags]
    decide
  obtain ⟨D, cs, hK⟩ := lw_Kn hts
  have hZ := lw_xZ hts hgv hK
  have hN := lw_nZ hts
  have hts2 : ∀ w ∈ wsL_law, w.before #[Value.ref b] s = true := fun w hw => hts w (wsL_law_in w hw)
  have hF : CallFix p m c cL_law 7 s #[Value.ref b] wsL_law RL := ⟨hx, hb, hml, hown, hts2⟩
  have hA : ∀ q : Nat, s.heap.size ≤ q → lAq s q := fun _ h => h
  have hl := lv_entry ([.ref b]) (n := 7) (Nat.le_of_ble_eq_true rfl)
  rw [lg_entry_eq]
  generalize (lg_sl ([.ref b]) ++ List.replicate (7 - (lg_sl ([.ref b])).length) Slot.unset).toArray = ls at hl ⊢
  have hl : lv_has ls 7 [(0, .ref b)] := hl
  have hc : lC D (lAq s) s.heap [] s.heap [] := ⟨fun k q h => by simp at h, ⟨fun i j p q h => by simp at h, fun k q h => by simp at h⟩, va_S.rf⟩
  refine vr_new (ci := 7) (fs := [.null, .null, .null, .null, .int 0]) hx hb hts2 inlX8 tyX8 tyX8_ok hown (hts (.classLink RL 8 RX8) (by decide +kernel)) (hts (.instantiable RX8 5) (by decide +kernel)) (hts (.initialized RX8) (by decide +kernel)) hK hA rfl (fun j hj => by rcases (show j = 0 ∨ j = 1 ∨ j = 2 ∨ j = 3 ∨ j = 4 by omega) with rfl | rfl | rfl | rfl | rfl <;> rfl) hc (Nat.le_of_ble_eq_true rfl) (Nat.le_of_ble_eq_true rfl) dL_law_0 (fun q1 H hc => ?_)
  refine lv_dup hx hb dL_law_3 rfl ?_
  refine vr_cI (mc := 339) (ms := 3966) (As := []) (rest := [.ref q1]) hF (cwI 0 hts2 gL_law_X8_init rfl rfl rfl (hts (.initialized RX8) (by decide +kernel)) (hts (.methodLink RL 88 yX8_init) (by decide +kernel)) (hts (.instanceMethod yX8_init) (by decide +kernel)) rfl (by decide +kernel) ⟨(Nat.le_of_ble_eq_true rfl), (Nat.le_of_ble_eq_true rfl)⟩) hK hN hA hc (c_X8_init l D cs) rfl rfl hl.1 (Nat.le_of_ble_eq_true rfl) ⟨(Nat.le_of_ble_eq_true rfl), (Nat.le_of_ble_eq_true rfl)⟩ dL_law_4 (fun w1 H locs ho hd1 => ?_)
  obtain ⟨ad, e1, rfl⟩ := ho
  subst e1
  have hc := hd1
  refine lv_astore_n (lv' := [(1, .ref (ad 329)), (0, .ref b)]) hx hb dL_law_7 rfl hl (by decide) rfl (fun ls hl => ?_)
  refine vr_new (ci := 8) (fs := [.int 0, .int 0, .null, .null, .null, .null, .null, .null, .null, .null, .null, .null, .int 0, .int 0, .int 0, .null, .int 0, .null, .null, .null, .null, .null, .null, .int 0, .null, .null, .int 0, .null, .null, .null, .long 0]) hx hb hts2 inlX9 tyX9 tyX9_ok hown (hts (.classLink RL 89 RX9) (by decide +kernel)) (hts (.instantiable RX9 31) (by decide +kernel)) (hts (.initialized RX9) (by decide +kernel)) hK hA rfl (fun j hj => by rcases (show j = 0 ∨ j = 1 ∨ j = 2 ∨ j = 3 ∨ j = 4 ∨ j = 5 ∨ j = 6 ∨ j = 7 ∨ j = 8 ∨ j = 9 ∨ j = 10 ∨ j = 11 ∨ j = 12 ∨ j = 13 ∨ j = 14 ∨ j = 15 ∨ j = 16 ∨ j = 17 ∨ j = 18 ∨ j = 19 ∨ j = 20 ∨ j = 21 ∨ j = 22 ∨ j = 23 ∨ j = 24 ∨ j = 25 ∨ j = 26 ∨ j = 27 ∨ j = 28 ∨ j = 29 ∨ j = 30 by omega) with rfl | rfl | rfl | rfl | rfl | rfl | rfl | rfl | rfl | rfl | rfl | rfl | rfl | rfl | rfl | rfl | rfl | rfl | rfl | rfl | rfl | rfl | rfl | rfl | rfl | rfl | rfl | rfl | rfl | rfl | rfl <;> rfl) hc (Nat.le_of_ble_eq_true rfl) (Nat.le_of_ble_eq_true rfl) dL_law_8 (fun q2 H hc => ?_)
  refine lv_dup hx hb dL_law_11 rfl ?_
  refine vr_cI (mc := 22) (ms := 2998) (As := []) (rest := [.ref q2]) hF (cwI 0 hts2 gL_law_X9_init rfl rfl rfl (hts (.initialized RX9) (by decide +kernel)) (hts (.methodLink RL 91 yX9_init) (by decide +kernel)) (hts (.instanceMethod yX9_init) (by decide +kernel)) rfl (by decide +kernel) ⟨(Nat.le_of_ble_eq_true rfl), (Nat.le_of_ble_eq_true rfl)⟩) hK hN hA hc (c_X9_init l D cs) rfl rfl hl.1 (Nat.le_of_ble_eq_true rfl) ⟨(Nat.le_of_ble_eq_true rfl), (Nat.le_of_ble_eq_true rfl)⟩ dL_law_12 (fun w2 H locs ho hd2 => ?_)
  obtain ⟨am, e2, rfl⟩ := ho
  subst e2
  have hc := hd2
  refine lv_astore_n (lv' := [(2, .ref (am 0)), (1, .ref (ad 329)), (0, .ref b)]) hx hb dL_law_15 rfl hl (by decide) rfl (fun ls hl => ?_)
  refine lv_iconst (v := nI 1) hx hb dL_law_16 (by decide) ?_
  refine vr_nl (N' := 1) hx hb (hts (.arrayClass .long) (by decide +kernel)) hK hA hc (by decide) (by decide) (Nat.le_of_ble_eq_true rfl) (Nat.le_of_ble_eq_true rfl) (Nat.le_of_ble_eq_true rfl) dL_law_17 (fun o H hc => ?_)
  refine lv_astore_n (lv' := [(3, .ref o), (2, .ref (am 0)), (1, .ref (ad 329)), (0, .ref b)]) hx hb dL_law_19 rfl hl (by decide) rfl (fun ls hl => ?_)
  refine lv_iconst (v := nI 0) hx hb dL_law_20 (by decide) ?_
  refine lv_istore (lv' := [(4, .int (nI 0)), (3, .ref o), (2, .ref (am 0)), (1, .ref (ad 329)), (0, .ref b)]) hx hb dL_law_21 hl (by decide) rfl (fun ls hl => ?_)
  have hc2 : lC D (lAq s) s.heap (wL cs ad o (fun _ => 0) M0c (fun _ => 0) ++ wW 23 mSh am cs M0m (fun _ => 0)) H locs := lC_perm hc (List.Perm.cons _ (by rw [List.append_nil]; exact List.perm_append_comm))
  exact W.widen (k := 364 + 6 * 0) (n := 7004 + 36 * 0) (Nat.le_of_ble_eq_true rfl) (Nat.le_of_ble_eq_true rfl) (law_loop ⟨hF, hflag, hK, hZ, hX, hbl, hL⟩ hr hlocks (L + 1) 0 _ _ _ _ _ _ _ ls (Nat.zero_le _) (by omega) hc2 Sim_0 (lv_sub hl [4, 3, 2, 1, 0] rfl))
