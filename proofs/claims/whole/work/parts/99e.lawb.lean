/-! ===== the law: its start, its context, its arguments and its tails ===== -/
theorem Sim_0 : Sim M0c M0m := by
  have z : ∀ k j, k ≠ 0 → M0m k j = 0 := fun k j h => by unfold M0m; rw [if_neg h]
  have t0 : tn (0 : Int32) = 0 := by decide
  have m : ∀ k j, k ≠ 330 → k ≠ 332 → ¬ (3 ≤ k ∧ k < 201 ∧ k % 3 = 0) → M0c k j = 0 := fun k j a b c => by rw [M0_0 a b c]
  have iV0 : isV (0 : Int32) := ⟨by decide, by decide⟩
  refine ⟨1, 0, 2, 1, 0, ?_, ?_, ?_, ?_, ?_, ?_, ?_⟩
  · refine ⟨by decide, by decide, by decide, by decide, by decide, by decide, by decide, fun k hk => absurd hk (Nat.not_lt_zero k), by decide, by decide, by decide, by decide, by decide, by decide, by decide, fun v hv => ⟨?_, ?_⟩, fun v hv => ?_, fun b hb => ?_⟩
    · rw [z 9 v (by decide)]; exact m 1 v (by decide) (by decide) (by decide)
    · rw [z 10 v (by decide)]; exact m 2 v (by decide) (by decide) (by decide)
    · show -1000000000 ≤ (M0m 9 v).toInt ∧ (M0m 9 v).toInt ≤ (M0m 10 v).toInt ∧ (M0m 10 v).toInt ≤ 1000000000
      rw [z 9 v (by decide), z 10 v (by decide)]; decide
    · have e1 := z 1 b (by decide)
      have e3 := z 3 b (by decide)
      refine ⟨?_, ?_, ?_, ?_, ?_, ?_, fun _ => ⟨?_, ?_⟩, fun a ha => ?_, fun h => ?_, fun h => ?_, ?_, ?_, ?_⟩
      · rw [e1]; exact m _ 0 (by omega) (by omega) (by omega)
      · rw [e3]; exact m _ 5 (by omega) (by omega) (by omega)
      · rw [e1]; decide
      · rw [e1]; decide
      · rw [e3]; decide
      · rw [e3]; decide
      · rw [e1]; decide
      · rw [e3]; decide
      · rw [e1, t0] at ha; exact absurd ha (Nat.not_lt_zero a)
      · rw [e3, t0] at h; omega
      · rw [e3, t0] at h; omega
      · rw [z 6 b (by decide)]; exact iV0
      · rw [z 7 b (by decide)]; exact iV0
      · rw [z 8 b (by decide)]; exact ⟨0, by decide, by decide⟩
  · intro i hi
    by_cases h : i = 0
    · subst h; rw [m (3 * 0) 0 (by decide) (by decide) (by decide)]; exact bz_0
    · rw [M0_1 (by omega)]; exact Or.inr rfl
  · exact Or.inl (by decide)
  · decide
  · intro q hq; rw [z 12 q (by decide)]; exact bz_0
  · exact fun h => absurd (by decide) h
  · exact ⟨by decide, by decide, by decide, fun q hq => absurd hq (Nat.not_lt_zero q), fun v hv => by rw [z 22 v (by decide)]; exact m 337 v (by decide) (by decide) (by decide)⟩
abbrev lAq (s : State) : Nat → Prop := fun q => s.heap.size ≤ q
def lwK (p : Program) (l : Launch) (s : State) (m : MethodId) (c : Code) (b L : Nat) (xs : Nat → Int32) (D : va_G) (cs : Nat → ClassId) : Prop :=
  CallFix p m c cL_law 7 s #[Value.ref b] wsL_law RL ∧ l.stackTraces = false ∧ va_K D vwCl (wT cs) s ∧ xZ (lAq s) s ∧ va_X b L xs s s.heap ∧ b < s.heap.size ∧ L ≤ 3584
abbrev lv0 (b : Nat) (ad am : Nat → Nat) (o i : Nat) : List (Nat × Value) := [(0, .ref b), (1, .ref (ad 329)), (2, .ref (am 0)), (3, .ref o), (4, .int (nI i))]
/-- a case of the law ends at 1671, in a world where both sides belong together -/
def lwE (p : Program) (l : Launch) (e : Env) (s : State) (m : MethodId) (below : List Frame) (meth : Method) (c : Code) (b : Nat) (D : va_G) (cs : Nat → ClassId) (ad am : Nat → Nat) (o i cells slots : Nat) (Q : State → Prop) : Prop :=
  ∀ (f : Nat → Int64) (M : wM) (J : wJ) (N : wM) (K : wJ) (H : Heap) (locs : List Loc) (ls : Array Slot), lC D (lAq s) s.heap (wL cs ad o f M J ++ wW 23 mSh am cs N K) H locs → Sim M N → lv_has ls 7 (lv0 b ad am o i) → W p l e room_1 s m #[Value.ref b] below meth c H locs cells slots Q (F0 m 1671 ls [])
def sdL (x y : Int32) : Int64 := (x.toInt64 <<< ((nI 32).toInt64 &&& 63)) ||| (y.toInt64 &&& 4294967295)
theorem wL_mid {cs : Nat → ClassId} {ad : Nat → Nat} {o : Nat} {f : Nat → Int64} {M : wM} {J : wJ} {rs : va_W} : (wL cs ad o f M J ++ rs).Perm (wW 340 cSh ad cs M J ++ wO cs o f :: rs) := List.perm_middle.symm
section LWB
variable {p : Program} {l : Launch} {e : Env} {s : State} {m : MethodId} {below : List Frame} {meth : Method} {c : Code} {H : Heap} {locs : List Loc} {cells slots : Nat} {Q : State → Prop} {ls : Array Slot} {rest : List Value}
variable {b L i : Nat} {xs : Nat → Int32} {D : va_G} {cs : Nat → ClassId} {ad am : Nat → Nat} {o : Nat} {f : Nat → Int64} {M N : wM} {J K : wJ}
theorem lw_sld {P k : Nat} (Cx : lwK p l s m c b L xs D cs) (hi : i + 7 ≤ L) (hk : k < 7) (hS : va_S (lAq s) s.heap H locs) (d5 : decode cL_law P = .ok (.iaload, 1))
    (kk : W p l e room_1 s m #[Value.ref b] below meth c H locs cells slots Q (F0 m (P + 1) ls (.int (xs (i + k)) :: rest))) : W p l e room_1 s m #[Value.ref b] below meth c H locs cells slots Q (F0 m P ls (.int (nI i + nI k) :: .ref b :: rest)) := by
  obtain ⟨hF, hflag, hK, hZ, hX, hbl, hL⟩ := id Cx
  obtain ⟨hx, hb, hml, hown, hts⟩ := id hF
  rw [nI_add]
  refine va_sld hx hb hX hbl (Nat.not_le.mpr hbl) hS (vp_in_nI (by omega) (by omega)) d5 ?_
  rw [nI_clamp (by omega)]
  exact kk
theorem lw_arg {P k : Nat} {n : Int} (Cx : lwK p l s m c b L xs D cs) (hi : i + 7 ≤ L) (hk : k < 7) (h0 : ls[0]? = some (.val (.ref b))) (h4 : ls[4]? = some (.val (.int (nI i)))) (hS : va_S (lAq s) s.heap H locs) (d0 : decode cL_law P = .ok (.aload_n 0, 1)) (d1 : decode cL_law (P + 1) = .ok (.iload 4, 2)) (d3 : decode cL_law (P + 1 + 2) = .ok (.iconst n, 1)) (hn : Int32.ofInt n = nI k) (d4 : decode cL_law (P + 1 + 2 + 1) = .ok (.iadd, 1)) (d5 : decode cL_law (P + 1 + 2 + 1 + 1) = .ok (.iaload, 1))
    (kk : W p l e room_1 s m #[Value.ref b] below meth c H locs cells slots Q (F0 m (P + 6) ls (.int (xs (i + k)) :: rest))) : W p l e room_1 s m #[Value.ref b] below meth c H locs cells slots Q (F0 m P ls rest) := by
  have hx := Cx.1.1
  have hb := Cx.1.2.1
  refine lv_aload_n hx hb d0 rfl h0 ?_
  refine lv_iload hx hb d1 h4 ?_
  refine lv_iconst hx hb d3 hn ?_
  refine lv_iadd hx hb d4 ?_
  exact lw_sld Cx hi hk hS d5 kk
theorem lw_argb {P k : Nat} {n : Int} (Cx : lwK p l s m c b L xs D cs) (hi : i + 7 ≤ L) (hk : k < 7) (h0 : ls[0]? = some (.val (.ref b))) (h4 : ls[4]? = some (.val (.int (nI i)))) (hS : va_S (lAq s) s.heap H locs) (d0 : decode cL_law P = .ok (.aload_n 0, 1)) (d1 : decode cL_law (P + 1) = .ok (.iload 4, 2)) (d3 : decode cL_law (P + 1 + 2) = .ok (.bipush n, 2)) (hn : (Int8.ofInt n).toInt32 = nI k) (d4 : decode cL_law (P + 1 + 2 + 2) = .ok (.iadd, 1)) (d5 : decode cL_law (P + 1 + 2 + 2 + 1) = .ok (.iaload, 1))
    (kk : W p l e room_1 s m #[Value.ref b] below meth c H locs cells slots Q (F0 m (P + 7) ls (.int (xs (i + k)) :: rest))) : W p l e room_1 s m #[Value.ref b] below meth c H locs cells slots Q (F0 m P ls rest) := by
  have hx := Cx.1.1
  have hb := Cx.1.2.1
  refine lv_aload_n hx hb d0 rfl h0 ?_
  refine lv_iload hx hb d1 h4 ?_
  refine lv_bipush hx hb d3 hn ?_
  refine lv_iadd hx hb d4 ?_
  exact lw_sld Cx hi hk hS d5 kk
theorem lw_bool {P : Nat} {x : Int32} (Cx : lwK p l s m c b L xs D cs) (d0 : decode cL_law P = .ok (.ifCond .eq 7, 3)) (d3 : decode cL_law (P + 3) = .ok (.iconst 1, 1)) (d4 : decode cL_law (P + 3 + 1) = .ok (.goto 4, 3)) (d7 : decode cL_law (P + 7) = .ok (.iconst 0, 1))
    (kk : W p l e room_1 s m #[Value.ref b] below meth c H locs cells slots Q (F0 m (P + 8) ls (.int (if x = 0 then nI 0 else nI 1) :: rest))) : W p l e room_1 s m #[Value.ref b] below meth c H locs cells slots Q (F0 m P ls (.int x :: rest)) := by
  have hx := Cx.1.1
  have hb := Cx.1.2.1
  refine lv_if_eq (tgt := P + 7) hx hb d0 (by omega) (fun z => ?_) (fun z => ?_)
  · rw [if_pos z] at kk
    exact lv_iconst (v := nI 0) hx hb d7 (by decide) kk
  · rw [if_neg z] at kk
    refine lv_iconst (v := nI 1) hx hb d3 (by decide) ?_
    exact lv_goto (tgt := P + 8) hx hb d4 (by omega) kk
set_option maxHeartbeats 4000000 in
set_option maxRecDepth 100000 in
theorem lw_tI {P : Nat} {off : Int} {k b9 : Int32} {c0 s0 : Nat} (Cx : lwK p l s m c b L xs D cs) (hc : lC D (lAq s) s.heap (wL cs ad o f M J ++ wW 23 mSh am cs N K) H locs) (hok : okS k M N (f 0) b9.toInt64) (hl : lv_has ls 7 ((5, .int k) :: lv0 b ad am o i)) (h1 : cells ≤ 601024) (h2 : slots ≤ 7293034) (h3 : cells ≤ c0) (h4 : slots ≤ s0) (kk : lwE p l e s m below meth c b D cs ad am o i c0 s0 Q)
    (d0 : decode cL_law P = .ok (.istore 6, 2)) (d2 : decode cL_law (P + 2) = .ok (.aload_n 2, 1)) (d3 : decode cL_law (P + 2 + 1) = .ok (.invokevirtual 98, 3)) (d6 : decode cL_law (P + 2 + 1 + 3) = .ok (.iload 5, 2)) (d8 : decode cL_law (P + 2 + 1 + 3 + 2) = .ok (.if_icmp .eq 5, 3)) (d13 : decode cL_law (P + 13) = .ok (.iload 5, 2)) (d15 : decode cL_law (P + 13 + 2) = .ok (.ifCond .ne 15, 3)) (d18 : decode cL_law (P + 13 + 2 + 3) = .ok (.aload_n 3, 1)) (d19 : decode cL_law (P + 13 + 2 + 3 + 1) = .ok (.iconst 0, 1)) (d20 : decode cL_law (P + 13 + 2 + 3 + 1 + 1) = .ok (.laload, 1)) (d21 : decode cL_law (P + 13 + 2 + 3 + 1 + 1 + 1) = .ok (.iload 6, 2)) (d23 : decode cL_law (P + 13 + 2 + 3 + 1 + 1 + 1 + 2) = .ok (.i2l, 1)) (d24 : decode cL_law (P + 13 + 2 + 3 + 1 + 1 + 1 + 2 + 1) = .ok (.lcmp, 1)) (d25 : decode cL_law (P + 13 + 2 + 3 + 1 + 1 + 1 + 2 + 1 + 1) = .ok (.ifCond .eq 5, 3)) (d30 : decode cL_law (P + 30) = .ok (.goto off, 3)) (hoff : ((P + 30 : Nat) : Int) + off = ((1671 : Nat) : Int)) :
    W p l e room_1 s m #[Value.ref b] below meth c H locs cells slots Q (F0 m P ls [.int b9]) := by
  obtain ⟨hF, hflag, hK, hZ, hX, hbl, hL⟩ := id Cx
  obtain ⟨hx, hb, hml, hown, hts⟩ := id hF
  have hA : ∀ q : Nat, s.heap.size ≤ q → lAq s q := fun _ h => h
  refine lv_istore (lv' := (6, .int b9) :: (5, .int k) :: lv0 b ad am o i) hx hb d0 hl (by decide) rfl (fun ls hl => ?_)
  refine lv_aload_n hx hb d2 rfl (lv_at hl 4 rfl) ?_
  refine fr_Vi (sh := mSh) (ad := am) (k := 0) (As := []) (rest := []) (post := fun r_ u_ => u_ = (N, K) ∧ r_ = E_X9_thrown N) hF (cwV 0 hts gL_law_X9_thrown rfl rfl rfl (by decide +kernel) ⟨(Nat.le_of_ble_eq_true rfl), (Nat.le_of_ble_eq_true rfl)⟩) hK hA (lC_perm hc List.perm_append_comm) (k_X9_thrown l D am cs _ N K) (by decide) rfl rfl rfl rfl hl.1 (Nat.le_of_ble_eq_true rfl) ⟨h1, h2⟩ d3 (fun r N1 K1 H1 locs1 hm hc => ?_)
  obtain ⟨hm, hr⟩ := hm
  rw [(Prod.mk.inj hm).1, (Prod.mk.inj hm).2] at hc
  have hc := lC_perm hc List.perm_append_comm
  refine lv_iload hx hb d6 (lv_at hl 1 rfl) ?_
  refine lv_icmp_eq (tgt := P + 13) hx hb d8 (by omega) (fun z => ?_) (fun z => absurd (hr.trans (show E_X9_thrown N = k from hok.1)) z)
  refine lv_iload hx hb d13 (lv_at hl 1 rfl) ?_
  have fin : W p l e room_1 s m #[Value.ref b] below meth c H1 locs1 cells slots Q (F0 m (P + 30) ls []) :=
    lv_goto (tgt := 1671) hx hb d30 hoff (W.widen h3 h4 (kk f M J N K _ _ ls hc hok.2.1 (lv_sub hl [2, 3, 4, 5, 6] rfl)))
  refine lv_if_ne (tgt := P + 30) hx hb d15 (by omega) (fun _ => fin) (fun z2 => ?_)
  refine lv_aload_n hx hb d18 rfl (lv_at hl 5 rfl) ?_
  refine lv_iconst (v := nI 0) hx hb d19 (by decide) ?_
  refine fr_ll hx hb hK hc d20 ?_
  refine lv_iload hx hb d21 (lv_at hl 0 rfl) ?_
  refine lv_i2l hx hb d23 rfl ?_
  refine W.lcmp hx hb d24 ?_
  exact lv_if_eq (tgt := P + 30) hx hb d25 (by omega) (fun _ => fin) (fun z3 => absurd ((lg_cmp_eq _ _).mpr (hok.2.2 (z2.trans nI_0.symm))) z3)
set_option maxHeartbeats 4000000 in
set_option maxRecDepth 100000 in
theorem lw_tZ {P : Nat} {off : Int} {k b9 : Int32} {c0 s0 : Nat} (Cx : lwK p l s m c b L xs D cs) (hc : lC D (lAq s) s.heap (wL cs ad o f M J ++ wW 23 mSh am cs N K) H locs) (hok : okS k M N (f 0) (if b9 = 0 then 0 else 1)) (hl : lv_has ls 7 ((5, .int k) :: lv0 b ad am o i)) (h1 : cells ≤ 601024) (h2 : slots ≤ 7293034) (h3 : cells ≤ c0) (h4 : slots ≤ s0) (kk : lwE p l e s m below meth c b D cs ad am o i c0 s0 Q)
    (d0 : decode cL_law P = .ok (.istore 6, 2)) (d2 : decode cL_law (P + 2) = .ok (.aload_n 2, 1)) (d3 : decode cL_law (P + 2 + 1) = .ok (.invokevirtual 98, 3)) (d6 : decode cL_law (P + 2 + 1 + 3) = .ok (.iload 5, 2)) (d8 : decode cL_law (P + 2 + 1 + 3 + 2) = .ok (.if_icmp .eq 5, 3)) (d13 : decode cL_law (P + 13) = .ok (.iload 5, 2)) (d15 : decode cL_law (P + 13 + 2) = .ok (.ifCond .ne 22, 3)) (d18 : decode cL_law (P + 13 + 2 + 3) = .ok (.aload_n 3, 1)) (d19 : decode cL_law (P + 13 + 2 + 3 + 1) = .ok (.iconst 0, 1)) (d20 : decode cL_law (P + 13 + 2 + 3 + 1 + 1) = .ok (.laload, 1)) (d21 : decode cL_law (P + 13 + 2 + 3 + 1 + 1 + 1) = .ok (.iload 6, 2)) (d23 : decode cL_law (P + 13 + 2 + 3 + 1 + 1 + 1 + 2) = .ok (.ifCond .eq 7, 3)) (d26 : decode cL_law (P + 13 + 2 + 3 + 1 + 1 + 1 + 2 + 3) = .ok (.lconst 1, 1)) (d27 : decode cL_law (P + 13 + 2 + 3 + 1 + 1 + 1 + 2 + 3 + 1) = .ok (.goto 4, 3)) (d30 : decode cL_law (P + 30) = .ok (.lconst 0, 1)) (d31 : decode cL_law (P + 30 + 1) = .ok (.lcmp, 1)) (d32 : decode cL_law (P + 30 + 1 + 1) = .ok (.ifCond .eq 5, 3)) (d37 : decode cL_law (P + 37) = .ok (.goto off, 3)) (hoff : ((P + 37 : Nat) : Int) + off = ((1671 : Nat) : Int)) :
    W p l e room_1 s m #[Value.ref b] below meth c H locs cells slots Q (F0 m P ls [.int b9]) := by
  obtain ⟨hF, hflag, hK, hZ, hX, hbl, hL⟩ := id Cx
  obtain ⟨hx, hb, hml, hown, hts⟩ := id hF
  have hA : ∀ q : Nat, s.heap.size ≤ q → lAq s q := fun _ h => h
  refine lv_istore (lv' := (6, .int b9) :: (5, .int k) :: lv0 b ad am o i) hx hb d0 hl (by decide) rfl (fun ls hl => ?_)
  refine lv_aload_n hx hb d2 rfl (lv_at hl 4 rfl) ?_
  refine fr_Vi (sh := mSh) (ad := am) (k := 0) (As := []) (rest := []) (post := fun r_ u_ => u_ = (N, K) ∧ r_ = E_X9_thrown N) hF (cwV 0 hts gL_law_X9_thrown rfl rfl rfl (by decide +kernel) ⟨(Nat.le_of_ble_eq_true rfl), (Nat.le_of_ble_eq_true rfl)⟩) hK hA (lC_perm hc List.perm_append_comm) (k_X9_thrown l D am cs _ N K) (by decide) rfl rfl rfl rfl hl.1 (Nat.le_of_ble_eq_true rfl) ⟨h1, h2⟩ d3 (fun r N1 K1 H1 locs1 hm hc => ?_)
  obtain ⟨hm, hr⟩ := hm
  rw [(Prod.mk.inj hm).1, (Prod.mk.inj hm).2] at hc
  have hc := lC_perm hc List.perm_append_comm
  refine lv_iload hx hb d6 (lv_at hl 1 rfl) ?_
  refine lv_icmp_eq (tgt := P + 13) hx hb d8 (by omega) (fun z => ?_) (fun z => absurd (hr.trans (show E_X9_thrown N = k from hok.1)) z)
  refine lv_iload hx hb d13 (lv_at hl 1 rfl) ?_
  have fin : W p l e room_1 s m #[Value.ref b] below meth c H1 locs1 cells slots Q (F0 m (P + 37) ls []) :=
    lv_goto (tgt := 1671) hx hb d37 hoff (W.widen h3 h4 (kk f M J N K _ _ ls hc hok.2.1 (lv_sub hl [2, 3, 4, 5, 6] rfl)))
  have cmp : ∀ y : Int64, f 0 = y → W p l e room_1 s m #[Value.ref b] below meth c H1 locs1 cells slots Q (F0 m (P + 30 + 1) ls [.long y, .long (f 0)]) := fun y hy =>
    W.lcmp hx hb d31 (lv_if_eq (tgt := P + 37) hx hb d32 (by omega) (fun _ => fin) (fun z3 => absurd ((lg_cmp_eq _ _).mpr hy) z3))
  refine lv_if_ne (tgt := P + 37) hx hb d15 (by omega) (fun _ => fin) (fun z2 => ?_)
  refine lv_aload_n hx hb d18 rfl (lv_at hl 5 rfl) ?_
  refine lv_iconst (v := nI 0) hx hb d19 (by decide) ?_
  refine fr_ll hx hb hK hc d20 ?_
  refine lv_iload hx hb d21 (lv_at hl 0 rfl) ?_
  have ho := hok.2.2 (z2.trans nI_0.symm)
  refine lv_if_eq (tgt := P + 30) hx hb d23 (by omega) (fun z4 => ?_) (fun z4 => ?_)
  · refine lv_lconst (v := 0) hx hb d30 rfl ?_
    exact cmp 0 (by rw [ho, if_pos z4])
  · refine lv_lconst (v := 1) hx hb d26 rfl ?_
    refine lv_goto (tgt := P + 30 + 1) hx hb d27 (by omega) ?_
    exact cmp 1 (by rw [ho, if_neg z4])
end LWB
