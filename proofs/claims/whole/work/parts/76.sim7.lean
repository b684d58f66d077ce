/-! ===== the two memories belong together: pure ===== -/
/-- the executions' rows -/
def exE (M N : wM) (sc : Nat) : Prop := M 336 3 = nI sc ∧ N 0 26 = nI sc ∧ sc ≤ 300 ∧ (∀ q, q < sc → M 338 q = N 20 q ∧ ∀ v, v < 6 → M 339 (q * 6 + v) = N 21 ((6 * q) + v)) ∧ ∀ v, v < 6 → M 337 v = N 22 v
def SimA (M N : wM) (cnt t d n sc : Nat) : Prop := pgS M N cnt t d n ∧ cZ M ∧ bz (N 0 16) ∧ M 329 4 = N 0 16 ∧ (∀ q, q < 16 → bz (N 12 q)) ∧ (¬ N 0 16 = 0 → ∃ E V, vE E ∧ AN M M E V ∧ AM N N E V) ∧ exE M N sc
def Sim (M N : wM) : Prop := ∃ cnt t d n sc, SimA M N cnt t d n sc
theorem ssS_eq {M N M' N' : wM} {b a : Nat} (h : ssS M N b a) (h1 : M' (201 + 6 * b + 1) a = M (201 + 6 * b + 1) a) (h2 : M' (201 + 6 * b + 2) a = M (201 + 6 * b + 2) a) (h3 : M' (201 + 6 * b + 3) a = M (201 + 6 * b + 3) a) (h4 : M' (201 + 6 * b + 4) a = M (201 + 6 * b + 4) a) (hN : ∀ j, j < 4 → N' 2 (4 * ((8 * b) + a) + j) = N 2 (4 * ((8 * b) + a) + j)) : ssS M' N' b a := by
  unfold ssS at *
  have e0 : N' 2 (4 * ((8 * b) + a)) = N 2 (4 * ((8 * b) + a)) := hN 0 (by omega)
  rw [h1, h2, h3, h4, e0, hN 1 (by omega), hN 2 (by omega), hN 3 (by omega)]
  exact h
theorem bkS_eq {M N M' N' : wM} {cnt cnt' b : Nat} (h : bkS M N cnt b) (hc : cnt ≤ cnt') (hM : ∀ c, 201 + 6 * b ≤ c → c < 201 + 6 * b + 6 → M' c = M c) (hN : N' 1 b = N 1 b ∧ N' 3 b = N 3 b ∧ N' 4 b = N 4 b ∧ N' 5 b = N 5 b ∧ N' 6 b = N 6 b ∧ N' 7 b = N 7 b ∧ N' 8 b = N 8 b) (h2 : ∀ a, a < 8 → ∀ j, j < 4 → N' 2 (4 * ((8 * b) + a) + j) = N 2 (4 * ((8 * b) + a) + j)) : bkS M' N' cnt' b := by
  have s8 := h.sz8
  obtain ⟨n1, n3, n4, n5, n6, n7, n8⟩ := hN
  have m0 := hM (201 + 6 * b) (by omega) (by omega)
  have m5 := hM (201 + 6 * b + 5) (by omega) (by omega)
  have up : ∀ {x : Int32}, inB x cnt → inB x cnt' := fun ⟨c, hc', e⟩ => ⟨c, by omega, e⟩
  refine ⟨by rw [m0, n1]; exact h.sz, by rw [m0, n3]; exact h.ed, by rw [n1]; exact h.szn, by rw [n1]; exact h.sz8, by rw [n3]; exact h.edn, by rw [n3]; exact h.ed2, fun q => by rw [n1, n3]; exact h.emp (by omega), fun a ha => ?_, fun q => ?_, fun q => ?_, by rw [n6]; exact h.vx, by rw [n7]; exact h.vy, by rw [n8]; exact h.vr⟩
  · rw [n1] at ha
    exact ssS_eq (h.sts a ha) (by rw [hM (201 + 6 * b + 1) (by omega) (by omega)]) (by rw [hM (201 + 6 * b + 2) (by omega) (by omega)]) (by rw [hM (201 + 6 * b + 3) (by omega) (by omega)]) (by rw [hM (201 + 6 * b + 4) (by omega) (by omega)]) (h2 a (by omega))
  · rw [n3] at q
    rw [m5, n4]; exact ⟨(h.f0 q).1, up (h.f0 q).2⟩
  · rw [n3] at q
    obtain ⟨a1, a2, a3, a4, a5⟩ := h.f1 q
    rw [m5, m0, n5, n6, n7, n8]; exact ⟨a1, up a2, a3, a4, a5⟩
/-- a block has changed -/
theorem pgS_upd {M N M' N' : wM} {cnt t d n : Nat} (h : pgS M N cnt t d n) {b0 : Nat} (hM : ∀ c, ¬ (201 + 6 * b0 ≤ c ∧ c < 201 + 6 * b0 + 6) → c ≠ 329 → M' c = M c) (hb0 : b0 < 16) (hN0 : ∀ j, j ≠ 0 → j ≠ 16 → N' 0 j = N 0 j) (h9 : N' 9 = N 9) (h10 : N' 10 = N 10) (h11 : N' 11 = N 11)
    (hN : ∀ b, b ≠ b0 → N' 1 b = N 1 b ∧ N' 3 b = N 3 b ∧ N' 4 b = N 4 b ∧ N' 5 b = N 5 b ∧ N' 6 b = N 6 b ∧ N' 7 b = N 7 b ∧ N' 8 b = N 8 b) (h2 : ∀ b, b ≠ b0 → ∀ a, a < 8 → ∀ j, j < 4 → N' 2 (4 * ((8 * b) + a) + j) = N 2 (4 * ((8 * b) + a) + j)) (hk : bkS M' N' cnt b0) : pgS M' N' cnt t d n := by
  have m330 := hM 330 (by omega) (by decide)
  have m332 := hM 332 (by omega) (by decide)
  have m333 := hM 333 (by omega) (by decide)
  have m0 := hM (3 * 0) (by omega) (by decide)
  have m1 := hM (3 * 0 + 1) (by omega) (by decide)
  have m2 := hM (3 * 0 + 2) (by omega) (by decide)
  refine ⟨by rw [m330]; exact h.cM, by rw [hN0 1 (by decide) (by decide)]; exact h.cN, h.c16, h.c1, by rw [m332]; exact h.tM, by rw [hN0 14 (by decide) (by decide)]; exact h.tN, h.t8, fun k hk' => by rw [m333, h11]; exact h.th k hk', by rw [m332]; exact h.dM, by rw [hN0 12 (by decide) (by decide)]; exact h.dN, h.d10, by rw [m332]; exact h.nM, by rw [hN0 13 (by decide) (by decide)]; exact h.nN, h.n5, by rw [m0]; exact h.i0, fun v hv => by rw [m1, m2, h9, h10]; exact h.iv v hv, by rw [h9, h10]; exact h.iV, fun b hb => ?_⟩
  by_cases q : b = b0
  · subst q; exact hk
  · exact bkS_eq (h.bk b hb) (Nat.le_refl _) (fun c c1 c2 => hM c (by omega) (by omega)) (hN b q) (h2 b q)
/-- behind a change of the program or the settings: no analysis stands -/
theorem Sim_pg {M N M' N' : wM} {cnt t d n cnt' t' d' n' sc : Nat} (h : SimA M N cnt t d n sc) (hp : pgS M' N' cnt' t' d' n') (hz : cZ M') (hf : M' 329 4 = nI 0) (hf' : N' 0 16 = nI 0) (h12 : N' 12 = N 12) (hM : ∀ c, 336 ≤ c → M' c = M c) (h26 : N' 0 26 = N 0 26) (h20 : N' 20 = N 20) (h21 : N' 21 = N 21) (h22 : N' 22 = N 22) : Sim M' N' := by
  obtain ⟨h1, h2, h3, h4, h5, h6, h7⟩ := h
  refine ⟨cnt', t', d', n', sc, hp, hz, by rw [hf']; exact Or.inl rfl, by rw [hf, hf'], by rw [h12]; exact h5, fun z => absurd (by rw [hf']; rfl) z, ?_⟩
  obtain ⟨e1, e2, e3, e4, e5⟩ := h7
  exact ⟨by rw [hM 336 (by omega)]; exact e1, by rw [h26]; exact e2, e3, fun q hq => by rw [hM 338 (by omega), hM 339 (by omega), h20, h21]; exact e4 q hq, fun v hv => by rw [hM 337 (by omega), h22]; exact e5 v hv⟩
theorem cZ_same {M M' : wM} (h : cZ M) (hM : ∀ c, c < 201 → M' c = M c) : cZ M' := fun i hi => by rw [hM (3 * i) (by omega)]; exact h i hi
/-- refusals and answers leave all but thrown and the rows at work -/
theorem Sim_tQ {M N N' : wM} {k : Nat} (h : Sim M N) (g : tQ k N N') : Sim M N' := by
  obtain ⟨cnt, t, d, n, sc, h1, h2, h3, h4, h5, h6, h7⟩ := h
  have e : ∀ j, j ≠ 0 → N' 0 j = N 0 j := fun j hj => by rw [g.2 j, if_neg hj]
  have at_ : ∀ c, (1 ≤ c ∧ c ≤ 15 ∨ 18 ≤ c) → N' c = N c := fun c hc => tQ_at g c hc
  refine ⟨cnt, t, d, n, sc, ?_, h2, by rw [e 16 (by decide)]; exact h3, by rw [e 16 (by decide)]; exact h4, by rw [at_ 12 (by omega)]; exact h5, fun z => ?_, ?_⟩
  · refine ⟨h1.cM, by rw [e 1 (by decide)]; exact h1.cN, h1.c16, h1.c1, h1.tM, by rw [e 14 (by decide)]; exact h1.tN, h1.t8, by rw [at_ 11 (by omega)]; exact h1.th, h1.dM, by rw [e 12 (by decide)]; exact h1.dN, h1.d10, h1.nM, by rw [e 13 (by decide)]; exact h1.nN, h1.n5, h1.i0, by rw [at_ 9 (by omega), at_ 10 (by omega)]; exact h1.iv, by rw [at_ 9 (by omega), at_ 10 (by omega)]; exact h1.iV, fun b hb => ?_⟩
    exact bkS_eq (h1.bk b hb) (Nat.le_refl _) (fun _ _ _ => rfl) (by rw [at_ 1 (by omega), at_ 3 (by omega), at_ 4 (by omega), at_ 5 (by omega), at_ 6 (by omega), at_ 7 (by omega), at_ 8 (by omega)]; exact ⟨rfl, rfl, rfl, rfl, rfl, rfl, rfl⟩) (fun a _ j _ => by rw [at_ 2 (by omega)])
  · rw [e 16 (by decide)] at z
    obtain ⟨E, V, a1, a2, a3⟩ := h6 z
    refine ⟨E, V, a1, a2, kp_refl _ _, fun _ _ => rfl, by rw [at_ 12 (by omega)]; exact a3.2.2.1, fun q hq => ?_⟩
    unfold enM rw9
    rw [at_ 12 (by omega), at_ 13 (by omega), at_ 14 (by omega), at_ 15 (by omega)]
    exact a3.2.2.2 q hq
  · obtain ⟨e1, e2, e3, e4, e5⟩ := h7
    exact ⟨e1, by rw [e 26 (by decide)]; exact e2, e3, by rw [at_ 20 (by omega), at_ 21 (by omega)]; exact e4, by rw [at_ 22 (by omega)]; exact e5⟩
theorem tQ_FA {k : Nat} {N : wM} : tQ k N (wU (wU N 0 0 (nI 0)) 0 0 (nI k)) := by
  refine ⟨kp_trans (kp_U (Or.inl rfl)) (kp_U (Or.inl rfl)), fun j => ?_⟩
  rw [wU_at, wU_at]
  by_cases h : j = 0
  · rw [if_pos ⟨rfl, h⟩, if_pos h]
  · rw [if_neg (fun z => h z.2), if_neg (fun z => h z.2), if_neg h]
theorem upd2_same {M : wM} {c j : Nat} {v : Int32} (h : M c j = v) : wU M c j v = M := by
  funext a
  by_cases q : a = c
  · subst q; rw [wU_self, upd_same h]
  · exact wU_ne q
/-! the program's changes -/
theorem Sim_addBlock {M N : wM} {cnt t d n sc : Nat} (h : SimA M N cnt t d n sc) (hc : cnt < 16) : Sim (wU (wU M 329 4 (nI 0)) 330 2 (nI (cnt + 1))) (wU (wU (wU (wU (wU N 0 0 (nI 0)) 1 cnt (nI 0)) 3 cnt (nI 0)) 0 1 (nI (cnt + 1))) 0 16 (nI 0)) := by
  have hp := h.1
  obtain ⟨z1, z2⟩ := (hp.bk cnt hc).emp (Nat.le_refl _)
  rw [upd2_same (M := wU N 0 0 (nI 0)) (c := 1) (j := cnt) (by rw [wU_ne (by decide)]; exact z1), upd2_same (M := wU N 0 0 (nI 0)) (c := 3) (j := cnt) (by rw [wU_ne (by decide)]; exact z2)]
  have eN : ∀ c, c ≠ 0 → (wU (wU (wU N 0 0 (nI 0)) 0 1 (nI (cnt + 1))) 0 16 (nI 0)) c = N c := fun c hc => by rw [wU_ne hc, wU_ne hc, wU_ne hc]
  have eN0 : ∀ j, j ≠ 0 → j ≠ 1 → j ≠ 16 → (wU (wU (wU N 0 0 (nI 0)) 0 1 (nI (cnt + 1))) 0 16 (nI 0)) 0 j = N 0 j := fun j a b c => by rw [wU_at, if_neg (fun z => c z.2), wU_at, if_neg (fun z => b z.2), wU_at, if_neg (fun z => a z.2)]
  have eM : ∀ c, c ≠ 329 → c ≠ 330 → (wU (wU M 329 4 (nI 0)) 330 2 (nI (cnt + 1))) c = M c := fun c a b => by rw [wU_ne b, wU_ne a]
  refine Sim_pg h (cnt' := cnt + 1) (t' := t) (d' := d) (n' := n) ?_ (cZ_same h.2.1 (fun c hc => eM c (by omega) (by omega))) (by rw [wU_ne (by decide), wU_at, if_pos ⟨rfl, rfl⟩]) (by rw [wU_at, if_pos ⟨rfl, rfl⟩]) (eN 12 (by decide)) (fun c hc => eM c (by omega) (by omega)) (eN0 26 (by decide) (by decide) (by decide)) (eN 20 (by decide)) (eN 21 (by decide)) (eN 22 (by decide))
  refine ⟨by rw [wU_at, if_pos ⟨rfl, rfl⟩], by rw [wU_at, if_neg (by decide), wU_at, if_pos ⟨rfl, rfl⟩], by omega, by omega, by rw [eM 332 (by decide) (by decide)]; exact hp.tM, by rw [eN0 14 (by decide) (by decide) (by decide)]; exact hp.tN, hp.t8, by rw [eM 333 (by decide) (by decide), eN 11 (by decide)]; exact hp.th, by rw [eM 332 (by decide) (by decide)]; exact hp.dM, by rw [eN0 12 (by decide) (by decide) (by decide)]; exact hp.dN, hp.d10, by rw [eM 332 (by decide) (by decide)]; exact hp.nM, by rw [eN0 13 (by decide) (by decide) (by decide)]; exact hp.nN, hp.n5, by rw [eM (3 * 0) (by decide) (by decide)]; exact hp.i0, by rw [eM (3 * 0 + 1) (by decide) (by decide), eM (3 * 0 + 2) (by decide) (by decide), eN 9 (by decide), eN 10 (by decide)]; exact hp.iv, by rw [eN 9 (by decide), eN 10 (by decide)]; exact hp.iV, fun b hb => ?_⟩
  exact bkS_eq (hp.bk b hb) (Nat.le_succ _) (fun c c1 c2 => eM c (by omega) (by omega)) (by rw [eN 1 (by decide), eN 3 (by decide), eN 4 (by decide), eN 5 (by decide), eN 6 (by decide), eN 7 (by decide), eN 8 (by decide)]; exact ⟨rfl, rfl, rfl, rfl, rfl, rfl, rfl⟩) (fun a _ j _ => by rw [eN 2 (by decide)])
theorem isRg_v {lo up : Int32} (h : isRg lo up) : -1000000000 ≤ lo.toInt ∧ lo.toInt ≤ up.toInt ∧ up.toInt ≤ 1000000000 := by
  obtain ⟨h1, h2, h3⟩ := h
  have a : ¬ lo.toInt < -1000000000 := fun z => h1 (t_lt.mpr (by rw [show (-1000000000 : Int32).toInt = -1000000000 from by decide]; exact z))
  have b : ¬ 1000000000 < up.toInt := fun z => h2 (t_lt.mpr (by rw [show (1000000000 : Int32).toInt = 1000000000 from by decide]; exact z))
  have c := t_le.mp h3
  omega
theorem Sim_setInitial {M N : wM} {cnt t d n sc v : Nat} {lo up : Int32} (h : SimA M N cnt t d n sc) (hv : v < 6) (hr : isRg lo up) : Sim (F_X7_setRange (wU M 329 4 (nI 0)) 0 v lo up) (wU (wU (wU (wU N 0 0 (nI 0)) 9 v lo) 10 v up) 0 16 (nI 0)) := by
  have hp := h.1
  unfold F_X7_setRange
  have eN : ∀ c, c ≠ 0 → c ≠ 9 → c ≠ 10 → (wU (wU (wU (wU N 0 0 (nI 0)) 9 v lo) 10 v up) 0 16 (nI 0)) c = N c := fun c a b e => by rw [wU_ne a, wU_ne e, wU_ne b, wU_ne a]
  have e9 : (wU (wU (wU (wU N 0 0 (nI 0)) 9 v lo) 10 v up) 0 16 (nI 0)) 9 = upd (N 9) v lo := by rw [wU_ne (by decide), wU_ne (by decide), wU_self, wU_ne (by decide)]
  have e10 : (wU (wU (wU (wU N 0 0 (nI 0)) 9 v lo) 10 v up) 0 16 (nI 0)) 10 = upd (N 10) v up := by rw [wU_ne (by decide), wU_self, wU_ne (by decide), wU_ne (by decide)]
  have eN0 : ∀ j, j ≠ 0 → j ≠ 16 → (wU (wU (wU (wU N 0 0 (nI 0)) 9 v lo) 10 v up) 0 16 (nI 0)) 0 j = N 0 j := fun j a c => by rw [wU_at, if_neg (fun z => c z.2), wU_ne (by decide), wU_ne (by decide), wU_at, if_neg (fun z => a z.2)]
  have eM : ∀ c, c ≠ 329 → c ≠ 1 → c ≠ 2 → (wU (wU (wU M 329 4 (nI 0)) (3 * 0 + 1) v lo) (3 * 0 + 2) v up) c = M c := fun c a b e => by rw [wU_ne e, wU_ne b, wU_ne a]
  have m1 : (wU (wU (wU M 329 4 (nI 0)) (3 * 0 + 1) v lo) (3 * 0 + 2) v up) (3 * 0 + 1) = upd (M (3 * 0 + 1)) v lo := by rw [wU_ne (by decide), wU_self, wU_ne (by decide)]
  have m2 : (wU (wU (wU M 329 4 (nI 0)) (3 * 0 + 1) v lo) (3 * 0 + 2) v up) (3 * 0 + 2) = upd (M (3 * 0 + 2)) v up := by rw [wU_self, wU_ne (by decide), wU_ne (by decide)]
  refine Sim_pg h (cnt' := cnt) (t' := t) (d' := d) (n' := n) ?_ (fun i hi => by rw [eM (3 * i) (by omega) (by omega) (by omega)]; exact h.2.1 i hi) (by rw [wU_ne (by decide), wU_ne (by decide), wU_at, if_pos ⟨rfl, rfl⟩]) (by rw [wU_at, if_pos ⟨rfl, rfl⟩]) (eN 12 (by decide) (by decide) (by decide)) (fun c hc => eM c (by omega) (by omega) (by omega)) (eN0 26 (by decide) (by decide)) (eN 20 (by decide) (by decide) (by decide)) (eN 21 (by decide) (by decide) (by decide)) (eN 22 (by decide) (by decide) (by decide))
  refine ⟨by rw [eM 330 (by decide) (by decide) (by decide)]; exact hp.cM, by rw [eN0 1 (by decide) (by decide)]; exact hp.cN, hp.c16, hp.c1, by rw [eM 332 (by decide) (by decide) (by decide)]; exact hp.tM, by rw [eN0 14 (by decide) (by decide)]; exact hp.tN, hp.t8, by rw [eM 333 (by decide) (by decide) (by decide), eN 11 (by decide) (by decide) (by decide)]; exact hp.th, by rw [eM 332 (by decide) (by decide) (by decide)]; exact hp.dM, by rw [eN0 12 (by decide) (by decide)]; exact hp.dN, hp.d10, by rw [eM 332 (by decide) (by decide) (by decide)]; exact hp.nM, by rw [eN0 13 (by decide) (by decide)]; exact hp.nN, hp.n5, by rw [eM (3 * 0) (by decide) (by decide) (by decide)]; exact hp.i0, fun w hw => ?_, fun w hw => ?_, fun b hb => ?_⟩
  · rw [m1, m2, e9, e10, upd_at, upd_at, upd_at, upd_at]
    by_cases q : w = v
    · rw [if_pos q, if_pos q, if_pos q, if_pos q]; exact ⟨rfl, rfl⟩
    · rw [if_neg q, if_neg q, if_neg q, if_neg q]; exact hp.iv w hw
  · rw [e9, e10]
    show _ ≤ (upd (N 9) v lo w).toInt ∧ (upd (N 9) v lo w).toInt ≤ (upd (N 10) v up w).toInt ∧ (upd (N 10) v up w).toInt ≤ _
    rw [upd_at, upd_at]
    by_cases q : w = v
    · rw [if_pos q, if_pos q]; exact isRg_v hr
    · rw [if_neg q, if_neg q]; exact hp.iV w hw
  · exact bkS_eq (hp.bk b hb) (Nat.le_refl _) (fun c c1 c2 => eM c (by omega) (by omega) (by omega)) (by rw [eN 1 (by decide) (by decide) (by decide), eN 3 (by decide) (by decide) (by decide), eN 4 (by decide) (by decide) (by decide), eN 5 (by decide) (by decide) (by decide), eN 6 (by decide) (by decide) (by decide), eN 7 (by decide) (by decide) (by decide), eN 8 (by decide) (by decide) (by decide)]; exact ⟨rfl, rfl, rfl, rfl, rfl, rfl, rfl⟩) (fun a _ j _ => by rw [eN 2 (by decide) (by decide) (by decide)])
theorem Sim_append {M N : wM} {cnt t d n sc b : Nat} {k k' x p q : Int32} (h : SimA M N cnt t d n sc) (hb : b < cnt) (h8 : tn (N 1 b) < 8) (hk : kdE k k') (hx : isV x) (hs : soR k' p q) : Sim (F_X2_append (wU M 329 4 (nI 0)) b (tn (N 1 b)) k x p q) (F_X9_append (wU N 0 0 (nI 0)) b (tn (N 1 b)) k' x p q) := by
  have hp := h.1
  have hc := hp.c16
  have ob := hp.bk b (by omega)
  obtain ⟨m, em⟩ : ∃ m, m = tn (N 1 b) := ⟨_, rfl⟩
  rw [← em] at h8 ⊢
  unfold F_X2_append F_X9_append
  obtain ⟨M', eM'⟩ : ∃ M', M' = wU (wU (wU (wU (wU (wU M 329 4 (nI 0)) (201 + 6 * b + 1) m k) (201 + 6 * b + 2) m x) (201 + 6 * b + 3) m p) (201 + 6 * b + 4) m q) (201 + 6 * b) 0 (nI (m + 1)) := ⟨_, rfl⟩
  obtain ⟨N', eN'⟩ : ∃ N', N' = wU (wU (wU (wU (wU (wU (wU N 0 0 (nI 0)) 2 (4 * ((8 * b) + m)) k') 2 ((4 * ((8 * b) + m)) + 1) x) 2 ((4 * ((8 * b) + m)) + 2) p) 2 ((4 * ((8 * b) + m)) + 3) q) 1 b (nI (m + 1))) 0 16 (nI 0) := ⟨_, rfl⟩
  rw [← eM', ← eN']
  have c0 : ∀ c, c ≠ 329 → c ≠ 201 + 6 * b → c ≠ 201 + 6 * b + 1 → c ≠ 201 + 6 * b + 2 → c ≠ 201 + 6 * b + 3 → c ≠ 201 + 6 * b + 4 → M' c = M c := fun c a1 a2 a3 a4 a5 a6 => by rw [eM', wU_ne a2, wU_ne a6, wU_ne a5, wU_ne a4, wU_ne a3, wU_ne a1]
  have c9 : M' 329 = upd (M 329) 4 (nI 0) := by rw [eM', wU_ne (by omega), wU_ne (by omega), wU_ne (by omega), wU_ne (by omega), wU_ne (by omega), wU_self]
  have cb : M' (201 + 6 * b) = upd (M (201 + 6 * b)) 0 (nI (m + 1)) := by rw [eM', wU_self, wU_ne (by omega), wU_ne (by omega), wU_ne (by omega), wU_ne (by omega), wU_ne (by omega)]
  have c1 : M' (201 + 6 * b + 1) = upd (M (201 + 6 * b + 1)) m k := by rw [eM', wU_ne (by omega), wU_ne (by omega), wU_ne (by omega), wU_ne (by omega), wU_self, wU_ne (by omega)]
  have c2 : M' (201 + 6 * b + 2) = upd (M (201 + 6 * b + 2)) m x := by rw [eM', wU_ne (by omega), wU_ne (by omega), wU_ne (by omega), wU_self, wU_ne (by omega), wU_ne (by omega)]
  have c3 : M' (201 + 6 * b + 3) = upd (M (201 + 6 * b + 3)) m p := by rw [eM', wU_ne (by omega), wU_ne (by omega), wU_self, wU_ne (by omega), wU_ne (by omega), wU_ne (by omega)]
  have c4 : M' (201 + 6 * b + 4) = upd (M (201 + 6 * b + 4)) m q := by rw [eM', wU_ne (by omega), wU_self, wU_ne (by omega), wU_ne (by omega), wU_ne (by omega), wU_ne (by omega)]
  have n_ : ∀ c, c ≠ 0 → c ≠ 1 → c ≠ 2 → N' c = N c := fun c a1 a2 a3 => by rw [eN', wU_ne a1, wU_ne a2, wU_ne a3, wU_ne a3, wU_ne a3, wU_ne a3, wU_ne a1]
  have n0 : ∀ j, j ≠ 0 → j ≠ 16 → N' 0 j = N 0 j := fun j a c => by rw [eN', wU_at, if_neg (fun z => c z.2), wU_ne (by decide), wU_ne (by decide), wU_ne (by decide), wU_ne (by decide), wU_ne (by decide), wU_at, if_neg (fun z => a z.2)]
  have n16 : N' 0 16 = nI 0 := by rw [eN', wU_at, if_pos ⟨rfl, rfl⟩]
  have n1 : N' 1 = upd (N 1) b (nI (m + 1)) := by rw [eN', wU_ne (by decide), wU_self, wU_ne (by decide), wU_ne (by decide), wU_ne (by decide), wU_ne (by decide), wU_ne (by decide)]
  have n2 : N' 2 = upd (upd (upd (upd (N 2) (4 * ((8 * b) + m)) k') ((4 * ((8 * b) + m)) + 1) x) ((4 * ((8 * b) + m)) + 2) p) ((4 * ((8 * b) + m)) + 3) q := by rw [eN', wU_ne (by decide), wU_ne (by decide), wU_self, wU_self, wU_self, wU_self, wU_ne (by decide)]
  have n2o : ∀ i, ¬ (4 * ((8 * b) + m) ≤ i ∧ i < 4 * ((8 * b) + m) + 4) → N' 2 i = N 2 i := fun i hi => by rw [n2, upd_o (by omega), upd_o (by omega), upd_o (by omega), upd_o (by omega)]
  have m8 : m ≤ 8 := by rw [em]; exact ob.sz8
  have tb : tn (N' 1 b) = m + 1 := by rw [n1, upd_s]; exact tn_nI (by omega)
  refine Sim_pg h (cnt' := cnt) (t' := t) (d' := d) (n' := n) (pgS_upd hp (b0 := b) (fun c a1 a2 => c0 c a2 (by omega) (by omega) (by omega) (by omega) (by omega)) (by omega) n0 (n_ 9 (by decide) (by decide) (by decide)) (n_ 10 (by decide) (by decide) (by decide)) (n_ 11 (by decide) (by decide) (by decide)) (fun b' hb' => ?_) (fun b' hb' a ha j hj => n2o _ (by omega)) ?_) (cZ_same h.2.1 (fun c hc => c0 c (by omega) (by omega) (by omega) (by omega) (by omega) (by omega))) (by rw [c9, upd_s]) n16 (n_ 12 (by decide) (by decide) (by decide)) (fun c hc => c0 c (by omega) (by omega) (by omega) (by omega) (by omega) (by omega)) (n0 26 (by decide) (by decide)) (n_ 20 (by decide) (by decide) (by decide)) (n_ 21 (by decide) (by decide) (by decide)) (n_ 22 (by decide) (by decide) (by decide))
  · rw [n1, n_ 3 (by decide) (by decide) (by decide), n_ 4 (by decide) (by decide) (by decide), n_ 5 (by decide) (by decide) (by decide), n_ 6 (by decide) (by decide) (by decide), n_ 7 (by decide) (by decide) (by decide), n_ 8 (by decide) (by decide) (by decide), upd_o hb']; exact ⟨rfl, rfl, rfl, rfl, rfl, rfl, rfl⟩
  · have m5 : M' (201 + 6 * b + 5) = M (201 + 6 * b + 5) := c0 _ (by omega) (by omega) (by omega) (by omega) (by omega) (by omega)
    refine ⟨by rw [cb, n1, upd_s, upd_s], by rw [cb, upd_o (by decide), n_ 3 (by decide) (by decide) (by decide)]; exact ob.ed, by rw [tb, n1, upd_s], by omega, by rw [n_ 3 (by decide) (by decide) (by decide)]; exact ob.edn, by rw [n_ 3 (by decide) (by decide) (by decide)]; exact ob.ed2, fun z => absurd z (by omega), fun a ha => ?_, by rw [n_ 3 (by decide) (by decide) (by decide), n_ 4 (by decide) (by decide) (by decide), m5]; exact ob.f0, by rw [n_ 3 (by decide) (by decide) (by decide), n_ 5 (by decide) (by decide) (by decide), n_ 6 (by decide) (by decide) (by decide), n_ 7 (by decide) (by decide) (by decide), n_ 8 (by decide) (by decide) (by decide), m5, cb, upd_o (by decide), upd_o (by decide), upd_o (by decide)]; exact ob.f1, by rw [n_ 6 (by decide) (by decide) (by decide)]; exact ob.vx, by rw [n_ 7 (by decide) (by decide) (by decide)]; exact ob.vy, by rw [n_ 8 (by decide) (by decide) (by decide)]; exact ob.vr⟩
    rw [tb] at ha
    by_cases z : a = m
    · subst z
      have i0 : N' 2 (4 * ((8 * b) + a)) = k' := by rw [n2, upd_o (by omega), upd_o (by omega), upd_o (by omega), upd_s]
      have i1 : N' 2 (4 * ((8 * b) + a) + 1) = x := by rw [n2, upd_o (by omega), upd_o (by omega), upd_s]
      have i2 : N' 2 (4 * ((8 * b) + a) + 2) = p := by rw [n2, upd_o (by omega), upd_s]
      have i3 : N' 2 (4 * ((8 * b) + a) + 3) = q := by rw [n2, upd_s]
      unfold ssS
      rw [c1, c2, c3, c4, upd_s, upd_s, upd_s, upd_s, i0, i1, i2, i3]
      exact ⟨hk, rfl, rfl, rfl, hx, hs⟩
    · refine ssS_eq (ob.sts a (by omega)) (by rw [c1, upd_o z]) (by rw [c2, upd_o z]) (by rw [c3, upd_o z]) (by rw [c4, upd_o z]) (fun j hj => n2o _ (by omega))
