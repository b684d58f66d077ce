/-! ===== the ends of blocks, the settings, the analysis: the memories stay together ===== -/
theorem Sim_blk {M N M' N' : wM} {cnt t d n sc b : Nat} (h : SimA M N cnt t d n sc) (hb : b < 16) (hM : ∀ c, ¬ (201 + 6 * b ≤ c ∧ c < 201 + 6 * b + 6) → c ≠ 329 → M' c = M c) (hf : M' 329 4 = nI 0) (hN0 : ∀ j, j ≠ 0 → j ≠ 16 → N' 0 j = N 0 j) (n16 : N' 0 16 = nI 0) (h2 : N' 2 = N 2) (h9 : ∀ c, 9 ≤ c → N' c = N c)
    (hN : ∀ q, q ≠ b → N' 1 q = N 1 q ∧ N' 3 q = N 3 q ∧ N' 4 q = N 4 q ∧ N' 5 q = N 5 q ∧ N' 6 q = N 6 q ∧ N' 7 q = N 7 q ∧ N' 8 q = N 8 q) (hk : bkS M' N' cnt b) : Sim M' N' :=
  Sim_pg h (cnt' := cnt) (t' := t) (d' := d) (n' := n) (pgS_upd h.1 hM hb hN0 (h9 9 (by omega)) (h9 10 (by omega)) (h9 11 (by omega)) hN (fun _ _ a _ j _ => by rw [h2]) hk) (cZ_same h.2.1 (fun c hc => hM c (by omega) (by omega))) hf n16 (h9 12 (by omega)) (fun c hc => hM c (by omega) (by omega)) (hN0 26 (by decide) (by decide)) (h9 20 (by omega)) (h9 21 (by omega)) (h9 22 (by omega))
theorem Sim_jump {M N : wM} {cnt t d n sc b : Nat} {a : Int32} (h : SimA M N cnt t d n sc) (hb : b < cnt) (ha : inB a cnt) : Sim (F_X2_endWithJump (wU M 329 4 (nI 0)) b a) (F_X9_end (wU N 0 0 (nI 0)) b (nI 1) a (-1 : Int32)) := by
  have hp := h.1
  have hc := hp.c16
  have ob := hp.bk b (by omega)
  unfold F_X2_endWithJump F_X9_end
  obtain ⟨M', eM'⟩ : ∃ M', M' = wU (wU (wU M 329 4 (nI 0)) (201 + 6 * b) 5 (nI 1)) (201 + 6 * b + 5) 0 a := ⟨_, rfl⟩
  obtain ⟨N', eN'⟩ : ∃ N', N' = wU (wU (wU (wU (wU N 0 0 (nI 0)) 3 b (nI 1)) 4 b a) 5 b (-1 : Int32)) 0 16 (nI 0) := ⟨_, rfl⟩
  rw [← eM', ← eN']
  have c0 : ∀ c, c ≠ 329 → c ≠ 201 + 6 * b → c ≠ 201 + 6 * b + 5 → M' c = M c := fun c a1 a2 a3 => by rw [eM', wU_ne a3, wU_ne a2, wU_ne a1]
  have cb : M' (201 + 6 * b) = upd (M (201 + 6 * b)) 5 (nI 1) := by rw [eM', wU_ne (by omega), wU_self, wU_ne (by omega)]
  have c5 : M' (201 + 6 * b + 5) = upd (M (201 + 6 * b + 5)) 0 a := by rw [eM', wU_self, wU_ne (by omega), wU_ne (by omega)]
  have n_ : ∀ c, c ≠ 0 → c ≠ 3 → c ≠ 4 → c ≠ 5 → N' c = N c := fun c a1 a2 a3 a4 => by rw [eN', wU_ne a1, wU_ne a4, wU_ne a3, wU_ne a2, wU_ne a1]
  have n3 : N' 3 = upd (N 3) b (nI 1) := by rw [eN', wU_ne (by decide), wU_ne (by decide), wU_ne (by decide), wU_self, wU_ne (by decide)]
  have n4 : N' 4 = upd (N 4) b a := by rw [eN', wU_ne (by decide), wU_ne (by decide), wU_self, wU_ne (by decide), wU_ne (by decide)]
  have n5 : N' 5 = upd (N 5) b (-1 : Int32) := by rw [eN', wU_ne (by decide), wU_self, wU_ne (by decide), wU_ne (by decide), wU_ne (by decide)]
  have n1 := n_ 1 (by decide) (by decide) (by decide) (by decide)
  have n2 := n_ 2 (by decide) (by decide) (by decide) (by decide)
  have n6 := n_ 6 (by decide) (by decide) (by decide) (by decide)
  have n7 := n_ 7 (by decide) (by decide) (by decide) (by decide)
  have n8 := n_ 8 (by decide) (by decide) (by decide) (by decide)
  refine Sim_blk h (b := b) (by omega) (fun c a1 a2 => c0 c a2 (by omega) (by omega)) (by rw [eM', wU_ne (by omega), wU_ne (by omega), wU_at, if_pos ⟨rfl, rfl⟩]) (fun j a c => by rw [eN', wU_at, if_neg (fun z => c z.2), wU_ne (by decide), wU_ne (by decide), wU_ne (by decide), wU_at, if_neg (fun z => a z.2)]) (by rw [eN', wU_at, if_pos ⟨rfl, rfl⟩]) n2 (fun c hc => n_ c (by omega) (by omega) (by omega) (by omega)) (fun q hq => ?_) ?_
  · rw [n1, n3, n4, n5, n6, n7, n8, upd_o hq, upd_o hq, upd_o hq]; exact ⟨rfl, rfl, rfl, rfl, rfl, rfl, rfl⟩
  · refine ⟨by rw [cb, n1, upd_o (by decide)]; exact ob.sz, by rw [cb, n3, upd_s, upd_s], by rw [n1]; exact ob.szn, by rw [n1]; exact ob.sz8, by rw [n3, upd_s, tn_nI (by decide)], by rw [n3, upd_s, tn_nI (by decide)]; omega, fun z => absurd z (by omega), fun a' ha' => ?_, fun _ => by rw [c5, n4, upd_s, upd_s]; exact ⟨rfl, ha⟩, fun z => absurd z (by rw [n3, upd_s, tn_nI (by decide)]; omega), by rw [n6]; exact ob.vx, by rw [n7]; exact ob.vy, by rw [n8]; exact ob.vr⟩
    rw [n1] at ha'
    exact ssS_eq (ob.sts a' ha') (by rw [c0 (201 + 6 * b + 1) (by omega) (by omega) (by omega)]) (by rw [c0 (201 + 6 * b + 2) (by omega) (by omega) (by omega)]) (by rw [c0 (201 + 6 * b + 3) (by omega) (by omega) (by omega)]) (by rw [c0 (201 + 6 * b + 4) (by omega) (by omega) (by omega)]) (fun j _ => by rw [n2])
theorem Sim_branch {M N : wM} {cnt t d n sc b : Nat} {x r y a e : Int32} (h : SimA M N cnt t d n sc) (hb : b < cnt) (hx : isV x) (hy : isV y) (hr : inB r 4) (ha : inB a cnt) (he : inB e cnt) : Sim (F_X2_endWithBranch (wU M 329 4 (nI 0)) b x r y a e) (F_X9_end (wU (wU (wU (wU N 0 0 (nI 0)) 6 b x) 7 b y) 8 b r) b (nI 2) a e) := by
  have hp := h.1
  have hc := hp.c16
  have ob := hp.bk b (by omega)
  unfold F_X2_endWithBranch F_X9_end
  obtain ⟨M', eM'⟩ : ∃ M', M' = wU (wU (wU (wU (wU (wU (wU M 329 4 (nI 0)) (201 + 6 * b) 5 (nI 2)) (201 + 6 * b) 7 x) (201 + 6 * b) 9 r) (201 + 6 * b) 8 y) (201 + 6 * b + 5) 0 a) (201 + 6 * b + 5) 1 e := ⟨_, rfl⟩
  obtain ⟨N', eN'⟩ : ∃ N', N' = wU (wU (wU (wU (wU (wU (wU (wU N 0 0 (nI 0)) 6 b x) 7 b y) 8 b r) 3 b (nI 2)) 4 b a) 5 b e) 0 16 (nI 0) := ⟨_, rfl⟩
  rw [← eM', ← eN']
  have c0 : ∀ c, c ≠ 329 → c ≠ 201 + 6 * b → c ≠ 201 + 6 * b + 5 → M' c = M c := fun c a1 a2 a3 => by rw [eM', wU_ne a3, wU_ne a3, wU_ne a2, wU_ne a2, wU_ne a2, wU_ne a2, wU_ne a1]
  have cb : M' (201 + 6 * b) = upd (upd (upd (upd (M (201 + 6 * b)) 5 (nI 2)) 7 x) 9 r) 8 y := by rw [eM', wU_ne (by omega), wU_ne (by omega), wU_self, wU_self, wU_self, wU_self, wU_ne (by omega)]
  have c5 : M' (201 + 6 * b + 5) = upd (upd (M (201 + 6 * b + 5)) 0 a) 1 e := by rw [eM', wU_self, wU_self, wU_ne (by omega), wU_ne (by omega), wU_ne (by omega), wU_ne (by omega), wU_ne (by omega)]
  have n_ : ∀ c, c ≠ 0 → c ≠ 3 → c ≠ 4 → c ≠ 5 → c ≠ 6 → c ≠ 7 → c ≠ 8 → N' c = N c := fun c a1 a2 a3 a4 a5 a6 a7 => by rw [eN', wU_ne a1, wU_ne a4, wU_ne a3, wU_ne a2, wU_ne a7, wU_ne a6, wU_ne a5, wU_ne a1]
  have n3 : N' 3 = upd (N 3) b (nI 2) := by rw [eN', wU_ne (by decide), wU_ne (by decide), wU_ne (by decide), wU_self, wU_ne (by decide), wU_ne (by decide), wU_ne (by decide), wU_ne (by decide)]
  have n4 : N' 4 = upd (N 4) b a := by rw [eN', wU_ne (by decide), wU_ne (by decide), wU_self, wU_ne (by decide), wU_ne (by decide), wU_ne (by decide), wU_ne (by decide), wU_ne (by decide)]
  have n5 : N' 5 = upd (N 5) b e := by rw [eN', wU_ne (by decide), wU_self, wU_ne (by decide), wU_ne (by decide), wU_ne (by decide), wU_ne (by decide), wU_ne (by decide), wU_ne (by decide)]
  have n6 : N' 6 = upd (N 6) b x := by rw [eN', wU_ne (by decide), wU_ne (by decide), wU_ne (by decide), wU_ne (by decide), wU_ne (by decide), wU_ne (by decide), wU_self, wU_ne (by decide)]
  have n7 : N' 7 = upd (N 7) b y := by rw [eN', wU_ne (by decide), wU_ne (by decide), wU_ne (by decide), wU_ne (by decide), wU_ne (by decide), wU_self, wU_ne (by decide), wU_ne (by decide)]
  have n8 : N' 8 = upd (N 8) b r := by rw [eN', wU_ne (by decide), wU_ne (by decide), wU_ne (by decide), wU_ne (by decide), wU_self, wU_ne (by decide), wU_ne (by decide), wU_ne (by decide)]
  have n1 := n_ 1 (by decide) (by decide) (by decide) (by decide) (by decide) (by decide) (by decide)
  have n2 := n_ 2 (by decide) (by decide) (by decide) (by decide) (by decide) (by decide) (by decide)
  refine Sim_blk h (b := b) (by omega) (fun c a1 a2 => c0 c a2 (by omega) (by omega)) (by rw [eM', wU_ne (by omega), wU_ne (by omega), wU_ne (by omega), wU_ne (by omega), wU_ne (by omega), wU_ne (by omega), wU_at, if_pos ⟨rfl, rfl⟩]) (fun j a c => by rw [eN', wU_at, if_neg (fun z => c z.2), wU_ne (by decide), wU_ne (by decide), wU_ne (by decide), wU_ne (by decide), wU_ne (by decide), wU_ne (by decide), wU_at, if_neg (fun z => a z.2)]) (by rw [eN', wU_at, if_pos ⟨rfl, rfl⟩]) n2 (fun c hc => n_ c (by omega) (by omega) (by omega) (by omega) (by omega) (by omega) (by omega)) (fun q hq => ?_) ?_
  · rw [n1, n3, n4, n5, n6, n7, n8, upd_o hq, upd_o hq, upd_o hq, upd_o hq, upd_o hq, upd_o hq]; exact ⟨rfl, rfl, rfl, rfl, rfl, rfl, rfl⟩
  · refine ⟨by rw [cb, n1, upd_o (by decide), upd_o (by decide), upd_o (by decide), upd_o (by decide)]; exact ob.sz, by rw [cb, n3, upd_s, upd_o (by decide), upd_o (by decide), upd_o (by decide), upd_s], by rw [n1]; exact ob.szn, by rw [n1]; exact ob.sz8, by rw [n3, upd_s, tn_nI (by decide)], by rw [n3, upd_s, tn_nI (by decide)]; omega, fun z => absurd z (by omega), fun a' ha' => ?_, fun _ => ⟨by rw [c5, n4, upd_o (by decide), upd_s, upd_s], by rw [n4, upd_s]; exact ha⟩, fun _ => ⟨by rw [c5, n5, upd_s, upd_s], by rw [n5, upd_s]; exact he, by rw [cb, n6, upd_o (by decide), upd_o (by decide), upd_s, upd_s], by rw [cb, n7, upd_s, upd_s], by rw [cb, n8, upd_o (by decide), upd_s, upd_s]⟩, by rw [n6, upd_s]; exact hx, by rw [n7, upd_s]; exact hy, by rw [n8, upd_s]; exact hr⟩
    rw [n1] at ha'
    exact ssS_eq (ob.sts a' ha') (by rw [c0 (201 + 6 * b + 1) (by omega) (by omega) (by omega)]) (by rw [c0 (201 + 6 * b + 2) (by omega) (by omega) (by omega)]) (by rw [c0 (201 + 6 * b + 3) (by omega) (by omega) (by omega)]) (by rw [c0 (201 + 6 * b + 4) (by omega) (by omega) (by omega)]) (fun j _ => by rw [n2])
theorem Sim_clear {M N : wM} {cnt t d n sc b : Nat} (h : SimA M N cnt t d n sc) (hb : b < cnt) : Sim (F_X2_makeEmpty (wU M 329 4 (nI 0)) b) (F_X9_end (wU (wU N 0 0 (nI 0)) 1 b (nI 0)) b (nI 0) (-1 : Int32) (-1 : Int32)) := by
  have hp := h.1
  have hc := hp.c16
  have ob := hp.bk b (by omega)
  unfold F_X2_makeEmpty F_X9_end
  obtain ⟨M', eM'⟩ : ∃ M', M' = wU (wU (wU M 329 4 (nI 0)) (201 + 6 * b) 0 (nI 0)) (201 + 6 * b) 5 (nI 0) := ⟨_, rfl⟩
  obtain ⟨N', eN'⟩ : ∃ N', N' = wU (wU (wU (wU (wU (wU N 0 0 (nI 0)) 1 b (nI 0)) 3 b (nI 0)) 4 b (-1 : Int32)) 5 b (-1 : Int32)) 0 16 (nI 0) := ⟨_, rfl⟩
  rw [← eM', ← eN']
  have c0 : ∀ c, c ≠ 329 → c ≠ 201 + 6 * b → M' c = M c := fun c a1 a2 => by rw [eM', wU_ne a2, wU_ne a2, wU_ne a1]
  have cb : M' (201 + 6 * b) = upd (upd (M (201 + 6 * b)) 0 (nI 0)) 5 (nI 0) := by rw [eM', wU_self, wU_self, wU_ne (by omega)]
  have n_ : ∀ c, c ≠ 0 → c ≠ 1 → c ≠ 3 → c ≠ 4 → c ≠ 5 → N' c = N c := fun c a1 a0 a2 a3 a4 => by rw [eN', wU_ne a1, wU_ne a4, wU_ne a3, wU_ne a2, wU_ne a0, wU_ne a1]
  have n1 : N' 1 = upd (N 1) b (nI 0) := by rw [eN', wU_ne (by decide), wU_ne (by decide), wU_ne (by decide), wU_ne (by decide), wU_self, wU_ne (by decide)]
  have n3 : N' 3 = upd (N 3) b (nI 0) := by rw [eN', wU_ne (by decide), wU_ne (by decide), wU_ne (by decide), wU_self, wU_ne (by decide), wU_ne (by decide)]
  have n4 : N' 4 = upd (N 4) b (-1 : Int32) := by rw [eN', wU_ne (by decide), wU_ne (by decide), wU_self, wU_ne (by decide), wU_ne (by decide), wU_ne (by decide)]
  have n5 : N' 5 = upd (N 5) b (-1 : Int32) := by rw [eN', wU_ne (by decide), wU_self, wU_ne (by decide), wU_ne (by decide), wU_ne (by decide), wU_ne (by decide)]
  have n2 := n_ 2 (by decide) (by decide) (by decide) (by decide) (by decide)
  have n6 := n_ 6 (by decide) (by decide) (by decide) (by decide) (by decide)
  have n7 := n_ 7 (by decide) (by decide) (by decide) (by decide) (by decide)
  have n8 := n_ 8 (by decide) (by decide) (by decide) (by decide) (by decide)
  have t1 : tn (N' 1 b) = 0 := by rw [n1, upd_s]; exact tn_nI (by decide)
  have t3 : tn (N' 3 b) = 0 := by rw [n3, upd_s]; exact tn_nI (by decide)
  refine Sim_blk h (b := b) (by omega) (fun c a1 a2 => c0 c a2 (by omega)) (by rw [eM', wU_ne (by omega), wU_ne (by omega), wU_at, if_pos ⟨rfl, rfl⟩]) (fun j a c => by rw [eN', wU_at, if_neg (fun z => c z.2), wU_ne (by decide), wU_ne (by decide), wU_ne (by decide), wU_ne (by decide), wU_at, if_neg (fun z => a z.2)]) (by rw [eN', wU_at, if_pos ⟨rfl, rfl⟩]) n2 (fun c hc => n_ c (by omega) (by omega) (by omega) (by omega) (by omega)) (fun q hq => ?_) ?_
  · rw [n1, n3, n4, n5, n6, n7, n8, upd_o hq, upd_o hq, upd_o hq, upd_o hq]; exact ⟨rfl, rfl, rfl, rfl, rfl, rfl, rfl⟩
  · refine ⟨by rw [cb, n1, upd_o (by decide), upd_s, upd_s], by rw [cb, n3, upd_s, upd_s], by rw [t1, n1, upd_s], by omega, by rw [t3, n3, upd_s], by omega, fun z => absurd z (by omega), fun a' ha' => absurd ha' (by omega), fun z => absurd z (by omega), fun z => absurd z (by omega), by rw [n6]; exact ob.vx, by rw [n7]; exact ob.vy, by rw [n8]; exact ob.vr⟩
/-! the settings -/
theorem Sim_set {M N M' N' : wM} {cnt t d n sc t' d' n' : Nat} (h : SimA M N cnt t d n sc) (hM : ∀ c, c ≠ 329 → c ≠ 332 → c ≠ 333 → M' c = M c) (hf : M' 329 4 = nI 0) (hN : ∀ c, c ≠ 0 → c ≠ 11 → N' c = N c) (hN0 : ∀ j, j ≠ 0 → j ≠ 12 → j ≠ 13 → j ≠ 14 → j ≠ 16 → N' 0 j = N 0 j) (n16 : N' 0 16 = nI 0) (tM : M' 332 2 = nI t') (tN : N' 0 14 = nI t') (t8 : t' ≤ 8) (th : ∀ k, k < t' → M' 333 k = N' 11 k) (dM : M' 332 0 = nI d') (dN : N' 0 12 = nI d') (d10 : d' ≤ 10) (nM : M' 332 1 = nI n') (nN : N' 0 13 = nI n') (n5 : n' ≤ 5) : Sim M' N' := by
  have hp := h.1
  have hm : ∀ c, c < 329 → M' c = M c := fun c hc => hM c (by omega) (by omega) (by omega)
  refine Sim_pg h (cnt' := cnt) (t' := t') (d' := d') (n' := n') ?_ (cZ_same h.2.1 (fun c hc => hm c (by omega))) hf n16 (hN 12 (by decide) (by decide)) (fun c hc => hM c (by omega) (by omega) (by omega)) (hN0 26 (by decide) (by decide) (by decide) (by decide) (by decide)) (hN 20 (by decide) (by decide)) (hN 21 (by decide) (by decide)) (hN 22 (by decide) (by decide))
  refine ⟨by rw [hM 330 (by decide) (by decide) (by decide)]; exact hp.cM, by rw [hN0 1 (by decide) (by decide) (by decide) (by decide) (by decide)]; exact hp.cN, hp.c16, hp.c1, tM, tN, t8, th, dM, dN, d10, nM, nN, n5, by rw [hm (3 * 0) (by decide)]; exact hp.i0, by rw [hm (3 * 0 + 1) (by decide), hm (3 * 0 + 2) (by decide), hN 9 (by decide) (by decide), hN 10 (by decide) (by decide)]; exact hp.iv, by rw [hN 9 (by decide) (by decide), hN 10 (by decide) (by decide)]; exact hp.iV, fun b hb => ?_⟩
  exact bkS_eq (hp.bk b hb) (Nat.le_refl _) (fun c c1 c2 => hm c (by omega)) (by rw [hN 1 (by decide) (by decide), hN 3 (by decide) (by decide), hN 4 (by decide) (by decide), hN 5 (by decide) (by decide), hN 6 (by decide) (by decide), hN 7 (by decide) (by decide), hN 8 (by decide) (by decide)]; exact ⟨rfl, rfl, rfl, rfl, rfl, rfl, rfl⟩) (fun a _ j _ => by rw [hN 2 (by decide) (by decide)])
theorem Sim_setEffort {M N : wM} {cnt t d n sc : Nat} {e m : Int32} (h : SimA M N cnt t d n sc) (he : inB e 11) (hm : inB m 6) : Sim (wU (wU (wU M 329 4 (nI 0)) 332 0 e) 332 1 m) (wU (wU (wU (wU N 0 0 (nI 0)) 0 12 e) 0 13 m) 0 16 (nI 0)) := by
  have hp := h.1
  obtain ⟨d', hd', rfl⟩ := he
  obtain ⟨n', hn', rfl⟩ := hm
  refine Sim_set h (t' := t) (d' := d') (n' := n') (fun c a1 a2 a3 => by rw [wU_ne a2, wU_ne a2, wU_ne a1]) (by rw [wU_ne (by decide), wU_ne (by decide), wU_at, if_pos ⟨rfl, rfl⟩]) (fun c a1 a2 => by rw [wU_ne a1, wU_ne a1, wU_ne a1, wU_ne a1]) (fun j a1 a2 a3 a4 a5 => by rw [wU_at, if_neg (fun z => a5 z.2), wU_at, if_neg (fun z => a3 z.2), wU_at, if_neg (fun z => a2 z.2), wU_at, if_neg (fun z => a1 z.2)]) (by rw [wU_at, if_pos ⟨rfl, rfl⟩]) ?_ ?_ hp.t8 (fun k hk => ?_) ?_ ?_ (by omega) ?_ ?_ (by omega)
  · rw [wU_at, if_neg (by decide), wU_at, if_neg (by decide), wU_ne (by decide)]; exact hp.tM
  · rw [wU_at, if_neg (by decide), wU_at, if_neg (by decide), wU_at, if_neg (by decide), wU_at, if_neg (by decide)]; exact hp.tN
  · rw [wU_ne (by decide), wU_ne (by decide), wU_ne (by decide), wU_ne (by decide), wU_ne (by decide), wU_ne (by decide), wU_ne (by decide)]; exact hp.th k hk
  · rw [wU_at, if_neg (by decide), wU_at, if_pos ⟨rfl, rfl⟩]
  · rw [wU_at, if_neg (by decide), wU_at, if_neg (by decide), wU_at, if_pos ⟨rfl, rfl⟩]
  · rw [wU_at, if_pos ⟨rfl, rfl⟩]
  · rw [wU_at, if_neg (by decide), wU_at, if_pos ⟨rfl, rfl⟩]
theorem Sim_addT1 {M N : wM} {cnt t d n sc : Nat} {v : Int32} (h : SimA M N cnt t d n sc) : Sim (wU M 329 4 (nI 0)) (wU (wU (wU (wU N 0 0 (nI 0)) 11 t v) 0 14 (nI (t + 0))) 0 16 (nI 0)) := by
  have hp := h.1
  refine Sim_set h (t' := t) (d' := d) (n' := n) (fun c a1 a2 a3 => by rw [wU_ne a1]) (by rw [wU_at, if_pos ⟨rfl, rfl⟩]) (fun c a1 a2 => by rw [wU_ne a1, wU_ne a1, wU_ne a2, wU_ne a1]) (fun j a1 a2 a3 a4 a5 => by rw [wU_at, if_neg (fun z => a5 z.2), wU_at, if_neg (fun z => a4 z.2), wU_ne (by decide), wU_at, if_neg (fun z => a1 z.2)]) (by rw [wU_at, if_pos ⟨rfl, rfl⟩]) ?_ ?_ hp.t8 (fun k hk => ?_) ?_ ?_ hp.d10 ?_ ?_ hp.n5
  · rw [wU_ne (by decide)]; exact hp.tM
  · rw [wU_at, if_neg (by decide), wU_at, if_pos ⟨rfl, rfl⟩]; rfl
  · rw [wU_ne (by decide), wU_ne (by decide), wU_ne (by decide), wU_at, if_neg (by omega), wU_ne (by decide)]; exact hp.th k hk
  · rw [wU_ne (by decide)]; exact hp.dM
  · rw [wU_at, if_neg (by decide), wU_at, if_neg (by decide), wU_ne (by decide), wU_at, if_neg (by decide)]; exact hp.dN
  · rw [wU_ne (by decide)]; exact hp.nM
  · rw [wU_at, if_neg (by decide), wU_at, if_neg (by decide), wU_ne (by decide), wU_at, if_neg (by decide)]; exact hp.nN
theorem Sim_addT2 {M N : wM} {cnt t d n sc : Nat} {v : Int32} (h : SimA M N cnt t d n sc) (ht : t < 8) : Sim (wU (wU (wU M 329 4 (nI 0)) 333 t v) 332 2 (nI (t + 1))) (wU (wU (wU (wU N 0 0 (nI 0)) 11 t v) 0 14 (nI (t + 1))) 0 16 (nI 0)) := by
  have hp := h.1
  refine Sim_set h (t' := t + 1) (d' := d) (n' := n) (fun c a1 a2 a3 => by rw [wU_ne a2, wU_ne a3, wU_ne a1]) (by rw [wU_ne (by decide), wU_ne (by decide), wU_at, if_pos ⟨rfl, rfl⟩]) (fun c a1 a2 => by rw [wU_ne a1, wU_ne a1, wU_ne a2, wU_ne a1]) (fun j a1 a2 a3 a4 a5 => by rw [wU_at, if_neg (fun z => a5 z.2), wU_at, if_neg (fun z => a4 z.2), wU_ne (by decide), wU_at, if_neg (fun z => a1 z.2)]) (by rw [wU_at, if_pos ⟨rfl, rfl⟩]) ?_ ?_ (by omega) (fun k hk => ?_) ?_ ?_ hp.d10 ?_ ?_ hp.n5
  · rw [wU_at, if_pos ⟨rfl, rfl⟩]
  · rw [wU_at, if_neg (by decide), wU_at, if_pos ⟨rfl, rfl⟩]
  · rw [wU_ne (show (333 : Nat) ≠ 332 by decide), wU_at, wU_ne (show (333 : Nat) ≠ 329 by decide), wU_ne (show (11 : Nat) ≠ 0 by decide), wU_ne (show (11 : Nat) ≠ 0 by decide), wU_at, wU_ne (show (11 : Nat) ≠ 0 by decide)]
    by_cases z : k = t
    · rw [if_pos ⟨rfl, z⟩, if_pos ⟨rfl, z⟩]
    · rw [if_neg (fun w => z w.2), if_neg (fun w => z w.2)]; exact hp.th k (by omega)
  · rw [wU_at, if_neg (by decide), wU_ne (by decide), wU_ne (by decide)]; exact hp.dM
  · rw [wU_at, if_neg (by decide), wU_at, if_neg (by decide), wU_ne (by decide), wU_at, if_neg (by decide)]; exact hp.dN
  · rw [wU_at, if_neg (by decide), wU_ne (by decide), wU_ne (by decide)]; exact hp.nM
  · rw [wU_at, if_neg (by decide), wU_at, if_neg (by decide), wU_ne (by decide), wU_at, if_neg (by decide)]; exact hp.nN
theorem thI_eq {M N : wM} {cnt t d n sc : Nat} {v : Int32} (h : SimA M N cnt t d n sc) : thIn M v t ↔ thI9 N v t :=
  ⟨fun ⟨a, ha, e⟩ => ⟨a, ha, by rw [← h.1.th a ha]; exact e⟩, fun ⟨a, ha, e⟩ => ⟨a, ha, by rw [h.1.th a ha]; exact e⟩⟩
/-! the analysis -/
theorem pgS_kp {M N M' N' : wM} {cnt t d n : Nat} (h : pgS M N cnt t d n) (hM : ∀ c, (c < 3 ∨ (201 ≤ c ∧ c < 297) ∨ (330 ≤ c ∧ c < 336)) → M' c = M c) (hN : ∀ c, 1 ≤ c → c ≤ 11 → N' c = N c) (hN0 : ∀ j, j = 1 ∨ j = 12 ∨ j = 13 ∨ j = 14 → N' 0 j = N 0 j) : pgS M' N' cnt t d n := by
  refine ⟨by rw [hM 330 (by omega)]; exact h.cM, by rw [hN0 1 (by omega)]; exact h.cN, h.c16, h.c1, by rw [hM 332 (by omega)]; exact h.tM, by rw [hN0 14 (by omega)]; exact h.tN, h.t8, by rw [hM 333 (by omega), hN 11 (by omega) (by omega)]; exact h.th, by rw [hM 332 (by omega)]; exact h.dM, by rw [hN0 12 (by omega)]; exact h.dN, h.d10, by rw [hM 332 (by omega)]; exact h.nM, by rw [hN0 13 (by omega)]; exact h.nN, h.n5, by rw [hM (3 * 0) (by omega)]; exact h.i0, by rw [hM (3 * 0 + 1) (by omega), hM (3 * 0 + 2) (by omega), hN 9 (by omega) (by omega), hN 10 (by omega) (by omega)]; exact h.iv, by rw [hN 9 (by omega) (by omega), hN 10 (by omega) (by omega)]; exact h.iV, fun b hb => ?_⟩
  exact bkS_eq (h.bk b hb) (Nat.le_refl _) (fun c c1 c2 => hM c (by omega)) (by rw [hN 1 (by omega) (by omega), hN 3 (by omega) (by omega), hN 4 (by omega) (by omega), hN 5 (by omega) (by omega), hN 6 (by omega) (by omega), hN 7 (by omega) (by omega), hN 8 (by omega) (by omega)]; exact ⟨rfl, rfl, rfl, rfl, rfl, rfl, rfl⟩) (fun a _ j _ => by rw [hN 2 (by omega) (by omega)])
theorem anM_at {N : wM} {c : Nat} (h : c ≠ 0) : anM N c = N c := by unfold anM; rw [wU_ne h, wU_ne h]
theorem anM_0 {N : wM} {j : Nat} (h : j ≠ 0) (g : j ≠ 16) : anM N 0 j = N 0 j := by unfold anM; rw [wU_at, if_neg (fun z => g z.2), wU_at, if_neg (fun z => h z.2)]
theorem pgS_an {M N : wM} {cnt t d n : Nat} (h : pgS M N cnt t d n) : pgS M (anM N) cnt t d n := pgS_kp h (fun _ _ => rfl) (fun c c1 c2 => anM_at (by omega)) (fun j hj => anM_0 (by omega) (by omega))
theorem AN_self {M M' : wM} {E : Nat → aS} {V : Nat → Int32} (h : AN M M' E V) : AN M' M' E V := by
  have hB := AN_bkE h
  refine ⟨kp_refl _ _, h.2.1, fun b hb => ?_⟩
  obtain ⟨a1, a2, a3, a4⟩ := h.2.2 b hb
  refine ⟨a1, a2, by rw [bkE_apB hB hb]; exact a3, fun e he => ?_⟩
  rw [bkE_edB hB hb, bkE_apB hB hb]
  exact a4 e (by rw [hB (201 + 6 * b) (by omega) (by omega)] at he; exact he)
theorem AN_329 {M : wM} {E : Nat → aS} {V : Nat → Int32} {v : Int32} (hE : ∀ b, b < 16 → tn (M (201 + 6 * b) 5) ≤ 2) (h : AN M M E V) : AN (wU M 329 4 v) (wU M 329 4 v) E V := by
  have k : kp M (wU M 329 4 v) (fun c => c = 329) := kp_U rfl
  have hB : bkE M (wU M 329 4 v) := bkE_kp k (fun c a b => by omega)
  have hs : ∀ i, i < 70 → sv (wU M 329 4 v) i = sv M i := fun i hi => sv_kp k (by omega) (by omega) (by omega)
  refine ⟨kp_refl _ _, fun i hi => by rw [wU_ne (by omega)]; exact h.2.1 i hi, fun b hb => ?_⟩
  obtain ⟨a1, a2, a3, a4⟩ := h.2.2 b hb
  refine ⟨by rw [hs _ (by omega)]; exact a1, by rw [wU_ne (by omega)]; exact a2, by rw [hs _ (by omega), bkE_apB hB hb]; exact a3, fun e he => ?_⟩
  rw [wU_ne (by omega)] at he
  have := hE b hb
  rw [bkE_edB hB hb, bkE_apB hB hb, sv_kp k (by omega) (by omega) (by omega)]
  exact a4 e he
theorem AM_self {N N' : wM} {E : Nat → aS} {V : Nat → Int32} (h : AM N N' E V) : AM N' N' E V := ⟨kp_refl _ _, fun _ _ => rfl, h.2.2.1, h.2.2.2⟩
theorem Sim_analyze {M N : wM} {J K : wJ} {cnt t d n sc : Nat} {r s : Int32} {u v : wM × wJ} (h : SimA M N cnt t d n sc) (hu : pAn M J cnt t n r u) (hv : qAn N K cnt t n s v) : r = s ∧ Sim u.1 v.1 := by
  have hp := h.1
  obtain ⟨e1, e2, e3, e4⟩ := an_eq (pgS_an hp)
  obtain ⟨-, r1, M', m1, m2⟩ := hu
  obtain ⟨-, s1, s2⟩ := hv
  have e2 : its M cnt t 1000000 ((fun _ => none), (fun _ => nI 0)) = itR (anM N) cnt t 1000000 z0 := e2
  have e3 : nrR M cnt n (its M cnt t 1000000 ((fun _ => none), (fun _ => nI 0))).2.1 = nrRR (anM N) cnt n (itR (anM N) cnt t 1000000 z0).2.1 := e3
  rw [e3, e2] at m1
  rw [e2] at r1
  refine ⟨r1.trans s1.symm, cnt, t, d, n, sc, ?_, ?_, ?_, ?_, s2.2.2.1, fun _ => ⟨_, _, e4, ?_, AM_self s2⟩, ?_⟩
  · refine pgS_kp hp (fun c hc => ?_) (fun c c1 c2 => ?_) (fun j hj => ?_)
    · rw [m2, wU_ne (by omega), m1.1 c (by unfold anC; omega)]
    · rw [AM_at s2 c (by omega), anM_at (by omega)]
    · rw [s2.2.1 j (by omega), anM_0 (by omega) (by omega)]
  · rw [m2]; intro i hi; rw [wU_ne (by omega)]; exact m1.2.1 i hi
  · rw [s2.2.1 16 (by decide)]; unfold anM; rw [wU_at, if_pos ⟨rfl, rfl⟩]; exact Or.inr rfl
  · rw [s2.2.1 16 (by decide), m2]; unfold anM; rw [wU_at, if_pos ⟨rfl, rfl⟩, wU_at, if_pos ⟨rfl, rfl⟩]
  · rw [m2]; exact AN_329 (fun b hb => by rw [m1.1 (201 + 6 * b) (by unfold anC; omega)]; exact (hp.pr.2.2.1 b hb).2.2.1) (AN_self m1)
  · obtain ⟨x1, x2, x3, x4, x5⟩ := h.2.2.2.2.2.2
    have mm : ∀ c, 336 ≤ c → u.1 c = M c := fun c hc => by rw [m2, wU_ne (by omega), m1.1 c (by unfold anC; omega)]
    have nn : ∀ c, 20 ≤ c → v.1 c = N c := fun c hc => by rw [AM_at s2 c (by omega), anM_at (by omega)]
    exact ⟨by rw [mm 336 (by omega)]; exact x1, by rw [s2.2.1 26 (by decide), anM_0 (by decide) (by decide)]; exact x2, x3, by rw [mm 338 (by omega), mm 339 (by omega), nn 20 (by omega), nn 21 (by omega)]; exact x4, by rw [mm 337 (by omega), nn 22 (by omega)]; exact x5⟩
