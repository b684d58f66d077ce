/-! ===== the reference's states, pure ===== -/
def lim (x : Int64) : Int32 := E_X9_limited (fun _ _ => 0) x
/-- a statement of the reference: kind k, target x, p and q as they lie there -/
def stS (x : Nat) (a d : Int64) (f : aP) : aP := (upd f.1 x (lim a), upd f.2 x (lim d))
def stM (k : Int32) (x : Nat) (p q : Int32) (f : aP) : aP :=
  if k = nI 0 then stS x (f.1 (tn p)).toInt64 (f.2 (tn p)).toInt64 f
  else if k = nI 1 then stS x ((f.1 (tn p)).toInt64 + (f.1 (tn q)).toInt64) ((f.2 (tn p)).toInt64 + (f.2 (tn q)).toInt64) f
  else if k = nI 2 then stS x ((f.1 (tn p)).toInt64 - (f.2 (tn q)).toInt64) ((f.2 (tn p)).toInt64 - (f.1 (tn q)).toInt64) f
  else if k = nI 3 then stS x (l_mn (l_mn ((f.1 (tn p)).toInt64 * (f.1 (tn q)).toInt64) ((f.1 (tn p)).toInt64 * (f.2 (tn q)).toInt64)) (l_mn ((f.2 (tn p)).toInt64 * (f.1 (tn q)).toInt64) ((f.2 (tn p)).toInt64 * (f.2 (tn q)).toInt64))) (l_mx (l_mx ((f.1 (tn p)).toInt64 * (f.1 (tn q)).toInt64) ((f.1 (tn p)).toInt64 * (f.2 (tn q)).toInt64)) (l_mx ((f.2 (tn p)).toInt64 * (f.1 (tn q)).toInt64) ((f.2 (tn p)).toInt64 * (f.2 (tn q)).toInt64))) f
  else if k = nI 4 then stS x (i_mn (f.1 (tn p)) (f.1 (tn q))).toInt64 (i_mn (f.2 (tn p)) (f.2 (tn q))).toInt64 f
  else if k = nI 5 then stS x (i_mx (f.1 (tn p)) (f.1 (tn q))).toInt64 (i_mx (f.2 (tn p)) (f.2 (tn q))).toInt64 f
  else stS x p.toInt64 q.toInt64 f
def m67 (c : Nat) : Prop := c = 16 ∨ c = 17
theorem set_m {M : wM} {x : Nat} {a d : Int64} : kp M (F_X9_set M x a d) m67 ∧ (F_X9_set M x a d 16, F_X9_set M x a d 17) = stS x a d (M 16, M 17) := by
  unfold F_X9_set
  refine ⟨kp_trans (kp_U (Or.inl rfl)) (kp_U (Or.inr rfl)), ?_⟩
  rw [wU_ne (by decide), wU_self, wU_self, wU_ne (by decide)]; rfl
theorem apply_m {M : wM} {at_ x : Nat} : kp M (F_X9_apply M at_ x) m67 ∧ (F_X9_apply M at_ x 16, F_X9_apply M at_ x 17) = stM (M 2 at_) x (M 2 (at_ + 2)) (M 2 (at_ + 3)) (M 16, M 17) := by
  unfold F_X9_apply stM
  by_cases h0 : M 2 at_ = nI 0
  · rw [if_pos h0, if_pos h0]; exact set_m
  · rw [if_neg h0, if_neg h0]
    by_cases h1 : M 2 at_ = nI 1
    · rw [if_pos h1, if_pos h1]; exact set_m
    · rw [if_neg h1, if_neg h1]
      by_cases h2 : M 2 at_ = nI 2
      · rw [if_pos h2, if_pos h2]; exact set_m
      · rw [if_neg h2, if_neg h2]
        by_cases h3 : M 2 at_ = nI 3
        · rw [if_pos h3, if_pos h3]; exact set_m
        · rw [if_neg h3, if_neg h3]
          by_cases h4 : M 2 at_ = nI 4
          · rw [if_pos h4, if_pos h4]; exact set_m
          · rw [if_neg h4, if_neg h4]
            by_cases h5 : M 2 at_ = nI 5
            · rw [if_pos h5, if_pos h5]; exact set_m
            · rw [if_neg h5, if_neg h5]; exact set_m
def rr (f : aP) : aP := (r6 f.1, r6 f.2)
theorem rr_stS {x : Nat} {a d : Int64} {f : aP} (hx : x < 6) : rr (stS x a d f) = stS x a d (rr f) := by
  unfold rr stS; rw [r6_upd hx, r6_upd hx]
theorem rr_1 {f : aP} {v : Nat} (h : v < 6) : (rr f).1 v = f.1 v := r6_lt h
theorem rr_2 {f : aP} {v : Nat} (h : v < 6) : (rr f).2 v = f.2 v := r6_lt h
theorem rr_stM {k : Int32} {x : Nat} {p q : Int32} {f : aP} (hx : x < 6) (hpq : ∀ j, j ≤ 5 → k = nI j → isV p ∧ isV q) : rr (stM k x p q f) = stM k x p q (rr f) := by
  unfold stM
  by_cases h0 : k = nI 0
  · have z := hpq 0 (by decide) h0
    rw [if_pos h0, if_pos h0, rr_stS hx, rr_1 z.1.2, rr_2 z.1.2]
  · rw [if_neg h0, if_neg h0]
    by_cases h1 : k = nI 1
    · have z := hpq 1 (by decide) h1
      rw [if_pos h1, if_pos h1, rr_stS hx, rr_1 z.1.2, rr_2 z.1.2, rr_1 z.2.2, rr_2 z.2.2]
    · rw [if_neg h1, if_neg h1]
      by_cases h2 : k = nI 2
      · have z := hpq 2 (by decide) h2
        rw [if_pos h2, if_pos h2, rr_stS hx, rr_1 z.1.2, rr_2 z.1.2, rr_1 z.2.2, rr_2 z.2.2]
      · rw [if_neg h2, if_neg h2]
        by_cases h3 : k = nI 3
        · have z := hpq 3 (by decide) h3
          rw [if_pos h3, if_pos h3, rr_stS hx, rr_1 z.1.2, rr_2 z.1.2, rr_1 z.2.2, rr_2 z.2.2]
        · rw [if_neg h3, if_neg h3]
          by_cases h4 : k = nI 4
          · have z := hpq 4 (by decide) h4
            rw [if_pos h4, if_pos h4, rr_stS hx, rr_1 z.1.2, rr_2 z.1.2, rr_1 z.2.2, rr_2 z.2.2]
          · rw [if_neg h4, if_neg h4]
            by_cases h5 : k = nI 5
            · have z := hpq 5 (by decide) h5
              rw [if_pos h5, if_pos h5, rr_stS hx, rr_1 z.1.2, rr_2 z.1.2, rr_1 z.2.2, rr_2 z.2.2]
            · rw [if_neg h5, if_neg h5, rr_stS hx]
def st9 (M : wM) (b a : Nat) : Prop := isV (M 2 (4 * ((8 * b) + a) + 1)) ∧ ∀ k, k ≤ 5 → M 2 (4 * ((8 * b) + a)) = nI k → isV (M 2 (4 * ((8 * b) + a) + 2)) ∧ isV (M 2 (4 * ((8 * b) + a) + 3))
def apm (M : wM) (b : Nat) (f : aP) : Nat → aP
  | 0 => f
  | n + 1 => stM (M 2 (4 * ((8 * b) + n))) (tn (M 2 (4 * ((8 * b) + n) + 1))) (M 2 (4 * ((8 * b) + n) + 2)) (M 2 (4 * ((8 * b) + n) + 3)) (apm M b f n)
def rw9 (M : wM) (b : Nat) : aP := rr (fun v => M 13 ((6 * b) + v), fun v => M 14 ((6 * b) + v))
def apF (M : wM) (b : Nat) : aP := apm M b (rw9 M b) (tn (M 1 b))
def Ilv (M : wM) (b k : Nat) (M' : wM) : Prop := kp M M' m67 ∧ ∀ v, v < k → M' 16 v = M 13 ((6 * b) + v) ∧ M' 17 v = M 14 ((6 * b) + v)
theorem Ilv_s {M M1 : wM} {b k : Nat} (h : Ilv M b k M1) : Ilv M b (k + 1) (wU (wU M1 16 k (M1 13 ((6 * b) + k))) 17 k ((wU M1 16 k (M1 13 ((6 * b) + k))) 14 ((6 * b) + k))) := by
  obtain ⟨h1, h2⟩ := h
  have e1 : M1 13 = M 13 := h1 13 (by unfold m67; omega)
  have e2 : M1 14 = M 14 := h1 14 (by unfold m67; omega)
  refine ⟨kp_trans h1 (kp_trans (kp_U (Or.inl rfl)) (kp_U (Or.inr rfl))), fun v hv => ?_⟩
  by_cases q : v = k
  · subst q
    refine ⟨?_, ?_⟩
    · rw [wU_ne (by decide), wU_at, if_pos ⟨rfl, rfl⟩, e1]
    · rw [wU_at, if_pos ⟨rfl, rfl⟩, wU_ne (by decide), e2]
  · refine ⟨?_, ?_⟩
    · rw [wU_ne (by decide), wU_at, if_neg (fun z => q z.2)]; exact (h2 v (by omega)).1
    · rw [wU_at, if_neg (fun z => q z.2), wU_ne (by decide)]; exact (h2 v (by omega)).2
def Iap9 (M : wM) (b k : Nat) (M' : wM) : Prop := kp M M' m67 ∧ rr (M' 16, M' 17) = apm M b (rw9 M b) k
theorem Iap9_0 {M M1 : wM} {b : Nat} (h : Ilv M b 6 M1) : Iap9 M b 0 M1 := by
  refine ⟨h.1, ?_⟩
  show rr (M1 16, M1 17) = rr _
  unfold rr
  rw [r6_ext (fun v hv => (h.2 v hv).1), r6_ext (f := M1 17) (fun v hv => (h.2 v hv).2)]
theorem Iap9_s {M M1 : wM} {b k : Nat} (h : Iap9 M b k M1) (hs : st9 M b k) : Iap9 M b (k + 1) (F_X9_apply M1 (4 * ((8 * b) + k)) (tn (M 2 (4 * ((8 * b) + k) + 1)))) := by
  obtain ⟨h1, h2⟩ := h
  have e : M1 2 = M 2 := h1 2 (by unfold m67; omega)
  have a := apply_m (M := M1) (at_ := 4 * ((8 * b) + k)) (x := tn (M 2 (4 * ((8 * b) + k) + 1)))
  refine ⟨kp_trans h1 a.1, ?_⟩
  rw [a.2, e, rr_stM hs.1.2 hs.2, h2]
  rfl
def pLv (M : wM) (J : wJ) (b : Nat) (u : wM × wJ) : Prop := u.2 = J ∧ kp M u.1 m67 ∧ rr (u.1 16, u.1 17) = apF M b
/-- the join of the reference -/
def js (M : wM) : aS := if M 0 23 = 0 then none else some (rr (M 18, M 19))
def Ijn (M : wM) (k : Nat) (M' : wM) : Prop := kp M M' (fun c => c = 18 ∨ c = 19) ∧ ∀ v, (v < k → M' 18 v = (if M 0 23 = 0 then M 16 v else i_mn (M 18 v) (M 16 v)) ∧ M' 19 v = (if M 0 23 = 0 then M 17 v else i_mx (M 19 v) (M 17 v))) ∧ (k ≤ v → M' 18 v = M 18 v ∧ M' 19 v = M 19 v)
theorem Ijn_0 {M : wM} : Ijn M 0 M := ⟨kp_refl _ _, fun v => ⟨fun h => absurd h (Nat.not_lt_zero v), fun _ => ⟨rfl, rfl⟩⟩⟩
theorem Ijn_g {M M1 M2 : wM} {k : Nat} (h : Ijn M k M1) (hk : kp M1 M2 (fun c => c = 18 ∨ c = 19)) (ho : ∀ v, v ≠ k → M2 18 v = M1 18 v ∧ M2 19 v = M1 19 v) (ha : M2 18 k = (if M 0 23 = 0 then M 16 k else i_mn (M 18 k) (M 16 k))) (hb : M2 19 k = (if M 0 23 = 0 then M 17 k else i_mx (M 19 k) (M 17 k))) : Ijn M (k + 1) M2 := by
  refine ⟨kp_trans h.1 hk, fun v => ⟨fun hv => ?_, fun hv => ?_⟩⟩
  · by_cases q : v = k
    · subst q; exact ⟨ha, hb⟩
    · rw [(ho v q).1, (ho v q).2]; exact (h.2 v).1 (by omega)
  · rw [(ho v (by omega)).1, (ho v (by omega)).2]; exact (h.2 v).2 (by omega)
theorem Ijn_1 {M M1 : wM} {k : Nat} (h : Ijn M k M1) (q : M 0 23 = 0) : Ijn M (k + 1) (wU (wU M1 18 k (M1 16 k)) 19 k ((wU M1 18 k (M1 16 k)) 17 k)) := by
  have e6 : M1 16 = M 16 := h.1 16 (by decide)
  have e7 : M1 17 = M 17 := h.1 17 (by decide)
  refine Ijn_g h (kp_trans (kp_U (Or.inl rfl)) (kp_U (Or.inr rfl))) (fun v hv => ⟨?_, ?_⟩) ?_ ?_
  · rw [wU_ne (by decide), wU_at, if_neg (fun z => hv z.2)]
  · rw [wU_at, if_neg (fun z => hv z.2), wU_ne (by decide)]
  · rw [wU_ne (by decide), wU_at, if_pos ⟨rfl, rfl⟩, if_pos q, e6]
  · rw [wU_at, if_pos ⟨rfl, rfl⟩, if_pos q, wU_ne (by decide), e7]
theorem Ijn_2 {M M1 : wM} {k : Nat} (h : Ijn M k M1) (q : ¬ M 0 23 = 0) : Ijn M (k + 1) (wU (wU M1 18 k (i_mn (M1 18 k) (M1 16 k))) 19 k (i_mx ((wU M1 18 k (i_mn (M1 18 k) (M1 16 k))) 19 k) ((wU M1 18 k (i_mn (M1 18 k) (M1 16 k))) 17 k))) := by
  have e6 : M1 16 = M 16 := h.1 16 (by decide)
  have e7 : M1 17 = M 17 := h.1 17 (by decide)
  have e8 := ((h.2 k).2 (Nat.le_refl k)).1
  have e9 := ((h.2 k).2 (Nat.le_refl k)).2
  refine Ijn_g h (kp_trans (kp_U (Or.inl rfl)) (kp_U (Or.inr rfl))) (fun v hv => ⟨?_, ?_⟩) ?_ ?_
  · rw [wU_ne (by decide), wU_at, if_neg (fun z => hv z.2)]
  · rw [wU_at, if_neg (fun z => hv z.2), wU_ne (by decide)]
  · rw [wU_ne (by decide), wU_at, if_pos ⟨rfl, rfl⟩, if_neg q, e6, e8]
  · rw [wU_at, if_pos ⟨rfl, rfl⟩, if_neg q, wU_ne (by decide), wU_ne (by decide), e7, e9]
/-- what the join leaves -/
def pJn (M : wM) (J : wJ) (u : wM × wJ) : Prop := u.2 = J ∧ kp M u.1 (fun c => c = 0 ∨ c = 18 ∨ c = 19) ∧ (∀ j, j ≠ 23 → u.1 0 j = M 0 j) ∧ u.1 0 23 = nI 1 ∧ js u.1 = jn (js M) (some (rr (M 16, M 17)))
theorem pJn_of {M M1 : wM} {J : wJ} (h : Ijn M 6 M1) : pJn M J (wU M1 0 23 (nI 1), J) := by
  have e0 : M1 0 = M 0 := h.1 0 (by decide)
  refine ⟨rfl, kp_trans (kp_mono h.1 (fun c hc => Or.inr hc)) (kp_U (Or.inl rfl)), fun j hj => ?_, ?_, ?_⟩
  · show wU M1 0 23 (nI 1) 0 j = _
    rw [wU_at, if_neg (fun z => hj z.2), e0]
  · show wU M1 0 23 (nI 1) 0 23 = _
    rw [wU_at, if_pos ⟨rfl, rfl⟩]
  · show js (wU M1 0 23 (nI 1)) = _
    have z1 : ¬ wU M1 0 23 (nI 1) 0 23 = 0 := by rw [wU_at, if_pos ⟨rfl, rfl⟩]; decide
    unfold js
    rw [if_neg z1, wU_ne (by decide), wU_ne (by decide)]
    by_cases q : M 0 23 = 0
    · rw [if_pos q]
      show some (r6 (M1 18), r6 (M1 19)) = some (r6 (M 16), r6 (M 17))
      rw [r6_ext (f := M1 18) (g := M 16) (fun v hv => by rw [((h.2 v).1 hv).1, if_pos q]), r6_ext (f := M1 19) (g := M 17) (fun v hv => by rw [((h.2 v).1 hv).2, if_pos q])]
    · rw [if_neg q]
      show some (r6 (M1 18), r6 (M1 19)) = some (r6 (fun v => i_mn (r6 (M 18) v) (r6 (M 16) v)), r6 (fun v => i_mx (r6 (M 19) v) (r6 (M 17) v)))
      rw [r6_ext (f := M1 18) (g := fun v => i_mn (r6 (M 18) v) (r6 (M 16) v)) (fun v hv => by rw [((h.2 v).1 hv).1, if_neg q, r6_lt hv, r6_lt hv]), r6_ext (f := M1 19) (g := fun v => i_mx (r6 (M 19) v) (r6 (M 17) v)) (fun v hv => by rw [((h.2 v).1 hv).2, if_neg q, r6_lt hv, r6_lt hv])]
