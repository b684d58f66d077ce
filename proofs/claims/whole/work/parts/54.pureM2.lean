/-! ===== the reference's edges, pure ===== -/
/-- refinement of two rows by a relation of 0 to 5 -/
def rfr (r : Nat) (x y : Nat) (f : aP) : aP :=
  if r = 0 then (upd f.1 y (i_mx (f.1 y) (f.1 x + nI 1)), upd f.2 x (i_mn (f.2 x) (f.2 y - nI 1)))
  else if r = 1 then (upd f.1 y (i_mx (f.1 y) (f.1 x)), upd f.2 x (i_mn (f.2 x) (f.2 y)))
  else if r = 2 then (upd (upd f.1 y (i_mx (f.1 y) (f.1 x))) x (i_mx (f.1 x) (f.1 y)), upd (upd f.2 x (i_mn (f.2 x) (f.2 y))) y (i_mn (f.2 y) (f.2 x)))
  else if r = 4 then (upd f.1 x (i_mx (f.1 x) (f.1 y)), upd f.2 y (i_mn (f.2 y) (f.2 x)))
  else if r = 5 then (upd f.1 x (i_mx (f.1 x) (f.1 y + nI 1)), upd f.2 y (i_mn (f.2 y) (f.2 x - nI 1)))
  else
    (upd (upd f.1 x (if f.1 y = f.2 y then f.1 x + (if f.1 x = f.1 y then nI 1 else nI 0) else f.1 x)) y (if f.1 x = f.2 x then f.1 y + (if f.1 y = f.1 x then nI 1 else nI 0) else f.1 y),
     upd (upd f.2 x (if f.1 y = f.2 y then f.2 x - (if f.2 x = f.1 y then nI 1 else nI 0) else f.2 x)) y (if f.1 x = f.2 x then f.2 y - (if f.2 y = f.1 x then nI 1 else nI 0) else f.2 y))
theorem refine_0 {M : wM} {x y : Nat} : kp M (F_X9_refine_r0 M x y) m67 ∧ (F_X9_refine_r0 M x y 16, F_X9_refine_r0 M x y 17) = rfr 0 x y (M 16, M 17) := by
  refine ⟨kp_trans (kp_U (Or.inr rfl)) (kp_U (Or.inl rfl)), ?_⟩
  unfold F_X9_refine_r0
  rw [wU_self, wU_ne (by decide), wU_ne (by decide), wU_self]; rfl
theorem refine_1 {M : wM} {x y : Nat} : kp M (F_X9_refine_r1 M x y) m67 ∧ (F_X9_refine_r1 M x y 16, F_X9_refine_r1 M x y 17) = rfr 1 x y (M 16, M 17) := by
  refine ⟨kp_trans (kp_U (Or.inr rfl)) (kp_U (Or.inl rfl)), ?_⟩
  unfold F_X9_refine_r1
  rw [wU_self, wU_ne (by decide), wU_ne (by decide), wU_self]; rfl
theorem refine_2 {M : wM} {x y : Nat} : kp M (F_X9_refine_r2 M x y) m67 ∧ (F_X9_refine_r2 M x y 16, F_X9_refine_r2 M x y 17) = rfr 2 x y (M 16, M 17) := by
  refine ⟨kp_trans (kp_trans (kp_trans (kp_U (Or.inr rfl)) (kp_U (Or.inl rfl))) (kp_U (Or.inl rfl))) (kp_U (Or.inr rfl)), ?_⟩
  unfold F_X9_refine_r2
  rw [wU_ne (by decide), wU_self, wU_self, wU_ne (by decide), wU_self, wU_ne (by decide), wU_ne (by decide), wU_self]; rfl
theorem refine_4 {M : wM} {x y : Nat} : kp M (F_X9_refine_r4 M x y) m67 ∧ (F_X9_refine_r4 M x y 16, F_X9_refine_r4 M x y 17) = rfr 4 x y (M 16, M 17) := by
  refine ⟨kp_trans (kp_U (Or.inl rfl)) (kp_U (Or.inr rfl)), ?_⟩
  unfold F_X9_refine_r4
  rw [wU_ne (by decide), wU_self, wU_self, wU_ne (by decide)]; rfl
theorem refine_5 {M : wM} {x y : Nat} : kp M (F_X9_refine_r5 M x y) m67 ∧ (F_X9_refine_r5 M x y 16, F_X9_refine_r5 M x y 17) = rfr 5 x y (M 16, M 17) := by
  refine ⟨kp_trans (kp_U (Or.inl rfl)) (kp_U (Or.inr rfl)), ?_⟩
  unfold F_X9_refine_r5
  rw [wU_ne (by decide), wU_self, wU_self, wU_ne (by decide)]; rfl
theorem rr_rfr {r x y : Nat} {f : aP} (hx : x < 6) (hy : y < 6) : rr (rfr r x y f) = rfr r x y (rr f) := by
  unfold rfr
  by_cases h0 : r = 0
  · rw [if_pos h0, if_pos h0]; unfold rr; rw [r6_upd hy, r6_upd hx]; simp only [r6_lt hx, r6_lt hy]
  · rw [if_neg h0, if_neg h0]
    by_cases h1 : r = 1
    · rw [if_pos h1, if_pos h1]; unfold rr; rw [r6_upd hy, r6_upd hx]; simp only [r6_lt hx, r6_lt hy]
    · rw [if_neg h1, if_neg h1]
      by_cases h2 : r = 2
      · rw [if_pos h2, if_pos h2]; unfold rr; rw [r6_upd hx, r6_upd hy, r6_upd hy, r6_upd hx]; simp only [r6_lt hx, r6_lt hy]
      · rw [if_neg h2, if_neg h2]
        by_cases h4 : r = 4
        · rw [if_pos h4, if_pos h4]; unfold rr; rw [r6_upd hx, r6_upd hy]; simp only [r6_lt hx, r6_lt hy]
        · rw [if_neg h4, if_neg h4]
          by_cases h5 : r = 5
          · rw [if_pos h5, if_pos h5]; unfold rr; rw [r6_upd hx, r6_upd hy]; simp only [r6_lt hx, r6_lt hy]
          · rw [if_neg h5, if_neg h5]; unfold rr; rw [r6_upd hy, r6_upd hx, r6_upd hy, r6_upd hx]; simp only [r6_lt hx, r6_lt hy]
