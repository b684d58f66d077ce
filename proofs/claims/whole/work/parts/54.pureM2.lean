/-! ===== the reference's edges, pure ===== -/
def r3x (x y : Nat) (f : aP) : aP := if f.1 y = f.2 y then (upd f.1 x (f.1 x + (if f.1 x = f.1 y then nI 1 else nI 0)), upd f.2 x (f.2 x - (if f.2 x = f.1 y then nI 1 else nI 0))) else f
def r3y (x y : Nat) (f g : aP) : aP := if f.1 x = f.2 x then (upd g.1 y (f.1 y + (if f.1 y = f.1 x then nI 1 else nI 0)), upd g.2 y (f.2 y - (if f.2 y = f.1 x then nI 1 else nI 0))) else g
/-- refinement of two rows by a relation of 0 to 5 -/
def rfr (r : Nat) (x y : Nat) (f : aP) : aP :=
  if r = 0 then (upd f.1 y (i_mx (f.1 y) (f.1 x + nI 1)), upd f.2 x (i_mn (f.2 x) (f.2 y - nI 1)))
  else if r = 1 then (upd f.1 y (i_mx (f.1 y) (f.1 x)), upd f.2 x (i_mn (f.2 x) (f.2 y)))
  else if r = 2 then (upd (upd f.1 y (i_mx (f.1 y) (f.1 x))) x (i_mx (f.1 x) (f.1 y)), upd (upd f.2 x (i_mn (f.2 x) (f.2 y))) y (i_mn (f.2 y) (f.2 x)))
  else if r = 4 then (upd f.1 x (i_mx (f.1 x) (f.1 y)), upd f.2 y (i_mn (f.2 y) (f.2 x)))
  else if r = 5 then (upd f.1 x (i_mx (f.1 x) (f.1 y + nI 1)), upd f.2 y (i_mn (f.2 y) (f.2 x - nI 1)))
  else r3y x y f (r3x x y f)
theorem refine_0 {M : wM} {x y : Nat} : kp M (F_X9_refine_r0 M x y) m67 ∧ (F_X9_refine_r0 M x y 16, F_X9_refine_r0 M x y 17) = rfr 0 x y (M 16, M 17) := by
  refine ⟨kp_trans (kp_U (Or.inr rfl)) (kp_U (Or.inl rfl)), ?_⟩
  unfold F_X9_refine_r0
  rw [wU_self, wU_ne (by decide), wU_ne (by decide), wU_self]; rfl
theorem refine_1 {M : wM} {x y : Nat} : kp M (F_X9_refine_r1 M x y) m67 ∧ (F_X9_refine_r1 M x y 16, F_X9_refine_r1 M x y 17) = rfr 1 x y (M 16, M 17) := by
  refine ⟨kp_trans (kp_U (Or.inr rfl)) (kp_U (Or.inl rfl)), ?_⟩
  unfold F_X9_refine_r1
  rw [wU_self, wU_ne (by decide), wU_ne (by decide), wU_self]; rfl
theorem refine_2 {M : wM} {x y : Nat} : kp M (F_X9_refine_r2 M x y) m67 ∧ (F_X9_refine_r2 M x y 16, F_X9_refine_r2 M x y 17) = rfr 2 x y (M 16, M 17) := by
  refine ⟨kp_trans (kp_trans (kp_trans (kp_U (Or.inr rfl)) (kp_U (Or.inl rfl))) (kp_U (Or.inl rfl))) (kp_U (Or.inr rfl)), ?_⟩
  unfold F_X9_refine_r2
  rw [wU_ne (by decide), wU_self, wU_self, wU_ne (by decide), wU_self, wU_ne (by decide), wU_ne (by decide), wU_self]; rfl
theorem refine_4 {M : wM} {x y : Nat} : kp M (F_X9_refine_r4 M x y) m67 ∧ (F_X9_refine_r4 M x y 16, F_X9_refine_r4 M x y 17) = rfr 4 x y (M 16, M 17) := by
  refine ⟨kp_trans (kp_U (Or.inl rfl)) (kp_U (Or.inr rfl)), ?_⟩
  unfold F_X9_refine_r4
  rw [wU_ne (by decide), wU_self, wU_self, wU_ne (by decide)]; rfl
theorem refine_5 {M : wM} {x y : Nat} : kp M (F_X9_refine_r5 M x y) m67 ∧ (F_X9_refine_r5 M x y 16, F_X9_refine_r5 M x y 17) = rfr 5 x y (M 16, M 17) := by
  refine ⟨kp_trans (kp_U (Or.inl rfl)) (kp_U (Or.inr rfl)), ?_⟩
  unfold F_X9_refine_r5
  rw [wU_ne (by decide), wU_self, wU_self, wU_ne (by decide)]; rfl
theorem rr_rfr {r x y : Nat} {f : aP} (hx : x < 6) (hy : y < 6) : rr (rfr r x y f) = rfr r x y (rr f) := by
  unfold rfr
  by_cases h0 : r = 0
  · rw [if_pos h0, if_pos h0]; unfold rr; rw [r6_upd hy, r6_upd hx]; simp only [r6_lt hx, r6_lt hy]
  · rw [if_neg h0, if_neg h0]
    by_cases h1 : r = 1
    · rw [if_pos h1, if_pos h1]; unfold rr; rw [r6_upd hy, r6_upd hx]; simp only [r6_lt hx, r6_lt hy]
    · rw [if_neg h1, if_neg h1]
      by_cases h2 : r = 2
      · rw [if_pos h2, if_pos h2]; unfold rr; rw [r6_upd hx, r6_upd hy, r6_upd hy, r6_upd hx]; simp only [r6_lt hx, r6_lt hy]
      · rw [if_neg h2, if_neg h2]
        by_cases h4 : r = 4
        · rw [if_pos h4, if_pos h4]; unfold rr; rw [r6_upd hx, r6_upd hy]; simp only [r6_lt hx, r6_lt hy]
        · rw [if_neg h4, if_neg h4]
          by_cases h5 : r = 5
          · rw [if_pos h5, if_pos h5]; unfold rr; rw [r6_upd hx, r6_upd hy]; simp only [r6_lt hx, r6_lt hy]
          · rw [if_neg h5, if_neg h5]
            unfold r3y r3x rr
            simp only [r6_lt hx, r6_lt hy]
            by_cases c4 : f.1 x = f.2 x
            · simp only [if_pos c4]
              by_cases c1 : f.1 y = f.2 y
              · simp only [if_pos c1]; rw [r6_upd hy, r6_upd hx, r6_upd hy, r6_upd hx]
              · simp only [if_neg c1]; rw [r6_upd hy, r6_upd hy]
            · simp only [if_neg c4]
              by_cases c1 : f.1 y = f.2 y
              · simp only [if_pos c1]; rw [r6_upd hx, r6_upd hx]
              · simp only [if_neg c1]
theorem refine_3 {M : wM} {x y : Nat} (hxy : ¬ y = x) : kp M (F_X9_refine_r3 M x y) m67 ∧ (F_X9_refine_r3 M x y 16, F_X9_refine_r3 M x y 17) = rfr 3 x y (M 16, M 17) := by
  show _ ∧ _ = r3y x y (M 16, M 17) (r3x x y (M 16, M 17))
  unfold F_X9_refine_r3 r3y r3x
  by_cases c1 : M 16 y = M 17 y
  · by_cases c2 : M 16 x = M 16 y
    · by_cases c3 : M 17 x = M 16 y
      · by_cases c4 : M 16 x = M 17 x
        · by_cases c5 : M 16 y = M 16 x
          · by_cases c6 : M 17 y = M 16 x
            · simp only [if_pos c1, if_pos c2, if_pos c3, if_pos c4, if_pos c5, if_pos c6]
              exact ⟨(kp_trans (kp_trans (kp_trans (kp_U (Or.inl rfl)) (kp_U (Or.inr rfl))) (kp_U (Or.inl rfl))) (kp_U (Or.inr rfl))), by simp only [wU_self, wU_ne (show (16 : Nat) ≠ 17 by decide), wU_ne (show (17 : Nat) ≠ 16 by decide), upd_at, if_neg hxy]⟩
            · simp only [if_pos c1, if_pos c2, if_pos c3, if_pos c4, if_pos c5, if_neg c6]
              exact ⟨(kp_trans (kp_trans (kp_trans (kp_U (Or.inl rfl)) (kp_U (Or.inr rfl))) (kp_U (Or.inl rfl))) (kp_U (Or.inr rfl))), by simp only [wU_self, wU_ne (show (16 : Nat) ≠ 17 by decide), wU_ne (show (17 : Nat) ≠ 16 by decide), upd_at, if_neg hxy]⟩
          · by_cases c6 : M 17 y = M 16 x
            · simp only [if_pos c1, if_pos c2, if_pos c3, if_pos c4, if_neg c5, if_pos c6]
              exact ⟨(kp_trans (kp_trans (kp_trans (kp_U (Or.inl rfl)) (kp_U (Or.inr rfl))) (kp_U (Or.inl rfl))) (kp_U (Or.inr rfl))), by simp only [wU_self, wU_ne (show (16 : Nat) ≠ 17 by decide), wU_ne (show (17 : Nat) ≠ 16 by decide), upd_at, if_neg hxy]⟩
            · simp only [if_pos c1, if_pos c2, if_pos c3, if_pos c4, if_neg c5, if_neg c6]
              exact ⟨(kp_trans (kp_trans (kp_trans (kp_U (Or.inl rfl)) (kp_U (Or.inr rfl))) (kp_U (Or.inl rfl))) (kp_U (Or.inr rfl))), by simp only [wU_self, wU_ne (show (16 : Nat) ≠ 17 by decide), wU_ne (show (17 : Nat) ≠ 16 by decide), upd_at, if_neg hxy]⟩
        · simp only [if_pos c1, if_pos c2, if_pos c3, if_neg c4]
          exact ⟨(kp_trans (kp_U (Or.inl rfl)) (kp_U (Or.inr rfl))), by simp only [wU_self, wU_ne (show (16 : Nat) ≠ 17 by decide), wU_ne (show (17 : Nat) ≠ 16 by decide), upd_at, if_neg hxy]⟩
      · by_cases c4 : M 16 x = M 17 x
        · by_cases c5 : M 16 y = M 16 x
          · by_cases c6 : M 17 y = M 16 x
            · simp only [if_pos c1, if_pos c2, if_neg c3, if_pos c4, if_pos c5, if_pos c6]
              exact ⟨(kp_trans (kp_trans (kp_trans (kp_U (Or.inl rfl)) (kp_U (Or.inr rfl))) (kp_U (Or.inl rfl))) (kp_U (Or.inr rfl))), by simp only [wU_self, wU_ne (show (16 : Nat) ≠ 17 by decide), wU_ne (show (17 : Nat) ≠ 16 by decide), upd_at, if_neg hxy]⟩
            · simp only [if_pos c1, if_pos c2, if_neg c3, if_pos c4, if_pos c5, if_neg c6]
              exact ⟨(kp_trans (kp_trans (kp_trans (kp_U (Or.inl rfl)) (kp_U (Or.inr rfl))) (kp_U (Or.inl rfl))) (kp_U (Or.inr rfl))), by simp only [wU_self, wU_ne (show (16 : Nat) ≠ 17 by decide), wU_ne (show (17 : Nat) ≠ 16 by decide), upd_at, if_neg hxy]⟩
          · by_cases c6 : M 17 y = M 16 x
            · simp only [if_pos c1, if_pos c2, if_neg c3, if_pos c4, if_neg c5, if_pos c6]
              exact ⟨(kp_trans (kp_trans (kp_trans (kp_U (Or.inl rfl)) (kp_U (Or.inr rfl))) (kp_U (Or.inl rfl))) (kp_U (Or.inr rfl))), by simp only [wU_self, wU_ne (show (16 : Nat) ≠ 17 by decide), wU_ne (show (17 : Nat) ≠ 16 by decide), upd_at, if_neg hxy]⟩
            · simp only [if_pos c1, if_pos c2, if_neg c3, if_pos c4, if_neg c5, if_neg c6]
              exact ⟨(kp_trans (kp_trans (kp_trans (kp_U (Or.inl rfl)) (kp_U (Or.inr rfl))) (kp_U (Or.inl rfl))) (kp_U (Or.inr rfl))), by simp only [wU_self, wU_ne (show (16 : Nat) ≠ 17 by decide), wU_ne (show (17 : Nat) ≠ 16 by decide), upd_at, if_neg hxy]⟩
        · simp only [if_pos c1, if_pos c2, if_neg c3, if_neg c4]
          exact ⟨(kp_trans (kp_U (Or.inl rfl)) (kp_U (Or.inr rfl))), by simp only [wU_self, wU_ne (show (16 : Nat) ≠ 17 by decide), wU_ne (show (17 : Nat) ≠ 16 by decide), upd_at, if_neg hxy]⟩
    · by_cases c3 : M 17 x = M 16 y
      · by_cases c4 : M 16 x = M 17 x
        · by_cases c5 : M 16 y = M 16 x
          · by_cases c6 : M 17 y = M 16 x
            · simp only [if_pos c1, if_neg c2, if_pos c3, if_pos c4, if_pos c5, if_pos c6]
              exact ⟨(kp_trans (kp_trans (kp_trans (kp_U (Or.inl rfl)) (kp_U (Or.inr rfl))) (kp_U (Or.inl rfl))) (kp_U (Or.inr rfl))), by simp only [wU_self, wU_ne (show (16 : Nat) ≠ 17 by decide), wU_ne (show (17 : Nat) ≠ 16 by decide), upd_at, if_neg hxy]⟩
            · simp only [if_pos c1, if_neg c2, if_pos c3, if_pos c4, if_pos c5, if_neg c6]
              exact ⟨(kp_trans (kp_trans (kp_trans (kp_U (Or.inl rfl)) (kp_U (Or.inr rfl))) (kp_U (Or.inl rfl))) (kp_U (Or.inr rfl))), by simp only [wU_self, wU_ne (show (16 : Nat) ≠ 17 by decide), wU_ne (show (17 : Nat) ≠ 16 by decide), upd_at, if_neg hxy]⟩
          · by_cases c6 : M 17 y = M 16 x
            · simp only [if_pos c1, if_neg c2, if_pos c3, if_pos c4, if_neg c5, if_pos c6]
              exact ⟨(kp_trans (kp_trans (kp_trans (kp_U (Or.inl rfl)) (kp_U (Or.inr rfl))) (kp_U (Or.inl rfl))) (kp_U (Or.inr rfl))), by simp only [wU_self, wU_ne (show (16 : Nat) ≠ 17 by decide), wU_ne (show (17 : Nat) ≠ 16 by decide), upd_at, if_neg hxy]⟩
            · simp only [if_pos c1, if_neg c2, if_pos c3, if_pos c4, if_neg c5, if_neg c6]
              exact ⟨(kp_trans (kp_trans (kp_trans (kp_U (Or.inl rfl)) (kp_U (Or.inr rfl))) (kp_U (Or.inl rfl))) (kp_U (Or.inr rfl))), by simp only [wU_self, wU_ne (show (16 : Nat) ≠ 17 by decide), wU_ne (show (17 : Nat) ≠ 16 by decide), upd_at, if_neg hxy]⟩
        · simp only [if_pos c1, if_neg c2, if_pos c3, if_neg c4]
          exact ⟨(kp_trans (kp_U (Or.inl rfl)) (kp_U (Or.inr rfl))), by simp only [wU_self, wU_ne (show (16 : Nat) ≠ 17 by decide), wU_ne (show (17 : Nat) ≠ 16 by decide), upd_at, if_neg hxy]⟩
      · by_cases c4 : M 16 x = M 17 x
        · by_cases c5 : M 16 y = M 16 x
          · by_cases c6 : M 17 y = M 16 x
            · simp only [if_pos c1, if_neg c2, if_neg c3, if_pos c4, if_pos c5, if_pos c6]
              exact ⟨(kp_trans (kp_trans (kp_trans (kp_U (Or.inl rfl)) (kp_U (Or.inr rfl))) (kp_U (Or.inl rfl))) (kp_U (Or.inr rfl))), by simp only [wU_self, wU_ne (show (16 : Nat) ≠ 17 by decide), wU_ne (show (17 : Nat) ≠ 16 by decide), upd_at, if_neg hxy]⟩
            · simp only [if_pos c1, if_neg c2, if_neg c3, if_pos c4, if_pos c5, if_neg c6]
              exact ⟨(kp_trans (kp_trans (kp_trans (kp_U (Or.inl rfl)) (kp_U (Or.inr rfl))) (kp_U (Or.inl rfl))) (kp_U (Or.inr rfl))), by simp only [wU_self, wU_ne (show (16 : Nat) ≠ 17 by decide), wU_ne (show (17 : Nat) ≠ 16 by decide), upd_at, if_neg hxy]⟩
          · by_cases c6 : M 17 y = M 16 x
            · simp only [if_pos c1, if_neg c2, if_neg c3, if_pos c4, if_neg c5, if_pos c6]
              exact ⟨(kp_trans (kp_trans (kp_trans (kp_U (Or.inl rfl)) (kp_U (Or.inr rfl))) (kp_U (Or.inl rfl))) (kp_U (Or.inr rfl))), by simp only [wU_self, wU_ne (show (16 : Nat) ≠ 17 by decide), wU_ne (show (17 : Nat) ≠ 16 by decide), upd_at, if_neg hxy]⟩
            · simp only [if_pos c1, if_neg c2, if_neg c3, if_pos c4, if_neg c5, if_neg c6]
              exact ⟨(kp_trans (kp_trans (kp_trans (kp_U (Or.inl rfl)) (kp_U (Or.inr rfl))) (kp_U (Or.inl rfl))) (kp_U (Or.inr rfl))), by simp only [wU_self, wU_ne (show (16 : Nat) ≠ 17 by decide), wU_ne (show (17 : Nat) ≠ 16 by decide), upd_at, if_neg hxy]⟩
        · simp only [if_pos c1, if_neg c2, if_neg c3, if_neg c4]
          exact ⟨(kp_trans (kp_U (Or.inl rfl)) (kp_U (Or.inr rfl))), by simp only [wU_self, wU_ne (show (16 : Nat) ≠ 17 by decide), wU_ne (show (17 : Nat) ≠ 16 by decide), upd_at, if_neg hxy]⟩
  · by_cases c4 : M 16 x = M 17 x
    · by_cases c5 : M 16 y = M 16 x
      · by_cases c6 : M 17 y = M 16 x
        · simp only [if_neg c1, if_pos c4, if_pos c5, if_pos c6]
          exact ⟨(kp_trans (kp_U (Or.inl rfl)) (kp_U (Or.inr rfl))), by simp only [wU_self, wU_ne (show (16 : Nat) ≠ 17 by decide), wU_ne (show (17 : Nat) ≠ 16 by decide), upd_at, if_neg hxy]⟩
        · simp only [if_neg c1, if_pos c4, if_pos c5, if_neg c6]
          exact ⟨(kp_trans (kp_U (Or.inl rfl)) (kp_U (Or.inr rfl))), by simp only [wU_self, wU_ne (show (16 : Nat) ≠ 17 by decide), wU_ne (show (17 : Nat) ≠ 16 by decide), upd_at, if_neg hxy]⟩
      · by_cases c6 : M 17 y = M 16 x
        · simp only [if_neg c1, if_pos c4, if_neg c5, if_pos c6]
          exact ⟨(kp_trans (kp_U (Or.inl rfl)) (kp_U (Or.inr rfl))), by simp only [wU_self, wU_ne (show (16 : Nat) ≠ 17 by decide), wU_ne (show (17 : Nat) ≠ 16 by decide), upd_at, if_neg hxy]⟩
        · simp only [if_neg c1, if_pos c4, if_neg c5, if_neg c6]
          exact ⟨(kp_trans (kp_U (Or.inl rfl)) (kp_U (Or.inr rfl))), by simp only [wU_self, wU_ne (show (16 : Nat) ≠ 17 by decide), wU_ne (show (17 : Nat) ≠ 16 by decide), upd_at, if_neg hxy]⟩
    · simp only [if_neg c1, if_neg c4]
      exact ⟨(kp_refl _ _), trivial⟩
def relN (r e : Nat) : Nat := if e = 0 then r else if r = 0 then 4 else if r = 1 then 5 else if r = 2 then 3 else 2
def rfm (r x y : Nat) (f : aP) : aS := if x = y then (if r = 1 ∨ r = 2 ∨ r = 4 then some f else none) else if ¬ (rfr r x y f).2 x < (rfr r x y f).1 x ∧ ¬ (rfr r x y f).2 y < (rfr r x y f).1 y then some (rfr r x y f) else none
def edm (M : wM) (b e : Nat) (f : aP) : aS := if tn (M 3 b) < 2 then some f else rfm (relN (tn (M 8 b)) e) (tn (M 6 b)) (tn (M 7 b)) f
def rcm (M : wM) (b e : Nat) : aS := if M 12 b = 0 then none else edm M b e (apF M b)
def pRc (M : wM) (J : wJ) (b e : Nat) (r : Int32) (u : wM × wJ) : Prop := u.2 = J ∧ kp M u.1 m67 ∧ bz r ∧ ((r = nI 0 ∧ rcm M b e = none) ∨ (r = nI 1 ∧ rcm M b e = some (rr (u.1 16, u.1 17))))
theorem pRc_1 {M : wM} {J : wJ} {b e : Nat} (h : M 12 b = 0) : pRc M J b e (nI 0) (M, J) := ⟨rfl, kp_refl _ _, Or.inl rfl, Or.inl ⟨rfl, by unfold rcm; rw [if_pos h]⟩⟩
theorem pRc_2 {M M1 : wM} {J : wJ} {b e : Nat} (h : ¬ M 12 b = 0) (hL : pLv M J b (M1, J)) (he : tn (M 3 b) < 2) : pRc M J b e (nI 1) (M1, J) := by
  refine ⟨rfl, hL.2.1, Or.inr rfl, Or.inr ⟨rfl, ?_⟩⟩
  unfold rcm edm
  rw [if_neg h, if_pos he, ← hL.2.2]
theorem pRc_3 {M M1 : wM} {J : wJ} {b e q : Nat} (h : ¬ M 12 b = 0) (hL : pLv M J b (M1, J)) (he : ¬ tn (M 3 b) < 2) (hr : relN (tn (M 8 b)) e = q) (hxy : tn (M 6 b) = tn (M 7 b)) (hq : q = 1 ∨ q = 2 ∨ q = 4) : pRc M J b e (nI 1) (M1, J) := by
  refine ⟨rfl, hL.2.1, Or.inr rfl, Or.inr ⟨rfl, ?_⟩⟩
  unfold rcm edm rfm
  rw [if_neg h, if_neg he, if_pos hxy, hr, if_pos hq, ← hL.2.2]
theorem pRc_4 {M M1 : wM} {J : wJ} {b e q : Nat} (h : ¬ M 12 b = 0) (hL : pLv M J b (M1, J)) (he : ¬ tn (M 3 b) < 2) (hr : relN (tn (M 8 b)) e = q) (hxy : tn (M 6 b) = tn (M 7 b)) (hq : ¬ (q = 1 ∨ q = 2 ∨ q = 4)) : pRc M J b e (nI 0) (M1, J) := by
  refine ⟨rfl, hL.2.1, Or.inl rfl, Or.inl ⟨rfl, ?_⟩⟩
  unfold rcm edm rfm
  rw [if_neg h, if_neg he, if_pos hxy, hr, if_neg hq]
theorem rfr_row {M1 M2 : wM} {q x y : Nat} (hx : x < 6) (hy : y < 6) (h : (M2 16, M2 17) = rfr q x y (M1 16, M1 17)) : rfr q x y (rr (M1 16, M1 17)) = rr (M2 16, M2 17) := by rw [h, rr_rfr hx hy]
theorem pRc_5 {M M1 M2 : wM} {J : wJ} {b e q : Nat} (h : ¬ M 12 b = 0) (hL : pLv M J b (M1, J)) (he : ¬ tn (M 3 b) < 2) (hr : relN (tn (M 8 b)) e = q) (hxy : ¬ tn (M 6 b) = tn (M 7 b)) (hx : tn (M 6 b) < 6) (hy : tn (M 7 b) < 6) (hF : kp M1 M2 m67 ∧ (M2 16, M2 17) = rfr q (tn (M 6 b)) (tn (M 7 b)) (M1 16, M1 17)) (c1 : ¬ M2 17 (tn (M 6 b)) < M2 16 (tn (M 6 b))) (c2 : ¬ M2 17 (tn (M 7 b)) < M2 16 (tn (M 7 b))) : pRc M J b e (nI 1) (M2, J) := by
  refine ⟨rfl, kp_trans hL.2.1 hF.1, Or.inr rfl, Or.inr ⟨rfl, ?_⟩⟩
  unfold rcm edm rfm
  rw [if_neg h, if_neg he, if_neg hxy, hr, ← hL.2.2, rfr_row hx hy hF.2, if_pos]
  refine ⟨?_, ?_⟩
  · show ¬ r6 (M2 17) _ < r6 (M2 16) _
    rw [r6_lt hx, r6_lt hx]; exact c1
  · show ¬ r6 (M2 17) _ < r6 (M2 16) _
    rw [r6_lt hy, r6_lt hy]; exact c2
theorem pRc_6 {M M1 M2 : wM} {J : wJ} {b e q : Nat} (h : ¬ M 12 b = 0) (hL : pLv M J b (M1, J)) (he : ¬ tn (M 3 b) < 2) (hr : relN (tn (M 8 b)) e = q) (hxy : ¬ tn (M 6 b) = tn (M 7 b)) (hx : tn (M 6 b) < 6) (hy : tn (M 7 b) < 6) (hF : kp M1 M2 m67 ∧ (M2 16, M2 17) = rfr q (tn (M 6 b)) (tn (M 7 b)) (M1 16, M1 17)) (c : M2 17 (tn (M 6 b)) < M2 16 (tn (M 6 b)) ∨ M2 17 (tn (M 7 b)) < M2 16 (tn (M 7 b))) : pRc M J b e (nI 0) (M2, J) := by
  refine ⟨rfl, kp_trans hL.2.1 hF.1, Or.inl rfl, Or.inl ⟨rfl, ?_⟩⟩
  unfold rcm edm rfm
  rw [if_neg h, if_neg he, if_neg hxy, hr, ← hL.2.2, rfr_row hx hy hF.2, if_neg]
  rintro ⟨d1, d2⟩
  have d1 : ¬ r6 (M2 17) (tn (M 6 b)) < r6 (M2 16) (tn (M 6 b)) := d1
  have d2 : ¬ r6 (M2 17) (tn (M 7 b)) < r6 (M2 16) (tn (M 7 b)) := d2
  rw [r6_lt hx, r6_lt hx] at d1
  rw [r6_lt hy, r6_lt hy] at d2
  rcases c with c | c
  · exact d1 c
  · exact d2 c
