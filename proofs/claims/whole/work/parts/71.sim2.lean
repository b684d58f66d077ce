/-! ===== edges on both sides; smaller ranges go to smaller ones: pure ===== -/
theorem if_some {c d : Prop} [Decidable c] [Decidable d] {A B : aP} (h : c ↔ d) (e : A = B) : (if c then some A else none) = (if d then some B else none) := by
  by_cases q : c
  · rw [if_pos q, if_pos (h.mp q), e]
  · rw [if_neg q, if_neg (fun z => q (h.mpr z))]
theorem upd_s (f : Nat → Int32) (x : Nat) (a : Int32) : upd f x a x = a := by rw [upd_at, if_pos rfl]
theorem upd_o {f : Nat → Int32} {x v : Nat} {a : Int32} (h : v ≠ x) : upd f x a v = f v := by rw [upd_at, if_neg h]
theorem upd_sw (f : Nat → Int32) {i j : Nat} (h : i ≠ j) (x y : Int32) : upd (upd f i x) j y = upd (upd f j y) i x := by
  funext k
  simp only [upd_at]
  by_cases q1 : k = j
  · by_cases q2 : k = i
    · omega
    · simp [q1, q2]; intro z; omega
  · by_cases q2 : k = i
    · simp [q1, q2]; intro z; omega
    · simp [q1, q2]
theorem mx_comm (a b : Int32) : i_mx a b = i_mx b a := t_ext (by simp only [t_mx]; omega)
theorem mn_comm (a b : Int32) : i_mn a b = i_mn b a := t_ext (by simp only [t_mn]; omega)
theorem ko1_eq {x y : Nat} {f : aP} (hx : x < 6) (hy : y < 6) (hxy : x ≠ y) (hf : vS f) : koA x y (nI 1) f = rfm 0 x y f := by
  have vx := hf x hx
  have vy := hf y hy
  unfold rfm koA
  rw [if_neg hxy, show rfr 0 x y f = (upd f.1 y (i_mx (f.1 y) (f.1 x + nI 1)), upd f.2 x (i_mn (f.2 x) (f.2 y - nI 1))) from if_pos rfl]
  refine if_some ?_ rfl
  simp only [upd_s, upd_o hxy, upd_o (Ne.symm hxy), t_lt, t_le, t_mn, t_mx]
  rw [t_add1 (by omega), t_sub1 (by omega)]
  omega
theorem ko0_eq {x y : Nat} {f : aP} (hx : x < 6) (hy : y < 6) (hxy : x ≠ y) (hf : vS f) : koA x y (nI 0) f = rfm 1 x y f := by
  have vx := hf x hx
  have vy := hf y hy
  unfold rfm koA
  rw [if_neg hxy, show rfr 1 x y f = (upd f.1 y (i_mx (f.1 y) (f.1 x)), upd f.2 x (i_mn (f.2 x) (f.2 y))) from by unfold rfr; rw [if_neg (by decide), if_pos rfl], Int32_add0, t_sub0]
  refine if_some ?_ rfl
  simp only [upd_s, upd_o hxy, upd_o (Ne.symm hxy), t_lt, t_le, t_mn, t_mx]
  omega
theorem ko0'_eq {x y : Nat} {f : aP} (hx : x < 6) (hy : y < 6) (hxy : x ≠ y) (hf : vS f) : koA y x (nI 0) f = rfm 4 x y f := by
  have vx := hf x hx
  have vy := hf y hy
  unfold rfm koA
  rw [if_neg hxy, show rfr 4 x y f = (upd f.1 x (i_mx (f.1 x) (f.1 y)), upd f.2 y (i_mn (f.2 y) (f.2 x))) from by unfold rfr; rw [if_neg (by decide), if_neg (by decide), if_neg (by decide), if_pos rfl], Int32_add0, t_sub0]
  refine if_some ?_ rfl
  simp only [upd_s, upd_o hxy, upd_o (Ne.symm hxy), t_lt, t_le, t_mn, t_mx]
  omega
theorem ko1'_eq {x y : Nat} {f : aP} (hx : x < 6) (hy : y < 6) (hxy : x ≠ y) (hf : vS f) : koA y x (nI 1) f = rfm 5 x y f := by
  have vx := hf x hx
  have vy := hf y hy
  unfold rfm koA
  rw [if_neg hxy, show rfr 5 x y f = (upd f.1 x (i_mx (f.1 x) (f.1 y + nI 1)), upd f.2 y (i_mn (f.2 y) (f.2 x - nI 1))) from by unfold rfr; rw [if_neg (by decide), if_neg (by decide), if_neg (by decide), if_neg (by decide), if_pos rfl]]
  refine if_some ?_ rfl
  simp only [upd_s, upd_o hxy, upd_o (Ne.symm hxy), t_lt, t_le, t_mn, t_mx]
  rw [t_add1 (by omega), t_sub1 (by omega)]
  omega
theorem rfr_2 {x y : Nat} {f : aP} : rfr 2 x y f = (upd (upd f.1 y (i_mx (f.1 y) (f.1 x))) x (i_mx (f.1 x) (f.1 y)), upd (upd f.2 x (i_mn (f.2 x) (f.2 y))) y (i_mn (f.2 y) (f.2 x))) := by unfold rfr; rw [if_neg (by decide), if_neg (by decide), if_pos rfl]
theorem ke_eq {x y : Nat} {f : aP} (hx : x < 6) (hy : y < 6) (hxy : x ≠ y) (hf : vS f) : keA x y f = rfm 2 x y f := by
  have vx := hf x hx
  have vy := hf y hy
  unfold rfm keA
  rw [if_neg hxy, rfr_2]
  refine if_some ?_ ?_
  · simp only [upd_s, upd_o hxy, upd_o (Ne.symm hxy), t_lt, t_le, t_mn, t_mx]
    omega
  · rw [mx_comm (f.1 y) (f.1 x), mn_comm (f.2 y) (f.2 x), upd_sw f.1 hxy]
theorem ke'_eq {x y : Nat} {f : aP} (hx : x < 6) (hy : y < 6) (hxy : x ≠ y) (hf : vS f) : keA y x f = rfm 2 x y f := by
  have vx := hf x hx
  have vy := hf y hy
  unfold rfm keA
  rw [if_neg hxy, rfr_2]
  refine if_some ?_ ?_
  · simp only [upd_s, upd_o hxy, upd_o (Ne.symm hxy), t_lt, t_le, t_mn, t_mx]
    omega
  · rw [mx_comm (f.1 y) (f.1 x), mn_comm (f.2 y) (f.2 x), upd_sw f.2 hxy]
theorem rfr_3 {x y : Nat} {f : aP} : rfr 3 x y f = r3y x y f (r3x x y f) := by unfold rfr; rw [if_neg (by decide), if_neg (by decide), if_neg (by decide), if_neg (by decide), if_neg (by decide)]
theorem ku_sw {x y : Nat} {f : aP} : kuA y x f = kuA x y f := by
  unfold kuA
  by_cases cx : f.1 x = f.2 x
  · by_cases cy : f.1 y = f.2 y
    · rw [if_pos cx, if_pos cy, if_pos cx, if_pos cy]
      by_cases q : f.1 x = f.1 y
      · rw [if_pos q, if_pos q.symm]
      · rw [if_neg q, if_neg (fun z => q z.symm)]
    · simp only [if_pos cx, if_neg cy]
  · by_cases cy : f.1 y = f.2 y
    · simp only [if_neg cx, if_pos cy]
    · simp only [if_neg cx, if_neg cy]
theorem lt_of_ne {a b : Int32} (h : a.toInt ≤ b.toInt) (q : ¬ a = b) : a.toInt < b.toInt := by
  have : ¬ a.toInt = b.toInt := fun z => q (t_ext z)
  omega
theorem ku_eq {x y : Nat} {f : aP} (hx : x < 6) (hy : y < 6) (hxy : x ≠ y) (hf : vS f) : kuA x y f = rfm 3 x y f := by
  have vx := hf x hx
  have vy := hf y hy
  unfold rfm
  rw [if_neg hxy, rfr_3]
  unfold kuA r3y r3x
  by_cases cx : f.1 x = f.2 x
  · by_cases cy : f.1 y = f.2 y
    · rw [if_pos cx, if_pos cy, if_pos cx, if_pos cy]
      by_cases t : f.1 x = f.1 y
      · rw [if_pos t, if_neg]
        rintro ⟨z, -⟩
        apply z
        simp only [upd_s, upd_o hxy]
        rw [if_pos t, if_pos (cx.symm.trans t), t_lt, t_add1 (by omega), t_sub1 (by omega), ← cx]
        omega
      · rw [if_neg t]
        have t2 : ¬ f.2 x = f.1 y := fun z => t (cx.trans z)
        have t3 : ¬ f.1 y = f.1 x := fun z => t z.symm
        have t4 : ¬ f.2 y = f.1 x := fun z => t (z.symm.trans cy.symm)
        simp only [if_neg t, if_neg t2, if_neg t3, if_neg t4, Int32_add0, t_sub0]
        rw [upd_same (f := f.1) (i := x) rfl, upd_same (f := f.2) (i := x) rfl, upd_same (f := f.1) (i := y) rfl, upd_same (f := f.2) (i := y) rfl, if_pos]
        simp only [t_lt]; omega
    · rw [if_pos cx, if_neg cy, if_pos cx, if_neg cy]
      have ly := lt_of_ne vy.2.1 cy
      unfold coA
      by_cases t : f.1 y = f.1 x
      · have t2 : ¬ f.2 y = f.1 x := fun z => cy (t.trans z.symm)
        simp only [if_pos t, if_neg t2, t_sub0]
        rw [upd_same (f := f.2) (i := y) rfl, if_pos, t]
        simp only [upd_s, upd_o hxy, t_lt]
        rw [t_add1 (by omega)]; omega
      · simp only [if_neg t, Int32_add0]
        rw [upd_same (f := f.1) (i := y) rfl]
        by_cases t2 : f.2 y = f.1 x
        · simp only [if_pos t2]
          rw [if_pos, t2]
          simp only [upd_s, upd_o hxy, t_lt]
          rw [t_sub1 (by omega)]; omega
        · simp only [if_neg t2, t_sub0]
          rw [upd_same (f := f.2) (i := y) rfl, if_pos]
          simp only [t_lt]; omega
  · rw [if_neg cx, if_neg cx]
    have lx := lt_of_ne vx.2.1 cx
    by_cases cy : f.1 y = f.2 y
    · rw [if_pos cy, if_pos cy]
      unfold coA
      by_cases t : f.1 x = f.1 y
      · have t2 : ¬ f.2 x = f.1 y := fun z => cx (t.trans z.symm)
        simp only [if_pos t, if_neg t2, t_sub0]
        rw [upd_same (f := f.2) (i := x) rfl, if_pos, t]
        simp only [upd_s, upd_o (Ne.symm hxy), t_lt]
        rw [t_add1 (by omega)]; omega
      · simp only [if_neg t, Int32_add0]
        rw [upd_same (f := f.1) (i := x) rfl]
        by_cases t2 : f.2 x = f.1 y
        · simp only [if_pos t2]
          rw [if_pos, t2]
          simp only [upd_s, upd_o (Ne.symm hxy), t_lt]
          rw [t_sub1 (by omega)]; omega
        · simp only [if_neg t2, t_sub0]
          rw [upd_same (f := f.2) (i := x) rfl, if_pos]
          simp only [t_lt]; omega
    · rw [if_neg cy, if_neg cy, if_pos]
      simp only [t_lt]; omega
/-- an edge's refinement is the same on both sides -/
theorem ed_eq {r e x y : Nat} {f : aP} (hr : r < 4) (hx : x < 6) (hy : y < 6) (hf : vS f) : (if e = 0 then rfA x (nI r) y f else rfA y (opp (nI r)) x f) = rfm (relN r e) x y f := by
  by_cases hxy : x = y
  · subst hxy
    unfold rfA rfm relN
    rcases (show r = 0 ∨ r = 1 ∨ r = 2 ∨ r = 3 by omega) with rfl | rfl | rfl | rfl <;> by_cases q : e = 0 <;> simp only [q, if_true, if_false] <;> rfl
  · have o0 : opp (nI 0) = nI 1 := by decide
    have o1 : opp (nI 1) = nI 0 := by decide
    have o2 : opp (nI 2) = nI 3 := by decide
    have o3 : opp (nI 3) = nI 2 := by decide
    have a0 : ∀ {x y : Nat}, x ≠ y → rfA x (nI 0) y f = koA x y (nI 1) f := fun h => by unfold rfA; rw [if_neg h, if_pos rfl]
    have a1 : ∀ {x y : Nat}, x ≠ y → rfA x (nI 1) y f = koA x y (nI 0) f := fun h => by unfold rfA; rw [if_neg h, if_neg (by decide), if_pos rfl]
    have a2 : ∀ {x y : Nat}, x ≠ y → rfA x (nI 2) y f = keA x y f := fun h => by unfold rfA; rw [if_neg h, if_neg (by decide), if_neg (by decide), if_pos rfl]
    have a3 : ∀ {x y : Nat}, x ≠ y → rfA x (nI 3) y f = kuA x y f := fun h => by unfold rfA; rw [if_neg h, if_neg (by decide), if_neg (by decide), if_neg (by decide)]
    have hyx : y ≠ x := Ne.symm hxy
    by_cases q : e = 0
    · rw [if_pos q, show relN r e = r from if_pos q]
      rcases (show r = 0 ∨ r = 1 ∨ r = 2 ∨ r = 3 by omega) with rfl | rfl | rfl | rfl
      · rw [a0 hxy, ko1_eq hx hy hxy hf]
      · rw [a1 hxy, ko0_eq hx hy hxy hf]
      · rw [a2 hxy, ke_eq hx hy hxy hf]
      · rw [a3 hxy, ku_eq hx hy hxy hf]
    · rw [if_neg q, show relN r e = (if r = 0 then 4 else if r = 1 then 5 else if r = 2 then 3 else 2) from if_neg q]
      rcases (show r = 0 ∨ r = 1 ∨ r = 2 ∨ r = 3 by omega) with rfl | rfl | rfl | rfl
      · rw [o0, a1 hyx, ko0'_eq hx hy hxy hf]; rfl
      · rw [o1, a0 hyx, ko1'_eq hx hy hxy hf]; rfl
      · rw [o2, a3 hyx, ku_sw, ku_eq hx hy hxy hf]; rfl
      · rw [o3, a2 hyx, ke'_eq hx hy hxy hf]; rfl
