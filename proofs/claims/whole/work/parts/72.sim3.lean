/-! ===== validity and order of states: pure ===== -/
def le2 (f g : aP) : Prop := ∀ v, v < 6 → (g.1 v).toInt ≤ (f.1 v).toInt ∧ (f.2 v).toInt ≤ (g.2 v).toInt
def leS (a b : aS) : Prop := ∀ f, a = some f → ∃ g, b = some g ∧ le2 f g
def vA (a : aS) : Prop := ∀ f, a = some f → vS f ∧ rr f = f
theorem vA_none : vA none := fun f h => by cases h
theorem vA_some {f : aP} (h : vS f) (g : rr f = f) : vA (some f) := fun _ e => by cases e; exact ⟨h, g⟩
theorem le2_refl (f : aP) : le2 f f := fun v hv => ⟨Int.le_refl _, Int.le_refl _⟩
theorem le2_trans {f g h : aP} (a : le2 f g) (b : le2 g h) : le2 f h := fun v hv => ⟨Int.le_trans (b v hv).1 (a v hv).1, Int.le_trans (a v hv).2 (b v hv).2⟩
theorem leS_refl (a : aS) : leS a a := fun f h => ⟨f, h, le2_refl f⟩
theorem leS_trans {a b c : aS} (h : leS a b) (g : leS b c) : leS a c := fun f e => by
  obtain ⟨x, ex, hx⟩ := h f e
  obtain ⟨y, ey, hy⟩ := g x ex
  exact ⟨y, ey, le2_trans hx hy⟩
theorem leS_none (a : aS) : leS none a := fun f h => by cases h
theorem leS_some {f g : aP} (h : le2 f g) : leS (some f) (some g) := fun _ e => by cases e; exact ⟨g, rfl, h⟩
theorem leS_of {f : aP} {a : aS} (h : leS (some f) a) : ∃ g, a = some g ∧ le2 f g := h f rfl
theorem rr_rr (f : aP) : rr (rr f) = rr f := by
  unfold rr
  rw [show r6 (r6 f.1) = r6 f.1 from r6_ext (fun v hv => r6_lt hv), show r6 (r6 f.2) = r6 f.2 from r6_ext (fun v hv => r6_lt hv)]
theorem vS_stS {x : Nat} {a d : Int64} {f : aP} (hf : vS f) (h : a.toInt ≤ d.toInt) : vS (stS x a d f) := fun v hv => by
  have w := hf v hv
  unfold stS
  simp only [upd_at]
  by_cases q : v = x
  · rw [if_pos q, if_pos q, t_lim, t_lim]; omega
  · rw [if_neg q, if_neg q]; exact w
theorem le_stS {x : Nat} {a d a' d' : Int64} {f g : aP} (h : le2 f g) (h1 : a'.toInt ≤ a.toInt) (h2 : d.toInt ≤ d'.toInt) : le2 (stS x a d f) (stS x a' d' g) := fun v hv => by
  have w := h v hv
  unfold stS
  simp only [upd_at]
  by_cases q : v = x
  · simp only [if_pos q, t_lim]; omega
  · simp only [if_neg q]; exact w
/-- a statement of the reference that may be there -/
def soR (k p q : Int32) : Prop := (∀ j, j ≤ 5 → k = nI j → isV p ∧ isV q) ∧ ((∀ j, j ≤ 5 → ¬ k = nI j) → -1000000000 ≤ p.toInt ∧ p.toInt ≤ q.toInt ∧ q.toInt ≤ 1000000000)
theorem stM_3 {x : Nat} {p q : Int32} {f : aP} : stM (nI 3) x p q f = stS x (l_mn (l_mn ((f.1 (tn p)).toInt64 * (f.1 (tn q)).toInt64) ((f.1 (tn p)).toInt64 * (f.2 (tn q)).toInt64)) (l_mn ((f.2 (tn p)).toInt64 * (f.1 (tn q)).toInt64) ((f.2 (tn p)).toInt64 * (f.2 (tn q)).toInt64))) (l_mx (l_mx ((f.1 (tn p)).toInt64 * (f.1 (tn q)).toInt64) ((f.1 (tn p)).toInt64 * (f.2 (tn q)).toInt64)) (l_mx ((f.2 (tn p)).toInt64 * (f.1 (tn q)).toInt64) ((f.2 (tn p)).toInt64 * (f.2 (tn q)).toInt64))) f := by unfold stM; rw [if_neg (by decide), if_neg (by decide), if_neg (by decide), if_pos rfl]
theorem stM_d {k : Int32} {x : Nat} {p q : Int32} {f : aP} (h : ∀ j, j ≤ 5 → ¬ k = nI j) : stM k x p q f = stS x p.toInt64 q.toInt64 f := by
  unfold stM
  rw [if_neg (h 0 (by omega)), if_neg (h 1 (by omega)), if_neg (h 2 (by omega)), if_neg (h 3 (by omega)), if_neg (h 4 (by omega)), if_neg (h 5 (by omega))]
theorem kind_c (k : Int32) : (∃ j, j ≤ 5 ∧ k = nI j) ∨ ∀ j, j ≤ 5 → ¬ k = nI j := by
  by_cases h : ∃ j, j ≤ 5 ∧ k = nI j
  · exact Or.inl h
  · exact Or.inr (fun j hj e => h ⟨j, hj, e⟩)
theorem vS_stM {k : Int32} {x : Nat} {p q : Int32} {f : aP} (hs : soR k p q) (hf : vS f) : vS (stM k x p q f) := by
  rcases kind_c k with ⟨j, hj, rfl⟩ | h
  · obtain ⟨hp, hq⟩ := hs.1 j hj rfl
    have vp := hf _ hp.2
    have vq := hf _ hq.2
    rcases (show j = 0 ∨ j = 1 ∨ j = 2 ∨ j = 3 ∨ j = 4 ∨ j = 5 by omega) with rfl | rfl | rfl | rfl | rfl | rfl
    · rw [stM_0]; exact vS_stS hf (by simp only [t_64]; omega)
    · rw [stM_1]; exact vS_stS hf (by simp only [u_add]; omega)
    · rw [stM_2]; exact vS_stS hf (by simp only [u_sub]; omega)
    · rw [stM_3]; exact vS_stS hf (by simp only [u_mn, u_mx]; omega)
    · rw [stM_4]; exact vS_stS hf (by simp only [t_64, t_mn]; omega)
    · rw [stM_5]; exact vS_stS hf (by simp only [t_64, t_mx]; omega)
  · have v := hs.2 h
    rw [stM_d h]; exact vS_stS hf (by simp only [t_64]; omega)
theorem mul_lo {a b y z : Int} (h1 : a ≤ y) (h2 : y ≤ b) : (a * z ≤ y * z ∨ b * z ≤ y * z) ∧ (y * z ≤ a * z ∨ y * z ≤ b * z) := by
  rcases Int.le_total 0 z with h | h
  · exact ⟨Or.inl (Int.mul_le_mul_of_nonneg_right h1 h), Or.inr (Int.mul_le_mul_of_nonneg_right h2 h)⟩
  · exact ⟨Or.inr (Int.mul_le_mul_of_nonpos_right h2 h), Or.inl (Int.mul_le_mul_of_nonpos_right h1 h)⟩
/-- a product lies between the products of the ends -/
theorem mul_box {a b c d y z : Int} (h1 : a ≤ y) (h2 : y ≤ b) (h3 : c ≤ z) (h4 : z ≤ d) : min (min (a * c) (a * d)) (min (b * c) (b * d)) ≤ y * z ∧ y * z ≤ max (max (a * c) (a * d)) (max (b * c) (b * d)) := by
  have k1 := mul_lo (z := z) h1 h2
  have k2 := mul_lo (z := a) h3 h4
  have k3 := mul_lo (z := b) h3 h4
  rw [Int.mul_comm c a, Int.mul_comm d a, Int.mul_comm z a] at k2
  rw [Int.mul_comm c b, Int.mul_comm d b, Int.mul_comm z b] at k3
  omega
theorem le_stM {k : Int32} {x : Nat} {p q : Int32} {f g : aP} (hs : soR k p q) (hf : vS f) (h : le2 f g) : le2 (stM k x p q f) (stM k x p q g) := by
  rcases kind_c k with ⟨j, hj, rfl⟩ | hk
  · obtain ⟨hp, hq⟩ := hs.1 j hj rfl
    have vp := hf _ hp.2
    have vq := hf _ hq.2
    have wp := h _ hp.2
    have wq := h _ hq.2
    rcases (show j = 0 ∨ j = 1 ∨ j = 2 ∨ j = 3 ∨ j = 4 ∨ j = 5 by omega) with rfl | rfl | rfl | rfl | rfl | rfl
    · rw [stM_0, stM_0]; exact le_stS h (by simp only [t_64]; omega) (by simp only [t_64]; omega)
    · rw [stM_1, stM_1]; exact le_stS h (by simp only [u_add]; omega) (by simp only [u_add]; omega)
    · rw [stM_2, stM_2]; exact le_stS h (by simp only [u_sub]; omega) (by simp only [u_sub]; omega)
    · rw [stM_3, stM_3]
      have b1 := mul_box (y := (f.1 (tn p)).toInt) (z := (f.1 (tn q)).toInt) wp.1 (by omega : _ ≤ (g.2 (tn p)).toInt) wq.1 (by omega : _ ≤ (g.2 (tn q)).toInt)
      have b2 := mul_box (y := (f.1 (tn p)).toInt) (z := (f.2 (tn q)).toInt) wp.1 (by omega : _ ≤ (g.2 (tn p)).toInt) (by omega : (g.1 (tn q)).toInt ≤ _) wq.2
      have b3 := mul_box (y := (f.2 (tn p)).toInt) (z := (f.1 (tn q)).toInt) (by omega : (g.1 (tn p)).toInt ≤ _) wp.2 wq.1 (by omega : _ ≤ (g.2 (tn q)).toInt)
      have b4 := mul_box (y := (f.2 (tn p)).toInt) (z := (f.2 (tn q)).toInt) (by omega : (g.1 (tn p)).toInt ≤ _) wp.2 (by omega : (g.1 (tn q)).toInt ≤ _) wq.2
      exact le_stS h (by simp only [u_mn, u_mul]; omega) (by simp only [u_mx, u_mul]; omega)
    · rw [stM_4, stM_4]; exact le_stS h (by simp only [t_64, t_mn]; omega) (by simp only [t_64, t_mn]; omega)
    · rw [stM_5, stM_5]; exact le_stS h (by simp only [t_64, t_mx]; omega) (by simp only [t_64, t_mx]; omega)
  · rw [stM_d hk, stM_d hk]; exact le_stS h (Int.le_refl _) (Int.le_refl _)
/-- refinement shrinks -/
def neA (f : aP) (x : Nat) : Prop := ¬ f.2 x < f.1 x
theorem rfr_sh {r x y : Nat} {f : aP} (hx : x < 6) (hy : y < 6) (hxy : x ≠ y) (hf : vS f) : le2 (rfr r x y f) f ∧ ∀ v, v ≠ x → v ≠ y → (rfr r x y f).1 v = f.1 v ∧ (rfr r x y f).2 v = f.2 v := by
  have vx := hf x hx
  have vy := hf y hy
  have hyx := Ne.symm hxy
  have key : ∀ (L H : Nat → Int32), (∀ v, v ≠ x → v ≠ y → L v = f.1 v ∧ H v = f.2 v) → (f.1 x).toInt ≤ (L x).toInt → (H x).toInt ≤ (f.2 x).toInt → (f.1 y).toInt ≤ (L y).toInt → (H y).toInt ≤ (f.2 y).toInt → le2 (L, H) f ∧ ∀ v, v ≠ x → v ≠ y → L v = f.1 v ∧ H v = f.2 v := by
    intro L H o a1 a2 a3 a4
    refine ⟨fun v hv => ?_, o⟩
    by_cases q1 : v = x
    · subst q1; exact ⟨a1, a2⟩
    · by_cases q2 : v = y
      · subst q2; exact ⟨a3, a4⟩
      · show _ ≤ (L v).toInt ∧ (H v).toInt ≤ _
        rw [(o v q1 q2).1, (o v q1 q2).2]; exact ⟨Int.le_refl _, Int.le_refl _⟩
  unfold rfr
  by_cases h0 : r = 0
  · rw [if_pos h0]
    refine key _ _ (fun v a b => ⟨upd_o b, upd_o a⟩) ?_ ?_ ?_ ?_ <;> simp only [upd_s, upd_o hxy, upd_o hyx, t_mn, t_mx] <;> omega
  · rw [if_neg h0]
    by_cases h1 : r = 1
    · rw [if_pos h1]
      refine key _ _ (fun v a b => ⟨upd_o b, upd_o a⟩) ?_ ?_ ?_ ?_ <;> simp only [upd_s, upd_o hxy, upd_o hyx, t_mn, t_mx] <;> omega
    · rw [if_neg h1]
      by_cases h2 : r = 2
      · rw [if_pos h2]
        refine key _ _ (fun v a b => ⟨(upd_o a).trans (upd_o b), (upd_o b).trans (upd_o a)⟩) ?_ ?_ ?_ ?_ <;> simp only [upd_s, upd_o hxy, upd_o hyx, t_mn, t_mx] <;> omega
      · rw [if_neg h2]
        by_cases h4 : r = 4
        · rw [if_pos h4]
          refine key _ _ (fun v a b => ⟨upd_o a, upd_o b⟩) ?_ ?_ ?_ ?_ <;> simp only [upd_s, upd_o hxy, upd_o hyx, t_mn, t_mx] <;> omega
        · rw [if_neg h4]
          by_cases h5 : r = 5
          · rw [if_pos h5]
            refine key _ _ (fun v a b => ⟨upd_o a, upd_o b⟩) ?_ ?_ ?_ ?_ <;> simp only [upd_s, upd_o hxy, upd_o hyx, t_mn, t_mx] <;> omega
          · rw [if_neg h5]
            have i1 : ∀ {a : Int32} {c : Prop} [Decidable c], a.toInt ≤ 1000000000 → a.toInt ≤ (a + (if c then nI 1 else nI 0)).toInt := fun {a c} _ ha => by
              by_cases z : c
              · rw [if_pos z, t_add1 (by omega)]; omega
              · rw [if_neg z, Int32_add0]; omega
            have i2 : ∀ {a : Int32} {c : Prop} [Decidable c], -1000000000 ≤ a.toInt → (a - (if c then nI 1 else nI 0)).toInt ≤ a.toInt := fun {a c} _ ha => by
              by_cases z : c
              · rw [if_pos z, t_sub1 (by omega)]; omega
              · rw [if_neg z, t_sub0]; omega
            unfold r3y r3x
            by_cases cx : f.1 x = f.2 x
            · rw [if_pos cx]
              by_cases cy : f.1 y = f.2 y
              · rw [if_pos cy]
                refine key _ _ (fun v a b => ⟨(upd_o b).trans (upd_o a), (upd_o b).trans (upd_o a)⟩) ?_ ?_ ?_ ?_ <;> simp only [upd_s, upd_o hxy, upd_o hyx]
                · exact i1 (by omega)
                · exact i2 (by omega)
                · exact i1 (by omega)
                · exact i2 (by omega)
              · rw [if_neg cy]
                refine key _ _ (fun v a b => ⟨upd_o b, upd_o b⟩) ?_ ?_ ?_ ?_ <;> simp only [upd_s, upd_o hxy, upd_o hyx]
                · exact Int.le_refl _
                · exact Int.le_refl _
                · exact i1 (by omega)
                · exact i2 (by omega)
            · rw [if_neg cx]
              by_cases cy : f.1 y = f.2 y
              · rw [if_pos cy]
                refine key _ _ (fun v a b => ⟨upd_o a, upd_o a⟩) ?_ ?_ ?_ ?_ <;> simp only [upd_s, upd_o hxy, upd_o hyx]
                · exact i1 (by omega)
                · exact i2 (by omega)
                · exact Int.le_refl _
                · exact Int.le_refl _
              · rw [if_neg cy]
                exact ⟨le2_refl f, fun v _ _ => ⟨rfl, rfl⟩⟩
theorem rfm_v {r x y : Nat} {f g : aP} (hx : x < 6) (hy : y < 6) (hf : vS f) (hn : rr f = f) (h : rfm r x y f = some g) : vS g ∧ rr g = g ∧ le2 g f := by
  unfold rfm at h
  by_cases hxy : x = y
  · rw [if_pos hxy] at h
    by_cases q : r = 1 ∨ r = 2 ∨ r = 4
    · rw [if_pos q] at h; cases h; exact ⟨hf, hn, le2_refl f⟩
    · rw [if_neg q] at h; cases h
  · rw [if_neg hxy] at h
    by_cases q : ¬ (rfr r x y f).2 x < (rfr r x y f).1 x ∧ ¬ (rfr r x y f).2 y < (rfr r x y f).1 y
    · rw [if_pos q] at h
      obtain ⟨s1, s2⟩ := rfr_sh (r := r) hx hy hxy hf
      have e := Option.some.inj h
      rw [← e]
      refine ⟨fun v hv => ?_, by rw [rr_rfr hx hy, hn], s1⟩
      have w := hf v hv
      have z := s1 v hv
      have n : ¬ ((rfr r x y f).2 v).toInt < ((rfr r x y f).1 v).toInt := by
        by_cases q1 : v = x
        · subst q1; exact fun c => q.1 (t_lt.mpr c)
        · by_cases q2 : v = y
          · subst q2; exact fun c => q.2 (t_lt.mpr c)
          · rw [(s2 v q1 q2).1, (s2 v q1 q2).2]; omega
      omega
    · rw [if_neg q] at h; cases h
