/-! ===== forget, rounds, narrowings: pure ===== -/
def Ifg (M : wM) (k : Nat) (M' : wM) : Prop := kp M M' anC ∧ cZ M' ∧ ∀ b, b < k → M' (297 + 2 * b) 3 = nI 0 ∧ M' (3 * (3 + 4 * b)) 0 = nI 1 ∧ M' (3 * (4 + 4 * b)) 0 = nI 1 ∧ M' (3 * (5 + 4 * b)) 0 = nI 1 ∧ M' (3 * (6 + 4 * b)) 0 = nI 1
theorem mk_at {M : wM} {b c : Nat} : mnE (wU (wU (wU M (297 + 2 * b) 3 (nI 0)) (3 * (3 + 4 * b)) 0 (nI 1)) (3 * (4 + 4 * b)) 0 (nI 1)) b 2 c = (if c = 3 * (6 + 4 * b) ∨ c = 3 * (5 + 4 * b) ∨ c = 3 * (4 + 4 * b) ∨ c = 3 * (3 + 4 * b) then upd (M c) 0 (nI 1) else if c = 297 + 2 * b then upd (M c) 3 (nI 0) else M c) := by
  show wU (wU (wU (wU (wU M (297 + 2 * b) 3 (nI 0)) (3 * (3 + 4 * b)) 0 (nI 1)) (3 * (4 + 4 * b)) 0 (nI 1)) (3 * (5 + 4 * b + 0)) 0 (nI 1)) (3 * (5 + 4 * b + 1)) 0 (nI 1) c = _
  funext j
  rw [wU_at, wU_at, wU_at, wU_at, wU_at]
  by_cases h1 : c = 3 * (6 + 4 * b)
  · rw [if_pos (Or.inl h1), upd_at]
    by_cases hj : j = 0
    · rw [if_pos ⟨by omega, hj⟩, if_pos hj]
    · rw [if_neg (fun z => hj z.2), if_neg (fun z => hj z.2), if_neg (fun z => hj z.2), if_neg (fun z => hj z.2), if_neg (by omega), if_neg hj]
  · by_cases h2 : c = 3 * (5 + 4 * b)
    · rw [if_pos (Or.inr (Or.inl h2)), upd_at, if_neg (by omega)]
      by_cases hj : j = 0
      · rw [if_pos ⟨by omega, hj⟩, if_pos hj]
      · rw [if_neg (fun z => hj z.2), if_neg (fun z => hj z.2), if_neg (fun z => hj z.2), if_neg (by omega), if_neg hj]
    · by_cases h3 : c = 3 * (4 + 4 * b)
      · rw [if_pos (Or.inr (Or.inr (Or.inl h3))), upd_at, if_neg (by omega), if_neg (by omega)]
        by_cases hj : j = 0
        · rw [if_pos ⟨by omega, hj⟩, if_pos hj]
        · rw [if_neg (fun z => hj z.2), if_neg (fun z => hj z.2), if_neg (by omega), if_neg hj]
      · by_cases h4 : c = 3 * (3 + 4 * b)
        · rw [if_pos (Or.inr (Or.inr (Or.inr h4))), upd_at, if_neg (by omega), if_neg (by omega), if_neg (by omega)]
          by_cases hj : j = 0
          · rw [if_pos ⟨by omega, hj⟩, if_pos hj]
          · rw [if_neg (fun z => hj z.2), if_neg (by omega), if_neg hj]
        · rw [if_neg (by omega), if_neg (by omega), if_neg (by omega), if_neg (by omega), if_neg (show ¬ (c = 3 * (6 + 4 * b) ∨ c = 3 * (5 + 4 * b) ∨ c = 3 * (4 + 4 * b) ∨ c = 3 * (3 + 4 * b)) by omega)]
          by_cases h5 : c = 297 + 2 * b
          · rw [if_pos h5, upd_at]
            by_cases hj : j = 3
            · rw [if_pos ⟨h5, hj⟩, if_pos hj]
            · rw [if_neg (fun z => hj z.2), if_neg hj]
          · rw [if_neg (fun z => h5 z.1), if_neg h5]
theorem Ifg_s {M M1 : wM} {k : Nat} (hk : k < 16) (h : Ifg M k M1) : Ifg M (k + 1) (mnE (wU (wU (wU M1 (297 + 2 * k) 3 (nI 0)) (3 * (3 + 4 * k)) 0 (nI 1)) (3 * (4 + 4 * k)) 0 (nI 1)) k 2) := by
  obtain ⟨h1, h2, h3⟩ := h
  refine ⟨fun c hc => ?_, fun i hi => ?_, fun b hb => ?_⟩
  · unfold anC at hc
    rw [mk_at, if_neg (by omega), if_neg (by omega)]
    exact h1 c (by unfold anC; omega)
  · rw [mk_at]
    by_cases q : 3 * i = 3 * (6 + 4 * k) ∨ 3 * i = 3 * (5 + 4 * k) ∨ 3 * i = 3 * (4 + 4 * k) ∨ 3 * i = 3 * (3 + 4 * k)
    · rw [if_pos q, upd_at, if_pos rfl]; exact Or.inr rfl
    · rw [if_neg q, if_neg (by omega)]; exact h2 i hi
  · by_cases q : b = k
    · subst q
      refine ⟨?_, ?_, ?_, ?_, ?_⟩
      · rw [mk_at, if_neg (by omega), if_pos rfl, upd_at, if_pos rfl]
      · rw [mk_at, if_pos (by omega), upd_at, if_pos rfl]
      · rw [mk_at, if_pos (by omega), upd_at, if_pos rfl]
      · rw [mk_at, if_pos (by omega), upd_at, if_pos rfl]
      · rw [mk_at, if_pos (by omega), upd_at, if_pos rfl]
    · obtain ⟨a1, a2, a3, a4, a5⟩ := h3 b (by omega)
      refine ⟨?_, ?_, ?_, ?_, ?_⟩
      · rw [mk_at, if_neg (by omega), if_neg (by omega)]; exact a1
      · rw [mk_at, if_neg (by omega), if_neg (by omega)]; exact a2
      · rw [mk_at, if_neg (by omega), if_neg (by omega)]; exact a3
      · rw [mk_at, if_neg (by omega), if_neg (by omega)]; exact a4
      · rw [mk_at, if_neg (by omega), if_neg (by omega)]; exact a5
theorem Ifg_AN {M M1 : wM} (hE : ∀ b, b < 16 → edOK M b) (h : Ifg M 16 M1) : AN M M1 (fun _ => none) (fun _ => nI 0) := by
  obtain ⟨h1, h2, h3⟩ := h
  refine ⟨h1, h2, fun b hb => ?_⟩
  obtain ⟨a1, a2, a3, a4, a5⟩ := h3 b hb
  refine ⟨sv_none (by rw [a2]; decide), a1, ?_, fun e he => ?_⟩
  · show _ = apN M b _ none
    rw [apN_none]; exact sv_none (by rw [a3]; decide)
  · show _ = edB M b e (apN M b _ none)
    rw [apN_none, edB_none]
    have := (hE b hb).2.1
    rcases (show e = 0 ∨ e = 1 by omega) with rfl | rfl
    · exact sv_none (by rw [show 5 + 4 * b + 0 = 5 + 4 * b from rfl, a4]; decide)
    · exact sv_none (by rw [show 5 + 4 * b + 1 = 6 + 4 * b by omega, a5]; decide)
abbrev aN : Type := (Nat → aS) × (Nat → Int32)
/-- the first b looks of a round; whether one has changed something; rounds -/
noncomputable def rdS (M0 : wM) (cnt t : Nat) : Nat → aN → aN
  | 0, x => x
  | b + 1, x => (lkE M0 (rdS M0 cnt t b x).1 (rdS M0 cnt t b x).2 cnt t b, lkV M0 (rdS M0 cnt t b x).1 (rdS M0 cnt t b x).2 cnt t b)
def rdC (M0 : wM) (cnt t : Nat) : Nat → aN → Prop
  | 0, _ => False
  | b + 1, x => rdC M0 cnt t b x ∨ chg M0 (rdS M0 cnt t b x).1 (rdS M0 cnt t b x).2 cnt t b
noncomputable def its (M0 : wM) (cnt t : Nat) : Nat → aN → Nat × aN
  | 0, x => (0, x)
  | f + 1, x => @ite _ (rdC M0 cnt t cnt x) (Classical.propDecidable _) ((its M0 cnt t f (rdS M0 cnt t cnt x)).1 + 1, (its M0 cnt t f (rdS M0 cnt t cnt x)).2) (1, rdS M0 cnt t cnt x)
theorem its_1 {M0 : wM} {cnt t f : Nat} {x : aN} (h : rdC M0 cnt t cnt x) : its M0 cnt t (f + 1) x = ((its M0 cnt t f (rdS M0 cnt t cnt x)).1 + 1, (its M0 cnt t f (rdS M0 cnt t cnt x)).2) := by
  show @ite _ (rdC M0 cnt t cnt x) (Classical.propDecidable _) _ _ = _
  rw [if_pos h]
theorem its_2 {M0 : wM} {cnt t f : Nat} {x : aN} (h : ¬ rdC M0 cnt t cnt x) : its M0 cnt t (f + 1) x = (1, rdS M0 cnt t cnt x) := by
  show @ite _ (rdC M0 cnt t cnt x) (Classical.propDecidable _) _ _ = _
  rw [if_neg h]
/-- behind some rounds: how many, whether the last has changed something, the analysis -/
def Itr (M0 : wM) (cnt t : Nat) (x0 : aN) (k : Nat) (c : Bool) (x : aN) : Prop := (c = true → its M0 cnt t 1000000 x0 = (k + (its M0 cnt t (1000000 - k) x).1, (its M0 cnt t (1000000 - k) x).2)) ∧ (c = false → its M0 cnt t 1000000 x0 = (k, x))
theorem Itr_0 {M0 : wM} {cnt t : Nat} {x0 : aN} : Itr M0 cnt t x0 0 true x0 := ⟨fun _ => by rw [Nat.zero_add], fun z => by cases z⟩
theorem Itr_s {M0 : wM} {cnt t k : Nat} {c c' : Bool} {x0 x : aN} (hk : k < 1000000) (hc : c = true) (h : Itr M0 cnt t x0 k c x) (hr : c' = true ↔ rdC M0 cnt t cnt x) : Itr M0 cnt t x0 (k + 1) c' (rdS M0 cnt t cnt x) := by
  have h1 := h.1 hc
  rw [show 1000000 - k = (1000000 - (k + 1)) + 1 by omega] at h1
  refine ⟨fun z => ?_, fun z => ?_⟩
  · rw [h1, its_1 (hr.mp z)]
    simp only [Prod.mk.injEq, and_true]
    omega
  · rw [h1, its_2 (fun q => by rw [hr.mpr q] at z; cases z)]
theorem Itr_e1 {M0 : wM} {cnt t k : Nat} {c : Bool} {x0 x : aN} (hc : ¬ c = true) (h : Itr M0 cnt t x0 k c x) : its M0 cnt t 1000000 x0 = (k, x) := h.2 (by cases c; rfl; exact absurd rfl hc)
theorem Itr_e2 {M0 : wM} {cnt t k : Nat} {c : Bool} {x0 x : aN} (hk : k = 1000000) (hc : c = true) (h : Itr M0 cnt t x0 k c x) : its M0 cnt t 1000000 x0 = (k, x) := by
  have h1 := h.1 hc
  rw [h1, hk]
  rfl
theorem c_if {c : Bool} : (if c = true then nI 1 else nI 0) = 0 ↔ ¬ c = true := by
  cases c
  · exact ⟨fun _ z => (by cases z), fun _ => by decide⟩
  · exact ⟨fun z => absurd z (by decide), fun z => absurd rfl z⟩
/-- narrowings -/
noncomputable def nrB (M0 : wM) (cnt : Nat) : Nat → (Nat → aS) → (Nat → aS)
  | 0, E => E
  | b + 1, E => nrE M0 (nrB M0 cnt b E) cnt b
noncomputable def nrR (M0 : wM) (cnt : Nat) : Nat → (Nat → aS) → (Nat → aS)
  | 0, E => E
  | k + 1, E => nrB M0 cnt cnt (nrR M0 cnt k E)
def pRd (M0 : wM) (J : wJ) (cnt t : Nat) (x0 : aN) (r : Int32) (u : wM × wJ) : Prop := u.2 = J ∧ r = nI (its M0 cnt t 1000000 x0).1 ∧ AN M0 u.1 (its M0 cnt t 1000000 x0).2.1 (its M0 cnt t 1000000 x0).2.2
theorem pRd_of {M0 M1 : wM} {J : wJ} {cnt t k : Nat} {x0 x : aN} (h : its M0 cnt t 1000000 x0 = (k, x)) (g : AN M0 M1 x.1 x.2) : pRd M0 J cnt t x0 (nI k) (M1, J) := by
  unfold pRd; rw [h]; exact ⟨rfl, rfl, g⟩
theorem ch_t {M0 : wM} {cnt t b : Nat} {c : Bool} {x : aN} (h : chg M0 (rdS M0 cnt t b x).1 (rdS M0 cnt t b x).2 cnt t b) : true = true ↔ rdC M0 cnt t (b + 1) x := ⟨fun _ => Or.inr h, fun _ => rfl⟩
theorem ch_f {M0 : wM} {cnt t b : Nat} {c : Bool} {x : aN} (hc : c = true ↔ rdC M0 cnt t b x) (h : ¬ chg M0 (rdS M0 cnt t b x).1 (rdS M0 cnt t b x).2 cnt t b) : c = true ↔ rdC M0 cnt t (b + 1) x := ⟨fun z => Or.inl (hc.mp z), fun z => z.elim hc.mpr (fun q => absurd q h)⟩
