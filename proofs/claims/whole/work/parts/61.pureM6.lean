/-! ===== the reference's rounds and narrowings, pure ===== -/
noncomputable def rdSR (M0 : wM) (cnt t : Nat) : Nat → aN → aN
  | 0, x => x
  | b + 1, x => (lkER M0 (rdSR M0 cnt t b x).1 (rdSR M0 cnt t b x).2 cnt t b, lkVR M0 (rdSR M0 cnt t b x).1 (rdSR M0 cnt t b x).2 cnt t b)
def rdCR (M0 : wM) (cnt t : Nat) : Nat → aN → Prop
  | 0, _ => False
  | b + 1, x => rdCR M0 cnt t b x ∨ chR M0 (rdSR M0 cnt t b x).1 (rdSR M0 cnt t b x).2 cnt t b
noncomputable def itR (M0 : wM) (cnt t : Nat) : Nat → aN → Nat × aN
  | 0, x => (0, x)
  | f + 1, x => @ite _ (rdCR M0 cnt t cnt x) (Classical.propDecidable _) ((itR M0 cnt t f (rdSR M0 cnt t cnt x)).1 + 1, (itR M0 cnt t f (rdSR M0 cnt t cnt x)).2) (1, rdSR M0 cnt t cnt x)
theorem itR_1 {M0 : wM} {cnt t f : Nat} {x : aN} (h : rdCR M0 cnt t cnt x) : itR M0 cnt t (f + 1) x = ((itR M0 cnt t f (rdSR M0 cnt t cnt x)).1 + 1, (itR M0 cnt t f (rdSR M0 cnt t cnt x)).2) := by
  show @ite _ (rdCR M0 cnt t cnt x) (Classical.propDecidable _) _ _ = _
  rw [if_pos h]
theorem itR_2 {M0 : wM} {cnt t f : Nat} {x : aN} (h : ¬ rdCR M0 cnt t cnt x) : itR M0 cnt t (f + 1) x = (1, rdSR M0 cnt t cnt x) := by
  show @ite _ (rdCR M0 cnt t cnt x) (Classical.propDecidable _) _ _ = _
  rw [if_neg h]
/-- the rounds end within f -/
def tmR (M0 : wM) (cnt t : Nat) : Nat → aN → Prop
  | 0, _ => False
  | f + 1, x => ¬ rdCR M0 cnt t cnt x ∨ tmR M0 cnt t f (rdSR M0 cnt t cnt x)
def ItR (M0 : wM) (cnt t : Nat) (x0 : aN) (k : Nat) (c : Bool) (x : aN) : Prop := (c = true → itR M0 cnt t 1000000 x0 = (k + (itR M0 cnt t (1000000 - k) x).1, (itR M0 cnt t (1000000 - k) x).2) ∧ tmR M0 cnt t (1000000 - k) x) ∧ (c = false → itR M0 cnt t 1000000 x0 = (k, x))
theorem ItR_0 {M0 : wM} {cnt t : Nat} {x0 : aN} (h : tmR M0 cnt t 1000000 x0) : ItR M0 cnt t x0 0 true x0 := ⟨fun _ => ⟨by rw [Nat.zero_add], h⟩, fun z => by cases z⟩
theorem ItR_lt {M0 : wM} {cnt t k : Nat} {c : Bool} {x0 x : aN} (hc : c = true) (h : ItR M0 cnt t x0 k c x) : k < 1000000 := by
  refine Decidable.byContradiction fun n => ?_
  have h2 := (h.1 hc).2
  rw [show 1000000 - k = 0 by omega] at h2
  exact h2
theorem ItR_s {M0 : wM} {cnt t k : Nat} {c c' : Bool} {x0 x : aN} (hc : c = true) (h : ItR M0 cnt t x0 k c x) (hr : c' = true ↔ rdCR M0 cnt t cnt x) : ItR M0 cnt t x0 (k + 1) c' (rdSR M0 cnt t cnt x) := by
  have hk := ItR_lt hc h
  obtain ⟨h1, h2⟩ := h.1 hc
  rw [show 1000000 - k = (1000000 - (k + 1)) + 1 by omega] at h1 h2
  refine ⟨fun z => ⟨?_, ?_⟩, fun z => ?_⟩
  · rw [h1, itR_1 (hr.mp z)]
    simp only [Prod.mk.injEq, and_true]
    omega
  · rcases h2 with h2 | h2
    · exact absurd (hr.mp z) h2
    · exact h2
  · rw [h1, itR_2 (fun q => by rw [hr.mpr q] at z; cases z)]
theorem ItR_e {M0 : wM} {cnt t k : Nat} {c : Bool} {x0 x : aN} (hc : ¬ c = true) (h : ItR M0 cnt t x0 k c x) : itR M0 cnt t 1000000 x0 = (k, x) := h.2 (by cases c; rfl; exact absurd rfl hc)
theorem cr_t {M0 : wM} {cnt t b : Nat} {x : aN} (h : chR M0 (rdSR M0 cnt t b x).1 (rdSR M0 cnt t b x).2 cnt t b) : true = true ↔ rdCR M0 cnt t (b + 1) x := ⟨fun _ => Or.inr h, fun _ => rfl⟩
theorem cr_f {M0 : wM} {cnt t b : Nat} {c c' : Bool} {x : aN} (hc : c = true ↔ rdCR M0 cnt t b x) (h : ¬ chR M0 (rdSR M0 cnt t b x).1 (rdSR M0 cnt t b x).2 cnt t b) (e : c' = c) : c' = true ↔ rdCR M0 cnt t (b + 1) x := by subst e; exact ⟨fun z => Or.inl (hc.mp z), fun z => z.elim hc.mpr (fun q => absurd q h)⟩
noncomputable def nbR (M0 : wM) (cnt : Nat) : Nat → (Nat → aS) → (Nat → aS)
  | 0, E => E
  | b + 1, E => nrER M0 (nbR M0 cnt b E) cnt b
noncomputable def nrRR (M0 : wM) (cnt : Nat) : Nat → (Nat → aS) → (Nat → aS)
  | 0, E => E
  | k + 1, E => nbR M0 cnt cnt (nrRR M0 cnt k E)
/-- the memory with which the reference's analysis begins -/
def anM (M : wM) : wM := wU (wU M 0 0 (nI 0)) 0 16 (nI 1)
abbrev z0 : aN := (fun _ => none, fun _ => nI 0)
def Ini (M : wM) (k : Nat) (M' : wM) : Prop := kp M M' (fun c => c = 12 ∨ c = 15) ∧ ∀ b, b < k → M' 12 b = nI 0 ∧ M' 15 b = nI 0
theorem Ini_s {M M1 : wM} {k : Nat} (h : Ini M k M1) : Ini M (k + 1) (wU (wU M1 12 k (nI 0)) 15 k (nI 0)) := by
  refine ⟨kp_trans h.1 (kp_trans (kp_U (Or.inl rfl)) (kp_U (Or.inr rfl))), fun b hb => ?_⟩
  by_cases q : b = k
  · subst q
    exact ⟨by rw [wU_ne (by decide), wU_at, if_pos ⟨rfl, rfl⟩], by rw [wU_at, if_pos ⟨rfl, rfl⟩]⟩
  · obtain ⟨a, d⟩ := h.2 b (by omega)
    exact ⟨by rw [wU_ne (by decide), wU_at, if_neg (fun z => q z.2), a], by rw [wU_at, if_neg (fun z => q z.2), wU_ne (by decide), d]⟩
theorem Ini_AM {M M1 : wM} (h : Ini M 16 M1) : AM M M1 z0.1 z0.2 := by
  refine ⟨kp_mono h.1 (fun c hc => by unfold amC; omega), fun j hj => by rw [h.1 0 (by decide)], fun q hq => by rw [(h.2 q hq).1]; exact Or.inl rfl, fun q hq => ⟨enM_0 (by rw [(h.2 q hq).1]; rfl), (h.2 q hq).2⟩⟩
theorem mOK_an {M : wM} {cnt t : Nat} (h : mOK M cnt t) : mOK (anM M) cnt t := by
  obtain ⟨h1, h2, h3, h4, h5, h6, h7, h8, h9⟩ := h
  have e : ∀ c, c ≠ 0 → anM M c = M c := fun c hc => by unfold anM; rw [wU_ne hc, wU_ne hc]
  have e0 : ∀ j, j ≠ 0 → j ≠ 16 → anM M 0 j = M 0 j := fun j h0 h16 => by unfold anM; rw [wU_at, if_neg (fun z => h16 z.2), wU_at, if_neg (fun z => h0 z.2)]
  unfold mOK
  unfold st9 at *
  rw [e0 1 (by decide) (by decide), e0 14 (by decide) (by decide), e 1 (by decide), e 2 (by decide), e 3 (by decide), e 6 (by decide), e 7 (by decide), e 8 (by decide)]
  exact ⟨h1, h2, h3, h4, h5, h6, h7, h8, h9⟩
def qAn (M : wM) (J : wJ) (cnt t n : Nat) (r : Int32) (u : wM × wJ) : Prop := u.2 = J ∧ r = nI (itR (anM M) cnt t 1000000 z0).1 ∧ AM (anM M) u.1 (nrRR (anM M) cnt n (itR (anM M) cnt t 1000000 z0).2.1) (itR (anM M) cnt t 1000000 z0).2.2
