/-! ===== an execution's steps, pure ===== -/
def exC (c : Nat) : Prop := c = 336 ∨ c = 337 ∨ c = 338 ∨ c = 339
theorem exC_bkE {M M' : wM} (h : kp M M' exC) : bkE M M' := bkE_kp h (fun c a b => by unfold exC; omega)
theorem bkE_exN {M M' : wM} {b : Nat} (h : bkE M M') (hb : b < 16) (x : xS) : ∀ n, exN M' b n x = exN M b n x
  | 0 => rfl
  | n + 1 => by
    show (upd (exN M' b n x).1 (tn (M' (201 + 6 * b + 2) n)) (exS (M' (201 + 6 * b + 1) n) (M' (201 + 6 * b + 3) n) (M' (201 + 6 * b + 4) n) (exN M' b n x).1 (exN M' b n x).2).1, (exS (M' (201 + 6 * b + 1) n) (M' (201 + 6 * b + 3) n) (M' (201 + 6 * b + 4) n) (exN M' b n x).1 (exN M' b n x).2).2) = (upd (exN M b n x).1 (tn (M (201 + 6 * b + 2) n)) (exS (M (201 + 6 * b + 1) n) (M (201 + 6 * b + 3) n) (M (201 + 6 * b + 4) n) (exN M b n x).1 (exN M b n x).2).1, (exS (M (201 + 6 * b + 1) n) (M (201 + 6 * b + 3) n) (M (201 + 6 * b + 4) n) (exN M b n x).1 (exN M b n x).2).2)
    rw [bkE_exN h hb x n, h (201 + 6 * b + 1) (by omega) (by omega), h (201 + 6 * b + 2) (by omega) (by omega), h (201 + 6 * b + 3) (by omega) (by omega), h (201 + 6 * b + 4) (by omega) (by omega)]
theorem bkE_exB {M M' : wM} {b : Nat} (h : bkE M M') (hb : b < 16) (x : xS) : exB M' b x = exB M b x := by
  unfold exB; rw [bkE_exN h hb, h (201 + 6 * b) (by omega) (by omega)]
theorem bkE_flw {M M' : wM} {b : Nat} (h : bkE M M') (hb : b < 16) (f : Nat → Int32) : flw M' b f = flw M b f := by
  unfold flw; rw [h (201 + 6 * b) (by omega) (by omega), h (201 + 6 * b + 5) (by omega) (by omega)]
/-- the followers are blocks -/
def foOK (M : wM) : Prop := ∀ b, b < 16 → ∀ e, e < tn (M (201 + 6 * b) 5) → M (201 + 6 * b + 5) e = nI (tn (M (201 + 6 * b + 5) e)) ∧ tn (M (201 + 6 * b + 5) e) < 16
theorem flw_ok {M : wM} {b : Nat} {f : Nat → Int32} (hF : foOK M) (hb : b < 16) (h : ¬ tn (M (201 + 6 * b) 5) = 0) : flw M b f = nI (tn (flw M b f)) ∧ tn (flw M b f) < 16 := by
  unfold flw
  by_cases h1 : tn (M (201 + 6 * b) 5) < 2
  · rw [if_pos h1]; exact hF b hb 0 (by omega)
  · rw [if_neg h1]
    by_cases h2 : tru (f (tn (M (201 + 6 * b) 7))) (M (201 + 6 * b) 9) (f (tn (M (201 + 6 * b) 8))) = 0
    · rw [if_pos h2]; exact hF b hb 1 (by omega)
    · rw [if_neg h2]; exact hF b hb 0 (by omega)
/-- behind the first k of the variables' choices -/
def Iex (M : wM) (r : Int64) (k : Nat) (M' : wM) : Prop := kp M M' (fun c => c = 337) ∧ M' 337 = (exI M (M 337) r k).1
theorem Iex_s {M M1 : wM} {r : Int64} {k : Nat} (h : Iex M r k M1) : Iex M r (k + 1) (wU M1 337 k (chs (exI M (M 337) r k).2 (M (3 * 0 + 1) k) (M (3 * 0 + 2) k))) := by
  refine ⟨kp_trans h.1 (kp_U rfl), ?_⟩
  rw [wU_self, h.2]; rfl
def Irun (M : wM) (x0 : xS) (k : Nat) (M' : wM) : Prop := kp M M' exC ∧ M' 337 = (rnS M x0 k).1.1 ∧ M' 336 3 = nI k ∧ ∀ q, q < k → M' 338 q = nI (rnS M x0 q).2 ∧ ∀ v, v < 6 → M' 339 (q * 6 + v) = (rnS M x0 q).1.1 v
def Icon (M : wM) (x0 : xS) (k : Nat) : Prop := (∀ q, q < k → ¬ tn (M (201 + 6 * (rnS M x0 q).2) 5) = 0) ∧ (rnS M x0 k).2 < 16
theorem Irun_0 {M M1 : wM} {r : Int64} (h : Iex M r 6 M1) : Irun M (exI M (M 337) r 6) 0 (wU M1 336 3 (nI 0)) := by
  refine ⟨kp_trans (kp_mono h.1 (fun c hc => Or.inr (Or.inl hc))) (kp_U (Or.inl rfl)), ?_, ?_, fun q hq => absurd hq (Nat.not_lt_zero q)⟩
  · rw [wU_ne (by decide)]; exact h.2
  · rw [wU_at, if_pos ⟨rfl, rfl⟩]
theorem note_1 {M : wM} {k b c : Nat} (h : ¬ (c = 336 ∨ c = 338 ∨ c = 339)) : F_X3_noteStep M k b c = M c := by
  unfold F_X3_noteStep
  rw [wU_ne (by omega), va_up_ne _ _ (by omega), wU_ne (by omega)]
theorem note_4 {M : wM} {k b : Nat} : F_X3_noteStep M k b 336 3 = nI (k + 1) := by
  unfold F_X3_noteStep; rw [wU_at, if_pos ⟨rfl, rfl⟩]
theorem note_8 {M : wM} {k b : Nat} : F_X3_noteStep M k b 338 = upd (M 338) k (nI b) := by
  unfold F_X3_noteStep; rw [wU_ne (by decide), va_up_ne _ _ (by decide), wU_self]
theorem note_9 {M : wM} {k b : Nat} : F_X3_noteStep M k b 339 = va_cpy (M 337) (M 339) 0 (k * 6) 6 := by
  unfold F_X3_noteStep; rw [wU_ne (by decide), va_up_self, wU_ne (by decide), wU_ne (by decide)]
theorem note_kp {M : wM} {k b : Nat} : kp M (F_X3_noteStep M k b) exC := fun c hc => by
  unfold exC at hc; exact note_1 (by omega)
theorem Irun_s {M M1 : wM} {J : wJ} {x0 : xS} {k : Nat} {u : wM × wJ} (hat : (rnS M x0 k).2 < 16) (h : Irun M x0 k M1)
    (g : u.2 = va_up (va_up J 336 (rnS M x0 k).1.2) 336 (exB (F_X3_noteStep M1 k (rnS M x0 k).2) (rnS M x0 k).2 (F_X3_noteStep M1 k (rnS M x0 k).2 337, va_up J 336 (rnS M x0 k).1.2 336)).2 ∧ kp (F_X3_noteStep M1 k (rnS M x0 k).2) u.1 (fun c => c = 337) ∧ u.1 337 = (exB (F_X3_noteStep M1 k (rnS M x0 k).2) (rnS M x0 k).2 (F_X3_noteStep M1 k (rnS M x0 k).2 337, va_up J 336 (rnS M x0 k).1.2 336)).1) :
    u.2 = va_up J 336 (rnS M x0 (k + 1)).1.2 ∧ Irun M x0 (k + 1) u.1 := by
  obtain ⟨g1, g2, g3⟩ := g
  obtain ⟨h1, h2, h3, h4⟩ := h
  have kb : kp M (F_X3_noteStep M1 k (rnS M x0 k).2) exC := kp_trans h1 note_kp
  rw [bkE_exB (exC_bkE kb) hat, note_1 (by omega), h2, va_up_self] at g1 g3
  rw [J_up] at g1
  refine ⟨g1, kp_trans kb (kp_mono g2 (fun c hc => Or.inr (Or.inl hc))), g3, ?_, fun q hq => ⟨?_, fun v hv => ?_⟩⟩
  · rw [g2 336 (by decide)]; exact note_4
  · rw [g2 338 (by decide), note_8, upd_at]
    by_cases e : q = k
    · rw [if_pos e, e]
    · rw [if_neg e]; exact (h4 q (by omega)).1
  · rw [g2 339 (by decide), note_9]
    by_cases e : q = k
    · subst e
      rw [pk_cpy_in (by omega) (by omega), h2, show 0 + (q * 6 + v - q * 6) = v by omega]
    · rw [pk_cpy_out (by omega)]; exact (h4 q (by omega)).2 v hv
/-- what an execution leaves: n steps -/
def pEx (M : wM) (J : wJ) (seed : Int64) (steps : Nat) (u : wM × wJ) : Prop := ∃ n, 1 ≤ n ∧ n ≤ steps ∧ (∀ q, q + 1 < n → ¬ tn (M (201 + 6 * (rnS M (exI M (M 337) seed 6) q).2) 5) = 0) ∧ (n = steps ∨ tn (M (201 + 6 * (rnS M (exI M (M 337) seed 6) (n - 1)).2) 5) = 0) ∧ u.2 = va_up J 336 (rnS M (exI M (M 337) seed 6) n).1.2 ∧ Irun M (exI M (M 337) seed 6) n u.1
