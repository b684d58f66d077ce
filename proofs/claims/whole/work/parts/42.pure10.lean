/-! ===== arguments in their bounds ===== -/
def inB (x : Int32) (n : Nat) : Prop := ∃ b, b < n ∧ x = nI b
theorem nB_1 {x : Int32} {n : Nat} (h : x < 0) (hn : n < 2147483648) : ¬ inB x n := by
  rintro ⟨b, hb, rfl⟩
  exact nI_pos (by omega) h
theorem nB_2 {x : Int32} {n : Nat} (h : ¬ x < nI n) (hn : n < 2147483648) : ¬ inB x n := by
  rintro ⟨b, hb, rfl⟩
  exact h (nI_lt hb hn)
theorem inB_of {x : Int32} {n : Nat} (h0 : ¬ x < 0) (h : x < nI n) (hn : n < 2147483648) : inB x n := by
  obtain ⟨j, hj, rfl⟩ := nI_of h0
  exact ⟨j, (nI_ltI hj hn).mp h, rfl⟩
def isRg (lo hi : Int32) : Prop := ¬ lo < (-1000000000 : Int32) ∧ ¬ (1000000000 : Int32) < hi ∧ lo ≤ hi
theorem inB_le {x : Int32} {n : Nat} (h0 : ¬ x < 0) (h : x ≤ nI n) (hn : n < 2147483647) : inB x (n + 1) := by
  obtain ⟨j, hj, rfl⟩ := nI_of h0
  exact ⟨j, by have := (nI_leI hj (by omega)).mp h; omega, rfl⟩
theorem nB_3 {x : Int32} {n : Nat} (h : ¬ x ≤ nI n) (hn : n < 2147483647) : ¬ inB x (n + 1) := by
  rintro ⟨b, hb, rfl⟩
  exact h (nI_le (by omega) (by omega))
theorem zb_if {P : Prop} [Decidable P] : bz (if P then nI 0 else nI 1) := by
  by_cases h : P
  · rw [if_pos h]; exact Or.inl rfl
  · rw [if_neg h]; exact Or.inr rfl
/-- dead edges of the first k blocks -/
def dedA (M : wM) : Nat → Nat
  | 0 => 0
  | b + 1 => dedA M b + dedF M b (tn (M (201 + 6 * b) 5))
theorem dedF_le {M : wM} {b n : Nat} : dedF M b n ≤ n := by
  unfold dedF
  by_cases h : M (3 * (3 + 4 * b)) 0 = 0
  · rw [if_pos h]; exact dedN_le M b n
  · rw [if_neg h]; omega
theorem p_at {M : wM} {J : wJ} {v : Int32} {t : Nat} {u : wM × wJ} (ht : M 332 2 = nI t) (h : (thIn (wU M 329 4 (nI 0)) v t ∧ u = (wU M 329 4 (nI 0), J)) ∨ (¬ thIn (wU M 329 4 (nI 0)) v t ∧ u = (wU (wU (wU M 329 4 (nI 0)) 333 t v) 332 2 (nI (t + 1)), J))) : (thIn M v t ∧ u = (wU M 329 4 (nI 0), J) ∧ u.1 332 2 = nI t) ∨ (¬ thIn M v t ∧ u = (wU (wU (wU M 329 4 (nI 0)) 333 t v) 332 2 (nI (t + 1)), J) ∧ u.1 332 2 = nI (t + 1)) := by
  have e : thIn (wU M 329 4 (nI 0)) v t = thIn M v t := by unfold thIn; rw [wU_ne (by decide)]
  rw [e] at h
  rcases h with ⟨h1, h2⟩ | ⟨h1, h2⟩
  · refine Or.inl ⟨h1, h2, ?_⟩
    rw [h2]; show wU M 329 4 (nI 0) 332 2 = _; rw [wU_ne (by decide)]; exact ht
  · refine Or.inr ⟨h1, h2, ?_⟩
    rw [h2]; show wU (wU (wU M 329 4 (nI 0)) 333 t v) 332 2 (nI (t + 1)) 332 2 = _
    rw [wU_at, if_pos ⟨rfl, rfl⟩]
def inS (x : Int32) : Prop := ∃ n, 1 ≤ n ∧ n ≤ 300 ∧ x = nI n
theorem inS_of {x : Int32} (h1 : ¬ x < nI 1) (h2 : x ≤ nI 300) : inS x := by
  have h0 : ¬ x < 0 := fun z => h1 (by
    rw [Int32.lt_iff_toInt_lt] at *
    have e0 : (0 : Int32).toInt = 0 := by decide
    have e1 : (nI 1).toInt = 1 := by decide
    omega)
  obtain ⟨j, hj, rfl⟩ := nI_of h0
  have a := (nI_leI hj (by decide)).mp h2
  have b : ¬ j < 1 := fun z => h1 (nI_lt z (by decide))
  exact ⟨j, by omega, a, rfl⟩
theorem nS_1 {x : Int32} (h : x < nI 1) : ¬ inS x := by
  rintro ⟨n, h1, h2, rfl⟩
  have := (nI_ltI (by omega) (by decide)).mp h
  omega
theorem nS_2 {x : Int32} (h : ¬ x ≤ nI 300) : ¬ inS x := by
  rintro ⟨n, h1, h2, rfl⟩
  exact h (nI_le h2 (by decide))
