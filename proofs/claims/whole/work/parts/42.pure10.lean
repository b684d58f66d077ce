/-! ===== arguments in their bounds ===== -/
def inB (x : Int32) (n : Nat) : Prop := ∃ b, b < n ∧ x = nI b
theorem nB_1 {x : Int32} {n : Nat} (h : x < 0) (hn : n < 2147483648) : ¬ inB x n := by
  rintro ⟨b, hb, rfl⟩
  exact nI_pos (by omega) h
theorem nB_2 {x : Int32} {n : Nat} (h : ¬ x < nI n) (hn : n < 2147483648) : ¬ inB x n := by
  rintro ⟨b, hb, rfl⟩
  exact h (nI_lt hb hn)
theorem inB_of {x : Int32} {n : Nat} (h0 : ¬ x < 0) (h : x < nI n) (hn : n < 2147483648) : inB x n := by
  obtain ⟨j, hj, rfl⟩ := nI_of h0
  exact ⟨j, (nI_ltI hj hn).mp h, rfl⟩
def isRg (lo hi : Int32) : Prop := ¬ lo < (-1000000000 : Int32) ∧ ¬ (1000000000 : Int32) < hi ∧ lo ≤ hi
