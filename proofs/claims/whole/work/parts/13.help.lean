/-! ===== small words of the walks ===== -/
def i_mn (x y : Int32) : Int32 := if y < x then y else x
def i_mx (x y : Int32) : Int32 := if x < y then y else x
def l_mn (x y : Int64) : Int64 := if y < x then y else x
def l_mx (x y : Int64) : Int64 := if y < x then x else y
theorem sw_out {x : Int32} (lo hi : Nat) (hh : hi < 2147483648) (hk : ∀ k, lo ≤ k → k ≤ hi → ¬ x = nI k) : x.toInt < (lo : Int) ∨ (hi : Int) < x.toInt := by
  rcases Int.lt_or_le x.toInt lo with h | h
  · exact Or.inl h
  · rcases Int.lt_or_le (hi : Int) x.toInt with g | g
    · exact Or.inr g
    · exfalso
      refine hk x.toInt.toNat (by omega) (by omega) ?_
      apply Int32.toInt_inj.mp
      rw [nI_toInt (by omega)]
      omega
/-- a boolean's number -/
def bz (x : Int32) : Prop := x = nI 0 ∨ x = nI 1
theorem bz_n {x : Int32} (h : bz x) : narrow .boolean (.int x) = .int x := by rcases h with rfl | rfl <;> decide
theorem bz_f {x : Int32} (h : bz x) : fits .boolean (.int x) = true := by rcases h with rfl | rfl <;> decide
theorem bz_if {P : Prop} [Decidable P] : bz (if P then nI 1 else nI 0) := by
  by_cases h : P
  · rw [if_pos h]; exact Or.inr rfl
  · rw [if_neg h]; exact Or.inl rfl
