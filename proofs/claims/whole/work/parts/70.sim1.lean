/-! ===== both sides' statements and edges are the same on ranges, pure ===== -/
theorem t_lt {a b : Int32} : a < b ↔ a.toInt < b.toInt := Int32.lt_iff_toInt_lt
theorem t_le {a b : Int32} : a ≤ b ↔ a.toInt ≤ b.toInt := Int32.le_iff_toInt_le
theorem t_ext {a b : Int32} (h : a.toInt = b.toInt) : a = b := Int32.toInt_inj.mp h
theorem t_mn (a b : Int32) : (i_mn a b).toInt = min a.toInt b.toInt := by
  unfold i_mn
  by_cases h : b < a
  · rw [if_pos h]; have := t_lt.mp h; omega
  · rw [if_neg h]; have : ¬ b.toInt < a.toInt := fun z => h (t_lt.mpr z); omega
theorem t_mx (a b : Int32) : (i_mx a b).toInt = max a.toInt b.toInt := by
  unfold i_mx
  by_cases h : a < b
  · rw [if_pos h]; have := t_lt.mp h; omega
  · rw [if_neg h]; have : ¬ a.toInt < b.toInt := fun z => h (t_lt.mpr z); omega
theorem u_mn (a b : Int64) : (l_mn a b).toInt = min a.toInt b.toInt := by
  unfold l_mn
  by_cases h : b < a
  · rw [if_pos h]; have := Int64.lt_iff_toInt_lt.mp h; omega
  · rw [if_neg h]; have : ¬ b.toInt < a.toInt := fun z => h (Int64.lt_iff_toInt_lt.mpr z); omega
theorem u_mx (a b : Int64) : (l_mx a b).toInt = max a.toInt b.toInt := by
  unfold l_mx
  by_cases h : b < a
  · rw [if_pos h]; have := Int64.lt_iff_toInt_lt.mp h; omega
  · rw [if_neg h]; have : ¬ b.toInt < a.toInt := fun z => h (Int64.lt_iff_toInt_lt.mpr z); omega
theorem b32 {z : Int} (h1 : -2147483648 ≤ z) (h2 : z < 2147483648) : z.bmod (2 ^ 32) = z := by
  rw [Int.bmod_eq_of_le (by omega) (by omega)]
theorem b64 {z : Int} (h1 : -9223372036854775808 ≤ z) (h2 : z < 9223372036854775808) : z.bmod (2 ^ 64) = z := by
  rw [Int.bmod_eq_of_le (by omega) (by omega)]
theorem t_lim (x : Int64) : (lim x).toInt = max (-1000000000) (min 1000000000 x.toInt) := by
  show ((l_mx ((-1000000000 : Int64)) ((l_mn ((1000000000 : Int64)) x)))).toInt32.toInt = _
  rw [Int64.toInt_toInt32, u_mx, u_mn, show (-1000000000 : Int64).toInt = -1000000000 from by decide, show (1000000000 : Int64).toInt = 1000000000 from by decide, b32 (by omega) (by omega)]
theorem t_64 (a : Int32) : a.toInt64.toInt = a.toInt := Int32.toInt_toInt64 a
theorem t_bd (a : Int32) : -2147483648 ≤ a.toInt ∧ a.toInt < 2147483648 := ⟨Int32.le_toInt a, Int32.toInt_lt a⟩
theorem u_add (a b : Int32) : (a.toInt64 + b.toInt64).toInt = a.toInt + b.toInt := by
  have h1 := t_bd a; have h2 := t_bd b
  rw [Int64.toInt_add, t_64, t_64, b64 (by omega) (by omega)]
theorem u_sub (a b : Int32) : (a.toInt64 - b.toInt64).toInt = a.toInt - b.toInt := by
  have h1 := t_bd a; have h2 := t_bd b
  rw [Int64.toInt_sub, t_64, t_64, b64 (by omega) (by omega)]
theorem t_mul_bd {x y : Int} (h1 : -2147483648 ≤ x) (h2 : x < 2147483648) (h3 : -2147483648 ≤ y) (h4 : y < 2147483648) : -4611686018427387904 ≤ x * y ∧ x * y ≤ 4611686018427387904 := by
  have h : (x * y).natAbs ≤ 2147483648 * 2147483648 := by
    rw [Int.natAbs_mul]
    exact Nat.mul_le_mul (by omega) (by omega)
  omega
theorem u_mul (a b : Int32) : (a.toInt64 * b.toInt64).toInt = a.toInt * b.toInt := by
  have h1 := t_bd a; have h2 := t_bd b
  have h3 := t_mul_bd h1.1 h1.2 h2.1 h2.2
  rw [Int64.toInt_mul, t_64, t_64, b64 (by omega) (by omega)]
theorem t_n1 : (nI 1).toInt = 1 := by decide
theorem t_add1 {a : Int32} (h : a.toInt < 2147483647) : (a + nI 1).toInt = a.toInt + 1 := by
  have h1 := t_bd a
  rw [Int32.toInt_add, t_n1, b32 (by omega) (by omega)]
theorem t_sub1 {a : Int32} (h : -2147483648 < a.toInt) : (a - nI 1).toInt = a.toInt - 1 := by
  have h1 := t_bd a
  rw [Int32.toInt_sub, t_n1, b32 (by omega) (by omega)]
theorem t_sub0 (x : Int32) : x - nI 0 = x := by rw [nI_0]; exact Int32.sub_zero x
/-- ranges: the low not above the high, in the limits -/
def vS (f : aP) : Prop := ∀ v, v < 6 → -1000000000 ≤ (f.1 v).toInt ∧ (f.1 v).toInt ≤ (f.2 v).toInt ∧ (f.2 v).toInt ≤ 1000000000
theorem vS_rr {f : aP} (h : vS f) : vS (rr f) := fun v hv => by rw [rr_1 hv, rr_2 hv]; exact h v hv
theorem lim_id {a : Int32} (h1 : -1000000000 ≤ a.toInt) (h2 : a.toInt ≤ 1000000000) : lim a.toInt64 = a := t_ext (by rw [t_lim, t_64]; omega)
theorem upd_same {f : Nat → Int32} {i : Nat} {x : Int32} (h : f i = x) : upd f i x = f := by
  funext j; rw [upd_at]
  by_cases q : j = i
  · rw [if_pos q, q, h]
  · rw [if_neg q]
/-- a statement's kinds: the class's 6 (a range), 7 (an integer) are the reference's 7, 6 -/
def kdE (k k' : Int32) : Prop := (k = k' ∧ inB k 6) ∨ (k = nI 6 ∧ k' = nI 7) ∨ (k = nI 7 ∧ k' = nI 6)
theorem nI_ne {a b : Nat} (h : a ≠ b) (ha : a < 2147483648) (hb : b < 2147483648) : ¬ nI a = nI b := fun z => h ((nI_eq ha hb).mp z)
theorem oc_0 (y z : Int32) : oc (nI 0) y z = lim y.toInt64 := by
  show E_X1_outcome _ (nI 0) y z = _
  unfold E_X1_outcome
  rw [if_neg (by decide), if_neg (by decide), if_neg (by decide), if_neg (by decide), if_neg (by decide)]; rfl
theorem oc_1 (y z : Int32) : oc (nI 1) y z = lim (y.toInt64 + z.toInt64) := by
  show E_X1_outcome _ (nI 1) y z = _
  unfold E_X1_outcome
  rw [if_pos rfl]; rfl
theorem oc_2 (y z : Int32) : oc (nI 2) y z = lim (y.toInt64 - z.toInt64) := by
  show E_X1_outcome _ (nI 2) y z = _
  unfold E_X1_outcome
  rw [if_neg (by decide), if_pos rfl]; rfl
theorem oc_3 (y z : Int32) : oc (nI 3) y z = lim (y.toInt64 * z.toInt64) := by
  show E_X1_outcome _ (nI 3) y z = _
  unfold E_X1_outcome
  rw [if_neg (by decide), if_neg (by decide), if_pos rfl]; rfl
theorem oc_4 (y z : Int32) : oc (nI 4) y z = lim (i_mn y z).toInt64 := by
  show E_X1_outcome _ (nI 4) y z = _
  unfold E_X1_outcome
  rw [if_neg (by decide), if_neg (by decide), if_neg (by decide), if_pos rfl]; rfl
theorem oc_5 (y z : Int32) : oc (nI 5) y z = lim (i_mx y z).toInt64 := by
  show E_X1_outcome _ (nI 5) y z = _
  unfold E_X1_outcome
  rw [if_neg (by decide), if_neg (by decide), if_neg (by decide), if_neg (by decide), if_pos rfl]; rfl
theorem stM_0 {x : Nat} {p q : Int32} {f : aP} : stM (nI 0) x p q f = stS x (f.1 (tn p)).toInt64 (f.2 (tn p)).toInt64 f := by unfold stM; rw [if_pos rfl]
theorem stM_1 {x : Nat} {p q : Int32} {f : aP} : stM (nI 1) x p q f = stS x ((f.1 (tn p)).toInt64 + (f.1 (tn q)).toInt64) ((f.2 (tn p)).toInt64 + (f.2 (tn q)).toInt64) f := by unfold stM; rw [if_neg (by decide), if_pos rfl]
theorem stM_2 {x : Nat} {p q : Int32} {f : aP} : stM (nI 2) x p q f = stS x ((f.1 (tn p)).toInt64 - (f.2 (tn q)).toInt64) ((f.2 (tn p)).toInt64 - (f.1 (tn q)).toInt64) f := by unfold stM; rw [if_neg (by decide), if_neg (by decide), if_pos rfl]
theorem stM_4 {x : Nat} {p q : Int32} {f : aP} : stM (nI 4) x p q f = stS x (i_mn (f.1 (tn p)) (f.1 (tn q))).toInt64 (i_mn (f.2 (tn p)) (f.2 (tn q))).toInt64 f := by unfold stM; rw [if_neg (by decide), if_neg (by decide), if_neg (by decide), if_neg (by decide), if_pos rfl]
theorem stM_5 {x : Nat} {p q : Int32} {f : aP} : stM (nI 5) x p q f = stS x (i_mx (f.1 (tn p)) (f.1 (tn q))).toInt64 (i_mx (f.2 (tn p)) (f.2 (tn q))).toInt64 f := by unfold stM; rw [if_neg (by decide), if_neg (by decide), if_neg (by decide), if_neg (by decide), if_neg (by decide), if_pos rfl]
theorem stM_6 {k : Int32} {x : Nat} {p q : Int32} {f : aP} (h : k = nI 6 ∨ k = nI 7) : stM k x p q f = stS x p.toInt64 q.toInt64 f := by
  unfold stM
  rcases h with rfl | rfl <;> rw [if_neg (by decide), if_neg (by decide), if_neg (by decide), if_neg (by decide), if_neg (by decide), if_neg (by decide)]
theorem stA_c {k : Int32} {x : Nat} {p q : Int32} {f : aP} (h : ¬ (k = nI 6 ∨ k = nI 7)) : stA k x p q f = stC k x (tn p) (tn q) f := by unfold stA; rw [if_neg h]
theorem stC_eq {k : Int32} {x y z : Nat} {a d : Int64} {f : aP} (h1 : i_mn (i_mn (oc k (f.1 y) (f.1 z)) (oc k (f.1 y) (f.2 z))) (i_mn (oc k (f.2 y) (f.1 z)) (oc k (f.2 y) (f.2 z))) = lim a) (h2 : i_mx (i_mx (oc k (f.1 y) (f.1 z)) (oc k (f.1 y) (f.2 z))) (i_mx (oc k (f.2 y) (f.1 z)) (oc k (f.2 y) (f.2 z))) = lim d) : stC k x y z f = stS x a d f := by
  unfold stC stS; rw [h1, h2]
/-- a statement is the same on both sides -/
theorem st_eq {k k' : Int32} {x : Nat} {p q : Int32} {f : aP} (hk : kdE k k') (hf : vS f) (hpq : inB k 6 → tn p < 6 ∧ tn q < 6) (hin : ¬ inB k 6 → -1000000000 ≤ p.toInt ∧ p.toInt ≤ q.toInt ∧ q.toInt ≤ 1000000000) : stA k x p q f = stM k' x p q f := by
  have not6 : ∀ n, 6 ≤ n → n < 2147483648 → ¬ inB (nI n) 6 := fun n h1 h2 => by
    rintro ⟨b, hb, e⟩
    have := (nI_eq h2 (by omega)).mp e
    omega
  rcases hk with ⟨rfl, hb⟩ | ⟨rfl, rfl⟩ | ⟨rfl, rfl⟩
  · obtain ⟨hp, hq⟩ := hpq hb
    have vp := hf _ hp
    have vq := hf _ hq
    obtain ⟨n, hn, rfl⟩ := hb
    rcases (show n = 0 ∨ n = 1 ∨ n = 2 ∨ n = 3 ∨ n = 4 ∨ n = 5 by omega) with rfl | rfl | rfl | rfl | rfl | rfl
    · rw [stA_c (by decide), stM_0]
      refine stC_eq ?_ ?_
      · rw [oc_0, oc_0, oc_0, oc_0]; apply t_ext; simp only [t_mn, t_lim, t_64]; omega
      · rw [oc_0, oc_0, oc_0, oc_0]; apply t_ext; simp only [t_mx, t_lim, t_64]; omega
    · rw [stA_c (by decide), stM_1]
      refine stC_eq ?_ ?_
      · rw [oc_1, oc_1, oc_1, oc_1]; apply t_ext; simp only [t_mn, t_lim, u_add]; omega
      · rw [oc_1, oc_1, oc_1, oc_1]; apply t_ext; simp only [t_mx, t_lim, u_add]; omega
    · rw [stA_c (by decide), stM_2]
      refine stC_eq ?_ ?_
      · rw [oc_2, oc_2, oc_2, oc_2]; apply t_ext; simp only [t_mn, t_lim, u_sub]; omega
      · rw [oc_2, oc_2, oc_2, oc_2]; apply t_ext; simp only [t_mx, t_lim, u_sub]; omega
    · rw [stA_c (by decide)]
      unfold stM
      rw [if_neg (by decide), if_neg (by decide), if_neg (by decide), if_pos rfl]
      refine stC_eq ?_ ?_
      · rw [oc_3, oc_3, oc_3, oc_3]; apply t_ext; simp only [t_mn, t_lim, u_mn]; omega
      · rw [oc_3, oc_3, oc_3, oc_3]; apply t_ext; simp only [t_mx, t_lim, u_mx]; omega
    · rw [stA_c (by decide), stM_4]
      refine stC_eq ?_ ?_
      · rw [oc_4, oc_4, oc_4, oc_4]; apply t_ext; simp only [t_mn, t_lim, t_64]; omega
      · rw [oc_4, oc_4, oc_4, oc_4]; apply t_ext; simp only [t_mn, t_mx, t_lim, t_64]; omega
    · rw [stA_c (by decide), stM_5]
      refine stC_eq ?_ ?_
      · rw [oc_5, oc_5, oc_5, oc_5]; apply t_ext; simp only [t_mn, t_mx, t_lim, t_64]; omega
      · rw [oc_5, oc_5, oc_5, oc_5]; apply t_ext; simp only [t_mx, t_lim, t_64]; omega
  · have v := hin (not6 6 (by omega) (by decide))
    rw [stM_6 (Or.inr rfl)]
    unfold stA stS
    rw [if_pos (Or.inl rfl), lim_id (by omega) (by omega), lim_id (by omega) (by omega)]
  · have v := hin (not6 7 (by omega) (by decide))
    rw [stM_6 (Or.inl rfl)]
    unfold stA stS
    rw [if_pos (Or.inr rfl), lim_id (by omega) (by omega), lim_id (by omega) (by omega)]
