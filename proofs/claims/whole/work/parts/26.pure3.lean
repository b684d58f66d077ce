/-! ===== thresholds, widening; flows: pure ===== -/
def gu (M : wM) (v : Int32) : Nat → Int32
  | 0 => -1000000000
  | k + 1 => if v < M 333 k then gu M v k else if M 333 k ≤ gu M v k then gu M v k else M 333 k
def sm (M : wM) (v : Int32) : Nat → Int32
  | 0 => 1000000000
  | k + 1 => if M 333 k < v then sm M v k else if sm M v k ≤ M 333 k then sm M v k else M 333 k
theorem gu_1 {M : wM} {v : Int32} {k : Nat} (h : v < M 333 k) : gu M v (k + 1) = gu M v k := by
  show (if v < M 333 k then gu M v k else if M 333 k ≤ gu M v k then gu M v k else M 333 k) = _
  rw [if_pos h]
theorem gu_2 {M : wM} {v : Int32} {k : Nat} (h : ¬ v < M 333 k) (g : M 333 k ≤ gu M v k) : gu M v (k + 1) = gu M v k := by
  show (if v < M 333 k then gu M v k else if M 333 k ≤ gu M v k then gu M v k else M 333 k) = _
  rw [if_neg h, if_pos g]
theorem gu_3 {M : wM} {v : Int32} {k : Nat} (h : ¬ v < M 333 k) (g : ¬ M 333 k ≤ gu M v k) : gu M v (k + 1) = M 333 k := by
  show (if v < M 333 k then gu M v k else if M 333 k ≤ gu M v k then gu M v k else M 333 k) = _
  rw [if_neg h, if_neg g]
theorem sm_1 {M : wM} {v : Int32} {k : Nat} (h : M 333 k < v) : sm M v (k + 1) = sm M v k := by
  show (if M 333 k < v then sm M v k else if sm M v k ≤ M 333 k then sm M v k else M 333 k) = _
  rw [if_pos h]
theorem sm_2 {M : wM} {v : Int32} {k : Nat} (h : ¬ M 333 k < v) (g : sm M v k ≤ M 333 k) : sm M v (k + 1) = sm M v k := by
  show (if M 333 k < v then sm M v k else if sm M v k ≤ M 333 k then sm M v k else M 333 k) = _
  rw [if_neg h, if_pos g]
theorem sm_3 {M : wM} {v : Int32} {k : Nat} (h : ¬ M 333 k < v) (g : ¬ sm M v k ≤ M 333 k) : sm M v (k + 1) = M 333 k := by
  show (if M 333 k < v then sm M v k else if sm M v k ≤ M 333 k then sm M v k else M 333 k) = _
  rw [if_neg h, if_neg g]
theorem gu_eq {M M1 : wM} (h : M1 333 = M 333) (v : Int32) : ∀ t, gu M1 v t = gu M v t
  | 0 => rfl
  | t + 1 => by
    show (if v < M1 333 t then gu M1 v t else if M1 333 t ≤ gu M1 v t then gu M1 v t else M1 333 t) = (if v < M 333 t then gu M v t else if M 333 t ≤ gu M v t then gu M v t else M 333 t)
    rw [gu_eq h v t, h]
theorem sm_eq {M M1 : wM} (h : M1 333 = M 333) (v : Int32) : ∀ t, sm M1 v t = sm M v t
  | 0 => rfl
  | t + 1 => by
    show (if M1 333 t < v then sm M1 v t else if sm M1 v t ≤ M1 333 t then sm M1 v t else M1 333 t) = (if M 333 t < v then sm M v t else if sm M v t ≤ M 333 t then sm M v t else M 333 t)
    rw [sm_eq h v t, h]
/-- a low (a high) of the join that has left the earlier one goes to a threshold -/
def wlo (M : wM) (t : Nat) (a c : Int32) : Int32 := if c ≤ a then a else gu M a t
def whi (M : wM) (t : Nat) (a c : Int32) : Int32 := if a ≤ c then a else sm M a t
def wd (M : wM) (t : Nat) (a c : aS) : aS := match a, c with
  | some f, some g => some (r6 (fun v => wlo M t (f.1 v) (g.1 v)), r6 (fun v => whi M t (f.2 v) (g.2 v)))
  | a, _ => a
theorem Iw_step {f g : Int32 → Int32 → Int32} {M M1 M2 : wM} {i j k : Nat} (h : I2 f g M i j k M1) (hk : kp M1 M2 (fun c => c = 3 * i + 1 ∨ c = 3 * i + 2)) (ho : ∀ v, v ≠ k → M2 (3 * i + 1) v = M1 (3 * i + 1) v ∧ M2 (3 * i + 2) v = M1 (3 * i + 2) v) (hl : M2 (3 * i + 1) k = f (M (3 * i + 1) k) (M (3 * j + 1) k)) (hh : M2 (3 * i + 2) k = g (M (3 * i + 2) k) (M (3 * j + 2) k)) : I2 f g M i j (k + 1) M2 := by
  refine ⟨kp_trans h.1 hk, fun v => ?_⟩
  by_cases q : v = k
  · subst q
    simp [hl, hh]
  · rw [(ho v q).1, (ho v q).2, (h.2 v).1, (h.2 v).2]
    by_cases q2 : v < k
    · simp [q2, show v < k + 1 by omega]
    · simp [q2, show ¬ v < k + 1 by omega]
theorem I2_at {f g : Int32 → Int32 → Int32} {M M1 : wM} {i j k : Nat} (hij : i ≠ j) (h : I2 f g M i j k M1) : M1 (3 * i + 1) k = M (3 * i + 1) k ∧ M1 (3 * i + 2) k = M (3 * i + 2) k ∧ M1 (3 * j + 1) = M (3 * j + 1) ∧ M1 (3 * j + 2) = M (3 * j + 2) := by
  refine ⟨by rw [(h.2 k).1, if_neg (Nat.lt_irrefl k)], by rw [(h.2 k).2, if_neg (Nat.lt_irrefl k)], h.1 _ (by omega), h.1 _ (by omega)⟩
theorem Iw_1 {M M1 : wM} {i j k t : Nat} (hij : i ≠ j) (h : I2 (wlo M t) (whi M t) M i j k M1) (c1 : M1 (3 * j + 1) k ≤ M1 (3 * i + 1) k) (c2 : M1 (3 * i + 2) k ≤ M1 (3 * j + 2) k) : I2 (wlo M t) (whi M t) M i j (k + 1) M1 := by
  obtain ⟨a1, a2, a3, a4⟩ := I2_at hij h
  rw [a1, a3] at c1; rw [a2, a4] at c2
  exact Iw_step h (kp_refl _ _) (fun v _ => ⟨rfl, rfl⟩) (by rw [a1, wlo, if_pos c1]) (by rw [a2, whi, if_pos c2])
theorem Iw_2 {M M1 : wM} {i j k t : Nat} (hi : i < 67) (hij : i ≠ j) (h : I2 (wlo M t) (whi M t) M i j k M1) (c1 : ¬ M1 (3 * j + 1) k ≤ M1 (3 * i + 1) k) (c2 : (wU M1 (3 * i + 1) k (gu M1 (M1 (3 * i + 1) k) t)) (3 * i + 2) k ≤ (wU M1 (3 * i + 1) k (gu M1 (M1 (3 * i + 1) k) t)) (3 * j + 2) k) : I2 (wlo M t) (whi M t) M i j (k + 1) (wU M1 (3 * i + 1) k (gu M1 (M1 (3 * i + 1) k) t)) := by
  obtain ⟨a1, a2, a3, a4⟩ := I2_at hij h
  rw [wU_ne (by omega), wU_ne (by omega), a2, a4] at c2
  rw [a1, a3] at c1
  refine Iw_step h (kp_U (Or.inl rfl)) (fun v hv => ⟨?_, ?_⟩) ?_ ?_
  · rw [wU_at, if_neg (fun z => hv z.2)]
  · rw [wU_ne (by omega)]
  · rw [wU_at, if_pos ⟨rfl, rfl⟩, a1, gu_eq (h.1 333 (by omega)), wlo, if_neg c1]
  · rw [wU_ne (by omega), a2, whi, if_pos c2]
theorem Iw_3 {M M1 : wM} {i j k t : Nat} (hi : i < 67) (hij : i ≠ j) (h : I2 (wlo M t) (whi M t) M i j k M1) (c1 : M1 (3 * j + 1) k ≤ M1 (3 * i + 1) k) (c2 : ¬ M1 (3 * i + 2) k ≤ M1 (3 * j + 2) k) : I2 (wlo M t) (whi M t) M i j (k + 1) (wU M1 (3 * i + 2) k (sm M1 (M1 (3 * i + 2) k) t)) := by
  obtain ⟨a1, a2, a3, a4⟩ := I2_at hij h
  rw [a1, a3] at c1; rw [a2, a4] at c2
  refine Iw_step h (kp_U (Or.inr rfl)) (fun v hv => ⟨?_, ?_⟩) ?_ ?_
  · rw [wU_ne (by omega)]
  · rw [wU_at, if_neg (fun z => hv z.2)]
  · rw [wU_ne (by omega), a1, wlo, if_pos c1]
  · rw [wU_at, if_pos ⟨rfl, rfl⟩, a2, sm_eq (h.1 333 (by omega)), whi, if_neg c2]
theorem Iw_4 {M M1 : wM} {i j k t : Nat} (hi : i < 67) (hij : i ≠ j) (h : I2 (wlo M t) (whi M t) M i j k M1) (c1 : ¬ M1 (3 * j + 1) k ≤ M1 (3 * i + 1) k) (c2 : ¬ (wU M1 (3 * i + 1) k (gu M1 (M1 (3 * i + 1) k) t)) (3 * i + 2) k ≤ (wU M1 (3 * i + 1) k (gu M1 (M1 (3 * i + 1) k) t)) (3 * j + 2) k) : I2 (wlo M t) (whi M t) M i j (k + 1) (wU (wU M1 (3 * i + 1) k (gu M1 (M1 (3 * i + 1) k) t)) (3 * i + 2) k (sm (wU M1 (3 * i + 1) k (gu M1 (M1 (3 * i + 1) k) t)) ((wU M1 (3 * i + 1) k (gu M1 (M1 (3 * i + 1) k) t)) (3 * i + 2) k) t)) := by
  obtain ⟨a1, a2, a3, a4⟩ := I2_at hij h
  rw [wU_ne (by omega), wU_ne (by omega), a2, a4] at c2
  rw [a1, a3] at c1
  refine Iw_step h (kp_trans (kp_U (Or.inl rfl)) (kp_U (Or.inr rfl))) (fun v hv => ⟨?_, ?_⟩) ?_ ?_
  · rw [wU_ne (by omega), wU_at, if_neg (fun z => hv z.2)]
  · rw [wU_at, if_neg (fun z => hv z.2), wU_ne (by omega)]
  · rw [wU_ne (by omega), wU_at, if_pos ⟨rfl, rfl⟩, a1, gu_eq (h.1 333 (by omega)), wlo, if_neg c1]
  · rw [wU_at, if_pos ⟨rfl, rfl⟩, wU_ne (by omega), a2, sm_eq (M := M) (by rw [wU_ne (by omega)]; exact h.1 333 (by omega)), whi, if_neg c2]
theorem p_wd {M M1 : wM} {J : wJ} {i j t : Nat} (h0 : M (3 * i) 0 = 0) (h1 : M (3 * j) 0 = 0) (h : I2 (wlo M t) (whi M t) M i j 6 M1) : pS M J i (wd M t (sv M i) (sv M j)) (M1, J) := by
  refine ⟨rfl, I2_kp h, ?_, ?_⟩
  · show bz (M1 (3 * i) 0)
    rw [I2_z h, h0]; exact bz_0
  · show sv M1 i = _
    rw [I2_sv h h0, sv_some h0, sv_some h1]; rfl
/-- the threshold v is there among the first t -/
def thIn (M : wM) (v : Int32) (t : Nat) : Prop := ∃ a, a < t ∧ M 333 a = v
def mnE (M : wM) (b : Nat) : Nat → wM
  | 0 => M
  | k + 1 => wU (mnE M b k) (3 * (5 + 4 * b + k)) 0 (nI 1)
/-- edges of a block that are dead, of the first n -/
def dedN (M : wM) (b : Nat) : Nat → Nat
  | 0 => 0
  | k + 1 => dedN M b k + (if M (3 * (5 + 4 * b + k)) 0 = 0 then 0 else 1)
theorem dedN_1 {M : wM} {b k : Nat} (h : M (3 * (5 + 4 * b + k)) 0 = 0) : dedN M b (k + 1) = dedN M b k := by
  show dedN M b k + (if M (3 * (5 + 4 * b + k)) 0 = 0 then 0 else 1) = _
  rw [if_pos h]; rfl
theorem dedN_2 {M : wM} {b k : Nat} (h : ¬ M (3 * (5 + 4 * b + k)) 0 = 0) : dedN M b (k + 1) = dedN M b k + 1 := by
  show dedN M b k + (if M (3 * (5 + 4 * b + k)) 0 = 0 then 0 else 1) = _
  rw [if_neg h]
theorem dedN_le (M : wM) (b : Nat) : ∀ k, dedN M b k ≤ k
  | 0 => Nat.le_refl 0
  | k + 1 => by
    have := dedN_le M b k
    show dedN M b k + (if M (3 * (5 + 4 * b + k)) 0 = 0 then 0 else 1) ≤ k + 1
    by_cases h : M (3 * (5 + 4 * b + k)) 0 = 0
    · rw [if_pos h]; omega
    · rw [if_neg h]; omega
def dedF (M : wM) (b n : Nat) : Nat := if M (3 * (3 + 4 * b)) 0 = 0 then dedN M b n else 0
