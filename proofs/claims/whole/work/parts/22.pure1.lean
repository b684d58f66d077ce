/-! ===== pure facts of the states' methods ===== -/
theorem upd_at (f : Nat → Int32) (k : Nat) (v : Int32) (j : Nat) : upd f k v j = if j = k then v else f j := rfl
theorem sv_none {M : wM} {i : Nat} (h : ¬ M (3 * i) 0 = 0) : sv M i = none := by unfold sv; rw [if_neg h]
theorem sv_some {M : wM} {i : Nat} (h : M (3 * i) 0 = 0) : sv M i = some (r6 (M (3 * i + 1)), r6 (M (3 * i + 2))) := by unfold sv; rw [if_pos h]
theorem bz_0 : bz 0 := Or.inl nI_0.symm
theorem become_0 {M : wM} {i j : Nat} : F_X7_become M i j (3 * i) = upd (M (3 * i)) 0 (M (3 * j) 0) := by
  unfold F_X7_become
  rw [va_up_ne _ _ (by omega), va_up_ne _ _ (by omega), wU_self]
theorem become_1 {M : wM} {i j : Nat} : F_X7_become M i j (3 * i + 1) = va_cpy (M (3 * j + 1)) (M (3 * i + 1)) 0 0 6 := by
  unfold F_X7_become
  rw [va_up_ne _ _ (by omega), va_up_self, wU_ne (by omega), wU_ne (by omega)]
theorem become_2 {M : wM} {i j : Nat} (h : i ≠ j) : F_X7_become M i j (3 * i + 2) = va_cpy (M (3 * j + 2)) (M (3 * i + 2)) 0 0 6 := by
  unfold F_X7_become
  rw [va_up_self, va_up_ne _ _ (by omega), wU_ne (by omega), va_up_ne _ _ (by omega), wU_ne (by omega)]
theorem become_kp {M : wM} {i j : Nat} : kp M (F_X7_become M i j) (stc i) := fun c hc => by
  unfold stc at hc
  unfold F_X7_become
  rw [va_up_ne _ _ (by omega), va_up_ne _ _ (by omega), wU_ne (by omega)]
theorem become_z {M : wM} {i j : Nat} : F_X7_become M i j (3 * i) 0 = M (3 * j) 0 := by rw [become_0]; simp [upd]
theorem cpy6 {f g : Nat → Int32} {v : Nat} (h : v < 6) : va_cpy f g 0 0 6 v = f v := by
  rw [pk_cpy_in (by omega) (by omega)]; simp
theorem become_sv {M : wM} {i j : Nat} (h : i ≠ j) : sv (F_X7_become M i j) i = sv M j := by
  unfold sv
  rw [become_z, become_1, become_2 h, r6_ext (fun v hv => cpy6 hv), r6_ext (f := va_cpy (M (3 * j + 2)) (M (3 * i + 2)) 0 0 6) (fun v hv => cpy6 hv)]
/-- two rows of a state, changed up to k by a second state's -/
def I2 (f g : Int32 → Int32 → Int32) (M : wM) (i j k : Nat) (M1 : wM) : Prop := kp M M1 (fun c => c = 3 * i + 1 ∨ c = 3 * i + 2) ∧ ∀ v, M1 (3 * i + 1) v = (if v < k then f (M (3 * i + 1) v) (M (3 * j + 1) v) else M (3 * i + 1) v) ∧ M1 (3 * i + 2) v = (if v < k then g (M (3 * i + 2) v) (M (3 * j + 2) v) else M (3 * i + 2) v)
theorem I2_0 {f g : Int32 → Int32 → Int32} {M : wM} {i j : Nat} : I2 f g M i j 0 M := ⟨kp_refl _ _, fun v => ⟨by simp, by simp⟩⟩
theorem I2_step {f g : Int32 → Int32 → Int32} {M M1 : wM} {i j k : Nat} (hij : i ≠ j) (h : I2 f g M i j k M1) : I2 f g M i j (k + 1) (wU (wU M1 (3 * i + 1) k (f (M1 (3 * i + 1) k) (M1 (3 * j + 1) k))) (3 * i + 2) k (g ((wU M1 (3 * i + 1) k (f (M1 (3 * i + 1) k) (M1 (3 * j + 1) k))) (3 * i + 2) k) ((wU M1 (3 * i + 1) k (f (M1 (3 * i + 1) k) (M1 (3 * j + 1) k))) (3 * j + 2) k))) := by
  obtain ⟨hk, hv⟩ := h
  have a1 : M1 (3 * j + 1) = M (3 * j + 1) := hk _ (by omega)
  have a2 : M1 (3 * j + 2) = M (3 * j + 2) := hk _ (by omega)
  refine ⟨fun c hc => ?_, fun v => ?_⟩
  · rw [wU_ne (by omega), wU_ne (by omega)]; exact hk c hc
  · rw [wU_at, wU_at, wU_at, wU_at, wU_at, wU_at, if_neg (show ¬ (3 * i + 1 = 3 * i + 2 ∧ v = k) by omega), if_neg (show ¬ (3 * i + 2 = 3 * i + 1 ∧ v = k) by omega), if_neg (show ¬ (3 * i + 2 = 3 * i + 1 ∧ k = k) by omega), if_neg (show ¬ (3 * j + 2 = 3 * i + 1 ∧ k = k) by omega), a1, a2, (hv v).1, (hv v).2, (hv k).1, (hv k).2, if_neg (Nat.lt_irrefl k), if_neg (Nat.lt_irrefl k)]
    by_cases q : v = k
    · subst q
      simp
    · by_cases q2 : v < k
      · simp [q, q2, show v < k + 1 by omega]
      · simp [q, q2, show ¬ v < k + 1 by omega]
theorem I2_z {f g : Int32 → Int32 → Int32} {M M1 : wM} {i j k : Nat} (h : I2 f g M i j k M1) : M1 (3 * i) = M (3 * i) := h.1 _ (by omega)
theorem I2_kp {f g : Int32 → Int32 → Int32} {M M1 : wM} {i j k : Nat} (h : I2 f g M i j k M1) : kp M M1 (stc i) := kp_mono h.1 (fun c hc => by unfold stc; omega)
theorem I2_sv {f g : Int32 → Int32 → Int32} {M M1 : wM} {i j : Nat} (h : I2 f g M i j 6 M1) (h0 : M (3 * i) 0 = 0) : sv M1 i = some (r6 (fun v => f (r6 (M (3 * i + 1)) v) (r6 (M (3 * j + 1)) v)), r6 (fun v => g (r6 (M (3 * i + 2)) v) (r6 (M (3 * j + 2)) v))) := by
  unfold sv
  rw [I2_z h, if_pos h0, r6_ext (g := fun v => f (r6 (M (3 * i + 1)) v) (r6 (M (3 * j + 1)) v)) (fun v hv => by rw [(h.2 v).1, if_pos hv, r6_lt hv, r6_lt hv]), r6_ext (f := M1 (3 * i + 2)) (g := fun v => g (r6 (M (3 * i + 2)) v) (r6 (M (3 * j + 2)) v)) (fun v hv => by rw [(h.2 v).2, if_pos hv, r6_lt hv, r6_lt hv])]
/-- what a method of the state i leaves: all else as it was, a boolean, the state a -/
def pS (M : wM) (J : wJ) (i : Nat) (a : aS) (u : wM × wJ) : Prop := u.2 = J ∧ kp M u.1 (stc i) ∧ bz (u.1 (3 * i) 0) ∧ sv u.1 i = a
theorem p_join1 {M : wM} {J : wJ} {i j : Nat} (hz : bz (M (3 * i) 0)) (h : ¬ M (3 * j) 0 = 0) : pS M J i (jn (sv M i) (sv M j)) (M, J) := by
  refine ⟨rfl, kp_refl _ _, hz, ?_⟩
  rw [sv_none h]
  cases sv M i <;> rfl
theorem p_join2 {M : wM} {J : wJ} {i j : Nat} (hij : i ≠ j) (hz : bz (M (3 * j) 0)) (h : ¬ M (3 * i) 0 = 0) : pS M J i (jn (sv M i) (sv M j)) (F_X7_become M i j, J) := by
  refine ⟨rfl, become_kp, ?_, ?_⟩
  · show bz (F_X7_become M i j (3 * i) 0)
    rw [become_z]; exact hz
  · show sv (F_X7_become M i j) i = _
    rw [become_sv hij, sv_none h]
    cases sv M j <;> rfl
theorem p_join3 {M M1 : wM} {J : wJ} {i j : Nat} (h0 : M (3 * i) 0 = 0) (h1 : M (3 * j) 0 = 0) (h : I2 i_mn i_mx M i j 6 M1) : pS M J i (jn (sv M i) (sv M j)) (M1, J) := by
  refine ⟨rfl, I2_kp h, ?_, ?_⟩
  · show bz (M1 (3 * i) 0)
    rw [I2_z h, h0]; exact bz_0
  · show sv M1 i = _
    rw [I2_sv h h0, sv_some h0, sv_some h1]; rfl
theorem p_nar1 {M : wM} {J : wJ} {i j : Nat} (h : ¬ M (3 * i) 0 = 0 ∨ ¬ M (3 * j) 0 = 0) : pS M J i (nw (sv M i) (sv M j)) (wU M (3 * i) 0 (nI 1), J) := by
  refine ⟨rfl, kp_U (Or.inl rfl), ?_, ?_⟩
  · show bz (wU M (3 * i) 0 (nI 1) (3 * i) 0)
    rw [wU_at, if_pos ⟨rfl, rfl⟩]; exact Or.inr rfl
  · show sv (wU M (3 * i) 0 (nI 1)) i = _
    rw [sv_none (M := wU M (3 * i) 0 (nI 1)) (by rw [wU_at, if_pos ⟨rfl, rfl⟩]; decide)]
    rcases h with h | h
    · rw [sv_none h]; rfl
    · rw [sv_none h]; cases sv M i <;> rfl
theorem p_nar2 {M M1 : wM} {J : wJ} {i j : Nat} (h0 : M (3 * i) 0 = 0) (h1 : M (3 * j) 0 = 0) (h : I2 i_mx i_mn M i j 6 M1) : pS M J i (nw (sv M i) (sv M j)) (M1, J) := by
  refine ⟨rfl, I2_kp h, ?_, ?_⟩
  · show bz (M1 (3 * i) 0)
    rw [I2_z h, h0]; exact bz_0
  · show sv M1 i = _
    rw [I2_sv h h0, sv_some h0, sv_some h1]; rfl
/-- the first k variables of two states are the same -/
def Id (M : wM) (i j k : Nat) : Prop := ∀ v, v < k → M (3 * i + 1) v = M (3 * j + 1) v ∧ M (3 * i + 2) v = M (3 * j + 2) v
theorem Id_step {M : wM} {i j k : Nat} (h : Id M i j k) (a : M (3 * i + 1) k = M (3 * j + 1) k) (b : M (3 * i + 2) k = M (3 * j + 2) k) : Id M i j (k + 1) := fun v hv => by
  by_cases q : v = k
  · subst q; exact ⟨a, b⟩
  · exact h v (by omega)
theorem Id_0 {M : wM} {i j : Nat} : Id M i j 0 := fun v hv => absurd hv (Nat.not_lt_zero v)
theorem Id_end {M : wM} {i j : Nat} (h : Id M i j 6) (h0 : M (3 * i) 0 = 0) (h1 : M (3 * j) 0 = 0) : sv M i = sv M j := by
  rw [sv_some h0, sv_some h1, r6_ext (fun v hv => (h v hv).1), r6_ext (f := M (3 * i + 2)) (fun v hv => (h v hv).2)]
theorem Id_ne {M : wM} {i j k : Nat} (hk : k < 6) (h0 : M (3 * i) 0 = 0) (h1 : M (3 * j) 0 = 0) (h : ¬ M (3 * i + 1) k = M (3 * j + 1) k ∨ ¬ M (3 * i + 2) k = M (3 * j + 2) k) : ¬ sv M i = sv M j := by
  rw [sv_some h0, sv_some h1]
  intro q
  have q := Option.some.inj q
  have q1 := congrFun (congrArg Prod.fst q) k
  have q2 := congrFun (congrArg Prod.snd q) k
  simp only [r6_lt hk] at q1 q2
  rcases h with h | h
  · exact h q1
  · exact h q2
theorem Id_z {M : wM} {i j : Nat} (zi : bz (M (3 * i) 0)) (zj : bz (M (3 * j) 0)) (h : ¬ M (3 * i) 0 = 0 ∨ ¬ M (3 * j) 0 = 0) : M (3 * i) 0 = M (3 * j) 0 ↔ sv M i = sv M j := by
  rw [bz, nI_0] at zi zj
  rcases zi with a | a <;> rcases zj with b | b
  · simp [a, b] at h
  · rw [a, b, sv_some a, sv_none (M := M) (i := j) (by rw [b]; decide)]
    exact ⟨fun q => absurd q (by decide), fun q => by cases q⟩
  · rw [a, b, sv_some b, sv_none (M := M) (i := i) (by rw [a]; decide)]
    exact ⟨fun q => absurd q (by decide), fun q => by cases q⟩
  · rw [a, b, sv_none (M := M) (i := i) (by rw [a]; decide), sv_none (M := M) (i := j) (by rw [b]; decide)]
    exact ⟨fun _ => rfl, fun _ => rfl⟩
theorem isC_0 {M : wM} {i v : Nat} : E_X7_isConstant M i v = 0 ↔ ¬ M (3 * i + 1) v = M (3 * i + 2) v := by
  unfold E_X7_isConstant
  by_cases h : M (3 * i + 1) v = M (3 * i + 2) v
  · rw [if_pos h]; exact ⟨fun q => absurd q (by decide), fun q => absurd h q⟩
  · rw [if_neg h]; exact ⟨fun _ => h, fun _ => by decide⟩
/-- how many of the first k variables have one integer -/
def ccn (f g : Nat → Int32) : Nat → Nat
  | 0 => 0
  | k + 1 => ccn f g k + (if f k = g k then 1 else 0)
theorem ccn_le (f g : Nat → Int32) : ∀ k, ccn f g k ≤ k
  | 0 => Nat.le_refl 0
  | k + 1 => by
    have := ccn_le f g k
    show ccn f g k + (if f k = g k then 1 else 0) ≤ k + 1
    by_cases h : f k = g k
    · rw [if_pos h]; omega
    · rw [if_neg h]; omega
theorem ccn_1 {f g : Nat → Int32} {k : Nat} (h : f k = g k) : ccn f g (k + 1) = ccn f g k + 1 := by
  show ccn f g k + (if f k = g k then 1 else 0) = _
  rw [if_pos h]
theorem ccn_2 {f g : Nat → Int32} {k : Nat} (h : ¬ f k = g k) : ccn f g (k + 1) = ccn f g k := by
  show ccn f g k + (if f k = g k then 1 else 0) = _
  rw [if_neg h]; rfl
theorem ccn_ext {f g f' g' : Nat → Int32} : ∀ k, (∀ v, v < k → f v = f' v ∧ g v = g' v) → ccn f g k = ccn f' g' k
  | 0, _ => rfl
  | k + 1, h => by
    show ccn f g k + (if f k = g k then 1 else 0) = ccn f' g' k + (if f' k = g' k then 1 else 0)
    rw [ccn_ext k (fun v hv => h v (by omega)), (h k (by omega)).1, (h k (by omega)).2]
def ccS (a : aS) : Nat := match a with
  | none => 0
  | some f => ccn f.1 f.2 6
theorem ccS_none {M : wM} {i : Nat} (h : ¬ M (3 * i) 0 = 0) : ccS (sv M i) = 0 := by rw [sv_none h]; rfl
theorem ccS_some {M : wM} {i : Nat} (h : M (3 * i) 0 = 0) : ccS (sv M i) = ccn (M (3 * i + 1)) (M (3 * i + 2)) 6 := by
  rw [sv_some h]
  exact ccn_ext 6 (fun v hv => ⟨r6_lt hv, r6_lt hv⟩)
