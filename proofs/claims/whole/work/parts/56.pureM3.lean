/-! ===== the reference's gathering, pure ===== -/
def gC (c : Nat) : Prop := c = 0 ∨ c = 16 ∨ c = 17 ∨ c = 18 ∨ c = 19
/-- but for the rows at work and hasJoin, all is as it was -/
def mK (M M' : wM) : Prop := kp M M' gC ∧ ∀ j, j ≠ 23 → M' 0 j = M 0 j
theorem mK_refl (M : wM) : mK M M := ⟨kp_refl _ _, fun _ _ => rfl⟩
theorem mK_trans {M M' M'' : wM} (h : mK M M') (g : mK M' M'') : mK M M'' := ⟨kp_trans h.1 g.1, fun j hj => (g.2 j hj).trans (h.2 j hj)⟩
theorem mK_m67 {M M' : wM} (h : kp M M' m67) : mK M M' := ⟨kp_mono h (fun c hc => by unfold gC; unfold m67 at hc; omega), fun j _ => congrFun (h 0 (by unfold m67; omega)) j⟩
theorem mK_at {M M' : wM} (h : mK M M') (c : Nat) (hc : 1 ≤ c ∧ c ≤ 15 ∨ 20 ≤ c) : M' c = M c := h.1 c (by unfold gC; omega)
theorem mK_Sz {M M' : wM} (h : mK M M') (g : ∀ b, b < 16 → M 1 b = nI (tn (M 1 b)) ∧ tn (M 1 b) ≤ 8) : ∀ b, b < 16 → M' 1 b = nI (tn (M' 1 b)) ∧ tn (M' 1 b) ≤ 8 := by
  rw [mK_at h 1 (by omega)]; exact g
theorem mK_St {M M' : wM} (h : mK M M') (g : ∀ b, b < 16 → ∀ a, a < tn (M 1 b) → st9 M b a) : ∀ b, b < 16 → ∀ a, a < tn (M' 1 b) → st9 M' b a := by
  unfold st9 at *
  rw [mK_at h 1 (by omega), mK_at h 2 (by omega)]; exact g
theorem mK_Ed {M M' : wM} (h : mK M M') (g : ∀ b, b < 16 → M 3 b = nI (tn (M 3 b)) ∧ tn (M 3 b) ≤ 2) : ∀ b, b < 16 → M' 3 b = nI (tn (M' 3 b)) ∧ tn (M' 3 b) ≤ 2 := by
  rw [mK_at h 3 (by omega)]; exact g
theorem mK_XY {M M' : wM} (h : mK M M') (g : ∀ b, b < 16 → isV (M 6 b) ∧ isV (M 7 b)) : ∀ b, b < 16 → isV (M' 6 b) ∧ isV (M' 7 b) := by
  rw [mK_at h 6 (by omega), mK_at h 7 (by omega)]; exact g
theorem mK_R8 {M M' : wM} (h : mK M M') (g : ∀ b, b < 16 → inB (M 8 b) 4) : ∀ b, b < 16 → inB (M' 8 b) 4 := by
  rw [mK_at h 8 (by omega)]; exact g
theorem apm_eq {M M' : wM} {b : Nat} {f : aP} (h : M' 2 = M 2) : ∀ n, apm M' b f n = apm M b f n
  | 0 => rfl
  | n + 1 => by
    show stM (M' 2 _) (tn (M' 2 _)) (M' 2 _) (M' 2 _) (apm M' b f n) = stM (M 2 _) (tn (M 2 _)) (M 2 _) (M 2 _) (apm M b f n)
    rw [apm_eq h n, h]
theorem mK_apF {M M' : wM} {b : Nat} (h : mK M M') : apF M' b = apF M b := by
  unfold apF rw9
  rw [apm_eq (mK_at h 2 (by omega)), mK_at h 1 (by omega), mK_at h 13 (by omega), mK_at h 14 (by omega)]
theorem mK_rcm {M M' : wM} {b e : Nat} (h : mK M M') : rcm M' b e = rcm M b e := by
  unfold rcm edm
  rw [mK_apF h, mK_at h 12 (by omega), mK_at h 3 (by omega), mK_at h 6 (by omega), mK_at h 7 (by omega), mK_at h 8 (by omega)]
def folm (M : wM) (b e : Nat) : Int32 := if e = 0 then M 4 b else M 5 b
def gmE (M : wM) (t b : Nat) : Nat → aS → aS
  | 0, a => a
  | e + 1, a => if folm M b e = nI t then jn (gmE M t b e a) (rcm M b e) else gmE M t b e a
def gmB (M : wM) (t : Nat) : Nat → aS → aS
  | 0, a => a
  | b + 1, a => gmE M t b (tn (M 3 b)) (gmB M t b a)
def gatm (M : wM) (cnt t : Nat) : aS := if t = 0 then jn (gmB M t cnt none) (some (rr (M 9, M 10))) else gmB M t cnt none
theorem gmE_1 {M : wM} {t b e : Nat} {a : aS} (h : folm M b e = nI t) : gmE M t b (e + 1) a = jn (gmE M t b e a) (rcm M b e) := by
  show (if folm M b e = nI t then jn (gmE M t b e a) (rcm M b e) else gmE M t b e a) = _
  rw [if_pos h]
theorem gmE_2 {M : wM} {t b e : Nat} {a : aS} (h : ¬ folm M b e = nI t) : gmE M t b (e + 1) a = gmE M t b e a := by
  show (if folm M b e = nI t then jn (gmE M t b e a) (rcm M b e) else gmE M t b e a) = _
  rw [if_neg h]
theorem jn_n (a : aS) : jn a none = a := by cases a <;> rfl
/-- in the midst of a gathering -/
def Igm (M : wM) (a : aS) (M' : wM) : Prop := mK M M' ∧ bz (M' 0 23) ∧ js M' = a
theorem Igm_0 {M : wM} : Igm M none (wU M 0 23 (nI 0)) := by
  refine ⟨⟨kp_U (Or.inl rfl), fun j hj => by rw [wU_at, if_neg (fun z => hj z.2)]⟩, by rw [wU_at, if_pos ⟨rfl, rfl⟩]; exact Or.inl rfl, ?_⟩
  unfold js; rw [if_pos (by rw [wU_at, if_pos ⟨rfl, rfl⟩]; rfl)]
theorem js_m67 {M M' : wM} (h : kp M M' m67) : js M' = js M := by
  unfold js; rw [h 0 (by unfold m67; omega), h 18 (by unfold m67; omega), h 19 (by unfold m67; omega)]
theorem Igm_r0 {M M1 : wM} {J : wJ} {a : aS} {b e : Nat} {r : Int32} {u : wM × wJ} (h : Igm M a M1) (g : pRc M1 J b e r u) (q : r = 0) : Igm M (jn a (rcm M b e)) u.1 := by
  obtain ⟨-, g1, g2, g3⟩ := g
  have hn : rcm M1 b e = none := by
    rcases g3 with ⟨-, g⟩ | ⟨g, -⟩
    · exact g
    · exact absurd (g.symm.trans q) (by decide)
  rw [mK_rcm h.1] at hn
  rw [hn, jn_n]
  exact ⟨mK_trans h.1 (mK_m67 g1), by rw [g1 0 (by unfold m67; omega)]; exact h.2.1, (js_m67 g1).trans h.2.2⟩
theorem Igm_join {M M1 : wM} {J : wJ} {a : aS} {u : wM × wJ} (h : Igm M a M1) (k : pJn M1 J u) : Igm M (jn a (some (rr (M1 16, M1 17)))) u.1 := by
  obtain ⟨-, k1, k2, k3, k4⟩ := k
  refine ⟨mK_trans h.1 ⟨kp_mono k1 (fun c hc => by unfold gC; omega), k2⟩, by rw [k3]; exact Or.inr rfl, ?_⟩
  rw [k4, h.2.2]
theorem Igm_r1 {M M1 M2 : wM} {J J2 : wJ} {a : aS} {b e : Nat} {r : Int32} {u : wM × wJ} (h : Igm M a M1) (g : pRc M1 J b e r (M2, J2)) (q : ¬ r = 0) (k : pJn M2 J u) : Igm M (jn a (rcm M b e)) u.1 := by
  obtain ⟨-, g1, g2, g3⟩ := g
  have hn : rcm M1 b e = some (rr (M2 16, M2 17)) := by
    rcases g3 with ⟨g, -⟩ | ⟨-, g⟩
    · exact absurd (g.trans nI_0) q
    · exact g
  rw [mK_rcm h.1] at hn
  rw [hn]
  exact Igm_join ⟨mK_trans h.1 (mK_m67 g1), by rw [show M2 0 = M1 0 from g1 0 (by unfold m67; omega)]; exact h.2.1, (js_m67 g1).trans h.2.2⟩ k
/-- the first k of the initial ranges laid into the rows at work -/
def Iin (M : wM) (a : aS) (k : Nat) (M' : wM) : Prop := Igm M a M' ∧ ∀ v, v < k → M' 16 v = M 9 v ∧ M' 17 v = M 10 v
theorem Iin_s {M M1 : wM} {a : aS} {k : Nat} (h : Iin M a k M1) : Iin M a (k + 1) (wU (wU M1 16 k (M1 9 k)) 17 k ((wU M1 16 k (M1 9 k)) 10 k)) := by
  obtain ⟨h1, h2⟩ := h
  have hk : kp M1 (wU (wU M1 16 k (M1 9 k)) 17 k ((wU M1 16 k (M1 9 k)) 10 k)) m67 := kp_trans (kp_U (Or.inl rfl)) (kp_U (Or.inr rfl))
  refine ⟨⟨mK_trans h1.1 (mK_m67 hk), by rw [hk 0 (by unfold m67; omega)]; exact h1.2.1, (js_m67 hk).trans h1.2.2⟩, fun v hv => ?_⟩
  have e9 : M1 9 = M 9 := mK_at h1.1 9 (by omega)
  have e10 : M1 10 = M 10 := mK_at h1.1 10 (by omega)
  by_cases q : v = k
  · subst q
    exact ⟨by rw [wU_ne (by decide), wU_at, if_pos ⟨rfl, rfl⟩, e9], by rw [wU_at, if_pos ⟨rfl, rfl⟩, wU_ne (by decide), e10]⟩
  · refine ⟨?_, ?_⟩
    · rw [wU_ne (by decide), wU_at, if_neg (fun z => q z.2)]; exact (h2 v (by omega)).1
    · rw [wU_at, if_neg (fun z => q z.2), wU_ne (by decide)]; exact (h2 v (by omega)).2
def pGm (M : wM) (J : wJ) (cnt t : Nat) (u : wM × wJ) : Prop := u.2 = J ∧ Igm M (gatm M cnt t) u.1
theorem pGm_1 {M M1 : wM} {J : wJ} {cnt t : Nat} (ht : ¬ t = 0) (h : Igm M (gmB M t cnt none) M1) : pGm M J cnt t (M1, J) := ⟨rfl, by unfold gatm; rw [if_neg ht]; exact h⟩
theorem pGm_2 {M M1 : wM} {J : wJ} {cnt t : Nat} {u : wM × wJ} (ht : t = 0) (h : Iin M (gmB M t cnt none) 6 M1) (k : pJn M1 J u) : pGm M J cnt t u := by
  refine ⟨k.1, ?_⟩
  have z := Igm_join h.1 k
  have e : rr (M1 16, M1 17) = rr (M 9, M 10) := by
    show (r6 (M1 16), r6 (M1 17)) = (r6 (M 9), r6 (M 10))
    rw [r6_ext (fun v hv => (h.2 v hv).1), r6_ext (f := M1 17) (fun v hv => (h.2 v hv).2)]
  rw [e] at z
  unfold gatm; rw [if_pos ht]; exact z
