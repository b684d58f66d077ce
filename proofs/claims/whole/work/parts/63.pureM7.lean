/-! ===== the reference's answers of the analysis, pure ===== -/
/-- but for the rows at work, all is as it was, and thrown is k -/
def tQ (k : Nat) (M M' : wM) : Prop := kp M M' (fun c => c = 0 ∨ c = 16 ∨ c = 17) ∧ ∀ j, M' 0 j = (if j = 0 then nI k else M 0 j)
theorem tQ_0 {k : Nat} {M : wM} : tQ k M (wU M 0 0 (nI k)) := by
  refine ⟨kp_U (Or.inl rfl), fun j => ?_⟩
  rw [wU_at]
  by_cases h : j = 0
  · rw [if_pos ⟨rfl, h⟩, if_pos h]
  · rw [if_neg (fun z => h z.2), if_neg h]
theorem tQ_m67 {k : Nat} {M M1 M2 : wM} (h : tQ k M M1) (g : kp M1 M2 m67) : tQ k M M2 :=
  ⟨kp_trans h.1 (kp_mono g (fun c hc => by unfold m67 at hc; omega)), fun j => by rw [g 0 (by unfold m67; omega)]; exact h.2 j⟩
theorem tQ_at {k : Nat} {M M1 : wM} (h : tQ k M M1) (c : Nat) (hc : 1 ≤ c ∧ c ≤ 15 ∨ 18 ≤ c) : M1 c = M c := h.1 c (by omega)
theorem tQ_OK {k : Nat} {M M1 : wM} {cnt t : Nat} (hp : mOK M cnt t) (h : tQ k M M1) : mOK M1 cnt t := by
  obtain ⟨h1, h2, h3, h4, h5, h6, h7, h8, h9⟩ := hp
  unfold mOK
  unfold st9 at *
  rw [h.2 1, if_neg (by decide), h.2 14, if_neg (by decide), tQ_at h 1 (by omega), tQ_at h 2 (by omega), tQ_at h 3 (by omega), tQ_at h 6 (by omega), tQ_at h 7 (by omega), tQ_at h 8 (by omega)]
  exact ⟨h1, h2, h3, h4, h5, h6, h7, h8, h9⟩
theorem tQ_apF {k : Nat} {M M1 : wM} {b : Nat} (h : tQ k M M1) : apF M1 b = apF M b := by
  unfold apF rw9
  rw [apm_eq (tQ_at h 2 (by omega)), tQ_at h 1 (by omega), tQ_at h 13 (by omega), tQ_at h 14 (by omega)]
theorem tQ_rcm {k : Nat} {M M1 : wM} {b e : Nat} (h : tQ k M M1) : rcm M1 b e = rcm M b e := by
  unfold rcm edm
  rw [tQ_apF h, tQ_at h 12 (by omega), tQ_at h 3 (by omega), tQ_at h 6 (by omega), tQ_at h 7 (by omega), tQ_at h 8 (by omega)]
/-- what is refused -/
def qAE (M : wM) (J : wJ) (cnt : Nat) (b v : Int32) (u : wM × wJ) : Prop := (M 0 16 = 0 ∧ u = (wU M 0 0 (nI 1), J)) ∨ (¬ M 0 16 = 0 ∧ ¬ (inB b cnt ∧ inB v 6) ∧ u = (wU M 0 0 (nI 2), J)) ∨ (¬ M 0 16 = 0 ∧ inB b cnt ∧ inB v 6 ∧ M 12 (tn b) = 0 ∧ u = (wU M 0 0 (nI 3), J))
def qAs (M : wM) (J : wJ) (cnt : Nat) (b v : Int32) (r : Int32) (u : wM × wJ) : Prop := (¬ M 0 16 = 0 ∧ inB b cnt ∧ inB v 6 ∧ ¬ M 12 (tn b) = 0 ∧ u = (wU M 0 0 (nI 0), J) ∧ r = nI 1) ∨ (qAE M J cnt b v u ∧ r = nI 0)
theorem qAs_1 {M : wM} {J : wJ} {cnt : Nat} {b v r : Int32} {u : wM × wJ} (h : qAs M J cnt b v r u) (q : ¬ r = 0) : ¬ M 0 16 = 0 ∧ inB b cnt ∧ inB v 6 ∧ ¬ M 12 (tn b) = 0 ∧ u = (wU M 0 0 (nI 0), J) := by
  rcases h with h | h
  · exact ⟨h.1, h.2.1, h.2.2.1, h.2.2.2.1, h.2.2.2.2.1⟩
  · exact absurd (h.2.trans nI_0) q
theorem qAs_0 {M : wM} {J : wJ} {cnt : Nat} {b v r : Int32} {u : wM × wJ} (h : qAs M J cnt b v r u) (q : r = 0) : qAE M J cnt b v u := by
  rcases h with h | h
  · exact absurd (h.2.2.2.2.2.symm.trans q) (by decide)
  · exact h.1
def dmE (M : wM) (b : Nat) : Nat → Nat
  | 0 => 0
  | e + 1 => dmE M b e + (if (rcm M b e).isNone = true then 1 else 0)
def dmB (M : wM) (b : Nat) : Nat := if M 12 b = 0 then 0 else dmE M b (tn (M 3 b))
def dmA (M : wM) : Nat → Nat
  | 0 => 0
  | b + 1 => dmA M b + dmB M b
theorem dmE_le (M : wM) (b : Nat) : ∀ e, dmE M b e ≤ e
  | 0 => Nat.le_refl 0
  | e + 1 => by
    have ih := dmE_le M b e
    show dmE M b e + (if (rcm M b e).isNone = true then 1 else 0) ≤ e + 1
    by_cases h : (rcm M b e).isNone = true
    · rw [if_pos h]; omega
    · rw [if_neg h]; omega
theorem dm_0 {k : Nat} {M M1 : wM} {J : wJ} {b e d : Nat} {r : Int32} {u : wM × wJ} (hQ : tQ k M M1) (h : pRc M1 J b e r u) (q : r = 0) : d + dmE M b e + 1 = d + dmE M b (e + 1) := by
  show _ = d + (dmE M b e + (if (rcm M b e).isNone = true then 1 else 0))
  have hn : rcm M1 b e = none := by
    rcases h.2.2.2 with ⟨-, g⟩ | ⟨g, -⟩
    · exact g
    · exact absurd (g.symm.trans q) (by decide)
  rw [tQ_rcm hQ] at hn
  rw [hn, if_pos (show (none : aS).isNone = true from rfl)]; omega
theorem dm_1 {k : Nat} {M M1 : wM} {J : wJ} {b e d : Nat} {r : Int32} {u : wM × wJ} (hQ : tQ k M M1) (h : pRc M1 J b e r u) (q : ¬ r = 0) : d + dmE M b e + 0 = d + dmE M b (e + 1) := by
  show _ = d + (dmE M b e + (if (rcm M b e).isNone = true then 1 else 0))
  have hn : rcm M1 b e = some (rr (u.1 16, u.1 17)) := by
    rcases h.2.2.2 with ⟨g, -⟩ | ⟨-, g⟩
    · exact absurd (g.trans nI_0) q
    · exact g
  rw [tQ_rcm hQ] at hn
  rw [hn, if_neg (by simp)]; omega
theorem dmB_0 {M : wM} {b : Nat} (h : M 12 b = 0) : dmB M b = 0 := by unfold dmB; rw [if_pos h]
theorem dmB_1 {M : wM} {b : Nat} (h : ¬ M 12 b = 0) : dmB M b = dmE M b (tn (M 3 b)) := by unfold dmB; rw [if_neg h]
theorem dmB_le {M : wM} {b : Nat} (h : tn (M 3 b) ≤ 2) : dmB M b ≤ 2 := by
  by_cases q : M 12 b = 0
  · rw [dmB_0 q]; omega
  · rw [dmB_1 q]; have := dmE_le M b (tn (M 3 b)); omega
def qDd (M : wM) (J : wJ) (cnt : Nat) (r : Int32) (u : wM × wJ) : Prop := (¬ M 0 16 = 0 ∧ u.2 = J ∧ tQ 0 M u.1 ∧ r = nI (dmA M cnt)) ∨ (M 0 16 = 0 ∧ u = (wU M 0 0 (nI 1), J) ∧ r = nI 0)
