/-! ===== the reference's executions, pure ===== -/
def rmd (r s : Int64) : Int64 := if 0 ≤ lg_cmp (r - r / s * s) 0 then r - r / s * s else r - r / s * s + s
def drw (r : Int64) (lo up : Int32) : Int32 := (lo.toInt64 + rmd r (szz lo up)).toInt32
/-- a statement's value -/
def vM (k p q : Int32) (f : Nat → Int32) (r : Int64) : Int32 × Int64 :=
  if k = nI 0 then (f (tn p), r)
  else if k = nI 1 then (lim ((f (tn p)).toInt64 + (f (tn q)).toInt64), r)
  else if k = nI 2 then (lim ((f (tn p)).toInt64 - (f (tn q)).toInt64), r)
  else if k = nI 3 then (lim ((f (tn p)).toInt64 * (f (tn q)).toInt64), r)
  else if k = nI 4 then (i_mn (f (tn p)) (f (tn q)), r)
  else if k = nI 5 then (i_mx (f (tn p)) (f (tn q)), r)
  else if k = nI 6 then (p, r)
  else (drw r p q, rnx r)
def qVo (M : wM) (J : wJ) (aa : Nat) (r : Int32) (u : wM × wJ) : Prop := u = (M, va_up J 0 (vM (M 2 aa) (M 2 (aa + 2)) (M 2 (aa + 3)) (M 22) (J 0)).2) ∧ r = (vM (M 2 aa) (M 2 (aa + 2)) (M 2 (aa + 3)) (M 22) (J 0)).1
theorem lim_eq (M : wM) (x : Int64) : E_X9_limited M x = lim x := rfl
theorem qVo_of {M : wM} {J : wJ} {aa : Nat} {x : Int32} (h : vM (M 2 aa) (M 2 (aa + 2)) (M 2 (aa + 3)) (M 22) (J 0) = (x, J 0)) : qVo M J aa x (M, J) := by
  unfold qVo; rw [h]; exact ⟨by rw [← J_id], rfl⟩
/-- the variables' first integers -/
def xIm (M : wM) (f : Nat → Int32) (r : Int64) : Nat → xS
  | 0 => (f, r)
  | k + 1 => (upd (xIm M f r k).1 k (drw (xIm M f r k).2 (M 9 k) (M 10 k)), rnx (xIm M f r k).2)
/-- the first n statements of the block b -/
def xNm (M : wM) (b : Nat) : Nat → xS → xS
  | 0, x => x
  | n + 1, x => (upd (xNm M b n x).1 (tn (M 2 (4 * ((8 * b) + n) + 1))) (vM (M 2 (4 * ((8 * b) + n))) (M 2 (4 * ((8 * b) + n) + 2)) (M 2 (4 * ((8 * b) + n) + 3)) (xNm M b n x).1 (xNm M b n x).2).1, (vM (M 2 (4 * ((8 * b) + n))) (M 2 (4 * ((8 * b) + n) + 2)) (M 2 (4 * ((8 * b) + n) + 3)) (xNm M b n x).1 (xNm M b n x).2).2)
def xBm (M : wM) (b : Nat) (x : xS) : xS := xNm M b (tn (M 1 b)) x
/-- the block that follows; -1: none -/
def trm (M : wM) (b : Nat) (f : Nat → Int32) : Prop := if M 8 b = 0 then f (tn (M 6 b)) < f (tn (M 7 b)) else if M 8 b = nI 1 then f (tn (M 6 b)) ≤ f (tn (M 7 b)) else if M 8 b = nI 2 then f (tn (M 6 b)) = f (tn (M 7 b)) else ¬ f (tn (M 6 b)) = f (tn (M 7 b))
noncomputable def nxm (M : wM) (b : Nat) (f : Nat → Int32) : Int32 := if tn (M 3 b) = 0 then (-1 : Int32) else if tn (M 3 b) = 1 then M 4 b else @ite _ (trm M b f) (Classical.propDecidable _) (M 4 b) (M 5 b)
noncomputable def rnM (M : wM) (x0 : xS) : Nat → xS × Int32
  | 0 => (x0, nI 0)
  | n + 1 => (xBm M (tn (rnM M x0 n).2) (rnM M x0 n).1, nxm M (tn (rnM M x0 n).2) (xBm M (tn (rnM M x0 n).2) (rnM M x0 n).1).1)
/-- what the executions want of the program -/
def xOK (M : wM) : Prop := (∀ v, v < 6 → ¬ szz (M 9 v) (M 10 v) = 0) ∧ (∀ b, b < 16 → ∀ a, a < tn (M 1 b) → (∀ k, k ≤ 6 → ¬ M 2 (4 * ((8 * b) + a)) = nI k) → ¬ szz (M 2 (4 * ((8 * b) + a) + 2)) (M 2 (4 * ((8 * b) + a) + 3)) = 0) ∧ ∀ b, b < 16 → (1 ≤ tn (M 3 b) → inB (M 4 b) 16) ∧ (2 ≤ tn (M 3 b) → inB (M 5 b) 16)
def xC (c : Nat) : Prop := c = 0 ∨ c = 20 ∨ c = 21 ∨ c = 22
/-- behind k steps -/
def Irm (M : wM) (x0 : xS) (k : Nat) (M' : wM) : Prop := kp M M' xC ∧ (∀ j, M' 0 j = (if j = 0 then nI 0 else if j = 26 then nI k else M 0 j)) ∧ M' 22 = (rnM M x0 k).1.1 ∧ ∀ q, q < k → M' 20 q = (rnM M x0 q).2 ∧ ∀ v, v < 6 → M' 21 ((6 * q) + v) = (rnM M x0 q).1.1 v
def Icm (M : wM) (x0 : xS) (k : Nat) : Prop := (∀ q, q < k → ¬ (rnM M x0 q).2 = (-1 : Int32)) ∧ ((rnM M x0 k).2 = (-1 : Int32) ∨ inB (rnM M x0 k).2 16)
theorem xC_at {M M' : wM} (h : kp M M' xC) (c : Nat) (hc : 1 ≤ c ∧ c ≤ 19) : M' c = M c := h c (by unfold xC; omega)
theorem nxm_in {M : wM} {b : Nat} {f : Nat → Int32} (h : xOK M) (hb : b < 16) (hE : tn (M 3 b) ≤ 2) : nxm M b f = (-1 : Int32) ∨ inB (nxm M b f) 16 := by
  unfold nxm
  by_cases h0 : tn (M 3 b) = 0
  · rw [if_pos h0]; exact Or.inl rfl
  · rw [if_neg h0]
    by_cases h1 : tn (M 3 b) = 1
    · rw [if_pos h1]; exact Or.inr ((h.2.2 b hb).1 (by omega))
    · rw [if_neg h1]
      by_cases h2 : trm M b f
      · rw [if_pos h2]; exact Or.inr ((h.2.2 b hb).1 (by omega))
      · rw [if_neg h2]; exact Or.inr ((h.2.2 b hb).2 (by omega))
theorem nxm_0 {M : wM} {b : Nat} {f : Nat → Int32} (h : tn (M 3 b) = 0) : nxm M b f = (-1 : Int32) := by unfold nxm; rw [if_pos h]
theorem nxm_1 {M : wM} {b : Nat} {f : Nat → Int32} (h : tn (M 3 b) = 1) : nxm M b f = M 4 b := by unfold nxm; rw [if_neg (by omega), if_pos h]
theorem nxm_2 {M : wM} {b : Nat} {f : Nat → Int32} (h0 : ¬ tn (M 3 b) = 0) (h : ¬ tn (M 3 b) = 1) (g : trm M b f) : nxm M b f = M 4 b := by unfold nxm; rw [if_neg h0, if_neg h, if_pos g]
theorem nxm_3 {M : wM} {b : Nat} {f : Nat → Int32} (h0 : ¬ tn (M 3 b) = 0) (h : ¬ tn (M 3 b) = 1) (g : ¬ trm M b f) : nxm M b f = M 5 b := by unfold nxm; rw [if_neg h0, if_neg h, if_neg g]
def Ixi (M : wM) (r : Int64) (k : Nat) (M' : wM) : Prop := kp (wU M 0 0 (nI 0)) M' (fun c => c = 22) ∧ M' 22 = (xIm M (M 22) r k).1
theorem Ixi_s {M M1 : wM} {r : Int64} {k : Nat} (h : Ixi M r k M1) : Ixi M r (k + 1) (wU M1 22 k (drw (xIm M (M 22) r k).2 (M 9 k) (M 10 k))) := by
  refine ⟨kp_trans h.1 (kp_U rfl), ?_⟩
  rw [wU_self, h.2]; rfl
theorem Irm_0 {M M1 : wM} {r : Int64} (h : Ixi M r 6 M1) : Irm M (xIm M (M 22) r 6) 0 (wU M1 0 26 (nI 0)) := by
  refine ⟨?_, fun j => ?_, ?_, fun q hq => absurd hq (Nat.not_lt_zero q)⟩
  · exact kp_trans (kp_trans (kp_U (Or.inl rfl)) (kp_mono h.1 (fun c hc => by unfold xC; omega))) (kp_U (Or.inl rfl))
  · rw [wU_at]
    by_cases h26 : j = 26
    · rw [if_pos ⟨rfl, h26⟩, if_neg (by omega), if_pos h26]
    · rw [if_neg (fun z => h26 z.2), h.1 0 (by decide), wU_at]
      by_cases h0 : j = 0
      · rw [if_pos ⟨rfl, h0⟩, if_pos h0]
      · rw [if_neg (fun z => h0 z.2), if_neg h0, if_neg h26]
  · rw [wU_ne (by decide)]; exact h.2
/-- the first v of a step's variables are noted -/
def Inm (M1 : wM) (k v : Nat) (M' : wM) : Prop := kp M1 M' (fun c => c = 21) ∧ ∀ j, M' 21 j = (if 6 * k ≤ j ∧ j < 6 * k + v then M1 22 (j - 6 * k) else M1 21 j)
theorem Inm_0 {M1 : wM} {k : Nat} : Inm M1 k 0 M1 := ⟨kp_refl _ _, fun j => by rw [if_neg (by omega)]⟩
theorem Inm_s {M1 M2 : wM} {k v : Nat} {x : Int32} (h : Inm M1 k v M2) (hx : x = M1 22 v) : Inm M1 k (v + 1) (wU M2 21 ((6 * k) + v) x) := by
  refine ⟨kp_trans h.1 (kp_U rfl), fun j => ?_⟩
  rw [wU_at]
  by_cases q : j = 6 * k + v
  · rw [if_pos ⟨rfl, q⟩, if_pos (by omega), hx, show j - 6 * k = v by omega]
  · rw [if_neg (fun z => q z.2), h.2 j]
    by_cases q2 : 6 * k ≤ j ∧ j < 6 * k + v
    · rw [if_pos q2, if_pos (by omega)]
    · rw [if_neg q2, if_neg (by omega)]
/-- a step is noted, n of the block's statements are done -/
def Ism (M : wM) (x0 : xS) (k b n : Nat) (M' : wM) : Prop := kp M M' xC ∧ (∀ j, M' 0 j = (if j = 0 then nI 0 else if j = 26 then nI (k + 1) else M 0 j)) ∧ M' 22 = (xNm M b n (rnM M x0 k).1).1 ∧ ∀ q, q < k + 1 → M' 20 q = (rnM M x0 q).2 ∧ ∀ v, v < 6 → M' 21 ((6 * q) + v) = (rnM M x0 q).1.1 v
theorem Ism_0 {M M1 M2 : wM} {x0 : xS} {k b : Nat} (hb : (rnM M x0 k).2 = nI b) (h : Irm M x0 k M1) (g : Inm (wU M1 20 k (nI b)) k 6 M2) : Ism M x0 k b 0 (wU M2 0 26 (nI (k + 1))) := by
  obtain ⟨h1, h2, h3, h4⟩ := h
  have e22 : M2 22 = M1 22 := by rw [g.1 22 (by decide), wU_ne (by decide)]
  have e20 : M2 20 = upd (M1 20) k (nI b) := by rw [g.1 20 (by decide), wU_self]
  have e0 : M2 0 = M1 0 := by rw [g.1 0 (by decide), wU_ne (by decide)]
  refine ⟨?_, fun j => ?_, ?_, fun q hq => ⟨?_, fun v hv => ?_⟩⟩
  · exact kp_trans (kp_trans h1 (kp_U (by unfold xC; omega))) (kp_trans (kp_mono g.1 (fun c hc => by unfold xC; omega)) (kp_U (by unfold xC; omega)))
  · rw [wU_at]
    by_cases h26 : j = 26
    · rw [if_pos ⟨rfl, h26⟩, if_neg (by omega), if_pos h26]
    · rw [if_neg (fun z => h26 z.2), e0, h2 j]
      by_cases h0 : j = 0
      · rw [if_pos h0, if_pos h0]
      · rw [if_neg h0, if_neg h0, if_neg h26, if_neg h26]
  · rw [wU_ne (by decide), e22]; exact h3
  · rw [wU_ne (by decide), e20, upd_at]
    by_cases z : q = k
    · rw [if_pos z, z, hb]
    · rw [if_neg z]; exact (h4 q (by omega)).1
  · rw [wU_ne (by decide), g.2]
    by_cases z : q = k
    · subst z
      rw [if_pos (by omega), show 6 * q + v - 6 * q = v by omega, wU_ne (by decide), h3]
    · rw [if_neg (by omega), wU_ne (by decide)]; exact (h4 q (by omega)).2 v hv
theorem Ism_s {M M1 : wM} {x0 : xS} {k b n : Nat} (h : Ism M x0 k b n M1) : Ism M x0 k b (n + 1) (wU M1 22 (tn (M 2 (4 * ((8 * b) + n) + 1))) (vM (M 2 (4 * ((8 * b) + n))) (M 2 (4 * ((8 * b) + n) + 2)) (M 2 (4 * ((8 * b) + n) + 3)) (xNm M b n (rnM M x0 k).1).1 (xNm M b n (rnM M x0 k).1).2).1) := by
  obtain ⟨h1, h2, h3, h4⟩ := h
  refine ⟨kp_trans h1 (kp_U (by unfold xC; omega)), fun j => ?_, ?_, fun q hq => ?_⟩
  · rw [wU_ne (by decide)]; exact h2 j
  · rw [wU_self, h3]; rfl
  · rw [wU_ne (by decide), wU_ne (by decide)]; exact h4 q hq
theorem rnM_s {M : wM} {x0 : xS} {k b : Nat} (hb : (rnM M x0 k).2 = nI b) (h16 : b < 16) : rnM M x0 (k + 1) = (xNm M b (tn (M 1 b)) (rnM M x0 k).1, nxm M b (xNm M b (tn (M 1 b)) (rnM M x0 k).1).1) := by
  have e : tn (rnM M x0 k).2 = b := by rw [hb]; exact tn_nI (by omega)
  show (xBm M (tn (rnM M x0 k).2) (rnM M x0 k).1, nxm M (tn (rnM M x0 k).2) (xBm M (tn (rnM M x0 k).2) (rnM M x0 k).1).1) = _
  rw [e]; rfl
theorem Irm_s {M M1 : wM} {x0 : xS} {k b : Nat} (hb : (rnM M x0 k).2 = nI b) (h16 : b < 16) (h : Ism M x0 k b (tn (M 1 b)) M1) : Irm M x0 (k + 1) M1 := by
  obtain ⟨h1, h2, h3, h4⟩ := h
  exact ⟨h1, h2, by rw [rnM_s hb h16]; exact h3, h4⟩
theorem Icm_s {M : wM} {x0 : xS} {k b : Nat} (hx : xOK M) (hE : tn (M 3 b) ≤ 2) (hb : (rnM M x0 k).2 = nI b) (h16 : b < 16) (h : Icm M x0 k) : Icm M x0 (k + 1) := by
  refine ⟨fun q hq => ?_, ?_⟩
  · by_cases z : q = k
    · rw [z, hb]
      intro y
      have := congrArg Int32.toInt y
      rw [nI_toInt (by omega)] at this
      exact absurd this (by show ¬ ((b : Int) = -1); omega)
    · exact h.1 q (by omega)
  · rw [rnM_s hb h16]; exact nxm_in hx h16 hE
def qRn (M : wM) (J : wJ) (seed : Int64) (steps : Nat) (r : Int32) (u : wM × wJ) : Prop := ∃ n, n ≤ steps ∧ Icm M (xIm M (M 22) seed 6) n ∧ ((rnM M (xIm M (M 22) seed 6) n).2 = (-1 : Int32) ∨ n = steps) ∧ u.2 = va_up J 0 (rnM M (xIm M (M 22) seed 6) n).1.2 ∧ Irm M (xIm M (M 22) seed 6) n u.1 ∧ r = nI n
/-- the digest -/
def gP (M : wM) (d : Int64) : Nat → Int64
  | 0 => d
  | b + 1 => (gP M d b * 31 + (M 1 b).toInt64) * 31 + (M 3 b).toInt64
def gR (M : wM) (b : Nat) (d : Int64) : Nat → Int64
  | 0 => d
  | v + 1 => (gR M b d v * 31 + (M 13 ((6 * b) + v)).toInt64) * 31 + (M 14 ((6 * b) + v)).toInt64
def gA (M : wM) (d : Int64) : Nat → Int64
  | 0 => d
  | b + 1 => if M 12 b = 0 then gA M d b * 31 + (M 15 b).toInt64 else gR M b (gA M d b * 31 + (M 15 b).toInt64) 6
def gV (M : wM) (d : Int64) : Nat → Int64
  | 0 => d
  | v + 1 => gV M d v * 31 + (M 22 v).toInt64
theorem gA_1 {M : wM} {d : Int64} {b : Nat} (h : M 12 b = 0) : gA M d (b + 1) = gA M d b * 31 + (M 15 b).toInt64 := by
  show (if M 12 b = 0 then _ else _) = _
  rw [if_pos h]
theorem gA_2 {M : wM} {d : Int64} {b : Nat} (h : ¬ M 12 b = 0) : gA M d (b + 1) = gR M b (gA M d b * 31 + (M 15 b).toInt64) 6 := by
  show (if M 12 b = 0 then _ else _) = _
  rw [if_neg h]
def g1 (M : wM) (cnt : Nat) : Int64 := ((gP M (2759 + (nI cnt).toInt64) cnt * 31 + (M 0 12).toInt64) * 31 + (M 0 13).toInt64) * 31 + (M 0 14).toInt64
def gX (M : wM) (cnt : Nat) : Int64 := gV M (if M 0 16 = 0 then g1 M cnt else gA M (g1 M cnt) cnt) 6
theorem trm_eq {M M1 : wM} {b : Nat} {f : Nat → Int32} (h : kp M M1 xC) (g : M1 22 = f) : trm M1 b (M1 22) = trm M b f := by
  unfold trm
  rw [g, xC_at h 6 (by omega), xC_at h 7 (by omega), xC_at h 8 (by omega)]
