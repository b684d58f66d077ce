/-! ===== the reference's look, pure ===== -/
def BL (M : wM) (t : Nat) (a : Int32) : Int32 := if a = (1000000000 : Int32) then (1000000000 : Int32) else bel M a t
def AB (M : wM) (t : Nat) (a : Int32) : Int32 := if a = (-1000000000 : Int32) then (-1000000000 : Int32) else abo M a t
theorem bel_eq {M M1 : wM} (h : M1 11 = M 11) (v : Int32) : ∀ t, bel M1 v t = bel M v t
  | 0 => rfl
  | t + 1 => by
    show (if v < M1 11 t then bel M1 v t else i_mx (bel M1 v t) (M1 11 t)) = (if v < M 11 t then bel M v t else i_mx (bel M v t) (M 11 t))
    rw [bel_eq h v t, h]
theorem abo_eq {M M1 : wM} (h : M1 11 = M 11) (v : Int32) : ∀ t, abo M1 v t = abo M v t
  | 0 => rfl
  | t + 1 => by
    show (if M1 11 t < v then abo M1 v t else i_mn (abo M1 v t) (M1 11 t)) = (if M 11 t < v then abo M v t else i_mn (abo M v t) (M 11 t))
    rw [abo_eq h v t, h]
theorem BL_eq {M M1 : wM} (h : M1 11 = M 11) {a : Int32} {t : Nat} : (if a = (1000000000 : Int32) then (1000000000 : Int32) else bel M1 a t) = BL M t a := by unfold BL; rw [bel_eq h]
theorem AB_eq {M M1 : wM} (h : M1 11 = M 11) {a : Int32} {t : Nat} : (if a = (-1000000000 : Int32) then (-1000000000 : Int32) else abo M1 a t) = AB M t a := by unfold AB; rw [abo_eq h]
def jlo (M : wM) (b v : Nat) : Int32 := if M 12 b = 0 then M 18 v else i_mn (M 13 ((6 * b) + v)) (M 18 v)
def jhi (M : wM) (b v : Nat) : Int32 := if M 12 b = 0 then M 19 v else i_mx (M 14 ((6 * b) + v)) (M 19 v)
def nlm (M : wM) (b t v : Nat) : Int32 := if ¬ M 12 b = 0 ∧ ¬ M 15 b < M 0 12 ∧ ¬ M 13 ((6 * b) + v) ≤ jlo M b v then BL M t (jlo M b v) else jlo M b v
def nhm (M : wM) (b t v : Nat) : Int32 := if ¬ M 12 b = 0 ∧ ¬ M 15 b < M 0 12 ∧ ¬ jhi M b v ≤ M 14 ((6 * b) + v) then AB M t (jhi M b v) else jhi M b v
theorem nlm_0 {M : wM} {b t v : Nat} (h : M 12 b = 0) : M 18 v = nlm M b t v := by
  unfold nlm; rw [if_neg (fun z => z.1 h)]; unfold jlo; rw [if_pos h]
theorem nhm_0 {M : wM} {b t v : Nat} (h : M 12 b = 0) : M 19 v = nhm M b t v := by
  unfold nhm; rw [if_neg (fun z => z.1 h)]; unfold jhi; rw [if_pos h]
theorem jlo_1 {M : wM} {b v : Nat} (h : ¬ M 12 b = 0) : jlo M b v = i_mn (M 13 ((6 * b) + v)) (M 18 v) := by unfold jlo; rw [if_neg h]
theorem jhi_1 {M : wM} {b v : Nat} (h : ¬ M 12 b = 0) : jhi M b v = i_mx (M 14 ((6 * b) + v)) (M 19 v) := by unfold jhi; rw [if_neg h]
theorem nlm_1 {M : wM} {b t v : Nat} (h : ¬ M 12 b = 0) (w : M 15 b < M 0 12) : i_mn (M 13 ((6 * b) + v)) (M 18 v) = nlm M b t v := by
  unfold nlm; rw [if_neg (fun z => z.2.1 w), jlo_1 h]
theorem nhm_1 {M : wM} {b t v : Nat} (h : ¬ M 12 b = 0) (w : M 15 b < M 0 12) : i_mx (M 14 ((6 * b) + v)) (M 19 v) = nhm M b t v := by
  unfold nhm; rw [if_neg (fun z => z.2.1 w), jhi_1 h]
theorem nlm_2 {M : wM} {b t v : Nat} (h : ¬ M 12 b = 0) (q : M 13 ((6 * b) + v) ≤ i_mn (M 13 ((6 * b) + v)) (M 18 v)) : i_mn (M 13 ((6 * b) + v)) (M 18 v) = nlm M b t v := by
  unfold nlm; rw [jlo_1 h, if_neg (fun z => z.2.2 q)]
theorem nhm_2 {M : wM} {b t v : Nat} (h : ¬ M 12 b = 0) (q : i_mx (M 14 ((6 * b) + v)) (M 19 v) ≤ M 14 ((6 * b) + v)) : i_mx (M 14 ((6 * b) + v)) (M 19 v) = nhm M b t v := by
  unfold nhm; rw [jhi_1 h, if_neg (fun z => z.2.2 q)]
theorem nlm_3 {M : wM} {b t v : Nat} (h : ¬ M 12 b = 0) (w : ¬ M 15 b < M 0 12) (q : ¬ M 13 ((6 * b) + v) ≤ i_mn (M 13 ((6 * b) + v)) (M 18 v)) : BL M t (i_mn (M 13 ((6 * b) + v)) (M 18 v)) = nlm M b t v := by
  unfold nlm; rw [jlo_1 h, if_pos ⟨h, w, q⟩]
theorem nhm_3 {M : wM} {b t v : Nat} (h : ¬ M 12 b = 0) (w : ¬ M 15 b < M 0 12) (q : ¬ i_mx (M 14 ((6 * b) + v)) (M 19 v) ≤ M 14 ((6 * b) + v)) : AB M t (i_mx (M 14 ((6 * b) + v)) (M 19 v)) = nhm M b t v := by
  unfold nhm; rw [jhi_1 h, if_pos ⟨h, w, q⟩]
def Ilk (M : wM) (b t k : Nat) (c : Bool) (M' : wM) : Prop := kp M M' (fun c => c = 13 ∨ c = 14) ∧ (∀ j, M' 13 j = (if 6 * b ≤ j ∧ j < 6 * b + k then nlm M b t (j - 6 * b) else M 13 j)) ∧ (∀ j, M' 14 j = (if 6 * b ≤ j ∧ j < 6 * b + k then nhm M b t (j - 6 * b) else M 14 j)) ∧ (c = true ↔ M 12 b = 0 ∨ ∃ v, v < k ∧ (¬ nlm M b t v = M 13 ((6 * b) + v) ∨ ¬ nhm M b t v = M 14 ((6 * b) + v)))
theorem Ilk_0 {M : wM} {b t : Nat} {c : Bool} (h : c = true ↔ M 12 b = 0) : Ilk M b t 0 c M := by
  refine ⟨kp_refl _ _, fun j => by rw [if_neg (by omega)], fun j => by rw [if_neg (by omega)], ⟨fun z => Or.inl (h.mp z), fun z => ?_⟩⟩
  rcases z with z | ⟨v, hv, -⟩
  · exact h.mpr z
  · exact absurd hv (Nat.not_lt_zero v)
theorem Ilk_s {M M1 : wM} {b t k : Nat} {c : Bool} (h : Ilk M b t k c M1) (c' : Bool) {a d : Int32} (ha : a = nlm M b t k) (hd : d = nhm M b t k) (hc : c' = true ↔ c = true ∨ ¬ a = M 13 ((6 * b) + k) ∨ ¬ d = M 14 ((6 * b) + k)) : Ilk M b t (k + 1) c' (wU (wU M1 13 ((6 * b) + k) a) 14 ((6 * b) + k) d) := by
  obtain ⟨h1, h2, h3, h4⟩ := h
  refine ⟨kp_trans h1 (kp_trans (kp_U (Or.inl rfl)) (kp_U (Or.inr rfl))), fun j => ?_, fun j => ?_, ?_⟩
  · rw [wU_ne (by decide), wU_at]
    by_cases q : j = 6 * b + k
    · rw [if_pos ⟨rfl, q⟩, if_pos (by omega), ha, show j - 6 * b = k by omega]
    · rw [if_neg (fun z => q z.2), h2 j]
      by_cases q2 : 6 * b ≤ j ∧ j < 6 * b + k
      · rw [if_pos q2, if_pos (by omega)]
      · rw [if_neg q2, if_neg (by omega)]
  · rw [wU_at]
    by_cases q : j = 6 * b + k
    · rw [if_pos ⟨rfl, q⟩, if_pos (by omega), hd, show j - 6 * b = k by omega]
    · rw [if_neg (fun z => q z.2), wU_ne (by decide), h3 j]
      by_cases q2 : 6 * b ≤ j ∧ j < 6 * b + k
      · rw [if_pos q2, if_pos (by omega)]
      · rw [if_neg q2, if_neg (by omega)]
  · rw [hc, h4, ha, hd]
    constructor
    · rintro ((z | ⟨v, hv, z⟩) | z)
      · exact Or.inl z
      · exact Or.inr ⟨v, by omega, z⟩
      · exact Or.inr ⟨k, by omega, z⟩
    · rintro (z | ⟨v, hv, z⟩)
      · exact Or.inl (Or.inl z)
      · by_cases q : v = k
        · subst q; exact Or.inr z
        · exact Or.inl (Or.inr ⟨v, by omega, z⟩)
/-- the entry state of a block, of the reference -/
def enM (M : wM) (b : Nat) : aS := if M 12 b = 0 then none else some (rw9 M b)
def amC (c : Nat) : Prop := c = 0 ∨ c = 12 ∨ c = 13 ∨ c = 14 ∨ c = 15 ∨ c = 16 ∨ c = 17 ∨ c = 18 ∨ c = 19
/-- the reference's analysis over the program of M0 -/
def AM (M0 M : wM) (E : Nat → aS) (V : Nat → Int32) : Prop := kp M0 M amC ∧ (∀ j, j ≠ 23 → M 0 j = M0 0 j) ∧ (∀ q, q < 16 → bz (M 12 q)) ∧ ∀ q, q < 16 → enM M q = E q ∧ M 15 q = V q
theorem AM_mK {M0 M M' : wM} {E : Nat → aS} {V : Nat → Int32} (h : AM M0 M E V) (g : mK M M') : AM M0 M' E V := by
  obtain ⟨h1, h2, h3, h4⟩ := h
  refine ⟨kp_trans h1 (kp_mono g.1 (fun c hc => by unfold amC; unfold gC at hc; omega)), fun j hj => (g.2 j hj).trans (h2 j hj), ?_, fun q hq => ?_⟩
  · rw [mK_at g 12 (by omega)]; exact h3
  · unfold enM rw9
    rw [mK_at g 12 (by omega), mK_at g 13 (by omega), mK_at g 14 (by omega), mK_at g 15 (by omega)]
    exact h4 q hq
theorem AM_at {M0 M : wM} {E : Nat → aS} {V : Nat → Int32} (h : AM M0 M E V) (c : Nat) (hc : 1 ≤ c ∧ c ≤ 11 ∨ 20 ≤ c) : M c = M0 c := h.1 c (by unfold amC; omega)
/-- edges and gathering by the entry states -/
def apA (M0 : wM) (b : Nat) (a : aS) : aS := a.map (fun f => apm M0 b f (tn (M0 1 b)))
def edA (M0 : wM) (b e : Nat) (a : aS) : aS := a.bind (edm M0 b e)
def gaE (M0 : wM) (X : Nat → Nat → aS) (t b : Nat) : Nat → aS → aS
  | 0, a => a
  | e + 1, a => if folm M0 b e = nI t then jn (gaE M0 X t b e a) (X b e) else gaE M0 X t b e a
def gaB (M0 : wM) (X : Nat → Nat → aS) (t : Nat) : Nat → aS → aS
  | 0, a => a
  | b + 1, a => gaE M0 X t b (tn (M0 3 b)) (gaB M0 X t b a)
def gaM (M0 : wM) (X : Nat → Nat → aS) (cnt t : Nat) : aS := if t = 0 then jn (gaB M0 X t cnt none) (some (rr (M0 9, M0 10))) else gaB M0 X t cnt none
def gatR (M0 : wM) (E : Nat → aS) (cnt t : Nat) : aS := gaM M0 (fun b e => edA M0 b e (apA M0 b (E b))) cnt t
theorem AM_rcm {M0 M : wM} {E : Nat → aS} {V : Nat → Int32} {b e : Nat} (h : AM M0 M E V) (hb : b < 16) : rcm M b e = edA M0 b e (apA M0 b (E b)) := by
  rw [← (h.2.2.2 b hb).1]
  unfold rcm edA apA enM
  by_cases q : M 12 b = 0
  · rw [if_pos q, if_pos q]; rfl
  · rw [if_neg q, if_neg q]
    show edm M b e (apm M b (rw9 M b) (tn (M 1 b))) = edm M0 b e (apm M0 b (rw9 M b) (tn (M0 1 b)))
    rw [apm_eq (AM_at h 2 (by omega)), AM_at h 1 (by omega)]
    unfold edm
    rw [AM_at h 3 (by omega), AM_at h 6 (by omega), AM_at h 7 (by omega), AM_at h 8 (by omega)]
theorem AM_gmE {M0 M : wM} {E : Nat → aS} {V : Nat → Int32} {t b : Nat} {a : aS} (h : AM M0 M E V) (hb : b < 16) : ∀ e, gmE M t b e a = gaE M0 (fun b e => edA M0 b e (apA M0 b (E b))) t b e a
  | 0 => rfl
  | e + 1 => by
    show (if folm M b e = nI t then jn (gmE M t b e a) (rcm M b e) else gmE M t b e a) = (if folm M0 b e = nI t then jn (gaE M0 _ t b e a) _ else gaE M0 _ t b e a)
    rw [AM_gmE h hb e, AM_rcm h hb]
    unfold folm
    rw [AM_at h 4 (by omega), AM_at h 5 (by omega)]
theorem AM_gmB {M0 M : wM} {E : Nat → aS} {V : Nat → Int32} {t : Nat} {a : aS} (h : AM M0 M E V) : ∀ b, b ≤ 16 → gmB M t b a = gaB M0 (fun b e => edA M0 b e (apA M0 b (E b))) t b a
  | 0, _ => rfl
  | b + 1, hb => by
    show gmE M t b (tn (M 3 b)) (gmB M t b a) = gaE M0 _ t b (tn (M0 3 b)) (gaB M0 _ t b a)
    rw [AM_gmB h b (by omega), AM_gmE h (by omega), AM_at h 3 (by omega)]
theorem AM_gat {M0 M : wM} {E : Nat → aS} {V : Nat → Int32} {cnt t : Nat} (h : AM M0 M E V) (hc : cnt ≤ 16) : gatm M cnt t = gatR M0 E cnt t := by
  unfold gatm gatR gaM
  rw [AM_gmB h cnt hc, AM_at h 9 (by omega), AM_at h 10 (by omega)]
def wdm (M : wM) (t : Nat) (a c : aS) : aS := match a, c with
  | some f, some g => some (r6 (fun v => if g.1 v ≤ f.1 v then f.1 v else BL M t (f.1 v)), r6 (fun v => if f.2 v ≤ g.2 v then f.2 v else AB M t (f.2 v)))
  | a, _ => a
def nEm (M0 : wM) (E : Nat → aS) (V : Nat → Int32) (cnt t b : Nat) : aS := if ¬ E b = none ∧ ¬ V b < M0 0 12 then wdm M0 t (jn (E b) (gatR M0 E cnt b)) (E b) else jn (E b) (gatR M0 E cnt b)
def chR (M0 : wM) (E : Nat → aS) (V : Nat → Int32) (cnt t b : Nat) : Prop := ¬ gatR M0 E cnt b = none ∧ ¬ nEm M0 E V cnt t b = E b
noncomputable def lkER (M0 : wM) (E : Nat → aS) (V : Nat → Int32) (cnt t b : Nat) : Nat → aS := @ite _ (chR M0 E V cnt t b) (Classical.propDecidable _) (va_up E b (nEm M0 E V cnt t b)) E
noncomputable def lkVR (M0 : wM) (E : Nat → aS) (V : Nat → Int32) (cnt t b : Nat) : Nat → Int32 := @ite _ (chR M0 E V cnt t b) (Classical.propDecidable _) (va_up V b (V b + nI 1)) V
noncomputable def nrER (M0 : wM) (E : Nat → aS) (cnt b : Nat) : Nat → aS := @ite _ (E b = none) (Classical.propDecidable _) E (va_up E b (nw (E b) (gatR M0 E cnt b)))
