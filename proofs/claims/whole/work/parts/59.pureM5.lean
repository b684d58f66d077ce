/-! ===== the reference's look and narrow, their ends ===== -/
def mOK (M : wM) (cnt t : Nat) : Prop := M 0 1 = nI cnt ∧ cnt ≤ 16 ∧ M 0 14 = nI t ∧ t ≤ 8 ∧ (∀ b, b < 16 → M 1 b = nI (tn (M 1 b)) ∧ tn (M 1 b) ≤ 8) ∧ (∀ b, b < 16 → ∀ a, a < tn (M 1 b) → st9 M b a) ∧ (∀ b, b < 16 → M 3 b = nI (tn (M 3 b)) ∧ tn (M 3 b) ≤ 2) ∧ (∀ b, b < 16 → isV (M 6 b) ∧ isV (M 7 b)) ∧ (∀ b, b < 16 → inB (M 8 b) 4)
theorem mOK_AM {M0 M : wM} {E : Nat → aS} {V : Nat → Int32} {cnt t : Nat} (h : mOK M0 cnt t) (g : AM M0 M E V) : mOK M cnt t := by
  obtain ⟨h1, h2, h3, h4, h5, h6, h7, h8, h9⟩ := h
  unfold mOK
  unfold st9 at *
  rw [g.2.1 1 (by decide), g.2.1 14 (by decide), AM_at g 1 (by omega), AM_at g 2 (by omega), AM_at g 3 (by omega), AM_at g 6 (by omega), AM_at g 7 (by omega), AM_at g 8 (by omega)]
  exact ⟨h1, h2, h3, h4, h5, h6, h7, h8, h9⟩
theorem js_0 {M : wM} (h : M 0 23 = 0) : js M = none := by unfold js; rw [if_pos h]
theorem js_1 {M : wM} (h : ¬ M 0 23 = 0) : js M = some (rr (M 18, M 19)) := by unfold js; rw [if_neg h]
theorem enM_0 {M : wM} {b : Nat} (h : M 12 b = 0) : enM M b = none := by unfold enM; rw [if_pos h]
theorem enM_1 {M : wM} {b : Nat} (h : ¬ M 12 b = 0) : enM M b = some (rw9 M b) := by unfold enM; rw [if_neg h]
/-- what gather leaves, over the analysis -/
theorem AM_g {M0 M Mg : wM} {E : Nat → aS} {V : Nat → Int32} {cnt t b : Nat} (hp : mOK M0 cnt t) (hN : AM M0 M E V) (hG : Igm M (gatm M cnt b) Mg) : AM M0 Mg E V ∧ js Mg = gatR M0 E cnt b :=
  ⟨AM_mK hN hG.1, hG.2.2.trans (AM_gat hN hp.2.1)⟩
theorem nEm_eq {M0 Mg : wM} {E : Nat → aS} {V : Nat → Int32} {cnt t b : Nat} (hb : b < 16) (hN : AM M0 Mg E V) (hj : js Mg = gatR M0 E cnt b) (h : ¬ Mg 0 23 = 0) : nEm M0 E V cnt t b = some (r6 (nlm Mg b t), r6 (nhm Mg b t)) := by
  have hB : ∀ a, BL M0 t a = BL Mg t a := fun a => by unfold BL; rw [bel_eq (AM_at hN 11 (by omega))]
  have hA : ∀ a, AB M0 t a = AB Mg t a := fun a => by unfold AB; rw [abo_eq (AM_at hN 11 (by omega))]
  have hd : M0 0 12 = Mg 0 12 := (hN.2.1 12 (by decide)).symm
  have hE := (hN.2.2.2 b hb).1
  have hV := (hN.2.2.2 b hb).2
  unfold nEm
  rw [← hj, js_1 h, hd, ← hV]
  by_cases q : Mg 12 b = 0
  · rw [enM_0 q] at hE
    rw [← hE, if_neg (fun z => z.1 rfl)]
    show some (rr (Mg 18, Mg 19)) = _
    unfold rr
    rw [r6_ext (f := Mg 18) (g := nlm Mg b t) (fun v hv => nlm_0 q), r6_ext (f := Mg 19) (g := nhm Mg b t) (fun v hv => nhm_0 q)]
  · rw [enM_1 q] at hE
    rw [← hE]
    have e1 : ∀ v, v < 6 → i_mn ((rw9 Mg b).1 v) ((rr (Mg 18, Mg 19)).1 v) = jlo Mg b v := fun v hv => by
      rw [jlo_1 q]; unfold rw9; rw [rr_1 hv, rr_1 hv]
    have e2 : ∀ v, v < 6 → i_mx ((rw9 Mg b).2 v) ((rr (Mg 18, Mg 19)).2 v) = jhi Mg b v := fun v hv => by
      rw [jhi_1 q]; unfold rw9; rw [rr_2 hv, rr_2 hv]
    by_cases w : Mg 15 b < Mg 0 12
    · rw [if_neg (fun z => z.2 w)]
      show some (r6 (fun v => i_mn ((rw9 Mg b).1 v) ((rr (Mg 18, Mg 19)).1 v)), r6 (fun v => i_mx ((rw9 Mg b).2 v) ((rr (Mg 18, Mg 19)).2 v))) = _
      exact congrArg some (congr (congrArg Prod.mk (r6_ext fun v hv => by rw [e1 v hv, jlo_1 q]; exact nlm_1 q w)) (r6_ext fun v hv => by rw [e2 v hv, jhi_1 q]; exact nhm_1 q w))
    · rw [if_pos ⟨by simp, w⟩]
      show some (r6 (fun v => if (rw9 Mg b).1 v ≤ r6 (fun v => i_mn ((rw9 Mg b).1 v) ((rr (Mg 18, Mg 19)).1 v)) v then r6 (fun v => i_mn ((rw9 Mg b).1 v) ((rr (Mg 18, Mg 19)).1 v)) v else BL M0 t (r6 (fun v => i_mn ((rw9 Mg b).1 v) ((rr (Mg 18, Mg 19)).1 v)) v)), r6 (fun v => if r6 (fun v => i_mx ((rw9 Mg b).2 v) ((rr (Mg 18, Mg 19)).2 v)) v ≤ (rw9 Mg b).2 v then r6 (fun v => i_mx ((rw9 Mg b).2 v) ((rr (Mg 18, Mg 19)).2 v)) v else AB M0 t (r6 (fun v => i_mx ((rw9 Mg b).2 v) ((rr (Mg 18, Mg 19)).2 v)) v))) = _
      refine congrArg some (congr (congrArg Prod.mk (r6_ext fun v hv => ?_)) (r6_ext fun v hv => ?_))
      · rw [r6_lt hv, e1 v hv, hB]
        show (if (rr (fun v => Mg 13 (6 * b + v), fun v => Mg 14 (6 * b + v))).1 v ≤ jlo Mg b v then _ else _) = _
        rw [rr_1 hv]
        unfold nlm
        by_cases c : Mg 13 (6 * b + v) ≤ jlo Mg b v
        · rw [if_pos c, if_neg (fun z => z.2.2 c)]
        · rw [if_neg c, if_pos ⟨q, w, c⟩]
      · rw [r6_lt hv, e2 v hv, hA]
        show (if jhi Mg b v ≤ (rr (fun v => Mg 13 (6 * b + v), fun v => Mg 14 (6 * b + v))).2 v then _ else _) = _
        rw [rr_2 hv]
        unfold nhm
        by_cases c : jhi Mg b v ≤ Mg 14 (6 * b + v)
        · rw [if_pos c, if_neg (fun z => z.2.2 c)]
        · rw [if_neg c, if_pos ⟨q, w, c⟩]
theorem r6_inj {f g : Nat → Int32} (h : r6 f = r6 g) {v : Nat} (hv : v < 6) : f v = g v := by
  have := congrFun h v
  rw [r6_lt hv, r6_lt hv] at this
  exact this
theorem chR_eq {M0 Mg : wM} {E : Nat → aS} {V : Nat → Int32} {cnt t b : Nat} (hb : b < 16) (hN : AM M0 Mg E V) (hj : js Mg = gatR M0 E cnt b) (h : ¬ Mg 0 23 = 0) : chR M0 E V cnt t b ↔ Mg 12 b = 0 ∨ ∃ v, v < 6 ∧ (¬ nlm Mg b t v = Mg 13 ((6 * b) + v) ∨ ¬ nhm Mg b t v = Mg 14 ((6 * b) + v)) := by
  have hE := (hN.2.2.2 b hb).1
  unfold chR
  rw [nEm_eq hb hN hj h, ← hj, js_1 h, ← hE]
  by_cases q : Mg 12 b = 0
  · rw [enM_0 q]
    exact ⟨fun _ => Or.inl q, fun _ => ⟨by simp, by simp⟩⟩
  · rw [enM_1 q]
    constructor
    · rintro ⟨-, z⟩
      refine Or.inr (Classical.byContradiction fun n => z ?_)
      have n' : ∀ v, v < 6 → nlm Mg b t v = Mg 13 ((6 * b) + v) ∧ nhm Mg b t v = Mg 14 ((6 * b) + v) := fun v hv => by
        refine ⟨Classical.byContradiction fun c => n ⟨v, hv, Or.inl c⟩, Classical.byContradiction fun c => n ⟨v, hv, Or.inr c⟩⟩
      exact congrArg some (congr (congrArg Prod.mk (r6_ext fun v hv => (n' v hv).1)) (r6_ext fun v hv => (n' v hv).2))
    · rintro (z | ⟨v, hv, z⟩)
      · exact absurd z q
      · refine ⟨by simp, fun e => ?_⟩
        have e1 : (r6 (nlm Mg b t), r6 (nhm Mg b t)) = rw9 Mg b := Option.some.inj e
        have a1 : nlm Mg b t v = Mg 13 ((6 * b) + v) := r6_inj (congrArg Prod.fst e1) hv
        have a2 : nhm Mg b t v = Mg 14 ((6 * b) + v) := r6_inj (congrArg Prod.snd e1) hv
        rcases z with z | z
        · exact z a1
        · exact z a2
theorem lkER_1 {M0 : wM} {E : Nat → aS} {V : Nat → Int32} {cnt t b : Nat} (h : chR M0 E V cnt t b) : lkER M0 E V cnt t b = va_up E b (nEm M0 E V cnt t b) := by unfold lkER; rw [if_pos h]
theorem lkER_0 {M0 : wM} {E : Nat → aS} {V : Nat → Int32} {cnt t b : Nat} (h : ¬ chR M0 E V cnt t b) : lkER M0 E V cnt t b = E := by unfold lkER; rw [if_neg h]
theorem lkVR_1 {M0 : wM} {E : Nat → aS} {V : Nat → Int32} {cnt t b : Nat} (h : chR M0 E V cnt t b) : lkVR M0 E V cnt t b = va_up V b (V b + nI 1) := by unfold lkVR; rw [if_pos h]
theorem lkVR_0 {M0 : wM} {E : Nat → aS} {V : Nat → Int32} {cnt t b : Nat} (h : ¬ chR M0 E V cnt t b) : lkVR M0 E V cnt t b = V := by unfold lkVR; rw [if_neg h]
def qLk (M0 : wM) (J : wJ) (cnt t b : Nat) (E : Nat → aS) (V : Nat → Int32) (r : Int32) (u : wM × wJ) : Prop := u.2 = J ∧ ((r = nI 1 ∧ chR M0 E V cnt t b) ∨ (r = nI 0 ∧ ¬ chR M0 E V cnt t b)) ∧ AM M0 u.1 (lkER M0 E V cnt t b) (lkVR M0 E V cnt t b)
theorem qLk_1 {M0 M Mg : wM} {J : wJ} {E : Nat → aS} {V : Nat → Int32} {cnt t b : Nat} (hp : mOK M0 cnt t) (hN : AM M0 M E V) (hG : Igm M (gatm M cnt b) Mg) (h : Mg 0 23 = 0) : qLk M0 J cnt t b E V (nI 0) (Mg, J) := by
  obtain ⟨g1, g2⟩ := AM_g (t := t) hp hN hG
  rw [js_0 h] at g2
  have nc : ¬ chR M0 E V cnt t b := fun z => z.1 g2.symm
  refine ⟨rfl, Or.inr ⟨rfl, nc⟩, ?_⟩
  rw [lkER_0 nc, lkVR_0 nc]; exact g1
theorem Int32_add0 (x : Int32) : x + nI 0 = x := by rw [nI_0]; exact Int32.add_zero x
theorem qLk_2 {M0 M Mg M1 : wM} {J : wJ} {E : Nat → aS} {V : Nat → Int32} {cnt t b : Nat} {c : Bool} (hb : b < 16) (hp : mOK M0 cnt t) (hN : AM M0 M E V) (hG : Igm M (gatm M cnt b) Mg) (h : ¬ Mg 0 23 = 0) (hI : Ilk Mg b t 6 c M1) {d x : Int32} (hd : d = (if c = true then nI 1 else nI 0)) (hx : x = Mg 15 b) : qLk M0 J cnt t b E V (if c = true then nI 1 else nI 0) (wU (wU M1 12 b (nI 1)) 15 b (x + d), J) := by
  obtain ⟨g1, g2⟩ := AM_g (t := t) hp hN hG
  have hc := (chR_eq hb g1 g2 h (t := t)).symm
  rw [← hI.2.2.2] at hc
  have hn := nEm_eq hb g1 g2 h (t := t)
  have en : enM (wU (wU M1 12 b (nI 1)) 15 b (x + d)) b = nEm M0 E V cnt t b := by
    rw [hn, enM_1 (by rw [wU_ne (by decide), wU_at, if_pos ⟨rfl, rfl⟩]; decide)]
    unfold rw9 rr
    refine congrArg some (congr (congrArg Prod.mk (r6_ext fun v hv => ?_)) (r6_ext fun v hv => ?_))
    · show wU (wU M1 12 b (nI 1)) 15 b (x + d) 13 (6 * b + v) = _
      rw [wU_ne (by decide), wU_ne (by decide), hI.2.1, if_pos (by omega), show 6 * b + v - 6 * b = v by omega]
    · show wU (wU M1 12 b (nI 1)) 15 b (x + d) 14 (6 * b + v) = _
      rw [wU_ne (by decide), wU_ne (by decide), hI.2.2.1, if_pos (by omega), show 6 * b + v - 6 * b = v by omega]
  have eo : ∀ q, q < 16 → q ≠ b → enM (wU (wU M1 12 b (nI 1)) 15 b (x + d)) q = E q := fun q hq hqb => by
    rw [← (g1.2.2.2 q hq).1]
    unfold enM rw9
    have e12 : wU (wU M1 12 b (nI 1)) 15 b (x + d) 12 q = Mg 12 q := by rw [wU_ne (by decide), wU_at, if_neg (fun z => hqb z.2), hI.1 12 (by decide)]
    rw [e12]
    have er : rr (fun v => wU (wU M1 12 b (nI 1)) 15 b (x + d) 13 (6 * q + v), fun v => wU (wU M1 12 b (nI 1)) 15 b (x + d) 14 (6 * q + v)) = rr (fun v => Mg 13 (6 * q + v), fun v => Mg 14 (6 * q + v)) := by
      unfold rr
      refine congr (congrArg Prod.mk (r6_ext fun v hv => ?_)) (r6_ext fun v hv => ?_)
      · show wU (wU M1 12 b (nI 1)) 15 b (x + d) 13 (6 * q + v) = Mg 13 (6 * q + v)
        rw [wU_ne (by decide), wU_ne (by decide), hI.2.1, if_neg (by omega)]
      · show wU (wU M1 12 b (nI 1)) 15 b (x + d) 14 (6 * q + v) = Mg 14 (6 * q + v)
        rw [wU_ne (by decide), wU_ne (by decide), hI.2.2.1, if_neg (by omega)]
    rw [er]
  have ev : ∀ q, q ≠ b → wU (wU M1 12 b (nI 1)) 15 b (x + d) 15 q = Mg 15 q := fun q hqb => by
    rw [wU_at, if_neg (fun z => hqb z.2), wU_ne (by decide), hI.1 15 (by decide)]
  have evb : wU (wU M1 12 b (nI 1)) 15 b (x + d) 15 b = V b + d := by
    rw [wU_at, if_pos ⟨rfl, rfl⟩, hx, (g1.2.2.2 b hb).2]
  have k1 : kp M0 (wU (wU M1 12 b (nI 1)) 15 b (x + d)) amC := kp_trans (kp_trans g1.1 (kp_mono hI.1 (fun c hc => by unfold amC; omega))) (kp_trans (kp_U (by unfold amC; omega)) (kp_U (by unfold amC; omega)))
  have k2 : ∀ j, j ≠ 23 → wU (wU M1 12 b (nI 1)) 15 b (x + d) 0 j = M0 0 j := fun j hj => by
    rw [wU_ne (by decide), wU_ne (by decide), hI.1 0 (by decide)]; exact g1.2.1 j hj
  have k3 : ∀ q, q < 16 → bz (wU (wU M1 12 b (nI 1)) 15 b (x + d) 12 q) := fun q hq => by
    rw [wU_ne (by decide), wU_at]
    by_cases z : q = b
    · rw [if_pos ⟨rfl, z⟩]; exact Or.inr rfl
    · rw [if_neg (fun w => z w.2), hI.1 12 (by decide)]; exact g1.2.2.1 q hq
  by_cases cc : c = true
  · have ch := hc.mp cc
    refine ⟨rfl, Or.inl ⟨if_pos cc, ch⟩, k1, k2, k3, fun q hq => ?_⟩
    rw [lkER_1 ch, lkVR_1 ch]
    by_cases z : q = b
    · subst z
      rw [va_up_self, va_up_self]
      exact ⟨en, by show wU (wU M1 12 q (nI 1)) 15 q (x + d) 15 q = _; rw [evb, hd, if_pos cc]⟩
    · rw [va_up_ne _ _ z, va_up_ne _ _ z]
      exact ⟨eo q hq z, (ev q z).trans (g1.2.2.2 q hq).2⟩
  · have ch : ¬ chR M0 E V cnt t b := fun z => cc (hc.mpr z)
    refine ⟨rfl, Or.inr ⟨if_neg cc, ch⟩, k1, k2, k3, fun q hq => ?_⟩
    rw [lkER_0 ch, lkVR_0 ch]
    by_cases z : q = b
    · subst z
      refine ⟨en.trans ?_, ?_⟩
      · refine Classical.byContradiction fun n => ch ⟨?_, n⟩
        rw [← g2, js_1 h]; simp
      · show wU (wU M1 12 q (nI 1)) 15 q (x + d) 15 q = _
        rw [evb, hd, if_neg cc, Int32_add0]
    · exact ⟨eo q hq z, (ev q z).trans (g1.2.2.2 q hq).2⟩
/-- narrowing -/
def Inr (M : wM) (b k : Nat) (M' : wM) : Prop := kp M M' (fun c => c = 13 ∨ c = 14) ∧ (∀ j, M' 13 j = (if 6 * b ≤ j ∧ j < 6 * b + k then i_mx (M 13 j) (M 18 (j - 6 * b)) else M 13 j)) ∧ (∀ j, M' 14 j = (if 6 * b ≤ j ∧ j < 6 * b + k then i_mn (M 14 j) (M 19 (j - 6 * b)) else M 14 j))
theorem Inr_0 {M : wM} {b : Nat} : Inr M b 0 M := ⟨kp_refl _ _, fun j => by rw [if_neg (by omega)], fun j => by rw [if_neg (by omega)]⟩
theorem Inr_s {M M1 : wM} {b k : Nat} (h : Inr M b k M1) {a d : Int32} (ha : a = i_mx (M 13 ((6 * b) + k)) (M 18 k)) (hd : d = i_mn (M 14 ((6 * b) + k)) (M 19 k)) : Inr M b (k + 1) (wU (wU M1 13 ((6 * b) + k) a) 14 ((6 * b) + k) d) := by
  obtain ⟨h1, h2, h3⟩ := h
  refine ⟨kp_trans h1 (kp_trans (kp_U (Or.inl rfl)) (kp_U (Or.inr rfl))), fun j => ?_, fun j => ?_⟩
  · rw [wU_ne (by decide), wU_at]
    by_cases q : j = 6 * b + k
    · rw [if_pos ⟨rfl, q⟩, if_pos (by omega), ha, show j - 6 * b = k by omega, q]
    · rw [if_neg (fun z => q z.2), h2 j]
      by_cases q2 : 6 * b ≤ j ∧ j < 6 * b + k
      · rw [if_pos q2, if_pos (by omega)]
      · rw [if_neg q2, if_neg (by omega)]
  · rw [wU_at]
    by_cases q : j = 6 * b + k
    · rw [if_pos ⟨rfl, q⟩, if_pos (by omega), hd, show j - 6 * b = k by omega, q]
    · rw [if_neg (fun z => q z.2), wU_ne (by decide), h3 j]
      by_cases q2 : 6 * b ≤ j ∧ j < 6 * b + k
      · rw [if_pos q2, if_pos (by omega)]
      · rw [if_neg q2, if_neg (by omega)]
def qNr (M0 : wM) (J : wJ) (cnt b : Nat) (E : Nat → aS) (V : Nat → Int32) (u : wM × wJ) : Prop := u.2 = J ∧ AM M0 u.1 (nrER M0 E cnt b) V
theorem nrER_0 {M0 : wM} {E : Nat → aS} {cnt b : Nat} (h : E b = none) : nrER M0 E cnt b = E := by unfold nrER; rw [if_pos h]
theorem nrER_1 {M0 : wM} {E : Nat → aS} {cnt b : Nat} (h : ¬ E b = none) : nrER M0 E cnt b = va_up E b (nw (E b) (gatR M0 E cnt b)) := by unfold nrER; rw [if_neg h]
theorem qNr_0 {M0 M : wM} {J : wJ} {E : Nat → aS} {V : Nat → Int32} {cnt b : Nat} (hb : b < 16) (hN : AM M0 M E V) (h : M 12 b = 0) : qNr M0 J cnt b E V (M, J) := by
  have e := (hN.2.2.2 b hb).1
  rw [enM_0 h] at e
  refine ⟨rfl, ?_⟩
  rw [nrER_0 e.symm]; exact hN
theorem Nr_AM {M0 Mg U : wM} {E : Nat → aS} {V : Nat → Int32} {b : Nat} {a : aS} (g1 : AM M0 Mg E V) (k0 : kp Mg U (fun c => c = 12 ∨ c = 13 ∨ c = 14)) (kz : bz (U 12 b)) (k12 : ∀ q, q ≠ b → U 12 q = Mg 12 q) (k13 : ∀ j, ¬ (6 * b ≤ j ∧ j < 6 * b + 6) → U 13 j = Mg 13 j ∧ U 14 j = Mg 14 j) (en : enM U b = a) : AM M0 U (va_up E b a) V := by
  refine ⟨kp_trans g1.1 (kp_mono k0 (fun c hc => by unfold amC; omega)), fun j hj => ?_, fun q hq => ?_, fun q hq => ?_⟩
  · rw [k0 0 (by decide)]; exact g1.2.1 j hj
  · by_cases z : q = b
    · rw [z]; exact kz
    · rw [k12 q z]; exact g1.2.2.1 q hq
  · by_cases z : q = b
    · subst z
      rw [va_up_self]
      exact ⟨en, by rw [k0 15 (by decide)]; exact (g1.2.2.2 q hq).2⟩
    · rw [va_up_ne _ _ z]
      refine ⟨?_, by rw [k0 15 (by decide)]; exact (g1.2.2.2 q hq).2⟩
      rw [← (g1.2.2.2 q hq).1]
      unfold enM rw9
      rw [k12 q z]
      have er : rr (fun v => U 13 (6 * q + v), fun v => U 14 (6 * q + v)) = rr (fun v => Mg 13 (6 * q + v), fun v => Mg 14 (6 * q + v)) := by
        unfold rr
        refine congr (congrArg Prod.mk (r6_ext fun v hv => ?_)) (r6_ext fun v hv => ?_)
        · exact (k13 (6 * q + v) (by omega)).1
        · exact (k13 (6 * q + v) (by omega)).2
      rw [er]
theorem qNr_1 {M0 M Mg M1 : wM} {J : wJ} {E : Nat → aS} {V : Nat → Int32} {cnt t b : Nat} (hb : b < 16) (hp : mOK M0 cnt t) (hN : AM M0 M E V) (h0 : ¬ M 12 b = 0) (hG : Igm M (gatm M cnt b) Mg) (h : Mg 0 23 = 0) (hI : Inr (wU Mg 12 b (Mg 0 23)) b 0 M1) : qNr M0 J cnt b E V (M1, J) := by
  obtain ⟨g1, g2⟩ := AM_g (t := t) hp hN hG
  have e := (hN.2.2.2 b hb).1
  rw [enM_1 h0] at e
  rw [js_0 h] at g2
  refine ⟨rfl, ?_⟩
  rw [nrER_1 (by rw [← e]; simp), ← e, ← g2]
  have e13 : M1 13 = Mg 13 := by funext j; rw [hI.2.1 j, if_neg (by omega), wU_ne (by decide)]
  have e14 : M1 14 = Mg 14 := by funext j; rw [hI.2.2 j, if_neg (by omega), wU_ne (by decide)]
  have e12 : M1 12 = upd (Mg 12) b (Mg 0 23) := by rw [hI.1 12 (by decide), wU_self]
  refine Nr_AM g1 (kp_trans (kp_U (by omega)) (kp_mono hI.1 (fun c hc => Or.inr hc))) ?_ (fun q hq => ?_) (fun j _ => ⟨by show M1 13 j = _; rw [e13], by show M1 14 j = _; rw [e14]⟩) ?_
  · show bz (M1 12 b)
    rw [e12, upd_at, if_pos rfl, h]; exact bz_0
  · show M1 12 q = _
    rw [e12, upd_at, if_neg hq]
  · show enM M1 b = none
    exact enM_0 (by rw [e12, upd_at, if_pos rfl, h])
theorem qNr_2 {M0 M Mg M1 : wM} {J : wJ} {E : Nat → aS} {V : Nat → Int32} {cnt t b : Nat} (hb : b < 16) (hp : mOK M0 cnt t) (hN : AM M0 M E V) (h0 : ¬ M 12 b = 0) (hG : Igm M (gatm M cnt b) Mg) (h : ¬ Mg 0 23 = 0) (hI : Inr (wU Mg 12 b (Mg 0 23)) b 6 M1) : qNr M0 J cnt b E V (M1, J) := by
  obtain ⟨g1, g2⟩ := AM_g (t := t) hp hN hG
  have e := (g1.2.2.2 b hb).1
  have h0' : ¬ Mg 12 b = 0 := by rw [mK_at hG.1 12 (by omega)]; exact h0
  rw [enM_1 h0'] at e
  rw [js_1 h] at g2
  refine ⟨rfl, ?_⟩
  rw [nrER_1 (by rw [← e]; simp), ← e, ← g2]
  have e12 : M1 12 = upd (Mg 12) b (Mg 0 23) := by rw [hI.1 12 (by decide), wU_self]
  refine Nr_AM g1 (kp_trans (kp_U (by omega)) (kp_mono hI.1 (fun c hc => Or.inr hc))) ?_ (fun q hq => ?_) (fun j hj => ⟨?_, ?_⟩) ?_
  · show bz (M1 12 b)
    rw [e12, upd_at, if_pos rfl]; exact hG.2.1
  · show M1 12 q = _
    rw [e12, upd_at, if_neg hq]
  · show M1 13 j = _
    rw [hI.2.1 j, if_neg hj, wU_ne (by decide)]
  · show M1 14 j = _
    rw [hI.2.2 j, if_neg hj, wU_ne (by decide)]
  · show enM M1 b = _
    rw [enM_1 (by rw [e12, upd_at, if_pos rfl]; exact h)]
    show some (rw9 M1 b) = some (r6 (fun v => i_mx ((rw9 Mg b).1 v) ((rr (Mg 18, Mg 19)).1 v)), r6 (fun v => i_mn ((rw9 Mg b).2 v) ((rr (Mg 18, Mg 19)).2 v)))
    refine congrArg some (congr (congrArg Prod.mk (r6_ext fun v hv => ?_)) (r6_ext fun v hv => ?_))
    · unfold rw9; rw [rr_1 hv, rr_1 hv]
      show M1 13 (6 * b + v) = _
      rw [hI.2.1, if_pos (by omega), wU_ne (by decide), wU_ne (by decide), show 6 * b + v - 6 * b = v by omega]
    · unfold rw9; rw [rr_2 hv, rr_2 hv]
      show M1 14 (6 * b + v) = _
      rw [hI.2.2, if_pos (by omega), wU_ne (by decide), wU_ne (by decide), show 6 * b + v - 6 * b = v by omega]
