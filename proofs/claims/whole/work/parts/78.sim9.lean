/-! ===== both executions are the same: pure ===== -/
theorem x_neg (x y : Int64) (hy : 0 < y.toInt) : (x ^^^ y).toInt < 0 ↔ x.toInt < 0 := by
  have h1 : ∀ z : Int64, z.toInt < 0 ↔ z.toBitVec.msb = true := fun z => by
    show z.toBitVec.toInt < 0 ↔ _
    rw [BitVec.toInt_neg_iff, BitVec.msb_eq_true_iff_two_mul_ge]
  rw [h1, h1]
  have hm : y.toBitVec.msb = false := by
    cases h : y.toBitVec.msb
    · rfl
    · have := (h1 y).mpr h; omega
  rw [show (x ^^^ y).toBitVec = x.toBitVec ^^^ y.toBitVec from rfl, BitVec.msb_xor, hm]
  simp
theorem rem_t (x y : Int64) (hy : 0 < y.toInt) : (x - x / y * y).toInt = x.toInt.tmod y.toInt := by
  have hx1 := Int64.le_toInt x
  have hx2 := Int64.toInt_lt x
  have d1 : (x.toInt.tdiv y.toInt).natAbs ≤ x.toInt.natAbs := by
    rw [Int.natAbs_tdiv]; exact Nat.div_le_self _ _
  have tm := Int.tmod_add_mul_tdiv x.toInt y.toInt
  by_cases hd : x.toInt.tdiv y.toInt < 9223372036854775808
  · have ed : (x / y).toInt = x.toInt.tdiv y.toInt := by rw [Int64.toInt_div, b64 (by omega) hd]
    have mm : x.toInt.tdiv y.toInt * y.toInt = y.toInt * x.toInt.tdiv y.toInt := Int.mul_comm _ _
    have em : (x / y * y).toInt = (x.toInt.tdiv y.toInt * y.toInt).bmod (2^64) := by rw [Int64.toInt_mul, ed]
    rw [Int64.toInt_sub, em, Int.sub_bmod_bmod]
    have sg : x.toInt - x.toInt.tdiv y.toInt * y.toInt = x.toInt.tmod y.toInt := by omega
    have tb : (x.toInt.tmod y.toInt).natAbs ≤ x.toInt.natAbs := by
      rw [Int.natAbs_tmod]; exact Nat.mod_le _ _
    have tl := Int.tmod_lt_of_pos x.toInt hy
    have y2 := Int64.toInt_lt y
    rw [sg, b64 (by omega) (by omega)]
  · exfalso
    by_cases h0 : 0 ≤ x.toInt
    · omega
    · have : x.toInt.tdiv y.toInt ≤ 0 := by
        have := Int.tdiv_nonneg (a := -x.toInt) (b := y.toInt) (by omega) (by omega)
        rw [Int.neg_tdiv] at this; omega
      omega
theorem rem_s (x y : Int64) (hy : 0 < y.toInt) : (0 ≤ x.toInt → 0 ≤ (x - x / y * y).toInt) ∧ (x.toInt < 0 → (x - x / y * y).toInt ≤ 0) ∧ (x - x / y * y).toInt < y.toInt ∧ - y.toInt < (x - x / y * y).toInt := by
  rw [rem_t x y hy]
  refine ⟨fun h => Int.tmod_nonneg _ h, fun h => ?_, Int.tmod_lt_of_pos _ hy, ?_⟩
  · have := Int.tmod_nonneg (a := -x.toInt) y.toInt (by omega)
    rw [Int.neg_tmod] at this; omega
  · have := Int.tmod_lt_of_pos (-x.toInt) hy
    rw [Int.neg_tmod] at this; omega
theorem l0 : (0 : Int64).toInt = 0 := by decide
theorem fm_eq {r s : Int64} (hs : 0 < s.toInt) : fmd r s = rmd r s := by
  show E_J9_floorMod_f86c9 _ r s = _
  unfold E_J9_floorMod_f86c9 rmd
  obtain ⟨k1, k2, -, -⟩ := rem_s r s hs
  by_cases h : 0 ≤ r.toInt
  · rw [if_pos ((lg_cmp_ge _ _).mpr (Int64.le_iff_toInt_le.mpr (by rw [l0]; have := x_neg r s hs; omega))), if_pos ((lg_cmp_ge _ _).mpr (Int64.le_iff_toInt_le.mpr (by rw [l0]; exact k1 h)))]
  · rw [if_neg (fun z => by
      have := Int64.le_iff_toInt_le.mp ((lg_cmp_ge _ _).mp z)
      rw [l0] at this
      have := x_neg r s hs; omega)]
    by_cases q : (r - r / s * s).toInt = 0
    · have e : r - r / s * s = 0 := Int64.toInt_inj.mp (by rw [q, l0])
      rw [if_pos ((lg_cmp_eq _ _).mpr e), if_pos ((lg_cmp_ge _ _).mpr (by rw [e]; exact Int64.le_refl 0))]
    · rw [if_neg (fun z => q (by rw [(lg_cmp_eq _ _).mp z, l0])), if_neg (fun z => by
        have := Int64.le_iff_toInt_le.mp ((lg_cmp_ge _ _).mp z)
        rw [l0] at this
        have := k2 (by omega); omega)]
theorem rmd_b {r s : Int64} (hs : 0 < s.toInt) (h2 : s.toInt ≤ 4000000000) : 0 ≤ (rmd r s).toInt ∧ (rmd r s).toInt < s.toInt := by
  obtain ⟨k1, k2, k3, k4⟩ := rem_s r s hs
  unfold rmd
  by_cases q : 0 ≤ lg_cmp (r - r / s * s) 0
  · rw [if_pos q]
    have := Int64.le_iff_toInt_le.mp ((lg_cmp_ge _ _).mp q)
    rw [l0] at this
    omega
  · rw [if_neg q]
    have : ¬ 0 ≤ (r - r / s * s).toInt := fun z => q ((lg_cmp_ge _ _).mpr (Int64.le_iff_toInt_le.mpr (by rw [l0]; exact z)))
    rw [Int64.toInt_add, b64 (by omega) (by omega)]
    omega
/-- a range's choice is the same on both sides, and of the range -/
theorem ch_dr {r : Int64} {lo up : Int32} (h : -1000000000 ≤ lo.toInt ∧ lo.toInt ≤ up.toInt ∧ up.toInt ≤ 1000000000) : chs r lo up = drw r lo up ∧ -1000000000 ≤ (drw r lo up).toInt ∧ (drw r lo up).toInt ≤ 1000000000 := by
  obtain ⟨h1, h2, h3⟩ := h
  obtain ⟨e, -⟩ := szz_ne h1 h2 h3
  have b := rmd_b (r := r) (s := szz lo up) (by omega) (by omega)
  refine ⟨?_, ?_⟩
  · unfold chs drw
    rw [if_neg (fun z => by
      have := Int64.le_iff_toInt_le.mp ((lg_cmp_le _ _).mp z)
      rw [l0] at this; omega), fm_eq (by omega)]
  · unfold drw
    rw [Int64.toInt_toInt32, Int64.toInt_add, t_64, b64 (by omega) (by omega), b32 (by omega) (by omega)]
    omega
/-- the variables on both sides -/
def xV (k : Nat) (f g : Nat → Int32) : Prop := ∀ v, v < k → f v = g v ∧ -1000000000 ≤ (g v).toInt ∧ (g v).toInt ≤ 1000000000
theorem xV_upd {k x : Nat} {f g : Nat → Int32} {a c : Int32} (h : xV k f g) (e : a = c) (h1 : -1000000000 ≤ c.toInt) (h2 : c.toInt ≤ 1000000000) : xV k (upd f x a) (upd g x c) := fun v hv => by
  rw [upd_at, upd_at]
  by_cases q : v = x
  · rw [if_pos q, if_pos q]; exact ⟨e, h1, h2⟩
  · rw [if_neg q, if_neg q]; exact h v hv
theorem lim_b (x : Int64) : -1000000000 ≤ (lim x).toInt ∧ (lim x).toInt ≤ 1000000000 := by rw [t_lim]; omega
theorem ex_eq {k k' p q : Int32} {f g : Nat → Int32} {r : Int64} (hk : kdE k k') (hs : soR k' p q) (h : xV 6 f g) : (exS k p q f r) = (vM k' p q g r) ∧ -1000000000 ≤ (vM k' p q g r).1.toInt ∧ (vM k' p q g r).1.toInt ≤ 1000000000 := by
  rcases hk with ⟨rfl, j, hj, rfl⟩ | ⟨rfl, rfl⟩ | ⟨rfl, rfl⟩
  · obtain ⟨vp, vq⟩ := hs.1 j (by omega) rfl
    obtain ⟨p1, p2, p3⟩ := h (tn p) vp.2
    obtain ⟨q1, q2, q3⟩ := h (tn q) vq.2
    rw [exS_0 (nI_ne (by omega) (by omega) (by decide)) (nI_ne (by omega) (by omega) (by decide)), p1, q1]
    rcases (show j = 0 ∨ j = 1 ∨ j = 2 ∨ j = 3 ∨ j = 4 ∨ j = 5 by omega) with rfl | rfl | rfl | rfl | rfl | rfl
    · have e : vM (nI 0) p q g r = (g (tn p), r) := if_pos rfl
      rw [e, oc_0, lim_id p2 p3]; exact ⟨rfl, p2, p3⟩
    · have e : vM (nI 1) p q g r = (lim ((g (tn p)).toInt64 + (g (tn q)).toInt64), r) := by unfold vM; rw [if_neg (by decide), if_pos rfl]
      rw [e, oc_1]; exact ⟨rfl, lim_b _⟩
    · have e : vM (nI 2) p q g r = (lim ((g (tn p)).toInt64 - (g (tn q)).toInt64), r) := by unfold vM; rw [if_neg (by decide), if_neg (by decide), if_pos rfl]
      rw [e, oc_2]; exact ⟨rfl, lim_b _⟩
    · have e : vM (nI 3) p q g r = (lim ((g (tn p)).toInt64 * (g (tn q)).toInt64), r) := by unfold vM; rw [if_neg (by decide), if_neg (by decide), if_neg (by decide), if_pos rfl]
      rw [e, oc_3]; exact ⟨rfl, lim_b _⟩
    · have e : vM (nI 4) p q g r = (i_mn (g (tn p)) (g (tn q)), r) := by unfold vM; rw [if_neg (by decide), if_neg (by decide), if_neg (by decide), if_neg (by decide), if_pos rfl]
      have m := t_mn (g (tn p)) (g (tn q))
      rw [e, oc_4, lim_id (by omega) (by omega)]; exact ⟨rfl, by show _ ≤ (i_mn _ _).toInt; omega, by show (i_mn _ _).toInt ≤ _; omega⟩
    · have e : vM (nI 5) p q g r = (i_mx (g (tn p)) (g (tn q)), r) := by unfold vM; rw [if_neg (by decide), if_neg (by decide), if_neg (by decide), if_neg (by decide), if_neg (by decide), if_pos rfl]
      have m := t_mx (g (tn p)) (g (tn q))
      rw [e, oc_5, lim_id (by omega) (by omega)]; exact ⟨rfl, by show _ ≤ (i_mx _ _).toInt; omega, by show (i_mx _ _).toInt ≤ _; omega⟩
  · have v := hs.2 (fun j hj => nI_ne (by omega) (by decide) (by omega))
    have e : vM (nI 7) p q g r = (drw r p q, rnx r) := by unfold vM; rw [if_neg (by decide), if_neg (by decide), if_neg (by decide), if_neg (by decide), if_neg (by decide), if_neg (by decide), if_neg (by decide)]
    obtain ⟨c1, c2, c3⟩ := ch_dr (r := r) v
    rw [e, exS_6 (by decide) rfl, c1]; exact ⟨rfl, c2, c3⟩
  · have v := hs.2 (fun j hj => nI_ne (by omega) (by decide) (by omega))
    have e : vM (nI 6) p q g r = (p, r) := by unfold vM; rw [if_neg (by decide), if_neg (by decide), if_neg (by decide), if_neg (by decide), if_neg (by decide), if_neg (by decide), if_pos rfl]
    rw [e, exS_7 rfl]; exact ⟨rfl, v.1, by show p.toInt ≤ _; omega⟩
def xR (x y : xS) : Prop := xV 6 x.1 y.1 ∧ x.2 = y.2
section RUN
variable {M N : wM} {cnt t d n : Nat}
theorem xN_eq (h : pgS M N cnt t d n) {b : Nat} (hb : b < 16) {x y : xS} (hx : xR x y) : ∀ k, k ≤ tn (N 1 b) → xR (exN M b k x) (xNm N b k y)
  | 0, _ => hx
  | k + 1, hk => by
    obtain ⟨i1, i2⟩ := xN_eq h hb hx k (by omega)
    obtain ⟨h1, h2, h3, h4, h5, h6⟩ := (h.bk b hb).sts k (by omega)
    show xR (upd (exN M b k x).1 (tn (M (201 + 6 * b + 2) k)) (exS (M (201 + 6 * b + 1) k) (M (201 + 6 * b + 3) k) (M (201 + 6 * b + 4) k) (exN M b k x).1 (exN M b k x).2).1, (exS (M (201 + 6 * b + 1) k) (M (201 + 6 * b + 3) k) (M (201 + 6 * b + 4) k) (exN M b k x).1 (exN M b k x).2).2) (upd (xNm N b k y).1 (tn (N 2 (4 * ((8 * b) + k) + 1))) (vM (N 2 (4 * ((8 * b) + k))) (N 2 (4 * ((8 * b) + k) + 2)) (N 2 (4 * ((8 * b) + k) + 3)) (xNm N b k y).1 (xNm N b k y).2).1, (vM (N 2 (4 * ((8 * b) + k))) (N 2 (4 * ((8 * b) + k) + 2)) (N 2 (4 * ((8 * b) + k) + 3)) (xNm N b k y).1 (xNm N b k y).2).2)
    rw [h2, h3, h4, i2]
    obtain ⟨e, b1, b2⟩ := ex_eq (r := (xNm N b k y).2) h1 h6 i1
    rw [e]
    exact ⟨xV_upd i1 rfl b1 b2, rfl⟩
theorem xB_eq (h : pgS M N cnt t d n) {b : Nat} (hb : b < 16) {x y : xS} (hx : xR x y) : xR (exB M b x) (xBm N b y) := by
  unfold exB xBm
  rw [(h.bk b hb).sz]
  exact xN_eq h hb hx _ (Nat.le_refl _)
theorem xI_eq (h : pgS M N cnt t d n) {f g : Nat → Int32} {r : Int64} : ∀ k, k ≤ 6 → xV k (exI M f r k).1 (xIm N g r k).1 ∧ (exI M f r k).2 = (xIm N g r k).2
  | 0, _ => ⟨fun v hv => absurd hv (Nat.not_lt_zero v), rfl⟩
  | k + 1, hk => by
    obtain ⟨i1, i2⟩ := xI_eq h (f := f) (g := g) (r := r) k (by omega)
    obtain ⟨a1, a2⟩ := h.iv k (by omega)
    obtain ⟨c1, c2, c3⟩ := ch_dr (r := (xIm N g r k).2) (h.iV k (by omega))
    refine ⟨fun v hv => ?_, ?_⟩
    · show upd (exI M f r k).1 k (chs (exI M f r k).2 (M (3 * 0 + 1) k) (M (3 * 0 + 2) k)) v = upd (xIm N g r k).1 k (drw (xIm N g r k).2 (N 9 k) (N 10 k)) v ∧ -1000000000 ≤ (upd (xIm N g r k).1 k (drw (xIm N g r k).2 (N 9 k) (N 10 k)) v).toInt ∧ (upd (xIm N g r k).1 k (drw (xIm N g r k).2 (N 9 k) (N 10 k)) v).toInt ≤ 1000000000
      rw [i2, a1, a2, upd_at, upd_at]
      by_cases q : v = k
      · rw [if_pos q, if_pos q]; exact ⟨c1, c2, c3⟩
      · rw [if_neg q, if_neg q]; exact i1 v (by omega)
    · show rnx (exI M f r k).2 = rnx (xIm N g r k).2
      rw [i2]
theorem tru_0 {x y r : Int32} : tru x r y = 0 ↔ ¬ (if r = 0 then x < y else if r = nI 1 then x ≤ y else if r = nI 2 then x = y else ¬ x = y) := by
  show E_X1_isTrue _ x r y = 0 ↔ _
  unfold E_X1_isTrue
  have z1 : ¬ nI 1 = (0 : Int32) := by decide
  by_cases h0 : r = nI 0
  · have h0' : r = 0 := h0.trans nI_0
    rw [if_pos h0, if_pos h0']
    by_cases q : y ≤ x
    · rw [if_pos q]; exact ⟨fun _ z => nle_lt z q, fun _ => nI_0⟩
    · rw [if_neg q]; exact ⟨fun z => absurd z z1, fun z => absurd (lt_nle q) z⟩
  · have h0' : ¬ r = 0 := fun z => h0 (z.trans nI_0.symm)
    rw [if_neg h0, if_neg h0']
    by_cases h1 : r = nI 1
    · rw [if_pos h1, if_pos h1]
      by_cases q : y < x
      · rw [if_pos q]; exact ⟨fun _ z => nle_lt2 z q, fun _ => nI_0⟩
      · rw [if_neg q]; exact ⟨fun z => absurd z z1, fun z => absurd (nlt_le q) z⟩
    · rw [if_neg h1, if_neg h1]
      by_cases h2 : r = nI 2
      · rw [if_pos h2, if_pos h2]
        by_cases q : x = y
        · rw [if_pos q]; exact ⟨fun z => absurd z z1, fun z => absurd q z⟩
        · rw [if_neg q]; exact ⟨fun _ => q, fun _ => nI_0⟩
      · rw [if_neg h2, if_neg h2]
        by_cases q : x = y
        · rw [if_pos q]; exact ⟨fun _ z => z q, fun _ => nI_0⟩
        · rw [if_neg q]; exact ⟨fun z => absurd z z1, fun z => absurd q z⟩
theorem fl_eq (h : pgS M N cnt t d n) {b : Nat} (hb : b < 16) {f g : Nat → Int32} (hx : xV 6 f g) (he : ¬ tn (N 3 b) = 0) : flw M b f = nxm N b g ∧ inB (nxm N b g) cnt := by
  have k := h.bk b hb
  have e2 := k.ed2
  unfold flw
  rw [k.ed]
  by_cases q : tn (N 3 b) < 2
  · rw [if_pos q, nxm_1 (by omega)]
    exact k.f0 (by omega)
  · obtain ⟨a1, a2, a3, a4, a5⟩ := k.f1 (by omega)
    obtain ⟨b1, b2⟩ := k.f0 (by omega)
    rw [if_neg q, a3, a4, a5, (hx _ k.vx.2).1, (hx _ k.vy.2).1]
    by_cases c : trm N b g
    · rw [nxm_2 he (by omega) c, if_neg (fun z => tru_0.mp z c)]; exact ⟨b1, b2⟩
    · rw [nxm_3 he (by omega) c, if_pos (tru_0.mpr c)]; exact ⟨a1, a2⟩
theorem rn_eq (h : pgS M N cnt t d n) {x0 y0 : xS} (h0 : xR x0 y0) : ∀ k, (∀ q, q < k → ¬ tn (M (201 + 6 * (rnS M x0 q).2) 5) = 0) → xR (rnS M x0 k).1 (rnM N y0 k).1 ∧ (rnM N y0 k).2 = nI (rnS M x0 k).2 ∧ (rnS M x0 k).2 < cnt
  | 0, _ => ⟨h0, rfl, by have := h.c1; show 0 < cnt; omega⟩
  | k + 1, hk => by
    obtain ⟨i1, i2, i3⟩ := rn_eq h h0 k (fun q hq => hk q (by omega))
    have c16 := h.c16
    have e := rnM_s i2 (by omega)
    have z := xB_eq h (b := (rnS M x0 k).2) (by omega) i1
    have ne := hk k (by omega)
    rw [(h.bk _ (by omega : (rnS M x0 k).2 < 16)).ed] at ne
    obtain ⟨f1, f2⟩ := fl_eq h (by omega) z.1 ne
    rw [e]
    refine ⟨z, ?_, ?_⟩
    · show nxm N (rnS M x0 k).2 (xBm N (rnS M x0 k).2 (rnM N y0 k).1).1 = nI (tn (flw M (rnS M x0 k).2 (exB M (rnS M x0 k).2 (rnS M x0 k).1).1))
      rw [f1]; exact (inB_tn f2 (by omega)).2
    · show tn (flw M (rnS M x0 k).2 (exB M (rnS M x0 k).2 (rnS M x0 k).1).1) < cnt
      rw [f1]; exact (inB_tn f2 (by omega)).1
theorem m1_ne {k : Nat} (h : k < 2147483648) : ¬ nI k = (-1 : Int32) := fun z => by
  have := congrArg Int32.toInt z
  rw [nI_toInt h] at this
  exact absurd this (by show ¬ ((k : Int) = -1); omega)
end RUN
theorem AN_move {M M' : wM} {E : Nat → aS} {V : Nat → Int32} (hM : ∀ c, c < 329 → M' c = M c) (hE : ∀ b, b < 16 → tn (M (201 + 6 * b) 5) ≤ 2) (h : AN M M E V) : AN M' M' E V := by
  have k : kp M M' (fun c => ¬ c < 329) := fun c hc => hM c (Decidable.not_not.mp hc)
  have hB : bkE M M' := bkE_kp k (fun c a b z => z (by omega))
  have hs : ∀ i, i < 70 → sv M' i = sv M i := fun i hi => sv_kp k (fun z => z (by omega)) (fun z => z (by omega)) (fun z => z (by omega))
  refine ⟨kp_refl _ _, fun i hi => by rw [hM (3 * i) (by omega)]; exact h.2.1 i hi, fun b hb => ?_⟩
  obtain ⟨a1, a2, a3, a4⟩ := h.2.2 b hb
  refine ⟨by rw [hs _ (by omega)]; exact a1, by rw [hM (297 + 2 * b) (by omega)]; exact a2, by rw [hs _ (by omega), bkE_apB hB hb]; exact a3, fun e he => ?_⟩
  rw [hM (201 + 6 * b) (by omega)] at he
  have := hE b hb
  rw [bkE_edB hB hb, bkE_apB hB hb, hs _ (by omega)]
  exact a4 e he
theorem Sim_run {M N : wM} {J K : wJ} {cnt t d n sc steps : Nat} {seed : Int64} {r s : Int32} {u v : wM × wJ} (h : SimA M N cnt t d n sc) (hs : steps ≤ 300) (hu : pEx M J seed steps u) (hr : r = u.1 336 3) (hv : qRn N K seed steps s v) : r = s ∧ Sim u.1 v.1 ∧ v.1 0 0 = nI 0 := by
  have hp := h.1
  obtain ⟨n1, u1, u2, u3, u4, -, u6⟩ := hu
  obtain ⟨n2, v1, v2, v3, -, v5, v6⟩ := hv
  have h0 : xR (exI M (M 337) seed 6) (xIm N (N 22) seed 6) := xI_eq hp 6 (by omega)
  have go : ∀ q, q + 1 ≤ n1 → xR (rnS M (exI M (M 337) seed 6) q).1 (rnM N (xIm N (N 22) seed 6) q).1 ∧ (rnM N (xIm N (N 22) seed 6) q).2 = nI (rnS M (exI M (M 337) seed 6) q).2 ∧ (rnS M (exI M (M 337) seed 6) q).2 < cnt := fun q hq => rn_eq hp h0 q (fun p hp' => u3 p (by omega))
  have c16 := hp.c16
  obtain ⟨g1, g2, g3⟩ := go (n1 - 1) (by omega)
  have hl := xB_eq hp (b := (rnS M (exI M (M 337) seed 6) (n1 - 1)).2) (by omega) g1
  have er := rnM_s g2 (by omega)
  rw [show n1 - 1 + 1 = n1 by omega] at er
  have en : n1 = n2 := by
    rcases Nat.lt_trichotomy n1 n2 with q | q | q
    · exfalso
      rcases u4 with z | z
      · omega
      · rw [(hp.bk _ (by omega : (rnS M (exI M (M 337) seed 6) (n1 - 1)).2 < 16)).ed] at z
        refine v2.1 n1 q ?_
        rw [er]; exact nxm_0 z
    · exact q
    · exfalso
      rcases v3 with z | z
      · rw [(go n2 (by omega)).2.1] at z
        exact m1_ne (by have := (go n2 (by omega)).2.2; omega) z
      · omega
  subst en
  obtain ⟨k1, k2, k3, k4⟩ := u6
  obtain ⟨w1, w2, w3, w4⟩ := v5
  have x2 : (rnS M (exI M (M 337) seed 6) n1).1 = exB M (rnS M (exI M (M 337) seed 6) (n1 - 1)).2 (rnS M (exI M (M 337) seed 6) (n1 - 1)).1 := by
    conv => lhs; rw [show n1 = (n1 - 1) + 1 by omega]
    rfl
  have y2 : (rnM N (xIm N (N 22) seed 6) n1).1 = xBm N (rnS M (exI M (M 337) seed 6) (n1 - 1)).2 (rnM N (xIm N (N 22) seed 6) (n1 - 1)).1 := by rw [er]; rfl
  have mm : ∀ c, c < 336 → u.1 c = M c := fun c hc => k1 c (by unfold exC; omega)
  have nn : ∀ c, 1 ≤ c → c ≤ 19 → v.1 c = N c := fun c c1 c2 => xC_at w1 c ⟨c1, c2⟩
  have n0 : ∀ j, j ≠ 0 → j ≠ 26 → v.1 0 j = N 0 j := fun j a b => by rw [w2 j, if_neg a, if_neg b]
  obtain ⟨-, h2, h3, h4, h5, h6, h7⟩ := h
  refine ⟨by rw [hr, k3, v6], ⟨cnt, t, d, n, n1, pgS_kp hp (fun c hc => mm c (by omega)) (fun c c1 c2 => nn c c1 (by omega)) (fun j hj => n0 j (by omega) (by omega)), cZ_same h2 (fun c hc => mm c (by omega)), by rw [n0 16 (by decide) (by decide)]; exact h3, by rw [mm 329 (by omega), n0 16 (by decide) (by decide)]; exact h4, by rw [nn 12 (by omega) (by omega)]; exact h5, fun z => ?_, ?_⟩, by rw [w2 0, if_pos rfl]⟩
  · rw [n0 16 (by decide) (by decide)] at z
    obtain ⟨E, V, a1, a2, a3⟩ := h6 z
    refine ⟨E, V, a1, AN_move (fun c hc => mm c (by omega)) (fun b hb => (hp.pr.2.2.1 b hb).2.2.1) a2, kp_refl _ _, fun _ _ => rfl, by rw [nn 12 (by omega) (by omega)]; exact a3.2.2.1, fun q hq => ?_⟩
    unfold enM rw9
    rw [nn 12 (by omega) (by omega), nn 13 (by omega) (by omega), nn 14 (by omega) (by omega), nn 15 (by omega) (by omega)]
    exact a3.2.2.2 q hq
  · refine ⟨k3, by rw [w2 26, if_neg (by decide), if_pos rfl], by omega, fun q hq => ?_, fun w hw => ?_⟩
    · obtain ⟨a1, a2, a3⟩ := go q (by omega)
      refine ⟨by rw [(k4 q hq).1, (w4 q hq).1, a2], fun w hw => ?_⟩
      rw [(k4 q hq).2 w hw, (w4 q hq).2 w hw]; exact (a1.1 w hw).1
    · rw [k2, w3, x2, y2]; exact (hl.1 w hw).1
