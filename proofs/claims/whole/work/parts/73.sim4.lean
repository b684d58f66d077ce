/-! ===== edges, blocks and gatherings keep order and validity: pure ===== -/
theorem r3_at {x y : Nat} {f : aP} (hxy : x ≠ y) : (rfr 3 x y f).1 x = (if f.1 y = f.2 y then f.1 x + (if f.1 x = f.1 y then nI 1 else nI 0) else f.1 x) ∧ (rfr 3 x y f).2 x = (if f.1 y = f.2 y then f.2 x - (if f.2 x = f.1 y then nI 1 else nI 0) else f.2 x) ∧ (rfr 3 x y f).1 y = (if f.1 x = f.2 x then f.1 y + (if f.1 y = f.1 x then nI 1 else nI 0) else f.1 y) ∧ (rfr 3 x y f).2 y = (if f.1 x = f.2 x then f.2 y - (if f.2 y = f.1 x then nI 1 else nI 0) else f.2 y) := by
  rw [rfr_3]
  unfold r3y r3x
  have hyx := Ne.symm hxy
  by_cases cx : f.1 x = f.2 x
  · by_cases cy : f.1 y = f.2 y
    · simp only [if_pos cx, if_pos cy, upd_s, upd_o hxy, upd_o hyx, and_self]
    · simp only [if_pos cx, if_neg cy, upd_s, upd_o hxy, upd_o hyx, and_self]
  · by_cases cy : f.1 y = f.2 y
    · simp only [if_neg cx, if_pos cy, upd_s, upd_o hxy, upd_o hyx, and_self]
    · simp only [if_neg cx, if_neg cy, and_self]
theorem trim_lo {a a' c c' : Int32} (h : a'.toInt ≤ a.toInt) (e : c' = c) (ha : a.toInt ≤ 1000000000) : (a' + (if a' = c' then nI 1 else nI 0)).toInt ≤ (a + (if a = c then nI 1 else nI 0)).toInt := by
  subst e
  by_cases q : a' = c'
  · rw [if_pos q]
    by_cases q2 : a = c'
    · rw [if_pos q2, q, q2]; omega
    · rw [if_neg q2, Int32_add0, t_add1 (by omega)]
      have : ¬ a.toInt = a'.toInt := fun z => q2 ((t_ext z).trans q)
      omega
  · rw [if_neg q, Int32_add0]
    by_cases q2 : a = c'
    · rw [if_pos q2, t_add1 (by omega)]; omega
    · rw [if_neg q2, Int32_add0]; exact h
theorem trim_hi {a a' c c' : Int32} (h : a.toInt ≤ a'.toInt) (e : c' = c) (ha : -1000000000 ≤ a.toInt) : (a - (if a = c then nI 1 else nI 0)).toInt ≤ (a' - (if a' = c' then nI 1 else nI 0)).toInt := by
  subst e
  by_cases q : a' = c'
  · rw [if_pos q]
    by_cases q2 : a = c'
    · rw [if_pos q2, q, q2]; omega
    · rw [if_neg q2, t_sub0, t_sub1 (by omega)]
      have : ¬ a.toInt = a'.toInt := fun z => q2 ((t_ext z).trans q)
      omega
  · rw [if_neg q, t_sub0]
    by_cases q2 : a = c'
    · rw [if_pos q2, t_sub1 (by omega)]; omega
    · rw [if_neg q2, t_sub0]; exact h
theorem rfr_le {r x y : Nat} {f g : aP} (hr : r < 6) (hx : x < 6) (hy : y < 6) (hxy : x ≠ y) (hf : vS f) (hg : vS g) (h : le2 f g) : le2 (rfr r x y f) (rfr r x y g) := by
  have fx := hf x hx
  have fy := hf y hy
  have gx := hg x hx
  have gy := hg y hy
  have wx := h x hx
  have wy := h y hy
  have hyx := Ne.symm hxy
  obtain ⟨sf1, sf2⟩ := rfr_sh (r := r) hx hy hxy hf
  obtain ⟨sg1, sg2⟩ := rfr_sh (r := r) hx hy hxy hg
  have key : (((rfr r x y g).1 x).toInt ≤ ((rfr r x y f).1 x).toInt ∧ ((rfr r x y f).2 x).toInt ≤ ((rfr r x y g).2 x).toInt) ∧ ((rfr r x y g).1 y).toInt ≤ ((rfr r x y f).1 y).toInt ∧ ((rfr r x y f).2 y).toInt ≤ ((rfr r x y g).2 y).toInt := by
    rcases (show r = 0 ∨ r = 1 ∨ r = 2 ∨ r = 3 ∨ r = 4 ∨ r = 5 by omega) with rfl | rfl | rfl | rfl | rfl | rfl
    · have e : ∀ q : aP, rfr 0 x y q = (upd q.1 y (i_mx (q.1 y) (q.1 x + nI 1)), upd q.2 x (i_mn (q.2 x) (q.2 y - nI 1))) := fun q => if_pos rfl
      rw [e, e]; simp only [upd_s, upd_o hxy, upd_o hyx, t_mn, t_mx]
      rw [t_add1 (by omega), t_add1 (by omega), t_sub1 (by omega), t_sub1 (by omega)]; omega
    · have e : ∀ q : aP, rfr 1 x y q = (upd q.1 y (i_mx (q.1 y) (q.1 x)), upd q.2 x (i_mn (q.2 x) (q.2 y))) := fun q => by unfold rfr; rw [if_neg (by decide), if_pos rfl]
      rw [e, e]; simp only [upd_s, upd_o hxy, upd_o hyx, t_mn, t_mx]; omega
    · rw [rfr_2, rfr_2]; simp only [upd_s, upd_o hxy, upd_o hyx, t_mn, t_mx]; omega
    · obtain ⟨f1, f2, f3, f4⟩ := r3_at (f := f) hxy
      obtain ⟨g1, g2, g3, g4⟩ := r3_at (f := g) hxy
      have cst : ∀ v, v < 6 → g.1 v = g.2 v → f.1 v = f.2 v ∧ g.1 v = f.1 v := fun v hv e => by
        have a := hf v hv; have b := h v hv
        have c : (g.1 v).toInt = (g.2 v).toInt := congrArg Int32.toInt e
        exact ⟨t_ext (by omega), t_ext (by omega)⟩
      have zx := sf1 x hx
      have zy := sf1 y hy
      refine ⟨?_, ?_⟩
      · by_cases cy : g.1 y = g.2 y
        · obtain ⟨c1, c2⟩ := cst y hy cy
          rw [f1, f2, g1, g2, if_pos cy, if_pos cy, if_pos c1, if_pos c1]
          exact ⟨trim_lo wx.1 c2 (by omega), trim_hi wx.2 c2 (by omega)⟩
        · rw [g1, g2, if_neg cy, if_neg cy]; omega
      · by_cases cx : g.1 x = g.2 x
        · obtain ⟨c1, c2⟩ := cst x hx cx
          rw [f3, f4, g3, g4, if_pos cx, if_pos cx, if_pos c1, if_pos c1]
          exact ⟨trim_lo wy.1 c2 (by omega), trim_hi wy.2 c2 (by omega)⟩
        · rw [g3, g4, if_neg cx, if_neg cx]; omega
    · have e : ∀ q : aP, rfr 4 x y q = (upd q.1 x (i_mx (q.1 x) (q.1 y)), upd q.2 y (i_mn (q.2 y) (q.2 x))) := fun q => by unfold rfr; rw [if_neg (by decide), if_neg (by decide), if_neg (by decide), if_pos rfl]
      rw [e, e]; simp only [upd_s, upd_o hxy, upd_o hyx, t_mn, t_mx]; omega
    · have e : ∀ q : aP, rfr 5 x y q = (upd q.1 x (i_mx (q.1 x) (q.1 y + nI 1)), upd q.2 y (i_mn (q.2 y) (q.2 x - nI 1))) := fun q => by unfold rfr; rw [if_neg (by decide), if_neg (by decide), if_neg (by decide), if_neg (by decide), if_pos rfl]
      rw [e, e]; simp only [upd_s, upd_o hxy, upd_o hyx, t_mn, t_mx]
      rw [t_add1 (by omega), t_add1 (by omega), t_sub1 (by omega), t_sub1 (by omega)]; omega
  intro v hv
  by_cases q1 : v = x
  · subst q1; exact key.1
  · by_cases q2 : v = y
    · subst q2; exact key.2
    · rw [(sf2 v q1 q2).1, (sf2 v q1 q2).2, (sg2 v q1 q2).1, (sg2 v q1 q2).2]; exact h v hv
theorem rfm_le {r x y : Nat} {f g : aP} (hr : r < 6) (hx : x < 6) (hy : y < 6) (hf : vS f) (hg : vS g) (h : le2 f g) : leS (rfm r x y f) (rfm r x y g) := by
  unfold rfm
  by_cases hxy : x = y
  · rw [if_pos hxy, if_pos hxy]
    by_cases q : r = 1 ∨ r = 2 ∨ r = 4
    · rw [if_pos q, if_pos q]; exact leS_some h
    · rw [if_neg q]; exact leS_none _
  · rw [if_neg hxy, if_neg hxy]
    have k := rfr_le hr hx hy hxy hf hg h
    by_cases q : ¬ (rfr r x y f).2 x < (rfr r x y f).1 x ∧ ¬ (rfr r x y f).2 y < (rfr r x y f).1 y
    · have kx := k x hx
      have ky := k y hy
      have q1 : ¬ ((rfr r x y f).2 x).toInt < ((rfr r x y f).1 x).toInt := fun c => q.1 (t_lt.mpr c)
      have q2 : ¬ ((rfr r x y f).2 y).toInt < ((rfr r x y f).1 y).toInt := fun c => q.2 (t_lt.mpr c)
      rw [if_pos q, if_pos ⟨fun c => by have := t_lt.mp c; omega, fun c => by have := t_lt.mp c; omega⟩]
      exact leS_some k
    · rw [if_neg q]; exact leS_none _
/-- the program of the reference is such as it may be -/
def oM (M : wM) : Prop := (∀ b, b < 16 → ∀ a, a < tn (M 1 b) → soR (M 2 (4 * ((8 * b) + a))) (M 2 (4 * ((8 * b) + a) + 2)) (M 2 (4 * ((8 * b) + a) + 3))) ∧ vS (M 9, M 10)
theorem relN_lt {r e : Nat} (h : r < 4) : relN r e < 6 := by
  unfold relN
  by_cases q : e = 0
  · rw [if_pos q]; omega
  · rw [if_neg q]
    by_cases h0 : r = 0
    · rw [if_pos h0]; omega
    · rw [if_neg h0]
      by_cases h1 : r = 1
      · rw [if_pos h1]; omega
      · rw [if_neg h1]
        by_cases h2 : r = 2
        · rw [if_pos h2]; omega
        · rw [if_neg h2]; omega
theorem apm_v {M : wM} {cnt t b : Nat} {f : aP} (hp : mOK M cnt t) (ho : oM M) (hb : b < 16) (hf : vS f) (hn : rr f = f) : ∀ n, n ≤ tn (M 1 b) → vS (apm M b f n) ∧ rr (apm M b f n) = apm M b f n
  | 0, _ => ⟨hf, hn⟩
  | n + 1, h => by
    obtain ⟨h1, h2⟩ := apm_v hp ho hb hf hn n (by omega)
    have hs := hp.2.2.2.2.2.1 b hb n (by omega)
    refine ⟨vS_stM (ho.1 b hb n (by omega)) h1, ?_⟩
    show rr (stM _ _ _ _ (apm M b f n)) = stM _ _ _ _ (apm M b f n)
    rw [rr_stM hs.1.2 hs.2, h2]
theorem apm_le {M : wM} {cnt t b : Nat} {f g : aP} (hp : mOK M cnt t) (ho : oM M) (hb : b < 16) (hf : vS f) (hn : rr f = f) (h : le2 f g) : ∀ n, n ≤ tn (M 1 b) → le2 (apm M b f n) (apm M b g n)
  | 0, _ => h
  | n + 1, hl => le_stM (ho.1 b hb n (by omega)) (apm_v hp ho hb hf hn n (by omega)).1 (apm_le hp ho hb hf hn h n (by omega))
theorem apA_v {M : wM} {cnt t b : Nat} {a : aS} (hp : mOK M cnt t) (ho : oM M) (hb : b < 16) (ha : vA a) : vA (apA M b a) := by
  cases a with
  | none => exact vA_none
  | some f =>
    obtain ⟨h1, h2⟩ := ha f rfl
    obtain ⟨g1, g2⟩ := apm_v hp ho hb h1 h2 _ (Nat.le_refl _)
    exact vA_some g1 g2
theorem apA_le {M : wM} {cnt t b : Nat} {a c : aS} (hp : mOK M cnt t) (ho : oM M) (hb : b < 16) (ha : vA a) (h : leS a c) : leS (apA M b a) (apA M b c) := by
  cases a with
  | none => exact leS_none _
  | some f =>
    obtain ⟨h1, h2⟩ := ha f rfl
    obtain ⟨g, rfl, hg⟩ := leS_of h
    exact leS_some (apm_le hp ho hb h1 h2 hg _ (Nat.le_refl _))
theorem inB_tn {x : Int32} {n : Nat} (h : inB x n) (hn : n ≤ 2147483648) : tn x < n ∧ x = nI (tn x) := by
  obtain ⟨b, hb, rfl⟩ := h
  rw [tn_nI (by omega)]; exact ⟨hb, rfl⟩
theorem edA_v {M : wM} {cnt t b e : Nat} {a : aS} (hp : mOK M cnt t) (hb : b < 16) (ha : vA a) : vA (edA M b e a) := by
  cases a with
  | none => exact vA_none
  | some f =>
    obtain ⟨h1, h2⟩ := ha f rfl
    show vA (edm M b e f)
    unfold edm
    by_cases q : tn (M 3 b) < 2
    · rw [if_pos q]; exact ha
    · rw [if_neg q]
      intro g hg
      have v := hp.2.2.2.2.2.2.2.1 b hb
      obtain ⟨k1, k2, -⟩ := rfm_v v.1.2 v.2.2 h1 h2 hg
      exact ⟨k1, k2⟩
theorem edA_le {M : wM} {cnt t b e : Nat} {a c : aS} (hp : mOK M cnt t) (hb : b < 16) (ha : vA a) (hc : vA c) (h : leS a c) : leS (edA M b e a) (edA M b e c) := by
  cases a with
  | none => exact leS_none _
  | some f =>
    obtain ⟨h1, h2⟩ := ha f rfl
    obtain ⟨g, rfl, hg⟩ := leS_of h
    show leS (edm M b e f) (edm M b e g)
    unfold edm
    by_cases q : tn (M 3 b) < 2
    · rw [if_pos q, if_pos q]; exact leS_some hg
    · rw [if_neg q, if_neg q]
      have v := hp.2.2.2.2.2.2.2.1 b hb
      exact rfm_le (relN_lt (inB_tn (hp.2.2.2.2.2.2.2.2 b hb) (by decide)).1) v.1.2 v.2.2 h1 (hc g rfl).1 hg
theorem jn_comm (a b : aS) : jn a b = jn b a := by
  cases a with
  | none => cases b <;> rfl
  | some f =>
    cases b with
    | none => rfl
    | some g =>
      show some (r6 _, r6 _) = some (r6 _, r6 _)
      exact congrArg some (congr (congrArg Prod.mk (r6_ext fun v _ => mn_comm _ _)) (r6_ext fun v _ => mx_comm _ _))
theorem mn_assoc (a b c : Int32) : i_mn (i_mn a b) c = i_mn a (i_mn b c) := t_ext (by simp only [t_mn]; omega)
theorem mx_assoc (a b c : Int32) : i_mx (i_mx a b) c = i_mx a (i_mx b c) := t_ext (by simp only [t_mx]; omega)
theorem jn_assoc (a b c : aS) : jn (jn a b) c = jn a (jn b c) := by
  cases a with
  | none => rfl
  | some f =>
    cases b with
    | none => cases c <;> rfl
    | some g =>
      cases c with
      | none => rfl
      | some h =>
        show some (r6 (fun v => i_mn (r6 (fun v => i_mn (f.1 v) (g.1 v)) v) (h.1 v)), r6 (fun v => i_mx (r6 (fun v => i_mx (f.2 v) (g.2 v)) v) (h.2 v))) = some (r6 (fun v => i_mn (f.1 v) (r6 (fun v => i_mn (g.1 v) (h.1 v)) v)), r6 (fun v => i_mx (f.2 v) (r6 (fun v => i_mx (g.2 v) (h.2 v)) v)))
        exact congrArg some (congr (congrArg Prod.mk (r6_ext fun v hv => by rw [r6_lt hv, r6_lt hv, mn_assoc])) (r6_ext fun v hv => by rw [r6_lt hv, r6_lt hv, mx_assoc]))
theorem rr_r6 (f g : Nat → Int32) : rr (r6 f, r6 g) = (r6 f, r6 g) := rr_rr (f, g)
theorem jn_v {a b : aS} (ha : vA a) (hb : vA b) : vA (jn a b) := by
  cases a with
  | none => exact hb
  | some f =>
    cases b with
    | none => exact ha
    | some g =>
      obtain ⟨f1, -⟩ := ha f rfl
      obtain ⟨g1, -⟩ := hb g rfl
      refine vA_some (fun v hv => ?_) (rr_r6 _ _)
      have x := f1 v hv; have y := g1 v hv
      show _ ≤ (r6 _ v).toInt ∧ (r6 _ v).toInt ≤ (r6 _ v).toInt ∧ (r6 _ v).toInt ≤ _
      rw [r6_lt hv, r6_lt hv]
      simp only [t_mn, t_mx]; omega
theorem jn_ub (a b : aS) : leS a (jn a b) := by
  cases a with
  | none => exact leS_none _
  | some f =>
    cases b with
    | none => exact leS_refl _
    | some g =>
      refine leS_some (fun v hv => ?_)
      show (r6 _ v).toInt ≤ _ ∧ _ ≤ (r6 _ v).toInt
      rw [r6_lt hv, r6_lt hv]; simp only [t_mn, t_mx]; omega
theorem jn_lub {a b c : aS} (ha : leS a c) (hb : leS b c) : leS (jn a b) c := by
  cases a with
  | none => exact hb
  | some f =>
    cases b with
    | none => exact ha
    | some g =>
      obtain ⟨h, rfl, h1⟩ := leS_of ha
      obtain ⟨h', e, h2⟩ := leS_of hb
      cases e
      refine leS_some (fun v hv => ?_)
      have x := h1 v hv; have y := h2 v hv
      show _ ≤ (r6 _ v).toInt ∧ (r6 _ v).toInt ≤ _
      rw [r6_lt hv, r6_lt hv]; simp only [t_mn, t_mx]; omega
theorem jn_le {a b a' b' : aS} (ha : leS a a') (hb : leS b b') : leS (jn a b) (jn a' b') :=
  jn_lub (leS_trans ha (jn_ub a' b')) (leS_trans hb (by rw [jn_comm]; exact jn_ub b' a'))
theorem gaE_v {M0 : wM} {X : Nat → Nat → aS} {t b : Nat} {a : aS} (hX : ∀ e, vA (X b e)) (ha : vA a) : ∀ e, vA (gaE M0 X t b e a)
  | 0 => ha
  | e + 1 => by
    show vA (if folm M0 b e = nI t then jn (gaE M0 X t b e a) (X b e) else gaE M0 X t b e a)
    by_cases q : folm M0 b e = nI t
    · rw [if_pos q]; exact jn_v (gaE_v hX ha e) (hX e)
    · rw [if_neg q]; exact gaE_v hX ha e
theorem gaB_v {M0 : wM} {X : Nat → Nat → aS} {t : Nat} {a : aS} : ∀ n, (∀ b e, b < n → vA (X b e)) → vA a → vA (gaB M0 X t n a)
  | 0, _, ha => ha
  | n + 1, hX, ha => gaE_v (fun e => hX n e (by omega)) (gaB_v n (fun b e hb => hX b e (by omega)) ha) _
theorem gaE_le {M0 : wM} {X Y : Nat → Nat → aS} {t b : Nat} {a c : aS} (hX : ∀ e, leS (X b e) (Y b e)) (ha : leS a c) : ∀ e, leS (gaE M0 X t b e a) (gaE M0 Y t b e c)
  | 0 => ha
  | e + 1 => by
    show leS (if folm M0 b e = nI t then jn (gaE M0 X t b e a) (X b e) else gaE M0 X t b e a) (if folm M0 b e = nI t then jn (gaE M0 Y t b e c) (Y b e) else gaE M0 Y t b e c)
    by_cases q : folm M0 b e = nI t
    · rw [if_pos q, if_pos q]; exact jn_le (gaE_le hX ha e) (hX e)
    · rw [if_neg q, if_neg q]; exact gaE_le hX ha e
theorem gaB_le {M0 : wM} {X Y : Nat → Nat → aS} {t : Nat} {a c : aS} : ∀ n, (∀ b e, b < n → leS (X b e) (Y b e)) → leS a c → leS (gaB M0 X t n a) (gaB M0 Y t n c)
  | 0, _, ha => ha
  | n + 1, hX, ha => gaE_le (fun e => hX n e (by omega)) (gaB_le n (fun b e hb => hX b e (by omega)) ha) _
/-- all entry states are ranges -/
def vE (E : Nat → aS) : Prop := ∀ b, b < 16 → vA (E b)
theorem gat_v {M : wM} {cnt t tt : Nat} {E : Nat → aS} (hp : mOK M cnt tt) (ho : oM M) (hE : vE E) : vA (gatR M E cnt t) := by
  have hX : ∀ b e, b < cnt → vA (edA M b e (apA M b (E b))) := fun b e hb => by
    have := hp.2.1
    exact edA_v hp (by omega) (apA_v hp ho (by omega) (hE b (by omega)))
  unfold gatR gaM
  by_cases q : t = 0
  · rw [if_pos q]; exact jn_v (gaB_v cnt hX vA_none) (vA_some (vS_rr ho.2) (rr_rr _))
  · rw [if_neg q]; exact gaB_v cnt hX vA_none
theorem gat_le {M : wM} {cnt t tt : Nat} {E F : Nat → aS} (hp : mOK M cnt tt) (ho : oM M) (hE : vE E) (hF : vE F) (h : ∀ b, b < 16 → leS (E b) (F b)) : leS (gatR M E cnt t) (gatR M F cnt t) := by
  have hX : ∀ b e, b < cnt → leS (edA M b e (apA M b (E b))) (edA M b e (apA M b (F b))) := fun b e hb => by
    have := hp.2.1
    exact edA_le hp (by omega) (apA_v hp ho (by omega) (hE b (by omega))) (apA_v hp ho (by omega) (hF b (by omega))) (apA_le hp ho (by omega) (hE b (by omega)) (h b (by omega)))
  unfold gatR gaM
  by_cases q : t = 0
  · rw [if_pos q, if_pos q]; exact jn_le (gaB_le cnt hX (leS_refl _)) (leS_refl _)
  · rw [if_neg q, if_neg q]; exact gaB_le cnt hX (leS_refl _)
