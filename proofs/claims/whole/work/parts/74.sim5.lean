/-! ===== widening; the rounds end: pure ===== -/
theorem bel_le {M : wM} {v : Int32} (h : -1000000000 ≤ v.toInt) : ∀ t, -1000000000 ≤ (bel M v t).toInt ∧ (bel M v t).toInt ≤ v.toInt
  | 0 => ⟨by show -1000000000 ≤ (-1000000000 : Int32).toInt; decide, by show (-1000000000 : Int32).toInt ≤ _; rw [show (-1000000000 : Int32).toInt = -1000000000 from by decide]; exact h⟩
  | t + 1 => by
    have ih := bel_le h t (M := M)
    by_cases q : v < M 11 t
    · rw [bel_1 q]; exact ih
    · rw [bel_2 q, t_mx]
      have : ¬ v.toInt < (M 11 t).toInt := fun z => q (t_lt.mpr z)
      omega
theorem abo_le {M : wM} {v : Int32} (h : v.toInt ≤ 1000000000) : ∀ t, v.toInt ≤ (abo M v t).toInt ∧ (abo M v t).toInt ≤ 1000000000
  | 0 => ⟨by show _ ≤ (1000000000 : Int32).toInt; rw [show (1000000000 : Int32).toInt = 1000000000 from by decide]; exact h, by show (1000000000 : Int32).toInt ≤ _; decide⟩
  | t + 1 => by
    have ih := abo_le h t (M := M)
    by_cases q : M 11 t < v
    · rw [abo_1 q]; exact ih
    · rw [abo_2 q, t_mn]
      have : ¬ (M 11 t).toInt < v.toInt := fun z => q (t_lt.mpr z)
      omega
theorem bel_mem {M : wM} {v : Int32} : ∀ t, (bel M v t).toInt = -1000000000 ∨ ∃ k, k < t ∧ (bel M v t) = M 11 k
  | 0 => Or.inl (by show (-1000000000 : Int32).toInt = _; decide)
  | t + 1 => by
    have up : ((bel M v t).toInt = -1000000000 ∨ ∃ k, k < t ∧ (bel M v t) = M 11 k) → ((bel M v t).toInt = -1000000000 ∨ ∃ k, k < t + 1 ∧ (bel M v t) = M 11 k) := fun z => z.elim Or.inl (fun ⟨k, hk, e⟩ => Or.inr ⟨k, by omega, e⟩)
    by_cases q : v < M 11 t
    · rw [bel_1 q]; exact up (bel_mem t)
    · rw [bel_2 q]
      unfold i_mx
      by_cases c : bel M v t < M 11 t
      · rw [if_pos c]; exact Or.inr ⟨t, by omega, rfl⟩
      · rw [if_neg c]; exact up (bel_mem t)
theorem abo_mem {M : wM} {v : Int32} : ∀ t, (abo M v t).toInt = 1000000000 ∨ ∃ k, k < t ∧ (abo M v t) = M 11 k
  | 0 => Or.inl (by show (1000000000 : Int32).toInt = _; decide)
  | t + 1 => by
    have up : ((abo M v t).toInt = 1000000000 ∨ ∃ k, k < t ∧ (abo M v t) = M 11 k) → ((abo M v t).toInt = 1000000000 ∨ ∃ k, k < t + 1 ∧ (abo M v t) = M 11 k) := fun z => z.elim Or.inl (fun ⟨k, hk, e⟩ => Or.inr ⟨k, by omega, e⟩)
    by_cases q : M 11 t < v
    · rw [abo_1 q]; exact up (abo_mem t)
    · rw [abo_2 q]
      unfold i_mn
      by_cases c : M 11 t < abo M v t
      · rw [if_pos c]; exact Or.inr ⟨t, by omega, rfl⟩
      · rw [if_neg c]; exact up (abo_mem t)
theorem BL_b {M : wM} {t : Nat} {a : Int32} (h : a.toInt < 1000000000) : BL M t a = bel M a t := by
  unfold BL
  rw [if_neg (fun z => by rw [z] at h; exact absurd h (by decide))]
theorem AB_a {M : wM} {t : Nat} {a : Int32} (h : -1000000000 < a.toInt) : AB M t a = abo M a t := by
  unfold AB
  rw [if_neg (fun z => by rw [z] at h; exact absurd h (by decide))]
/-- sums -/
def S_ (p : Nat → Nat) : Nat → Nat
  | 0 => 0
  | n + 1 => S_ p n + p n
theorem S_le {p q : Nat → Nat} : ∀ n, (∀ v, v < n → p v ≤ q v) → S_ p n ≤ S_ q n
  | 0, _ => Nat.le_refl 0
  | n + 1, h => Nat.add_le_add (S_le n (fun v hv => h v (by omega))) (h n (by omega))
theorem S_lt {p q : Nat → Nat} : ∀ n, (∀ v, v < n → p v ≤ q v) → (∃ v, v < n ∧ p v < q v) → S_ p n < S_ q n
  | 0, _, ⟨v, hv, _⟩ => absurd hv (Nat.not_lt_zero v)
  | n + 1, h, ⟨v, hv, g⟩ => by
    show S_ p n + p n < S_ q n + q n
    by_cases e : v = n
    · subst e
      have := S_le v (fun w hw => h w (by omega))
      omega
    · have := S_lt n (fun w hw => h w (by omega)) ⟨v, by omega, g⟩
      have := h n (by omega)
      omega
theorem S_bd {p : Nat → Nat} {c : Nat} : ∀ n, (∀ v, v < n → p v ≤ c) → S_ p n ≤ n * c
  | 0, _ => by show 0 ≤ 0 * c; omega
  | n + 1, h => by
    have h1 := S_bd n (fun v hv => h v (by omega))
    have h2 := h n (by omega)
    show S_ p n + p n ≤ (n + 1) * c
    rw [Nat.add_mul]; omega
/-- the thresholds, and the limit, below x (above x) -/
def cl (M : wM) (x : Int) : Nat → Nat
  | 0 => if -1000000000 < x then 1 else 0
  | k + 1 => cl M x k + (if (M 11 k).toInt < x then 1 else 0)
def ch (M : wM) (x : Int) : Nat → Nat
  | 0 => if x < 1000000000 then 1 else 0
  | k + 1 => ch M x k + (if x < (M 11 k).toInt then 1 else 0)
theorem if_le {c d : Prop} [Decidable c] [Decidable d] (h : c → d) : (if c then 1 else 0) ≤ (if d then 1 else 0) := by
  by_cases q : c
  · rw [if_pos q, if_pos (h q)]; omega
  · rw [if_neg q]; exact Nat.zero_le _
theorem cl_le {M : wM} {x y : Int} (h : x ≤ y) : ∀ t, cl M x t ≤ cl M y t
  | 0 => if_le (fun z => by omega)
  | t + 1 => Nat.add_le_add (cl_le h t) (if_le (fun z => by omega))
theorem ch_le {M : wM} {x y : Int} (h : y ≤ x) : ∀ t, ch M x t ≤ ch M y t
  | 0 => if_le (fun z => by omega)
  | t + 1 => Nat.add_le_add (ch_le h t) (if_le (fun z => by omega))
theorem cl_bd {M : wM} {x : Int} : ∀ t, cl M x t ≤ t + 1
  | 0 => by
    show (if _ then 1 else 0) ≤ 1
    by_cases q : -1000000000 < x
    · rw [if_pos q]; omega
    · rw [if_neg q]; omega
  | t + 1 => by
    have := cl_bd (M := M) (x := x) t
    show cl M x t + (if _ then 1 else 0) ≤ _
    by_cases q : (M 11 t).toInt < x
    · rw [if_pos q]; omega
    · rw [if_neg q]; omega
theorem ch_bd {M : wM} {x : Int} : ∀ t, ch M x t ≤ t + 1
  | 0 => by
    show (if _ then 1 else 0) ≤ 1
    by_cases q : x < 1000000000
    · rw [if_pos q]; omega
    · rw [if_neg q]; omega
  | t + 1 => by
    have := ch_bd (M := M) (x := x) t
    show ch M x t + (if _ then 1 else 0) ≤ _
    by_cases q : x < (M 11 t).toInt
    · rw [if_pos q]; omega
    · rw [if_neg q]; omega
theorem cl_lt {M : wM} {x y : Int} (h : x < y) : ∀ t, (x = -1000000000 ∨ ∃ k, k < t ∧ (M 11 k).toInt = x) → cl M x t < cl M y t
  | 0, z => by
    rcases z with z | ⟨k, hk, -⟩
    · show (if _ then 1 else 0) < (if _ then 1 else 0)
      rw [if_neg (by omega), if_pos (by omega)]; omega
    · exact absurd hk (Nat.not_lt_zero k)
  | t + 1, z => by
    show cl M x t + (if _ then 1 else 0) < cl M y t + (if _ then 1 else 0)
    by_cases e : (M 11 t).toInt = x
    · have := cl_le (M := M) (x := x) (y := y) (by omega) t
      rw [if_neg (by omega), if_pos (by omega)]; omega
    · have k : (if (M 11 t).toInt < x then 1 else 0) ≤ (if (M 11 t).toInt < y then 1 else 0) := if_le (fun z => by omega)
      have := cl_lt h t (by
        rcases z with z | ⟨k, hk, g⟩
        · exact Or.inl z
        · refine Or.inr ⟨k, ?_, g⟩
          by_cases q : k = t
          · subst q; exact absurd g e
          · omega)
      omega
theorem ch_lt {M : wM} {x y : Int} (h : y < x) : ∀ t, (x = 1000000000 ∨ ∃ k, k < t ∧ (M 11 k).toInt = x) → ch M x t < ch M y t
  | 0, z => by
    rcases z with z | ⟨k, hk, -⟩
    · show (if _ then 1 else 0) < (if _ then 1 else 0)
      rw [if_neg (by omega), if_pos (by omega)]; omega
    · exact absurd hk (Nat.not_lt_zero k)
  | t + 1, z => by
    show ch M x t + (if _ then 1 else 0) < ch M y t + (if _ then 1 else 0)
    by_cases e : (M 11 t).toInt = x
    · have := ch_le (M := M) (x := x) (y := y) (by omega) t
      rw [if_neg (by omega), if_pos (by omega)]; omega
    · have k : (if x < (M 11 t).toInt then 1 else 0) ≤ (if y < (M 11 t).toInt then 1 else 0) := if_le (fun z => by omega)
      have := ch_lt h t (by
        rcases z with z | ⟨k, hk, g⟩
        · exact Or.inl z
        · refine Or.inr ⟨k, ?_, g⟩
          by_cases q : k = t
          · subst q; exact absurd g e
          · omega)
      omega
def mL (M : wM) (t : Nat) (f : aP) : Nat := S_ (fun v => cl M (f.1 v).toInt t + ch M (f.2 v).toInt t) 6
theorem mL_bd {M : wM} {t : Nat} {f : aP} (ht : t ≤ 8) : mL M t f ≤ 108 := by
  refine Nat.le_trans (S_bd (c := 18) 6 (fun v _ => ?_)) (by decide)
  have h1 := cl_bd (M := M) (x := (f.1 v).toInt) t
  have h2 := ch_bd (M := M) (x := (f.2 v).toInt) t
  show cl M _ t + ch M _ t ≤ 18
  omega
theorem mL_le {M : wM} {t : Nat} {f g : aP} (h : le2 f g) : mL M t g ≤ mL M t f := S_le 6 (fun v hv => Nat.add_le_add (cl_le (h v hv).1 t) (ch_le (h v hv).2 t))
def mb (M : wM) (t d : Nat) (a : aS) (n : Nat) : Nat := match a with
  | none => 200
  | some f => (d - n) + mL M t f
/-- widening: a join j of the entry state e (below it): what it is -/
theorem wdm_s {M : wM} {t : Nat} {j e : aP} (hj : vS j) (he : vS e) (h : le2 e j) : ∃ w, wdm M t (some j) (some e) = some w ∧ rr w = w ∧ vS w ∧ le2 j w ∧ ∀ v, v < 6 → (w.1 v = e.1 v ∨ cl M (w.1 v).toInt t < cl M (e.1 v).toInt t) ∧ (w.2 v = e.2 v ∨ ch M (w.2 v).toInt t < ch M (e.2 v).toInt t) := by
  refine ⟨_, rfl, rr_r6 _ _, fun v hv => ?_, fun v hv => ?_, fun v hv => ⟨?_, ?_⟩⟩
  · have a := hj v hv; have b := he v hv; have c := h v hv
    show -1000000000 ≤ (r6 _ v).toInt ∧ (r6 _ v).toInt ≤ (r6 _ v).toInt ∧ (r6 _ v).toInt ≤ _
    rw [r6_lt hv, r6_lt hv]
    have lo := bel_le (M := M) (v := j.1 v) (by omega) t
    have hi := abo_le (M := M) (v := j.2 v) (by omega) t
    by_cases q1 : e.1 v ≤ j.1 v
    · by_cases q2 : j.2 v ≤ e.2 v
      · simp only [if_pos q1, if_pos q2]; omega
      · have : ¬ (j.2 v).toInt ≤ (e.2 v).toInt := fun z => q2 (t_le.mpr z)
        simp only [if_pos q1, if_neg q2]; rw [AB_a (by omega)]; omega
    · have : ¬ (e.1 v).toInt ≤ (j.1 v).toInt := fun z => q1 (t_le.mpr z)
      by_cases q2 : j.2 v ≤ e.2 v
      · simp only [if_neg q1, if_pos q2]; rw [BL_b (by omega)]; omega
      · have : ¬ (j.2 v).toInt ≤ (e.2 v).toInt := fun z => q2 (t_le.mpr z)
        simp only [if_neg q1, if_neg q2]; rw [BL_b (by omega), AB_a (by omega)]; omega
  · have a := hj v hv; have b := he v hv; have c := h v hv
    show (r6 _ v).toInt ≤ _ ∧ _ ≤ (r6 _ v).toInt
    rw [r6_lt hv, r6_lt hv]
    have lo := bel_le (M := M) (v := j.1 v) (by omega) t
    have hi := abo_le (M := M) (v := j.2 v) (by omega) t
    refine ⟨?_, ?_⟩
    · by_cases q1 : e.1 v ≤ j.1 v
      · simp only [if_pos q1]; omega
      · have : ¬ (e.1 v).toInt ≤ (j.1 v).toInt := fun z => q1 (t_le.mpr z)
        simp only [if_neg q1]; rw [BL_b (by omega)]; omega
    · by_cases q2 : j.2 v ≤ e.2 v
      · simp only [if_pos q2]; omega
      · have : ¬ (j.2 v).toInt ≤ (e.2 v).toInt := fun z => q2 (t_le.mpr z)
        simp only [if_neg q2]; rw [AB_a (by omega)]; omega
  · have a := hj v hv; have b := he v hv; have c := h v hv
    show (r6 (fun v => if e.1 v ≤ j.1 v then j.1 v else BL M t (j.1 v)) v) = e.1 v ∨ cl M (r6 (fun v => if e.1 v ≤ j.1 v then j.1 v else BL M t (j.1 v)) v).toInt t < cl M (e.1 v).toInt t
    rw [r6_lt hv]
    by_cases q1 : e.1 v ≤ j.1 v
    · have := t_le.mp q1
      simp only [if_pos q1]; exact Or.inl (t_ext (by omega))
    · have n : ¬ (e.1 v).toInt ≤ (j.1 v).toInt := fun z => q1 (t_le.mpr z)
      simp only [if_neg q1]; rw [BL_b (by omega)]
      have lo := bel_le (M := M) (v := j.1 v) (by omega) t
      refine Or.inr (cl_lt (by omega) t ?_)
      rcases bel_mem (M := M) (v := j.1 v) t with z | ⟨k, hk, z⟩
      · exact Or.inl z
      · exact Or.inr ⟨k, hk, by rw [z]⟩
  · have a := hj v hv; have b := he v hv; have c := h v hv
    show (r6 (fun v => if j.2 v ≤ e.2 v then j.2 v else AB M t (j.2 v)) v) = e.2 v ∨ ch M (r6 (fun v => if j.2 v ≤ e.2 v then j.2 v else AB M t (j.2 v)) v).toInt t < ch M (e.2 v).toInt t
    rw [r6_lt hv]
    by_cases q2 : j.2 v ≤ e.2 v
    · have := t_le.mp q2
      simp only [if_pos q2]; exact Or.inl (t_ext (by omega))
    · have n : ¬ (j.2 v).toInt ≤ (e.2 v).toInt := fun z => q2 (t_le.mpr z)
      simp only [if_neg q2]; rw [AB_a (by omega)]
      have hi := abo_le (M := M) (v := j.2 v) (by omega) t
      refine Or.inr (ch_lt (by omega) t ?_)
      rcases abo_mem (M := M) (v := j.2 v) t with z | ⟨k, hk, z⟩
      · exact Or.inl z
      · exact Or.inr ⟨k, hk, by rw [z]⟩
/-- what the analysis keeps: ranges; visits that fit the measure -/
def iA (M : wM) (t d : Nat) (x : aN) : Prop := vE x.1 ∧ ∀ b, b < 16 → x.2 b = nI (tn (x.2 b)) ∧ tn (x.2 b) + mb M t d (x.1 b) (tn (x.2 b)) ≤ 200
theorem jn_nn {a g : aS} (h : ¬ g = none) : ∃ f, jn a g = some f := by
  cases g with
  | none => exact absurd rfl h
  | some g => cases a <;> exact ⟨_, rfl⟩
theorem look_nE {M : wM} {cnt t d b : Nat} {x : aN} (hp : mOK M cnt t) (ho : oM M) (hd : M 0 12 = nI d) (hd10 : d ≤ 10) (hx : iA M t d x) (hb : b < 16) (hg : ¬ gatR M x.1 cnt b = none) : ∃ w, nEm M x.1 x.2 cnt t b = some w ∧ vS w ∧ rr w = w ∧ leS (x.1 b) (some w) ∧ leS (gatR M x.1 cnt b) (some w) ∧ (¬ some w = x.1 b → mb M t d (some w) (tn (x.2 b) + 1) < mb M t d (x.1 b) (tn (x.2 b))) := by
  have hE := hx.1 b hb
  have hG := gat_v (t := b) hp ho hx.1
  obtain ⟨v1, v2⟩ := hx.2 b hb
  obtain ⟨j, ej⟩ := jn_nn (a := x.1 b) hg
  have hj := jn_v hE hG
  rw [ej] at hj
  obtain ⟨j1, j2⟩ := hj j rfl
  have u1 : leS (x.1 b) (some j) := by rw [← ej]; exact jn_ub _ _
  have u2 : leS (gatR M x.1 cnt b) (some j) := by rw [← ej, jn_comm]; exact jn_ub _ _
  unfold nEm
  rw [ej]
  cases eb : x.1 b with
  | none =>
    rw [if_neg (fun z => z.1 rfl)]
    refine ⟨j, rfl, j1, j2, leS_none _, u2, fun _ => ?_⟩
    have := mL_bd (M := M) (t := t) (f := j) hp.2.2.2.1
    show (d - (tn (x.2 b) + 1)) + mL M t j < 200
    omega
  | some e =>
    rw [eb] at hE u1 v2
    obtain ⟨e1, e2⟩ := hE e rfl
    obtain ⟨j', ej', le⟩ := leS_of u1
    cases ej'
    have v2 : tn (x.2 b) + ((d - tn (x.2 b)) + mL M t e) ≤ 200 := v2
    by_cases q : x.2 b < M 0 12
    · rw [if_neg (fun z => z.2 q)]
      refine ⟨j, rfl, j1, j2, u1, u2, fun _ => ?_⟩
      rw [v1, hd] at q
      have qn := (nI_ltI (by omega) (by omega)).mp q
      have := mL_le (M := M) (t := t) le
      show (d - (tn (x.2 b) + 1)) + mL M t j < (d - tn (x.2 b)) + mL M t e
      omega
    · rw [if_pos ⟨by simp, q⟩]
      obtain ⟨w, ew, w1, w2, w3, w4⟩ := wdm_s (M := M) (t := t) j1 e1 le
      refine ⟨w, ew, w2, w1, leS_trans u1 (leS_some w3), leS_trans u2 (leS_some w3), fun ne => ?_⟩
      have qn : ¬ tn (x.2 b) < d := fun z => q (by rw [v1, hd]; exact (nI_ltI (by omega) (by omega)).mpr z)
      have key : mL M t w < mL M t e := by
        have dec : ∀ v, v < 6 → cl M (w.1 v).toInt t ≤ cl M (e.1 v).toInt t ∧ ch M (w.2 v).toInt t ≤ ch M (e.2 v).toInt t := fun v hv => by
          obtain ⟨c1, c2⟩ := w4 v hv
          refine ⟨?_, ?_⟩
          · rcases c1 with c1 | c1
            · rw [c1]; exact Nat.le_refl _
            · omega
          · rcases c2 with c2 | c2
            · rw [c2]; exact Nat.le_refl _
            · omega
        refine S_lt 6 (fun v hv => Nat.add_le_add (dec v hv).1 (dec v hv).2) ?_
        refine Classical.byContradiction fun n => ne ?_
        have same : ∀ v, v < 6 → w.1 v = e.1 v ∧ w.2 v = e.2 v := fun v hv => by
          obtain ⟨c1, c2⟩ := w4 v hv
          obtain ⟨d1, d2⟩ := dec v hv
          have nn : ¬ (cl M (w.1 v).toInt t + ch M (w.2 v).toInt t < cl M (e.1 v).toInt t + ch M (e.2 v).toInt t) := fun z => n ⟨v, hv, z⟩
          refine ⟨c1.resolve_right (fun z => nn (by omega)), c2.resolve_right (fun z => nn (by omega))⟩
        have re : (r6 w.1, r6 w.2) = (r6 e.1, r6 e.2) := congr (congrArg Prod.mk (r6_ext fun v hv => (same v hv).1)) (r6_ext fun v hv => (same v hv).2)
        exact congrArg some (w1.symm.trans ((show rr w = rr e from re).trans e2))
      show (d - (tn (x.2 b) + 1)) + mL M t w < (d - tn (x.2 b)) + mL M t e
      omega
noncomputable def lk1 (M : wM) (cnt t b : Nat) (x : aN) : aN := (lkER M x.1 x.2 cnt t b, lkVR M x.1 x.2 cnt t b)
def tot (M : wM) (t d : Nat) (x : aN) : Nat := S_ (fun b => mb M t d (x.1 b) (tn (x.2 b))) 16
theorem nI_s1 (n : Nat) : nI n + nI 1 = nI (n + 1) := nI_1 n
theorem look_iA {M : wM} {cnt t d b : Nat} {x : aN} (hp : mOK M cnt t) (ho : oM M) (hd : M 0 12 = nI d) (hd10 : d ≤ 10) (hx : iA M t d x) (hb : b < 16) : iA M t d (lk1 M cnt t b x) ∧ tot M t d (lk1 M cnt t b x) ≤ tot M t d x ∧ (chR M x.1 x.2 cnt t b → tot M t d (lk1 M cnt t b x) < tot M t d x) ∧ (¬ chR M x.1 x.2 cnt t b → lk1 M cnt t b x = x ∧ leS (gatR M x.1 cnt b) (x.1 b)) := by
  by_cases c : chR M x.1 x.2 cnt t b
  · obtain ⟨w, ew, w1, w2, w3, w4, w5⟩ := look_nE hp ho hd hd10 hx hb c.1
    have hc2 := c.2
    rw [ew] at hc2
    have dec := w5 hc2
    have e : lk1 M cnt t b x = (va_up x.1 b (some w), va_up x.2 b (x.2 b + nI 1)) := by unfold lk1; rw [lkER_1 c, lkVR_1 c, ew]
    obtain ⟨v1, v2⟩ := hx.2 b hb
    have vn : x.2 b + nI 1 = nI (tn (x.2 b) + 1) := by exact (congrArg (· + nI 1) v1).trans (nI_s1 _)
    have vt : tn (x.2 b + nI 1) = tn (x.2 b) + 1 := by rw [vn]; exact tn_nI (by omega)
    have lt : tot M t d (lk1 M cnt t b x) < tot M t d x := by
      rw [e]
      refine S_lt 16 (fun q hq => ?_) ⟨b, hb, ?_⟩
      · show mb M t d (va_up x.1 b (some w) q) (tn (va_up x.2 b (x.2 b + nI 1) q)) ≤ _
        by_cases z : q = b
        · subst z; rw [va_up_self, va_up_self, vt]; omega
        · rw [va_up_ne _ _ z, va_up_ne _ _ z]; exact Nat.le_refl _
      · show mb M t d (va_up x.1 b (some w) b) (tn (va_up x.2 b (x.2 b + nI 1) b)) < _
        rw [va_up_self, va_up_self, vt]; exact dec
    refine ⟨?_, by omega, fun _ => lt, fun z => absurd c z⟩
    rw [e]
    refine ⟨fun q hq => ?_, fun q hq => ?_⟩
    · show vA (va_up x.1 b (some w) q)
      by_cases z : q = b
      · subst z; rw [va_up_self]; exact vA_some w1 w2
      · rw [va_up_ne _ _ z]; exact hx.1 q hq
    · show va_up x.2 b (x.2 b + nI 1) q = nI (tn (va_up x.2 b (x.2 b + nI 1) q)) ∧ tn (va_up x.2 b (x.2 b + nI 1) q) + mb M t d (va_up x.1 b (some w) q) (tn (va_up x.2 b (x.2 b + nI 1) q)) ≤ 200
      by_cases z : q = b
      · subst z; rw [va_up_self, va_up_self, vt]; exact ⟨vn, by omega⟩
      · rw [va_up_ne _ _ z, va_up_ne _ _ z]; exact hx.2 q hq
  · have e : lk1 M cnt t b x = x := by unfold lk1; rw [lkER_0 c, lkVR_0 c]
    rw [e]
    refine ⟨hx, Nat.le_refl _, fun z => absurd z c, fun _ => ⟨rfl, ?_⟩⟩
    by_cases g : gatR M x.1 cnt b = none
    · rw [g]; exact leS_none _
    · obtain ⟨w, ew, w1, w2, w3, w4, w5⟩ := look_nE hp ho hd hd10 hx hb g
      have : nEm M x.1 x.2 cnt t b = x.1 b := Classical.byContradiction fun n => c ⟨g, n⟩
      rw [← this, ew]; exact w4
theorem round_iA {M : wM} {cnt t d : Nat} {x : aN} (hp : mOK M cnt t) (ho : oM M) (hd : M 0 12 = nI d) (hd10 : d ≤ 10) (hx : iA M t d x) : ∀ b, b ≤ 16 → iA M t d (rdSR M cnt t b x) ∧ tot M t d (rdSR M cnt t b x) ≤ tot M t d x ∧ (rdCR M cnt t b x → tot M t d (rdSR M cnt t b x) < tot M t d x) ∧ (¬ rdCR M cnt t b x → rdSR M cnt t b x = x ∧ ∀ q, q < b → leS (gatR M x.1 cnt q) (x.1 q))
  | 0, _ => ⟨hx, Nat.le_refl _, fun z => z.elim, fun _ => ⟨rfl, fun q hq => absurd hq (Nat.not_lt_zero q)⟩⟩
  | b + 1, hb => by
    obtain ⟨h1, h2, h3, h4⟩ := round_iA hp ho hd hd10 hx b (by omega)
    obtain ⟨g1, g2, g3, g4⟩ := look_iA (b := b) hp ho hd hd10 h1 (by omega)
    have e : rdSR M cnt t (b + 1) x = lk1 M cnt t b (rdSR M cnt t b x) := rfl
    rw [e]
    refine ⟨g1, by omega, fun z => ?_, fun z => ?_⟩
    · rcases z with z | z
      · have := h3 z; omega
      · have := g3 z; omega
    · have z1 : ¬ rdCR M cnt t b x := fun y => z (Or.inl y)
      have z2 : ¬ chR M (rdSR M cnt t b x).1 (rdSR M cnt t b x).2 cnt t b := fun y => z (Or.inr y)
      obtain ⟨k1, k2⟩ := h4 z1
      obtain ⟨l1, l2⟩ := g4 z2
      rw [l1, k1]
      refine ⟨rfl, fun q hq => ?_⟩
      rw [k1] at l2
      by_cases y : q = b
      · subst y; exact l2
      · exact k2 q (by omega)
/-- the rounds end -/
theorem rounds_end {M : wM} {cnt t d : Nat} (hp : mOK M cnt t) (ho : oM M) (hd : M 0 12 = nI d) (hd10 : d ≤ 10) : ∀ (f : Nat) (x : aN), iA M t d x → tot M t d x < f → tmR M cnt t f x ∧ iA M t d (itR M cnt t f x).2 ∧ ∀ q, q < cnt → leS (gatR M (itR M cnt t f x).2.1 cnt q) ((itR M cnt t f x).2.1 q)
  | 0, x, _, h => absurd h (Nat.not_lt_zero _)
  | f + 1, x, hx, h => by
    obtain ⟨h1, h2, h3, h4⟩ := round_iA hp ho hd hd10 hx cnt hp.2.1
    by_cases c : rdCR M cnt t cnt x
    · have lt := h3 c
      obtain ⟨r1, r2, r3⟩ := rounds_end hp ho hd hd10 f (rdSR M cnt t cnt x) h1 (by omega)
      rw [itR_1 c]
      exact ⟨Or.inr r1, r2, r3⟩
    · obtain ⟨k1, k2⟩ := h4 c
      rw [itR_2 c, k1]
      exact ⟨Or.inl c, hx, k2⟩
theorem z0_iA {M : wM} {t d : Nat} : iA M t d z0 ∧ tot M t d z0 ≤ 3200 := by
  refine ⟨⟨fun b hb => vA_none, fun b hb => ⟨rfl, ?_⟩⟩, S_bd (c := 200) 16 (fun b hb => Nat.le_refl _)⟩
  show tn (nI 0) + 200 ≤ 200
  rw [tn_nI (by decide)]; omega
/-- narrowing -/
theorem nw_gat {e g : aS} (hg : vA g) (h : leS g e) (he : ¬ e = none) : nw e g = g := by
  cases g with
  | none => cases e <;> rfl
  | some g =>
    obtain ⟨f, rfl, l⟩ := leS_of h
    obtain ⟨-, g2⟩ := hg g rfl
    show some (r6 _, r6 _) = some g
    rw [← g2]
    exact congrArg some (congr (congrArg Prod.mk (r6_ext fun v hv => by
      have := l v hv; rw [rr_1 hv]; exact t_ext (by simp only [t_mx]; omega))) (r6_ext fun v hv => by
      have := l v hv; rw [rr_2 hv]; exact t_ext (by simp only [t_mn]; omega)))
def iN (M : wM) (cnt : Nat) (E : Nat → aS) : Prop := vE E ∧ ∀ q, q < cnt → leS (gatR M E cnt q) (E q)
theorem narrow_iN {M : wM} {cnt t b : Nat} {E : Nat → aS} (hp : mOK M cnt t) (ho : oM M) (h : iN M cnt E) (hb : b < cnt) : iN M cnt (nrER M E cnt b) := by
  by_cases q : E b = none
  · rw [nrER_0 q]; exact h
  · have hc := hp.2.1
    have hG := gat_v (t := b) hp ho h.1
    rw [nrER_1 q, nw_gat hG (h.2 b hb) q]
    have v' : vE (va_up E b (gatR M E cnt b)) := fun p hp' => by
      by_cases z : p = b
      · subst z; rw [va_up_self]; exact hG
      · rw [va_up_ne _ _ z]; exact h.1 p hp'
    have le : ∀ p, p < 16 → leS (va_up E b (gatR M E cnt b) p) (E p) := fun p _ => by
      by_cases z : p = b
      · subst z; rw [va_up_self]; exact h.2 p hb
      · rw [va_up_ne _ _ z]; exact leS_refl _
    refine ⟨v', fun p hpc => ?_⟩
    have k := gat_le (t := p) hp ho v' h.1 le
    by_cases z : p = b
    · subst z; rw [va_up_self]; exact k
    · rw [va_up_ne _ _ z]; exact leS_trans k (h.2 p hpc)
