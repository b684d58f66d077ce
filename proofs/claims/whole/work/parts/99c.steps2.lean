/-! ===== the answers of the analysis and of the execution on both sides ===== -/
section AN2
variable {M N : wM} {cnt t d n sc : Nat}
theorem An_at (h : SimA M N cnt t d n sc) (hz : ¬ N 0 16 = 0) {b : Nat} (hb : b < 16) : sv M (3 + 4 * b) = enM N b ∧ M (297 + 2 * b) 3 = N 15 b ∧ sv M (4 + 4 * b) = (if N 12 b = 0 then none else some (apF N b)) ∧ ∀ e, e < tn (N 3 b) → sv M (5 + 4 * b + e) = rcm N b e := by
  have hp := h.1
  obtain ⟨E, V, vE1, hA, hB⟩ := h.2.2.2.2.2.1 hz
  obtain ⟨a1, a2, a3, a4⟩ := hA.2.2 b hb
  obtain ⟨b1, b2⟩ := hB.2.2.2 b hb
  have hv : vA (E b) := vE1 b hb
  have e1 : apB M b (E b) = apA N b (E b) := apB_eq hp hb hv
  refine ⟨a1.trans b1.symm, a2.trans b2.symm, ?_, fun e he => ?_⟩
  · rw [a3, e1, ← b1]
    unfold apA enM
    by_cases q : N 12 b = 0
    · rw [if_pos q, if_pos q]; rfl
    · rw [if_neg q, if_neg q]; rfl
  · rw [AM_rcm hB hb, a4 e (by rw [(hp.bk b hb).ed]; exact he), e1]
    exact edB_eq hp hb (apA_v hp.m hp.o hb hv)
theorem An_en (h : SimA M N cnt t d n sc) (hz : ¬ N 0 16 = 0) {b : Nat} (hb : b < 16) : (M (3 * (3 + 4 * b)) 0 = 0 ↔ ¬ N 12 b = 0) ∧ (¬ N 12 b = 0 → ∀ v, v < 6 → M (3 * (3 + 4 * b) + 1) v = N 13 ((6 * b) + v) ∧ M (3 * (3 + 4 * b) + 2) v = N 14 ((6 * b) + v)) := by
  have e := (An_at h hz hb).1
  unfold sv enM at e
  by_cases q : N 12 b = 0
  · rw [if_pos q] at e
    by_cases p : M (3 * (3 + 4 * b)) 0 = 0
    · rw [if_pos p] at e; cases e
    · exact ⟨⟨fun z => absurd z p, fun z => absurd q z⟩, fun z => absurd q z⟩
  · rw [if_neg q] at e
    by_cases p : M (3 * (3 + 4 * b)) 0 = 0
    · rw [if_pos p] at e
      refine ⟨⟨fun _ => q, fun _ => p⟩, fun _ v hv => ?_⟩
      unfold rw9 rr at e
      have e' := Prod.mk.inj (Option.some.inj e)
      exact ⟨r6_inj e'.1 hv, r6_inj e'.2 hv⟩
    · rw [if_neg p] at e; cases e
theorem An_ex (h : SimA M N cnt t d n sc) (hz : ¬ N 0 16 = 0) {b : Nat} (hb : b < 16) : (M (3 * (4 + 4 * b)) 0 = 0 ↔ ¬ N 12 b = 0) ∧ (¬ N 12 b = 0 → ∀ v, v < 6 → M (3 * (4 + 4 * b) + 1) v = (apF N b).1 v ∧ M (3 * (4 + 4 * b) + 2) v = (apF N b).2 v) := by
  have e := (An_at h hz hb).2.2.1
  unfold sv at e
  by_cases q : N 12 b = 0
  · rw [if_pos q] at e
    by_cases p : M (3 * (4 + 4 * b)) 0 = 0
    · rw [if_pos p] at e; cases e
    · exact ⟨⟨fun z => absurd z p, fun z => absurd q z⟩, fun z => absurd q z⟩
  · rw [if_neg q] at e
    by_cases p : M (3 * (4 + 4 * b)) 0 = 0
    · rw [if_pos p] at e
      refine ⟨⟨fun _ => q, fun _ => p⟩, fun _ v hv => ?_⟩
      have e' := Option.some.inj e
      rw [← e']
      exact ⟨(r6_lt hv).symm, (r6_lt hv).symm⟩
    · rw [if_neg p] at e; cases e
theorem An_ed (h : SimA M N cnt t d n sc) (hz : ¬ N 0 16 = 0) {b e : Nat} (hb : b < 16) (he : e < tn (N 3 b)) : M (3 * (5 + 4 * b + e)) 0 = 0 ↔ ¬ rcm N b e = none := by
  have k := (An_at h hz hb).2.2.2 e he
  unfold sv at k
  by_cases p : M (3 * (5 + 4 * b + e)) 0 = 0
  · rw [if_pos p] at k
    exact ⟨fun _ z => (by rw [z] at k; cases k), fun _ => p⟩
  · rw [if_neg p] at k
    exact ⟨fun z => absurd z p, fun z => absurd k.symm z⟩
theorem ded_E (h : SimA M N cnt t d n sc) (hz : ¬ N 0 16 = 0) {b : Nat} (hb : b < 16) : ∀ k, k ≤ tn (N 3 b) → dedN M b k = dmE N b k
  | 0, _ => rfl
  | k + 1, hk => by
    show dedN M b k + (if M (3 * (5 + 4 * b + k)) 0 = 0 then 0 else 1) = dmE N b k + (if (rcm N b k).isNone = true then 1 else 0)
    have q := An_ed h hz hb (e := k) (by omega)
    rw [ded_E h hz hb k (by omega)]
    by_cases p : rcm N b k = none
    · rw [if_neg (fun z => q.mp z p), p, if_pos (show (none : aS).isNone = true from rfl)]
    · rw [if_pos (q.mpr p), if_neg (fun z => p (Option.isNone_iff_eq_none.mp z))]
theorem ded_A (h : SimA M N cnt t d n sc) (hz : ¬ N 0 16 = 0) : ∀ k, k ≤ 16 → dedA M k = dmA N k
  | 0, _ => rfl
  | b + 1, hb => by
    show dedA M b + dedF M b (tn (M (201 + 6 * b) 5)) = dmA N b + dmB N b
    rw [ded_A h hz b (by omega), (h.1.bk b (by omega)).ed]
    have q := (An_en h hz (b := b) (by omega)).1
    unfold dedF dmB
    by_cases p : N 12 b = 0
    · rw [if_pos p, if_neg (fun z => q.mp z p)]
    · rw [if_neg p, if_pos (q.mpr p), ded_E h hz (by omega) _ (Nat.le_refl _)]
theorem dg_P (h : SimA M N cnt t d n sc) {x : Int64} : ∀ k, k ≤ 16 → dgP M x k = gP N x k
  | 0, _ => rfl
  | b + 1, hb => by
    show (dgP M x b * 31 + (M (201 + 6 * b) 0).toInt64) * 31 + (M (201 + 6 * b) 5).toInt64 = (gP N x b * 31 + (N 1 b).toInt64) * 31 + (N 3 b).toInt64
    rw [dg_P h b (by omega), (h.1.bk b (by omega)).sz, (h.1.bk b (by omega)).ed]
theorem dg_R (h : SimA M N cnt t d n sc) (hz : ¬ N 0 16 = 0) {b : Nat} (hb : b < 16) (q : ¬ N 12 b = 0) {x : Int64} : ∀ k, k ≤ 6 → dgR M (3 + 4 * b) x k = gR N b x k
  | 0, _ => rfl
  | v + 1, hv => by
    show (dgR M (3 + 4 * b) x v * 31 + (M (3 * (3 + 4 * b) + 1) v).toInt64) * 31 + (M (3 * (3 + 4 * b) + 2) v).toInt64 = (gR N b x v * 31 + (N 13 ((6 * b) + v)).toInt64) * 31 + (N 14 ((6 * b) + v)).toInt64
    obtain ⟨a1, a2⟩ := (An_en h hz hb).2 q v (by omega)
    rw [dg_R h hz hb q v (by omega), a1, a2]
theorem dg_A (h : SimA M N cnt t d n sc) (hz : ¬ N 0 16 = 0) {x : Int64} : ∀ k, k ≤ 16 → dgA M x k = gA N x k
  | 0, _ => rfl
  | b + 1, hb => by
    have q := (An_en h hz (b := b) (by omega)).1
    have v := (An_at h hz (b := b) (by omega)).2.1
    by_cases p : N 12 b = 0
    · rw [dgA_2 (fun z => q.mp z p), gA_1 p, dg_A h hz b (by omega), v]
    · rw [dgA_1 (q.mpr p), gA_2 p, dg_A h hz b (by omega), v, dg_R h hz (by omega) p 6 (Nat.le_refl _)]
theorem dg_V (h : SimA M N cnt t d n sc) {x : Int64} : ∀ k, k ≤ 6 → dgV M x k = gV N x k
  | 0, _ => rfl
  | v + 1, hv => by
    show dgV M x v * 31 + (M 337 v).toInt64 = gV N x v * 31 + (N 22 v).toInt64
    rw [dg_V h v (by omega), h.2.2.2.2.2.2.2.2.2.2 v (by omega)]
theorem dg_X (h : SimA M N cnt t d n sc) : dgX M cnt = gX N cnt := by
  have c16 := h.1.c16
  have e1 : dg1 M cnt = g1 N cnt := by
    unfold dg1 g1
    rw [show (89 * 31 : Int64) = 2759 from by decide, dg_P h cnt c16, h.1.dM, h.1.dN, h.1.nM, h.1.nN, h.1.tM, h.1.tN]
  unfold dgX gX
  rw [e1, h.2.2.2.1]
  by_cases q : N 0 16 = 0
  · rw [if_pos q, if_pos q, dg_V h 6 (Nat.le_refl _)]
  · rw [if_neg q, if_neg q, dg_A h q cnt c16, dg_V h 6 (Nat.le_refl _)]
end AN2
section ST2
variable {M N M' N' : wM} {J K J' K' : wJ} {f' : Nat → Int64} {k b9 : Int32} {cnt t d n sc : Nat}
/-- refusals of the answers that want the analysis -/
theorem ok_r2 {E : String} {P : Prop} {x y : Int64} (h : Sim M N) (hE : (E = xIS ∧ N 0 16 = 0) ∨ (E = xIX ∧ ¬ N 0 16 = 0 ∧ ¬ P)) (hk : (E = xIS ∧ k = nI 1) ∨ (E = xIX ∧ k = nI 2)) (hm : (¬ N 0 16 = 0 ∧ P) ∨ (N 0 16 = 0 ∧ tQ 1 N N') ∨ (¬ N 0 16 = 0 ∧ ¬ P ∧ tQ 2 N N')) : okS k M N' x y := by
  rcases hE with ⟨rfl, a⟩ | ⟨rfl, a, c⟩
  · rcases hk with ⟨-, rfl⟩ | ⟨z, -⟩
    · rcases hm with ⟨z, -⟩ | ⟨-, g⟩ | ⟨z, -⟩
      · exact absurd a z
      · exact ok_no h (by decide) (by decide) g
      · exact absurd a z
    · exact absurd z (by decide)
  · rcases hk with ⟨z, -⟩ | ⟨-, rfl⟩
    · exact absurd z (by decide)
    · rcases hm with ⟨-, z⟩ | ⟨z, -⟩ | ⟨-, -, g⟩
      · exact absurd z c
      · exact absurd z a
      · exact ok_no h (by decide) (by decide) g
theorem ok_r3 {E : String} {b v : Int32} {x y : Int64} (h : Sim M N) (hE : (E = xIS ∧ N 0 16 = 0) ∨ (E = xIX ∧ ¬ N 0 16 = 0 ∧ ¬ (inB b cnt ∧ inB v 6)) ∨ (E = xNE ∧ ¬ N 0 16 = 0 ∧ inB b cnt ∧ inB v 6 ∧ N 12 (tn b) = 0)) (hk : (E = xIS ∧ k = nI 1) ∨ (E = xIX ∧ k = nI 2) ∨ (E = xNE ∧ k = nI 3)) (hm : (¬ N 0 16 = 0 ∧ inB b cnt ∧ inB v 6 ∧ ¬ N 12 (tn b) = 0) ∨ qAE N K cnt b v (N', K')) : okS k M N' x y := by
  have hm2 : (¬ N 0 16 = 0 ∧ inB b cnt ∧ inB v 6 ∧ ¬ N 12 (tn b) = 0) ∨ (N 0 16 = 0 ∧ tQ 1 N N') ∨ (¬ N 0 16 = 0 ∧ ¬ (inB b cnt ∧ inB v 6) ∧ tQ 2 N N') ∨ (¬ N 0 16 = 0 ∧ inB b cnt ∧ inB v 6 ∧ N 12 (tn b) = 0 ∧ tQ 3 N N') := by
    rcases hm with g | ⟨a, hv⟩ | ⟨a, c, hv⟩ | ⟨a, c, c2, c3, hv⟩
    · exact Or.inl g
    · have e2 : N' = _ := (Prod.mk.inj hv).1
      subst e2
      exact Or.inr (Or.inl ⟨a, tQ_U⟩)
    · have e2 : N' = _ := (Prod.mk.inj hv).1
      subst e2
      exact Or.inr (Or.inr (Or.inl ⟨a, c, tQ_U⟩))
    · have e2 : N' = _ := (Prod.mk.inj hv).1
      subst e2
      exact Or.inr (Or.inr (Or.inr ⟨a, c, c2, c3, tQ_U⟩))
  rcases hE with ⟨rfl, a⟩ | ⟨rfl, a, c⟩ | ⟨rfl, a, c, c2, c3⟩
  · rcases hk with ⟨-, rfl⟩ | ⟨z, -⟩ | ⟨z, -⟩
    · rcases hm2 with ⟨z, -⟩ | ⟨-, g⟩ | ⟨z, -⟩ | ⟨z, -⟩
      · exact absurd a z
      · exact ok_no h (by decide) (by decide) g
      · exact absurd a z
      · exact absurd a z
    · exact absurd z (by decide)
    · exact absurd z (by decide)
  · rcases hk with ⟨z, -⟩ | ⟨-, rfl⟩ | ⟨z, -⟩
    · exact absurd z (by decide)
    · rcases hm2 with ⟨-, z1, z2, -⟩ | ⟨z, -⟩ | ⟨-, -, g⟩ | ⟨-, z1, z2, -⟩
      · exact absurd ⟨z1, z2⟩ c
      · exact absurd z a
      · exact ok_no h (by decide) (by decide) g
      · exact absurd ⟨z1, z2⟩ c
    · exact absurd z (by decide)
  · rcases hk with ⟨z, -⟩ | ⟨z, -⟩ | ⟨-, rfl⟩
    · exact absurd z (by decide)
    · exact absurd z (by decide)
    · rcases hm2 with ⟨-, -, -, z⟩ | ⟨z, -⟩ | ⟨-, z, -⟩ | ⟨-, -, -, -, g⟩
      · exact absurd c3 z
      · exact absurd z a
      · exact absurd ⟨c, c2⟩ z
      · exact ok_no h (by decide) (by decide) g
theorem St_isReachable {b : Int32} (h : SimA M N cnt t d n sc) (hw : wX_isReachable M J b cnt k (M', J', f')) (hm : qM_isReachable N K b cnt b9 (N', K')) : okS k M' N' (f' 0) (if b9 = 0 then 0 else 1) := by
  have e16 := h.2.2.2.1
  have c16 := h.1.c16
  rcases hw with ⟨rfl, r, ⟨h1, h2, hu, hr⟩, hf⟩ | ⟨hM, hJ, E, hE, hk⟩
  · have e1 : M' = M := (Prod.mk.inj hu).1
    subst e1
    rw [e16] at h1
    obtain ⟨t1, -⟩ := inB_16 h2 c16
    have q := (An_en h h1 (b := tn b) (by omega)).1
    rcases hm with ⟨-, -, hv, hb⟩ | ⟨hno, -⟩ | ⟨-, hno, -⟩
    · have e2 : N' = _ := (Prod.mk.inj hv).1
      subst e2
      refine ok_yes h.sim tQ_U ?_
      rw [show f' 0 = _ from hf, hr, hb]
      by_cases p : N 12 (tn b) = 0
      · rw [if_pos p, if_neg (fun z => q.mp z p)]
      · rw [if_neg p, if_pos (q.mpr p)]
    · exact absurd hno h1
    · exact absurd h2 hno
  · have hM : M' = M := hM
    subst hM
    refine ok_r2 (P := inB b cnt) h.sim ?_ hk ?_
    · rw [← e16]; exact hE
    · rcases hm with ⟨a, c, -⟩ | ⟨a, hv, -⟩ | ⟨a, c, hv, -⟩
      · exact Or.inl ⟨a, c⟩
      · have e2 : N' = _ := (Prod.mk.inj hv).1
        subst e2
        exact Or.inr (Or.inl ⟨a, tQ_U⟩)
      · have e2 : N' = _ := (Prod.mk.inj hv).1
        subst e2
        exact Or.inr (Or.inr ⟨a, c, tQ_U⟩)
theorem St_entry {b v hh : Int32} (h : SimA M N cnt t d n sc) (hw : wX_entry M J b v hh cnt k (M', J', f')) (hm : qM_entry N K b v hh cnt b9 (N', K')) : okS k M' N' (f' 0) b9.toInt64 := by
  have e16 := h.2.2.2.1
  have c16 := h.1.c16
  rcases hw with ⟨rfl, r, ⟨h1, h2, h3, h4, hu, hr⟩, hf⟩ | ⟨hM, hJ, E, hE, hk⟩
  · have e1 : M' = M := (Prod.mk.inj hu).1
    subst e1
    rw [e16] at h1
    obtain ⟨t1, -⟩ := inB_16 h2 c16
    obtain ⟨t3, -⟩ := inB_tn h3 (by decide)
    obtain ⟨q, g⟩ := An_en h h1 (b := tn b) (by omega)
    have n12 := q.mp h4
    rcases hm with ⟨-, -, -, -, hv, hb⟩ | ⟨hq, -⟩
    · have e2 : N' = _ := (Prod.mk.inj hv).1
      subst e2
      refine ok_yes h.sim tQ_U ?_
      obtain ⟨g1, g2⟩ := g n12 (tn v) t3
      rw [show f' 0 = _ from hf, hr, hb, g1, g2]
    · rcases hq with ⟨z, -⟩ | ⟨-, z, -⟩ | ⟨-, -, -, z, -⟩
      · exact absurd z h1
      · exact absurd ⟨h2, h3⟩ z
      · exact absurd z n12
  · have hM : M' = M := hM
    subst hM
    refine ok_r3 (cnt := cnt) (K := K) (K' := K') (b := b) (v := v) h.sim ?_ hk ?_
    · rcases hE with ⟨rfl, a⟩ | ⟨rfl, a, c⟩ | ⟨rfl, a, c, c2, c3⟩
      · exact Or.inl ⟨rfl, by rw [← e16]; exact a⟩
      · exact Or.inr (Or.inl ⟨rfl, by rw [← e16]; exact a, c⟩)
      · rw [e16] at a
        obtain ⟨t1, -⟩ := inB_16 c c16
        have q := (An_en h a (b := tn b) (by omega)).1
        exact Or.inr (Or.inr ⟨rfl, a, c, c2, Decidable.byContradiction (fun z => c3 (q.mpr z))⟩)
    · rcases hm with ⟨a, c, c2, c3, -⟩ | ⟨hq, -⟩
      · exact Or.inl ⟨a, c, c2, c3⟩
      · exact Or.inr hq
theorem St_exit {b v hh : Int32} (h : SimA M N cnt t d n sc) (hw : wX_exit M J b v hh cnt k (M', J', f')) (hm : qM_exit N K b v hh cnt t b9 (N', K')) : okS k M' N' (f' 0) b9.toInt64 := by
  have e16 := h.2.2.2.1
  have c16 := h.1.c16
  rcases hw with ⟨rfl, r, ⟨h1, h2, h3, h4, hu, hr⟩, hf⟩ | ⟨hM, hJ, E, hE, hk⟩
  · have e1 : M' = M := (Prod.mk.inj hu).1
    subst e1
    rw [e16] at h1
    obtain ⟨t1, -⟩ := inB_16 h2 c16
    obtain ⟨t3, -⟩ := inB_tn h3 (by decide)
    obtain ⟨q, g⟩ := An_ex h h1 (b := tn b) (by omega)
    have n12 := q.mp h4
    rcases hm with ⟨-, -, hv, hb⟩ | ⟨hq, -⟩
    · refine ok_yes h.sim hv ?_
      obtain ⟨g1, g2⟩ := g n12 (tn v) t3
      rw [show f' 0 = _ from hf, hr, hb, g1, g2]
    · rcases hq with ⟨z, -⟩ | ⟨-, z, -⟩ | ⟨-, -, -, z, -⟩
      · exact absurd z h1
      · exact absurd ⟨h2, h3⟩ z
      · exact absurd z n12
  · have hM : M' = M := hM
    subst hM
    refine ok_r3 (cnt := cnt) (K := K) (K' := K') (b := b) (v := v) h.sim ?_ hk ?_
    · rcases hE with ⟨rfl, a⟩ | ⟨rfl, a, c⟩ | ⟨rfl, a, c, c2, c3⟩
      · exact Or.inl ⟨rfl, by rw [← e16]; exact a⟩
      · exact Or.inr (Or.inl ⟨rfl, by rw [← e16]; exact a, c⟩)
      · rw [e16] at a
        obtain ⟨t1, -⟩ := inB_16 c c16
        have q := (An_ex h a (b := tn b) (by omega)).1
        exact Or.inr (Or.inr ⟨rfl, a, c, c2, Decidable.byContradiction (fun z => c3 (q.mpr z))⟩)
    · rcases hm with ⟨g, -⟩ | ⟨hq, -⟩
      · exact Or.inl g
      · exact Or.inr hq
theorem St_isDead {b e1 : Int32} (h : SimA M N cnt t d n sc) (hw : wX_isDead M J b e1 cnt k (M', J', f')) (hm : qM_isDead N K b e1 cnt t b9 (N', K')) : okS k M' N' (f' 0) (if b9 = 0 then 0 else 1) := by
  have e16 := h.2.2.2.1
  have c16 := h.1.c16
  rcases hw with ⟨rfl, r, ⟨h1, h2, h3, hu, hr⟩, hf⟩ | ⟨hM, hJ, E, hE, hk⟩
  · have e1' : M' = M := (Prod.mk.inj hu).1
    subst e1'
    rw [e16] at h1
    obtain ⟨s1, s2, s3⟩ := sz_eq h h2
    rw [s2] at h3
    obtain ⟨t1, -⟩ := inB_16 h2 c16
    have e2 := (h.1.bk (tn b) (by omega)).ed2
    obtain ⟨t3, -⟩ := inB_tn h3 (by omega)
    have q := An_ed h h1 (b := tn b) (e := tn e1) (by omega) t3
    rcases hm with ⟨-, -, -, -, hv, hb⟩ | ⟨hno, -⟩ | ⟨-, hno, -⟩
    · refine ok_yes h.sim hv ?_
      rw [show f' 0 = _ from hf, hr]
      rcases hb with ⟨rfl, z⟩ | ⟨rfl, z⟩
      · rw [if_neg (fun y => q.mp y z), if_neg (by decide)]
      · rw [if_pos (q.mpr z), if_pos (by decide)]
    · exact absurd hno h1
    · exact absurd ⟨h2, h3⟩ hno
  · have hM : M' = M := hM
    subst hM
    refine ok_r2 (P := inB b cnt ∧ inB e1 (tn (N 3 (tn b)))) h.sim ?_ hk ?_
    · rcases hE with ⟨rfl, a⟩ | ⟨rfl, a, c⟩ | ⟨rfl, a, c, c2⟩
      · exact Or.inl ⟨rfl, by rw [← e16]; exact a⟩
      · exact Or.inr ⟨rfl, by rw [← e16]; exact a, fun z => c z.1⟩
      · obtain ⟨s1, s2, s3⟩ := sz_eq h c
        rw [s2] at c2
        exact Or.inr ⟨rfl, by rw [← e16]; exact a, fun z => c2 z.2⟩
    · rcases hm with ⟨a, c, c2, -⟩ | ⟨a, hv, -⟩ | ⟨a, c, hv, -⟩
      · exact Or.inl ⟨a, c, c2⟩
      · have e2 : N' = _ := (Prod.mk.inj hv).1
        subst e2
        exact Or.inr (Or.inl ⟨a, tQ_U⟩)
      · have e2 : N' = _ := (Prod.mk.inj hv).1
        subst e2
        exact Or.inr (Or.inr ⟨a, c, tQ_U⟩)
theorem St_deadEdges (h : SimA M N cnt t d n sc) (hw : wX_deadEdges M J cnt k (M', J', f')) (hm : qM_deadEdges N K cnt t b9 (N', K')) : okS k M' N' (f' 0) b9.toInt64 := by
  have e16 := h.2.2.2.1
  rcases hw with ⟨rfl, r, ⟨h1, hu, hr⟩, hf⟩ | ⟨hM, hJ, E, ⟨rfl, hno⟩, hk⟩
  · have e1 : M' = M := (Prod.mk.inj hu).1
    subst e1
    rw [e16] at h1
    rcases hm with ⟨-, -, hv, hb⟩ | ⟨z, -⟩
    · refine ok_yes h.sim hv ?_
      rw [show f' 0 = _ from hf, hr, hb, ded_A h h1 cnt h.1.c16]
    · exact absurd z h1
  · have hM : M' = M := hM
    subst hM
    rw [e16] at hno
    rcases hm with ⟨z, -⟩ | ⟨-, hv, -⟩
    · exact absurd hno z
    · have e2 : N' = _ := (Prod.mk.inj hv).1
      obtain ⟨-, rfl⟩ := hk
      subst e2
      exact ok_no h.sim (by decide) (by decide) tQ_U
theorem St_constants {b : Int32} (h : SimA M N cnt t d n sc) (hw : wX_constants M J b cnt k (M', J', f')) (hm : qM_constants N K b cnt t b9 (N', K')) : okS k M' N' (f' 0) b9.toInt64 := by
  have e16 := h.2.2.2.1
  have c16 := h.1.c16
  rcases hw with ⟨rfl, r, ⟨h1, h2, hu, hr⟩, hf⟩ | ⟨hM, hJ, E, hE, hk⟩
  · have e1 : M' = M := (Prod.mk.inj hu).1
    subst e1
    rw [e16] at h1
    obtain ⟨t1, -⟩ := inB_16 h2 c16
    have q := (An_at h h1 (b := tn b) (by omega)).2.2.1
    rcases hm with ⟨-, -, -, hv, hb⟩ | ⟨hno, -⟩ | ⟨-, hno, -⟩
    · refine ok_yes h.sim hv ?_
      rw [show f' 0 = _ from hf, hr, q]
      rcases hb with ⟨z, hb⟩ | ⟨z, hb⟩
      · rw [if_pos z, hb]; rfl
      · rw [if_neg z, hb]
    · exact absurd hno h1
    · exact absurd h2 hno
  · have hM : M' = M := hM
    subst hM
    refine ok_r2 (P := inB b cnt) h.sim ?_ hk ?_
    · rw [← e16]; exact hE
    · rcases hm with ⟨a, c, -⟩ | ⟨a, hv, -⟩ | ⟨a, c, hv, -⟩
      · exact Or.inl ⟨a, c⟩
      · have e2 : N' = _ := (Prod.mk.inj hv).1
        subst e2
        exact Or.inr (Or.inl ⟨a, tQ_U⟩)
      · have e2 : N' = _ := (Prod.mk.inj hv).1
        subst e2
        exact Or.inr (Or.inr ⟨a, c, tQ_U⟩)
theorem St_visits {b : Int32} (h : SimA M N cnt t d n sc) (hw : wX_visits M J b cnt k (M', J', f')) (hm : qM_visits N K b cnt b9 (N', K')) : okS k M' N' (f' 0) b9.toInt64 := by
  have e16 := h.2.2.2.1
  have c16 := h.1.c16
  rcases hw with ⟨rfl, r, ⟨h1, h2, hu, hr⟩, hf⟩ | ⟨hM, hJ, E, hE, hk⟩
  · have e1 : M' = M := (Prod.mk.inj hu).1
    subst e1
    rw [e16] at h1
    obtain ⟨t1, -⟩ := inB_16 h2 c16
    have q := (An_at h h1 (b := tn b) (by omega)).2.1
    rcases hm with ⟨-, -, hv, hb⟩ | ⟨hno, -⟩ | ⟨-, hno, -⟩
    · have e2 : N' = _ := (Prod.mk.inj hv).1
      subst e2
      refine ok_yes h.sim tQ_U ?_
      rw [show f' 0 = _ from hf, hr, hb, q]
    · exact absurd hno h1
    · exact absurd h2 hno
  · have hM : M' = M := hM
    subst hM
    refine ok_r2 (P := inB b cnt) h.sim ?_ hk ?_
    · rw [← e16]; exact hE
    · rcases hm with ⟨a, c, -⟩ | ⟨a, hv, -⟩ | ⟨a, c, hv, -⟩
      · exact Or.inl ⟨a, c⟩
      · have e2 : N' = _ := (Prod.mk.inj hv).1
        subst e2
        exact Or.inr (Or.inl ⟨a, tQ_U⟩)
      · have e2 : N' = _ := (Prod.mk.inj hv).1
        subst e2
        exact Or.inr (Or.inr ⟨a, c, tQ_U⟩)
theorem St_enteredBlock {st : Int32} (h : SimA M N cnt t d n sc) (hw : wX_enteredBlock M J st sc k (M', J', f')) (hm : qM_enteredBlock N K st sc b9 (N', K')) : okS k M' N' (f' 0) b9.toInt64 := by
  have hx := h.2.2.2.2.2.2
  rcases hw with ⟨rfl, r, ⟨h1, hu, hr⟩, hf⟩ | ⟨hM, hJ, E, ⟨rfl, hno⟩, hk⟩
  · have e1 : M' = M := (Prod.mk.inj hu).1
    subst e1
    obtain ⟨t1, -⟩ := inB_tn h1 (by have := hx.2.2.1; omega)
    rcases hm with ⟨-, hv, hb⟩ | ⟨hno, -⟩
    · have e2 : N' = _ := (Prod.mk.inj hv).1
      subst e2
      refine ok_yes h.sim tQ_U ?_
      rw [show f' 0 = _ from hf, hr, hb, (hx.2.2.2.1 (tn st) t1).1]
    · exact absurd h1 hno
  · have hM : M' = M := hM
    subst hM
    rcases hm with ⟨h1, -⟩ | ⟨-, hv, -⟩
    · exact absurd h1 hno
    · have e2 : N' = _ := (Prod.mk.inj hv).1
      obtain ⟨-, rfl⟩ := hk
      subst e2
      exact ok_no h.sim (by decide) (by decide) tQ_FA
theorem St_enteredWith {st v : Int32} (h : SimA M N cnt t d n sc) (hw : wX_enteredWith M J st v sc k (M', J', f')) (hm : qM_enteredWith N K st v sc b9 (N', K')) : okS k M' N' (f' 0) b9.toInt64 := by
  have hx := h.2.2.2.2.2.2
  rcases hw with ⟨rfl, r, ⟨h1, h2, hu, hr⟩, hf⟩ | ⟨hM, hJ, E, ⟨rfl, hno⟩, hk⟩
  · have e1 : M' = M := (Prod.mk.inj hu).1
    subst e1
    obtain ⟨t1, -⟩ := inB_tn h1 (by have := hx.2.2.1; omega)
    obtain ⟨t2, -⟩ := inB_tn h2 (by decide)
    rcases hm with ⟨-, -, hv, hb⟩ | ⟨hno, -⟩
    · have e2 : N' = _ := (Prod.mk.inj hv).1
      subst e2
      refine ok_yes h.sim tQ_U ?_
      rw [show f' 0 = _ from hf, hr, hb, (hx.2.2.2.1 (tn st) t1).2 (tn v) t2]
    · exact absurd ⟨h1, h2⟩ hno
  · have hM : M' = M := hM
    subst hM
    rcases hm with ⟨h1, h2, -⟩ | ⟨-, hv, -⟩
    · exact absurd ⟨h1, h2⟩ hno
    · have e2 : N' = _ := (Prod.mk.inj hv).1
      obtain ⟨-, rfl⟩ := hk
      subst e2
      exact ok_no h.sim (by decide) (by decide) tQ_FA
theorem St_result {v : Int32} (h : SimA M N cnt t d n sc) (hw : wX_result M J v k (M', J', f')) (hm : qM_result N K v b9 (N', K')) : okS k M' N' (f' 0) b9.toInt64 := by
  have hx := h.2.2.2.2.2.2
  rcases hw with ⟨rfl, r, ⟨h1, hu, hr⟩, hf⟩ | ⟨hM, hJ, E, ⟨rfl, hno⟩, hk⟩
  · have e1 : M' = M := (Prod.mk.inj hu).1
    subst e1
    obtain ⟨t1, -⟩ := inB_tn h1 (by decide)
    rcases hm with ⟨-, hv, hb⟩ | ⟨hno, -⟩
    · have e2 : N' = _ := (Prod.mk.inj hv).1
      subst e2
      refine ok_yes h.sim tQ_U ?_
      rw [show f' 0 = _ from hf, hr, hb, hx.2.2.2.2 (tn v) t1]
    · exact absurd h1 hno
  · have hM : M' = M := hM
    subst hM
    rcases hm with ⟨h1, -⟩ | ⟨-, hv, -⟩
    · exact absurd h1 hno
    · have e2 : N' = _ := (Prod.mk.inj hv).1
      obtain ⟨-, rfl⟩ := hk
      subst e2
      exact ok_no h.sim (by decide) (by decide) tQ_FA
end ST2
