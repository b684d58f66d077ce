/-! ===== a call on both sides: pure ===== -/
/-- behind a call: the same refusal, the memories belong together, the same answer -/
def okS (k : Int32) (M' N' : wM) (x y : Int64) : Prop := N' 0 0 = k ∧ Sim M' N' ∧ (k = nI 0 → x = y)
theorem tQ_U {k : Nat} {N : wM} : tQ k N (wU N 0 0 (nI k)) := by
  refine ⟨kp_U (Or.inl rfl), fun j => ?_⟩
  rw [wU_at]
  by_cases h : j = 0
  · rw [if_pos ⟨rfl, h⟩, if_pos h]
  · rw [if_neg (fun z => h z.2), if_neg h]
theorem ok_no {M N N' : wM} {x y : Int64} {k : Nat} (h : Sim M N) (h0 : k ≠ 0) (h9 : k < 100) (g : tQ k N N') : okS (nI k) M N' x y :=
  ⟨by rw [g.2 0, if_pos rfl], Sim_tQ h g, fun z => absurd z (nI_ne h0 (by omega) (by omega))⟩
theorem ok_yes {M N N' : wM} {x y : Int64} (h : Sim M N) (g : tQ 0 N N') (e : x = y) : okS (nI 0) M N' x y :=
  ⟨by rw [g.2 0, if_pos rfl], Sim_tQ h g, fun _ => e⟩
theorem SimA.sim {M N : wM} {cnt t d n sc : Nat} (h : SimA M N cnt t d n sc) : Sim M N := ⟨cnt, t, d, n, sc, h⟩
theorem bz_01 {x : Int32} (h : bz x) : (if x = 0 then (0 : Int64) else 1) = (if x = 0 then 0 else 1) := rfl
theorem inB_16 {x : Int32} {n : Nat} (h : inB x n) (hn : n ≤ 16) : tn x < n ∧ x = nI (tn x) := inB_tn h (by omega)
section ST
variable {M N M' N' : wM} {J K J' K' : wJ} {f' : Nat → Int64} {k b9 : Int32} {cnt t d n sc : Nat}
theorem St_addBlock (h : SimA M N cnt t d n sc) (hw : wX_addBlock M J cnt k (M', J', f')) (hm : qM_addBlock N K cnt b9 (N', K')) : okS k M' N' (f' 0) b9.toInt64 := by
  rcases hw with ⟨rfl, r, ⟨h16, hu, hr⟩, hf⟩ | ⟨hM, hJ, E, ⟨rfl, hno⟩, hk⟩
  · rcases hm with ⟨-, hv, hb⟩ | ⟨hno, -⟩
    · have e1 : M' = _ := (Prod.mk.inj hu).1
      have e2 : N' = _ := (Prod.mk.inj hv).1
      subst e1; subst e2
      refine ⟨?_, Sim_addBlock h h16, fun _ => ?_⟩
      · simp [wU_at]
      · show f' 0 = _
        rw [show f' 0 = r.toInt64 from hf, hr, hb]
    · exact absurd h16 hno
  · have hM : M' = M := hM
    subst hM
    rcases hm with ⟨h16, -⟩ | ⟨-, hv, hb⟩
    · exact absurd h16 hno
    · have e2 : N' = _ := (Prod.mk.inj hv).1
      obtain ⟨-, rfl⟩ := hk
      subst e2
      exact ok_no h.sim (by decide) (by decide) tQ_FA
theorem St_setInitial {v lo up : Int32} (h : SimA M N cnt t d n sc) (hw : wX_setInitial M J v lo up k (M', J', f')) (hm : qM_setInitial N K v lo up b9 (N', K')) : okS k M' N' (f' 0) (if b9 = 0 then 0 else 1) := by
  rcases hw with ⟨rfl, r, ⟨h1, h2, hu, hr⟩, hf⟩ | ⟨hM, hJ, E, hE, hk⟩
  · rcases hm with ⟨-, -, hv, hb⟩ | ⟨hno, -⟩ | ⟨-, hno, -⟩
    · have e1 : M' = _ := (Prod.mk.inj hu).1
      have e2 : N' = _ := (Prod.mk.inj hv).1
      subst e1; subst e2
      obtain ⟨t1, t2⟩ := inB_tn h1 (by decide)
      refine ⟨?_, Sim_setInitial h t1 h2, fun _ => ?_⟩
      · simp [wU_at]
      · obtain ⟨i1, i2⟩ := h.1.iv (tn v) t1
        rw [show f' 0 = _ from hf, hr, hb, i1, i2]
    · exact absurd h1 hno
    · exact absurd h2 hno
  · have hM : M' = M := hM
    subst hM
    rcases hE with ⟨rfl, hno⟩ | ⟨rfl, h1, hno⟩
    · rcases hm with ⟨h1, -⟩ | ⟨-, hv, -⟩ | ⟨h1, -⟩
      · exact absurd h1 hno
      · have e2 : N' = _ := (Prod.mk.inj hv).1
        rcases hk with ⟨-, rfl⟩ | ⟨z, -⟩
        · subst e2
          exact ok_no h.sim (by decide) (by decide) tQ_FA
        · exact absurd z (by decide)
      · exact absurd h1 hno
    · rcases hm with ⟨-, h2, -⟩ | ⟨z, -⟩ | ⟨-, -, hv, -⟩
      · exact absurd h2 hno
      · exact absurd h1 z
      · have e2 : N' = _ := (Prod.mk.inj hv).1
        rcases hk with ⟨z, -⟩ | ⟨-, rfl⟩
        · exact absurd z (by decide)
        · subst e2
          exact ok_no h.sim (by decide) (by decide) tQ_FA
theorem sz_eq {b : Int32} (h : SimA M N cnt t d n sc) (hb : inB b cnt) : M (201 + 6 * tn b) 0 = N 1 (tn b) ∧ M (201 + 6 * tn b) 5 = N 3 (tn b) ∧ tn b < cnt := by
  obtain ⟨t1, -⟩ := inB_tn hb (by have := h.1.c16; omega)
  have k := h.1.bk (tn b) (by have := h.1.c16; omega)
  exact ⟨k.sz, k.ed, t1⟩
theorem app_0 {N : wM} {b n : Nat} {k x y z : Int32} : F_X9_append (wU N 0 0 (nI 0)) b n k x y z 0 0 = nI 0 := by
  unfold F_X9_append
  simp [wU_at]
theorem end_0 {N : wM} {b : Nat} {k x y : Int32} (h : N 0 0 = nI 0) : F_X9_end N b k x y 0 0 = nI 0 := by
  unfold F_X9_end
  simp [wU_at, h]
theorem St_input {b x lo up : Int32} (h : SimA M N cnt t d n sc) (hw : wX_input M J b x lo up cnt k (M', J', f')) (hm : qM_input N K b x lo up cnt b9 (N', K')) : okS k M' N' (f' 0) b9.toInt64 := by
  rcases hw with ⟨rfl, r, ⟨h1, h2, h3, h4, hu, hr⟩, hf⟩ | ⟨hM, hJ, E, hE, hk⟩
  · obtain ⟨s1, s2, s3⟩ := sz_eq h h1
    rcases hm with ⟨-, -, -, h4', hv, hb⟩ | ⟨hno, -⟩ | ⟨-, -, hno, -⟩ | ⟨-, -, -, hno, -⟩
    · have e1 : M' = _ := (Prod.mk.inj hu).1
      have e2 : N' = _ := (Prod.mk.inj hv).1
      rw [s1] at e1 hr
      subst e1; subst e2
      refine ⟨app_0, ?_, fun _ => ?_⟩
      · refine Sim_append h s3 h4' ?_ ?_ ?_
        · by_cases z : lo = up
          · rw [if_pos z, if_pos z]; exact Or.inr (Or.inr ⟨rfl, rfl⟩)
          · rw [if_neg z, if_neg z]; exact Or.inr (Or.inl ⟨rfl, rfl⟩)
        · obtain ⟨a1, a2⟩ := inB_tn h2 (by decide)
          exact ⟨a2, a1⟩
        · refine ⟨fun j hj e => ?_, fun _ => isRg_v h3⟩
          exfalso
          by_cases z : lo = up
          · rw [if_pos z] at e; exact nI_ne (by omega) (by omega) (by omega) e
          · rw [if_neg z] at e; exact nI_ne (by omega) (by omega) (by omega) e
      · rw [show f' 0 = _ from hf, hr, hb]
    · exact absurd ⟨h1, h2⟩ hno
    · exact absurd h3 hno
    · rw [s1] at h4; exact absurd h4 hno
  · have hM : M' = M := hM
    subst hM
    rcases hE with ⟨rfl, hno⟩ | ⟨rfl, h1, h2, hno⟩ | ⟨rfl, h1, h2, h3, hno⟩
    · rcases hm with ⟨h1, h2, -⟩ | ⟨-, hv, -⟩ | ⟨h1, h2, -⟩ | ⟨h1, h2, -⟩
      · exact absurd ⟨h1, h2⟩ hno
      · have e2 : N' = _ := (Prod.mk.inj hv).1
        rcases hk with ⟨-, rfl⟩ | ⟨z, -⟩ | ⟨z, -⟩
        · subst e2
          exact ok_no h.sim (by decide) (by decide) tQ_FA
        · exact absurd z (by decide)
        · exact absurd z (by decide)
      · exact absurd ⟨h1, h2⟩ hno
      · exact absurd ⟨h1, h2⟩ hno
    · rcases hm with ⟨-, -, h3, -⟩ | ⟨z, -⟩ | ⟨-, -, -, hv, -⟩ | ⟨-, -, h3, -⟩
      · exact absurd h3 hno
      · exact absurd ⟨h1, h2⟩ z
      · have e2 : N' = _ := (Prod.mk.inj hv).1
        rcases hk with ⟨z, -⟩ | ⟨-, rfl⟩ | ⟨z, -⟩
        · exact absurd z (by decide)
        · subst e2
          exact ok_no h.sim (by decide) (by decide) tQ_FA
        · exact absurd z (by decide)
      · exact absurd h3 hno
    · obtain ⟨s1, s2, s3⟩ := sz_eq h h1
      rw [s1] at hno
      rcases hm with ⟨-, -, -, h4, -⟩ | ⟨z, -⟩ | ⟨-, -, z, -⟩ | ⟨-, -, -, -, hv, -⟩
      · exact absurd h4 hno
      · exact absurd ⟨h1, h2⟩ z
      · exact absurd h3 z
      · have e2 : N' = _ := (Prod.mk.inj hv).1
        rcases hk with ⟨z, -⟩ | ⟨z, -⟩ | ⟨-, rfl⟩
        · exact absurd z (by decide)
        · exact absurd z (by decide)
        · subst e2
          exact ok_no h.sim (by decide) (by decide) tQ_FA
theorem isV_in {x : Int32} (h : inB x 6) : isV x := by
  obtain ⟨a1, a2⟩ := inB_tn h (by decide)
  exact ⟨a2, a1⟩
theorem St_compute {b k1 x y z : Int32} (h : SimA M N cnt t d n sc) (hw : wX_compute M J b k1 x y z cnt k (M', J', f')) (hm : qM_compute N K b k1 x y z cnt b9 (N', K')) : okS k M' N' (f' 0) b9.toInt64 := by
  rcases hw with ⟨rfl, r, ⟨h1, h2, h4, hu, hr⟩, hf⟩ | ⟨hM, hJ, E, hE, hk⟩
  · obtain ⟨s1, s2, s3⟩ := sz_eq h h1.1
    rcases hm with ⟨-, -, h4', hv, hb⟩ | ⟨hno, -⟩ | ⟨-, hno, -⟩ | ⟨-, -, hno, -⟩
    · have e1 : M' = _ := (Prod.mk.inj hu).1
      have e2 : N' = _ := (Prod.mk.inj hv).1
      rw [s1] at e1 hr
      subst e1; subst e2
      refine ⟨app_0, ?_, fun _ => ?_⟩
      · refine Sim_append h s3 h4' (Or.inl ⟨rfl, h2⟩) (isV_in h1.2.1) ⟨fun j hj e => ⟨isV_in h1.2.2.1, isV_in h1.2.2.2⟩, fun q => ?_⟩
        obtain ⟨j, hj, e⟩ := h2
        exact absurd e (q j (by omega))
      · rw [show f' 0 = _ from hf, hr, hb]
    · exact absurd h1 hno
    · exact absurd h2 hno
    · rw [s1] at h4; exact absurd h4 hno
  · have hM : M' = M := hM
    subst hM
    rcases hE with ⟨rfl, hno⟩ | ⟨rfl, h1, hno⟩ | ⟨rfl, h1, h2, hno⟩
    · rcases hm with ⟨h1, -⟩ | ⟨-, hv, -⟩ | ⟨h1, -⟩ | ⟨h1, -⟩
      · exact absurd h1 hno
      · have e2 : N' = _ := (Prod.mk.inj hv).1
        rcases hk with ⟨-, rfl⟩ | ⟨z, -⟩ | ⟨z, -⟩
        · subst e2
          exact ok_no h.sim (by decide) (by decide) tQ_FA
        · exact absurd z (by decide)
        · exact absurd z (by decide)
      · exact absurd h1 hno
      · exact absurd h1 hno
    · rcases hm with ⟨-, h3, -⟩ | ⟨z, -⟩ | ⟨-, -, hv, -⟩ | ⟨-, h3, -⟩
      · exact absurd h3 hno
      · exact absurd h1 z
      · have e2 : N' = _ := (Prod.mk.inj hv).1
        rcases hk with ⟨z, -⟩ | ⟨-, rfl⟩ | ⟨z, -⟩
        · exact absurd z (by decide)
        · subst e2
          exact ok_no h.sim (by decide) (by decide) tQ_FA
        · exact absurd z (by decide)
      · exact absurd h3 hno
    · obtain ⟨s1, s2, s3⟩ := sz_eq h h1.1
      rw [s1] at hno
      rcases hm with ⟨-, -, h4, -⟩ | ⟨z, -⟩ | ⟨-, z, -⟩ | ⟨-, -, -, hv, -⟩
      · exact absurd h4 hno
      · exact absurd h1 z
      · exact absurd h2 z
      · have e2 : N' = _ := (Prod.mk.inj hv).1
        rcases hk with ⟨z, -⟩ | ⟨z, -⟩ | ⟨-, rfl⟩
        · exact absurd z (by decide)
        · exact absurd z (by decide)
        · subst e2
          exact ok_no h.sim (by decide) (by decide) tQ_FA
theorem St_jump {b a : Int32} (h : SimA M N cnt t d n sc) (hw : wX_jump M J b a cnt k (M', J', f')) (hm : qM_jump N K b a cnt b9 (N', K')) : okS k M' N' (f' 0) b9.toInt64 := by
  rcases hw with ⟨rfl, r, ⟨h1, h2, hu, hr⟩, hf⟩ | ⟨hM, hJ, E, ⟨rfl, hno⟩, hk⟩
  · obtain ⟨s1, s2, s3⟩ := sz_eq h h1
    rcases hm with ⟨-, -, hv, hb⟩ | ⟨hno, -⟩
    · have e1 : M' = _ := (Prod.mk.inj hu).1
      have e2 : N' = _ := (Prod.mk.inj hv).1
      subst e1; subst e2
      refine ⟨end_0 (by simp [wU_at]), Sim_jump h s3 h2, fun _ => ?_⟩
      rw [show f' 0 = _ from hf, hr, hb, s2]
    · exact absurd ⟨h1, h2⟩ hno
  · have hM : M' = M := hM
    subst hM
    rcases hm with ⟨h1, h2, -⟩ | ⟨-, hv, -⟩
    · exact absurd ⟨h1, h2⟩ hno
    · have e2 : N' = _ := (Prod.mk.inj hv).1
      obtain ⟨-, rfl⟩ := hk
      subst e2
      exact ok_no h.sim (by decide) (by decide) tQ_FA
theorem St_branch {b x r1 y a e1 : Int32} (h : SimA M N cnt t d n sc) (hw : wX_branch M J b x r1 y a e1 cnt k (M', J', f')) (hm : qM_branch N K b x r1 y a e1 cnt b9 (N', K')) : okS k M' N' (f' 0) b9.toInt64 := by
  rcases hw with ⟨rfl, r, ⟨h1, h2, hu, hr⟩, hf⟩ | ⟨hM, hJ, E, hE, hk⟩
  · obtain ⟨s1, s2, s3⟩ := sz_eq h h1.1
    rcases hm with ⟨-, -, hv, hb⟩ | ⟨hno, -⟩ | ⟨-, hno, -⟩
    · have e1' : M' = _ := (Prod.mk.inj hu).1
      have e2 : N' = _ := (Prod.mk.inj hv).1
      subst e1'; subst e2
      refine ⟨end_0 (by simp [wU_at]), Sim_branch h s3 (isV_in h1.2.1) (isV_in h1.2.2.1) h2 h1.2.2.2.1 h1.2.2.2.2, fun _ => ?_⟩
      rw [show f' 0 = _ from hf, hr, hb, s2]
    · exact absurd h1 hno
    · exact absurd h2 hno
  · have hM : M' = M := hM
    subst hM
    rcases hE with ⟨rfl, hno⟩ | ⟨rfl, h1, hno⟩
    · rcases hm with ⟨h1, -⟩ | ⟨-, hv, -⟩ | ⟨h1, -⟩
      · exact absurd h1 hno
      · have e2 : N' = _ := (Prod.mk.inj hv).1
        rcases hk with ⟨-, rfl⟩ | ⟨z, -⟩
        · subst e2
          exact ok_no h.sim (by decide) (by decide) tQ_FA
        · exact absurd z (by decide)
      · exact absurd h1 hno
    · rcases hm with ⟨-, h2, -⟩ | ⟨z, -⟩ | ⟨-, -, hv, -⟩
      · exact absurd h2 hno
      · exact absurd h1 z
      · have e2 : N' = _ := (Prod.mk.inj hv).1
        rcases hk with ⟨z, -⟩ | ⟨-, rfl⟩
        · exact absurd z (by decide)
        · subst e2
          exact ok_no h.sim (by decide) (by decide) tQ_FA
theorem St_clear {b : Int32} (h : SimA M N cnt t d n sc) (hw : wX_clear M J b cnt k (M', J', f')) (hm : qM_clear N K b cnt b9 (N', K')) : okS k M' N' (f' 0) b9.toInt64 := by
  rcases hw with ⟨rfl, r, ⟨h1, hu, hr⟩, hf⟩ | ⟨hM, hJ, E, ⟨rfl, hno⟩, hk⟩
  · obtain ⟨s1, s2, s3⟩ := sz_eq h h1
    rcases hm with ⟨-, hv, hb⟩ | ⟨hno, -⟩
    · have e1 : M' = _ := (Prod.mk.inj hu).1
      have e2 : N' = _ := (Prod.mk.inj hv).1
      subst e1; subst e2
      refine ⟨end_0 (by simp [wU_at]), Sim_clear h s3, fun _ => ?_⟩
      rw [show f' 0 = _ from hf, hr, hb, s1]
    · exact absurd h1 hno
  · have hM : M' = M := hM
    subst hM
    rcases hm with ⟨h1, -⟩ | ⟨-, hv, -⟩
    · exact absurd h1 hno
    · have e2 : N' = _ := (Prod.mk.inj hv).1
      obtain ⟨-, rfl⟩ := hk
      subst e2
      exact ok_no h.sim (by decide) (by decide) tQ_FA
theorem St_setEffort {e1 n1 : Int32} (h : SimA M N cnt t d n sc) (hw : wX_setEffort M J e1 n1 k (M', J', f')) (hm : qM_setEffort N K e1 n1 b9 (N', K')) : okS k M' N' (f' 0) (if b9 = 0 then 0 else 1) := by
  rcases hw with ⟨rfl, r, ⟨h1, h2, hu, hr⟩, hf⟩ | ⟨hM, hJ, E, ⟨rfl, hno⟩, hk⟩
  · rcases hm with ⟨-, -, hv, hb⟩ | ⟨hno, -⟩
    · have e1' : M' = _ := (Prod.mk.inj hu).1
      have e2 : N' = _ := (Prod.mk.inj hv).1
      subst e1'; subst e2
      refine ⟨?_, Sim_setEffort h h1 h2, fun _ => ?_⟩
      · simp [wU_at]
      · rw [show f' 0 = _ from hf, hr, hb, h.1.dM, h.1.nM, h.1.dN, h.1.nN]
    · exact absurd ⟨h1, h2⟩ hno
  · have hM : M' = M := hM
    subst hM
    rcases hm with ⟨h1, h2, -⟩ | ⟨-, hv, -⟩
    · exact absurd ⟨h1, h2⟩ hno
    · have e2 : N' = _ := (Prod.mk.inj hv).1
      obtain ⟨-, rfl⟩ := hk
      subst e2
      exact ok_no h.sim (by decide) (by decide) tQ_FA
theorem St_addThreshold {v : Int32} (h : SimA M N cnt t d n sc) (hw : wX_addThreshold M J v t k (M', J', f')) (hm : qM_addThreshold N K v t b9 (N', K')) : okS k M' N' (f' 0) b9.toInt64 := by
  rcases hw with ⟨rfl, r, ⟨h1, h2, hw⟩, hf⟩ | ⟨hM, hJ, E, hE, hk⟩
  · rcases hm with ⟨-, -, hm⟩ | ⟨hno, -⟩ | ⟨-, hno, -⟩
    · rcases hw with ⟨hi, hu, hr⟩ | ⟨hi, hu, hr⟩
      · rcases hm with ⟨-, hv, hb⟩ | ⟨hno, -⟩
        · have e1 : M' = _ := (Prod.mk.inj hu).1
          have e2 : N' = _ := (Prod.mk.inj hv).1
          subst e1; subst e2
          refine ⟨?_, Sim_addT1 h, fun _ => ?_⟩
          · simp [wU_at]
          · rw [show f' 0 = _ from hf, hr, hb]; rfl
        · exact absurd ((thI_eq h).mp hi) hno
      · rcases hm with ⟨hno, -⟩ | ⟨-, hv, hb⟩
        · exact absurd ((thI_eq h).mpr hno) hi
        · have e1 : M' = _ := (Prod.mk.inj hu).1
          have e2 : N' = _ := (Prod.mk.inj hv).1
          subst e1; subst e2
          refine ⟨?_, Sim_addT2 h h2, fun _ => ?_⟩
          · simp [wU_at]
          · rw [show f' 0 = _ from hf, hr, hb]
    · exact absurd h1 hno
    · exact absurd h2 hno
  · have hM : M' = M := hM
    subst hM
    rcases hE with ⟨rfl, hno⟩ | ⟨rfl, h1, hno⟩
    · rcases hm with ⟨h1, -⟩ | ⟨-, hv, -⟩ | ⟨h1, -⟩
      · exact absurd h1 hno
      · have e2 : N' = _ := (Prod.mk.inj hv).1
        rcases hk with ⟨-, rfl⟩ | ⟨z, -⟩
        · subst e2
          exact ok_no h.sim (by decide) (by decide) tQ_FA
        · exact absurd z (by decide)
      · exact absurd h1 hno
    · rcases hm with ⟨-, h2, -⟩ | ⟨z, -⟩ | ⟨-, -, hv, -⟩
      · exact absurd h2 hno
      · exact absurd h1 z
      · have e2 : N' = _ := (Prod.mk.inj hv).1
        rcases hk with ⟨z, -⟩ | ⟨-, rfl⟩
        · exact absurd z (by decide)
        · subst e2
          exact ok_no h.sim (by decide) (by decide) tQ_FA
theorem St_run {seed : Int64} {steps : Int32} (h : SimA M N cnt t d n sc) (hw : wX_run M J seed steps k (M', J', f')) (hm : qM_run N K seed steps cnt t b9 (N', K')) : okS k M' N' (f' 0) b9.toInt64 := by
  rcases hw with ⟨rfl, r, ⟨h1, hu, hr⟩, hf⟩ | ⟨hM, hJ, E, ⟨rfl, hno⟩, hk⟩
  · rcases hm with ⟨-, hv⟩ | ⟨hno, -⟩
    · have hs : tn steps ≤ 300 := by
        obtain ⟨q, q1, q2, e⟩ := h1
        rw [e, tn_nI (by omega)]; exact q2
      obtain ⟨e, h2, h3⟩ := Sim_run (u := (M', J')) (v := (N', K')) h hs hu hr hv
      refine ⟨h3, h2, fun _ => ?_⟩
      rw [show f' 0 = _ from hf, e]
    · exact absurd h1 hno
  · have hM : M' = M := hM
    subst hM
    rcases hm with ⟨h1, -⟩ | ⟨-, hv, -⟩
    · exact absurd h1 hno
    · have e2 : N' = _ := (Prod.mk.inj hv).1
      obtain ⟨-, rfl⟩ := hk
      subst e2
      exact ok_no h.sim (by decide) (by decide) tQ_FA
end ST
