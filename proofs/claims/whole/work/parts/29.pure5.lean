/-! ===== a look at a block, a narrowing of a block: pure ===== -/
def XM (M : wM) : Nat → Nat → aS := fun b e => sv M (5 + 4 * b + e)
def lkc (b c : Nat) : Prop := stc 1 c ∨ stc 2 c ∨ stc (3 + 4 * b) c ∨ c = 297 + 2 * b
theorem AN_keep {M0 M M' : wM} {E : Nat → aS} {V : Nat → Int32} (h : AN M0 M E V) (hk : kp M M' (fun c => stc 1 c ∨ stc 2 c)) (hz : cZ M') : AN M0 M' E V := by
  obtain ⟨h1, h2, h3⟩ := h
  have hs : ∀ i, 2 < i → i < 67 → sv M' i = sv M i := fun i a b => sv_kp hk (by unfold stc; omega) (by unfold stc; omega) (by unfold stc; omega)
  refine ⟨kp_trans h1 (kp_mono hk (fun c hc => by unfold anC; unfold stc at hc; omega)), hz, fun b hb => ?_⟩
  obtain ⟨a1, a2, a3, a4⟩ := h3 b hb
  refine ⟨by rw [hs _ (by omega) (by omega)]; exact a1, by rw [hk (297 + 2 * b) (by unfold stc; omega)]; exact a2, by rw [hs _ (by omega) (by omega)]; exact a3, fun e he => ?_⟩
  by_cases q : e < 2
  · rw [hs _ (by omega) (by omega)]; exact a4 e he
  · rw [sv_kp hk (by unfold stc; omega) (by unfold stc; omega) (by unfold stc; omega)]; exact a4 e he
theorem AN_mk {M0 M M2 : wM} {J : wJ} {E : Nat → aS} {V : Nat → Int32} {b : Nat} {v : Int32} {u : wM × wJ} (hb : b < 16) (hp : ∀ q, q < 16 → edOK M0 q) (h : AN M0 M E V) (hk : kp M M2 (lkc b)) (hz : cZ M2) (hv : M2 (297 + 2 * b) 3 = v) (g : pMk M2 J b u) : AN M0 u.1 (va_up E b (sv M2 (3 + 4 * b))) (va_up V b v) := by
  have hB0 := AN_bkE h
  obtain ⟨h1, h2, h3⟩ := h
  obtain ⟨-, g1⟩ := g
  have hB2 : bkE M0 M2 := bkE_trans hB0 (bkE_kp hk (fun c a d => by unfold lkc stc; omega))
  obtain ⟨g1, g2, g3, g4, g5⟩ := g1
  have ka : kp M u.1 (fun c => lkc b c ∨ mac b c) := kp_trans (kp_mono hk (fun c hc => Or.inl hc)) (kp_mono g1 (fun c hc => Or.inr hc))
  refine ⟨kp_trans h1 (kp_mono ka (fun c hc => ?_)), fun i hi => ?_, fun q hq => ?_⟩
  · unfold anC; unfold lkc mac at hc; unfold stc at hc; omega
  · by_cases q1 : i = 4 + 4 * b
    · subst q1; exact g2
    · by_cases q2 : i = 5 + 4 * b
      · subst q2; exact g3 0 (by omega)
      · by_cases q3 : i = 6 + 4 * b
        · subst q3; rw [show 6 + 4 * b = 5 + 4 * b + 1 by omega]; exact g3 1 (by omega)
        · rw [g1 (3 * i) (by unfold mac stc; omega)]; exact hz i hi
  · by_cases qb : q = b
    · subst qb
      rw [va_up_self, va_up_self]
      refine ⟨sv_kp g1 (by unfold mac stc; omega) (by unfold mac stc; omega) (by unfold mac stc; omega), by rw [g1 (297 + 2 * q) (by unfold mac stc; omega)]; exact hv, by rw [g4, bkE_apB hB2 hb], fun e he => ?_⟩
      rw [g5 e (by rw [hB2 (201 + 6 * q) (by omega) (by omega)]; exact he), bkE_edB hB2 hb, bkE_apB hB2 hb]
    · rw [va_up_ne _ _ qb, va_up_ne _ _ qb]
      obtain ⟨a1, a2, a3, a4⟩ := h3 q hq
      have e2 := (hp q hq).2.1
      refine ⟨?_, ?_, ?_, fun e he => ?_⟩
      · rw [sv_kp ka (by unfold lkc mac stc; omega) (by unfold lkc mac stc; omega) (by unfold lkc mac stc; omega)]; exact a1
      · rw [ka (297 + 2 * q) (by unfold lkc mac stc; omega)]; exact a2
      · rw [sv_kp ka (by unfold lkc mac stc; omega) (by unfold lkc mac stc; omega) (by unfold lkc mac stc; omega)]; exact a3
      · rw [sv_kp ka (by unfold lkc mac stc; omega) (by unfold lkc mac stc; omega) (by unfold lkc mac stc; omega)]; exact a4 e he
/-- behind the gathering and the join: the two states of the analysis' own, the join in the second -/
def LJ (M M' : wM) (a : aS) : Prop := kp M M' (fun c => stc 1 c ∨ stc 2 c) ∧ cZ M' ∧ sv M' 2 = a
theorem LJ_1 {M M1 : wM} {J : wJ} {b : Nat} {N : aS} {u : wM × wJ} (hb : b < 16) (hz : cZ M) (h : pS M J 1 N (M1, J)) (g : pS (F_X7_become M1 2 (3 + 4 * b)) J 2 (jn (sv (F_X7_become M1 2 (3 + 4 * b)) 2) (sv (F_X7_become M1 2 (3 + 4 * b)) 1)) u) : LJ M u.1 (jn (sv M (3 + 4 * b)) N) := by
  obtain ⟨-, h1, h2, h3⟩ := h
  obtain ⟨-, g1, g2, g3⟩ := g
  have k2 : kp M1 u.1 (stc 2) := kp_trans become_kp g1
  have z1 : cZ M1 := cZ_sS (i := 1) hz ⟨h1, h2, h3⟩
  refine ⟨kp_trans (kp_mono h1 (fun c hc => Or.inl hc)) (kp_mono k2 (fun c hc => Or.inr hc)), fun i hi => ?_, ?_⟩
  · by_cases q : i = 2
    · subst q; exact g2
    · rw [k2 (3 * i) (by unfold stc; omega)]; exact z1 i hi
  · rw [g3, become_sv (by omega), sv_stc become_kp (by omega), sv_stc (M := M) (i := 1) h1 (by omega)]
    show jn _ (sv M1 1) = _
    rw [show sv M1 1 = N from h3]
theorem LJ_2 {M M1 : wM} {J : wJ} {b t : Nat} {a : aS} {u : wM × wJ} (hb : b < 16) (h : LJ M M1 a) (g : pS M1 J 2 (wd M1 t (sv M1 2) (sv M1 (3 + 4 * b))) u) : LJ M u.1 (wd M t a (sv M (3 + 4 * b))) := by
  obtain ⟨h1, h2, h3⟩ := h
  obtain ⟨-, g1, g2, g3⟩ := g
  refine ⟨kp_trans h1 (kp_mono g1 (fun c hc => Or.inr hc)), fun i hi => ?_, ?_⟩
  · by_cases q : i = 2
    · subst q; exact g2
    · rw [g1 (3 * i) (by unfold stc; omega)]; exact h2 i hi
  · rw [g3, h3, sv_kp h1 (i := 3 + 4 * b) (by unfold stc; omega) (by unfold stc; omega) (by unfold stc; omega)]
    have e : M1 333 = M 333 := h1 333 (by unfold stc; omega)
    unfold wd
    cases a with
    | none => rfl
    | some f =>
      cases sv M (3 + 4 * b) with
      | none => rfl
      | some g => simp only [wlo, whi, gu_eq e, sm_eq e]
theorem jn_some {a : aS} {N : aS} (h : ¬ N = none) : ¬ jn a N = none := by
  cases N with
  | none => exact absurd rfl h
  | some g => cases a <;> (intro z; cases z)
theorem sv_z {M : wM} {i : Nat} (h : ¬ sv M i = none) : M (3 * i) 0 = 0 := by
  by_cases q : M (3 * i) 0 = 0
  · exact q
  · exact absurd (sv_none q) h
theorem sv_nn {M : wM} {i : Nat} (h : M (3 * i) 0 = 0) : ¬ sv M i = none := by rw [sv_some h]; intro z; cases z
theorem wd_eq {M M' : wM} (e : M' 333 = M 333) (t : Nat) (a c : aS) : wd M' t a c = wd M t a c := by
  unfold wd
  cases a with
  | none => rfl
  | some f =>
    cases c with
    | none => rfl
    | some g => simp only [wlo, whi, gu_eq e, sm_eq e]
/-- what a look at the block b leaves -/
def pLk (M0 : wM) (J : wJ) (E : Nat → aS) (V : Nat → Int32) (cnt t b : Nat) (r : Int32) (u : wM × wJ) : Prop := u.2 = J ∧ ((chg M0 E V cnt t b ∧ r = nI 1) ∨ (¬ chg M0 E V cnt t b ∧ r = nI 0)) ∧ AN M0 u.1 (lkE M0 E V cnt t b) (lkV M0 E V cnt t b)
theorem pLk_no {M0 M M' : wM} {J : wJ} {E : Nat → aS} {V : Nat → Int32} {cnt t b : Nat} (h : AN M0 M E V) (hk : kp M M' (fun c => stc 1 c ∨ stc 2 c)) (hz : cZ M') (hn : ¬ chg M0 E V cnt t b) : pLk M0 J E V cnt t b (nI 0) (M', J) := by
  refine ⟨rfl, Or.inr ⟨hn, rfl⟩, ?_⟩
  unfold lkE lkV
  rw [if_neg hn, if_neg hn]
  exact AN_keep h hk hz
theorem pLk_1 {M0 M M1 : wM} {J : wJ} {E : Nat → aS} {V : Nat → Int32} {cnt t b : Nat} (hc : cnt ≤ 16) (h : AN M0 M E V) (g : pS M J 1 (gat M (XM M) cnt b) (M1, J)) (q : ¬ M1 (3 * 1) 0 = 0) : pLk M0 J E V cnt t b (nI 0) (M1, J) := by
  obtain ⟨-, g1, g2, g3⟩ := g
  refine pLk_no h (kp_mono g1 (fun c hc => Or.inl hc)) (cZ_sS (i := 1) h.2.1 ⟨g1, g2, g3⟩) (fun z => z.1 ?_)
  have e : gat M (XM M) cnt b = gatA M0 E cnt b := AN_gat h hc
  rw [← e, ← g3]
  exact sv_none q
theorem pLk_2 {M0 M M3 : wM} {J : wJ} {E : Nat → aS} {V : Nat → Int32} {cnt t b : Nat} (hb : b < 16) (h : AN M0 M E V) (hj : LJ M M3 (nEn M0 E V cnt t b)) (q : sv M3 2 = sv M3 (3 + 4 * b)) : pLk M0 J E V cnt t b (nI 0) (M3, J) := by
  refine pLk_no h hj.1 hj.2.1 (fun z => z.2 ?_)
  rw [← hj.2.2, q, sv_kp hj.1 (by unfold stc; omega) (by unfold stc; omega) (by unfold stc; omega)]
  exact (h.2.2 b hb).1
theorem pLk_3 {M0 M M3 : wM} {J : wJ} {E : Nat → aS} {V : Nat → Int32} {cnt t b : Nat} {u : wM × wJ} (hb : b < 16) (hp : ∀ q, q < 16 → edOK M0 q) (h : AN M0 M E V) (hN : ¬ gatA M0 E cnt b = none) (hj : LJ M M3 (nEn M0 E V cnt t b)) (q : ¬ sv M3 2 = sv M3 (3 + 4 * b))
    (g : pMk (wU (F_X7_become M3 (3 + 4 * b) 2) (297 + 2 * b) 3 (F_X7_become M3 (3 + 4 * b) 2 (297 + 2 * b) 3 + nI 1)) J b u) : pLk M0 J E V cnt t b (nI 1) u := by
  have hc : chg M0 E V cnt t b := ⟨hN, fun z => q (by
    rw [hj.2.2, z, sv_kp hj.1 (by unfold stc; omega) (by unfold stc; omega) (by unfold stc; omega)]
    exact (h.2.2 b hb).1.symm)⟩
  refine ⟨g.1, Or.inl ⟨hc, rfl⟩, ?_⟩
  unfold lkE lkV
  rw [if_pos hc, if_pos hc]
  have e1 : F_X7_become M3 (3 + 4 * b) 2 (297 + 2 * b) = M (297 + 2 * b) := by
    rw [become_kp (297 + 2 * b) (by unfold stc; omega), hj.1 (297 + 2 * b) (by unfold stc; omega)]
  have e2 : sv (wU (F_X7_become M3 (3 + 4 * b) 2) (297 + 2 * b) 3 (F_X7_become M3 (3 + 4 * b) 2 (297 + 2 * b) 3 + nI 1)) (3 + 4 * b) = nEn M0 E V cnt t b := by
    rw [sv_kp (kp_U (P := fun c => c = 297 + 2 * b) rfl) (by omega) (by omega) (by omega), become_sv (by omega)]
    exact hj.2.2
  have key := AN_mk (v := V b + nI 1) hb hp h (kp_trans (kp_trans (kp_mono hj.1 (fun c hc => ?_)) (kp_mono become_kp (fun c hc => Or.inr (Or.inr (Or.inl hc))))) (kp_U (Or.inr (Or.inr (Or.inr rfl))))) (fun i hi => ?_) ?_ g
  · rw [e2] at key; exact key
  · rcases hc with hc | hc
    · exact Or.inl hc
    · exact Or.inr (Or.inl hc)
  · rw [wU_ne (by omega)]
    by_cases qi : i = 3 + 4 * b
    · subst qi; rw [become_z]; exact hj.2.1 2 (by omega)
    · rw [become_kp (3 * i) (by unfold stc; omega)]; exact hj.2.1 i hi
  · rw [wU_at, if_pos ⟨rfl, rfl⟩, e1, (h.2.2 b hb).2.1]
theorem nEn_1 {M0 : wM} {E : Nat → aS} {V : Nat → Int32} {cnt t b : Nat} (h : E b = none) : nEn M0 E V cnt t b = jn (E b) (gatA M0 E cnt b) := by unfold nEn; rw [if_neg (fun z => z.1 h)]
theorem nEn_2 {M0 : wM} {E : Nat → aS} {V : Nat → Int32} {cnt t b : Nat} (h : V b < M0 332 0) : nEn M0 E V cnt t b = jn (E b) (gatA M0 E cnt b) := by unfold nEn; rw [if_neg (fun z => z.2 h)]
theorem nEn_3 {M0 : wM} {E : Nat → aS} {V : Nat → Int32} {cnt t b : Nat} (h : ¬ E b = none) (g : ¬ V b < M0 332 0) : nEn M0 E V cnt t b = wd M0 t (jn (E b) (gatA M0 E cnt b)) (E b) := by unfold nEn; rw [if_pos ⟨h, g⟩]
/-- what a narrowing of the block b leaves -/
def pNr (M0 : wM) (J : wJ) (E : Nat → aS) (V : Nat → Int32) (cnt b : Nat) (u : wM × wJ) : Prop := u.2 = J ∧ AN M0 u.1 (nrE M0 E cnt b) V
theorem pNr_1 {M0 M : wM} {J : wJ} {E : Nat → aS} {V : Nat → Int32} {cnt b : Nat} (hb : b < 16) (h : AN M0 M E V) (q : ¬ M (3 * (3 + 4 * b)) 0 = 0) : pNr M0 J E V cnt b (M, J) := by
  refine ⟨rfl, ?_⟩
  unfold nrE
  rw [if_pos (by rw [← (h.2.2 b hb).1]; exact sv_none q)]
  exact h
theorem va_up_id {α : Type} (f : Nat → α) (k : Nat) : va_up f k (f k) = f := by
  funext j
  unfold va_up
  by_cases h : j = k
  · rw [if_pos h, h]
  · rw [if_neg h]
theorem pNr_2 {M0 M M1 M2 : wM} {J : wJ} {E : Nat → aS} {V : Nat → Int32} {cnt b : Nat} {u : wM × wJ} (hb : b < 16) (hcn : cnt ≤ 16) (hp : ∀ q, q < 16 → edOK M0 q) (h : AN M0 M E V) (q : M (3 * (3 + 4 * b)) 0 = 0) (g : pS M J 1 (gat M (XM M) cnt b) (M1, J)) (f : pS M1 J (3 + 4 * b) (nw (sv M1 (3 + 4 * b)) (sv M1 1)) (M2, J)) (k : pMk M2 J b u) : pNr M0 J E V cnt b u := by
  obtain ⟨-, g1, g2, g3⟩ := g
  obtain ⟨-, f1, f2, f3⟩ := f
  dsimp only at g1 g2 g3 f1 f2 f3
  have z1 : cZ M1 := cZ_sS (i := 1) h.2.1 ⟨g1, g2, g3⟩
  have z2 : cZ M2 := cZ_sS (i := 3 + 4 * b) z1 ⟨f1, f2, f3⟩
  have e : gat M (XM M) cnt b = gatA M0 E cnt b := AN_gat h hcn
  refine ⟨k.1, ?_⟩
  unfold nrE
  rw [if_neg (by rw [← (h.2.2 b hb).1]; exact sv_nn q)]
  have key := AN_mk (v := V b) hb hp h (kp_trans (kp_mono g1 (fun c hc => Or.inl hc)) (kp_mono f1 (fun c hc => Or.inr (Or.inr (Or.inl hc))))) z2 (by rw [show M2 (297 + 2 * b) = M1 (297 + 2 * b) from f1 (297 + 2 * b) (by unfold stc; omega), show M1 (297 + 2 * b) = M (297 + 2 * b) from g1 (297 + 2 * b) (by unfold stc; omega)]; exact (h.2.2 b hb).2.1) k
  rw [show sv M2 (3 + 4 * b) = nw (sv M1 (3 + 4 * b)) (sv M1 1) from f3, show sv M1 1 = gat M (XM M) cnt b from g3, e, sv_stc (M := M) (M' := M1) g1 (by omega), (h.2.2 b hb).1, va_up_id] at key
  exact key
