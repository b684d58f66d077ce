/-! ===== the analysis, pure: makeAnew, gathering ===== -/
/-- the blocks' cells are the same -/
def bkE (M M' : wM) : Prop := ∀ c, 201 ≤ c → c < 297 → M' c = M c
theorem bkE_refl (M : wM) : bkE M M := fun _ _ _ => rfl
theorem bkE_trans {M M' M'' : wM} (h : bkE M M') (g : bkE M' M'') : bkE M M'' := fun c h1 h2 => (g c h1 h2).trans (h c h1 h2)
theorem bkE_kp {M M' : wM} {P : Nat → Prop} (h : kp M M' P) (hp : ∀ c, 201 ≤ c → c < 297 → ¬ P c) : bkE M M' := fun c h1 h2 => h c (hp c h1 h2)
theorem bkE_st {M M' : wM} {i : Nat} (h : kp M M' (stc i)) (hi : i < 67) : bkE M M' := bkE_kp h (fun c h1 h2 => by unfold stc; omega)
theorem bkE_bl {M M' : wM} {b : Nat} (h : bkE M M') (hb : b < 16) (g : blOK M b) : blOK M' b := by
  unfold blOK stOK at *
  rw [h (201 + 6 * b) (by omega) (by omega), h (201 + 6 * b + 1) (by omega) (by omega), h (201 + 6 * b + 2) (by omega) (by omega), h (201 + 6 * b + 3) (by omega) (by omega), h (201 + 6 * b + 4) (by omega) (by omega)]
  exact g
theorem bkE_ed {M M' : wM} {b : Nat} (h : bkE M M') (hb : b < 16) (g : edOK M b) : edOK M' b := by
  unfold edOK at *
  rw [h (201 + 6 * b) (by omega) (by omega)]
  exact g
theorem bkE_apN {M M' : wM} {b : Nat} (h : bkE M M') (hb : b < 16) (a : aS) : ∀ n, apN M' b n a = apN M b n a
  | 0 => rfl
  | n + 1 => by
    show (apN M' b n a).map (stA (M' (201 + 6 * b + 1) n) (tn (M' (201 + 6 * b + 2) n)) (M' (201 + 6 * b + 3) n) (M' (201 + 6 * b + 4) n)) = (apN M b n a).map (stA (M (201 + 6 * b + 1) n) (tn (M (201 + 6 * b + 2) n)) (M (201 + 6 * b + 3) n) (M (201 + 6 * b + 4) n))
    rw [bkE_apN h hb a n, h (201 + 6 * b + 1) (by omega) (by omega), h (201 + 6 * b + 2) (by omega) (by omega), h (201 + 6 * b + 3) (by omega) (by omega), h (201 + 6 * b + 4) (by omega) (by omega)]
theorem bkE_apB {M M' : wM} {b : Nat} (h : bkE M M') (hb : b < 16) (a : aS) : apB M' b a = apB M b a := by
  unfold apB; rw [bkE_apN h hb, h (201 + 6 * b) (by omega) (by omega)]
theorem bkE_edB {M M' : wM} {b e : Nat} (h : bkE M M') (hb : b < 16) (a : aS) : edB M' b e a = edB M b e a := by
  unfold edB; rw [h (201 + 6 * b) (by omega) (by omega)]
/-- the states behind a block: exit and edges -/
def mac (b c : Nat) : Prop := stc (4 + 4 * b) c ∨ stc (5 + 4 * b) c ∨ stc (6 + 4 * b) c
def Imk (M : wM) (b k : Nat) (M' : wM) : Prop := kp M M' (mac b) ∧ bz (M' (3 * (4 + 4 * b)) 0) ∧ (∀ e, e < 2 → bz (M' (3 * (5 + 4 * b + e)) 0)) ∧ sv M' (4 + 4 * b) = apB M b (sv M (3 + 4 * b)) ∧ ∀ e, e < k → sv M' (5 + 4 * b + e) = edB M b e (apB M b (sv M (3 + 4 * b)))
def pMk (M : wM) (J : wJ) (b : Nat) (u : wM × wJ) : Prop := u.2 = J ∧ Imk M b (tn (M (201 + 6 * b) 5)) u.1
theorem Imk_bkE {M M' : wM} {b k : Nat} (h : Imk M b k M') (hb : b < 16) : bkE M M' := bkE_kp h.1 (fun c h1 h2 => by unfold mac stc; omega)
theorem Imk_0 {M M1 : wM} {J : wJ} {b : Nat} {u : wM × wJ} (hb : b < 16) (ze : ∀ e, e < 2 → bz (M (3 * (5 + 4 * b + e)) 0)) (h : pS (F_X7_become M (4 + 4 * b) (3 + 4 * b)) J (4 + 4 * b) (apB (F_X7_become M (4 + 4 * b) (3 + 4 * b)) b (sv (F_X7_become M (4 + 4 * b) (3 + 4 * b)) (4 + 4 * b))) u) : Imk M b 0 u.1 := by
  obtain ⟨-, h1, h2, h3⟩ := h
  have k1 : kp M u.1 (stc (4 + 4 * b)) := kp_trans become_kp h1
  refine ⟨kp_mono k1 (fun c hc => Or.inl hc), h2, fun e he => ?_, ?_, fun e he => absurd he (Nat.not_lt_zero e)⟩
  · rw [k1 (3 * (5 + 4 * b + e)) (by unfold stc; omega)]; exact ze e he
  · rw [h3, bkE_apB (bkE_st become_kp (by omega)) hb, become_sv (by omega)]
theorem Imk_s {M M1 : wM} {J : wJ} {b k : Nat} {u : wM × wJ} (hb : b < 16) (hk : k < 2) (h : Imk M b k M1) (g : pS (F_X7_become M1 (5 + 4 * b + k) (4 + 4 * b)) J (5 + 4 * b + k) (edB (F_X7_become M1 (5 + 4 * b + k) (4 + 4 * b)) b k (sv (F_X7_become M1 (5 + 4 * b + k) (4 + 4 * b)) (5 + 4 * b + k))) u) : Imk M b (k + 1) u.1 := by
  obtain ⟨-, g1, g2, g3⟩ := g
  have hB := Imk_bkE h hb
  obtain ⟨h1, h2, h3, h4, h5⟩ := h
  have k1 : kp M1 u.1 (stc (5 + 4 * b + k)) := kp_trans become_kp g1
  refine ⟨kp_trans h1 (kp_mono k1 (fun c hc => ?_)), ?_, fun e he => ?_, ?_, fun e he => ?_⟩
  · unfold mac; unfold stc at *; omega
  · rw [k1 (3 * (4 + 4 * b)) (by unfold stc; omega)]; exact h2
  · by_cases q : e = k
    · subst q; exact g2
    · rw [k1 (3 * (5 + 4 * b + e)) (by unfold stc; omega)]; exact h3 e he
  · rw [sv_stc k1 (by omega)]; exact h4
  · by_cases q : e = k
    · subst q
      rw [g3, bkE_edB (bkE_trans hB (bkE_st become_kp (by omega))) hb, become_sv (by omega), h4]
    · rw [sv_stc k1 (by omega)]; exact h5 e (by omega)
/-- what leads to the block t, of the first e edges of the block b; of the first b blocks -/
def gE (M : wM) (X : Nat → Nat → aS) (t b : Nat) : Nat → aS → aS
  | 0, a => a
  | e + 1, a => if M (201 + 6 * b + 5) e = nI t then jn (gE M X t b e a) (X b e) else gE M X t b e a
def gB (M : wM) (X : Nat → Nat → aS) (t : Nat) : Nat → aS → aS
  | 0, a => a
  | b + 1, a => gE M X t b (tn (M (201 + 6 * b) 5)) (gB M X t b a)
def gat (M : wM) (X : Nat → Nat → aS) (cnt t : Nat) : aS := gB M X t cnt (if t = 0 then jn none (sv M 0) else none)
theorem gE_1 {M : wM} {X : Nat → Nat → aS} {t b e : Nat} {a : aS} (h : M (201 + 6 * b + 5) e = nI t) : gE M X t b (e + 1) a = jn (gE M X t b e a) (X b e) := by
  show (if M (201 + 6 * b + 5) e = nI t then jn (gE M X t b e a) (X b e) else gE M X t b e a) = _
  rw [if_pos h]
theorem gE_2 {M : wM} {X : Nat → Nat → aS} {t b e : Nat} {a : aS} (h : ¬ M (201 + 6 * b + 5) e = nI t) : gE M X t b (e + 1) a = gE M X t b e a := by
  show (if M (201 + 6 * b + 5) e = nI t then jn (gE M X t b e a) (X b e) else gE M X t b e a) = _
  rw [if_neg h]
theorem gE_ext {M M' : wM} {X X' : Nat → Nat → aS} {t b : Nat} {a : aS} (h : bkE M M') (hb : b < 16) : ∀ e, (∀ q, q < e → X' b q = X b q) → gE M' X' t b e a = gE M X t b e a
  | 0, _ => rfl
  | e + 1, hX => by
    show (if M' (201 + 6 * b + 5) e = nI t then jn (gE M' X' t b e a) (X' b e) else gE M' X' t b e a) = (if M (201 + 6 * b + 5) e = nI t then jn (gE M X t b e a) (X b e) else gE M X t b e a)
    rw [gE_ext h hb e (fun q hq => hX q (by omega)), hX e (by omega), h (201 + 6 * b + 5) (by omega) (by omega)]
theorem gB_ext {M M' : wM} {X X' : Nat → Nat → aS} {t : Nat} {a : aS} (h : bkE M M') : ∀ b, b ≤ 16 → (∀ q e, q < b → e < tn (M (201 + 6 * q) 5) → X' q e = X q e) → gB M' X' t b a = gB M X t b a
  | 0, _, _ => rfl
  | b + 1, hb, hX => by
    show gE M' X' t b (tn (M' (201 + 6 * b) 5)) (gB M' X' t b a) = gE M X t b (tn (M (201 + 6 * b) 5)) (gB M X t b a)
    rw [gB_ext h b (by omega) (fun q e hq he => hX q e (by omega) he), h (201 + 6 * b) (by omega) (by omega), gE_ext h (by omega) _ (fun q hq => hX b q (by omega) hq)]
/-- all states' booleans -/
def cZ (M : wM) : Prop := ∀ i, i < 67 → bz (M (3 * i) 0)
theorem cZ_sS {M M' : wM} {i : Nat} {a : aS} (h : cZ M) (g : sS M i M' a) : cZ M' := fun j hj => by
  by_cases q : j = i
  · subst q; exact g.2.1
  · rw [g.1 (3 * j) (by unfold stc; omega)]; exact h j hj
theorem sS_join {M M1 : wM} {J : wJ} {i j : Nat} {a : aS} {u : wM × wJ} (hij : j ≠ i) (h : sS M i M1 a) (g : pS M1 J i (jn (sv M1 i) (sv M1 j)) u) : sS M i u.1 (jn a (sv M j)) := by
  obtain ⟨-, g1, g2, g3⟩ := g
  refine ⟨kp_trans h.1 g1, g2, ?_⟩
  rw [g3, h.2.2, sv_stc h.1 hij]
theorem sS_z {M M1 : wM} {i j : Nat} {a : aS} (hc : cZ M) (hj : j < 67) (h : sS M i M1 a) : bz (M1 (3 * j) 0) := cZ_sS hc h j hj
/-- the program and the settings are such as they may be -/
def prOK (M : wM) (cnt t : Nat) : Prop := M 330 2 = nI cnt ∧ cnt ≤ 16 ∧ (∀ b, b < 16 → blOK M b ∧ edOK M b) ∧ M 332 2 = nI t ∧ t ≤ 8
/-- the analysis over the program of M0: entry states E, visits V -/
def anC (c : Nat) : Prop := (3 ≤ c ∧ c < 201) ∨ (297 ≤ c ∧ c < 329)
def AN (M0 M : wM) (E : Nat → aS) (V : Nat → Int32) : Prop := kp M0 M anC ∧ cZ M ∧ ∀ b, b < 16 → sv M (3 + 4 * b) = E b ∧ M (297 + 2 * b) 3 = V b ∧ sv M (4 + 4 * b) = apB M0 b (E b) ∧ ∀ e, e < tn (M0 (201 + 6 * b) 5) → sv M (5 + 4 * b + e) = edB M0 b e (apB M0 b (E b))
theorem AN_bkE {M0 M : wM} {E : Nat → aS} {V : Nat → Int32} (h : AN M0 M E V) : bkE M0 M := bkE_kp h.1 (fun c h1 h2 => by unfold anC; omega)
/-- the entry state that a look at b makes, where something leads to b -/
def gatA (M0 : wM) (E : Nat → aS) (cnt b : Nat) : aS := gat M0 (fun q e => edB M0 q e (apB M0 q (E q))) cnt b
theorem AN_gat {M0 M : wM} {E : Nat → aS} {V : Nat → Int32} {cnt b : Nat} (h : AN M0 M E V) (hc : cnt ≤ 16) : gat M (fun q e => sv M (5 + 4 * q + e)) cnt b = gatA M0 E cnt b := by
  unfold gatA gat
  rw [sv_kp h.1 (i := 0) (by unfold anC; omega) (by unfold anC; omega) (by unfold anC; omega)]
  exact gB_ext (AN_bkE h) cnt hc (fun q e hq he => (h.2.2 q (by omega)).2.2.2 e he)
def nEn (M0 : wM) (E : Nat → aS) (V : Nat → Int32) (cnt t b : Nat) : aS := if ¬ E b = none ∧ ¬ V b < M0 332 0 then wd M0 t (jn (E b) (gatA M0 E cnt b)) (E b) else jn (E b) (gatA M0 E cnt b)
def chg (M0 : wM) (E : Nat → aS) (V : Nat → Int32) (cnt t b : Nat) : Prop := ¬ gatA M0 E cnt b = none ∧ ¬ nEn M0 E V cnt t b = E b
noncomputable def lkE (M0 : wM) (E : Nat → aS) (V : Nat → Int32) (cnt t b : Nat) : Nat → aS := @ite _ (chg M0 E V cnt t b) (Classical.propDecidable _) (va_up E b (nEn M0 E V cnt t b)) E
noncomputable def lkV (M0 : wM) (E : Nat → aS) (V : Nat → Int32) (cnt t b : Nat) : Nat → Int32 := @ite _ (chg M0 E V cnt t b) (Classical.propDecidable _) (va_up V b (V b + nI 1)) V
noncomputable def nrE (M0 : wM) (E : Nat → aS) (cnt b : Nat) : Nat → aS := @ite _ (E b = none) (Classical.propDecidable _) E (va_up E b (nw (E b) (gatA M0 E cnt b)))
