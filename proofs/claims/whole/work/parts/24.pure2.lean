/-! ===== statements and refinements on states, pure ===== -/
abbrev aP : Type := (Nat → Int32) × (Nat → Int32)
def tn (x : Int32) : Nat := x.toNatClampNeg
theorem tn_nI {n : Nat} (h : n < 2147483648) : tn (nI n) = n := nI_clamp h
def isV (x : Int32) : Prop := x = nI (tn x) ∧ tn x < 6
theorem isV_nI {n : Nat} (h : n < 6) : isV (nI n) := by
  unfold isV; rw [tn_nI (by omega)]; exact ⟨rfl, h⟩
def oc (k y z : Int32) : Int32 := E_X1_outcome (fun _ _ => 0) k y z
def tru (x r y : Int32) : Int32 := E_X1_isTrue (fun _ _ => 0) x r y
def opp (r : Int32) : Int32 := E_X1_oppositeOfSwapped (fun _ _ => 0) r
theorem r6_upd {f : Nat → Int32} {x : Nat} {v : Int32} (h : x < 6) : r6 (upd f x v) = upd (r6 f) x v := by
  funext w
  unfold r6 upd
  by_cases q : w = x
  · subst q; simp [h]
  · simp [q]
def stC (k : Int32) (x y z : Nat) (f : aP) : aP :=
  (upd f.1 x (i_mn (i_mn (oc k (f.1 y) (f.1 z)) (oc k (f.1 y) (f.2 z))) (i_mn (oc k (f.2 y) (f.1 z)) (oc k (f.2 y) (f.2 z)))),
   upd f.2 x (i_mx (i_mx (oc k (f.1 y) (f.1 z)) (oc k (f.1 y) (f.2 z))) (i_mx (oc k (f.2 y) (f.1 z)) (oc k (f.2 y) (f.2 z)))))
/-- a statement of kind k, target x, first p, second q -/
def stA (k : Int32) (x : Nat) (p q : Int32) (f : aP) : aP := if k = nI 6 ∨ k = nI 7 then (upd f.1 x p, upd f.2 x q) else stC k x (tn p) (tn q) f
def coA (v : Nat) (a : Int32) (f : aP) : aP := if f.1 v = a then (upd f.1 v (a + nI 1), f.2) else if f.2 v = a then (f.1, upd f.2 v (a - nI 1)) else f
def koA (x y : Nat) (g : Int32) (f : aP) : aS := if f.1 x + g ≤ f.2 y then some (upd f.1 y (i_mx (f.1 y) (f.1 x + g)), upd f.2 x (i_mn (f.2 x) (f.2 y - g))) else none
def keA (x y : Nat) (f : aP) : aS := if i_mx (f.1 x) (f.1 y) ≤ i_mn (f.2 x) (f.2 y) then some (upd (upd f.1 x (i_mx (f.1 x) (f.1 y))) y (i_mx (f.1 x) (f.1 y)), upd (upd f.2 x (i_mn (f.2 x) (f.2 y))) y (i_mn (f.2 x) (f.2 y))) else none
def kuA (x y : Nat) (f : aP) : aS := if f.1 x = f.2 x then (if f.1 y = f.2 y then (if f.1 x = f.1 y then none else some f) else some (coA y (f.1 x) f)) else if f.1 y = f.2 y then some (coA x (f.1 y) f) else some f
def rfA (x : Nat) (r : Int32) (y : Nat) (f : aP) : aS := if x = y then (if tru (nI 0) r (nI 0) = 0 then none else some f) else if r = nI 0 then koA x y (nI 1) f else if r = nI 1 then koA x y (nI 0) f else if r = nI 2 then keA x y f else kuA x y f
def rf (x : Nat) (r : Int32) (y : Nat) (a : aS) : aS := a.bind (rfA x r y)
/-- M' is M but for the state i, which is a -/
def sS (M : wM) (i : Nat) (M' : wM) (a : aS) : Prop := kp M M' (stc i) ∧ bz (M' (3 * i) 0) ∧ sv M' i = a
theorem sS_pS {M M' : wM} {J : wJ} {i : Nat} {a : aS} (h : sS M i M' a) : pS M J i a (M', J) := ⟨rfl, h.1, h.2.1, h.2.2⟩
theorem sS_rfl {M : wM} {i : Nat} (h : bz (M (3 * i) 0)) : sS M i M (sv M i) := ⟨kp_refl _ _, h, rfl⟩
theorem sS_trans {M M' M'' : wM} {i : Nat} {a b : aS} (h : sS M i M' a) (g : sS M' i M'' b) : sS M i M'' b := ⟨kp_trans h.1 g.1, g.2.1, g.2.2⟩
theorem sS_none {M : wM} {i : Nat} : sS M i (wU M (3 * i) 0 (nI 1)) none := by
  refine ⟨kp_U (Or.inl rfl), ?_, ?_⟩
  · rw [wU_at, if_pos ⟨rfl, rfl⟩]; exact Or.inr rfl
  · exact sv_none (by rw [wU_at, if_pos ⟨rfl, rfl⟩]; decide)
theorem sS_some {M M' : wM} {i : Nat} {L H : Nat → Int32} (hk : kp M M' (stc i)) (h0 : M' (3 * i) 0 = 0) (hl : M' (3 * i + 1) = L) (hh : M' (3 * i + 2) = H) : sS M i M' (some (r6 L, r6 H)) := by
  refine ⟨hk, by rw [h0]; exact bz_0, ?_⟩
  rw [sv_some h0, hl, hh]
theorem sS_set0 {M : wM} {i : Nat} (h0 : M (3 * i) 0 = 0) : sS M i (wU M (3 * i) 0 (nI 0)) (sv M i) := by
  rw [sv_some h0]
  exact sS_some (kp_U (Or.inl rfl)) (by rw [wU_at, if_pos ⟨rfl, rfl⟩]; rfl) (wU_ne (by omega)) (wU_ne (by omega))
theorem kp_l {M : wM} {i v : Nat} {a : Int32} : kp M (wU M (3 * i + 1) v a) (stc i) := kp_U (Or.inr (Or.inl rfl))
theorem kp_h {M : wM} {i v : Nat} {a : Int32} : kp M (wU M (3 * i + 2) v a) (stc i) := kp_U (Or.inr (Or.inr rfl))
theorem wU0_l {M : wM} {i v : Nat} {a : Int32} : wU M (3 * i + 1) v a (3 * i) = M (3 * i) := wU_ne (by omega)
theorem wU0_h {M : wM} {i v : Nat} {a : Int32} : wU M (3 * i + 2) v a (3 * i) = M (3 * i) := wU_ne (by omega)
theorem wUl_h {M : wM} {i v : Nat} {a : Int32} : wU M (3 * i + 2) v a (3 * i + 1) = M (3 * i + 1) := wU_ne (by omega)
theorem wUh_l {M : wM} {i v : Nat} {a : Int32} : wU M (3 * i + 1) v a (3 * i + 2) = M (3 * i + 2) := wU_ne (by omega)
/-- lows, then highs of a state -/
theorem sS_lh {M : wM} {i v w : Nat} {a b : Int32} (h0 : M (3 * i) 0 = 0) : sS M i (wU (wU M (3 * i + 1) v a) (3 * i + 2) w b) (some (r6 (upd (M (3 * i + 1)) v a), r6 (upd (M (3 * i + 2)) w b))) :=
  sS_some (kp_trans kp_l kp_h) (by rw [wU0_h, wU0_l]; exact h0) (by rw [wUl_h, wU_self]) (by rw [wU_self, wUh_l])
theorem sS_hl {M : wM} {i v w : Nat} {a b : Int32} (h0 : M (3 * i) 0 = 0) : sS M i (wU (wU M (3 * i + 2) w b) (3 * i + 1) v a) (some (r6 (upd (M (3 * i + 1)) v a), r6 (upd (M (3 * i + 2)) w b))) :=
  sS_some (kp_trans kp_h kp_l) (by rw [wU0_l, wU0_h]; exact h0) (by rw [wU_self, wUl_h]) (by rw [wUh_l, wU_self])
theorem sS_set {M : wM} {i v : Nat} {a b : Int32} (hv : v < 6) (h0 : M (3 * i) 0 = 0) : sS M i (F_X7_setRange M i v a b) ((sv M i).map (fun f => (upd f.1 v a, upd f.2 v b))) := by
  rw [sv_some h0]
  have h := sS_lh (i := i) (v := v) (w := v) (a := a) (b := b) h0
  rw [r6_upd hv, r6_upd hv] at h
  exact h
theorem set_0 {M : wM} {i v : Nat} {a b : Int32} : F_X7_setRange M i v a b (3 * i) = M (3 * i) := by unfold F_X7_setRange; rw [wU0_h, wU0_l]
theorem assign_eq {M : wM} {i x y z : Nat} {k : Int32} (hx : x < 6) (hy : y < 6) (hz : z < 6) : F_X7_assign M i k x y z = wU (wU M (3 * i + 1) x (i_mn (i_mn (oc k (M (3 * i + 1) y) (M (3 * i + 1) z)) (oc k (M (3 * i + 1) y) (M (3 * i + 2) z))) (i_mn (oc k (M (3 * i + 2) y) (M (3 * i + 1) z)) (oc k (M (3 * i + 2) y) (M (3 * i + 2) z))))) (3 * i + 2) x (i_mx (i_mx (oc k (M (3 * i + 1) y) (M (3 * i + 1) z)) (oc k (M (3 * i + 1) y) (M (3 * i + 2) z))) (i_mx (oc k (M (3 * i + 2) y) (M (3 * i + 1) z)) (oc k (M (3 * i + 2) y) (M (3 * i + 2) z)))) := rfl
theorem sS_assign {M : wM} {i x y z : Nat} {k : Int32} (hx : x < 6) (hy : y < 6) (hz : z < 6) (h0 : M (3 * i) 0 = 0) : sS M i (F_X7_assign M i k x y z) ((sv M i).map (stC k x y z)) := by
  rw [sv_some h0, assign_eq hx hy hz]
  have h := sS_lh (i := i) (v := x) (w := x) (a := i_mn (i_mn (oc k (M (3 * i + 1) y) (M (3 * i + 1) z)) (oc k (M (3 * i + 1) y) (M (3 * i + 2) z))) (i_mn (oc k (M (3 * i + 2) y) (M (3 * i + 1) z)) (oc k (M (3 * i + 2) y) (M (3 * i + 2) z)))) (b := i_mx (i_mx (oc k (M (3 * i + 1) y) (M (3 * i + 1) z)) (oc k (M (3 * i + 1) y) (M (3 * i + 2) z))) (i_mx (oc k (M (3 * i + 2) y) (M (3 * i + 1) z)) (oc k (M (3 * i + 2) y) (M (3 * i + 2) z)))) h0
  rw [r6_upd hx, r6_upd hx] at h
  simp only [Option.map_some, stC, r6_lt hy, r6_lt hz]
  exact h
theorem assign_0 {M : wM} {i x y z : Nat} {k : Int32} (hx : x < 6) (hy : y < 6) (hz : z < 6) : F_X7_assign M i k x y z (3 * i) = M (3 * i) := by rw [assign_eq hx hy hz, wU0_h, wU0_l]
theorem sS_ko {M : wM} {i x y : Nat} {g : Int32} (hx : x < 6) (hy : y < 6) (h0 : M (3 * i) 0 = 0) : sS M i (F_X7_keepOrdered M i x y g) ((sv M i).bind (koA x y g)) := by
  rw [sv_some h0]
  unfold F_X7_keepOrdered
  simp only [Option.bind_some, koA, r6_lt hx, r6_lt hy]
  by_cases h : M (3 * i + 1) x + g ≤ M (3 * i + 2) y
  · rw [if_pos h, if_pos h, wUl_h]
    have q := sS_hl (i := i) (v := y) (w := x) (a := i_mx (M (3 * i + 1) y) (M (3 * i + 1) x + g)) (b := i_mn (M (3 * i + 2) x) (M (3 * i + 2) y - g)) h0
    rw [r6_upd hx, r6_upd hy] at q
    exact q
  · rw [if_neg h, if_neg h]; exact sS_none
theorem sS_ke {M : wM} {i x y : Nat} (hx : x < 6) (hy : y < 6) (h0 : M (3 * i) 0 = 0) : sS M i (F_X7_keepEqual M i x y) ((sv M i).bind (keA x y)) := by
  rw [sv_some h0]
  unfold F_X7_keepEqual
  simp only [Option.bind_some, keA, r6_lt hx, r6_lt hy]
  by_cases h : i_mx (M (3 * i + 1) x) (M (3 * i + 1) y) ≤ i_mn (M (3 * i + 2) x) (M (3 * i + 2) y)
  · rw [if_pos h, if_pos h]
    have q1 := sS_set (i := i) (v := x) (a := i_mx (M (3 * i + 1) x) (M (3 * i + 1) y)) (b := i_mn (M (3 * i + 2) x) (M (3 * i + 2) y)) hx h0
    have q2 := sS_set (M := F_X7_setRange M i x (i_mx (M (3 * i + 1) x) (M (3 * i + 1) y)) (i_mn (M (3 * i + 2) x) (M (3 * i + 2) y))) (i := i) (v := y) (a := i_mx (M (3 * i + 1) x) (M (3 * i + 1) y)) (b := i_mn (M (3 * i + 2) x) (M (3 * i + 2) y)) hy (by rw [set_0]; exact h0)
    rw [q1.2.2, sv_some h0] at q2
    exact sS_trans q1 q2
  · rw [if_neg h, if_neg h]; exact sS_none
theorem sS_l {M : wM} {i v : Nat} {a : Int32} (h0 : M (3 * i) 0 = 0) : sS M i (wU M (3 * i + 1) v a) (some (r6 (upd (M (3 * i + 1)) v a), r6 (M (3 * i + 2)))) :=
  sS_some kp_l (by rw [wU0_l]; exact h0) wU_self wUh_l
theorem sS_h {M : wM} {i v : Nat} {a : Int32} (h0 : M (3 * i) 0 = 0) : sS M i (wU M (3 * i + 2) v a) (some (r6 (M (3 * i + 1)), r6 (upd (M (3 * i + 2)) v a))) :=
  sS_some kp_h (by rw [wU0_h]; exact h0) wUl_h wU_self
theorem sS_co {M : wM} {i v : Nat} {a : Int32} (hv : v < 6) (h0 : M (3 * i) 0 = 0) : sS M i (F_X7_cutOff M i v a) (some (coA v a (r6 (M (3 * i + 1)), r6 (M (3 * i + 2))))) := by
  unfold F_X7_cutOff
  simp only [coA, r6_lt hv]
  by_cases h : M (3 * i + 1) v = a
  · rw [if_pos h, if_pos h, ← r6_upd hv]; exact sS_l h0
  · rw [if_neg h, if_neg h]
    by_cases g : M (3 * i + 2) v = a
    · rw [if_pos g, if_pos g, ← r6_upd hv]; exact sS_h h0
    · rw [if_neg g, if_neg g, ← sv_some h0]; exact sS_rfl (by rw [h0]; exact bz_0)
theorem sS_ku {M : wM} {i x y : Nat} (hx : x < 6) (hy : y < 6) (h0 : M (3 * i) 0 = 0) : sS M i (F_X7_keepUnequal M i x y) ((sv M i).bind (kuA x y)) := by
  have e := sv_some h0
  rw [e]
  unfold F_X7_keepUnequal
  simp only [Option.bind_some, kuA, r6_lt hx, r6_lt hy]
  by_cases p : M (3 * i + 1) x = M (3 * i + 2) x
  · have p' : ¬ E_X7_isConstant M i x = 0 := fun z => isC_0.mp z p
    rw [if_neg p', if_pos p]
    by_cases q : M (3 * i + 1) y = M (3 * i + 2) y
    · have q' : ¬ E_X7_isConstant M i y = 0 := fun z => isC_0.mp z q
      rw [if_neg q', if_pos q]
      by_cases t : M (3 * i + 1) x = M (3 * i + 1) y
      · rw [if_pos t, if_pos t]; exact sS_none
      · rw [if_neg t, if_neg t, ← e]; exact sS_set0 h0
    · rw [if_pos (isC_0.mpr q), if_neg q, if_neg p']
      exact sS_co hy h0
  · rw [if_pos (isC_0.mpr p), if_neg p, if_pos (isC_0.mpr p)]
    by_cases q : M (3 * i + 1) y = M (3 * i + 2) y
    · rw [if_neg (fun z => isC_0.mp z q), if_pos q]
      exact sS_co hx h0
    · rw [if_pos (isC_0.mpr q), if_neg q, ← e]
      exact sS_rfl (by rw [h0]; exact bz_0)
theorem sS_rf {M : wM} {i x y : Nat} {r : Int32} (hx : x < 6) (hy : y < 6) (h0 : M (3 * i) 0 = 0) : sS M i (F_X7_refine M i x r y) (rf x r y (sv M i)) := by
  have e := sv_some h0
  unfold F_X7_refine rf
  by_cases h : x = y
  · rw [if_pos (by rw [h]), e]
    simp only [Option.bind_some, rfA, if_pos h]
    by_cases t : E_X1_isTrue M (nI 0) r (nI 0) = 0
    · rw [if_pos t, if_pos (show tru (nI 0) r (nI 0) = 0 from t)]; exact sS_none
    · rw [if_neg t, if_neg (show ¬ tru (nI 0) r (nI 0) = 0 from t), ← e]; exact sS_set0 h0
  · rw [if_neg (fun z => h ((nI_eq (by omega) (by omega)).mp z))]
    by_cases r0 : r = nI 0
    · rw [if_pos r0, e]; simp only [Option.bind_some, rfA, if_neg h, if_pos r0]
      have q := sS_ko (M := M) (i := i) (g := nI 1) hx hy h0
      rw [e] at q; exact q
    · rw [if_neg r0]
      by_cases r1 : r = nI 1
      · rw [if_pos r1, e]; simp only [Option.bind_some, rfA, if_neg h, if_neg r0, if_pos r1]
        have q := sS_ko (M := M) (i := i) (g := nI 0) hx hy h0
        rw [e] at q; exact q
      · rw [if_neg r1]
        by_cases r2 : r = nI 2
        · rw [if_pos r2, e]; simp only [Option.bind_some, rfA, if_neg h, if_neg r0, if_neg r1, if_pos r2]
          have q := sS_ke (M := M) (i := i) hx hy h0
          rw [e] at q; exact q
        · rw [if_neg r2, e]; simp only [Option.bind_some, rfA, if_neg h, if_neg r0, if_neg r1, if_neg r2]
          have q := sS_ku (M := M) (i := i) hx hy h0
          rw [e] at q; exact q
/-- a block's statements are such as they may be -/
def stOK (M : wM) (b a : Nat) : Prop := isV (M (201 + 6 * b + 2) a) ∧ (¬ (M (201 + 6 * b + 1) a = nI 6 ∨ M (201 + 6 * b + 1) a = nI 7) → isV (M (201 + 6 * b + 3) a) ∧ isV (M (201 + 6 * b + 4) a))
def blOK (M : wM) (b : Nat) : Prop := M (201 + 6 * b) 0 = nI (tn (M (201 + 6 * b) 0)) ∧ tn (M (201 + 6 * b) 0) ≤ 8 ∧ ∀ a, a < tn (M (201 + 6 * b) 0) → stOK M b a
/-- the first n statements of a block, on a state -/
def apN (M : wM) (b : Nat) : Nat → aS → aS
  | 0, a => a
  | n + 1, a => (apN M b n a).map (stA (M (201 + 6 * b + 1) n) (tn (M (201 + 6 * b + 2) n)) (M (201 + 6 * b + 3) n) (M (201 + 6 * b + 4) n))
def apB (M : wM) (b : Nat) (a : aS) : aS := apN M b (tn (M (201 + 6 * b) 0)) a
def Iap (M : wM) (b i k : Nat) (M1 : wM) : Prop := kp M M1 (stc i) ∧ M1 (3 * i) 0 = 0 ∧ sv M1 i = apN M b k (sv M i)
theorem Iap_set {M M1 : wM} {b i k : Nat} (h : Iap M b i k M1) (hs : stOK M b k) (hk : M (201 + 6 * b + 1) k = nI 6 ∨ M (201 + 6 * b + 1) k = nI 7) : Iap M b i (k + 1) (F_X7_setRange M1 i (tn (M (201 + 6 * b + 2) k)) (M (201 + 6 * b + 3) k) (M (201 + 6 * b + 4) k)) := by
  obtain ⟨h1, h2, h3⟩ := h
  have q := sS_set (M := M1) (i := i) (v := tn (M (201 + 6 * b + 2) k)) (a := M (201 + 6 * b + 3) k) (b := M (201 + 6 * b + 4) k) hs.1.2 h2
  refine ⟨kp_trans h1 q.1, by rw [set_0]; exact h2, ?_⟩
  rw [q.2.2, h3]
  have e : stA (M (201 + 6 * b + 1) k) (tn (M (201 + 6 * b + 2) k)) (M (201 + 6 * b + 3) k) (M (201 + 6 * b + 4) k) = fun f => (upd f.1 (tn (M (201 + 6 * b + 2) k)) (M (201 + 6 * b + 3) k), upd f.2 (tn (M (201 + 6 * b + 2) k)) (M (201 + 6 * b + 4) k)) := by
    funext f; unfold stA; rw [if_pos hk]
  show _ = (apN M b k (sv M i)).map _
  rw [e]
theorem Iap_as {M M1 : wM} {b i k : Nat} (h : Iap M b i k M1) (hs : stOK M b k) (hk : ¬ (M (201 + 6 * b + 1) k = nI 6 ∨ M (201 + 6 * b + 1) k = nI 7)) : Iap M b i (k + 1) (F_X7_assign M1 i (M (201 + 6 * b + 1) k) (tn (M (201 + 6 * b + 2) k)) (tn (M (201 + 6 * b + 3) k)) (tn (M (201 + 6 * b + 4) k))) := by
  obtain ⟨h1, h2, h3⟩ := h
  have q := sS_assign (M := M1) (i := i) (k := M (201 + 6 * b + 1) k) hs.1.2 (hs.2 hk).1.2 (hs.2 hk).2.2 h2
  refine ⟨kp_trans h1 q.1, by rw [assign_0 hs.1.2 (hs.2 hk).1.2 (hs.2 hk).2.2]; exact h2, ?_⟩
  rw [q.2.2, h3]
  have e : stA (M (201 + 6 * b + 1) k) (tn (M (201 + 6 * b + 2) k)) (M (201 + 6 * b + 3) k) (M (201 + 6 * b + 4) k) = stC (M (201 + 6 * b + 1) k) (tn (M (201 + 6 * b + 2) k)) (tn (M (201 + 6 * b + 3) k)) (tn (M (201 + 6 * b + 4) k)) := by
    funext f; unfold stA; rw [if_neg hk]
  show _ = (apN M b k (sv M i)).map _
  rw [e]
theorem apN_none (M : wM) (b : Nat) : ∀ n, apN M b n none = none
  | 0 => rfl
  | n + 1 => by show (apN M b n none).map _ = none; rw [apN_none M b n]; rfl
/-- an edge of a block, on the state behind its statements -/
def edOK (M : wM) (b : Nat) : Prop := M (201 + 6 * b) 5 = nI (tn (M (201 + 6 * b) 5)) ∧ tn (M (201 + 6 * b) 5) ≤ 2 ∧ (2 ≤ tn (M (201 + 6 * b) 5) → isV (M (201 + 6 * b) 7) ∧ isV (M (201 + 6 * b) 8))
def edB (M : wM) (b e : Nat) (a : aS) : aS := if tn (M (201 + 6 * b) 5) < 2 then a else if e = 0 then rf (tn (M (201 + 6 * b) 7)) (M (201 + 6 * b) 9) (tn (M (201 + 6 * b) 8)) a else rf (tn (M (201 + 6 * b) 8)) (opp (M (201 + 6 * b) 9)) (tn (M (201 + 6 * b) 7)) a
theorem edB_none {M : wM} {b e : Nat} : edB M b e none = none := by
  unfold edB
  by_cases h : tn (M (201 + 6 * b) 5) < 2
  · rw [if_pos h]
  · rw [if_neg h]
    by_cases g : e = 0
    · rw [if_pos g]; rfl
    · rw [if_neg g]; rfl
