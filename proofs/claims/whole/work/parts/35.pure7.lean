/-! ===== executions: pure ===== -/
def fmd (x y : Int64) : Int64 := E_J9_floorMod_f86c9 (fun _ _ => 0) x y
def rnx (r : Int64) : Int64 := r * 6364136223846793005 + 1442695040888963407
def szz (lo hi : Int32) : Int64 := hi.toInt64 - lo.toInt64 + 1
def chs (r : Int64) (lo hi : Int32) : Int32 := (lo.toInt64 + (if lg_cmp (szz lo hi) 0 ≤ 0 then 0 else fmd r (szz lo hi))).toInt32
/-- a statement's value, over the variables f and the number r -/
def exS (k p q : Int32) (f : Nat → Int32) (r : Int64) : Int32 × Int64 := if k = nI 7 then (p, r) else if k = nI 6 then (chs r p q, rnx r) else (oc k (f (tn p)) (f (tn q)), r)
abbrev xS : Type := (Nat → Int32) × Int64
/-- the first n statements of the block b -/
def exN (M : wM) (b : Nat) : Nat → xS → xS
  | 0, x => x
  | n + 1, x => (upd (exN M b n x).1 (tn (M (201 + 6 * b + 2) n)) (exS (M (201 + 6 * b + 1) n) (M (201 + 6 * b + 3) n) (M (201 + 6 * b + 4) n) (exN M b n x).1 (exN M b n x).2).1, (exS (M (201 + 6 * b + 1) n) (M (201 + 6 * b + 3) n) (M (201 + 6 * b + 4) n) (exN M b n x).1 (exN M b n x).2).2)
def exB (M : wM) (b : Nat) (x : xS) : xS := exN M b (tn (M (201 + 6 * b) 0)) x
/-- the block that follows b (where it has an edge) -/
def flw (M : wM) (b : Nat) (f : Nat → Int32) : Int32 := if tn (M (201 + 6 * b) 5) < 2 then M (201 + 6 * b + 5) 0 else if tru (f (tn (M (201 + 6 * b) 7))) (M (201 + 6 * b) 9) (f (tn (M (201 + 6 * b) 8))) = 0 then M (201 + 6 * b + 5) 1 else M (201 + 6 * b + 5) 0
/-- the variables' first integers -/
def exI (M : wM) (f : Nat → Int32) (r : Int64) : Nat → xS
  | 0 => (f, r)
  | k + 1 => (upd (exI M f r k).1 k (chs (exI M f r k).2 (M (3 * 0 + 1) k) (M (3 * 0 + 2) k)), rnx (exI M f r k).2)
/-- behind n steps: variables, number, the block that is next -/
def rnS (M : wM) (x0 : xS) : Nat → xS × Nat
  | 0 => (x0, 0)
  | n + 1 => (exB M (rnS M x0 n).2 (rnS M x0 n).1, tn (flw M (rnS M x0 n).2 (exB M (rnS M x0 n).2 (rnS M x0 n).1).1))
theorem J_id (J : wJ) (k : Nat) : J = va_up J k (J k) := (va_up_id J k).symm
theorem J_up (J : wJ) (k : Nat) (a b : Int64) : va_up (va_up J k a) k b = va_up J k b := by
  funext j; unfold va_up
  by_cases h : j = k
  · rw [if_pos h, if_pos h]
  · rw [if_neg h, if_neg h, if_neg h]
theorem exS_7 {k p q : Int32} {f : Nat → Int32} {r : Int64} (h : k = nI 7) : exS k p q f r = (p, r) := by unfold exS; rw [if_pos h]
theorem exS_6 {k p q : Int32} {f : Nat → Int32} {r : Int64} (h : ¬ k = nI 7) (g : k = nI 6) : exS k p q f r = (chs r p q, rnx r) := by unfold exS; rw [if_neg h, if_pos g]
theorem exS_0 {k p q : Int32} {f : Nat → Int32} {r : Int64} (h : ¬ k = nI 7) (g : ¬ k = nI 6) : exS k p q f r = (oc k (f (tn p)) (f (tn q)), r) := by unfold exS; rw [if_neg h, if_neg g]
def pOu (M : wM) (J : wJ) (k p q : Int32) (r : Int32) (u : wM × wJ) : Prop := u = (M, va_up J 336 (exS k p q (M 337) (J 336)).2) ∧ r = (exS k p q (M 337) (J 336)).1
/-- behind k statements of the block b -/
def Ipf (M : wM) (b : Nat) (x : xS) (k : Nat) (M' : wM) : Prop := kp M M' (fun c => c = 337) ∧ M' 337 = (exN M b k x).1
theorem Ipf_s {M M1 : wM} {b k : Nat} {x : xS} (h : Ipf M b x k M1) : Ipf M b x (k + 1) (wU M1 337 (tn (M (201 + 6 * b + 2) k)) (exS (M (201 + 6 * b + 1) k) (M (201 + 6 * b + 3) k) (M (201 + 6 * b + 4) k) (exN M b k x).1 (exN M b k x).2).1) := by
  refine ⟨kp_trans h.1 (kp_U rfl), ?_⟩
  rw [wU_self, h.2]; rfl
