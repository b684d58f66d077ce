section WLp
variable {p : Program} {l : Launch} {e : Env} {R : Room} {s : State} {m : MethodId} {args : Array Value} {below : List Frame} {meth : Method} {c : Code} {H : Heap} {locs : List Loc} {cells slots : Nat} {Q : State → Prop}
variable {pc : Nat} {ls : Array Slot}
variable {n : Nat} {sh : Nat → wSh} {ad : Nat → Nat} {cs : Nat → ClassId} {M : wM} {J : wJ} {D : va_G} {A : Nat → Prop} {H0 : Heap}
/-- a loop whose measure falls -/
theorem w_loop {σ : Type} (I : σ → wM → wJ → Array Slot → Prop) (μ : σ → Nat)
    (body : ∀ (x : σ) (M : wM) (J : wJ) (H : Heap) (locs : List Loc) (ls : Array Slot), I x M J ls → wI D n sh ad cs A H0 M J H locs → (∀ (x' : σ) (M' : wM) (J' : wJ) (H' : Heap) (locs' : List Loc) (ls' : Array Slot), μ x' < μ x → I x' M' J' ls' → wI D n sh ad cs A H0 M' J' H' locs' → W p l e R s m args below meth c H' locs' cells slots Q (F0 m pc ls' [])) → W p l e R s m args below meth c H locs cells slots Q (F0 m pc ls []))
    (x0 : σ) (h0 : I x0 M J ls) (hw : wI D n sh ad cs A H0 M J H locs) : W p l e R s m args below meth c H locs cells slots Q (F0 m pc ls []) := by
  have key : ∀ (f : Nat) (x : σ) (M : wM) (J : wJ) (H : Heap) (locs : List Loc) (ls : Array Slot), μ x < f → I x M J ls → wI D n sh ad cs A H0 M J H locs → W p l e R s m args below meth c H locs cells slots Q (F0 m pc ls []) := by
    intro f
    induction f with
    | zero => intro x M J H locs ls h; omega
    | succ f ih =>
      intro x M J H locs ls h hI hw
      exact body x M J H locs ls hI hw (fun x' M' J' H' locs' ls' hm hI' hw' => ih x' M' J' H' locs' ls' (by omega) hI' hw')
  exact key (μ x0 + 1) x0 M J H locs ls (by omega) h0 hw
end WLp
/-! ===== memory, pure ===== -/
theorem wU_at (M : wM) (k j : Nat) (v : Int32) (a b : Nat) : wU M k j v a b = if a = k ∧ b = j then v else M a b := by
  unfold wU va_up upd
  by_cases h : a = k
  · subst h
    by_cases g : b = j
    · simp [g]
    · simp [g]
  · simp [h]
/-- all cells but those of P are as they were -/
def kp (M M' : wM) (P : Nat → Prop) : Prop := ∀ c, ¬ P c → M' c = M c
theorem kp_refl (M : wM) (P : Nat → Prop) : kp M M P := fun _ _ => rfl
theorem kp_trans {M M' M'' : wM} {P : Nat → Prop} (h : kp M M' P) (g : kp M' M'' P) : kp M M'' P := fun c hc => (g c hc).trans (h c hc)
theorem kp_mono {M M' : wM} {P P' : Nat → Prop} (h : kp M M' P) (g : ∀ c, P c → P' c) : kp M M' P' := fun c hc => h c (fun q => hc (g c q))
theorem kp_U {M : wM} {k j : Nat} {v : Int32} {P : Nat → Prop} (h : P k) : kp M (wU M k j v) P := fun c hc => by
  by_cases g : c = k
  · subst g; exact absurd h hc
  · exact wU_ne g
theorem kp_up {M : wM} {k : Nat} {f : Nat → Int32} {P : Nat → Prop} (h : P k) : kp M (va_up M k f) P := fun c hc => by
  by_cases g : c = k
  · subst g; exact absurd h hc
  · exact va_up_ne _ _ g
/-- the cells of the state i -/
def stc (i : Nat) (c : Nat) : Prop := c = 3 * i ∨ c = 3 * i + 1 ∨ c = 3 * i + 2
/-- a state of the analysis: none, or lows and highs (beyond the six variables: 0) -/
abbrev aS : Type := Option ((Nat → Int32) × (Nat → Int32))
def r6 (f : Nat → Int32) : Nat → Int32 := fun v => if v < 6 then f v else 0
def sv (M : wM) (i : Nat) : aS := if M (3 * i) 0 = 0 then some (r6 (M (3 * i + 1)), r6 (M (3 * i + 2))) else none
def jn (a b : aS) : aS := match a, b with
  | none, t => t
  | t, none => t
  | some f, some g => some (r6 (fun v => i_mn (f.1 v) (g.1 v)), r6 (fun v => i_mx (f.2 v) (g.2 v)))
/-- narrowing: none if one is, else the greater lows, the smaller highs -/
def nw (a b : aS) : aS := match a, b with
  | none, _ => none
  | _, none => none
  | some f, some g => some (r6 (fun v => i_mx (f.1 v) (g.1 v)), r6 (fun v => i_mn (f.2 v) (g.2 v)))
theorem r6_lt {f : Nat → Int32} {v : Nat} (h : v < 6) : r6 f v = f v := by unfold r6; rw [if_pos h]
theorem r6_ext {f g : Nat → Int32} (h : ∀ v, v < 6 → f v = g v) : r6 f = r6 g := by
  funext v
  unfold r6
  by_cases q : v < 6
  · rw [if_pos q, if_pos q, h v q]
  · rw [if_neg q, if_neg q]
theorem sv_kp {M M' : wM} {i : Nat} {P : Nat → Prop} (h : kp M M' P) (h0 : ¬ P (3 * i)) (h1 : ¬ P (3 * i + 1)) (h2 : ¬ P (3 * i + 2)) : sv M' i = sv M i := by
  unfold sv; rw [h _ h0, h _ h1, h _ h2]
theorem sv_stc {M M' : wM} {i j : Nat} (h : kp M M' (stc i)) (hij : j ≠ i) : sv M' j = sv M j := sv_kp h (by unfold stc; omega) (by unfold stc; omega) (by unfold stc; omega)
