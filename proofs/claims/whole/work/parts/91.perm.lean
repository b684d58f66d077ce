/-! ===== what constructors make: lists of cells, up to order; references beyond an array's end don't count ===== -/
def vl (l : List Nat) (k : Nat) : Nat := l.getD k 0
def blk {α : Type} (F : Nat → List α) : Nat → List α
  | 0 => []
  | n + 1 => F n ++ blk F n
theorem blk_congr {α : Type} {F G : Nat → List α} : ∀ n, (∀ b, b < n → F b = G b) → blk F n = blk G n
  | 0, _ => rfl
  | n + 1, h => by
    show F n ++ blk F n = G n ++ blk G n
    rw [h n (by omega), blk_congr n (fun b hb => h b (by omega))]
theorem blk_perm {α : Type} {F G : Nat → List α} : ∀ n, (∀ b, b < n → (F b).Perm (G b)) → (blk F n).Perm (blk G n)
  | 0, _ => List.Perm.refl _
  | n + 1, h => (h n (by omega)).append (blk_perm n (fun b hb => h b (by omega)))
theorem blk_app {α : Type} {F G : Nat → List α} : ∀ n, (blk (fun b => F b ++ G b) n).Perm (blk F n ++ blk G n)
  | 0 => List.Perm.refl _
  | n + 1 => by
    show ((F n ++ G n) ++ blk (fun b => F b ++ G b) n).Perm ((F n ++ blk F n) ++ (G n ++ blk G n))
    rw [List.append_assoc, List.append_assoc]
    refine List.Perm.append_left _ ?_
    refine (List.Perm.append_left _ (blk_app n)).trans ?_
    exact List.perm_append_comm_assoc _ _ _
theorem blk_range {α : Type} (f : Nat → α) (k : Nat) : ∀ n, ((List.range (k * n)).map f).Perm (blk (fun b => (List.range k).map (fun j => f (k * b + j))) n)
  | 0 => by
    rw [Nat.mul_zero]
    exact List.Perm.refl _
  | n + 1 => by
    show ((List.range (k * (n + 1))).map f).Perm ((List.range k).map (fun j => f (k * n + j)) ++ blk _ n)
    rw [Nat.mul_succ, List.range_add, List.map_append, List.map_map]
    refine List.perm_append_comm.trans ?_
    exact List.Perm.append_left _ (blk_range f k n)
theorem range_cut {α : Type} (f : Nat → α) (m n : Nat) : (List.range (m + n)).map f = (List.range m).map f ++ (List.range n).map (fun k => f (m + k)) := by
  rw [List.range_add, List.map_append, List.map_map]
  rfl
theorem perm_idx {α : Type} (l : List α) (is : List Nat) (h : is.Perm (List.range l.length)) : (is.filterMap (fun i => l[i]?)).Perm l := by
  refine (h.filterMap _).trans ?_
  have e : (List.range l.length).filterMap (fun i => l[i]?) = l := by
    have key : ∀ (l : List α) (k : Nat), k ≤ l.length → (List.range k).filterMap (fun i => l[i]?) = l.take k := by
      intro l k
      induction k with
      | zero => intro _; rfl
      | succ k ih =>
        intro hk
        rw [List.range_succ, List.filterMap_append, ih (by omega), List.take_add_one]
        congr 1
    rw [key l l.length (Nat.le_refl _), List.take_length]
  rw [e]
theorem perm_idxN {α : Type} (l : List α) (n : Nat) (hn : l.length = n) (is : List Nat) (h : is.Perm (List.range n)) : (is.filterMap (fun i => l[i]?)).Perm l := perm_idx l is (by rw [hn]; exact h)
theorem perm_flat {α : Type} {L L' : List (List α)} (h : L.Perm L') : L.flatten.Perm L'.flatten := by
  induction h with
  | nil => exact List.Perm.refl _
  | cons x _ ih => exact List.Perm.append_left _ ih
  | swap x y l => exact List.perm_append_comm_assoc _ _ _
  | trans _ _ ih1 ih2 => exact ih1.trans ih2
def nfE (e : va_E) : va_E := match e with
  | .inl (c, n, .inr (.inr (.inr (.inr f)))) => .inl (c, n, .inr (.inr (.inr (.inr (fun i => if i < n then f i else none)))))
  | e => e
def nfq (q : Nat × va_E) : Nat × va_E := (q.1, nfE q.2)
theorem nf_at {D : va_G} {q : Nat × va_E} {H : Heap} (h : va_at D vwCl (nfq q) H) : va_at D vwCl q H := by
  obtain ⟨a, e⟩ := q
  match e, h with
  | .inl (c, n, .inr (.inr (.inr (.inr f)))), h =>
    have h' : H[a]? = some (vp_cell c (n, .inr (.inr (.inr (.inr (fun i => if i < n then f i else none)))))) := h
    show H[a]? = some (vp_cell c (n, .inr (.inr (.inr (.inr f)))))
    rw [h', vp_cell_q, vp_cell_q]
    unfold arrV
    congr 2
    congr 1
    funext j
    show va_rf (if j.val < n then f j.val else none) = va_rf (f j.val)
    rw [if_pos j.2]
  | .inl (c, n, .inl f), h => exact h
  | .inl (c, n, .inr (.inl f)), h => exact h
  | .inl (c, n, .inr (.inr (.inl f))), h => exact h
  | .inl (c, n, .inr (.inr (.inr (.inl f)))), h => exact h
  | .inr o, h => exact h
theorem lC_nf {D : va_G} {A : Nat → Prop} {H0 H : Heap} {ws ws' : va_W} {locs : List Loc} (h : lC D A H0 ws H locs) (p : ws.Perm (ws'.map nfq)) : lC D A H0 ws' H locs := by
  have h' := lC_perm h p
  refine ⟨fun k q hk => nf_at (h'.1 k (nfq q) (by rw [List.getElem?_map, hk]; rfl)), ⟨fun i j x y hi hj e => ?_, fun k q hk => ?_⟩, h'.2.2⟩
  · exact h'.2.1.1 i j (nfq x) (nfq y) (by rw [List.getElem?_map, hi]; rfl) (by rw [List.getElem?_map, hj]; rfl) e
  · exact h'.2.1.2 k (nfq q) (by rw [List.getElem?_map, hk]; rfl)
section OC
variable (cs : Nat → ClassId)
def oS (h : Nat → Nat) (z : Int32) : va_W := [(h 0, .inr (6, [.int z, .ref (h 1), .ref (h 2)])), (h 1, .inl (cs 0, 6, .inl (fun _ => 0))), (h 2, .inl (cs 0, 6, .inl (fun _ => 0)))]
def oB (h : Nat → Nat) : va_W := [(h 0, .inr (1, [.int (nI 0), .ref (h 1), .ref (h 2), .ref (h 3), .ref (h 4), .int (nI 0), .ref (h 5), .int (nI 0), .int (nI 0), .int (nI 0)])), (h 1, .inl (cs 0, 8, .inl (fun _ => 0))), (h 2, .inl (cs 0, 8, .inl (fun _ => 0))), (h 3, .inl (cs 0, 8, .inl (fun _ => 0))), (h 4, .inl (cs 0, 8, .inl (fun _ => 0))), (h 5, .inl (cs 0, 2, .inl (fun _ => 0)))]
def oF (h : Nat → Nat) : va_W := [(h 11, .inr (6, [.int (nI 1), .ref (h 12), .ref (h 13)])), (h 12, .inl (cs 0, 6, .inl (fun _ => 0))), (h 13, .inl (cs 0, 6, .inl (fun _ => 0))), (h 8, .inr (6, [.int (nI 1), .ref (h 9), .ref (h 10)])), (h 9, .inl (cs 0, 6, .inl (fun _ => 0))), (h 10, .inl (cs 0, 6, .inl (fun _ => 0))),
  (h 1, .inl (cs 4, 2, .inr (.inr (.inr (.inr (fun e => if e < 2 then some (h (8 + 3 * e)) else none)))))),
  (h 5, .inr (6, [.int (nI 1), .ref (h 6), .ref (h 7)])), (h 6, .inl (cs 0, 6, .inl (fun _ => 0))), (h 7, .inl (cs 0, 6, .inl (fun _ => 0))), (h 2, .inr (6, [.int (nI 1), .ref (h 3), .ref (h 4)])), (h 3, .inl (cs 0, 6, .inl (fun _ => 0))), (h 4, .inl (cs 0, 6, .inl (fun _ => 0))),
  (h 0, .inr (3, [.ref (h 2), .ref (h 5), .ref (h 1), .int (nI 0)]))]
def oT (h : Nat → Nat) : va_W := [(h 0, .inr (5, [.int (nI 2), .int (nI 1), .int (nI 0), .ref (h 1)])), (h 1, .inl (cs 0, 8, .inl (fun _ => 0)))]
def oQ (h : Nat → Nat) : va_W := [(h 0, .inr (2, [.ref (h 1), .ref (h 2), .ref (h 3), .int (nI 0), .long 0])), (h 1, .inl (cs 0, 6, .inl (fun _ => 0))), (h 2, .inl (cs 0, 300, .inl (fun _ => 0))), (h 3, .inl (cs 0, 1800, .inl (fun _ => 0)))]
def rA (i : Nat) (g : Nat → Nat → Nat) : Nat → Option Nat := fun j => if j < i then some (g j 0) else none
def oP5 (h : Nat → Nat) (g : Nat → Nat → Nat) (i : Nat) (z : Int32) : va_W := [(h 2, .inr (6, [.int z, .ref (h 3), .ref (h 4)])), (h 3, .inl (cs 0, 6, .inl (fun _ => 0))), (h 4, .inl (cs 0, 6, .inl (fun _ => 0))), (h 1, .inl (cs 2, 16, .inr (.inr (.inr (.inr (rA i g)))))), (h 0, .inr (4, [.ref (h 1), .ref (h 2), .int (nI 1)]))]
def oP (h : Nat → Nat) (g : Nat → Nat → Nat) (i : Nat) (z : Int32) : va_W := oP5 cs h g i z ++ blk (fun b => oB cs (g b)) i
def oA8 (h : Nat → Nat) (g : Nat → Nat → Nat) (i : Nat) : va_W := [(h 5, .inr (6, [.int (nI 1), .ref (h 6), .ref (h 7)])), (h 6, .inl (cs 0, 6, .inl (fun _ => 0))), (h 7, .inl (cs 0, 6, .inl (fun _ => 0))), (h 2, .inr (6, [.int (nI 1), .ref (h 3), .ref (h 4)])), (h 3, .inl (cs 0, 6, .inl (fun _ => 0))), (h 4, .inl (cs 0, 6, .inl (fun _ => 0))), (h 1, .inl (cs 3, 16, .inr (.inr (.inr (.inr (rA i g)))))), (h 0, .inr (0, [.ref (h 1), .ref (h 2), .ref (h 5)]))]
def oA (h : Nat → Nat) (g : Nat → Nat → Nat) (i : Nat) : va_W := oA8 cs h g i ++ blk (fun b => oF cs (g b)) i
def isS (q : Nat) (w : va_W) : Prop := ∃ h : Nat → Nat, h 0 = q ∧ w = oS cs h (nI 1)
def isB (q : Nat) (w : va_W) : Prop := ∃ h : Nat → Nat, h 0 = q ∧ w = oB cs h
def isF (q : Nat) (w : va_W) : Prop := ∃ h : Nat → Nat, h 0 = q ∧ w = oF cs h
def isT (q : Nat) (w : va_W) : Prop := ∃ h : Nat → Nat, h 0 = q ∧ w = oT cs h
def isQ (q : Nat) (w : va_W) : Prop := ∃ h : Nat → Nat, h 0 = q ∧ w = oQ cs h
def isP (q : Nat) (w : va_W) : Prop := ∃ (h : Nat → Nat) (g : Nat → Nat → Nat), h 0 = q ∧ w = oP cs h g 16 (nI 0)
def isA (q : Nat) (w : va_W) : Prop := ∃ (h : Nat → Nat) (g : Nat → Nat → Nat), h 0 = q ∧ w = oA cs h g 16
end OC
theorem rA_up {i : Nat} {g : Nat → Nat → Nat} {hb : Nat → Nat} : va_up (rA i g) i (some (hb 0)) = rA (i + 1) (va_up g i hb) := by
  funext j
  unfold rA
  by_cases h : j = i
  · subst h
    rw [va_up_self, if_pos (by omega), va_up_self]
  · rw [va_up_ne _ _ h, va_up_ne _ _ h]
    by_cases z : j < i
    · rw [if_pos z, if_pos (by omega)]
    · rw [if_neg z, if_neg (by omega)]
theorem blk_up {F : (Nat → Nat) → va_W} {i : Nat} {g : Nat → Nat → Nat} {hb : Nat → Nat} : blk (fun b => F (va_up g i hb b)) (i + 1) = F hb ++ blk (fun b => F (g b)) i := by
  show F (va_up g i hb i) ++ _ = _
  rw [va_up_self, blk_congr i (fun b hb' => by rw [va_up_ne _ _ (by omega)])]
theorem rA_0 {g : Nat → Nat → Nat} : rA 0 g = fun _ => none := by
  funext j
  unfold rA
  rw [if_neg (by omega)]
