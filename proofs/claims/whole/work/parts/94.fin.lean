/-! ===== what RangePropagator() and RangePropagatorModel() make, as index worlds ===== -/
def M0c : wM := fun k j => if k = 330 ∧ j = 2 then nI 1 else if k = 332 ∧ j = 0 then nI 2 else if k = 332 ∧ j = 1 then nI 1 else if (3 ≤ k ∧ k < 201 ∧ k % 3 = 0) ∧ j = 0 then nI 1 else 0
def M0m : wM := fun k => if k = 0 then fun j => ([0, nI 1, 0, 0, 0, 0, 0, 0, 0, 0, 0, 0, nI 2, nI 1] : List Int32).getD j 0 else fun _ => 0
theorem M0_0 {k : Nat} (h : k ≠ 330) (h2 : k ≠ 332) (h3 : ¬ (3 ≤ k ∧ k < 201 ∧ k % 3 = 0)) : M0c k = fun _ => 0 := by
  funext j
  unfold M0c
  rw [if_neg (fun z => h z.1), if_neg (fun z => h2 z.1), if_neg (fun z => h2 z.1), if_neg (fun z => h3 z.1)]
theorem M0_1 {k : Nat} (h : 3 ≤ k ∧ k < 201 ∧ k % 3 = 0) : M0c k 0 = nI 1 := by
  unfold M0c
  rw [if_neg (by omega), if_neg (by omega), if_neg (by omega), if_pos ⟨h, rfl⟩]
def fl14 (cs : Nat → ClassId) (h : Nat → Nat) : va_W := [(h 0, .inr (3, [.ref (h 2), .ref (h 5), .ref (h 1), .int (nI 0)])), (h 1, .inl (cs 4, 2, .inr (.inr (.inr (.inr (fun e => if e < 2 then some (h (8 + 3 * e)) else none)))))),
    (h 2, .inr (6, [.int (nI 1), .ref (h 3), .ref (h 4)])), (h 3, .inl (cs 0, 6, .inl (fun _ => 0))), (h 4, .inl (cs 0, 6, .inl (fun _ => 0))), (h 5, .inr (6, [.int (nI 1), .ref (h 6), .ref (h 7)])), (h 6, .inl (cs 0, 6, .inl (fun _ => 0))), (h 7, .inl (cs 0, 6, .inl (fun _ => 0))),
    (h 8, .inr (6, [.int (nI 1), .ref (h 9), .ref (h 10)])), (h 9, .inl (cs 0, 6, .inl (fun _ => 0))), (h 10, .inl (cs 0, 6, .inl (fun _ => 0))), (h 11, .inr (6, [.int (nI 1), .ref (h 12), .ref (h 13)])), (h 12, .inl (cs 0, 6, .inl (fun _ => 0))), (h 13, .inl (cs 0, 6, .inl (fun _ => 0)))]
section FX
variable (cs : Nat → ClassId) (q : Nat) (hP : Nat → Nat) (gP : Nat → Nat → Nat) (hT hA : Nat → Nat) (gA : Nat → Nat → Nat) (hQ : Nat → Nat)
def adX : Nat → Nat := fun k => if k < 3 then hP (2 + k) else if k < 6 then hA (2 + (k - 3)) else if k < 9 then hA (5 + (k - 6)) else if k < 201 then gA ((k - 9) / 12) (2 + (k - 9) % 12) else if k < 297 then gP ((k - 201) / 6) ((k - 201) % 6) else if k < 329 then gA ((k - 297) / 2) ((k - 297) % 2) else vl [q, hP 0, hP 1, hT 0, hT 1, hA 0, hA 1, hQ 0, hQ 1, hQ 2, hQ 3] (k - 329)
theorem ad_B {b j k : Nat} (hb : b < 16) (hj : j < 6) (e : k = 201 + 6 * b + j) : adX q hP gP hT hA gA hQ k = gP b j := by
  subst e
  unfold adX
  rw [if_neg (by omega), if_neg (by omega), if_neg (by omega), if_neg (by omega), if_pos (by omega), show (201 + 6 * b + j - 201) / 6 = b by omega, show (201 + 6 * b + j - 201) % 6 = j by omega]
theorem ad_F {b j k : Nat} (hb : b < 16) (hj : j < 2) (e : k = 297 + 2 * b + j) : adX q hP gP hT hA gA hQ k = gA b j := by
  subst e
  unfold adX
  rw [if_neg (by omega), if_neg (by omega), if_neg (by omega), if_neg (by omega), if_neg (by omega), if_pos (by omega), show (297 + 2 * b + j - 297) / 2 = b by omega, show (297 + 2 * b + j - 297) % 2 = j by omega]
theorem ad_S {b j k : Nat} (hb : b < 16) (hj : j < 12) (e : k = 9 + 12 * b + j) : adX q hP gP hT hA gA hQ k = gA b (2 + j) := by
  subst e
  unfold adX
  rw [if_neg (by omega), if_neg (by omega), if_neg (by omega), if_pos (by omega), show (9 + 12 * b + j - 9) / 12 = b by omega, show (9 + 12 * b + j - 9) % 12 = j by omega]
def fK (k : Nat) : Nat × va_E := nfq (adX q hP gP hT hA gA hQ k, wE cSh (adX q hP gP hT hA gA hQ) cs M0c (fun _ => 0) k)
theorem fB {b : Nat} (hb : b < 16) : (List.range 6).map (fun j => fK cs q hP gP hT hA gA hQ (201 + (6 * b + j))) = oB cs (gP b) := by
  show [fK cs q hP gP hT hA gA hQ (201 + (6 * b + 0)), fK cs q hP gP hT hA gA hQ (201 + (6 * b + 1)), fK cs q hP gP hT hA gA hQ (201 + (6 * b + 2)), fK cs q hP gP hT hA gA hQ (201 + (6 * b + 3)), fK cs q hP gP hT hA gA hQ (201 + (6 * b + 4)), fK cs q hP gP hT hA gA hQ (201 + (6 * b + 5))] = _
  have e0 : fK cs q hP gP hT hA gA hQ (201 + (6 * b + 0)) = (gP b 0, .inr (1, [.int (nI 0), .ref (gP b 1), .ref (gP b 2), .ref (gP b 3), .ref (gP b 4), .int (nI 0), .ref (gP b 5), .int (nI 0), .int (nI 0), .int (nI 0)])) := by
    unfold fK
    rw [show 201 + (6 * b + 0) = 201 + 6 * b by omega, wE_o (cs_B hb), ad_B q hP gP hT hA gA hQ hb (j := 0) (by omega) (by omega), M0_0 (by omega) (by omega) (by omega)]
    show (gP b 0, Sum.inr (1, [Value.int 0, Value.ref (adX q hP gP hT hA gA hQ (201 + 6 * b + 1)), Value.ref (adX q hP gP hT hA gA hQ (201 + 6 * b + 2)), Value.ref (adX q hP gP hT hA gA hQ (201 + 6 * b + 3)), Value.ref (adX q hP gP hT hA gA hQ (201 + 6 * b + 4)), Value.int 0, Value.ref (adX q hP gP hT hA gA hQ (201 + 6 * b + 5)), Value.int 0, Value.int 0, Value.int 0])) = _
    rw [ad_B q hP gP hT hA gA hQ hb (j := 1) (by omega) (by omega), ad_B q hP gP hT hA gA hQ hb (j := 2) (by omega) (by omega), ad_B q hP gP hT hA gA hQ hb (j := 3) (by omega) (by omega), ad_B q hP gP hT hA gA hQ hb (j := 4) (by omega) (by omega), ad_B q hP gP hT hA gA hQ hb (j := 5) (by omega) (by omega), nI_0]
  have ea : ∀ (j n : Nat), j < 6 → cSh (201 + 6 * b + j) = .inl (0, n) → fK cs q hP gP hT hA gA hQ (201 + (6 * b + j)) = (gP b j, .inl (cs 0, n, .inl (fun _ => 0))) := by
    intro j n hj hs
    have hne : j ≠ 0 := by
      intro z
      subst z
      rw [show 201 + 6 * b + 0 = 201 + 6 * b by omega, cs_B hb] at hs
      cases hs
    unfold fK
    rw [show 201 + (6 * b + j) = 201 + 6 * b + j by omega, wE_i hs, ad_B q hP gP hT hA gA hQ hb hj rfl, M0_0 (by omega) (by omega) (by omega)]
    rfl
  rw [e0, ea 1 8 (by omega) (cs_B1 hb), ea 2 8 (by omega) (cs_B2 hb), ea 3 8 (by omega) (cs_B3 hb), ea 4 8 (by omega) (cs_B4 hb), ea 5 2 (by omega) (cs_B5 hb)]
  rfl
/-- a state of a flow -/
theorem fS {b i : Nat} (hb : b < 16) (hi : i < 4) : fK cs q hP gP hT hA gA hQ (9 + (12 * b + 3 * i)) = (gA b (2 + 3 * i), .inr (6, [.int (nI 1), .ref (gA b (2 + (3 * i + 1))), .ref (gA b (2 + (3 * i + 2)))])) ∧ fK cs q hP gP hT hA gA hQ (9 + (12 * b + (3 * i + 1))) = (gA b (2 + (3 * i + 1)), .inl (cs 0, 6, .inl (fun _ => 0))) ∧ fK cs q hP gP hT hA gA hQ (9 + (12 * b + (3 * i + 2))) = (gA b (2 + (3 * i + 2)), .inl (cs 0, 6, .inl (fun _ => 0))) := by
  have hx : 3 + 4 * b + i < 67 := by omega
  refine ⟨?_, ?_, ?_⟩
  · unfold fK
    rw [ad_S q hP gP hT hA gA hQ hb (j := 3 * i) (by omega) (by omega), show 9 + (12 * b + 3 * i) = 3 * (3 + 4 * b + i) by omega, wE_o (cs_S hx)]
    show (gA b (2 + 3 * i), Sum.inr (6, [Value.int (M0c (3 * (3 + 4 * b + i)) 0), Value.ref (adX q hP gP hT hA gA hQ (3 * (3 + 4 * b + i) + 1)), Value.ref (adX q hP gP hT hA gA hQ (3 * (3 + 4 * b + i) + 2))])) = _
    rw [M0_1 (by omega), ad_S q hP gP hT hA gA hQ hb (j := 3 * i + 1) (by omega) (by omega), ad_S q hP gP hT hA gA hQ hb (j := 3 * i + 2) (by omega) (by omega)]
  · unfold fK
    rw [ad_S q hP gP hT hA gA hQ hb (j := 3 * i + 1) (by omega) (by omega), show 9 + (12 * b + (3 * i + 1)) = 3 * (3 + 4 * b + i) + 1 by omega, wE_i (cs_SL hx), M0_0 (by omega) (by omega) (by omega)]
    rfl
  · unfold fK
    rw [ad_S q hP gP hT hA gA hQ hb (j := 3 * i + 2) (by omega) (by omega), show 9 + (12 * b + (3 * i + 2)) = 3 * (3 + 4 * b + i) + 2 by omega, wE_i (cs_SH hx), M0_0 (by omega) (by omega) (by omega)]
    rfl
theorem fF {b : Nat} (hb : b < 16) : (oF cs (gA b)).Perm ((List.range 2).map (fun j => fK cs q hP gP hT hA gA hQ (297 + (2 * b + j))) ++ (List.range 12).map (fun j => fK cs q hP gP hT hA gA hQ (9 + (12 * b + j)))) := by
  have e0 : fK cs q hP gP hT hA gA hQ (297 + (2 * b + 0)) = (gA b 0, .inr (3, [.ref (gA b 2), .ref (gA b 5), .ref (gA b 1), .int (nI 0)])) := by
    unfold fK
    rw [show 297 + (2 * b + 0) = 297 + 2 * b by omega, wE_o (cs_F hb), ad_F q hP gP hT hA gA hQ hb (j := 0) (by omega) (by omega), M0_0 (by omega) (by omega) (by omega)]
    show (gA b 0, Sum.inr (3, [Value.ref (adX q hP gP hT hA gA hQ (3 * (3 + 4 * b))), Value.ref (adX q hP gP hT hA gA hQ (3 * (4 + 4 * b))), Value.ref (adX q hP gP hT hA gA hQ (297 + 2 * b + 1)), Value.int 0])) = _
    rw [ad_S q hP gP hT hA gA hQ hb (j := 0) (by omega) (by omega), ad_S q hP gP hT hA gA hQ hb (j := 3) (by omega) (by omega), ad_F q hP gP hT hA gA hQ hb (j := 1) (by omega) (by omega), nI_0]
  have e1 : fK cs q hP gP hT hA gA hQ (297 + (2 * b + 1)) = (gA b 1, .inl (cs 4, 2, .inr (.inr (.inr (.inr (fun e => if e < 2 then some (gA b (8 + 3 * e)) else none)))))) := by
    unfold fK
    rw [show 297 + (2 * b + 1) = 297 + 2 * b + 1 by omega, wE_r (cs_FE hb), ad_F q hP gP hT hA gA hQ hb (j := 1) (by omega) (by omega)]
    have ef : (fun i : Nat => if i < 2 then some (adX q hP gP hT hA gA hQ (3 * (5 + 4 * b + i))) else none) = fun e => if e < 2 then some (gA b (8 + 3 * e)) else none := by
      funext i
      by_cases z : i < 2
      · rw [if_pos z, if_pos z, ad_S q hP gP hT hA gA hQ hb (j := 6 + 3 * i) (by omega) (by omega), show 2 + (6 + 3 * i) = 8 + 3 * i by omega]
      · rw [if_neg z, if_neg z]
    show (gA b 1, Sum.inl (cs 4, 2, Sum.inr (Sum.inr (Sum.inr (Sum.inr (fun i : Nat => if i < 2 then some (adX q hP gP hT hA gA hQ (3 * (5 + 4 * b + i))) else none)))))) = _
    rw [ef]
  have s0 := fS cs q hP gP hT hA gA hQ hb (i := 0) (by omega)
  have s1 := fS cs q hP gP hT hA gA hQ hb (i := 1) (by omega)
  have s2 := fS cs q hP gP hT hA gA hQ hb (i := 2) (by omega)
  have s3 := fS cs q hP gP hT hA gA hQ hb (i := 3) (by omega)
  have eT : (List.range 2).map (fun j => fK cs q hP gP hT hA gA hQ (297 + (2 * b + j))) ++ (List.range 12).map (fun j => fK cs q hP gP hT hA gA hQ (9 + (12 * b + j))) = fl14 cs (gA b) := by
    show [fK cs q hP gP hT hA gA hQ (297 + (2 * b + 0)), fK cs q hP gP hT hA gA hQ (297 + (2 * b + 1)), fK cs q hP gP hT hA gA hQ (9 + (12 * b + 3 * 0)), fK cs q hP gP hT hA gA hQ (9 + (12 * b + (3 * 0 + 1))), fK cs q hP gP hT hA gA hQ (9 + (12 * b + (3 * 0 + 2))), fK cs q hP gP hT hA gA hQ (9 + (12 * b + 3 * 1)), fK cs q hP gP hT hA gA hQ (9 + (12 * b + (3 * 1 + 1))), fK cs q hP gP hT hA gA hQ (9 + (12 * b + (3 * 1 + 2))), fK cs q hP gP hT hA gA hQ (9 + (12 * b + 3 * 2)), fK cs q hP gP hT hA gA hQ (9 + (12 * b + (3 * 2 + 1))), fK cs q hP gP hT hA gA hQ (9 + (12 * b + (3 * 2 + 2))), fK cs q hP gP hT hA gA hQ (9 + (12 * b + 3 * 3)), fK cs q hP gP hT hA gA hQ (9 + (12 * b + (3 * 3 + 1))), fK cs q hP gP hT hA gA hQ (9 + (12 * b + (3 * 3 + 2)))] = _
    rw [e0, e1, s0.1, s0.2.1, s0.2.2, s1.1, s1.2.1, s1.2.2, s2.1, s2.2.1, s2.2.2, s3.1, s3.2.1, s3.2.2]
    rfl
  rw [eT]
  exact perm_idxN (fl14 cs (gA b)) 14 rfl [11, 12, 13, 8, 9, 10, 1, 5, 6, 7, 2, 3, 4, 0] (by decide)
theorem fPB : (fun i : Nat => if i < 16 then some (adX q hP gP hT hA gA hQ (201 + 6 * i)) else none) = rA 16 gP := by
  funext i
  unfold rA
  by_cases z : i < 16
  · rw [if_pos z, if_pos z, ad_B q hP gP hT hA gA hQ z (j := 0) (by omega) (by omega)]
  · rw [if_neg z, if_neg z]
theorem fAF : (fun i : Nat => if i < 16 then some (adX q hP gP hT hA gA hQ (297 + 2 * i)) else none) = rA 16 gA := by
  funext i
  unfold rA
  by_cases z : i < 16
  · rw [if_pos z, if_pos z, ad_F q hP gP hT hA gA hQ z (j := 0) (by omega) (by omega)]
  · rw [if_neg z, if_neg z]
def l9 : va_W := [(hP 2, .inr (6, [.int (nI 0), .ref (hP 3), .ref (hP 4)])), (hP 3, .inl (cs 0, 6, .inl (fun _ => 0))), (hP 4, .inl (cs 0, 6, .inl (fun _ => 0))), (hA 2, .inr (6, [.int (nI 1), .ref (hA 3), .ref (hA 4)])), (hA 3, .inl (cs 0, 6, .inl (fun _ => 0))), (hA 4, .inl (cs 0, 6, .inl (fun _ => 0))), (hA 5, .inr (6, [.int (nI 1), .ref (hA 6), .ref (hA 7)])), (hA 6, .inl (cs 0, 6, .inl (fun _ => 0))), (hA 7, .inl (cs 0, 6, .inl (fun _ => 0)))]
def l11 : va_W := [(q, .inr (7, [.ref (hP 0), .ref (hT 0), .ref (hA 0), .ref (hQ 0), .int (nI 0)])), (hP 0, .inr (4, [.ref (hP 1), .ref (hP 2), .int (nI 1)])), (hP 1, .inl (cs 2, 16, .inr (.inr (.inr (.inr (rA 16 gP)))))), (hT 0, .inr (5, [.int (nI 2), .int (nI 1), .int (nI 0), .ref (hT 1)])), (hT 1, .inl (cs 0, 8, .inl (fun _ => 0))), (hA 0, .inr (0, [.ref (hA 1), .ref (hA 2), .ref (hA 5)])), (hA 1, .inl (cs 3, 16, .inr (.inr (.inr (.inr (rA 16 gA)))))), (hQ 0, .inr (2, [.ref (hQ 1), .ref (hQ 2), .ref (hQ 3), .int (nI 0), .long 0])), (hQ 1, .inl (cs 0, 6, .inl (fun _ => 0))), (hQ 2, .inl (cs 0, 300, .inl (fun _ => 0))), (hQ 3, .inl (cs 0, 1800, .inl (fun _ => 0)))]
theorem f9 : (List.range 9).map (fK cs q hP gP hT hA gA hQ) = l9 cs hP hA := rfl
theorem f11 : (List.range 11).map (fun k => fK cs q hP gP hT hA gA hQ (329 + k)) = l11 cs q hP gP hT hA gA hQ := by
  unfold l11
  rw [← fPB q hP gP hT hA gA hQ, ← fAF q hP gP hT hA gA hQ]
  rfl
theorem f20 : (([(hQ 0, .inr (2, [.ref (hQ 1), .ref (hQ 2), .ref (hQ 3), .int (nI 0), .long 0])), (hQ 1, .inl (cs 0, 6, .inl (fun _ => 0))), (hQ 2, .inl (cs 0, 300, .inl (fun _ => 0))), (hQ 3, .inl (cs 0, 1800, .inl (fun _ => 0))), (hT 0, .inr (5, [.int (nI 2), .int (nI 1), .int (nI 0), .ref (hT 1)])), (hT 1, .inl (cs 0, 8, .inl (fun _ => 0))), (q, .inr (7, [.ref (hP 0), .ref (hT 0), .ref (hA 0), .ref (hQ 0), .int (nI 0)]))] : va_W) ++ (oA8 cs hA gA 16 ++ oP5 cs hP gP 16 (nI 0))).Perm (l9 cs hP hA ++ l11 cs q hP gP hT hA gA hQ) :=
  perm_idxN (l9 cs hP hA ++ l11 cs q hP gP hT hA gA hQ) 20 rfl [16, 17, 18, 19, 12, 13, 9, 6, 7, 8, 3, 4, 5, 15, 14, 0, 1, 2, 11, 10] (by decide)
theorem fin_perm : (([(hQ 0, .inr (2, [.ref (hQ 1), .ref (hQ 2), .ref (hQ 3), .int (nI 0), .long 0])), (hQ 1, .inl (cs 0, 6, .inl (fun _ => 0))), (hQ 2, .inl (cs 0, 300, .inl (fun _ => 0))), (hQ 3, .inl (cs 0, 1800, .inl (fun _ => 0))), (hT 0, .inr (5, [.int (nI 2), .int (nI 1), .int (nI 0), .ref (hT 1)])), (hT 1, .inl (cs 0, 8, .inl (fun _ => 0))), (q, .inr (7, [.ref (hP 0), .ref (hT 0), .ref (hA 0), .ref (hQ 0), .int (nI 0)]))] : va_W) ++ (oA cs hA gA 16 ++ oP cs hP gP 16 (nI 0))).Perm ((wW 340 cSh (adX q hP gP hT hA gA hQ) cs M0c (fun _ => 0)).map nfq) := by
  have eR : (wW 340 cSh (adX q hP gP hT hA gA hQ) cs M0c (fun _ => 0)).map nfq = (List.range (9 + (192 + (96 + (32 + 11))))).map (fK cs q hP gP hT hA gA hQ) := by
    unfold wW
    rw [List.map_map]
    rfl
  rw [eR, range_cut, range_cut, range_cut, range_cut]
  have p192 := blk_range (fun k => fK cs q hP gP hT hA gA hQ (9 + k)) 12 16
  have p96 := blk_range (fun k => fK cs q hP gP hT hA gA hQ (9 + (192 + k))) 6 16
  have p32 := blk_range (fun k => fK cs q hP gP hT hA gA hQ (9 + (192 + (96 + k)))) 2 16
  have pF := blk_perm 16 (fun b hb => fF cs q hP gP hT hA gA hQ hb)
  have pF2 := pF.trans (blk_app 16)
  have e96 : blk (fun b => (List.range 6).map (fun j => fK cs q hP gP hT hA gA hQ (9 + (192 + (6 * b + j))))) 16 = blk (fun b => oB cs (gP b)) 16 := blk_congr 16 (fun b hb => by
    rw [← fB cs q hP gP hT hA gA hQ hb]
    refine List.map_congr_left (fun j _ => ?_)
    rw [show 9 + (192 + (6 * b + j)) = 201 + (6 * b + j) by omega])
  have e32 : blk (fun b => (List.range 2).map (fun j => fK cs q hP gP hT hA gA hQ (9 + (192 + (96 + (2 * b + j)))))) 16 = blk (fun b => (List.range 2).map (fun j => fK cs q hP gP hT hA gA hQ (297 + (2 * b + j)))) 16 := blk_congr 16 (fun b hb => by
    refine List.map_congr_left (fun j _ => ?_)
    rw [show 9 + (192 + (96 + (2 * b + j))) = 297 + (2 * b + j) by omega])
  have e11 : (List.range 11).map (fun k => fK cs q hP gP hT hA gA hQ (9 + (192 + (96 + (32 + k))))) = l11 cs q hP gP hT hA gA hQ := by
    rw [← f11 cs q hP gP hT hA gA hQ]
    refine List.map_congr_left (fun j _ => ?_)
    rw [show 9 + (192 + (96 + (32 + j))) = 329 + j by omega]
  rw [e96] at p96
  rw [e32] at p32
  rw [e11, f9]
  refine List.Perm.trans ?_ ((List.Perm.append_left _ ((p192.append (p96.append (p32.append (List.Perm.refl _)))))).symm)
  have h20 := f20 cs q hP gP hT hA gA hQ
  unfold oA oP
  generalize oA8 cs hA gA 16 = a8 at h20 ⊢
  generalize oP5 cs hP gP 16 (nI 0) = p5 at h20 ⊢
  generalize ([(hQ 0, Sum.inr (2, [Value.ref (hQ 1), Value.ref (hQ 2), Value.ref (hQ 3), Value.int (nI 0), Value.long 0])), (hQ 1, Sum.inl (cs 0, 6, Sum.inl (fun _ => 0))), (hQ 2, Sum.inl (cs 0, 300, Sum.inl (fun _ => 0))), (hQ 3, Sum.inl (cs 0, 1800, Sum.inl (fun _ => 0))), (hT 0, Sum.inr (5, [Value.int (nI 2), Value.int (nI 1), Value.int (nI 0), Value.ref (hT 1)])), (hT 1, Sum.inl (cs 0, 8, Sum.inl (fun _ => 0))), (q, Sum.inr (7, [Value.ref (hP 0), Value.ref (hT 0), Value.ref (hA 0), Value.ref (hQ 0), Value.int (nI 0)]))] : va_W) = x7 at h20 ⊢
  generalize blk (fun b => oB cs (gP b)) 16 = bB
  generalize l9 cs hP hA = m9 at h20 ⊢
  generalize l11 cs q hP gP hT hA gA hQ = m11 at h20 ⊢
  refine List.Perm.trans (l₂ := (x7 ++ (a8 ++ p5)) ++ (blk (fun b => oF cs (gA b)) 16 ++ bB)) ?_ ?_
  · have := perm_flat (perm_idxN [x7, a8, p5, blk (fun b => oF cs (gA b)) 16, bB] 5 rfl [0, 1, 3, 2, 4] (by decide))
    simpa [List.flatten, List.append_assoc] using this
  · refine (h20.append (pF2.append (List.Perm.refl bB))).trans ?_
    generalize blk (fun b => (List.range 2).map (fun j => fK cs q hP gP hT hA gA hQ (297 + (2 * b + j)))) 16 = b2
    generalize blk (fun b => (List.range 12).map (fun j => fK cs q hP gP hT hA gA hQ (9 + (12 * b + j)))) 16 = b12
    have := perm_flat (perm_idxN [m9, b12, bB, b2, m11] 5 rfl [0, 4, 3, 1, 2] (by decide))
    simpa [List.flatten, List.append_assoc] using this
end FX
