/-! ===== the digest, pure ===== -/
def dgP (M : wM) (d : Int64) : Nat → Int64
  | 0 => d
  | b + 1 => (dgP M d b * 31 + (M (201 + 6 * b) 0).toInt64) * 31 + (M (201 + 6 * b) 5).toInt64
def dgR (M : wM) (i : Nat) (d : Int64) : Nat → Int64
  | 0 => d
  | v + 1 => (dgR M i d v * 31 + (M (3 * i + 1) v).toInt64) * 31 + (M (3 * i + 2) v).toInt64
def dgA (M : wM) (d : Int64) : Nat → Int64
  | 0 => d
  | b + 1 => if M (3 * (3 + 4 * b)) 0 = 0 then dgR M (3 + 4 * b) (dgA M d b * 31 + (M (297 + 2 * b) 3).toInt64) 6 else dgA M d b * 31 + (M (297 + 2 * b) 3).toInt64
def dgV (M : wM) (d : Int64) : Nat → Int64
  | 0 => d
  | v + 1 => dgV M d v * 31 + (M 337 v).toInt64
theorem dgA_1 {M : wM} {d : Int64} {b : Nat} (h : M (3 * (3 + 4 * b)) 0 = 0) : dgA M d (b + 1) = dgR M (3 + 4 * b) (dgA M d b * 31 + (M (297 + 2 * b) 3).toInt64) 6 := by
  show (if M (3 * (3 + 4 * b)) 0 = 0 then dgR M (3 + 4 * b) (dgA M d b * 31 + (M (297 + 2 * b) 3).toInt64) 6 else dgA M d b * 31 + (M (297 + 2 * b) 3).toInt64) = _
  rw [if_pos h]
theorem dgA_2 {M : wM} {d : Int64} {b : Nat} (h : ¬ M (3 * (3 + 4 * b)) 0 = 0) : dgA M d (b + 1) = dgA M d b * 31 + (M (297 + 2 * b) 3).toInt64 := by
  show (if M (3 * (3 + 4 * b)) 0 = 0 then dgR M (3 + 4 * b) (dgA M d b * 31 + (M (297 + 2 * b) 3).toInt64) 6 else dgA M d b * 31 + (M (297 + 2 * b) 3).toInt64) = _
  rw [if_neg h]
def dg1 (M : wM) (cnt : Nat) : Int64 := ((dgP M (89 * 31 + (nI cnt).toInt64) cnt * 31 + (M 332 0).toInt64) * 31 + (M 332 1).toInt64) * 31 + (M 332 2).toInt64
def dgX (M : wM) (cnt : Nat) : Int64 := dgV M (if M 329 4 = 0 then dg1 M cnt else dgA M (dg1 M cnt) cnt) 6
def pAn (M : wM) (J : wJ) (cnt t n : Nat) (r : Int32) (u : wM × wJ) : Prop := u.2 = J ∧ r = nI (its M cnt t 1000000 (fun _ => none, fun _ => nI 0)).1 ∧ ∃ M', AN M M' (nrR M cnt n (its M cnt t 1000000 (fun _ => none, fun _ => nI 0)).2.1) (its M cnt t 1000000 (fun _ => none, fun _ => nI 0)).2.2 ∧ u.1 = wU M' 329 4 (nI 1)
