/-! ===== the two programs; both analyses are the same: pure ===== -/
def ssS (M N : wM) (b a : Nat) : Prop := kdE (M (201 + 6 * b + 1) a) (N 2 (4 * ((8 * b) + a))) ∧ M (201 + 6 * b + 2) a = N 2 (4 * ((8 * b) + a) + 1) ∧ M (201 + 6 * b + 3) a = N 2 (4 * ((8 * b) + a) + 2) ∧ M (201 + 6 * b + 4) a = N 2 (4 * ((8 * b) + a) + 3) ∧ isV (N 2 (4 * ((8 * b) + a) + 1)) ∧ soR (N 2 (4 * ((8 * b) + a))) (N 2 (4 * ((8 * b) + a) + 2)) (N 2 (4 * ((8 * b) + a) + 3))
def bkS (M N : wM) (cnt b : Nat) : Prop := (M (201 + 6 * b) 0 = N 1 b) ∧ (M (201 + 6 * b) 5 = N 3 b) ∧ (N 1 b = nI (tn (N 1 b))) ∧ (tn (N 1 b) ≤ 8) ∧ (N 3 b = nI (tn (N 3 b))) ∧ (tn (N 3 b) ≤ 2) ∧ (cnt ≤ b → N 1 b = nI 0 ∧ N 3 b = nI 0) ∧ (∀ a, a < tn (N 1 b) → ssS M N b a) ∧ (1 ≤ tn (N 3 b) → M (201 + 6 * b + 5) 0 = N 4 b ∧ inB (N 4 b) cnt) ∧ (2 ≤ tn (N 3 b) → M (201 + 6 * b + 5) 1 = N 5 b ∧ inB (N 5 b) cnt ∧ M (201 + 6 * b) 7 = N 6 b ∧ M (201 + 6 * b) 8 = N 7 b ∧ M (201 + 6 * b) 9 = N 8 b) ∧ (isV (N 6 b)) ∧ (isV (N 7 b)) ∧ (inB (N 8 b) 4)
theorem bkS.sz {M N : wM} {cnt b : Nat} (h : bkS M N cnt b) : M (201 + 6 * b) 0 = N 1 b := h.1
theorem bkS.ed {M N : wM} {cnt b : Nat} (h : bkS M N cnt b) : M (201 + 6 * b) 5 = N 3 b := h.2.1
theorem bkS.szn {M N : wM} {cnt b : Nat} (h : bkS M N cnt b) : N 1 b = nI (tn (N 1 b)) := h.2.2.1
theorem bkS.sz8 {M N : wM} {cnt b : Nat} (h : bkS M N cnt b) : tn (N 1 b) ≤ 8 := h.2.2.2.1
theorem bkS.edn {M N : wM} {cnt b : Nat} (h : bkS M N cnt b) : N 3 b = nI (tn (N 3 b)) := h.2.2.2.2.1
theorem bkS.ed2 {M N : wM} {cnt b : Nat} (h : bkS M N cnt b) : tn (N 3 b) ≤ 2 := h.2.2.2.2.2.1
theorem bkS.emp {M N : wM} {cnt b : Nat} (h : bkS M N cnt b) : cnt ≤ b → N 1 b = nI 0 ∧ N 3 b = nI 0 := h.2.2.2.2.2.2.1
theorem bkS.sts {M N : wM} {cnt b : Nat} (h : bkS M N cnt b) : ∀ a, a < tn (N 1 b) → ssS M N b a := h.2.2.2.2.2.2.2.1
theorem bkS.f0 {M N : wM} {cnt b : Nat} (h : bkS M N cnt b) : 1 ≤ tn (N 3 b) → M (201 + 6 * b + 5) 0 = N 4 b ∧ inB (N 4 b) cnt := h.2.2.2.2.2.2.2.2.1
theorem bkS.f1 {M N : wM} {cnt b : Nat} (h : bkS M N cnt b) : 2 ≤ tn (N 3 b) → M (201 + 6 * b + 5) 1 = N 5 b ∧ inB (N 5 b) cnt ∧ M (201 + 6 * b) 7 = N 6 b ∧ M (201 + 6 * b) 8 = N 7 b ∧ M (201 + 6 * b) 9 = N 8 b := h.2.2.2.2.2.2.2.2.2.1
theorem bkS.vx {M N : wM} {cnt b : Nat} (h : bkS M N cnt b) : isV (N 6 b) := h.2.2.2.2.2.2.2.2.2.2.1
theorem bkS.vy {M N : wM} {cnt b : Nat} (h : bkS M N cnt b) : isV (N 7 b) := h.2.2.2.2.2.2.2.2.2.2.2.1
theorem bkS.vr {M N : wM} {cnt b : Nat} (h : bkS M N cnt b) : inB (N 8 b) 4 := h.2.2.2.2.2.2.2.2.2.2.2.2
def pgS (M N : wM) (cnt t d n : Nat) : Prop := (M 330 2 = nI cnt) ∧ (N 0 1 = nI cnt) ∧ (cnt ≤ 16) ∧ (1 ≤ cnt) ∧ (M 332 2 = nI t) ∧ (N 0 14 = nI t) ∧ (t ≤ 8) ∧ (∀ k, k < t → M 333 k = N 11 k) ∧ (M 332 0 = nI d) ∧ (N 0 12 = nI d) ∧ (d ≤ 10) ∧ (M 332 1 = nI n) ∧ (N 0 13 = nI n) ∧ (n ≤ 5) ∧ (M (3 * 0) 0 = 0) ∧ (∀ v, v < 6 → M (3 * 0 + 1) v = N 9 v ∧ M (3 * 0 + 2) v = N 10 v) ∧ (vS (N 9, N 10)) ∧ (∀ b, b < 16 → bkS M N cnt b)
theorem pgS.cM {M N : wM} {cnt t d n : Nat} (h : pgS M N cnt t d n) : M 330 2 = nI cnt := h.1
theorem pgS.cN {M N : wM} {cnt t d n : Nat} (h : pgS M N cnt t d n) : N 0 1 = nI cnt := h.2.1
theorem pgS.c16 {M N : wM} {cnt t d n : Nat} (h : pgS M N cnt t d n) : cnt ≤ 16 := h.2.2.1
theorem pgS.c1 {M N : wM} {cnt t d n : Nat} (h : pgS M N cnt t d n) : 1 ≤ cnt := h.2.2.2.1
theorem pgS.tM {M N : wM} {cnt t d n : Nat} (h : pgS M N cnt t d n) : M 332 2 = nI t := h.2.2.2.2.1
theorem pgS.tN {M N : wM} {cnt t d n : Nat} (h : pgS M N cnt t d n) : N 0 14 = nI t := h.2.2.2.2.2.1
theorem pgS.t8 {M N : wM} {cnt t d n : Nat} (h : pgS M N cnt t d n) : t ≤ 8 := h.2.2.2.2.2.2.1
theorem pgS.th {M N : wM} {cnt t d n : Nat} (h : pgS M N cnt t d n) : ∀ k, k < t → M 333 k = N 11 k := h.2.2.2.2.2.2.2.1
theorem pgS.dM {M N : wM} {cnt t d n : Nat} (h : pgS M N cnt t d n) : M 332 0 = nI d := h.2.2.2.2.2.2.2.2.1
theorem pgS.dN {M N : wM} {cnt t d n : Nat} (h : pgS M N cnt t d n) : N 0 12 = nI d := h.2.2.2.2.2.2.2.2.2.1
theorem pgS.d10 {M N : wM} {cnt t d n : Nat} (h : pgS M N cnt t d n) : d ≤ 10 := h.2.2.2.2.2.2.2.2.2.2.1
theorem pgS.nM {M N : wM} {cnt t d n : Nat} (h : pgS M N cnt t d n) : M 332 1 = nI n := h.2.2.2.2.2.2.2.2.2.2.2.1
theorem pgS.nN {M N : wM} {cnt t d n : Nat} (h : pgS M N cnt t d n) : N 0 13 = nI n := h.2.2.2.2.2.2.2.2.2.2.2.2.1
theorem pgS.n5 {M N : wM} {cnt t d n : Nat} (h : pgS M N cnt t d n) : n ≤ 5 := h.2.2.2.2.2.2.2.2.2.2.2.2.2.1
theorem pgS.i0 {M N : wM} {cnt t d n : Nat} (h : pgS M N cnt t d n) : M (3 * 0) 0 = 0 := h.2.2.2.2.2.2.2.2.2.2.2.2.2.2.1
theorem pgS.iv {M N : wM} {cnt t d n : Nat} (h : pgS M N cnt t d n) : ∀ v, v < 6 → M (3 * 0 + 1) v = N 9 v ∧ M (3 * 0 + 2) v = N 10 v := h.2.2.2.2.2.2.2.2.2.2.2.2.2.2.2.1
theorem pgS.iV {M N : wM} {cnt t d n : Nat} (h : pgS M N cnt t d n) : vS (N 9, N 10) := h.2.2.2.2.2.2.2.2.2.2.2.2.2.2.2.2.1
theorem pgS.bk {M N : wM} {cnt t d n : Nat} (h : pgS M N cnt t d n) : ∀ b, b < 16 → bkS M N cnt b := h.2.2.2.2.2.2.2.2.2.2.2.2.2.2.2.2.2
section SIM
variable {M N : wM} {cnt t d n : Nat}
theorem kdE_c {k k' : Int32} (h : kdE k k') (g : ¬ (k = nI 6 ∨ k = nI 7)) : k = k' ∧ inB k 6 := by
  rcases h with h | ⟨h, -⟩ | ⟨h, -⟩
  · exact h
  · exact absurd (Or.inl h) g
  · exact absurd (Or.inr h) g
theorem ssS_st {b a : Nat} (h : ssS M N b a) : stOK M b a := by
  obtain ⟨h1, h2, h3, h4, h5, h6⟩ := h
  refine ⟨by rw [h2]; exact h5, fun g => ?_⟩
  obtain ⟨e, j, hj, ej⟩ := kdE_c h1 g
  rw [h3, h4]
  exact h6.1 j (by omega) (e ▸ ej)
theorem pgS.pr (h : pgS M N cnt t d n) : prOK M cnt t := by
  refine ⟨h.cM, h.c16, fun b hb => ?_, h.tM, h.t8⟩
  have k := h.bk b hb
  refine ⟨⟨by rw [k.sz]; exact k.szn, by rw [k.sz]; exact k.sz8, fun a ha => ssS_st (k.sts a (by rw [k.sz] at ha; exact ha))⟩, by rw [k.ed]; exact k.edn, by rw [k.ed]; exact k.ed2, fun q => ?_⟩
  rw [k.ed] at q
  obtain ⟨-, -, e1, e2, -⟩ := k.f1 q
  rw [e1, e2]; exact ⟨k.vx, k.vy⟩
theorem pgS.m (h : pgS M N cnt t d n) : mOK N cnt t := by
  refine ⟨h.cN, h.c16, h.tN, h.t8, fun b hb => ⟨(h.bk b hb).szn, (h.bk b hb).sz8⟩, fun b hb a ha => ?_, fun b hb => ⟨(h.bk b hb).edn, (h.bk b hb).ed2⟩, fun b hb => ⟨(h.bk b hb).vx, (h.bk b hb).vy⟩, fun b hb => (h.bk b hb).vr⟩
  obtain ⟨h1, h2, h3, h4, h5, h6⟩ := (h.bk b hb).sts a ha
  exact ⟨h5, h6.1⟩
theorem pgS.o (h : pgS M N cnt t d n) : oM N := ⟨fun b hb a ha => ((h.bk b hb).sts a ha).2.2.2.2.2, h.iV⟩
theorem pgS.fo (h : pgS M N cnt t d n) : foOK M := fun b hb e he => by
  have k := h.bk b hb
  have c := h.c16
  have e2 := k.ed2
  rw [k.ed] at he
  rcases (show e = 0 ∨ e = 1 by omega) with rfl | rfl
  · obtain ⟨g1, g2⟩ := k.f0 (by omega)
    rw [g1]
    obtain ⟨p, q⟩ := inB_tn g2 (by omega)
    exact ⟨q, by omega⟩
  · obtain ⟨g1, g2, -⟩ := k.f1 (by omega)
    rw [g1]
    obtain ⟨p, q⟩ := inB_tn g2 (by omega)
    exact ⟨q, by omega⟩
theorem szz_ne {lo up : Int32} (h1 : -1000000000 ≤ lo.toInt) (h2 : lo.toInt ≤ up.toInt) (h3 : up.toInt ≤ 1000000000) : (szz lo up).toInt = up.toInt - lo.toInt + 1 ∧ ¬ szz lo up = 0 := by
  have e : (szz lo up).toInt = up.toInt - lo.toInt + 1 := by
    unfold szz
    rw [Int64.toInt_add, u_sub, show (1 : Int64).toInt = 1 from by decide, b64 (by omega) (by omega)]
  refine ⟨e, fun z => ?_⟩
  have : (szz lo up).toInt = 0 := by rw [z]; decide
  omega
theorem pgS.x (h : pgS M N cnt t d n) : xOK N := by
  refine ⟨fun v hv => ?_, fun b hb a ha hk => ?_, fun b hb => ⟨fun q => ?_, fun q => ?_⟩⟩
  · have := h.iV v hv
    exact (szz_ne this.1 this.2.1 this.2.2).2
  · have := (((h.bk b hb).sts a ha).2.2.2.2.2).2 (fun j hj => hk j (by omega))
    exact (szz_ne this.1 this.2.1 this.2.2).2
  · obtain ⟨c, hc, e⟩ := ((h.bk b hb).f0 q).2
    exact ⟨c, by have := h.c16; omega, e⟩
  · obtain ⟨c, hc, e⟩ := ((h.bk b hb).f1 q).2.1
    exact ⟨c, by have := h.c16; omega, e⟩
theorem not6 {n : Nat} (h1 : 6 ≤ n) (h2 : n < 2147483648) : ¬ inB (nI n) 6 := by
  rintro ⟨b, hb, e⟩
  have := (nI_eq h2 (by omega)).mp e
  omega
theorem apN_eq (h : pgS M N cnt t d n) {b : Nat} (hb : b < 16) {f : aP} (hf : vS f) (hn : rr f = f) : ∀ k, k ≤ tn (N 1 b) → apN M b k (some f) = some (apm N b f k)
  | 0, _ => rfl
  | k + 1, hk => by
    have ih := apN_eq h hb hf hn k (by omega)
    obtain ⟨v1, v2⟩ := apm_v h.m h.o hb hf hn k (by omega)
    obtain ⟨h1, h2, h3, h4, h5, h6⟩ := (h.bk b hb).sts k (by omega)
    show (apN M b k (some f)).map (stA (M (201 + 6 * b + 1) k) (tn (M (201 + 6 * b + 2) k)) (M (201 + 6 * b + 3) k) (M (201 + 6 * b + 4) k)) = some (stM _ _ _ _ (apm N b f k))
    rw [ih, h2, h3, h4]
    refine congrArg some (st_eq h1 v1 (fun q => ?_) (fun q => ?_))
    · obtain ⟨j, hj, ej⟩ := q
      rcases h1 with ⟨e, -⟩ | ⟨e, -⟩ | ⟨e, -⟩
      · obtain ⟨p1, p2⟩ := h6.1 j (by omega) (e ▸ ej)
        exact ⟨p1.2, p2.2⟩
      · exact absurd (⟨j, hj, e ▸ ej⟩ : inB (nI 6) 6) (not6 (by omega) (by decide))
      · exact absurd (⟨j, hj, e ▸ ej⟩ : inB (nI 7) 6) (not6 (by omega) (by decide))
    · refine h6.2 (fun j hj ej => ?_)
      rcases h1 with ⟨e, e2⟩ | ⟨-, e⟩ | ⟨-, e⟩
      · exact q e2
      · rw [e] at ej; exact absurd (⟨j, by omega, ej⟩ : inB (nI 7) 6) (not6 (by omega) (by decide))
      · rw [e] at ej; exact absurd (⟨j, by omega, ej⟩ : inB (nI 6) 6) (not6 (by omega) (by decide))
theorem apB_eq (h : pgS M N cnt t d n) {b : Nat} (hb : b < 16) {a : aS} (ha : vA a) : apB M b a = apA N b a := by
  unfold apB
  rw [(h.bk b hb).sz]
  cases a with
  | none => exact apN_none M b _
  | some f =>
    obtain ⟨h1, h2⟩ := ha f rfl
    exact apN_eq h hb h1 h2 _ (Nat.le_refl _)
theorem edB_eq (h : pgS M N cnt t d n) {b e : Nat} (hb : b < 16) {a : aS} (ha : vA a) : edB M b e a = edA N b e a := by
  have k := h.bk b hb
  cases a with
  | none => exact edB_none
  | some f =>
    obtain ⟨h1, h2⟩ := ha f rfl
    show edB M b e (some f) = edm N b e f
    unfold edB edm
    rw [k.ed]
    by_cases q : tn (N 3 b) < 2
    · rw [if_pos q, if_pos q]
    · rw [if_neg q, if_neg q]
      obtain ⟨-, -, e7, e8, e9⟩ := k.f1 (by omega)
      obtain ⟨r1, r2⟩ := inB_tn k.vr (by decide)
      rw [e7, e8, e9]
      have z := ed_eq (e := e) r1 k.vx.2 k.vy.2 h1
      rw [← r2] at z
      rw [← z]
      by_cases qe : e = 0
      · rw [if_pos qe, if_pos qe]; rfl
      · rw [if_neg qe, if_neg qe]; rfl
theorem gE_eq (h : pgS M N cnt t d n) {b : Nat} (hb : b < 16) {X Y : Nat → Nat → aS} (hX : ∀ e, X b e = Y b e) {tt : Nat} {a : aS} : ∀ e, e ≤ tn (N 3 b) → gE M X tt b e a = gaE N Y tt b e a
  | 0, _ => rfl
  | e + 1, he => by
    have k := h.bk b hb
    have e2 := k.ed2
    have ih := gE_eq h hb hX e (by omega) (tt := tt) (a := a)
    have fo : M (201 + 6 * b + 5) e = folm N b e := by
      rcases (show e = 0 ∨ e = 1 by omega) with rfl | rfl
      · rw [(k.f0 (by omega)).1]; rfl
      · rw [(k.f1 (by omega)).1]; rfl
    show (if M (201 + 6 * b + 5) e = nI tt then jn (gE M X tt b e a) (X b e) else gE M X tt b e a) = (if folm N b e = nI tt then jn (gaE N Y tt b e a) (Y b e) else gaE N Y tt b e a)
    rw [fo, ih, hX e]
theorem gB_eq (h : pgS M N cnt t d n) {X Y : Nat → Nat → aS} {tt : Nat} {a : aS} : ∀ b, b ≤ 16 → (∀ q e, q < b → X q e = Y q e) → gB M X tt b a = gaB N Y tt b a
  | 0, _, _ => rfl
  | b + 1, hb, hX => by
    show gE M X tt b (tn (M (201 + 6 * b) 5)) (gB M X tt b a) = gaE N Y tt b (tn (N 3 b)) (gaB N Y tt b a)
    rw [gB_eq h b (by omega) (fun q e hq => hX q e (by omega)), (h.bk b (by omega)).ed]
    exact gE_eq h (by omega) (fun e => hX b e (by omega)) _ (Nat.le_refl _)
theorem gaE_s {X : Nat → Nat → aS} {tt b : Nat} {a s : aS} : ∀ e, gaE N X tt b e (jn a s) = jn (gaE N X tt b e a) s
  | 0 => rfl
  | e + 1 => by
    show (if folm N b e = nI tt then jn (gaE N X tt b e (jn a s)) (X b e) else gaE N X tt b e (jn a s)) = jn (if folm N b e = nI tt then jn (gaE N X tt b e a) (X b e) else gaE N X tt b e a) s
    rw [gaE_s e]
    by_cases q : folm N b e = nI tt
    · rw [if_pos q, if_pos q, jn_assoc, jn_assoc, jn_comm s]
    · rw [if_neg q, if_neg q]
theorem gaB_s {X : Nat → Nat → aS} {tt : Nat} {a s : aS} : ∀ b, gaB N X tt b (jn a s) = jn (gaB N X tt b a) s
  | 0 => rfl
  | b + 1 => by
    show gaE N X tt b (tn (N 3 b)) (gaB N X tt b (jn a s)) = jn (gaE N X tt b (tn (N 3 b)) (gaB N X tt b a)) s
    rw [gaB_s b, gaE_s]
theorem gat_eq (h : pgS M N cnt t d n) {E : Nat → aS} (hE : vE E) {b : Nat} : gatA M E cnt b = gatR N E cnt b := by
  have hX : ∀ q e, q < cnt → edB M q e (apB M q (E q)) = edA N q e (apA N q (E q)) := fun q e hq => by
    have := h.c16
    rw [apB_eq h (by omega) (hE q (by omega)), edB_eq h (by omega) (apA_v h.m h.o (by omega) (hE q (by omega)))]
  unfold gatA gat gatR gaM
  rw [gB_eq h (Y := fun b e => edA N b e (apA N b (E b))) cnt h.c16 hX]
  by_cases q : b = 0
  · rw [if_pos q, if_pos q, gaB_s]
    congr 1
    rw [sv_some h.i0]
    unfold rr
    rw [r6_ext (f := M (3 * 0 + 1)) (fun v hv => (h.iv v hv).1), r6_ext (f := M (3 * 0 + 2)) (fun v hv => (h.iv v hv).2)]
  · rw [if_neg q, if_neg q]
theorem gu_bel (hth : ∀ k, k < t → M 333 k = N 11 k) {v : Int32} : ∀ k, k ≤ t → gu M v k = bel N v k
  | 0, _ => rfl
  | k + 1, hk => by
    have ih := gu_bel hth (v := v) k (by omega)
    show (if v < M 333 k then gu M v k else if M 333 k ≤ gu M v k then gu M v k else M 333 k) = (if v < N 11 k then bel N v k else i_mx (bel N v k) (N 11 k))
    rw [hth k (by omega), ih]
    by_cases q : v < N 11 k
    · rw [if_pos q, if_pos q]
    · rw [if_neg q, if_neg q]
      apply t_ext
      rw [t_mx]
      by_cases c : N 11 k ≤ bel N v k
      · rw [if_pos c]; have := t_le.mp c; omega
      · rw [if_neg c]
        have : ¬ (N 11 k).toInt ≤ (bel N v k).toInt := fun z => c (t_le.mpr z)
        omega
theorem sm_abo (hth : ∀ k, k < t → M 333 k = N 11 k) {v : Int32} : ∀ k, k ≤ t → sm M v k = abo N v k
  | 0, _ => rfl
  | k + 1, hk => by
    have ih := sm_abo hth (v := v) k (by omega)
    show (if M 333 k < v then sm M v k else if sm M v k ≤ M 333 k then sm M v k else M 333 k) = (if N 11 k < v then abo N v k else i_mn (abo N v k) (N 11 k))
    rw [hth k (by omega), ih]
    by_cases q : N 11 k < v
    · rw [if_pos q, if_pos q]
    · rw [if_neg q, if_neg q]
      apply t_ext
      rw [t_mn]
      by_cases c : abo N v k ≤ N 11 k
      · rw [if_pos c]; have := t_le.mp c; omega
      · rw [if_neg c]
        have : ¬ (abo N v k).toInt ≤ (N 11 k).toInt := fun z => c (t_le.mpr z)
        omega
theorem wd_wdm (h : pgS M N cnt t d n) {a c : aS} (hc : vA c) : wd M t a c = wdm N t a c := by
  cases a with
  | none => rfl
  | some f =>
    cases c with
    | none => rfl
    | some g =>
      obtain ⟨g1, -⟩ := hc g rfl
      show some (r6 (fun v => wlo M t (f.1 v) (g.1 v)), r6 (fun v => whi M t (f.2 v) (g.2 v))) = some (r6 (fun v => if g.1 v ≤ f.1 v then f.1 v else BL N t (f.1 v)), r6 (fun v => if f.2 v ≤ g.2 v then f.2 v else AB N t (f.2 v)))
      refine congrArg some (congr (congrArg Prod.mk (r6_ext fun v hv => ?_)) (r6_ext fun v hv => ?_))
      · have w := g1 v hv
        unfold wlo
        by_cases q : g.1 v ≤ f.1 v
        · rw [if_pos q, if_pos q]
        · have : ¬ (g.1 v).toInt ≤ (f.1 v).toInt := fun z => q (t_le.mpr z)
          rw [if_neg q, if_neg q, BL_b (by omega)]; exact gu_bel h.th t (Nat.le_refl _)
      · have w := g1 v hv
        unfold whi
        by_cases q : f.2 v ≤ g.2 v
        · rw [if_pos q, if_pos q]
        · have : ¬ (f.2 v).toInt ≤ (g.2 v).toInt := fun z => q (t_le.mpr z)
          rw [if_neg q, if_neg q, AB_a (by omega)]; exact sm_abo h.th t (Nat.le_refl _)
theorem nE_eq (h : pgS M N cnt t d n) {E : Nat → aS} {V : Nat → Int32} (hE : vE E) {b : Nat} (hb : b < 16) : nEn M E V cnt t b = nEm N E V cnt t b := by
  unfold nEn nEm
  rw [gat_eq h hE, h.dM, h.dN, wd_wdm h (hE b hb)]
theorem ch_eq (h : pgS M N cnt t d n) {E : Nat → aS} {V : Nat → Int32} (hE : vE E) {b : Nat} (hb : b < 16) : chg M E V cnt t b = chR N E V cnt t b := by
  unfold chg chR
  rw [gat_eq h hE, nE_eq h hE hb]
theorem lk_eq (h : pgS M N cnt t d n) {E : Nat → aS} {V : Nat → Int32} (hE : vE E) {b : Nat} (hb : b < 16) : lkE M E V cnt t b = lkER N E V cnt t b ∧ lkV M E V cnt t b = lkVR N E V cnt t b := by
  unfold lkE lkV
  by_cases q : chR N E V cnt t b
  · have q' : chg M E V cnt t b := by rw [ch_eq h hE hb]; exact q
    rw [lkER_1 q, lkVR_1 q, if_pos q', if_pos q', nE_eq h hE hb]
    exact ⟨rfl, rfl⟩
  · have q' : ¬ chg M E V cnt t b := by rw [ch_eq h hE hb]; exact q
    rw [lkER_0 q, lkVR_0 q, if_neg q', if_neg q']
    exact ⟨rfl, rfl⟩
theorem rd_eq (h : pgS M N cnt t d n) {x : aN} (hx : iA N t d x) : ∀ b, b ≤ 16 → rdS M cnt t b x = rdSR N cnt t b x ∧ (rdC M cnt t b x ↔ rdCR N cnt t b x)
  | 0, _ => ⟨rfl, Iff.rfl⟩
  | b + 1, hb => by
    obtain ⟨h1, h2⟩ := rd_eq h hx b (by omega)
    have v := (round_iA h.m h.o h.dN h.d10 hx b (by omega)).1.1
    have k := lk_eq h (V := (rdSR N cnt t b x).2) v (b := b) (by omega)
    refine ⟨?_, ?_⟩
    · show (lkE M (rdS M cnt t b x).1 (rdS M cnt t b x).2 cnt t b, lkV M (rdS M cnt t b x).1 (rdS M cnt t b x).2 cnt t b) = (lkER N (rdSR N cnt t b x).1 (rdSR N cnt t b x).2 cnt t b, lkVR N (rdSR N cnt t b x).1 (rdSR N cnt t b x).2 cnt t b)
      rw [h1, k.1, k.2]
    · show (rdC M cnt t b x ∨ chg M (rdS M cnt t b x).1 (rdS M cnt t b x).2 cnt t b) ↔ (rdCR N cnt t b x ∨ chR N (rdSR N cnt t b x).1 (rdSR N cnt t b x).2 cnt t b)
      rw [h1, h2, ch_eq h v (by omega)]
theorem it_eq (h : pgS M N cnt t d n) : ∀ (f : Nat) (x : aN), iA N t d x → its M cnt t f x = itR N cnt t f x
  | 0, _, _ => rfl
  | f + 1, x, hx => by
    obtain ⟨h1, h2⟩ := rd_eq h hx cnt h.c16
    by_cases c : rdCR N cnt t cnt x
    · rw [itR_1 c, its_1 (h2.mpr c), h1, it_eq h f _ (round_iA h.m h.o h.dN h.d10 hx cnt h.c16).1]
    · rw [itR_2 c, its_2 (fun z => c (h2.mp z)), h1]
theorem nr_eq (h : pgS M N cnt t d n) {E : Nat → aS} (hE : vE E) {b : Nat} : nrE M E cnt b = nrER N E cnt b := by
  unfold nrE nrER
  rw [gat_eq h hE]
theorem nb_eq (h : pgS M N cnt t d n) {E : Nat → aS} (hE : iN N cnt E) : ∀ b, b ≤ cnt → nrB M cnt b E = nbR N cnt b E ∧ iN N cnt (nbR N cnt b E)
  | 0, _ => ⟨rfl, hE⟩
  | b + 1, hb => by
    obtain ⟨h1, h2⟩ := nb_eq h hE b (by omega)
    refine ⟨?_, narrow_iN h.m h.o h2 (by omega)⟩
    show nrE M (nrB M cnt b E) cnt b = nrER N (nbR N cnt b E) cnt b
    rw [h1, nr_eq h h2.1]
theorem nn_eq (h : pgS M N cnt t d n) {E : Nat → aS} (hE : iN N cnt E) : ∀ k, nrR M cnt k E = nrRR N cnt k E ∧ iN N cnt (nrRR N cnt k E)
  | 0 => ⟨rfl, hE⟩
  | k + 1 => by
    obtain ⟨h1, h2⟩ := nn_eq h hE k
    obtain ⟨g1, g2⟩ := nb_eq h h2 cnt (Nat.le_refl _)
    refine ⟨?_, g2⟩
    show nrB M cnt cnt (nrR M cnt k E) = nbR N cnt cnt (nrRR N cnt k E)
    rw [h1, g1]
/-- both analyses are the same, and the reference's rounds end -/
theorem an_eq (h : pgS M N cnt t d n) : tmR N cnt t 1000000 z0 ∧ its M cnt t 1000000 z0 = itR N cnt t 1000000 z0 ∧ nrR M cnt n (its M cnt t 1000000 z0).2.1 = nrRR N cnt n (itR N cnt t 1000000 z0).2.1 ∧ vE (nrRR N cnt n (itR N cnt t 1000000 z0).2.1) := by
  obtain ⟨z1, z2⟩ := z0_iA (M := N) (t := t) (d := d)
  obtain ⟨r1, r2, r3⟩ := rounds_end h.m h.o h.dN h.d10 1000000 z0 z1 (by omega)
  have e := it_eq h 1000000 z0 z1
  obtain ⟨n1, n2⟩ := nn_eq h (E := (itR N cnt t 1000000 z0).2.1) ⟨r2.1, r3⟩ n
  exact ⟨r1, e, by rw [e]; exact n1, n2.1⟩
end SIM
