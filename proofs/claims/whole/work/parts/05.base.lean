/-! ===== index worlds: cells k < n at the addresses ad k, of a shape that never changes; ints in M k j, the long of a cell in J k ===== -/
abbrev wM : Type := Nat → Nat → Int32
abbrev wJ : Type := Nat → Int64
abbrev wSh : Type := (Nat × Nat) ⊕ ((Nat × Nat × (Nat → Nat)) ⊕ (Nat × List (Option (Option Nat))))
def wU (M : wM) (k j : Nat) (v : Int32) : wM := va_up M k (upd (M k) j v)
def wF (ad : Nat → Nat) (m : Nat → Int32) (x : Int64) (j : Nat) (d : Option (Option Nat)) : Value := match d with
  | none => .int (m j)
  | some none => .long x
  | some (some t) => .ref (ad t)
def wE (sh : Nat → wSh) (ad : Nat → Nat) (cs : Nat → ClassId) (M : wM) (J : wJ) (k : Nat) : va_E := match sh k with
  | .inl a => .inl (cs a.1, a.2, .inl (M k))
  | .inr (.inl a) => .inl (cs a.1, a.2.1, .inr (.inr (.inr (.inr (fun i => some (ad (a.2.2 i)))))))
  | .inr (.inr o) => .inr (o.1, o.2.mapIdx (wF ad (M k) (J k)))
def wW (n : Nat) (sh : Nat → wSh) (ad : Nat → Nat) (cs : Nat → ClassId) (M : wM) (J : wJ) : va_W := (List.range n).map fun k => (ad k, wE sh ad cs M J k)
/-- the array classes: int, boolean, Block, Flow, State, long -/
def wT (cs : Nat → ClassId) : List (ClassId × FieldType) := [(cs 0, .int), (cs 1, .boolean), (cs 2, .object "RangePropagator$Block"), (cs 3, .object "RangePropagator$Flow"), (cs 4, .object "RangePropagator$State"), (cs 5, .long)]
/-- the cells of a world, and what comes from sz on -/
def wA (n : Nat) (ad : Nat → Nat) (sz : Nat) : Nat → Prop := fun q => (∃ k, k < n ∧ q = ad k) ∨ sz ≤ q
def wI (D : va_G) (n : Nat) (sh : Nat → wSh) (ad : Nat → Nat) (cs : Nat → ClassId) (A : Nat → Prop) (H0 : Heap) (M : wM) (J : wJ) (H : Heap) (locs : List Loc) : Prop :=
  va_P D vwCl (wW n sh ad cs M J) H ∧ va_D A (wW n sh ad cs M J) ∧ va_S A H0 H locs
/-- the world behind a method -/
def wB (D : va_G) (n : Nat) (sh : Nat → wSh) (ad : Nat → Nat) (cs : Nat → ClassId) (A : Nat → Prop) (u : wM × wJ) (t : State) : Prop :=
  va_P D vwCl (wW n sh ad cs u.1 u.2) t.heap ∧ va_K D vwCl (wT cs) t ∧ va_D A (wW n sh ad cs u.1 u.2)
/-- a method's start -/
def wP (D : va_G) (n : Nat) (sh : Nat → wSh) (ad : Nat → Nat) (cs : Nat → ClassId) (av : List Value) (sz : Nat) (M : wM) (J : wJ) : Array Value → State → Prop :=
  va_Pc av (fun U => U.heap.size = sz ∧ wB D n sh ad cs (fun _ => True) (M, J) U)
/-- contracts: int (and boolean), long, void -/
def wCi (l : Launch) (y : MethodName) (ws : List Cond) (rm : Room) (D : va_G) (n : Nat) (sh : Nat → wSh) (ad : Nat → Nat) (cs : Nat → ClassId) (av : List Value) (sz : Nat) (M : wM) (J : wJ) (post : Int32 → wM × wJ → Prop) : Prop :=
  Met l y ws rm (wP D n sh ad cs av sz M J) (va_Qi post (wB D n sh ad cs (wA n ad sz)) (wA n ad sz)) 0 0 (wA n ad sz)
def wCl (l : Launch) (y : MethodName) (ws : List Cond) (rm : Room) (D : va_G) (n : Nat) (sh : Nat → wSh) (ad : Nat → Nat) (cs : Nat → ClassId) (av : List Value) (sz : Nat) (M : wM) (J : wJ) (post : Int64 → wM × wJ → Prop) : Prop :=
  Met l y ws rm (wP D n sh ad cs av sz M J) (va_Ql post (wB D n sh ad cs (wA n ad sz)) (wA n ad sz)) 0 0 (wA n ad sz)
def wCv (l : Launch) (y : MethodName) (ws : List Cond) (rm : Room) (D : va_G) (n : Nat) (sh : Nat → wSh) (ad : Nat → Nat) (cs : Nat → ClassId) (av : List Value) (sz : Nat) (M : wM) (J : wJ) (post : wM × wJ → Prop) : Prop :=
  Met l y ws rm (wP D n sh ad cs av sz M J) (va_Qv post (wB D n sh ad cs (wA n ad sz)) (wA n ad sz)) 0 0 (wA n ad sz)
section WL
variable {n : Nat} {sh : Nat → wSh} {ad : Nat → Nat} {cs : Nat → ClassId} {M M' : wM} {J J' : wJ} {D : va_G} {A : Nat → Prop}
theorem wW_get {k : Nat} (h : k < n) : (wW n sh ad cs M J)[k]? = some (ad k, wE sh ad cs M J k) := by
  simp [wW, List.getElem?_map, List.getElem?_range h]
theorem wW_len : (wW n sh ad cs M J).length = n := by simp [wW]
theorem wE_congr {a : Nat} (hM : M' a = M a) (hJ : J' a = J a) : wE sh ad cs M' J' a = wE sh ad cs M J a := by
  unfold wE; rw [hM, hJ]
theorem wW_set {k : Nat} (h : k < n) {e : va_E} (he : wE sh ad cs M' J' k = e) (hM : ∀ a, a ≠ k → M' a = M a) (hJ : ∀ a, a ≠ k → J' a = J a) : (wW n sh ad cs M J).set k (ad k, e) = wW n sh ad cs M' J' := by
  apply List.ext_getElem?
  intro i
  by_cases hi : i = k
  · subst hi
    rw [List.getElem?_set_self (by rw [wW_len]; exact h), wW_get h, he]
  · rw [List.getElem?_set_ne (Ne.symm hi)]
    by_cases hl : i < n
    · rw [wW_get hl, wW_get hl, wE_congr (hM i hi) (hJ i hi)]
    · rw [List.getElem?_eq_none (by rw [wW_len]; omega), List.getElem?_eq_none (by rw [wW_len]; omega)]
theorem wU_self {k j : Nat} {v : Int32} : wU M k j v k = upd (M k) j v := by unfold wU; exact va_up_self _ _ _
theorem wU_ne {k j a : Nat} {v : Int32} (h : a ≠ k) : wU M k j v a = M a := by unfold wU; exact va_up_ne _ _ h
theorem wE_i {k t len : Nat} (hs : sh k = .inl (t, len)) : wE sh ad cs M J k = .inl (cs t, len, .inl (M k)) := by unfold wE; rw [hs]
theorem wE_r {k t len : Nat} {g : Nat → Nat} (hs : sh k = .inr (.inl (t, len, g))) : wE sh ad cs M J k = .inl (cs t, len, .inr (.inr (.inr (.inr (fun i => some (ad (g i))))))) := by unfold wE; rw [hs]
theorem wE_o {k ci : Nat} {ds : List (Option (Option Nat))} (hs : sh k = .inr (.inr (ci, ds))) : wE sh ad cs M J k = .inr (ci, ds.mapIdx (wF ad (M k) (J k))) := by unfold wE; rw [hs]
theorem wF_set_i {m : Nat → Int32} {x : Int64} {ds : List (Option (Option Nat))} {j : Nat} {v : Int32} (hd : ds[j]? = some none) : (ds.mapIdx (wF ad m x)).set j (.int v) = ds.mapIdx (wF ad (upd m j v) x) := by
  apply List.ext_getElem?
  intro i
  have hl := (List.getElem?_eq_some_iff.mp hd).1
  by_cases hi : i = j
  · subst hi
    rw [List.getElem?_set_self (by simpa using hl), List.getElem?_mapIdx, hd]
    simp [wF, upd]
  · rw [List.getElem?_set_ne (Ne.symm hi), List.getElem?_mapIdx, List.getElem?_mapIdx]
    cases ds[i]? with
    | none => rfl
    | some d =>
      cases d with
      | none => simp [wF, upd, hi]
      | some d => cases d <;> rfl
theorem wF_set_l {m : Nat → Int32} {x y : Int64} {ds : List (Option (Option Nat))} {j : Nat} (hd : ds[j]? = some (some none)) (hu : ∀ i, ds[i]? = some (some none) → i = j) : (ds.mapIdx (wF ad m x)).set j (.long y) = ds.mapIdx (wF ad m y) := by
  apply List.ext_getElem?
  intro i
  have hl := (List.getElem?_eq_some_iff.mp hd).1
  by_cases hi : i = j
  · subst hi
    rw [List.getElem?_set_self (by simpa using hl), List.getElem?_mapIdx, hd]
    simp [wF]
  · rw [List.getElem?_set_ne (Ne.symm hi), List.getElem?_mapIdx, List.getElem?_mapIdx]
    cases hq : ds[i]? with
    | none => rfl
    | some d =>
      cases d with
      | none => simp [wF]
      | some d =>
        cases d with
        | none => exact absurd (hu i hq) hi
        | some t => simp [wF]
theorem wD_any (h : va_D A (wW n sh ad cs M J)) : va_D A (wW n sh ad cs M' J') := by
  have key : ∀ (k : Nat) (q : Nat × va_E), (wW n sh ad cs M' J')[k]? = some q → k < n ∧ q.1 = ad k := by
    intro k q hk
    by_cases hl : k < n
    · rw [wW_get hl] at hk; cases hk; exact ⟨hl, rfl⟩
    · rw [List.getElem?_eq_none (by rw [wW_len]; omega)] at hk; cases hk
  refine ⟨fun i j x y hi hj hxy => ?_, fun k q hk => ?_⟩
  · obtain ⟨l1, e1⟩ := key i x hi
    obtain ⟨l2, e2⟩ := key j y hj
    exact h.1 i j _ _ (wW_get l1) (wW_get l2) (by show ad i = ad j; rw [← e1, ← e2]; exact hxy)
  · obtain ⟨l1, e1⟩ := key k q hk
    rw [e1]
    exact h.2 k _ (wW_get l1)
theorem wD_in (h : va_D A (wW n sh ad cs M J)) {k : Nat} (hk : k < n) : A (ad k) := h.2 k _ (wW_get hk)
theorem wD_inj (h : va_D A (wW n sh ad cs M J)) {i j : Nat} (hi : i < n) (hj : j < n) (e : ad i = ad j) : i = j := h.1 i j _ _ (wW_get hi) (wW_get hj) e
theorem wD_self {sz : Nat} (h : va_D A (wW n sh ad cs M J)) : va_D (wA n ad sz) (wW n sh ad cs M J) := by
  refine ⟨h.1, fun k q hk => ?_⟩
  by_cases hl : k < n
  · rw [wW_get hl] at hk; cases hk; exact Or.inl ⟨k, hl, rfl⟩
  · rw [List.getElem?_eq_none (by rw [wW_len]; omega)] at hk; cases hk
theorem wB_moved {u : wM × wJ} {U V : State} (hvm : U.vm.Alike V.vm) (hh : V.heap = U.heap) (h : wB D n sh ad cs A u U) : wB D n sh ad cs A u V := ⟨by rw [hh]; exact h.1, va_K.moved hvm h.2.1, h.2.2⟩
theorem wP_blind {av : List Value} {sz : Nat} : FrameBlind (wP D n sh ad cs av sz M J) := fun a U g mk q => by
  obtain ⟨q0, q1, q2⟩ := q
  exact ⟨q0, q1, wB_moved (Vm.Alike.refl U.vm) rfl q2⟩
theorem wP_at {A : Nat → Prop} {s : State} {H : Heap} {av : List Value} (hK : va_K D vwCl (wT cs) s) (hP : va_P D vwCl (wW n sh ad cs M J) H) (hD : va_D A (wW n sh ad cs M J)) : ∀ U : State, U.heap = H → s.WarmedH U.vm → wP D n sh ad cs av H.size M J av.toArray U := fun U hU hW =>
  ⟨rfl, by rw [hU], by rw [hU]; exact hP, va_K.moved hW.alike hK, hD.weaken (fun _ _ _ _ => trivial)⟩
end WL
section WR
variable {p : Program} {l : Launch} {e : Env} {R : Room} {s : State} {m : MethodId} {args : Array Value} {below : List Frame} {meth : Method} {c : Code} {H : Heap} {locs : List Loc} {cells slots : Nat} {Q : State → Prop}
variable {cc : ByteArray} {pc : Nat} {ls : Array Slot} {rest : List Value}
variable {n : Nat} {sh : Nat → wSh} {ad : Nat → Nat} {cs : Nat → ClassId} {M : wM} {J : wJ} {D : va_G} {A : Nat → Prop} {H0 : Heap}
theorem wI_set {k : Nat} {e : va_E} {M' : wM} {J' : wJ} {H1 : Heap} {locs1 : List Loc} (hw : wI D n sh ad cs A H0 M J H locs) (hk : k < n) (he : wE sh ad cs M' J' k = e) (hM : ∀ a, a ≠ k → M' a = M a) (hJ : ∀ a, a ≠ k → J' a = J a) (hP : va_P D vwCl ((wW n sh ad cs M J).set k (ad k, e)) H1) (hS : va_S A H0 H1 locs1) : wI D n sh ad cs A H0 M' J' H1 locs1 := by
  rw [wW_set hk he hM hJ] at hP
  exact ⟨hP, wD_any hw.2.1, hS⟩
/-- getfield: an int, a long, a reference -/
theorem wr_gi (hexec : p.tables.exec = Jvm.exec) (hb : c.code = cc) {own ref C : String} {T : u_T} {N ci index : Nat} {ds : List (Option (Option Nat))} {Ts : List Cond} (hown : s.vm.findClass own = some m.cls) (hK : va_K D vwCl (wT cs) s) (hts : ∀ w ∈ Ts, w.before args s = true) (hin : ∀ w ∈ u_ws C T N, w ∈ Ts) (hc : vwCl[ci]? = some (C, T, N)) (j : Nat) (hj : j < N) (hlink : (Cond.fieldLink own index ref (T j).2.1 (T j).2.2.1).before args s = true) (hsame : ref = (T j).1)
    (hw : wI D n sh ad cs A H0 M J H locs) (k : Nat) (hk : k < n) (hs : sh k = .inr (.inr (ci, ds))) (hd : ds[j]? = some none) (hdg : decode cc pc = .ok (.getfield index, 3))
    (kk : W p l e R s m args below meth c H locs cells slots Q (F0 m (pc + 3) ls (.int (M k j) :: rest))) : W p l e R s m args below meth c H locs cells slots Q (F0 m pc ls (.ref (ad k) :: rest)) := by
  subst hsame
  refine va_get (D := D) (ci := ci) (C := C) (T := T) (N := N) hexec hb hts hin hown hK hw.1 k (by rw [wW_get hk, wE_o hs]) hc j hj hlink (fun _ h => h) ?_ hdg kk
  rw [List.getElem?_mapIdx, hd]; rfl
theorem wr_gl (hexec : p.tables.exec = Jvm.exec) (hb : c.code = cc) {own ref C : String} {T : u_T} {N ci index : Nat} {ds : List (Option (Option Nat))} {Ts : List Cond} (hown : s.vm.findClass own = some m.cls) (hK : va_K D vwCl (wT cs) s) (hts : ∀ w ∈ Ts, w.before args s = true) (hin : ∀ w ∈ u_ws C T N, w ∈ Ts) (hc : vwCl[ci]? = some (C, T, N)) (j : Nat) (hj : j < N) (hlink : (Cond.fieldLink own index ref (T j).2.1 (T j).2.2.1).before args s = true) (hsame : ref = (T j).1)
    (hw : wI D n sh ad cs A H0 M J H locs) (k : Nat) (hk : k < n) (hs : sh k = .inr (.inr (ci, ds))) (hd : ds[j]? = some (some none)) (hdg : decode cc pc = .ok (.getfield index, 3))
    (kk : W p l e R s m args below meth c H locs cells slots Q (F0 m (pc + 3) ls (.long (J k) :: rest))) : W p l e R s m args below meth c H locs cells slots Q (F0 m pc ls (.ref (ad k) :: rest)) := by
  subst hsame
  refine va_get (D := D) (ci := ci) (C := C) (T := T) (N := N) hexec hb hts hin hown hK hw.1 k (by rw [wW_get hk, wE_o hs]) hc j hj hlink (fun _ h => h) ?_ hdg kk
  rw [List.getElem?_mapIdx, hd]; rfl
theorem wr_gr (hexec : p.tables.exec = Jvm.exec) (hb : c.code = cc) {own ref C : String} {T : u_T} {N ci index : Nat} {ds : List (Option (Option Nat))} {Ts : List Cond} (hown : s.vm.findClass own = some m.cls) (hK : va_K D vwCl (wT cs) s) (hts : ∀ w ∈ Ts, w.before args s = true) (hin : ∀ w ∈ u_ws C T N, w ∈ Ts) (hc : vwCl[ci]? = some (C, T, N)) (j : Nat) (hj : j < N) (hlink : (Cond.fieldLink own index ref (T j).2.1 (T j).2.2.1).before args s = true) (hsame : ref = (T j).1)
    (hw : wI D n sh ad cs A H0 M J H locs) (k : Nat) (hk : k < n) (t : Nat) (hs : sh k = .inr (.inr (ci, ds))) (hd : ds[j]? = some (some (some t))) (hdg : decode cc pc = .ok (.getfield index, 3))
    (kk : W p l e R s m args below meth c H locs cells slots Q (F0 m (pc + 3) ls (.ref (ad t) :: rest))) : W p l e R s m args below meth c H locs cells slots Q (F0 m pc ls (.ref (ad k) :: rest)) := by
  subst hsame
  refine va_get (D := D) (ci := ci) (C := C) (T := T) (N := N) hexec hb hts hin hown hK hw.1 k (by rw [wW_get hk, wE_o hs]) hc j hj hlink (fun _ h => h) ?_ hdg kk
  rw [List.getElem?_mapIdx, hd]; rfl
/-- putfield of an int or a boolean, of a long -/
theorem wr_pi (hexec : p.tables.exec = Jvm.exec) (hb : c.code = cc) {own ref C : String} {T : u_T} {N ci index : Nat} {ds : List (Option (Option Nat))} {Ts : List Cond} {ty0 : Nat → FieldType} (hown : s.vm.findClass own = some m.cls) (hK : va_K D vwCl (wT cs) s) (hts : ∀ w ∈ Ts, w.before args s = true) (hin : ∀ w ∈ u_ws C T N, w ∈ Ts) (hty : ∀ k, k < N → parseFieldDescriptor (T k).2.2.1 = some (ty0 k)) (hnm : ∀ a, a < N → ∀ b, b < N → a ≠ b → (T a).2.1 ≠ (T b).2.1) (hc : vwCl[ci]? = some (C, T, N)) (j : Nat) (hj : j < N) (hlink : (Cond.fieldLink own index ref (T j).2.1 (T j).2.2.1).before args s = true) (hsame : ref = (T j).1) (hfin : (T j).2.2.2 = false)
    (hw : wI D n sh ad cs A H0 M J H locs) (k : Nat) (hk : k < n) (hs : sh k = .inr (.inr (ci, ds))) (hd : ds[j]? = some none) {v : Int32} (hn : narrow (ty0 j) (.int v) = .int v) (hfit : fits (ty0 j) (.int v) = true) (hdg : decode cc pc = .ok (.putfield index, 3))
    (kk : ∀ (H1 : Heap) (locs1 : List Loc), wI D n sh ad cs A H0 (wU M k j v) J H1 locs1 → W p l e R s m args below meth c H1 locs1 cells slots Q (F0 m (pc + 3) ls rest)) : W p l e R s m args below meth c H locs cells slots Q (F0 m pc ls (.int v :: .ref (ad k) :: rest)) := by
  subst hsame
  refine va_put (D := D) (ci := ci) (v := .int v) (ty := ty0 j) (C := C) (T := T) (N := N) hexec hb hts hin ty0 hty hnm hown hK hw.1 hw.2.1 hw.2.2 k (by rw [wW_get hk, wE_o hs]) hc j hj hlink (fun _ h => h) hfin (hty j hj) hn hfit ?_ hdg (fun H1 locs1 hP hD hS => kk H1 locs1 (wI_set hw hk ?_ (fun a ha => wU_ne ha) (fun _ _ => rfl) hP hS))
  · rw [List.length_mapIdx]; exact (List.getElem?_eq_some_iff.mp hd).1
  · rw [wE_o hs, wU_self, wF_set_i hd]
theorem wr_pl (hexec : p.tables.exec = Jvm.exec) (hb : c.code = cc) {own ref C : String} {T : u_T} {N ci index : Nat} {ds : List (Option (Option Nat))} {Ts : List Cond} {ty0 : Nat → FieldType} (hown : s.vm.findClass own = some m.cls) (hK : va_K D vwCl (wT cs) s) (hts : ∀ w ∈ Ts, w.before args s = true) (hin : ∀ w ∈ u_ws C T N, w ∈ Ts) (hty : ∀ k, k < N → parseFieldDescriptor (T k).2.2.1 = some (ty0 k)) (hnm : ∀ a, a < N → ∀ b, b < N → a ≠ b → (T a).2.1 ≠ (T b).2.1) (hc : vwCl[ci]? = some (C, T, N)) (j : Nat) (hj : j < N) (hlink : (Cond.fieldLink own index ref (T j).2.1 (T j).2.2.1).before args s = true) (hsame : ref = (T j).1) (hfin : (T j).2.2.2 = false)
    (hw : wI D n sh ad cs A H0 M J H locs) (k : Nat) (hk : k < n) (hs : sh k = .inr (.inr (ci, ds))) (hd : ds[j]? = some (some none)) (hu : ∀ i, ds[i]? = some (some none) → i = j) {v : Int64} (hn : narrow (ty0 j) (.long v) = .long v) (hfit : fits (ty0 j) (.long v) = true) (hdg : decode cc pc = .ok (.putfield index, 3))
    (kk : ∀ (H1 : Heap) (locs1 : List Loc), wI D n sh ad cs A H0 M (va_up J k v) H1 locs1 → W p l e R s m args below meth c H1 locs1 cells slots Q (F0 m (pc + 3) ls rest)) : W p l e R s m args below meth c H locs cells slots Q (F0 m pc ls (.long v :: .ref (ad k) :: rest)) := by
  subst hsame
  refine va_put (D := D) (ci := ci) (v := .long v) (ty := ty0 j) (C := C) (T := T) (N := N) hexec hb hts hin ty0 hty hnm hown hK hw.1 hw.2.1 hw.2.2 k (by rw [wW_get hk, wE_o hs]) hc j hj hlink (fun _ h => h) hfin (hty j hj) hn hfit ?_ hdg (fun H1 locs1 hP hD hS => kk H1 locs1 (wI_set hw hk ?_ (fun _ _ => rfl) (fun a ha => va_up_ne _ _ ha) hP hS))
  · rw [List.length_mapIdx]; exact (List.getElem?_eq_some_iff.mp hd).1
  · rw [wE_o hs, va_up_self, wF_set_l hd hu]
/-- arrays: iaload, iastore, baload, bastore (boolean), aaload -/
theorem wr_ild (hexec : p.tables.exec = Jvm.exec) (hb : c.code = cc) (hK : va_K D vwCl (wT cs) s) (hw : wI D n sh ad cs A H0 M J H locs) (k : Nat) (hk : k < n) {len : Nat} (hs : sh k = .inl (0, len)) {i : Int32} (hin : vp_in i len) (hdg : decode cc pc = .ok (.iaload, 1))
    (kk : W p l e R s m args below meth c H locs cells slots Q (F0 m (pc + 1) ls (.int (M k i.toNatClampNeg) :: rest))) : W p l e R s m args below meth c H locs cells slots Q (F0 m pc ls (.int i :: .ref (ad k) :: rest)) :=
  va_iald hexec hb hK hw.1 k 0 (by rw [wW_get hk, wE_i hs]) rfl hin hdg kk
theorem wr_ist (hexec : p.tables.exec = Jvm.exec) (hb : c.code = cc) (hK : va_K D vwCl (wT cs) s) (hw : wI D n sh ad cs A H0 M J H locs) (k : Nat) (hk : k < n) {len : Nat} (hs : sh k = .inl (0, len)) {i x : Int32} (hin : vp_in i len) (hdg : decode cc pc = .ok (.iastore, 1))
    (kk : ∀ (H1 : Heap) (locs1 : List Loc), wI D n sh ad cs A H0 (wU M k i.toNatClampNeg x) J H1 locs1 → W p l e R s m args below meth c H1 locs1 cells slots Q (F0 m (pc + 1) ls rest)) : W p l e R s m args below meth c H locs cells slots Q (F0 m pc ls (.int x :: .int i :: .ref (ad k) :: rest)) :=
  va_iast hexec hb hK hw.1 hw.2.1 hw.2.2 k 0 (by rw [wW_get hk, wE_i hs]) rfl hin hdg (fun H1 locs1 hP hD hS => kk H1 locs1 (wI_set hw hk (by rw [wE_i hs, wU_self]) (fun a ha => wU_ne ha) (fun _ _ => rfl) hP hS))
theorem wr_zld (hexec : p.tables.exec = Jvm.exec) (hb : c.code = cc) (hK : va_K D vwCl (wT cs) s) (hw : wI D n sh ad cs A H0 M J H locs) (k : Nat) (hk : k < n) {len : Nat} (hs : sh k = .inl (1, len)) {i : Int32} (hin : vp_in i len) (hdg : decode cc pc = .ok (.baload, 1))
    (kk : W p l e R s m args below meth c H locs cells slots Q (F0 m (pc + 1) ls (.int (M k i.toNatClampNeg) :: rest))) : W p l e R s m args below meth c H locs cells slots Q (F0 m pc ls (.int i :: .ref (ad k) :: rest)) :=
  va_zald hexec hb hK hw.1 k 1 (by rw [wW_get hk, wE_i hs]) rfl hin hdg kk
theorem wr_ald (hexec : p.tables.exec = Jvm.exec) (hb : c.code = cc) (hK : va_K D vwCl (wT cs) s) (hw : wI D n sh ad cs A H0 M J H locs) (k : Nat) (hk : k < n) {t0 len : Nat} {C : String} {g : Nat → Nat} (hs : sh k = .inr (.inl (t0, len, g))) (ht : (wT cs)[t0]? = some (cs t0, .object C)) {i : Int32} (hin : vp_in i len) (hdg : decode cc pc = .ok (.aaload, 1))
    (kk : W p l e R s m args below meth c H locs cells slots Q (F0 m (pc + 1) ls (.ref (ad (g i.toNatClampNeg)) :: rest))) : W p l e R s m args below meth c H locs cells slots Q (F0 m pc ls (.int i :: .ref (ad k) :: rest)) :=
  va_aldq (f := fun i => some (ad (g i))) hexec hb hK hw.1 k t0 (by rw [wW_get hk, wE_r hs]) ht hin hdg kk
/-- the ends -/
theorem wr_iret {post : Int32 → wM × wJ → Prop} {v : Int32} {ty : FieldType} (hexec : p.tables.exec = Jvm.exec) (hb : c.code = cc) (hr : meth.sig.returnType = some ty) (hn : narrow ty (.int v) = .int v) (hK : va_K D vwCl (wT cs) s) (hw : wI D n sh ad cs A s.heap M J H locs) (hp : post v (M, J)) (hlocks : meth.locks = false) (hdg : decode cc pc = .ok (.ireturn, 1)) :
    W p l e R s m args below meth c H locs cells slots (MQ below (va_Qi post (wB D n sh ad cs A) A) args s cells slots A) (F0 m pc ls [.int v]) :=
  W.zret (v := v) hexec hb hr hn (fun t ht hW => ⟨⟨v, (M, J), rfl, hp, by rw [ht]; exact hw.1, va_K.moved hW.alike hK, hw.2.1⟩, hw.2.2.F ht⟩) hw.2.2.2.2 hdg hlocks
theorem wr_lret {post : Int64 → wM × wJ → Prop} {v : Int64} (hexec : p.tables.exec = Jvm.exec) (hb : c.code = cc) (hr : meth.sig.returnType = some .long) (hK : va_K D vwCl (wT cs) s) (hw : wI D n sh ad cs A s.heap M J H locs) (hp : post v (M, J)) (hlocks : meth.locks = false) (hdg : decode cc pc = .ok (.lreturn, 1)) :
    W p l e R s m args below meth c H locs cells slots (MQ below (va_Ql post (wB D n sh ad cs A) A) args s cells slots A) (F0 m pc ls [.long v]) :=
  W.lret (v := v) hexec hb hr (fun t ht hW => ⟨⟨v, (M, J), rfl, hp, by rw [ht]; exact hw.1, va_K.moved hW.alike hK, hw.2.1⟩, hw.2.2.F ht⟩) hw.2.2.2.2 hdg hlocks
theorem wr_vret {post : wM × wJ → Prop} (hexec : p.tables.exec = Jvm.exec) (hb : c.code = cc) (hr : meth.sig.returnType = none) (hK : va_K D vwCl (wT cs) s) (hw : wI D n sh ad cs A s.heap M J H locs) (hp : post (M, J)) (hlocks : meth.locks = false) (hdg : decode cc pc = .ok (.return_, 1)) :
    W p l e R s m args below meth c H locs cells slots (MQ below (va_Qv post (wB D n sh ad cs A) A) args s cells slots A) (F0 m pc ls []) :=
  W.vret hexec hb hr (fun t ht hW => ⟨⟨(M, J), rfl, hp, by rw [ht]; exact hw.1, va_K.moved hW.alike hK, hw.2.1⟩, hw.2.2.F ht⟩) hw.2.2.2.2 hdg hlocks
end WR
