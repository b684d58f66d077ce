/-! ===== worlds by lists: constructors ===== -/
theorem nd_iff {α : Type} (ws : List (Nat × α)) : (∀ (i j : Nat) (p q : Nat × α), ws[i]? = some p → ws[j]? = some q → p.1 = q.1 → i = j) ↔ (ws.map Prod.fst).Pairwise (· ≠ ·) := by
  rw [List.pairwise_iff_getElem]
  constructor
  · intro h i j hi hj hij e
    rw [List.length_map] at hi hj
    rw [List.getElem_map, List.getElem_map] at e
    have := h i j _ _ (List.getElem?_eq_getElem hi) (List.getElem?_eq_getElem hj) e
    omega
  · intro h i j p q hi hj e
    obtain ⟨hi', ei⟩ := List.getElem?_eq_some_iff.mp hi
    obtain ⟨hj', ej⟩ := List.getElem?_eq_some_iff.mp hj
    rcases Nat.lt_trichotomy i j with z | z | z
    · exact absurd (by rw [List.getElem_map, List.getElem_map, ei, ej]; exact e) (h i j (by rw [List.length_map]; exact hi') (by rw [List.length_map]; exact hj') z)
    · exact z
    · exact absurd (by rw [List.getElem_map, List.getElem_map, ei, ej]; exact e.symm) (h j i (by rw [List.length_map]; exact hj') (by rw [List.length_map]; exact hi') z)
theorem pw_perm {l l' : List Nat} (h : l.Perm l') (g : l.Pairwise (· ≠ ·)) : l'.Pairwise (· ≠ ·) := h.pairwise g (fun z => Ne.symm z)
def lC (D : va_G) (A : Nat → Prop) (H0 : Heap) (ws : va_W) (H : Heap) (locs : List Loc) : Prop := va_P D vwCl ws H ∧ va_D A ws ∧ va_S A H0 H locs
theorem va_P_perm {D : va_G} {ws ws' : va_W} {H : Heap} (h : va_P D vwCl ws H) (p : ws.Perm ws') : va_P D vwCl ws' H := fun k q hk => by
  obtain ⟨i, hi⟩ := List.getElem?_of_mem (p.mem_iff.mpr (List.mem_of_getElem? hk))
  exact h i q hi
theorem va_D_perm {A : Nat → Prop} {ws ws' : va_W} (h : va_D A ws) (p : ws.Perm ws') : va_D A ws' := by
  refine ⟨(nd_iff ws').mpr (pw_perm (p.map Prod.fst) ((nd_iff ws).mp h.1)), fun k q hk => ?_⟩
  obtain ⟨i, hi⟩ := List.getElem?_of_mem (p.mem_iff.mpr (List.mem_of_getElem? hk))
  exact h.2 i q hi
theorem lC_perm {D : va_G} {A : Nat → Prop} {H0 H : Heap} {ws ws' : va_W} {locs : List Loc} (h : lC D A H0 ws H locs) (p : ws.Perm ws') : lC D A H0 ws' H locs := ⟨va_P_perm h.1 p, va_D_perm h.2.1 p, h.2.2⟩
theorem lC_front {D : va_G} {A : Nat → Prop} {H0 H : Heap} {ws : va_W} {x : Nat × va_E} {locs : List Loc} (h : lC D A H0 (ws ++ [x]) H locs) : lC D A H0 (x :: ws) H locs := lC_perm h List.perm_append_comm
/-- what the constructors need of the tables beyond good words -/
def nZ (U : State) : Prop := va_Nw (.methodLinkNest RX8 18 yX6_init RX8) U ∧ va_Nw (.methodLinkNest RX0 19 yX7_init RX8) U ∧ va_Nw (.methodLinkNest RX4 11 yX7_init RX8) U ∧ va_Nw (.methodLinkNest RX5 19 yX7_init RX8) U ∧ va_Nw (.methodLinkNest RX5 28 yX2_init RX8) U ∧ va_AO RX2 U ∧ va_AO RX4 U ∧ va_AO RX7 U ∧ va_Nw (.methodLinkNest RX8 32 yX3_init RX8) U
theorem nZ_warm {s U : State} (hW : s.WarmedH U.vm) (h : nZ s) : nZ U := ⟨va_Nw.warmM hW h.1, va_Nw.warmM hW h.2.1, va_Nw.warmM hW h.2.2.1, va_Nw.warmM hW h.2.2.2.1, va_Nw.warmM hW h.2.2.2.2.1, va_AO.moved hW.alike h.2.2.2.2.2.1, va_AO.moved hW.alike h.2.2.2.2.2.2.1, va_AO.moved hW.alike h.2.2.2.2.2.2.2.1, va_Nw.warmM hW h.2.2.2.2.2.2.2.2⟩
theorem nZ_calling {U : State} {g : JFrame} {mk : MethodId} {a : Array Value} (h : nZ U) : nZ (U.calling g mk a) := ⟨va_Nw.same rfl rfl h.1, va_Nw.same rfl rfl h.2.1, va_Nw.same rfl rfl h.2.2.1, va_Nw.same rfl rfl h.2.2.2.1, va_Nw.same rfl rfl h.2.2.2.2.1, va_AO.moved (Vm.Alike.refl U.vm) h.2.2.2.2.2.1, va_AO.moved (Vm.Alike.refl U.vm) h.2.2.2.2.2.2.1, va_AO.moved (Vm.Alike.refl U.vm) h.2.2.2.2.2.2.2.1, va_Nw.same rfl rfl h.2.2.2.2.2.2.2.2⟩
/-- a constructor's start -/
def cPc (D : va_G) (cs : Nat → ClassId) (q ci : Nat) (fs As : List Value) (sz : Nat) : Array Value → State → Prop :=
  va_Pc (.ref q :: As) (fun U => U.heap.size = sz ∧ va_P D vwCl [(q, .inr (ci, fs))] U.heap ∧ va_K D vwCl (wT cs) U ∧ nZ U)
/-- a constructor's end -/
def cQc (D : va_G) (cs : Nat → ClassId) (out : va_W → Prop) (A : Nat → Prop) : Array Value → State → Outcome → State → Prop :=
  va_Qv (fun w : va_W => out w) (fun w t => va_P D vwCl w t.heap ∧ va_K D vwCl (wT cs) t ∧ va_D A w) A
/-- a constructor's contract: the object q, just made, and what comes with it -/
def cMt (l : Launch) (y : MethodName) (ws : List Cond) (rm : Room) (D : va_G) (cs : Nat → ClassId) (ci : Nat) (fs As : List Value) (mc ms : Nat) (out : Nat → va_W → Prop) : Prop := ∀ (q sz : Nat), Met l y ws rm (cPc D cs q ci fs As sz) (cQc D cs (out q) (va_A [(q, .inr (ci, fs))] sz)) mc ms (va_A [(q, .inr (ci, fs))] sz)
section LC
variable {p : Program} {l : Launch} {e : Env} {R : Room} {s : State} {m : MethodId} {args : Array Value} {below : List Frame} {meth : Method} {c : Code} {H : Heap} {locs : List Loc} {cells slots : Nat} {Q : State → Prop}
variable {cc : ByteArray} {pc : Nat} {ls : Array Slot} {rest : List Value}
variable {cs : Nat → ClassId} {D : va_G} {A : Nat → Prop} {H0 : Heap} {ws : va_W}
theorem vr_new (hexec : p.tables.exec = Jvm.exec) (hb : c.code = cc) {own C : String} {T : u_T} {N ci index : Nat} {Ts : List Cond} (hts : ∀ w ∈ Ts, w.before args s = true) (hin : ∀ w ∈ u_ws C T N, w ∈ Ts) (ty : Nat → FieldType) (hty : ∀ k, k < N → parseFieldDescriptor (T k).2.2.1 = some (ty k)) (hown : s.vm.findClass own = some m.cls) (hcl : (Cond.classLink own index C).before args s = true) (hinst : (Cond.instantiable C N).before args s = true) (hini : (Cond.initialized C).before args s = true)
    (hK : va_K D vwCl (wT cs) s) (hA : ∀ q, H0.size ≤ q → A q) (hc : vwCl[ci]? = some (C, T, N)) {fs : List Value} (hfs : ∀ j, j < N → defaultValue (ty j) = vp_V fs j) (h : lC D A H0 ws H locs) (hcells : cells + 1 ≤ R.cells) (hslots : slots + N ≤ R.slots) (hdg : decode cc pc = .ok (.new index, 3))
    (kk : ∀ (q : Nat) (H1 : Heap), lC D A H0 ((q, .inr (ci, fs)) :: ws) H1 locs → W p l e R s m args below meth c H1 locs (cells + 1) (slots + N) Q (F0 m (pc + 3) ls (.ref q :: rest))) : W p l e R s m args below meth c H locs cells slots Q (F0 m pc ls rest) :=
  va_new hexec hb hts hin ty hty hown hcl hinst hini hK h.1 h.2.1 h.2.2 hA hc hfs hcells hslots hdg (fun q H1 a b d => kk q H1 (lC_front ⟨a, b, d⟩))
theorem tys_last {tys : List (ClassId × FieldType)} {x : ClassId × FieldType} : (tys ++ [x])[tys.length]? = some x := by rw [List.getElem?_append_right (Nat.le_refl _), Nat.sub_self]; rfl
theorem vr_na (hexec : p.tables.exec = Jvm.exec) (hb : c.code = cc) (harr : (Cond.arrayClass (newarray.typeOf .int)).before args s = true) (hK : va_K D vwCl (wT cs) s) (hA : ∀ q, H0.size ≤ q → A q) (h : lC D A H0 ws H locs)
    {n : Int32} {N' : Nat} (hn : ¬ n < 0) (hN : n.toNatClampNeg = N') (hbytes : N' * componentBytes .int ≤ 536870912) (hcells : cells + 1 ≤ R.cells) (hslots : slots + N' ≤ R.slots) (hdg : decode cc pc = .ok (.newarray .int, 2))
    (kk : ∀ (q : Nat) (H1 : Heap), lC D A H0 ((q, .inl (cs 0, N', .inl (fun _ => 0))) :: ws) H1 locs → W p l e R s m args below meth c H1 locs (cells + 1) (slots + N') Q (F0 m (pc + 2) ls (.ref q :: rest))) : W p l e R s m args below meth c H locs cells slots Q (F0 m pc ls (.int n :: rest)) := by
  refine va_newa (atype := .int) (ty := .int) (a0 := (N', .inl (fun _ => 0))) hexec hb harr rfl hK h.1 h.2.1 h.2.2 hA (fun cA => rfl) hn hN hbytes hcells hslots hdg (fun q cA H1 k1 a b d => ?_)
  have e : cA = cs 0 := by
    have h1 : s.vm.findClass ("[" ++ FieldType.int.toString) = some cA := (k1.2 _ _ tys_last).2
    have h2 : s.vm.findClass ("[" ++ FieldType.int.toString) = some (cs 0) := (hK.2 0 _ rfl).2
    exact Option.some.inj (h1.symm.trans h2)
  subst e
  exact kk q H1 (lC_front ⟨a, b, d⟩)
theorem vr_nz (hexec : p.tables.exec = Jvm.exec) (hb : c.code = cc) (harr : (Cond.arrayClass (newarray.typeOf .boolean)).before args s = true) (hK : va_K D vwCl (wT cs) s) (hA : ∀ q, H0.size ≤ q → A q) (h : lC D A H0 ws H locs)
    {n : Int32} {N' : Nat} (hn : ¬ n < 0) (hN : n.toNatClampNeg = N') (hbytes : N' * componentBytes .boolean ≤ 536870912) (hcells : cells + 1 ≤ R.cells) (hslots : slots + N' ≤ R.slots) (hdg : decode cc pc = .ok (.newarray .boolean, 2))
    (kk : ∀ (q : Nat) (H1 : Heap), lC D A H0 ((q, .inl (cs 1, N', .inl (fun _ => 0))) :: ws) H1 locs → W p l e R s m args below meth c H1 locs (cells + 1) (slots + N') Q (F0 m (pc + 2) ls (.ref q :: rest))) : W p l e R s m args below meth c H locs cells slots Q (F0 m pc ls (.int n :: rest)) := by
  refine va_newa (atype := .boolean) (ty := .boolean) (a0 := (N', .inl (fun _ => 0))) hexec hb harr rfl hK h.1 h.2.1 h.2.2 hA (fun cA => rfl) hn hN hbytes hcells hslots hdg (fun q cA H1 k1 a b d => ?_)
  have e : cA = cs 1 := by
    have h1 : s.vm.findClass ("[" ++ FieldType.boolean.toString) = some cA := (k1.2 _ _ tys_last).2
    have h2 : s.vm.findClass ("[" ++ FieldType.boolean.toString) = some (cs 1) := (hK.2 1 _ rfl).2
    exact Option.some.inj (h1.symm.trans h2)
  subst e
  exact kk q H1 (lC_front ⟨a, b, d⟩)
theorem vr_nl (hexec : p.tables.exec = Jvm.exec) (hb : c.code = cc) (harr : (Cond.arrayClass (newarray.typeOf .long)).before args s = true) (hK : va_K D vwCl (wT cs) s) (hA : ∀ q, H0.size ≤ q → A q) (h : lC D A H0 ws H locs)
    {n : Int32} {N' : Nat} (hn : ¬ n < 0) (hN : n.toNatClampNeg = N') (hbytes : N' * componentBytes .long ≤ 536870912) (hcells : cells + 1 ≤ R.cells) (hslots : slots + N' ≤ R.slots) (hdg : decode cc pc = .ok (.newarray .long, 2))
    (kk : ∀ (q : Nat) (H1 : Heap), lC D A H0 ((q, .inl (cs 5, N', .inr (.inl (fun _ => 0)))) :: ws) H1 locs → W p l e R s m args below meth c H1 locs (cells + 1) (slots + N') Q (F0 m (pc + 2) ls (.ref q :: rest))) : W p l e R s m args below meth c H locs cells slots Q (F0 m pc ls (.int n :: rest)) := by
  refine va_newa (atype := .long) (ty := .long) (a0 := (N', .inr (.inl (fun _ => 0)))) hexec hb harr rfl hK h.1 h.2.1 h.2.2 hA (fun cA => rfl) hn hN hbytes hcells hslots hdg (fun q cA H1 k1 a b d => ?_)
  have e : cA = cs 5 := by
    have h1 : s.vm.findClass ("[" ++ FieldType.long.toString) = some cA := (k1.2 _ _ tys_last).2
    have h2 : s.vm.findClass ("[" ++ FieldType.long.toString) = some (cs 5) := (hK.2 5 _ rfl).2
    exact Option.some.inj (h1.symm.trans h2)
  subst e
  exact kk q H1 (lC_front ⟨a, b, d⟩)
/-- an array of references: its class is the t-th of wT -/
theorem vr_nq (hexec : p.tables.exec = Jvm.exec) (hb : c.code = cc) {own C : String} {index : Nat} (t : Nat) (ht : (wT cs)[t]? = some (cs t, .object C)) (hown : s.vm.findClass own = some m.cls) (hclink : (Cond.classLink own index C).before args s = true) (hover : va_AO C s) (hK : va_K D vwCl (wT cs) s) (hA : ∀ q, H0.size ≤ q → A q) (h : lC D A H0 ws H locs)
    {n : Int32} {N' : Nat} (hn : ¬ n < 0) (hN : n.toNatClampNeg = N') (hbytes : N' * 4 ≤ 536870912) (hcells : cells + 1 ≤ R.cells) (hslots : slots + N' ≤ R.slots) (hdg : decode cc pc = .ok (.anewarray index, 3))
    (kk : ∀ (q : Nat) (H1 : Heap), lC D A H0 ((q, .inl (cs t, N', .inr (.inr (.inr (.inr (fun _ => none)))))) :: ws) H1 locs → W p l e R s m args below meth c H1 locs (cells + 1) (slots + N') Q (F0 m (pc + 3) ls (.ref q :: rest))) : W p l e R s m args below meth c H locs cells slots Q (F0 m pc ls (.int n :: rest)) := by
  refine va_newq hexec hb hown hclink hover hK h.1 h.2.1 h.2.2 hA hn hN hbytes hcells hslots hdg (fun q cA H1 k1 a b d => ?_)
  have e : cA = cs t := by
    obtain ⟨kA, comp, -, -, -, h1⟩ := (k1.2 _ _ tys_last).2
    obtain ⟨kB, comp2, -, -, -, h2⟩ := (hK.2 t _ ht).2
    exact Option.some.inj (h1.symm.trans h2)
  subst e
  exact kk q H1 (lC_front ⟨a, b, d⟩)
variable {a : Nat}
theorem vr_pt (hexec : p.tables.exec = Jvm.exec) (hb : c.code = cc) {own ref C : String} {T : u_T} {N ci index : Nat} {Ts : List Cond} (hts : ∀ w ∈ Ts, w.before args s = true) (hin : ∀ w ∈ u_ws C T N, w ∈ Ts) {ty0 : Nat → FieldType} (hty : ∀ k, k < N → parseFieldDescriptor (T k).2.2.1 = some (ty0 k)) (hnm : ∀ a, a < N → ∀ b, b < N → a ≠ b → (T a).2.1 ≠ (T b).2.1) (hown : s.vm.findClass own = some m.cls) (hK : va_K D vwCl (wT cs) s) (h : lC D A H0 ws H locs) (q0 : Nat) {fs : List Value} (he : ws[q0]? = some (a, .inr (ci, fs))) (hc : vwCl[ci]? = some (C, T, N)) (k : Nat) (hk : k < N) (hlink : (Cond.fieldLink own index ref (T k).2.1 (T k).2.2.1).before args s = true) (hsame : ref = (T k).1) (hfin : (T k).2.2.2 = false) {v : Value} (hn : narrow (ty0 k) v = v) (hfit : fits (ty0 k) v = true) (hl : k < fs.length)
    (hdg : decode cc pc = .ok (.putfield index, 3)) (kk : ∀ (H1 : Heap) (locs1 : List Loc), lC D A H0 (ws.set q0 (a, .inr (ci, fs.set k v))) H1 locs1 → W p l e R s m args below meth c H1 locs1 cells slots Q (F0 m (pc + 3) ls rest)) : W p l e R s m args below meth c H locs cells slots Q (F0 m pc ls (v :: .ref a :: rest)) := by
  subst hsame
  exact va_put hexec hb hts hin ty0 hty hnm hown hK h.1 h.2.1 h.2.2 q0 he hc k hk hlink (fun _ z => z) hfin (hty k hk) hn hfit hl hdg (fun H1 l1 x y z => kk H1 l1 ⟨x, y, z⟩)
theorem vr_pf (hexec : p.tables.exec = Jvm.exec) (hb : c.code = cc) {own ref C : String} {T : u_T} {N ci index : Nat} {Ts : List Cond} (hts : ∀ w ∈ Ts, w.before args s = true) (hin : ∀ w ∈ u_ws C T N, w ∈ Ts) {ty0 : Nat → FieldType} (hty : ∀ k, k < N → parseFieldDescriptor (T k).2.2.1 = some (ty0 k)) (hnm : ∀ a, a < N → ∀ b, b < N → a ≠ b → (T a).2.1 ≠ (T b).2.1) (hown : s.vm.findClass own = some m.cls) (hK : va_K D vwCl (wT cs) s) (h : lC D A H0 ws H locs) (q0 : Nat) {fs : List Value} (he : ws[q0]? = some (a, .inr (ci, fs))) (hc : vwCl[ci]? = some (C, T, N)) (k : Nat) (hk : k < N) (hlink : (Cond.fieldLink own index ref (T k).2.1 (T k).2.2.1).before args s = true) (hsame : ref = (T k).1) (hfin : (T k).2.2.2 = true) (hin2 : meth.name = "<init>") (hdecl : (T k).1 = own) {v : Value} (hn : narrow (ty0 k) v = v) (hfit : fits (ty0 k) v = true) (hl : k < fs.length)
    (hdg : decode cc pc = .ok (.putfield index, 3)) (kk : ∀ (H1 : Heap) (locs1 : List Loc), lC D A H0 (ws.set q0 (a, .inr (ci, fs.set k v))) H1 locs1 → W p l e R s m args below meth c H1 locs1 cells slots Q (F0 m (pc + 3) ls rest)) : W p l e R s m args below meth c H locs cells slots Q (F0 m pc ls (v :: .ref a :: rest)) := by
  subst hsame
  exact va_putF hexec hb hts hin ty0 hty hnm hown hK h.1 h.2.1 h.2.2 q0 he hc k hk hlink (fun _ z => z) hfin hin2 hdecl (hty k hk) hn hfit hl hdg (fun H1 l1 x y z => kk H1 l1 ⟨x, y, z⟩)
theorem vr_gt (hexec : p.tables.exec = Jvm.exec) (hb : c.code = cc) {own ref C : String} {T : u_T} {N ci index : Nat} {Ts : List Cond} (hts : ∀ w ∈ Ts, w.before args s = true) (hin : ∀ w ∈ u_ws C T N, w ∈ Ts) (hown : s.vm.findClass own = some m.cls) (hK : va_K D vwCl (wT cs) s) (h : lC D A H0 ws H locs) (q0 : Nat) {fs : List Value} (he : ws[q0]? = some (a, .inr (ci, fs))) (hc : vwCl[ci]? = some (C, T, N)) (k : Nat) (hk : k < N) (hlink : (Cond.fieldLink own index ref (T k).2.1 (T k).2.2.1).before args s = true) (hsame : ref = (T k).1) {v : Value} (hv : fs[k]? = some v)
    (hdg : decode cc pc = .ok (.getfield index, 3)) (kk : W p l e R s m args below meth c H locs cells slots Q (F0 m (pc + 3) ls (v :: rest))) : W p l e R s m args below meth c H locs cells slots Q (F0 m pc ls (.ref a :: rest)) := by
  subst hsame
  exact va_get hexec hb hts hin hown hK h.1 q0 he hc k hk hlink (fun _ z => z) hv hdg kk
theorem vr_as (hexec : p.tables.exec = Jvm.exec) (hb : c.code = cc) (hK : va_K D vwCl (wT cs) s) (h : lC D A H0 ws H locs) (q0 t0 qk ci : Nat) {r : vw_C} {n v : Nat} {vs : List Value} {f : Nat → Option Nat} (ha : ws[q0]? = some (a, .inl (cs t0, n, .inr (.inr (.inr (.inr f)))))) (ht : (wT cs)[t0]? = some (cs t0, .object r.1)) (hv : ws[qk]? = some (v, .inr (ci, vs))) (hc : vwCl[ci]? = some r) (j : Nat) (hj : j < n) (hn : n < 2147483648) (hdg : decode cc pc = .ok (.aastore, 1))
    (kk : ∀ (H1 : Heap) (locs1 : List Loc), lC D A H0 (ws.set q0 (a, .inl (cs t0, n, .inr (.inr (.inr (.inr (va_up f j (some v)))))))) H1 locs1 → W p l e R s m args below meth c H1 locs1 cells slots Q (F0 m (pc + 1) ls rest)) : W p l e R s m args below meth c H locs cells slots Q (F0 m pc ls (.ref v :: .int (nI j) :: .ref a :: rest)) := by
  refine va_astq hexec hb hK h.1 h.2.1 h.2.2 q0 t0 qk ci ha ht hv hc (vp_in_nI hj hn) hdg (fun H1 l1 x y z => kk H1 l1 ?_)
  rw [nI_clamp (by omega)] at x y
  exact ⟨x, y, z⟩
/-- Object.<init> -/
theorem vr_oi (hexec : p.tables.exec = Jvm.exec) (hb : c.code = cc) {own : String} (hown : s.vm.findClass own = some m.cls) {idx : Nat} (hlink : (Cond.methodLink own idx objectInit).before args s = true) (hinst : (Cond.instanceMethod objectInit).before args s = true) (hcode : (Cond.code objectInit ⟨#[0xb1]⟩ 1 none).before args s = true) (hsize : ls.size = c.maxLocals) (hd : decode cc pc = .ok (.invokespecial idx, 3)) (hframes : 1 ≤ R.frames) (hlocals : (rest.map fun v => v.category).sum + 12 ≤ R.locals)
    (kk : W p l e R s m args below meth c H locs cells slots Q (F0 m (pc + 3) ls rest)) : W p l e R s m args below meth c H locs cells slots Q (F0 m pc ls (.ref a :: rest)) :=
  W.objInit hexec hb hown hlink hinst hcode rfl hsize rfl hd hframes (by show 2 * 0 + _ + 12 ≤ _; omega) kk
theorem cPc_blind {q ci : Nat} {fs As : List Value} {sz : Nat} : FrameBlind (cPc D cs q ci fs As sz) := fun a U g mk z => by
  obtain ⟨z0, z1, z2, z3, z4⟩ := z
  exact ⟨z0, z1, z2, va_K.moved (u := U) (U := U.calling g mk a) (Vm.Alike.refl U.vm) z3, nZ_calling z4⟩
theorem lC_pre {q ci : Nat} {fs As : List Value} (hK : va_K D vwCl (wT cs) s) (hN : nZ s) (h : lC D A H0 ((q, .inr (ci, fs)) :: ws) H locs) : PreS s H (cPc D cs q ci fs As H.size) (.ref q :: As) :=
  ⟨cPc_blind, fun U hU hW => ⟨rfl, by rw [hU], by rw [hU]; exact fun k x hk => h.1 k x (by
    have hz : k < 1 := (List.getElem?_eq_some_iff.mp hk).1
    rw [show k = 0 by omega] at hk ⊢
    exact hk), va_K.moved hW.alike hK, nZ_warm hW hN⟩⟩
theorem lC_free {q ci : Nat} {fs : List Value} (hA : ∀ q, H0.size ≤ q → A q) (h : lC D A H0 ((q, .inr (ci, fs)) :: ws) H locs) : ∀ z, va_A [(q, .inr (ci, fs))] H.size z → A z :=
  va_free (wc := [(q, .inr (ci, fs))]) h.2.1 h.2.2 hA [0] rfl
theorem lC_join {q ci : Nat} {fs : List Value} {w1 : va_W} {t : State} {H1 : Heap} {locs1 : List Loc} (hA : ∀ q, H0.size ≤ q → A q) (h : lC D A H0 ((q, .inr (ci, fs)) :: ws) H locs) (ht : t.heap = H1) (hP1 : va_P D vwCl w1 t.heap) (hD1 : va_D (va_A [(q, .inr (ci, fs))] H.size) w1) (hk1 : ∀ z : Nat, z < H.size → ¬ va_A [(q, .inr (ci, fs))] H.size z → H1[z]? = H[z]?) (hS : va_S A H0 H1 locs1) : lC D A H0 (w1 ++ ws) H1 locs1 := by
  obtain ⟨k1, k2⟩ := va_joinQ (X := [(q, .inr (ci, fs))]) (pl := ws) (cx := [(q, .inr (ci, fs))]) (wr := []) (w1 := w1) h.1 h.2.1 [0] [] rfl rfl rfl (fun i hi => absurd hi List.not_mem_nil) hk1 (lC_free hA h) (by rw [← ht]; exact hP1) hD1
  exact ⟨k1, k2, hS⟩
variable {nL : Nat} {Ts wy : List Cond} {own : String} {y : MethodName} {rm : Room} {As st0 : List Value} {bytes : ByteArray} {maxL index na mc ms : Nat}
/-- a constructor's call -/
theorem vr_cI {q ci : Nat} {fs : List Value} {out : Nat → va_W → Prop} (S : CallFix p m c cc nL s args Ts own) (cw : CallB R s args own index y bytes maxL none wy rm mc ms na ∧ y.name = "<init>" ∧ (Cond.instanceMethod y).before args s = true) (hK : va_K D vwCl (wT cs) s) (hN : nZ s) (hA : ∀ q, H0.size ≤ q → A q) (h : lC D A H0 ((q, .inr (ci, fs)) :: ws) H locs) (hM : cMt l y wy rm D cs ci fs As mc ms out) (hst : st0 = As.reverse ++ .ref q :: rest) (hn : As.length = na) (hl : ls.size = nL) (hr : (rest.map fun v => v.category).sum ≤ 8) (hf : cells + mc ≤ R.cells ∧ slots + ms ≤ R.slots) (hdg : decode cc pc = .ok (.invokespecial index, 3))
    (kk : ∀ (w : va_W) (H1 : Heap) (locs1 : List Loc), out q w → lC D A H0 (w ++ ws) H1 locs1 → W p l e R s m args below meth c H1 locs1 (cells + mc) (slots + ms) Q (F0 m (pc + 3) ls rest)) : W p l e R s m args below meth c H locs cells slots Q (F0 m pc ls st0) := by
  refine va_callv (va_runI (As := As) (rest := rest) S (hM q H.size) cw (lC_pre hK hN h) rfl hn hl hst (lv_room hr) hdg hf) h.2.2 (fun z _ hz => lC_free hA h z hz) (lC_free hA h) (fun u t H1 locs1 ht hvm hq hB hz1 hk1 hS => ?_)
  exact kk u H1 locs1 hq (lC_join hA h ht hB.1 hB.2.2 hk1 hS)
theorem vr_cN {host : String} {q ci : Nat} {fs : List Value} {out : Nat → va_W → Prop} (S : CallFix p m c cc nL s args Ts own) (cw : va_CN R s args own index y host bytes maxL none wy rm mc ms na ∧ y.name = "<init>" ∧ (Cond.instanceMethod y).before args s = true) (hK : va_K D vwCl (wT cs) s) (hN : nZ s) (hA : ∀ q, H0.size ≤ q → A q) (h : lC D A H0 ((q, .inr (ci, fs)) :: ws) H locs) (hM : cMt l y wy rm D cs ci fs As mc ms out) (hst : st0 = As.reverse ++ .ref q :: rest) (hn : As.length = na) (hl : ls.size = nL) (hr : (rest.map fun v => v.category).sum ≤ 8) (hf : cells + mc ≤ R.cells ∧ slots + ms ≤ R.slots) (hdg : decode cc pc = .ok (.invokespecial index, 3))
    (kk : ∀ (w : va_W) (H1 : Heap) (locs1 : List Loc), out q w → lC D A H0 (w ++ ws) H1 locs1 → W p l e R s m args below meth c H1 locs1 (cells + mc) (slots + ms) Q (F0 m (pc + 3) ls rest)) : W p l e R s m args below meth c H locs cells slots Q (F0 m pc ls st0) := by
  refine va_callv (va_runIN (As := As) (rest := rest) S (hM q H.size) cw (lC_pre hK hN h) rfl hn hl hst (lv_room hr) hdg hf) h.2.2 (fun z _ hz => lC_free hA h z hz) (lC_free hA h) (fun u t H1 locs1 ht hvm hq hB hz1 hk1 hS => ?_)
  exact kk u H1 locs1 hq (lC_join hA h ht hB.1 hB.2.2 hk1 hS)
/-- its end -/
theorem vr_rt {out : va_W → Prop} {mcT msT : Nat} (w : va_W) (ho : out w) (hexec : p.tables.exec = Jvm.exec) (hb : c.code = cc) (hr : meth.sig.returnType = none) (hK : va_K D vwCl (wT cs) s) (h : lC D A s.heap w H locs) (hlocks : meth.locks = false) (h1 : cells ≤ mcT) (h2 : slots ≤ msT) (hdg : decode cc pc = .ok (.return_, 1)) :
    W p l e R s m args below meth c H locs cells slots (MQ below (cQc D cs out A) args s mcT msT A) (F0 m pc ls []) :=
  W.widen (k := mcT) (n := msT) h1 h2 (W.vret hexec hb hr (fun t ht hW => ⟨⟨w, rfl, ho, by rw [ht]; exact h.1, va_K.moved hW.alike hK, h.2.1⟩, h.2.2.F ht⟩) h.2.2.2.2 hdg hlocks)
/-- a loop that makes things -/
theorem c_loop {N : Nat} (I : Nat → Heap → List Loc → Array Slot → Prop) (kc ks : Nat → Nat)
    (step : ∀ i H locs ls, i < N → I i H locs ls → (∀ H' locs' ls', I (i + 1) H' locs' ls' → W p l e R s m args below meth c H' locs' (kc (i + 1)) (ks (i + 1)) Q (F0 m pc ls' [])) → W p l e R s m args below meth c H locs (kc i) (ks i) Q (F0 m pc ls []))
    (fin : ∀ H locs ls, I N H locs ls → W p l e R s m args below meth c H locs (kc N) (ks N) Q (F0 m pc ls [])) : ∀ i H locs ls, i ≤ N → I i H locs ls → W p l e R s m args below meth c H locs (kc i) (ks i) Q (F0 m pc ls []) := by
  have key : ∀ k i H locs ls, i + k = N → I i H locs ls → W p l e R s m args below meth c H locs (kc i) (ks i) Q (F0 m pc ls []) := by
    intro k
    induction k with
    | zero => intro i H locs ls e hI; rw [show i = N by omega] at hI ⊢; exact fin H locs ls hI
    | succ k ih => intro i H locs ls e hI; exact step i H locs ls (by omega) hI (fun H' locs' ls' hI' => ih (i + 1) H' locs' ls' (by omega) hI')
  intro i H locs ls h hI
  exact key (N - i) i H locs ls (by omega) hI
end LC
section LE
variable {l : Launch} {y : MethodName} {wy ws' : List Cond} {rm : Room} {D : va_G} {cs : Nat → ClassId} {cc : ByteArray} {maxL : Nat} {ci : Nat} {fs As : List Value} {mc ms : Nat}
theorem cM_of {out : Nat → va_W → Prop} (hy : plainName y.cls = true) (hyn : y.name = "<init>") (hw : wy = Cond.code y cc maxL none :: ws') (hmax : ∀ q, (lg_sl (.ref q :: As)).length ≤ maxL)
    (body : ∀ (q : Nat) (p : Program) (e : Env) (s : State) (m : MethodId) (below : List Frame) (meth : Method) (c : Code) (ls : Array Slot) (A : Nat → Prop), p.tables.exec = Jvm.exec → c.code = cc → meth.sig.returnType = none → c.maxLocals = maxL → s.vm.findClass y.cls = some m.cls → (∀ w ∈ wy, w.before (Value.ref q :: As).toArray s = true) → meth.locks = false → meth.name = "<init>" → va_K D vwCl (wT cs) s → nZ s → (∀ z : Nat, s.heap.size ≤ z → A z) → lC D A s.heap [(q, .inr (ci, fs))] s.heap [] → lv_has ls maxL (lv_args 0 (.ref q :: As)) →
      W p l e (headSpec wy rm).room s m (Value.ref q :: As).toArray below meth c s.heap [] 0 0 (MQ below (cQc D cs (out q) A) (Value.ref q :: As).toArray s mc ms A) (F0 m 0 ls [])) : cMt l y wy rm D cs ci fs As mc ms out := by
  intro q sz
  refine Met.ofW (cc := cc) (maxL := maxL) (ret := none) hy hw ?_
  intro p e s m args below meth c s₁ B hml hv
  obtain ⟨rfl, hsz, hP, hK, hN⟩ := hv
  subst hsz
  have hl := lv_entry (.ref q :: As) (n := maxL) (hmax q)
  rw [lg_entry_eq]
  have hin : meth.name = "<init>" := (name_of_methodNamed B.named B.method).1.trans hyn
  have hD : va_D (va_A [(q, .inr (ci, fs))] s.heap.size) [(q, .inr (ci, fs))] := ⟨fun i j x z hi hj _ => by
    have h1 : i < 1 := (List.getElem?_eq_some_iff.mp hi).1
    have h2 : j < 1 := (List.getElem?_eq_some_iff.mp hj).1
    omega, fun k z hk => Or.inl ⟨k, z.2, hk⟩⟩
  exact body q p e s m below meth c _ _ B.exec B.bytes B.returns hml (findClass_of_methodNamed B.named) (atoms_spec (ws := wy) B.pre) B.notSynchronized hin hK hN (fun z h => Or.inr h) ⟨hP, hD, va_S.rf⟩ hl
end LE
