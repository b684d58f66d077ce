/-! ===== the law's world: the row out, the class's cells, the reference's cells ===== -/
abbrev wO (cs : Nat → ClassId) (o : Nat) (f : Nat → Int64) : Nat × va_E := (o, .inl (cs 5, 1, .inr (.inl f)))
def wL (cs : Nat → ClassId) (ad : Nat → Nat) (o : Nat) (f : Nat → Int64) (M : wM) (J : wJ) : va_W := wO cs o f :: wW 340 cSh ad cs M J
theorem P_mem {D : va_G} {ws : va_W} {H : Heap} : va_P D vwCl ws H ↔ ∀ q ∈ ws, va_at D vwCl q H := by
  constructor
  · intro h q hq
    obtain ⟨i, hi⟩ := List.getElem?_of_mem hq
    exact h i q hi
  · intro h k q hk
    exact h q (List.mem_of_getElem? hk)
theorem wW_fst {n : Nat} {sh : Nat → wSh} {ad : Nat → Nat} {cs : Nat → ClassId} {M : wM} {J : wJ} : (wW n sh ad cs M J).map Prod.fst = (List.range n).map ad := by
  unfold wW
  rw [List.map_map]
  rfl
theorem D_fst {A : Nat → Prop} {ws ws' : va_W} (h : va_D A ws) (e : ws'.map Prod.fst = ws.map Prod.fst) : va_D A ws' := by
  refine ⟨(nd_iff ws').mpr (by rw [e]; exact (nd_iff ws).mp h.1), fun k q hk => ?_⟩
  have hm : q.1 ∈ ws.map Prod.fst := by rw [← e]; exact List.mem_map_of_mem (List.mem_of_getElem? hk)
  obtain ⟨x, hx, ex⟩ := List.mem_map.mp hm
  obtain ⟨i, hi⟩ := List.getElem?_of_mem hx
  rw [← ex]
  exact h.2 i x hi
section LW
variable {D : va_G} {A : Nat → Prop} {H0 H H1 : Heap} {w1 w2 rs : va_W} {locs locs1 : List Loc}
theorem lC_apart (h : lC D A H0 (w1 ++ rs) H locs) : ∀ x ∈ w1, ∀ y ∈ rs, x.1 ≠ y.1 := by
  intro x hx y hy
  have h1 := (nd_iff _).mp h.2.1.1
  rw [List.map_append, List.pairwise_append] at h1
  exact h1.2.2 x.1 (List.mem_map_of_mem hx) y.1 (List.mem_map_of_mem hy)
theorem lC_call (h : lC D A H0 (w1 ++ rs) H locs) (e : w2.map Prod.fst = w1.map Prod.fst) (hP : va_P D vwCl w2 H1) (hk : ∀ q : Nat, q < H.size → (∀ x ∈ w1, x.1 ≠ q) → H1[q]? = H[q]?) (hS : va_S A H0 H1 locs1) : lC D A H0 (w2 ++ rs) H1 locs1 := by
  refine ⟨P_mem.mpr (fun q hq => ?_), D_fst h.2.1 (by rw [List.map_append, List.map_append, e]), hS⟩
  rcases List.mem_append.mp hq with hq | hq
  · exact P_mem.mp hP q hq
  · have ha := P_mem.mp h.1 q (List.mem_append_right _ hq)
    exact ha.kept (hk q.1 ha.lt (fun x hx => lC_apart h x hx q hq))
theorem lC_left (h : lC D A H0 (w1 ++ rs) H locs) : lC D A H0 w1 H locs := by
  refine ⟨P_mem.mpr (fun q hq => P_mem.mp h.1 q (List.mem_append_left _ hq)), ⟨(nd_iff _).mpr ?_, fun k q hk => ?_⟩, h.2.2⟩
  · have h1 := (nd_iff _).mp h.2.1.1
    rw [List.map_append, List.pairwise_append] at h1
    exact h1.1
  · obtain ⟨i, hi⟩ := List.getElem?_of_mem (List.mem_append_left rs (List.mem_of_getElem? hk))
    exact h.2.1.2 i q hi
variable {n : Nat} {sh : Nat → wSh} {ad : Nat → Nat} {cs : Nat → ClassId} {M : wM} {J : wJ} {o : Nat} {f : Nat → Int64}
theorem lC_wI (h : lC D A H0 (wW n sh ad cs M J ++ rs) H locs) : wI D n sh ad cs A H0 M J H locs := lC_left h
theorem wW_x {x : Nat × va_E} (hx : x ∈ wW n sh ad cs M J) : ∃ k, k < n ∧ x.1 = ad k := by
  unfold wW at hx
  obtain ⟨k, hk, e⟩ := List.mem_map.mp hx
  exact ⟨k, List.mem_range.mp hk, by rw [← e]⟩
theorem wW_in {k : Nat} (hk : k < n) : (ad k, wE sh ad cs M J k) ∈ wW n sh ad cs M J := by
  unfold wW
  exact List.mem_map.mpr ⟨k, List.mem_range.mpr hk, rfl⟩
/-- behind a call in the index world: the rest stays -/
theorem lC_back {u : wM × wJ} {t : State} (h : lC D A H0 (wW n sh ad cs M J ++ rs) H locs) (ht : t.heap = H1) (hB : wB D n sh ad cs (wA n ad H.size) u t) (hk : ∀ q : Nat, q < H.size → ¬ wA n ad H.size q → H1[q]? = H[q]?) (hS : va_S A H0 H1 locs1) : lC D A H0 (wW n sh ad cs u.1 u.2 ++ rs) H1 locs1 := by
  refine lC_call h (by rw [wW_fst, wW_fst]) (by rw [← ht]; exact hB.1) (fun q hq hx => hk q hq (fun z => ?_)) hS
  rcases z with ⟨k, hk', e⟩ | z
  · exact hx _ (wW_in (M := M) (J := J) hk') e.symm
  · omega
theorem wL_out : (wL cs ad o f M J).Perm (wW 340 cSh ad cs M J ++ [wO cs o f]) := (List.perm_append_comm (l₁ := [wO cs o f]) (l₂ := wW 340 cSh ad cs M J))
theorem wL_fst {f' : Nat → Int64} {M' : wM} {J' : wJ} : (wL cs ad o f' M' J').map Prod.fst = (wL cs ad o f M J).map Prod.fst := by
  show o :: _ = o :: _
  rw [wW_fst, wW_fst]
def lA (ad : Nat → Nat) (o sz : Nat) : Nat → Prop := fun q => (∃ k, k < 340 ∧ q = ad k) ∨ q = o ∨ sz ≤ q
theorem lA_in (hA : ∀ q : Nat, H0.size ≤ q → A q) (h : lC D A H0 (wL cs ad o f M J ++ rs) H locs) : ∀ q, lA ad o H.size q → A q := by
  intro q hq
  rcases hq with ⟨k, hk, e⟩ | e | hz
  · obtain ⟨i, hi⟩ := List.getElem?_of_mem (List.mem_append_left rs (List.mem_cons_of_mem (wO cs o f) (wW_in (sh := cSh) (ad := ad) (cs := cs) (M := M) (J := J) hk)))
    rw [e]
    exact h.2.1.2 i _ hi
  · rw [e]
    exact h.2.1.2 0 (wO cs o f) rfl
  · exact hA q (Nat.le_trans h.2.2.1 hz)
theorem lC_self {sz : Nat} (hP : va_P D vwCl (wL cs ad o f M J) H) (hD : va_D (fun _ => True) (wL cs ad o f M J)) : lC D (lA ad o sz) H (wL cs ad o f M J) H [] := by
  refine ⟨hP, ⟨hD.1, fun k q hk => ?_⟩, va_S.rf⟩
  rcases List.mem_cons.mp (List.mem_of_getElem? hk) with e | hm
  · rw [e]
    exact Or.inr (Or.inl rfl)
  · exact Or.inl (wW_x hm)
def lB (D : va_G) (cs : Nat → ClassId) (ad : Nat → Nat) (o : Nat) (A : Nat → Prop) (u : wM × wJ × (Nat → Int64)) (t : State) : Prop :=
  va_P D vwCl (wL cs ad o u.2.2 u.1 u.2.1) t.heap ∧ va_K D vwCl (wT cs) t ∧ va_D A (wL cs ad o u.2.2 u.1 u.2.1)
def lP (D : va_G) (cs : Nat → ClassId) (ad : Nat → Nat) (o : Nat) (f : Nat → Int64) (av : List Value) (sz : Nat) (M : wM) (J : wJ) : Array Value → State → Prop :=
  va_Pc av (fun U => U.heap.size = sz ∧ va_P D vwCl (wL cs ad o f M J) U.heap ∧ va_K D vwCl (wT cs) U ∧ va_D (fun _ => True) (wL cs ad o f M J) ∧ xZ (lA ad o sz) U)
/-- a wrapper's contract -/
def lMt (l : Launch) (y : MethodName) (ws : List Cond) (rm : Room) (D : va_G) (cs : Nat → ClassId) (ad : Nat → Nat) (o : Nat) (f : Nat → Int64) (av : List Value) (M : wM) (J : wJ) (mc ms : Nat) (post : Int32 → wM × wJ × (Nat → Int64) → Prop) : Prop :=
  ∀ sz, Met l y ws rm (lP D cs ad o f av sz M J) (va_Qi post (lB D cs ad o (lA ad o sz)) (lA ad o sz)) mc ms (lA ad o sz)
theorem lP_blind {av : List Value} {sz : Nat} : FrameBlind (lP D cs ad o f av sz M J) := fun a U g mk z => by
  obtain ⟨z0, z1, z2, z3, z4, z5⟩ := z
  exact ⟨z0, z1, z2, va_K.moved (u := U) (U := U.calling g mk a) (Vm.Alike.refl U.vm) z3, z4, xZ_calling z5⟩
theorem lP_at {s : State} {av : List Value} (hK : va_K D vwCl (wT cs) s) (hA : ∀ q : Nat, s.heap.size ≤ q → A q) (hZ : xZ A s) (h : lC D A s.heap (wL cs ad o f M J ++ rs) H locs) : PreS s H (lP D cs ad o f av H.size M J) av :=
  ⟨lP_blind, fun U hU hW => ⟨rfl, by rw [hU], by rw [hU]; exact (lC_left h).1, va_K.moved hW.alike hK, (lC_left h).2.1.weaken (fun _ _ _ _ => trivial), xZ_at hZ h.2.2 hU hW (lA_in hA h)⟩⟩
end LW
section LR
variable {p : Program} {l : Launch} {e : Env} {R : Room} {s : State} {m : MethodId} {args : Array Value} {below : List Frame} {meth : Method} {c : Code} {H : Heap} {locs : List Loc} {cells slots : Nat} {Q : State → Prop}
variable {cc : ByteArray} {pc : Nat} {ls : Array Slot} {rest : List Value}
variable {n : Nat} {sh : Nat → wSh} {ad : Nat → Nat} {cs : Nat → ClassId} {M : wM} {J : wJ} {D : va_G} {A : Nat → Prop} {H0 : Heap} {rs : va_W} {o : Nat} {f : Nat → Int64}
variable {nL : Nat} {Ts : List Cond} {own C : String} {y : MethodName} {ws : List Cond} {rm : Room} {st0 As : List Value} {bytes : ByteArray} {maxL index na mc ms : Nat} {ret : Option FieldType}
/-- calls on an object of an index world that is a part of the world -/
theorem fr_Vi {post : Int32 → wM × wJ → Prop} {k ci : Nat} {ds : List (Option (Option Nat))} {T : u_T} {N : Nat} (S : CallFix p m c cc nL s args Ts own) (cw : CallW R s args own C index y bytes maxL ret ws rm 0 0 na) (hK : va_K D vwCl (wT cs) s) (hA : ∀ q : Nat, H0.size ≤ q → A q) (hc : lC D A H0 (wW n sh ad cs M J ++ rs) H locs) (hM : wCi l y ws rm D n sh ad cs (.ref (ad k) :: As) H.size M J post) (hk : k < n) (hs : sh k = .inr (.inr (ci, ds))) (hcl : vwCl[ci]? = some (C, T, N)) (hst : st0 = As.reverse ++ .ref (ad k) :: rest) (hn : As.length = na) (hl : ls.size = nL) (hr : (rest.map fun v => v.category).sum ≤ 8) (hf : cells ≤ R.cells ∧ slots ≤ R.slots) (hdg : decode cc pc = .ok (.invokevirtual index, 3))
    (kk : ∀ (r : Int32) (M' : wM) (J' : wJ) (H1 : Heap) (locs1 : List Loc), post r (M', J') → lC D A H0 (wW n sh ad cs M' J' ++ rs) H1 locs1 → W p l e R s m args below meth c H1 locs1 cells slots Q (F0 m (pc + 3) ls (.int r :: rest))) : W p l e R s m args below meth c H locs cells slots Q (F0 m pc ls st0) := by
  have hw := lC_wI hc
  refine va_calli (va_runV (As := As) (rest := rest) S hM cw ⟨wP_blind, va_recv hK hw.1 hcl (by rw [wW_get hk, wE_o hs]), wP_at hK hw.1 hw.2.1⟩ rfl hn hl hst (lv_room hr) hdg hf) hw.2.2 (fun q _ h => wA_in (M' := M) (J' := J) hw hA q h) (wA_in (M' := M) (J' := J) hw hA) (fun r u t H1 locs1 ht hvm hq hB hz1 hk1 hS => ?_)
  exact kk r u.1 u.2 H1 locs1 hq (lC_back hc ht hB hk1 hS)
theorem fr_Vl {post : Int64 → wM × wJ → Prop} {k ci : Nat} {ds : List (Option (Option Nat))} {T : u_T} {N : Nat} (S : CallFix p m c cc nL s args Ts own) (cw : CallW R s args own C index y bytes maxL ret ws rm 0 0 na) (hK : va_K D vwCl (wT cs) s) (hA : ∀ q : Nat, H0.size ≤ q → A q) (hc : lC D A H0 (wW n sh ad cs M J ++ rs) H locs) (hM : wCl l y ws rm D n sh ad cs (.ref (ad k) :: As) H.size M J post) (hk : k < n) (hs : sh k = .inr (.inr (ci, ds))) (hcl : vwCl[ci]? = some (C, T, N)) (hst : st0 = As.reverse ++ .ref (ad k) :: rest) (hn : As.length = na) (hl : ls.size = nL) (hr : (rest.map fun v => v.category).sum ≤ 8) (hf : cells ≤ R.cells ∧ slots ≤ R.slots) (hdg : decode cc pc = .ok (.invokevirtual index, 3))
    (kk : ∀ (r : Int64) (M' : wM) (J' : wJ) (H1 : Heap) (locs1 : List Loc), post r (M', J') → lC D A H0 (wW n sh ad cs M' J' ++ rs) H1 locs1 → W p l e R s m args below meth c H1 locs1 cells slots Q (F0 m (pc + 3) ls (.long r :: rest))) : W p l e R s m args below meth c H locs cells slots Q (F0 m pc ls st0) := by
  have hw := lC_wI hc
  refine va_calll (va_runV (As := As) (rest := rest) S hM cw ⟨wP_blind, va_recv hK hw.1 hcl (by rw [wW_get hk, wE_o hs]), wP_at hK hw.1 hw.2.1⟩ rfl hn hl hst (lv_room hr) hdg hf) hw.2.2 (fun q _ h => wA_in (M' := M) (J' := J) hw hA q h) (wA_in (M' := M) (J' := J) hw hA) (fun r u t H1 locs1 ht hvm hq hB hz1 hk1 hS => ?_)
  exact kk r u.1 u.2 H1 locs1 hq (lC_back hc ht hB hk1 hS)
/-- the law's call of a wrapper -/
theorem fr_L {hh : List (Nat × Nat × Nat × Nat)} {post : Int32 → wM × wJ × (Nat → Int64) → Prop} (S : CallFix p m c cc nL s args Ts own) (cw : vx_CSW R s args own index y bytes maxL ret hh ws rm mc ms na) (hK : va_K D vwCl (wT cs) s) (hA : ∀ q : Nat, s.heap.size ≤ q → A q) (hZ : xZ A s) (hc : lC D A s.heap (wL cs ad o f M J ++ rs) H locs) (hM : lMt l y ws rm D cs ad o f As M J mc ms post) (hst : st0 = As.reverse ++ rest) (hn : As.length = na) (hl : ls.size = nL) (hr : (rest.map fun v => v.category).sum ≤ 8) (hf : cells + mc ≤ R.cells ∧ slots + ms ≤ R.slots) (hdg : decode cc pc = .ok (.invokestatic index, 3))
    (kk : ∀ (r : Int32) (M' : wM) (J' : wJ) (f' : Nat → Int64) (H1 : Heap) (locs1 : List Loc), post r (M', J', f') → lC D A s.heap (wL cs ad o f' M' J' ++ rs) H1 locs1 → W p l e R s m args below meth c H1 locs1 (cells + mc) (slots + ms) Q (F0 m (pc + 3) ls (.int r :: rest))) : W p l e R s m args below meth c H locs cells slots Q (F0 m pc ls st0) := by
  refine va_calli (vx_runSW (As := As) (rest := rest) S (hM H.size) cw (lP_at hK hA hZ hc) rfl hn hl hst (lv_room hr) hdg hf) hc.2.2 (fun q _ h => lA_in hA hc q h) (lA_in hA hc) (fun r u t H1 locs1 ht hvm hq hB hz1 hk1 hS => ?_)
  refine kk r u.1 u.2.1 u.2.2 H1 locs1 hq (lC_call hc wL_fst (by rw [← ht]; exact hB.1) (fun q hq hx => hk1 q hq (fun z => ?_)) hS)
  rcases z with ⟨k, hk', e⟩ | z | z
  · exact hx _ (List.mem_cons_of_mem _ (wW_in (M := M) (J := J) hk')) e.symm
  · exact hx (wO cs o f) List.mem_cons_self z.symm
  · omega
/-- a wrapper's call of the class -/
theorem lr_xVi {post : Int32 → wM × wJ → Prop} {pxc : String → Prop} (S : CallFix p m c cc nL s args Ts own) (cw : CallW R s args own RX8 index y bytes maxL ret ws rm mc ms na) (hK : va_K D vwCl (wT cs) s) (hA : ∀ q : Nat, s.heap.size ≤ q → A q) (hZ : xZ A s) (hc : lC D A s.heap (wL cs ad o f M J) H locs) (hM : wXi l y ws rm D 340 cSh ad cs (.ref (ad 329) :: As) H.size M J mc ms post pxc) (hst : st0 = As.reverse ++ .ref (ad 329) :: rest) (hn : As.length = na) (hl : ls.size = nL) (hr : (rest.map fun v => v.category).sum ≤ 8) (hf : cells + mc ≤ R.cells ∧ slots + ms ≤ R.slots) (hdg : decode cc pc = .ok (.invokevirtual index, 3))
    (kx : ∀ (E : String) (ce : Cell) (q9 : Addr) (H1 : Heap) (locs1 : List Loc), pxc E → lC D A s.heap (wL cs ad o f M J) H1 locs1 → H1[q9]? = some ce → ce.vm = .none → s.vm.findClass E = some ce.cls → vx_W p l e R s m args below meth c H1 locs1 (cells + mc) (slots + ms) Q (F0 m pc ls rest) q9)
    (kk : ∀ (r : Int32) (M' : wM) (J' : wJ) (H1 : Heap) (locs1 : List Loc), post r (M', J') → lC D A s.heap (wL cs ad o f M' J') H1 locs1 → W p l e R s m args below meth c H1 locs1 (cells + mc) (slots + ms) Q (F0 m (pc + 3) ls (.int r :: rest))) : W p l e R s m args below meth c H locs cells slots Q (F0 m pc ls st0) := by
  have hc2 := lC_perm hc wL_out
  have hw := lC_wI hc2
  refine vx_calli (vx_runV (As := As) (rest := rest) S hM cw ⟨wPx_blind, va_recv hK hw.1 (ci := 7) rfl (by rw [wW_get (by decide : 329 < 340), wE_o cs_X]), wPx_at hK hA hZ hw⟩ rfl hn hl hst (lv_room hr) hdg hf) hw.2.2 (fun q _ h => wA_in (M' := M) (J' := J) hw hA q h) (wA_in (M' := M) (J' := J) hw hA) (fun q _ h => wA_in (M' := M) (J' := J) hw hA q h) (fun E ce q9 u t H1 locs1 ht hvm _ hB hz1 hk1 hS hce hcv hcl => ?_) (fun r u t H1 locs1 ht hvm hq hB hz1 hk1 hS => ?_)
  · exact kx E ce q9 H1 locs1 hB.1 (lC_perm (lC_back (u := (M, J)) hc2 ht hB.2 hk1 hS) wL_out.symm) hce hcv hcl
  · exact kk r u.1 u.2 H1 locs1 hq (lC_perm (lC_back hc2 ht hB hk1 hS) wL_out.symm)
theorem lr_ls (hexec : p.tables.exec = Jvm.exec) (hb : c.code = cc) (hK : va_K D vwCl (wT cs) s) (hc : lC D A H0 (wL cs ad o f M J) H locs) {x : Int64} (hdg : decode cc pc = .ok (.lastore, 1))
    (kk : ∀ (H1 : Heap) (locs1 : List Loc), lC D A H0 (wL cs ad o (fun _ => x) M J) H1 locs1 → W p l e R s m args below meth c H1 locs1 cells slots Q (F0 m (pc + 1) ls rest)) : W p l e R s m args below meth c H locs cells slots Q (F0 m pc ls (.long x :: .int (nI 0) :: .ref o :: rest)) := by
  refine va_last hexec hb hK hc.1 hc.2.1 hc.2.2 0 5 rfl rfl (vp_in_nI (by decide) (by decide)) hdg (fun H1 l1 a b d => kk H1 l1 ⟨P_mem.mpr (fun q hq => ?_), D_fst b ?_, d⟩)
  · rcases List.mem_cons.mp hq with e | hq
    · rw [e]
      have h0 := a 0 _ rfl
      have h1 : H1[o]? = some (vp_cell (cs 5) (1, .inr (.inl (vp_updL f (nI 0).toNatClampNeg x)))) := h0
      show H1[o]? = some (vp_cell (cs 5) (1, .inr (.inl (fun _ => x))))
      rw [h1, vp_cell_l, vp_cell_l]
      unfold arrV
      congr 2
    · exact P_mem.mp a q (List.mem_cons_of_mem _ hq)
  · rfl
theorem fr_ll (hexec : p.tables.exec = Jvm.exec) (hb : c.code = cc) (hK : va_K D vwCl (wT cs) s) (hc : lC D A H0 (wL cs ad o f M J ++ rs) H locs) (hdg : decode cc pc = .ok (.laload, 1))
    (kk : W p l e R s m args below meth c H locs cells slots Q (F0 m (pc + 1) ls (.long (f 0) :: rest))) : W p l e R s m args below meth c H locs cells slots Q (F0 m pc ls (.int (nI 0) :: .ref o :: rest)) :=
  va_lald hexec hb hK hc.1 0 5 rfl rfl (vp_in_nI (by decide) (by decide)) hdg kk
theorem lr_ret {post : Int32 → wM × wJ × (Nat → Int64) → Prop} {v : Int32} {mcT msT : Nat} (hexec : p.tables.exec = Jvm.exec) (hb : c.code = cc) (hr : meth.sig.returnType = some .int) (hK : va_K D vwCl (wT cs) s) (hc : lC D A s.heap (wL cs ad o f M J) H locs) (hp : post v (M, J, f)) (hlocks : meth.locks = false) (h1 : cells ≤ mcT) (h2 : slots ≤ msT) (hdg : decode cc pc = .ok (.ireturn, 1)) :
    W p l e R s m args below meth c H locs cells slots (MQ below (va_Qi post (lB D cs ad o A) A) args s mcT msT A) (F0 m pc ls [.int v]) :=
  W.widen (k := mcT) (n := msT) h1 h2 (W.iret hexec hb hr (fun t ht hW => ⟨⟨v, (M, J, f), rfl, hp, by rw [ht]; exact hc.1, va_K.moved hW.alike hK, hc.2.1⟩, hc.2.2.F ht⟩) hc.2.2.2.2 hdg hlocks)
end LR
theorem lM_of {l : Launch} {y : MethodName} {wy ws' : List Cond} {rm : Room} {D : va_G} {cs : Nat → ClassId} {ad : Nat → Nat} {o : Nat} {f : Nat → Int64} {cc : ByteArray} {maxL : Nat} {av : List Value} {M : wM} {J : wJ} {mc ms : Nat} {hh : List (Nat × Nat × Nat × Nat)} {post : Int32 → wM × wJ × (Nat → Int64) → Prop} (hy : plainName y.cls = true) (hw : wy = Cond.codeWith y cc maxL (some .int) hh :: ws') (hmax : (lg_sl av).length ≤ maxL)
    (body : ∀ (p : Program) (e : Env) (s : State) (m : MethodId) (below : List Frame) (meth : Method) (c : Code) (ls : Array Slot) (A : Nat → Prop), p.tables.exec = Jvm.exec → c.code = cc → meth.sig.returnType = some .int → c.maxLocals = maxL → s.vm.findClass y.cls = some m.cls → (∀ w ∈ wy, w.before av.toArray s = true) → meth.locks = false → va_K D vwCl (wT cs) s → (∀ z : Nat, s.heap.size ≤ z → A z) → xZ A s → c.exceptionTable.toList = tableOf hh → lC D A s.heap (wL cs ad o f M J) s.heap [] → lv_has ls maxL (lv_args 0 av) →
      W p l e (headSpec wy rm).room s m av.toArray below meth c s.heap [] 0 0 (MQ below (va_Qi post (lB D cs ad o A) A) av.toArray s mc ms A) (F0 m 0 ls [])) : lMt l y wy rm D cs ad o f av M J mc ms post := by
  intro sz
  refine MetFree.of_bodyS (code := cc) (maxLocals := maxL) (ret := some .int) hy ?_ ?_
  · intro args s m h hn
    obtain ⟨m9, meth, c, hn9, h1, h2, h3, h4, -, h5, h6, -⟩ := Cond.codeWith_spec (atoms_spec (ws := wy) h _ (by rw [hw]; exact List.mem_cons_self))
    cases hn.symm.trans hn9
    exact ⟨meth, c, h1, h2, h3, h4, h5, h6⟩
  · intro p e s m args below meth c s₁ B hml hP _
    have hh0 : s₁.heap = s.heap := by rw [B.state]; rfl
    obtain ⟨rfl, hsz, hP1, hK, hD, hZ⟩ := hP
    subst hsz
    have hl := lv_entry av (n := maxL) hmax
    have hpre := atoms_spec (ws := wy) B.pre
    have htab : c.exceptionTable.toList = tableOf hh := vx_table (x := y) B (hpre _ (by rw [hw]; exact List.mem_cons_self))
    have K := body p e s m below meth c _ _ B.exec B.bytes B.returns hml (findClass_of_methodNamed B.named) hpre B.notSynchronized hK (fun z h => Or.inr (Or.inr h)) hZ htab (lC_self hP1 hD) hl
    rw [← lg_entry_eq] at K
    obtain ⟨t, a1, o9, b1, b2, b3⟩ := K s₁ hh0 (Stand.of_body B)
    exact ⟨t, o9, a1, b1, b2, ⟨b3.1, b3.2⟩⟩
