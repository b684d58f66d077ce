/-! ===== methods of the class that may throw: the world stays as it was, one cell of six slots comes ===== -/
abbrev xNs : List String := ["java/lang/RuntimeException", "java/lang/Exception"]
abbrev xIS : String := "java/lang/IllegalStateException"
abbrev xIX : String := "java/lang/IndexOutOfBoundsException"
abbrev xIA : String := "java/lang/IllegalArgumentException"
abbrev xNE : String := "java/util/NoSuchElementException"
def xEs : List String := [xIS, xIX, xIA, xNE]
def xSt : List (Nat × String) := [(47, "there are 16 blocks"), (95, "kind is not 0 to 5"), (104, "relation is not 0 to 3"), (116, "delay is not 0 to 10"), (118, "narrowings is not 0 to 5"), (128, "threshold is not -999999999 to 999999999"), (133, "there are 8 thresholds"), (173, "there is no such edge"), (191, "steps is not 1 to 300"), (229, "the entry state is none"), (232, "there is no such block"), (234, "the block has 8 statements"), (236, "there is no such step"), (238, "there is no analysis"), (240, "there is no such variable"), (242, "this is no range")]
def xDs : List MethodName := [Bundle.initS "java/lang/RuntimeException", Bundle.initS "java/lang/Exception", Bundle.initS Bundle.tN]
abbrev xBs (X : String) : List Cond := [.castable X X, .declares (Bundle.initS "java/lang/RuntimeException"), .declares (Bundle.initS "java/lang/Exception"), .declares (Bundle.initS Bundle.tN)]
theorem xg_IS : ∀ w ∈ (vx_atS RX8 49 xIS xNs).filter (fun w => !goodWord w), w ∈ xBs xIS := by decide +kernel
theorem xg_IX : ∀ w ∈ (vx_atS RX8 175 xIX xNs).filter (fun w => !goodWord w), w ∈ xBs xIX := by decide +kernel
theorem xg_IA : ∀ w ∈ (vx_atS RX8 97 xIA xNs).filter (fun w => !goodWord w), w ∈ xBs xIA := by decide +kernel
theorem xg_NE : ∀ w ∈ nxA.filter (fun w => !goodWord w), w ∈ xBs xNE := by decide +kernel
theorem xo_IS : ∀ w ∈ Cond.classLink RX8 45 xIS :: Cond.initialized xIS :: vx_atS RX8 49 xIS xNs, vx_ot w = true := by decide +kernel
theorem xo_IX : ∀ w ∈ Cond.classLink RX8 171 xIX :: Cond.initialized xIX :: vx_atS RX8 175 xIX xNs, vx_ot w = true := by decide +kernel
theorem xo_IA : ∀ w ∈ Cond.classLink RX8 93 xIA :: Cond.initialized xIA :: vx_atS RX8 97 xIA xNs, vx_ot w = true := by decide +kernel
theorem xo_NE : ∀ w ∈ Cond.classLink RX8 227 xNE :: Cond.initialized xNE :: nxA, vx_ot w = true := by decide +kernel
/-- what a throw needs of the heap and of the tables -/
def xZ (A : Nat → Prop) (U : State) : Prop := vx_Zq Bundle.tN "UNASSIGNED_STACK" Bundle.steD A U U.heap ∧ vx_Zq Bundle.tN "SUPPRESSED_SENTINEL" Bundle.listD A U U.heap ∧ (∀ q ∈ xSt, ∃ a, vk_R RX8 q.1 q.2 a U) ∧ (∀ E ∈ xEs, va_Nw (.castable E E) U) ∧ (∀ E ∈ xEs, ∀ F ∈ xEs, E ≠ F → va_Nc E F U) ∧ ∀ d ∈ xDs, va_Nw (.declares d) U
theorem xNw_decl {x : MethodName} {s U : State} (hW : s.WarmedH U.vm) (h : va_Nw (.declares x) s) : va_Nw (.declares x) U := va_tabs rfl (rfl : (s.setVm U.vm).vm = U.vm) (by rw [Cond.declares_setVm hW.alike]; exact h)
theorem xZ_at {A B : Nat → Prop} {s U : State} {H : Heap} {locs : List Loc} (h : xZ A s) (hS : va_S A s.heap H locs) (hU : U.heap = H) (hW : s.WarmedH U.vm) (hB : ∀ q, B q → A q) : xZ B U := by
  obtain ⟨h1, h2, h3, h4, h5, h6⟩ := h
  refine ⟨?_, ?_, fun q hq => ?_, fun E hE => va_Nw.warmC hW (h4 E hE), fun E hE F hF hn => va_Nc.moved hW.alike (h5 E hE F hF hn), fun d hd => xNw_decl hW (h6 d hd)⟩
  · rw [hU]; exact vx_Zq.narrow (vx_Zq.moved hW.alike (vx_Zq.kept h1 (fun a ha hn => hS.2.1 a ha hn))) hB
  · rw [hU]; exact vx_Zq.narrow (vx_Zq.moved hW.alike (vx_Zq.kept h2 (fun a ha hn => hS.2.1 a ha hn))) hB
  · obtain ⟨a, ha⟩ := h3 q hq
    exact ⟨a, vk_R.warm hW ha⟩
theorem xZ_calling {B : Nat → Prop} {U : State} {g : JFrame} {mk : MethodId} {a : Array Value} (h : xZ B U) : xZ B (U.calling g mk a) := by
  obtain ⟨h1, h2, h3, h4, h5, h6⟩ := h
  refine ⟨vx_Zq.moved (u := U) (U := U.calling g mk a) (Vm.Alike.refl U.vm) h1, vx_Zq.moved (u := U) (U := U.calling g mk a) (Vm.Alike.refl U.vm) h2, fun q hq => ?_, fun E hE => ?_, fun E hE F hF hn => va_Nc.moved (u := U) (U := U.calling g mk a) (Vm.Alike.refl U.vm) (h5 E hE F hF hn), fun d hd => va_tabs rfl (rfl : U.vm = (U.calling g mk a).vm) (h6 d hd)⟩
  · obtain ⟨b, hb⟩ := h3 q hq
    exact ⟨b, vk_R.same (u := U) rfl hb⟩
  · exact va_tabs rfl (rfl : U.vm = (U.calling g mk a).vm) (h4 E hE)
def wPx (D : va_G) (n : Nat) (sh : Nat → wSh) (ad : Nat → Nat) (cs : Nat → ClassId) (av : List Value) (sz : Nat) (M : wM) (J : wJ) : Array Value → State → Prop :=
  va_Pc av (fun U => U.heap.size = sz ∧ wB D n sh ad cs (fun _ => True) (M, J) U ∧ xZ (wA n ad sz) U)
def wXX (D : va_G) (n : Nat) (sh : Nat → wSh) (ad : Nat → Nat) (cs : Nat → ClassId) (A : Nat → Prop) (M : wM) (J : wJ) (px : String → Prop) : String → State → State → Prop :=
  vx_X (S := Unit) (fun _ => True) (fun E _ t => px E ∧ wB D n sh ad cs A (M, J) t) A
def wXi (l : Launch) (y : MethodName) (ws : List Cond) (rm : Room) (D : va_G) (n : Nat) (sh : Nat → wSh) (ad : Nat → Nat) (cs : Nat → ClassId) (av : List Value) (sz : Nat) (M : wM) (J : wJ) (mc ms : Nat) (post : Int32 → wM × wJ → Prop) (px : String → Prop) : Prop :=
  vx_Met l y ws rm (wPx D n sh ad cs av sz M J) (va_Qi post (wB D n sh ad cs (wA n ad sz)) (wA n ad sz)) (wXX D n sh ad cs (wA n ad sz) M J px) mc ms (wA n ad sz)
def wXv (l : Launch) (y : MethodName) (ws : List Cond) (rm : Room) (D : va_G) (n : Nat) (sh : Nat → wSh) (ad : Nat → Nat) (cs : Nat → ClassId) (av : List Value) (sz : Nat) (M : wM) (J : wJ) (mc ms : Nat) (post : wM × wJ → Prop) (px : String → Prop) : Prop :=
  vx_Met l y ws rm (wPx D n sh ad cs av sz M J) (va_Qv post (wB D n sh ad cs (wA n ad sz)) (wA n ad sz)) (wXX D n sh ad cs (wA n ad sz) M J px) mc ms (wA n ad sz)
section WXE
variable {n : Nat} {sh : Nat → wSh} {ad : Nat → Nat} {cs : Nat → ClassId} {M : wM} {J : wJ} {D : va_G}
theorem wPx_blind {av : List Value} {sz : Nat} : FrameBlind (wPx D n sh ad cs av sz M J) := fun a U g mk q => by
  obtain ⟨q0, q1, q2, q3⟩ := q
  exact ⟨q0, q1, wB_moved (Vm.Alike.refl U.vm) rfl q2, xZ_calling q3⟩
theorem wPx_at {A : Nat → Prop} {s : State} {H : Heap} {locs : List Loc} {av : List Value} (hK : va_K D vwCl (wT cs) s) (hA : ∀ q : Nat, s.heap.size ≤ q → A q) (hZ : xZ A s) (hw : wI D n sh ad cs A s.heap M J H locs) : ∀ U : State, U.heap = H → s.WarmedH U.vm → wPx D n sh ad cs av H.size M J av.toArray U := fun U hU hW =>
  ⟨rfl, by rw [hU], ⟨by rw [hU]; exact hw.1, va_K.moved hW.alike hK, hw.2.1.weaken (fun _ _ _ _ => trivial)⟩, xZ_at hZ hw.2.2 hU hW (wA_in (M' := M) (J' := J) hw hA)⟩
end WXE
section WXR
variable {p : Program} {l : Launch} {e : Env} {R : Room} {s : State} {m : MethodId} {args : Array Value} {below : List Frame} {meth : Method} {c : Code} {H : Heap} {locs : List Loc} {cells slots : Nat} {Qc : Array Value → State → Outcome → State → Prop}
variable {cc : ByteArray} {pc : Nat} {ls : Array Slot} {rest : List Value}
variable {n : Nat} {sh : Nat → wSh} {ad : Nat → Nat} {cs : Nat → ClassId} {M : wM} {J : wJ} {D : va_G} {A : Nat → Prop} {mcT msT : Nat} {px : String → Prop}
/-- throw new E("text") -/
theorem wr_thr {ik is ic : Nat} {cls text : String} (hexec : p.tables.exec = Jvm.exec) (hb : c.code = cc) (hl : l.stackTraces = false) (hown : s.vm.findClass RX8 = some m.cls) (hfit : Bundle.fit cls = true) (hk : (Cond.classLink RX8 ik cls).before args s = true) (hini : (Cond.initialized cls).before args s = true) (hst : (is, text) ∈ xSt) (hE : cls ∈ xEs)
    (h1 : ∀ w ∈ (vx_atS RX8 ic cls xNs).filter goodWord, w.before args s = true) (h2 : ∀ w ∈ (vx_atS RX8 ic cls xNs).filter (fun w => !goodWord w), w ∈ xBs cls) (hgood : ∀ w ∈ Cond.classLink RX8 ik cls :: Cond.initialized cls :: vx_atS RX8 ic cls xNs, vx_ot w = true)
    (hZ : xZ A s) (hK : va_K D vwCl (wT cs) s) (hw : wI D n sh ad cs A s.heap M J H locs) (hls : ls.size = c.maxLocals) (d0 : decode cc pc = .ok (.new ik, 3)) (d3 : decode cc (pc + 3) = .ok (.dup, 1)) (d4 : decode cc (pc + 4) = .ok (.ldc is, 2)) (d6 : decode cc (pc + 6) = .ok (.invokespecial ic, 3)) (d9 : decode cc (pc + 9) = .ok (.athrow, 1))
    (hout : ∀ x ∈ c.exceptionTable.toList, False) (hRf : 5 < R.frames) (hRl : (rest.map fun v => v.category).sum + 82 ≤ R.locals) (hRc : cells + 1 ≤ R.cells) (hRs : slots + 6 ≤ R.slots) (hlocks : meth.locks = false) (hc : cells + 1 ≤ mcT) (hs : slots + 6 ≤ msT) (hp : px cls) :
    W p l e R s m args below meth c H locs cells slots (vx_MQ below Qc (wXX D n sh ad cs A M J px) args s mcT msT A) (F0 m pc ls rest) := by
  obtain ⟨sa, hsa⟩ := hZ.2.2.1 (is, text) hst
  refine vx_throwS (names := xNs) hexec hb hl hown hfit (by decide +kernel) hk hini hsa (vx_hat h1 h2 (vx_c (va_Nw.use rfl (hZ.2.2.2.1 cls hE)) (vx_c (va_Nw.use rfl (hZ.2.2.2.2.2 _ (by decide +kernel))) (vx_c (va_Nw.use rfl (hZ.2.2.2.2.2 _ (by decide +kernel))) (vx_c (va_Nw.use rfl (hZ.2.2.2.2.2 _ (by decide +kernel))) vx_n))))) hgood hZ.1 hZ.2.1 hw.2.2 hls d0 d3 d4 d6 d9 (fun x hx => (hout x hx).elim) hRf hRl hRc hRs hlocks (fun t ha hz hk => ?_) hw.2.2.2.2 hc hs
  refine ⟨(), trivial, ⟨hp, hw.1.kept (fun k q hq => hk q.1 (hw.1 k q hq).lt), va_K.moved ha hK, hw.2.1⟩, Nat.le_trans hw.2.2.1 hz, fun q h1 h2 => ?_⟩
  rw [hk q (Nat.lt_of_lt_of_le h1 hw.2.2.1)]
  exact hw.2.2.2.1 q h1 h2
/-- throw new NoSuchElementException("text") -/
theorem wr_thrN {ik is : Nat} {text : String} (hexec : p.tables.exec = Jvm.exec) (hb : c.code = cc) (hl : l.stackTraces = false) (hown : s.vm.findClass RX8 = some m.cls) (hk : (Cond.classLink RX8 ik xNE).before args s = true) (hini : (Cond.initialized xNE).before args s = true) (hst : (is, text) ∈ xSt) (h1 : ∀ w ∈ nxA.filter goodWord, w.before args s = true) (hgood : ∀ w ∈ Cond.classLink RX8 ik xNE :: Cond.initialized xNE :: nxA, vx_ot w = true)
    (hZ : xZ A s) (hK : va_K D vwCl (wT cs) s) (hw : wI D n sh ad cs A s.heap M J H locs) (hls : ls.size = c.maxLocals) (d0 : decode cc pc = .ok (.new ik, 3)) (d3 : decode cc (pc + 3) = .ok (.dup, 1)) (d4 : decode cc (pc + 4) = .ok (.ldc is, 2)) (d6 : decode cc (pc + 6) = .ok (.invokespecial 231, 3)) (d9 : decode cc (pc + 9) = .ok (.athrow, 1))
    (hout : ∀ x ∈ c.exceptionTable.toList, False) (hRf : 5 < R.frames) (hRl : (rest.map fun v => v.category).sum + 82 ≤ R.locals) (hRc : cells + 1 ≤ R.cells) (hRs : slots + 6 ≤ R.slots) (hlocks : meth.locks = false) (hc : cells + 1 ≤ mcT) (hs : slots + 6 ≤ msT) (hp : px xNE) :
    W p l e R s m args below meth c H locs cells slots (vx_MQ below Qc (wXX D n sh ad cs A M J px) args s mcT msT A) (F0 m pc ls rest) := by
  obtain ⟨sa, hsa⟩ := hZ.2.2.1 (is, text) hst
  refine nx_makeS (own := RX8) (cls := xNE) (sup := "java/lang/RuntimeException") (names := ["java/lang/Exception"]) (ic := 231) hexec hb hl hown (by decide +kernel) (by decide +kernel) (by decide +kernel) hk hini hsa (vx_hat (L := nxA) h1 xg_NE (vx_c (va_Nw.use rfl (hZ.2.2.2.1 xNE (by decide +kernel))) (vx_c (va_Nw.use rfl (hZ.2.2.2.2.2 _ (by decide +kernel))) (vx_c (va_Nw.use rfl (hZ.2.2.2.2.2 _ (by decide +kernel))) (vx_c (va_Nw.use rfl (hZ.2.2.2.2.2 _ (by decide +kernel))) vx_n))))) hgood hZ.1 hZ.2.1 hw.2.2 hls d0 d3 d4 d6 hRf hRl hRc hRs (fun q ce H1 h9 hv hcl hz hk9 => ?_)
  refine nx_athrow hexec hb d9 (vx_out (fun x hx => (hout x hx).elim) hlocks h9 hv hcl (fun t ht ha => ?_) hw.2.2.2.2 hc hs)
  refine ⟨(), trivial, ⟨hp, ?_, va_K.moved ha hK, hw.2.1⟩, by rw [ht]; exact Nat.le_trans hw.2.2.1 hz, fun q h1 h2 => ?_⟩
  · rw [ht]; exact hw.1.kept (fun k x hx => hk9 x.1 (hw.1 k x hx).lt)
  · rw [ht, hk9 q (Nat.lt_of_lt_of_le h1 hw.2.2.1)]
    exact hw.2.2.2.1 q h1 h2
variable {nL : Nat} {Ts : List Cond} {own C : String} {y : MethodName} {ws : List Cond} {rm : Room} {st0 As : List Value} {bytes : ByteArray} {maxL index na mc ms : Nat} {ret : Option FieldType} {pxc : String → Prop}
theorem wr_thru {E : String} {ce : Cell} {q9 : Addr} {t : State} {H1 : Heap} {locs1 : List Loc} {k9 n9 : Nat} (hK : va_K D vwCl (wT cs) s) (hw : wI D n sh ad cs A s.heap M J H locs) (ht : t.heap = H1) (hvm : s.vm.Alike t.vm) (hB : pxc E ∧ wB D n sh ad cs (wA n ad H.size) (M, J) t) (hS : va_S A s.heap H1 locs1) (hce : H1[q9]? = some ce) (hcv : ce.vm = .none) (hcl : s.vm.findClass E = some ce.cls) (hout : ∀ x ∈ c.exceptionTable.toList, False) (hlocks : meth.locks = false) (hpx : ∀ E, pxc E → px E) (hT : k9 ≤ mcT ∧ n9 ≤ msT) :
    vx_W p l e R s m args below meth c H1 locs1 k9 n9 (vx_MQ below Qc (wXX D n sh ad cs A M J px) args s mcT msT A) (F0 m pc ls rest) q9 := by
  refine vx_out (fun x hx => (hout x hx).elim) hlocks hce hcv hcl (fun t' ht' ha => ?_) hS.2.2 hT.1 hT.2
  refine ⟨(), trivial, ⟨hpx E hB.1, ?_, va_K.moved ha hK, hw.2.1⟩, hS.F ht'⟩
  rw [ht', ← ht]; exact hB.2.1
theorem wr_xVv {post : wM × wJ → Prop} {k ci : Nat} {ds : List (Option (Option Nat))} {T : u_T} {N : Nat} (S : CallFix p m c cc nL s args Ts own) (cw : CallW R s args own C index y bytes maxL ret ws rm mc ms na) (hK : va_K D vwCl (wT cs) s) (hA : ∀ q : Nat, s.heap.size ≤ q → A q) (hZ : xZ A s) (hw : wI D n sh ad cs A s.heap M J H locs) (hM : wXv l y ws rm D n sh ad cs (.ref (ad k) :: As) H.size M J mc ms post pxc) (hk : k < n) (hs : sh k = .inr (.inr (ci, ds))) (hc : vwCl[ci]? = some (C, T, N)) (hst : st0 = As.reverse ++ .ref (ad k) :: rest) (hn : As.length = na) (hl : ls.size = nL) (hr : (rest.map fun v => v.category).sum ≤ 8) (hf : cells + mc ≤ R.cells ∧ slots + ms ≤ R.slots) (hdg : decode cc pc = .ok (.invokevirtual index, 3)) (hout : ∀ x ∈ c.exceptionTable.toList, False) (hlocks : meth.locks = false) (hpx : ∀ E, pxc E → px E) (hT : cells + mc ≤ mcT ∧ slots + ms ≤ msT)
    (kk : ∀ (M' : wM) (J' : wJ) (H1 : Heap) (locs1 : List Loc), post (M', J') → wI D n sh ad cs A s.heap M' J' H1 locs1 → W p l e R s m args below meth c H1 locs1 (cells + mc) (slots + ms) (vx_MQ below Qc (wXX D n sh ad cs A M J px) args s mcT msT A) (F0 m (pc + 3) ls rest)) : W p l e R s m args below meth c H locs cells slots (vx_MQ below Qc (wXX D n sh ad cs A M J px) args s mcT msT A) (F0 m pc ls st0) := by
  refine vx_callv (vx_runV (As := As) (rest := rest) S hM cw ⟨wPx_blind, va_recv hK hw.1 hc (by rw [wW_get hk, wE_o hs]), wPx_at hK hA hZ hw⟩ rfl hn hl hst (lv_room hr) hdg hf) hw.2.2 (fun q _ h => wA_in (M' := M) (J' := J) hw hA q h) (wA_in (M' := M) (J' := J) hw hA) (fun q _ h => wA_in (M' := M) (J' := J) hw hA q h) (fun E ce q9 u t H1 locs1 ht hvm _ hB hz1 hk1 hS hce hcv hcl => ?_) (fun u t H1 locs1 ht hvm hq hB hz1 hk1 hS => ?_)
  · exact wr_thru hK hw ht hvm hB hS hce hcv hcl hout hlocks hpx hT
  · exact kk u.1 u.2 H1 locs1 hq (wI_of hw ht hB hS)
theorem wr_xVi {post : Int32 → wM × wJ → Prop} {k ci : Nat} {ds : List (Option (Option Nat))} {T : u_T} {N : Nat} (S : CallFix p m c cc nL s args Ts own) (cw : CallW R s args own C index y bytes maxL ret ws rm mc ms na) (hK : va_K D vwCl (wT cs) s) (hA : ∀ q : Nat, s.heap.size ≤ q → A q) (hZ : xZ A s) (hw : wI D n sh ad cs A s.heap M J H locs) (hM : wXi l y ws rm D n sh ad cs (.ref (ad k) :: As) H.size M J mc ms post pxc) (hk : k < n) (hs : sh k = .inr (.inr (ci, ds))) (hc : vwCl[ci]? = some (C, T, N)) (hst : st0 = As.reverse ++ .ref (ad k) :: rest) (hn : As.length = na) (hl : ls.size = nL) (hr : (rest.map fun v => v.category).sum ≤ 8) (hf : cells + mc ≤ R.cells ∧ slots + ms ≤ R.slots) (hdg : decode cc pc = .ok (.invokevirtual index, 3)) (hout : ∀ x ∈ c.exceptionTable.toList, False) (hlocks : meth.locks = false) (hpx : ∀ E, pxc E → px E) (hT : cells + mc ≤ mcT ∧ slots + ms ≤ msT)
    (kk : ∀ (r : Int32) (M' : wM) (J' : wJ) (H1 : Heap) (locs1 : List Loc), post r (M', J') → wI D n sh ad cs A s.heap M' J' H1 locs1 → W p l e R s m args below meth c H1 locs1 (cells + mc) (slots + ms) (vx_MQ below Qc (wXX D n sh ad cs A M J px) args s mcT msT A) (F0 m (pc + 3) ls (.int r :: rest))) : W p l e R s m args below meth c H locs cells slots (vx_MQ below Qc (wXX D n sh ad cs A M J px) args s mcT msT A) (F0 m pc ls st0) := by
  refine vx_calli (vx_runV (As := As) (rest := rest) S hM cw ⟨wPx_blind, va_recv hK hw.1 hc (by rw [wW_get hk, wE_o hs]), wPx_at hK hA hZ hw⟩ rfl hn hl hst (lv_room hr) hdg hf) hw.2.2 (fun q _ h => wA_in (M' := M) (J' := J) hw hA q h) (wA_in (M' := M) (J' := J) hw hA) (fun q _ h => wA_in (M' := M) (J' := J) hw hA q h) (fun E ce q9 u t H1 locs1 ht hvm _ hB hz1 hk1 hS hce hcv hcl => ?_) (fun r u t H1 locs1 ht hvm hq hB hz1 hk1 hS => ?_)
  · exact wr_thru hK hw ht hvm hB hS hce hcv hcl hout hlocks hpx hT
  · exact kk r u.1 u.2 H1 locs1 hq (wI_of hw ht hB hS)
theorem wr_xSv {post : wM × wJ → Prop} (S : CallFix p m c cc nL s args Ts own) (cw : CallB R s args own index y bytes maxL ret ws rm mc ms na ∧ (Cond.static y).before args s = true) (hK : va_K D vwCl (wT cs) s) (hA : ∀ q : Nat, s.heap.size ≤ q → A q) (hZ : xZ A s) (hw : wI D n sh ad cs A s.heap M J H locs) (hM : wXv l y ws rm D n sh ad cs As H.size M J mc ms post pxc) (hst : st0 = As.reverse ++ rest) (hn : As.length = na) (hl : ls.size = nL) (hr : (rest.map fun v => v.category).sum ≤ 8) (hf : cells + mc ≤ R.cells ∧ slots + ms ≤ R.slots) (hdg : decode cc pc = .ok (.invokestatic index, 3)) (hout : ∀ x ∈ c.exceptionTable.toList, False) (hlocks : meth.locks = false) (hpx : ∀ E, pxc E → px E) (hT : cells + mc ≤ mcT ∧ slots + ms ≤ msT)
    (kk : ∀ (M' : wM) (J' : wJ) (H1 : Heap) (locs1 : List Loc), post (M', J') → wI D n sh ad cs A s.heap M' J' H1 locs1 → W p l e R s m args below meth c H1 locs1 (cells + mc) (slots + ms) (vx_MQ below Qc (wXX D n sh ad cs A M J px) args s mcT msT A) (F0 m (pc + 3) ls rest)) : W p l e R s m args below meth c H locs cells slots (vx_MQ below Qc (wXX D n sh ad cs A M J px) args s mcT msT A) (F0 m pc ls st0) := by
  refine vx_callv (vx_runS (As := As) (rest := rest) S hM cw ⟨wPx_blind, wPx_at hK hA hZ hw⟩ rfl hn hl hst (lv_room hr) hdg hf) hw.2.2 (fun q _ h => wA_in (M' := M) (J' := J) hw hA q h) (wA_in (M' := M) (J' := J) hw hA) (fun q _ h => wA_in (M' := M) (J' := J) hw hA q h) (fun E ce q9 u t H1 locs1 ht hvm _ hB hz1 hk1 hS hce hcv hcl => ?_) (fun u t H1 locs1 ht hvm hq hB hz1 hk1 hS => ?_)
  · exact wr_thru hK hw ht hvm hB hS hce hcv hcl hout hlocks hpx hT
  · exact kk u.1 u.2 H1 locs1 hq (wI_of hw ht hB hS)
theorem wr_xSi {post : Int32 → wM × wJ → Prop} (S : CallFix p m c cc nL s args Ts own) (cw : CallB R s args own index y bytes maxL ret ws rm mc ms na ∧ (Cond.static y).before args s = true) (hK : va_K D vwCl (wT cs) s) (hA : ∀ q : Nat, s.heap.size ≤ q → A q) (hZ : xZ A s) (hw : wI D n sh ad cs A s.heap M J H locs) (hM : wXi l y ws rm D n sh ad cs As H.size M J mc ms post pxc) (hst : st0 = As.reverse ++ rest) (hn : As.length = na) (hl : ls.size = nL) (hr : (rest.map fun v => v.category).sum ≤ 8) (hf : cells + mc ≤ R.cells ∧ slots + ms ≤ R.slots) (hdg : decode cc pc = .ok (.invokestatic index, 3)) (hout : ∀ x ∈ c.exceptionTable.toList, False) (hlocks : meth.locks = false) (hpx : ∀ E, pxc E → px E) (hT : cells + mc ≤ mcT ∧ slots + ms ≤ msT)
    (kk : ∀ (r : Int32) (M' : wM) (J' : wJ) (H1 : Heap) (locs1 : List Loc), post r (M', J') → wI D n sh ad cs A s.heap M' J' H1 locs1 → W p l e R s m args below meth c H1 locs1 (cells + mc) (slots + ms) (vx_MQ below Qc (wXX D n sh ad cs A M J px) args s mcT msT A) (F0 m (pc + 3) ls (.int r :: rest))) : W p l e R s m args below meth c H locs cells slots (vx_MQ below Qc (wXX D n sh ad cs A M J px) args s mcT msT A) (F0 m pc ls st0) := by
  refine vx_calli (vx_runS (As := As) (rest := rest) S hM cw ⟨wPx_blind, wPx_at hK hA hZ hw⟩ rfl hn hl hst (lv_room hr) hdg hf) hw.2.2 (fun q _ h => wA_in (M' := M) (J' := J) hw hA q h) (wA_in (M' := M) (J' := J) hw hA) (fun q _ h => wA_in (M' := M) (J' := J) hw hA q h) (fun E ce q9 u t H1 locs1 ht hvm _ hB hz1 hk1 hS hce hcv hcl => ?_) (fun r u t H1 locs1 ht hvm hq hB hz1 hk1 hS => ?_)
  · exact wr_thru hK hw ht hvm hB hS hce hcv hcl hout hlocks hpx hT
  · exact kk r u.1 u.2 H1 locs1 hq (wI_of hw ht hB hS)
end WXR
section WXN
variable {l : Launch} {y : MethodName} {ws ws' : List Cond} {rm : Room} {D : va_G} {n : Nat} {sh : Nat → wSh} {ad : Nat → Nat} {cs : Nat → ClassId} {cc : ByteArray} {maxL : Nat} {ret : Option FieldType} {av : List Value} {sz mc ms : Nat} {M : wM} {J : wJ} {px : String → Prop}
/-- what a body that may throw has at its entry -/
abbrev wEx (l : Launch) (y : MethodName) (ws : List Cond) (R : Room) (D : va_G) (n : Nat) (sh : Nat → wSh) (ad : Nat → Nat) (cs : Nat → ClassId) (cc : ByteArray) (maxL : Nat) (ret : Option FieldType) (av : List Value) (M : wM) (J : wJ) (Qq : Array Value → List Frame → State → (Nat → Prop) → State → Prop) : Prop :=
  ∀ (p : Program) (e : Env) (s : State) (m : MethodId) (below : List Frame) (meth : Method) (c : Code) (ls : Array Slot) (A : Nat → Prop), p.tables.exec = Jvm.exec → c.code = cc → meth.sig.returnType = ret → c.maxLocals = maxL → s.vm.findClass y.cls = some m.cls → (∀ w ∈ ws, w.before av.toArray s = true) → meth.locks = false → va_K D vwCl (wT cs) s → (∀ q : Nat, s.heap.size ≤ q → A q) → wI D n sh ad cs A s.heap M J s.heap [] → lv_has ls maxL (lv_args 0 av) →
    A = wA n ad s.heap.size → xZ A s → (∀ x ∈ c.exceptionTable.toList, False) → W p l e R s m av.toArray below meth c s.heap [] 0 0 (Qq av.toArray below s A) (F0 m 0 ls [])
theorem wX_i {post : Int32 → wM × wJ → Prop} (hy : plainName y.cls = true) (hw : ws = Cond.code y cc maxL ret :: ws') (hmax : (lg_sl av).length ≤ maxL)
    (body : wEx l y ws (headSpec ws rm).room D n sh ad cs cc maxL ret av M J (fun a below s A => vx_MQ below (va_Qi post (wB D n sh ad cs A) A) (wXX D n sh ad cs A M J px) a s mc ms A)) : wXi l y ws rm D n sh ad cs av sz M J mc ms post px := by
  refine vx_ofW (cc := cc) (maxL := maxL) (ret := ret) hy hw ?_
  intro p e s m args below meth c s₁ B hml hout hv
  obtain ⟨rfl, hsz, ⟨hP, hK, hD0⟩, hZ⟩ := hv
  subst hsz
  have hl := lv_entry av (n := maxL) hmax
  rw [lg_entry_eq]
  exact body p e s m below meth c _ _ B.exec B.bytes B.returns hml (findClass_of_methodNamed B.named) (atoms_spec (ws := ws) B.pre) B.notSynchronized hK (fun q h => Or.inr h) ⟨hP, wD_self hD0, va_S.rf⟩ hl rfl hZ hout
theorem wX_v {post : wM × wJ → Prop} (hy : plainName y.cls = true) (hw : ws = Cond.code y cc maxL ret :: ws') (hmax : (lg_sl av).length ≤ maxL)
    (body : wEx l y ws (headSpec ws rm).room D n sh ad cs cc maxL ret av M J (fun a below s A => vx_MQ below (va_Qv post (wB D n sh ad cs A) A) (wXX D n sh ad cs A M J px) a s mc ms A)) : wXv l y ws rm D n sh ad cs av sz M J mc ms post px := by
  refine vx_ofW (cc := cc) (maxL := maxL) (ret := ret) hy hw ?_
  intro p e s m args below meth c s₁ B hml hout hv
  obtain ⟨rfl, hsz, ⟨hP, hK, hD0⟩, hZ⟩ := hv
  subst hsz
  have hl := lv_entry av (n := maxL) hmax
  rw [lg_entry_eq]
  exact body p e s m below meth c _ _ B.exec B.bytes B.returns hml (findClass_of_methodNamed B.named) (atoms_spec (ws := ws) B.pre) B.notSynchronized hK (fun q h => Or.inr h) ⟨hP, wD_self hD0, va_S.rf⟩ hl rfl hZ hout
end WXN
