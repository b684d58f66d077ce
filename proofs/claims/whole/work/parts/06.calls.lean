section WX
variable {p : Program} {l : Launch} {e : Env} {R : Room} {s : State} {m : MethodId} {args : Array Value} {below : List Frame} {meth : Method} {c : Code} {H : Heap} {locs : List Loc} {cells slots : Nat} {Q : State → Prop}
variable {cc : ByteArray} {pc : Nat} {ls : Array Slot} {rest : List Value}
variable {n : Nat} {sh : Nat → wSh} {ad : Nat → Nat} {cs : Nat → ClassId} {M : wM} {J : wJ} {D : va_G} {A : Nat → Prop} {H0 : Heap}
theorem wA_in {M' : wM} {J' : wJ} (hw : wI D n sh ad cs A H0 M J H locs) (hA : ∀ q : Nat, H0.size ≤ q → A q) : ∀ q, wA n ad H.size q → A q := fun q h => by
  rcases h with ⟨k, hk, rfl⟩ | h
  · exact wD_in hw.2.1 hk
  · exact hA q (Nat.le_trans hw.2.2.1 h)
theorem wI_of {u : wM × wJ} {t : State} {H1 : Heap} {locs1 : List Loc} (hw : wI D n sh ad cs A H0 M J H locs) (ht : t.heap = H1) (hB : wB D n sh ad cs (wA n ad H.size) u t) (hS : va_S A H0 H1 locs1) : wI D n sh ad cs A H0 u.1 u.2 H1 locs1 :=
  ⟨by rw [← ht]; exact hB.1, wD_any hw.2.1, hS⟩
variable {nL : Nat} {Ts : List Cond} {own C : String} {y : MethodName} {ws : List Cond} {rm : Room} {st0 As : List Value} {bytes : ByteArray} {maxL index na : Nat} {ret : Option FieldType}
/-- calls by name on an object of the world -/
theorem wr_cVi {post : Int32 → wM × wJ → Prop} {k ci : Nat} {ds : List (Option (Option Nat))} {T : u_T} {N : Nat} (S : CallFix p m c cc nL s args Ts own) (cw : CallW R s args own C index y bytes maxL ret ws rm 0 0 na) (hK : va_K D vwCl (wT cs) s) (hA : ∀ q : Nat, H0.size ≤ q → A q) (hw : wI D n sh ad cs A H0 M J H locs) (hM : wCi l y ws rm D n sh ad cs (.ref (ad k) :: As) H.size M J post) (hk : k < n) (hs : sh k = .inr (.inr (ci, ds))) (hc : vwCl[ci]? = some (C, T, N)) (hst : st0 = As.reverse ++ .ref (ad k) :: rest) (hn : As.length = na) (hl : ls.size = nL) (hr : (rest.map fun v => v.category).sum ≤ 8) (hf : cells ≤ R.cells ∧ slots ≤ R.slots) (hdg : decode cc pc = .ok (.invokevirtual index, 3))
    (kk : ∀ (r : Int32) (M' : wM) (J' : wJ) (H1 : Heap) (locs1 : List Loc), post r (M', J') → wI D n sh ad cs A H0 M' J' H1 locs1 → W p l e R s m args below meth c H1 locs1 cells slots Q (F0 m (pc + 3) ls (.int r :: rest))) : W p l e R s m args below meth c H locs cells slots Q (F0 m pc ls st0) := by
  refine va_calli (va_runV (As := As) (rest := rest) S hM cw ⟨wP_blind, va_recv hK hw.1 hc (by rw [wW_get hk, wE_o hs]), wP_at hK hw.1 hw.2.1⟩ rfl hn hl hst (lv_room hr) hdg hf) hw.2.2 (fun q _ h => wA_in (M' := M) (J' := J) hw hA q h) (wA_in (M' := M) (J' := J) hw hA) (fun r u t H1 locs1 ht hvm hq hB hz1 hk1 hS => ?_)
  exact kk r u.1 u.2 H1 locs1 hq (wI_of hw ht hB hS)
theorem wr_cVl {post : Int64 → wM × wJ → Prop} {k ci : Nat} {ds : List (Option (Option Nat))} {T : u_T} {N : Nat} (S : CallFix p m c cc nL s args Ts own) (cw : CallW R s args own C index y bytes maxL ret ws rm 0 0 na) (hK : va_K D vwCl (wT cs) s) (hA : ∀ q : Nat, H0.size ≤ q → A q) (hw : wI D n sh ad cs A H0 M J H locs) (hM : wCl l y ws rm D n sh ad cs (.ref (ad k) :: As) H.size M J post) (hk : k < n) (hs : sh k = .inr (.inr (ci, ds))) (hc : vwCl[ci]? = some (C, T, N)) (hst : st0 = As.reverse ++ .ref (ad k) :: rest) (hn : As.length = na) (hl : ls.size = nL) (hr : (rest.map fun v => v.category).sum ≤ 8) (hf : cells ≤ R.cells ∧ slots ≤ R.slots) (hdg : decode cc pc = .ok (.invokevirtual index, 3))
    (kk : ∀ (r : Int64) (M' : wM) (J' : wJ) (H1 : Heap) (locs1 : List Loc), post r (M', J') → wI D n sh ad cs A H0 M' J' H1 locs1 → W p l e R s m args below meth c H1 locs1 cells slots Q (F0 m (pc + 3) ls (.long r :: rest))) : W p l e R s m args below meth c H locs cells slots Q (F0 m pc ls st0) := by
  refine va_calll (va_runV (As := As) (rest := rest) S hM cw ⟨wP_blind, va_recv hK hw.1 hc (by rw [wW_get hk, wE_o hs]), wP_at hK hw.1 hw.2.1⟩ rfl hn hl hst (lv_room hr) hdg hf) hw.2.2 (fun q _ h => wA_in (M' := M) (J' := J) hw hA q h) (wA_in (M' := M) (J' := J) hw hA) (fun r u t H1 locs1 ht hvm hq hB hz1 hk1 hS => ?_)
  exact kk r u.1 u.2 H1 locs1 hq (wI_of hw ht hB hS)
theorem wr_cVv {post : wM × wJ → Prop} {k ci : Nat} {ds : List (Option (Option Nat))} {T : u_T} {N : Nat} (S : CallFix p m c cc nL s args Ts own) (cw : CallW R s args own C index y bytes maxL ret ws rm 0 0 na) (hK : va_K D vwCl (wT cs) s) (hA : ∀ q : Nat, H0.size ≤ q → A q) (hw : wI D n sh ad cs A H0 M J H locs) (hM : wCv l y ws rm D n sh ad cs (.ref (ad k) :: As) H.size M J post) (hk : k < n) (hs : sh k = .inr (.inr (ci, ds))) (hc : vwCl[ci]? = some (C, T, N)) (hst : st0 = As.reverse ++ .ref (ad k) :: rest) (hn : As.length = na) (hl : ls.size = nL) (hr : (rest.map fun v => v.category).sum ≤ 8) (hf : cells ≤ R.cells ∧ slots ≤ R.slots) (hdg : decode cc pc = .ok (.invokevirtual index, 3))
    (kk : ∀ (M' : wM) (J' : wJ) (H1 : Heap) (locs1 : List Loc), post (M', J') → wI D n sh ad cs A H0 M' J' H1 locs1 → W p l e R s m args below meth c H1 locs1 cells slots Q (F0 m (pc + 3) ls rest)) : W p l e R s m args below meth c H locs cells slots Q (F0 m pc ls st0) := by
  refine va_callv (va_runV (As := As) (rest := rest) S hM cw ⟨wP_blind, va_recv hK hw.1 hc (by rw [wW_get hk, wE_o hs]), wP_at hK hw.1 hw.2.1⟩ rfl hn hl hst (lv_room hr) hdg hf) hw.2.2 (fun q _ h => wA_in (M' := M) (J' := J) hw hA q h) (wA_in (M' := M) (J' := J) hw hA) (fun u t H1 locs1 ht hvm hq hB hz1 hk1 hS => ?_)
  exact kk u.1 u.2 H1 locs1 hq (wI_of hw ht hB hS)
/-- static calls -/
theorem wr_cSi {post : Int32 → wM × wJ → Prop} (S : CallFix p m c cc nL s args Ts own) (cw : CallB R s args own index y bytes maxL ret ws rm 0 0 na ∧ (Cond.static y).before args s = true) (hK : va_K D vwCl (wT cs) s) (hA : ∀ q : Nat, H0.size ≤ q → A q) (hw : wI D n sh ad cs A H0 M J H locs) (hM : wCi l y ws rm D n sh ad cs As H.size M J post) (hst : st0 = As.reverse ++ rest) (hn : As.length = na) (hl : ls.size = nL) (hr : (rest.map fun v => v.category).sum ≤ 8) (hf : cells ≤ R.cells ∧ slots ≤ R.slots) (hdg : decode cc pc = .ok (.invokestatic index, 3))
    (kk : ∀ (r : Int32) (M' : wM) (J' : wJ) (H1 : Heap) (locs1 : List Loc), post r (M', J') → wI D n sh ad cs A H0 M' J' H1 locs1 → W p l e R s m args below meth c H1 locs1 cells slots Q (F0 m (pc + 3) ls (.int r :: rest))) : W p l e R s m args below meth c H locs cells slots Q (F0 m pc ls st0) := by
  refine va_calli (va_runS (As := As) (rest := rest) S hM cw ⟨wP_blind, wP_at hK hw.1 hw.2.1⟩ rfl hn hl hst (lv_room hr) hdg hf) hw.2.2 (fun q _ h => wA_in (M' := M) (J' := J) hw hA q h) (wA_in (M' := M) (J' := J) hw hA) (fun r u t H1 locs1 ht hvm hq hB hz1 hk1 hS => ?_)
  exact kk r u.1 u.2 H1 locs1 hq (wI_of hw ht hB hS)
theorem wr_cSl {post : Int64 → wM × wJ → Prop} (S : CallFix p m c cc nL s args Ts own) (cw : CallB R s args own index y bytes maxL ret ws rm 0 0 na ∧ (Cond.static y).before args s = true) (hK : va_K D vwCl (wT cs) s) (hA : ∀ q : Nat, H0.size ≤ q → A q) (hw : wI D n sh ad cs A H0 M J H locs) (hM : wCl l y ws rm D n sh ad cs As H.size M J post) (hst : st0 = As.reverse ++ rest) (hn : As.length = na) (hl : ls.size = nL) (hr : (rest.map fun v => v.category).sum ≤ 8) (hf : cells ≤ R.cells ∧ slots ≤ R.slots) (hdg : decode cc pc = .ok (.invokestatic index, 3))
    (kk : ∀ (r : Int64) (M' : wM) (J' : wJ) (H1 : Heap) (locs1 : List Loc), post r (M', J') → wI D n sh ad cs A H0 M' J' H1 locs1 → W p l e R s m args below meth c H1 locs1 cells slots Q (F0 m (pc + 3) ls (.long r :: rest))) : W p l e R s m args below meth c H locs cells slots Q (F0 m pc ls st0) := by
  refine va_calll (va_runS (As := As) (rest := rest) S hM cw ⟨wP_blind, wP_at hK hw.1 hw.2.1⟩ rfl hn hl hst (lv_room hr) hdg hf) hw.2.2 (fun q _ h => wA_in (M' := M) (J' := J) hw hA q h) (wA_in (M' := M) (J' := J) hw hA) (fun r u t H1 locs1 ht hvm hq hB hz1 hk1 hS => ?_)
  exact kk r u.1 u.2 H1 locs1 hq (wI_of hw ht hB hS)
end WX
section WN
/-- what a method's body has at its entry -/
abbrev wEn (l : Launch) (y : MethodName) (ws : List Cond) (R : Room) (D : va_G) (n : Nat) (sh : Nat → wSh) (ad : Nat → Nat) (cs : Nat → ClassId) (cc : ByteArray) (maxL : Nat) (ret : Option FieldType) (av : List Value) (M : wM) (J : wJ) (Qq : Array Value → List Frame → State → (Nat → Prop) → State → Prop) : Prop :=
  ∀ (p : Program) (e : Env) (s : State) (m : MethodId) (below : List Frame) (meth : Method) (c : Code) (ls : Array Slot) (A : Nat → Prop), p.tables.exec = Jvm.exec → c.code = cc → meth.sig.returnType = ret → c.maxLocals = maxL → s.vm.findClass y.cls = some m.cls → (∀ w ∈ ws, w.before av.toArray s = true) → meth.locks = false → va_K D vwCl (wT cs) s → (∀ q : Nat, s.heap.size ≤ q → A q) → wI D n sh ad cs A s.heap M J s.heap [] → lv_has ls maxL (lv_args 0 av) →
    A = wA n ad s.heap.size → W p l e R s m av.toArray below meth c s.heap [] 0 0 (Qq av.toArray below s A) (F0 m 0 ls [])
variable {l : Launch} {y : MethodName} {ws ws' : List Cond} {rm : Room} {D : va_G} {n : Nat} {sh : Nat → wSh} {ad : Nat → Nat} {cs : Nat → ClassId} {cc : ByteArray} {maxL : Nat} {ret : Option FieldType} {av : List Value} {sz : Nat} {M : wM} {J : wJ}
theorem wC_i {post : Int32 → wM × wJ → Prop} (hy : plainName y.cls = true) (hw : ws = Cond.code y cc maxL ret :: ws') (hmax : (lg_sl av).length ≤ maxL)
    (body : wEn l y ws (headSpec ws rm).room D n sh ad cs cc maxL ret av M J (fun a below s A => MQ below (va_Qi post (wB D n sh ad cs A) A) a s 0 0 A)) : wCi l y ws rm D n sh ad cs av sz M J post := by
  refine Met.ofW (cc := cc) (maxL := maxL) (ret := ret) hy hw ?_
  intro p e s m args below meth c s₁ B hml hv
  obtain ⟨rfl, hsz, hP, hK, hD0⟩ := hv
  subst hsz
  have hl := lv_entry av (n := maxL) hmax
  rw [lg_entry_eq]
  exact body p e s m below meth c _ _ B.exec B.bytes B.returns hml (findClass_of_methodNamed B.named) (atoms_spec (ws := ws) B.pre) B.notSynchronized hK (fun q h => Or.inr h) ⟨hP, wD_self hD0, va_S.rf⟩ hl rfl
theorem wC_l {post : Int64 → wM × wJ → Prop} (hy : plainName y.cls = true) (hw : ws = Cond.code y cc maxL ret :: ws') (hmax : (lg_sl av).length ≤ maxL)
    (body : wEn l y ws (headSpec ws rm).room D n sh ad cs cc maxL ret av M J (fun a below s A => MQ below (va_Ql post (wB D n sh ad cs A) A) a s 0 0 A)) : wCl l y ws rm D n sh ad cs av sz M J post := by
  refine Met.ofW (cc := cc) (maxL := maxL) (ret := ret) hy hw ?_
  intro p e s m args below meth c s₁ B hml hv
  obtain ⟨rfl, hsz, hP, hK, hD0⟩ := hv
  subst hsz
  have hl := lv_entry av (n := maxL) hmax
  rw [lg_entry_eq]
  exact body p e s m below meth c _ _ B.exec B.bytes B.returns hml (findClass_of_methodNamed B.named) (atoms_spec (ws := ws) B.pre) B.notSynchronized hK (fun q h => Or.inr h) ⟨hP, wD_self hD0, va_S.rf⟩ hl rfl
theorem wC_v {post : wM × wJ → Prop} (hy : plainName y.cls = true) (hw : ws = Cond.code y cc maxL ret :: ws') (hmax : (lg_sl av).length ≤ maxL)
    (body : wEn l y ws (headSpec ws rm).room D n sh ad cs cc maxL ret av M J (fun a below s A => MQ below (va_Qv post (wB D n sh ad cs A) A) a s 0 0 A)) : wCv l y ws rm D n sh ad cs av sz M J post := by
  refine Met.ofW (cc := cc) (maxL := maxL) (ret := ret) hy hw ?_
  intro p e s m args below meth c s₁ B hml hv
  obtain ⟨rfl, hsz, hP, hK, hD0⟩ := hv
  subst hsz
  have hl := lv_entry av (n := maxL) hmax
  rw [lg_entry_eq]
  exact body p e s m below meth c _ _ B.exec B.bytes B.returns hml (findClass_of_methodNamed B.named) (atoms_spec (ws := ws) B.pre) B.notSynchronized hK (fun q h => Or.inr h) ⟨hP, wD_self hD0, va_S.rf⟩ hl rfl
end WN
