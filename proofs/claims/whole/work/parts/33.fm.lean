/-! the rows that decode Math.floorMod, as printed -/
theorem dJ9_floorMod_f86c9_0 : decode cJ9_floorMod_f86c9 0 = .ok (.lload_n 0, 1) := by decide +kernel
theorem dJ9_floorMod_f86c9_1 : decode cJ9_floorMod_f86c9 1 = .ok (.lload_n 2, 1) := by decide +kernel
theorem dJ9_floorMod_f86c9_2 : decode cJ9_floorMod_f86c9 2 = .ok (.lrem, 1) := by decide +kernel
theorem dJ9_floorMod_f86c9_3 : decode cJ9_floorMod_f86c9 3 = .ok (.lstore 4, 2) := by decide +kernel
theorem dJ9_floorMod_f86c9_5 : decode cJ9_floorMod_f86c9 5 = .ok (.lload_n 0, 1) := by decide +kernel
theorem dJ9_floorMod_f86c9_6 : decode cJ9_floorMod_f86c9 6 = .ok (.lload_n 2, 1) := by decide +kernel
theorem dJ9_floorMod_f86c9_7 : decode cJ9_floorMod_f86c9 7 = .ok (.lxor, 1) := by decide +kernel
theorem dJ9_floorMod_f86c9_8 : decode cJ9_floorMod_f86c9 8 = .ok (.lconst 0, 1) := by decide +kernel
theorem dJ9_floorMod_f86c9_9 : decode cJ9_floorMod_f86c9 9 = .ok (.lcmp, 1) := by decide +kernel
theorem dJ9_floorMod_f86c9_10 : decode cJ9_floorMod_f86c9 10 = .ok (.ifCond .ge 15, 3) := by decide +kernel
theorem dJ9_floorMod_f86c9_13 : decode cJ9_floorMod_f86c9 13 = .ok (.lload 4, 2) := by decide +kernel
theorem dJ9_floorMod_f86c9_15 : decode cJ9_floorMod_f86c9 15 = .ok (.lconst 0, 1) := by decide +kernel
theorem dJ9_floorMod_f86c9_16 : decode cJ9_floorMod_f86c9 16 = .ok (.lcmp, 1) := by decide +kernel
theorem dJ9_floorMod_f86c9_17 : decode cJ9_floorMod_f86c9 17 = .ok (.ifCond .eq 8, 3) := by decide +kernel
theorem dJ9_floorMod_f86c9_20 : decode cJ9_floorMod_f86c9 20 = .ok (.lload 4, 2) := by decide +kernel
theorem dJ9_floorMod_f86c9_22 : decode cJ9_floorMod_f86c9 22 = .ok (.lload_n 2, 1) := by decide +kernel
theorem dJ9_floorMod_f86c9_23 : decode cJ9_floorMod_f86c9 23 = .ok (.ladd, 1) := by decide +kernel
theorem dJ9_floorMod_f86c9_24 : decode cJ9_floorMod_f86c9 24 = .ok (.lreturn, 1) := by decide +kernel
theorem dJ9_floorMod_f86c9_25 : decode cJ9_floorMod_f86c9 25 = .ok (.lload 4, 2) := by decide +kernel
theorem dJ9_floorMod_f86c9_27 : decode cJ9_floorMod_f86c9 27 = .ok (.lreturn, 1) := by decide +kernel
/-! ===== executions: pure ===== -/
theorem lgc_pos {x : Int64} (h : ¬ lg_cmp x 0 ≤ 0) : ¬ x = 0 := fun z => h (by rw [z]; decide)
theorem lone6 : ∀ i, ([some (some 337), some (some 338), some (some 339), none, some none] : List (Option (Option Nat)))[i]? = some (some none) → i = 4 := by
  intro i h
  match i, h with
  | 0, h => cases h
  | 1, h => cases h
  | 2, h => cases h
  | 3, h => cases h
  | 4, _ => rfl
  | i + 5, h => simp at h
section WNF
variable {l : Launch} {y : MethodName} {ws ws' : List Cond} {rm : Room} {D : va_G} {n : Nat} {sh : Nat → wSh} {ad : Nat → Nat} {cs : Nat → ClassId} {cc : ByteArray} {maxL : Nat} {ret : Option FieldType} {av : List Value} {sz : Nat} {M : wM} {J : wJ}
/-- as Met.ofW, for a method of a class that has natives' rows, itself without one -/
theorem met_ofWF {Pc : Array Value → State → Prop} {Qc : Array Value → State → Outcome → State → Prop} {mc ms : Nat} {free : Addr → Prop} (hy : plainFor y = true) (hw : ws = Cond.code y cc maxL ret :: ws')
    (body : ∀ p e s m args below meth c s₁, BodyLoose p l y (headSpec ws rm) cc maxL ret e s m args below meth c s₁ → c.maxLocals = maxL → Pc args s →
      W p l e (headSpec ws rm).room s m args below meth c s.heap [] 0 0 (MQ below Qc args s mc ms free) (entryFrame m args maxL)) : Met l y ws rm Pc Qc mc ms free := by
  refine MetFree.of_bodySF (code := cc) (maxLocals := maxL) (ret := ret) hy ?_ ?_
  · intro args s m h hn
    obtain ⟨meth, c, h1, h2, h3, h4, h5, h6, -, -⟩ := Cond.code_spec hn (atoms_spec (ws := ws) h _ (by rw [hw]; exact List.mem_cons_self))
    exact ⟨meth, c, h1, h2, h3, h4, h5, h6⟩
  · intro p e s m args below meth c s₁ B hml hP _
    have hh0 : s₁.heap = s.heap := by rw [B.state]; rfl
    obtain ⟨t, a1, o, b1, b2, b3⟩ := body p e s m args below meth c s₁ B hml hP s₁ hh0 (Stand.of_body B)
    exact ⟨t, o, a1, b1, b2, ⟨b3.1, b3.2⟩⟩
theorem wCF_l {post : Int64 → wM × wJ → Prop} (hy : plainFor y = true) (hw : ws = Cond.code y cc maxL ret :: ws') (hmax : (lg_sl av).length ≤ maxL)
    (body : wEn l y ws (headSpec ws rm).room D n sh ad cs cc maxL ret av M J (fun a below s A => MQ below (va_Ql post (wB D n sh ad cs A) A) a s 0 0 A)) : wCl l y ws rm D n sh ad cs av sz M J post := by
  refine met_ofWF (cc := cc) (maxL := maxL) (ret := ret) hy hw ?_
  intro p e s m args below meth c s₁ B hml hv
  obtain ⟨rfl, hsz, hP, hK, hD0⟩ := hv
  subst hsz
  have hl := lv_entry av (n := maxL) hmax
  rw [lg_entry_eq]
  exact body p e s m below meth c _ _ B.exec B.bytes B.returns hml (findClass_of_methodNamed B.named) (atoms_spec (ws := ws) B.pre) B.notSynchronized hK (fun q h => Or.inr h) ⟨hP, wD_self hD0, va_S.rf⟩ hl rfl
end WNF
