/-! ===== the class's cells: 67 states (object, lows, highs): 0 initial, 1 incoming, 2 joined, 3+4b entry, 4+4b exit, 5+4b+e edge e; 16 blocks from 201 (object, kinds, targets, firsts, seconds, followers); 16 flows from 297 (object, edge states); 329 .. the single ones ===== -/
def cSh : Nat → wSh := fun k =>
  if k < 201 then (if k % 3 = 0 then .inr (.inr (6, [none, some (some (k + 1)), some (some (k + 2))])) else .inl (0, 6))
  else if k < 297 then (if (k - 201) % 6 = 0 then .inr (.inr (1, [none, some (some (k + 1)), some (some (k + 2)), some (some (k + 3)), some (some (k + 4)), none, some (some (k + 5)), none, none, none])) else if (k - 201) % 6 = 5 then .inl (0, 2) else .inl (0, 8))
  else if k < 329 then (if (k - 297) % 2 = 0 then .inr (.inr (3, [some (some (3 * (3 + 4 * ((k - 297) / 2)))), some (some (3 * (4 + 4 * ((k - 297) / 2)))), some (some (k + 1)), none])) else .inr (.inl (4, 2, fun e => 3 * (5 + 4 * ((k - 297) / 2) + e))))
  else if k = 329 then .inr (.inr (7, [some (some 330), some (some 332), some (some 334), some (some 336), none]))
  else if k = 330 then .inr (.inr (4, [some (some 331), some (some 0), none]))
  else if k = 331 then .inr (.inl (2, 16, fun b => 201 + 6 * b))
  else if k = 332 then .inr (.inr (5, [none, none, none, some (some 333)]))
  else if k = 333 then .inl (0, 8)
  else if k = 334 then .inr (.inr (0, [some (some 335), some (some 3), some (some 6)]))
  else if k = 335 then .inr (.inl (3, 16, fun b => 297 + 2 * b))
  else if k = 336 then .inr (.inr (2, [some (some 337), some (some 338), some (some 339), none, some none]))
  else if k = 337 then .inl (0, 6)
  else if k = 338 then .inl (0, 300)
  else .inl (0, 1800)
theorem cs_S {i : Nat} (h : i < 67) : cSh (3 * i) = .inr (.inr (6, [none, some (some (3 * i + 1)), some (some (3 * i + 2))])) := by
  unfold cSh; rw [if_pos (by omega), if_pos (by omega)]
theorem cs_SL {i : Nat} (h : i < 67) : cSh (3 * i + 1) = .inl (0, 6) := by
  unfold cSh; rw [if_pos (by omega), if_neg (by omega)]
theorem cs_SH {i : Nat} (h : i < 67) : cSh (3 * i + 2) = .inl (0, 6) := by
  unfold cSh; rw [if_pos (by omega), if_neg (by omega)]
theorem cs_B {b : Nat} (h : b < 16) : cSh (201 + 6 * b) = .inr (.inr (1, [none, some (some (201 + 6 * b + 1)), some (some (201 + 6 * b + 2)), some (some (201 + 6 * b + 3)), some (some (201 + 6 * b + 4)), none, some (some (201 + 6 * b + 5)), none, none, none])) := by
  unfold cSh; rw [if_neg (by omega), if_pos (by omega), if_pos (by omega)]
theorem cs_B1 {b : Nat} (h : b < 16) : cSh (201 + 6 * b + 1) = .inl (0, 8) := by
  unfold cSh; rw [if_neg (by omega), if_pos (by omega), if_neg (by omega), if_neg (by omega)]
theorem cs_B2 {b : Nat} (h : b < 16) : cSh (201 + 6 * b + 2) = .inl (0, 8) := by
  unfold cSh; rw [if_neg (by omega), if_pos (by omega), if_neg (by omega), if_neg (by omega)]
theorem cs_B3 {b : Nat} (h : b < 16) : cSh (201 + 6 * b + 3) = .inl (0, 8) := by
  unfold cSh; rw [if_neg (by omega), if_pos (by omega), if_neg (by omega), if_neg (by omega)]
theorem cs_B4 {b : Nat} (h : b < 16) : cSh (201 + 6 * b + 4) = .inl (0, 8) := by
  unfold cSh; rw [if_neg (by omega), if_pos (by omega), if_neg (by omega), if_neg (by omega)]
theorem cs_B5 {b : Nat} (h : b < 16) : cSh (201 + 6 * b + 5) = .inl (0, 2) := by
  unfold cSh; rw [if_neg (by omega), if_pos (by omega), if_neg (by omega), if_pos (by omega)]
theorem cs_F {b : Nat} (h : b < 16) : cSh (297 + 2 * b) = .inr (.inr (3, [some (some (3 * (3 + 4 * b))), some (some (3 * (4 + 4 * b))), some (some (297 + 2 * b + 1)), none])) := by
  unfold cSh
  rw [if_neg (by omega), if_neg (by omega), if_pos (by omega), if_pos (by omega), show (297 + 2 * b - 297) / 2 = b by omega]
theorem cs_FE {b : Nat} (h : b < 16) : cSh (297 + 2 * b + 1) = .inr (.inl (4, 2, fun e => 3 * (5 + 4 * b + e))) := by
  unfold cSh
  rw [if_neg (by omega), if_neg (by omega), if_pos (by omega), if_neg (by omega), show (297 + 2 * b + 1 - 297) / 2 = b by omega]
theorem cs_X : cSh 329 = .inr (.inr (7, [some (some 330), some (some 332), some (some 334), some (some 336), none])) := rfl
theorem cs_P : cSh 330 = .inr (.inr (4, [some (some 331), some (some 0), none])) := rfl
theorem cs_PB : cSh 331 = .inr (.inl (2, 16, fun b => 201 + 6 * b)) := rfl
theorem cs_T : cSh 332 = .inr (.inr (5, [none, none, none, some (some 333)])) := rfl
theorem cs_TT : cSh 333 = .inl (0, 8) := rfl
theorem cs_A : cSh 334 = .inr (.inr (0, [some (some 335), some (some 3), some (some 6)])) := rfl
theorem cs_AF : cSh 335 = .inr (.inl (3, 16, fun b => 297 + 2 * b)) := rfl
theorem cs_Q : cSh 336 = .inr (.inr (2, [some (some 337), some (some 338), some (some 339), none, some none])) := rfl
theorem cs_QV : cSh 337 = .inl (0, 6) := rfl
theorem cs_QB : cSh 338 = .inl (0, 300) := rfl
theorem cs_QW : cSh 339 = .inl (0, 1800) := rfl
/-! the reference's cells: 0 the object, 1 .. 22 its rows -/
def mSh : Nat → wSh := fun k =>
  if k = 0 then .inr (.inr (8, [none, none, some (some 1), some (some 2), some (some 3), some (some 4), some (some 5), some (some 6), some (some 7), some (some 8), some (some 9), some (some 10), none, none, none, some (some 11), none, some (some 12), some (some 13), some (some 14), some (some 15), some (some 16), some (some 17), none, some (some 18), some (some 19), none, some (some 20), some (some 21), some (some 22), some none]))
  else if k = 2 then .inl (0, 512)
  else if k = 9 then .inl (0, 6)
  else if k = 10 then .inl (0, 6)
  else if k = 11 then .inl (0, 8)
  else if k = 12 then .inl (1, 16)
  else if k = 13 then .inl (0, 96)
  else if k = 14 then .inl (0, 96)
  else if k = 16 then .inl (0, 6)
  else if k = 17 then .inl (0, 6)
  else if k = 18 then .inl (0, 6)
  else if k = 19 then .inl (0, 6)
  else if k = 20 then .inl (0, 300)
  else if k = 21 then .inl (0, 1800)
  else if k = 22 then .inl (0, 6)
  else .inl (0, 16)
section WQ
variable {p : Program} {l : Launch} {e : Env} {R : Room} {s : State} {m : MethodId} {args : Array Value} {below : List Frame} {meth : Method} {c : Code} {H : Heap} {locs : List Loc} {cells slots : Nat} {Q : State → Prop}
variable {cc : ByteArray} {pc : Nat} {ls : Array Slot} {rest : List Value}
variable {n : Nat} {sh : Nat → wSh} {ad : Nat → Nat} {cs : Nat → ClassId} {M : wM} {J : wJ} {D : va_G} {A : Nat → Prop} {H0 : Heap}
/-- the array rows, the index a counted number -/
theorem wr_ildN (hexec : p.tables.exec = Jvm.exec) (hb : c.code = cc) (hK : va_K D vwCl (wT cs) s) (hw : wI D n sh ad cs A H0 M J H locs) (k : Nat) (hk : k < n) {len : Nat} (hs : sh k = .inl (0, len)) (hl : len < 2147483648) {i : Int32} (j : Nat) (hi : i = nI j) (hj : j < len) (hdg : decode cc pc = .ok (.iaload, 1))
    (kk : W p l e R s m args below meth c H locs cells slots Q (F0 m (pc + 1) ls (.int (M k j) :: rest))) : W p l e R s m args below meth c H locs cells slots Q (F0 m pc ls (.int i :: .ref (ad k) :: rest)) := by
  subst hi
  refine wr_ild hexec hb hK hw k hk hs (vp_in_nI hj hl) hdg ?_
  rw [nI_clamp (by omega)]
  exact kk
theorem wr_istN (hexec : p.tables.exec = Jvm.exec) (hb : c.code = cc) (hK : va_K D vwCl (wT cs) s) (hw : wI D n sh ad cs A H0 M J H locs) (k : Nat) (hk : k < n) {len : Nat} (hs : sh k = .inl (0, len)) (hl : len < 2147483648) {i x : Int32} (j : Nat) (hi : i = nI j) (hj : j < len) (hdg : decode cc pc = .ok (.iastore, 1))
    (kk : ∀ (H1 : Heap) (locs1 : List Loc), wI D n sh ad cs A H0 (wU M k j x) J H1 locs1 → W p l e R s m args below meth c H1 locs1 cells slots Q (F0 m (pc + 1) ls rest)) : W p l e R s m args below meth c H locs cells slots Q (F0 m pc ls (.int x :: .int i :: .ref (ad k) :: rest)) := by
  subst hi
  refine wr_ist hexec hb hK hw k hk hs (vp_in_nI hj hl) hdg ?_
  rw [nI_clamp (by omega)]
  exact kk
theorem wr_zldN (hexec : p.tables.exec = Jvm.exec) (hb : c.code = cc) (hK : va_K D vwCl (wT cs) s) (hw : wI D n sh ad cs A H0 M J H locs) (k : Nat) (hk : k < n) {len : Nat} (hs : sh k = .inl (1, len)) (hl : len < 2147483648) {i : Int32} (j : Nat) (hi : i = nI j) (hj : j < len) (hdg : decode cc pc = .ok (.baload, 1))
    (kk : W p l e R s m args below meth c H locs cells slots Q (F0 m (pc + 1) ls (.int (M k j) :: rest))) : W p l e R s m args below meth c H locs cells slots Q (F0 m pc ls (.int i :: .ref (ad k) :: rest)) := by
  subst hi
  refine wr_zld hexec hb hK hw k hk hs (vp_in_nI hj hl) hdg ?_
  rw [nI_clamp (by omega)]
  exact kk
theorem wr_aldN (hexec : p.tables.exec = Jvm.exec) (hb : c.code = cc) (hK : va_K D vwCl (wT cs) s) (hw : wI D n sh ad cs A H0 M J H locs) (k : Nat) (hk : k < n) {t0 len : Nat} {C : String} {g : Nat → Nat} (hs : sh k = .inr (.inl (t0, len, g))) (ht : (wT cs)[t0]? = some (cs t0, .object C)) (hl : len < 2147483648) {i : Int32} (j : Nat) (hi : i = nI j) (hj : j < len) (hdg : decode cc pc = .ok (.aaload, 1))
    (kk : W p l e R s m args below meth c H locs cells slots Q (F0 m (pc + 1) ls (.ref (ad (g j)) :: rest))) : W p l e R s m args below meth c H locs cells slots Q (F0 m pc ls (.int i :: .ref (ad k) :: rest)) := by
  subst hi
  refine wr_ald hexec hb hK hw k hk hs ht (vp_in_nI hj hl) hdg ?_
  rw [nI_clamp (by omega)]
  exact kk
/-- System.arraycopy between two int rows of the world -/
theorem wr_cpy (hexec : p.tables.exec = Jvm.exec) (hb : c.code = cc) (hml : c.maxLocals = ls.size) {own : String} {index : Nat} (hown : s.vm.findClass own = some m.cls) (hlink : (Cond.methodLink own index arraycopyName).before args s = true) (hnat : (Cond.native arraycopyName).before args s = true) (hstat : (Cond.static arraycopyName).before args s = true) (hini : (Cond.initialized "java/lang/System").before args s = true) (hK : va_K D vwCl (wT cs) s) (hw : wI D n sh ad cs A H0 M J H locs)
    (k0 k1 : Nat) (h0 : k0 < n) (h1 : k1 < n) {l0 l1 : Nat} (hs0 : sh k0 = .inl (0, l0)) (hs1 : sh k1 = .inl (0, l1)) {sp dp nn : Int32} (a b d : Nat) (ha : sp = nI a) (hb2 : dp = nI b) (hd : nn = nI d) (hl0 : l0 < 2147483648) (hl1 : l1 < 2147483648) (h4 : a + d ≤ l0) (h5 : b + d ≤ l1) (hframes : 1 ≤ R.frames) (hlocals : (rest.map fun v => v.category).sum + (nativeFrameWords "java/lang/System" "arraycopy" 5 + 11) ≤ R.locals) (hdg : decode cc pc = .ok (.invokestatic index, 3))
    (kk : ∀ (H1 : Heap) (locs1 : List Loc), wI D n sh ad cs A H0 (va_up M k1 (va_cpy (M k0) (M k1) a b d)) J H1 locs1 → W p l e R s m args below meth c H1 locs1 cells slots Q (F0 m (pc + 3) ls rest)) : W p l e R s m args below meth c H locs cells slots Q (F0 m pc ls (.int nn :: .int dp :: .ref (ad k1) :: .int sp :: .ref (ad k0) :: rest)) := by
  subst ha; subst hb2; subst hd
  have e1 : (nI a).toNatClampNeg = a := nI_clamp (by omega)
  have e2 : (nI b).toNatClampNeg = b := nI_clamp (by omega)
  have e3 : (nI d).toNatClampNeg = d := nI_clamp (by omega)
  refine va_copyi (ty := .int) hexec hb hml hown hlink hnat hstat hini hK hw.1 hw.2.1 hw.2.2 k0 k1 0 0 (by rw [wW_get h0, wE_i hs0]) (by rw [wW_get h1, wE_i hs1]) rfl rfl rfl (nI_pos (by omega)) (nI_pos (by omega)) (nI_pos (by omega)) (by rw [e1, e3]; exact h4) (by rw [e2, e3]; exact h5) (fun _ _ => rfl) hframes hlocals hdg (fun H1 locs1 hP hD hS => kk H1 locs1 (wI_set hw h1 ?_ (fun a ha => va_up_ne _ _ ha) (fun _ _ => rfl) hP hS))
  rw [wE_i hs1, va_up_self, e1, e2, e3]
/-- counted numbers -/
theorem lv_iaddN (hexec : p.tables.exec = Jvm.exec) (hb : c.code = cc) {x y : Nat} (hdg : decode cc pc = .ok (.iadd, 1)) (k : W p l e R s m args below meth c H locs cells slots Q (F0 m (pc + 1) ls (.int (nI (x + y)) :: rest))) : W p l e R s m args below meth c H locs cells slots Q (F0 m pc ls (.int (nI y) :: .int (nI x) :: rest)) := by
  refine lv_iadd hexec hb hdg ?_
  rw [nI_add]; exact k
theorem lv_imulN (hexec : p.tables.exec = Jvm.exec) (hb : c.code = cc) {x y : Nat} (hdg : decode cc pc = .ok (.imul, 1)) (k : W p l e R s m args below meth c H locs cells slots Q (F0 m (pc + 1) ls (.int (nI (x * y)) :: rest))) : W p l e R s m args below meth c H locs cells slots Q (F0 m pc ls (.int (nI y) :: .int (nI x) :: rest)) := by
  refine lv_imul hexec hb hdg ?_
  rw [pk_mul]; exact k
end WQ
