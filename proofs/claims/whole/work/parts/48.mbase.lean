/-! ===== the reference: rows of its own ===== -/
section WZ
variable {p : Program} {l : Launch} {e : Env} {R : Room} {s : State} {m : MethodId} {args : Array Value} {below : List Frame} {meth : Method} {c : Code} {H : Heap} {locs : List Loc} {cells slots : Nat} {Q : State → Prop}
variable {cc : ByteArray} {pc : Nat} {ls : Array Slot} {rest : List Value}
variable {n : Nat} {sh : Nat → wSh} {ad : Nat → Nat} {cs : Nat → ClassId} {M : wM} {J : wJ} {D : va_G} {A : Nat → Prop} {H0 : Heap}
theorem bz_v {x : Int32} (h : bz x) : vp_nar .boolean x = x := by rcases h with rfl | rfl <;> decide
theorem wr_zstN (hexec : p.tables.exec = Jvm.exec) (hb : c.code = cc) (hK : va_K D vwCl (wT cs) s) (hw : wI D n sh ad cs A H0 M J H locs) (k : Nat) (hk : k < n) {len : Nat} (hs : sh k = .inl (1, len)) (hl : len < 2147483648) {i x : Int32} (j : Nat) (hi : i = nI j) (hj : j < len) (hx : bz x) (hdg : decode cc pc = .ok (.bastore, 1))
    (kk : ∀ (H1 : Heap) (locs1 : List Loc), wI D n sh ad cs A H0 (wU M k j x) J H1 locs1 → W p l e R s m args below meth c H1 locs1 cells slots Q (F0 m (pc + 1) ls rest)) : W p l e R s m args below meth c H locs cells slots Q (F0 m pc ls (.int x :: .int i :: .ref (ad k) :: rest)) := by
  subst hi
  refine va_zast hexec hb hK hw.1 hw.2.1 hw.2.2 k 1 (by rw [wW_get hk, wE_i hs]) rfl (vp_in_nI hj hl) hdg (fun H1 locs1 hP hD hS => kk H1 locs1 (wI_set hw hk ?_ (fun a ha => wU_ne ha) (fun _ _ => rfl) hP hS))
  rw [wE_i hs, wU_self, nI_clamp (by omega), bz_v hx]
end WZ
theorem lone31 : ∀ i, ([none, none, some (some 1), some (some 2), some (some 3), some (some 4), some (some 5), some (some 6), some (some 7), some (some 8), some (some 9), some (some 10), none, none, none, some (some 11), none, some (some 12), some (some 13), some (some 14), some (some 15), some (some 16), some (some 17), none, some (some 18), some (some 19), none, some (some 20), some (some 21), some (some 22), some none] : List (Option (Option Nat)))[i]? = some (some none) → i = 30 := by
  intro i h
  by_cases q : i < 31
  · have key : ∀ i, i < 31 → ([none, none, some (some 1), some (some 2), some (some 3), some (some 4), some (some 5), some (some 6), some (some 7), some (some 8), some (some 9), some (some 10), none, none, none, some (some 11), none, some (some 12), some (some 13), some (some 14), some (some 15), some (some 16), some (some 17), none, some (some 18), some (some 19), none, some (some 20), some (some 21), some (some 22), some none] : List (Option (Option Nat)))[i]? = some (some none) → i = 30 := by decide
    exact key i q h
  · rw [List.getElem?_eq_none (by simp; omega)] at h
    cases h
