/-! Math.floorMod: laid by wip/gen/specs8.py -/
def E_J9_floorMod_f86c9 (M : wM) (x : Int64) (y : Int64) : Int64 := (if 0 ≤ (lg_cmp ((x ^^^ y)) ((0 : Int64))) then (x - x / y * y) else (if (lg_cmp ((x - x / y * y)) ((0 : Int64))) = 0 then (x - x / y * y) else (((x - x / y * y)) + y)))
set_option maxHeartbeats 4000000 in
set_option maxRecDepth 100000 in
theorem k_J9_floorMod_f86c9 (l : Launch) (D : va_G) (ad : Nat → Nat) (cs : Nat → ClassId) (sz : Nat) (M : wM) (J : wJ) (x : Int64) (y : Int64) (hy : ¬ y = 0) : wCl l yJ9_floorMod_f86c9 wsJ9_floorMod_f86c9 { frames := 0, cells := 0, slots := 0, locals := 0 } D 340 cSh ad cs [.long x, .long y] sz M J (fun r_ u_ => u_ = (M, J) ∧ r_ = E_J9_floorMod_f86c9 M x y) := by
  refine wCF_l (cc := cJ9_floorMod_f86c9) (maxL := 6) (ret := (some .long)) (by decide +kernel) rfl (Nat.le_of_ble_eq_true rfl) ?_
  intro p e s m below meth c ls A hx hb hr hml hown hts hlocks hK hA hw hl hAe
  clear hAe
  have hl : lv_has ls 6 [(0, .long x), (2, .long y)] := hl
  refine lv_lload_n hx hb dJ9_floorMod_f86c9_0 rfl (lv_at hl 0 rfl) ?_
  refine lv_lload_n hx hb dJ9_floorMod_f86c9_1 rfl (lv_at hl 1 rfl) ?_
  refine lv_lrem hx hb dJ9_floorMod_f86c9_2 hy ?_
  refine lv_lstore (lv' := [(4, .long ((x - x / y * y))), (0, .long x), (2, .long y)]) hx hb dJ9_floorMod_f86c9_3 hl (by decide) rfl (fun ls hl => ?_)
  refine lv_lload_n hx hb dJ9_floorMod_f86c9_5 rfl (lv_at hl 1 rfl) ?_
  refine lv_lload_n hx hb dJ9_floorMod_f86c9_6 rfl (lv_at hl 2 rfl) ?_
  refine lv_lxor hx hb dJ9_floorMod_f86c9_7 ?_
  refine lv_lconst (v := 0) hx hb dJ9_floorMod_f86c9_8 rfl ?_
  refine W.lcmp hx hb dJ9_floorMod_f86c9_9 ?_
  refine lv_if_ge (tgt := 25) hx hb dJ9_floorMod_f86c9_10 (by decide) (fun q1 => ?_) (fun q1 => ?_)
  · skip
    refine lv_lload hx hb dJ9_floorMod_f86c9_25 (lv_at hl 0 rfl) ?_
    exact wr_lret hx hb hr hK hw ⟨rfl, by unfold E_J9_floorMod_f86c9; rw [if_pos q1]⟩ hlocks dJ9_floorMod_f86c9_27
  · skip
    refine lv_lload hx hb dJ9_floorMod_f86c9_13 (lv_at hl 0 rfl) ?_
    refine lv_lconst (v := 0) hx hb dJ9_floorMod_f86c9_15 rfl ?_
    refine W.lcmp hx hb dJ9_floorMod_f86c9_16 ?_
    refine lv_if_eq (tgt := 25) hx hb dJ9_floorMod_f86c9_17 (by decide) (fun q2 => ?_) (fun q2 => ?_)
    · skip
      refine lv_lload hx hb dJ9_floorMod_f86c9_25 (lv_at hl 0 rfl) ?_
      exact wr_lret hx hb hr hK hw ⟨rfl, by unfold E_J9_floorMod_f86c9; rw [if_neg q1, if_pos q2]⟩ hlocks dJ9_floorMod_f86c9_27
    · skip
      refine lv_lload hx hb dJ9_floorMod_f86c9_20 (lv_at hl 0 rfl) ?_
      refine lv_lload_n hx hb dJ9_floorMod_f86c9_22 rfl (lv_at hl 2 rfl) ?_
      refine lv_ladd hx hb dJ9_floorMod_f86c9_23 ?_
      exact wr_lret hx hb hr hK hw ⟨rfl, by unfold E_J9_floorMod_f86c9; rw [if_neg q1, if_neg q2]⟩ hlocks dJ9_floorMod_f86c9_24
