def P_X4_contains (a0 : Int32) (a1 : Int32) (r : Int32) : Prop := ((((a0 >>> (a1 &&& 31)) &&& (1 : Int32)) = 0 → (r = (0 : Int32))) ∧ (¬ ((a0 >>> (a1 &&& 31)) &&& (1 : Int32)) = 0 → (r = (1 : Int32))))
set_option maxRecDepth 100000 in
set_option maxHeartbeats 4000000 in
theorem c_X4_contains (l : Launch) (dC : Nat → ClassId) (dI : Nat → Nat → Nat) (cI : ClassId) (a0 : Int32) (a1 : Int32) (r : Int32) (hp : P_X4_contains a0 a1 r) : Met l yX4_contains wsX4_contains { frames := 0, cells := 0, slots := 0, locals := 0 } (va_Pc [.int a0, .int a1] (rpS (dC, dI) vwCl [(cI, .int)] ([]))) (QcRead r) 0 0 (fun _ => False) := by
  refine ro_met (cc := cX4_contains) (maxL := 2) (ret := (some .boolean)) (by decide) rfl (Nat.le_of_ble_eq_true rfl) ?_
  intro p e s m below meth c hx hb hml hr hlk hts hown hP hK hN ls hl
  have hl : lv_has ls 2 [(0, .int a0), (1, .int a1)] := hl
  unfold P_X4_contains at hp
  refine lv_iload_n hx hb dX4_contains_0 rfl (lv_at hl 0 rfl) ?_
  refine lv_iload_n hx hb dX4_contains_1 rfl (lv_at hl 1 rfl) ?_
  refine lv_ishr hx hb dX4_contains_2 ?_
  refine lv_iconst (v := 1) hx hb dX4_contains_3 (by decide) ?_
  refine lv_iand hx hb dX4_contains_4 ?_
  refine lv_if_eq (tgt := 12) hx hb dX4_contains_5 (by decide) (fun c1 => ?_) (fun c1 => ?_)
  · have hp := hp.1 c1
    refine lv_iconst (v := 0) hx hb dX4_contains_12 (by decide) ?_
    exact W.zret (ty := .boolean) hx hb hr rfl (fun t ht _ => ⟨by rw [hp], ht⟩) (fun _ h => nomatch h) dX4_contains_13
  · have hp := hp.2 c1
    refine lv_iconst (v := 1) hx hb dX4_contains_8 (by decide) ?_
    refine lv_goto (tgt := 13) hx hb dX4_contains_9 (by decide) ?_
    exact W.zret (ty := .boolean) hx hb hr rfl (fun t ht _ => ⟨by rw [hp], ht⟩) (fun _ h => nomatch h) dX4_contains_13
