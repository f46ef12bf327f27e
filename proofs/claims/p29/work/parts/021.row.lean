/-! Row: its two methods -/
theorem iX2_at_X2 : ∀ w ∈ wsX20, w ∈ wsX2_at := by decide +kernel
theorem iX2_put_X2 : ∀ w ∈ wsX20, w ∈ wsX2_put := by decide +kernel
theorem kX2_at : (.fieldLink RX2 15 "Meeplehouse$Row" "cells" "[I" : Cond) ∈ wsX2_at := by decide +kernel
theorem kX2_put : (.fieldLink RX2 15 "Meeplehouse$Row" "cells" "[I" : Cond) ∈ wsX2_put := by decide +kernel
theorem rw_in {n : Nat} {x : Int32} (hn : n < 2 ^ 31) (h1 : ¬ x < 0) (h2 : ¬ nI n ≤ x) : vp_in x n := by
  rw [vp_in_iff]
  rw [Int32.lt_iff_toInt_lt, Int32.toInt_zero] at h1
  rw [Int32.le_iff_toInt_le, nI_toInt hn] at h2
  omega
set_option maxRecDepth 100000 in
set_option maxHeartbeats 4000000 in
theorem c_X2_at (l : Launch) (dC : Nat → ClassId) (dI : Nat → Nat → Nat) (cI : ClassId) (r a n : Nat) (f : Nat → Int32) (x : Int32) (hn : n < 2 ^ 31) : Met l yX2_at wsX2_at { frames := 0, cells := 0, slots := 0, locals := 0 } (va_Pc [.ref r, .int x] (rpS (dC, dI) vwCl [(cI, .int)] (rw2 r a cI n f))) (QcRead (f_at n f x)) 0 0 (fun _ => False) := by
  refine ro_met (cc := cX2_at) (maxL := 2) (ret := some .int) (by decide) rfl (Nat.le_of_ble_eq_true rfl) ?_
  intro p e s m below meth c hx hb hml hr hlk hts hown hP hK hN ls hl
  have hl : lv_has ls 2 [(0, .ref r), (1, .int x)] := hl
  refine lv_iload_n hx hb dX2_at_0 rfl (lv_at hl 1 rfl) ?_
  refine lv_if_lt (tgt := 22) hx hb dX2_at_1 (by decide) (fun c1 => ?_) (fun c1 => ?_)
  · refine lv_iconst (v := -1) hx hb dX2_at_22 (by decide) ?_
    exact W.iret hx hb hr (fun t ht _ => ⟨by rw [f_at, if_pos c1], ht⟩) (fun _ h => nomatch h) dX2_at_23
  · refine lv_iload_n hx hb dX2_at_4 rfl (lv_at hl 1 rfl) ?_
    refine lv_aload_n hx hb dX2_at_5 rfl (lv_at hl 0 rfl) ?_
    refine va_get (D := (dC, dI)) (ci := 2) (v := .ref a) (C := RX2) (T := TX2) (N := 1) hx hb hts iX2_at_X2 hown hK hP 0 rfl rfl 0 (by decide) (hts _ kX2_at) (fun _ h9 => h9) rfl dX2_at_6 ?_
    refine va_alen (v := nI n) hx hb hK hP 1 0 rfl rfl rfl dX2_at_9 ?_
    refine lv_icmp_ge (tgt := 22) hx hb dX2_at_10 (by decide) (fun c2 => ?_) (fun c2 => ?_)
    · refine lv_iconst (v := -1) hx hb dX2_at_22 (by decide) ?_
      exact W.iret hx hb hr (fun t ht _ => ⟨by rw [f_at, if_neg c1, if_pos c2], ht⟩) (fun _ h => nomatch h) dX2_at_23
    · refine lv_aload_n hx hb dX2_at_13 rfl (lv_at hl 0 rfl) ?_
      refine va_get (D := (dC, dI)) (ci := 2) (v := .ref a) (C := RX2) (T := TX2) (N := 1) hx hb hts iX2_at_X2 hown hK hP 0 rfl rfl 0 (by decide) (hts _ kX2_at) (fun _ h9 => h9) rfl dX2_at_14 ?_
      refine lv_iload_n hx hb dX2_at_17 rfl (lv_at hl 1 rfl) ?_
      refine va_iald hx hb hK hP 1 0 rfl rfl (rw_in hn c1 c2) dX2_at_18 ?_
      refine lv_goto (tgt := 23) hx hb dX2_at_19 (by decide) ?_
      exact W.iret hx hb hr (fun t ht _ => ⟨by rw [f_at, if_neg c1, if_neg c2], ht⟩) (fun _ h => nomatch h) dX2_at_23
set_option maxRecDepth 100000 in
set_option maxHeartbeats 4000000 in
theorem c_X2_put (l : Launch) (dC : Nat → ClassId) (dI : Nat → Nat → Nat) (cI : ClassId) (r a n : Nat) (f : Nat → Int32) (x y : Int32) (sz : Nat) (hn : n < 2 ^ 31) : Met l yX2_put wsX2_put { frames := 0, cells := 0, slots := 0, locals := 0 } (va_Pc [.ref r, .int x, .int y] (wpS (dC, dI) vwCl [(cI, .int)] (rw2 r a cI n f) sz)) (va_Qv (fun _ : Unit => True) (fun _ t => wqB (dC, dI) vwCl (rw2 r a cI n (f_put n f x y)) (va_A (rw2 r a cI n f) sz) t) (va_A (rw2 r a cI n f) sz)) 0 0 (va_A (rw2 r a cI n f) sz) := by
  refine wr_met (fun A => (va_Qv (fun _ : Unit => True) (fun _ t => wqB (dC, dI) vwCl (rw2 r a cI n (f_put n f x y)) A t) A)) (cc := cX2_put) (maxL := 3) (ret := none) (by decide) rfl (Nat.le_of_ble_eq_true rfl) ?_
  intro p e s m below meth c A hx hb hml hr hlk hts hown hnm hP hK hN hD hA ls hl
  have hS : va_S A s.heap s.heap [] := va_S.rf
  have hl : lv_has ls 3 [(0, .ref r), (1, .int x), (2, .int y)] := hl
  refine lv_iload_n hx hb dX2_put_0 rfl (lv_at hl 1 rfl) ?_
  refine lv_if_lt (tgt := 20) hx hb dX2_put_1 (by decide) (fun c1 => ?_) (fun c1 => ?_)
  · have he : f_put n f x y = f := by rw [f_put, if_pos c1]
    exact W.vret hx hb hr (fun t ht _ => ⟨⟨(), rfl, trivial, by rw [ht, he]; exact hP, by rw [he]; exact hD⟩, hS.F ht⟩) hS.2.2 dX2_put_20
  · refine lv_iload_n hx hb dX2_put_4 rfl (lv_at hl 1 rfl) ?_
    refine lv_aload_n hx hb dX2_put_5 rfl (lv_at hl 0 rfl) ?_
    refine va_get (D := (dC, dI)) (ci := 2) (v := .ref a) (C := RX2) (T := TX2) (N := 1) hx hb hts iX2_put_X2 hown hK hP 0 rfl rfl 0 (by decide) (hts _ kX2_put) (fun _ h9 => h9) rfl dX2_put_6 ?_
    refine va_alen (v := nI n) hx hb hK hP 1 0 rfl rfl rfl dX2_put_9 ?_
    refine lv_icmp_ge (tgt := 20) hx hb dX2_put_10 (by decide) (fun c2 => ?_) (fun c2 => ?_)
    · have he : f_put n f x y = f := by rw [f_put, if_neg c1, if_pos c2]
      exact W.vret hx hb hr (fun t ht _ => ⟨⟨(), rfl, trivial, by rw [ht, he]; exact hP, by rw [he]; exact hD⟩, hS.F ht⟩) hS.2.2 dX2_put_20
    · refine lv_aload_n hx hb dX2_put_13 rfl (lv_at hl 0 rfl) ?_
      refine va_get (D := (dC, dI)) (ci := 2) (v := .ref a) (C := RX2) (T := TX2) (N := 1) hx hb hts iX2_put_X2 hown hK hP 0 rfl rfl 0 (by decide) (hts _ kX2_put) (fun _ h9 => h9) rfl dX2_put_14 ?_
      refine lv_iload_n hx hb dX2_put_17 rfl (lv_at hl 1 rfl) ?_
      refine lv_iload_n hx hb dX2_put_18 rfl (lv_at hl 2 rfl) ?_
      refine va_iast hx hb hK hP hD hS 1 0 rfl rfl (rw_in hn c1 c2) dX2_put_19 (fun H locs hP hD hS => ?_)
      have he : f_put n f x y = upd f x.toNatClampNeg y := by rw [f_put, if_neg c1, if_neg c2]
      have hP : va_P (dC, dI) vwCl (rw2 r a cI n (f_put n f x y)) H := by rw [he]; exact hP
      have hD : va_D A (rw2 r a cI n (f_put n f x y)) := by rw [he]; exact hD
      exact W.vret hx hb hr (fun t ht _ => ⟨⟨(), rfl, trivial, by rw [ht]; exact hP, hD⟩, hS.F ht⟩) hS.2.2 dX2_put_20
