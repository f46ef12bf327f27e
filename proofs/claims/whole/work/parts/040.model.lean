def wX5 (q : Nat → Nat) (cI : ClassId) (g : St) : va_W := [(q 0, .inr (5, [.int (g 0 0), .int (g 0 1), .ref (q 1), .ref (q 2), .int (g 0 4), .ref (q 3), .ref (q 4), .ref (q 5), .ref (q 6), .ref (q 7), .int (g 0 10), .ref (q 8), .ref (q 9), .ref (q 10), .ref (q 11), .int (g 0 15), .ref (q 12), .ref (q 13), .ref (q 14), .int (g 0 19), .ref (q 15), .ref (q 16), .ref (q 17), .ref (q 18), .int (g 0 24), .ref (q 19), .ref (q 20), .ref (q 21), .ref (q 22), .ref (q 23), .int (g 0 30), .int (g 0 31), .int (g 0 32)])), (q 1, .inl (cI, 10, .inl (g 1))), (q 2, .inl (cI, 10, .inl (g 2))), (q 3, .inl (cI, 30, .inl (g 3))), (q 4, .inl (cI, 30, .inl (g 4))), (q 5, .inl (cI, 30, .inl (g 5))), (q 6, .inl (cI, 30, .inl (g 6))), (q 7, .inl (cI, 30, .inl (g 7))), (q 8, .inl (cI, 8, .inl (g 8))), (q 9, .inl (cI, 8, .inl (g 9))), (q 10, .inl (cI, 8, .inl (g 10))), (q 11, .inl (cI, 32, .inl (g 11))), (q 12, .inl (cI, 16, .inl (g 12))), (q 13, .inl (cI, 16, .inl (g 13))), (q 14, .inl (cI, 64, .inl (g 14))), (q 15, .inl (cI, 64, .inl (g 15))), (q 16, .inl (cI, 64, .inl (g 16))), (q 17, .inl (cI, 64, .inl (g 17))), (q 18, .inl (cI, 64, .inl (g 18))), (q 19, .inl (cI, 96, .inl (g 19))), (q 20, .inl (cI, 96, .inl (g 20))), (q 21, .inl (cI, 96, .inl (g 21))), (q 22, .inl (cI, 96, .inl (g 22))), (q 23, .inl (cI, 8, .inl (g 23)))]
theorem kX5_thrown_0 : (.fieldLink RX5 79 "MeeplehouseModel" "thrown" "I" : Cond) ∈ wsX5_thrown := by decide +kernel
theorem iX5_thrown_X5 : ∀ w ∈ wsX50, w ∈ wsX5_thrown := by decide +kernel
def P_X5_thrown (g : St) (r : Int32) : Prop := (r = (g 0 0))
set_option maxRecDepth 100000 in
set_option maxHeartbeats 4000000 in
theorem c_X5_thrown (l : Launch) (dC : Nat → ClassId) (dI : Nat → Nat → Nat) (cI : ClassId) (q : Nat → Nat) (g : St) (r : Int32) (hp : P_X5_thrown g r) : Met l yX5_thrown wsX5_thrown { frames := 0, cells := 0, slots := 0, locals := 0 } (va_Pc [.ref (q 0)] (rpS (dC, dI) vwCl [(cI, .int)] (wX5 q cI g))) (QcRead r) 0 0 (fun _ => False) := by
  refine ro_met (cc := cX5_thrown) (maxL := 1) (ret := (some .int)) (by decide) rfl (Nat.le_of_ble_eq_true rfl) ?_
  intro p e s m below meth c hx hb hml hr hlk hts hown hP hK hN ls hl
  have hl : lv_has ls 1 [(0, .ref (q 0))] := hl
  unfold P_X5_thrown at hp
  refine lv_aload_n hx hb dX5_thrown_0 rfl (lv_at hl 0 rfl) ?_
  refine va_get (D := (dC, dI)) (ci := 5) (v := .int (g 0 0)) (C := RX5) (T := TX5) (N := 33) hx hb hts iX5_thrown_X5 hown hK hP 0 rfl rfl 0 (by decide) (hts _ kX5_thrown_0) (fun _ h9 => h9) rfl dX5_thrown_1 ?_
  exact W.iret hx hb hr (fun t ht _ => ⟨by rw [hp], ht⟩) (fun _ h => nomatch h) dX5_thrown_4
theorem kX5_isFine_0 : (.fieldLink RX5 79 "MeeplehouseModel" "thrown" "I" : Cond) ∈ wsX5_isFine := by decide +kernel
theorem iX5_isFine_X5 : ∀ w ∈ wsX50, w ∈ wsX5_isFine := by decide +kernel
def P_X5_isFine (g : St) (a1 : Int32) (r : Int32) (g' : St) : Prop := (∀ g1 : St, g1 = st_set g 0 0 a1 → ((¬ a1 = 0 → (r = (0 : Int32) ∧ g' = g1)) ∧ (a1 = 0 → (r = (1 : Int32) ∧ g' = g1))))
set_option maxRecDepth 100000 in
set_option maxHeartbeats 4000000 in
theorem c_X5_isFine (l : Launch) (dC : Nat → ClassId) (dI : Nat → Nat → Nat) (cI : ClassId) (q : Nat → Nat) (g : St) (a1 : Int32) (r : Int32) (g' : St) (hp : P_X5_isFine g a1 r g') (sz : Nat) : Met l yX5_isFine wsX5_isFine { frames := 0, cells := 0, slots := 0, locals := 0 } (va_Pc [.ref (q 0), .int a1] (wpS (dC, dI) vwCl [(cI, .int)] (wX5 q cI g) sz)) (va_Qi (fun (r' : Int32) (_ : Unit) => r' = r) (fun _ t => wqB (dC, dI) vwCl (wX5 q cI g') (va_A (wX5 q cI g) sz) t) (va_A (wX5 q cI g) sz)) 0 0 (va_A (wX5 q cI g) sz) := by
  refine wr_met (fun A => (va_Qi (fun (r' : Int32) (_ : Unit) => r' = r) (fun _ t => wqB (dC, dI) vwCl (wX5 q cI g') A t) A)) (cc := cX5_isFine) (maxL := 2) (ret := (some .boolean)) (by decide) rfl (Nat.le_of_ble_eq_true rfl) ?_
  intro p e s m below meth c A hx hb hml hr hlk hts hown hnm hP hK hN hD hA ls hl
  have hS : va_S A s.heap s.heap [] := va_S.rf
  have hl : lv_has ls 2 [(0, .ref (q 0)), (1, .int a1)] := hl
  unfold P_X5_isFine at hp
  refine lv_aload_n hx hb dX5_isFine_0 rfl (lv_at hl 0 rfl) ?_
  refine lv_iload_n hx hb dX5_isFine_1 rfl (lv_at hl 1 rfl) ?_
  refine va_put (D := (dC, dI)) (ci := 5) (v := .int a1) (ty := .int) (C := RX5) (T := TX5) (N := 33) hx hb hts iX5_isFine_X5 tyX5 tyX5_ok nmX5 hown hK hP hD hS 0 rfl rfl 0 (by decide) (hts _ kX5_isFine_0) (fun _ h9 => h9) rfl (by decide +kernel) rfl rfl (Nat.le_of_ble_eq_true rfl) dX5_isFine_2 (fun H locs hP hD hS => ?_)
  obtain ⟨g1, eg1⟩ : ∃ z : St, z = st_set g 0 0 a1 := ⟨_, rfl⟩
  have hp := hp g1 eg1
  have hP : va_P (dC, dI) vwCl (wX5 q cI g1) H := by rw [eg1]; exact hP
  have hD : va_D A (wX5 q cI g1) := by rw [eg1]; exact hD
  refine lv_iload_n hx hb dX5_isFine_5 rfl (lv_at hl 1 rfl) ?_
  refine lv_if_ne (tgt := 13) hx hb dX5_isFine_6 (by decide) (fun c2 => ?_) (fun c2 => ?_)
  · have hp := hp.1 c2
    refine lv_iconst (v := 0) hx hb dX5_isFine_13 (by decide) ?_
    exact W.zret (ty := .boolean) hx hb hr rfl (fun t ht _ => ⟨⟨_, (), rfl, hp.1.symm, by rw [ht, hp.2]; exact hP, by rw [hp.2]; exact hD⟩, hS.F ht⟩) hS.2.2 dX5_isFine_14
  · have hp := hp.2 c2
    refine lv_iconst (v := 1) hx hb dX5_isFine_9 (by decide) ?_
    refine lv_goto (tgt := 14) hx hb dX5_isFine_10 (by decide) ?_
    exact W.zret (ty := .boolean) hx hb hr rfl (fun t ht _ => ⟨⟨_, (), rfl, hp.1.symm, by rw [ht, hp.2]; exact hP, by rw [hp.2]; exact hD⟩, hS.F ht⟩) hS.2.2 dX5_isFine_14
def P_X5_isIn (a0 : Int32) (a1 : Int32) (a2 : Int32) (r : Int32) : Prop := ((a0 < a1 → (r = (0 : Int32))) ∧ (¬ a0 < a1 → ((a2 < a0 → (r = (0 : Int32))) ∧ (¬ a2 < a0 → (r = (1 : Int32))))))
set_option maxRecDepth 100000 in
set_option maxHeartbeats 4000000 in
theorem c_X5_isIn (l : Launch) (dC : Nat → ClassId) (dI : Nat → Nat → Nat) (cI : ClassId) (a0 : Int32) (a1 : Int32) (a2 : Int32) (r : Int32) (hp : P_X5_isIn a0 a1 a2 r) : Met l yX5_isIn wsX5_isIn { frames := 0, cells := 0, slots := 0, locals := 0 } (va_Pc [.int a0, .int a1, .int a2] (rpS (dC, dI) vwCl [(cI, .int)] ([]))) (QcRead r) 0 0 (fun _ => False) := by
  refine ro_met (cc := cX5_isIn) (maxL := 3) (ret := (some .boolean)) (by decide) rfl (Nat.le_of_ble_eq_true rfl) ?_
  intro p e s m below meth c hx hb hml hr hlk hts hown hP hK hN ls hl
  have hl : lv_has ls 3 [(0, .int a0), (1, .int a1), (2, .int a2)] := hl
  unfold P_X5_isIn at hp
  refine lv_iload_n hx hb dX5_isIn_0 rfl (lv_at hl 0 rfl) ?_
  refine lv_iload_n hx hb dX5_isIn_1 rfl (lv_at hl 1 rfl) ?_
  refine lv_icmp_lt (tgt := 14) hx hb dX5_isIn_2 (by decide) (fun c2 => ?_) (fun c2 => ?_)
  · have hp := hp.1 c2
    refine lv_iconst (v := 0) hx hb dX5_isIn_14 (by decide) ?_
    exact W.zret (ty := .boolean) hx hb hr rfl (fun t ht _ => ⟨by rw [hp], ht⟩) (fun _ h => nomatch h) dX5_isIn_15
  · have hp := hp.2 c2
    refine lv_iload_n hx hb dX5_isIn_5 rfl (lv_at hl 0 rfl) ?_
    refine lv_iload_n hx hb dX5_isIn_6 rfl (lv_at hl 2 rfl) ?_
    refine lv_icmp_gt (tgt := 14) hx hb dX5_isIn_7 (by decide) (fun c1 => ?_) (fun c1 => ?_)
    · have hp := hp.1 c1
      refine lv_iconst (v := 0) hx hb dX5_isIn_14 (by decide) ?_
      exact W.zret (ty := .boolean) hx hb hr rfl (fun t ht _ => ⟨by rw [hp], ht⟩) (fun _ h => nomatch h) dX5_isIn_15
    · have hp := hp.2 c1
      refine lv_iconst (v := 1) hx hb dX5_isIn_10 (by decide) ?_
      refine lv_goto (tgt := 15) hx hb dX5_isIn_11 (by decide) ?_
      exact W.zret (ty := .boolean) hx hb hr rfl (fun t ht _ => ⟨by rw [hp], ht⟩) (fun _ h => nomatch h) dX5_isIn_15
theorem kX5_isTitle_0 : (.fieldLink RX5 83 "MeeplehouseModel" "titles" "I" : Cond) ∈ wsX5_isTitle := by decide +kernel
theorem iX5_isTitle_X5 : ∀ w ∈ wsX50, w ∈ wsX5_isTitle := by decide +kernel
def P_X5_isTitle (g : St) (a1 : Int32) (r : Int32) : Prop := (∃ r1 : Int32, P_X5_isIn a1 (0 : Int32) ((g 0 15) - (1 : Int32)) r1 ∧ ((r1 = 0 ∨ r1 = 1) ∧ (r = r1)))
set_option maxRecDepth 100000 in
set_option maxHeartbeats 4000000 in
theorem c_X5_isTitle (l : Launch) (dC : Nat → ClassId) (dI : Nat → Nat → Nat) (cI : ClassId) (q : Nat → Nat) (g : St) (a1 : Int32) (r : Int32) (hp : P_X5_isTitle g a1 r) : Met l yX5_isTitle wsX5_isTitle { frames := 1, cells := 0, slots := 0, locals := 22 } (va_Pc [.ref (q 0), .int a1] (rpS (dC, dI) vwCl [(cI, .int)] (wX5 q cI g))) (QcRead r) 0 0 (fun _ => False) := by
  refine ro_met (cc := cX5_isTitle) (maxL := 2) (ret := (some .boolean)) (by decide) rfl (Nat.le_of_ble_eq_true rfl) ?_
  intro p e s m below meth c hx hb hml hr hlk hts hown hP hK hN ls hl
  have hl : lv_has ls 2 [(0, .ref (q 0)), (1, .int a1)] := hl
  unfold P_X5_isTitle at hp
  refine lv_iload_n hx hb dX5_isTitle_0 rfl (lv_at hl 1 rfl) ?_
  refine lv_iconst (v := 0) hx hb dX5_isTitle_1 (by decide) ?_
  refine lv_aload_n hx hb dX5_isTitle_2 rfl (lv_at hl 0 rfl) ?_
  refine va_get (D := (dC, dI)) (ci := 5) (v := .int (g 0 15)) (C := RX5) (T := TX5) (N := 33) hx hb hts iX5_isTitle_X5 hown hK hP 0 rfl rfl 15 (by decide) (hts _ kX5_isTitle_0) (fun _ h9 => h9) rfl dX5_isTitle_3 ?_
  refine lv_iconst (v := 1) hx hb dX5_isTitle_6 (by decide) ?_
  refine lv_isub hx hb dX5_isTitle_7 ?_
  obtain ⟨r1, hr1, hp⟩ := hp
  refine ro_S (As := [.int a1, .int (0 : Int32), .int ((g 0 15) - (1 : Int32))]) (rest := []) ⟨hx, hb, hml, hown, hts⟩ (c_X5_isIn l dC dI cI a1 (0 : Int32) ((g 0 15) - (1 : Int32)) r1 hr1) (va_cwS 3 hts gX5_isTitle_X5_isIn rfl rfl rfl (by decide +kernel) ⟨Nat.le_of_ble_eq_true rfl, Nat.le_of_ble_eq_true rfl⟩) (hP.sub [] rfl) hK hN rfl rfl hl.1 (Nat.le_of_ble_eq_true rfl) ⟨Nat.zero_le _, Nat.zero_le _⟩ dX5_isTitle_8 ?_
  have hbv := rd_bool hp.1
  have hp := hp.2
  exact W.zret (ty := .boolean) hx hb hr hbv (fun t ht _ => ⟨by rw [hp], ht⟩) (fun _ h => nomatch h) dX5_isTitle_11
theorem kX5_isCopy_0 : (.fieldLink RX5 90 "MeeplehouseModel" "copies" "I" : Cond) ∈ wsX5_isCopy := by decide +kernel
theorem iX5_isCopy_X5 : ∀ w ∈ wsX50, w ∈ wsX5_isCopy := by decide +kernel
def P_X5_isCopy (g : St) (a1 : Int32) (r : Int32) : Prop := (∃ r1 : Int32, P_X5_isIn a1 (0 : Int32) ((g 0 19) - (1 : Int32)) r1 ∧ ((r1 = 0 ∨ r1 = 1) ∧ (r = r1)))
set_option maxRecDepth 100000 in
set_option maxHeartbeats 4000000 in
theorem c_X5_isCopy (l : Launch) (dC : Nat → ClassId) (dI : Nat → Nat → Nat) (cI : ClassId) (q : Nat → Nat) (g : St) (a1 : Int32) (r : Int32) (hp : P_X5_isCopy g a1 r) : Met l yX5_isCopy wsX5_isCopy { frames := 1, cells := 0, slots := 0, locals := 22 } (va_Pc [.ref (q 0), .int a1] (rpS (dC, dI) vwCl [(cI, .int)] (wX5 q cI g))) (QcRead r) 0 0 (fun _ => False) := by
  refine ro_met (cc := cX5_isCopy) (maxL := 2) (ret := (some .boolean)) (by decide) rfl (Nat.le_of_ble_eq_true rfl) ?_
  intro p e s m below meth c hx hb hml hr hlk hts hown hP hK hN ls hl
  have hl : lv_has ls 2 [(0, .ref (q 0)), (1, .int a1)] := hl
  unfold P_X5_isCopy at hp
  refine lv_iload_n hx hb dX5_isCopy_0 rfl (lv_at hl 1 rfl) ?_
  refine lv_iconst (v := 0) hx hb dX5_isCopy_1 (by decide) ?_
  refine lv_aload_n hx hb dX5_isCopy_2 rfl (lv_at hl 0 rfl) ?_
  refine va_get (D := (dC, dI)) (ci := 5) (v := .int (g 0 19)) (C := RX5) (T := TX5) (N := 33) hx hb hts iX5_isCopy_X5 hown hK hP 0 rfl rfl 19 (by decide) (hts _ kX5_isCopy_0) (fun _ h9 => h9) rfl dX5_isCopy_3 ?_
  refine lv_iconst (v := 1) hx hb dX5_isCopy_6 (by decide) ?_
  refine lv_isub hx hb dX5_isCopy_7 ?_
  obtain ⟨r1, hr1, hp⟩ := hp
  refine ro_S (As := [.int a1, .int (0 : Int32), .int ((g 0 19) - (1 : Int32))]) (rest := []) ⟨hx, hb, hml, hown, hts⟩ (c_X5_isIn l dC dI cI a1 (0 : Int32) ((g 0 19) - (1 : Int32)) r1 hr1) (va_cwS 3 hts gX5_isCopy_X5_isIn rfl rfl rfl (by decide +kernel) ⟨Nat.le_of_ble_eq_true rfl, Nat.le_of_ble_eq_true rfl⟩) (hP.sub [] rfl) hK hN rfl rfl hl.1 (Nat.le_of_ble_eq_true rfl) ⟨Nat.zero_le _, Nat.zero_le _⟩ dX5_isCopy_8 ?_
  have hbv := rd_bool hp.1
  have hp := hp.2
  exact W.zret (ty := .boolean) hx hb hr hbv (fun t ht _ => ⟨by rw [hp], ht⟩) (fun _ h => nomatch h) dX5_isCopy_11
def P_X5_isKind (a0 : Int32) (r : Int32) : Prop := (∃ r1 : Int32, P_X5_isIn a0 (0 : Int32) (3 : Int32) r1 ∧ ((r1 = 0 ∨ r1 = 1) ∧ (r = r1)))
set_option maxRecDepth 100000 in
set_option maxHeartbeats 4000000 in
theorem c_X5_isKind (l : Launch) (dC : Nat → ClassId) (dI : Nat → Nat → Nat) (cI : ClassId) (a0 : Int32) (r : Int32) (hp : P_X5_isKind a0 r) : Met l yX5_isKind wsX5_isKind { frames := 1, cells := 0, slots := 0, locals := 22 } (va_Pc [.int a0] (rpS (dC, dI) vwCl [(cI, .int)] ([]))) (QcRead r) 0 0 (fun _ => False) := by
  refine ro_met (cc := cX5_isKind) (maxL := 1) (ret := (some .boolean)) (by decide) rfl (Nat.le_of_ble_eq_true rfl) ?_
  intro p e s m below meth c hx hb hml hr hlk hts hown hP hK hN ls hl
  have hl : lv_has ls 1 [(0, .int a0)] := hl
  unfold P_X5_isKind at hp
  refine lv_iload_n hx hb dX5_isKind_0 rfl (lv_at hl 0 rfl) ?_
  refine lv_iconst (v := 0) hx hb dX5_isKind_1 (by decide) ?_
  refine lv_iconst (v := 3) hx hb dX5_isKind_2 (by decide) ?_
  obtain ⟨r1, hr1, hp⟩ := hp
  refine ro_S (As := [.int a0, .int (0 : Int32), .int (3 : Int32)]) (rest := []) ⟨hx, hb, hml, hown, hts⟩ (c_X5_isIn l dC dI cI a0 (0 : Int32) (3 : Int32) r1 hr1) (va_cwS 3 hts gX5_isKind_X5_isIn rfl rfl rfl (by decide +kernel) ⟨Nat.le_of_ble_eq_true rfl, Nat.le_of_ble_eq_true rfl⟩) (hP.sub [] rfl) hK hN rfl rfl hl.1 (Nat.le_of_ble_eq_true rfl) ⟨Nat.zero_le _, Nat.zero_le _⟩ dX5_isKind_3 ?_
  have hbv := rd_bool hp.1
  have hp := hp.2
  exact W.zret (ty := .boolean) hx hb hr hbv (fun t ht _ => ⟨by rw [hp], ht⟩) (fun _ h => nomatch h) dX5_isKind_6
theorem kX5_isGroup_0 : (.fieldLink RX5 93 "MeeplehouseModel" "groups" "I" : Cond) ∈ wsX5_isGroup := by decide +kernel
theorem iX5_isGroup_X5 : ∀ w ∈ wsX50, w ∈ wsX5_isGroup := by decide +kernel
def P_X5_isGroup (g : St) (a1 : Int32) (r : Int32) : Prop := (∃ r1 : Int32, P_X5_isIn a1 (0 : Int32) ((g 0 10) - (1 : Int32)) r1 ∧ ((r1 = 0 ∨ r1 = 1) ∧ (r = r1)))
set_option maxRecDepth 100000 in
set_option maxHeartbeats 4000000 in
theorem c_X5_isGroup (l : Launch) (dC : Nat → ClassId) (dI : Nat → Nat → Nat) (cI : ClassId) (q : Nat → Nat) (g : St) (a1 : Int32) (r : Int32) (hp : P_X5_isGroup g a1 r) : Met l yX5_isGroup wsX5_isGroup { frames := 1, cells := 0, slots := 0, locals := 22 } (va_Pc [.ref (q 0), .int a1] (rpS (dC, dI) vwCl [(cI, .int)] (wX5 q cI g))) (QcRead r) 0 0 (fun _ => False) := by
  refine ro_met (cc := cX5_isGroup) (maxL := 2) (ret := (some .boolean)) (by decide) rfl (Nat.le_of_ble_eq_true rfl) ?_
  intro p e s m below meth c hx hb hml hr hlk hts hown hP hK hN ls hl
  have hl : lv_has ls 2 [(0, .ref (q 0)), (1, .int a1)] := hl
  unfold P_X5_isGroup at hp
  refine lv_iload_n hx hb dX5_isGroup_0 rfl (lv_at hl 1 rfl) ?_
  refine lv_iconst (v := 0) hx hb dX5_isGroup_1 (by decide) ?_
  refine lv_aload_n hx hb dX5_isGroup_2 rfl (lv_at hl 0 rfl) ?_
  refine va_get (D := (dC, dI)) (ci := 5) (v := .int (g 0 10)) (C := RX5) (T := TX5) (N := 33) hx hb hts iX5_isGroup_X5 hown hK hP 0 rfl rfl 10 (by decide) (hts _ kX5_isGroup_0) (fun _ h9 => h9) rfl dX5_isGroup_3 ?_
  refine lv_iconst (v := 1) hx hb dX5_isGroup_6 (by decide) ?_
  refine lv_isub hx hb dX5_isGroup_7 ?_
  obtain ⟨r1, hr1, hp⟩ := hp
  refine ro_S (As := [.int a1, .int (0 : Int32), .int ((g 0 10) - (1 : Int32))]) (rest := []) ⟨hx, hb, hml, hown, hts⟩ (c_X5_isIn l dC dI cI a1 (0 : Int32) ((g 0 10) - (1 : Int32)) r1 hr1) (va_cwS 3 hts gX5_isGroup_X5_isIn rfl rfl rfl (by decide +kernel) ⟨Nat.le_of_ble_eq_true rfl, Nat.le_of_ble_eq_true rfl⟩) (hP.sub [] rfl) hK hN rfl rfl hl.1 (Nat.le_of_ble_eq_true rfl) ⟨Nat.zero_le _, Nat.zero_le _⟩ dX5_isGroup_8 ?_
  have hbv := rd_bool hp.1
  have hp := hp.2
  exact W.zret (ty := .boolean) hx hb hr hbv (fun t ht _ => ⟨by rw [hp], ht⟩) (fun _ h => nomatch h) dX5_isGroup_11
theorem kX5_pass_0 : (.fieldLink RX5 96 "MeeplehouseModel" "now" "I" : Cond) ∈ wsX5_pass := by decide +kernel
theorem iX5_pass_X5 : ∀ w ∈ wsX50, w ∈ wsX5_pass := by decide +kernel
def P_X5_pass (g : St) (a1 : Int32) (r : Int32) (g' : St) : Prop := ∀ V33 : St → Int32 → Prop, (∀ gv : St, ∀ t0 : Int32, (∃ (r4 : Int32) (g5 : St), P_X5_isFine gv t0 r4 g5 ∧ ((¬ r4 = 0 → (∀ g6 : St, g6 = st_set g5 0 1 ((g5 0 1) + a1) → (r = (g6 0 1) ∧ g' = g6))) ∧ (r4 = 0 → (r = (0 : Int32) ∧ g' = g5)))) → V33 gv t0) → (∃ r1 : Int32, P_X5_isIn a1 (1 : Int32) (500 : Int32) r1 ∧ ((¬ r1 = 0 → ((((g 0 1) + a1) ≤ (20000 : Int32) → (V33 g (0 : Int32))) ∧ (¬ ((g 0 1) + a1) ≤ (20000 : Int32) → (V33 g (2 : Int32))))) ∧ (r1 = 0 → (V33 g (1 : Int32)))))
set_option maxRecDepth 100000 in
set_option maxHeartbeats 4000000 in
theorem c_X5_pass (l : Launch) (dC : Nat → ClassId) (dI : Nat → Nat → Nat) (cI : ClassId) (q : Nat → Nat) (g : St) (a1 : Int32) (r : Int32) (g' : St) (hp : P_X5_pass g a1 r g') (sz : Nat) : Met l yX5_pass wsX5_pass { frames := 1, cells := 0, slots := 0, locals := 22 } (va_Pc [.ref (q 0), .int a1] (wpS (dC, dI) vwCl [(cI, .int)] (wX5 q cI g) sz)) (va_Qi (fun (r' : Int32) (_ : Unit) => r' = r) (fun _ t => wqB (dC, dI) vwCl (wX5 q cI g') (va_A (wX5 q cI g) sz) t) (va_A (wX5 q cI g) sz)) 0 0 (va_A (wX5 q cI g) sz) := by
  refine wr_met (fun A => (va_Qi (fun (r' : Int32) (_ : Unit) => r' = r) (fun _ t => wqB (dC, dI) vwCl (wX5 q cI g') A t) A)) (cc := cX5_pass) (maxL := 2) (ret := (some .int)) (by decide) rfl (Nat.le_of_ble_eq_true rfl) ?_
  intro p e s m below meth c A hx hb hml hr hlk hts hown hnm hP hK hN hD hA ls hl
  have hS : va_S A s.heap s.heap [] := va_S.rf
  have hl : lv_has ls 2 [(0, .ref (q 0)), (1, .int a1)] := hl
  obtain ⟨V33, eV33⟩ : ∃ V : St → Int32 → Prop, V = (fun gv t0 => ∀ (H : Heap) (locs : List Loc) (ls : Array Slot), va_P (dC, dI) vwCl (wX5 q cI gv) H → va_D A (wX5 q cI gv) → va_S A s.heap H locs → lv_has ls 2 [(0, .ref (q 0)), (1, .int a1)] → W p l e { frames := 1, cells := 0, slots := 0, locals := 22 } s m ([.ref (q 0), .int a1] : List Value).toArray below meth c H locs 0 0 (MQ below (va_Qi (fun (r' : Int32) (_ : Unit) => r' = r) (fun _ t => wqB (dC, dI) vwCl (wX5 q cI g') A t) A) ([.ref (q 0), .int a1] : List Value).toArray s 0 0 A) (F0 m 33 ls [.int t0, .ref (q 0)])) := ⟨_, rfl⟩
  have hp := hp V33
  have hp := hp (by
    intro gv t0 hp
    rw [eV33]
    intro H locs ls hP hD hS hl
    obtain ⟨r4, g5, hg5, hp⟩ := hp
    refine wr_Vi (As := [.int t0]) (rest := []) (w1 := []) (w2 := []) (ws1 := wX5 q cI g5) ⟨hx, hb, hml, hown, hts⟩ (c_X5_isFine l dC dI cI q gv t0 r4 g5 hg5 _) (cwV 1 hts gX5_pass_X5_isFine rfl rfl rfl (by decide +kernel) ⟨Nat.le_of_ble_eq_true rfl, Nat.le_of_ble_eq_true rfl⟩) hP hD hS hA hK hN (List.append_nil _).symm (List.append_nil _) rfl rfl rfl rfl hl.1 (Nat.le_of_ble_eq_true rfl) ⟨Nat.zero_le _, Nat.zero_le _⟩ dX5_pass_33 (fun H locs hP hD hS => ?_)
    refine lv_if_ne (tgt := 41) hx hb dX5_pass_36 (by decide) (fun c7 => ?_) (fun c7 => ?_)
    · have hp := hp.1 c7
      refine lv_aload_n hx hb dX5_pass_41 rfl (lv_at hl 0 rfl) ?_
      refine lv_dup hx hb dX5_pass_42 rfl ?_
      refine va_get (D := (dC, dI)) (ci := 5) (v := .int (g5 0 1)) (C := RX5) (T := TX5) (N := 33) hx hb hts iX5_pass_X5 hown hK hP 0 rfl rfl 1 (by decide) (hts _ kX5_pass_0) (fun _ h9 => h9) rfl dX5_pass_43 ?_
      refine lv_iload_n hx hb dX5_pass_46 rfl (lv_at hl 1 rfl) ?_
      refine lv_iadd hx hb dX5_pass_47 ?_
      refine va_put (D := (dC, dI)) (ci := 5) (v := .int ((g5 0 1) + a1)) (ty := .int) (C := RX5) (T := TX5) (N := 33) hx hb hts iX5_pass_X5 tyX5 tyX5_ok nmX5 hown hK hP hD hS 0 rfl rfl 1 (by decide) (hts _ kX5_pass_0) (fun _ h9 => h9) rfl (by decide +kernel) rfl rfl (Nat.le_of_ble_eq_true rfl) dX5_pass_48 (fun H locs hP hD hS => ?_)
      obtain ⟨g6, eg6⟩ : ∃ z : St, z = st_set g5 0 1 ((g5 0 1) + a1) := ⟨_, rfl⟩
      have hp := hp g6 eg6
      have hP : va_P (dC, dI) vwCl (wX5 q cI g6) H := by rw [eg6]; exact hP
      have hD : va_D A (wX5 q cI g6) := by rw [eg6]; exact hD
      refine lv_aload_n hx hb dX5_pass_51 rfl (lv_at hl 0 rfl) ?_
      refine va_get (D := (dC, dI)) (ci := 5) (v := .int (g6 0 1)) (C := RX5) (T := TX5) (N := 33) hx hb hts iX5_pass_X5 hown hK hP 0 rfl rfl 1 (by decide) (hts _ kX5_pass_0) (fun _ h9 => h9) rfl dX5_pass_52 ?_
      exact W.iret hx hb hr (fun t ht _ => ⟨⟨_, (), rfl, hp.1.symm, by rw [ht, hp.2]; exact hP, by rw [hp.2]; exact hD⟩, hS.F ht⟩) hS.2.2 dX5_pass_55
    · have hp := hp.2 c7
      refine lv_iconst (v := 0) hx hb dX5_pass_39 (by decide) ?_
      exact W.iret hx hb hr (fun t ht _ => ⟨⟨_, (), rfl, hp.1.symm, by rw [ht, hp.2]; exact hP, by rw [hp.2]; exact hD⟩, hS.F ht⟩) hS.2.2 dX5_pass_40)
  refine lv_aload_n hx hb dX5_pass_0 rfl (lv_at hl 0 rfl) ?_
  refine lv_iload_n hx hb dX5_pass_1 rfl (lv_at hl 1 rfl) ?_
  refine lv_iconst (v := 1) hx hb dX5_pass_2 (by decide) ?_
  refine lv_sipush (v := 500) hx hb dX5_pass_3 (by decide) ?_
  obtain ⟨r1, hr1, hp⟩ := hp
  refine ro_S (As := [.int a1, .int (1 : Int32), .int (500 : Int32)]) (rest := [.ref (q 0)]) ⟨hx, hb, hml, hown, hts⟩ (c_X5_isIn l dC dI cI a1 (1 : Int32) (500 : Int32) r1 hr1) (va_cwS 3 hts gX5_pass_X5_isIn rfl rfl rfl (by decide +kernel) ⟨Nat.le_of_ble_eq_true rfl, Nat.le_of_ble_eq_true rfl⟩) (hP.sub [] rfl) hK hN rfl rfl hl.1 (Nat.le_of_ble_eq_true rfl) ⟨Nat.zero_le _, Nat.zero_le _⟩ dX5_pass_6 ?_
  refine lv_if_ne (tgt := 16) hx hb dX5_pass_9 (by decide) (fun c3 => ?_) (fun c3 => ?_)
  · have hp := hp.1 c3
    refine lv_aload_n hx hb dX5_pass_16 rfl (lv_at hl 0 rfl) ?_
    refine va_get (D := (dC, dI)) (ci := 5) (v := .int (g 0 1)) (C := RX5) (T := TX5) (N := 33) hx hb hts iX5_pass_X5 hown hK hP 0 rfl rfl 1 (by decide) (hts _ kX5_pass_0) (fun _ h9 => h9) rfl dX5_pass_17 ?_
    refine lv_iload_n hx hb dX5_pass_20 rfl (lv_at hl 1 rfl) ?_
    refine lv_iadd hx hb dX5_pass_21 ?_
    refine lv_sipush (v := 20000) hx hb dX5_pass_22 (by decide) ?_
    refine lv_icmp_le (tgt := 32) hx hb dX5_pass_25 (by decide) (fun c2 => ?_) (fun c2 => ?_)
    · have hp := hp.1 c2
      refine lv_iconst (v := 0) hx hb dX5_pass_32 (by decide) ?_
      rw [eV33] at hp
      exact hp _ _ _ hP hD hS (lv_sub hl [0, 1] rfl)
    · have hp := hp.2 c2
      refine lv_iconst (v := 2) hx hb dX5_pass_28 (by decide) ?_
      refine lv_goto (tgt := 33) hx hb dX5_pass_29 (by decide) ?_
      rw [eV33] at hp
      exact hp _ _ _ hP hD hS (lv_sub hl [0, 1] rfl)
  · have hp := hp.2 c3
    refine lv_iconst (v := 1) hx hb dX5_pass_12 (by decide) ?_
    refine lv_goto (tgt := 33) hx hb dX5_pass_13 (by decide) ?_
    rw [eV33] at hp
    exact hp _ _ _ hP hD hS (lv_sub hl [0, 1] rfl)
theorem kX5_now_0 : (.fieldLink RX5 79 "MeeplehouseModel" "thrown" "I" : Cond) ∈ wsX5_now := by decide +kernel
theorem iX5_now_X5 : ∀ w ∈ wsX50, w ∈ wsX5_now := by decide +kernel
theorem kX5_now_2 : (.fieldLink RX5 96 "MeeplehouseModel" "now" "I" : Cond) ∈ wsX5_now := by decide +kernel
def P_X5_now (g : St) (r : Int32) (g' : St) : Prop := (∀ g1 : St, g1 = st_set g 0 0 (0 : Int32) → (r = (g1 0 1) ∧ g' = g1))
set_option maxRecDepth 100000 in
set_option maxHeartbeats 4000000 in
theorem c_X5_now (l : Launch) (dC : Nat → ClassId) (dI : Nat → Nat → Nat) (cI : ClassId) (q : Nat → Nat) (g : St) (r : Int32) (g' : St) (hp : P_X5_now g r g') (sz : Nat) : Met l yX5_now wsX5_now { frames := 0, cells := 0, slots := 0, locals := 0 } (va_Pc [.ref (q 0)] (wpS (dC, dI) vwCl [(cI, .int)] (wX5 q cI g) sz)) (va_Qi (fun (r' : Int32) (_ : Unit) => r' = r) (fun _ t => wqB (dC, dI) vwCl (wX5 q cI g') (va_A (wX5 q cI g) sz) t) (va_A (wX5 q cI g) sz)) 0 0 (va_A (wX5 q cI g) sz) := by
  refine wr_met (fun A => (va_Qi (fun (r' : Int32) (_ : Unit) => r' = r) (fun _ t => wqB (dC, dI) vwCl (wX5 q cI g') A t) A)) (cc := cX5_now) (maxL := 1) (ret := (some .int)) (by decide) rfl (Nat.le_of_ble_eq_true rfl) ?_
  intro p e s m below meth c A hx hb hml hr hlk hts hown hnm hP hK hN hD hA ls hl
  have hS : va_S A s.heap s.heap [] := va_S.rf
  have hl : lv_has ls 1 [(0, .ref (q 0))] := hl
  unfold P_X5_now at hp
  refine lv_aload_n hx hb dX5_now_0 rfl (lv_at hl 0 rfl) ?_
  refine lv_iconst (v := 0) hx hb dX5_now_1 (by decide) ?_
  refine va_put (D := (dC, dI)) (ci := 5) (v := .int (0 : Int32)) (ty := .int) (C := RX5) (T := TX5) (N := 33) hx hb hts iX5_now_X5 tyX5 tyX5_ok nmX5 hown hK hP hD hS 0 rfl rfl 0 (by decide) (hts _ kX5_now_0) (fun _ h9 => h9) rfl (by decide +kernel) rfl rfl (Nat.le_of_ble_eq_true rfl) dX5_now_2 (fun H locs hP hD hS => ?_)
  obtain ⟨g1, eg1⟩ : ∃ z : St, z = st_set g 0 0 (0 : Int32) := ⟨_, rfl⟩
  have hp := hp g1 eg1
  have hP : va_P (dC, dI) vwCl (wX5 q cI g1) H := by rw [eg1]; exact hP
  have hD : va_D A (wX5 q cI g1) := by rw [eg1]; exact hD
  refine lv_aload_n hx hb dX5_now_5 rfl (lv_at hl 0 rfl) ?_
  refine va_get (D := (dC, dI)) (ci := 5) (v := .int (g1 0 1)) (C := RX5) (T := TX5) (N := 33) hx hb hts iX5_now_X5 hown hK hP 0 rfl rfl 1 (by decide) (hts _ kX5_now_2) (fun _ h9 => h9) rfl dX5_now_6 ?_
  exact W.iret hx hb hr (fun t ht _ => ⟨⟨_, (), rfl, hp.1.symm, by rw [ht, hp.2]; exact hP, by rw [hp.2]; exact hD⟩, hS.F ht⟩) hS.2.2 dX5_now_9
theorem kX5_addTable_0 : (.fieldLink RX5 103 "MeeplehouseModel" "tables" "I" : Cond) ∈ wsX5_addTable := by decide +kernel
theorem iX5_addTable_X5 : ∀ w ∈ wsX50, w ∈ wsX5_addTable := by decide +kernel
theorem kX5_addTable_2 : (.fieldLink RX5 7 "MeeplehouseModel" "seats" "[I" : Cond) ∈ wsX5_addTable := by decide +kernel
theorem kX5_addTable_3 : (.fieldLink RX5 13 "MeeplehouseModel" "at" "[I" : Cond) ∈ wsX5_addTable := by decide +kernel
def P_X5_addTable (g : St) (a1 : Int32) (r : Int32) (g' : St) : Prop := ∀ V29 : St → Int32 → Prop, (∀ gv : St, ∀ t0 : Int32, (∃ (r4 : Int32) (g5 : St), P_X5_isFine gv t0 r4 g5 ∧ ((¬ r4 = 0 → (vp_in (g5 0 4) 10 ∧ (∀ g6 : St, g6 = st_set g5 1 (g5 0 4).toNatClampNeg a1 → (vp_in (g6 0 4) 10 ∧ (∀ g7 : St, g7 = st_set g6 2 (g6 0 4).toNatClampNeg (-1 : Int32) → (∀ g8 : St, g8 = st_set g7 0 4 ((g7 0 4) + (1 : Int32)) → (r = ((g8 0 4) - (1 : Int32)) ∧ g' = g8))))))) ∧ (r4 = 0 → (r = (0 : Int32) ∧ g' = g5)))) → V29 gv t0) → (∃ r1 : Int32, P_X5_isIn a1 (2 : Int32) (6 : Int32) r1 ∧ ((¬ r1 = 0 → ((¬ (g 0 4) = (10 : Int32) → (V29 g (0 : Int32))) ∧ ((g 0 4) = (10 : Int32) → (V29 g (2 : Int32))))) ∧ (r1 = 0 → (V29 g (1 : Int32)))))
set_option maxRecDepth 100000 in
set_option maxHeartbeats 4000000 in
theorem c_X5_addTable (l : Launch) (dC : Nat → ClassId) (dI : Nat → Nat → Nat) (cI : ClassId) (q : Nat → Nat) (g : St) (a1 : Int32) (r : Int32) (g' : St) (hp : P_X5_addTable g a1 r g') (sz : Nat) : Met l yX5_addTable wsX5_addTable { frames := 1, cells := 0, slots := 0, locals := 22 } (va_Pc [.ref (q 0), .int a1] (wpS (dC, dI) vwCl [(cI, .int)] (wX5 q cI g) sz)) (va_Qi (fun (r' : Int32) (_ : Unit) => r' = r) (fun _ t => wqB (dC, dI) vwCl (wX5 q cI g') (va_A (wX5 q cI g) sz) t) (va_A (wX5 q cI g) sz)) 0 0 (va_A (wX5 q cI g) sz) := by
  refine wr_met (fun A => (va_Qi (fun (r' : Int32) (_ : Unit) => r' = r) (fun _ t => wqB (dC, dI) vwCl (wX5 q cI g') A t) A)) (cc := cX5_addTable) (maxL := 2) (ret := (some .int)) (by decide) rfl (Nat.le_of_ble_eq_true rfl) ?_
  intro p e s m below meth c A hx hb hml hr hlk hts hown hnm hP hK hN hD hA ls hl
  have hS : va_S A s.heap s.heap [] := va_S.rf
  have hl : lv_has ls 2 [(0, .ref (q 0)), (1, .int a1)] := hl
  obtain ⟨V29, eV29⟩ : ∃ V : St → Int32 → Prop, V = (fun gv t0 => ∀ (H : Heap) (locs : List Loc) (ls : Array Slot), va_P (dC, dI) vwCl (wX5 q cI gv) H → va_D A (wX5 q cI gv) → va_S A s.heap H locs → lv_has ls 2 [(0, .ref (q 0)), (1, .int a1)] → W p l e { frames := 1, cells := 0, slots := 0, locals := 22 } s m ([.ref (q 0), .int a1] : List Value).toArray below meth c H locs 0 0 (MQ below (va_Qi (fun (r' : Int32) (_ : Unit) => r' = r) (fun _ t => wqB (dC, dI) vwCl (wX5 q cI g') A t) A) ([.ref (q 0), .int a1] : List Value).toArray s 0 0 A) (F0 m 29 ls [.int t0, .ref (q 0)])) := ⟨_, rfl⟩
  have hp := hp V29
  have hp := hp (by
    intro gv t0 hp
    rw [eV29]
    intro H locs ls hP hD hS hl
    obtain ⟨r4, g5, hg5, hp⟩ := hp
    refine wr_Vi (As := [.int t0]) (rest := []) (w1 := []) (w2 := []) (ws1 := wX5 q cI g5) ⟨hx, hb, hml, hown, hts⟩ (c_X5_isFine l dC dI cI q gv t0 r4 g5 hg5 _) (cwV 1 hts gX5_addTable_X5_isFine rfl rfl rfl (by decide +kernel) ⟨Nat.le_of_ble_eq_true rfl, Nat.le_of_ble_eq_true rfl⟩) hP hD hS hA hK hN (List.append_nil _).symm (List.append_nil _) rfl rfl rfl rfl hl.1 (Nat.le_of_ble_eq_true rfl) ⟨Nat.zero_le _, Nat.zero_le _⟩ dX5_addTable_29 (fun H locs hP hD hS => ?_)
    refine lv_if_ne (tgt := 37) hx hb dX5_addTable_32 (by decide) (fun c9 => ?_) (fun c9 => ?_)
    · have hp := hp.1 c9
      refine lv_aload_n hx hb dX5_addTable_37 rfl (lv_at hl 0 rfl) ?_
      refine va_get (D := (dC, dI)) (ci := 5) (v := .ref (q 1)) (C := RX5) (T := TX5) (N := 33) hx hb hts iX5_addTable_X5 hown hK hP 0 rfl rfl 2 (by decide) (hts _ kX5_addTable_2) (fun _ h9 => h9) rfl dX5_addTable_38 ?_
      refine lv_aload_n hx hb dX5_addTable_41 rfl (lv_at hl 0 rfl) ?_
      refine va_get (D := (dC, dI)) (ci := 5) (v := .int (g5 0 4)) (C := RX5) (T := TX5) (N := 33) hx hb hts iX5_addTable_X5 hown hK hP 0 rfl rfl 4 (by decide) (hts _ kX5_addTable_0) (fun _ h9 => h9) rfl dX5_addTable_42 ?_
      refine lv_iload_n hx hb dX5_addTable_45 rfl (lv_at hl 1 rfl) ?_
      refine va_iast hx hb hK hP hD hS 1 0 rfl rfl hp.1 dX5_addTable_46 (fun H locs hP hD hS => ?_)
      have hp := hp.2
      obtain ⟨g6, eg6⟩ : ∃ z : St, z = st_set g5 1 (g5 0 4).toNatClampNeg a1 := ⟨_, rfl⟩
      have hp := hp g6 eg6
      have hP : va_P (dC, dI) vwCl (wX5 q cI g6) H := by rw [eg6]; exact hP
      have hD : va_D A (wX5 q cI g6) := by rw [eg6]; exact hD
      refine lv_aload_n hx hb dX5_addTable_47 rfl (lv_at hl 0 rfl) ?_
      refine va_get (D := (dC, dI)) (ci := 5) (v := .ref (q 2)) (C := RX5) (T := TX5) (N := 33) hx hb hts iX5_addTable_X5 hown hK hP 0 rfl rfl 3 (by decide) (hts _ kX5_addTable_3) (fun _ h9 => h9) rfl dX5_addTable_48 ?_
      refine lv_aload_n hx hb dX5_addTable_51 rfl (lv_at hl 0 rfl) ?_
      refine va_get (D := (dC, dI)) (ci := 5) (v := .int (g6 0 4)) (C := RX5) (T := TX5) (N := 33) hx hb hts iX5_addTable_X5 hown hK hP 0 rfl rfl 4 (by decide) (hts _ kX5_addTable_0) (fun _ h9 => h9) rfl dX5_addTable_52 ?_
      refine lv_iconst (v := -1) hx hb dX5_addTable_55 (by decide) ?_
      refine va_iast hx hb hK hP hD hS 2 0 rfl rfl hp.1 dX5_addTable_56 (fun H locs hP hD hS => ?_)
      have hp := hp.2
      obtain ⟨g7, eg7⟩ : ∃ z : St, z = st_set g6 2 (g6 0 4).toNatClampNeg (-1 : Int32) := ⟨_, rfl⟩
      have hp := hp g7 eg7
      have hP : va_P (dC, dI) vwCl (wX5 q cI g7) H := by rw [eg7]; exact hP
      have hD : va_D A (wX5 q cI g7) := by rw [eg7]; exact hD
      refine lv_aload_n hx hb dX5_addTable_57 rfl (lv_at hl 0 rfl) ?_
      refine lv_dup hx hb dX5_addTable_58 rfl ?_
      refine va_get (D := (dC, dI)) (ci := 5) (v := .int (g7 0 4)) (C := RX5) (T := TX5) (N := 33) hx hb hts iX5_addTable_X5 hown hK hP 0 rfl rfl 4 (by decide) (hts _ kX5_addTable_0) (fun _ h9 => h9) rfl dX5_addTable_59 ?_
      refine lv_iconst (v := 1) hx hb dX5_addTable_62 (by decide) ?_
      refine lv_iadd hx hb dX5_addTable_63 ?_
      refine va_put (D := (dC, dI)) (ci := 5) (v := .int ((g7 0 4) + (1 : Int32))) (ty := .int) (C := RX5) (T := TX5) (N := 33) hx hb hts iX5_addTable_X5 tyX5 tyX5_ok nmX5 hown hK hP hD hS 0 rfl rfl 4 (by decide) (hts _ kX5_addTable_0) (fun _ h9 => h9) rfl (by decide +kernel) rfl rfl (Nat.le_of_ble_eq_true rfl) dX5_addTable_64 (fun H locs hP hD hS => ?_)
      obtain ⟨g8, eg8⟩ : ∃ z : St, z = st_set g7 0 4 ((g7 0 4) + (1 : Int32)) := ⟨_, rfl⟩
      have hp := hp g8 eg8
      have hP : va_P (dC, dI) vwCl (wX5 q cI g8) H := by rw [eg8]; exact hP
      have hD : va_D A (wX5 q cI g8) := by rw [eg8]; exact hD
      refine lv_aload_n hx hb dX5_addTable_67 rfl (lv_at hl 0 rfl) ?_
      refine va_get (D := (dC, dI)) (ci := 5) (v := .int (g8 0 4)) (C := RX5) (T := TX5) (N := 33) hx hb hts iX5_addTable_X5 hown hK hP 0 rfl rfl 4 (by decide) (hts _ kX5_addTable_0) (fun _ h9 => h9) rfl dX5_addTable_68 ?_
      refine lv_iconst (v := 1) hx hb dX5_addTable_71 (by decide) ?_
      refine lv_isub hx hb dX5_addTable_72 ?_
      exact W.iret hx hb hr (fun t ht _ => ⟨⟨_, (), rfl, hp.1.symm, by rw [ht, hp.2]; exact hP, by rw [hp.2]; exact hD⟩, hS.F ht⟩) hS.2.2 dX5_addTable_73
    · have hp := hp.2 c9
      refine lv_iconst (v := 0) hx hb dX5_addTable_35 (by decide) ?_
      exact W.iret hx hb hr (fun t ht _ => ⟨⟨_, (), rfl, hp.1.symm, by rw [ht, hp.2]; exact hP, by rw [hp.2]; exact hD⟩, hS.F ht⟩) hS.2.2 dX5_addTable_36)
  refine lv_aload_n hx hb dX5_addTable_0 rfl (lv_at hl 0 rfl) ?_
  refine lv_iload_n hx hb dX5_addTable_1 rfl (lv_at hl 1 rfl) ?_
  refine lv_iconst (v := 2) hx hb dX5_addTable_2 (by decide) ?_
  refine lv_bipush (v := 6) hx hb dX5_addTable_3 (by decide) ?_
  obtain ⟨r1, hr1, hp⟩ := hp
  refine ro_S (As := [.int a1, .int (2 : Int32), .int (6 : Int32)]) (rest := [.ref (q 0)]) ⟨hx, hb, hml, hown, hts⟩ (c_X5_isIn l dC dI cI a1 (2 : Int32) (6 : Int32) r1 hr1) (va_cwS 3 hts gX5_addTable_X5_isIn rfl rfl rfl (by decide +kernel) ⟨Nat.le_of_ble_eq_true rfl, Nat.le_of_ble_eq_true rfl⟩) (hP.sub [] rfl) hK hN rfl rfl hl.1 (Nat.le_of_ble_eq_true rfl) ⟨Nat.zero_le _, Nat.zero_le _⟩ dX5_addTable_5 ?_
  refine lv_if_ne (tgt := 15) hx hb dX5_addTable_8 (by decide) (fun c3 => ?_) (fun c3 => ?_)
  · have hp := hp.1 c3
    refine lv_aload_n hx hb dX5_addTable_15 rfl (lv_at hl 0 rfl) ?_
    refine va_get (D := (dC, dI)) (ci := 5) (v := .int (g 0 4)) (C := RX5) (T := TX5) (N := 33) hx hb hts iX5_addTable_X5 hown hK hP 0 rfl rfl 4 (by decide) (hts _ kX5_addTable_0) (fun _ h9 => h9) rfl dX5_addTable_16 ?_
    refine lv_bipush (v := 10) hx hb dX5_addTable_19 (by decide) ?_
    refine lv_icmp_ne (tgt := 28) hx hb dX5_addTable_21 (by decide) (fun c2 => ?_) (fun c2 => ?_)
    · have hp := hp.1 c2
      refine lv_iconst (v := 0) hx hb dX5_addTable_28 (by decide) ?_
      rw [eV29] at hp
      exact hp _ _ _ hP hD hS (lv_sub hl [0, 1] rfl)
    · have hp := hp.2 c2
      refine lv_iconst (v := 2) hx hb dX5_addTable_24 (by decide) ?_
      refine lv_goto (tgt := 29) hx hb dX5_addTable_25 (by decide) ?_
      rw [eV29] at hp
      exact hp _ _ _ hP hD hS (lv_sub hl [0, 1] rfl)
  · have hp := hp.2 c3
    refine lv_iconst (v := 1) hx hb dX5_addTable_11 (by decide) ?_
    refine lv_goto (tgt := 29) hx hb dX5_addTable_12 (by decide) ?_
    rw [eV29] at hp
    exact hp _ _ _ hP hD hS (lv_sub hl [0, 1] rfl)
def P_X5_arePieces (a0 : Int32) (r : Int32) : Prop := (∃ r1 : Int32, P_X5_isIn a0 (0 : Int32) (9 : Int32) r1 ∧ ((r1 = 0 ∨ r1 = 1) ∧ (r = r1)))
set_option maxRecDepth 100000 in
set_option maxHeartbeats 4000000 in
theorem c_X5_arePieces (l : Launch) (dC : Nat → ClassId) (dI : Nat → Nat → Nat) (cI : ClassId) (a0 : Int32) (r : Int32) (hp : P_X5_arePieces a0 r) : Met l yX5_arePieces wsX5_arePieces { frames := 1, cells := 0, slots := 0, locals := 22 } (va_Pc [.int a0] (rpS (dC, dI) vwCl [(cI, .int)] ([]))) (QcRead r) 0 0 (fun _ => False) := by
  refine ro_met (cc := cX5_arePieces) (maxL := 1) (ret := (some .boolean)) (by decide) rfl (Nat.le_of_ble_eq_true rfl) ?_
  intro p e s m below meth c hx hb hml hr hlk hts hown hP hK hN ls hl
  have hl : lv_has ls 1 [(0, .int a0)] := hl
  unfold P_X5_arePieces at hp
  refine lv_iload_n hx hb dX5_arePieces_0 rfl (lv_at hl 0 rfl) ?_
  refine lv_iconst (v := 0) hx hb dX5_arePieces_1 (by decide) ?_
  refine lv_bipush (v := 9) hx hb dX5_arePieces_2 (by decide) ?_
  obtain ⟨r1, hr1, hp⟩ := hp
  refine ro_S (As := [.int a0, .int (0 : Int32), .int (9 : Int32)]) (rest := []) ⟨hx, hb, hml, hown, hts⟩ (c_X5_isIn l dC dI cI a0 (0 : Int32) (9 : Int32) r1 hr1) (va_cwS 3 hts gX5_arePieces_X5_isIn rfl rfl rfl (by decide +kernel) ⟨Nat.le_of_ble_eq_true rfl, Nat.le_of_ble_eq_true rfl⟩) (hP.sub [] rfl) hK hN rfl rfl hl.1 (Nat.le_of_ble_eq_true rfl) ⟨Nat.zero_le _, Nat.zero_le _⟩ dX5_arePieces_4 ?_
  have hbv := rd_bool hp.1
  have hp := hp.2
  exact W.zret (ty := .boolean) hx hb hr hbv (fun t ht _ => ⟨by rw [hp], ht⟩) (fun _ h => nomatch h) dX5_arePieces_7
theorem kX5_addTitle_0 : (.fieldLink RX5 83 "MeeplehouseModel" "titles" "I" : Cond) ∈ wsX5_addTitle := by decide +kernel
theorem iX5_addTitle_X5 : ∀ w ∈ wsX50, w ∈ wsX5_addTitle := by decide +kernel
theorem kX5_addTitle_2 : (.fieldLink RX5 31 "MeeplehouseModel" "least" "[I" : Cond) ∈ wsX5_addTitle := by decide +kernel
theorem kX5_addTitle_3 : (.fieldLink RX5 34 "MeeplehouseModel" "most" "[I" : Cond) ∈ wsX5_addTitle := by decide +kernel
theorem kX5_addTitle_4 : (.fieldLink RX5 37 "MeeplehouseModel" "minutes" "[I" : Cond) ∈ wsX5_addTitle := by decide +kernel
theorem kX5_addTitle_5 : (.fieldLink RX5 40 "MeeplehouseModel" "whole" "[I" : Cond) ∈ wsX5_addTitle := by decide +kernel
def P_X5_addTitle (g : St) (a1 : Int32) (a2 : Int32) (a3 : Int32) (a4 : Int32) (a5 : Int32) (a6 : Int32) (a7 : Int32) (r : Int32) (g' : St) : Prop := ∀ V35 : St → Prop, ∀ V36 : St → Int32 → Prop, ∀ V79 : St → Prop, ∀ V80 : St → Int32 → Prop, ∀ V106 : St → Int32 → Prop, (∀ gv : St, (V36 gv (0 : Int32)) → V35 gv) → (∀ gv : St, ∀ t0 : Int32, ((t0 = 0 → (V79 gv)) ∧ (¬ t0 = 0 → (∃ r7 : Int32, P_X5_arePieces a4 r7 ∧ ((r7 = 0 → (V79 gv)) ∧ (¬ r7 = 0 → (∃ r8 : Int32, P_X5_arePieces a5 r8 ∧ ((r8 = 0 → (V79 gv)) ∧ (¬ r8 = 0 → (∃ r9 : Int32, P_X5_arePieces a6 r9 ∧ ((r9 = 0 → (V79 gv)) ∧ (¬ r9 = 0 → (∃ r10 : Int32, P_X5_arePieces a7 r10 ∧ ((r10 = 0 → (V79 gv)) ∧ (¬ r10 = 0 → (V80 gv (1 : Int32)))))))))))))))) → V36 gv t0) → (∀ gv : St, (V80 gv (0 : Int32)) → V79 gv) → (∀ gv : St, ∀ t0 : Int32, ((¬ t0 = 0 → ((¬ (gv 0 15) = (8 : Int32) → (V106 gv (0 : Int32))) ∧ ((gv 0 15) = (8 : Int32) → (V106 gv (2 : Int32))))) ∧ (t0 = 0 → (V106 gv (1 : Int32)))) → V80 gv t0) → (∀ gv : St, ∀ t0 : Int32, (∃ (r18 : Int32) (g19 : St), P_X5_isFine gv t0 r18 g19 ∧ ((¬ r18 = 0 → (vp_in (g19 0 15) 8 ∧ (∀ g20 : St, g20 = st_set g19 8 (g19 0 15).toNatClampNeg a1 → (vp_in (g20 0 15) 8 ∧ (∀ g21 : St, g21 = st_set g20 9 (g20 0 15).toNatClampNeg a2 → (vp_in (g21 0 15) 8 ∧ (∀ g22 : St, g22 = st_set g21 10 (g21 0 15).toNatClampNeg a3 → (vp_in ((4 : Int32) * (g22 0 15)) 32 ∧ (∀ g23 : St, g23 = st_set g22 11 ((4 : Int32) * (g22 0 15)).toNatClampNeg a4 → (vp_in (((4 : Int32) * (g23 0 15)) + (1 : Int32)) 32 ∧ (∀ g24 : St, g24 = st_set g23 11 (((4 : Int32) * (g23 0 15)) + (1 : Int32)).toNatClampNeg a5 → (vp_in (((4 : Int32) * (g24 0 15)) + (2 : Int32)) 32 ∧ (∀ g25 : St, g25 = st_set g24 11 (((4 : Int32) * (g24 0 15)) + (2 : Int32)).toNatClampNeg a6 → (vp_in (((4 : Int32) * (g25 0 15)) + (3 : Int32)) 32 ∧ (∀ g26 : St, g26 = st_set g25 11 (((4 : Int32) * (g25 0 15)) + (3 : Int32)).toNatClampNeg a7 → (∀ g27 : St, g27 = st_set g26 0 15 ((g26 0 15) + (1 : Int32)) → (r = ((g27 0 15) - (1 : Int32)) ∧ g' = g27))))))))))))))))) ∧ (r18 = 0 → (r = (0 : Int32) ∧ g' = g19)))) → V106 gv t0) → (∃ r1 : Int32, P_X5_isIn a1 (1 : Int32) (12 : Int32) r1 ∧ ((r1 = 0 → (V35 g)) ∧ (¬ r1 = 0 → (∃ r2 : Int32, P_X5_isIn a2 a1 (12 : Int32) r2 ∧ ((r2 = 0 → (V35 g)) ∧ (¬ r2 = 0 → (∃ r3 : Int32, P_X5_isIn a3 (5 : Int32) (300 : Int32) r3 ∧ ((r3 = 0 → (V35 g)) ∧ (¬ r3 = 0 → (V36 g (1 : Int32)))))))))))
set_option maxRecDepth 100000 in
set_option maxHeartbeats 4000000 in
theorem c_X5_addTitle (l : Launch) (dC : Nat → ClassId) (dI : Nat → Nat → Nat) (cI : ClassId) (q : Nat → Nat) (g : St) (a1 : Int32) (a2 : Int32) (a3 : Int32) (a4 : Int32) (a5 : Int32) (a6 : Int32) (a7 : Int32) (r : Int32) (g' : St) (hp : P_X5_addTitle g a1 a2 a3 a4 a5 a6 a7 r g') (sz : Nat) : Met l yX5_addTitle wsX5_addTitle { frames := 2, cells := 0, slots := 0, locals := 42 } (va_Pc [.ref (q 0), .int a1, .int a2, .int a3, .int a4, .int a5, .int a6, .int a7] (wpS (dC, dI) vwCl [(cI, .int)] (wX5 q cI g) sz)) (va_Qi (fun (r' : Int32) (_ : Unit) => r' = r) (fun _ t => wqB (dC, dI) vwCl (wX5 q cI g') (va_A (wX5 q cI g) sz) t) (va_A (wX5 q cI g) sz)) 0 0 (va_A (wX5 q cI g) sz) := by
  refine wr_met (fun A => (va_Qi (fun (r' : Int32) (_ : Unit) => r' = r) (fun _ t => wqB (dC, dI) vwCl (wX5 q cI g') A t) A)) (cc := cX5_addTitle) (maxL := 9) (ret := (some .int)) (by decide) rfl (Nat.le_of_ble_eq_true rfl) ?_
  intro p e s m below meth c A hx hb hml hr hlk hts hown hnm hP hK hN hD hA ls hl
  have hS : va_S A s.heap s.heap [] := va_S.rf
  have hl : lv_has ls 9 [(0, .ref (q 0)), (1, .int a1), (2, .int a2), (3, .int a3), (4, .int a4), (5, .int a5), (6, .int a6), (7, .int a7)] := hl
  obtain ⟨V35, eV35⟩ : ∃ V : St → Prop, V = (fun gv => ∀ (H : Heap) (locs : List Loc) (ls : Array Slot), va_P (dC, dI) vwCl (wX5 q cI gv) H → va_D A (wX5 q cI gv) → va_S A s.heap H locs → lv_has ls 9 [(0, .ref (q 0)), (1, .int a1), (2, .int a2), (3, .int a3), (4, .int a4), (5, .int a5), (6, .int a6), (7, .int a7)] → W p l e { frames := 2, cells := 0, slots := 0, locals := 42 } s m ([.ref (q 0), .int a1, .int a2, .int a3, .int a4, .int a5, .int a6, .int a7] : List Value).toArray below meth c H locs 0 0 (MQ below (va_Qi (fun (r' : Int32) (_ : Unit) => r' = r) (fun _ t => wqB (dC, dI) vwCl (wX5 q cI g') A t) A) ([.ref (q 0), .int a1, .int a2, .int a3, .int a4, .int a5, .int a6, .int a7] : List Value).toArray s 0 0 A) (F0 m 35 ls [])) := ⟨_, rfl⟩
  obtain ⟨V36, eV36⟩ : ∃ V : St → Int32 → Prop, V = (fun gv t0 => ∀ (H : Heap) (locs : List Loc) (ls : Array Slot), va_P (dC, dI) vwCl (wX5 q cI gv) H → va_D A (wX5 q cI gv) → va_S A s.heap H locs → lv_has ls 9 [(0, .ref (q 0)), (1, .int a1), (2, .int a2), (3, .int a3), (4, .int a4), (5, .int a5), (6, .int a6), (7, .int a7)] → W p l e { frames := 2, cells := 0, slots := 0, locals := 42 } s m ([.ref (q 0), .int a1, .int a2, .int a3, .int a4, .int a5, .int a6, .int a7] : List Value).toArray below meth c H locs 0 0 (MQ below (va_Qi (fun (r' : Int32) (_ : Unit) => r' = r) (fun _ t => wqB (dC, dI) vwCl (wX5 q cI g') A t) A) ([.ref (q 0), .int a1, .int a2, .int a3, .int a4, .int a5, .int a6, .int a7] : List Value).toArray s 0 0 A) (F0 m 36 ls [.int t0])) := ⟨_, rfl⟩
  obtain ⟨V79, eV79⟩ : ∃ V : St → Prop, V = (fun gv => ∀ (H : Heap) (locs : List Loc) (ls : Array Slot), va_P (dC, dI) vwCl (wX5 q cI gv) H → va_D A (wX5 q cI gv) → va_S A s.heap H locs → lv_has ls 9 [(0, .ref (q 0)), (1, .int a1), (2, .int a2), (3, .int a3), (4, .int a4), (5, .int a5), (6, .int a6), (7, .int a7)] → W p l e { frames := 2, cells := 0, slots := 0, locals := 42 } s m ([.ref (q 0), .int a1, .int a2, .int a3, .int a4, .int a5, .int a6, .int a7] : List Value).toArray below meth c H locs 0 0 (MQ below (va_Qi (fun (r' : Int32) (_ : Unit) => r' = r) (fun _ t => wqB (dC, dI) vwCl (wX5 q cI g') A t) A) ([.ref (q 0), .int a1, .int a2, .int a3, .int a4, .int a5, .int a6, .int a7] : List Value).toArray s 0 0 A) (F0 m 79 ls [])) := ⟨_, rfl⟩
  obtain ⟨V80, eV80⟩ : ∃ V : St → Int32 → Prop, V = (fun gv t0 => ∀ (H : Heap) (locs : List Loc) (ls : Array Slot), va_P (dC, dI) vwCl (wX5 q cI gv) H → va_D A (wX5 q cI gv) → va_S A s.heap H locs → lv_has ls 9 [(0, .ref (q 0)), (1, .int a1), (2, .int a2), (3, .int a3), (4, .int a4), (5, .int a5), (6, .int a6), (7, .int a7)] → W p l e { frames := 2, cells := 0, slots := 0, locals := 42 } s m ([.ref (q 0), .int a1, .int a2, .int a3, .int a4, .int a5, .int a6, .int a7] : List Value).toArray below meth c H locs 0 0 (MQ below (va_Qi (fun (r' : Int32) (_ : Unit) => r' = r) (fun _ t => wqB (dC, dI) vwCl (wX5 q cI g') A t) A) ([.ref (q 0), .int a1, .int a2, .int a3, .int a4, .int a5, .int a6, .int a7] : List Value).toArray s 0 0 A) (F0 m 80 ls [.int t0])) := ⟨_, rfl⟩
  obtain ⟨V106, eV106⟩ : ∃ V : St → Int32 → Prop, V = (fun gv t0 => ∀ (H : Heap) (locs : List Loc) (ls : Array Slot), va_P (dC, dI) vwCl (wX5 q cI gv) H → va_D A (wX5 q cI gv) → va_S A s.heap H locs → lv_has ls 9 [(0, .ref (q 0)), (1, .int a1), (2, .int a2), (3, .int a3), (4, .int a4), (5, .int a5), (6, .int a6), (7, .int a7)] → W p l e { frames := 2, cells := 0, slots := 0, locals := 42 } s m ([.ref (q 0), .int a1, .int a2, .int a3, .int a4, .int a5, .int a6, .int a7] : List Value).toArray below meth c H locs 0 0 (MQ below (va_Qi (fun (r' : Int32) (_ : Unit) => r' = r) (fun _ t => wqB (dC, dI) vwCl (wX5 q cI g') A t) A) ([.ref (q 0), .int a1, .int a2, .int a3, .int a4, .int a5, .int a6, .int a7] : List Value).toArray s 0 0 A) (F0 m 106 ls [.int t0, .ref (q 0)])) := ⟨_, rfl⟩
  have hp := hp V35 V36 V79 V80 V106
  have hp := hp (by
    intro gv hp
    rw [eV35]
    intro H locs ls hP hD hS hl
    refine lv_iconst (v := 0) hx hb dX5_addTitle_35 (by decide) ?_
    rw [eV36] at hp
    exact hp _ _ _ hP hD hS (lv_sub hl [0, 1, 2, 3, 4, 5, 6, 7] rfl))
  have hp := hp (by
    intro gv t0 hp
    rw [eV36]
    intro H locs ls hP hD hS hl
    refine lv_istore (lv' := [(8, .int t0), (0, .ref (q 0)), (1, .int a1), (2, .int a2), (3, .int a3), (4, .int a4), (5, .int a5), (6, .int a6), (7, .int a7)]) hx hb dX5_addTitle_36 hl (by decide) rfl (fun ls hl => ?_)
    refine lv_iload hx hb dX5_addTitle_38 (lv_at hl 0 rfl) ?_
    refine lv_if_eq (tgt := 79) hx hb dX5_addTitle_40 (by decide) (fun c15 => ?_) (fun c15 => ?_)
    · have hp := hp.1 c15
      rw [eV79] at hp
      exact hp _ _ _ hP hD hS (lv_sub hl [1, 2, 3, 4, 5, 6, 7, 8] rfl)
    · have hp := hp.2 c15
      refine lv_iload hx hb dX5_addTitle_43 (lv_at hl 5 rfl) ?_
      obtain ⟨r7, hr7, hp⟩ := hp
      refine ro_S (As := [.int a4]) (rest := []) ⟨hx, hb, hml, hown, hts⟩ (c_X5_arePieces l dC dI cI a4 r7 hr7) (va_cwS 1 hts gX5_addTitle_X5_arePieces rfl rfl rfl (by decide +kernel) ⟨Nat.le_of_ble_eq_true rfl, Nat.le_of_ble_eq_true rfl⟩) (hP.sub [] rfl) hK hN rfl rfl hl.1 (Nat.le_of_ble_eq_true rfl) ⟨Nat.zero_le _, Nat.zero_le _⟩ dX5_addTitle_45 ?_
      refine lv_if_eq (tgt := 79) hx hb dX5_addTitle_48 (by decide) (fun c14 => ?_) (fun c14 => ?_)
      · have hp := hp.1 c14
        rw [eV79] at hp
        exact hp _ _ _ hP hD hS (lv_sub hl [1, 2, 3, 4, 5, 6, 7, 8] rfl)
      · have hp := hp.2 c14
        refine lv_iload hx hb dX5_addTitle_51 (lv_at hl 6 rfl) ?_
        obtain ⟨r8, hr8, hp⟩ := hp
        refine ro_S (As := [.int a5]) (rest := []) ⟨hx, hb, hml, hown, hts⟩ (c_X5_arePieces l dC dI cI a5 r8 hr8) (va_cwS 1 hts gX5_addTitle_X5_arePieces rfl rfl rfl (by decide +kernel) ⟨Nat.le_of_ble_eq_true rfl, Nat.le_of_ble_eq_true rfl⟩) (hP.sub [] rfl) hK hN rfl rfl hl.1 (Nat.le_of_ble_eq_true rfl) ⟨Nat.zero_le _, Nat.zero_le _⟩ dX5_addTitle_53 ?_
        refine lv_if_eq (tgt := 79) hx hb dX5_addTitle_56 (by decide) (fun c13 => ?_) (fun c13 => ?_)
        · have hp := hp.1 c13
          rw [eV79] at hp
          exact hp _ _ _ hP hD hS (lv_sub hl [1, 2, 3, 4, 5, 6, 7, 8] rfl)
        · have hp := hp.2 c13
          refine lv_iload hx hb dX5_addTitle_59 (lv_at hl 7 rfl) ?_
          obtain ⟨r9, hr9, hp⟩ := hp
          refine ro_S (As := [.int a6]) (rest := []) ⟨hx, hb, hml, hown, hts⟩ (c_X5_arePieces l dC dI cI a6 r9 hr9) (va_cwS 1 hts gX5_addTitle_X5_arePieces rfl rfl rfl (by decide +kernel) ⟨Nat.le_of_ble_eq_true rfl, Nat.le_of_ble_eq_true rfl⟩) (hP.sub [] rfl) hK hN rfl rfl hl.1 (Nat.le_of_ble_eq_true rfl) ⟨Nat.zero_le _, Nat.zero_le _⟩ dX5_addTitle_61 ?_
          refine lv_if_eq (tgt := 79) hx hb dX5_addTitle_64 (by decide) (fun c12 => ?_) (fun c12 => ?_)
          · have hp := hp.1 c12
            rw [eV79] at hp
            exact hp _ _ _ hP hD hS (lv_sub hl [1, 2, 3, 4, 5, 6, 7, 8] rfl)
          · have hp := hp.2 c12
            refine lv_iload hx hb dX5_addTitle_67 (lv_at hl 8 rfl) ?_
            obtain ⟨r10, hr10, hp⟩ := hp
            refine ro_S (As := [.int a7]) (rest := []) ⟨hx, hb, hml, hown, hts⟩ (c_X5_arePieces l dC dI cI a7 r10 hr10) (va_cwS 1 hts gX5_addTitle_X5_arePieces rfl rfl rfl (by decide +kernel) ⟨Nat.le_of_ble_eq_true rfl, Nat.le_of_ble_eq_true rfl⟩) (hP.sub [] rfl) hK hN rfl rfl hl.1 (Nat.le_of_ble_eq_true rfl) ⟨Nat.zero_le _, Nat.zero_le _⟩ dX5_addTitle_69 ?_
            refine lv_if_eq (tgt := 79) hx hb dX5_addTitle_72 (by decide) (fun c11 => ?_) (fun c11 => ?_)
            · have hp := hp.1 c11
              rw [eV79] at hp
              exact hp _ _ _ hP hD hS (lv_sub hl [1, 2, 3, 4, 5, 6, 7, 8] rfl)
            · have hp := hp.2 c11
              refine lv_iconst (v := 1) hx hb dX5_addTitle_75 (by decide) ?_
              refine lv_goto (tgt := 80) hx hb dX5_addTitle_76 (by decide) ?_
              rw [eV80] at hp
              exact hp _ _ _ hP hD hS (lv_sub hl [1, 2, 3, 4, 5, 6, 7, 8] rfl))
  have hp := hp (by
    intro gv hp
    rw [eV79]
    intro H locs ls hP hD hS hl
    refine lv_iconst (v := 0) hx hb dX5_addTitle_79 (by decide) ?_
    rw [eV80] at hp
    exact hp _ _ _ hP hD hS (lv_sub hl [0, 1, 2, 3, 4, 5, 6, 7] rfl))
  have hp := hp (by
    intro gv t0 hp
    rw [eV80]
    intro H locs ls hP hD hS hl
    refine lv_istore (lv' := [(8, .int t0), (0, .ref (q 0)), (1, .int a1), (2, .int a2), (3, .int a3), (4, .int a4), (5, .int a5), (6, .int a6), (7, .int a7)]) hx hb dX5_addTitle_80 hl (by decide) rfl (fun ls hl => ?_)
    refine lv_aload_n hx hb dX5_addTitle_82 rfl (lv_at hl 1 rfl) ?_
    refine lv_iload hx hb dX5_addTitle_83 (lv_at hl 0 rfl) ?_
    refine lv_if_ne (tgt := 92) hx hb dX5_addTitle_85 (by decide) (fun c17 => ?_) (fun c17 => ?_)
    · have hp := hp.1 c17
      refine lv_aload_n hx hb dX5_addTitle_92 rfl (lv_at hl 1 rfl) ?_
      refine va_get (D := (dC, dI)) (ci := 5) (v := .int (gv 0 15)) (C := RX5) (T := TX5) (N := 33) hx hb hts iX5_addTitle_X5 hown hK hP 0 rfl rfl 15 (by decide) (hts _ kX5_addTitle_0) (fun _ h9 => h9) rfl dX5_addTitle_93 ?_
      refine lv_bipush (v := 8) hx hb dX5_addTitle_96 (by decide) ?_
      refine lv_icmp_ne (tgt := 105) hx hb dX5_addTitle_98 (by decide) (fun c16 => ?_) (fun c16 => ?_)
      · have hp := hp.1 c16
        refine lv_iconst (v := 0) hx hb dX5_addTitle_105 (by decide) ?_
        rw [eV106] at hp
        exact hp _ _ _ hP hD hS (lv_sub hl [1, 2, 3, 4, 5, 6, 7, 8] rfl)
      · have hp := hp.2 c16
        refine lv_iconst (v := 2) hx hb dX5_addTitle_101 (by decide) ?_
        refine lv_goto (tgt := 106) hx hb dX5_addTitle_102 (by decide) ?_
        rw [eV106] at hp
        exact hp _ _ _ hP hD hS (lv_sub hl [1, 2, 3, 4, 5, 6, 7, 8] rfl)
    · have hp := hp.2 c17
      refine lv_iconst (v := 1) hx hb dX5_addTitle_88 (by decide) ?_
      refine lv_goto (tgt := 106) hx hb dX5_addTitle_89 (by decide) ?_
      rw [eV106] at hp
      exact hp _ _ _ hP hD hS (lv_sub hl [1, 2, 3, 4, 5, 6, 7, 8] rfl))
  have hp := hp (by
    intro gv t0 hp
    rw [eV106]
    intro H locs ls hP hD hS hl
    obtain ⟨r18, g19, hg19, hp⟩ := hp
    refine wr_Vi (As := [.int t0]) (rest := []) (w1 := []) (w2 := []) (ws1 := wX5 q cI g19) ⟨hx, hb, hml, hown, hts⟩ (c_X5_isFine l dC dI cI q gv t0 r18 g19 hg19 _) (cwV 1 hts gX5_addTitle_X5_isFine rfl rfl rfl (by decide +kernel) ⟨Nat.le_of_ble_eq_true rfl, Nat.le_of_ble_eq_true rfl⟩) hP hD hS hA hK hN (List.append_nil _).symm (List.append_nil _) rfl rfl rfl rfl hl.1 (Nat.le_of_ble_eq_true rfl) ⟨Nat.zero_le _, Nat.zero_le _⟩ dX5_addTitle_106 (fun H locs hP hD hS => ?_)
    refine lv_if_ne (tgt := 114) hx hb dX5_addTitle_109 (by decide) (fun c28 => ?_) (fun c28 => ?_)
    · have hp := hp.1 c28
      refine lv_aload_n hx hb dX5_addTitle_114 rfl (lv_at hl 0 rfl) ?_
      refine va_get (D := (dC, dI)) (ci := 5) (v := .ref (q 8)) (C := RX5) (T := TX5) (N := 33) hx hb hts iX5_addTitle_X5 hown hK hP 0 rfl rfl 11 (by decide) (hts _ kX5_addTitle_2) (fun _ h9 => h9) rfl dX5_addTitle_115 ?_
      refine lv_aload_n hx hb dX5_addTitle_118 rfl (lv_at hl 0 rfl) ?_
      refine va_get (D := (dC, dI)) (ci := 5) (v := .int (g19 0 15)) (C := RX5) (T := TX5) (N := 33) hx hb hts iX5_addTitle_X5 hown hK hP 0 rfl rfl 15 (by decide) (hts _ kX5_addTitle_0) (fun _ h9 => h9) rfl dX5_addTitle_119 ?_
      refine lv_iload_n hx hb dX5_addTitle_122 rfl (lv_at hl 1 rfl) ?_
      refine va_iast hx hb hK hP hD hS 8 0 rfl rfl hp.1 dX5_addTitle_123 (fun H locs hP hD hS => ?_)
      have hp := hp.2
      obtain ⟨g20, eg20⟩ : ∃ z : St, z = st_set g19 8 (g19 0 15).toNatClampNeg a1 := ⟨_, rfl⟩
      have hp := hp g20 eg20
      have hP : va_P (dC, dI) vwCl (wX5 q cI g20) H := by rw [eg20]; exact hP
      have hD : va_D A (wX5 q cI g20) := by rw [eg20]; exact hD
      refine lv_aload_n hx hb dX5_addTitle_124 rfl (lv_at hl 0 rfl) ?_
      refine va_get (D := (dC, dI)) (ci := 5) (v := .ref (q 9)) (C := RX5) (T := TX5) (N := 33) hx hb hts iX5_addTitle_X5 hown hK hP 0 rfl rfl 12 (by decide) (hts _ kX5_addTitle_3) (fun _ h9 => h9) rfl dX5_addTitle_125 ?_
      refine lv_aload_n hx hb dX5_addTitle_128 rfl (lv_at hl 0 rfl) ?_
      refine va_get (D := (dC, dI)) (ci := 5) (v := .int (g20 0 15)) (C := RX5) (T := TX5) (N := 33) hx hb hts iX5_addTitle_X5 hown hK hP 0 rfl rfl 15 (by decide) (hts _ kX5_addTitle_0) (fun _ h9 => h9) rfl dX5_addTitle_129 ?_
      refine lv_iload_n hx hb dX5_addTitle_132 rfl (lv_at hl 2 rfl) ?_
      refine va_iast hx hb hK hP hD hS 9 0 rfl rfl hp.1 dX5_addTitle_133 (fun H locs hP hD hS => ?_)
      have hp := hp.2
      obtain ⟨g21, eg21⟩ : ∃ z : St, z = st_set g20 9 (g20 0 15).toNatClampNeg a2 := ⟨_, rfl⟩
      have hp := hp g21 eg21
      have hP : va_P (dC, dI) vwCl (wX5 q cI g21) H := by rw [eg21]; exact hP
      have hD : va_D A (wX5 q cI g21) := by rw [eg21]; exact hD
      refine lv_aload_n hx hb dX5_addTitle_134 rfl (lv_at hl 0 rfl) ?_
      refine va_get (D := (dC, dI)) (ci := 5) (v := .ref (q 10)) (C := RX5) (T := TX5) (N := 33) hx hb hts iX5_addTitle_X5 hown hK hP 0 rfl rfl 13 (by decide) (hts _ kX5_addTitle_4) (fun _ h9 => h9) rfl dX5_addTitle_135 ?_
      refine lv_aload_n hx hb dX5_addTitle_138 rfl (lv_at hl 0 rfl) ?_
      refine va_get (D := (dC, dI)) (ci := 5) (v := .int (g21 0 15)) (C := RX5) (T := TX5) (N := 33) hx hb hts iX5_addTitle_X5 hown hK hP 0 rfl rfl 15 (by decide) (hts _ kX5_addTitle_0) (fun _ h9 => h9) rfl dX5_addTitle_139 ?_
      refine lv_iload_n hx hb dX5_addTitle_142 rfl (lv_at hl 3 rfl) ?_
      refine va_iast hx hb hK hP hD hS 10 0 rfl rfl hp.1 dX5_addTitle_143 (fun H locs hP hD hS => ?_)
      have hp := hp.2
      obtain ⟨g22, eg22⟩ : ∃ z : St, z = st_set g21 10 (g21 0 15).toNatClampNeg a3 := ⟨_, rfl⟩
      have hp := hp g22 eg22
      have hP : va_P (dC, dI) vwCl (wX5 q cI g22) H := by rw [eg22]; exact hP
      have hD : va_D A (wX5 q cI g22) := by rw [eg22]; exact hD
      refine lv_aload_n hx hb dX5_addTitle_144 rfl (lv_at hl 0 rfl) ?_
      refine va_get (D := (dC, dI)) (ci := 5) (v := .ref (q 11)) (C := RX5) (T := TX5) (N := 33) hx hb hts iX5_addTitle_X5 hown hK hP 0 rfl rfl 14 (by decide) (hts _ kX5_addTitle_5) (fun _ h9 => h9) rfl dX5_addTitle_145 ?_
      refine lv_iconst (v := 4) hx hb dX5_addTitle_148 (by decide) ?_
      refine lv_aload_n hx hb dX5_addTitle_149 rfl (lv_at hl 0 rfl) ?_
      refine va_get (D := (dC, dI)) (ci := 5) (v := .int (g22 0 15)) (C := RX5) (T := TX5) (N := 33) hx hb hts iX5_addTitle_X5 hown hK hP 0 rfl rfl 15 (by decide) (hts _ kX5_addTitle_0) (fun _ h9 => h9) rfl dX5_addTitle_150 ?_
      refine lv_imul hx hb dX5_addTitle_153 ?_
      refine lv_iload hx hb dX5_addTitle_154 (lv_at hl 4 rfl) ?_
      refine va_iast hx hb hK hP hD hS 11 0 rfl rfl hp.1 dX5_addTitle_156 (fun H locs hP hD hS => ?_)
      have hp := hp.2
      obtain ⟨g23, eg23⟩ : ∃ z : St, z = st_set g22 11 ((4 : Int32) * (g22 0 15)).toNatClampNeg a4 := ⟨_, rfl⟩
      have hp := hp g23 eg23
      have hP : va_P (dC, dI) vwCl (wX5 q cI g23) H := by rw [eg23]; exact hP
      have hD : va_D A (wX5 q cI g23) := by rw [eg23]; exact hD
      refine lv_aload_n hx hb dX5_addTitle_157 rfl (lv_at hl 0 rfl) ?_
      refine va_get (D := (dC, dI)) (ci := 5) (v := .ref (q 11)) (C := RX5) (T := TX5) (N := 33) hx hb hts iX5_addTitle_X5 hown hK hP 0 rfl rfl 14 (by decide) (hts _ kX5_addTitle_5) (fun _ h9 => h9) rfl dX5_addTitle_158 ?_
      refine lv_iconst (v := 4) hx hb dX5_addTitle_161 (by decide) ?_
      refine lv_aload_n hx hb dX5_addTitle_162 rfl (lv_at hl 0 rfl) ?_
      refine va_get (D := (dC, dI)) (ci := 5) (v := .int (g23 0 15)) (C := RX5) (T := TX5) (N := 33) hx hb hts iX5_addTitle_X5 hown hK hP 0 rfl rfl 15 (by decide) (hts _ kX5_addTitle_0) (fun _ h9 => h9) rfl dX5_addTitle_163 ?_
      refine lv_imul hx hb dX5_addTitle_166 ?_
      refine lv_iconst (v := 1) hx hb dX5_addTitle_167 (by decide) ?_
      refine lv_iadd hx hb dX5_addTitle_168 ?_
      refine lv_iload hx hb dX5_addTitle_169 (lv_at hl 5 rfl) ?_
      refine va_iast hx hb hK hP hD hS 11 0 rfl rfl hp.1 dX5_addTitle_171 (fun H locs hP hD hS => ?_)
      have hp := hp.2
      obtain ⟨g24, eg24⟩ : ∃ z : St, z = st_set g23 11 (((4 : Int32) * (g23 0 15)) + (1 : Int32)).toNatClampNeg a5 := ⟨_, rfl⟩
      have hp := hp g24 eg24
      have hP : va_P (dC, dI) vwCl (wX5 q cI g24) H := by rw [eg24]; exact hP
      have hD : va_D A (wX5 q cI g24) := by rw [eg24]; exact hD
      refine lv_aload_n hx hb dX5_addTitle_172 rfl (lv_at hl 0 rfl) ?_
      refine va_get (D := (dC, dI)) (ci := 5) (v := .ref (q 11)) (C := RX5) (T := TX5) (N := 33) hx hb hts iX5_addTitle_X5 hown hK hP 0 rfl rfl 14 (by decide) (hts _ kX5_addTitle_5) (fun _ h9 => h9) rfl dX5_addTitle_173 ?_
      refine lv_iconst (v := 4) hx hb dX5_addTitle_176 (by decide) ?_
      refine lv_aload_n hx hb dX5_addTitle_177 rfl (lv_at hl 0 rfl) ?_
      refine va_get (D := (dC, dI)) (ci := 5) (v := .int (g24 0 15)) (C := RX5) (T := TX5) (N := 33) hx hb hts iX5_addTitle_X5 hown hK hP 0 rfl rfl 15 (by decide) (hts _ kX5_addTitle_0) (fun _ h9 => h9) rfl dX5_addTitle_178 ?_
      refine lv_imul hx hb dX5_addTitle_181 ?_
      refine lv_iconst (v := 2) hx hb dX5_addTitle_182 (by decide) ?_
      refine lv_iadd hx hb dX5_addTitle_183 ?_
      refine lv_iload hx hb dX5_addTitle_184 (lv_at hl 6 rfl) ?_
      refine va_iast hx hb hK hP hD hS 11 0 rfl rfl hp.1 dX5_addTitle_186 (fun H locs hP hD hS => ?_)
      have hp := hp.2
      obtain ⟨g25, eg25⟩ : ∃ z : St, z = st_set g24 11 (((4 : Int32) * (g24 0 15)) + (2 : Int32)).toNatClampNeg a6 := ⟨_, rfl⟩
      have hp := hp g25 eg25
      have hP : va_P (dC, dI) vwCl (wX5 q cI g25) H := by rw [eg25]; exact hP
      have hD : va_D A (wX5 q cI g25) := by rw [eg25]; exact hD
      refine lv_aload_n hx hb dX5_addTitle_187 rfl (lv_at hl 0 rfl) ?_
      refine va_get (D := (dC, dI)) (ci := 5) (v := .ref (q 11)) (C := RX5) (T := TX5) (N := 33) hx hb hts iX5_addTitle_X5 hown hK hP 0 rfl rfl 14 (by decide) (hts _ kX5_addTitle_5) (fun _ h9 => h9) rfl dX5_addTitle_188 ?_
      refine lv_iconst (v := 4) hx hb dX5_addTitle_191 (by decide) ?_
      refine lv_aload_n hx hb dX5_addTitle_192 rfl (lv_at hl 0 rfl) ?_
      refine va_get (D := (dC, dI)) (ci := 5) (v := .int (g25 0 15)) (C := RX5) (T := TX5) (N := 33) hx hb hts iX5_addTitle_X5 hown hK hP 0 rfl rfl 15 (by decide) (hts _ kX5_addTitle_0) (fun _ h9 => h9) rfl dX5_addTitle_193 ?_
      refine lv_imul hx hb dX5_addTitle_196 ?_
      refine lv_iconst (v := 3) hx hb dX5_addTitle_197 (by decide) ?_
      refine lv_iadd hx hb dX5_addTitle_198 ?_
      refine lv_iload hx hb dX5_addTitle_199 (lv_at hl 7 rfl) ?_
      refine va_iast hx hb hK hP hD hS 11 0 rfl rfl hp.1 dX5_addTitle_201 (fun H locs hP hD hS => ?_)
      have hp := hp.2
      obtain ⟨g26, eg26⟩ : ∃ z : St, z = st_set g25 11 (((4 : Int32) * (g25 0 15)) + (3 : Int32)).toNatClampNeg a7 := ⟨_, rfl⟩
      have hp := hp g26 eg26
      have hP : va_P (dC, dI) vwCl (wX5 q cI g26) H := by rw [eg26]; exact hP
      have hD : va_D A (wX5 q cI g26) := by rw [eg26]; exact hD
      refine lv_aload_n hx hb dX5_addTitle_202 rfl (lv_at hl 0 rfl) ?_
      refine lv_dup hx hb dX5_addTitle_203 rfl ?_
      refine va_get (D := (dC, dI)) (ci := 5) (v := .int (g26 0 15)) (C := RX5) (T := TX5) (N := 33) hx hb hts iX5_addTitle_X5 hown hK hP 0 rfl rfl 15 (by decide) (hts _ kX5_addTitle_0) (fun _ h9 => h9) rfl dX5_addTitle_204 ?_
      refine lv_iconst (v := 1) hx hb dX5_addTitle_207 (by decide) ?_
      refine lv_iadd hx hb dX5_addTitle_208 ?_
      refine va_put (D := (dC, dI)) (ci := 5) (v := .int ((g26 0 15) + (1 : Int32))) (ty := .int) (C := RX5) (T := TX5) (N := 33) hx hb hts iX5_addTitle_X5 tyX5 tyX5_ok nmX5 hown hK hP hD hS 0 rfl rfl 15 (by decide) (hts _ kX5_addTitle_0) (fun _ h9 => h9) rfl (by decide +kernel) rfl rfl (Nat.le_of_ble_eq_true rfl) dX5_addTitle_209 (fun H locs hP hD hS => ?_)
      obtain ⟨g27, eg27⟩ : ∃ z : St, z = st_set g26 0 15 ((g26 0 15) + (1 : Int32)) := ⟨_, rfl⟩
      have hp := hp g27 eg27
      have hP : va_P (dC, dI) vwCl (wX5 q cI g27) H := by rw [eg27]; exact hP
      have hD : va_D A (wX5 q cI g27) := by rw [eg27]; exact hD
      refine lv_aload_n hx hb dX5_addTitle_212 rfl (lv_at hl 0 rfl) ?_
      refine va_get (D := (dC, dI)) (ci := 5) (v := .int (g27 0 15)) (C := RX5) (T := TX5) (N := 33) hx hb hts iX5_addTitle_X5 hown hK hP 0 rfl rfl 15 (by decide) (hts _ kX5_addTitle_0) (fun _ h9 => h9) rfl dX5_addTitle_213 ?_
      refine lv_iconst (v := 1) hx hb dX5_addTitle_216 (by decide) ?_
      refine lv_isub hx hb dX5_addTitle_217 ?_
      exact W.iret hx hb hr (fun t ht _ => ⟨⟨_, (), rfl, hp.1.symm, by rw [ht, hp.2]; exact hP, by rw [hp.2]; exact hD⟩, hS.F ht⟩) hS.2.2 dX5_addTitle_218
    · have hp := hp.2 c28
      refine lv_iconst (v := 0) hx hb dX5_addTitle_112 (by decide) ?_
      exact W.iret hx hb hr (fun t ht _ => ⟨⟨_, (), rfl, hp.1.symm, by rw [ht, hp.2]; exact hP, by rw [hp.2]; exact hD⟩, hS.F ht⟩) hS.2.2 dX5_addTitle_113)
  refine lv_iload_n hx hb dX5_addTitle_0 rfl (lv_at hl 1 rfl) ?_
  refine lv_iconst (v := 1) hx hb dX5_addTitle_1 (by decide) ?_
  refine lv_bipush (v := 12) hx hb dX5_addTitle_2 (by decide) ?_
  obtain ⟨r1, hr1, hp⟩ := hp
  refine ro_S (As := [.int a1, .int (1 : Int32), .int (12 : Int32)]) (rest := []) ⟨hx, hb, hml, hown, hts⟩ (c_X5_isIn l dC dI cI a1 (1 : Int32) (12 : Int32) r1 hr1) (va_cwS 3 hts gX5_addTitle_X5_isIn rfl rfl rfl (by decide +kernel) ⟨Nat.le_of_ble_eq_true rfl, Nat.le_of_ble_eq_true rfl⟩) (hP.sub [] rfl) hK hN rfl rfl hl.1 (Nat.le_of_ble_eq_true rfl) ⟨Nat.zero_le _, Nat.zero_le _⟩ dX5_addTitle_4 ?_
  refine lv_if_eq (tgt := 35) hx hb dX5_addTitle_7 (by decide) (fun c6 => ?_) (fun c6 => ?_)
  · have hp := hp.1 c6
    rw [eV35] at hp
    exact hp _ _ _ hP hD hS (lv_sub hl [0, 1, 2, 3, 4, 5, 6, 7] rfl)
  · have hp := hp.2 c6
    refine lv_iload_n hx hb dX5_addTitle_10 rfl (lv_at hl 2 rfl) ?_
    refine lv_iload_n hx hb dX5_addTitle_11 rfl (lv_at hl 1 rfl) ?_
    refine lv_bipush (v := 12) hx hb dX5_addTitle_12 (by decide) ?_
    obtain ⟨r2, hr2, hp⟩ := hp
    refine ro_S (As := [.int a2, .int a1, .int (12 : Int32)]) (rest := []) ⟨hx, hb, hml, hown, hts⟩ (c_X5_isIn l dC dI cI a2 a1 (12 : Int32) r2 hr2) (va_cwS 3 hts gX5_addTitle_X5_isIn rfl rfl rfl (by decide +kernel) ⟨Nat.le_of_ble_eq_true rfl, Nat.le_of_ble_eq_true rfl⟩) (hP.sub [] rfl) hK hN rfl rfl hl.1 (Nat.le_of_ble_eq_true rfl) ⟨Nat.zero_le _, Nat.zero_le _⟩ dX5_addTitle_14 ?_
    refine lv_if_eq (tgt := 35) hx hb dX5_addTitle_17 (by decide) (fun c5 => ?_) (fun c5 => ?_)
    · have hp := hp.1 c5
      rw [eV35] at hp
      exact hp _ _ _ hP hD hS (lv_sub hl [0, 1, 2, 3, 4, 5, 6, 7] rfl)
    · have hp := hp.2 c5
      refine lv_iload_n hx hb dX5_addTitle_20 rfl (lv_at hl 3 rfl) ?_
      refine lv_iconst (v := 5) hx hb dX5_addTitle_21 (by decide) ?_
      refine lv_sipush (v := 300) hx hb dX5_addTitle_22 (by decide) ?_
      obtain ⟨r3, hr3, hp⟩ := hp
      refine ro_S (As := [.int a3, .int (5 : Int32), .int (300 : Int32)]) (rest := []) ⟨hx, hb, hml, hown, hts⟩ (c_X5_isIn l dC dI cI a3 (5 : Int32) (300 : Int32) r3 hr3) (va_cwS 3 hts gX5_addTitle_X5_isIn rfl rfl rfl (by decide +kernel) ⟨Nat.le_of_ble_eq_true rfl, Nat.le_of_ble_eq_true rfl⟩) (hP.sub [] rfl) hK hN rfl rfl hl.1 (Nat.le_of_ble_eq_true rfl) ⟨Nat.zero_le _, Nat.zero_le _⟩ dX5_addTitle_25 ?_
      refine lv_if_eq (tgt := 35) hx hb dX5_addTitle_28 (by decide) (fun c4 => ?_) (fun c4 => ?_)
      · have hp := hp.1 c4
        rw [eV35] at hp
        exact hp _ _ _ hP hD hS (lv_sub hl [0, 1, 2, 3, 4, 5, 6, 7] rfl)
      · have hp := hp.2 c4
        refine lv_iconst (v := 1) hx hb dX5_addTitle_31 (by decide) ?_
        refine lv_goto (tgt := 36) hx hb dX5_addTitle_32 (by decide) ?_
        rw [eV36] at hp
        exact hp _ _ _ hP hD hS (lv_sub hl [0, 1, 2, 3, 4, 5, 6, 7] rfl)
theorem kX5_addCopy_0 : (.fieldLink RX5 90 "MeeplehouseModel" "copies" "I" : Cond) ∈ wsX5_addCopy := by decide +kernel
theorem iX5_addCopy_X5 : ∀ w ∈ wsX50, w ∈ wsX5_addCopy := by decide +kernel
theorem kX5_addCopy_2 : (.fieldLink RX5 43 "MeeplehouseModel" "title" "[I" : Cond) ∈ wsX5_addCopy := by decide +kernel
theorem kX5_addCopy_3 : (.fieldLink RX5 46 "MeeplehouseModel" "where" "[I" : Cond) ∈ wsX5_addCopy := by decide +kernel
theorem kX5_addCopy_4 : (.fieldLink RX5 49 "MeeplehouseModel" "pieces" "[I" : Cond) ∈ wsX5_addCopy := by decide +kernel
theorem kX5_addCopy_5 : (.fieldLink RX5 40 "MeeplehouseModel" "whole" "[I" : Cond) ∈ wsX5_addCopy := by decide +kernel
def P_X5_addCopy (g : St) (a1 : Int32) (r : Int32) (g' : St) : Prop := ∀ V27 : St → Int32 → Prop, ∀ V57 : St → Int32 → Prop, (∀ gv : St, ∀ t0 : Int32, (∃ (r4 : Int32) (g5 : St), P_X5_isFine gv t0 r4 g5 ∧ ((¬ r4 = 0 → (vp_in (g5 0 19) 16 ∧ (∀ g6 : St, g6 = st_set g5 12 (g5 0 19).toNatClampNeg a1 → (vp_in (g6 0 19) 16 ∧ (∀ g7 : St, g7 = st_set g6 13 (g6 0 19).toNatClampNeg (0 : Int32) → (V57 g7 (0 : Int32))))))) ∧ (r4 = 0 → (r = (0 : Int32) ∧ g' = g5)))) → V27 gv t0) → (∀ gv : St, ∀ x2 : Int32, (((4 : Int32) ≤ x2 → (∀ g9 : St, g9 = st_set gv 0 19 ((gv 0 19) + (1 : Int32)) → (r = ((g9 0 19) - (1 : Int32)) ∧ g' = g9))) ∧ (¬ (4 : Int32) ≤ x2 → (vp_in (((4 : Int32) * a1) + x2) 32 ∧ (vp_in (((4 : Int32) * (gv 0 19)) + x2) 64 ∧ (∀ g10 : St, g10 = st_set gv 14 (((4 : Int32) * (gv 0 19)) + x2).toNatClampNeg (gv 11 (((4 : Int32) * a1) + x2).toNatClampNeg) → (V57 g10 (x2 + (1 : Int32)))))))) → V57 gv x2) → (∃ r1 : Int32, P_X5_isTitle g a1 r1 ∧ ((¬ r1 = 0 → ((¬ (g 0 19) = (16 : Int32) → (V27 g (0 : Int32))) ∧ ((g 0 19) = (16 : Int32) → (V27 g (2 : Int32))))) ∧ (r1 = 0 → (V27 g (1 : Int32)))))
set_option maxRecDepth 100000 in
set_option maxHeartbeats 4000000 in
theorem c_X5_addCopy (l : Launch) (dC : Nat → ClassId) (dI : Nat → Nat → Nat) (cI : ClassId) (q : Nat → Nat) (g : St) (a1 : Int32) (r : Int32) (g' : St) (hp : P_X5_addCopy g a1 r g') (sz : Nat) : Met l yX5_addCopy wsX5_addCopy { frames := 2, cells := 0, slots := 0, locals := 43 } (va_Pc [.ref (q 0), .int a1] (wpS (dC, dI) vwCl [(cI, .int)] (wX5 q cI g) sz)) (va_Qi (fun (r' : Int32) (_ : Unit) => r' = r) (fun _ t => wqB (dC, dI) vwCl (wX5 q cI g') (va_A (wX5 q cI g) sz) t) (va_A (wX5 q cI g) sz)) 0 0 (va_A (wX5 q cI g) sz) := by
  refine wr_met (fun A => (va_Qi (fun (r' : Int32) (_ : Unit) => r' = r) (fun _ t => wqB (dC, dI) vwCl (wX5 q cI g') A t) A)) (cc := cX5_addCopy) (maxL := 3) (ret := (some .int)) (by decide) rfl (Nat.le_of_ble_eq_true rfl) ?_
  intro p e s m below meth c A hx hb hml hr hlk hts hown hnm hP hK hN hD hA ls hl
  have hS : va_S A s.heap s.heap [] := va_S.rf
  have hl : lv_has ls 3 [(0, .ref (q 0)), (1, .int a1)] := hl
  obtain ⟨V27, eV27⟩ : ∃ V : St → Int32 → Prop, V = (fun gv t0 => ∀ (H : Heap) (locs : List Loc) (ls : Array Slot), va_P (dC, dI) vwCl (wX5 q cI gv) H → va_D A (wX5 q cI gv) → va_S A s.heap H locs → lv_has ls 3 [(0, .ref (q 0)), (1, .int a1)] → W p l e { frames := 2, cells := 0, slots := 0, locals := 43 } s m ([.ref (q 0), .int a1] : List Value).toArray below meth c H locs 0 0 (MQ below (va_Qi (fun (r' : Int32) (_ : Unit) => r' = r) (fun _ t => wqB (dC, dI) vwCl (wX5 q cI g') A t) A) ([.ref (q 0), .int a1] : List Value).toArray s 0 0 A) (F0 m 27 ls [.int t0, .ref (q 0)])) := ⟨_, rfl⟩
  obtain ⟨V57, eV57⟩ : ∃ V : St → Int32 → Prop, V = (fun gv x2 => ∀ (H : Heap) (locs : List Loc) (ls : Array Slot), va_P (dC, dI) vwCl (wX5 q cI gv) H → va_D A (wX5 q cI gv) → va_S A s.heap H locs → lv_has ls 3 [(0, .ref (q 0)), (1, .int a1), (2, .int x2)] → W p l e { frames := 2, cells := 0, slots := 0, locals := 43 } s m ([.ref (q 0), .int a1] : List Value).toArray below meth c H locs 0 0 (MQ below (va_Qi (fun (r' : Int32) (_ : Unit) => r' = r) (fun _ t => wqB (dC, dI) vwCl (wX5 q cI g') A t) A) ([.ref (q 0), .int a1] : List Value).toArray s 0 0 A) (F0 m 57 ls [])) := ⟨_, rfl⟩
  have hp := hp V27 V57
  have hp := hp (by
    intro gv t0 hp
    rw [eV27]
    intro H locs ls hP hD hS hl
    obtain ⟨r4, g5, hg5, hp⟩ := hp
    refine wr_Vi (As := [.int t0]) (rest := []) (w1 := []) (w2 := []) (ws1 := wX5 q cI g5) ⟨hx, hb, hml, hown, hts⟩ (c_X5_isFine l dC dI cI q gv t0 r4 g5 hg5 _) (cwV 1 hts gX5_addCopy_X5_isFine rfl rfl rfl (by decide +kernel) ⟨Nat.le_of_ble_eq_true rfl, Nat.le_of_ble_eq_true rfl⟩) hP hD hS hA hK hN (List.append_nil _).symm (List.append_nil _) rfl rfl rfl rfl hl.1 (Nat.le_of_ble_eq_true rfl) ⟨Nat.zero_le _, Nat.zero_le _⟩ dX5_addCopy_27 (fun H locs hP hD hS => ?_)
    refine lv_if_ne (tgt := 35) hx hb dX5_addCopy_30 (by decide) (fun c8 => ?_) (fun c8 => ?_)
    · have hp := hp.1 c8
      refine lv_aload_n hx hb dX5_addCopy_35 rfl (lv_at hl 0 rfl) ?_
      refine va_get (D := (dC, dI)) (ci := 5) (v := .ref (q 12)) (C := RX5) (T := TX5) (N := 33) hx hb hts iX5_addCopy_X5 hown hK hP 0 rfl rfl 16 (by decide) (hts _ kX5_addCopy_2) (fun _ h9 => h9) rfl dX5_addCopy_36 ?_
      refine lv_aload_n hx hb dX5_addCopy_39 rfl (lv_at hl 0 rfl) ?_
      refine va_get (D := (dC, dI)) (ci := 5) (v := .int (g5 0 19)) (C := RX5) (T := TX5) (N := 33) hx hb hts iX5_addCopy_X5 hown hK hP 0 rfl rfl 19 (by decide) (hts _ kX5_addCopy_0) (fun _ h9 => h9) rfl dX5_addCopy_40 ?_
      refine lv_iload_n hx hb dX5_addCopy_43 rfl (lv_at hl 1 rfl) ?_
      refine va_iast hx hb hK hP hD hS 12 0 rfl rfl hp.1 dX5_addCopy_44 (fun H locs hP hD hS => ?_)
      have hp := hp.2
      obtain ⟨g6, eg6⟩ : ∃ z : St, z = st_set g5 12 (g5 0 19).toNatClampNeg a1 := ⟨_, rfl⟩
      have hp := hp g6 eg6
      have hP : va_P (dC, dI) vwCl (wX5 q cI g6) H := by rw [eg6]; exact hP
      have hD : va_D A (wX5 q cI g6) := by rw [eg6]; exact hD
      refine lv_aload_n hx hb dX5_addCopy_45 rfl (lv_at hl 0 rfl) ?_
      refine va_get (D := (dC, dI)) (ci := 5) (v := .ref (q 13)) (C := RX5) (T := TX5) (N := 33) hx hb hts iX5_addCopy_X5 hown hK hP 0 rfl rfl 17 (by decide) (hts _ kX5_addCopy_3) (fun _ h9 => h9) rfl dX5_addCopy_46 ?_
      refine lv_aload_n hx hb dX5_addCopy_49 rfl (lv_at hl 0 rfl) ?_
      refine va_get (D := (dC, dI)) (ci := 5) (v := .int (g6 0 19)) (C := RX5) (T := TX5) (N := 33) hx hb hts iX5_addCopy_X5 hown hK hP 0 rfl rfl 19 (by decide) (hts _ kX5_addCopy_0) (fun _ h9 => h9) rfl dX5_addCopy_50 ?_
      refine lv_iconst (v := 0) hx hb dX5_addCopy_53 (by decide) ?_
      refine va_iast hx hb hK hP hD hS 13 0 rfl rfl hp.1 dX5_addCopy_54 (fun H locs hP hD hS => ?_)
      have hp := hp.2
      obtain ⟨g7, eg7⟩ : ∃ z : St, z = st_set g6 13 (g6 0 19).toNatClampNeg (0 : Int32) := ⟨_, rfl⟩
      have hp := hp g7 eg7
      have hP : va_P (dC, dI) vwCl (wX5 q cI g7) H := by rw [eg7]; exact hP
      have hD : va_D A (wX5 q cI g7) := by rw [eg7]; exact hD
      refine lv_iconst (v := 0) hx hb dX5_addCopy_55 (by decide) ?_
      refine lv_istore_n (lv' := [(2, .int (0 : Int32)), (0, .ref (q 0)), (1, .int a1)]) hx hb dX5_addCopy_56 rfl hl (by decide) rfl (fun ls hl => ?_)
      rw [eV57] at hp
      exact hp _ _ _ hP hD hS (lv_sub hl [1, 2, 0] rfl)
    · have hp := hp.2 c8
      refine lv_iconst (v := 0) hx hb dX5_addCopy_33 (by decide) ?_
      exact W.iret hx hb hr (fun t ht _ => ⟨⟨_, (), rfl, hp.1.symm, by rw [ht, hp.2]; exact hP, by rw [hp.2]; exact hD⟩, hS.F ht⟩) hS.2.2 dX5_addCopy_34)
  have hp := hp (by
    intro gv x2 hp
    rw [eV57]
    intro H locs ls hP hD hS hl
    refine lv_iload_n hx hb dX5_addCopy_57 rfl (lv_at hl 2 rfl) ?_
    refine lv_iconst (v := 4) hx hb dX5_addCopy_58 (by decide) ?_
    refine lv_icmp_ge (tgt := 91) hx hb dX5_addCopy_59 (by decide) (fun c11 => ?_) (fun c11 => ?_)
    · have hp := hp.1 c11
      refine lv_aload_n hx hb dX5_addCopy_91 rfl (lv_at hl 0 rfl) ?_
      refine lv_dup hx hb dX5_addCopy_92 rfl ?_
      refine va_get (D := (dC, dI)) (ci := 5) (v := .int (gv 0 19)) (C := RX5) (T := TX5) (N := 33) hx hb hts iX5_addCopy_X5 hown hK hP 0 rfl rfl 19 (by decide) (hts _ kX5_addCopy_0) (fun _ h9 => h9) rfl dX5_addCopy_93 ?_
      refine lv_iconst (v := 1) hx hb dX5_addCopy_96 (by decide) ?_
      refine lv_iadd hx hb dX5_addCopy_97 ?_
      refine va_put (D := (dC, dI)) (ci := 5) (v := .int ((gv 0 19) + (1 : Int32))) (ty := .int) (C := RX5) (T := TX5) (N := 33) hx hb hts iX5_addCopy_X5 tyX5 tyX5_ok nmX5 hown hK hP hD hS 0 rfl rfl 19 (by decide) (hts _ kX5_addCopy_0) (fun _ h9 => h9) rfl (by decide +kernel) rfl rfl (Nat.le_of_ble_eq_true rfl) dX5_addCopy_98 (fun H locs hP hD hS => ?_)
      obtain ⟨g9, eg9⟩ : ∃ z : St, z = st_set gv 0 19 ((gv 0 19) + (1 : Int32)) := ⟨_, rfl⟩
      have hp := hp g9 eg9
      have hP : va_P (dC, dI) vwCl (wX5 q cI g9) H := by rw [eg9]; exact hP
      have hD : va_D A (wX5 q cI g9) := by rw [eg9]; exact hD
      refine lv_aload_n hx hb dX5_addCopy_101 rfl (lv_at hl 0 rfl) ?_
      refine va_get (D := (dC, dI)) (ci := 5) (v := .int (g9 0 19)) (C := RX5) (T := TX5) (N := 33) hx hb hts iX5_addCopy_X5 hown hK hP 0 rfl rfl 19 (by decide) (hts _ kX5_addCopy_0) (fun _ h9 => h9) rfl dX5_addCopy_102 ?_
      refine lv_iconst (v := 1) hx hb dX5_addCopy_105 (by decide) ?_
      refine lv_isub hx hb dX5_addCopy_106 ?_
      exact W.iret hx hb hr (fun t ht _ => ⟨⟨_, (), rfl, hp.1.symm, by rw [ht, hp.2]; exact hP, by rw [hp.2]; exact hD⟩, hS.F ht⟩) hS.2.2 dX5_addCopy_107
    · have hp := hp.2 c11
      refine lv_aload_n hx hb dX5_addCopy_62 rfl (lv_at hl 0 rfl) ?_
      refine va_get (D := (dC, dI)) (ci := 5) (v := .ref (q 14)) (C := RX5) (T := TX5) (N := 33) hx hb hts iX5_addCopy_X5 hown hK hP 0 rfl rfl 18 (by decide) (hts _ kX5_addCopy_4) (fun _ h9 => h9) rfl dX5_addCopy_63 ?_
      refine lv_iconst (v := 4) hx hb dX5_addCopy_66 (by decide) ?_
      refine lv_aload_n hx hb dX5_addCopy_67 rfl (lv_at hl 0 rfl) ?_
      refine va_get (D := (dC, dI)) (ci := 5) (v := .int (gv 0 19)) (C := RX5) (T := TX5) (N := 33) hx hb hts iX5_addCopy_X5 hown hK hP 0 rfl rfl 19 (by decide) (hts _ kX5_addCopy_0) (fun _ h9 => h9) rfl dX5_addCopy_68 ?_
      refine lv_imul hx hb dX5_addCopy_71 ?_
      refine lv_iload_n hx hb dX5_addCopy_72 rfl (lv_at hl 2 rfl) ?_
      refine lv_iadd hx hb dX5_addCopy_73 ?_
      refine lv_aload_n hx hb dX5_addCopy_74 rfl (lv_at hl 0 rfl) ?_
      refine va_get (D := (dC, dI)) (ci := 5) (v := .ref (q 11)) (C := RX5) (T := TX5) (N := 33) hx hb hts iX5_addCopy_X5 hown hK hP 0 rfl rfl 14 (by decide) (hts _ kX5_addCopy_5) (fun _ h9 => h9) rfl dX5_addCopy_75 ?_
      refine lv_iconst (v := 4) hx hb dX5_addCopy_78 (by decide) ?_
      refine lv_iload_n hx hb dX5_addCopy_79 rfl (lv_at hl 1 rfl) ?_
      refine lv_imul hx hb dX5_addCopy_80 ?_
      refine lv_iload_n hx hb dX5_addCopy_81 rfl (lv_at hl 2 rfl) ?_
      refine lv_iadd hx hb dX5_addCopy_82 ?_
      refine va_iald hx hb hK hP 11 0 rfl rfl hp.1 dX5_addCopy_83 ?_
      have hp := hp.2
      refine va_iast hx hb hK hP hD hS 14 0 rfl rfl hp.1 dX5_addCopy_84 (fun H locs hP hD hS => ?_)
      have hp := hp.2
      obtain ⟨g10, eg10⟩ : ∃ z : St, z = st_set gv 14 (((4 : Int32) * (gv 0 19)) + x2).toNatClampNeg (gv 11 (((4 : Int32) * a1) + x2).toNatClampNeg) := ⟨_, rfl⟩
      have hp := hp g10 eg10
      have hP : va_P (dC, dI) vwCl (wX5 q cI g10) H := by rw [eg10]; exact hP
      have hD : va_D A (wX5 q cI g10) := by rw [eg10]; exact hD
      refine lv_iinc (v := x2 + (1 : Int32)) (lv' := [(2, .int (x2 + (1 : Int32))), (0, .ref (q 0)), (1, .int a1)]) hx hb dX5_addCopy_85 hl (k := 2) rfl rfl (by decide) rfl (fun ls hl => ?_)
      refine lv_goto (tgt := 57) hx hb dX5_addCopy_88 (by decide) ?_
      rw [eV57] at hp
      exact hp _ _ _ hP hD hS (lv_sub hl [1, 2, 0] rfl))
  refine lv_aload_n hx hb dX5_addCopy_0 rfl (lv_at hl 0 rfl) ?_
  refine lv_aload_n hx hb dX5_addCopy_1 rfl (lv_at hl 0 rfl) ?_
  refine lv_iload_n hx hb dX5_addCopy_2 rfl (lv_at hl 1 rfl) ?_
  obtain ⟨r1, hr1, hp⟩ := hp
  refine ro_V (As := [.int a1]) (rest := [.ref (q 0)]) ⟨hx, hb, hml, hown, hts⟩ (c_X5_isTitle l dC dI cI q g a1 r1 hr1) (cwV 1 hts gX5_addCopy_X5_isTitle rfl rfl rfl (by decide +kernel) ⟨Nat.le_of_ble_eq_true rfl, Nat.le_of_ble_eq_true rfl⟩) hP hK hN rfl rfl rfl rfl hl.1 (Nat.le_of_ble_eq_true rfl) ⟨Nat.zero_le _, Nat.zero_le _⟩ dX5_addCopy_3 ?_
  refine lv_if_ne (tgt := 13) hx hb dX5_addCopy_6 (by decide) (fun c3 => ?_) (fun c3 => ?_)
  · have hp := hp.1 c3
    refine lv_aload_n hx hb dX5_addCopy_13 rfl (lv_at hl 0 rfl) ?_
    refine va_get (D := (dC, dI)) (ci := 5) (v := .int (g 0 19)) (C := RX5) (T := TX5) (N := 33) hx hb hts iX5_addCopy_X5 hown hK hP 0 rfl rfl 19 (by decide) (hts _ kX5_addCopy_0) (fun _ h9 => h9) rfl dX5_addCopy_14 ?_
    refine lv_bipush (v := 16) hx hb dX5_addCopy_17 (by decide) ?_
    refine lv_icmp_ne (tgt := 26) hx hb dX5_addCopy_19 (by decide) (fun c2 => ?_) (fun c2 => ?_)
    · have hp := hp.1 c2
      refine lv_iconst (v := 0) hx hb dX5_addCopy_26 (by decide) ?_
      rw [eV27] at hp
      exact hp _ _ _ hP hD hS (lv_sub hl [0, 1] rfl)
    · have hp := hp.2 c2
      refine lv_iconst (v := 2) hx hb dX5_addCopy_22 (by decide) ?_
      refine lv_goto (tgt := 27) hx hb dX5_addCopy_23 (by decide) ?_
      rw [eV27] at hp
      exact hp _ _ _ hP hD hS (lv_sub hl [0, 1] rfl)
  · have hp := hp.2 c3
    refine lv_iconst (v := 1) hx hb dX5_addCopy_9 (by decide) ?_
    refine lv_goto (tgt := 27) hx hb dX5_addCopy_10 (by decide) ?_
    rw [eV27] at hp
    exact hp _ _ _ hP hD hS (lv_sub hl [0, 1] rfl)
theorem kX5_addRule_0 : (.fieldLink RX5 76 "MeeplehouseModel" "rules" "[I" : Cond) ∈ wsX5_addRule := by decide +kernel
theorem iX5_addRule_X5 : ∀ w ∈ wsX50, w ∈ wsX5_addRule := by decide +kernel
theorem kX5_addRule_2 : (.fieldLink RX5 64 "MeeplehouseModel" "parent" "[I" : Cond) ∈ wsX5_addRule := by decide +kernel
theorem kX5_addRule_3 : (.fieldLink RX5 67 "MeeplehouseModel" "test" "[I" : Cond) ∈ wsX5_addRule := by decide +kernel
theorem kX5_addRule_4 : (.fieldLink RX5 70 "MeeplehouseModel" "value" "[I" : Cond) ∈ wsX5_addRule := by decide +kernel
theorem kX5_addRule_5 : (.fieldLink RX5 73 "MeeplehouseModel" "ruling" "[I" : Cond) ∈ wsX5_addRule := by decide +kernel
def P_X5_addRule (g : St) (a1 : Int32) (a2 : Int32) (a3 : Int32) (a4 : Int32) (a5 : Int32) (r : Int32) (g' : St) : Prop := ∀ V28 : St → Prop, ∀ V29 : St → Int32 → Prop, ∀ V67 : St → Int32 → Prop, ∀ V68 : St → Int32 → Int32 → Prop, ∀ V105 : St → Int32 → Prop, (∀ gv : St, (V29 gv (0 : Int32)) → V28 gv) → (∀ gv : St, ∀ t0 : Int32, (∃ r5 : Int32, P_X5_isIn a3 (0 : Int32) (3 : Int32) r5 ∧ ((r5 = 0 → (V67 gv t0)) ∧ (¬ r5 = 0 → (∃ r6 : Int32, P_X5_isIn a4 (1 : Int32) (300 : Int32) r6 ∧ ((r6 = 0 → (V67 gv t0)) ∧ (¬ r6 = 0 → (∃ r7 : Int32, P_X5_isIn a5 (0 : Int32) (99 : Int32) r7 ∧ ((r7 = 0 → (V67 gv t0)) ∧ (¬ r7 = 0 → (V68 gv t0 (1 : Int32))))))))))) → V29 gv t0) → (∀ gv : St, ∀ x6 : Int32, (V68 gv x6 (0 : Int32)) → V67 gv x6) → (∀ gv : St, ∀ x6 t0 : Int32, ((¬ x6 = 0 → ((¬ t0 = 0 → (vp_in a1 8 ∧ ((¬ (gv 23 a1.toNatClampNeg) = (12 : Int32) → (V105 gv (0 : Int32))) ∧ ((gv 23 a1.toNatClampNeg) = (12 : Int32) → (V105 gv (3 : Int32)))))) ∧ (t0 = 0 → (V105 gv (2 : Int32))))) ∧ (x6 = 0 → (V105 gv (1 : Int32)))) → V68 gv x6 t0) → (∀ gv : St, ∀ t0 : Int32, (∃ (r14 : Int32) (g15 : St), P_X5_isFine gv t0 r14 g15 ∧ ((¬ r14 = 0 → (vp_in a1 8 ∧ (vp_in (((12 : Int32) * a1) + (g15 23 a1.toNatClampNeg)) 96 ∧ (∀ g16 : St, g16 = st_set g15 19 (((12 : Int32) * a1) + (g15 23 a1.toNatClampNeg)).toNatClampNeg a2 → (vp_in (((12 : Int32) * a1) + (g15 23 a1.toNatClampNeg)) 96 ∧ (∀ g17 : St, g17 = st_set g16 20 (((12 : Int32) * a1) + (g15 23 a1.toNatClampNeg)).toNatClampNeg a3 → (vp_in (((12 : Int32) * a1) + (g15 23 a1.toNatClampNeg)) 96 ∧ (∀ g18 : St, g18 = st_set g17 21 (((12 : Int32) * a1) + (g15 23 a1.toNatClampNeg)).toNatClampNeg a4 → (vp_in (((12 : Int32) * a1) + (g15 23 a1.toNatClampNeg)) 96 ∧ (∀ g19 : St, g19 = st_set g18 22 (((12 : Int32) * a1) + (g15 23 a1.toNatClampNeg)).toNatClampNeg a5 → (vp_in a1 8 ∧ (vp_in a1 8 ∧ (∀ g20 : St, g20 = st_set g19 23 a1.toNatClampNeg ((g19 23 a1.toNatClampNeg) + (1 : Int32)) → (vp_in a1 8 ∧ (r = ((g20 23 a1.toNatClampNeg) - (1 : Int32)) ∧ g' = g20))))))))))))))) ∧ (r14 = 0 → (r = (0 : Int32) ∧ g' = g15)))) → V105 gv t0) → (∃ r1 : Int32, P_X5_isTitle g a1 r1 ∧ ((r1 = 0 → (V28 g)) ∧ (¬ r1 = 0 → (vp_in a1 8 ∧ (∃ r2 : Int32, P_X5_isIn a2 (-1 : Int32) ((g 23 a1.toNatClampNeg) - (1 : Int32)) r2 ∧ ((r2 = 0 → (V28 g)) ∧ (¬ r2 = 0 → (V29 g (1 : Int32)))))))))
set_option maxRecDepth 100000 in
set_option maxHeartbeats 4000000 in
theorem c_X5_addRule (l : Launch) (dC : Nat → ClassId) (dI : Nat → Nat → Nat) (cI : ClassId) (q : Nat → Nat) (g : St) (a1 : Int32) (a2 : Int32) (a3 : Int32) (a4 : Int32) (a5 : Int32) (r : Int32) (g' : St) (hp : P_X5_addRule g a1 a2 a3 a4 a5 r g') (sz : Nat) : Met l yX5_addRule wsX5_addRule { frames := 2, cells := 0, slots := 0, locals := 43 } (va_Pc [.ref (q 0), .int a1, .int a2, .int a3, .int a4, .int a5] (wpS (dC, dI) vwCl [(cI, .int)] (wX5 q cI g) sz)) (va_Qi (fun (r' : Int32) (_ : Unit) => r' = r) (fun _ t => wqB (dC, dI) vwCl (wX5 q cI g') (va_A (wX5 q cI g) sz) t) (va_A (wX5 q cI g) sz)) 0 0 (va_A (wX5 q cI g) sz) := by
  refine wr_met (fun A => (va_Qi (fun (r' : Int32) (_ : Unit) => r' = r) (fun _ t => wqB (dC, dI) vwCl (wX5 q cI g') A t) A)) (cc := cX5_addRule) (maxL := 9) (ret := (some .int)) (by decide) rfl (Nat.le_of_ble_eq_true rfl) ?_
  intro p e s m below meth c A hx hb hml hr hlk hts hown hnm hP hK hN hD hA ls hl
  have hS : va_S A s.heap s.heap [] := va_S.rf
  have hl : lv_has ls 9 [(0, .ref (q 0)), (1, .int a1), (2, .int a2), (3, .int a3), (4, .int a4), (5, .int a5)] := hl
  obtain ⟨V28, eV28⟩ : ∃ V : St → Prop, V = (fun gv => ∀ (H : Heap) (locs : List Loc) (ls : Array Slot), va_P (dC, dI) vwCl (wX5 q cI gv) H → va_D A (wX5 q cI gv) → va_S A s.heap H locs → lv_has ls 9 [(0, .ref (q 0)), (1, .int a1), (2, .int a2), (3, .int a3), (4, .int a4), (5, .int a5)] → W p l e { frames := 2, cells := 0, slots := 0, locals := 43 } s m ([.ref (q 0), .int a1, .int a2, .int a3, .int a4, .int a5] : List Value).toArray below meth c H locs 0 0 (MQ below (va_Qi (fun (r' : Int32) (_ : Unit) => r' = r) (fun _ t => wqB (dC, dI) vwCl (wX5 q cI g') A t) A) ([.ref (q 0), .int a1, .int a2, .int a3, .int a4, .int a5] : List Value).toArray s 0 0 A) (F0 m 28 ls [])) := ⟨_, rfl⟩
  obtain ⟨V29, eV29⟩ : ∃ V : St → Int32 → Prop, V = (fun gv t0 => ∀ (H : Heap) (locs : List Loc) (ls : Array Slot), va_P (dC, dI) vwCl (wX5 q cI gv) H → va_D A (wX5 q cI gv) → va_S A s.heap H locs → lv_has ls 9 [(0, .ref (q 0)), (1, .int a1), (2, .int a2), (3, .int a3), (4, .int a4), (5, .int a5)] → W p l e { frames := 2, cells := 0, slots := 0, locals := 43 } s m ([.ref (q 0), .int a1, .int a2, .int a3, .int a4, .int a5] : List Value).toArray below meth c H locs 0 0 (MQ below (va_Qi (fun (r' : Int32) (_ : Unit) => r' = r) (fun _ t => wqB (dC, dI) vwCl (wX5 q cI g') A t) A) ([.ref (q 0), .int a1, .int a2, .int a3, .int a4, .int a5] : List Value).toArray s 0 0 A) (F0 m 29 ls [.int t0])) := ⟨_, rfl⟩
  obtain ⟨V67, eV67⟩ : ∃ V : St → Int32 → Prop, V = (fun gv x6 => ∀ (H : Heap) (locs : List Loc) (ls : Array Slot), va_P (dC, dI) vwCl (wX5 q cI gv) H → va_D A (wX5 q cI gv) → va_S A s.heap H locs → lv_has ls 9 [(0, .ref (q 0)), (1, .int a1), (2, .int a2), (3, .int a3), (4, .int a4), (5, .int a5), (6, .int x6)] → W p l e { frames := 2, cells := 0, slots := 0, locals := 43 } s m ([.ref (q 0), .int a1, .int a2, .int a3, .int a4, .int a5] : List Value).toArray below meth c H locs 0 0 (MQ below (va_Qi (fun (r' : Int32) (_ : Unit) => r' = r) (fun _ t => wqB (dC, dI) vwCl (wX5 q cI g') A t) A) ([.ref (q 0), .int a1, .int a2, .int a3, .int a4, .int a5] : List Value).toArray s 0 0 A) (F0 m 67 ls [])) := ⟨_, rfl⟩
  obtain ⟨V68, eV68⟩ : ∃ V : St → Int32 → Int32 → Prop, V = (fun gv x6 t0 => ∀ (H : Heap) (locs : List Loc) (ls : Array Slot), va_P (dC, dI) vwCl (wX5 q cI gv) H → va_D A (wX5 q cI gv) → va_S A s.heap H locs → lv_has ls 9 [(0, .ref (q 0)), (1, .int a1), (2, .int a2), (3, .int a3), (4, .int a4), (5, .int a5), (6, .int x6)] → W p l e { frames := 2, cells := 0, slots := 0, locals := 43 } s m ([.ref (q 0), .int a1, .int a2, .int a3, .int a4, .int a5] : List Value).toArray below meth c H locs 0 0 (MQ below (va_Qi (fun (r' : Int32) (_ : Unit) => r' = r) (fun _ t => wqB (dC, dI) vwCl (wX5 q cI g') A t) A) ([.ref (q 0), .int a1, .int a2, .int a3, .int a4, .int a5] : List Value).toArray s 0 0 A) (F0 m 68 ls [.int t0])) := ⟨_, rfl⟩
  obtain ⟨V105, eV105⟩ : ∃ V : St → Int32 → Prop, V = (fun gv t0 => ∀ (H : Heap) (locs : List Loc) (ls : Array Slot), va_P (dC, dI) vwCl (wX5 q cI gv) H → va_D A (wX5 q cI gv) → va_S A s.heap H locs → lv_has ls 9 [(0, .ref (q 0)), (1, .int a1), (2, .int a2), (3, .int a3), (4, .int a4), (5, .int a5)] → W p l e { frames := 2, cells := 0, slots := 0, locals := 43 } s m ([.ref (q 0), .int a1, .int a2, .int a3, .int a4, .int a5] : List Value).toArray below meth c H locs 0 0 (MQ below (va_Qi (fun (r' : Int32) (_ : Unit) => r' = r) (fun _ t => wqB (dC, dI) vwCl (wX5 q cI g') A t) A) ([.ref (q 0), .int a1, .int a2, .int a3, .int a4, .int a5] : List Value).toArray s 0 0 A) (F0 m 105 ls [.int t0, .ref (q 0)])) := ⟨_, rfl⟩
  have hp := hp V28 V29 V67 V68 V105
  have hp := hp (by
    intro gv hp
    rw [eV28]
    intro H locs ls hP hD hS hl
    refine lv_iconst (v := 0) hx hb dX5_addRule_28 (by decide) ?_
    rw [eV29] at hp
    exact hp _ _ _ hP hD hS (lv_sub hl [0, 1, 2, 3, 4, 5] rfl))
  have hp := hp (by
    intro gv t0 hp
    rw [eV29]
    intro H locs ls hP hD hS hl
    refine lv_istore (lv' := [(6, .int t0), (0, .ref (q 0)), (1, .int a1), (2, .int a2), (3, .int a3), (4, .int a4), (5, .int a5)]) hx hb dX5_addRule_29 hl (by decide) rfl (fun ls hl => ?_)
    refine lv_iload_n hx hb dX5_addRule_31 rfl (lv_at hl 4 rfl) ?_
    refine lv_iconst (v := 0) hx hb dX5_addRule_32 (by decide) ?_
    refine lv_iconst (v := 3) hx hb dX5_addRule_33 (by decide) ?_
    obtain ⟨r5, hr5, hp⟩ := hp
    refine ro_S (As := [.int a3, .int (0 : Int32), .int (3 : Int32)]) (rest := []) ⟨hx, hb, hml, hown, hts⟩ (c_X5_isIn l dC dI cI a3 (0 : Int32) (3 : Int32) r5 hr5) (va_cwS 3 hts gX5_addRule_X5_isIn rfl rfl rfl (by decide +kernel) ⟨Nat.le_of_ble_eq_true rfl, Nat.le_of_ble_eq_true rfl⟩) (hP.sub [] rfl) hK hN rfl rfl hl.1 (Nat.le_of_ble_eq_true rfl) ⟨Nat.zero_le _, Nat.zero_le _⟩ dX5_addRule_34 ?_
    refine lv_if_eq (tgt := 67) hx hb dX5_addRule_37 (by decide) (fun c10 => ?_) (fun c10 => ?_)
    · have hp := hp.1 c10
      rw [eV67] at hp
      exact hp _ _ _ hP hD hS (lv_sub hl [1, 2, 3, 4, 5, 6, 0] rfl)
    · have hp := hp.2 c10
      refine lv_iload hx hb dX5_addRule_40 (lv_at hl 5 rfl) ?_
      refine lv_iconst (v := 1) hx hb dX5_addRule_42 (by decide) ?_
      refine lv_sipush (v := 300) hx hb dX5_addRule_43 (by decide) ?_
      obtain ⟨r6, hr6, hp⟩ := hp
      refine ro_S (As := [.int a4, .int (1 : Int32), .int (300 : Int32)]) (rest := []) ⟨hx, hb, hml, hown, hts⟩ (c_X5_isIn l dC dI cI a4 (1 : Int32) (300 : Int32) r6 hr6) (va_cwS 3 hts gX5_addRule_X5_isIn rfl rfl rfl (by decide +kernel) ⟨Nat.le_of_ble_eq_true rfl, Nat.le_of_ble_eq_true rfl⟩) (hP.sub [] rfl) hK hN rfl rfl hl.1 (Nat.le_of_ble_eq_true rfl) ⟨Nat.zero_le _, Nat.zero_le _⟩ dX5_addRule_46 ?_
      refine lv_if_eq (tgt := 67) hx hb dX5_addRule_49 (by decide) (fun c9 => ?_) (fun c9 => ?_)
      · have hp := hp.1 c9
        rw [eV67] at hp
        exact hp _ _ _ hP hD hS (lv_sub hl [1, 2, 3, 4, 5, 6, 0] rfl)
      · have hp := hp.2 c9
        refine lv_iload hx hb dX5_addRule_52 (lv_at hl 6 rfl) ?_
        refine lv_iconst (v := 0) hx hb dX5_addRule_54 (by decide) ?_
        refine lv_bipush (v := 99) hx hb dX5_addRule_55 (by decide) ?_
        obtain ⟨r7, hr7, hp⟩ := hp
        refine ro_S (As := [.int a5, .int (0 : Int32), .int (99 : Int32)]) (rest := []) ⟨hx, hb, hml, hown, hts⟩ (c_X5_isIn l dC dI cI a5 (0 : Int32) (99 : Int32) r7 hr7) (va_cwS 3 hts gX5_addRule_X5_isIn rfl rfl rfl (by decide +kernel) ⟨Nat.le_of_ble_eq_true rfl, Nat.le_of_ble_eq_true rfl⟩) (hP.sub [] rfl) hK hN rfl rfl hl.1 (Nat.le_of_ble_eq_true rfl) ⟨Nat.zero_le _, Nat.zero_le _⟩ dX5_addRule_57 ?_
        refine lv_if_eq (tgt := 67) hx hb dX5_addRule_60 (by decide) (fun c8 => ?_) (fun c8 => ?_)
        · have hp := hp.1 c8
          rw [eV67] at hp
          exact hp _ _ _ hP hD hS (lv_sub hl [1, 2, 3, 4, 5, 6, 0] rfl)
        · have hp := hp.2 c8
          refine lv_iconst (v := 1) hx hb dX5_addRule_63 (by decide) ?_
          refine lv_goto (tgt := 68) hx hb dX5_addRule_64 (by decide) ?_
          rw [eV68] at hp
          exact hp _ _ _ hP hD hS (lv_sub hl [1, 2, 3, 4, 5, 6, 0] rfl))
  have hp := hp (by
    intro gv x6 hp
    rw [eV67]
    intro H locs ls hP hD hS hl
    refine lv_iconst (v := 0) hx hb dX5_addRule_67 (by decide) ?_
    rw [eV68] at hp
    exact hp _ _ _ hP hD hS (lv_sub hl [0, 1, 2, 3, 4, 5, 6] rfl))
  have hp := hp (by
    intro gv x6 t0 hp
    rw [eV68]
    intro H locs ls hP hD hS hl
    refine lv_istore (lv' := [(7, .int t0), (0, .ref (q 0)), (1, .int a1), (2, .int a2), (3, .int a3), (4, .int a4), (5, .int a5), (6, .int x6)]) hx hb dX5_addRule_68 hl (by decide) rfl (fun ls hl => ?_)
    refine lv_aload_n hx hb dX5_addRule_70 rfl (lv_at hl 1 rfl) ?_
    refine lv_iload hx hb dX5_addRule_71 (lv_at hl 7 rfl) ?_
    refine lv_if_ne (tgt := 80) hx hb dX5_addRule_73 (by decide) (fun c13 => ?_) (fun c13 => ?_)
    · have hp := hp.1 c13
      refine lv_iload hx hb dX5_addRule_80 (lv_at hl 0 rfl) ?_
      refine lv_if_ne (tgt := 89) hx hb dX5_addRule_82 (by decide) (fun c12 => ?_) (fun c12 => ?_)
      · have hp := hp.1 c12
        refine lv_aload_n hx hb dX5_addRule_89 rfl (lv_at hl 1 rfl) ?_
        refine va_get (D := (dC, dI)) (ci := 5) (v := .ref (q 23)) (C := RX5) (T := TX5) (N := 33) hx hb hts iX5_addRule_X5 hown hK hP 0 rfl rfl 29 (by decide) (hts _ kX5_addRule_0) (fun _ h9 => h9) rfl dX5_addRule_90 ?_
        refine lv_iload_n hx hb dX5_addRule_93 rfl (lv_at hl 2 rfl) ?_
        refine va_iald hx hb hK hP 23 0 rfl rfl hp.1 dX5_addRule_94 ?_
        have hp := hp.2
        refine lv_bipush (v := 12) hx hb dX5_addRule_95 (by decide) ?_
        refine lv_icmp_ne (tgt := 104) hx hb dX5_addRule_97 (by decide) (fun c11 => ?_) (fun c11 => ?_)
        · have hp := hp.1 c11
          refine lv_iconst (v := 0) hx hb dX5_addRule_104 (by decide) ?_
          rw [eV105] at hp
          exact hp _ _ _ hP hD hS (lv_sub hl [1, 2, 3, 4, 5, 6] rfl)
        · have hp := hp.2 c11
          refine lv_iconst (v := 3) hx hb dX5_addRule_100 (by decide) ?_
          refine lv_goto (tgt := 105) hx hb dX5_addRule_101 (by decide) ?_
          rw [eV105] at hp
          exact hp _ _ _ hP hD hS (lv_sub hl [1, 2, 3, 4, 5, 6] rfl)
      · have hp := hp.2 c12
        refine lv_iconst (v := 2) hx hb dX5_addRule_85 (by decide) ?_
        refine lv_goto (tgt := 105) hx hb dX5_addRule_86 (by decide) ?_
        rw [eV105] at hp
        exact hp _ _ _ hP hD hS (lv_sub hl [1, 2, 3, 4, 5, 6] rfl)
    · have hp := hp.2 c13
      refine lv_iconst (v := 1) hx hb dX5_addRule_76 (by decide) ?_
      refine lv_goto (tgt := 105) hx hb dX5_addRule_77 (by decide) ?_
      rw [eV105] at hp
      exact hp _ _ _ hP hD hS (lv_sub hl [1, 2, 3, 4, 5, 6] rfl))
  have hp := hp (by
    intro gv t0 hp
    rw [eV105]
    intro H locs ls hP hD hS hl
    obtain ⟨r14, g15, hg15, hp⟩ := hp
    refine wr_Vi (As := [.int t0]) (rest := []) (w1 := []) (w2 := []) (ws1 := wX5 q cI g15) ⟨hx, hb, hml, hown, hts⟩ (c_X5_isFine l dC dI cI q gv t0 r14 g15 hg15 _) (cwV 1 hts gX5_addRule_X5_isFine rfl rfl rfl (by decide +kernel) ⟨Nat.le_of_ble_eq_true rfl, Nat.le_of_ble_eq_true rfl⟩) hP hD hS hA hK hN (List.append_nil _).symm (List.append_nil _) rfl rfl rfl rfl hl.1 (Nat.le_of_ble_eq_true rfl) ⟨Nat.zero_le _, Nat.zero_le _⟩ dX5_addRule_105 (fun H locs hP hD hS => ?_)
    refine lv_if_ne (tgt := 113) hx hb dX5_addRule_108 (by decide) (fun c21 => ?_) (fun c21 => ?_)
    · have hp := hp.1 c21
      refine lv_bipush (v := 12) hx hb dX5_addRule_113 (by decide) ?_
      refine lv_iload_n hx hb dX5_addRule_115 rfl (lv_at hl 1 rfl) ?_
      refine lv_imul hx hb dX5_addRule_116 ?_
      refine lv_aload_n hx hb dX5_addRule_117 rfl (lv_at hl 0 rfl) ?_
      refine va_get (D := (dC, dI)) (ci := 5) (v := .ref (q 23)) (C := RX5) (T := TX5) (N := 33) hx hb hts iX5_addRule_X5 hown hK hP 0 rfl rfl 29 (by decide) (hts _ kX5_addRule_0) (fun _ h9 => h9) rfl dX5_addRule_118 ?_
      refine lv_iload_n hx hb dX5_addRule_121 rfl (lv_at hl 1 rfl) ?_
      refine va_iald hx hb hK hP 23 0 rfl rfl hp.1 dX5_addRule_122 ?_
      have hp := hp.2
      refine lv_iadd hx hb dX5_addRule_123 ?_
      refine lv_istore (lv' := [(8, .int (((12 : Int32) * a1) + (g15 23 a1.toNatClampNeg))), (0, .ref (q 0)), (1, .int a1), (2, .int a2), (3, .int a3), (4, .int a4), (5, .int a5)]) hx hb dX5_addRule_124 hl (by decide) rfl (fun ls hl => ?_)
      refine lv_aload_n hx hb dX5_addRule_126 rfl (lv_at hl 1 rfl) ?_
      refine va_get (D := (dC, dI)) (ci := 5) (v := .ref (q 19)) (C := RX5) (T := TX5) (N := 33) hx hb hts iX5_addRule_X5 hown hK hP 0 rfl rfl 25 (by decide) (hts _ kX5_addRule_2) (fun _ h9 => h9) rfl dX5_addRule_127 ?_
      refine lv_iload hx hb dX5_addRule_130 (lv_at hl 0 rfl) ?_
      refine lv_iload_n hx hb dX5_addRule_132 rfl (lv_at hl 3 rfl) ?_
      refine va_iast hx hb hK hP hD hS 19 0 rfl rfl hp.1 dX5_addRule_133 (fun H locs hP hD hS => ?_)
      have hp := hp.2
      obtain ⟨g16, eg16⟩ : ∃ z : St, z = st_set g15 19 (((12 : Int32) * a1) + (g15 23 a1.toNatClampNeg)).toNatClampNeg a2 := ⟨_, rfl⟩
      have hp := hp g16 eg16
      have hP : va_P (dC, dI) vwCl (wX5 q cI g16) H := by rw [eg16]; exact hP
      have hD : va_D A (wX5 q cI g16) := by rw [eg16]; exact hD
      refine lv_aload_n hx hb dX5_addRule_134 rfl (lv_at hl 1 rfl) ?_
      refine va_get (D := (dC, dI)) (ci := 5) (v := .ref (q 20)) (C := RX5) (T := TX5) (N := 33) hx hb hts iX5_addRule_X5 hown hK hP 0 rfl rfl 26 (by decide) (hts _ kX5_addRule_3) (fun _ h9 => h9) rfl dX5_addRule_135 ?_
      refine lv_iload hx hb dX5_addRule_138 (lv_at hl 0 rfl) ?_
      refine lv_iload_n hx hb dX5_addRule_140 rfl (lv_at hl 4 rfl) ?_
      refine va_iast hx hb hK hP hD hS 20 0 rfl rfl hp.1 dX5_addRule_141 (fun H locs hP hD hS => ?_)
      have hp := hp.2
      obtain ⟨g17, eg17⟩ : ∃ z : St, z = st_set g16 20 (((12 : Int32) * a1) + (g15 23 a1.toNatClampNeg)).toNatClampNeg a3 := ⟨_, rfl⟩
      have hp := hp g17 eg17
      have hP : va_P (dC, dI) vwCl (wX5 q cI g17) H := by rw [eg17]; exact hP
      have hD : va_D A (wX5 q cI g17) := by rw [eg17]; exact hD
      refine lv_aload_n hx hb dX5_addRule_142 rfl (lv_at hl 1 rfl) ?_
      refine va_get (D := (dC, dI)) (ci := 5) (v := .ref (q 21)) (C := RX5) (T := TX5) (N := 33) hx hb hts iX5_addRule_X5 hown hK hP 0 rfl rfl 27 (by decide) (hts _ kX5_addRule_4) (fun _ h9 => h9) rfl dX5_addRule_143 ?_
      refine lv_iload hx hb dX5_addRule_146 (lv_at hl 0 rfl) ?_
      refine lv_iload hx hb dX5_addRule_148 (lv_at hl 5 rfl) ?_
      refine va_iast hx hb hK hP hD hS 21 0 rfl rfl hp.1 dX5_addRule_150 (fun H locs hP hD hS => ?_)
      have hp := hp.2
      obtain ⟨g18, eg18⟩ : ∃ z : St, z = st_set g17 21 (((12 : Int32) * a1) + (g15 23 a1.toNatClampNeg)).toNatClampNeg a4 := ⟨_, rfl⟩
      have hp := hp g18 eg18
      have hP : va_P (dC, dI) vwCl (wX5 q cI g18) H := by rw [eg18]; exact hP
      have hD : va_D A (wX5 q cI g18) := by rw [eg18]; exact hD
      refine lv_aload_n hx hb dX5_addRule_151 rfl (lv_at hl 1 rfl) ?_
      refine va_get (D := (dC, dI)) (ci := 5) (v := .ref (q 22)) (C := RX5) (T := TX5) (N := 33) hx hb hts iX5_addRule_X5 hown hK hP 0 rfl rfl 28 (by decide) (hts _ kX5_addRule_5) (fun _ h9 => h9) rfl dX5_addRule_152 ?_
      refine lv_iload hx hb dX5_addRule_155 (lv_at hl 0 rfl) ?_
      refine lv_iload hx hb dX5_addRule_157 (lv_at hl 6 rfl) ?_
      refine va_iast hx hb hK hP hD hS 22 0 rfl rfl hp.1 dX5_addRule_159 (fun H locs hP hD hS => ?_)
      have hp := hp.2
      obtain ⟨g19, eg19⟩ : ∃ z : St, z = st_set g18 22 (((12 : Int32) * a1) + (g15 23 a1.toNatClampNeg)).toNatClampNeg a5 := ⟨_, rfl⟩
      have hp := hp g19 eg19
      have hP : va_P (dC, dI) vwCl (wX5 q cI g19) H := by rw [eg19]; exact hP
      have hD : va_D A (wX5 q cI g19) := by rw [eg19]; exact hD
      refine lv_aload_n hx hb dX5_addRule_160 rfl (lv_at hl 1 rfl) ?_
      refine va_get (D := (dC, dI)) (ci := 5) (v := .ref (q 23)) (C := RX5) (T := TX5) (N := 33) hx hb hts iX5_addRule_X5 hown hK hP 0 rfl rfl 29 (by decide) (hts _ kX5_addRule_0) (fun _ h9 => h9) rfl dX5_addRule_161 ?_
      refine lv_iload_n hx hb dX5_addRule_164 rfl (lv_at hl 2 rfl) ?_
      refine lv_dup2_11 hx hb dX5_addRule_165 rfl rfl ?_
      refine va_iald hx hb hK hP 23 0 rfl rfl hp.1 dX5_addRule_166 ?_
      have hp := hp.2
      refine lv_iconst (v := 1) hx hb dX5_addRule_167 (by decide) ?_
      refine lv_iadd hx hb dX5_addRule_168 ?_
      refine va_iast hx hb hK hP hD hS 23 0 rfl rfl hp.1 dX5_addRule_169 (fun H locs hP hD hS => ?_)
      have hp := hp.2
      obtain ⟨g20, eg20⟩ : ∃ z : St, z = st_set g19 23 a1.toNatClampNeg ((g19 23 a1.toNatClampNeg) + (1 : Int32)) := ⟨_, rfl⟩
      have hp := hp g20 eg20
      have hP : va_P (dC, dI) vwCl (wX5 q cI g20) H := by rw [eg20]; exact hP
      have hD : va_D A (wX5 q cI g20) := by rw [eg20]; exact hD
      refine lv_aload_n hx hb dX5_addRule_170 rfl (lv_at hl 1 rfl) ?_
      refine va_get (D := (dC, dI)) (ci := 5) (v := .ref (q 23)) (C := RX5) (T := TX5) (N := 33) hx hb hts iX5_addRule_X5 hown hK hP 0 rfl rfl 29 (by decide) (hts _ kX5_addRule_0) (fun _ h9 => h9) rfl dX5_addRule_171 ?_
      refine lv_iload_n hx hb dX5_addRule_174 rfl (lv_at hl 2 rfl) ?_
      refine va_iald hx hb hK hP 23 0 rfl rfl hp.1 dX5_addRule_175 ?_
      have hp := hp.2
      refine lv_iconst (v := 1) hx hb dX5_addRule_176 (by decide) ?_
      refine lv_isub hx hb dX5_addRule_177 ?_
      exact W.iret hx hb hr (fun t ht _ => ⟨⟨_, (), rfl, hp.1.symm, by rw [ht, hp.2]; exact hP, by rw [hp.2]; exact hD⟩, hS.F ht⟩) hS.2.2 dX5_addRule_178
    · have hp := hp.2 c21
      refine lv_iconst (v := 0) hx hb dX5_addRule_111 (by decide) ?_
      exact W.iret hx hb hr (fun t ht _ => ⟨⟨_, (), rfl, hp.1.symm, by rw [ht, hp.2]; exact hP, by rw [hp.2]; exact hD⟩, hS.F ht⟩) hS.2.2 dX5_addRule_112)
  refine lv_aload_n hx hb dX5_addRule_0 rfl (lv_at hl 0 rfl) ?_
  refine lv_iload_n hx hb dX5_addRule_1 rfl (lv_at hl 1 rfl) ?_
  obtain ⟨r1, hr1, hp⟩ := hp
  refine ro_V (As := [.int a1]) (rest := []) ⟨hx, hb, hml, hown, hts⟩ (c_X5_isTitle l dC dI cI q g a1 r1 hr1) (cwV 1 hts gX5_addRule_X5_isTitle rfl rfl rfl (by decide +kernel) ⟨Nat.le_of_ble_eq_true rfl, Nat.le_of_ble_eq_true rfl⟩) hP hK hN rfl rfl rfl rfl hl.1 (Nat.le_of_ble_eq_true rfl) ⟨Nat.zero_le _, Nat.zero_le _⟩ dX5_addRule_2 ?_
  refine lv_if_eq (tgt := 28) hx hb dX5_addRule_5 (by decide) (fun c4 => ?_) (fun c4 => ?_)
  · have hp := hp.1 c4
    rw [eV28] at hp
    exact hp _ _ _ hP hD hS (lv_sub hl [0, 1, 2, 3, 4, 5] rfl)
  · have hp := hp.2 c4
    refine lv_iload_n hx hb dX5_addRule_8 rfl (lv_at hl 2 rfl) ?_
    refine lv_iconst (v := -1) hx hb dX5_addRule_9 (by decide) ?_
    refine lv_aload_n hx hb dX5_addRule_10 rfl (lv_at hl 0 rfl) ?_
    refine va_get (D := (dC, dI)) (ci := 5) (v := .ref (q 23)) (C := RX5) (T := TX5) (N := 33) hx hb hts iX5_addRule_X5 hown hK hP 0 rfl rfl 29 (by decide) (hts _ kX5_addRule_0) (fun _ h9 => h9) rfl dX5_addRule_11 ?_
    refine lv_iload_n hx hb dX5_addRule_14 rfl (lv_at hl 1 rfl) ?_
    refine va_iald hx hb hK hP 23 0 rfl rfl hp.1 dX5_addRule_15 ?_
    have hp := hp.2
    refine lv_iconst (v := 1) hx hb dX5_addRule_16 (by decide) ?_
    refine lv_isub hx hb dX5_addRule_17 ?_
    obtain ⟨r2, hr2, hp⟩ := hp
    refine ro_S (As := [.int a2, .int (-1 : Int32), .int ((g 23 a1.toNatClampNeg) - (1 : Int32))]) (rest := []) ⟨hx, hb, hml, hown, hts⟩ (c_X5_isIn l dC dI cI a2 (-1 : Int32) ((g 23 a1.toNatClampNeg) - (1 : Int32)) r2 hr2) (va_cwS 3 hts gX5_addRule_X5_isIn rfl rfl rfl (by decide +kernel) ⟨Nat.le_of_ble_eq_true rfl, Nat.le_of_ble_eq_true rfl⟩) (hP.sub [] rfl) hK hN rfl rfl hl.1 (Nat.le_of_ble_eq_true rfl) ⟨Nat.zero_le _, Nat.zero_le _⟩ dX5_addRule_18 ?_
    refine lv_if_eq (tgt := 28) hx hb dX5_addRule_21 (by decide) (fun c3 => ?_) (fun c3 => ?_)
    · have hp := hp.1 c3
      rw [eV28] at hp
      exact hp _ _ _ hP hD hS (lv_sub hl [0, 1, 2, 3, 4, 5] rfl)
    · have hp := hp.2 c3
      refine lv_iconst (v := 1) hx hb dX5_addRule_24 (by decide) ?_
      refine lv_goto (tgt := 29) hx hb dX5_addRule_25 (by decide) ?_
      rw [eV29] at hp
      exact hp _ _ _ hP hD hS (lv_sub hl [0, 1, 2, 3, 4, 5] rfl)
theorem kX5_finds_0 : (.fieldLink RX5 112 "MeeplehouseModel" "tooMany" "I" : Cond) ∈ wsX5_finds := by decide +kernel
theorem iX5_finds_X5 : ∀ w ∈ wsX50, w ∈ wsX5_finds := by decide +kernel
theorem kX5_finds_2 : (.fieldLink RX5 103 "MeeplehouseModel" "tables" "I" : Cond) ∈ wsX5_finds := by decide +kernel
theorem kX5_finds_3 : (.fieldLink RX5 13 "MeeplehouseModel" "at" "[I" : Cond) ∈ wsX5_finds := by decide +kernel
theorem kX5_finds_4 : (.fieldLink RX5 7 "MeeplehouseModel" "seats" "[I" : Cond) ∈ wsX5_finds := by decide +kernel
theorem kX5_finds_5 : (.fieldLink RX5 115 "MeeplehouseModel" "manyTables" "I" : Cond) ∈ wsX5_finds := by decide +kernel
theorem kX5_finds_6 : (.fieldLink RX5 118 "MeeplehouseModel" "firstTable" "I" : Cond) ∈ wsX5_finds := by decide +kernel
def P_X5_finds (g : St) (a1 : Int32) (r : Int32) (g' : St) : Prop := ∀ V7 : St → Int32 → Prop, ∀ V20 : St → Int32 → Int32 → Int32 → Prop, ∀ V96 : St → Int32 → Int32 → Int32 → Int32 → Prop, ∀ V100 : St → Int32 → Int32 → Int32 → Int32 → Prop, ∀ V101 : St → Int32 → Int32 → Int32 → Int32 → Int32 → Prop, (∀ gv : St, ∀ x2 : Int32, (((gv 0 4) ≤ x2 → (((gv 0 32) = (-1 : Int32) → (r = (0 : Int32) ∧ g' = gv)) ∧ (¬ (gv 0 32) = (-1 : Int32) → (r = (1 : Int32) ∧ g' = gv)))) ∧ (¬ (gv 0 4) ≤ x2 → (V20 gv x2 (1 : Int32) x2))) → V7 gv x2) → (∀ gv : St, ∀ x2 x3 x4 : Int32, (((gv 0 4) ≤ x4 → (V7 gv (x2 + (1 : Int32)))) ∧ (¬ (gv 0 4) ≤ x4 → (vp_in x4 10 ∧ ((¬ (gv 2 x4.toNatClampNeg) = (-1 : Int32) → (V7 gv (x2 + (1 : Int32)))) ∧ ((gv 2 x4.toNatClampNeg) = (-1 : Int32) → (vp_in x4 10 ∧ (((gv 0 32) = (-1 : Int32) → (V96 gv x2 (x3 + ((gv 1 x4.toNatClampNeg) - (1 : Int32))) x4 ((x3 + ((gv 1 x4.toNatClampNeg) - (1 : Int32))) - a1))) ∧ (¬ (gv 0 32) = (-1 : Int32) → ((((x3 + ((gv 1 x4.toNatClampNeg) - (1 : Int32))) - a1) < (gv 0 32) → (V96 gv x2 (x3 + ((gv 1 x4.toNatClampNeg) - (1 : Int32))) x4 ((x3 + ((gv 1 x4.toNatClampNeg) - (1 : Int32))) - a1))) ∧ (¬ ((x3 + ((gv 1 x4.toNatClampNeg) - (1 : Int32))) - a1) < (gv 0 32) → ((¬ ((x3 + ((gv 1 x4.toNatClampNeg) - (1 : Int32))) - a1) = (gv 0 32) → (V100 gv x2 (x3 + ((gv 1 x4.toNatClampNeg) - (1 : Int32))) x4 ((x3 + ((gv 1 x4.toNatClampNeg) - (1 : Int32))) - a1))) ∧ (((x3 + ((gv 1 x4.toNatClampNeg) - (1 : Int32))) - a1) = (gv 0 32) → (((gv 0 31) ≤ ((x4 + (1 : Int32)) - x2) → (V100 gv x2 (x3 + ((gv 1 x4.toNatClampNeg) - (1 : Int32))) x4 ((x3 + ((gv 1 x4.toNatClampNeg) - (1 : Int32))) - a1))) ∧ (¬ (gv 0 31) ≤ ((x4 + (1 : Int32)) - x2) → (V96 gv x2 (x3 + ((gv 1 x4.toNatClampNeg) - (1 : Int32))) x4 ((x3 + ((gv 1 x4.toNatClampNeg) - (1 : Int32))) - a1)))))))))))))))) → V20 gv x2 x3 x4) → (∀ gv : St, ∀ x2 x3 x4 x5 : Int32, (V101 gv x2 x3 x4 x5 (1 : Int32)) → V96 gv x2 x3 x4 x5) → (∀ gv : St, ∀ x2 x3 x4 x5 : Int32, (V101 gv x2 x3 x4 x5 (0 : Int32)) → V100 gv x2 x3 x4 x5) → (∀ gv : St, ∀ x2 x3 x4 x5 t0 : Int32, ((x5 < 0 → (V20 gv x2 x3 (x4 + (1 : Int32)))) ∧ (¬ x5 < 0 → ((t0 = 0 → (V20 gv x2 x3 (x4 + (1 : Int32)))) ∧ (¬ t0 = 0 → (∀ g10 : St, g10 = st_set gv 0 32 x5 → (∀ g11 : St, g11 = st_set g10 0 30 x2 → (∀ g12 : St, g12 = st_set g11 0 31 ((x4 + (1 : Int32)) - x2) → (V20 g12 x2 x3 (x4 + (1 : Int32)))))))))) → V101 gv x2 x3 x4 x5 t0) → (∀ g1 : St, g1 = st_set g 0 32 (-1 : Int32) → (V7 g1 (0 : Int32)))
set_option maxRecDepth 100000 in
set_option maxHeartbeats 4000000 in
theorem c_X5_finds (l : Launch) (dC : Nat → ClassId) (dI : Nat → Nat → Nat) (cI : ClassId) (q : Nat → Nat) (g : St) (a1 : Int32) (r : Int32) (g' : St) (hp : P_X5_finds g a1 r g') (sz : Nat) : Met l yX5_finds wsX5_finds { frames := 0, cells := 0, slots := 0, locals := 0 } (va_Pc [.ref (q 0), .int a1] (wpS (dC, dI) vwCl [(cI, .int)] (wX5 q cI g) sz)) (va_Qi (fun (r' : Int32) (_ : Unit) => r' = r) (fun _ t => wqB (dC, dI) vwCl (wX5 q cI g') (va_A (wX5 q cI g) sz) t) (va_A (wX5 q cI g) sz)) 0 0 (va_A (wX5 q cI g) sz) := by
  refine wr_met (fun A => (va_Qi (fun (r' : Int32) (_ : Unit) => r' = r) (fun _ t => wqB (dC, dI) vwCl (wX5 q cI g') A t) A)) (cc := cX5_finds) (maxL := 7) (ret := (some .boolean)) (by decide) rfl (Nat.le_of_ble_eq_true rfl) ?_
  intro p e s m below meth c A hx hb hml hr hlk hts hown hnm hP hK hN hD hA ls hl
  have hS : va_S A s.heap s.heap [] := va_S.rf
  have hl : lv_has ls 7 [(0, .ref (q 0)), (1, .int a1)] := hl
  obtain ⟨V7, eV7⟩ : ∃ V : St → Int32 → Prop, V = (fun gv x2 => ∀ (H : Heap) (locs : List Loc) (ls : Array Slot), va_P (dC, dI) vwCl (wX5 q cI gv) H → va_D A (wX5 q cI gv) → va_S A s.heap H locs → lv_has ls 7 [(0, .ref (q 0)), (1, .int a1), (2, .int x2)] → W p l e { frames := 0, cells := 0, slots := 0, locals := 0 } s m ([.ref (q 0), .int a1] : List Value).toArray below meth c H locs 0 0 (MQ below (va_Qi (fun (r' : Int32) (_ : Unit) => r' = r) (fun _ t => wqB (dC, dI) vwCl (wX5 q cI g') A t) A) ([.ref (q 0), .int a1] : List Value).toArray s 0 0 A) (F0 m 7 ls [])) := ⟨_, rfl⟩
  obtain ⟨V20, eV20⟩ : ∃ V : St → Int32 → Int32 → Int32 → Prop, V = (fun gv x2 x3 x4 => ∀ (H : Heap) (locs : List Loc) (ls : Array Slot), va_P (dC, dI) vwCl (wX5 q cI gv) H → va_D A (wX5 q cI gv) → va_S A s.heap H locs → lv_has ls 7 [(0, .ref (q 0)), (1, .int a1), (2, .int x2), (3, .int x3), (4, .int x4)] → W p l e { frames := 0, cells := 0, slots := 0, locals := 0 } s m ([.ref (q 0), .int a1] : List Value).toArray below meth c H locs 0 0 (MQ below (va_Qi (fun (r' : Int32) (_ : Unit) => r' = r) (fun _ t => wqB (dC, dI) vwCl (wX5 q cI g') A t) A) ([.ref (q 0), .int a1] : List Value).toArray s 0 0 A) (F0 m 20 ls [])) := ⟨_, rfl⟩
  obtain ⟨V96, eV96⟩ : ∃ V : St → Int32 → Int32 → Int32 → Int32 → Prop, V = (fun gv x2 x3 x4 x5 => ∀ (H : Heap) (locs : List Loc) (ls : Array Slot), va_P (dC, dI) vwCl (wX5 q cI gv) H → va_D A (wX5 q cI gv) → va_S A s.heap H locs → lv_has ls 7 [(0, .ref (q 0)), (1, .int a1), (2, .int x2), (3, .int x3), (4, .int x4), (5, .int x5)] → W p l e { frames := 0, cells := 0, slots := 0, locals := 0 } s m ([.ref (q 0), .int a1] : List Value).toArray below meth c H locs 0 0 (MQ below (va_Qi (fun (r' : Int32) (_ : Unit) => r' = r) (fun _ t => wqB (dC, dI) vwCl (wX5 q cI g') A t) A) ([.ref (q 0), .int a1] : List Value).toArray s 0 0 A) (F0 m 96 ls [])) := ⟨_, rfl⟩
  obtain ⟨V100, eV100⟩ : ∃ V : St → Int32 → Int32 → Int32 → Int32 → Prop, V = (fun gv x2 x3 x4 x5 => ∀ (H : Heap) (locs : List Loc) (ls : Array Slot), va_P (dC, dI) vwCl (wX5 q cI gv) H → va_D A (wX5 q cI gv) → va_S A s.heap H locs → lv_has ls 7 [(0, .ref (q 0)), (1, .int a1), (2, .int x2), (3, .int x3), (4, .int x4), (5, .int x5)] → W p l e { frames := 0, cells := 0, slots := 0, locals := 0 } s m ([.ref (q 0), .int a1] : List Value).toArray below meth c H locs 0 0 (MQ below (va_Qi (fun (r' : Int32) (_ : Unit) => r' = r) (fun _ t => wqB (dC, dI) vwCl (wX5 q cI g') A t) A) ([.ref (q 0), .int a1] : List Value).toArray s 0 0 A) (F0 m 100 ls [])) := ⟨_, rfl⟩
  obtain ⟨V101, eV101⟩ : ∃ V : St → Int32 → Int32 → Int32 → Int32 → Int32 → Prop, V = (fun gv x2 x3 x4 x5 t0 => ∀ (H : Heap) (locs : List Loc) (ls : Array Slot), va_P (dC, dI) vwCl (wX5 q cI gv) H → va_D A (wX5 q cI gv) → va_S A s.heap H locs → lv_has ls 7 [(0, .ref (q 0)), (1, .int a1), (2, .int x2), (3, .int x3), (4, .int x4), (5, .int x5)] → W p l e { frames := 0, cells := 0, slots := 0, locals := 0 } s m ([.ref (q 0), .int a1] : List Value).toArray below meth c H locs 0 0 (MQ below (va_Qi (fun (r' : Int32) (_ : Unit) => r' = r) (fun _ t => wqB (dC, dI) vwCl (wX5 q cI g') A t) A) ([.ref (q 0), .int a1] : List Value).toArray s 0 0 A) (F0 m 101 ls [.int t0])) := ⟨_, rfl⟩
  have hp := hp V7 V20 V96 V100 V101
  have hp := hp (by
    intro gv x2 hp
    rw [eV7]
    intro H locs ls hP hD hS hl
    refine lv_iload_n hx hb dX5_finds_7 rfl (lv_at hl 2 rfl) ?_
    refine lv_aload_n hx hb dX5_finds_8 rfl (lv_at hl 0 rfl) ?_
    refine va_get (D := (dC, dI)) (ci := 5) (v := .int (gv 0 4)) (C := RX5) (T := TX5) (N := 33) hx hb hts iX5_finds_X5 hown hK hP 0 rfl rfl 4 (by decide) (hts _ kX5_finds_2) (fun _ h9 => h9) rfl dX5_finds_9 ?_
    refine lv_icmp_ge (tgt := 146) hx hb dX5_finds_12 (by decide) (fun c3 => ?_) (fun c3 => ?_)
    · have hp := hp.1 c3
      refine lv_aload_n hx hb dX5_finds_146 rfl (lv_at hl 0 rfl) ?_
      refine va_get (D := (dC, dI)) (ci := 5) (v := .int (gv 0 32)) (C := RX5) (T := TX5) (N := 33) hx hb hts iX5_finds_X5 hown hK hP 0 rfl rfl 32 (by decide) (hts _ kX5_finds_0) (fun _ h9 => h9) rfl dX5_finds_147 ?_
      refine lv_iconst (v := -1) hx hb dX5_finds_150 (by decide) ?_
      refine lv_icmp_eq (tgt := 158) hx hb dX5_finds_151 (by decide) (fun c2 => ?_) (fun c2 => ?_)
      · have hp := hp.1 c2
        refine lv_iconst (v := 0) hx hb dX5_finds_158 (by decide) ?_
        exact W.zret (ty := .boolean) hx hb hr rfl (fun t ht _ => ⟨⟨_, (), rfl, hp.1.symm, by rw [ht, hp.2]; exact hP, by rw [hp.2]; exact hD⟩, hS.F ht⟩) hS.2.2 dX5_finds_159
      · have hp := hp.2 c2
        refine lv_iconst (v := 1) hx hb dX5_finds_154 (by decide) ?_
        refine lv_goto (tgt := 159) hx hb dX5_finds_155 (by decide) ?_
        exact W.zret (ty := .boolean) hx hb hr rfl (fun t ht _ => ⟨⟨_, (), rfl, hp.1.symm, by rw [ht, hp.2]; exact hP, by rw [hp.2]; exact hD⟩, hS.F ht⟩) hS.2.2 dX5_finds_159
    · have hp := hp.2 c3
      refine lv_iconst (v := 1) hx hb dX5_finds_15 (by decide) ?_
      refine lv_istore_n (lv' := [(3, .int (1 : Int32)), (0, .ref (q 0)), (1, .int a1), (2, .int x2)]) hx hb dX5_finds_16 rfl hl (by decide) rfl (fun ls hl => ?_)
      refine lv_iload_n hx hb dX5_finds_17 rfl (lv_at hl 3 rfl) ?_
      refine lv_istore (lv' := [(4, .int x2), (3, .int (1 : Int32)), (0, .ref (q 0)), (1, .int a1), (2, .int x2)]) hx hb dX5_finds_18 hl (by decide) rfl (fun ls hl => ?_)
      rw [eV20] at hp
      exact hp _ _ _ hP hD hS (lv_sub hl [2, 3, 4, 1, 0] rfl))
  have hp := hp (by
    intro gv x2 x3 x4 hp
    rw [eV20]
    intro H locs ls hP hD hS hl
    refine lv_iload hx hb dX5_finds_20 (lv_at hl 4 rfl) ?_
    refine lv_aload_n hx hb dX5_finds_22 rfl (lv_at hl 0 rfl) ?_
    refine va_get (D := (dC, dI)) (ci := 5) (v := .int (gv 0 4)) (C := RX5) (T := TX5) (N := 33) hx hb hts iX5_finds_X5 hown hK hP 0 rfl rfl 4 (by decide) (hts _ kX5_finds_2) (fun _ h9 => h9) rfl dX5_finds_23 ?_
    refine lv_icmp_ge (tgt := 140) hx hb dX5_finds_26 (by decide) (fun c9 => ?_) (fun c9 => ?_)
    · have hp := hp.1 c9
      refine lv_iinc (v := x2 + (1 : Int32)) (lv' := [(2, .int (x2 + (1 : Int32))), (0, .ref (q 0)), (1, .int a1), (3, .int x3), (4, .int x4)]) hx hb dX5_finds_140 hl (k := 2) rfl rfl (by decide) rfl (fun ls hl => ?_)
      refine lv_goto (tgt := 7) hx hb dX5_finds_143 (by decide) ?_
      rw [eV7] at hp
      exact hp _ _ _ hP hD hS (lv_sub hl [1, 2, 0] rfl)
    · have hp := hp.2 c9
      refine lv_aload_n hx hb dX5_finds_29 rfl (lv_at hl 0 rfl) ?_
      refine va_get (D := (dC, dI)) (ci := 5) (v := .ref (q 2)) (C := RX5) (T := TX5) (N := 33) hx hb hts iX5_finds_X5 hown hK hP 0 rfl rfl 3 (by decide) (hts _ kX5_finds_3) (fun _ h9 => h9) rfl dX5_finds_30 ?_
      refine lv_iload hx hb dX5_finds_33 (lv_at hl 4 rfl) ?_
      refine va_iald hx hb hK hP 2 0 rfl rfl hp.1 dX5_finds_35 ?_
      have hp := hp.2
      refine lv_iconst (v := -1) hx hb dX5_finds_36 (by decide) ?_
      refine lv_icmp_ne (tgt := 140) hx hb dX5_finds_37 (by decide) (fun c8 => ?_) (fun c8 => ?_)
      · have hp := hp.1 c8
        refine lv_iinc (v := x2 + (1 : Int32)) (lv' := [(2, .int (x2 + (1 : Int32))), (0, .ref (q 0)), (1, .int a1), (3, .int x3), (4, .int x4)]) hx hb dX5_finds_140 hl (k := 2) rfl rfl (by decide) rfl (fun ls hl => ?_)
        refine lv_goto (tgt := 7) hx hb dX5_finds_143 (by decide) ?_
        rw [eV7] at hp
        exact hp _ _ _ hP hD hS (lv_sub hl [1, 2, 0] rfl)
      · have hp := hp.2 c8
        refine lv_iload_n hx hb dX5_finds_40 rfl (lv_at hl 3 rfl) ?_
        refine lv_aload_n hx hb dX5_finds_41 rfl (lv_at hl 0 rfl) ?_
        refine va_get (D := (dC, dI)) (ci := 5) (v := .ref (q 1)) (C := RX5) (T := TX5) (N := 33) hx hb hts iX5_finds_X5 hown hK hP 0 rfl rfl 2 (by decide) (hts _ kX5_finds_4) (fun _ h9 => h9) rfl dX5_finds_42 ?_
        refine lv_iload hx hb dX5_finds_45 (lv_at hl 4 rfl) ?_
        refine va_iald hx hb hK hP 1 0 rfl rfl hp.1 dX5_finds_47 ?_
        have hp := hp.2
        refine lv_iconst (v := 1) hx hb dX5_finds_48 (by decide) ?_
        refine lv_isub hx hb dX5_finds_49 ?_
        refine lv_iadd hx hb dX5_finds_50 ?_
        refine lv_istore_n (lv' := [(3, .int (x3 + ((gv 1 x4.toNatClampNeg) - (1 : Int32)))), (0, .ref (q 0)), (1, .int a1), (2, .int x2), (4, .int x4)]) hx hb dX5_finds_51 rfl hl (by decide) rfl (fun ls hl => ?_)
        refine lv_iload_n hx hb dX5_finds_52 rfl (lv_at hl 0 rfl) ?_
        refine lv_iload_n hx hb dX5_finds_53 rfl (lv_at hl 2 rfl) ?_
        refine lv_isub hx hb dX5_finds_54 ?_
        refine lv_istore (lv' := [(5, .int ((x3 + ((gv 1 x4.toNatClampNeg) - (1 : Int32))) - a1)), (3, .int (x3 + ((gv 1 x4.toNatClampNeg) - (1 : Int32)))), (0, .ref (q 0)), (1, .int a1), (2, .int x2), (4, .int x4)]) hx hb dX5_finds_55 hl (by decide) rfl (fun ls hl => ?_)
        refine lv_aload_n hx hb dX5_finds_57 rfl (lv_at hl 2 rfl) ?_
        refine va_get (D := (dC, dI)) (ci := 5) (v := .int (gv 0 32)) (C := RX5) (T := TX5) (N := 33) hx hb hts iX5_finds_X5 hown hK hP 0 rfl rfl 32 (by decide) (hts _ kX5_finds_0) (fun _ h9 => h9) rfl dX5_finds_58 ?_
        refine lv_iconst (v := -1) hx hb dX5_finds_61 (by decide) ?_
        refine lv_icmp_eq (tgt := 96) hx hb dX5_finds_62 (by decide) (fun c7 => ?_) (fun c7 => ?_)
        · have hp := hp.1 c7
          rw [eV96] at hp
          exact hp _ _ _ hP hD hS (lv_sub hl [2, 3, 4, 1, 5, 0] rfl)
        · have hp := hp.2 c7
          refine lv_iload hx hb dX5_finds_65 (lv_at hl 0 rfl) ?_
          refine lv_aload_n hx hb dX5_finds_67 rfl (lv_at hl 2 rfl) ?_
          refine va_get (D := (dC, dI)) (ci := 5) (v := .int (gv 0 32)) (C := RX5) (T := TX5) (N := 33) hx hb hts iX5_finds_X5 hown hK hP 0 rfl rfl 32 (by decide) (hts _ kX5_finds_0) (fun _ h9 => h9) rfl dX5_finds_68 ?_
          refine lv_icmp_lt (tgt := 96) hx hb dX5_finds_71 (by decide) (fun c6 => ?_) (fun c6 => ?_)
          · have hp := hp.1 c6
            rw [eV96] at hp
            exact hp _ _ _ hP hD hS (lv_sub hl [2, 3, 4, 1, 5, 0] rfl)
          · have hp := hp.2 c6
            refine lv_iload hx hb dX5_finds_74 (lv_at hl 0 rfl) ?_
            refine lv_aload_n hx hb dX5_finds_76 rfl (lv_at hl 2 rfl) ?_
            refine va_get (D := (dC, dI)) (ci := 5) (v := .int (gv 0 32)) (C := RX5) (T := TX5) (N := 33) hx hb hts iX5_finds_X5 hown hK hP 0 rfl rfl 32 (by decide) (hts _ kX5_finds_0) (fun _ h9 => h9) rfl dX5_finds_77 ?_
            refine lv_icmp_ne (tgt := 100) hx hb dX5_finds_80 (by decide) (fun c5 => ?_) (fun c5 => ?_)
            · have hp := hp.1 c5
              rw [eV100] at hp
              exact hp _ _ _ hP hD hS (lv_sub hl [2, 3, 4, 1, 5, 0] rfl)
            · have hp := hp.2 c5
              refine lv_iload hx hb dX5_finds_83 (lv_at hl 5 rfl) ?_
              refine lv_iconst (v := 1) hx hb dX5_finds_85 (by decide) ?_
              refine lv_iadd hx hb dX5_finds_86 ?_
              refine lv_iload_n hx hb dX5_finds_87 rfl (lv_at hl 4 rfl) ?_
              refine lv_isub hx hb dX5_finds_88 ?_
              refine lv_aload_n hx hb dX5_finds_89 rfl (lv_at hl 2 rfl) ?_
              refine va_get (D := (dC, dI)) (ci := 5) (v := .int (gv 0 31)) (C := RX5) (T := TX5) (N := 33) hx hb hts iX5_finds_X5 hown hK hP 0 rfl rfl 31 (by decide) (hts _ kX5_finds_5) (fun _ h9 => h9) rfl dX5_finds_90 ?_
              refine lv_icmp_ge (tgt := 100) hx hb dX5_finds_93 (by decide) (fun c4 => ?_) (fun c4 => ?_)
              · have hp := hp.1 c4
                rw [eV100] at hp
                exact hp _ _ _ hP hD hS (lv_sub hl [2, 3, 4, 1, 5, 0] rfl)
              · have hp := hp.2 c4
                rw [eV96] at hp
                exact hp _ _ _ hP hD hS (lv_sub hl [2, 3, 4, 1, 5, 0] rfl))
  have hp := hp (by
    intro gv x2 x3 x4 x5 hp
    rw [eV96]
    intro H locs ls hP hD hS hl
    refine lv_iconst (v := 1) hx hb dX5_finds_96 (by decide) ?_
    refine lv_goto (tgt := 101) hx hb dX5_finds_97 (by decide) ?_
    rw [eV101] at hp
    exact hp _ _ _ hP hD hS (lv_sub hl [0, 1, 2, 3, 4, 5] rfl))
  have hp := hp (by
    intro gv x2 x3 x4 x5 hp
    rw [eV100]
    intro H locs ls hP hD hS hl
    refine lv_iconst (v := 0) hx hb dX5_finds_100 (by decide) ?_
    rw [eV101] at hp
    exact hp _ _ _ hP hD hS (lv_sub hl [0, 1, 2, 3, 4, 5] rfl))
  have hp := hp (by
    intro gv x2 x3 x4 x5 t0 hp
    rw [eV101]
    intro H locs ls hP hD hS hl
    refine lv_istore (lv' := [(6, .int t0), (0, .ref (q 0)), (1, .int a1), (2, .int x2), (3, .int x3), (4, .int x4), (5, .int x5)]) hx hb dX5_finds_101 hl (by decide) rfl (fun ls hl => ?_)
    refine lv_iload hx hb dX5_finds_103 (lv_at hl 6 rfl) ?_
    refine lv_if_lt (tgt := 134) hx hb dX5_finds_105 (by decide) (fun c14 => ?_) (fun c14 => ?_)
    · have hp := hp.1 c14
      refine lv_iinc (v := x4 + (1 : Int32)) (lv' := [(4, .int (x4 + (1 : Int32))), (6, .int t0), (0, .ref (q 0)), (1, .int a1), (2, .int x2), (3, .int x3), (5, .int x5)]) hx hb dX5_finds_134 hl (k := 5) rfl rfl (by decide) rfl (fun ls hl => ?_)
      refine lv_goto (tgt := 20) hx hb dX5_finds_137 (by decide) ?_
      rw [eV20] at hp
      exact hp _ _ _ hP hD hS (lv_sub hl [2, 3, 4, 5, 0] rfl)
    · have hp := hp.2 c14
      refine lv_iload hx hb dX5_finds_108 (lv_at hl 0 rfl) ?_
      refine lv_if_eq (tgt := 134) hx hb dX5_finds_110 (by decide) (fun c13 => ?_) (fun c13 => ?_)
      · have hp := hp.1 c13
        refine lv_iinc (v := x4 + (1 : Int32)) (lv' := [(4, .int (x4 + (1 : Int32))), (6, .int t0), (0, .ref (q 0)), (1, .int a1), (2, .int x2), (3, .int x3), (5, .int x5)]) hx hb dX5_finds_134 hl (k := 5) rfl rfl (by decide) rfl (fun ls hl => ?_)
        refine lv_goto (tgt := 20) hx hb dX5_finds_137 (by decide) ?_
        rw [eV20] at hp
        exact hp _ _ _ hP hD hS (lv_sub hl [2, 3, 4, 5, 0] rfl)
      · have hp := hp.2 c13
        refine lv_aload_n hx hb dX5_finds_113 rfl (lv_at hl 1 rfl) ?_
        refine lv_iload hx hb dX5_finds_114 (lv_at hl 6 rfl) ?_
        refine va_put (D := (dC, dI)) (ci := 5) (v := .int x5) (ty := .int) (C := RX5) (T := TX5) (N := 33) hx hb hts iX5_finds_X5 tyX5 tyX5_ok nmX5 hown hK hP hD hS 0 rfl rfl 32 (by decide) (hts _ kX5_finds_0) (fun _ h9 => h9) rfl (by decide +kernel) rfl rfl (Nat.le_of_ble_eq_true rfl) dX5_finds_116 (fun H locs hP hD hS => ?_)
        obtain ⟨g10, eg10⟩ : ∃ z : St, z = st_set gv 0 32 x5 := ⟨_, rfl⟩
        have hp := hp g10 eg10
        have hP : va_P (dC, dI) vwCl (wX5 q cI g10) H := by rw [eg10]; exact hP
        have hD : va_D A (wX5 q cI g10) := by rw [eg10]; exact hD
        refine lv_aload_n hx hb dX5_finds_119 rfl (lv_at hl 1 rfl) ?_
        refine lv_iload_n hx hb dX5_finds_120 rfl (lv_at hl 3 rfl) ?_
        refine va_put (D := (dC, dI)) (ci := 5) (v := .int x2) (ty := .int) (C := RX5) (T := TX5) (N := 33) hx hb hts iX5_finds_X5 tyX5 tyX5_ok nmX5 hown hK hP hD hS 0 rfl rfl 30 (by decide) (hts _ kX5_finds_6) (fun _ h9 => h9) rfl (by decide +kernel) rfl rfl (Nat.le_of_ble_eq_true rfl) dX5_finds_121 (fun H locs hP hD hS => ?_)
        obtain ⟨g11, eg11⟩ : ∃ z : St, z = st_set g10 0 30 x2 := ⟨_, rfl⟩
        have hp := hp g11 eg11
        have hP : va_P (dC, dI) vwCl (wX5 q cI g11) H := by rw [eg11]; exact hP
        have hD : va_D A (wX5 q cI g11) := by rw [eg11]; exact hD
        refine lv_aload_n hx hb dX5_finds_124 rfl (lv_at hl 1 rfl) ?_
        refine lv_iload hx hb dX5_finds_125 (lv_at hl 5 rfl) ?_
        refine lv_iconst (v := 1) hx hb dX5_finds_127 (by decide) ?_
        refine lv_iadd hx hb dX5_finds_128 ?_
        refine lv_iload_n hx hb dX5_finds_129 rfl (lv_at hl 3 rfl) ?_
        refine lv_isub hx hb dX5_finds_130 ?_
        refine va_put (D := (dC, dI)) (ci := 5) (v := .int ((x4 + (1 : Int32)) - x2)) (ty := .int) (C := RX5) (T := TX5) (N := 33) hx hb hts iX5_finds_X5 tyX5 tyX5_ok nmX5 hown hK hP hD hS 0 rfl rfl 31 (by decide) (hts _ kX5_finds_5) (fun _ h9 => h9) rfl (by decide +kernel) rfl rfl (Nat.le_of_ble_eq_true rfl) dX5_finds_131 (fun H locs hP hD hS => ?_)
        obtain ⟨g12, eg12⟩ : ∃ z : St, z = st_set g11 0 31 ((x4 + (1 : Int32)) - x2) := ⟨_, rfl⟩
        have hp := hp g12 eg12
        have hP : va_P (dC, dI) vwCl (wX5 q cI g12) H := by rw [eg12]; exact hP
        have hD : va_D A (wX5 q cI g12) := by rw [eg12]; exact hD
        refine lv_iinc (v := x4 + (1 : Int32)) (lv' := [(4, .int (x4 + (1 : Int32))), (6, .int t0), (0, .ref (q 0)), (1, .int a1), (2, .int x2), (3, .int x3), (5, .int x5)]) hx hb dX5_finds_134 hl (k := 5) rfl rfl (by decide) rfl (fun ls hl => ?_)
        refine lv_goto (tgt := 20) hx hb dX5_finds_137 (by decide) ?_
        rw [eV20] at hp
        exact hp _ _ _ hP hD hS (lv_sub hl [2, 3, 4, 5, 0] rfl))
  refine lv_aload_n hx hb dX5_finds_0 rfl (lv_at hl 0 rfl) ?_
  refine lv_iconst (v := -1) hx hb dX5_finds_1 (by decide) ?_
  refine va_put (D := (dC, dI)) (ci := 5) (v := .int (-1 : Int32)) (ty := .int) (C := RX5) (T := TX5) (N := 33) hx hb hts iX5_finds_X5 tyX5 tyX5_ok nmX5 hown hK hP hD hS 0 rfl rfl 32 (by decide) (hts _ kX5_finds_0) (fun _ h9 => h9) rfl (by decide +kernel) rfl rfl (Nat.le_of_ble_eq_true rfl) dX5_finds_2 (fun H locs hP hD hS => ?_)
  obtain ⟨g1, eg1⟩ : ∃ z : St, z = st_set g 0 32 (-1 : Int32) := ⟨_, rfl⟩
  have hp := hp g1 eg1
  have hP : va_P (dC, dI) vwCl (wX5 q cI g1) H := by rw [eg1]; exact hP
  have hD : va_D A (wX5 q cI g1) := by rw [eg1]; exact hD
  refine lv_iconst (v := 0) hx hb dX5_finds_5 (by decide) ?_
  refine lv_istore_n (lv' := [(2, .int (0 : Int32)), (0, .ref (q 0)), (1, .int a1)]) hx hb dX5_finds_6 rfl hl (by decide) rfl (fun ls hl => ?_)
  rw [eV7] at hp
  exact hp _ _ _ hP hD hS (lv_sub hl [1, 2, 0] rfl)
theorem kX5_sits_0 : (.fieldLink RX5 16 "MeeplehouseModel" "players" "[I" : Cond) ∈ wsX5_sits := by decide +kernel
theorem iX5_sits_X5 : ∀ w ∈ wsX50, w ∈ wsX5_sits := by decide +kernel
theorem kX5_sits_2 : (.fieldLink RX5 118 "MeeplehouseModel" "firstTable" "I" : Cond) ∈ wsX5_sits := by decide +kernel
theorem kX5_sits_3 : (.fieldLink RX5 115 "MeeplehouseModel" "manyTables" "I" : Cond) ∈ wsX5_sits := by decide +kernel
theorem kX5_sits_4 : (.fieldLink RX5 22 "MeeplehouseModel" "state" "[I" : Cond) ∈ wsX5_sits := by decide +kernel
theorem kX5_sits_5 : (.fieldLink RX5 25 "MeeplehouseModel" "since" "[I" : Cond) ∈ wsX5_sits := by decide +kernel
theorem kX5_sits_6 : (.fieldLink RX5 96 "MeeplehouseModel" "now" "I" : Cond) ∈ wsX5_sits := by decide +kernel
theorem kX5_sits_7 : (.fieldLink RX5 13 "MeeplehouseModel" "at" "[I" : Cond) ∈ wsX5_sits := by decide +kernel
def P_X5_sits (g : St) (a1 : Int32) (r : Int32) (g' : St) : Prop := ∀ V20 : St → Int32 → Prop, (∀ gv : St, ∀ x2 : Int32, ((((gv 0 30) + (gv 0 31)) ≤ x2 → (vp_in a1 30 ∧ (∀ g4 : St, g4 = st_set gv 5 a1.toNatClampNeg (1 : Int32) → (vp_in a1 30 ∧ (∀ g5 : St, g5 = st_set g4 6 a1.toNatClampNeg (g4 0 1) → (r = (1 : Int32) ∧ g' = g5)))))) ∧ (¬ ((gv 0 30) + (gv 0 31)) ≤ x2 → (vp_in x2 10 ∧ (∀ g6 : St, g6 = st_set gv 2 x2.toNatClampNeg a1 → (V20 g6 (x2 + (1 : Int32))))))) → V20 gv x2) → (vp_in a1 30 ∧ (∃ (r1 : Int32) (g2 : St), P_X5_finds g (g 3 a1.toNatClampNeg) r1 g2 ∧ ((¬ r1 = 0 → (V20 g2 (g2 0 30))) ∧ (r1 = 0 → (r = (0 : Int32) ∧ g' = g2)))))
set_option maxRecDepth 100000 in
set_option maxHeartbeats 4000000 in
theorem c_X5_sits (l : Launch) (dC : Nat → ClassId) (dI : Nat → Nat → Nat) (cI : ClassId) (q : Nat → Nat) (g : St) (a1 : Int32) (r : Int32) (g' : St) (hp : P_X5_sits g a1 r g') (sz : Nat) : Met l yX5_sits wsX5_sits { frames := 1, cells := 0, slots := 0, locals := 26 } (va_Pc [.ref (q 0), .int a1] (wpS (dC, dI) vwCl [(cI, .int)] (wX5 q cI g) sz)) (va_Qi (fun (r' : Int32) (_ : Unit) => r' = r) (fun _ t => wqB (dC, dI) vwCl (wX5 q cI g') (va_A (wX5 q cI g) sz) t) (va_A (wX5 q cI g) sz)) 0 0 (va_A (wX5 q cI g) sz) := by
  refine wr_met (fun A => (va_Qi (fun (r' : Int32) (_ : Unit) => r' = r) (fun _ t => wqB (dC, dI) vwCl (wX5 q cI g') A t) A)) (cc := cX5_sits) (maxL := 3) (ret := (some .boolean)) (by decide) rfl (Nat.le_of_ble_eq_true rfl) ?_
  intro p e s m below meth c A hx hb hml hr hlk hts hown hnm hP hK hN hD hA ls hl
  have hS : va_S A s.heap s.heap [] := va_S.rf
  have hl : lv_has ls 3 [(0, .ref (q 0)), (1, .int a1)] := hl
  obtain ⟨V20, eV20⟩ : ∃ V : St → Int32 → Prop, V = (fun gv x2 => ∀ (H : Heap) (locs : List Loc) (ls : Array Slot), va_P (dC, dI) vwCl (wX5 q cI gv) H → va_D A (wX5 q cI gv) → va_S A s.heap H locs → lv_has ls 3 [(0, .ref (q 0)), (1, .int a1), (2, .int x2)] → W p l e { frames := 1, cells := 0, slots := 0, locals := 26 } s m ([.ref (q 0), .int a1] : List Value).toArray below meth c H locs 0 0 (MQ below (va_Qi (fun (r' : Int32) (_ : Unit) => r' = r) (fun _ t => wqB (dC, dI) vwCl (wX5 q cI g') A t) A) ([.ref (q 0), .int a1] : List Value).toArray s 0 0 A) (F0 m 20 ls [])) := ⟨_, rfl⟩
  have hp := hp V20
  have hp := hp (by
    intro gv x2 hp
    rw [eV20]
    intro H locs ls hP hD hS hl
    refine lv_iload_n hx hb dX5_sits_20 rfl (lv_at hl 2 rfl) ?_
    refine lv_aload_n hx hb dX5_sits_21 rfl (lv_at hl 0 rfl) ?_
    refine va_get (D := (dC, dI)) (ci := 5) (v := .int (gv 0 30)) (C := RX5) (T := TX5) (N := 33) hx hb hts iX5_sits_X5 hown hK hP 0 rfl rfl 30 (by decide) (hts _ kX5_sits_2) (fun _ h9 => h9) rfl dX5_sits_22 ?_
    refine lv_aload_n hx hb dX5_sits_25 rfl (lv_at hl 0 rfl) ?_
    refine va_get (D := (dC, dI)) (ci := 5) (v := .int (gv 0 31)) (C := RX5) (T := TX5) (N := 33) hx hb hts iX5_sits_X5 hown hK hP 0 rfl rfl 31 (by decide) (hts _ kX5_sits_3) (fun _ h9 => h9) rfl dX5_sits_26 ?_
    refine lv_iadd hx hb dX5_sits_29 ?_
    refine lv_icmp_ge (tgt := 46) hx hb dX5_sits_30 (by decide) (fun c7 => ?_) (fun c7 => ?_)
    · have hp := hp.1 c7
      refine lv_aload_n hx hb dX5_sits_46 rfl (lv_at hl 0 rfl) ?_
      refine va_get (D := (dC, dI)) (ci := 5) (v := .ref (q 5)) (C := RX5) (T := TX5) (N := 33) hx hb hts iX5_sits_X5 hown hK hP 0 rfl rfl 7 (by decide) (hts _ kX5_sits_4) (fun _ h9 => h9) rfl dX5_sits_47 ?_
      refine lv_iload_n hx hb dX5_sits_50 rfl (lv_at hl 1 rfl) ?_
      refine lv_iconst (v := 1) hx hb dX5_sits_51 (by decide) ?_
      refine va_iast hx hb hK hP hD hS 5 0 rfl rfl hp.1 dX5_sits_52 (fun H locs hP hD hS => ?_)
      have hp := hp.2
      obtain ⟨g4, eg4⟩ : ∃ z : St, z = st_set gv 5 a1.toNatClampNeg (1 : Int32) := ⟨_, rfl⟩
      have hp := hp g4 eg4
      have hP : va_P (dC, dI) vwCl (wX5 q cI g4) H := by rw [eg4]; exact hP
      have hD : va_D A (wX5 q cI g4) := by rw [eg4]; exact hD
      refine lv_aload_n hx hb dX5_sits_53 rfl (lv_at hl 0 rfl) ?_
      refine va_get (D := (dC, dI)) (ci := 5) (v := .ref (q 6)) (C := RX5) (T := TX5) (N := 33) hx hb hts iX5_sits_X5 hown hK hP 0 rfl rfl 8 (by decide) (hts _ kX5_sits_5) (fun _ h9 => h9) rfl dX5_sits_54 ?_
      refine lv_iload_n hx hb dX5_sits_57 rfl (lv_at hl 1 rfl) ?_
      refine lv_aload_n hx hb dX5_sits_58 rfl (lv_at hl 0 rfl) ?_
      refine va_get (D := (dC, dI)) (ci := 5) (v := .int (g4 0 1)) (C := RX5) (T := TX5) (N := 33) hx hb hts iX5_sits_X5 hown hK hP 0 rfl rfl 1 (by decide) (hts _ kX5_sits_6) (fun _ h9 => h9) rfl dX5_sits_59 ?_
      refine va_iast hx hb hK hP hD hS 6 0 rfl rfl hp.1 dX5_sits_62 (fun H locs hP hD hS => ?_)
      have hp := hp.2
      obtain ⟨g5, eg5⟩ : ∃ z : St, z = st_set g4 6 a1.toNatClampNeg (g4 0 1) := ⟨_, rfl⟩
      have hp := hp g5 eg5
      have hP : va_P (dC, dI) vwCl (wX5 q cI g5) H := by rw [eg5]; exact hP
      have hD : va_D A (wX5 q cI g5) := by rw [eg5]; exact hD
      refine lv_iconst (v := 1) hx hb dX5_sits_63 (by decide) ?_
      exact W.zret (ty := .boolean) hx hb hr rfl (fun t ht _ => ⟨⟨_, (), rfl, hp.1.symm, by rw [ht, hp.2]; exact hP, by rw [hp.2]; exact hD⟩, hS.F ht⟩) hS.2.2 dX5_sits_64
    · have hp := hp.2 c7
      refine lv_aload_n hx hb dX5_sits_33 rfl (lv_at hl 0 rfl) ?_
      refine va_get (D := (dC, dI)) (ci := 5) (v := .ref (q 2)) (C := RX5) (T := TX5) (N := 33) hx hb hts iX5_sits_X5 hown hK hP 0 rfl rfl 3 (by decide) (hts _ kX5_sits_7) (fun _ h9 => h9) rfl dX5_sits_34 ?_
      refine lv_iload_n hx hb dX5_sits_37 rfl (lv_at hl 2 rfl) ?_
      refine lv_iload_n hx hb dX5_sits_38 rfl (lv_at hl 1 rfl) ?_
      refine va_iast hx hb hK hP hD hS 2 0 rfl rfl hp.1 dX5_sits_39 (fun H locs hP hD hS => ?_)
      have hp := hp.2
      obtain ⟨g6, eg6⟩ : ∃ z : St, z = st_set gv 2 x2.toNatClampNeg a1 := ⟨_, rfl⟩
      have hp := hp g6 eg6
      have hP : va_P (dC, dI) vwCl (wX5 q cI g6) H := by rw [eg6]; exact hP
      have hD : va_D A (wX5 q cI g6) := by rw [eg6]; exact hD
      refine lv_iinc (v := x2 + (1 : Int32)) (lv' := [(2, .int (x2 + (1 : Int32))), (0, .ref (q 0)), (1, .int a1)]) hx hb dX5_sits_40 hl (k := 2) rfl rfl (by decide) rfl (fun ls hl => ?_)
      refine lv_goto (tgt := 20) hx hb dX5_sits_43 (by decide) ?_
      rw [eV20] at hp
      exact hp _ _ _ hP hD hS (lv_sub hl [1, 2, 0] rfl))
  refine lv_aload_n hx hb dX5_sits_0 rfl (lv_at hl 0 rfl) ?_
  refine lv_aload_n hx hb dX5_sits_1 rfl (lv_at hl 0 rfl) ?_
  refine va_get (D := (dC, dI)) (ci := 5) (v := .ref (q 3)) (C := RX5) (T := TX5) (N := 33) hx hb hts iX5_sits_X5 hown hK hP 0 rfl rfl 5 (by decide) (hts _ kX5_sits_0) (fun _ h9 => h9) rfl dX5_sits_2 ?_
  refine lv_iload_n hx hb dX5_sits_5 rfl (lv_at hl 1 rfl) ?_
  refine va_iald hx hb hK hP 3 0 rfl rfl hp.1 dX5_sits_6 ?_
  have hp := hp.2
  obtain ⟨r1, g2, hg2, hp⟩ := hp
  refine wr_Vi (As := [.int (g 3 a1.toNatClampNeg)]) (rest := []) (w1 := []) (w2 := []) (ws1 := wX5 q cI g2) ⟨hx, hb, hml, hown, hts⟩ (c_X5_finds l dC dI cI q g (g 3 a1.toNatClampNeg) r1 g2 hg2 _) (cwV 1 hts gX5_sits_X5_finds rfl rfl rfl (by decide +kernel) ⟨Nat.le_of_ble_eq_true rfl, Nat.le_of_ble_eq_true rfl⟩) hP hD hS hA hK hN (List.append_nil _).symm (List.append_nil _) rfl rfl rfl rfl hl.1 (Nat.le_of_ble_eq_true rfl) ⟨Nat.zero_le _, Nat.zero_le _⟩ dX5_sits_7 (fun H locs hP hD hS => ?_)
  refine lv_if_ne (tgt := 15) hx hb dX5_sits_10 (by decide) (fun c3 => ?_) (fun c3 => ?_)
  · have hp := hp.1 c3
    refine lv_aload_n hx hb dX5_sits_15 rfl (lv_at hl 0 rfl) ?_
    refine va_get (D := (dC, dI)) (ci := 5) (v := .int (g2 0 30)) (C := RX5) (T := TX5) (N := 33) hx hb hts iX5_sits_X5 hown hK hP 0 rfl rfl 30 (by decide) (hts _ kX5_sits_2) (fun _ h9 => h9) rfl dX5_sits_16 ?_
    refine lv_istore_n (lv' := [(2, .int (g2 0 30)), (0, .ref (q 0)), (1, .int a1)]) hx hb dX5_sits_19 rfl hl (by decide) rfl (fun ls hl => ?_)
    rw [eV20] at hp
    exact hp _ _ _ hP hD hS (lv_sub hl [1, 2, 0] rfl)
  · have hp := hp.2 c3
    refine lv_iconst (v := 0) hx hb dX5_sits_13 (by decide) ?_
    exact W.zret (ty := .boolean) hx hb hr rfl (fun t ht _ => ⟨⟨_, (), rfl, hp.1.symm, by rw [ht, hp.2]; exact hP, by rw [hp.2]; exact hD⟩, hS.F ht⟩) hS.2.2 dX5_sits_14
theorem kX5_arrive_0 : (.fieldLink RX5 93 "MeeplehouseModel" "groups" "I" : Cond) ∈ wsX5_arrive := by decide +kernel
theorem iX5_arrive_X5 : ∀ w ∈ wsX50, w ∈ wsX5_arrive := by decide +kernel
theorem kX5_arrive_2 : (.fieldLink RX5 16 "MeeplehouseModel" "players" "[I" : Cond) ∈ wsX5_arrive := by decide +kernel
theorem kX5_arrive_3 : (.fieldLink RX5 19 "MeeplehouseModel" "stay" "[I" : Cond) ∈ wsX5_arrive := by decide +kernel
theorem kX5_arrive_4 : (.fieldLink RX5 28 "MeeplehouseModel" "copy" "[I" : Cond) ∈ wsX5_arrive := by decide +kernel
theorem kX5_arrive_5 : (.fieldLink RX5 22 "MeeplehouseModel" "state" "[I" : Cond) ∈ wsX5_arrive := by decide +kernel
def P_X5_arrive (g : St) (a1 : Int32) (a2 : Int32) (r : Int32) (g' : St) : Prop := ∀ V23 : St → Prop, ∀ V41 : St → Int32 → Prop, (∀ gv : St, (V41 gv (1 : Int32)) → V23 gv) → (∀ gv : St, ∀ t0 : Int32, (∃ (r6 : Int32) (g7 : St), P_X5_isFine gv t0 r6 g7 ∧ ((¬ r6 = 0 → (vp_in (g7 0 10) 30 ∧ (∀ g8 : St, g8 = st_set g7 3 (g7 0 10).toNatClampNeg a1 → (vp_in (g7 0 10) 30 ∧ (∀ g9 : St, g9 = st_set g8 4 (g7 0 10).toNatClampNeg a2 → (vp_in (g7 0 10) 30 ∧ (∀ g10 : St, g10 = st_set g9 7 (g7 0 10).toNatClampNeg (-1 : Int32) → (∀ g11 : St, g11 = st_set g10 0 10 ((g10 0 10) + (1 : Int32)) → (∃ (r12 : Int32) (g13 : St), P_X5_sits g11 (g7 0 10) r12 g13 ∧ ((r12 = 0 → (vp_in (g7 0 10) 30 ∧ (∀ g14 : St, g14 = st_set g13 5 (g7 0 10).toNatClampNeg (0 : Int32) → (r = (g7 0 10) ∧ g' = g14)))) ∧ (¬ r12 = 0 → (vp_in (g7 0 10) 30 ∧ (∀ g15 : St, g15 = st_set g13 5 (g7 0 10).toNatClampNeg (1 : Int32) → (r = (g7 0 10) ∧ g' = g15)))))))))))))) ∧ (r6 = 0 → (r = (0 : Int32) ∧ g' = g7)))) → V41 gv t0) → (∃ r1 : Int32, P_X5_isIn a1 (1 : Int32) (12 : Int32) r1 ∧ ((r1 = 0 → (V23 g)) ∧ (¬ r1 = 0 → (∃ r2 : Int32, P_X5_isIn a2 (10 : Int32) (600 : Int32) r2 ∧ ((¬ r2 = 0 → ((¬ (g 0 10) = (30 : Int32) → (V41 g (0 : Int32))) ∧ ((g 0 10) = (30 : Int32) → (V41 g (2 : Int32))))) ∧ (r2 = 0 → (V23 g)))))))
set_option maxRecDepth 100000 in
set_option maxHeartbeats 4000000 in
theorem c_X5_arrive (l : Launch) (dC : Nat → ClassId) (dI : Nat → Nat → Nat) (cI : ClassId) (q : Nat → Nat) (g : St) (a1 : Int32) (a2 : Int32) (r : Int32) (g' : St) (hp : P_X5_arrive g a1 a2 r g') (sz : Nat) : Met l yX5_arrive wsX5_arrive { frames := 2, cells := 0, slots := 0, locals := 48 } (va_Pc [.ref (q 0), .int a1, .int a2] (wpS (dC, dI) vwCl [(cI, .int)] (wX5 q cI g) sz)) (va_Qi (fun (r' : Int32) (_ : Unit) => r' = r) (fun _ t => wqB (dC, dI) vwCl (wX5 q cI g') (va_A (wX5 q cI g) sz) t) (va_A (wX5 q cI g) sz)) 0 0 (va_A (wX5 q cI g) sz) := by
  refine wr_met (fun A => (va_Qi (fun (r' : Int32) (_ : Unit) => r' = r) (fun _ t => wqB (dC, dI) vwCl (wX5 q cI g') A t) A)) (cc := cX5_arrive) (maxL := 4) (ret := (some .int)) (by decide) rfl (Nat.le_of_ble_eq_true rfl) ?_
  intro p e s m below meth c A hx hb hml hr hlk hts hown hnm hP hK hN hD hA ls hl
  have hS : va_S A s.heap s.heap [] := va_S.rf
  have hl : lv_has ls 4 [(0, .ref (q 0)), (1, .int a1), (2, .int a2)] := hl
  obtain ⟨V23, eV23⟩ : ∃ V : St → Prop, V = (fun gv => ∀ (H : Heap) (locs : List Loc) (ls : Array Slot), va_P (dC, dI) vwCl (wX5 q cI gv) H → va_D A (wX5 q cI gv) → va_S A s.heap H locs → lv_has ls 4 [(0, .ref (q 0)), (1, .int a1), (2, .int a2)] → W p l e { frames := 2, cells := 0, slots := 0, locals := 48 } s m ([.ref (q 0), .int a1, .int a2] : List Value).toArray below meth c H locs 0 0 (MQ below (va_Qi (fun (r' : Int32) (_ : Unit) => r' = r) (fun _ t => wqB (dC, dI) vwCl (wX5 q cI g') A t) A) ([.ref (q 0), .int a1, .int a2] : List Value).toArray s 0 0 A) (F0 m 23 ls [.ref (q 0)])) := ⟨_, rfl⟩
  obtain ⟨V41, eV41⟩ : ∃ V : St → Int32 → Prop, V = (fun gv t0 => ∀ (H : Heap) (locs : List Loc) (ls : Array Slot), va_P (dC, dI) vwCl (wX5 q cI gv) H → va_D A (wX5 q cI gv) → va_S A s.heap H locs → lv_has ls 4 [(0, .ref (q 0)), (1, .int a1), (2, .int a2)] → W p l e { frames := 2, cells := 0, slots := 0, locals := 48 } s m ([.ref (q 0), .int a1, .int a2] : List Value).toArray below meth c H locs 0 0 (MQ below (va_Qi (fun (r' : Int32) (_ : Unit) => r' = r) (fun _ t => wqB (dC, dI) vwCl (wX5 q cI g') A t) A) ([.ref (q 0), .int a1, .int a2] : List Value).toArray s 0 0 A) (F0 m 41 ls [.int t0, .ref (q 0)])) := ⟨_, rfl⟩
  have hp := hp V23 V41
  have hp := hp (by
    intro gv hp
    rw [eV23]
    intro H locs ls hP hD hS hl
    refine lv_iconst (v := 1) hx hb dX5_arrive_23 (by decide) ?_
    refine lv_goto (tgt := 41) hx hb dX5_arrive_24 (by decide) ?_
    rw [eV41] at hp
    exact hp _ _ _ hP hD hS (lv_sub hl [0, 1, 2] rfl))
  have hp := hp (by
    intro gv t0 hp
    rw [eV41]
    intro H locs ls hP hD hS hl
    obtain ⟨r6, g7, hg7, hp⟩ := hp
    refine wr_Vi (As := [.int t0]) (rest := []) (w1 := []) (w2 := []) (ws1 := wX5 q cI g7) ⟨hx, hb, hml, hown, hts⟩ (c_X5_isFine l dC dI cI q gv t0 r6 g7 hg7 _) (cwV 1 hts gX5_arrive_X5_isFine rfl rfl rfl (by decide +kernel) ⟨Nat.le_of_ble_eq_true rfl, Nat.le_of_ble_eq_true rfl⟩) hP hD hS hA hK hN (List.append_nil _).symm (List.append_nil _) rfl rfl rfl rfl hl.1 (Nat.le_of_ble_eq_true rfl) ⟨Nat.zero_le _, Nat.zero_le _⟩ dX5_arrive_41 (fun H locs hP hD hS => ?_)
    refine lv_if_ne (tgt := 49) hx hb dX5_arrive_44 (by decide) (fun c17 => ?_) (fun c17 => ?_)
    · have hp := hp.1 c17
      refine lv_aload_n hx hb dX5_arrive_49 rfl (lv_at hl 0 rfl) ?_
      refine va_get (D := (dC, dI)) (ci := 5) (v := .int (g7 0 10)) (C := RX5) (T := TX5) (N := 33) hx hb hts iX5_arrive_X5 hown hK hP 0 rfl rfl 10 (by decide) (hts _ kX5_arrive_0) (fun _ h9 => h9) rfl dX5_arrive_50 ?_
      refine lv_istore_n (lv' := [(3, .int (g7 0 10)), (0, .ref (q 0)), (1, .int a1), (2, .int a2)]) hx hb dX5_arrive_53 rfl hl (by decide) rfl (fun ls hl => ?_)
      refine lv_aload_n hx hb dX5_arrive_54 rfl (lv_at hl 1 rfl) ?_
      refine va_get (D := (dC, dI)) (ci := 5) (v := .ref (q 3)) (C := RX5) (T := TX5) (N := 33) hx hb hts iX5_arrive_X5 hown hK hP 0 rfl rfl 5 (by decide) (hts _ kX5_arrive_2) (fun _ h9 => h9) rfl dX5_arrive_55 ?_
      refine lv_iload_n hx hb dX5_arrive_58 rfl (lv_at hl 0 rfl) ?_
      refine lv_iload_n hx hb dX5_arrive_59 rfl (lv_at hl 2 rfl) ?_
      refine va_iast hx hb hK hP hD hS 3 0 rfl rfl hp.1 dX5_arrive_60 (fun H locs hP hD hS => ?_)
      have hp := hp.2
      obtain ⟨g8, eg8⟩ : ∃ z : St, z = st_set g7 3 (g7 0 10).toNatClampNeg a1 := ⟨_, rfl⟩
      have hp := hp g8 eg8
      have hP : va_P (dC, dI) vwCl (wX5 q cI g8) H := by rw [eg8]; exact hP
      have hD : va_D A (wX5 q cI g8) := by rw [eg8]; exact hD
      refine lv_aload_n hx hb dX5_arrive_61 rfl (lv_at hl 1 rfl) ?_
      refine va_get (D := (dC, dI)) (ci := 5) (v := .ref (q 4)) (C := RX5) (T := TX5) (N := 33) hx hb hts iX5_arrive_X5 hown hK hP 0 rfl rfl 6 (by decide) (hts _ kX5_arrive_3) (fun _ h9 => h9) rfl dX5_arrive_62 ?_
      refine lv_iload_n hx hb dX5_arrive_65 rfl (lv_at hl 0 rfl) ?_
      refine lv_iload_n hx hb dX5_arrive_66 rfl (lv_at hl 3 rfl) ?_
      refine va_iast hx hb hK hP hD hS 4 0 rfl rfl hp.1 dX5_arrive_67 (fun H locs hP hD hS => ?_)
      have hp := hp.2
      obtain ⟨g9, eg9⟩ : ∃ z : St, z = st_set g8 4 (g7 0 10).toNatClampNeg a2 := ⟨_, rfl⟩
      have hp := hp g9 eg9
      have hP : va_P (dC, dI) vwCl (wX5 q cI g9) H := by rw [eg9]; exact hP
      have hD : va_D A (wX5 q cI g9) := by rw [eg9]; exact hD
      refine lv_aload_n hx hb dX5_arrive_68 rfl (lv_at hl 1 rfl) ?_
      refine va_get (D := (dC, dI)) (ci := 5) (v := .ref (q 7)) (C := RX5) (T := TX5) (N := 33) hx hb hts iX5_arrive_X5 hown hK hP 0 rfl rfl 9 (by decide) (hts _ kX5_arrive_4) (fun _ h9 => h9) rfl dX5_arrive_69 ?_
      refine lv_iload_n hx hb dX5_arrive_72 rfl (lv_at hl 0 rfl) ?_
      refine lv_iconst (v := -1) hx hb dX5_arrive_73 (by decide) ?_
      refine va_iast hx hb hK hP hD hS 7 0 rfl rfl hp.1 dX5_arrive_74 (fun H locs hP hD hS => ?_)
      have hp := hp.2
      obtain ⟨g10, eg10⟩ : ∃ z : St, z = st_set g9 7 (g7 0 10).toNatClampNeg (-1 : Int32) := ⟨_, rfl⟩
      have hp := hp g10 eg10
      have hP : va_P (dC, dI) vwCl (wX5 q cI g10) H := by rw [eg10]; exact hP
      have hD : va_D A (wX5 q cI g10) := by rw [eg10]; exact hD
      refine lv_aload_n hx hb dX5_arrive_75 rfl (lv_at hl 1 rfl) ?_
      refine lv_dup hx hb dX5_arrive_76 rfl ?_
      refine va_get (D := (dC, dI)) (ci := 5) (v := .int (g10 0 10)) (C := RX5) (T := TX5) (N := 33) hx hb hts iX5_arrive_X5 hown hK hP 0 rfl rfl 10 (by decide) (hts _ kX5_arrive_0) (fun _ h9 => h9) rfl dX5_arrive_77 ?_
      refine lv_iconst (v := 1) hx hb dX5_arrive_80 (by decide) ?_
      refine lv_iadd hx hb dX5_arrive_81 ?_
      refine va_put (D := (dC, dI)) (ci := 5) (v := .int ((g10 0 10) + (1 : Int32))) (ty := .int) (C := RX5) (T := TX5) (N := 33) hx hb hts iX5_arrive_X5 tyX5 tyX5_ok nmX5 hown hK hP hD hS 0 rfl rfl 10 (by decide) (hts _ kX5_arrive_0) (fun _ h9 => h9) rfl (by decide +kernel) rfl rfl (Nat.le_of_ble_eq_true rfl) dX5_arrive_82 (fun H locs hP hD hS => ?_)
      obtain ⟨g11, eg11⟩ : ∃ z : St, z = st_set g10 0 10 ((g10 0 10) + (1 : Int32)) := ⟨_, rfl⟩
      have hp := hp g11 eg11
      have hP : va_P (dC, dI) vwCl (wX5 q cI g11) H := by rw [eg11]; exact hP
      have hD : va_D A (wX5 q cI g11) := by rw [eg11]; exact hD
      refine lv_aload_n hx hb dX5_arrive_85 rfl (lv_at hl 1 rfl) ?_
      refine va_get (D := (dC, dI)) (ci := 5) (v := .ref (q 5)) (C := RX5) (T := TX5) (N := 33) hx hb hts iX5_arrive_X5 hown hK hP 0 rfl rfl 7 (by decide) (hts _ kX5_arrive_5) (fun _ h9 => h9) rfl dX5_arrive_86 ?_
      refine lv_iload_n hx hb dX5_arrive_89 rfl (lv_at hl 0 rfl) ?_
      refine lv_aload_n hx hb dX5_arrive_90 rfl (lv_at hl 1 rfl) ?_
      refine lv_iload_n hx hb dX5_arrive_91 rfl (lv_at hl 0 rfl) ?_
      obtain ⟨r12, g13, hg13, hp⟩ := hp
      refine wr_Vi (As := [.int (g7 0 10)]) (rest := [.int (g7 0 10), .ref (q 5)]) (w1 := []) (w2 := []) (ws1 := wX5 q cI g13) ⟨hx, hb, hml, hown, hts⟩ (c_X5_sits l dC dI cI q g11 (g7 0 10) r12 g13 hg13 _) (cwV 1 hts gX5_arrive_X5_sits rfl rfl rfl (by decide +kernel) ⟨Nat.le_of_ble_eq_true rfl, Nat.le_of_ble_eq_true rfl⟩) hP hD hS hA hK hN (List.append_nil _).symm (List.append_nil _) rfl rfl rfl rfl hl.1 (Nat.le_of_ble_eq_true rfl) ⟨Nat.zero_le _, Nat.zero_le _⟩ dX5_arrive_92 (fun H locs hP hD hS => ?_)
      refine lv_if_eq (tgt := 102) hx hb dX5_arrive_95 (by decide) (fun c16 => ?_) (fun c16 => ?_)
      · have hp := hp.1 c16
        refine lv_iconst (v := 0) hx hb dX5_arrive_102 (by decide) ?_
        refine va_iast hx hb hK hP hD hS 5 0 rfl rfl hp.1 dX5_arrive_103 (fun H locs hP hD hS => ?_)
        have hp := hp.2
        obtain ⟨g14, eg14⟩ : ∃ z : St, z = st_set g13 5 (g7 0 10).toNatClampNeg (0 : Int32) := ⟨_, rfl⟩
        have hp := hp g14 eg14
        have hP : va_P (dC, dI) vwCl (wX5 q cI g14) H := by rw [eg14]; exact hP
        have hD : va_D A (wX5 q cI g14) := by rw [eg14]; exact hD
        refine lv_iload_n hx hb dX5_arrive_104 rfl (lv_at hl 0 rfl) ?_
        exact W.iret hx hb hr (fun t ht _ => ⟨⟨_, (), rfl, hp.1.symm, by rw [ht, hp.2]; exact hP, by rw [hp.2]; exact hD⟩, hS.F ht⟩) hS.2.2 dX5_arrive_105
      · have hp := hp.2 c16
        refine lv_iconst (v := 1) hx hb dX5_arrive_98 (by decide) ?_
        refine lv_goto (tgt := 103) hx hb dX5_arrive_99 (by decide) ?_
        refine va_iast hx hb hK hP hD hS 5 0 rfl rfl hp.1 dX5_arrive_103 (fun H locs hP hD hS => ?_)
        have hp := hp.2
        obtain ⟨g15, eg15⟩ : ∃ z : St, z = st_set g13 5 (g7 0 10).toNatClampNeg (1 : Int32) := ⟨_, rfl⟩
        have hp := hp g15 eg15
        have hP : va_P (dC, dI) vwCl (wX5 q cI g15) H := by rw [eg15]; exact hP
        have hD : va_D A (wX5 q cI g15) := by rw [eg15]; exact hD
        refine lv_iload_n hx hb dX5_arrive_104 rfl (lv_at hl 0 rfl) ?_
        exact W.iret hx hb hr (fun t ht _ => ⟨⟨_, (), rfl, hp.1.symm, by rw [ht, hp.2]; exact hP, by rw [hp.2]; exact hD⟩, hS.F ht⟩) hS.2.2 dX5_arrive_105
    · have hp := hp.2 c17
      refine lv_iconst (v := 0) hx hb dX5_arrive_47 (by decide) ?_
      exact W.iret hx hb hr (fun t ht _ => ⟨⟨_, (), rfl, hp.1.symm, by rw [ht, hp.2]; exact hP, by rw [hp.2]; exact hD⟩, hS.F ht⟩) hS.2.2 dX5_arrive_48)
  refine lv_aload_n hx hb dX5_arrive_0 rfl (lv_at hl 0 rfl) ?_
  refine lv_iload_n hx hb dX5_arrive_1 rfl (lv_at hl 1 rfl) ?_
  refine lv_iconst (v := 1) hx hb dX5_arrive_2 (by decide) ?_
  refine lv_bipush (v := 12) hx hb dX5_arrive_3 (by decide) ?_
  obtain ⟨r1, hr1, hp⟩ := hp
  refine ro_S (As := [.int a1, .int (1 : Int32), .int (12 : Int32)]) (rest := [.ref (q 0)]) ⟨hx, hb, hml, hown, hts⟩ (c_X5_isIn l dC dI cI a1 (1 : Int32) (12 : Int32) r1 hr1) (va_cwS 3 hts gX5_arrive_X5_isIn rfl rfl rfl (by decide +kernel) ⟨Nat.le_of_ble_eq_true rfl, Nat.le_of_ble_eq_true rfl⟩) (hP.sub [] rfl) hK hN rfl rfl hl.1 (Nat.le_of_ble_eq_true rfl) ⟨Nat.zero_le _, Nat.zero_le _⟩ dX5_arrive_5 ?_
  refine lv_if_eq (tgt := 23) hx hb dX5_arrive_8 (by decide) (fun c5 => ?_) (fun c5 => ?_)
  · have hp := hp.1 c5
    rw [eV23] at hp
    exact hp _ _ _ hP hD hS (lv_sub hl [0, 1, 2] rfl)
  · have hp := hp.2 c5
    refine lv_iload_n hx hb dX5_arrive_11 rfl (lv_at hl 2 rfl) ?_
    refine lv_bipush (v := 10) hx hb dX5_arrive_12 (by decide) ?_
    refine lv_sipush (v := 600) hx hb dX5_arrive_14 (by decide) ?_
    obtain ⟨r2, hr2, hp⟩ := hp
    refine ro_S (As := [.int a2, .int (10 : Int32), .int (600 : Int32)]) (rest := [.ref (q 0)]) ⟨hx, hb, hml, hown, hts⟩ (c_X5_isIn l dC dI cI a2 (10 : Int32) (600 : Int32) r2 hr2) (va_cwS 3 hts gX5_arrive_X5_isIn rfl rfl rfl (by decide +kernel) ⟨Nat.le_of_ble_eq_true rfl, Nat.le_of_ble_eq_true rfl⟩) (hP.sub [] rfl) hK hN rfl rfl hl.1 (Nat.le_of_ble_eq_true rfl) ⟨Nat.zero_le _, Nat.zero_le _⟩ dX5_arrive_17 ?_
    refine lv_if_ne (tgt := 27) hx hb dX5_arrive_20 (by decide) (fun c4 => ?_) (fun c4 => ?_)
    · have hp := hp.1 c4
      refine lv_aload_n hx hb dX5_arrive_27 rfl (lv_at hl 0 rfl) ?_
      refine va_get (D := (dC, dI)) (ci := 5) (v := .int (g 0 10)) (C := RX5) (T := TX5) (N := 33) hx hb hts iX5_arrive_X5 hown hK hP 0 rfl rfl 10 (by decide) (hts _ kX5_arrive_0) (fun _ h9 => h9) rfl dX5_arrive_28 ?_
      refine lv_bipush (v := 30) hx hb dX5_arrive_31 (by decide) ?_
      refine lv_icmp_ne (tgt := 40) hx hb dX5_arrive_33 (by decide) (fun c3 => ?_) (fun c3 => ?_)
      · have hp := hp.1 c3
        refine lv_iconst (v := 0) hx hb dX5_arrive_40 (by decide) ?_
        rw [eV41] at hp
        exact hp _ _ _ hP hD hS (lv_sub hl [0, 1, 2] rfl)
      · have hp := hp.2 c3
        refine lv_iconst (v := 2) hx hb dX5_arrive_36 (by decide) ?_
        refine lv_goto (tgt := 41) hx hb dX5_arrive_37 (by decide) ?_
        rw [eV41] at hp
        exact hp _ _ _ hP hD hS (lv_sub hl [0, 1, 2] rfl)
    · have hp := hp.2 c4
      rw [eV23] at hp
      exact hp _ _ _ hP hD hS (lv_sub hl [0, 1, 2] rfl)
theorem kX5_leave_0 : (.fieldLink RX5 28 "MeeplehouseModel" "copy" "[I" : Cond) ∈ wsX5_leave := by decide +kernel
theorem iX5_leave_X5 : ∀ w ∈ wsX50, w ∈ wsX5_leave := by decide +kernel
theorem kX5_leave_2 : (.fieldLink RX5 22 "MeeplehouseModel" "state" "[I" : Cond) ∈ wsX5_leave := by decide +kernel
theorem kX5_leave_3 : (.fieldLink RX5 103 "MeeplehouseModel" "tables" "I" : Cond) ∈ wsX5_leave := by decide +kernel
theorem kX5_leave_4 : (.fieldLink RX5 13 "MeeplehouseModel" "at" "[I" : Cond) ∈ wsX5_leave := by decide +kernel
theorem kX5_leave_5 : (.fieldLink RX5 93 "MeeplehouseModel" "groups" "I" : Cond) ∈ wsX5_leave := by decide +kernel
def P_X5_leave (g : St) (a1 : Int32) (r : Int32) (g' : St) : Prop := ∀ V40 : St → Int32 → Prop, ∀ V57 : St → Int32 → Prop, ∀ V102 : St → Int32 → Int32 → Prop, (∀ gv : St, ∀ t0 : Int32, (∃ (r5 : Int32) (g6 : St), P_X5_isFine gv t0 r5 g6 ∧ ((¬ r5 = 0 → (vp_in a1 30 ∧ (∀ g7 : St, g7 = st_set g6 5 a1.toNatClampNeg (2 : Int32) → (V57 g7 (0 : Int32))))) ∧ (r5 = 0 → (r = (0 : Int32) ∧ g' = g6)))) → V40 gv t0) → (∀ gv : St, ∀ x3 : Int32, (((gv 0 4) ≤ x3 → (V102 gv (0 : Int32) (0 : Int32))) ∧ (¬ (gv 0 4) ≤ x3 → (vp_in x3 10 ∧ ((¬ (gv 2 x3.toNatClampNeg) = a1 → (vp_in x3 10 ∧ (vp_in x3 10 ∧ (∀ g9 : St, g9 = st_set gv 2 x3.toNatClampNeg (gv 2 x3.toNatClampNeg) → (V57 g9 (x3 + (1 : Int32))))))) ∧ ((gv 2 x3.toNatClampNeg) = a1 → (vp_in x3 10 ∧ (∀ g10 : St, g10 = st_set gv 2 x3.toNatClampNeg (-1 : Int32) → (V57 g10 (x3 + (1 : Int32)))))))))) → V57 gv x3) → (∀ gv : St, ∀ x3 x4 : Int32, (((gv 0 10) ≤ x4 → (r = x3 ∧ g' = gv)) ∧ (¬ (gv 0 10) ≤ x4 → (vp_in x4 30 ∧ ((¬ (gv 5 x4.toNatClampNeg) = 0 → (V102 gv (x3 + (0 : Int32)) (x4 + (1 : Int32)))) ∧ ((gv 5 x4.toNatClampNeg) = 0 → (∃ (r13 : Int32) (g14 : St), P_X5_sits gv x4 r13 g14 ∧ ((r13 = 0 → (V102 g14 (x3 + (0 : Int32)) (x4 + (1 : Int32)))) ∧ (¬ r13 = 0 → (V102 g14 (x3 + (1 : Int32)) (x4 + (1 : Int32))))))))))) → V102 gv x3 x4) → (∃ r1 : Int32, P_X5_isGroup g a1 r1 ∧ ((¬ r1 = 0 → (vp_in a1 30 ∧ ((¬ (g 7 a1.toNatClampNeg) = (-1 : Int32) → (V40 g (2 : Int32))) ∧ ((g 7 a1.toNatClampNeg) = (-1 : Int32) → (vp_in a1 30 ∧ ((¬ (g 5 a1.toNatClampNeg) = (2 : Int32) → (V40 g (0 : Int32))) ∧ ((g 5 a1.toNatClampNeg) = (2 : Int32) → (V40 g (2 : Int32))))))))) ∧ (r1 = 0 → (V40 g (1 : Int32)))))
set_option maxRecDepth 100000 in
set_option maxHeartbeats 4000000 in
theorem c_X5_leave (l : Launch) (dC : Nat → ClassId) (dI : Nat → Nat → Nat) (cI : ClassId) (q : Nat → Nat) (g : St) (a1 : Int32) (r : Int32) (g' : St) (hp : P_X5_leave g a1 r g') (sz : Nat) : Met l yX5_leave wsX5_leave { frames := 2, cells := 0, slots := 0, locals := 48 } (va_Pc [.ref (q 0), .int a1] (wpS (dC, dI) vwCl [(cI, .int)] (wX5 q cI g) sz)) (va_Qi (fun (r' : Int32) (_ : Unit) => r' = r) (fun _ t => wqB (dC, dI) vwCl (wX5 q cI g') (va_A (wX5 q cI g) sz) t) (va_A (wX5 q cI g) sz)) 0 0 (va_A (wX5 q cI g) sz) := by
  refine wr_met (fun A => (va_Qi (fun (r' : Int32) (_ : Unit) => r' = r) (fun _ t => wqB (dC, dI) vwCl (wX5 q cI g') A t) A)) (cc := cX5_leave) (maxL := 5) (ret := (some .int)) (by decide) rfl (Nat.le_of_ble_eq_true rfl) ?_
  intro p e s m below meth c A hx hb hml hr hlk hts hown hnm hP hK hN hD hA ls hl
  have hS : va_S A s.heap s.heap [] := va_S.rf
  have hl : lv_has ls 5 [(0, .ref (q 0)), (1, .int a1)] := hl
  obtain ⟨V40, eV40⟩ : ∃ V : St → Int32 → Prop, V = (fun gv t0 => ∀ (H : Heap) (locs : List Loc) (ls : Array Slot), va_P (dC, dI) vwCl (wX5 q cI gv) H → va_D A (wX5 q cI gv) → va_S A s.heap H locs → lv_has ls 5 [(0, .ref (q 0)), (1, .int a1)] → W p l e { frames := 2, cells := 0, slots := 0, locals := 48 } s m ([.ref (q 0), .int a1] : List Value).toArray below meth c H locs 0 0 (MQ below (va_Qi (fun (r' : Int32) (_ : Unit) => r' = r) (fun _ t => wqB (dC, dI) vwCl (wX5 q cI g') A t) A) ([.ref (q 0), .int a1] : List Value).toArray s 0 0 A) (F0 m 40 ls [.int t0, .ref (q 0)])) := ⟨_, rfl⟩
  obtain ⟨V57, eV57⟩ : ∃ V : St → Int32 → Prop, V = (fun gv x3 => ∀ (H : Heap) (locs : List Loc) (ls : Array Slot), va_P (dC, dI) vwCl (wX5 q cI gv) H → va_D A (wX5 q cI gv) → va_S A s.heap H locs → lv_has ls 5 [(0, .ref (q 0)), (1, .int a1), (3, .int x3)] → W p l e { frames := 2, cells := 0, slots := 0, locals := 48 } s m ([.ref (q 0), .int a1] : List Value).toArray below meth c H locs 0 0 (MQ below (va_Qi (fun (r' : Int32) (_ : Unit) => r' = r) (fun _ t => wqB (dC, dI) vwCl (wX5 q cI g') A t) A) ([.ref (q 0), .int a1] : List Value).toArray s 0 0 A) (F0 m 57 ls [])) := ⟨_, rfl⟩
  obtain ⟨V102, eV102⟩ : ∃ V : St → Int32 → Int32 → Prop, V = (fun gv x3 x4 => ∀ (H : Heap) (locs : List Loc) (ls : Array Slot), va_P (dC, dI) vwCl (wX5 q cI gv) H → va_D A (wX5 q cI gv) → va_S A s.heap H locs → lv_has ls 5 [(0, .ref (q 0)), (1, .int a1), (3, .int x3), (4, .int x4)] → W p l e { frames := 2, cells := 0, slots := 0, locals := 48 } s m ([.ref (q 0), .int a1] : List Value).toArray below meth c H locs 0 0 (MQ below (va_Qi (fun (r' : Int32) (_ : Unit) => r' = r) (fun _ t => wqB (dC, dI) vwCl (wX5 q cI g') A t) A) ([.ref (q 0), .int a1] : List Value).toArray s 0 0 A) (F0 m 102 ls [])) := ⟨_, rfl⟩
  have hp := hp V40 V57 V102
  have hp := hp (by
    intro gv t0 hp
    rw [eV40]
    intro H locs ls hP hD hS hl
    obtain ⟨r5, g6, hg6, hp⟩ := hp
    refine wr_Vi (As := [.int t0]) (rest := []) (w1 := []) (w2 := []) (ws1 := wX5 q cI g6) ⟨hx, hb, hml, hown, hts⟩ (c_X5_isFine l dC dI cI q gv t0 r5 g6 hg6 _) (cwV 1 hts gX5_leave_X5_isFine rfl rfl rfl (by decide +kernel) ⟨Nat.le_of_ble_eq_true rfl, Nat.le_of_ble_eq_true rfl⟩) hP hD hS hA hK hN (List.append_nil _).symm (List.append_nil _) rfl rfl rfl rfl hl.1 (Nat.le_of_ble_eq_true rfl) ⟨Nat.zero_le _, Nat.zero_le _⟩ dX5_leave_40 (fun H locs hP hD hS => ?_)
    refine lv_if_ne (tgt := 48) hx hb dX5_leave_43 (by decide) (fun c8 => ?_) (fun c8 => ?_)
    · have hp := hp.1 c8
      refine lv_aload_n hx hb dX5_leave_48 rfl (lv_at hl 0 rfl) ?_
      refine va_get (D := (dC, dI)) (ci := 5) (v := .ref (q 5)) (C := RX5) (T := TX5) (N := 33) hx hb hts iX5_leave_X5 hown hK hP 0 rfl rfl 7 (by decide) (hts _ kX5_leave_2) (fun _ h9 => h9) rfl dX5_leave_49 ?_
      refine lv_iload_n hx hb dX5_leave_52 rfl (lv_at hl 1 rfl) ?_
      refine lv_iconst (v := 2) hx hb dX5_leave_53 (by decide) ?_
      refine va_iast hx hb hK hP hD hS 5 0 rfl rfl hp.1 dX5_leave_54 (fun H locs hP hD hS => ?_)
      have hp := hp.2
      obtain ⟨g7, eg7⟩ : ∃ z : St, z = st_set g6 5 a1.toNatClampNeg (2 : Int32) := ⟨_, rfl⟩
      have hp := hp g7 eg7
      have hP : va_P (dC, dI) vwCl (wX5 q cI g7) H := by rw [eg7]; exact hP
      have hD : va_D A (wX5 q cI g7) := by rw [eg7]; exact hD
      refine lv_iconst (v := 0) hx hb dX5_leave_55 (by decide) ?_
      refine lv_istore_n (lv' := [(3, .int (0 : Int32)), (0, .ref (q 0)), (1, .int a1)]) hx hb dX5_leave_56 rfl hl (by decide) rfl (fun ls hl => ?_)
      rw [eV57] at hp
      exact hp _ _ _ hP hD hS (lv_sub hl [1, 2, 0] rfl)
    · have hp := hp.2 c8
      refine lv_iconst (v := 0) hx hb dX5_leave_46 (by decide) ?_
      exact W.iret hx hb hr (fun t ht _ => ⟨⟨_, (), rfl, hp.1.symm, by rw [ht, hp.2]; exact hP, by rw [hp.2]; exact hD⟩, hS.F ht⟩) hS.2.2 dX5_leave_47)
  have hp := hp (by
    intro gv x3 hp
    rw [eV57]
    intro H locs ls hP hD hS hl
    refine lv_iload_n hx hb dX5_leave_57 rfl (lv_at hl 2 rfl) ?_
    refine lv_aload_n hx hb dX5_leave_58 rfl (lv_at hl 0 rfl) ?_
    refine va_get (D := (dC, dI)) (ci := 5) (v := .int (gv 0 4)) (C := RX5) (T := TX5) (N := 33) hx hb hts iX5_leave_X5 hown hK hP 0 rfl rfl 4 (by decide) (hts _ kX5_leave_3) (fun _ h9 => h9) rfl dX5_leave_59 ?_
    refine lv_icmp_ge (tgt := 97) hx hb dX5_leave_62 (by decide) (fun c12 => ?_) (fun c12 => ?_)
    · have hp := hp.1 c12
      refine lv_iconst (v := 0) hx hb dX5_leave_97 (by decide) ?_
      refine lv_istore_n (lv' := [(3, .int (0 : Int32)), (0, .ref (q 0)), (1, .int a1)]) hx hb dX5_leave_98 rfl hl (by decide) rfl (fun ls hl => ?_)
      refine lv_iconst (v := 0) hx hb dX5_leave_99 (by decide) ?_
      refine lv_istore (lv' := [(4, .int (0 : Int32)), (3, .int (0 : Int32)), (0, .ref (q 0)), (1, .int a1)]) hx hb dX5_leave_100 hl (by decide) rfl (fun ls hl => ?_)
      rw [eV102] at hp
      exact hp _ _ _ hP hD hS (lv_sub hl [2, 3, 1, 0] rfl)
    · have hp := hp.2 c12
      refine lv_aload_n hx hb dX5_leave_65 rfl (lv_at hl 0 rfl) ?_
      refine va_get (D := (dC, dI)) (ci := 5) (v := .ref (q 2)) (C := RX5) (T := TX5) (N := 33) hx hb hts iX5_leave_X5 hown hK hP 0 rfl rfl 3 (by decide) (hts _ kX5_leave_4) (fun _ h9 => h9) rfl dX5_leave_66 ?_
      refine lv_iload_n hx hb dX5_leave_69 rfl (lv_at hl 2 rfl) ?_
      refine lv_aload_n hx hb dX5_leave_70 rfl (lv_at hl 0 rfl) ?_
      refine va_get (D := (dC, dI)) (ci := 5) (v := .ref (q 2)) (C := RX5) (T := TX5) (N := 33) hx hb hts iX5_leave_X5 hown hK hP 0 rfl rfl 3 (by decide) (hts _ kX5_leave_4) (fun _ h9 => h9) rfl dX5_leave_71 ?_
      refine lv_iload_n hx hb dX5_leave_74 rfl (lv_at hl 2 rfl) ?_
      refine va_iald hx hb hK hP 2 0 rfl rfl hp.1 dX5_leave_75 ?_
      have hp := hp.2
      refine lv_iload_n hx hb dX5_leave_76 rfl (lv_at hl 1 rfl) ?_
      refine lv_icmp_ne (tgt := 84) hx hb dX5_leave_77 (by decide) (fun c11 => ?_) (fun c11 => ?_)
      · have hp := hp.1 c11
        refine lv_aload_n hx hb dX5_leave_84 rfl (lv_at hl 0 rfl) ?_
        refine va_get (D := (dC, dI)) (ci := 5) (v := .ref (q 2)) (C := RX5) (T := TX5) (N := 33) hx hb hts iX5_leave_X5 hown hK hP 0 rfl rfl 3 (by decide) (hts _ kX5_leave_4) (fun _ h9 => h9) rfl dX5_leave_85 ?_
        refine lv_iload_n hx hb dX5_leave_88 rfl (lv_at hl 2 rfl) ?_
        refine va_iald hx hb hK hP 2 0 rfl rfl hp.1 dX5_leave_89 ?_
        have hp := hp.2
        refine va_iast hx hb hK hP hD hS 2 0 rfl rfl hp.1 dX5_leave_90 (fun H locs hP hD hS => ?_)
        have hp := hp.2
        obtain ⟨g9, eg9⟩ : ∃ z : St, z = st_set gv 2 x3.toNatClampNeg (gv 2 x3.toNatClampNeg) := ⟨_, rfl⟩
        have hp := hp g9 eg9
        have hP : va_P (dC, dI) vwCl (wX5 q cI g9) H := by rw [eg9]; exact hP
        have hD : va_D A (wX5 q cI g9) := by rw [eg9]; exact hD
        refine lv_iinc (v := x3 + (1 : Int32)) (lv' := [(3, .int (x3 + (1 : Int32))), (0, .ref (q 0)), (1, .int a1)]) hx hb dX5_leave_91 hl (k := 2) rfl rfl (by decide) rfl (fun ls hl => ?_)
        refine lv_goto (tgt := 57) hx hb dX5_leave_94 (by decide) ?_
        rw [eV57] at hp
        exact hp _ _ _ hP hD hS (lv_sub hl [1, 2, 0] rfl)
      · have hp := hp.2 c11
        refine lv_iconst (v := -1) hx hb dX5_leave_80 (by decide) ?_
        refine lv_goto (tgt := 90) hx hb dX5_leave_81 (by decide) ?_
        refine va_iast hx hb hK hP hD hS 2 0 rfl rfl hp.1 dX5_leave_90 (fun H locs hP hD hS => ?_)
        have hp := hp.2
        obtain ⟨g10, eg10⟩ : ∃ z : St, z = st_set gv 2 x3.toNatClampNeg (-1 : Int32) := ⟨_, rfl⟩
        have hp := hp g10 eg10
        have hP : va_P (dC, dI) vwCl (wX5 q cI g10) H := by rw [eg10]; exact hP
        have hD : va_D A (wX5 q cI g10) := by rw [eg10]; exact hD
        refine lv_iinc (v := x3 + (1 : Int32)) (lv' := [(3, .int (x3 + (1 : Int32))), (0, .ref (q 0)), (1, .int a1)]) hx hb dX5_leave_91 hl (k := 2) rfl rfl (by decide) rfl (fun ls hl => ?_)
        refine lv_goto (tgt := 57) hx hb dX5_leave_94 (by decide) ?_
        rw [eV57] at hp
        exact hp _ _ _ hP hD hS (lv_sub hl [1, 2, 0] rfl))
  have hp := hp (by
    intro gv x3 x4 hp
    rw [eV102]
    intro H locs ls hP hD hS hl
    refine lv_iload hx hb dX5_leave_102 (lv_at hl 3 rfl) ?_
    refine lv_aload_n hx hb dX5_leave_104 rfl (lv_at hl 0 rfl) ?_
    refine va_get (D := (dC, dI)) (ci := 5) (v := .int (gv 0 10)) (C := RX5) (T := TX5) (N := 33) hx hb hts iX5_leave_X5 hown hK hP 0 rfl rfl 10 (by decide) (hts _ kX5_leave_5) (fun _ h9 => h9) rfl dX5_leave_105 ?_
    refine lv_icmp_ge (tgt := 144) hx hb dX5_leave_108 (by decide) (fun c17 => ?_) (fun c17 => ?_)
    · have hp := hp.1 c17
      refine lv_iload_n hx hb dX5_leave_144 rfl (lv_at hl 2 rfl) ?_
      exact W.iret hx hb hr (fun t ht _ => ⟨⟨_, (), rfl, hp.1.symm, by rw [ht, hp.2]; exact hP, by rw [hp.2]; exact hD⟩, hS.F ht⟩) hS.2.2 dX5_leave_145
    · have hp := hp.2 c17
      refine lv_iload_n hx hb dX5_leave_111 rfl (lv_at hl 2 rfl) ?_
      refine lv_aload_n hx hb dX5_leave_112 rfl (lv_at hl 0 rfl) ?_
      refine va_get (D := (dC, dI)) (ci := 5) (v := .ref (q 5)) (C := RX5) (T := TX5) (N := 33) hx hb hts iX5_leave_X5 hown hK hP 0 rfl rfl 7 (by decide) (hts _ kX5_leave_2) (fun _ h9 => h9) rfl dX5_leave_113 ?_
      refine lv_iload hx hb dX5_leave_116 (lv_at hl 3 rfl) ?_
      refine va_iald hx hb hK hP 5 0 rfl rfl hp.1 dX5_leave_118 ?_
      have hp := hp.2
      refine lv_if_ne (tgt := 135) hx hb dX5_leave_119 (by decide) (fun c16 => ?_) (fun c16 => ?_)
      · have hp := hp.1 c16
        refine lv_iconst (v := 0) hx hb dX5_leave_135 (by decide) ?_
        refine lv_iadd hx hb dX5_leave_136 ?_
        refine lv_istore_n (lv' := [(3, .int (x3 + (0 : Int32))), (0, .ref (q 0)), (1, .int a1), (4, .int x4)]) hx hb dX5_leave_137 rfl hl (by decide) rfl (fun ls hl => ?_)
        refine lv_iinc (v := x4 + (1 : Int32)) (lv' := [(4, .int (x4 + (1 : Int32))), (3, .int (x3 + (0 : Int32))), (0, .ref (q 0)), (1, .int a1)]) hx hb dX5_leave_138 hl (k := 3) rfl rfl (by decide) rfl (fun ls hl => ?_)
        refine lv_goto (tgt := 102) hx hb dX5_leave_141 (by decide) ?_
        rw [eV102] at hp
        exact hp _ _ _ hP hD hS (lv_sub hl [2, 3, 1, 0] rfl)
      · have hp := hp.2 c16
        refine lv_aload_n hx hb dX5_leave_122 rfl (lv_at hl 0 rfl) ?_
        refine lv_iload hx hb dX5_leave_123 (lv_at hl 3 rfl) ?_
        obtain ⟨r13, g14, hg14, hp⟩ := hp
        refine wr_Vi (As := [.int x4]) (rest := [.int x3]) (w1 := []) (w2 := []) (ws1 := wX5 q cI g14) ⟨hx, hb, hml, hown, hts⟩ (c_X5_sits l dC dI cI q gv x4 r13 g14 hg14 _) (cwV 1 hts gX5_leave_X5_sits rfl rfl rfl (by decide +kernel) ⟨Nat.le_of_ble_eq_true rfl, Nat.le_of_ble_eq_true rfl⟩) hP hD hS hA hK hN (List.append_nil _).symm (List.append_nil _) rfl rfl rfl rfl hl.1 (Nat.le_of_ble_eq_true rfl) ⟨Nat.zero_le _, Nat.zero_le _⟩ dX5_leave_125 (fun H locs hP hD hS => ?_)
        refine lv_if_eq (tgt := 135) hx hb dX5_leave_128 (by decide) (fun c15 => ?_) (fun c15 => ?_)
        · have hp := hp.1 c15
          refine lv_iconst (v := 0) hx hb dX5_leave_135 (by decide) ?_
          refine lv_iadd hx hb dX5_leave_136 ?_
          refine lv_istore_n (lv' := [(3, .int (x3 + (0 : Int32))), (0, .ref (q 0)), (1, .int a1), (4, .int x4)]) hx hb dX5_leave_137 rfl hl (by decide) rfl (fun ls hl => ?_)
          refine lv_iinc (v := x4 + (1 : Int32)) (lv' := [(4, .int (x4 + (1 : Int32))), (3, .int (x3 + (0 : Int32))), (0, .ref (q 0)), (1, .int a1)]) hx hb dX5_leave_138 hl (k := 3) rfl rfl (by decide) rfl (fun ls hl => ?_)
          refine lv_goto (tgt := 102) hx hb dX5_leave_141 (by decide) ?_
          rw [eV102] at hp
          exact hp _ _ _ hP hD hS (lv_sub hl [2, 3, 1, 0] rfl)
        · have hp := hp.2 c15
          refine lv_iconst (v := 1) hx hb dX5_leave_131 (by decide) ?_
          refine lv_goto (tgt := 136) hx hb dX5_leave_132 (by decide) ?_
          refine lv_iadd hx hb dX5_leave_136 ?_
          refine lv_istore_n (lv' := [(3, .int (x3 + (1 : Int32))), (0, .ref (q 0)), (1, .int a1), (4, .int x4)]) hx hb dX5_leave_137 rfl hl (by decide) rfl (fun ls hl => ?_)
          refine lv_iinc (v := x4 + (1 : Int32)) (lv' := [(4, .int (x4 + (1 : Int32))), (3, .int (x3 + (1 : Int32))), (0, .ref (q 0)), (1, .int a1)]) hx hb dX5_leave_138 hl (k := 3) rfl rfl (by decide) rfl (fun ls hl => ?_)
          refine lv_goto (tgt := 102) hx hb dX5_leave_141 (by decide) ?_
          rw [eV102] at hp
          exact hp _ _ _ hP hD hS (lv_sub hl [2, 3, 1, 0] rfl))
  refine lv_aload_n hx hb dX5_leave_0 rfl (lv_at hl 0 rfl) ?_
  refine lv_iload_n hx hb dX5_leave_1 rfl (lv_at hl 1 rfl) ?_
  obtain ⟨r1, hr1, hp⟩ := hp
  refine ro_V (As := [.int a1]) (rest := []) ⟨hx, hb, hml, hown, hts⟩ (c_X5_isGroup l dC dI cI q g a1 r1 hr1) (cwV 1 hts gX5_leave_X5_isGroup rfl rfl rfl (by decide +kernel) ⟨Nat.le_of_ble_eq_true rfl, Nat.le_of_ble_eq_true rfl⟩) hP hK hN rfl rfl rfl rfl hl.1 (Nat.le_of_ble_eq_true rfl) ⟨Nat.zero_le _, Nat.zero_le _⟩ dX5_leave_2 ?_
  refine lv_istore_n (lv' := [(2, .int r1), (0, .ref (q 0)), (1, .int a1)]) hx hb dX5_leave_5 rfl hl (by decide) rfl (fun ls hl => ?_)
  refine lv_aload_n hx hb dX5_leave_6 rfl (lv_at hl 1 rfl) ?_
  refine lv_iload_n hx hb dX5_leave_7 rfl (lv_at hl 0 rfl) ?_
  refine lv_if_ne (tgt := 15) hx hb dX5_leave_8 (by decide) (fun c4 => ?_) (fun c4 => ?_)
  · have hp := hp.1 c4
    refine lv_aload_n hx hb dX5_leave_15 rfl (lv_at hl 1 rfl) ?_
    refine va_get (D := (dC, dI)) (ci := 5) (v := .ref (q 7)) (C := RX5) (T := TX5) (N := 33) hx hb hts iX5_leave_X5 hown hK hP 0 rfl rfl 9 (by decide) (hts _ kX5_leave_0) (fun _ h9 => h9) rfl dX5_leave_16 ?_
    refine lv_iload_n hx hb dX5_leave_19 rfl (lv_at hl 2 rfl) ?_
    refine va_iald hx hb hK hP 7 0 rfl rfl hp.1 dX5_leave_20 ?_
    have hp := hp.2
    refine lv_iconst (v := -1) hx hb dX5_leave_21 (by decide) ?_
    refine lv_icmp_ne (tgt := 35) hx hb dX5_leave_22 (by decide) (fun c3 => ?_) (fun c3 => ?_)
    · have hp := hp.1 c3
      refine lv_iconst (v := 2) hx hb dX5_leave_35 (by decide) ?_
      refine lv_goto (tgt := 40) hx hb dX5_leave_36 (by decide) ?_
      rw [eV40] at hp
      exact hp _ _ _ hP hD hS (lv_sub hl [1, 2] rfl)
    · have hp := hp.2 c3
      refine lv_aload_n hx hb dX5_leave_25 rfl (lv_at hl 1 rfl) ?_
      refine va_get (D := (dC, dI)) (ci := 5) (v := .ref (q 5)) (C := RX5) (T := TX5) (N := 33) hx hb hts iX5_leave_X5 hown hK hP 0 rfl rfl 7 (by decide) (hts _ kX5_leave_2) (fun _ h9 => h9) rfl dX5_leave_26 ?_
      refine lv_iload_n hx hb dX5_leave_29 rfl (lv_at hl 2 rfl) ?_
      refine va_iald hx hb hK hP 5 0 rfl rfl hp.1 dX5_leave_30 ?_
      have hp := hp.2
      refine lv_iconst (v := 2) hx hb dX5_leave_31 (by decide) ?_
      refine lv_icmp_ne (tgt := 39) hx hb dX5_leave_32 (by decide) (fun c2 => ?_) (fun c2 => ?_)
      · have hp := hp.1 c2
        refine lv_iconst (v := 0) hx hb dX5_leave_39 (by decide) ?_
        rw [eV40] at hp
        exact hp _ _ _ hP hD hS (lv_sub hl [1, 2] rfl)
      · have hp := hp.2 c2
        refine lv_iconst (v := 2) hx hb dX5_leave_35 (by decide) ?_
        refine lv_goto (tgt := 40) hx hb dX5_leave_36 (by decide) ?_
        rw [eV40] at hp
        exact hp _ _ _ hP hD hS (lv_sub hl [1, 2] rfl)
  · have hp := hp.2 c4
    refine lv_iconst (v := 1) hx hb dX5_leave_11 (by decide) ?_
    refine lv_goto (tgt := 40) hx hb dX5_leave_12 (by decide) ?_
    rw [eV40] at hp
    exact hp _ _ _ hP hD hS (lv_sub hl [1, 2] rfl)
theorem kX5_tableOf_0 : (.fieldLink RX5 103 "MeeplehouseModel" "tables" "I" : Cond) ∈ wsX5_tableOf := by decide +kernel
theorem iX5_tableOf_X5 : ∀ w ∈ wsX50, w ∈ wsX5_tableOf := by decide +kernel
theorem kX5_tableOf_2 : (.fieldLink RX5 13 "MeeplehouseModel" "at" "[I" : Cond) ∈ wsX5_tableOf := by decide +kernel
def P_X5_tableOf (g : St) (a1 : Int32) (r : Int32) (g' : St) : Prop := ∀ V24 : St → Int32 → Prop, (∀ gv : St, ∀ x2 : Int32, (((gv 0 4) ≤ x2 → (r = (-1 : Int32) ∧ g' = gv)) ∧ (¬ (gv 0 4) ≤ x2 → (vp_in x2 10 ∧ ((¬ (gv 2 x2.toNatClampNeg) = a1 → (V24 gv (x2 + (1 : Int32)))) ∧ ((gv 2 x2.toNatClampNeg) = a1 → (r = x2 ∧ g' = gv)))))) → V24 gv x2) → (∃ r1 : Int32, P_X5_isGroup g a1 r1 ∧ ((r1 = 0 → (∃ (r2 : Int32) (g3 : St), P_X5_isFine g (1 : Int32) r2 g3 ∧ ((¬ r2 = 0 → (V24 g3 (0 : Int32))) ∧ (r2 = 0 → (r = (0 : Int32) ∧ g' = g3))))) ∧ (¬ r1 = 0 → (∃ (r5 : Int32) (g6 : St), P_X5_isFine g (0 : Int32) r5 g6 ∧ ((¬ r5 = 0 → (V24 g6 (0 : Int32))) ∧ (r5 = 0 → (r = (0 : Int32) ∧ g' = g6)))))))
set_option maxRecDepth 100000 in
set_option maxHeartbeats 4000000 in
theorem c_X5_tableOf (l : Launch) (dC : Nat → ClassId) (dI : Nat → Nat → Nat) (cI : ClassId) (q : Nat → Nat) (g : St) (a1 : Int32) (r : Int32) (g' : St) (hp : P_X5_tableOf g a1 r g') (sz : Nat) : Met l yX5_tableOf wsX5_tableOf { frames := 2, cells := 0, slots := 0, locals := 43 } (va_Pc [.ref (q 0), .int a1] (wpS (dC, dI) vwCl [(cI, .int)] (wX5 q cI g) sz)) (va_Qi (fun (r' : Int32) (_ : Unit) => r' = r) (fun _ t => wqB (dC, dI) vwCl (wX5 q cI g') (va_A (wX5 q cI g) sz) t) (va_A (wX5 q cI g) sz)) 0 0 (va_A (wX5 q cI g) sz) := by
  refine wr_met (fun A => (va_Qi (fun (r' : Int32) (_ : Unit) => r' = r) (fun _ t => wqB (dC, dI) vwCl (wX5 q cI g') A t) A)) (cc := cX5_tableOf) (maxL := 3) (ret := (some .int)) (by decide) rfl (Nat.le_of_ble_eq_true rfl) ?_
  intro p e s m below meth c A hx hb hml hr hlk hts hown hnm hP hK hN hD hA ls hl
  have hS : va_S A s.heap s.heap [] := va_S.rf
  have hl : lv_has ls 3 [(0, .ref (q 0)), (1, .int a1)] := hl
  obtain ⟨V24, eV24⟩ : ∃ V : St → Int32 → Prop, V = (fun gv x2 => ∀ (H : Heap) (locs : List Loc) (ls : Array Slot), va_P (dC, dI) vwCl (wX5 q cI gv) H → va_D A (wX5 q cI gv) → va_S A s.heap H locs → lv_has ls 3 [(0, .ref (q 0)), (1, .int a1), (2, .int x2)] → W p l e { frames := 2, cells := 0, slots := 0, locals := 43 } s m ([.ref (q 0), .int a1] : List Value).toArray below meth c H locs 0 0 (MQ below (va_Qi (fun (r' : Int32) (_ : Unit) => r' = r) (fun _ t => wqB (dC, dI) vwCl (wX5 q cI g') A t) A) ([.ref (q 0), .int a1] : List Value).toArray s 0 0 A) (F0 m 24 ls [])) := ⟨_, rfl⟩
  have hp := hp V24
  have hp := hp (by
    intro gv x2 hp
    rw [eV24]
    intro H locs ls hP hD hS hl
    refine lv_iload_n hx hb dX5_tableOf_24 rfl (lv_at hl 2 rfl) ?_
    refine lv_aload_n hx hb dX5_tableOf_25 rfl (lv_at hl 0 rfl) ?_
    refine va_get (D := (dC, dI)) (ci := 5) (v := .int (gv 0 4)) (C := RX5) (T := TX5) (N := 33) hx hb hts iX5_tableOf_X5 hown hK hP 0 rfl rfl 4 (by decide) (hts _ kX5_tableOf_0) (fun _ h9 => h9) rfl dX5_tableOf_26 ?_
    refine lv_icmp_ge (tgt := 50) hx hb dX5_tableOf_29 (by decide) (fun c10 => ?_) (fun c10 => ?_)
    · have hp := hp.1 c10
      refine lv_iconst (v := -1) hx hb dX5_tableOf_50 (by decide) ?_
      exact W.iret hx hb hr (fun t ht _ => ⟨⟨_, (), rfl, hp.1.symm, by rw [ht, hp.2]; exact hP, by rw [hp.2]; exact hD⟩, hS.F ht⟩) hS.2.2 dX5_tableOf_51
    · have hp := hp.2 c10
      refine lv_aload_n hx hb dX5_tableOf_32 rfl (lv_at hl 0 rfl) ?_
      refine va_get (D := (dC, dI)) (ci := 5) (v := .ref (q 2)) (C := RX5) (T := TX5) (N := 33) hx hb hts iX5_tableOf_X5 hown hK hP 0 rfl rfl 3 (by decide) (hts _ kX5_tableOf_2) (fun _ h9 => h9) rfl dX5_tableOf_33 ?_
      refine lv_iload_n hx hb dX5_tableOf_36 rfl (lv_at hl 2 rfl) ?_
      refine va_iald hx hb hK hP 2 0 rfl rfl hp.1 dX5_tableOf_37 ?_
      have hp := hp.2
      refine lv_iload_n hx hb dX5_tableOf_38 rfl (lv_at hl 1 rfl) ?_
      refine lv_icmp_ne (tgt := 44) hx hb dX5_tableOf_39 (by decide) (fun c9 => ?_) (fun c9 => ?_)
      · have hp := hp.1 c9
        refine lv_iinc (v := x2 + (1 : Int32)) (lv' := [(2, .int (x2 + (1 : Int32))), (0, .ref (q 0)), (1, .int a1)]) hx hb dX5_tableOf_44 hl (k := 2) rfl rfl (by decide) rfl (fun ls hl => ?_)
        refine lv_goto (tgt := 24) hx hb dX5_tableOf_47 (by decide) ?_
        rw [eV24] at hp
        exact hp _ _ _ hP hD hS (lv_sub hl [1, 2, 0] rfl)
      · have hp := hp.2 c9
        refine lv_iload_n hx hb dX5_tableOf_42 rfl (lv_at hl 2 rfl) ?_
        exact W.iret hx hb hr (fun t ht _ => ⟨⟨_, (), rfl, hp.1.symm, by rw [ht, hp.2]; exact hP, by rw [hp.2]; exact hD⟩, hS.F ht⟩) hS.2.2 dX5_tableOf_43)
  refine lv_aload_n hx hb dX5_tableOf_0 rfl (lv_at hl 0 rfl) ?_
  refine lv_aload_n hx hb dX5_tableOf_1 rfl (lv_at hl 0 rfl) ?_
  refine lv_iload_n hx hb dX5_tableOf_2 rfl (lv_at hl 1 rfl) ?_
  obtain ⟨r1, hr1, hp⟩ := hp
  refine ro_V (As := [.int a1]) (rest := [.ref (q 0)]) ⟨hx, hb, hml, hown, hts⟩ (c_X5_isGroup l dC dI cI q g a1 r1 hr1) (cwV 1 hts gX5_tableOf_X5_isGroup rfl rfl rfl (by decide +kernel) ⟨Nat.le_of_ble_eq_true rfl, Nat.le_of_ble_eq_true rfl⟩) hP hK hN rfl rfl rfl rfl hl.1 (Nat.le_of_ble_eq_true rfl) ⟨Nat.zero_le _, Nat.zero_le _⟩ dX5_tableOf_3 ?_
  refine lv_if_eq (tgt := 13) hx hb dX5_tableOf_6 (by decide) (fun c8 => ?_) (fun c8 => ?_)
  · have hp := hp.1 c8
    refine lv_iconst (v := 1) hx hb dX5_tableOf_13 (by decide) ?_
    obtain ⟨r2, g3, hg3, hp⟩ := hp
    refine wr_Vi (As := [.int (1 : Int32)]) (rest := []) (w1 := []) (w2 := []) (ws1 := wX5 q cI g3) ⟨hx, hb, hml, hown, hts⟩ (c_X5_isFine l dC dI cI q g (1 : Int32) r2 g3 hg3 _) (cwV 1 hts gX5_tableOf_X5_isFine rfl rfl rfl (by decide +kernel) ⟨Nat.le_of_ble_eq_true rfl, Nat.le_of_ble_eq_true rfl⟩) hP hD hS hA hK hN (List.append_nil _).symm (List.append_nil _) rfl rfl rfl rfl hl.1 (Nat.le_of_ble_eq_true rfl) ⟨Nat.zero_le _, Nat.zero_le _⟩ dX5_tableOf_14 (fun H locs hP hD hS => ?_)
    refine lv_if_ne (tgt := 22) hx hb dX5_tableOf_17 (by decide) (fun c4 => ?_) (fun c4 => ?_)
    · have hp := hp.1 c4
      refine lv_iconst (v := 0) hx hb dX5_tableOf_22 (by decide) ?_
      refine lv_istore_n (lv' := [(2, .int (0 : Int32)), (0, .ref (q 0)), (1, .int a1)]) hx hb dX5_tableOf_23 rfl hl (by decide) rfl (fun ls hl => ?_)
      rw [eV24] at hp
      exact hp _ _ _ hP hD hS (lv_sub hl [1, 2, 0] rfl)
    · have hp := hp.2 c4
      refine lv_iconst (v := 0) hx hb dX5_tableOf_20 (by decide) ?_
      exact W.iret hx hb hr (fun t ht _ => ⟨⟨_, (), rfl, hp.1.symm, by rw [ht, hp.2]; exact hP, by rw [hp.2]; exact hD⟩, hS.F ht⟩) hS.2.2 dX5_tableOf_21
  · have hp := hp.2 c8
    refine lv_iconst (v := 0) hx hb dX5_tableOf_9 (by decide) ?_
    refine lv_goto (tgt := 14) hx hb dX5_tableOf_10 (by decide) ?_
    obtain ⟨r5, g6, hg6, hp⟩ := hp
    refine wr_Vi (As := [.int (0 : Int32)]) (rest := []) (w1 := []) (w2 := []) (ws1 := wX5 q cI g6) ⟨hx, hb, hml, hown, hts⟩ (c_X5_isFine l dC dI cI q g (0 : Int32) r5 g6 hg6 _) (cwV 1 hts gX5_tableOf_X5_isFine rfl rfl rfl (by decide +kernel) ⟨Nat.le_of_ble_eq_true rfl, Nat.le_of_ble_eq_true rfl⟩) hP hD hS hA hK hN (List.append_nil _).symm (List.append_nil _) rfl rfl rfl rfl hl.1 (Nat.le_of_ble_eq_true rfl) ⟨Nat.zero_le _, Nat.zero_le _⟩ dX5_tableOf_14 (fun H locs hP hD hS => ?_)
    refine lv_if_ne (tgt := 22) hx hb dX5_tableOf_17 (by decide) (fun c7 => ?_) (fun c7 => ?_)
    · have hp := hp.1 c7
      refine lv_iconst (v := 0) hx hb dX5_tableOf_22 (by decide) ?_
      refine lv_istore_n (lv' := [(2, .int (0 : Int32)), (0, .ref (q 0)), (1, .int a1)]) hx hb dX5_tableOf_23 rfl hl (by decide) rfl (fun ls hl => ?_)
      rw [eV24] at hp
      exact hp _ _ _ hP hD hS (lv_sub hl [1, 2, 0] rfl)
    · have hp := hp.2 c7
      refine lv_iconst (v := 0) hx hb dX5_tableOf_20 (by decide) ?_
      exact W.iret hx hb hr (fun t ht _ => ⟨⟨_, (), rfl, hp.1.symm, by rw [ht, hp.2]; exact hP, by rw [hp.2]; exact hD⟩, hS.F ht⟩) hS.2.2 dX5_tableOf_21
theorem kX5_tablesOf_0 : (.fieldLink RX5 103 "MeeplehouseModel" "tables" "I" : Cond) ∈ wsX5_tablesOf := by decide +kernel
theorem iX5_tablesOf_X5 : ∀ w ∈ wsX50, w ∈ wsX5_tablesOf := by decide +kernel
theorem kX5_tablesOf_2 : (.fieldLink RX5 13 "MeeplehouseModel" "at" "[I" : Cond) ∈ wsX5_tablesOf := by decide +kernel
def P_X5_tablesOf (g : St) (a1 : Int32) (r : Int32) (g' : St) : Prop := ∀ V14 : St → Int32 → Prop, ∀ V26 : St → Int32 → Int32 → Prop, (∀ gv : St, ∀ t0 : Int32, (∃ (r3 : Int32) (g4 : St), P_X5_isFine gv t0 r3 g4 ∧ ((¬ r3 = 0 → (V26 g4 (0 : Int32) (0 : Int32))) ∧ (r3 = 0 → (r = (0 : Int32) ∧ g' = g4)))) → V14 gv t0) → (∀ gv : St, ∀ x2 x3 : Int32, (((gv 0 4) ≤ x3 → (r = x2 ∧ g' = gv)) ∧ (¬ (gv 0 4) ≤ x3 → (vp_in x3 10 ∧ ((¬ (gv 2 x3.toNatClampNeg) = a1 → (V26 gv (x2 + (0 : Int32)) (x3 + (1 : Int32)))) ∧ ((gv 2 x3.toNatClampNeg) = a1 → (V26 gv (x2 + (1 : Int32)) (x3 + (1 : Int32)))))))) → V26 gv x2 x3) → (∃ r1 : Int32, P_X5_isGroup g a1 r1 ∧ ((r1 = 0 → (V14 g (1 : Int32))) ∧ (¬ r1 = 0 → (V14 g (0 : Int32)))))
set_option maxRecDepth 100000 in
set_option maxHeartbeats 4000000 in
theorem c_X5_tablesOf (l : Launch) (dC : Nat → ClassId) (dI : Nat → Nat → Nat) (cI : ClassId) (q : Nat → Nat) (g : St) (a1 : Int32) (r : Int32) (g' : St) (hp : P_X5_tablesOf g a1 r g') (sz : Nat) : Met l yX5_tablesOf wsX5_tablesOf { frames := 2, cells := 0, slots := 0, locals := 43 } (va_Pc [.ref (q 0), .int a1] (wpS (dC, dI) vwCl [(cI, .int)] (wX5 q cI g) sz)) (va_Qi (fun (r' : Int32) (_ : Unit) => r' = r) (fun _ t => wqB (dC, dI) vwCl (wX5 q cI g') (va_A (wX5 q cI g) sz) t) (va_A (wX5 q cI g) sz)) 0 0 (va_A (wX5 q cI g) sz) := by
  refine wr_met (fun A => (va_Qi (fun (r' : Int32) (_ : Unit) => r' = r) (fun _ t => wqB (dC, dI) vwCl (wX5 q cI g') A t) A)) (cc := cX5_tablesOf) (maxL := 4) (ret := (some .int)) (by decide) rfl (Nat.le_of_ble_eq_true rfl) ?_
  intro p e s m below meth c A hx hb hml hr hlk hts hown hnm hP hK hN hD hA ls hl
  have hS : va_S A s.heap s.heap [] := va_S.rf
  have hl : lv_has ls 4 [(0, .ref (q 0)), (1, .int a1)] := hl
  obtain ⟨V14, eV14⟩ : ∃ V : St → Int32 → Prop, V = (fun gv t0 => ∀ (H : Heap) (locs : List Loc) (ls : Array Slot), va_P (dC, dI) vwCl (wX5 q cI gv) H → va_D A (wX5 q cI gv) → va_S A s.heap H locs → lv_has ls 4 [(0, .ref (q 0)), (1, .int a1)] → W p l e { frames := 2, cells := 0, slots := 0, locals := 43 } s m ([.ref (q 0), .int a1] : List Value).toArray below meth c H locs 0 0 (MQ below (va_Qi (fun (r' : Int32) (_ : Unit) => r' = r) (fun _ t => wqB (dC, dI) vwCl (wX5 q cI g') A t) A) ([.ref (q 0), .int a1] : List Value).toArray s 0 0 A) (F0 m 14 ls [.int t0, .ref (q 0)])) := ⟨_, rfl⟩
  obtain ⟨V26, eV26⟩ : ∃ V : St → Int32 → Int32 → Prop, V = (fun gv x2 x3 => ∀ (H : Heap) (locs : List Loc) (ls : Array Slot), va_P (dC, dI) vwCl (wX5 q cI gv) H → va_D A (wX5 q cI gv) → va_S A s.heap H locs → lv_has ls 4 [(0, .ref (q 0)), (1, .int a1), (2, .int x2), (3, .int x3)] → W p l e { frames := 2, cells := 0, slots := 0, locals := 43 } s m ([.ref (q 0), .int a1] : List Value).toArray below meth c H locs 0 0 (MQ below (va_Qi (fun (r' : Int32) (_ : Unit) => r' = r) (fun _ t => wqB (dC, dI) vwCl (wX5 q cI g') A t) A) ([.ref (q 0), .int a1] : List Value).toArray s 0 0 A) (F0 m 26 ls [])) := ⟨_, rfl⟩
  have hp := hp V14 V26
  have hp := hp (by
    intro gv t0 hp
    rw [eV14]
    intro H locs ls hP hD hS hl
    obtain ⟨r3, g4, hg4, hp⟩ := hp
    refine wr_Vi (As := [.int t0]) (rest := []) (w1 := []) (w2 := []) (ws1 := wX5 q cI g4) ⟨hx, hb, hml, hown, hts⟩ (c_X5_isFine l dC dI cI q gv t0 r3 g4 hg4 _) (cwV 1 hts gX5_tablesOf_X5_isFine rfl rfl rfl (by decide +kernel) ⟨Nat.le_of_ble_eq_true rfl, Nat.le_of_ble_eq_true rfl⟩) hP hD hS hA hK hN (List.append_nil _).symm (List.append_nil _) rfl rfl rfl rfl hl.1 (Nat.le_of_ble_eq_true rfl) ⟨Nat.zero_le _, Nat.zero_le _⟩ dX5_tablesOf_14 (fun H locs hP hD hS => ?_)
    refine lv_if_ne (tgt := 22) hx hb dX5_tablesOf_17 (by decide) (fun c5 => ?_) (fun c5 => ?_)
    · have hp := hp.1 c5
      refine lv_iconst (v := 0) hx hb dX5_tablesOf_22 (by decide) ?_
      refine lv_istore_n (lv' := [(2, .int (0 : Int32)), (0, .ref (q 0)), (1, .int a1)]) hx hb dX5_tablesOf_23 rfl hl (by decide) rfl (fun ls hl => ?_)
      refine lv_iconst (v := 0) hx hb dX5_tablesOf_24 (by decide) ?_
      refine lv_istore_n (lv' := [(3, .int (0 : Int32)), (2, .int (0 : Int32)), (0, .ref (q 0)), (1, .int a1)]) hx hb dX5_tablesOf_25 rfl hl (by decide) rfl (fun ls hl => ?_)
      rw [eV26] at hp
      exact hp _ _ _ hP hD hS (lv_sub hl [2, 3, 1, 0] rfl)
    · have hp := hp.2 c5
      refine lv_iconst (v := 0) hx hb dX5_tablesOf_20 (by decide) ?_
      exact W.iret hx hb hr (fun t ht _ => ⟨⟨_, (), rfl, hp.1.symm, by rw [ht, hp.2]; exact hP, by rw [hp.2]; exact hD⟩, hS.F ht⟩) hS.2.2 dX5_tablesOf_21)
  have hp := hp (by
    intro gv x2 x3 hp
    rw [eV26]
    intro H locs ls hP hD hS hl
    refine lv_iload_n hx hb dX5_tablesOf_26 rfl (lv_at hl 3 rfl) ?_
    refine lv_aload_n hx hb dX5_tablesOf_27 rfl (lv_at hl 0 rfl) ?_
    refine va_get (D := (dC, dI)) (ci := 5) (v := .int (gv 0 4)) (C := RX5) (T := TX5) (N := 33) hx hb hts iX5_tablesOf_X5 hown hK hP 0 rfl rfl 4 (by decide) (hts _ kX5_tablesOf_0) (fun _ h9 => h9) rfl dX5_tablesOf_28 ?_
    refine lv_icmp_ge (tgt := 58) hx hb dX5_tablesOf_31 (by decide) (fun c7 => ?_) (fun c7 => ?_)
    · have hp := hp.1 c7
      refine lv_iload_n hx hb dX5_tablesOf_58 rfl (lv_at hl 2 rfl) ?_
      exact W.iret hx hb hr (fun t ht _ => ⟨⟨_, (), rfl, hp.1.symm, by rw [ht, hp.2]; exact hP, by rw [hp.2]; exact hD⟩, hS.F ht⟩) hS.2.2 dX5_tablesOf_59
    · have hp := hp.2 c7
      refine lv_iload_n hx hb dX5_tablesOf_34 rfl (lv_at hl 2 rfl) ?_
      refine lv_aload_n hx hb dX5_tablesOf_35 rfl (lv_at hl 0 rfl) ?_
      refine va_get (D := (dC, dI)) (ci := 5) (v := .ref (q 2)) (C := RX5) (T := TX5) (N := 33) hx hb hts iX5_tablesOf_X5 hown hK hP 0 rfl rfl 3 (by decide) (hts _ kX5_tablesOf_2) (fun _ h9 => h9) rfl dX5_tablesOf_36 ?_
      refine lv_iload_n hx hb dX5_tablesOf_39 rfl (lv_at hl 3 rfl) ?_
      refine va_iald hx hb hK hP 2 0 rfl rfl hp.1 dX5_tablesOf_40 ?_
      have hp := hp.2
      refine lv_iload_n hx hb dX5_tablesOf_41 rfl (lv_at hl 1 rfl) ?_
      refine lv_icmp_ne (tgt := 49) hx hb dX5_tablesOf_42 (by decide) (fun c6 => ?_) (fun c6 => ?_)
      · have hp := hp.1 c6
        refine lv_iconst (v := 0) hx hb dX5_tablesOf_49 (by decide) ?_
        refine lv_iadd hx hb dX5_tablesOf_50 ?_
        refine lv_istore_n (lv' := [(2, .int (x2 + (0 : Int32))), (0, .ref (q 0)), (1, .int a1), (3, .int x3)]) hx hb dX5_tablesOf_51 rfl hl (by decide) rfl (fun ls hl => ?_)
        refine lv_iinc (v := x3 + (1 : Int32)) (lv' := [(3, .int (x3 + (1 : Int32))), (2, .int (x2 + (0 : Int32))), (0, .ref (q 0)), (1, .int a1)]) hx hb dX5_tablesOf_52 hl (k := 3) rfl rfl (by decide) rfl (fun ls hl => ?_)
        refine lv_goto (tgt := 26) hx hb dX5_tablesOf_55 (by decide) ?_
        rw [eV26] at hp
        exact hp _ _ _ hP hD hS (lv_sub hl [2, 3, 1, 0] rfl)
      · have hp := hp.2 c6
        refine lv_iconst (v := 1) hx hb dX5_tablesOf_45 (by decide) ?_
        refine lv_goto (tgt := 50) hx hb dX5_tablesOf_46 (by decide) ?_
        refine lv_iadd hx hb dX5_tablesOf_50 ?_
        refine lv_istore_n (lv' := [(2, .int (x2 + (1 : Int32))), (0, .ref (q 0)), (1, .int a1), (3, .int x3)]) hx hb dX5_tablesOf_51 rfl hl (by decide) rfl (fun ls hl => ?_)
        refine lv_iinc (v := x3 + (1 : Int32)) (lv' := [(3, .int (x3 + (1 : Int32))), (2, .int (x2 + (1 : Int32))), (0, .ref (q 0)), (1, .int a1)]) hx hb dX5_tablesOf_52 hl (k := 3) rfl rfl (by decide) rfl (fun ls hl => ?_)
        refine lv_goto (tgt := 26) hx hb dX5_tablesOf_55 (by decide) ?_
        rw [eV26] at hp
        exact hp _ _ _ hP hD hS (lv_sub hl [2, 3, 1, 0] rfl))
  refine lv_aload_n hx hb dX5_tablesOf_0 rfl (lv_at hl 0 rfl) ?_
  refine lv_aload_n hx hb dX5_tablesOf_1 rfl (lv_at hl 0 rfl) ?_
  refine lv_iload_n hx hb dX5_tablesOf_2 rfl (lv_at hl 1 rfl) ?_
  obtain ⟨r1, hr1, hp⟩ := hp
  refine ro_V (As := [.int a1]) (rest := [.ref (q 0)]) ⟨hx, hb, hml, hown, hts⟩ (c_X5_isGroup l dC dI cI q g a1 r1 hr1) (cwV 1 hts gX5_tablesOf_X5_isGroup rfl rfl rfl (by decide +kernel) ⟨Nat.le_of_ble_eq_true rfl, Nat.le_of_ble_eq_true rfl⟩) hP hK hN rfl rfl rfl rfl hl.1 (Nat.le_of_ble_eq_true rfl) ⟨Nat.zero_le _, Nat.zero_le _⟩ dX5_tablesOf_3 ?_
  refine lv_if_eq (tgt := 13) hx hb dX5_tablesOf_6 (by decide) (fun c2 => ?_) (fun c2 => ?_)
  · have hp := hp.1 c2
    refine lv_iconst (v := 1) hx hb dX5_tablesOf_13 (by decide) ?_
    rw [eV14] at hp
    exact hp _ _ _ hP hD hS (lv_sub hl [0, 1] rfl)
  · have hp := hp.2 c2
    refine lv_iconst (v := 0) hx hb dX5_tablesOf_9 (by decide) ?_
    refine lv_goto (tgt := 14) hx hb dX5_tablesOf_10 (by decide) ?_
    rw [eV14] at hp
    exact hp _ _ _ hP hD hS (lv_sub hl [0, 1] rfl)
theorem kX5_waiting_0 : (.fieldLink RX5 79 "MeeplehouseModel" "thrown" "I" : Cond) ∈ wsX5_waiting := by decide +kernel
theorem iX5_waiting_X5 : ∀ w ∈ wsX50, w ∈ wsX5_waiting := by decide +kernel
theorem kX5_waiting_2 : (.fieldLink RX5 93 "MeeplehouseModel" "groups" "I" : Cond) ∈ wsX5_waiting := by decide +kernel
theorem kX5_waiting_3 : (.fieldLink RX5 22 "MeeplehouseModel" "state" "[I" : Cond) ∈ wsX5_waiting := by decide +kernel
def P_X5_waiting (g : St) (r : Int32) (g' : St) : Prop := ∀ V9 : St → Int32 → Int32 → Prop, (∀ gv : St, ∀ x1 x2 : Int32, (((gv 0 10) ≤ x2 → (r = x1 ∧ g' = gv)) ∧ (¬ (gv 0 10) ≤ x2 → (vp_in x2 30 ∧ ((¬ (gv 5 x2.toNatClampNeg) = 0 → (V9 gv (x1 + (0 : Int32)) (x2 + (1 : Int32)))) ∧ ((gv 5 x2.toNatClampNeg) = 0 → (V9 gv (x1 + (1 : Int32)) (x2 + (1 : Int32)))))))) → V9 gv x1 x2) → (∀ g1 : St, g1 = st_set g 0 0 (0 : Int32) → (V9 g1 (0 : Int32) (0 : Int32)))
set_option maxRecDepth 100000 in
set_option maxHeartbeats 4000000 in
theorem c_X5_waiting (l : Launch) (dC : Nat → ClassId) (dI : Nat → Nat → Nat) (cI : ClassId) (q : Nat → Nat) (g : St) (r : Int32) (g' : St) (hp : P_X5_waiting g r g') (sz : Nat) : Met l yX5_waiting wsX5_waiting { frames := 0, cells := 0, slots := 0, locals := 0 } (va_Pc [.ref (q 0)] (wpS (dC, dI) vwCl [(cI, .int)] (wX5 q cI g) sz)) (va_Qi (fun (r' : Int32) (_ : Unit) => r' = r) (fun _ t => wqB (dC, dI) vwCl (wX5 q cI g') (va_A (wX5 q cI g) sz) t) (va_A (wX5 q cI g) sz)) 0 0 (va_A (wX5 q cI g) sz) := by
  refine wr_met (fun A => (va_Qi (fun (r' : Int32) (_ : Unit) => r' = r) (fun _ t => wqB (dC, dI) vwCl (wX5 q cI g') A t) A)) (cc := cX5_waiting) (maxL := 3) (ret := (some .int)) (by decide) rfl (Nat.le_of_ble_eq_true rfl) ?_
  intro p e s m below meth c A hx hb hml hr hlk hts hown hnm hP hK hN hD hA ls hl
  have hS : va_S A s.heap s.heap [] := va_S.rf
  have hl : lv_has ls 3 [(0, .ref (q 0))] := hl
  obtain ⟨V9, eV9⟩ : ∃ V : St → Int32 → Int32 → Prop, V = (fun gv x1 x2 => ∀ (H : Heap) (locs : List Loc) (ls : Array Slot), va_P (dC, dI) vwCl (wX5 q cI gv) H → va_D A (wX5 q cI gv) → va_S A s.heap H locs → lv_has ls 3 [(0, .ref (q 0)), (1, .int x1), (2, .int x2)] → W p l e { frames := 0, cells := 0, slots := 0, locals := 0 } s m ([.ref (q 0)] : List Value).toArray below meth c H locs 0 0 (MQ below (va_Qi (fun (r' : Int32) (_ : Unit) => r' = r) (fun _ t => wqB (dC, dI) vwCl (wX5 q cI g') A t) A) ([.ref (q 0)] : List Value).toArray s 0 0 A) (F0 m 9 ls [])) := ⟨_, rfl⟩
  have hp := hp V9
  have hp := hp (by
    intro gv x1 x2 hp
    rw [eV9]
    intro H locs ls hP hD hS hl
    refine lv_iload_n hx hb dX5_waiting_9 rfl (lv_at hl 2 rfl) ?_
    refine lv_aload_n hx hb dX5_waiting_10 rfl (lv_at hl 0 rfl) ?_
    refine va_get (D := (dC, dI)) (ci := 5) (v := .int (gv 0 10)) (C := RX5) (T := TX5) (N := 33) hx hb hts iX5_waiting_X5 hown hK hP 0 rfl rfl 10 (by decide) (hts _ kX5_waiting_2) (fun _ h9 => h9) rfl dX5_waiting_11 ?_
    refine lv_icmp_ge (tgt := 40) hx hb dX5_waiting_14 (by decide) (fun c3 => ?_) (fun c3 => ?_)
    · have hp := hp.1 c3
      refine lv_iload_n hx hb dX5_waiting_40 rfl (lv_at hl 1 rfl) ?_
      exact W.iret hx hb hr (fun t ht _ => ⟨⟨_, (), rfl, hp.1.symm, by rw [ht, hp.2]; exact hP, by rw [hp.2]; exact hD⟩, hS.F ht⟩) hS.2.2 dX5_waiting_41
    · have hp := hp.2 c3
      refine lv_iload_n hx hb dX5_waiting_17 rfl (lv_at hl 1 rfl) ?_
      refine lv_aload_n hx hb dX5_waiting_18 rfl (lv_at hl 0 rfl) ?_
      refine va_get (D := (dC, dI)) (ci := 5) (v := .ref (q 5)) (C := RX5) (T := TX5) (N := 33) hx hb hts iX5_waiting_X5 hown hK hP 0 rfl rfl 7 (by decide) (hts _ kX5_waiting_3) (fun _ h9 => h9) rfl dX5_waiting_19 ?_
      refine lv_iload_n hx hb dX5_waiting_22 rfl (lv_at hl 2 rfl) ?_
      refine va_iald hx hb hK hP 5 0 rfl rfl hp.1 dX5_waiting_23 ?_
      have hp := hp.2
      refine lv_if_ne (tgt := 31) hx hb dX5_waiting_24 (by decide) (fun c2 => ?_) (fun c2 => ?_)
      · have hp := hp.1 c2
        refine lv_iconst (v := 0) hx hb dX5_waiting_31 (by decide) ?_
        refine lv_iadd hx hb dX5_waiting_32 ?_
        refine lv_istore_n (lv' := [(1, .int (x1 + (0 : Int32))), (0, .ref (q 0)), (2, .int x2)]) hx hb dX5_waiting_33 rfl hl (by decide) rfl (fun ls hl => ?_)
        refine lv_iinc (v := x2 + (1 : Int32)) (lv' := [(2, .int (x2 + (1 : Int32))), (1, .int (x1 + (0 : Int32))), (0, .ref (q 0))]) hx hb dX5_waiting_34 hl (k := 2) rfl rfl (by decide) rfl (fun ls hl => ?_)
        refine lv_goto (tgt := 9) hx hb dX5_waiting_37 (by decide) ?_
        rw [eV9] at hp
        exact hp _ _ _ hP hD hS (lv_sub hl [2, 1, 0] rfl)
      · have hp := hp.2 c2
        refine lv_iconst (v := 1) hx hb dX5_waiting_27 (by decide) ?_
        refine lv_goto (tgt := 32) hx hb dX5_waiting_28 (by decide) ?_
        refine lv_iadd hx hb dX5_waiting_32 ?_
        refine lv_istore_n (lv' := [(1, .int (x1 + (1 : Int32))), (0, .ref (q 0)), (2, .int x2)]) hx hb dX5_waiting_33 rfl hl (by decide) rfl (fun ls hl => ?_)
        refine lv_iinc (v := x2 + (1 : Int32)) (lv' := [(2, .int (x2 + (1 : Int32))), (1, .int (x1 + (1 : Int32))), (0, .ref (q 0))]) hx hb dX5_waiting_34 hl (k := 2) rfl rfl (by decide) rfl (fun ls hl => ?_)
        refine lv_goto (tgt := 9) hx hb dX5_waiting_37 (by decide) ?_
        rw [eV9] at hp
        exact hp _ _ _ hP hD hS (lv_sub hl [2, 1, 0] rfl))
  refine lv_aload_n hx hb dX5_waiting_0 rfl (lv_at hl 0 rfl) ?_
  refine lv_iconst (v := 0) hx hb dX5_waiting_1 (by decide) ?_
  refine va_put (D := (dC, dI)) (ci := 5) (v := .int (0 : Int32)) (ty := .int) (C := RX5) (T := TX5) (N := 33) hx hb hts iX5_waiting_X5 tyX5 tyX5_ok nmX5 hown hK hP hD hS 0 rfl rfl 0 (by decide) (hts _ kX5_waiting_0) (fun _ h9 => h9) rfl (by decide +kernel) rfl rfl (Nat.le_of_ble_eq_true rfl) dX5_waiting_2 (fun H locs hP hD hS => ?_)
  obtain ⟨g1, eg1⟩ : ∃ z : St, z = st_set g 0 0 (0 : Int32) := ⟨_, rfl⟩
  have hp := hp g1 eg1
  have hP : va_P (dC, dI) vwCl (wX5 q cI g1) H := by rw [eg1]; exact hP
  have hD : va_D A (wX5 q cI g1) := by rw [eg1]; exact hD
  refine lv_iconst (v := 0) hx hb dX5_waiting_5 (by decide) ?_
  refine lv_istore_n (lv' := [(1, .int (0 : Int32)), (0, .ref (q 0))]) hx hb dX5_waiting_6 rfl hl (by decide) rfl (fun ls hl => ?_)
  refine lv_iconst (v := 0) hx hb dX5_waiting_7 (by decide) ?_
  refine lv_istore_n (lv' := [(2, .int (0 : Int32)), (1, .int (0 : Int32)), (0, .ref (q 0))]) hx hb dX5_waiting_8 rfl hl (by decide) rfl (fun ls hl => ?_)
  rw [eV9] at hp
  exact hp _ _ _ hP hD hS (lv_sub hl [2, 1, 0] rfl)
theorem kX5_wasteNow_0 : (.fieldLink RX5 79 "MeeplehouseModel" "thrown" "I" : Cond) ∈ wsX5_wasteNow := by decide +kernel
theorem iX5_wasteNow_X5 : ∀ w ∈ wsX50, w ∈ wsX5_wasteNow := by decide +kernel
theorem kX5_wasteNow_2 : (.fieldLink RX5 112 "MeeplehouseModel" "tooMany" "I" : Cond) ∈ wsX5_wasteNow := by decide +kernel
def P_X5_wasteNow (g : St) (a1 : Int32) (r : Int32) (g' : St) : Prop := ∀ V16 : St → Int32 → Prop, (∀ gv : St, ∀ t0 : Int32, (∃ (r3 : Int32) (g4 : St), P_X5_isFine gv t0 r3 g4 ∧ ((r3 = 0 → (((g4 0 0) ≤ 0 → (r = (-1 : Int32) ∧ g' = g4)) ∧ (¬ (g4 0 0) ≤ 0 → (r = (0 : Int32) ∧ g' = g4)))) ∧ (¬ r3 = 0 → (∃ (r6 : Int32) (g7 : St), P_X5_finds g4 a1 r6 g7 ∧ ((r6 = 0 → (((g7 0 0) ≤ 0 → (r = (-1 : Int32) ∧ g' = g7)) ∧ (¬ (g7 0 0) ≤ 0 → (r = (0 : Int32) ∧ g' = g7)))) ∧ (¬ r6 = 0 → (r = (g7 0 32) ∧ g' = g7))))))) → V16 gv t0) → (∃ r1 : Int32, P_X5_isIn a1 (1 : Int32) (12 : Int32) r1 ∧ ((r1 = 0 → (V16 g (1 : Int32))) ∧ (¬ r1 = 0 → (V16 g (0 : Int32)))))
set_option maxRecDepth 100000 in
set_option maxHeartbeats 4000000 in
theorem c_X5_wasteNow (l : Launch) (dC : Nat → ClassId) (dI : Nat → Nat → Nat) (cI : ClassId) (q : Nat → Nat) (g : St) (a1 : Int32) (r : Int32) (g' : St) (hp : P_X5_wasteNow g a1 r g') (sz : Nat) : Met l yX5_wasteNow wsX5_wasteNow { frames := 1, cells := 0, slots := 0, locals := 26 } (va_Pc [.ref (q 0), .int a1] (wpS (dC, dI) vwCl [(cI, .int)] (wX5 q cI g) sz)) (va_Qi (fun (r' : Int32) (_ : Unit) => r' = r) (fun _ t => wqB (dC, dI) vwCl (wX5 q cI g') (va_A (wX5 q cI g) sz) t) (va_A (wX5 q cI g) sz)) 0 0 (va_A (wX5 q cI g) sz) := by
  refine wr_met (fun A => (va_Qi (fun (r' : Int32) (_ : Unit) => r' = r) (fun _ t => wqB (dC, dI) vwCl (wX5 q cI g') A t) A)) (cc := cX5_wasteNow) (maxL := 2) (ret := (some .int)) (by decide) rfl (Nat.le_of_ble_eq_true rfl) ?_
  intro p e s m below meth c A hx hb hml hr hlk hts hown hnm hP hK hN hD hA ls hl
  have hS : va_S A s.heap s.heap [] := va_S.rf
  have hl : lv_has ls 2 [(0, .ref (q 0)), (1, .int a1)] := hl
  obtain ⟨V16, eV16⟩ : ∃ V : St → Int32 → Prop, V = (fun gv t0 => ∀ (H : Heap) (locs : List Loc) (ls : Array Slot), va_P (dC, dI) vwCl (wX5 q cI gv) H → va_D A (wX5 q cI gv) → va_S A s.heap H locs → lv_has ls 2 [(0, .ref (q 0)), (1, .int a1)] → W p l e { frames := 1, cells := 0, slots := 0, locals := 26 } s m ([.ref (q 0), .int a1] : List Value).toArray below meth c H locs 0 0 (MQ below (va_Qi (fun (r' : Int32) (_ : Unit) => r' = r) (fun _ t => wqB (dC, dI) vwCl (wX5 q cI g') A t) A) ([.ref (q 0), .int a1] : List Value).toArray s 0 0 A) (F0 m 16 ls [.int t0, .ref (q 0)])) := ⟨_, rfl⟩
  have hp := hp V16
  have hp := hp (by
    intro gv t0 hp
    rw [eV16]
    intro H locs ls hP hD hS hl
    obtain ⟨r3, g4, hg4, hp⟩ := hp
    refine wr_Vi (As := [.int t0]) (rest := []) (w1 := []) (w2 := []) (ws1 := wX5 q cI g4) ⟨hx, hb, hml, hown, hts⟩ (c_X5_isFine l dC dI cI q gv t0 r3 g4 hg4 _) (cwV 1 hts gX5_wasteNow_X5_isFine rfl rfl rfl (by decide +kernel) ⟨Nat.le_of_ble_eq_true rfl, Nat.le_of_ble_eq_true rfl⟩) hP hD hS hA hK hN (List.append_nil _).symm (List.append_nil _) rfl rfl rfl rfl hl.1 (Nat.le_of_ble_eq_true rfl) ⟨Nat.zero_le _, Nat.zero_le _⟩ dX5_wasteNow_16 (fun H locs hP hD hS => ?_)
    refine lv_if_eq (tgt := 37) hx hb dX5_wasteNow_19 (by decide) (fun c10 => ?_) (fun c10 => ?_)
    · have hp := hp.1 c10
      refine lv_aload_n hx hb dX5_wasteNow_37 rfl (lv_at hl 0 rfl) ?_
      refine va_get (D := (dC, dI)) (ci := 5) (v := .int (g4 0 0)) (C := RX5) (T := TX5) (N := 33) hx hb hts iX5_wasteNow_X5 hown hK hP 0 rfl rfl 0 (by decide) (hts _ kX5_wasteNow_0) (fun _ h9 => h9) rfl dX5_wasteNow_38 ?_
      refine lv_if_le (tgt := 48) hx hb dX5_wasteNow_41 (by decide) (fun c5 => ?_) (fun c5 => ?_)
      · have hp := hp.1 c5
        refine lv_iconst (v := -1) hx hb dX5_wasteNow_48 (by decide) ?_
        exact W.iret hx hb hr (fun t ht _ => ⟨⟨_, (), rfl, hp.1.symm, by rw [ht, hp.2]; exact hP, by rw [hp.2]; exact hD⟩, hS.F ht⟩) hS.2.2 dX5_wasteNow_49
      · have hp := hp.2 c5
        refine lv_iconst (v := 0) hx hb dX5_wasteNow_44 (by decide) ?_
        refine lv_goto (tgt := 49) hx hb dX5_wasteNow_45 (by decide) ?_
        exact W.iret hx hb hr (fun t ht _ => ⟨⟨_, (), rfl, hp.1.symm, by rw [ht, hp.2]; exact hP, by rw [hp.2]; exact hD⟩, hS.F ht⟩) hS.2.2 dX5_wasteNow_49
    · have hp := hp.2 c10
      refine lv_aload_n hx hb dX5_wasteNow_22 rfl (lv_at hl 0 rfl) ?_
      refine lv_iload_n hx hb dX5_wasteNow_23 rfl (lv_at hl 1 rfl) ?_
      obtain ⟨r6, g7, hg7, hp⟩ := hp
      refine wr_Vi (As := [.int a1]) (rest := []) (w1 := []) (w2 := []) (ws1 := wX5 q cI g7) ⟨hx, hb, hml, hown, hts⟩ (c_X5_finds l dC dI cI q g4 a1 r6 g7 hg7 _) (cwV 1 hts gX5_wasteNow_X5_finds rfl rfl rfl (by decide +kernel) ⟨Nat.le_of_ble_eq_true rfl, Nat.le_of_ble_eq_true rfl⟩) hP hD hS hA hK hN (List.append_nil _).symm (List.append_nil _) rfl rfl rfl rfl hl.1 (Nat.le_of_ble_eq_true rfl) ⟨Nat.zero_le _, Nat.zero_le _⟩ dX5_wasteNow_24 (fun H locs hP hD hS => ?_)
      refine lv_if_eq (tgt := 37) hx hb dX5_wasteNow_27 (by decide) (fun c9 => ?_) (fun c9 => ?_)
      · have hp := hp.1 c9
        refine lv_aload_n hx hb dX5_wasteNow_37 rfl (lv_at hl 0 rfl) ?_
        refine va_get (D := (dC, dI)) (ci := 5) (v := .int (g7 0 0)) (C := RX5) (T := TX5) (N := 33) hx hb hts iX5_wasteNow_X5 hown hK hP 0 rfl rfl 0 (by decide) (hts _ kX5_wasteNow_0) (fun _ h9 => h9) rfl dX5_wasteNow_38 ?_
        refine lv_if_le (tgt := 48) hx hb dX5_wasteNow_41 (by decide) (fun c8 => ?_) (fun c8 => ?_)
        · have hp := hp.1 c8
          refine lv_iconst (v := -1) hx hb dX5_wasteNow_48 (by decide) ?_
          exact W.iret hx hb hr (fun t ht _ => ⟨⟨_, (), rfl, hp.1.symm, by rw [ht, hp.2]; exact hP, by rw [hp.2]; exact hD⟩, hS.F ht⟩) hS.2.2 dX5_wasteNow_49
        · have hp := hp.2 c8
          refine lv_iconst (v := 0) hx hb dX5_wasteNow_44 (by decide) ?_
          refine lv_goto (tgt := 49) hx hb dX5_wasteNow_45 (by decide) ?_
          exact W.iret hx hb hr (fun t ht _ => ⟨⟨_, (), rfl, hp.1.symm, by rw [ht, hp.2]; exact hP, by rw [hp.2]; exact hD⟩, hS.F ht⟩) hS.2.2 dX5_wasteNow_49
      · have hp := hp.2 c9
        refine lv_aload_n hx hb dX5_wasteNow_30 rfl (lv_at hl 0 rfl) ?_
        refine va_get (D := (dC, dI)) (ci := 5) (v := .int (g7 0 32)) (C := RX5) (T := TX5) (N := 33) hx hb hts iX5_wasteNow_X5 hown hK hP 0 rfl rfl 32 (by decide) (hts _ kX5_wasteNow_2) (fun _ h9 => h9) rfl dX5_wasteNow_31 ?_
        refine lv_goto (tgt := 49) hx hb dX5_wasteNow_34 (by decide) ?_
        exact W.iret hx hb hr (fun t ht _ => ⟨⟨_, (), rfl, hp.1.symm, by rw [ht, hp.2]; exact hP, by rw [hp.2]; exact hD⟩, hS.F ht⟩) hS.2.2 dX5_wasteNow_49)
  refine lv_aload_n hx hb dX5_wasteNow_0 rfl (lv_at hl 0 rfl) ?_
  refine lv_iload_n hx hb dX5_wasteNow_1 rfl (lv_at hl 1 rfl) ?_
  refine lv_iconst (v := 1) hx hb dX5_wasteNow_2 (by decide) ?_
  refine lv_bipush (v := 12) hx hb dX5_wasteNow_3 (by decide) ?_
  obtain ⟨r1, hr1, hp⟩ := hp
  refine ro_S (As := [.int a1, .int (1 : Int32), .int (12 : Int32)]) (rest := [.ref (q 0)]) ⟨hx, hb, hml, hown, hts⟩ (c_X5_isIn l dC dI cI a1 (1 : Int32) (12 : Int32) r1 hr1) (va_cwS 3 hts gX5_wasteNow_X5_isIn rfl rfl rfl (by decide +kernel) ⟨Nat.le_of_ble_eq_true rfl, Nat.le_of_ble_eq_true rfl⟩) (hP.sub [] rfl) hK hN rfl rfl hl.1 (Nat.le_of_ble_eq_true rfl) ⟨Nat.zero_le _, Nat.zero_le _⟩ dX5_wasteNow_5 ?_
  refine lv_if_eq (tgt := 15) hx hb dX5_wasteNow_8 (by decide) (fun c2 => ?_) (fun c2 => ?_)
  · have hp := hp.1 c2
    refine lv_iconst (v := 1) hx hb dX5_wasteNow_15 (by decide) ?_
    rw [eV16] at hp
    exact hp _ _ _ hP hD hS (lv_sub hl [0, 1] rfl)
  · have hp := hp.2 c2
    refine lv_iconst (v := 0) hx hb dX5_wasteNow_11 (by decide) ?_
    refine lv_goto (tgt := 16) hx hb dX5_wasteNow_12 (by decide) ?_
    rw [eV16] at hp
    exact hp _ _ _ hP hD hS (lv_sub hl [0, 1] rfl)
def P_X5_waste (g : St) (a1 : Int32) (r : Int32) (g' : St) : Prop := (∃ (r1 : Int32) (g2 : St), P_X5_wasteNow g a1 r1 g2 ∧ (r = r1 ∧ g' = g2))
set_option maxRecDepth 100000 in
set_option maxHeartbeats 4000000 in
theorem c_X5_waste (l : Launch) (dC : Nat → ClassId) (dI : Nat → Nat → Nat) (cI : ClassId) (q : Nat → Nat) (g : St) (a1 : Int32) (r : Int32) (g' : St) (hp : P_X5_waste g a1 r g') (sz : Nat) : Met l yX5_waste wsX5_waste { frames := 2, cells := 0, slots := 0, locals := 47 } (va_Pc [.ref (q 0), .int a1] (wpS (dC, dI) vwCl [(cI, .int)] (wX5 q cI g) sz)) (va_Qi (fun (r' : Int32) (_ : Unit) => r' = r) (fun _ t => wqB (dC, dI) vwCl (wX5 q cI g') (va_A (wX5 q cI g) sz) t) (va_A (wX5 q cI g) sz)) 0 0 (va_A (wX5 q cI g) sz) := by
  refine wr_met (fun A => (va_Qi (fun (r' : Int32) (_ : Unit) => r' = r) (fun _ t => wqB (dC, dI) vwCl (wX5 q cI g') A t) A)) (cc := cX5_waste) (maxL := 2) (ret := (some .int)) (by decide) rfl (Nat.le_of_ble_eq_true rfl) ?_
  intro p e s m below meth c A hx hb hml hr hlk hts hown hnm hP hK hN hD hA ls hl
  have hS : va_S A s.heap s.heap [] := va_S.rf
  have hl : lv_has ls 2 [(0, .ref (q 0)), (1, .int a1)] := hl
  unfold P_X5_waste at hp
  refine lv_aload_n hx hb dX5_waste_0 rfl (lv_at hl 0 rfl) ?_
  refine lv_iload_n hx hb dX5_waste_1 rfl (lv_at hl 1 rfl) ?_
  obtain ⟨r1, g2, hg2, hp⟩ := hp
  refine wr_Vi (As := [.int a1]) (rest := []) (w1 := []) (w2 := []) (ws1 := wX5 q cI g2) ⟨hx, hb, hml, hown, hts⟩ (c_X5_wasteNow l dC dI cI q g a1 r1 g2 hg2 _) (cwV 1 hts gX5_waste_X5_wasteNow rfl rfl rfl (by decide +kernel) ⟨Nat.le_of_ble_eq_true rfl, Nat.le_of_ble_eq_true rfl⟩) hP hD hS hA hK hN (List.append_nil _).symm (List.append_nil _) rfl rfl rfl rfl hl.1 (Nat.le_of_ble_eq_true rfl) ⟨Nat.zero_le _, Nat.zero_le _⟩ dX5_waste_2 (fun H locs hP hD hS => ?_)
  exact W.iret hx hb hr (fun t ht _ => ⟨⟨_, (), rfl, hp.1.symm, by rw [ht, hp.2]; exact hP, by rw [hp.2]; exact hD⟩, hS.F ht⟩) hS.2.2 dX5_waste_5
def P_X5_wasteByAll (g : St) (a1 : Int32) (r : Int32) (g' : St) : Prop := (∃ (r1 : Int32) (g2 : St), P_X5_wasteNow g a1 r1 g2 ∧ (r = r1 ∧ g' = g2))
set_option maxRecDepth 100000 in
set_option maxHeartbeats 4000000 in
theorem c_X5_wasteByAll (l : Launch) (dC : Nat → ClassId) (dI : Nat → Nat → Nat) (cI : ClassId) (q : Nat → Nat) (g : St) (a1 : Int32) (r : Int32) (g' : St) (hp : P_X5_wasteByAll g a1 r g') (sz : Nat) : Met l yX5_wasteByAll wsX5_wasteByAll { frames := 2, cells := 0, slots := 0, locals := 47 } (va_Pc [.ref (q 0), .int a1] (wpS (dC, dI) vwCl [(cI, .int)] (wX5 q cI g) sz)) (va_Qi (fun (r' : Int32) (_ : Unit) => r' = r) (fun _ t => wqB (dC, dI) vwCl (wX5 q cI g') (va_A (wX5 q cI g) sz) t) (va_A (wX5 q cI g) sz)) 0 0 (va_A (wX5 q cI g) sz) := by
  refine wr_met (fun A => (va_Qi (fun (r' : Int32) (_ : Unit) => r' = r) (fun _ t => wqB (dC, dI) vwCl (wX5 q cI g') A t) A)) (cc := cX5_wasteByAll) (maxL := 2) (ret := (some .int)) (by decide) rfl (Nat.le_of_ble_eq_true rfl) ?_
  intro p e s m below meth c A hx hb hml hr hlk hts hown hnm hP hK hN hD hA ls hl
  have hS : va_S A s.heap s.heap [] := va_S.rf
  have hl : lv_has ls 2 [(0, .ref (q 0)), (1, .int a1)] := hl
  unfold P_X5_wasteByAll at hp
  refine lv_aload_n hx hb dX5_wasteByAll_0 rfl (lv_at hl 0 rfl) ?_
  refine lv_iload_n hx hb dX5_wasteByAll_1 rfl (lv_at hl 1 rfl) ?_
  obtain ⟨r1, g2, hg2, hp⟩ := hp
  refine wr_Vi (As := [.int a1]) (rest := []) (w1 := []) (w2 := []) (ws1 := wX5 q cI g2) ⟨hx, hb, hml, hown, hts⟩ (c_X5_wasteNow l dC dI cI q g a1 r1 g2 hg2 _) (cwV 1 hts gX5_wasteByAll_X5_wasteNow rfl rfl rfl (by decide +kernel) ⟨Nat.le_of_ble_eq_true rfl, Nat.le_of_ble_eq_true rfl⟩) hP hD hS hA hK hN (List.append_nil _).symm (List.append_nil _) rfl rfl rfl rfl hl.1 (Nat.le_of_ble_eq_true rfl) ⟨Nat.zero_le _, Nat.zero_le _⟩ dX5_wasteByAll_2 (fun H locs hP hD hS => ?_)
  exact W.iret hx hb hr (fun t ht _ => ⟨⟨_, (), rfl, hp.1.symm, by rw [ht, hp.2]; exact hP, by rw [hp.2]; exact hD⟩, hS.F ht⟩) hS.2.2 dX5_wasteByAll_5
theorem kX5_leftOf_0 : (.fieldLink RX5 25 "MeeplehouseModel" "since" "[I" : Cond) ∈ wsX5_leftOf := by decide +kernel
theorem iX5_leftOf_X5 : ∀ w ∈ wsX50, w ∈ wsX5_leftOf := by decide +kernel
theorem kX5_leftOf_2 : (.fieldLink RX5 19 "MeeplehouseModel" "stay" "[I" : Cond) ∈ wsX5_leftOf := by decide +kernel
theorem kX5_leftOf_3 : (.fieldLink RX5 96 "MeeplehouseModel" "now" "I" : Cond) ∈ wsX5_leftOf := by decide +kernel
def P_X5_leftOf (g : St) (a1 : Int32) (r : Int32) : Prop := (vp_in a1 30 ∧ (vp_in a1 30 ∧ ((0 ≤ (((g 6 a1.toNatClampNeg) + (g 4 a1.toNatClampNeg)) - (g 0 1)) → (r = (((g 6 a1.toNatClampNeg) + (g 4 a1.toNatClampNeg)) - (g 0 1)))) ∧ (¬ 0 ≤ (((g 6 a1.toNatClampNeg) + (g 4 a1.toNatClampNeg)) - (g 0 1)) → (r = (0 : Int32))))))
set_option maxRecDepth 100000 in
set_option maxHeartbeats 4000000 in
theorem c_X5_leftOf (l : Launch) (dC : Nat → ClassId) (dI : Nat → Nat → Nat) (cI : ClassId) (q : Nat → Nat) (g : St) (a1 : Int32) (r : Int32) (hp : P_X5_leftOf g a1 r) : Met l yX5_leftOf wsX5_leftOf { frames := 0, cells := 0, slots := 0, locals := 0 } (va_Pc [.ref (q 0), .int a1] (rpS (dC, dI) vwCl [(cI, .int)] (wX5 q cI g))) (QcRead r) 0 0 (fun _ => False) := by
  refine ro_met (cc := cX5_leftOf) (maxL := 3) (ret := (some .int)) (by decide) rfl (Nat.le_of_ble_eq_true rfl) ?_
  intro p e s m below meth c hx hb hml hr hlk hts hown hP hK hN ls hl
  have hl : lv_has ls 3 [(0, .ref (q 0)), (1, .int a1)] := hl
  unfold P_X5_leftOf at hp
  refine lv_aload_n hx hb dX5_leftOf_0 rfl (lv_at hl 0 rfl) ?_
  refine va_get (D := (dC, dI)) (ci := 5) (v := .ref (q 6)) (C := RX5) (T := TX5) (N := 33) hx hb hts iX5_leftOf_X5 hown hK hP 0 rfl rfl 8 (by decide) (hts _ kX5_leftOf_0) (fun _ h9 => h9) rfl dX5_leftOf_1 ?_
  refine lv_iload_n hx hb dX5_leftOf_4 rfl (lv_at hl 1 rfl) ?_
  refine va_iald hx hb hK hP 6 0 rfl rfl hp.1 dX5_leftOf_5 ?_
  have hp := hp.2
  refine lv_aload_n hx hb dX5_leftOf_6 rfl (lv_at hl 0 rfl) ?_
  refine va_get (D := (dC, dI)) (ci := 5) (v := .ref (q 4)) (C := RX5) (T := TX5) (N := 33) hx hb hts iX5_leftOf_X5 hown hK hP 0 rfl rfl 6 (by decide) (hts _ kX5_leftOf_2) (fun _ h9 => h9) rfl dX5_leftOf_7 ?_
  refine lv_iload_n hx hb dX5_leftOf_10 rfl (lv_at hl 1 rfl) ?_
  refine va_iald hx hb hK hP 4 0 rfl rfl hp.1 dX5_leftOf_11 ?_
  have hp := hp.2
  refine lv_iadd hx hb dX5_leftOf_12 ?_
  refine lv_aload_n hx hb dX5_leftOf_13 rfl (lv_at hl 0 rfl) ?_
  refine va_get (D := (dC, dI)) (ci := 5) (v := .int (g 0 1)) (C := RX5) (T := TX5) (N := 33) hx hb hts iX5_leftOf_X5 hown hK hP 0 rfl rfl 1 (by decide) (hts _ kX5_leftOf_3) (fun _ h9 => h9) rfl dX5_leftOf_14 ?_
  refine lv_isub hx hb dX5_leftOf_17 ?_
  refine lv_istore_n (lv' := [(2, .int (((g 6 a1.toNatClampNeg) + (g 4 a1.toNatClampNeg)) - (g 0 1))), (0, .ref (q 0)), (1, .int a1)]) hx hb dX5_leftOf_18 rfl hl (by decide) rfl (fun ls hl => ?_)
  refine lv_iload_n hx hb dX5_leftOf_19 rfl (lv_at hl 0 rfl) ?_
  refine lv_if_ge (tgt := 27) hx hb dX5_leftOf_20 (by decide) (fun c1 => ?_) (fun c1 => ?_)
  · have hp := hp.1 c1
    refine lv_iload_n hx hb dX5_leftOf_27 rfl (lv_at hl 0 rfl) ?_
    exact W.iret hx hb hr (fun t ht _ => ⟨by rw [hp], ht⟩) (fun _ h => nomatch h) dX5_leftOf_28
  · have hp := hp.2 c1
    refine lv_iconst (v := 0) hx hb dX5_leftOf_23 (by decide) ?_
    refine lv_goto (tgt := 28) hx hb dX5_leftOf_24 (by decide) ?_
    exact W.iret hx hb hr (fun t ht _ => ⟨by rw [hp], ht⟩) (fun _ h => nomatch h) dX5_leftOf_28
theorem kX5_left_0 : (.fieldLink RX5 22 "MeeplehouseModel" "state" "[I" : Cond) ∈ wsX5_left := by decide +kernel
theorem iX5_left_X5 : ∀ w ∈ wsX50, w ∈ wsX5_left := by decide +kernel
def P_X5_left (g : St) (a1 : Int32) (r : Int32) (g' : St) : Prop := ∀ V30 : St → Int32 → Prop, (∀ gv : St, ∀ t0 : Int32, (∃ (r4 : Int32) (g5 : St), P_X5_isFine gv t0 r4 g5 ∧ ((r4 = 0 → (r = (0 : Int32) ∧ g' = g5)) ∧ (¬ r4 = 0 → (∃ r6 : Int32, P_X5_leftOf g5 a1 r6 ∧ (r = r6 ∧ g' = g5))))) → V30 gv t0) → (∃ r1 : Int32, P_X5_isGroup g a1 r1 ∧ ((¬ r1 = 0 → (vp_in a1 30 ∧ (((g 5 a1.toNatClampNeg) = (1 : Int32) → (V30 g (0 : Int32))) ∧ (¬ (g 5 a1.toNatClampNeg) = (1 : Int32) → (V30 g (2 : Int32)))))) ∧ (r1 = 0 → (V30 g (1 : Int32)))))
set_option maxRecDepth 100000 in
set_option maxHeartbeats 4000000 in
theorem c_X5_left (l : Launch) (dC : Nat → ClassId) (dI : Nat → Nat → Nat) (cI : ClassId) (q : Nat → Nat) (g : St) (a1 : Int32) (r : Int32) (g' : St) (hp : P_X5_left g a1 r g') (sz : Nat) : Met l yX5_left wsX5_left { frames := 2, cells := 0, slots := 0, locals := 43 } (va_Pc [.ref (q 0), .int a1] (wpS (dC, dI) vwCl [(cI, .int)] (wX5 q cI g) sz)) (va_Qi (fun (r' : Int32) (_ : Unit) => r' = r) (fun _ t => wqB (dC, dI) vwCl (wX5 q cI g') (va_A (wX5 q cI g) sz) t) (va_A (wX5 q cI g) sz)) 0 0 (va_A (wX5 q cI g) sz) := by
  refine wr_met (fun A => (va_Qi (fun (r' : Int32) (_ : Unit) => r' = r) (fun _ t => wqB (dC, dI) vwCl (wX5 q cI g') A t) A)) (cc := cX5_left) (maxL := 3) (ret := (some .int)) (by decide) rfl (Nat.le_of_ble_eq_true rfl) ?_
  intro p e s m below meth c A hx hb hml hr hlk hts hown hnm hP hK hN hD hA ls hl
  have hS : va_S A s.heap s.heap [] := va_S.rf
  have hl : lv_has ls 3 [(0, .ref (q 0)), (1, .int a1)] := hl
  obtain ⟨V30, eV30⟩ : ∃ V : St → Int32 → Prop, V = (fun gv t0 => ∀ (H : Heap) (locs : List Loc) (ls : Array Slot), va_P (dC, dI) vwCl (wX5 q cI gv) H → va_D A (wX5 q cI gv) → va_S A s.heap H locs → lv_has ls 3 [(0, .ref (q 0)), (1, .int a1)] → W p l e { frames := 2, cells := 0, slots := 0, locals := 43 } s m ([.ref (q 0), .int a1] : List Value).toArray below meth c H locs 0 0 (MQ below (va_Qi (fun (r' : Int32) (_ : Unit) => r' = r) (fun _ t => wqB (dC, dI) vwCl (wX5 q cI g') A t) A) ([.ref (q 0), .int a1] : List Value).toArray s 0 0 A) (F0 m 30 ls [.int t0, .ref (q 0)])) := ⟨_, rfl⟩
  have hp := hp V30
  have hp := hp (by
    intro gv t0 hp
    rw [eV30]
    intro H locs ls hP hD hS hl
    obtain ⟨r4, g5, hg5, hp⟩ := hp
    refine wr_Vi (As := [.int t0]) (rest := []) (w1 := []) (w2 := []) (ws1 := wX5 q cI g5) ⟨hx, hb, hml, hown, hts⟩ (c_X5_isFine l dC dI cI q gv t0 r4 g5 hg5 _) (cwV 1 hts gX5_left_X5_isFine rfl rfl rfl (by decide +kernel) ⟨Nat.le_of_ble_eq_true rfl, Nat.le_of_ble_eq_true rfl⟩) hP hD hS hA hK hN (List.append_nil _).symm (List.append_nil _) rfl rfl rfl rfl hl.1 (Nat.le_of_ble_eq_true rfl) ⟨Nat.zero_le _, Nat.zero_le _⟩ dX5_left_30 (fun H locs hP hD hS => ?_)
    refine lv_if_eq (tgt := 44) hx hb dX5_left_33 (by decide) (fun c7 => ?_) (fun c7 => ?_)
    · have hp := hp.1 c7
      refine lv_iconst (v := 0) hx hb dX5_left_44 (by decide) ?_
      exact W.iret hx hb hr (fun t ht _ => ⟨⟨_, (), rfl, hp.1.symm, by rw [ht, hp.2]; exact hP, by rw [hp.2]; exact hD⟩, hS.F ht⟩) hS.2.2 dX5_left_45
    · have hp := hp.2 c7
      refine lv_aload_n hx hb dX5_left_36 rfl (lv_at hl 0 rfl) ?_
      refine lv_iload_n hx hb dX5_left_37 rfl (lv_at hl 1 rfl) ?_
      obtain ⟨r6, hr6, hp⟩ := hp
      refine ro_V (As := [.int a1]) (rest := []) ⟨hx, hb, hml, hown, hts⟩ (c_X5_leftOf l dC dI cI q g5 a1 r6 hr6) (cwV 1 hts gX5_left_X5_leftOf rfl rfl rfl (by decide +kernel) ⟨Nat.le_of_ble_eq_true rfl, Nat.le_of_ble_eq_true rfl⟩) hP hK hN rfl rfl rfl rfl hl.1 (Nat.le_of_ble_eq_true rfl) ⟨Nat.zero_le _, Nat.zero_le _⟩ dX5_left_38 ?_
      refine lv_goto (tgt := 45) hx hb dX5_left_41 (by decide) ?_
      exact W.iret hx hb hr (fun t ht _ => ⟨⟨_, (), rfl, hp.1.symm, by rw [ht, hp.2]; exact hP, by rw [hp.2]; exact hD⟩, hS.F ht⟩) hS.2.2 dX5_left_45)
  refine lv_aload_n hx hb dX5_left_0 rfl (lv_at hl 0 rfl) ?_
  refine lv_iload_n hx hb dX5_left_1 rfl (lv_at hl 1 rfl) ?_
  obtain ⟨r1, hr1, hp⟩ := hp
  refine ro_V (As := [.int a1]) (rest := []) ⟨hx, hb, hml, hown, hts⟩ (c_X5_isGroup l dC dI cI q g a1 r1 hr1) (cwV 1 hts gX5_left_X5_isGroup rfl rfl rfl (by decide +kernel) ⟨Nat.le_of_ble_eq_true rfl, Nat.le_of_ble_eq_true rfl⟩) hP hK hN rfl rfl rfl rfl hl.1 (Nat.le_of_ble_eq_true rfl) ⟨Nat.zero_le _, Nat.zero_le _⟩ dX5_left_2 ?_
  refine lv_istore_n (lv' := [(2, .int r1), (0, .ref (q 0)), (1, .int a1)]) hx hb dX5_left_5 rfl hl (by decide) rfl (fun ls hl => ?_)
  refine lv_aload_n hx hb dX5_left_6 rfl (lv_at hl 1 rfl) ?_
  refine lv_iload_n hx hb dX5_left_7 rfl (lv_at hl 0 rfl) ?_
  refine lv_if_ne (tgt := 15) hx hb dX5_left_8 (by decide) (fun c3 => ?_) (fun c3 => ?_)
  · have hp := hp.1 c3
    refine lv_aload_n hx hb dX5_left_15 rfl (lv_at hl 1 rfl) ?_
    refine va_get (D := (dC, dI)) (ci := 5) (v := .ref (q 5)) (C := RX5) (T := TX5) (N := 33) hx hb hts iX5_left_X5 hown hK hP 0 rfl rfl 7 (by decide) (hts _ kX5_left_0) (fun _ h9 => h9) rfl dX5_left_16 ?_
    refine lv_iload_n hx hb dX5_left_19 rfl (lv_at hl 2 rfl) ?_
    refine va_iald hx hb hK hP 5 0 rfl rfl hp.1 dX5_left_20 ?_
    have hp := hp.2
    refine lv_iconst (v := 1) hx hb dX5_left_21 (by decide) ?_
    refine lv_icmp_eq (tgt := 29) hx hb dX5_left_22 (by decide) (fun c2 => ?_) (fun c2 => ?_)
    · have hp := hp.1 c2
      refine lv_iconst (v := 0) hx hb dX5_left_29 (by decide) ?_
      rw [eV30] at hp
      exact hp _ _ _ hP hD hS (lv_sub hl [1, 2] rfl)
    · have hp := hp.2 c2
      refine lv_iconst (v := 2) hx hb dX5_left_25 (by decide) ?_
      refine lv_goto (tgt := 30) hx hb dX5_left_26 (by decide) ?_
      rw [eV30] at hp
      exact hp _ _ _ hP hD hS (lv_sub hl [1, 2] rfl)
  · have hp := hp.2 c3
    refine lv_iconst (v := 1) hx hb dX5_left_11 (by decide) ?_
    refine lv_goto (tgt := 30) hx hb dX5_left_12 (by decide) ?_
    rw [eV30] at hp
    exact hp _ _ _ hP hD hS (lv_sub hl [1, 2] rfl)
theorem kX5_makes_0 : (.fieldLink RX5 40 "MeeplehouseModel" "whole" "[I" : Cond) ∈ wsX5_makes := by decide +kernel
theorem iX5_makes_X5 : ∀ w ∈ wsX50, w ∈ wsX5_makes := by decide +kernel
theorem kX5_makes_2 : (.fieldLink RX5 43 "MeeplehouseModel" "title" "[I" : Cond) ∈ wsX5_makes := by decide +kernel
theorem kX5_makes_3 : (.fieldLink RX5 49 "MeeplehouseModel" "pieces" "[I" : Cond) ∈ wsX5_makes := by decide +kernel
theorem kX5_makes_4 : (.fieldLink RX5 90 "MeeplehouseModel" "copies" "I" : Cond) ∈ wsX5_makes := by decide +kernel
theorem kX5_makes_5 : (.fieldLink RX5 46 "MeeplehouseModel" "where" "[I" : Cond) ∈ wsX5_makes := by decide +kernel
def P_X5_makes (g : St) (a1 : Int32) (r : Int32) : Prop := ∀ V4 : Int32 → Int32 → Prop, ∀ V40 : Int32 → Int32 → Int32 → Int32 → Prop, ∀ V104 : Int32 → Int32 → Int32 → Int32 → Prop, ∀ V105 : Int32 → Int32 → Int32 → Int32 → Int32 → Prop, ∀ V129 : Int32 → Int32 → Int32 → Int32 → Int32 → Int32 → Prop, (∀ x2 x3 : Int32, (((4 : Int32) ≤ x3 → (r = x2)) ∧ (¬ (4 : Int32) ≤ x3 → (vp_in a1 16 ∧ (vp_in (((4 : Int32) * (g 12 a1.toNatClampNeg)) + x3) 32 ∧ (vp_in (((4 : Int32) * a1) + x3) 64 ∧ (∀ y1 : Int32, y1 = (g 11 (((4 : Int32) * (g 12 a1.toNatClampNeg)) + x3).toNatClampNeg) - (g 14 (((4 : Int32) * a1) + x3).toNatClampNeg) → (V40 x2 x3 y1 (0 : Int32)))))))) → V4 x2 x3) → (∀ x2 x3 x4 x5 : Int32, (((g 0 19) ≤ x5 → ((x4 ≤ 0 → (V4 x2 (x3 + (1 : Int32)))) ∧ (¬ x4 ≤ 0 → (r = (-1 : Int32))))) ∧ (¬ (g 0 19) ≤ x5 → ((x4 ≤ 0 → ((x4 ≤ 0 → (V4 x2 (x3 + (1 : Int32)))) ∧ (¬ x4 ≤ 0 → (r = (-1 : Int32))))) ∧ (¬ x4 ≤ 0 → ((x5 = a1 → (V104 x2 x3 x4 x5)) ∧ (¬ x5 = a1 → (vp_in x5 16 ∧ (vp_in a1 16 ∧ ((¬ (g 12 x5.toNatClampNeg) = (g 12 a1.toNatClampNeg) → (V104 x2 x3 x4 x5)) ∧ ((g 12 x5.toNatClampNeg) = (g 12 a1.toNatClampNeg) → (vp_in x5 16 ∧ ((¬ (g 13 x5.toNatClampNeg) = 0 → (V104 x2 x3 x4 x5)) ∧ ((g 13 x5.toNatClampNeg) = 0 → (vp_in (((4 : Int32) * x5) + x3) 64 ∧ (((g 14 (((4 : Int32) * x5) + x3).toNatClampNeg) ≤ 0 → (V104 x2 x3 x4 x5)) ∧ (¬ (g 14 (((4 : Int32) * x5) + x3).toNatClampNeg) ≤ 0 → (V105 x2 x3 x4 x5 (1 : Int32)))))))))))))))))) → V40 x2 x3 x4 x5) → (∀ x2 x3 x4 x5 : Int32, (V105 x2 x3 x4 x5 (0 : Int32)) → V104 x2 x3 x4 x5) → (∀ x2 x3 x4 x5 t0 : Int32, ((t0 = 0 → (V129 x2 x3 x5 t0 (0 : Int32) x4)) ∧ (¬ t0 = 0 → (vp_in (((4 : Int32) * x5) + x3) 64 ∧ (V129 x2 x3 x5 t0 (g 14 (((4 : Int32) * x5) + x3).toNatClampNeg) x4)))) → V105 x2 x3 x4 x5 t0) → (∀ x2 x3 x5 x6 t0 t1 : Int32, ((x6 = 0 → (V40 (x2 ||| (0 : Int32)) x3 (t1 - t0) (x5 + (1 : Int32)))) ∧ (¬ x6 = 0 → (V40 (x2 ||| ((1 : Int32) <<< (x5 &&& 31))) x3 (t1 - t0) (x5 + (1 : Int32))))) → V129 x2 x3 x5 x6 t0 t1) → (V4 (0 : Int32) (0 : Int32))
set_option maxRecDepth 100000 in
set_option maxHeartbeats 4000000 in
theorem c_X5_makes (l : Launch) (dC : Nat → ClassId) (dI : Nat → Nat → Nat) (cI : ClassId) (q : Nat → Nat) (g : St) (a1 : Int32) (r : Int32) (hp : P_X5_makes g a1 r) : Met l yX5_makes wsX5_makes { frames := 0, cells := 0, slots := 0, locals := 0 } (va_Pc [.ref (q 0), .int a1] (rpS (dC, dI) vwCl [(cI, .int)] (wX5 q cI g))) (QcRead r) 0 0 (fun _ => False) := by
  refine ro_met (cc := cX5_makes) (maxL := 7) (ret := (some .int)) (by decide) rfl (Nat.le_of_ble_eq_true rfl) ?_
  intro p e s m below meth c hx hb hml hr hlk hts hown hP hK hN ls hl
  have hl : lv_has ls 7 [(0, .ref (q 0)), (1, .int a1)] := hl
  obtain ⟨V4, eV4⟩ : ∃ V : Int32 → Int32 → Prop, V = (fun x2 x3 => ∀ ls : Array Slot, lv_has ls 7 [(0, .ref (q 0)), (1, .int a1), (2, .int x2), (3, .int x3)] → W p l e { frames := 0, cells := 0, slots := 0, locals := 0 } s m ([.ref (q 0), .int a1] : List Value).toArray below meth c s.heap [] 0 0 (MQ below (QcRead r) ([.ref (q 0), .int a1] : List Value).toArray s 0 0 (fun _ => False)) (F0 m 4 ls [])) := ⟨_, rfl⟩
  obtain ⟨V40, eV40⟩ : ∃ V : Int32 → Int32 → Int32 → Int32 → Prop, V = (fun x2 x3 x4 x5 => ∀ ls : Array Slot, lv_has ls 7 [(0, .ref (q 0)), (1, .int a1), (2, .int x2), (3, .int x3), (4, .int x4), (5, .int x5)] → W p l e { frames := 0, cells := 0, slots := 0, locals := 0 } s m ([.ref (q 0), .int a1] : List Value).toArray below meth c s.heap [] 0 0 (MQ below (QcRead r) ([.ref (q 0), .int a1] : List Value).toArray s 0 0 (fun _ => False)) (F0 m 40 ls [])) := ⟨_, rfl⟩
  obtain ⟨V104, eV104⟩ : ∃ V : Int32 → Int32 → Int32 → Int32 → Prop, V = (fun x2 x3 x4 x5 => ∀ ls : Array Slot, lv_has ls 7 [(0, .ref (q 0)), (1, .int a1), (2, .int x2), (3, .int x3), (4, .int x4), (5, .int x5)] → W p l e { frames := 0, cells := 0, slots := 0, locals := 0 } s m ([.ref (q 0), .int a1] : List Value).toArray below meth c s.heap [] 0 0 (MQ below (QcRead r) ([.ref (q 0), .int a1] : List Value).toArray s 0 0 (fun _ => False)) (F0 m 104 ls [])) := ⟨_, rfl⟩
  obtain ⟨V105, eV105⟩ : ∃ V : Int32 → Int32 → Int32 → Int32 → Int32 → Prop, V = (fun x2 x3 x4 x5 t0 => ∀ ls : Array Slot, lv_has ls 7 [(0, .ref (q 0)), (1, .int a1), (2, .int x2), (3, .int x3), (4, .int x4), (5, .int x5)] → W p l e { frames := 0, cells := 0, slots := 0, locals := 0 } s m ([.ref (q 0), .int a1] : List Value).toArray below meth c s.heap [] 0 0 (MQ below (QcRead r) ([.ref (q 0), .int a1] : List Value).toArray s 0 0 (fun _ => False)) (F0 m 105 ls [.int t0])) := ⟨_, rfl⟩
  obtain ⟨V129, eV129⟩ : ∃ V : Int32 → Int32 → Int32 → Int32 → Int32 → Int32 → Prop, V = (fun x2 x3 x5 x6 t0 t1 => ∀ ls : Array Slot, lv_has ls 7 [(0, .ref (q 0)), (1, .int a1), (2, .int x2), (3, .int x3), (5, .int x5), (6, .int x6)] → W p l e { frames := 0, cells := 0, slots := 0, locals := 0 } s m ([.ref (q 0), .int a1] : List Value).toArray below meth c s.heap [] 0 0 (MQ below (QcRead r) ([.ref (q 0), .int a1] : List Value).toArray s 0 0 (fun _ => False)) (F0 m 129 ls [.int t0, .int t1])) := ⟨_, rfl⟩
  have hp := hp V4 V40 V104 V105 V129
  have hp := hp (by
    intro x2 x3 hp
    rw [eV4]
    intro ls hl
    refine lv_iload_n hx hb dX5_makes_4 rfl (lv_at hl 3 rfl) ?_
    refine lv_iconst (v := 4) hx hb dX5_makes_5 (by decide) ?_
    refine lv_icmp_ge (tgt := 167) hx hb dX5_makes_6 (by decide) (fun c2 => ?_) (fun c2 => ?_)
    · have hp := hp.1 c2
      refine lv_iload_n hx hb dX5_makes_167 rfl (lv_at hl 2 rfl) ?_
      exact W.iret hx hb hr (fun t ht _ => ⟨by rw [hp], ht⟩) (fun _ h => nomatch h) dX5_makes_168
    · have hp := hp.2 c2
      refine lv_aload_n hx hb dX5_makes_9 rfl (lv_at hl 0 rfl) ?_
      refine va_get (D := (dC, dI)) (ci := 5) (v := .ref (q 11)) (C := RX5) (T := TX5) (N := 33) hx hb hts iX5_makes_X5 hown hK hP 0 rfl rfl 14 (by decide) (hts _ kX5_makes_0) (fun _ h9 => h9) rfl dX5_makes_10 ?_
      refine lv_iconst (v := 4) hx hb dX5_makes_13 (by decide) ?_
      refine lv_aload_n hx hb dX5_makes_14 rfl (lv_at hl 0 rfl) ?_
      refine va_get (D := (dC, dI)) (ci := 5) (v := .ref (q 12)) (C := RX5) (T := TX5) (N := 33) hx hb hts iX5_makes_X5 hown hK hP 0 rfl rfl 16 (by decide) (hts _ kX5_makes_2) (fun _ h9 => h9) rfl dX5_makes_15 ?_
      refine lv_iload_n hx hb dX5_makes_18 rfl (lv_at hl 1 rfl) ?_
      refine va_iald hx hb hK hP 12 0 rfl rfl hp.1 dX5_makes_19 ?_
      have hp := hp.2
      refine lv_imul hx hb dX5_makes_20 ?_
      refine lv_iload_n hx hb dX5_makes_21 rfl (lv_at hl 3 rfl) ?_
      refine lv_iadd hx hb dX5_makes_22 ?_
      refine va_iald hx hb hK hP 11 0 rfl rfl hp.1 dX5_makes_23 ?_
      have hp := hp.2
      refine lv_aload_n hx hb dX5_makes_24 rfl (lv_at hl 0 rfl) ?_
      refine va_get (D := (dC, dI)) (ci := 5) (v := .ref (q 14)) (C := RX5) (T := TX5) (N := 33) hx hb hts iX5_makes_X5 hown hK hP 0 rfl rfl 18 (by decide) (hts _ kX5_makes_3) (fun _ h9 => h9) rfl dX5_makes_25 ?_
      refine lv_iconst (v := 4) hx hb dX5_makes_28 (by decide) ?_
      refine lv_iload_n hx hb dX5_makes_29 rfl (lv_at hl 1 rfl) ?_
      refine lv_imul hx hb dX5_makes_30 ?_
      refine lv_iload_n hx hb dX5_makes_31 rfl (lv_at hl 3 rfl) ?_
      refine lv_iadd hx hb dX5_makes_32 ?_
      refine va_iald hx hb hK hP 14 0 rfl rfl hp.1 dX5_makes_33 ?_
      have hp := hp.2
      refine lv_isub hx hb dX5_makes_34 ?_
      refine lv_topi (fun y1 ey1 => ?_)
      have hp := hp y1 ey1
      refine lv_istore (lv' := [(4, .int y1), (0, .ref (q 0)), (1, .int a1), (2, .int x2), (3, .int x3)]) hx hb dX5_makes_35 hl (by decide) rfl (fun ls hl => ?_)
      refine lv_iconst (v := 0) hx hb dX5_makes_37 (by decide) ?_
      refine lv_istore (lv' := [(5, .int (0 : Int32)), (4, .int y1), (0, .ref (q 0)), (1, .int a1), (2, .int x2), (3, .int x3)]) hx hb dX5_makes_38 hl (by decide) rfl (fun ls hl => ?_)
      rw [eV40] at hp
      exact hp _ (lv_sub hl [2, 3, 4, 5, 1, 0] rfl))
  have hp := hp (by
    intro x2 x3 x4 x5 hp
    rw [eV40]
    intro ls hl
    refine lv_iload hx hb dX5_makes_40 (lv_at hl 5 rfl) ?_
    refine lv_aload_n hx hb dX5_makes_42 rfl (lv_at hl 0 rfl) ?_
    refine va_get (D := (dC, dI)) (ci := 5) (v := .int (g 0 19)) (C := RX5) (T := TX5) (N := 33) hx hb hts iX5_makes_X5 hown hK hP 0 rfl rfl 19 (by decide) (hts _ kX5_makes_4) (fun _ h9 => h9) rfl dX5_makes_43 ?_
    refine lv_icmp_ge (tgt := 154) hx hb dX5_makes_46 (by decide) (fun c10 => ?_) (fun c10 => ?_)
    · have hp := hp.1 c10
      refine lv_iload hx hb dX5_makes_154 (lv_at hl 4 rfl) ?_
      refine lv_if_le (tgt := 161) hx hb dX5_makes_156 (by decide) (fun c3 => ?_) (fun c3 => ?_)
      · have hp := hp.1 c3
        refine lv_iinc (v := x3 + (1 : Int32)) (lv' := [(3, .int (x3 + (1 : Int32))), (0, .ref (q 0)), (1, .int a1), (2, .int x2), (4, .int x4), (5, .int x5)]) hx hb dX5_makes_161 hl (k := 3) rfl rfl (by decide) rfl (fun ls hl => ?_)
        refine lv_goto (tgt := 4) hx hb dX5_makes_164 (by decide) ?_
        rw [eV4] at hp
        exact hp _ (lv_sub hl [1, 2, 3, 0] rfl)
      · have hp := hp.2 c3
        refine lv_iconst (v := -1) hx hb dX5_makes_159 (by decide) ?_
        exact W.iret hx hb hr (fun t ht _ => ⟨by rw [hp], ht⟩) (fun _ h => nomatch h) dX5_makes_160
    · have hp := hp.2 c10
      refine lv_iload hx hb dX5_makes_49 (lv_at hl 4 rfl) ?_
      refine lv_if_le (tgt := 154) hx hb dX5_makes_51 (by decide) (fun c9 => ?_) (fun c9 => ?_)
      · have hp := hp.1 c9
        refine lv_iload hx hb dX5_makes_154 (lv_at hl 4 rfl) ?_
        refine lv_if_le (tgt := 161) hx hb dX5_makes_156 (by decide) (fun c4 => ?_) (fun c4 => ?_)
        · have hp := hp.1 c4
          refine lv_iinc (v := x3 + (1 : Int32)) (lv' := [(3, .int (x3 + (1 : Int32))), (0, .ref (q 0)), (1, .int a1), (2, .int x2), (4, .int x4), (5, .int x5)]) hx hb dX5_makes_161 hl (k := 3) rfl rfl (by decide) rfl (fun ls hl => ?_)
          refine lv_goto (tgt := 4) hx hb dX5_makes_164 (by decide) ?_
          rw [eV4] at hp
          exact hp _ (lv_sub hl [1, 2, 3, 0] rfl)
        · have hp := hp.2 c4
          refine lv_iconst (v := -1) hx hb dX5_makes_159 (by decide) ?_
          exact W.iret hx hb hr (fun t ht _ => ⟨by rw [hp], ht⟩) (fun _ h => nomatch h) dX5_makes_160
      · have hp := hp.2 c9
        refine lv_iload hx hb dX5_makes_54 (lv_at hl 5 rfl) ?_
        refine lv_iload_n hx hb dX5_makes_56 rfl (lv_at hl 1 rfl) ?_
        refine lv_icmp_eq (tgt := 104) hx hb dX5_makes_57 (by decide) (fun c8 => ?_) (fun c8 => ?_)
        · have hp := hp.1 c8
          rw [eV104] at hp
          exact hp _ (lv_sub hl [0, 1, 2, 3, 4, 5] rfl)
        · have hp := hp.2 c8
          refine lv_aload_n hx hb dX5_makes_60 rfl (lv_at hl 0 rfl) ?_
          refine va_get (D := (dC, dI)) (ci := 5) (v := .ref (q 12)) (C := RX5) (T := TX5) (N := 33) hx hb hts iX5_makes_X5 hown hK hP 0 rfl rfl 16 (by decide) (hts _ kX5_makes_2) (fun _ h9 => h9) rfl dX5_makes_61 ?_
          refine lv_iload hx hb dX5_makes_64 (lv_at hl 5 rfl) ?_
          refine va_iald hx hb hK hP 12 0 rfl rfl hp.1 dX5_makes_66 ?_
          have hp := hp.2
          refine lv_aload_n hx hb dX5_makes_67 rfl (lv_at hl 0 rfl) ?_
          refine va_get (D := (dC, dI)) (ci := 5) (v := .ref (q 12)) (C := RX5) (T := TX5) (N := 33) hx hb hts iX5_makes_X5 hown hK hP 0 rfl rfl 16 (by decide) (hts _ kX5_makes_2) (fun _ h9 => h9) rfl dX5_makes_68 ?_
          refine lv_iload_n hx hb dX5_makes_71 rfl (lv_at hl 1 rfl) ?_
          refine va_iald hx hb hK hP 12 0 rfl rfl hp.1 dX5_makes_72 ?_
          have hp := hp.2
          refine lv_icmp_ne (tgt := 104) hx hb dX5_makes_73 (by decide) (fun c7 => ?_) (fun c7 => ?_)
          · have hp := hp.1 c7
            rw [eV104] at hp
            exact hp _ (lv_sub hl [0, 1, 2, 3, 4, 5] rfl)
          · have hp := hp.2 c7
            refine lv_aload_n hx hb dX5_makes_76 rfl (lv_at hl 0 rfl) ?_
            refine va_get (D := (dC, dI)) (ci := 5) (v := .ref (q 13)) (C := RX5) (T := TX5) (N := 33) hx hb hts iX5_makes_X5 hown hK hP 0 rfl rfl 17 (by decide) (hts _ kX5_makes_5) (fun _ h9 => h9) rfl dX5_makes_77 ?_
            refine lv_iload hx hb dX5_makes_80 (lv_at hl 5 rfl) ?_
            refine va_iald hx hb hK hP 13 0 rfl rfl hp.1 dX5_makes_82 ?_
            have hp := hp.2
            refine lv_if_ne (tgt := 104) hx hb dX5_makes_83 (by decide) (fun c6 => ?_) (fun c6 => ?_)
            · have hp := hp.1 c6
              rw [eV104] at hp
              exact hp _ (lv_sub hl [0, 1, 2, 3, 4, 5] rfl)
            · have hp := hp.2 c6
              refine lv_aload_n hx hb dX5_makes_86 rfl (lv_at hl 0 rfl) ?_
              refine va_get (D := (dC, dI)) (ci := 5) (v := .ref (q 14)) (C := RX5) (T := TX5) (N := 33) hx hb hts iX5_makes_X5 hown hK hP 0 rfl rfl 18 (by decide) (hts _ kX5_makes_3) (fun _ h9 => h9) rfl dX5_makes_87 ?_
              refine lv_iconst (v := 4) hx hb dX5_makes_90 (by decide) ?_
              refine lv_iload hx hb dX5_makes_91 (lv_at hl 5 rfl) ?_
              refine lv_imul hx hb dX5_makes_93 ?_
              refine lv_iload_n hx hb dX5_makes_94 rfl (lv_at hl 3 rfl) ?_
              refine lv_iadd hx hb dX5_makes_95 ?_
              refine va_iald hx hb hK hP 14 0 rfl rfl hp.1 dX5_makes_96 ?_
              have hp := hp.2
              refine lv_if_le (tgt := 104) hx hb dX5_makes_97 (by decide) (fun c5 => ?_) (fun c5 => ?_)
              · have hp := hp.1 c5
                rw [eV104] at hp
                exact hp _ (lv_sub hl [0, 1, 2, 3, 4, 5] rfl)
              · have hp := hp.2 c5
                refine lv_iconst (v := 1) hx hb dX5_makes_100 (by decide) ?_
                refine lv_goto (tgt := 105) hx hb dX5_makes_101 (by decide) ?_
                rw [eV105] at hp
                exact hp _ (lv_sub hl [0, 1, 2, 3, 4, 5] rfl))
  have hp := hp (by
    intro x2 x3 x4 x5 hp
    rw [eV104]
    intro ls hl
    refine lv_iconst (v := 0) hx hb dX5_makes_104 (by decide) ?_
    rw [eV105] at hp
    exact hp _ (lv_sub hl [0, 1, 2, 3, 4, 5] rfl))
  have hp := hp (by
    intro x2 x3 x4 x5 t0 hp
    rw [eV105]
    intro ls hl
    refine lv_istore (lv' := [(6, .int t0), (0, .ref (q 0)), (1, .int a1), (2, .int x2), (3, .int x3), (4, .int x4), (5, .int x5)]) hx hb dX5_makes_105 hl (by decide) rfl (fun ls hl => ?_)
    refine lv_iload hx hb dX5_makes_107 (lv_at hl 5 rfl) ?_
    refine lv_iload hx hb dX5_makes_109 (lv_at hl 0 rfl) ?_
    refine lv_if_eq (tgt := 128) hx hb dX5_makes_111 (by decide) (fun c11 => ?_) (fun c11 => ?_)
    · have hp := hp.1 c11
      refine lv_iconst (v := 0) hx hb dX5_makes_128 (by decide) ?_
      rw [eV129] at hp
      exact hp _ (lv_sub hl [1, 2, 3, 4, 6, 0] rfl)
    · have hp := hp.2 c11
      refine lv_aload_n hx hb dX5_makes_114 rfl (lv_at hl 1 rfl) ?_
      refine va_get (D := (dC, dI)) (ci := 5) (v := .ref (q 14)) (C := RX5) (T := TX5) (N := 33) hx hb hts iX5_makes_X5 hown hK hP 0 rfl rfl 18 (by decide) (hts _ kX5_makes_3) (fun _ h9 => h9) rfl dX5_makes_115 ?_
      refine lv_iconst (v := 4) hx hb dX5_makes_118 (by decide) ?_
      refine lv_iload hx hb dX5_makes_119 (lv_at hl 6 rfl) ?_
      refine lv_imul hx hb dX5_makes_121 ?_
      refine lv_iload_n hx hb dX5_makes_122 rfl (lv_at hl 4 rfl) ?_
      refine lv_iadd hx hb dX5_makes_123 ?_
      refine va_iald hx hb hK hP 14 0 rfl rfl hp.1 dX5_makes_124 ?_
      have hp := hp.2
      refine lv_goto (tgt := 129) hx hb dX5_makes_125 (by decide) ?_
      rw [eV129] at hp
      exact hp _ (lv_sub hl [1, 2, 3, 4, 6, 0] rfl))
  have hp := hp (by
    intro x2 x3 x5 x6 t0 t1 hp
    rw [eV129]
    intro ls hl
    refine lv_isub hx hb dX5_makes_129 ?_
    refine lv_istore (lv' := [(4, .int (t1 - t0)), (0, .ref (q 0)), (1, .int a1), (2, .int x2), (3, .int x3), (5, .int x5), (6, .int x6)]) hx hb dX5_makes_130 hl (by decide) rfl (fun ls hl => ?_)
    refine lv_iload_n hx hb dX5_makes_132 rfl (lv_at hl 3 rfl) ?_
    refine lv_iload hx hb dX5_makes_133 (lv_at hl 6 rfl) ?_
    refine lv_if_eq (tgt := 145) hx hb dX5_makes_135 (by decide) (fun c12 => ?_) (fun c12 => ?_)
    · have hp := hp.1 c12
      refine lv_iconst (v := 0) hx hb dX5_makes_145 (by decide) ?_
      refine lv_ior hx hb dX5_makes_146 ?_
      refine lv_istore_n (lv' := [(2, .int (x2 ||| (0 : Int32))), (4, .int (t1 - t0)), (0, .ref (q 0)), (1, .int a1), (3, .int x3), (5, .int x5), (6, .int x6)]) hx hb dX5_makes_147 rfl hl (by decide) rfl (fun ls hl => ?_)
      refine lv_iinc (v := x5 + (1 : Int32)) (lv' := [(5, .int (x5 + (1 : Int32))), (2, .int (x2 ||| (0 : Int32))), (4, .int (t1 - t0)), (0, .ref (q 0)), (1, .int a1), (3, .int x3), (6, .int x6)]) hx hb dX5_makes_148 hl (k := 5) rfl rfl (by decide) rfl (fun ls hl => ?_)
      refine lv_goto (tgt := 40) hx hb dX5_makes_151 (by decide) ?_
      rw [eV40] at hp
      exact hp _ (lv_sub hl [3, 4, 1, 5, 2, 0] rfl)
    · have hp := hp.2 c12
      refine lv_iconst (v := 1) hx hb dX5_makes_138 (by decide) ?_
      refine lv_iload hx hb dX5_makes_139 (lv_at hl 5 rfl) ?_
      refine lv_ishl hx hb dX5_makes_141 ?_
      refine lv_goto (tgt := 146) hx hb dX5_makes_142 (by decide) ?_
      refine lv_ior hx hb dX5_makes_146 ?_
      refine lv_istore_n (lv' := [(2, .int (x2 ||| ((1 : Int32) <<< (x5 &&& 31)))), (4, .int (t1 - t0)), (0, .ref (q 0)), (1, .int a1), (3, .int x3), (5, .int x5), (6, .int x6)]) hx hb dX5_makes_147 rfl hl (by decide) rfl (fun ls hl => ?_)
      refine lv_iinc (v := x5 + (1 : Int32)) (lv' := [(5, .int (x5 + (1 : Int32))), (2, .int (x2 ||| ((1 : Int32) <<< (x5 &&& 31)))), (4, .int (t1 - t0)), (0, .ref (q 0)), (1, .int a1), (3, .int x3), (6, .int x6)]) hx hb dX5_makes_148 hl (k := 5) rfl rfl (by decide) rfl (fun ls hl => ?_)
      refine lv_goto (tgt := 40) hx hb dX5_makes_151 (by decide) ?_
      rw [eV40] at hp
      exact hp _ (lv_sub hl [3, 4, 1, 5, 2, 0] rfl))
  refine lv_iconst (v := 0) hx hb dX5_makes_0 (by decide) ?_
  refine lv_istore_n (lv' := [(2, .int (0 : Int32)), (0, .ref (q 0)), (1, .int a1)]) hx hb dX5_makes_1 rfl hl (by decide) rfl (fun ls hl => ?_)
  refine lv_iconst (v := 0) hx hb dX5_makes_2 (by decide) ?_
  refine lv_istore_n (lv' := [(3, .int (0 : Int32)), (2, .int (0 : Int32)), (0, .ref (q 0)), (1, .int a1)]) hx hb dX5_makes_3 rfl hl (by decide) rfl (fun ls hl => ?_)
  rw [eV4] at hp
  exact hp _ (lv_sub hl [2, 3, 1, 0] rfl)
def P_X5_count (a0 : Int32) (r : Int32) : Prop := ∀ V4 : Int32 → Int32 → Prop, (∀ x1 x2 : Int32, (((16 : Int32) ≤ x2 → (r = x1)) ∧ (¬ (16 : Int32) ≤ x2 → (V4 (x1 + ((a0 >>> (x2 &&& 31)) &&& (1 : Int32))) (x2 + (1 : Int32))))) → V4 x1 x2) → (V4 (0 : Int32) (0 : Int32))
set_option maxRecDepth 100000 in
set_option maxHeartbeats 4000000 in
theorem c_X5_count (l : Launch) (dC : Nat → ClassId) (dI : Nat → Nat → Nat) (cI : ClassId) (a0 : Int32) (r : Int32) (hp : P_X5_count a0 r) : Met l yX5_count wsX5_count { frames := 0, cells := 0, slots := 0, locals := 0 } (va_Pc [.int a0] (rpS (dC, dI) vwCl [(cI, .int)] ([]))) (QcRead r) 0 0 (fun _ => False) := by
  refine ro_met (cc := cX5_count) (maxL := 3) (ret := (some .int)) (by decide) rfl (Nat.le_of_ble_eq_true rfl) ?_
  intro p e s m below meth c hx hb hml hr hlk hts hown hP hK hN ls hl
  have hl : lv_has ls 3 [(0, .int a0)] := hl
  obtain ⟨V4, eV4⟩ : ∃ V : Int32 → Int32 → Prop, V = (fun x1 x2 => ∀ ls : Array Slot, lv_has ls 3 [(0, .int a0), (1, .int x1), (2, .int x2)] → W p l e { frames := 0, cells := 0, slots := 0, locals := 0 } s m ([.int a0] : List Value).toArray below meth c s.heap [] 0 0 (MQ below (QcRead r) ([.int a0] : List Value).toArray s 0 0 (fun _ => False)) (F0 m 4 ls [])) := ⟨_, rfl⟩
  have hp := hp V4
  have hp := hp (by
    intro x1 x2 hp
    rw [eV4]
    intro ls hl
    refine lv_iload_n hx hb dX5_count_4 rfl (lv_at hl 2 rfl) ?_
    refine lv_bipush (v := 16) hx hb dX5_count_5 (by decide) ?_
    refine lv_icmp_ge (tgt := 24) hx hb dX5_count_7 (by decide) (fun c1 => ?_) (fun c1 => ?_)
    · have hp := hp.1 c1
      refine lv_iload_n hx hb dX5_count_24 rfl (lv_at hl 1 rfl) ?_
      exact W.iret hx hb hr (fun t ht _ => ⟨by rw [hp], ht⟩) (fun _ h => nomatch h) dX5_count_25
    · have hp := hp.2 c1
      refine lv_iload_n hx hb dX5_count_10 rfl (lv_at hl 1 rfl) ?_
      refine lv_iload_n hx hb dX5_count_11 rfl (lv_at hl 0 rfl) ?_
      refine lv_iload_n hx hb dX5_count_12 rfl (lv_at hl 2 rfl) ?_
      refine lv_ishr hx hb dX5_count_13 ?_
      refine lv_iconst (v := 1) hx hb dX5_count_14 (by decide) ?_
      refine lv_iand hx hb dX5_count_15 ?_
      refine lv_iadd hx hb dX5_count_16 ?_
      refine lv_istore_n (lv' := [(1, .int (x1 + ((a0 >>> (x2 &&& 31)) &&& (1 : Int32)))), (0, .int a0), (2, .int x2)]) hx hb dX5_count_17 rfl hl (by decide) rfl (fun ls hl => ?_)
      refine lv_iinc (v := x2 + (1 : Int32)) (lv' := [(2, .int (x2 + (1 : Int32))), (1, .int (x1 + ((a0 >>> (x2 &&& 31)) &&& (1 : Int32)))), (0, .int a0)]) hx hb dX5_count_18 hl (k := 2) rfl rfl (by decide) rfl (fun ls hl => ?_)
      refine lv_goto (tgt := 4) hx hb dX5_count_21 (by decide) ?_
      rw [eV4] at hp
      exact hp _ (lv_sub hl [2, 1, 0] rfl))
  refine lv_iconst (v := 0) hx hb dX5_count_0 (by decide) ?_
  refine lv_istore_n (lv' := [(1, .int (0 : Int32)), (0, .int a0)]) hx hb dX5_count_1 rfl hl (by decide) rfl (fun ls hl => ?_)
  refine lv_iconst (v := 0) hx hb dX5_count_2 (by decide) ?_
  refine lv_istore_n (lv' := [(2, .int (0 : Int32)), (1, .int (0 : Int32)), (0, .int a0)]) hx hb dX5_count_3 rfl hl (by decide) rfl (fun ls hl => ?_)
  rw [eV4] at hp
  exact hp _ (lv_sub hl [2, 1, 0] rfl)
theorem kX5_lendersOf_0 : (.fieldLink RX5 46 "MeeplehouseModel" "where" "[I" : Cond) ∈ wsX5_lendersOf := by decide +kernel
theorem iX5_lendersOf_X5 : ∀ w ∈ wsX50, w ∈ wsX5_lendersOf := by decide +kernel
def P_X5_lendersOf (g : St) (a1 : Int32) (r : Int32) : Prop := ∀ V18 : Int32 → Prop, (∀ t0 : Int32, ((¬ t0 = (-1 : Int32) → (∃ r3 : Int32, P_X5_count t0 r3 ∧ (r = r3))) ∧ (t0 = (-1 : Int32) → (r = (-1 : Int32)))) → V18 t0) → (vp_in a1 16 ∧ ((¬ (g 13 a1.toNatClampNeg) = 0 → (V18 (-1 : Int32))) ∧ ((g 13 a1.toNatClampNeg) = 0 → (∃ r1 : Int32, P_X5_makes g a1 r1 ∧ (V18 r1)))))
set_option maxRecDepth 100000 in
set_option maxHeartbeats 4000000 in
theorem c_X5_lendersOf (l : Launch) (dC : Nat → ClassId) (dI : Nat → Nat → Nat) (cI : ClassId) (q : Nat → Nat) (g : St) (a1 : Int32) (r : Int32) (hp : P_X5_lendersOf g a1 r) : Met l yX5_lendersOf wsX5_lendersOf { frames := 1, cells := 0, slots := 0, locals := 26 } (va_Pc [.ref (q 0), .int a1] (rpS (dC, dI) vwCl [(cI, .int)] (wX5 q cI g))) (QcRead r) 0 0 (fun _ => False) := by
  refine ro_met (cc := cX5_lendersOf) (maxL := 3) (ret := (some .int)) (by decide) rfl (Nat.le_of_ble_eq_true rfl) ?_
  intro p e s m below meth c hx hb hml hr hlk hts hown hP hK hN ls hl
  have hl : lv_has ls 3 [(0, .ref (q 0)), (1, .int a1)] := hl
  obtain ⟨V18, eV18⟩ : ∃ V : Int32 → Prop, V = (fun t0 => ∀ ls : Array Slot, lv_has ls 3 [(0, .ref (q 0)), (1, .int a1)] → W p l e { frames := 1, cells := 0, slots := 0, locals := 26 } s m ([.ref (q 0), .int a1] : List Value).toArray below meth c s.heap [] 0 0 (MQ below (QcRead r) ([.ref (q 0), .int a1] : List Value).toArray s 0 0 (fun _ => False)) (F0 m 18 ls [.int t0])) := ⟨_, rfl⟩
  have hp := hp V18
  have hp := hp (by
    intro t0 hp
    rw [eV18]
    intro ls hl
    refine lv_istore_n (lv' := [(2, .int t0), (0, .ref (q 0)), (1, .int a1)]) hx hb dX5_lendersOf_18 rfl hl (by decide) rfl (fun ls hl => ?_)
    refine lv_iload_n hx hb dX5_lendersOf_19 rfl (lv_at hl 0 rfl) ?_
    refine lv_iconst (v := -1) hx hb dX5_lendersOf_20 (by decide) ?_
    refine lv_icmp_ne (tgt := 28) hx hb dX5_lendersOf_21 (by decide) (fun c4 => ?_) (fun c4 => ?_)
    · have hp := hp.1 c4
      refine lv_iload_n hx hb dX5_lendersOf_28 rfl (lv_at hl 0 rfl) ?_
      obtain ⟨r3, hr3, hp⟩ := hp
      refine ro_S (As := [.int t0]) (rest := []) ⟨hx, hb, hml, hown, hts⟩ (c_X5_count l dC dI cI t0 r3 hr3) (va_cwS 1 hts gX5_lendersOf_X5_count rfl rfl rfl (by decide +kernel) ⟨Nat.le_of_ble_eq_true rfl, Nat.le_of_ble_eq_true rfl⟩) (hP.sub [] rfl) hK hN rfl rfl hl.1 (Nat.le_of_ble_eq_true rfl) ⟨Nat.zero_le _, Nat.zero_le _⟩ dX5_lendersOf_29 ?_
      exact W.iret hx hb hr (fun t ht _ => ⟨by rw [hp], ht⟩) (fun _ h => nomatch h) dX5_lendersOf_32
    · have hp := hp.2 c4
      refine lv_iconst (v := -1) hx hb dX5_lendersOf_24 (by decide) ?_
      refine lv_goto (tgt := 32) hx hb dX5_lendersOf_25 (by decide) ?_
      exact W.iret hx hb hr (fun t ht _ => ⟨by rw [hp], ht⟩) (fun _ h => nomatch h) dX5_lendersOf_32)
  refine lv_aload_n hx hb dX5_lendersOf_0 rfl (lv_at hl 0 rfl) ?_
  refine va_get (D := (dC, dI)) (ci := 5) (v := .ref (q 13)) (C := RX5) (T := TX5) (N := 33) hx hb hts iX5_lendersOf_X5 hown hK hP 0 rfl rfl 17 (by decide) (hts _ kX5_lendersOf_0) (fun _ h9 => h9) rfl dX5_lendersOf_1 ?_
  refine lv_iload_n hx hb dX5_lendersOf_4 rfl (lv_at hl 1 rfl) ?_
  refine va_iald hx hb hK hP 13 0 rfl rfl hp.1 dX5_lendersOf_5 ?_
  have hp := hp.2
  refine lv_if_ne (tgt := 17) hx hb dX5_lendersOf_6 (by decide) (fun c2 => ?_) (fun c2 => ?_)
  · have hp := hp.1 c2
    refine lv_iconst (v := -1) hx hb dX5_lendersOf_17 (by decide) ?_
    rw [eV18] at hp
    exact hp _ (lv_sub hl [0, 1] rfl)
  · have hp := hp.2 c2
    refine lv_aload_n hx hb dX5_lendersOf_9 rfl (lv_at hl 0 rfl) ?_
    refine lv_iload_n hx hb dX5_lendersOf_10 rfl (lv_at hl 1 rfl) ?_
    obtain ⟨r1, hr1, hp⟩ := hp
    refine ro_V (As := [.int a1]) (rest := []) ⟨hx, hb, hml, hown, hts⟩ (c_X5_makes l dC dI cI q g a1 r1 hr1) (cwV 1 hts gX5_lendersOf_X5_makes rfl rfl rfl (by decide +kernel) ⟨Nat.le_of_ble_eq_true rfl, Nat.le_of_ble_eq_true rfl⟩) hP hK hN rfl rfl rfl rfl hl.1 (Nat.le_of_ble_eq_true rfl) ⟨Nat.zero_le _, Nat.zero_le _⟩ dX5_lendersOf_11 ?_
    refine lv_goto (tgt := 18) hx hb dX5_lendersOf_14 (by decide) ?_
    rw [eV18] at hp
    exact hp _ (lv_sub hl [0, 1] rfl)
theorem kX5_bestCopy_0 : (.fieldLink RX5 90 "MeeplehouseModel" "copies" "I" : Cond) ∈ wsX5_bestCopy := by decide +kernel
theorem iX5_bestCopy_X5 : ∀ w ∈ wsX50, w ∈ wsX5_bestCopy := by decide +kernel
theorem kX5_bestCopy_2 : (.fieldLink RX5 43 "MeeplehouseModel" "title" "[I" : Cond) ∈ wsX5_bestCopy := by decide +kernel
def P_X5_bestCopy (g : St) (a1 : Int32) (r : Int32) : Prop := ∀ V4 : Int32 → Int32 → Prop, ∀ V31 : Int32 → Int32 → Int32 → Prop, (∀ x2 x3 : Int32, (((g 0 19) ≤ x3 → (r = x2)) ∧ (¬ (g 0 19) ≤ x3 → (vp_in x3 16 ∧ ((¬ (g 12 x3.toNatClampNeg) = a1 → (V31 x2 x3 (-1 : Int32))) ∧ ((g 12 x3.toNatClampNeg) = a1 → (∃ r1 : Int32, P_X5_lendersOf g x3 r1 ∧ (V31 x2 x3 r1))))))) → V4 x2 x3) → (∀ x2 x3 t0 : Int32, ((t0 = (-1 : Int32) → (V4 x2 (x3 + (1 : Int32)))) ∧ (¬ t0 = (-1 : Int32) → ((x2 = (-1 : Int32) → (V4 x3 (x3 + (1 : Int32)))) ∧ (¬ x2 = (-1 : Int32) → (∃ r4 : Int32, P_X5_lendersOf g x2 r4 ∧ ((r4 ≤ t0 → (V4 x2 (x3 + (1 : Int32)))) ∧ (¬ r4 ≤ t0 → (V4 x3 (x3 + (1 : Int32)))))))))) → V31 x2 x3 t0) → (V4 (-1 : Int32) (0 : Int32))
set_option maxRecDepth 100000 in
set_option maxHeartbeats 4000000 in
theorem c_X5_bestCopy (l : Launch) (dC : Nat → ClassId) (dI : Nat → Nat → Nat) (cI : ClassId) (q : Nat → Nat) (g : St) (a1 : Int32) (r : Int32) (hp : P_X5_bestCopy g a1 r) : Met l yX5_bestCopy wsX5_bestCopy { frames := 2, cells := 0, slots := 0, locals := 48 } (va_Pc [.ref (q 0), .int a1] (rpS (dC, dI) vwCl [(cI, .int)] (wX5 q cI g))) (QcRead r) 0 0 (fun _ => False) := by
  refine ro_met (cc := cX5_bestCopy) (maxL := 5) (ret := (some .int)) (by decide) rfl (Nat.le_of_ble_eq_true rfl) ?_
  intro p e s m below meth c hx hb hml hr hlk hts hown hP hK hN ls hl
  have hl : lv_has ls 5 [(0, .ref (q 0)), (1, .int a1)] := hl
  obtain ⟨V4, eV4⟩ : ∃ V : Int32 → Int32 → Prop, V = (fun x2 x3 => ∀ ls : Array Slot, lv_has ls 5 [(0, .ref (q 0)), (1, .int a1), (2, .int x2), (3, .int x3)] → W p l e { frames := 2, cells := 0, slots := 0, locals := 48 } s m ([.ref (q 0), .int a1] : List Value).toArray below meth c s.heap [] 0 0 (MQ below (QcRead r) ([.ref (q 0), .int a1] : List Value).toArray s 0 0 (fun _ => False)) (F0 m 4 ls [])) := ⟨_, rfl⟩
  obtain ⟨V31, eV31⟩ : ∃ V : Int32 → Int32 → Int32 → Prop, V = (fun x2 x3 t0 => ∀ ls : Array Slot, lv_has ls 5 [(0, .ref (q 0)), (1, .int a1), (2, .int x2), (3, .int x3)] → W p l e { frames := 2, cells := 0, slots := 0, locals := 48 } s m ([.ref (q 0), .int a1] : List Value).toArray below meth c s.heap [] 0 0 (MQ below (QcRead r) ([.ref (q 0), .int a1] : List Value).toArray s 0 0 (fun _ => False)) (F0 m 31 ls [.int t0])) := ⟨_, rfl⟩
  have hp := hp V4 V31
  have hp := hp (by
    intro x2 x3 hp
    rw [eV4]
    intro ls hl
    refine lv_iload_n hx hb dX5_bestCopy_4 rfl (lv_at hl 3 rfl) ?_
    refine lv_aload_n hx hb dX5_bestCopy_5 rfl (lv_at hl 0 rfl) ?_
    refine va_get (D := (dC, dI)) (ci := 5) (v := .int (g 0 19)) (C := RX5) (T := TX5) (N := 33) hx hb hts iX5_bestCopy_X5 hown hK hP 0 rfl rfl 19 (by decide) (hts _ kX5_bestCopy_0) (fun _ h9 => h9) rfl dX5_bestCopy_6 ?_
    refine lv_icmp_ge (tgt := 66) hx hb dX5_bestCopy_9 (by decide) (fun c3 => ?_) (fun c3 => ?_)
    · have hp := hp.1 c3
      refine lv_iload_n hx hb dX5_bestCopy_66 rfl (lv_at hl 2 rfl) ?_
      exact W.iret hx hb hr (fun t ht _ => ⟨by rw [hp], ht⟩) (fun _ h => nomatch h) dX5_bestCopy_67
    · have hp := hp.2 c3
      refine lv_aload_n hx hb dX5_bestCopy_12 rfl (lv_at hl 0 rfl) ?_
      refine va_get (D := (dC, dI)) (ci := 5) (v := .ref (q 12)) (C := RX5) (T := TX5) (N := 33) hx hb hts iX5_bestCopy_X5 hown hK hP 0 rfl rfl 16 (by decide) (hts _ kX5_bestCopy_2) (fun _ h9 => h9) rfl dX5_bestCopy_13 ?_
      refine lv_iload_n hx hb dX5_bestCopy_16 rfl (lv_at hl 3 rfl) ?_
      refine va_iald hx hb hK hP 12 0 rfl rfl hp.1 dX5_bestCopy_17 ?_
      have hp := hp.2
      refine lv_iload_n hx hb dX5_bestCopy_18 rfl (lv_at hl 1 rfl) ?_
      refine lv_icmp_ne (tgt := 30) hx hb dX5_bestCopy_19 (by decide) (fun c2 => ?_) (fun c2 => ?_)
      · have hp := hp.1 c2
        refine lv_iconst (v := -1) hx hb dX5_bestCopy_30 (by decide) ?_
        rw [eV31] at hp
        exact hp _ (lv_sub hl [0, 1, 2, 3] rfl)
      · have hp := hp.2 c2
        refine lv_aload_n hx hb dX5_bestCopy_22 rfl (lv_at hl 0 rfl) ?_
        refine lv_iload_n hx hb dX5_bestCopy_23 rfl (lv_at hl 3 rfl) ?_
        obtain ⟨r1, hr1, hp⟩ := hp
        refine ro_V (As := [.int x3]) (rest := []) ⟨hx, hb, hml, hown, hts⟩ (c_X5_lendersOf l dC dI cI q g x3 r1 hr1) (cwV 1 hts gX5_bestCopy_X5_lendersOf rfl rfl rfl (by decide +kernel) ⟨Nat.le_of_ble_eq_true rfl, Nat.le_of_ble_eq_true rfl⟩) hP hK hN rfl rfl rfl rfl hl.1 (Nat.le_of_ble_eq_true rfl) ⟨Nat.zero_le _, Nat.zero_le _⟩ dX5_bestCopy_24 ?_
        refine lv_goto (tgt := 31) hx hb dX5_bestCopy_27 (by decide) ?_
        rw [eV31] at hp
        exact hp _ (lv_sub hl [0, 1, 2, 3] rfl))
  have hp := hp (by
    intro x2 x3 t0 hp
    rw [eV31]
    intro ls hl
    refine lv_istore (lv' := [(4, .int t0), (0, .ref (q 0)), (1, .int a1), (2, .int x2), (3, .int x3)]) hx hb dX5_bestCopy_31 hl (by decide) rfl (fun ls hl => ?_)
    refine lv_iload hx hb dX5_bestCopy_33 (lv_at hl 0 rfl) ?_
    refine lv_iconst (v := -1) hx hb dX5_bestCopy_35 (by decide) ?_
    refine lv_icmp_eq (tgt := 58) hx hb dX5_bestCopy_36 (by decide) (fun c7 => ?_) (fun c7 => ?_)
    · have hp := hp.1 c7
      refine lv_iload_n hx hb dX5_bestCopy_58 rfl (lv_at hl 3 rfl) ?_
      refine lv_istore_n (lv' := [(2, .int x2), (4, .int t0), (0, .ref (q 0)), (1, .int a1), (3, .int x3)]) hx hb dX5_bestCopy_59 rfl hl (by decide) rfl (fun ls hl => ?_)
      refine lv_iinc (v := x3 + (1 : Int32)) (lv' := [(3, .int (x3 + (1 : Int32))), (2, .int x2), (4, .int t0), (0, .ref (q 0)), (1, .int a1)]) hx hb dX5_bestCopy_60 hl (k := 4) rfl rfl (by decide) rfl (fun ls hl => ?_)
      refine lv_goto (tgt := 4) hx hb dX5_bestCopy_63 (by decide) ?_
      rw [eV4] at hp
      exact hp _ (lv_sub hl [3, 4, 1, 0] rfl)
    · have hp := hp.2 c7
      refine lv_iload_n hx hb dX5_bestCopy_39 rfl (lv_at hl 3 rfl) ?_
      refine lv_iconst (v := -1) hx hb dX5_bestCopy_40 (by decide) ?_
      refine lv_icmp_eq (tgt := 54) hx hb dX5_bestCopy_41 (by decide) (fun c6 => ?_) (fun c6 => ?_)
      · have hp := hp.1 c6
        refine lv_iload_n hx hb dX5_bestCopy_54 rfl (lv_at hl 4 rfl) ?_
        refine lv_goto (tgt := 59) hx hb dX5_bestCopy_55 (by decide) ?_
        refine lv_istore_n (lv' := [(2, .int x3), (4, .int t0), (0, .ref (q 0)), (1, .int a1), (3, .int x3)]) hx hb dX5_bestCopy_59 rfl hl (by decide) rfl (fun ls hl => ?_)
        refine lv_iinc (v := x3 + (1 : Int32)) (lv' := [(3, .int (x3 + (1 : Int32))), (2, .int x3), (4, .int t0), (0, .ref (q 0)), (1, .int a1)]) hx hb dX5_bestCopy_60 hl (k := 4) rfl rfl (by decide) rfl (fun ls hl => ?_)
        refine lv_goto (tgt := 4) hx hb dX5_bestCopy_63 (by decide) ?_
        rw [eV4] at hp
        exact hp _ (lv_sub hl [3, 4, 1, 0] rfl)
      · have hp := hp.2 c6
        refine lv_iload hx hb dX5_bestCopy_44 (lv_at hl 0 rfl) ?_
        refine lv_aload_n hx hb dX5_bestCopy_46 rfl (lv_at hl 1 rfl) ?_
        refine lv_iload_n hx hb dX5_bestCopy_47 rfl (lv_at hl 3 rfl) ?_
        obtain ⟨r4, hr4, hp⟩ := hp
        refine ro_V (As := [.int x2]) (rest := [.int t0]) ⟨hx, hb, hml, hown, hts⟩ (c_X5_lendersOf l dC dI cI q g x2 r4 hr4) (cwV 1 hts gX5_bestCopy_X5_lendersOf rfl rfl rfl (by decide +kernel) ⟨Nat.le_of_ble_eq_true rfl, Nat.le_of_ble_eq_true rfl⟩) hP hK hN rfl rfl rfl rfl hl.1 (Nat.le_of_ble_eq_true rfl) ⟨Nat.zero_le _, Nat.zero_le _⟩ dX5_bestCopy_48 ?_
        refine lv_icmp_ge (tgt := 58) hx hb dX5_bestCopy_51 (by decide) (fun c5 => ?_) (fun c5 => ?_)
        · have hp := hp.1 c5
          refine lv_iload_n hx hb dX5_bestCopy_58 rfl (lv_at hl 3 rfl) ?_
          refine lv_istore_n (lv' := [(2, .int x2), (4, .int t0), (0, .ref (q 0)), (1, .int a1), (3, .int x3)]) hx hb dX5_bestCopy_59 rfl hl (by decide) rfl (fun ls hl => ?_)
          refine lv_iinc (v := x3 + (1 : Int32)) (lv' := [(3, .int (x3 + (1 : Int32))), (2, .int x2), (4, .int t0), (0, .ref (q 0)), (1, .int a1)]) hx hb dX5_bestCopy_60 hl (k := 4) rfl rfl (by decide) rfl (fun ls hl => ?_)
          refine lv_goto (tgt := 4) hx hb dX5_bestCopy_63 (by decide) ?_
          rw [eV4] at hp
          exact hp _ (lv_sub hl [3, 4, 1, 0] rfl)
        · have hp := hp.2 c5
          refine lv_iload_n hx hb dX5_bestCopy_54 rfl (lv_at hl 4 rfl) ?_
          refine lv_goto (tgt := 59) hx hb dX5_bestCopy_55 (by decide) ?_
          refine lv_istore_n (lv' := [(2, .int x3), (4, .int t0), (0, .ref (q 0)), (1, .int a1), (3, .int x3)]) hx hb dX5_bestCopy_59 rfl hl (by decide) rfl (fun ls hl => ?_)
          refine lv_iinc (v := x3 + (1 : Int32)) (lv' := [(3, .int (x3 + (1 : Int32))), (2, .int x3), (4, .int t0), (0, .ref (q 0)), (1, .int a1)]) hx hb dX5_bestCopy_60 hl (k := 4) rfl rfl (by decide) rfl (fun ls hl => ?_)
          refine lv_goto (tgt := 4) hx hb dX5_bestCopy_63 (by decide) ?_
          rw [eV4] at hp
          exact hp _ (lv_sub hl [3, 4, 1, 0] rfl))
  refine lv_iconst (v := -1) hx hb dX5_bestCopy_0 (by decide) ?_
  refine lv_istore_n (lv' := [(2, .int (-1 : Int32)), (0, .ref (q 0)), (1, .int a1)]) hx hb dX5_bestCopy_1 rfl hl (by decide) rfl (fun ls hl => ?_)
  refine lv_iconst (v := 0) hx hb dX5_bestCopy_2 (by decide) ?_
  refine lv_istore_n (lv' := [(3, .int (0 : Int32)), (2, .int (-1 : Int32)), (0, .ref (q 0)), (1, .int a1)]) hx hb dX5_bestCopy_3 rfl hl (by decide) rfl (fun ls hl => ?_)
  rw [eV4] at hp
  exact hp _ (lv_sub hl [2, 3, 1, 0] rfl)
theorem kX5_isOffered_0 : (.fieldLink RX5 22 "MeeplehouseModel" "state" "[I" : Cond) ∈ wsX5_isOffered := by decide +kernel
theorem iX5_isOffered_X5 : ∀ w ∈ wsX50, w ∈ wsX5_isOffered := by decide +kernel
theorem kX5_isOffered_2 : (.fieldLink RX5 28 "MeeplehouseModel" "copy" "[I" : Cond) ∈ wsX5_isOffered := by decide +kernel
theorem kX5_isOffered_3 : (.fieldLink RX5 16 "MeeplehouseModel" "players" "[I" : Cond) ∈ wsX5_isOffered := by decide +kernel
theorem kX5_isOffered_4 : (.fieldLink RX5 31 "MeeplehouseModel" "least" "[I" : Cond) ∈ wsX5_isOffered := by decide +kernel
theorem kX5_isOffered_5 : (.fieldLink RX5 34 "MeeplehouseModel" "most" "[I" : Cond) ∈ wsX5_isOffered := by decide +kernel
theorem kX5_isOffered_6 : (.fieldLink RX5 37 "MeeplehouseModel" "minutes" "[I" : Cond) ∈ wsX5_isOffered := by decide +kernel
def P_X5_isOffered (g : St) (a1 : Int32) (a2 : Int32) (r : Int32) : Prop := ∀ V48 : Prop, ∀ V49 : Int32 → Prop, ((V49 (0 : Int32)) → V48) → (∀ t0 : Int32, ((t0 = 0 → (r = (0 : Int32))) ∧ (¬ t0 = 0 → (∃ r5 : Int32, P_X5_leftOf g a1 r5 ∧ (vp_in a2 8 ∧ ((r5 < (g 10 a2.toNatClampNeg) → (r = (0 : Int32))) ∧ (¬ r5 < (g 10 a2.toNatClampNeg) → (∃ r6 : Int32, P_X5_bestCopy g a2 r6 ∧ ((r6 = (-1 : Int32) → (r = (0 : Int32))) ∧ (¬ r6 = (-1 : Int32) → (r = (1 : Int32))))))))))) → V49 t0) → (vp_in a1 30 ∧ ((¬ (g 5 a1.toNatClampNeg) = (1 : Int32) → (V48)) ∧ ((g 5 a1.toNatClampNeg) = (1 : Int32) → (vp_in a1 30 ∧ ((¬ (g 7 a1.toNatClampNeg) = (-1 : Int32) → (V48)) ∧ ((g 7 a1.toNatClampNeg) = (-1 : Int32) → (vp_in a1 30 ∧ (vp_in a2 8 ∧ (vp_in a2 8 ∧ (∃ r1 : Int32, P_X5_isIn (g 3 a1.toNatClampNeg) (g 8 a2.toNatClampNeg) (g 9 a2.toNatClampNeg) r1 ∧ ((r1 = 0 → (V48)) ∧ (¬ r1 = 0 → (V49 (1 : Int32))))))))))))))
set_option maxRecDepth 100000 in
set_option maxHeartbeats 4000000 in
theorem c_X5_isOffered (l : Launch) (dC : Nat → ClassId) (dI : Nat → Nat → Nat) (cI : ClassId) (q : Nat → Nat) (g : St) (a1 : Int32) (a2 : Int32) (r : Int32) (hp : P_X5_isOffered g a1 a2 r) : Met l yX5_isOffered wsX5_isOffered { frames := 3, cells := 0, slots := 0, locals := 72 } (va_Pc [.ref (q 0), .int a1, .int a2] (rpS (dC, dI) vwCl [(cI, .int)] (wX5 q cI g))) (QcRead r) 0 0 (fun _ => False) := by
  refine ro_met (cc := cX5_isOffered) (maxL := 4) (ret := (some .boolean)) (by decide) rfl (Nat.le_of_ble_eq_true rfl) ?_
  intro p e s m below meth c hx hb hml hr hlk hts hown hP hK hN ls hl
  have hl : lv_has ls 4 [(0, .ref (q 0)), (1, .int a1), (2, .int a2)] := hl
  obtain ⟨V48, eV48⟩ : ∃ V : Prop, V = (∀ ls : Array Slot, lv_has ls 4 [(0, .ref (q 0)), (1, .int a1), (2, .int a2)] → W p l e { frames := 3, cells := 0, slots := 0, locals := 72 } s m ([.ref (q 0), .int a1, .int a2] : List Value).toArray below meth c s.heap [] 0 0 (MQ below (QcRead r) ([.ref (q 0), .int a1, .int a2] : List Value).toArray s 0 0 (fun _ => False)) (F0 m 48 ls [])) := ⟨_, rfl⟩
  obtain ⟨V49, eV49⟩ : ∃ V : Int32 → Prop, V = (fun t0 => ∀ ls : Array Slot, lv_has ls 4 [(0, .ref (q 0)), (1, .int a1), (2, .int a2)] → W p l e { frames := 3, cells := 0, slots := 0, locals := 72 } s m ([.ref (q 0), .int a1, .int a2] : List Value).toArray below meth c s.heap [] 0 0 (MQ below (QcRead r) ([.ref (q 0), .int a1, .int a2] : List Value).toArray s 0 0 (fun _ => False)) (F0 m 49 ls [.int t0])) := ⟨_, rfl⟩
  have hp := hp V48 V49
  have hp := hp (by
    intro hp
    rw [eV48]
    intro ls hl
    refine lv_iconst (v := 0) hx hb dX5_isOffered_48 (by decide) ?_
    rw [eV49] at hp
    exact hp _ (lv_sub hl [0, 1, 2] rfl))
  have hp := hp (by
    intro t0 hp
    rw [eV49]
    intro ls hl
    refine lv_istore_n (lv' := [(3, .int t0), (0, .ref (q 0)), (1, .int a1), (2, .int a2)]) hx hb dX5_isOffered_49 rfl hl (by decide) rfl (fun ls hl => ?_)
    refine lv_iload_n hx hb dX5_isOffered_50 rfl (lv_at hl 0 rfl) ?_
    refine lv_if_eq (tgt := 81) hx hb dX5_isOffered_51 (by decide) (fun c9 => ?_) (fun c9 => ?_)
    · have hp := hp.1 c9
      refine lv_iconst (v := 0) hx hb dX5_isOffered_81 (by decide) ?_
      exact W.zret (ty := .boolean) hx hb hr rfl (fun t ht _ => ⟨by rw [hp], ht⟩) (fun _ h => nomatch h) dX5_isOffered_82
    · have hp := hp.2 c9
      refine lv_aload_n hx hb dX5_isOffered_54 rfl (lv_at hl 1 rfl) ?_
      refine lv_iload_n hx hb dX5_isOffered_55 rfl (lv_at hl 2 rfl) ?_
      obtain ⟨r5, hr5, hp⟩ := hp
      refine ro_V (As := [.int a1]) (rest := []) ⟨hx, hb, hml, hown, hts⟩ (c_X5_leftOf l dC dI cI q g a1 r5 hr5) (cwV 1 hts gX5_isOffered_X5_leftOf rfl rfl rfl (by decide +kernel) ⟨Nat.le_of_ble_eq_true rfl, Nat.le_of_ble_eq_true rfl⟩) hP hK hN rfl rfl rfl rfl hl.1 (Nat.le_of_ble_eq_true rfl) ⟨Nat.zero_le _, Nat.zero_le _⟩ dX5_isOffered_56 ?_
      refine lv_aload_n hx hb dX5_isOffered_59 rfl (lv_at hl 1 rfl) ?_
      refine va_get (D := (dC, dI)) (ci := 5) (v := .ref (q 10)) (C := RX5) (T := TX5) (N := 33) hx hb hts iX5_isOffered_X5 hown hK hP 0 rfl rfl 13 (by decide) (hts _ kX5_isOffered_6) (fun _ h9 => h9) rfl dX5_isOffered_60 ?_
      refine lv_iload_n hx hb dX5_isOffered_63 rfl (lv_at hl 3 rfl) ?_
      refine va_iald hx hb hK hP 10 0 rfl rfl hp.1 dX5_isOffered_64 ?_
      have hp := hp.2
      refine lv_icmp_lt (tgt := 81) hx hb dX5_isOffered_65 (by decide) (fun c8 => ?_) (fun c8 => ?_)
      · have hp := hp.1 c8
        refine lv_iconst (v := 0) hx hb dX5_isOffered_81 (by decide) ?_
        exact W.zret (ty := .boolean) hx hb hr rfl (fun t ht _ => ⟨by rw [hp], ht⟩) (fun _ h => nomatch h) dX5_isOffered_82
      · have hp := hp.2 c8
        refine lv_aload_n hx hb dX5_isOffered_68 rfl (lv_at hl 1 rfl) ?_
        refine lv_iload_n hx hb dX5_isOffered_69 rfl (lv_at hl 3 rfl) ?_
        obtain ⟨r6, hr6, hp⟩ := hp
        refine ro_V (As := [.int a2]) (rest := []) ⟨hx, hb, hml, hown, hts⟩ (c_X5_bestCopy l dC dI cI q g a2 r6 hr6) (cwV 1 hts gX5_isOffered_X5_bestCopy rfl rfl rfl (by decide +kernel) ⟨Nat.le_of_ble_eq_true rfl, Nat.le_of_ble_eq_true rfl⟩) hP hK hN rfl rfl rfl rfl hl.1 (Nat.le_of_ble_eq_true rfl) ⟨Nat.zero_le _, Nat.zero_le _⟩ dX5_isOffered_70 ?_
        refine lv_iconst (v := -1) hx hb dX5_isOffered_73 (by decide) ?_
        refine lv_icmp_eq (tgt := 81) hx hb dX5_isOffered_74 (by decide) (fun c7 => ?_) (fun c7 => ?_)
        · have hp := hp.1 c7
          refine lv_iconst (v := 0) hx hb dX5_isOffered_81 (by decide) ?_
          exact W.zret (ty := .boolean) hx hb hr rfl (fun t ht _ => ⟨by rw [hp], ht⟩) (fun _ h => nomatch h) dX5_isOffered_82
        · have hp := hp.2 c7
          refine lv_iconst (v := 1) hx hb dX5_isOffered_77 (by decide) ?_
          refine lv_goto (tgt := 82) hx hb dX5_isOffered_78 (by decide) ?_
          exact W.zret (ty := .boolean) hx hb hr rfl (fun t ht _ => ⟨by rw [hp], ht⟩) (fun _ h => nomatch h) dX5_isOffered_82)
  refine lv_aload_n hx hb dX5_isOffered_0 rfl (lv_at hl 0 rfl) ?_
  refine va_get (D := (dC, dI)) (ci := 5) (v := .ref (q 5)) (C := RX5) (T := TX5) (N := 33) hx hb hts iX5_isOffered_X5 hown hK hP 0 rfl rfl 7 (by decide) (hts _ kX5_isOffered_0) (fun _ h9 => h9) rfl dX5_isOffered_1 ?_
  refine lv_iload_n hx hb dX5_isOffered_4 rfl (lv_at hl 1 rfl) ?_
  refine va_iald hx hb hK hP 5 0 rfl rfl hp.1 dX5_isOffered_5 ?_
  have hp := hp.2
  refine lv_iconst (v := 1) hx hb dX5_isOffered_6 (by decide) ?_
  refine lv_icmp_ne (tgt := 48) hx hb dX5_isOffered_7 (by decide) (fun c4 => ?_) (fun c4 => ?_)
  · have hp := hp.1 c4
    rw [eV48] at hp
    exact hp _ (lv_sub hl [0, 1, 2] rfl)
  · have hp := hp.2 c4
    refine lv_aload_n hx hb dX5_isOffered_10 rfl (lv_at hl 0 rfl) ?_
    refine va_get (D := (dC, dI)) (ci := 5) (v := .ref (q 7)) (C := RX5) (T := TX5) (N := 33) hx hb hts iX5_isOffered_X5 hown hK hP 0 rfl rfl 9 (by decide) (hts _ kX5_isOffered_2) (fun _ h9 => h9) rfl dX5_isOffered_11 ?_
    refine lv_iload_n hx hb dX5_isOffered_14 rfl (lv_at hl 1 rfl) ?_
    refine va_iald hx hb hK hP 7 0 rfl rfl hp.1 dX5_isOffered_15 ?_
    have hp := hp.2
    refine lv_iconst (v := -1) hx hb dX5_isOffered_16 (by decide) ?_
    refine lv_icmp_ne (tgt := 48) hx hb dX5_isOffered_17 (by decide) (fun c3 => ?_) (fun c3 => ?_)
    · have hp := hp.1 c3
      rw [eV48] at hp
      exact hp _ (lv_sub hl [0, 1, 2] rfl)
    · have hp := hp.2 c3
      refine lv_aload_n hx hb dX5_isOffered_20 rfl (lv_at hl 0 rfl) ?_
      refine va_get (D := (dC, dI)) (ci := 5) (v := .ref (q 3)) (C := RX5) (T := TX5) (N := 33) hx hb hts iX5_isOffered_X5 hown hK hP 0 rfl rfl 5 (by decide) (hts _ kX5_isOffered_3) (fun _ h9 => h9) rfl dX5_isOffered_21 ?_
      refine lv_iload_n hx hb dX5_isOffered_24 rfl (lv_at hl 1 rfl) ?_
      refine va_iald hx hb hK hP 3 0 rfl rfl hp.1 dX5_isOffered_25 ?_
      have hp := hp.2
      refine lv_aload_n hx hb dX5_isOffered_26 rfl (lv_at hl 0 rfl) ?_
      refine va_get (D := (dC, dI)) (ci := 5) (v := .ref (q 8)) (C := RX5) (T := TX5) (N := 33) hx hb hts iX5_isOffered_X5 hown hK hP 0 rfl rfl 11 (by decide) (hts _ kX5_isOffered_4) (fun _ h9 => h9) rfl dX5_isOffered_27 ?_
      refine lv_iload_n hx hb dX5_isOffered_30 rfl (lv_at hl 2 rfl) ?_
      refine va_iald hx hb hK hP 8 0 rfl rfl hp.1 dX5_isOffered_31 ?_
      have hp := hp.2
      refine lv_aload_n hx hb dX5_isOffered_32 rfl (lv_at hl 0 rfl) ?_
      refine va_get (D := (dC, dI)) (ci := 5) (v := .ref (q 9)) (C := RX5) (T := TX5) (N := 33) hx hb hts iX5_isOffered_X5 hown hK hP 0 rfl rfl 12 (by decide) (hts _ kX5_isOffered_5) (fun _ h9 => h9) rfl dX5_isOffered_33 ?_
      refine lv_iload_n hx hb dX5_isOffered_36 rfl (lv_at hl 2 rfl) ?_
      refine va_iald hx hb hK hP 9 0 rfl rfl hp.1 dX5_isOffered_37 ?_
      have hp := hp.2
      obtain ⟨r1, hr1, hp⟩ := hp
      refine ro_S (As := [.int (g 3 a1.toNatClampNeg), .int (g 8 a2.toNatClampNeg), .int (g 9 a2.toNatClampNeg)]) (rest := []) ⟨hx, hb, hml, hown, hts⟩ (c_X5_isIn l dC dI cI (g 3 a1.toNatClampNeg) (g 8 a2.toNatClampNeg) (g 9 a2.toNatClampNeg) r1 hr1) (va_cwS 3 hts gX5_isOffered_X5_isIn rfl rfl rfl (by decide +kernel) ⟨Nat.le_of_ble_eq_true rfl, Nat.le_of_ble_eq_true rfl⟩) (hP.sub [] rfl) hK hN rfl rfl hl.1 (Nat.le_of_ble_eq_true rfl) ⟨Nat.zero_le _, Nat.zero_le _⟩ dX5_isOffered_38 ?_
      refine lv_if_eq (tgt := 48) hx hb dX5_isOffered_41 (by decide) (fun c2 => ?_) (fun c2 => ?_)
      · have hp := hp.1 c2
        rw [eV48] at hp
        exact hp _ (lv_sub hl [0, 1, 2] rfl)
      · have hp := hp.2 c2
        refine lv_iconst (v := 1) hx hb dX5_isOffered_44 (by decide) ?_
        refine lv_goto (tgt := 49) hx hb dX5_isOffered_45 (by decide) ?_
        rw [eV49] at hp
        exact hp _ (lv_sub hl [0, 1, 2] rfl)
theorem kX5_offersTo_0 : (.fieldLink RX5 83 "MeeplehouseModel" "titles" "I" : Cond) ∈ wsX5_offersTo := by decide +kernel
theorem iX5_offersTo_X5 : ∀ w ∈ wsX50, w ∈ wsX5_offersTo := by decide +kernel
def P_X5_offersTo (g : St) (a1 : Int32) (r : Int32) : Prop := ∀ V4 : Int32 → Int32 → Prop, (∀ x2 x3 : Int32, (((g 0 15) ≤ x3 → (r = x2)) ∧ (¬ (g 0 15) ≤ x3 → (∃ r1 : Int32, P_X5_isOffered g a1 x3 r1 ∧ ((r1 = 0 → (V4 (x2 + (0 : Int32)) (x3 + (1 : Int32)))) ∧ (¬ r1 = 0 → (V4 (x2 + (1 : Int32)) (x3 + (1 : Int32)))))))) → V4 x2 x3) → (V4 (0 : Int32) (0 : Int32))
set_option maxRecDepth 100000 in
set_option maxHeartbeats 4000000 in
theorem c_X5_offersTo (l : Launch) (dC : Nat → ClassId) (dI : Nat → Nat → Nat) (cI : ClassId) (q : Nat → Nat) (g : St) (a1 : Int32) (r : Int32) (hp : P_X5_offersTo g a1 r) : Met l yX5_offersTo wsX5_offersTo { frames := 4, cells := 0, slots := 0, locals := 95 } (va_Pc [.ref (q 0), .int a1] (rpS (dC, dI) vwCl [(cI, .int)] (wX5 q cI g))) (QcRead r) 0 0 (fun _ => False) := by
  refine ro_met (cc := cX5_offersTo) (maxL := 4) (ret := (some .int)) (by decide) rfl (Nat.le_of_ble_eq_true rfl) ?_
  intro p e s m below meth c hx hb hml hr hlk hts hown hP hK hN ls hl
  have hl : lv_has ls 4 [(0, .ref (q 0)), (1, .int a1)] := hl
  obtain ⟨V4, eV4⟩ : ∃ V : Int32 → Int32 → Prop, V = (fun x2 x3 => ∀ ls : Array Slot, lv_has ls 4 [(0, .ref (q 0)), (1, .int a1), (2, .int x2), (3, .int x3)] → W p l e { frames := 4, cells := 0, slots := 0, locals := 95 } s m ([.ref (q 0), .int a1] : List Value).toArray below meth c s.heap [] 0 0 (MQ below (QcRead r) ([.ref (q 0), .int a1] : List Value).toArray s 0 0 (fun _ => False)) (F0 m 4 ls [])) := ⟨_, rfl⟩
  have hp := hp V4
  have hp := hp (by
    intro x2 x3 hp
    rw [eV4]
    intro ls hl
    refine lv_iload_n hx hb dX5_offersTo_4 rfl (lv_at hl 3 rfl) ?_
    refine lv_aload_n hx hb dX5_offersTo_5 rfl (lv_at hl 0 rfl) ?_
    refine va_get (D := (dC, dI)) (ci := 5) (v := .int (g 0 15)) (C := RX5) (T := TX5) (N := 33) hx hb hts iX5_offersTo_X5 hown hK hP 0 rfl rfl 15 (by decide) (hts _ kX5_offersTo_0) (fun _ h9 => h9) rfl dX5_offersTo_6 ?_
    refine lv_icmp_ge (tgt := 35) hx hb dX5_offersTo_9 (by decide) (fun c3 => ?_) (fun c3 => ?_)
    · have hp := hp.1 c3
      refine lv_iload_n hx hb dX5_offersTo_35 rfl (lv_at hl 2 rfl) ?_
      exact W.iret hx hb hr (fun t ht _ => ⟨by rw [hp], ht⟩) (fun _ h => nomatch h) dX5_offersTo_36
    · have hp := hp.2 c3
      refine lv_iload_n hx hb dX5_offersTo_12 rfl (lv_at hl 2 rfl) ?_
      refine lv_aload_n hx hb dX5_offersTo_13 rfl (lv_at hl 0 rfl) ?_
      refine lv_iload_n hx hb dX5_offersTo_14 rfl (lv_at hl 1 rfl) ?_
      refine lv_iload_n hx hb dX5_offersTo_15 rfl (lv_at hl 3 rfl) ?_
      obtain ⟨r1, hr1, hp⟩ := hp
      refine ro_V (As := [.int a1, .int x3]) (rest := [.int x2]) ⟨hx, hb, hml, hown, hts⟩ (c_X5_isOffered l dC dI cI q g a1 x3 r1 hr1) (cwV 2 hts gX5_offersTo_X5_isOffered rfl rfl rfl (by decide +kernel) ⟨Nat.le_of_ble_eq_true rfl, Nat.le_of_ble_eq_true rfl⟩) hP hK hN rfl rfl rfl rfl hl.1 (Nat.le_of_ble_eq_true rfl) ⟨Nat.zero_le _, Nat.zero_le _⟩ dX5_offersTo_16 ?_
      refine lv_if_eq (tgt := 26) hx hb dX5_offersTo_19 (by decide) (fun c2 => ?_) (fun c2 => ?_)
      · have hp := hp.1 c2
        refine lv_iconst (v := 0) hx hb dX5_offersTo_26 (by decide) ?_
        refine lv_iadd hx hb dX5_offersTo_27 ?_
        refine lv_istore_n (lv' := [(2, .int (x2 + (0 : Int32))), (0, .ref (q 0)), (1, .int a1), (3, .int x3)]) hx hb dX5_offersTo_28 rfl hl (by decide) rfl (fun ls hl => ?_)
        refine lv_iinc (v := x3 + (1 : Int32)) (lv' := [(3, .int (x3 + (1 : Int32))), (2, .int (x2 + (0 : Int32))), (0, .ref (q 0)), (1, .int a1)]) hx hb dX5_offersTo_29 hl (k := 3) rfl rfl (by decide) rfl (fun ls hl => ?_)
        refine lv_goto (tgt := 4) hx hb dX5_offersTo_32 (by decide) ?_
        rw [eV4] at hp
        exact hp _ (lv_sub hl [2, 3, 1, 0] rfl)
      · have hp := hp.2 c2
        refine lv_iconst (v := 1) hx hb dX5_offersTo_22 (by decide) ?_
        refine lv_goto (tgt := 27) hx hb dX5_offersTo_23 (by decide) ?_
        refine lv_iadd hx hb dX5_offersTo_27 ?_
        refine lv_istore_n (lv' := [(2, .int (x2 + (1 : Int32))), (0, .ref (q 0)), (1, .int a1), (3, .int x3)]) hx hb dX5_offersTo_28 rfl hl (by decide) rfl (fun ls hl => ?_)
        refine lv_iinc (v := x3 + (1 : Int32)) (lv' := [(3, .int (x3 + (1 : Int32))), (2, .int (x2 + (1 : Int32))), (0, .ref (q 0)), (1, .int a1)]) hx hb dX5_offersTo_29 hl (k := 3) rfl rfl (by decide) rfl (fun ls hl => ?_)
        refine lv_goto (tgt := 4) hx hb dX5_offersTo_32 (by decide) ?_
        rw [eV4] at hp
        exact hp _ (lv_sub hl [2, 3, 1, 0] rfl))
  refine lv_iconst (v := 0) hx hb dX5_offersTo_0 (by decide) ?_
  refine lv_istore_n (lv' := [(2, .int (0 : Int32)), (0, .ref (q 0)), (1, .int a1)]) hx hb dX5_offersTo_1 rfl hl (by decide) rfl (fun ls hl => ?_)
  refine lv_iconst (v := 0) hx hb dX5_offersTo_2 (by decide) ?_
  refine lv_istore_n (lv' := [(3, .int (0 : Int32)), (2, .int (0 : Int32)), (0, .ref (q 0)), (1, .int a1)]) hx hb dX5_offersTo_3 rfl hl (by decide) rfl (fun ls hl => ?_)
  rw [eV4] at hp
  exact hp _ (lv_sub hl [2, 3, 1, 0] rfl)
def P_X5_offers (g : St) (a1 : Int32) (r : Int32) (g' : St) : Prop := ∀ V14 : St → Int32 → Prop, (∀ gv : St, ∀ t0 : Int32, (∃ (r3 : Int32) (g4 : St), P_X5_isFine gv t0 r3 g4 ∧ ((r3 = 0 → (r = (0 : Int32) ∧ g' = g4)) ∧ (¬ r3 = 0 → (∃ r5 : Int32, P_X5_offersTo g4 a1 r5 ∧ (r = r5 ∧ g' = g4))))) → V14 gv t0) → (∃ r1 : Int32, P_X5_isGroup g a1 r1 ∧ ((r1 = 0 → (V14 g (1 : Int32))) ∧ (¬ r1 = 0 → (V14 g (0 : Int32)))))
set_option maxRecDepth 100000 in
set_option maxHeartbeats 4000000 in
theorem c_X5_offers (l : Launch) (dC : Nat → ClassId) (dI : Nat → Nat → Nat) (cI : ClassId) (q : Nat → Nat) (g : St) (a1 : Int32) (r : Int32) (g' : St) (hp : P_X5_offers g a1 r g') (sz : Nat) : Met l yX5_offers wsX5_offers { frames := 5, cells := 0, slots := 0, locals := 118 } (va_Pc [.ref (q 0), .int a1] (wpS (dC, dI) vwCl [(cI, .int)] (wX5 q cI g) sz)) (va_Qi (fun (r' : Int32) (_ : Unit) => r' = r) (fun _ t => wqB (dC, dI) vwCl (wX5 q cI g') (va_A (wX5 q cI g) sz) t) (va_A (wX5 q cI g) sz)) 0 0 (va_A (wX5 q cI g) sz) := by
  refine wr_met (fun A => (va_Qi (fun (r' : Int32) (_ : Unit) => r' = r) (fun _ t => wqB (dC, dI) vwCl (wX5 q cI g') A t) A)) (cc := cX5_offers) (maxL := 2) (ret := (some .int)) (by decide) rfl (Nat.le_of_ble_eq_true rfl) ?_
  intro p e s m below meth c A hx hb hml hr hlk hts hown hnm hP hK hN hD hA ls hl
  have hS : va_S A s.heap s.heap [] := va_S.rf
  have hl : lv_has ls 2 [(0, .ref (q 0)), (1, .int a1)] := hl
  obtain ⟨V14, eV14⟩ : ∃ V : St → Int32 → Prop, V = (fun gv t0 => ∀ (H : Heap) (locs : List Loc) (ls : Array Slot), va_P (dC, dI) vwCl (wX5 q cI gv) H → va_D A (wX5 q cI gv) → va_S A s.heap H locs → lv_has ls 2 [(0, .ref (q 0)), (1, .int a1)] → W p l e { frames := 5, cells := 0, slots := 0, locals := 118 } s m ([.ref (q 0), .int a1] : List Value).toArray below meth c H locs 0 0 (MQ below (va_Qi (fun (r' : Int32) (_ : Unit) => r' = r) (fun _ t => wqB (dC, dI) vwCl (wX5 q cI g') A t) A) ([.ref (q 0), .int a1] : List Value).toArray s 0 0 A) (F0 m 14 ls [.int t0, .ref (q 0)])) := ⟨_, rfl⟩
  have hp := hp V14
  have hp := hp (by
    intro gv t0 hp
    rw [eV14]
    intro H locs ls hP hD hS hl
    obtain ⟨r3, g4, hg4, hp⟩ := hp
    refine wr_Vi (As := [.int t0]) (rest := []) (w1 := []) (w2 := []) (ws1 := wX5 q cI g4) ⟨hx, hb, hml, hown, hts⟩ (c_X5_isFine l dC dI cI q gv t0 r3 g4 hg4 _) (cwV 1 hts gX5_offers_X5_isFine rfl rfl rfl (by decide +kernel) ⟨Nat.le_of_ble_eq_true rfl, Nat.le_of_ble_eq_true rfl⟩) hP hD hS hA hK hN (List.append_nil _).symm (List.append_nil _) rfl rfl rfl rfl hl.1 (Nat.le_of_ble_eq_true rfl) ⟨Nat.zero_le _, Nat.zero_le _⟩ dX5_offers_14 (fun H locs hP hD hS => ?_)
    refine lv_if_eq (tgt := 28) hx hb dX5_offers_17 (by decide) (fun c6 => ?_) (fun c6 => ?_)
    · have hp := hp.1 c6
      refine lv_iconst (v := 0) hx hb dX5_offers_28 (by decide) ?_
      exact W.iret hx hb hr (fun t ht _ => ⟨⟨_, (), rfl, hp.1.symm, by rw [ht, hp.2]; exact hP, by rw [hp.2]; exact hD⟩, hS.F ht⟩) hS.2.2 dX5_offers_29
    · have hp := hp.2 c6
      refine lv_aload_n hx hb dX5_offers_20 rfl (lv_at hl 0 rfl) ?_
      refine lv_iload_n hx hb dX5_offers_21 rfl (lv_at hl 1 rfl) ?_
      obtain ⟨r5, hr5, hp⟩ := hp
      refine ro_V (As := [.int a1]) (rest := []) ⟨hx, hb, hml, hown, hts⟩ (c_X5_offersTo l dC dI cI q g4 a1 r5 hr5) (cwV 1 hts gX5_offers_X5_offersTo rfl rfl rfl (by decide +kernel) ⟨Nat.le_of_ble_eq_true rfl, Nat.le_of_ble_eq_true rfl⟩) hP hK hN rfl rfl rfl rfl hl.1 (Nat.le_of_ble_eq_true rfl) ⟨Nat.zero_le _, Nat.zero_le _⟩ dX5_offers_22 ?_
      refine lv_goto (tgt := 29) hx hb dX5_offers_25 (by decide) ?_
      exact W.iret hx hb hr (fun t ht _ => ⟨⟨_, (), rfl, hp.1.symm, by rw [ht, hp.2]; exact hP, by rw [hp.2]; exact hD⟩, hS.F ht⟩) hS.2.2 dX5_offers_29)
  refine lv_aload_n hx hb dX5_offers_0 rfl (lv_at hl 0 rfl) ?_
  refine lv_aload_n hx hb dX5_offers_1 rfl (lv_at hl 0 rfl) ?_
  refine lv_iload_n hx hb dX5_offers_2 rfl (lv_at hl 1 rfl) ?_
  obtain ⟨r1, hr1, hp⟩ := hp
  refine ro_V (As := [.int a1]) (rest := [.ref (q 0)]) ⟨hx, hb, hml, hown, hts⟩ (c_X5_isGroup l dC dI cI q g a1 r1 hr1) (cwV 1 hts gX5_offers_X5_isGroup rfl rfl rfl (by decide +kernel) ⟨Nat.le_of_ble_eq_true rfl, Nat.le_of_ble_eq_true rfl⟩) hP hK hN rfl rfl rfl rfl hl.1 (Nat.le_of_ble_eq_true rfl) ⟨Nat.zero_le _, Nat.zero_le _⟩ dX5_offers_3 ?_
  refine lv_if_eq (tgt := 13) hx hb dX5_offers_6 (by decide) (fun c2 => ?_) (fun c2 => ?_)
  · have hp := hp.1 c2
    refine lv_iconst (v := 1) hx hb dX5_offers_13 (by decide) ?_
    rw [eV14] at hp
    exact hp _ _ _ hP hD hS (lv_sub hl [0, 1] rfl)
  · have hp := hp.2 c2
    refine lv_iconst (v := 0) hx hb dX5_offers_9 (by decide) ?_
    refine lv_goto (tgt := 14) hx hb dX5_offers_10 (by decide) ?_
    rw [eV14] at hp
    exact hp _ _ _ hP hD hS (lv_sub hl [0, 1] rfl)
theorem kX5_ahead_0 : (.fieldLink RX5 83 "MeeplehouseModel" "titles" "I" : Cond) ∈ wsX5_ahead := by decide +kernel
theorem iX5_ahead_X5 : ∀ w ∈ wsX50, w ∈ wsX5_ahead := by decide +kernel
theorem kX5_ahead_2 : (.fieldLink RX5 37 "MeeplehouseModel" "minutes" "[I" : Cond) ∈ wsX5_ahead := by decide +kernel
def P_X5_ahead (g : St) (a1 : Int32) (a2 : Int32) (r : Int32) : Prop := ∀ V5 : Int32 → Int32 → Prop, ∀ V52 : Int32 → Int32 → Prop, ∀ V56 : Int32 → Int32 → Prop, ∀ V57 : Int32 → Int32 → Int32 → Prop, (∀ x3 x4 : Int32, (((g 0 15) ≤ x4 → (r = x3)) ∧ (¬ (g 0 15) ≤ x4 → (vp_in x4 8 ∧ (vp_in a2 8 ∧ (((g 10 a2.toNatClampNeg) < (g 10 x4.toNatClampNeg) → (V52 x3 x4)) ∧ (¬ (g 10 a2.toNatClampNeg) < (g 10 x4.toNatClampNeg) → (vp_in x4 8 ∧ (vp_in a2 8 ∧ ((¬ (g 10 x4.toNatClampNeg) = (g 10 a2.toNatClampNeg) → (V56 x3 x4)) ∧ ((g 10 x4.toNatClampNeg) = (g 10 a2.toNatClampNeg) → ((a2 ≤ x4 → (V56 x3 x4)) ∧ (¬ a2 ≤ x4 → (V52 x3 x4))))))))))))) → V5 x3 x4) → (∀ x3 x4 : Int32, (V57 x3 x4 (1 : Int32)) → V52 x3 x4) → (∀ x3 x4 : Int32, (V57 x3 x4 (0 : Int32)) → V56 x3 x4) → (∀ x3 x4 t0 : Int32, ((t0 = 0 → (V5 (x3 + (0 : Int32)) (x4 + (1 : Int32)))) ∧ (¬ t0 = 0 → (∃ r5 : Int32, P_X5_isOffered g a1 x4 r5 ∧ ((r5 = 0 → (V5 (x3 + (0 : Int32)) (x4 + (1 : Int32)))) ∧ (¬ r5 = 0 → (V5 (x3 + (1 : Int32)) (x4 + (1 : Int32)))))))) → V57 x3 x4 t0) → (V5 (0 : Int32) (0 : Int32))
set_option maxRecDepth 100000 in
set_option maxHeartbeats 4000000 in
theorem c_X5_ahead (l : Launch) (dC : Nat → ClassId) (dI : Nat → Nat → Nat) (cI : ClassId) (q : Nat → Nat) (g : St) (a1 : Int32) (a2 : Int32) (r : Int32) (hp : P_X5_ahead g a1 a2 r) : Met l yX5_ahead wsX5_ahead { frames := 4, cells := 0, slots := 0, locals := 95 } (va_Pc [.ref (q 0), .int a1, .int a2] (rpS (dC, dI) vwCl [(cI, .int)] (wX5 q cI g))) (QcRead r) 0 0 (fun _ => False) := by
  refine ro_met (cc := cX5_ahead) (maxL := 6) (ret := (some .int)) (by decide) rfl (Nat.le_of_ble_eq_true rfl) ?_
  intro p e s m below meth c hx hb hml hr hlk hts hown hP hK hN ls hl
  have hl : lv_has ls 6 [(0, .ref (q 0)), (1, .int a1), (2, .int a2)] := hl
  obtain ⟨V5, eV5⟩ : ∃ V : Int32 → Int32 → Prop, V = (fun x3 x4 => ∀ ls : Array Slot, lv_has ls 6 [(0, .ref (q 0)), (1, .int a1), (2, .int a2), (3, .int x3), (4, .int x4)] → W p l e { frames := 4, cells := 0, slots := 0, locals := 95 } s m ([.ref (q 0), .int a1, .int a2] : List Value).toArray below meth c s.heap [] 0 0 (MQ below (QcRead r) ([.ref (q 0), .int a1, .int a2] : List Value).toArray s 0 0 (fun _ => False)) (F0 m 5 ls [])) := ⟨_, rfl⟩
  obtain ⟨V52, eV52⟩ : ∃ V : Int32 → Int32 → Prop, V = (fun x3 x4 => ∀ ls : Array Slot, lv_has ls 6 [(0, .ref (q 0)), (1, .int a1), (2, .int a2), (3, .int x3), (4, .int x4)] → W p l e { frames := 4, cells := 0, slots := 0, locals := 95 } s m ([.ref (q 0), .int a1, .int a2] : List Value).toArray below meth c s.heap [] 0 0 (MQ below (QcRead r) ([.ref (q 0), .int a1, .int a2] : List Value).toArray s 0 0 (fun _ => False)) (F0 m 52 ls [])) := ⟨_, rfl⟩
  obtain ⟨V56, eV56⟩ : ∃ V : Int32 → Int32 → Prop, V = (fun x3 x4 => ∀ ls : Array Slot, lv_has ls 6 [(0, .ref (q 0)), (1, .int a1), (2, .int a2), (3, .int x3), (4, .int x4)] → W p l e { frames := 4, cells := 0, slots := 0, locals := 95 } s m ([.ref (q 0), .int a1, .int a2] : List Value).toArray below meth c s.heap [] 0 0 (MQ below (QcRead r) ([.ref (q 0), .int a1, .int a2] : List Value).toArray s 0 0 (fun _ => False)) (F0 m 56 ls [])) := ⟨_, rfl⟩
  obtain ⟨V57, eV57⟩ : ∃ V : Int32 → Int32 → Int32 → Prop, V = (fun x3 x4 t0 => ∀ ls : Array Slot, lv_has ls 6 [(0, .ref (q 0)), (1, .int a1), (2, .int a2), (3, .int x3), (4, .int x4)] → W p l e { frames := 4, cells := 0, slots := 0, locals := 95 } s m ([.ref (q 0), .int a1, .int a2] : List Value).toArray below meth c s.heap [] 0 0 (MQ below (QcRead r) ([.ref (q 0), .int a1, .int a2] : List Value).toArray s 0 0 (fun _ => False)) (F0 m 57 ls [.int t0])) := ⟨_, rfl⟩
  have hp := hp V5 V52 V56 V57
  have hp := hp (by
    intro x3 x4 hp
    rw [eV5]
    intro ls hl
    refine lv_iload hx hb dX5_ahead_5 (lv_at hl 4 rfl) ?_
    refine lv_aload_n hx hb dX5_ahead_7 rfl (lv_at hl 0 rfl) ?_
    refine va_get (D := (dC, dI)) (ci := 5) (v := .int (g 0 15)) (C := RX5) (T := TX5) (N := 33) hx hb hts iX5_ahead_X5 hown hK hP 0 rfl rfl 15 (by decide) (hts _ kX5_ahead_0) (fun _ h9 => h9) rfl dX5_ahead_8 ?_
    refine lv_icmp_ge (tgt := 88) hx hb dX5_ahead_11 (by decide) (fun c4 => ?_) (fun c4 => ?_)
    · have hp := hp.1 c4
      refine lv_iload_n hx hb dX5_ahead_88 rfl (lv_at hl 3 rfl) ?_
      exact W.iret hx hb hr (fun t ht _ => ⟨by rw [hp], ht⟩) (fun _ h => nomatch h) dX5_ahead_89
    · have hp := hp.2 c4
      refine lv_aload_n hx hb dX5_ahead_14 rfl (lv_at hl 0 rfl) ?_
      refine va_get (D := (dC, dI)) (ci := 5) (v := .ref (q 10)) (C := RX5) (T := TX5) (N := 33) hx hb hts iX5_ahead_X5 hown hK hP 0 rfl rfl 13 (by decide) (hts _ kX5_ahead_2) (fun _ h9 => h9) rfl dX5_ahead_15 ?_
      refine lv_iload hx hb dX5_ahead_18 (lv_at hl 4 rfl) ?_
      refine va_iald hx hb hK hP 10 0 rfl rfl hp.1 dX5_ahead_20 ?_
      have hp := hp.2
      refine lv_aload_n hx hb dX5_ahead_21 rfl (lv_at hl 0 rfl) ?_
      refine va_get (D := (dC, dI)) (ci := 5) (v := .ref (q 10)) (C := RX5) (T := TX5) (N := 33) hx hb hts iX5_ahead_X5 hown hK hP 0 rfl rfl 13 (by decide) (hts _ kX5_ahead_2) (fun _ h9 => h9) rfl dX5_ahead_22 ?_
      refine lv_iload_n hx hb dX5_ahead_25 rfl (lv_at hl 2 rfl) ?_
      refine va_iald hx hb hK hP 10 0 rfl rfl hp.1 dX5_ahead_26 ?_
      have hp := hp.2
      refine lv_icmp_gt (tgt := 52) hx hb dX5_ahead_27 (by decide) (fun c3 => ?_) (fun c3 => ?_)
      · have hp := hp.1 c3
        rw [eV52] at hp
        exact hp _ (lv_sub hl [0, 1, 2, 3, 4] rfl)
      · have hp := hp.2 c3
        refine lv_aload_n hx hb dX5_ahead_30 rfl (lv_at hl 0 rfl) ?_
        refine va_get (D := (dC, dI)) (ci := 5) (v := .ref (q 10)) (C := RX5) (T := TX5) (N := 33) hx hb hts iX5_ahead_X5 hown hK hP 0 rfl rfl 13 (by decide) (hts _ kX5_ahead_2) (fun _ h9 => h9) rfl dX5_ahead_31 ?_
        refine lv_iload hx hb dX5_ahead_34 (lv_at hl 4 rfl) ?_
        refine va_iald hx hb hK hP 10 0 rfl rfl hp.1 dX5_ahead_36 ?_
        have hp := hp.2
        refine lv_aload_n hx hb dX5_ahead_37 rfl (lv_at hl 0 rfl) ?_
        refine va_get (D := (dC, dI)) (ci := 5) (v := .ref (q 10)) (C := RX5) (T := TX5) (N := 33) hx hb hts iX5_ahead_X5 hown hK hP 0 rfl rfl 13 (by decide) (hts _ kX5_ahead_2) (fun _ h9 => h9) rfl dX5_ahead_38 ?_
        refine lv_iload_n hx hb dX5_ahead_41 rfl (lv_at hl 2 rfl) ?_
        refine va_iald hx hb hK hP 10 0 rfl rfl hp.1 dX5_ahead_42 ?_
        have hp := hp.2
        refine lv_icmp_ne (tgt := 56) hx hb dX5_ahead_43 (by decide) (fun c2 => ?_) (fun c2 => ?_)
        · have hp := hp.1 c2
          rw [eV56] at hp
          exact hp _ (lv_sub hl [0, 1, 2, 3, 4] rfl)
        · have hp := hp.2 c2
          refine lv_iload hx hb dX5_ahead_46 (lv_at hl 4 rfl) ?_
          refine lv_iload_n hx hb dX5_ahead_48 rfl (lv_at hl 2 rfl) ?_
          refine lv_icmp_ge (tgt := 56) hx hb dX5_ahead_49 (by decide) (fun c1 => ?_) (fun c1 => ?_)
          · have hp := hp.1 c1
            rw [eV56] at hp
            exact hp _ (lv_sub hl [0, 1, 2, 3, 4] rfl)
          · have hp := hp.2 c1
            rw [eV52] at hp
            exact hp _ (lv_sub hl [0, 1, 2, 3, 4] rfl))
  have hp := hp (by
    intro x3 x4 hp
    rw [eV52]
    intro ls hl
    refine lv_iconst (v := 1) hx hb dX5_ahead_52 (by decide) ?_
    refine lv_goto (tgt := 57) hx hb dX5_ahead_53 (by decide) ?_
    rw [eV57] at hp
    exact hp _ (lv_sub hl [0, 1, 2, 3, 4] rfl))
  have hp := hp (by
    intro x3 x4 hp
    rw [eV56]
    intro ls hl
    refine lv_iconst (v := 0) hx hb dX5_ahead_56 (by decide) ?_
    rw [eV57] at hp
    exact hp _ (lv_sub hl [0, 1, 2, 3, 4] rfl))
  have hp := hp (by
    intro x3 x4 t0 hp
    rw [eV57]
    intro ls hl
    refine lv_istore (lv' := [(5, .int t0), (0, .ref (q 0)), (1, .int a1), (2, .int a2), (3, .int x3), (4, .int x4)]) hx hb dX5_ahead_57 hl (by decide) rfl (fun ls hl => ?_)
    refine lv_iload_n hx hb dX5_ahead_59 rfl (lv_at hl 4 rfl) ?_
    refine lv_iload hx hb dX5_ahead_60 (lv_at hl 0 rfl) ?_
    refine lv_if_eq (tgt := 79) hx hb dX5_ahead_62 (by decide) (fun c7 => ?_) (fun c7 => ?_)
    · have hp := hp.1 c7
      refine lv_iconst (v := 0) hx hb dX5_ahead_79 (by decide) ?_
      refine lv_iadd hx hb dX5_ahead_80 ?_
      refine lv_istore_n (lv' := [(3, .int (x3 + (0 : Int32))), (5, .int t0), (0, .ref (q 0)), (1, .int a1), (2, .int a2), (4, .int x4)]) hx hb dX5_ahead_81 rfl hl (by decide) rfl (fun ls hl => ?_)
      refine lv_iinc (v := x4 + (1 : Int32)) (lv' := [(4, .int (x4 + (1 : Int32))), (3, .int (x3 + (0 : Int32))), (5, .int t0), (0, .ref (q 0)), (1, .int a1), (2, .int a2)]) hx hb dX5_ahead_82 hl (k := 5) rfl rfl (by decide) rfl (fun ls hl => ?_)
      refine lv_goto (tgt := 5) hx hb dX5_ahead_85 (by decide) ?_
      rw [eV5] at hp
      exact hp _ (lv_sub hl [3, 4, 5, 1, 0] rfl)
    · have hp := hp.2 c7
      refine lv_aload_n hx hb dX5_ahead_65 rfl (lv_at hl 1 rfl) ?_
      refine lv_iload_n hx hb dX5_ahead_66 rfl (lv_at hl 2 rfl) ?_
      refine lv_iload hx hb dX5_ahead_67 (lv_at hl 5 rfl) ?_
      obtain ⟨r5, hr5, hp⟩ := hp
      refine ro_V (As := [.int a1, .int x4]) (rest := [.int x3]) ⟨hx, hb, hml, hown, hts⟩ (c_X5_isOffered l dC dI cI q g a1 x4 r5 hr5) (cwV 2 hts gX5_ahead_X5_isOffered rfl rfl rfl (by decide +kernel) ⟨Nat.le_of_ble_eq_true rfl, Nat.le_of_ble_eq_true rfl⟩) hP hK hN rfl rfl rfl rfl hl.1 (Nat.le_of_ble_eq_true rfl) ⟨Nat.zero_le _, Nat.zero_le _⟩ dX5_ahead_69 ?_
      refine lv_if_eq (tgt := 79) hx hb dX5_ahead_72 (by decide) (fun c6 => ?_) (fun c6 => ?_)
      · have hp := hp.1 c6
        refine lv_iconst (v := 0) hx hb dX5_ahead_79 (by decide) ?_
        refine lv_iadd hx hb dX5_ahead_80 ?_
        refine lv_istore_n (lv' := [(3, .int (x3 + (0 : Int32))), (5, .int t0), (0, .ref (q 0)), (1, .int a1), (2, .int a2), (4, .int x4)]) hx hb dX5_ahead_81 rfl hl (by decide) rfl (fun ls hl => ?_)
        refine lv_iinc (v := x4 + (1 : Int32)) (lv' := [(4, .int (x4 + (1 : Int32))), (3, .int (x3 + (0 : Int32))), (5, .int t0), (0, .ref (q 0)), (1, .int a1), (2, .int a2)]) hx hb dX5_ahead_82 hl (k := 5) rfl rfl (by decide) rfl (fun ls hl => ?_)
        refine lv_goto (tgt := 5) hx hb dX5_ahead_85 (by decide) ?_
        rw [eV5] at hp
        exact hp _ (lv_sub hl [3, 4, 5, 1, 0] rfl)
      · have hp := hp.2 c6
        refine lv_iconst (v := 1) hx hb dX5_ahead_75 (by decide) ?_
        refine lv_goto (tgt := 80) hx hb dX5_ahead_76 (by decide) ?_
        refine lv_iadd hx hb dX5_ahead_80 ?_
        refine lv_istore_n (lv' := [(3, .int (x3 + (1 : Int32))), (5, .int t0), (0, .ref (q 0)), (1, .int a1), (2, .int a2), (4, .int x4)]) hx hb dX5_ahead_81 rfl hl (by decide) rfl (fun ls hl => ?_)
        refine lv_iinc (v := x4 + (1 : Int32)) (lv' := [(4, .int (x4 + (1 : Int32))), (3, .int (x3 + (1 : Int32))), (5, .int t0), (0, .ref (q 0)), (1, .int a1), (2, .int a2)]) hx hb dX5_ahead_82 hl (k := 5) rfl rfl (by decide) rfl (fun ls hl => ?_)
        refine lv_goto (tgt := 5) hx hb dX5_ahead_85 (by decide) ?_
        rw [eV5] at hp
        exact hp _ (lv_sub hl [3, 4, 5, 1, 0] rfl))
  refine lv_iconst (v := 0) hx hb dX5_ahead_0 (by decide) ?_
  refine lv_istore_n (lv' := [(3, .int (0 : Int32)), (0, .ref (q 0)), (1, .int a1), (2, .int a2)]) hx hb dX5_ahead_1 rfl hl (by decide) rfl (fun ls hl => ?_)
  refine lv_iconst (v := 0) hx hb dX5_ahead_2 (by decide) ?_
  refine lv_istore (lv' := [(4, .int (0 : Int32)), (3, .int (0 : Int32)), (0, .ref (q 0)), (1, .int a1), (2, .int a2)]) hx hb dX5_ahead_3 hl (by decide) rfl (fun ls hl => ?_)
  rw [eV5] at hp
  exact hp _ (lv_sub hl [2, 3, 4, 1, 0] rfl)
theorem kX5_offerAt_0 : (.fieldLink RX5 83 "MeeplehouseModel" "titles" "I" : Cond) ∈ wsX5_offerAt := by decide +kernel
theorem iX5_offerAt_X5 : ∀ w ∈ wsX50, w ∈ wsX5_offerAt := by decide +kernel
def P_X5_offerAt (g : St) (a1 : Int32) (a2 : Int32) (r : Int32) (g' : St) : Prop := ∀ V30 : St → Prop, ∀ V31 : St → Int32 → Prop, ∀ V45 : St → Int32 → Int32 → Prop, (∀ gv : St, (V31 gv (1 : Int32)) → V30 gv) → (∀ gv : St, ∀ t0 : Int32, (∃ (r6 : Int32) (g7 : St), P_X5_isFine gv t0 r6 g7 ∧ ((¬ r6 = 0 → (V45 g7 (-1 : Int32) (0 : Int32))) ∧ (r6 = 0 → (r = (0 : Int32) ∧ g' = g7)))) → V31 gv t0) → (∀ gv : St, ∀ x4 x5 : Int32, (((gv 0 15) ≤ x5 → (r = x4 ∧ g' = gv)) ∧ (¬ (gv 0 15) ≤ x5 → (∃ r9 : Int32, P_X5_isOffered gv a1 x5 r9 ∧ ((r9 = 0 → (V45 gv x4 (x5 + (1 : Int32)))) ∧ (¬ r9 = 0 → (∃ r10 : Int32, P_X5_ahead gv a1 x5 r10 ∧ ((¬ r10 = a2 → (V45 gv x4 (x5 + (1 : Int32)))) ∧ (r10 = a2 → (V45 gv x5 (x5 + (1 : Int32))))))))))) → V45 gv x4 x5) → (∃ r1 : Int32, P_X5_isGroup g a1 r1 ∧ ((r1 = 0 → (V30 g)) ∧ (¬ r1 = 0 → (∃ r2 : Int32, P_X5_offersTo g a1 r2 ∧ (∃ r3 : Int32, P_X5_isIn a2 (0 : Int32) (r2 - (1 : Int32)) r3 ∧ ((r3 = 0 → (V30 g)) ∧ (¬ r3 = 0 → (V31 g (0 : Int32)))))))))
set_option maxRecDepth 100000 in
set_option maxHeartbeats 4000000 in
theorem c_X5_offerAt (l : Launch) (dC : Nat → ClassId) (dI : Nat → Nat → Nat) (cI : ClassId) (q : Nat → Nat) (g : St) (a1 : Int32) (a2 : Int32) (r : Int32) (g' : St) (hp : P_X5_offerAt g a1 a2 r g') (sz : Nat) : Met l yX5_offerAt wsX5_offerAt { frames := 5, cells := 0, slots := 0, locals := 120 } (va_Pc [.ref (q 0), .int a1, .int a2] (wpS (dC, dI) vwCl [(cI, .int)] (wX5 q cI g) sz)) (va_Qi (fun (r' : Int32) (_ : Unit) => r' = r) (fun _ t => wqB (dC, dI) vwCl (wX5 q cI g') (va_A (wX5 q cI g) sz) t) (va_A (wX5 q cI g) sz)) 0 0 (va_A (wX5 q cI g) sz) := by
  refine wr_met (fun A => (va_Qi (fun (r' : Int32) (_ : Unit) => r' = r) (fun _ t => wqB (dC, dI) vwCl (wX5 q cI g') A t) A)) (cc := cX5_offerAt) (maxL := 6) (ret := (some .int)) (by decide) rfl (Nat.le_of_ble_eq_true rfl) ?_
  intro p e s m below meth c A hx hb hml hr hlk hts hown hnm hP hK hN hD hA ls hl
  have hS : va_S A s.heap s.heap [] := va_S.rf
  have hl : lv_has ls 6 [(0, .ref (q 0)), (1, .int a1), (2, .int a2)] := hl
  obtain ⟨V30, eV30⟩ : ∃ V : St → Prop, V = (fun gv => ∀ (H : Heap) (locs : List Loc) (ls : Array Slot), va_P (dC, dI) vwCl (wX5 q cI gv) H → va_D A (wX5 q cI gv) → va_S A s.heap H locs → lv_has ls 6 [(0, .ref (q 0)), (1, .int a1), (2, .int a2)] → W p l e { frames := 5, cells := 0, slots := 0, locals := 120 } s m ([.ref (q 0), .int a1, .int a2] : List Value).toArray below meth c H locs 0 0 (MQ below (va_Qi (fun (r' : Int32) (_ : Unit) => r' = r) (fun _ t => wqB (dC, dI) vwCl (wX5 q cI g') A t) A) ([.ref (q 0), .int a1, .int a2] : List Value).toArray s 0 0 A) (F0 m 30 ls [.ref (q 0)])) := ⟨_, rfl⟩
  obtain ⟨V31, eV31⟩ : ∃ V : St → Int32 → Prop, V = (fun gv t0 => ∀ (H : Heap) (locs : List Loc) (ls : Array Slot), va_P (dC, dI) vwCl (wX5 q cI gv) H → va_D A (wX5 q cI gv) → va_S A s.heap H locs → lv_has ls 6 [(0, .ref (q 0)), (1, .int a1), (2, .int a2)] → W p l e { frames := 5, cells := 0, slots := 0, locals := 120 } s m ([.ref (q 0), .int a1, .int a2] : List Value).toArray below meth c H locs 0 0 (MQ below (va_Qi (fun (r' : Int32) (_ : Unit) => r' = r) (fun _ t => wqB (dC, dI) vwCl (wX5 q cI g') A t) A) ([.ref (q 0), .int a1, .int a2] : List Value).toArray s 0 0 A) (F0 m 31 ls [.int t0, .ref (q 0)])) := ⟨_, rfl⟩
  obtain ⟨V45, eV45⟩ : ∃ V : St → Int32 → Int32 → Prop, V = (fun gv x4 x5 => ∀ (H : Heap) (locs : List Loc) (ls : Array Slot), va_P (dC, dI) vwCl (wX5 q cI gv) H → va_D A (wX5 q cI gv) → va_S A s.heap H locs → lv_has ls 6 [(0, .ref (q 0)), (1, .int a1), (2, .int a2), (4, .int x4), (5, .int x5)] → W p l e { frames := 5, cells := 0, slots := 0, locals := 120 } s m ([.ref (q 0), .int a1, .int a2] : List Value).toArray below meth c H locs 0 0 (MQ below (va_Qi (fun (r' : Int32) (_ : Unit) => r' = r) (fun _ t => wqB (dC, dI) vwCl (wX5 q cI g') A t) A) ([.ref (q 0), .int a1, .int a2] : List Value).toArray s 0 0 A) (F0 m 45 ls [])) := ⟨_, rfl⟩
  have hp := hp V30 V31 V45
  have hp := hp (by
    intro gv hp
    rw [eV30]
    intro H locs ls hP hD hS hl
    refine lv_iconst (v := 1) hx hb dX5_offerAt_30 (by decide) ?_
    rw [eV31] at hp
    exact hp _ _ _ hP hD hS (lv_sub hl [0, 1, 2] rfl))
  have hp := hp (by
    intro gv t0 hp
    rw [eV31]
    intro H locs ls hP hD hS hl
    obtain ⟨r6, g7, hg7, hp⟩ := hp
    refine wr_Vi (As := [.int t0]) (rest := []) (w1 := []) (w2 := []) (ws1 := wX5 q cI g7) ⟨hx, hb, hml, hown, hts⟩ (c_X5_isFine l dC dI cI q gv t0 r6 g7 hg7 _) (cwV 1 hts gX5_offerAt_X5_isFine rfl rfl rfl (by decide +kernel) ⟨Nat.le_of_ble_eq_true rfl, Nat.le_of_ble_eq_true rfl⟩) hP hD hS hA hK hN (List.append_nil _).symm (List.append_nil _) rfl rfl rfl rfl hl.1 (Nat.le_of_ble_eq_true rfl) ⟨Nat.zero_le _, Nat.zero_le _⟩ dX5_offerAt_31 (fun H locs hP hD hS => ?_)
    refine lv_if_ne (tgt := 39) hx hb dX5_offerAt_34 (by decide) (fun c8 => ?_) (fun c8 => ?_)
    · have hp := hp.1 c8
      refine lv_iconst (v := -1) hx hb dX5_offerAt_39 (by decide) ?_
      refine lv_istore (lv' := [(4, .int (-1 : Int32)), (0, .ref (q 0)), (1, .int a1), (2, .int a2)]) hx hb dX5_offerAt_40 hl (by decide) rfl (fun ls hl => ?_)
      refine lv_iconst (v := 0) hx hb dX5_offerAt_42 (by decide) ?_
      refine lv_istore (lv' := [(5, .int (0 : Int32)), (4, .int (-1 : Int32)), (0, .ref (q 0)), (1, .int a1), (2, .int a2)]) hx hb dX5_offerAt_43 hl (by decide) rfl (fun ls hl => ?_)
      rw [eV45] at hp
      exact hp _ _ _ hP hD hS (lv_sub hl [2, 3, 4, 1, 0] rfl)
    · have hp := hp.2 c8
      refine lv_iconst (v := 0) hx hb dX5_offerAt_37 (by decide) ?_
      exact W.iret hx hb hr (fun t ht _ => ⟨⟨_, (), rfl, hp.1.symm, by rw [ht, hp.2]; exact hP, by rw [hp.2]; exact hD⟩, hS.F ht⟩) hS.2.2 dX5_offerAt_38)
  have hp := hp (by
    intro gv x4 x5 hp
    rw [eV45]
    intro H locs ls hP hD hS hl
    refine lv_iload hx hb dX5_offerAt_45 (lv_at hl 4 rfl) ?_
    refine lv_aload_n hx hb dX5_offerAt_47 rfl (lv_at hl 0 rfl) ?_
    refine va_get (D := (dC, dI)) (ci := 5) (v := .int (gv 0 15)) (C := RX5) (T := TX5) (N := 33) hx hb hts iX5_offerAt_X5 hown hK hP 0 rfl rfl 15 (by decide) (hts _ kX5_offerAt_0) (fun _ h9 => h9) rfl dX5_offerAt_48 ?_
    refine lv_icmp_ge (tgt := 90) hx hb dX5_offerAt_51 (by decide) (fun c13 => ?_) (fun c13 => ?_)
    · have hp := hp.1 c13
      refine lv_iload hx hb dX5_offerAt_90 (lv_at hl 3 rfl) ?_
      exact W.iret hx hb hr (fun t ht _ => ⟨⟨_, (), rfl, hp.1.symm, by rw [ht, hp.2]; exact hP, by rw [hp.2]; exact hD⟩, hS.F ht⟩) hS.2.2 dX5_offerAt_92
    · have hp := hp.2 c13
      refine lv_aload_n hx hb dX5_offerAt_54 rfl (lv_at hl 0 rfl) ?_
      refine lv_iload_n hx hb dX5_offerAt_55 rfl (lv_at hl 1 rfl) ?_
      refine lv_iload hx hb dX5_offerAt_56 (lv_at hl 4 rfl) ?_
      obtain ⟨r9, hr9, hp⟩ := hp
      refine ro_V (As := [.int a1, .int x5]) (rest := []) ⟨hx, hb, hml, hown, hts⟩ (c_X5_isOffered l dC dI cI q gv a1 x5 r9 hr9) (cwV 2 hts gX5_offerAt_X5_isOffered rfl rfl rfl (by decide +kernel) ⟨Nat.le_of_ble_eq_true rfl, Nat.le_of_ble_eq_true rfl⟩) hP hK hN rfl rfl rfl rfl hl.1 (Nat.le_of_ble_eq_true rfl) ⟨Nat.zero_le _, Nat.zero_le _⟩ dX5_offerAt_58 ?_
      refine lv_if_eq (tgt := 80) hx hb dX5_offerAt_61 (by decide) (fun c12 => ?_) (fun c12 => ?_)
      · have hp := hp.1 c12
        refine lv_iload hx hb dX5_offerAt_80 (lv_at hl 3 rfl) ?_
        refine lv_istore (lv' := [(4, .int x4), (0, .ref (q 0)), (1, .int a1), (2, .int a2), (5, .int x5)]) hx hb dX5_offerAt_82 hl (by decide) rfl (fun ls hl => ?_)
        refine lv_iinc (v := x5 + (1 : Int32)) (lv' := [(5, .int (x5 + (1 : Int32))), (4, .int x4), (0, .ref (q 0)), (1, .int a1), (2, .int a2)]) hx hb dX5_offerAt_84 hl (k := 4) rfl rfl (by decide) rfl (fun ls hl => ?_)
        refine lv_goto (tgt := 45) hx hb dX5_offerAt_87 (by decide) ?_
        rw [eV45] at hp
        exact hp _ _ _ hP hD hS (lv_sub hl [2, 3, 4, 1, 0] rfl)
      · have hp := hp.2 c12
        refine lv_aload_n hx hb dX5_offerAt_64 rfl (lv_at hl 0 rfl) ?_
        refine lv_iload_n hx hb dX5_offerAt_65 rfl (lv_at hl 1 rfl) ?_
        refine lv_iload hx hb dX5_offerAt_66 (lv_at hl 4 rfl) ?_
        obtain ⟨r10, hr10, hp⟩ := hp
        refine ro_V (As := [.int a1, .int x5]) (rest := []) ⟨hx, hb, hml, hown, hts⟩ (c_X5_ahead l dC dI cI q gv a1 x5 r10 hr10) (cwV 2 hts gX5_offerAt_X5_ahead rfl rfl rfl (by decide +kernel) ⟨Nat.le_of_ble_eq_true rfl, Nat.le_of_ble_eq_true rfl⟩) hP hK hN rfl rfl rfl rfl hl.1 (Nat.le_of_ble_eq_true rfl) ⟨Nat.zero_le _, Nat.zero_le _⟩ dX5_offerAt_68 ?_
        refine lv_iload_n hx hb dX5_offerAt_71 rfl (lv_at hl 2 rfl) ?_
        refine lv_icmp_ne (tgt := 80) hx hb dX5_offerAt_72 (by decide) (fun c11 => ?_) (fun c11 => ?_)
        · have hp := hp.1 c11
          refine lv_iload hx hb dX5_offerAt_80 (lv_at hl 3 rfl) ?_
          refine lv_istore (lv' := [(4, .int x4), (0, .ref (q 0)), (1, .int a1), (2, .int a2), (5, .int x5)]) hx hb dX5_offerAt_82 hl (by decide) rfl (fun ls hl => ?_)
          refine lv_iinc (v := x5 + (1 : Int32)) (lv' := [(5, .int (x5 + (1 : Int32))), (4, .int x4), (0, .ref (q 0)), (1, .int a1), (2, .int a2)]) hx hb dX5_offerAt_84 hl (k := 4) rfl rfl (by decide) rfl (fun ls hl => ?_)
          refine lv_goto (tgt := 45) hx hb dX5_offerAt_87 (by decide) ?_
          rw [eV45] at hp
          exact hp _ _ _ hP hD hS (lv_sub hl [2, 3, 4, 1, 0] rfl)
        · have hp := hp.2 c11
          refine lv_iload hx hb dX5_offerAt_75 (lv_at hl 4 rfl) ?_
          refine lv_goto (tgt := 82) hx hb dX5_offerAt_77 (by decide) ?_
          refine lv_istore (lv' := [(4, .int x5), (0, .ref (q 0)), (1, .int a1), (2, .int a2), (5, .int x5)]) hx hb dX5_offerAt_82 hl (by decide) rfl (fun ls hl => ?_)
          refine lv_iinc (v := x5 + (1 : Int32)) (lv' := [(5, .int (x5 + (1 : Int32))), (4, .int x5), (0, .ref (q 0)), (1, .int a1), (2, .int a2)]) hx hb dX5_offerAt_84 hl (k := 4) rfl rfl (by decide) rfl (fun ls hl => ?_)
          refine lv_goto (tgt := 45) hx hb dX5_offerAt_87 (by decide) ?_
          rw [eV45] at hp
          exact hp _ _ _ hP hD hS (lv_sub hl [2, 3, 4, 1, 0] rfl))
  refine lv_aload_n hx hb dX5_offerAt_0 rfl (lv_at hl 0 rfl) ?_
  refine lv_iload_n hx hb dX5_offerAt_1 rfl (lv_at hl 1 rfl) ?_
  obtain ⟨r1, hr1, hp⟩ := hp
  refine ro_V (As := [.int a1]) (rest := []) ⟨hx, hb, hml, hown, hts⟩ (c_X5_isGroup l dC dI cI q g a1 r1 hr1) (cwV 1 hts gX5_offerAt_X5_isGroup rfl rfl rfl (by decide +kernel) ⟨Nat.le_of_ble_eq_true rfl, Nat.le_of_ble_eq_true rfl⟩) hP hK hN rfl rfl rfl rfl hl.1 (Nat.le_of_ble_eq_true rfl) ⟨Nat.zero_le _, Nat.zero_le _⟩ dX5_offerAt_2 ?_
  refine lv_istore_n (lv' := [(3, .int r1), (0, .ref (q 0)), (1, .int a1), (2, .int a2)]) hx hb dX5_offerAt_5 rfl hl (by decide) rfl (fun ls hl => ?_)
  refine lv_aload_n hx hb dX5_offerAt_6 rfl (lv_at hl 1 rfl) ?_
  refine lv_iload_n hx hb dX5_offerAt_7 rfl (lv_at hl 0 rfl) ?_
  refine lv_if_eq (tgt := 30) hx hb dX5_offerAt_8 (by decide) (fun c5 => ?_) (fun c5 => ?_)
  · have hp := hp.1 c5
    rw [eV30] at hp
    exact hp _ _ _ hP hD hS (lv_sub hl [1, 2, 3] rfl)
  · have hp := hp.2 c5
    refine lv_iload_n hx hb dX5_offerAt_11 rfl (lv_at hl 3 rfl) ?_
    refine lv_iconst (v := 0) hx hb dX5_offerAt_12 (by decide) ?_
    refine lv_aload_n hx hb dX5_offerAt_13 rfl (lv_at hl 1 rfl) ?_
    refine lv_iload_n hx hb dX5_offerAt_14 rfl (lv_at hl 2 rfl) ?_
    obtain ⟨r2, hr2, hp⟩ := hp
    refine ro_V (As := [.int a1]) (rest := [.int (0 : Int32), .int a2, .ref (q 0)]) ⟨hx, hb, hml, hown, hts⟩ (c_X5_offersTo l dC dI cI q g a1 r2 hr2) (cwV 1 hts gX5_offerAt_X5_offersTo rfl rfl rfl (by decide +kernel) ⟨Nat.le_of_ble_eq_true rfl, Nat.le_of_ble_eq_true rfl⟩) hP hK hN rfl rfl rfl rfl hl.1 (Nat.le_of_ble_eq_true rfl) ⟨Nat.zero_le _, Nat.zero_le _⟩ dX5_offerAt_15 ?_
    refine lv_iconst (v := 1) hx hb dX5_offerAt_18 (by decide) ?_
    refine lv_isub hx hb dX5_offerAt_19 ?_
    obtain ⟨r3, hr3, hp⟩ := hp
    refine ro_S (As := [.int a2, .int (0 : Int32), .int (r2 - (1 : Int32))]) (rest := [.ref (q 0)]) ⟨hx, hb, hml, hown, hts⟩ (c_X5_isIn l dC dI cI a2 (0 : Int32) (r2 - (1 : Int32)) r3 hr3) (va_cwS 3 hts gX5_offerAt_X5_isIn rfl rfl rfl (by decide +kernel) ⟨Nat.le_of_ble_eq_true rfl, Nat.le_of_ble_eq_true rfl⟩) (hP.sub [] rfl) hK hN rfl rfl hl.1 (Nat.le_of_ble_eq_true rfl) ⟨Nat.zero_le _, Nat.zero_le _⟩ dX5_offerAt_20 ?_
    refine lv_if_eq (tgt := 30) hx hb dX5_offerAt_23 (by decide) (fun c4 => ?_) (fun c4 => ?_)
    · have hp := hp.1 c4
      rw [eV30] at hp
      exact hp _ _ _ hP hD hS (lv_sub hl [1, 2, 3] rfl)
    · have hp := hp.2 c4
      refine lv_iconst (v := 0) hx hb dX5_offerAt_26 (by decide) ?_
      refine lv_goto (tgt := 31) hx hb dX5_offerAt_27 (by decide) ?_
      rw [eV31] at hp
      exact hp _ _ _ hP hD hS (lv_sub hl [1, 2, 3] rfl)
theorem kX5_lendsTo_0 : (.fieldLink RX5 163 "MeeplehouseModel" "loans" "I" : Cond) ∈ wsX5_lendsTo := by decide +kernel
theorem iX5_lendsTo_X5 : ∀ w ∈ wsX50, w ∈ wsX5_lendsTo := by decide +kernel
theorem kX5_lendsTo_2 : (.fieldLink RX5 58 "MeeplehouseModel" "lender" "[I" : Cond) ∈ wsX5_lendsTo := by decide +kernel
theorem kX5_lendsTo_3 : (.fieldLink RX5 52 "MeeplehouseModel" "borrower" "[I" : Cond) ∈ wsX5_lendsTo := by decide +kernel
def P_X5_lendsTo (g : St) (a1 : Int32) (a2 : Int32) (r : Int32) : Prop := ∀ V5 : Int32 → Int32 → Prop, (∀ x3 x4 : Int32, (((g 0 24) ≤ x4 → ((x3 = 0 ∨ x3 = 1) ∧ (r = x3))) ∧ (¬ (g 0 24) ≤ x4 → ((¬ x3 = 0 → (V5 (1 : Int32) (x4 + (1 : Int32)))) ∧ (x3 = 0 → (vp_in x4 64 ∧ ((¬ (g 17 x4.toNatClampNeg) = a1 → (V5 (0 : Int32) (x4 + (1 : Int32)))) ∧ ((g 17 x4.toNatClampNeg) = a1 → (vp_in x4 64 ∧ ((¬ (g 15 x4.toNatClampNeg) = a2 → (V5 (0 : Int32) (x4 + (1 : Int32)))) ∧ ((g 15 x4.toNatClampNeg) = a2 → (V5 (1 : Int32) (x4 + (1 : Int32))))))))))))) → V5 x3 x4) → (V5 (0 : Int32) (0 : Int32))
set_option maxRecDepth 100000 in
set_option maxHeartbeats 4000000 in
theorem c_X5_lendsTo (l : Launch) (dC : Nat → ClassId) (dI : Nat → Nat → Nat) (cI : ClassId) (q : Nat → Nat) (g : St) (a1 : Int32) (a2 : Int32) (r : Int32) (hp : P_X5_lendsTo g a1 a2 r) : Met l yX5_lendsTo wsX5_lendsTo { frames := 0, cells := 0, slots := 0, locals := 0 } (va_Pc [.ref (q 0), .int a1, .int a2] (rpS (dC, dI) vwCl [(cI, .int)] (wX5 q cI g))) (QcRead r) 0 0 (fun _ => False) := by
  refine ro_met (cc := cX5_lendsTo) (maxL := 5) (ret := (some .boolean)) (by decide) rfl (Nat.le_of_ble_eq_true rfl) ?_
  intro p e s m below meth c hx hb hml hr hlk hts hown hP hK hN ls hl
  have hl : lv_has ls 5 [(0, .ref (q 0)), (1, .int a1), (2, .int a2)] := hl
  obtain ⟨V5, eV5⟩ : ∃ V : Int32 → Int32 → Prop, V = (fun x3 x4 => ∀ ls : Array Slot, lv_has ls 5 [(0, .ref (q 0)), (1, .int a1), (2, .int a2), (3, .int x3), (4, .int x4)] → W p l e { frames := 0, cells := 0, slots := 0, locals := 0 } s m ([.ref (q 0), .int a1, .int a2] : List Value).toArray below meth c s.heap [] 0 0 (MQ below (QcRead r) ([.ref (q 0), .int a1, .int a2] : List Value).toArray s 0 0 (fun _ => False)) (F0 m 5 ls [])) := ⟨_, rfl⟩
  have hp := hp V5
  have hp := hp (by
    intro x3 x4 hp
    rw [eV5]
    intro ls hl
    refine lv_iload hx hb dX5_lendsTo_5 (lv_at hl 4 rfl) ?_
    refine lv_aload_n hx hb dX5_lendsTo_7 rfl (lv_at hl 0 rfl) ?_
    refine va_get (D := (dC, dI)) (ci := 5) (v := .int (g 0 24)) (C := RX5) (T := TX5) (N := 33) hx hb hts iX5_lendsTo_X5 hown hK hP 0 rfl rfl 24 (by decide) (hts _ kX5_lendsTo_0) (fun _ h9 => h9) rfl dX5_lendsTo_8 ?_
    refine lv_icmp_ge (tgt := 52) hx hb dX5_lendsTo_11 (by decide) (fun c4 => ?_) (fun c4 => ?_)
    · have hp := hp.1 c4
      refine lv_iload_n hx hb dX5_lendsTo_52 rfl (lv_at hl 3 rfl) ?_
      have hbv := rd_bool hp.1
      have hp := hp.2
      exact W.zret (ty := .boolean) hx hb hr hbv (fun t ht _ => ⟨by rw [hp], ht⟩) (fun _ h => nomatch h) dX5_lendsTo_53
    · have hp := hp.2 c4
      refine lv_iload_n hx hb dX5_lendsTo_14 rfl (lv_at hl 3 rfl) ?_
      refine lv_if_ne (tgt := 40) hx hb dX5_lendsTo_15 (by decide) (fun c3 => ?_) (fun c3 => ?_)
      · have hp := hp.1 c3
        refine lv_iconst (v := 1) hx hb dX5_lendsTo_40 (by decide) ?_
        refine lv_goto (tgt := 45) hx hb dX5_lendsTo_41 (by decide) ?_
        refine lv_istore_n (lv' := [(3, .int (1 : Int32)), (0, .ref (q 0)), (1, .int a1), (2, .int a2), (4, .int x4)]) hx hb dX5_lendsTo_45 rfl hl (by decide) rfl (fun ls hl => ?_)
        refine lv_iinc (v := x4 + (1 : Int32)) (lv' := [(4, .int (x4 + (1 : Int32))), (3, .int (1 : Int32)), (0, .ref (q 0)), (1, .int a1), (2, .int a2)]) hx hb dX5_lendsTo_46 hl (k := 4) rfl rfl (by decide) rfl (fun ls hl => ?_)
        refine lv_goto (tgt := 5) hx hb dX5_lendsTo_49 (by decide) ?_
        rw [eV5] at hp
        exact hp _ (lv_sub hl [2, 3, 4, 1, 0] rfl)
      · have hp := hp.2 c3
        refine lv_aload_n hx hb dX5_lendsTo_18 rfl (lv_at hl 0 rfl) ?_
        refine va_get (D := (dC, dI)) (ci := 5) (v := .ref (q 17)) (C := RX5) (T := TX5) (N := 33) hx hb hts iX5_lendsTo_X5 hown hK hP 0 rfl rfl 22 (by decide) (hts _ kX5_lendsTo_2) (fun _ h9 => h9) rfl dX5_lendsTo_19 ?_
        refine lv_iload hx hb dX5_lendsTo_22 (lv_at hl 4 rfl) ?_
        refine va_iald hx hb hK hP 17 0 rfl rfl hp.1 dX5_lendsTo_24 ?_
        have hp := hp.2
        refine lv_iload_n hx hb dX5_lendsTo_25 rfl (lv_at hl 1 rfl) ?_
        refine lv_icmp_ne (tgt := 44) hx hb dX5_lendsTo_26 (by decide) (fun c2 => ?_) (fun c2 => ?_)
        · have hp := hp.1 c2
          refine lv_iconst (v := 0) hx hb dX5_lendsTo_44 (by decide) ?_
          refine lv_istore_n (lv' := [(3, .int (0 : Int32)), (0, .ref (q 0)), (1, .int a1), (2, .int a2), (4, .int x4)]) hx hb dX5_lendsTo_45 rfl hl (by decide) rfl (fun ls hl => ?_)
          refine lv_iinc (v := x4 + (1 : Int32)) (lv' := [(4, .int (x4 + (1 : Int32))), (3, .int (0 : Int32)), (0, .ref (q 0)), (1, .int a1), (2, .int a2)]) hx hb dX5_lendsTo_46 hl (k := 4) rfl rfl (by decide) rfl (fun ls hl => ?_)
          refine lv_goto (tgt := 5) hx hb dX5_lendsTo_49 (by decide) ?_
          rw [eV5] at hp
          exact hp _ (lv_sub hl [2, 3, 4, 1, 0] rfl)
        · have hp := hp.2 c2
          refine lv_aload_n hx hb dX5_lendsTo_29 rfl (lv_at hl 0 rfl) ?_
          refine va_get (D := (dC, dI)) (ci := 5) (v := .ref (q 15)) (C := RX5) (T := TX5) (N := 33) hx hb hts iX5_lendsTo_X5 hown hK hP 0 rfl rfl 20 (by decide) (hts _ kX5_lendsTo_3) (fun _ h9 => h9) rfl dX5_lendsTo_30 ?_
          refine lv_iload hx hb dX5_lendsTo_33 (lv_at hl 4 rfl) ?_
          refine va_iald hx hb hK hP 15 0 rfl rfl hp.1 dX5_lendsTo_35 ?_
          have hp := hp.2
          refine lv_iload_n hx hb dX5_lendsTo_36 rfl (lv_at hl 2 rfl) ?_
          refine lv_icmp_ne (tgt := 44) hx hb dX5_lendsTo_37 (by decide) (fun c1 => ?_) (fun c1 => ?_)
          · have hp := hp.1 c1
            refine lv_iconst (v := 0) hx hb dX5_lendsTo_44 (by decide) ?_
            refine lv_istore_n (lv' := [(3, .int (0 : Int32)), (0, .ref (q 0)), (1, .int a1), (2, .int a2), (4, .int x4)]) hx hb dX5_lendsTo_45 rfl hl (by decide) rfl (fun ls hl => ?_)
            refine lv_iinc (v := x4 + (1 : Int32)) (lv' := [(4, .int (x4 + (1 : Int32))), (3, .int (0 : Int32)), (0, .ref (q 0)), (1, .int a1), (2, .int a2)]) hx hb dX5_lendsTo_46 hl (k := 4) rfl rfl (by decide) rfl (fun ls hl => ?_)
            refine lv_goto (tgt := 5) hx hb dX5_lendsTo_49 (by decide) ?_
            rw [eV5] at hp
            exact hp _ (lv_sub hl [2, 3, 4, 1, 0] rfl)
          · have hp := hp.2 c1
            refine lv_iconst (v := 1) hx hb dX5_lendsTo_40 (by decide) ?_
            refine lv_goto (tgt := 45) hx hb dX5_lendsTo_41 (by decide) ?_
            refine lv_istore_n (lv' := [(3, .int (1 : Int32)), (0, .ref (q 0)), (1, .int a1), (2, .int a2), (4, .int x4)]) hx hb dX5_lendsTo_45 rfl hl (by decide) rfl (fun ls hl => ?_)
            refine lv_iinc (v := x4 + (1 : Int32)) (lv' := [(4, .int (x4 + (1 : Int32))), (3, .int (1 : Int32)), (0, .ref (q 0)), (1, .int a1), (2, .int a2)]) hx hb dX5_lendsTo_46 hl (k := 4) rfl rfl (by decide) rfl (fun ls hl => ?_)
            refine lv_goto (tgt := 5) hx hb dX5_lendsTo_49 (by decide) ?_
            rw [eV5] at hp
            exact hp _ (lv_sub hl [2, 3, 4, 1, 0] rfl))
  refine lv_iconst (v := 0) hx hb dX5_lendsTo_0 (by decide) ?_
  refine lv_istore_n (lv' := [(3, .int (0 : Int32)), (0, .ref (q 0)), (1, .int a1), (2, .int a2)]) hx hb dX5_lendsTo_1 rfl hl (by decide) rfl (fun ls hl => ?_)
  refine lv_iconst (v := 0) hx hb dX5_lendsTo_2 (by decide) ?_
  refine lv_istore (lv' := [(4, .int (0 : Int32)), (3, .int (0 : Int32)), (0, .ref (q 0)), (1, .int a1), (2, .int a2)]) hx hb dX5_lendsTo_3 hl (by decide) rfl (fun ls hl => ?_)
  rw [eV5] at hp
  exact hp _ (lv_sub hl [2, 3, 4, 1, 0] rfl)
theorem kX5_lends_0 : (.fieldLink RX5 40 "MeeplehouseModel" "whole" "[I" : Cond) ∈ wsX5_lends := by decide +kernel
theorem iX5_lends_X5 : ∀ w ∈ wsX50, w ∈ wsX5_lends := by decide +kernel
theorem kX5_lends_2 : (.fieldLink RX5 43 "MeeplehouseModel" "title" "[I" : Cond) ∈ wsX5_lends := by decide +kernel
theorem kX5_lends_3 : (.fieldLink RX5 49 "MeeplehouseModel" "pieces" "[I" : Cond) ∈ wsX5_lends := by decide +kernel
theorem kX5_lends_4 : (.fieldLink RX5 90 "MeeplehouseModel" "copies" "I" : Cond) ∈ wsX5_lends := by decide +kernel
theorem kX5_lends_5 : (.fieldLink RX5 46 "MeeplehouseModel" "where" "[I" : Cond) ∈ wsX5_lends := by decide +kernel
theorem kX5_lends_6 : (.fieldLink RX5 52 "MeeplehouseModel" "borrower" "[I" : Cond) ∈ wsX5_lends := by decide +kernel
theorem kX5_lends_7 : (.fieldLink RX5 163 "MeeplehouseModel" "loans" "I" : Cond) ∈ wsX5_lends := by decide +kernel
theorem kX5_lends_8 : (.fieldLink RX5 55 "MeeplehouseModel" "kindLent" "[I" : Cond) ∈ wsX5_lends := by decide +kernel
theorem kX5_lends_9 : (.fieldLink RX5 58 "MeeplehouseModel" "lender" "[I" : Cond) ∈ wsX5_lends := by decide +kernel
theorem kX5_lends_10 : (.fieldLink RX5 61 "MeeplehouseModel" "lent" "[I" : Cond) ∈ wsX5_lends := by decide +kernel
def P_X5_lends (g : St) (a1 : Int32) (g' : St) : Prop := ∀ V2 : St → Int32 → Prop, ∀ V37 : St → Int32 → Int32 → Int32 → Prop, ∀ V97 : St → Int32 → Int32 → Int32 → Prop, ∀ V98 : St → Int32 → Int32 → Int32 → Int32 → Prop, ∀ V125 : St → Int32 → Int32 → Int32 → Int32 → Prop, ∀ V137 : St → Int32 → Int32 → Int32 → Int32 → Prop, (∀ gv : St, ∀ x2 : Int32, (((4 : Int32) ≤ x2 → (g' = gv)) ∧ (¬ (4 : Int32) ≤ x2 → (vp_in a1 16 ∧ (vp_in (((4 : Int32) * (gv 12 a1.toNatClampNeg)) + x2) 32 ∧ (vp_in (((4 : Int32) * a1) + x2) 64 ∧ (∀ y1 : Int32, y1 = (gv 11 (((4 : Int32) * (gv 12 a1.toNatClampNeg)) + x2).toNatClampNeg) - (gv 14 (((4 : Int32) * a1) + x2).toNatClampNeg) → (V37 gv x2 y1 (0 : Int32)))))))) → V2 gv x2) → (∀ gv : St, ∀ x2 x3 x4 : Int32, (((gv 0 19) ≤ x4 → (V2 gv (x2 + (1 : Int32)))) ∧ (¬ (gv 0 19) ≤ x4 → ((x3 ≤ 0 → (V2 gv (x2 + (1 : Int32)))) ∧ (¬ x3 ≤ 0 → ((x4 = a1 → (V97 gv x2 x3 x4)) ∧ (¬ x4 = a1 → (vp_in x4 16 ∧ (vp_in a1 16 ∧ ((¬ (gv 12 x4.toNatClampNeg) = (gv 12 a1.toNatClampNeg) → (V97 gv x2 x3 x4)) ∧ ((gv 12 x4.toNatClampNeg) = (gv 12 a1.toNatClampNeg) → (vp_in x4 16 ∧ (((gv 13 x4.toNatClampNeg) = (1 : Int32) → (V97 gv x2 x3 x4)) ∧ (¬ (gv 13 x4.toNatClampNeg) = (1 : Int32) → (vp_in (((4 : Int32) * x4) + x2) 64 ∧ (V98 gv x2 x3 x4 (gv 14 (((4 : Int32) * x4) + x2).toNatClampNeg)))))))))))))))) → V37 gv x2 x3 x4) → (∀ gv : St, ∀ x2 x3 x4 : Int32, (V98 gv x2 x3 x4 (0 : Int32)) → V97 gv x2 x3 x4) → (∀ gv : St, ∀ x2 x3 x4 t0 : Int32, (vp_in x4 16 ∧ ((¬ (gv 13 x4.toNatClampNeg) = (2 : Int32) → (V125 gv x2 x3 x4 t0)) ∧ ((gv 13 x4.toNatClampNeg) = (2 : Int32) → (∃ r8 : Int32, P_X5_lendsTo gv x4 a1 r8 ∧ ((¬ r8 = 0 → (V125 gv x2 x3 x4 t0)) ∧ (r8 = 0 → (V137 gv x2 x3 x4 (0 : Int32)))))))) → V98 gv x2 x3 x4 t0) → (∀ gv : St, ∀ x2 x3 x4 x5 : Int32, ((x5 ≤ x3 → (V137 gv x2 x3 x4 x5)) ∧ (¬ x5 ≤ x3 → (V137 gv x2 x3 x4 x3))) → V125 gv x2 x3 x4 x5) → (∀ gv : St, ∀ x2 x3 x4 t0 : Int32, ((t0 ≤ 0 → (V37 gv x2 x3 (x4 + (1 : Int32)))) ∧ (¬ t0 ≤ 0 → (vp_in (gv 0 24) 64 ∧ (∀ g12 : St, g12 = st_set gv 15 (gv 0 24).toNatClampNeg a1 → (vp_in (g12 0 24) 64 ∧ (∀ g13 : St, g13 = st_set g12 16 (g12 0 24).toNatClampNeg x2 → (vp_in (g13 0 24) 64 ∧ (∀ g14 : St, g14 = st_set g13 17 (g13 0 24).toNatClampNeg x4 → (vp_in (g14 0 24) 64 ∧ (∀ g15 : St, g15 = st_set g14 18 (g14 0 24).toNatClampNeg t0 → (∀ g16 : St, g16 = st_set g15 0 24 ((g15 0 24) + (1 : Int32)) → (vp_in (((4 : Int32) * x4) + x2) 64 ∧ (vp_in (((4 : Int32) * x4) + x2) 64 ∧ (∀ g17 : St, g17 = st_set g16 14 (((4 : Int32) * x4) + x2).toNatClampNeg ((g16 14 (((4 : Int32) * x4) + x2).toNatClampNeg) - t0) → (vp_in (((4 : Int32) * a1) + x2) 64 ∧ (vp_in (((4 : Int32) * a1) + x2) 64 ∧ (∀ g18 : St, g18 = st_set g17 14 (((4 : Int32) * a1) + x2).toNatClampNeg ((g17 14 (((4 : Int32) * a1) + x2).toNatClampNeg) + t0) → (vp_in x4 16 ∧ (∀ g19 : St, g19 = st_set g18 13 x4.toNatClampNeg (2 : Int32) → (V37 g19 x2 (x3 - t0) (x4 + (1 : Int32)))))))))))))))))))))) → V137 gv x2 x3 x4 t0) → (V2 g (0 : Int32))
set_option maxRecDepth 100000 in
set_option maxHeartbeats 4000000 in
theorem c_X5_lends (l : Launch) (dC : Nat → ClassId) (dI : Nat → Nat → Nat) (cI : ClassId) (q : Nat → Nat) (g : St) (a1 : Int32) (g' : St) (hp : P_X5_lends g a1 g') (sz : Nat) : Met l yX5_lends wsX5_lends { frames := 1, cells := 0, slots := 0, locals := 24 } (va_Pc [.ref (q 0), .int a1] (wpS (dC, dI) vwCl [(cI, .int)] (wX5 q cI g) sz)) (va_Qv (fun _ : Unit => True) (fun _ t => wqB (dC, dI) vwCl (wX5 q cI g') (va_A (wX5 q cI g) sz) t) (va_A (wX5 q cI g) sz)) 0 0 (va_A (wX5 q cI g) sz) := by
  refine wr_met (fun A => (va_Qv (fun _ : Unit => True) (fun _ t => wqB (dC, dI) vwCl (wX5 q cI g') A t) A)) (cc := cX5_lends) (maxL := 6) (ret := none) (by decide) rfl (Nat.le_of_ble_eq_true rfl) ?_
  intro p e s m below meth c A hx hb hml hr hlk hts hown hnm hP hK hN hD hA ls hl
  have hS : va_S A s.heap s.heap [] := va_S.rf
  have hl : lv_has ls 6 [(0, .ref (q 0)), (1, .int a1)] := hl
  obtain ⟨V2, eV2⟩ : ∃ V : St → Int32 → Prop, V = (fun gv x2 => ∀ (H : Heap) (locs : List Loc) (ls : Array Slot), va_P (dC, dI) vwCl (wX5 q cI gv) H → va_D A (wX5 q cI gv) → va_S A s.heap H locs → lv_has ls 6 [(0, .ref (q 0)), (1, .int a1), (2, .int x2)] → W p l e { frames := 1, cells := 0, slots := 0, locals := 24 } s m ([.ref (q 0), .int a1] : List Value).toArray below meth c H locs 0 0 (MQ below (va_Qv (fun _ : Unit => True) (fun _ t => wqB (dC, dI) vwCl (wX5 q cI g') A t) A) ([.ref (q 0), .int a1] : List Value).toArray s 0 0 A) (F0 m 2 ls [])) := ⟨_, rfl⟩
  obtain ⟨V37, eV37⟩ : ∃ V : St → Int32 → Int32 → Int32 → Prop, V = (fun gv x2 x3 x4 => ∀ (H : Heap) (locs : List Loc) (ls : Array Slot), va_P (dC, dI) vwCl (wX5 q cI gv) H → va_D A (wX5 q cI gv) → va_S A s.heap H locs → lv_has ls 6 [(0, .ref (q 0)), (1, .int a1), (2, .int x2), (3, .int x3), (4, .int x4)] → W p l e { frames := 1, cells := 0, slots := 0, locals := 24 } s m ([.ref (q 0), .int a1] : List Value).toArray below meth c H locs 0 0 (MQ below (va_Qv (fun _ : Unit => True) (fun _ t => wqB (dC, dI) vwCl (wX5 q cI g') A t) A) ([.ref (q 0), .int a1] : List Value).toArray s 0 0 A) (F0 m 37 ls [])) := ⟨_, rfl⟩
  obtain ⟨V97, eV97⟩ : ∃ V : St → Int32 → Int32 → Int32 → Prop, V = (fun gv x2 x3 x4 => ∀ (H : Heap) (locs : List Loc) (ls : Array Slot), va_P (dC, dI) vwCl (wX5 q cI gv) H → va_D A (wX5 q cI gv) → va_S A s.heap H locs → lv_has ls 6 [(0, .ref (q 0)), (1, .int a1), (2, .int x2), (3, .int x3), (4, .int x4)] → W p l e { frames := 1, cells := 0, slots := 0, locals := 24 } s m ([.ref (q 0), .int a1] : List Value).toArray below meth c H locs 0 0 (MQ below (va_Qv (fun _ : Unit => True) (fun _ t => wqB (dC, dI) vwCl (wX5 q cI g') A t) A) ([.ref (q 0), .int a1] : List Value).toArray s 0 0 A) (F0 m 97 ls [])) := ⟨_, rfl⟩
  obtain ⟨V98, eV98⟩ : ∃ V : St → Int32 → Int32 → Int32 → Int32 → Prop, V = (fun gv x2 x3 x4 t0 => ∀ (H : Heap) (locs : List Loc) (ls : Array Slot), va_P (dC, dI) vwCl (wX5 q cI gv) H → va_D A (wX5 q cI gv) → va_S A s.heap H locs → lv_has ls 6 [(0, .ref (q 0)), (1, .int a1), (2, .int x2), (3, .int x3), (4, .int x4)] → W p l e { frames := 1, cells := 0, slots := 0, locals := 24 } s m ([.ref (q 0), .int a1] : List Value).toArray below meth c H locs 0 0 (MQ below (va_Qv (fun _ : Unit => True) (fun _ t => wqB (dC, dI) vwCl (wX5 q cI g') A t) A) ([.ref (q 0), .int a1] : List Value).toArray s 0 0 A) (F0 m 98 ls [.int t0])) := ⟨_, rfl⟩
  obtain ⟨V125, eV125⟩ : ∃ V : St → Int32 → Int32 → Int32 → Int32 → Prop, V = (fun gv x2 x3 x4 x5 => ∀ (H : Heap) (locs : List Loc) (ls : Array Slot), va_P (dC, dI) vwCl (wX5 q cI gv) H → va_D A (wX5 q cI gv) → va_S A s.heap H locs → lv_has ls 6 [(0, .ref (q 0)), (1, .int a1), (2, .int x2), (3, .int x3), (4, .int x4), (5, .int x5)] → W p l e { frames := 1, cells := 0, slots := 0, locals := 24 } s m ([.ref (q 0), .int a1] : List Value).toArray below meth c H locs 0 0 (MQ below (va_Qv (fun _ : Unit => True) (fun _ t => wqB (dC, dI) vwCl (wX5 q cI g') A t) A) ([.ref (q 0), .int a1] : List Value).toArray s 0 0 A) (F0 m 125 ls [])) := ⟨_, rfl⟩
  obtain ⟨V137, eV137⟩ : ∃ V : St → Int32 → Int32 → Int32 → Int32 → Prop, V = (fun gv x2 x3 x4 t0 => ∀ (H : Heap) (locs : List Loc) (ls : Array Slot), va_P (dC, dI) vwCl (wX5 q cI gv) H → va_D A (wX5 q cI gv) → va_S A s.heap H locs → lv_has ls 6 [(0, .ref (q 0)), (1, .int a1), (2, .int x2), (3, .int x3), (4, .int x4)] → W p l e { frames := 1, cells := 0, slots := 0, locals := 24 } s m ([.ref (q 0), .int a1] : List Value).toArray below meth c H locs 0 0 (MQ below (va_Qv (fun _ : Unit => True) (fun _ t => wqB (dC, dI) vwCl (wX5 q cI g') A t) A) ([.ref (q 0), .int a1] : List Value).toArray s 0 0 A) (F0 m 137 ls [.int t0])) := ⟨_, rfl⟩
  have hp := hp V2 V37 V97 V98 V125 V137
  have hp := hp (by
    intro gv x2 hp
    rw [eV2]
    intro H locs ls hP hD hS hl
    refine lv_iload_n hx hb dX5_lends_2 rfl (lv_at hl 2 rfl) ?_
    refine lv_iconst (v := 4) hx hb dX5_lends_3 (by decide) ?_
    refine lv_icmp_ge (tgt := 252) hx hb dX5_lends_4 (by decide) (fun c2 => ?_) (fun c2 => ?_)
    · have hp := hp.1 c2
      exact W.vret hx hb hr (fun t ht _ => ⟨⟨(), rfl, trivial, by rw [ht, hp]; exact hP, by rw [hp]; exact hD⟩, hS.F ht⟩) hS.2.2 dX5_lends_252
    · have hp := hp.2 c2
      refine lv_aload_n hx hb dX5_lends_7 rfl (lv_at hl 0 rfl) ?_
      refine va_get (D := (dC, dI)) (ci := 5) (v := .ref (q 11)) (C := RX5) (T := TX5) (N := 33) hx hb hts iX5_lends_X5 hown hK hP 0 rfl rfl 14 (by decide) (hts _ kX5_lends_0) (fun _ h9 => h9) rfl dX5_lends_8 ?_
      refine lv_iconst (v := 4) hx hb dX5_lends_11 (by decide) ?_
      refine lv_aload_n hx hb dX5_lends_12 rfl (lv_at hl 0 rfl) ?_
      refine va_get (D := (dC, dI)) (ci := 5) (v := .ref (q 12)) (C := RX5) (T := TX5) (N := 33) hx hb hts iX5_lends_X5 hown hK hP 0 rfl rfl 16 (by decide) (hts _ kX5_lends_2) (fun _ h9 => h9) rfl dX5_lends_13 ?_
      refine lv_iload_n hx hb dX5_lends_16 rfl (lv_at hl 1 rfl) ?_
      refine va_iald hx hb hK hP 12 0 rfl rfl hp.1 dX5_lends_17 ?_
      have hp := hp.2
      refine lv_imul hx hb dX5_lends_18 ?_
      refine lv_iload_n hx hb dX5_lends_19 rfl (lv_at hl 2 rfl) ?_
      refine lv_iadd hx hb dX5_lends_20 ?_
      refine va_iald hx hb hK hP 11 0 rfl rfl hp.1 dX5_lends_21 ?_
      have hp := hp.2
      refine lv_aload_n hx hb dX5_lends_22 rfl (lv_at hl 0 rfl) ?_
      refine va_get (D := (dC, dI)) (ci := 5) (v := .ref (q 14)) (C := RX5) (T := TX5) (N := 33) hx hb hts iX5_lends_X5 hown hK hP 0 rfl rfl 18 (by decide) (hts _ kX5_lends_3) (fun _ h9 => h9) rfl dX5_lends_23 ?_
      refine lv_iconst (v := 4) hx hb dX5_lends_26 (by decide) ?_
      refine lv_iload_n hx hb dX5_lends_27 rfl (lv_at hl 1 rfl) ?_
      refine lv_imul hx hb dX5_lends_28 ?_
      refine lv_iload_n hx hb dX5_lends_29 rfl (lv_at hl 2 rfl) ?_
      refine lv_iadd hx hb dX5_lends_30 ?_
      refine va_iald hx hb hK hP 14 0 rfl rfl hp.1 dX5_lends_31 ?_
      have hp := hp.2
      refine lv_isub hx hb dX5_lends_32 ?_
      refine lv_topi (fun y1 ey1 => ?_)
      have hp := hp y1 ey1
      refine lv_istore_n (lv' := [(3, .int y1), (0, .ref (q 0)), (1, .int a1), (2, .int x2)]) hx hb dX5_lends_33 rfl hl (by decide) rfl (fun ls hl => ?_)
      refine lv_iconst (v := 0) hx hb dX5_lends_34 (by decide) ?_
      refine lv_istore (lv' := [(4, .int (0 : Int32)), (3, .int y1), (0, .ref (q 0)), (1, .int a1), (2, .int x2)]) hx hb dX5_lends_35 hl (by decide) rfl (fun ls hl => ?_)
      rw [eV37] at hp
      exact hp _ _ _ hP hD hS (lv_sub hl [2, 3, 4, 1, 0] rfl))
  have hp := hp (by
    intro gv x2 x3 x4 hp
    rw [eV37]
    intro H locs ls hP hD hS hl
    refine lv_iload hx hb dX5_lends_37 (lv_at hl 4 rfl) ?_
    refine lv_aload_n hx hb dX5_lends_39 rfl (lv_at hl 0 rfl) ?_
    refine va_get (D := (dC, dI)) (ci := 5) (v := .int (gv 0 19)) (C := RX5) (T := TX5) (N := 33) hx hb hts iX5_lends_X5 hown hK hP 0 rfl rfl 19 (by decide) (hts _ kX5_lends_4) (fun _ h9 => h9) rfl dX5_lends_40 ?_
    refine lv_icmp_ge (tgt := 246) hx hb dX5_lends_43 (by decide) (fun c7 => ?_) (fun c7 => ?_)
    · have hp := hp.1 c7
      refine lv_iinc (v := x2 + (1 : Int32)) (lv' := [(2, .int (x2 + (1 : Int32))), (0, .ref (q 0)), (1, .int a1), (3, .int x3), (4, .int x4)]) hx hb dX5_lends_246 hl (k := 2) rfl rfl (by decide) rfl (fun ls hl => ?_)
      refine lv_goto (tgt := 2) hx hb dX5_lends_249 (by decide) ?_
      rw [eV2] at hp
      exact hp _ _ _ hP hD hS (lv_sub hl [1, 2, 0] rfl)
    · have hp := hp.2 c7
      refine lv_iload_n hx hb dX5_lends_46 rfl (lv_at hl 3 rfl) ?_
      refine lv_if_le (tgt := 246) hx hb dX5_lends_47 (by decide) (fun c6 => ?_) (fun c6 => ?_)
      · have hp := hp.1 c6
        refine lv_iinc (v := x2 + (1 : Int32)) (lv' := [(2, .int (x2 + (1 : Int32))), (0, .ref (q 0)), (1, .int a1), (3, .int x3), (4, .int x4)]) hx hb dX5_lends_246 hl (k := 2) rfl rfl (by decide) rfl (fun ls hl => ?_)
        refine lv_goto (tgt := 2) hx hb dX5_lends_249 (by decide) ?_
        rw [eV2] at hp
        exact hp _ _ _ hP hD hS (lv_sub hl [1, 2, 0] rfl)
      · have hp := hp.2 c6
        refine lv_iload hx hb dX5_lends_50 (lv_at hl 4 rfl) ?_
        refine lv_iload_n hx hb dX5_lends_52 rfl (lv_at hl 1 rfl) ?_
        refine lv_icmp_eq (tgt := 97) hx hb dX5_lends_53 (by decide) (fun c5 => ?_) (fun c5 => ?_)
        · have hp := hp.1 c5
          rw [eV97] at hp
          exact hp _ _ _ hP hD hS (lv_sub hl [0, 1, 2, 3, 4] rfl)
        · have hp := hp.2 c5
          refine lv_aload_n hx hb dX5_lends_56 rfl (lv_at hl 0 rfl) ?_
          refine va_get (D := (dC, dI)) (ci := 5) (v := .ref (q 12)) (C := RX5) (T := TX5) (N := 33) hx hb hts iX5_lends_X5 hown hK hP 0 rfl rfl 16 (by decide) (hts _ kX5_lends_2) (fun _ h9 => h9) rfl dX5_lends_57 ?_
          refine lv_iload hx hb dX5_lends_60 (lv_at hl 4 rfl) ?_
          refine va_iald hx hb hK hP 12 0 rfl rfl hp.1 dX5_lends_62 ?_
          have hp := hp.2
          refine lv_aload_n hx hb dX5_lends_63 rfl (lv_at hl 0 rfl) ?_
          refine va_get (D := (dC, dI)) (ci := 5) (v := .ref (q 12)) (C := RX5) (T := TX5) (N := 33) hx hb hts iX5_lends_X5 hown hK hP 0 rfl rfl 16 (by decide) (hts _ kX5_lends_2) (fun _ h9 => h9) rfl dX5_lends_64 ?_
          refine lv_iload_n hx hb dX5_lends_67 rfl (lv_at hl 1 rfl) ?_
          refine va_iald hx hb hK hP 12 0 rfl rfl hp.1 dX5_lends_68 ?_
          have hp := hp.2
          refine lv_icmp_ne (tgt := 97) hx hb dX5_lends_69 (by decide) (fun c4 => ?_) (fun c4 => ?_)
          · have hp := hp.1 c4
            rw [eV97] at hp
            exact hp _ _ _ hP hD hS (lv_sub hl [0, 1, 2, 3, 4] rfl)
          · have hp := hp.2 c4
            refine lv_aload_n hx hb dX5_lends_72 rfl (lv_at hl 0 rfl) ?_
            refine va_get (D := (dC, dI)) (ci := 5) (v := .ref (q 13)) (C := RX5) (T := TX5) (N := 33) hx hb hts iX5_lends_X5 hown hK hP 0 rfl rfl 17 (by decide) (hts _ kX5_lends_5) (fun _ h9 => h9) rfl dX5_lends_73 ?_
            refine lv_iload hx hb dX5_lends_76 (lv_at hl 4 rfl) ?_
            refine va_iald hx hb hK hP 13 0 rfl rfl hp.1 dX5_lends_78 ?_
            have hp := hp.2
            refine lv_iconst (v := 1) hx hb dX5_lends_79 (by decide) ?_
            refine lv_icmp_eq (tgt := 97) hx hb dX5_lends_80 (by decide) (fun c3 => ?_) (fun c3 => ?_)
            · have hp := hp.1 c3
              rw [eV97] at hp
              exact hp _ _ _ hP hD hS (lv_sub hl [0, 1, 2, 3, 4] rfl)
            · have hp := hp.2 c3
              refine lv_aload_n hx hb dX5_lends_83 rfl (lv_at hl 0 rfl) ?_
              refine va_get (D := (dC, dI)) (ci := 5) (v := .ref (q 14)) (C := RX5) (T := TX5) (N := 33) hx hb hts iX5_lends_X5 hown hK hP 0 rfl rfl 18 (by decide) (hts _ kX5_lends_3) (fun _ h9 => h9) rfl dX5_lends_84 ?_
              refine lv_iconst (v := 4) hx hb dX5_lends_87 (by decide) ?_
              refine lv_iload hx hb dX5_lends_88 (lv_at hl 4 rfl) ?_
              refine lv_imul hx hb dX5_lends_90 ?_
              refine lv_iload_n hx hb dX5_lends_91 rfl (lv_at hl 2 rfl) ?_
              refine lv_iadd hx hb dX5_lends_92 ?_
              refine va_iald hx hb hK hP 14 0 rfl rfl hp.1 dX5_lends_93 ?_
              have hp := hp.2
              refine lv_goto (tgt := 98) hx hb dX5_lends_94 (by decide) ?_
              rw [eV98] at hp
              exact hp _ _ _ hP hD hS (lv_sub hl [0, 1, 2, 3, 4] rfl))
  have hp := hp (by
    intro gv x2 x3 x4 hp
    rw [eV97]
    intro H locs ls hP hD hS hl
    refine lv_iconst (v := 0) hx hb dX5_lends_97 (by decide) ?_
    rw [eV98] at hp
    exact hp _ _ _ hP hD hS (lv_sub hl [0, 1, 2, 3, 4] rfl))
  have hp := hp (by
    intro gv x2 x3 x4 t0 hp
    rw [eV98]
    intro H locs ls hP hD hS hl
    refine lv_istore (lv' := [(5, .int t0), (0, .ref (q 0)), (1, .int a1), (2, .int x2), (3, .int x3), (4, .int x4)]) hx hb dX5_lends_98 hl (by decide) rfl (fun ls hl => ?_)
    refine lv_aload_n hx hb dX5_lends_100 rfl (lv_at hl 1 rfl) ?_
    refine va_get (D := (dC, dI)) (ci := 5) (v := .ref (q 13)) (C := RX5) (T := TX5) (N := 33) hx hb hts iX5_lends_X5 hown hK hP 0 rfl rfl 17 (by decide) (hts _ kX5_lends_5) (fun _ h9 => h9) rfl dX5_lends_101 ?_
    refine lv_iload hx hb dX5_lends_104 (lv_at hl 5 rfl) ?_
    refine va_iald hx hb hK hP 13 0 rfl rfl hp.1 dX5_lends_106 ?_
    have hp := hp.2
    refine lv_iconst (v := 2) hx hb dX5_lends_107 (by decide) ?_
    refine lv_icmp_ne (tgt := 125) hx hb dX5_lends_108 (by decide) (fun c10 => ?_) (fun c10 => ?_)
    · have hp := hp.1 c10
      rw [eV125] at hp
      exact hp _ _ _ hP hD hS (lv_sub hl [1, 2, 3, 4, 5, 0] rfl)
    · have hp := hp.2 c10
      refine lv_aload_n hx hb dX5_lends_111 rfl (lv_at hl 1 rfl) ?_
      refine lv_iload hx hb dX5_lends_112 (lv_at hl 5 rfl) ?_
      refine lv_iload_n hx hb dX5_lends_114 rfl (lv_at hl 2 rfl) ?_
      obtain ⟨r8, hr8, hp⟩ := hp
      refine ro_V (As := [.int x4, .int a1]) (rest := []) ⟨hx, hb, hml, hown, hts⟩ (c_X5_lendsTo l dC dI cI q gv x4 a1 r8 hr8) (cwV 2 hts gX5_lends_X5_lendsTo rfl rfl rfl (by decide +kernel) ⟨Nat.le_of_ble_eq_true rfl, Nat.le_of_ble_eq_true rfl⟩) hP hK hN rfl rfl rfl rfl hl.1 (Nat.le_of_ble_eq_true rfl) ⟨Nat.zero_le _, Nat.zero_le _⟩ dX5_lends_115 ?_
      refine lv_if_ne (tgt := 125) hx hb dX5_lends_118 (by decide) (fun c9 => ?_) (fun c9 => ?_)
      · have hp := hp.1 c9
        rw [eV125] at hp
        exact hp _ _ _ hP hD hS (lv_sub hl [1, 2, 3, 4, 5, 0] rfl)
      · have hp := hp.2 c9
        refine lv_iconst (v := 0) hx hb dX5_lends_121 (by decide) ?_
        refine lv_goto (tgt := 137) hx hb dX5_lends_122 (by decide) ?_
        rw [eV137] at hp
        exact hp _ _ _ hP hD hS (lv_sub hl [1, 2, 3, 4, 5] rfl))
  have hp := hp (by
    intro gv x2 x3 x4 x5 hp
    rw [eV125]
    intro H locs ls hP hD hS hl
    refine lv_iload hx hb dX5_lends_125 (lv_at hl 5 rfl) ?_
    refine lv_iload_n hx hb dX5_lends_127 rfl (lv_at hl 3 rfl) ?_
    refine lv_icmp_le (tgt := 135) hx hb dX5_lends_128 (by decide) (fun c11 => ?_) (fun c11 => ?_)
    · have hp := hp.1 c11
      refine lv_iload hx hb dX5_lends_135 (lv_at hl 5 rfl) ?_
      rw [eV137] at hp
      exact hp _ _ _ hP hD hS (lv_sub hl [0, 1, 2, 3, 4] rfl)
    · have hp := hp.2 c11
      refine lv_iload_n hx hb dX5_lends_131 rfl (lv_at hl 3 rfl) ?_
      refine lv_goto (tgt := 137) hx hb dX5_lends_132 (by decide) ?_
      rw [eV137] at hp
      exact hp _ _ _ hP hD hS (lv_sub hl [0, 1, 2, 3, 4] rfl))
  have hp := hp (by
    intro gv x2 x3 x4 t0 hp
    rw [eV137]
    intro H locs ls hP hD hS hl
    refine lv_istore (lv' := [(5, .int t0), (0, .ref (q 0)), (1, .int a1), (2, .int x2), (3, .int x3), (4, .int x4)]) hx hb dX5_lends_137 hl (by decide) rfl (fun ls hl => ?_)
    refine lv_iload hx hb dX5_lends_139 (lv_at hl 0 rfl) ?_
    refine lv_if_le (tgt := 240) hx hb dX5_lends_141 (by decide) (fun c20 => ?_) (fun c20 => ?_)
    · have hp := hp.1 c20
      refine lv_iinc (v := x4 + (1 : Int32)) (lv' := [(4, .int (x4 + (1 : Int32))), (5, .int t0), (0, .ref (q 0)), (1, .int a1), (2, .int x2), (3, .int x3)]) hx hb dX5_lends_240 hl (k := 5) rfl rfl (by decide) rfl (fun ls hl => ?_)
      refine lv_goto (tgt := 37) hx hb dX5_lends_243 (by decide) ?_
      rw [eV37] at hp
      exact hp _ _ _ hP hD hS (lv_sub hl [2, 3, 4, 5, 0] rfl)
    · have hp := hp.2 c20
      refine lv_aload_n hx hb dX5_lends_144 rfl (lv_at hl 1 rfl) ?_
      refine va_get (D := (dC, dI)) (ci := 5) (v := .ref (q 15)) (C := RX5) (T := TX5) (N := 33) hx hb hts iX5_lends_X5 hown hK hP 0 rfl rfl 20 (by decide) (hts _ kX5_lends_6) (fun _ h9 => h9) rfl dX5_lends_145 ?_
      refine lv_aload_n hx hb dX5_lends_148 rfl (lv_at hl 1 rfl) ?_
      refine va_get (D := (dC, dI)) (ci := 5) (v := .int (gv 0 24)) (C := RX5) (T := TX5) (N := 33) hx hb hts iX5_lends_X5 hown hK hP 0 rfl rfl 24 (by decide) (hts _ kX5_lends_7) (fun _ h9 => h9) rfl dX5_lends_149 ?_
      refine lv_iload_n hx hb dX5_lends_152 rfl (lv_at hl 2 rfl) ?_
      refine va_iast hx hb hK hP hD hS 15 0 rfl rfl hp.1 dX5_lends_153 (fun H locs hP hD hS => ?_)
      have hp := hp.2
      obtain ⟨g12, eg12⟩ : ∃ z : St, z = st_set gv 15 (gv 0 24).toNatClampNeg a1 := ⟨_, rfl⟩
      have hp := hp g12 eg12
      have hP : va_P (dC, dI) vwCl (wX5 q cI g12) H := by rw [eg12]; exact hP
      have hD : va_D A (wX5 q cI g12) := by rw [eg12]; exact hD
      refine lv_aload_n hx hb dX5_lends_154 rfl (lv_at hl 1 rfl) ?_
      refine va_get (D := (dC, dI)) (ci := 5) (v := .ref (q 16)) (C := RX5) (T := TX5) (N := 33) hx hb hts iX5_lends_X5 hown hK hP 0 rfl rfl 21 (by decide) (hts _ kX5_lends_8) (fun _ h9 => h9) rfl dX5_lends_155 ?_
      refine lv_aload_n hx hb dX5_lends_158 rfl (lv_at hl 1 rfl) ?_
      refine va_get (D := (dC, dI)) (ci := 5) (v := .int (g12 0 24)) (C := RX5) (T := TX5) (N := 33) hx hb hts iX5_lends_X5 hown hK hP 0 rfl rfl 24 (by decide) (hts _ kX5_lends_7) (fun _ h9 => h9) rfl dX5_lends_159 ?_
      refine lv_iload_n hx hb dX5_lends_162 rfl (lv_at hl 3 rfl) ?_
      refine va_iast hx hb hK hP hD hS 16 0 rfl rfl hp.1 dX5_lends_163 (fun H locs hP hD hS => ?_)
      have hp := hp.2
      obtain ⟨g13, eg13⟩ : ∃ z : St, z = st_set g12 16 (g12 0 24).toNatClampNeg x2 := ⟨_, rfl⟩
      have hp := hp g13 eg13
      have hP : va_P (dC, dI) vwCl (wX5 q cI g13) H := by rw [eg13]; exact hP
      have hD : va_D A (wX5 q cI g13) := by rw [eg13]; exact hD
      refine lv_aload_n hx hb dX5_lends_164 rfl (lv_at hl 1 rfl) ?_
      refine va_get (D := (dC, dI)) (ci := 5) (v := .ref (q 17)) (C := RX5) (T := TX5) (N := 33) hx hb hts iX5_lends_X5 hown hK hP 0 rfl rfl 22 (by decide) (hts _ kX5_lends_9) (fun _ h9 => h9) rfl dX5_lends_165 ?_
      refine lv_aload_n hx hb dX5_lends_168 rfl (lv_at hl 1 rfl) ?_
      refine va_get (D := (dC, dI)) (ci := 5) (v := .int (g13 0 24)) (C := RX5) (T := TX5) (N := 33) hx hb hts iX5_lends_X5 hown hK hP 0 rfl rfl 24 (by decide) (hts _ kX5_lends_7) (fun _ h9 => h9) rfl dX5_lends_169 ?_
      refine lv_iload hx hb dX5_lends_172 (lv_at hl 5 rfl) ?_
      refine va_iast hx hb hK hP hD hS 17 0 rfl rfl hp.1 dX5_lends_174 (fun H locs hP hD hS => ?_)
      have hp := hp.2
      obtain ⟨g14, eg14⟩ : ∃ z : St, z = st_set g13 17 (g13 0 24).toNatClampNeg x4 := ⟨_, rfl⟩
      have hp := hp g14 eg14
      have hP : va_P (dC, dI) vwCl (wX5 q cI g14) H := by rw [eg14]; exact hP
      have hD : va_D A (wX5 q cI g14) := by rw [eg14]; exact hD
      refine lv_aload_n hx hb dX5_lends_175 rfl (lv_at hl 1 rfl) ?_
      refine va_get (D := (dC, dI)) (ci := 5) (v := .ref (q 18)) (C := RX5) (T := TX5) (N := 33) hx hb hts iX5_lends_X5 hown hK hP 0 rfl rfl 23 (by decide) (hts _ kX5_lends_10) (fun _ h9 => h9) rfl dX5_lends_176 ?_
      refine lv_aload_n hx hb dX5_lends_179 rfl (lv_at hl 1 rfl) ?_
      refine va_get (D := (dC, dI)) (ci := 5) (v := .int (g14 0 24)) (C := RX5) (T := TX5) (N := 33) hx hb hts iX5_lends_X5 hown hK hP 0 rfl rfl 24 (by decide) (hts _ kX5_lends_7) (fun _ h9 => h9) rfl dX5_lends_180 ?_
      refine lv_iload hx hb dX5_lends_183 (lv_at hl 0 rfl) ?_
      refine va_iast hx hb hK hP hD hS 18 0 rfl rfl hp.1 dX5_lends_185 (fun H locs hP hD hS => ?_)
      have hp := hp.2
      obtain ⟨g15, eg15⟩ : ∃ z : St, z = st_set g14 18 (g14 0 24).toNatClampNeg t0 := ⟨_, rfl⟩
      have hp := hp g15 eg15
      have hP : va_P (dC, dI) vwCl (wX5 q cI g15) H := by rw [eg15]; exact hP
      have hD : va_D A (wX5 q cI g15) := by rw [eg15]; exact hD
      refine lv_aload_n hx hb dX5_lends_186 rfl (lv_at hl 1 rfl) ?_
      refine lv_dup hx hb dX5_lends_187 rfl ?_
      refine va_get (D := (dC, dI)) (ci := 5) (v := .int (g15 0 24)) (C := RX5) (T := TX5) (N := 33) hx hb hts iX5_lends_X5 hown hK hP 0 rfl rfl 24 (by decide) (hts _ kX5_lends_7) (fun _ h9 => h9) rfl dX5_lends_188 ?_
      refine lv_iconst (v := 1) hx hb dX5_lends_191 (by decide) ?_
      refine lv_iadd hx hb dX5_lends_192 ?_
      refine va_put (D := (dC, dI)) (ci := 5) (v := .int ((g15 0 24) + (1 : Int32))) (ty := .int) (C := RX5) (T := TX5) (N := 33) hx hb hts iX5_lends_X5 tyX5 tyX5_ok nmX5 hown hK hP hD hS 0 rfl rfl 24 (by decide) (hts _ kX5_lends_7) (fun _ h9 => h9) rfl (by decide +kernel) rfl rfl (Nat.le_of_ble_eq_true rfl) dX5_lends_193 (fun H locs hP hD hS => ?_)
      obtain ⟨g16, eg16⟩ : ∃ z : St, z = st_set g15 0 24 ((g15 0 24) + (1 : Int32)) := ⟨_, rfl⟩
      have hp := hp g16 eg16
      have hP : va_P (dC, dI) vwCl (wX5 q cI g16) H := by rw [eg16]; exact hP
      have hD : va_D A (wX5 q cI g16) := by rw [eg16]; exact hD
      refine lv_aload_n hx hb dX5_lends_196 rfl (lv_at hl 1 rfl) ?_
      refine va_get (D := (dC, dI)) (ci := 5) (v := .ref (q 14)) (C := RX5) (T := TX5) (N := 33) hx hb hts iX5_lends_X5 hown hK hP 0 rfl rfl 18 (by decide) (hts _ kX5_lends_3) (fun _ h9 => h9) rfl dX5_lends_197 ?_
      refine lv_iconst (v := 4) hx hb dX5_lends_200 (by decide) ?_
      refine lv_iload hx hb dX5_lends_201 (lv_at hl 5 rfl) ?_
      refine lv_imul hx hb dX5_lends_203 ?_
      refine lv_iload_n hx hb dX5_lends_204 rfl (lv_at hl 3 rfl) ?_
      refine lv_iadd hx hb dX5_lends_205 ?_
      refine lv_dup2_11 hx hb dX5_lends_206 rfl rfl ?_
      refine va_iald hx hb hK hP 14 0 rfl rfl hp.1 dX5_lends_207 ?_
      have hp := hp.2
      refine lv_iload hx hb dX5_lends_208 (lv_at hl 0 rfl) ?_
      refine lv_isub hx hb dX5_lends_210 ?_
      refine va_iast hx hb hK hP hD hS 14 0 rfl rfl hp.1 dX5_lends_211 (fun H locs hP hD hS => ?_)
      have hp := hp.2
      obtain ⟨g17, eg17⟩ : ∃ z : St, z = st_set g16 14 (((4 : Int32) * x4) + x2).toNatClampNeg ((g16 14 (((4 : Int32) * x4) + x2).toNatClampNeg) - t0) := ⟨_, rfl⟩
      have hp := hp g17 eg17
      have hP : va_P (dC, dI) vwCl (wX5 q cI g17) H := by rw [eg17]; exact hP
      have hD : va_D A (wX5 q cI g17) := by rw [eg17]; exact hD
      refine lv_aload_n hx hb dX5_lends_212 rfl (lv_at hl 1 rfl) ?_
      refine va_get (D := (dC, dI)) (ci := 5) (v := .ref (q 14)) (C := RX5) (T := TX5) (N := 33) hx hb hts iX5_lends_X5 hown hK hP 0 rfl rfl 18 (by decide) (hts _ kX5_lends_3) (fun _ h9 => h9) rfl dX5_lends_213 ?_
      refine lv_iconst (v := 4) hx hb dX5_lends_216 (by decide) ?_
      refine lv_iload_n hx hb dX5_lends_217 rfl (lv_at hl 2 rfl) ?_
      refine lv_imul hx hb dX5_lends_218 ?_
      refine lv_iload_n hx hb dX5_lends_219 rfl (lv_at hl 3 rfl) ?_
      refine lv_iadd hx hb dX5_lends_220 ?_
      refine lv_dup2_11 hx hb dX5_lends_221 rfl rfl ?_
      refine va_iald hx hb hK hP 14 0 rfl rfl hp.1 dX5_lends_222 ?_
      have hp := hp.2
      refine lv_iload hx hb dX5_lends_223 (lv_at hl 0 rfl) ?_
      refine lv_iadd hx hb dX5_lends_225 ?_
      refine va_iast hx hb hK hP hD hS 14 0 rfl rfl hp.1 dX5_lends_226 (fun H locs hP hD hS => ?_)
      have hp := hp.2
      obtain ⟨g18, eg18⟩ : ∃ z : St, z = st_set g17 14 (((4 : Int32) * a1) + x2).toNatClampNeg ((g17 14 (((4 : Int32) * a1) + x2).toNatClampNeg) + t0) := ⟨_, rfl⟩
      have hp := hp g18 eg18
      have hP : va_P (dC, dI) vwCl (wX5 q cI g18) H := by rw [eg18]; exact hP
      have hD : va_D A (wX5 q cI g18) := by rw [eg18]; exact hD
      refine lv_aload_n hx hb dX5_lends_227 rfl (lv_at hl 1 rfl) ?_
      refine va_get (D := (dC, dI)) (ci := 5) (v := .ref (q 13)) (C := RX5) (T := TX5) (N := 33) hx hb hts iX5_lends_X5 hown hK hP 0 rfl rfl 17 (by decide) (hts _ kX5_lends_5) (fun _ h9 => h9) rfl dX5_lends_228 ?_
      refine lv_iload hx hb dX5_lends_231 (lv_at hl 5 rfl) ?_
      refine lv_iconst (v := 2) hx hb dX5_lends_233 (by decide) ?_
      refine va_iast hx hb hK hP hD hS 13 0 rfl rfl hp.1 dX5_lends_234 (fun H locs hP hD hS => ?_)
      have hp := hp.2
      obtain ⟨g19, eg19⟩ : ∃ z : St, z = st_set g18 13 x4.toNatClampNeg (2 : Int32) := ⟨_, rfl⟩
      have hp := hp g19 eg19
      have hP : va_P (dC, dI) vwCl (wX5 q cI g19) H := by rw [eg19]; exact hP
      have hD : va_D A (wX5 q cI g19) := by rw [eg19]; exact hD
      refine lv_iload_n hx hb dX5_lends_235 rfl (lv_at hl 4 rfl) ?_
      refine lv_iload hx hb dX5_lends_236 (lv_at hl 0 rfl) ?_
      refine lv_isub hx hb dX5_lends_238 ?_
      refine lv_istore_n (lv' := [(3, .int (x3 - t0)), (5, .int t0), (0, .ref (q 0)), (1, .int a1), (2, .int x2), (4, .int x4)]) hx hb dX5_lends_239 rfl hl (by decide) rfl (fun ls hl => ?_)
      refine lv_iinc (v := x4 + (1 : Int32)) (lv' := [(4, .int (x4 + (1 : Int32))), (3, .int (x3 - t0)), (5, .int t0), (0, .ref (q 0)), (1, .int a1), (2, .int x2)]) hx hb dX5_lends_240 hl (k := 5) rfl rfl (by decide) rfl (fun ls hl => ?_)
      refine lv_goto (tgt := 37) hx hb dX5_lends_243 (by decide) ?_
      rw [eV37] at hp
      exact hp _ _ _ hP hD hS (lv_sub hl [3, 4, 5, 1, 0] rfl))
  refine lv_iconst (v := 0) hx hb dX5_lends_0 (by decide) ?_
  refine lv_istore_n (lv' := [(2, .int (0 : Int32)), (0, .ref (q 0)), (1, .int a1)]) hx hb dX5_lends_1 rfl hl (by decide) rfl (fun ls hl => ?_)
  rw [eV2] at hp
  exact hp _ _ _ hP hD hS (lv_sub hl [1, 2, 0] rfl)
theorem kX5_serve_0 : (.fieldLink RX5 46 "MeeplehouseModel" "where" "[I" : Cond) ∈ wsX5_serve := by decide +kernel
theorem iX5_serve_X5 : ∀ w ∈ wsX50, w ∈ wsX5_serve := by decide +kernel
theorem kX5_serve_2 : (.fieldLink RX5 28 "MeeplehouseModel" "copy" "[I" : Cond) ∈ wsX5_serve := by decide +kernel
def P_X5_serve (g : St) (a1 : Int32) (a2 : Int32) (r : Int32) (g' : St) : Prop := ∀ V20 : St → Prop, ∀ V21 : St → Int32 → Prop, ∀ V45 : St → Int32 → Prop, (∀ gv : St, (V21 gv (0 : Int32)) → V20 gv) → (∀ gv : St, ∀ t0 : Int32, ((¬ t0 = 0 → (∃ r5 : Int32, P_X5_isOffered gv a1 a2 r5 ∧ ((¬ r5 = 0 → (V45 gv (0 : Int32))) ∧ (r5 = 0 → (V45 gv (2 : Int32)))))) ∧ (t0 = 0 → (V45 gv (1 : Int32)))) → V21 gv t0) → (∀ gv : St, ∀ t0 : Int32, (∃ (r8 : Int32) (g9 : St), P_X5_isFine gv t0 r8 g9 ∧ ((¬ r8 = 0 → (∃ r10 : Int32, P_X5_bestCopy g9 a2 r10 ∧ (∃ g12 : St, P_X5_lends g9 r10 g12 ∧ (vp_in r10 16 ∧ (∀ g13 : St, g13 = st_set g12 13 r10.toNatClampNeg (1 : Int32) → (vp_in a1 30 ∧ (∀ g14 : St, g14 = st_set g13 7 a1.toNatClampNeg r10 → (r = r10 ∧ g' = g14)))))))) ∧ (r8 = 0 → (r = (0 : Int32) ∧ g' = g9)))) → V45 gv t0) → (∃ r1 : Int32, P_X5_isGroup g a1 r1 ∧ ((r1 = 0 → (V20 g)) ∧ (¬ r1 = 0 → (∃ r2 : Int32, P_X5_isTitle g a2 r2 ∧ ((r2 = 0 → (V20 g)) ∧ (¬ r2 = 0 → (V21 g (1 : Int32))))))))
set_option maxRecDepth 100000 in
set_option maxHeartbeats 4000000 in
theorem c_X5_serve (l : Launch) (dC : Nat → ClassId) (dI : Nat → Nat → Nat) (cI : ClassId) (q : Nat → Nat) (g : St) (a1 : Int32) (a2 : Int32) (r : Int32) (g' : St) (hp : P_X5_serve g a1 a2 r g') (sz : Nat) : Met l yX5_serve wsX5_serve { frames := 4, cells := 0, slots := 0, locals := 95 } (va_Pc [.ref (q 0), .int a1, .int a2] (wpS (dC, dI) vwCl [(cI, .int)] (wX5 q cI g) sz)) (va_Qi (fun (r' : Int32) (_ : Unit) => r' = r) (fun _ t => wqB (dC, dI) vwCl (wX5 q cI g') (va_A (wX5 q cI g) sz) t) (va_A (wX5 q cI g) sz)) 0 0 (va_A (wX5 q cI g) sz) := by
  refine wr_met (fun A => (va_Qi (fun (r' : Int32) (_ : Unit) => r' = r) (fun _ t => wqB (dC, dI) vwCl (wX5 q cI g') A t) A)) (cc := cX5_serve) (maxL := 5) (ret := (some .int)) (by decide) rfl (Nat.le_of_ble_eq_true rfl) ?_
  intro p e s m below meth c A hx hb hml hr hlk hts hown hnm hP hK hN hD hA ls hl
  have hS : va_S A s.heap s.heap [] := va_S.rf
  have hl : lv_has ls 5 [(0, .ref (q 0)), (1, .int a1), (2, .int a2)] := hl
  obtain ⟨V20, eV20⟩ : ∃ V : St → Prop, V = (fun gv => ∀ (H : Heap) (locs : List Loc) (ls : Array Slot), va_P (dC, dI) vwCl (wX5 q cI gv) H → va_D A (wX5 q cI gv) → va_S A s.heap H locs → lv_has ls 5 [(0, .ref (q 0)), (1, .int a1), (2, .int a2)] → W p l e { frames := 4, cells := 0, slots := 0, locals := 95 } s m ([.ref (q 0), .int a1, .int a2] : List Value).toArray below meth c H locs 0 0 (MQ below (va_Qi (fun (r' : Int32) (_ : Unit) => r' = r) (fun _ t => wqB (dC, dI) vwCl (wX5 q cI g') A t) A) ([.ref (q 0), .int a1, .int a2] : List Value).toArray s 0 0 A) (F0 m 20 ls [])) := ⟨_, rfl⟩
  obtain ⟨V21, eV21⟩ : ∃ V : St → Int32 → Prop, V = (fun gv t0 => ∀ (H : Heap) (locs : List Loc) (ls : Array Slot), va_P (dC, dI) vwCl (wX5 q cI gv) H → va_D A (wX5 q cI gv) → va_S A s.heap H locs → lv_has ls 5 [(0, .ref (q 0)), (1, .int a1), (2, .int a2)] → W p l e { frames := 4, cells := 0, slots := 0, locals := 95 } s m ([.ref (q 0), .int a1, .int a2] : List Value).toArray below meth c H locs 0 0 (MQ below (va_Qi (fun (r' : Int32) (_ : Unit) => r' = r) (fun _ t => wqB (dC, dI) vwCl (wX5 q cI g') A t) A) ([.ref (q 0), .int a1, .int a2] : List Value).toArray s 0 0 A) (F0 m 21 ls [.int t0])) := ⟨_, rfl⟩
  obtain ⟨V45, eV45⟩ : ∃ V : St → Int32 → Prop, V = (fun gv t0 => ∀ (H : Heap) (locs : List Loc) (ls : Array Slot), va_P (dC, dI) vwCl (wX5 q cI gv) H → va_D A (wX5 q cI gv) → va_S A s.heap H locs → lv_has ls 5 [(0, .ref (q 0)), (1, .int a1), (2, .int a2)] → W p l e { frames := 4, cells := 0, slots := 0, locals := 95 } s m ([.ref (q 0), .int a1, .int a2] : List Value).toArray below meth c H locs 0 0 (MQ below (va_Qi (fun (r' : Int32) (_ : Unit) => r' = r) (fun _ t => wqB (dC, dI) vwCl (wX5 q cI g') A t) A) ([.ref (q 0), .int a1, .int a2] : List Value).toArray s 0 0 A) (F0 m 45 ls [.int t0, .ref (q 0)])) := ⟨_, rfl⟩
  have hp := hp V20 V21 V45
  have hp := hp (by
    intro gv hp
    rw [eV20]
    intro H locs ls hP hD hS hl
    refine lv_iconst (v := 0) hx hb dX5_serve_20 (by decide) ?_
    rw [eV21] at hp
    exact hp _ _ _ hP hD hS (lv_sub hl [0, 1, 2] rfl))
  have hp := hp (by
    intro gv t0 hp
    rw [eV21]
    intro H locs ls hP hD hS hl
    refine lv_istore_n (lv' := [(3, .int t0), (0, .ref (q 0)), (1, .int a1), (2, .int a2)]) hx hb dX5_serve_21 rfl hl (by decide) rfl (fun ls hl => ?_)
    refine lv_aload_n hx hb dX5_serve_22 rfl (lv_at hl 1 rfl) ?_
    refine lv_iload_n hx hb dX5_serve_23 rfl (lv_at hl 0 rfl) ?_
    refine lv_if_ne (tgt := 31) hx hb dX5_serve_24 (by decide) (fun c7 => ?_) (fun c7 => ?_)
    · have hp := hp.1 c7
      refine lv_aload_n hx hb dX5_serve_31 rfl (lv_at hl 1 rfl) ?_
      refine lv_iload_n hx hb dX5_serve_32 rfl (lv_at hl 2 rfl) ?_
      refine lv_iload_n hx hb dX5_serve_33 rfl (lv_at hl 3 rfl) ?_
      obtain ⟨r5, hr5, hp⟩ := hp
      refine ro_V (As := [.int a1, .int a2]) (rest := [.ref (q 0)]) ⟨hx, hb, hml, hown, hts⟩ (c_X5_isOffered l dC dI cI q gv a1 a2 r5 hr5) (cwV 2 hts gX5_serve_X5_isOffered rfl rfl rfl (by decide +kernel) ⟨Nat.le_of_ble_eq_true rfl, Nat.le_of_ble_eq_true rfl⟩) hP hK hN rfl rfl rfl rfl hl.1 (Nat.le_of_ble_eq_true rfl) ⟨Nat.zero_le _, Nat.zero_le _⟩ dX5_serve_34 ?_
      refine lv_if_ne (tgt := 44) hx hb dX5_serve_37 (by decide) (fun c6 => ?_) (fun c6 => ?_)
      · have hp := hp.1 c6
        refine lv_iconst (v := 0) hx hb dX5_serve_44 (by decide) ?_
        rw [eV45] at hp
        exact hp _ _ _ hP hD hS (lv_sub hl [1, 2, 3] rfl)
      · have hp := hp.2 c6
        refine lv_iconst (v := 2) hx hb dX5_serve_40 (by decide) ?_
        refine lv_goto (tgt := 45) hx hb dX5_serve_41 (by decide) ?_
        rw [eV45] at hp
        exact hp _ _ _ hP hD hS (lv_sub hl [1, 2, 3] rfl)
    · have hp := hp.2 c7
      refine lv_iconst (v := 1) hx hb dX5_serve_27 (by decide) ?_
      refine lv_goto (tgt := 45) hx hb dX5_serve_28 (by decide) ?_
      rw [eV45] at hp
      exact hp _ _ _ hP hD hS (lv_sub hl [1, 2, 3] rfl))
  have hp := hp (by
    intro gv t0 hp
    rw [eV45]
    intro H locs ls hP hD hS hl
    obtain ⟨r8, g9, hg9, hp⟩ := hp
    refine wr_Vi (As := [.int t0]) (rest := []) (w1 := []) (w2 := []) (ws1 := wX5 q cI g9) ⟨hx, hb, hml, hown, hts⟩ (c_X5_isFine l dC dI cI q gv t0 r8 g9 hg9 _) (cwV 1 hts gX5_serve_X5_isFine rfl rfl rfl (by decide +kernel) ⟨Nat.le_of_ble_eq_true rfl, Nat.le_of_ble_eq_true rfl⟩) hP hD hS hA hK hN (List.append_nil _).symm (List.append_nil _) rfl rfl rfl rfl hl.1 (Nat.le_of_ble_eq_true rfl) ⟨Nat.zero_le _, Nat.zero_le _⟩ dX5_serve_45 (fun H locs hP hD hS => ?_)
    refine lv_if_ne (tgt := 53) hx hb dX5_serve_48 (by decide) (fun c15 => ?_) (fun c15 => ?_)
    · have hp := hp.1 c15
      refine lv_aload_n hx hb dX5_serve_53 rfl (lv_at hl 0 rfl) ?_
      refine lv_iload_n hx hb dX5_serve_54 rfl (lv_at hl 2 rfl) ?_
      obtain ⟨r10, hr10, hp⟩ := hp
      refine ro_V (As := [.int a2]) (rest := []) ⟨hx, hb, hml, hown, hts⟩ (c_X5_bestCopy l dC dI cI q g9 a2 r10 hr10) (cwV 1 hts gX5_serve_X5_bestCopy rfl rfl rfl (by decide +kernel) ⟨Nat.le_of_ble_eq_true rfl, Nat.le_of_ble_eq_true rfl⟩) hP hK hN rfl rfl rfl rfl hl.1 (Nat.le_of_ble_eq_true rfl) ⟨Nat.zero_le _, Nat.zero_le _⟩ dX5_serve_55 ?_
      refine lv_istore (lv' := [(4, .int r10), (0, .ref (q 0)), (1, .int a1), (2, .int a2)]) hx hb dX5_serve_58 hl (by decide) rfl (fun ls hl => ?_)
      refine lv_aload_n hx hb dX5_serve_60 rfl (lv_at hl 1 rfl) ?_
      refine lv_iload hx hb dX5_serve_61 (lv_at hl 0 rfl) ?_
      obtain ⟨g12, hg12, hp⟩ := hp
      refine wr_Vv (As := [.int r10]) (rest := []) (w1 := []) (w2 := []) (ws1 := wX5 q cI g12) ⟨hx, hb, hml, hown, hts⟩ (c_X5_lends l dC dI cI q g9 r10 g12 hg12 _) (cwV 1 hts gX5_serve_X5_lends rfl rfl rfl (by decide +kernel) ⟨Nat.le_of_ble_eq_true rfl, Nat.le_of_ble_eq_true rfl⟩) hP hD hS hA hK hN (List.append_nil _).symm (List.append_nil _) rfl rfl rfl rfl hl.1 (Nat.le_of_ble_eq_true rfl) ⟨Nat.zero_le _, Nat.zero_le _⟩ dX5_serve_63 (fun H locs hP hD hS => ?_)
      refine lv_aload_n hx hb dX5_serve_66 rfl (lv_at hl 1 rfl) ?_
      refine va_get (D := (dC, dI)) (ci := 5) (v := .ref (q 13)) (C := RX5) (T := TX5) (N := 33) hx hb hts iX5_serve_X5 hown hK hP 0 rfl rfl 17 (by decide) (hts _ kX5_serve_0) (fun _ h9 => h9) rfl dX5_serve_67 ?_
      refine lv_iload hx hb dX5_serve_70 (lv_at hl 0 rfl) ?_
      refine lv_iconst (v := 1) hx hb dX5_serve_72 (by decide) ?_
      refine va_iast hx hb hK hP hD hS 13 0 rfl rfl hp.1 dX5_serve_73 (fun H locs hP hD hS => ?_)
      have hp := hp.2
      obtain ⟨g13, eg13⟩ : ∃ z : St, z = st_set g12 13 r10.toNatClampNeg (1 : Int32) := ⟨_, rfl⟩
      have hp := hp g13 eg13
      have hP : va_P (dC, dI) vwCl (wX5 q cI g13) H := by rw [eg13]; exact hP
      have hD : va_D A (wX5 q cI g13) := by rw [eg13]; exact hD
      refine lv_aload_n hx hb dX5_serve_74 rfl (lv_at hl 1 rfl) ?_
      refine va_get (D := (dC, dI)) (ci := 5) (v := .ref (q 7)) (C := RX5) (T := TX5) (N := 33) hx hb hts iX5_serve_X5 hown hK hP 0 rfl rfl 9 (by decide) (hts _ kX5_serve_2) (fun _ h9 => h9) rfl dX5_serve_75 ?_
      refine lv_iload_n hx hb dX5_serve_78 rfl (lv_at hl 2 rfl) ?_
      refine lv_iload hx hb dX5_serve_79 (lv_at hl 0 rfl) ?_
      refine va_iast hx hb hK hP hD hS 7 0 rfl rfl hp.1 dX5_serve_81 (fun H locs hP hD hS => ?_)
      have hp := hp.2
      obtain ⟨g14, eg14⟩ : ∃ z : St, z = st_set g13 7 a1.toNatClampNeg r10 := ⟨_, rfl⟩
      have hp := hp g14 eg14
      have hP : va_P (dC, dI) vwCl (wX5 q cI g14) H := by rw [eg14]; exact hP
      have hD : va_D A (wX5 q cI g14) := by rw [eg14]; exact hD
      refine lv_iload hx hb dX5_serve_82 (lv_at hl 0 rfl) ?_
      exact W.iret hx hb hr (fun t ht _ => ⟨⟨_, (), rfl, hp.1.symm, by rw [ht, hp.2]; exact hP, by rw [hp.2]; exact hD⟩, hS.F ht⟩) hS.2.2 dX5_serve_84
    · have hp := hp.2 c15
      refine lv_iconst (v := 0) hx hb dX5_serve_51 (by decide) ?_
      exact W.iret hx hb hr (fun t ht _ => ⟨⟨_, (), rfl, hp.1.symm, by rw [ht, hp.2]; exact hP, by rw [hp.2]; exact hD⟩, hS.F ht⟩) hS.2.2 dX5_serve_52)
  refine lv_aload_n hx hb dX5_serve_0 rfl (lv_at hl 0 rfl) ?_
  refine lv_iload_n hx hb dX5_serve_1 rfl (lv_at hl 1 rfl) ?_
  obtain ⟨r1, hr1, hp⟩ := hp
  refine ro_V (As := [.int a1]) (rest := []) ⟨hx, hb, hml, hown, hts⟩ (c_X5_isGroup l dC dI cI q g a1 r1 hr1) (cwV 1 hts gX5_serve_X5_isGroup rfl rfl rfl (by decide +kernel) ⟨Nat.le_of_ble_eq_true rfl, Nat.le_of_ble_eq_true rfl⟩) hP hK hN rfl rfl rfl rfl hl.1 (Nat.le_of_ble_eq_true rfl) ⟨Nat.zero_le _, Nat.zero_le _⟩ dX5_serve_2 ?_
  refine lv_if_eq (tgt := 20) hx hb dX5_serve_5 (by decide) (fun c4 => ?_) (fun c4 => ?_)
  · have hp := hp.1 c4
    rw [eV20] at hp
    exact hp _ _ _ hP hD hS (lv_sub hl [0, 1, 2] rfl)
  · have hp := hp.2 c4
    refine lv_aload_n hx hb dX5_serve_8 rfl (lv_at hl 0 rfl) ?_
    refine lv_iload_n hx hb dX5_serve_9 rfl (lv_at hl 2 rfl) ?_
    obtain ⟨r2, hr2, hp⟩ := hp
    refine ro_V (As := [.int a2]) (rest := []) ⟨hx, hb, hml, hown, hts⟩ (c_X5_isTitle l dC dI cI q g a2 r2 hr2) (cwV 1 hts gX5_serve_X5_isTitle rfl rfl rfl (by decide +kernel) ⟨Nat.le_of_ble_eq_true rfl, Nat.le_of_ble_eq_true rfl⟩) hP hK hN rfl rfl rfl rfl hl.1 (Nat.le_of_ble_eq_true rfl) ⟨Nat.zero_le _, Nat.zero_le _⟩ dX5_serve_10 ?_
    refine lv_if_eq (tgt := 20) hx hb dX5_serve_13 (by decide) (fun c3 => ?_) (fun c3 => ?_)
    · have hp := hp.1 c3
      rw [eV20] at hp
      exact hp _ _ _ hP hD hS (lv_sub hl [0, 1, 2] rfl)
    · have hp := hp.2 c3
      refine lv_iconst (v := 1) hx hb dX5_serve_16 (by decide) ?_
      refine lv_goto (tgt := 21) hx hb dX5_serve_17 (by decide) ?_
      rw [eV21] at hp
      exact hp _ _ _ hP hD hS (lv_sub hl [0, 1, 2] rfl)
theorem kX5_closes_0 : (.fieldLink RX5 163 "MeeplehouseModel" "loans" "I" : Cond) ∈ wsX5_closes := by decide +kernel
theorem iX5_closes_X5 : ∀ w ∈ wsX50, w ∈ wsX5_closes := by decide +kernel
theorem kX5_closes_2 : (.fieldLink RX5 52 "MeeplehouseModel" "borrower" "[I" : Cond) ∈ wsX5_closes := by decide +kernel
theorem kX5_closes_3 : (.fieldLink RX5 49 "MeeplehouseModel" "pieces" "[I" : Cond) ∈ wsX5_closes := by decide +kernel
theorem kX5_closes_4 : (.fieldLink RX5 55 "MeeplehouseModel" "kindLent" "[I" : Cond) ∈ wsX5_closes := by decide +kernel
theorem kX5_closes_5 : (.fieldLink RX5 61 "MeeplehouseModel" "lent" "[I" : Cond) ∈ wsX5_closes := by decide +kernel
theorem kX5_closes_6 : (.fieldLink RX5 58 "MeeplehouseModel" "lender" "[I" : Cond) ∈ wsX5_closes := by decide +kernel
theorem kX5_closes_7 : (.fieldLink RX5 46 "MeeplehouseModel" "where" "[I" : Cond) ∈ wsX5_closes := by decide +kernel
def P_X5_closes (g : St) (a1 : Int32) (r : Int32) (g' : St) : Prop := ∀ V9 : St → Int32 → Int32 → Prop, ∀ V62 : St → Int32 → Int32 → Int32 → Prop, ∀ V137 : St → Int32 → Int32 → Int32 → Prop, (∀ gv : St, ∀ x2 x3 : Int32, ((x3 < 0 → (r = x2 ∧ g' = gv)) ∧ (¬ x3 < 0 → (vp_in x3 64 ∧ ((¬ (gv 15 x3.toNatClampNeg) = a1 → (V9 gv x2 (x3 + (-1 : Int32)))) ∧ ((gv 15 x3.toNatClampNeg) = a1 → (vp_in x3 64 ∧ (vp_in (((4 : Int32) * a1) + (gv 16 x3.toNatClampNeg)) 64 ∧ (vp_in x3 64 ∧ (((gv 18 x3.toNatClampNeg) ≤ (gv 14 (((4 : Int32) * a1) + (gv 16 x3.toNatClampNeg)).toNatClampNeg) → (vp_in x3 64 ∧ (V62 gv x2 x3 (gv 18 x3.toNatClampNeg)))) ∧ (¬ (gv 18 x3.toNatClampNeg) ≤ (gv 14 (((4 : Int32) * a1) + (gv 16 x3.toNatClampNeg)).toNatClampNeg) → (V62 gv x2 x3 (gv 14 (((4 : Int32) * a1) + (gv 16 x3.toNatClampNeg)).toNatClampNeg)))))))))))) → V9 gv x2 x3) → (∀ gv : St, ∀ x2 x3 t0 : Int32, (vp_in x3 64 ∧ (vp_in (((4 : Int32) * a1) + (gv 16 x3.toNatClampNeg)) 64 ∧ (vp_in (((4 : Int32) * a1) + (gv 16 x3.toNatClampNeg)) 64 ∧ (∀ g4 : St, g4 = st_set gv 14 (((4 : Int32) * a1) + (gv 16 x3.toNatClampNeg)).toNatClampNeg ((gv 14 (((4 : Int32) * a1) + (gv 16 x3.toNatClampNeg)).toNatClampNeg) - t0) → (vp_in x3 64 ∧ (vp_in x3 64 ∧ (vp_in (((4 : Int32) * (g4 17 x3.toNatClampNeg)) + (g4 16 x3.toNatClampNeg)) 64 ∧ (vp_in (((4 : Int32) * (g4 17 x3.toNatClampNeg)) + (g4 16 x3.toNatClampNeg)) 64 ∧ (∀ g5 : St, g5 = st_set g4 14 (((4 : Int32) * (g4 17 x3.toNatClampNeg)) + (g4 16 x3.toNatClampNeg)).toNatClampNeg ((g4 14 (((4 : Int32) * (g4 17 x3.toNatClampNeg)) + (g4 16 x3.toNatClampNeg)).toNatClampNeg) + t0) → (vp_in x3 64 ∧ (vp_in (g5 17 x3.toNatClampNeg) 16 ∧ (∀ g6 : St, g6 = st_set g5 13 (g5 17 x3.toNatClampNeg).toNatClampNeg (0 : Int32) → (∀ g7 : St, g7 = st_set g6 0 24 ((g6 0 24) - (1 : Int32)) → (V137 g7 (x2 + (1 : Int32)) x3 x3)))))))))))))) → V62 gv x2 x3 t0) → (∀ gv : St, ∀ x2 x3 x6 : Int32, (((gv 0 24) ≤ x6 → (V9 gv x2 (x3 + (-1 : Int32)))) ∧ (¬ (gv 0 24) ≤ x6 → (vp_in (x6 + (1 : Int32)) 64 ∧ (vp_in x6 64 ∧ (∀ g8 : St, g8 = st_set gv 15 x6.toNatClampNeg (gv 15 (x6 + (1 : Int32)).toNatClampNeg) → (vp_in (x6 + (1 : Int32)) 64 ∧ (vp_in x6 64 ∧ (∀ g9 : St, g9 = st_set g8 16 x6.toNatClampNeg (g8 16 (x6 + (1 : Int32)).toNatClampNeg) → (vp_in (x6 + (1 : Int32)) 64 ∧ (vp_in x6 64 ∧ (∀ g10 : St, g10 = st_set g9 17 x6.toNatClampNeg (g9 17 (x6 + (1 : Int32)).toNatClampNeg) → (vp_in (x6 + (1 : Int32)) 64 ∧ (vp_in x6 64 ∧ (∀ g11 : St, g11 = st_set g10 18 x6.toNatClampNeg (g10 18 (x6 + (1 : Int32)).toNatClampNeg) → (V137 g11 x2 x3 (x6 + (1 : Int32))))))))))))))))) → V137 gv x2 x3 x6) → (V9 g (0 : Int32) ((g 0 24) - (1 : Int32)))
set_option maxRecDepth 100000 in
set_option maxHeartbeats 4000000 in
theorem c_X5_closes (l : Launch) (dC : Nat → ClassId) (dI : Nat → Nat → Nat) (cI : ClassId) (q : Nat → Nat) (g : St) (a1 : Int32) (r : Int32) (g' : St) (hp : P_X5_closes g a1 r g') (sz : Nat) : Met l yX5_closes wsX5_closes { frames := 0, cells := 0, slots := 0, locals := 0 } (va_Pc [.ref (q 0), .int a1] (wpS (dC, dI) vwCl [(cI, .int)] (wX5 q cI g) sz)) (va_Qi (fun (r' : Int32) (_ : Unit) => r' = r) (fun _ t => wqB (dC, dI) vwCl (wX5 q cI g') (va_A (wX5 q cI g) sz) t) (va_A (wX5 q cI g) sz)) 0 0 (va_A (wX5 q cI g) sz) := by
  refine wr_met (fun A => (va_Qi (fun (r' : Int32) (_ : Unit) => r' = r) (fun _ t => wqB (dC, dI) vwCl (wX5 q cI g') A t) A)) (cc := cX5_closes) (maxL := 7) (ret := (some .int)) (by decide) rfl (Nat.le_of_ble_eq_true rfl) ?_
  intro p e s m below meth c A hx hb hml hr hlk hts hown hnm hP hK hN hD hA ls hl
  have hS : va_S A s.heap s.heap [] := va_S.rf
  have hl : lv_has ls 7 [(0, .ref (q 0)), (1, .int a1)] := hl
  obtain ⟨V9, eV9⟩ : ∃ V : St → Int32 → Int32 → Prop, V = (fun gv x2 x3 => ∀ (H : Heap) (locs : List Loc) (ls : Array Slot), va_P (dC, dI) vwCl (wX5 q cI gv) H → va_D A (wX5 q cI gv) → va_S A s.heap H locs → lv_has ls 7 [(0, .ref (q 0)), (1, .int a1), (2, .int x2), (3, .int x3)] → W p l e { frames := 0, cells := 0, slots := 0, locals := 0 } s m ([.ref (q 0), .int a1] : List Value).toArray below meth c H locs 0 0 (MQ below (va_Qi (fun (r' : Int32) (_ : Unit) => r' = r) (fun _ t => wqB (dC, dI) vwCl (wX5 q cI g') A t) A) ([.ref (q 0), .int a1] : List Value).toArray s 0 0 A) (F0 m 9 ls [])) := ⟨_, rfl⟩
  obtain ⟨V62, eV62⟩ : ∃ V : St → Int32 → Int32 → Int32 → Prop, V = (fun gv x2 x3 t0 => ∀ (H : Heap) (locs : List Loc) (ls : Array Slot), va_P (dC, dI) vwCl (wX5 q cI gv) H → va_D A (wX5 q cI gv) → va_S A s.heap H locs → lv_has ls 7 [(0, .ref (q 0)), (1, .int a1), (2, .int x2), (3, .int x3)] → W p l e { frames := 0, cells := 0, slots := 0, locals := 0 } s m ([.ref (q 0), .int a1] : List Value).toArray below meth c H locs 0 0 (MQ below (va_Qi (fun (r' : Int32) (_ : Unit) => r' = r) (fun _ t => wqB (dC, dI) vwCl (wX5 q cI g') A t) A) ([.ref (q 0), .int a1] : List Value).toArray s 0 0 A) (F0 m 62 ls [.int t0])) := ⟨_, rfl⟩
  obtain ⟨V137, eV137⟩ : ∃ V : St → Int32 → Int32 → Int32 → Prop, V = (fun gv x2 x3 x6 => ∀ (H : Heap) (locs : List Loc) (ls : Array Slot), va_P (dC, dI) vwCl (wX5 q cI gv) H → va_D A (wX5 q cI gv) → va_S A s.heap H locs → lv_has ls 7 [(0, .ref (q 0)), (1, .int a1), (2, .int x2), (3, .int x3), (6, .int x6)] → W p l e { frames := 0, cells := 0, slots := 0, locals := 0 } s m ([.ref (q 0), .int a1] : List Value).toArray below meth c H locs 0 0 (MQ below (va_Qi (fun (r' : Int32) (_ : Unit) => r' = r) (fun _ t => wqB (dC, dI) vwCl (wX5 q cI g') A t) A) ([.ref (q 0), .int a1] : List Value).toArray s 0 0 A) (F0 m 137 ls [])) := ⟨_, rfl⟩
  have hp := hp V9 V62 V137
  have hp := hp (by
    intro gv x2 x3 hp
    rw [eV9]
    intro H locs ls hP hD hS hl
    refine lv_iload_n hx hb dX5_closes_9 rfl (lv_at hl 3 rfl) ?_
    refine lv_if_lt (tgt := 222) hx hb dX5_closes_10 (by decide) (fun c3 => ?_) (fun c3 => ?_)
    · have hp := hp.1 c3
      refine lv_iload_n hx hb dX5_closes_222 rfl (lv_at hl 2 rfl) ?_
      exact W.iret hx hb hr (fun t ht _ => ⟨⟨_, (), rfl, hp.1.symm, by rw [ht, hp.2]; exact hP, by rw [hp.2]; exact hD⟩, hS.F ht⟩) hS.2.2 dX5_closes_223
    · have hp := hp.2 c3
      refine lv_aload_n hx hb dX5_closes_13 rfl (lv_at hl 0 rfl) ?_
      refine va_get (D := (dC, dI)) (ci := 5) (v := .ref (q 15)) (C := RX5) (T := TX5) (N := 33) hx hb hts iX5_closes_X5 hown hK hP 0 rfl rfl 20 (by decide) (hts _ kX5_closes_2) (fun _ h9 => h9) rfl dX5_closes_14 ?_
      refine lv_iload_n hx hb dX5_closes_17 rfl (lv_at hl 3 rfl) ?_
      refine va_iald hx hb hK hP 15 0 rfl rfl hp.1 dX5_closes_18 ?_
      have hp := hp.2
      refine lv_iload_n hx hb dX5_closes_19 rfl (lv_at hl 1 rfl) ?_
      refine lv_icmp_ne (tgt := 216) hx hb dX5_closes_20 (by decide) (fun c2 => ?_) (fun c2 => ?_)
      · have hp := hp.1 c2
        refine lv_iinc (v := x3 + (-1 : Int32)) (lv' := [(3, .int (x3 + (-1 : Int32))), (0, .ref (q 0)), (1, .int a1), (2, .int x2)]) hx hb dX5_closes_216 hl (k := 3) rfl rfl (by decide) rfl (fun ls hl => ?_)
        refine lv_goto (tgt := 9) hx hb dX5_closes_219 (by decide) ?_
        rw [eV9] at hp
        exact hp _ _ _ hP hD hS (lv_sub hl [1, 2, 3, 0] rfl)
      · have hp := hp.2 c2
        refine lv_aload_n hx hb dX5_closes_23 rfl (lv_at hl 0 rfl) ?_
        refine va_get (D := (dC, dI)) (ci := 5) (v := .ref (q 14)) (C := RX5) (T := TX5) (N := 33) hx hb hts iX5_closes_X5 hown hK hP 0 rfl rfl 18 (by decide) (hts _ kX5_closes_3) (fun _ h9 => h9) rfl dX5_closes_24 ?_
        refine lv_iconst (v := 4) hx hb dX5_closes_27 (by decide) ?_
        refine lv_iload_n hx hb dX5_closes_28 rfl (lv_at hl 1 rfl) ?_
        refine lv_imul hx hb dX5_closes_29 ?_
        refine lv_aload_n hx hb dX5_closes_30 rfl (lv_at hl 0 rfl) ?_
        refine va_get (D := (dC, dI)) (ci := 5) (v := .ref (q 16)) (C := RX5) (T := TX5) (N := 33) hx hb hts iX5_closes_X5 hown hK hP 0 rfl rfl 21 (by decide) (hts _ kX5_closes_4) (fun _ h9 => h9) rfl dX5_closes_31 ?_
        refine lv_iload_n hx hb dX5_closes_34 rfl (lv_at hl 3 rfl) ?_
        refine va_iald hx hb hK hP 16 0 rfl rfl hp.1 dX5_closes_35 ?_
        have hp := hp.2
        refine lv_iadd hx hb dX5_closes_36 ?_
        refine va_iald hx hb hK hP 14 0 rfl rfl hp.1 dX5_closes_37 ?_
        have hp := hp.2
        refine lv_istore (lv' := [(4, .int (gv 14 (((4 : Int32) * a1) + (gv 16 x3.toNatClampNeg)).toNatClampNeg)), (0, .ref (q 0)), (1, .int a1), (2, .int x2), (3, .int x3)]) hx hb dX5_closes_38 hl (by decide) rfl (fun ls hl => ?_)
        refine lv_aload_n hx hb dX5_closes_40 rfl (lv_at hl 1 rfl) ?_
        refine va_get (D := (dC, dI)) (ci := 5) (v := .ref (q 18)) (C := RX5) (T := TX5) (N := 33) hx hb hts iX5_closes_X5 hown hK hP 0 rfl rfl 23 (by decide) (hts _ kX5_closes_5) (fun _ h9 => h9) rfl dX5_closes_41 ?_
        refine lv_iload_n hx hb dX5_closes_44 rfl (lv_at hl 4 rfl) ?_
        refine va_iald hx hb hK hP 18 0 rfl rfl hp.1 dX5_closes_45 ?_
        have hp := hp.2
        refine lv_iload hx hb dX5_closes_46 (lv_at hl 0 rfl) ?_
        refine lv_icmp_le (tgt := 56) hx hb dX5_closes_48 (by decide) (fun c1 => ?_) (fun c1 => ?_)
        · have hp := hp.1 c1
          refine lv_aload_n hx hb dX5_closes_56 rfl (lv_at hl 1 rfl) ?_
          refine va_get (D := (dC, dI)) (ci := 5) (v := .ref (q 18)) (C := RX5) (T := TX5) (N := 33) hx hb hts iX5_closes_X5 hown hK hP 0 rfl rfl 23 (by decide) (hts _ kX5_closes_5) (fun _ h9 => h9) rfl dX5_closes_57 ?_
          refine lv_iload_n hx hb dX5_closes_60 rfl (lv_at hl 4 rfl) ?_
          refine va_iald hx hb hK hP 18 0 rfl rfl hp.1 dX5_closes_61 ?_
          have hp := hp.2
          rw [eV62] at hp
          exact hp _ _ _ hP hD hS (lv_sub hl [1, 2, 3, 4] rfl)
        · have hp := hp.2 c1
          refine lv_iload hx hb dX5_closes_51 (lv_at hl 0 rfl) ?_
          refine lv_goto (tgt := 62) hx hb dX5_closes_53 (by decide) ?_
          rw [eV62] at hp
          exact hp _ _ _ hP hD hS (lv_sub hl [1, 2, 3, 4] rfl))
  have hp := hp (by
    intro gv x2 x3 t0 hp
    rw [eV62]
    intro H locs ls hP hD hS hl
    refine lv_istore (lv' := [(5, .int t0), (0, .ref (q 0)), (1, .int a1), (2, .int x2), (3, .int x3)]) hx hb dX5_closes_62 hl (by decide) rfl (fun ls hl => ?_)
    refine lv_aload_n hx hb dX5_closes_64 rfl (lv_at hl 1 rfl) ?_
    refine va_get (D := (dC, dI)) (ci := 5) (v := .ref (q 14)) (C := RX5) (T := TX5) (N := 33) hx hb hts iX5_closes_X5 hown hK hP 0 rfl rfl 18 (by decide) (hts _ kX5_closes_3) (fun _ h9 => h9) rfl dX5_closes_65 ?_
    refine lv_iconst (v := 4) hx hb dX5_closes_68 (by decide) ?_
    refine lv_iload_n hx hb dX5_closes_69 rfl (lv_at hl 2 rfl) ?_
    refine lv_imul hx hb dX5_closes_70 ?_
    refine lv_aload_n hx hb dX5_closes_71 rfl (lv_at hl 1 rfl) ?_
    refine va_get (D := (dC, dI)) (ci := 5) (v := .ref (q 16)) (C := RX5) (T := TX5) (N := 33) hx hb hts iX5_closes_X5 hown hK hP 0 rfl rfl 21 (by decide) (hts _ kX5_closes_4) (fun _ h9 => h9) rfl dX5_closes_72 ?_
    refine lv_iload_n hx hb dX5_closes_75 rfl (lv_at hl 4 rfl) ?_
    refine va_iald hx hb hK hP 16 0 rfl rfl hp.1 dX5_closes_76 ?_
    have hp := hp.2
    refine lv_iadd hx hb dX5_closes_77 ?_
    refine lv_dup2_11 hx hb dX5_closes_78 rfl rfl ?_
    refine va_iald hx hb hK hP 14 0 rfl rfl hp.1 dX5_closes_79 ?_
    have hp := hp.2
    refine lv_iload hx hb dX5_closes_80 (lv_at hl 0 rfl) ?_
    refine lv_isub hx hb dX5_closes_82 ?_
    refine va_iast hx hb hK hP hD hS 14 0 rfl rfl hp.1 dX5_closes_83 (fun H locs hP hD hS => ?_)
    have hp := hp.2
    obtain ⟨g4, eg4⟩ : ∃ z : St, z = st_set gv 14 (((4 : Int32) * a1) + (gv 16 x3.toNatClampNeg)).toNatClampNeg ((gv 14 (((4 : Int32) * a1) + (gv 16 x3.toNatClampNeg)).toNatClampNeg) - t0) := ⟨_, rfl⟩
    have hp := hp g4 eg4
    have hP : va_P (dC, dI) vwCl (wX5 q cI g4) H := by rw [eg4]; exact hP
    have hD : va_D A (wX5 q cI g4) := by rw [eg4]; exact hD
    refine lv_aload_n hx hb dX5_closes_84 rfl (lv_at hl 1 rfl) ?_
    refine va_get (D := (dC, dI)) (ci := 5) (v := .ref (q 14)) (C := RX5) (T := TX5) (N := 33) hx hb hts iX5_closes_X5 hown hK hP 0 rfl rfl 18 (by decide) (hts _ kX5_closes_3) (fun _ h9 => h9) rfl dX5_closes_85 ?_
    refine lv_iconst (v := 4) hx hb dX5_closes_88 (by decide) ?_
    refine lv_aload_n hx hb dX5_closes_89 rfl (lv_at hl 1 rfl) ?_
    refine va_get (D := (dC, dI)) (ci := 5) (v := .ref (q 17)) (C := RX5) (T := TX5) (N := 33) hx hb hts iX5_closes_X5 hown hK hP 0 rfl rfl 22 (by decide) (hts _ kX5_closes_6) (fun _ h9 => h9) rfl dX5_closes_90 ?_
    refine lv_iload_n hx hb dX5_closes_93 rfl (lv_at hl 4 rfl) ?_
    refine va_iald hx hb hK hP 17 0 rfl rfl hp.1 dX5_closes_94 ?_
    have hp := hp.2
    refine lv_imul hx hb dX5_closes_95 ?_
    refine lv_aload_n hx hb dX5_closes_96 rfl (lv_at hl 1 rfl) ?_
    refine va_get (D := (dC, dI)) (ci := 5) (v := .ref (q 16)) (C := RX5) (T := TX5) (N := 33) hx hb hts iX5_closes_X5 hown hK hP 0 rfl rfl 21 (by decide) (hts _ kX5_closes_4) (fun _ h9 => h9) rfl dX5_closes_97 ?_
    refine lv_iload_n hx hb dX5_closes_100 rfl (lv_at hl 4 rfl) ?_
    refine va_iald hx hb hK hP 16 0 rfl rfl hp.1 dX5_closes_101 ?_
    have hp := hp.2
    refine lv_iadd hx hb dX5_closes_102 ?_
    refine lv_dup2_11 hx hb dX5_closes_103 rfl rfl ?_
    refine va_iald hx hb hK hP 14 0 rfl rfl hp.1 dX5_closes_104 ?_
    have hp := hp.2
    refine lv_iload hx hb dX5_closes_105 (lv_at hl 0 rfl) ?_
    refine lv_iadd hx hb dX5_closes_107 ?_
    refine va_iast hx hb hK hP hD hS 14 0 rfl rfl hp.1 dX5_closes_108 (fun H locs hP hD hS => ?_)
    have hp := hp.2
    obtain ⟨g5, eg5⟩ : ∃ z : St, z = st_set g4 14 (((4 : Int32) * (g4 17 x3.toNatClampNeg)) + (g4 16 x3.toNatClampNeg)).toNatClampNeg ((g4 14 (((4 : Int32) * (g4 17 x3.toNatClampNeg)) + (g4 16 x3.toNatClampNeg)).toNatClampNeg) + t0) := ⟨_, rfl⟩
    have hp := hp g5 eg5
    have hP : va_P (dC, dI) vwCl (wX5 q cI g5) H := by rw [eg5]; exact hP
    have hD : va_D A (wX5 q cI g5) := by rw [eg5]; exact hD
    refine lv_aload_n hx hb dX5_closes_109 rfl (lv_at hl 1 rfl) ?_
    refine va_get (D := (dC, dI)) (ci := 5) (v := .ref (q 13)) (C := RX5) (T := TX5) (N := 33) hx hb hts iX5_closes_X5 hown hK hP 0 rfl rfl 17 (by decide) (hts _ kX5_closes_7) (fun _ h9 => h9) rfl dX5_closes_110 ?_
    refine lv_aload_n hx hb dX5_closes_113 rfl (lv_at hl 1 rfl) ?_
    refine va_get (D := (dC, dI)) (ci := 5) (v := .ref (q 17)) (C := RX5) (T := TX5) (N := 33) hx hb hts iX5_closes_X5 hown hK hP 0 rfl rfl 22 (by decide) (hts _ kX5_closes_6) (fun _ h9 => h9) rfl dX5_closes_114 ?_
    refine lv_iload_n hx hb dX5_closes_117 rfl (lv_at hl 4 rfl) ?_
    refine va_iald hx hb hK hP 17 0 rfl rfl hp.1 dX5_closes_118 ?_
    have hp := hp.2
    refine lv_iconst (v := 0) hx hb dX5_closes_119 (by decide) ?_
    refine va_iast hx hb hK hP hD hS 13 0 rfl rfl hp.1 dX5_closes_120 (fun H locs hP hD hS => ?_)
    have hp := hp.2
    obtain ⟨g6, eg6⟩ : ∃ z : St, z = st_set g5 13 (g5 17 x3.toNatClampNeg).toNatClampNeg (0 : Int32) := ⟨_, rfl⟩
    have hp := hp g6 eg6
    have hP : va_P (dC, dI) vwCl (wX5 q cI g6) H := by rw [eg6]; exact hP
    have hD : va_D A (wX5 q cI g6) := by rw [eg6]; exact hD
    refine lv_iinc (v := x2 + (1 : Int32)) (lv' := [(2, .int (x2 + (1 : Int32))), (5, .int t0), (0, .ref (q 0)), (1, .int a1), (3, .int x3)]) hx hb dX5_closes_121 hl (k := 3) rfl rfl (by decide) rfl (fun ls hl => ?_)
    refine lv_aload_n hx hb dX5_closes_124 rfl (lv_at hl 2 rfl) ?_
    refine lv_dup hx hb dX5_closes_125 rfl ?_
    refine va_get (D := (dC, dI)) (ci := 5) (v := .int (g6 0 24)) (C := RX5) (T := TX5) (N := 33) hx hb hts iX5_closes_X5 hown hK hP 0 rfl rfl 24 (by decide) (hts _ kX5_closes_0) (fun _ h9 => h9) rfl dX5_closes_126 ?_
    refine lv_iconst (v := 1) hx hb dX5_closes_129 (by decide) ?_
    refine lv_isub hx hb dX5_closes_130 ?_
    refine va_put (D := (dC, dI)) (ci := 5) (v := .int ((g6 0 24) - (1 : Int32))) (ty := .int) (C := RX5) (T := TX5) (N := 33) hx hb hts iX5_closes_X5 tyX5 tyX5_ok nmX5 hown hK hP hD hS 0 rfl rfl 24 (by decide) (hts _ kX5_closes_0) (fun _ h9 => h9) rfl (by decide +kernel) rfl rfl (Nat.le_of_ble_eq_true rfl) dX5_closes_131 (fun H locs hP hD hS => ?_)
    obtain ⟨g7, eg7⟩ : ∃ z : St, z = st_set g6 0 24 ((g6 0 24) - (1 : Int32)) := ⟨_, rfl⟩
    have hp := hp g7 eg7
    have hP : va_P (dC, dI) vwCl (wX5 q cI g7) H := by rw [eg7]; exact hP
    have hD : va_D A (wX5 q cI g7) := by rw [eg7]; exact hD
    refine lv_iload_n hx hb dX5_closes_134 rfl (lv_at hl 4 rfl) ?_
    refine lv_istore (lv' := [(6, .int x3), (2, .int (x2 + (1 : Int32))), (5, .int t0), (0, .ref (q 0)), (1, .int a1), (3, .int x3)]) hx hb dX5_closes_135 hl (by decide) rfl (fun ls hl => ?_)
    rw [eV137] at hp
    exact hp _ _ _ hP hD hS (lv_sub hl [3, 4, 1, 5, 0] rfl))
  have hp := hp (by
    intro gv x2 x3 x6 hp
    rw [eV137]
    intro H locs ls hP hD hS hl
    refine lv_iload hx hb dX5_closes_137 (lv_at hl 4 rfl) ?_
    refine lv_aload_n hx hb dX5_closes_139 rfl (lv_at hl 0 rfl) ?_
    refine va_get (D := (dC, dI)) (ci := 5) (v := .int (gv 0 24)) (C := RX5) (T := TX5) (N := 33) hx hb hts iX5_closes_X5 hown hK hP 0 rfl rfl 24 (by decide) (hts _ kX5_closes_0) (fun _ h9 => h9) rfl dX5_closes_140 ?_
    refine lv_icmp_ge (tgt := 216) hx hb dX5_closes_143 (by decide) (fun c12 => ?_) (fun c12 => ?_)
    · have hp := hp.1 c12
      refine lv_iinc (v := x3 + (-1 : Int32)) (lv' := [(3, .int (x3 + (-1 : Int32))), (0, .ref (q 0)), (1, .int a1), (2, .int x2), (6, .int x6)]) hx hb dX5_closes_216 hl (k := 3) rfl rfl (by decide) rfl (fun ls hl => ?_)
      refine lv_goto (tgt := 9) hx hb dX5_closes_219 (by decide) ?_
      rw [eV9] at hp
      exact hp _ _ _ hP hD hS (lv_sub hl [1, 2, 3, 0] rfl)
    · have hp := hp.2 c12
      refine lv_aload_n hx hb dX5_closes_146 rfl (lv_at hl 0 rfl) ?_
      refine va_get (D := (dC, dI)) (ci := 5) (v := .ref (q 15)) (C := RX5) (T := TX5) (N := 33) hx hb hts iX5_closes_X5 hown hK hP 0 rfl rfl 20 (by decide) (hts _ kX5_closes_2) (fun _ h9 => h9) rfl dX5_closes_147 ?_
      refine lv_iload hx hb dX5_closes_150 (lv_at hl 4 rfl) ?_
      refine lv_aload_n hx hb dX5_closes_152 rfl (lv_at hl 0 rfl) ?_
      refine va_get (D := (dC, dI)) (ci := 5) (v := .ref (q 15)) (C := RX5) (T := TX5) (N := 33) hx hb hts iX5_closes_X5 hown hK hP 0 rfl rfl 20 (by decide) (hts _ kX5_closes_2) (fun _ h9 => h9) rfl dX5_closes_153 ?_
      refine lv_iload hx hb dX5_closes_156 (lv_at hl 4 rfl) ?_
      refine lv_iconst (v := 1) hx hb dX5_closes_158 (by decide) ?_
      refine lv_iadd hx hb dX5_closes_159 ?_
      refine va_iald hx hb hK hP 15 0 rfl rfl hp.1 dX5_closes_160 ?_
      have hp := hp.2
      refine va_iast hx hb hK hP hD hS 15 0 rfl rfl hp.1 dX5_closes_161 (fun H locs hP hD hS => ?_)
      have hp := hp.2
      obtain ⟨g8, eg8⟩ : ∃ z : St, z = st_set gv 15 x6.toNatClampNeg (gv 15 (x6 + (1 : Int32)).toNatClampNeg) := ⟨_, rfl⟩
      have hp := hp g8 eg8
      have hP : va_P (dC, dI) vwCl (wX5 q cI g8) H := by rw [eg8]; exact hP
      have hD : va_D A (wX5 q cI g8) := by rw [eg8]; exact hD
      refine lv_aload_n hx hb dX5_closes_162 rfl (lv_at hl 0 rfl) ?_
      refine va_get (D := (dC, dI)) (ci := 5) (v := .ref (q 16)) (C := RX5) (T := TX5) (N := 33) hx hb hts iX5_closes_X5 hown hK hP 0 rfl rfl 21 (by decide) (hts _ kX5_closes_4) (fun _ h9 => h9) rfl dX5_closes_163 ?_
      refine lv_iload hx hb dX5_closes_166 (lv_at hl 4 rfl) ?_
      refine lv_aload_n hx hb dX5_closes_168 rfl (lv_at hl 0 rfl) ?_
      refine va_get (D := (dC, dI)) (ci := 5) (v := .ref (q 16)) (C := RX5) (T := TX5) (N := 33) hx hb hts iX5_closes_X5 hown hK hP 0 rfl rfl 21 (by decide) (hts _ kX5_closes_4) (fun _ h9 => h9) rfl dX5_closes_169 ?_
      refine lv_iload hx hb dX5_closes_172 (lv_at hl 4 rfl) ?_
      refine lv_iconst (v := 1) hx hb dX5_closes_174 (by decide) ?_
      refine lv_iadd hx hb dX5_closes_175 ?_
      refine va_iald hx hb hK hP 16 0 rfl rfl hp.1 dX5_closes_176 ?_
      have hp := hp.2
      refine va_iast hx hb hK hP hD hS 16 0 rfl rfl hp.1 dX5_closes_177 (fun H locs hP hD hS => ?_)
      have hp := hp.2
      obtain ⟨g9, eg9⟩ : ∃ z : St, z = st_set g8 16 x6.toNatClampNeg (g8 16 (x6 + (1 : Int32)).toNatClampNeg) := ⟨_, rfl⟩
      have hp := hp g9 eg9
      have hP : va_P (dC, dI) vwCl (wX5 q cI g9) H := by rw [eg9]; exact hP
      have hD : va_D A (wX5 q cI g9) := by rw [eg9]; exact hD
      refine lv_aload_n hx hb dX5_closes_178 rfl (lv_at hl 0 rfl) ?_
      refine va_get (D := (dC, dI)) (ci := 5) (v := .ref (q 17)) (C := RX5) (T := TX5) (N := 33) hx hb hts iX5_closes_X5 hown hK hP 0 rfl rfl 22 (by decide) (hts _ kX5_closes_6) (fun _ h9 => h9) rfl dX5_closes_179 ?_
      refine lv_iload hx hb dX5_closes_182 (lv_at hl 4 rfl) ?_
      refine lv_aload_n hx hb dX5_closes_184 rfl (lv_at hl 0 rfl) ?_
      refine va_get (D := (dC, dI)) (ci := 5) (v := .ref (q 17)) (C := RX5) (T := TX5) (N := 33) hx hb hts iX5_closes_X5 hown hK hP 0 rfl rfl 22 (by decide) (hts _ kX5_closes_6) (fun _ h9 => h9) rfl dX5_closes_185 ?_
      refine lv_iload hx hb dX5_closes_188 (lv_at hl 4 rfl) ?_
      refine lv_iconst (v := 1) hx hb dX5_closes_190 (by decide) ?_
      refine lv_iadd hx hb dX5_closes_191 ?_
      refine va_iald hx hb hK hP 17 0 rfl rfl hp.1 dX5_closes_192 ?_
      have hp := hp.2
      refine va_iast hx hb hK hP hD hS 17 0 rfl rfl hp.1 dX5_closes_193 (fun H locs hP hD hS => ?_)
      have hp := hp.2
      obtain ⟨g10, eg10⟩ : ∃ z : St, z = st_set g9 17 x6.toNatClampNeg (g9 17 (x6 + (1 : Int32)).toNatClampNeg) := ⟨_, rfl⟩
      have hp := hp g10 eg10
      have hP : va_P (dC, dI) vwCl (wX5 q cI g10) H := by rw [eg10]; exact hP
      have hD : va_D A (wX5 q cI g10) := by rw [eg10]; exact hD
      refine lv_aload_n hx hb dX5_closes_194 rfl (lv_at hl 0 rfl) ?_
      refine va_get (D := (dC, dI)) (ci := 5) (v := .ref (q 18)) (C := RX5) (T := TX5) (N := 33) hx hb hts iX5_closes_X5 hown hK hP 0 rfl rfl 23 (by decide) (hts _ kX5_closes_5) (fun _ h9 => h9) rfl dX5_closes_195 ?_
      refine lv_iload hx hb dX5_closes_198 (lv_at hl 4 rfl) ?_
      refine lv_aload_n hx hb dX5_closes_200 rfl (lv_at hl 0 rfl) ?_
      refine va_get (D := (dC, dI)) (ci := 5) (v := .ref (q 18)) (C := RX5) (T := TX5) (N := 33) hx hb hts iX5_closes_X5 hown hK hP 0 rfl rfl 23 (by decide) (hts _ kX5_closes_5) (fun _ h9 => h9) rfl dX5_closes_201 ?_
      refine lv_iload hx hb dX5_closes_204 (lv_at hl 4 rfl) ?_
      refine lv_iconst (v := 1) hx hb dX5_closes_206 (by decide) ?_
      refine lv_iadd hx hb dX5_closes_207 ?_
      refine va_iald hx hb hK hP 18 0 rfl rfl hp.1 dX5_closes_208 ?_
      have hp := hp.2
      refine va_iast hx hb hK hP hD hS 18 0 rfl rfl hp.1 dX5_closes_209 (fun H locs hP hD hS => ?_)
      have hp := hp.2
      obtain ⟨g11, eg11⟩ : ∃ z : St, z = st_set g10 18 x6.toNatClampNeg (g10 18 (x6 + (1 : Int32)).toNatClampNeg) := ⟨_, rfl⟩
      have hp := hp g11 eg11
      have hP : va_P (dC, dI) vwCl (wX5 q cI g11) H := by rw [eg11]; exact hP
      have hD : va_D A (wX5 q cI g11) := by rw [eg11]; exact hD
      refine lv_iinc (v := x6 + (1 : Int32)) (lv' := [(6, .int (x6 + (1 : Int32))), (0, .ref (q 0)), (1, .int a1), (2, .int x2), (3, .int x3)]) hx hb dX5_closes_210 hl (k := 4) rfl rfl (by decide) rfl (fun ls hl => ?_)
      refine lv_goto (tgt := 137) hx hb dX5_closes_213 (by decide) ?_
      rw [eV137] at hp
      exact hp _ _ _ hP hD hS (lv_sub hl [1, 2, 3, 4, 0] rfl))
  refine lv_iconst (v := 0) hx hb dX5_closes_0 (by decide) ?_
  refine lv_istore_n (lv' := [(2, .int (0 : Int32)), (0, .ref (q 0)), (1, .int a1)]) hx hb dX5_closes_1 rfl hl (by decide) rfl (fun ls hl => ?_)
  refine lv_aload_n hx hb dX5_closes_2 rfl (lv_at hl 1 rfl) ?_
  refine va_get (D := (dC, dI)) (ci := 5) (v := .int (g 0 24)) (C := RX5) (T := TX5) (N := 33) hx hb hts iX5_closes_X5 hown hK hP 0 rfl rfl 24 (by decide) (hts _ kX5_closes_0) (fun _ h9 => h9) rfl dX5_closes_3 ?_
  refine lv_iconst (v := 1) hx hb dX5_closes_6 (by decide) ?_
  refine lv_isub hx hb dX5_closes_7 ?_
  refine lv_istore_n (lv' := [(3, .int ((g 0 24) - (1 : Int32))), (2, .int (0 : Int32)), (0, .ref (q 0)), (1, .int a1)]) hx hb dX5_closes_8 rfl hl (by decide) rfl (fun ls hl => ?_)
  rw [eV9] at hp
  exact hp _ _ _ hP hD hS (lv_sub hl [2, 3, 1, 0] rfl)
theorem kX5_giveBack_0 : (.fieldLink RX5 28 "MeeplehouseModel" "copy" "[I" : Cond) ∈ wsX5_giveBack := by decide +kernel
theorem iX5_giveBack_X5 : ∀ w ∈ wsX50, w ∈ wsX5_giveBack := by decide +kernel
theorem kX5_giveBack_2 : (.fieldLink RX5 49 "MeeplehouseModel" "pieces" "[I" : Cond) ∈ wsX5_giveBack := by decide +kernel
theorem kX5_giveBack_3 : (.fieldLink RX5 46 "MeeplehouseModel" "where" "[I" : Cond) ∈ wsX5_giveBack := by decide +kernel
def P_X5_giveBack (g : St) (a1 : Int32) (a2 : Int32) (a3 : Int32) (r : Int32) (g' : St) : Prop := ∀ V19 : St → Prop, ∀ V20 : St → Int32 → Prop, ∀ V41 : St → Int32 → Prop, ∀ V42 : St → Int32 → Int32 → Prop, ∀ V72 : St → Int32 → Prop, ∀ V73 : St → Int32 → Int32 → Prop, ∀ V106 : St → Int32 → Prop, (∀ gv : St, (V20 gv (0 : Int32)) → V19 gv) → (∀ gv : St, ∀ t0 : Int32, ((t0 = 0 → (V41 gv t0)) ∧ (¬ t0 = 0 → (vp_in a1 30 ∧ (((gv 7 a1.toNatClampNeg) = (-1 : Int32) → (V41 gv t0)) ∧ (¬ (gv 7 a1.toNatClampNeg) = (-1 : Int32) → (V42 gv t0 (1 : Int32))))))) → V20 gv t0) → (∀ gv : St, ∀ x4 : Int32, (V42 gv x4 (0 : Int32)) → V41 gv x4) → (∀ gv : St, ∀ x4 t0 : Int32, ((t0 = 0 → (V72 gv x4)) ∧ (¬ t0 = 0 → (vp_in a1 30 ∧ (vp_in (((4 : Int32) * (gv 7 a1.toNatClampNeg)) + a2) 64 ∧ (((gv 14 (((4 : Int32) * (gv 7 a1.toNatClampNeg)) + a2).toNatClampNeg) < a3 → (V72 gv x4)) ∧ (¬ (gv 14 (((4 : Int32) * (gv 7 a1.toNatClampNeg)) + a2).toNatClampNeg) < a3 → (V73 gv x4 (1 : Int32)))))))) → V42 gv x4 t0) → (∀ gv : St, ∀ x4 : Int32, (V73 gv x4 (0 : Int32)) → V72 gv x4) → (∀ gv : St, ∀ x4 t0 : Int32, ((¬ x4 = 0 → (∃ r9 : Int32, P_X5_arePieces a3 r9 ∧ ((¬ r9 = 0 → ((¬ t0 = 0 → (V106 gv (0 : Int32))) ∧ (t0 = 0 → (V106 gv (3 : Int32))))) ∧ (r9 = 0 → (V106 gv (2 : Int32)))))) ∧ (x4 = 0 → (V106 gv (1 : Int32)))) → V73 gv x4 t0) → (∀ gv : St, ∀ t0 : Int32, (∃ (r13 : Int32) (g14 : St), P_X5_isFine gv t0 r13 g14 ∧ ((¬ r13 = 0 → (vp_in a1 30 ∧ (vp_in (((4 : Int32) * (g14 7 a1.toNatClampNeg)) + a2) 64 ∧ (vp_in (((4 : Int32) * (g14 7 a1.toNatClampNeg)) + a2) 64 ∧ (∀ g15 : St, g15 = st_set g14 14 (((4 : Int32) * (g14 7 a1.toNatClampNeg)) + a2).toNatClampNeg ((g14 14 (((4 : Int32) * (g14 7 a1.toNatClampNeg)) + a2).toNatClampNeg) - a3) → (vp_in a1 30 ∧ (∀ g16 : St, g16 = st_set g15 7 a1.toNatClampNeg (-1 : Int32) → (vp_in (g14 7 a1.toNatClampNeg) 16 ∧ (∀ g17 : St, g17 = st_set g16 13 (g14 7 a1.toNatClampNeg).toNatClampNeg (0 : Int32) → (∃ (r18 : Int32) (g19 : St), P_X5_closes g17 (g14 7 a1.toNatClampNeg) r18 g19 ∧ (r = r18 ∧ g' = g19))))))))))) ∧ (r13 = 0 → (r = (0 : Int32) ∧ g' = g14)))) → V106 gv t0) → (∃ r1 : Int32, P_X5_isGroup g a1 r1 ∧ ((r1 = 0 → (V19 g)) ∧ (¬ r1 = 0 → (∃ r2 : Int32, P_X5_isKind a2 r2 ∧ ((r2 = 0 → (V19 g)) ∧ (¬ r2 = 0 → (V20 g (1 : Int32))))))))
set_option maxRecDepth 100000 in
set_option maxHeartbeats 4000000 in
theorem c_X5_giveBack (l : Launch) (dC : Nat → ClassId) (dI : Nat → Nat → Nat) (cI : ClassId) (q : Nat → Nat) (g : St) (a1 : Int32) (a2 : Int32) (a3 : Int32) (r : Int32) (g' : St) (hp : P_X5_giveBack g a1 a2 a3 r g') (sz : Nat) : Met l yX5_giveBack wsX5_giveBack { frames := 2, cells := 0, slots := 0, locals := 43 } (va_Pc [.ref (q 0), .int a1, .int a2, .int a3] (wpS (dC, dI) vwCl [(cI, .int)] (wX5 q cI g) sz)) (va_Qi (fun (r' : Int32) (_ : Unit) => r' = r) (fun _ t => wqB (dC, dI) vwCl (wX5 q cI g') (va_A (wX5 q cI g) sz) t) (va_A (wX5 q cI g) sz)) 0 0 (va_A (wX5 q cI g) sz) := by
  refine wr_met (fun A => (va_Qi (fun (r' : Int32) (_ : Unit) => r' = r) (fun _ t => wqB (dC, dI) vwCl (wX5 q cI g') A t) A)) (cc := cX5_giveBack) (maxL := 7) (ret := (some .int)) (by decide) rfl (Nat.le_of_ble_eq_true rfl) ?_
  intro p e s m below meth c A hx hb hml hr hlk hts hown hnm hP hK hN hD hA ls hl
  have hS : va_S A s.heap s.heap [] := va_S.rf
  have hl : lv_has ls 7 [(0, .ref (q 0)), (1, .int a1), (2, .int a2), (3, .int a3)] := hl
  obtain ⟨V19, eV19⟩ : ∃ V : St → Prop, V = (fun gv => ∀ (H : Heap) (locs : List Loc) (ls : Array Slot), va_P (dC, dI) vwCl (wX5 q cI gv) H → va_D A (wX5 q cI gv) → va_S A s.heap H locs → lv_has ls 7 [(0, .ref (q 0)), (1, .int a1), (2, .int a2), (3, .int a3)] → W p l e { frames := 2, cells := 0, slots := 0, locals := 43 } s m ([.ref (q 0), .int a1, .int a2, .int a3] : List Value).toArray below meth c H locs 0 0 (MQ below (va_Qi (fun (r' : Int32) (_ : Unit) => r' = r) (fun _ t => wqB (dC, dI) vwCl (wX5 q cI g') A t) A) ([.ref (q 0), .int a1, .int a2, .int a3] : List Value).toArray s 0 0 A) (F0 m 19 ls [])) := ⟨_, rfl⟩
  obtain ⟨V20, eV20⟩ : ∃ V : St → Int32 → Prop, V = (fun gv t0 => ∀ (H : Heap) (locs : List Loc) (ls : Array Slot), va_P (dC, dI) vwCl (wX5 q cI gv) H → va_D A (wX5 q cI gv) → va_S A s.heap H locs → lv_has ls 7 [(0, .ref (q 0)), (1, .int a1), (2, .int a2), (3, .int a3)] → W p l e { frames := 2, cells := 0, slots := 0, locals := 43 } s m ([.ref (q 0), .int a1, .int a2, .int a3] : List Value).toArray below meth c H locs 0 0 (MQ below (va_Qi (fun (r' : Int32) (_ : Unit) => r' = r) (fun _ t => wqB (dC, dI) vwCl (wX5 q cI g') A t) A) ([.ref (q 0), .int a1, .int a2, .int a3] : List Value).toArray s 0 0 A) (F0 m 20 ls [.int t0])) := ⟨_, rfl⟩
  obtain ⟨V41, eV41⟩ : ∃ V : St → Int32 → Prop, V = (fun gv x4 => ∀ (H : Heap) (locs : List Loc) (ls : Array Slot), va_P (dC, dI) vwCl (wX5 q cI gv) H → va_D A (wX5 q cI gv) → va_S A s.heap H locs → lv_has ls 7 [(0, .ref (q 0)), (1, .int a1), (2, .int a2), (3, .int a3), (4, .int x4)] → W p l e { frames := 2, cells := 0, slots := 0, locals := 43 } s m ([.ref (q 0), .int a1, .int a2, .int a3] : List Value).toArray below meth c H locs 0 0 (MQ below (va_Qi (fun (r' : Int32) (_ : Unit) => r' = r) (fun _ t => wqB (dC, dI) vwCl (wX5 q cI g') A t) A) ([.ref (q 0), .int a1, .int a2, .int a3] : List Value).toArray s 0 0 A) (F0 m 41 ls [])) := ⟨_, rfl⟩
  obtain ⟨V42, eV42⟩ : ∃ V : St → Int32 → Int32 → Prop, V = (fun gv x4 t0 => ∀ (H : Heap) (locs : List Loc) (ls : Array Slot), va_P (dC, dI) vwCl (wX5 q cI gv) H → va_D A (wX5 q cI gv) → va_S A s.heap H locs → lv_has ls 7 [(0, .ref (q 0)), (1, .int a1), (2, .int a2), (3, .int a3), (4, .int x4)] → W p l e { frames := 2, cells := 0, slots := 0, locals := 43 } s m ([.ref (q 0), .int a1, .int a2, .int a3] : List Value).toArray below meth c H locs 0 0 (MQ below (va_Qi (fun (r' : Int32) (_ : Unit) => r' = r) (fun _ t => wqB (dC, dI) vwCl (wX5 q cI g') A t) A) ([.ref (q 0), .int a1, .int a2, .int a3] : List Value).toArray s 0 0 A) (F0 m 42 ls [.int t0])) := ⟨_, rfl⟩
  obtain ⟨V72, eV72⟩ : ∃ V : St → Int32 → Prop, V = (fun gv x4 => ∀ (H : Heap) (locs : List Loc) (ls : Array Slot), va_P (dC, dI) vwCl (wX5 q cI gv) H → va_D A (wX5 q cI gv) → va_S A s.heap H locs → lv_has ls 7 [(0, .ref (q 0)), (1, .int a1), (2, .int a2), (3, .int a3), (4, .int x4)] → W p l e { frames := 2, cells := 0, slots := 0, locals := 43 } s m ([.ref (q 0), .int a1, .int a2, .int a3] : List Value).toArray below meth c H locs 0 0 (MQ below (va_Qi (fun (r' : Int32) (_ : Unit) => r' = r) (fun _ t => wqB (dC, dI) vwCl (wX5 q cI g') A t) A) ([.ref (q 0), .int a1, .int a2, .int a3] : List Value).toArray s 0 0 A) (F0 m 72 ls [])) := ⟨_, rfl⟩
  obtain ⟨V73, eV73⟩ : ∃ V : St → Int32 → Int32 → Prop, V = (fun gv x4 t0 => ∀ (H : Heap) (locs : List Loc) (ls : Array Slot), va_P (dC, dI) vwCl (wX5 q cI gv) H → va_D A (wX5 q cI gv) → va_S A s.heap H locs → lv_has ls 7 [(0, .ref (q 0)), (1, .int a1), (2, .int a2), (3, .int a3), (4, .int x4)] → W p l e { frames := 2, cells := 0, slots := 0, locals := 43 } s m ([.ref (q 0), .int a1, .int a2, .int a3] : List Value).toArray below meth c H locs 0 0 (MQ below (va_Qi (fun (r' : Int32) (_ : Unit) => r' = r) (fun _ t => wqB (dC, dI) vwCl (wX5 q cI g') A t) A) ([.ref (q 0), .int a1, .int a2, .int a3] : List Value).toArray s 0 0 A) (F0 m 73 ls [.int t0])) := ⟨_, rfl⟩
  obtain ⟨V106, eV106⟩ : ∃ V : St → Int32 → Prop, V = (fun gv t0 => ∀ (H : Heap) (locs : List Loc) (ls : Array Slot), va_P (dC, dI) vwCl (wX5 q cI gv) H → va_D A (wX5 q cI gv) → va_S A s.heap H locs → lv_has ls 7 [(0, .ref (q 0)), (1, .int a1), (2, .int a2), (3, .int a3)] → W p l e { frames := 2, cells := 0, slots := 0, locals := 43 } s m ([.ref (q 0), .int a1, .int a2, .int a3] : List Value).toArray below meth c H locs 0 0 (MQ below (va_Qi (fun (r' : Int32) (_ : Unit) => r' = r) (fun _ t => wqB (dC, dI) vwCl (wX5 q cI g') A t) A) ([.ref (q 0), .int a1, .int a2, .int a3] : List Value).toArray s 0 0 A) (F0 m 106 ls [.int t0, .ref (q 0)])) := ⟨_, rfl⟩
  have hp := hp V19 V20 V41 V42 V72 V73 V106
  have hp := hp (by
    intro gv hp
    rw [eV19]
    intro H locs ls hP hD hS hl
    refine lv_iconst (v := 0) hx hb dX5_giveBack_19 (by decide) ?_
    rw [eV20] at hp
    exact hp _ _ _ hP hD hS (lv_sub hl [0, 1, 2, 3] rfl))
  have hp := hp (by
    intro gv t0 hp
    rw [eV20]
    intro H locs ls hP hD hS hl
    refine lv_istore (lv' := [(4, .int t0), (0, .ref (q 0)), (1, .int a1), (2, .int a2), (3, .int a3)]) hx hb dX5_giveBack_20 hl (by decide) rfl (fun ls hl => ?_)
    refine lv_iload hx hb dX5_giveBack_22 (lv_at hl 0 rfl) ?_
    refine lv_if_eq (tgt := 41) hx hb dX5_giveBack_24 (by decide) (fun c6 => ?_) (fun c6 => ?_)
    · have hp := hp.1 c6
      rw [eV41] at hp
      exact hp _ _ _ hP hD hS (lv_sub hl [1, 2, 3, 4, 0] rfl)
    · have hp := hp.2 c6
      refine lv_aload_n hx hb dX5_giveBack_27 rfl (lv_at hl 1 rfl) ?_
      refine va_get (D := (dC, dI)) (ci := 5) (v := .ref (q 7)) (C := RX5) (T := TX5) (N := 33) hx hb hts iX5_giveBack_X5 hown hK hP 0 rfl rfl 9 (by decide) (hts _ kX5_giveBack_0) (fun _ h9 => h9) rfl dX5_giveBack_28 ?_
      refine lv_iload_n hx hb dX5_giveBack_31 rfl (lv_at hl 2 rfl) ?_
      refine va_iald hx hb hK hP 7 0 rfl rfl hp.1 dX5_giveBack_32 ?_
      have hp := hp.2
      refine lv_iconst (v := -1) hx hb dX5_giveBack_33 (by decide) ?_
      refine lv_icmp_eq (tgt := 41) hx hb dX5_giveBack_34 (by decide) (fun c5 => ?_) (fun c5 => ?_)
      · have hp := hp.1 c5
        rw [eV41] at hp
        exact hp _ _ _ hP hD hS (lv_sub hl [1, 2, 3, 4, 0] rfl)
      · have hp := hp.2 c5
        refine lv_iconst (v := 1) hx hb dX5_giveBack_37 (by decide) ?_
        refine lv_goto (tgt := 42) hx hb dX5_giveBack_38 (by decide) ?_
        rw [eV42] at hp
        exact hp _ _ _ hP hD hS (lv_sub hl [1, 2, 3, 4, 0] rfl))
  have hp := hp (by
    intro gv x4 hp
    rw [eV41]
    intro H locs ls hP hD hS hl
    refine lv_iconst (v := 0) hx hb dX5_giveBack_41 (by decide) ?_
    rw [eV42] at hp
    exact hp _ _ _ hP hD hS (lv_sub hl [0, 1, 2, 3, 4] rfl))
  have hp := hp (by
    intro gv x4 t0 hp
    rw [eV42]
    intro H locs ls hP hD hS hl
    refine lv_istore (lv' := [(5, .int t0), (0, .ref (q 0)), (1, .int a1), (2, .int a2), (3, .int a3), (4, .int x4)]) hx hb dX5_giveBack_42 hl (by decide) rfl (fun ls hl => ?_)
    refine lv_iload hx hb dX5_giveBack_44 (lv_at hl 0 rfl) ?_
    refine lv_if_eq (tgt := 72) hx hb dX5_giveBack_46 (by decide) (fun c8 => ?_) (fun c8 => ?_)
    · have hp := hp.1 c8
      rw [eV72] at hp
      exact hp _ _ _ hP hD hS (lv_sub hl [1, 2, 3, 4, 5] rfl)
    · have hp := hp.2 c8
      refine lv_aload_n hx hb dX5_giveBack_49 rfl (lv_at hl 1 rfl) ?_
      refine va_get (D := (dC, dI)) (ci := 5) (v := .ref (q 14)) (C := RX5) (T := TX5) (N := 33) hx hb hts iX5_giveBack_X5 hown hK hP 0 rfl rfl 18 (by decide) (hts _ kX5_giveBack_2) (fun _ h9 => h9) rfl dX5_giveBack_50 ?_
      refine lv_iconst (v := 4) hx hb dX5_giveBack_53 (by decide) ?_
      refine lv_aload_n hx hb dX5_giveBack_54 rfl (lv_at hl 1 rfl) ?_
      refine va_get (D := (dC, dI)) (ci := 5) (v := .ref (q 7)) (C := RX5) (T := TX5) (N := 33) hx hb hts iX5_giveBack_X5 hown hK hP 0 rfl rfl 9 (by decide) (hts _ kX5_giveBack_0) (fun _ h9 => h9) rfl dX5_giveBack_55 ?_
      refine lv_iload_n hx hb dX5_giveBack_58 rfl (lv_at hl 2 rfl) ?_
      refine va_iald hx hb hK hP 7 0 rfl rfl hp.1 dX5_giveBack_59 ?_
      have hp := hp.2
      refine lv_imul hx hb dX5_giveBack_60 ?_
      refine lv_iload_n hx hb dX5_giveBack_61 rfl (lv_at hl 3 rfl) ?_
      refine lv_iadd hx hb dX5_giveBack_62 ?_
      refine va_iald hx hb hK hP 14 0 rfl rfl hp.1 dX5_giveBack_63 ?_
      have hp := hp.2
      refine lv_iload_n hx hb dX5_giveBack_64 rfl (lv_at hl 4 rfl) ?_
      refine lv_icmp_lt (tgt := 72) hx hb dX5_giveBack_65 (by decide) (fun c7 => ?_) (fun c7 => ?_)
      · have hp := hp.1 c7
        rw [eV72] at hp
        exact hp _ _ _ hP hD hS (lv_sub hl [1, 2, 3, 4, 5] rfl)
      · have hp := hp.2 c7
        refine lv_iconst (v := 1) hx hb dX5_giveBack_68 (by decide) ?_
        refine lv_goto (tgt := 73) hx hb dX5_giveBack_69 (by decide) ?_
        rw [eV73] at hp
        exact hp _ _ _ hP hD hS (lv_sub hl [1, 2, 3, 4, 5] rfl))
  have hp := hp (by
    intro gv x4 hp
    rw [eV72]
    intro H locs ls hP hD hS hl
    refine lv_iconst (v := 0) hx hb dX5_giveBack_72 (by decide) ?_
    rw [eV73] at hp
    exact hp _ _ _ hP hD hS (lv_sub hl [0, 1, 2, 3, 4] rfl))
  have hp := hp (by
    intro gv x4 t0 hp
    rw [eV73]
    intro H locs ls hP hD hS hl
    refine lv_istore (lv' := [(5, .int t0), (0, .ref (q 0)), (1, .int a1), (2, .int a2), (3, .int a3), (4, .int x4)]) hx hb dX5_giveBack_73 hl (by decide) rfl (fun ls hl => ?_)
    refine lv_aload_n hx hb dX5_giveBack_75 rfl (lv_at hl 1 rfl) ?_
    refine lv_iload hx hb dX5_giveBack_76 (lv_at hl 5 rfl) ?_
    refine lv_if_ne (tgt := 85) hx hb dX5_giveBack_78 (by decide) (fun c12 => ?_) (fun c12 => ?_)
    · have hp := hp.1 c12
      refine lv_iload_n hx hb dX5_giveBack_85 rfl (lv_at hl 4 rfl) ?_
      obtain ⟨r9, hr9, hp⟩ := hp
      refine ro_S (As := [.int a3]) (rest := [.ref (q 0)]) ⟨hx, hb, hml, hown, hts⟩ (c_X5_arePieces l dC dI cI a3 r9 hr9) (va_cwS 1 hts gX5_giveBack_X5_arePieces rfl rfl rfl (by decide +kernel) ⟨Nat.le_of_ble_eq_true rfl, Nat.le_of_ble_eq_true rfl⟩) (hP.sub [] rfl) hK hN rfl rfl hl.1 (Nat.le_of_ble_eq_true rfl) ⟨Nat.zero_le _, Nat.zero_le _⟩ dX5_giveBack_86 ?_
      refine lv_if_ne (tgt := 96) hx hb dX5_giveBack_89 (by decide) (fun c11 => ?_) (fun c11 => ?_)
      · have hp := hp.1 c11
        refine lv_iload hx hb dX5_giveBack_96 (lv_at hl 0 rfl) ?_
        refine lv_if_ne (tgt := 105) hx hb dX5_giveBack_98 (by decide) (fun c10 => ?_) (fun c10 => ?_)
        · have hp := hp.1 c10
          refine lv_iconst (v := 0) hx hb dX5_giveBack_105 (by decide) ?_
          rw [eV106] at hp
          exact hp _ _ _ hP hD hS (lv_sub hl [1, 2, 3, 4] rfl)
        · have hp := hp.2 c10
          refine lv_iconst (v := 3) hx hb dX5_giveBack_101 (by decide) ?_
          refine lv_goto (tgt := 106) hx hb dX5_giveBack_102 (by decide) ?_
          rw [eV106] at hp
          exact hp _ _ _ hP hD hS (lv_sub hl [1, 2, 3, 4] rfl)
      · have hp := hp.2 c11
        refine lv_iconst (v := 2) hx hb dX5_giveBack_92 (by decide) ?_
        refine lv_goto (tgt := 106) hx hb dX5_giveBack_93 (by decide) ?_
        rw [eV106] at hp
        exact hp _ _ _ hP hD hS (lv_sub hl [1, 2, 3, 4] rfl)
    · have hp := hp.2 c12
      refine lv_iconst (v := 1) hx hb dX5_giveBack_81 (by decide) ?_
      refine lv_goto (tgt := 106) hx hb dX5_giveBack_82 (by decide) ?_
      rw [eV106] at hp
      exact hp _ _ _ hP hD hS (lv_sub hl [1, 2, 3, 4] rfl))
  have hp := hp (by
    intro gv t0 hp
    rw [eV106]
    intro H locs ls hP hD hS hl
    obtain ⟨r13, g14, hg14, hp⟩ := hp
    refine wr_Vi (As := [.int t0]) (rest := []) (w1 := []) (w2 := []) (ws1 := wX5 q cI g14) ⟨hx, hb, hml, hown, hts⟩ (c_X5_isFine l dC dI cI q gv t0 r13 g14 hg14 _) (cwV 1 hts gX5_giveBack_X5_isFine rfl rfl rfl (by decide +kernel) ⟨Nat.le_of_ble_eq_true rfl, Nat.le_of_ble_eq_true rfl⟩) hP hD hS hA hK hN (List.append_nil _).symm (List.append_nil _) rfl rfl rfl rfl hl.1 (Nat.le_of_ble_eq_true rfl) ⟨Nat.zero_le _, Nat.zero_le _⟩ dX5_giveBack_106 (fun H locs hP hD hS => ?_)
    refine lv_if_ne (tgt := 114) hx hb dX5_giveBack_109 (by decide) (fun c20 => ?_) (fun c20 => ?_)
    · have hp := hp.1 c20
      refine lv_aload_n hx hb dX5_giveBack_114 rfl (lv_at hl 0 rfl) ?_
      refine va_get (D := (dC, dI)) (ci := 5) (v := .ref (q 7)) (C := RX5) (T := TX5) (N := 33) hx hb hts iX5_giveBack_X5 hown hK hP 0 rfl rfl 9 (by decide) (hts _ kX5_giveBack_0) (fun _ h9 => h9) rfl dX5_giveBack_115 ?_
      refine lv_iload_n hx hb dX5_giveBack_118 rfl (lv_at hl 1 rfl) ?_
      refine va_iald hx hb hK hP 7 0 rfl rfl hp.1 dX5_giveBack_119 ?_
      have hp := hp.2
      refine lv_istore (lv' := [(6, .int (g14 7 a1.toNatClampNeg)), (0, .ref (q 0)), (1, .int a1), (2, .int a2), (3, .int a3)]) hx hb dX5_giveBack_120 hl (by decide) rfl (fun ls hl => ?_)
      refine lv_aload_n hx hb dX5_giveBack_122 rfl (lv_at hl 1 rfl) ?_
      refine va_get (D := (dC, dI)) (ci := 5) (v := .ref (q 14)) (C := RX5) (T := TX5) (N := 33) hx hb hts iX5_giveBack_X5 hown hK hP 0 rfl rfl 18 (by decide) (hts _ kX5_giveBack_2) (fun _ h9 => h9) rfl dX5_giveBack_123 ?_
      refine lv_iconst (v := 4) hx hb dX5_giveBack_126 (by decide) ?_
      refine lv_iload hx hb dX5_giveBack_127 (lv_at hl 0 rfl) ?_
      refine lv_imul hx hb dX5_giveBack_129 ?_
      refine lv_iload_n hx hb dX5_giveBack_130 rfl (lv_at hl 3 rfl) ?_
      refine lv_iadd hx hb dX5_giveBack_131 ?_
      refine lv_dup2_11 hx hb dX5_giveBack_132 rfl rfl ?_
      refine va_iald hx hb hK hP 14 0 rfl rfl hp.1 dX5_giveBack_133 ?_
      have hp := hp.2
      refine lv_iload_n hx hb dX5_giveBack_134 rfl (lv_at hl 4 rfl) ?_
      refine lv_isub hx hb dX5_giveBack_135 ?_
      refine va_iast hx hb hK hP hD hS 14 0 rfl rfl hp.1 dX5_giveBack_136 (fun H locs hP hD hS => ?_)
      have hp := hp.2
      obtain ⟨g15, eg15⟩ : ∃ z : St, z = st_set g14 14 (((4 : Int32) * (g14 7 a1.toNatClampNeg)) + a2).toNatClampNeg ((g14 14 (((4 : Int32) * (g14 7 a1.toNatClampNeg)) + a2).toNatClampNeg) - a3) := ⟨_, rfl⟩
      have hp := hp g15 eg15
      have hP : va_P (dC, dI) vwCl (wX5 q cI g15) H := by rw [eg15]; exact hP
      have hD : va_D A (wX5 q cI g15) := by rw [eg15]; exact hD
      refine lv_aload_n hx hb dX5_giveBack_137 rfl (lv_at hl 1 rfl) ?_
      refine va_get (D := (dC, dI)) (ci := 5) (v := .ref (q 7)) (C := RX5) (T := TX5) (N := 33) hx hb hts iX5_giveBack_X5 hown hK hP 0 rfl rfl 9 (by decide) (hts _ kX5_giveBack_0) (fun _ h9 => h9) rfl dX5_giveBack_138 ?_
      refine lv_iload_n hx hb dX5_giveBack_141 rfl (lv_at hl 2 rfl) ?_
      refine lv_iconst (v := -1) hx hb dX5_giveBack_142 (by decide) ?_
      refine va_iast hx hb hK hP hD hS 7 0 rfl rfl hp.1 dX5_giveBack_143 (fun H locs hP hD hS => ?_)
      have hp := hp.2
      obtain ⟨g16, eg16⟩ : ∃ z : St, z = st_set g15 7 a1.toNatClampNeg (-1 : Int32) := ⟨_, rfl⟩
      have hp := hp g16 eg16
      have hP : va_P (dC, dI) vwCl (wX5 q cI g16) H := by rw [eg16]; exact hP
      have hD : va_D A (wX5 q cI g16) := by rw [eg16]; exact hD
      refine lv_aload_n hx hb dX5_giveBack_144 rfl (lv_at hl 1 rfl) ?_
      refine va_get (D := (dC, dI)) (ci := 5) (v := .ref (q 13)) (C := RX5) (T := TX5) (N := 33) hx hb hts iX5_giveBack_X5 hown hK hP 0 rfl rfl 17 (by decide) (hts _ kX5_giveBack_3) (fun _ h9 => h9) rfl dX5_giveBack_145 ?_
      refine lv_iload hx hb dX5_giveBack_148 (lv_at hl 0 rfl) ?_
      refine lv_iconst (v := 0) hx hb dX5_giveBack_150 (by decide) ?_
      refine va_iast hx hb hK hP hD hS 13 0 rfl rfl hp.1 dX5_giveBack_151 (fun H locs hP hD hS => ?_)
      have hp := hp.2
      obtain ⟨g17, eg17⟩ : ∃ z : St, z = st_set g16 13 (g14 7 a1.toNatClampNeg).toNatClampNeg (0 : Int32) := ⟨_, rfl⟩
      have hp := hp g17 eg17
      have hP : va_P (dC, dI) vwCl (wX5 q cI g17) H := by rw [eg17]; exact hP
      have hD : va_D A (wX5 q cI g17) := by rw [eg17]; exact hD
      refine lv_aload_n hx hb dX5_giveBack_152 rfl (lv_at hl 1 rfl) ?_
      refine lv_iload hx hb dX5_giveBack_153 (lv_at hl 0 rfl) ?_
      obtain ⟨r18, g19, hg19, hp⟩ := hp
      refine wr_Vi (As := [.int (g14 7 a1.toNatClampNeg)]) (rest := []) (w1 := []) (w2 := []) (ws1 := wX5 q cI g19) ⟨hx, hb, hml, hown, hts⟩ (c_X5_closes l dC dI cI q g17 (g14 7 a1.toNatClampNeg) r18 g19 hg19 _) (cwV 1 hts gX5_giveBack_X5_closes rfl rfl rfl (by decide +kernel) ⟨Nat.le_of_ble_eq_true rfl, Nat.le_of_ble_eq_true rfl⟩) hP hD hS hA hK hN (List.append_nil _).symm (List.append_nil _) rfl rfl rfl rfl hl.1 (Nat.le_of_ble_eq_true rfl) ⟨Nat.zero_le _, Nat.zero_le _⟩ dX5_giveBack_155 (fun H locs hP hD hS => ?_)
      exact W.iret hx hb hr (fun t ht _ => ⟨⟨_, (), rfl, hp.1.symm, by rw [ht, hp.2]; exact hP, by rw [hp.2]; exact hD⟩, hS.F ht⟩) hS.2.2 dX5_giveBack_158
    · have hp := hp.2 c20
      refine lv_iconst (v := 0) hx hb dX5_giveBack_112 (by decide) ?_
      exact W.iret hx hb hr (fun t ht _ => ⟨⟨_, (), rfl, hp.1.symm, by rw [ht, hp.2]; exact hP, by rw [hp.2]; exact hD⟩, hS.F ht⟩) hS.2.2 dX5_giveBack_113)
  refine lv_aload_n hx hb dX5_giveBack_0 rfl (lv_at hl 0 rfl) ?_
  refine lv_iload_n hx hb dX5_giveBack_1 rfl (lv_at hl 1 rfl) ?_
  obtain ⟨r1, hr1, hp⟩ := hp
  refine ro_V (As := [.int a1]) (rest := []) ⟨hx, hb, hml, hown, hts⟩ (c_X5_isGroup l dC dI cI q g a1 r1 hr1) (cwV 1 hts gX5_giveBack_X5_isGroup rfl rfl rfl (by decide +kernel) ⟨Nat.le_of_ble_eq_true rfl, Nat.le_of_ble_eq_true rfl⟩) hP hK hN rfl rfl rfl rfl hl.1 (Nat.le_of_ble_eq_true rfl) ⟨Nat.zero_le _, Nat.zero_le _⟩ dX5_giveBack_2 ?_
  refine lv_if_eq (tgt := 19) hx hb dX5_giveBack_5 (by decide) (fun c4 => ?_) (fun c4 => ?_)
  · have hp := hp.1 c4
    rw [eV19] at hp
    exact hp _ _ _ hP hD hS (lv_sub hl [0, 1, 2, 3] rfl)
  · have hp := hp.2 c4
    refine lv_iload_n hx hb dX5_giveBack_8 rfl (lv_at hl 2 rfl) ?_
    obtain ⟨r2, hr2, hp⟩ := hp
    refine ro_S (As := [.int a2]) (rest := []) ⟨hx, hb, hml, hown, hts⟩ (c_X5_isKind l dC dI cI a2 r2 hr2) (va_cwS 1 hts gX5_giveBack_X5_isKind rfl rfl rfl (by decide +kernel) ⟨Nat.le_of_ble_eq_true rfl, Nat.le_of_ble_eq_true rfl⟩) (hP.sub [] rfl) hK hN rfl rfl hl.1 (Nat.le_of_ble_eq_true rfl) ⟨Nat.zero_le _, Nat.zero_le _⟩ dX5_giveBack_9 ?_
    refine lv_if_eq (tgt := 19) hx hb dX5_giveBack_12 (by decide) (fun c3 => ?_) (fun c3 => ?_)
    · have hp := hp.1 c3
      rw [eV19] at hp
      exact hp _ _ _ hP hD hS (lv_sub hl [0, 1, 2, 3] rfl)
    · have hp := hp.2 c3
      refine lv_iconst (v := 1) hx hb dX5_giveBack_15 (by decide) ?_
      refine lv_goto (tgt := 20) hx hb dX5_giveBack_16 (by decide) ?_
      rw [eV20] at hp
      exact hp _ _ _ hP hD hS (lv_sub hl [0, 1, 2, 3] rfl)
theorem kX5_found_0 : (.fieldLink RX5 46 "MeeplehouseModel" "where" "[I" : Cond) ∈ wsX5_found := by decide +kernel
theorem iX5_found_X5 : ∀ w ∈ wsX50, w ∈ wsX5_found := by decide +kernel
theorem kX5_found_2 : (.fieldLink RX5 49 "MeeplehouseModel" "pieces" "[I" : Cond) ∈ wsX5_found := by decide +kernel
theorem kX5_found_3 : (.fieldLink RX5 40 "MeeplehouseModel" "whole" "[I" : Cond) ∈ wsX5_found := by decide +kernel
theorem kX5_found_4 : (.fieldLink RX5 43 "MeeplehouseModel" "title" "[I" : Cond) ∈ wsX5_found := by decide +kernel
def P_X5_found (g : St) (a1 : Int32) (a2 : Int32) (a3 : Int32) (r : Int32) (g' : St) : Prop := ∀ V19 : St → Prop, ∀ V20 : St → Int32 → Prop, ∀ V74 : St → Int32 → Prop, ∀ V75 : St → Int32 → Int32 → Prop, ∀ V111 : St → Int32 → Prop, (∀ gv : St, (V20 gv (0 : Int32)) → V19 gv) → (∀ gv : St, ∀ t0 : Int32, ((t0 = 0 → (V74 gv t0)) ∧ (¬ t0 = 0 → (vp_in a1 16 ∧ ((¬ (gv 13 a1.toNatClampNeg) = 0 → (V74 gv t0)) ∧ ((gv 13 a1.toNatClampNeg) = 0 → (vp_in (((4 : Int32) * a1) + a2) 64 ∧ (vp_in a1 16 ∧ (vp_in (((4 : Int32) * (gv 12 a1.toNatClampNeg)) + a2) 32 ∧ ((0 < (lg_cmp (((gv 14 (((4 : Int32) * a1) + a2).toNatClampNeg).toInt64) + a3.toInt64) ((gv 11 (((4 : Int32) * (gv 12 a1.toNatClampNeg)) + a2).toNatClampNeg).toInt64)) → (V74 gv t0)) ∧ (¬ 0 < (lg_cmp (((gv 14 (((4 : Int32) * a1) + a2).toNatClampNeg).toInt64) + a3.toInt64) ((gv 11 (((4 : Int32) * (gv 12 a1.toNatClampNeg)) + a2).toNatClampNeg).toInt64)) → (V75 gv t0 (1 : Int32)))))))))))) → V20 gv t0) → (∀ gv : St, ∀ x4 : Int32, (V75 gv x4 (0 : Int32)) → V74 gv x4) → (∀ gv : St, ∀ x4 t0 : Int32, ((¬ x4 = 0 → (∃ r8 : Int32, P_X5_isIn a3 (1 : Int32) (9 : Int32) r8 ∧ ((¬ r8 = 0 → ((¬ t0 = 0 → (V111 gv (0 : Int32))) ∧ (t0 = 0 → (V111 gv (3 : Int32))))) ∧ (r8 = 0 → (V111 gv (2 : Int32)))))) ∧ (x4 = 0 → (V111 gv (1 : Int32)))) → V75 gv x4 t0) → (∀ gv : St, ∀ t0 : Int32, (∃ (r12 : Int32) (g13 : St), P_X5_isFine gv t0 r12 g13 ∧ ((¬ r12 = 0 → (vp_in (((4 : Int32) * a1) + a2) 64 ∧ (vp_in (((4 : Int32) * a1) + a2) 64 ∧ (∀ g14 : St, g14 = st_set g13 14 (((4 : Int32) * a1) + a2).toNatClampNeg ((g13 14 (((4 : Int32) * a1) + a2).toNatClampNeg) + a3) → (vp_in (((4 : Int32) * a1) + a2) 64 ∧ (r = (g14 14 (((4 : Int32) * a1) + a2).toNatClampNeg) ∧ g' = g14)))))) ∧ (r12 = 0 → (r = (0 : Int32) ∧ g' = g13)))) → V111 gv t0) → (∃ r1 : Int32, P_X5_isCopy g a1 r1 ∧ ((r1 = 0 → (V19 g)) ∧ (¬ r1 = 0 → (∃ r2 : Int32, P_X5_isKind a2 r2 ∧ ((r2 = 0 → (V19 g)) ∧ (¬ r2 = 0 → (V20 g (1 : Int32))))))))
set_option maxRecDepth 100000 in
set_option maxHeartbeats 4000000 in
theorem c_X5_found (l : Launch) (dC : Nat → ClassId) (dI : Nat → Nat → Nat) (cI : ClassId) (q : Nat → Nat) (g : St) (a1 : Int32) (a2 : Int32) (a3 : Int32) (r : Int32) (g' : St) (hp : P_X5_found g a1 a2 a3 r g') (sz : Nat) : Met l yX5_found wsX5_found { frames := 2, cells := 0, slots := 0, locals := 43 } (va_Pc [.ref (q 0), .int a1, .int a2, .int a3] (wpS (dC, dI) vwCl [(cI, .int)] (wX5 q cI g) sz)) (va_Qi (fun (r' : Int32) (_ : Unit) => r' = r) (fun _ t => wqB (dC, dI) vwCl (wX5 q cI g') (va_A (wX5 q cI g) sz) t) (va_A (wX5 q cI g) sz)) 0 0 (va_A (wX5 q cI g) sz) := by
  refine wr_met (fun A => (va_Qi (fun (r' : Int32) (_ : Unit) => r' = r) (fun _ t => wqB (dC, dI) vwCl (wX5 q cI g') A t) A)) (cc := cX5_found) (maxL := 6) (ret := (some .int)) (by decide) rfl (Nat.le_of_ble_eq_true rfl) ?_
  intro p e s m below meth c A hx hb hml hr hlk hts hown hnm hP hK hN hD hA ls hl
  have hS : va_S A s.heap s.heap [] := va_S.rf
  have hl : lv_has ls 6 [(0, .ref (q 0)), (1, .int a1), (2, .int a2), (3, .int a3)] := hl
  obtain ⟨V19, eV19⟩ : ∃ V : St → Prop, V = (fun gv => ∀ (H : Heap) (locs : List Loc) (ls : Array Slot), va_P (dC, dI) vwCl (wX5 q cI gv) H → va_D A (wX5 q cI gv) → va_S A s.heap H locs → lv_has ls 6 [(0, .ref (q 0)), (1, .int a1), (2, .int a2), (3, .int a3)] → W p l e { frames := 2, cells := 0, slots := 0, locals := 43 } s m ([.ref (q 0), .int a1, .int a2, .int a3] : List Value).toArray below meth c H locs 0 0 (MQ below (va_Qi (fun (r' : Int32) (_ : Unit) => r' = r) (fun _ t => wqB (dC, dI) vwCl (wX5 q cI g') A t) A) ([.ref (q 0), .int a1, .int a2, .int a3] : List Value).toArray s 0 0 A) (F0 m 19 ls [])) := ⟨_, rfl⟩
  obtain ⟨V20, eV20⟩ : ∃ V : St → Int32 → Prop, V = (fun gv t0 => ∀ (H : Heap) (locs : List Loc) (ls : Array Slot), va_P (dC, dI) vwCl (wX5 q cI gv) H → va_D A (wX5 q cI gv) → va_S A s.heap H locs → lv_has ls 6 [(0, .ref (q 0)), (1, .int a1), (2, .int a2), (3, .int a3)] → W p l e { frames := 2, cells := 0, slots := 0, locals := 43 } s m ([.ref (q 0), .int a1, .int a2, .int a3] : List Value).toArray below meth c H locs 0 0 (MQ below (va_Qi (fun (r' : Int32) (_ : Unit) => r' = r) (fun _ t => wqB (dC, dI) vwCl (wX5 q cI g') A t) A) ([.ref (q 0), .int a1, .int a2, .int a3] : List Value).toArray s 0 0 A) (F0 m 20 ls [.int t0])) := ⟨_, rfl⟩
  obtain ⟨V74, eV74⟩ : ∃ V : St → Int32 → Prop, V = (fun gv x4 => ∀ (H : Heap) (locs : List Loc) (ls : Array Slot), va_P (dC, dI) vwCl (wX5 q cI gv) H → va_D A (wX5 q cI gv) → va_S A s.heap H locs → lv_has ls 6 [(0, .ref (q 0)), (1, .int a1), (2, .int a2), (3, .int a3), (4, .int x4)] → W p l e { frames := 2, cells := 0, slots := 0, locals := 43 } s m ([.ref (q 0), .int a1, .int a2, .int a3] : List Value).toArray below meth c H locs 0 0 (MQ below (va_Qi (fun (r' : Int32) (_ : Unit) => r' = r) (fun _ t => wqB (dC, dI) vwCl (wX5 q cI g') A t) A) ([.ref (q 0), .int a1, .int a2, .int a3] : List Value).toArray s 0 0 A) (F0 m 74 ls [])) := ⟨_, rfl⟩
  obtain ⟨V75, eV75⟩ : ∃ V : St → Int32 → Int32 → Prop, V = (fun gv x4 t0 => ∀ (H : Heap) (locs : List Loc) (ls : Array Slot), va_P (dC, dI) vwCl (wX5 q cI gv) H → va_D A (wX5 q cI gv) → va_S A s.heap H locs → lv_has ls 6 [(0, .ref (q 0)), (1, .int a1), (2, .int a2), (3, .int a3), (4, .int x4)] → W p l e { frames := 2, cells := 0, slots := 0, locals := 43 } s m ([.ref (q 0), .int a1, .int a2, .int a3] : List Value).toArray below meth c H locs 0 0 (MQ below (va_Qi (fun (r' : Int32) (_ : Unit) => r' = r) (fun _ t => wqB (dC, dI) vwCl (wX5 q cI g') A t) A) ([.ref (q 0), .int a1, .int a2, .int a3] : List Value).toArray s 0 0 A) (F0 m 75 ls [.int t0])) := ⟨_, rfl⟩
  obtain ⟨V111, eV111⟩ : ∃ V : St → Int32 → Prop, V = (fun gv t0 => ∀ (H : Heap) (locs : List Loc) (ls : Array Slot), va_P (dC, dI) vwCl (wX5 q cI gv) H → va_D A (wX5 q cI gv) → va_S A s.heap H locs → lv_has ls 6 [(0, .ref (q 0)), (1, .int a1), (2, .int a2), (3, .int a3)] → W p l e { frames := 2, cells := 0, slots := 0, locals := 43 } s m ([.ref (q 0), .int a1, .int a2, .int a3] : List Value).toArray below meth c H locs 0 0 (MQ below (va_Qi (fun (r' : Int32) (_ : Unit) => r' = r) (fun _ t => wqB (dC, dI) vwCl (wX5 q cI g') A t) A) ([.ref (q 0), .int a1, .int a2, .int a3] : List Value).toArray s 0 0 A) (F0 m 111 ls [.int t0, .ref (q 0)])) := ⟨_, rfl⟩
  have hp := hp V19 V20 V74 V75 V111
  have hp := hp (by
    intro gv hp
    rw [eV19]
    intro H locs ls hP hD hS hl
    refine lv_iconst (v := 0) hx hb dX5_found_19 (by decide) ?_
    rw [eV20] at hp
    exact hp _ _ _ hP hD hS (lv_sub hl [0, 1, 2, 3] rfl))
  have hp := hp (by
    intro gv t0 hp
    rw [eV20]
    intro H locs ls hP hD hS hl
    refine lv_istore (lv' := [(4, .int t0), (0, .ref (q 0)), (1, .int a1), (2, .int a2), (3, .int a3)]) hx hb dX5_found_20 hl (by decide) rfl (fun ls hl => ?_)
    refine lv_iload hx hb dX5_found_22 (lv_at hl 0 rfl) ?_
    refine lv_if_eq (tgt := 74) hx hb dX5_found_24 (by decide) (fun c7 => ?_) (fun c7 => ?_)
    · have hp := hp.1 c7
      rw [eV74] at hp
      exact hp _ _ _ hP hD hS (lv_sub hl [1, 2, 3, 4, 0] rfl)
    · have hp := hp.2 c7
      refine lv_aload_n hx hb dX5_found_27 rfl (lv_at hl 1 rfl) ?_
      refine va_get (D := (dC, dI)) (ci := 5) (v := .ref (q 13)) (C := RX5) (T := TX5) (N := 33) hx hb hts iX5_found_X5 hown hK hP 0 rfl rfl 17 (by decide) (hts _ kX5_found_0) (fun _ h9 => h9) rfl dX5_found_28 ?_
      refine lv_iload_n hx hb dX5_found_31 rfl (lv_at hl 2 rfl) ?_
      refine va_iald hx hb hK hP 13 0 rfl rfl hp.1 dX5_found_32 ?_
      have hp := hp.2
      refine lv_if_ne (tgt := 74) hx hb dX5_found_33 (by decide) (fun c6 => ?_) (fun c6 => ?_)
      · have hp := hp.1 c6
        rw [eV74] at hp
        exact hp _ _ _ hP hD hS (lv_sub hl [1, 2, 3, 4, 0] rfl)
      · have hp := hp.2 c6
        refine lv_aload_n hx hb dX5_found_36 rfl (lv_at hl 1 rfl) ?_
        refine va_get (D := (dC, dI)) (ci := 5) (v := .ref (q 14)) (C := RX5) (T := TX5) (N := 33) hx hb hts iX5_found_X5 hown hK hP 0 rfl rfl 18 (by decide) (hts _ kX5_found_2) (fun _ h9 => h9) rfl dX5_found_37 ?_
        refine lv_iconst (v := 4) hx hb dX5_found_40 (by decide) ?_
        refine lv_iload_n hx hb dX5_found_41 rfl (lv_at hl 2 rfl) ?_
        refine lv_imul hx hb dX5_found_42 ?_
        refine lv_iload_n hx hb dX5_found_43 rfl (lv_at hl 3 rfl) ?_
        refine lv_iadd hx hb dX5_found_44 ?_
        refine va_iald hx hb hK hP 14 0 rfl rfl hp.1 dX5_found_45 ?_
        have hp := hp.2
        refine lv_i2l hx hb dX5_found_46 rfl ?_
        refine lv_iload_n hx hb dX5_found_47 rfl (lv_at hl 4 rfl) ?_
        refine lv_i2l hx hb dX5_found_48 rfl ?_
        refine lv_ladd hx hb dX5_found_49 ?_
        refine lv_aload_n hx hb dX5_found_50 rfl (lv_at hl 1 rfl) ?_
        refine va_get (D := (dC, dI)) (ci := 5) (v := .ref (q 11)) (C := RX5) (T := TX5) (N := 33) hx hb hts iX5_found_X5 hown hK hP 0 rfl rfl 14 (by decide) (hts _ kX5_found_3) (fun _ h9 => h9) rfl dX5_found_51 ?_
        refine lv_iconst (v := 4) hx hb dX5_found_54 (by decide) ?_
        refine lv_aload_n hx hb dX5_found_55 rfl (lv_at hl 1 rfl) ?_
        refine va_get (D := (dC, dI)) (ci := 5) (v := .ref (q 12)) (C := RX5) (T := TX5) (N := 33) hx hb hts iX5_found_X5 hown hK hP 0 rfl rfl 16 (by decide) (hts _ kX5_found_4) (fun _ h9 => h9) rfl dX5_found_56 ?_
        refine lv_iload_n hx hb dX5_found_59 rfl (lv_at hl 2 rfl) ?_
        refine va_iald hx hb hK hP 12 0 rfl rfl hp.1 dX5_found_60 ?_
        have hp := hp.2
        refine lv_imul hx hb dX5_found_61 ?_
        refine lv_iload_n hx hb dX5_found_62 rfl (lv_at hl 3 rfl) ?_
        refine lv_iadd hx hb dX5_found_63 ?_
        refine va_iald hx hb hK hP 11 0 rfl rfl hp.1 dX5_found_64 ?_
        have hp := hp.2
        refine lv_i2l hx hb dX5_found_65 rfl ?_
        refine W.lcmp hx hb dX5_found_66 ?_
        refine lv_if_gt (tgt := 74) hx hb dX5_found_67 (by decide) (fun c5 => ?_) (fun c5 => ?_)
        · have hp := hp.1 c5
          rw [eV74] at hp
          exact hp _ _ _ hP hD hS (lv_sub hl [1, 2, 3, 4, 0] rfl)
        · have hp := hp.2 c5
          refine lv_iconst (v := 1) hx hb dX5_found_70 (by decide) ?_
          refine lv_goto (tgt := 75) hx hb dX5_found_71 (by decide) ?_
          rw [eV75] at hp
          exact hp _ _ _ hP hD hS (lv_sub hl [1, 2, 3, 4, 0] rfl))
  have hp := hp (by
    intro gv x4 hp
    rw [eV74]
    intro H locs ls hP hD hS hl
    refine lv_iconst (v := 0) hx hb dX5_found_74 (by decide) ?_
    rw [eV75] at hp
    exact hp _ _ _ hP hD hS (lv_sub hl [0, 1, 2, 3, 4] rfl))
  have hp := hp (by
    intro gv x4 t0 hp
    rw [eV75]
    intro H locs ls hP hD hS hl
    refine lv_istore (lv' := [(5, .int t0), (0, .ref (q 0)), (1, .int a1), (2, .int a2), (3, .int a3), (4, .int x4)]) hx hb dX5_found_75 hl (by decide) rfl (fun ls hl => ?_)
    refine lv_aload_n hx hb dX5_found_77 rfl (lv_at hl 1 rfl) ?_
    refine lv_iload hx hb dX5_found_78 (lv_at hl 5 rfl) ?_
    refine lv_if_ne (tgt := 87) hx hb dX5_found_80 (by decide) (fun c11 => ?_) (fun c11 => ?_)
    · have hp := hp.1 c11
      refine lv_iload_n hx hb dX5_found_87 rfl (lv_at hl 4 rfl) ?_
      refine lv_iconst (v := 1) hx hb dX5_found_88 (by decide) ?_
      refine lv_bipush (v := 9) hx hb dX5_found_89 (by decide) ?_
      obtain ⟨r8, hr8, hp⟩ := hp
      refine ro_S (As := [.int a3, .int (1 : Int32), .int (9 : Int32)]) (rest := [.ref (q 0)]) ⟨hx, hb, hml, hown, hts⟩ (c_X5_isIn l dC dI cI a3 (1 : Int32) (9 : Int32) r8 hr8) (va_cwS 3 hts gX5_found_X5_isIn rfl rfl rfl (by decide +kernel) ⟨Nat.le_of_ble_eq_true rfl, Nat.le_of_ble_eq_true rfl⟩) (hP.sub [] rfl) hK hN rfl rfl hl.1 (Nat.le_of_ble_eq_true rfl) ⟨Nat.zero_le _, Nat.zero_le _⟩ dX5_found_91 ?_
      refine lv_if_ne (tgt := 101) hx hb dX5_found_94 (by decide) (fun c10 => ?_) (fun c10 => ?_)
      · have hp := hp.1 c10
        refine lv_iload hx hb dX5_found_101 (lv_at hl 0 rfl) ?_
        refine lv_if_ne (tgt := 110) hx hb dX5_found_103 (by decide) (fun c9 => ?_) (fun c9 => ?_)
        · have hp := hp.1 c9
          refine lv_iconst (v := 0) hx hb dX5_found_110 (by decide) ?_
          rw [eV111] at hp
          exact hp _ _ _ hP hD hS (lv_sub hl [1, 2, 3, 4] rfl)
        · have hp := hp.2 c9
          refine lv_iconst (v := 3) hx hb dX5_found_106 (by decide) ?_
          refine lv_goto (tgt := 111) hx hb dX5_found_107 (by decide) ?_
          rw [eV111] at hp
          exact hp _ _ _ hP hD hS (lv_sub hl [1, 2, 3, 4] rfl)
      · have hp := hp.2 c10
        refine lv_iconst (v := 2) hx hb dX5_found_97 (by decide) ?_
        refine lv_goto (tgt := 111) hx hb dX5_found_98 (by decide) ?_
        rw [eV111] at hp
        exact hp _ _ _ hP hD hS (lv_sub hl [1, 2, 3, 4] rfl)
    · have hp := hp.2 c11
      refine lv_iconst (v := 1) hx hb dX5_found_83 (by decide) ?_
      refine lv_goto (tgt := 111) hx hb dX5_found_84 (by decide) ?_
      rw [eV111] at hp
      exact hp _ _ _ hP hD hS (lv_sub hl [1, 2, 3, 4] rfl))
  have hp := hp (by
    intro gv t0 hp
    rw [eV111]
    intro H locs ls hP hD hS hl
    obtain ⟨r12, g13, hg13, hp⟩ := hp
    refine wr_Vi (As := [.int t0]) (rest := []) (w1 := []) (w2 := []) (ws1 := wX5 q cI g13) ⟨hx, hb, hml, hown, hts⟩ (c_X5_isFine l dC dI cI q gv t0 r12 g13 hg13 _) (cwV 1 hts gX5_found_X5_isFine rfl rfl rfl (by decide +kernel) ⟨Nat.le_of_ble_eq_true rfl, Nat.le_of_ble_eq_true rfl⟩) hP hD hS hA hK hN (List.append_nil _).symm (List.append_nil _) rfl rfl rfl rfl hl.1 (Nat.le_of_ble_eq_true rfl) ⟨Nat.zero_le _, Nat.zero_le _⟩ dX5_found_111 (fun H locs hP hD hS => ?_)
    refine lv_if_ne (tgt := 119) hx hb dX5_found_114 (by decide) (fun c15 => ?_) (fun c15 => ?_)
    · have hp := hp.1 c15
      refine lv_aload_n hx hb dX5_found_119 rfl (lv_at hl 0 rfl) ?_
      refine va_get (D := (dC, dI)) (ci := 5) (v := .ref (q 14)) (C := RX5) (T := TX5) (N := 33) hx hb hts iX5_found_X5 hown hK hP 0 rfl rfl 18 (by decide) (hts _ kX5_found_2) (fun _ h9 => h9) rfl dX5_found_120 ?_
      refine lv_iconst (v := 4) hx hb dX5_found_123 (by decide) ?_
      refine lv_iload_n hx hb dX5_found_124 rfl (lv_at hl 1 rfl) ?_
      refine lv_imul hx hb dX5_found_125 ?_
      refine lv_iload_n hx hb dX5_found_126 rfl (lv_at hl 2 rfl) ?_
      refine lv_iadd hx hb dX5_found_127 ?_
      refine lv_dup2_11 hx hb dX5_found_128 rfl rfl ?_
      refine va_iald hx hb hK hP 14 0 rfl rfl hp.1 dX5_found_129 ?_
      have hp := hp.2
      refine lv_iload_n hx hb dX5_found_130 rfl (lv_at hl 3 rfl) ?_
      refine lv_iadd hx hb dX5_found_131 ?_
      refine va_iast hx hb hK hP hD hS 14 0 rfl rfl hp.1 dX5_found_132 (fun H locs hP hD hS => ?_)
      have hp := hp.2
      obtain ⟨g14, eg14⟩ : ∃ z : St, z = st_set g13 14 (((4 : Int32) * a1) + a2).toNatClampNeg ((g13 14 (((4 : Int32) * a1) + a2).toNatClampNeg) + a3) := ⟨_, rfl⟩
      have hp := hp g14 eg14
      have hP : va_P (dC, dI) vwCl (wX5 q cI g14) H := by rw [eg14]; exact hP
      have hD : va_D A (wX5 q cI g14) := by rw [eg14]; exact hD
      refine lv_aload_n hx hb dX5_found_133 rfl (lv_at hl 0 rfl) ?_
      refine va_get (D := (dC, dI)) (ci := 5) (v := .ref (q 14)) (C := RX5) (T := TX5) (N := 33) hx hb hts iX5_found_X5 hown hK hP 0 rfl rfl 18 (by decide) (hts _ kX5_found_2) (fun _ h9 => h9) rfl dX5_found_134 ?_
      refine lv_iconst (v := 4) hx hb dX5_found_137 (by decide) ?_
      refine lv_iload_n hx hb dX5_found_138 rfl (lv_at hl 1 rfl) ?_
      refine lv_imul hx hb dX5_found_139 ?_
      refine lv_iload_n hx hb dX5_found_140 rfl (lv_at hl 2 rfl) ?_
      refine lv_iadd hx hb dX5_found_141 ?_
      refine va_iald hx hb hK hP 14 0 rfl rfl hp.1 dX5_found_142 ?_
      have hp := hp.2
      exact W.iret hx hb hr (fun t ht _ => ⟨⟨_, (), rfl, hp.1.symm, by rw [ht, hp.2]; exact hP, by rw [hp.2]; exact hD⟩, hS.F ht⟩) hS.2.2 dX5_found_143
    · have hp := hp.2 c15
      refine lv_iconst (v := 0) hx hb dX5_found_117 (by decide) ?_
      exact W.iret hx hb hr (fun t ht _ => ⟨⟨_, (), rfl, hp.1.symm, by rw [ht, hp.2]; exact hP, by rw [hp.2]; exact hD⟩, hS.F ht⟩) hS.2.2 dX5_found_118)
  refine lv_aload_n hx hb dX5_found_0 rfl (lv_at hl 0 rfl) ?_
  refine lv_iload_n hx hb dX5_found_1 rfl (lv_at hl 1 rfl) ?_
  obtain ⟨r1, hr1, hp⟩ := hp
  refine ro_V (As := [.int a1]) (rest := []) ⟨hx, hb, hml, hown, hts⟩ (c_X5_isCopy l dC dI cI q g a1 r1 hr1) (cwV 1 hts gX5_found_X5_isCopy rfl rfl rfl (by decide +kernel) ⟨Nat.le_of_ble_eq_true rfl, Nat.le_of_ble_eq_true rfl⟩) hP hK hN rfl rfl rfl rfl hl.1 (Nat.le_of_ble_eq_true rfl) ⟨Nat.zero_le _, Nat.zero_le _⟩ dX5_found_2 ?_
  refine lv_if_eq (tgt := 19) hx hb dX5_found_5 (by decide) (fun c4 => ?_) (fun c4 => ?_)
  · have hp := hp.1 c4
    rw [eV19] at hp
    exact hp _ _ _ hP hD hS (lv_sub hl [0, 1, 2, 3] rfl)
  · have hp := hp.2 c4
    refine lv_iload_n hx hb dX5_found_8 rfl (lv_at hl 2 rfl) ?_
    obtain ⟨r2, hr2, hp⟩ := hp
    refine ro_S (As := [.int a2]) (rest := []) ⟨hx, hb, hml, hown, hts⟩ (c_X5_isKind l dC dI cI a2 r2 hr2) (va_cwS 1 hts gX5_found_X5_isKind rfl rfl rfl (by decide +kernel) ⟨Nat.le_of_ble_eq_true rfl, Nat.le_of_ble_eq_true rfl⟩) (hP.sub [] rfl) hK hN rfl rfl hl.1 (Nat.le_of_ble_eq_true rfl) ⟨Nat.zero_le _, Nat.zero_le _⟩ dX5_found_9 ?_
    refine lv_if_eq (tgt := 19) hx hb dX5_found_12 (by decide) (fun c3 => ?_) (fun c3 => ?_)
    · have hp := hp.1 c3
      rw [eV19] at hp
      exact hp _ _ _ hP hD hS (lv_sub hl [0, 1, 2, 3] rfl)
    · have hp := hp.2 c3
      refine lv_iconst (v := 1) hx hb dX5_found_15 (by decide) ?_
      refine lv_goto (tgt := 20) hx hb dX5_found_16 (by decide) ?_
      rw [eV20] at hp
      exact hp _ _ _ hP hD hS (lv_sub hl [0, 1, 2, 3] rfl)
theorem kX5_pieces_0 : (.fieldLink RX5 49 "MeeplehouseModel" "pieces" "[I" : Cond) ∈ wsX5_pieces := by decide +kernel
theorem iX5_pieces_X5 : ∀ w ∈ wsX50, w ∈ wsX5_pieces := by decide +kernel
def P_X5_pieces (g : St) (a1 : Int32) (a2 : Int32) (r : Int32) (g' : St) : Prop := ∀ V20 : St → Prop, ∀ V21 : St → Int32 → Prop, (∀ gv : St, (V21 gv (1 : Int32)) → V20 gv) → (∀ gv : St, ∀ t0 : Int32, (∃ (r5 : Int32) (g6 : St), P_X5_isFine gv t0 r5 g6 ∧ ((r5 = 0 → (r = (0 : Int32) ∧ g' = g6)) ∧ (¬ r5 = 0 → (vp_in (((4 : Int32) * a1) + a2) 64 ∧ (r = (g6 14 (((4 : Int32) * a1) + a2).toNatClampNeg) ∧ g' = g6))))) → V21 gv t0) → (∃ r1 : Int32, P_X5_isCopy g a1 r1 ∧ ((r1 = 0 → (V20 g)) ∧ (¬ r1 = 0 → (∃ r2 : Int32, P_X5_isKind a2 r2 ∧ ((r2 = 0 → (V20 g)) ∧ (¬ r2 = 0 → (V21 g (0 : Int32))))))))
set_option maxRecDepth 100000 in
set_option maxHeartbeats 4000000 in
theorem c_X5_pieces (l : Launch) (dC : Nat → ClassId) (dI : Nat → Nat → Nat) (cI : ClassId) (q : Nat → Nat) (g : St) (a1 : Int32) (a2 : Int32) (r : Int32) (g' : St) (hp : P_X5_pieces g a1 a2 r g') (sz : Nat) : Met l yX5_pieces wsX5_pieces { frames := 2, cells := 0, slots := 0, locals := 43 } (va_Pc [.ref (q 0), .int a1, .int a2] (wpS (dC, dI) vwCl [(cI, .int)] (wX5 q cI g) sz)) (va_Qi (fun (r' : Int32) (_ : Unit) => r' = r) (fun _ t => wqB (dC, dI) vwCl (wX5 q cI g') (va_A (wX5 q cI g) sz) t) (va_A (wX5 q cI g) sz)) 0 0 (va_A (wX5 q cI g) sz) := by
  refine wr_met (fun A => (va_Qi (fun (r' : Int32) (_ : Unit) => r' = r) (fun _ t => wqB (dC, dI) vwCl (wX5 q cI g') A t) A)) (cc := cX5_pieces) (maxL := 3) (ret := (some .int)) (by decide) rfl (Nat.le_of_ble_eq_true rfl) ?_
  intro p e s m below meth c A hx hb hml hr hlk hts hown hnm hP hK hN hD hA ls hl
  have hS : va_S A s.heap s.heap [] := va_S.rf
  have hl : lv_has ls 3 [(0, .ref (q 0)), (1, .int a1), (2, .int a2)] := hl
  obtain ⟨V20, eV20⟩ : ∃ V : St → Prop, V = (fun gv => ∀ (H : Heap) (locs : List Loc) (ls : Array Slot), va_P (dC, dI) vwCl (wX5 q cI gv) H → va_D A (wX5 q cI gv) → va_S A s.heap H locs → lv_has ls 3 [(0, .ref (q 0)), (1, .int a1), (2, .int a2)] → W p l e { frames := 2, cells := 0, slots := 0, locals := 43 } s m ([.ref (q 0), .int a1, .int a2] : List Value).toArray below meth c H locs 0 0 (MQ below (va_Qi (fun (r' : Int32) (_ : Unit) => r' = r) (fun _ t => wqB (dC, dI) vwCl (wX5 q cI g') A t) A) ([.ref (q 0), .int a1, .int a2] : List Value).toArray s 0 0 A) (F0 m 20 ls [.ref (q 0)])) := ⟨_, rfl⟩
  obtain ⟨V21, eV21⟩ : ∃ V : St → Int32 → Prop, V = (fun gv t0 => ∀ (H : Heap) (locs : List Loc) (ls : Array Slot), va_P (dC, dI) vwCl (wX5 q cI gv) H → va_D A (wX5 q cI gv) → va_S A s.heap H locs → lv_has ls 3 [(0, .ref (q 0)), (1, .int a1), (2, .int a2)] → W p l e { frames := 2, cells := 0, slots := 0, locals := 43 } s m ([.ref (q 0), .int a1, .int a2] : List Value).toArray below meth c H locs 0 0 (MQ below (va_Qi (fun (r' : Int32) (_ : Unit) => r' = r) (fun _ t => wqB (dC, dI) vwCl (wX5 q cI g') A t) A) ([.ref (q 0), .int a1, .int a2] : List Value).toArray s 0 0 A) (F0 m 21 ls [.int t0, .ref (q 0)])) := ⟨_, rfl⟩
  have hp := hp V20 V21
  have hp := hp (by
    intro gv hp
    rw [eV20]
    intro H locs ls hP hD hS hl
    refine lv_iconst (v := 1) hx hb dX5_pieces_20 (by decide) ?_
    rw [eV21] at hp
    exact hp _ _ _ hP hD hS (lv_sub hl [0, 1, 2] rfl))
  have hp := hp (by
    intro gv t0 hp
    rw [eV21]
    intro H locs ls hP hD hS hl
    obtain ⟨r5, g6, hg6, hp⟩ := hp
    refine wr_Vi (As := [.int t0]) (rest := []) (w1 := []) (w2 := []) (ws1 := wX5 q cI g6) ⟨hx, hb, hml, hown, hts⟩ (c_X5_isFine l dC dI cI q gv t0 r5 g6 hg6 _) (cwV 1 hts gX5_pieces_X5_isFine rfl rfl rfl (by decide +kernel) ⟨Nat.le_of_ble_eq_true rfl, Nat.le_of_ble_eq_true rfl⟩) hP hD hS hA hK hN (List.append_nil _).symm (List.append_nil _) rfl rfl rfl rfl hl.1 (Nat.le_of_ble_eq_true rfl) ⟨Nat.zero_le _, Nat.zero_le _⟩ dX5_pieces_21 (fun H locs hP hD hS => ?_)
    refine lv_if_eq (tgt := 40) hx hb dX5_pieces_24 (by decide) (fun c7 => ?_) (fun c7 => ?_)
    · have hp := hp.1 c7
      refine lv_iconst (v := 0) hx hb dX5_pieces_40 (by decide) ?_
      exact W.iret hx hb hr (fun t ht _ => ⟨⟨_, (), rfl, hp.1.symm, by rw [ht, hp.2]; exact hP, by rw [hp.2]; exact hD⟩, hS.F ht⟩) hS.2.2 dX5_pieces_41
    · have hp := hp.2 c7
      refine lv_aload_n hx hb dX5_pieces_27 rfl (lv_at hl 0 rfl) ?_
      refine va_get (D := (dC, dI)) (ci := 5) (v := .ref (q 14)) (C := RX5) (T := TX5) (N := 33) hx hb hts iX5_pieces_X5 hown hK hP 0 rfl rfl 18 (by decide) (hts _ kX5_pieces_0) (fun _ h9 => h9) rfl dX5_pieces_28 ?_
      refine lv_iconst (v := 4) hx hb dX5_pieces_31 (by decide) ?_
      refine lv_iload_n hx hb dX5_pieces_32 rfl (lv_at hl 1 rfl) ?_
      refine lv_imul hx hb dX5_pieces_33 ?_
      refine lv_iload_n hx hb dX5_pieces_34 rfl (lv_at hl 2 rfl) ?_
      refine lv_iadd hx hb dX5_pieces_35 ?_
      refine va_iald hx hb hK hP 14 0 rfl rfl hp.1 dX5_pieces_36 ?_
      have hp := hp.2
      refine lv_goto (tgt := 41) hx hb dX5_pieces_37 (by decide) ?_
      exact W.iret hx hb hr (fun t ht _ => ⟨⟨_, (), rfl, hp.1.symm, by rw [ht, hp.2]; exact hP, by rw [hp.2]; exact hD⟩, hS.F ht⟩) hS.2.2 dX5_pieces_41)
  refine lv_aload_n hx hb dX5_pieces_0 rfl (lv_at hl 0 rfl) ?_
  refine lv_aload_n hx hb dX5_pieces_1 rfl (lv_at hl 0 rfl) ?_
  refine lv_iload_n hx hb dX5_pieces_2 rfl (lv_at hl 1 rfl) ?_
  obtain ⟨r1, hr1, hp⟩ := hp
  refine ro_V (As := [.int a1]) (rest := [.ref (q 0)]) ⟨hx, hb, hml, hown, hts⟩ (c_X5_isCopy l dC dI cI q g a1 r1 hr1) (cwV 1 hts gX5_pieces_X5_isCopy rfl rfl rfl (by decide +kernel) ⟨Nat.le_of_ble_eq_true rfl, Nat.le_of_ble_eq_true rfl⟩) hP hK hN rfl rfl rfl rfl hl.1 (Nat.le_of_ble_eq_true rfl) ⟨Nat.zero_le _, Nat.zero_le _⟩ dX5_pieces_3 ?_
  refine lv_if_eq (tgt := 20) hx hb dX5_pieces_6 (by decide) (fun c4 => ?_) (fun c4 => ?_)
  · have hp := hp.1 c4
    rw [eV20] at hp
    exact hp _ _ _ hP hD hS (lv_sub hl [0, 1, 2] rfl)
  · have hp := hp.2 c4
    refine lv_iload_n hx hb dX5_pieces_9 rfl (lv_at hl 2 rfl) ?_
    obtain ⟨r2, hr2, hp⟩ := hp
    refine ro_S (As := [.int a2]) (rest := [.ref (q 0)]) ⟨hx, hb, hml, hown, hts⟩ (c_X5_isKind l dC dI cI a2 r2 hr2) (va_cwS 1 hts gX5_pieces_X5_isKind rfl rfl rfl (by decide +kernel) ⟨Nat.le_of_ble_eq_true rfl, Nat.le_of_ble_eq_true rfl⟩) (hP.sub [] rfl) hK hN rfl rfl hl.1 (Nat.le_of_ble_eq_true rfl) ⟨Nat.zero_le _, Nat.zero_le _⟩ dX5_pieces_10 ?_
    refine lv_if_eq (tgt := 20) hx hb dX5_pieces_13 (by decide) (fun c3 => ?_) (fun c3 => ?_)
    · have hp := hp.1 c3
      rw [eV20] at hp
      exact hp _ _ _ hP hD hS (lv_sub hl [0, 1, 2] rfl)
    · have hp := hp.2 c3
      refine lv_iconst (v := 0) hx hb dX5_pieces_16 (by decide) ?_
      refine lv_goto (tgt := 21) hx hb dX5_pieces_17 (by decide) ?_
      rw [eV21] at hp
      exact hp _ _ _ hP hD hS (lv_sub hl [0, 1, 2] rfl)
theorem kX5_stateOf_0 : (.fieldLink RX5 46 "MeeplehouseModel" "where" "[I" : Cond) ∈ wsX5_stateOf := by decide +kernel
theorem iX5_stateOf_X5 : ∀ w ∈ wsX50, w ∈ wsX5_stateOf := by decide +kernel
def P_X5_stateOf (g : St) (a1 : Int32) (r : Int32) (g' : St) : Prop := ∀ V14 : St → Int32 → Prop, (∀ gv : St, ∀ t0 : Int32, (∃ (r3 : Int32) (g4 : St), P_X5_isFine gv t0 r3 g4 ∧ ((r3 = 0 → (r = (0 : Int32) ∧ g' = g4)) ∧ (¬ r3 = 0 → (vp_in a1 16 ∧ (r = (g4 13 a1.toNatClampNeg) ∧ g' = g4))))) → V14 gv t0) → (∃ r1 : Int32, P_X5_isCopy g a1 r1 ∧ ((r1 = 0 → (V14 g (1 : Int32))) ∧ (¬ r1 = 0 → (V14 g (0 : Int32)))))
set_option maxRecDepth 100000 in
set_option maxHeartbeats 4000000 in
theorem c_X5_stateOf (l : Launch) (dC : Nat → ClassId) (dI : Nat → Nat → Nat) (cI : ClassId) (q : Nat → Nat) (g : St) (a1 : Int32) (r : Int32) (g' : St) (hp : P_X5_stateOf g a1 r g') (sz : Nat) : Met l yX5_stateOf wsX5_stateOf { frames := 2, cells := 0, slots := 0, locals := 43 } (va_Pc [.ref (q 0), .int a1] (wpS (dC, dI) vwCl [(cI, .int)] (wX5 q cI g) sz)) (va_Qi (fun (r' : Int32) (_ : Unit) => r' = r) (fun _ t => wqB (dC, dI) vwCl (wX5 q cI g') (va_A (wX5 q cI g) sz) t) (va_A (wX5 q cI g) sz)) 0 0 (va_A (wX5 q cI g) sz) := by
  refine wr_met (fun A => (va_Qi (fun (r' : Int32) (_ : Unit) => r' = r) (fun _ t => wqB (dC, dI) vwCl (wX5 q cI g') A t) A)) (cc := cX5_stateOf) (maxL := 2) (ret := (some .int)) (by decide) rfl (Nat.le_of_ble_eq_true rfl) ?_
  intro p e s m below meth c A hx hb hml hr hlk hts hown hnm hP hK hN hD hA ls hl
  have hS : va_S A s.heap s.heap [] := va_S.rf
  have hl : lv_has ls 2 [(0, .ref (q 0)), (1, .int a1)] := hl
  obtain ⟨V14, eV14⟩ : ∃ V : St → Int32 → Prop, V = (fun gv t0 => ∀ (H : Heap) (locs : List Loc) (ls : Array Slot), va_P (dC, dI) vwCl (wX5 q cI gv) H → va_D A (wX5 q cI gv) → va_S A s.heap H locs → lv_has ls 2 [(0, .ref (q 0)), (1, .int a1)] → W p l e { frames := 2, cells := 0, slots := 0, locals := 43 } s m ([.ref (q 0), .int a1] : List Value).toArray below meth c H locs 0 0 (MQ below (va_Qi (fun (r' : Int32) (_ : Unit) => r' = r) (fun _ t => wqB (dC, dI) vwCl (wX5 q cI g') A t) A) ([.ref (q 0), .int a1] : List Value).toArray s 0 0 A) (F0 m 14 ls [.int t0, .ref (q 0)])) := ⟨_, rfl⟩
  have hp := hp V14
  have hp := hp (by
    intro gv t0 hp
    rw [eV14]
    intro H locs ls hP hD hS hl
    obtain ⟨r3, g4, hg4, hp⟩ := hp
    refine wr_Vi (As := [.int t0]) (rest := []) (w1 := []) (w2 := []) (ws1 := wX5 q cI g4) ⟨hx, hb, hml, hown, hts⟩ (c_X5_isFine l dC dI cI q gv t0 r3 g4 hg4 _) (cwV 1 hts gX5_stateOf_X5_isFine rfl rfl rfl (by decide +kernel) ⟨Nat.le_of_ble_eq_true rfl, Nat.le_of_ble_eq_true rfl⟩) hP hD hS hA hK hN (List.append_nil _).symm (List.append_nil _) rfl rfl rfl rfl hl.1 (Nat.le_of_ble_eq_true rfl) ⟨Nat.zero_le _, Nat.zero_le _⟩ dX5_stateOf_14 (fun H locs hP hD hS => ?_)
    refine lv_if_eq (tgt := 29) hx hb dX5_stateOf_17 (by decide) (fun c5 => ?_) (fun c5 => ?_)
    · have hp := hp.1 c5
      refine lv_iconst (v := 0) hx hb dX5_stateOf_29 (by decide) ?_
      exact W.iret hx hb hr (fun t ht _ => ⟨⟨_, (), rfl, hp.1.symm, by rw [ht, hp.2]; exact hP, by rw [hp.2]; exact hD⟩, hS.F ht⟩) hS.2.2 dX5_stateOf_30
    · have hp := hp.2 c5
      refine lv_aload_n hx hb dX5_stateOf_20 rfl (lv_at hl 0 rfl) ?_
      refine va_get (D := (dC, dI)) (ci := 5) (v := .ref (q 13)) (C := RX5) (T := TX5) (N := 33) hx hb hts iX5_stateOf_X5 hown hK hP 0 rfl rfl 17 (by decide) (hts _ kX5_stateOf_0) (fun _ h9 => h9) rfl dX5_stateOf_21 ?_
      refine lv_iload_n hx hb dX5_stateOf_24 rfl (lv_at hl 1 rfl) ?_
      refine va_iald hx hb hK hP 13 0 rfl rfl hp.1 dX5_stateOf_25 ?_
      have hp := hp.2
      refine lv_goto (tgt := 30) hx hb dX5_stateOf_26 (by decide) ?_
      exact W.iret hx hb hr (fun t ht _ => ⟨⟨_, (), rfl, hp.1.symm, by rw [ht, hp.2]; exact hP, by rw [hp.2]; exact hD⟩, hS.F ht⟩) hS.2.2 dX5_stateOf_30)
  refine lv_aload_n hx hb dX5_stateOf_0 rfl (lv_at hl 0 rfl) ?_
  refine lv_aload_n hx hb dX5_stateOf_1 rfl (lv_at hl 0 rfl) ?_
  refine lv_iload_n hx hb dX5_stateOf_2 rfl (lv_at hl 1 rfl) ?_
  obtain ⟨r1, hr1, hp⟩ := hp
  refine ro_V (As := [.int a1]) (rest := [.ref (q 0)]) ⟨hx, hb, hml, hown, hts⟩ (c_X5_isCopy l dC dI cI q g a1 r1 hr1) (cwV 1 hts gX5_stateOf_X5_isCopy rfl rfl rfl (by decide +kernel) ⟨Nat.le_of_ble_eq_true rfl, Nat.le_of_ble_eq_true rfl⟩) hP hK hN rfl rfl rfl rfl hl.1 (Nat.le_of_ble_eq_true rfl) ⟨Nat.zero_le _, Nat.zero_le _⟩ dX5_stateOf_3 ?_
  refine lv_if_eq (tgt := 13) hx hb dX5_stateOf_6 (by decide) (fun c2 => ?_) (fun c2 => ?_)
  · have hp := hp.1 c2
    refine lv_iconst (v := 1) hx hb dX5_stateOf_13 (by decide) ?_
    rw [eV14] at hp
    exact hp _ _ _ hP hD hS (lv_sub hl [0, 1] rfl)
  · have hp := hp.2 c2
    refine lv_iconst (v := 0) hx hb dX5_stateOf_9 (by decide) ?_
    refine lv_goto (tgt := 14) hx hb dX5_stateOf_10 (by decide) ?_
    rw [eV14] at hp
    exact hp _ _ _ hP hD hS (lv_sub hl [0, 1] rfl)
def P_X5_lenders (g : St) (a1 : Int32) (r : Int32) (g' : St) : Prop := ∀ V14 : St → Int32 → Prop, (∀ gv : St, ∀ t0 : Int32, (∃ (r3 : Int32) (g4 : St), P_X5_isFine gv t0 r3 g4 ∧ ((r3 = 0 → (r = (0 : Int32) ∧ g' = g4)) ∧ (¬ r3 = 0 → (∃ r5 : Int32, P_X5_lendersOf g4 a1 r5 ∧ (r = r5 ∧ g' = g4))))) → V14 gv t0) → (∃ r1 : Int32, P_X5_isCopy g a1 r1 ∧ ((r1 = 0 → (V14 g (1 : Int32))) ∧ (¬ r1 = 0 → (V14 g (0 : Int32)))))
set_option maxRecDepth 100000 in
set_option maxHeartbeats 4000000 in
theorem c_X5_lenders (l : Launch) (dC : Nat → ClassId) (dI : Nat → Nat → Nat) (cI : ClassId) (q : Nat → Nat) (g : St) (a1 : Int32) (r : Int32) (g' : St) (hp : P_X5_lenders g a1 r g') (sz : Nat) : Met l yX5_lenders wsX5_lenders { frames := 2, cells := 0, slots := 0, locals := 48 } (va_Pc [.ref (q 0), .int a1] (wpS (dC, dI) vwCl [(cI, .int)] (wX5 q cI g) sz)) (va_Qi (fun (r' : Int32) (_ : Unit) => r' = r) (fun _ t => wqB (dC, dI) vwCl (wX5 q cI g') (va_A (wX5 q cI g) sz) t) (va_A (wX5 q cI g) sz)) 0 0 (va_A (wX5 q cI g) sz) := by
  refine wr_met (fun A => (va_Qi (fun (r' : Int32) (_ : Unit) => r' = r) (fun _ t => wqB (dC, dI) vwCl (wX5 q cI g') A t) A)) (cc := cX5_lenders) (maxL := 2) (ret := (some .int)) (by decide) rfl (Nat.le_of_ble_eq_true rfl) ?_
  intro p e s m below meth c A hx hb hml hr hlk hts hown hnm hP hK hN hD hA ls hl
  have hS : va_S A s.heap s.heap [] := va_S.rf
  have hl : lv_has ls 2 [(0, .ref (q 0)), (1, .int a1)] := hl
  obtain ⟨V14, eV14⟩ : ∃ V : St → Int32 → Prop, V = (fun gv t0 => ∀ (H : Heap) (locs : List Loc) (ls : Array Slot), va_P (dC, dI) vwCl (wX5 q cI gv) H → va_D A (wX5 q cI gv) → va_S A s.heap H locs → lv_has ls 2 [(0, .ref (q 0)), (1, .int a1)] → W p l e { frames := 2, cells := 0, slots := 0, locals := 48 } s m ([.ref (q 0), .int a1] : List Value).toArray below meth c H locs 0 0 (MQ below (va_Qi (fun (r' : Int32) (_ : Unit) => r' = r) (fun _ t => wqB (dC, dI) vwCl (wX5 q cI g') A t) A) ([.ref (q 0), .int a1] : List Value).toArray s 0 0 A) (F0 m 14 ls [.int t0, .ref (q 0)])) := ⟨_, rfl⟩
  have hp := hp V14
  have hp := hp (by
    intro gv t0 hp
    rw [eV14]
    intro H locs ls hP hD hS hl
    obtain ⟨r3, g4, hg4, hp⟩ := hp
    refine wr_Vi (As := [.int t0]) (rest := []) (w1 := []) (w2 := []) (ws1 := wX5 q cI g4) ⟨hx, hb, hml, hown, hts⟩ (c_X5_isFine l dC dI cI q gv t0 r3 g4 hg4 _) (cwV 1 hts gX5_lenders_X5_isFine rfl rfl rfl (by decide +kernel) ⟨Nat.le_of_ble_eq_true rfl, Nat.le_of_ble_eq_true rfl⟩) hP hD hS hA hK hN (List.append_nil _).symm (List.append_nil _) rfl rfl rfl rfl hl.1 (Nat.le_of_ble_eq_true rfl) ⟨Nat.zero_le _, Nat.zero_le _⟩ dX5_lenders_14 (fun H locs hP hD hS => ?_)
    refine lv_if_eq (tgt := 28) hx hb dX5_lenders_17 (by decide) (fun c6 => ?_) (fun c6 => ?_)
    · have hp := hp.1 c6
      refine lv_iconst (v := 0) hx hb dX5_lenders_28 (by decide) ?_
      exact W.iret hx hb hr (fun t ht _ => ⟨⟨_, (), rfl, hp.1.symm, by rw [ht, hp.2]; exact hP, by rw [hp.2]; exact hD⟩, hS.F ht⟩) hS.2.2 dX5_lenders_29
    · have hp := hp.2 c6
      refine lv_aload_n hx hb dX5_lenders_20 rfl (lv_at hl 0 rfl) ?_
      refine lv_iload_n hx hb dX5_lenders_21 rfl (lv_at hl 1 rfl) ?_
      obtain ⟨r5, hr5, hp⟩ := hp
      refine ro_V (As := [.int a1]) (rest := []) ⟨hx, hb, hml, hown, hts⟩ (c_X5_lendersOf l dC dI cI q g4 a1 r5 hr5) (cwV 1 hts gX5_lenders_X5_lendersOf rfl rfl rfl (by decide +kernel) ⟨Nat.le_of_ble_eq_true rfl, Nat.le_of_ble_eq_true rfl⟩) hP hK hN rfl rfl rfl rfl hl.1 (Nat.le_of_ble_eq_true rfl) ⟨Nat.zero_le _, Nat.zero_le _⟩ dX5_lenders_22 ?_
      refine lv_goto (tgt := 29) hx hb dX5_lenders_25 (by decide) ?_
      exact W.iret hx hb hr (fun t ht _ => ⟨⟨_, (), rfl, hp.1.symm, by rw [ht, hp.2]; exact hP, by rw [hp.2]; exact hD⟩, hS.F ht⟩) hS.2.2 dX5_lenders_29)
  refine lv_aload_n hx hb dX5_lenders_0 rfl (lv_at hl 0 rfl) ?_
  refine lv_aload_n hx hb dX5_lenders_1 rfl (lv_at hl 0 rfl) ?_
  refine lv_iload_n hx hb dX5_lenders_2 rfl (lv_at hl 1 rfl) ?_
  obtain ⟨r1, hr1, hp⟩ := hp
  refine ro_V (As := [.int a1]) (rest := [.ref (q 0)]) ⟨hx, hb, hml, hown, hts⟩ (c_X5_isCopy l dC dI cI q g a1 r1 hr1) (cwV 1 hts gX5_lenders_X5_isCopy rfl rfl rfl (by decide +kernel) ⟨Nat.le_of_ble_eq_true rfl, Nat.le_of_ble_eq_true rfl⟩) hP hK hN rfl rfl rfl rfl hl.1 (Nat.le_of_ble_eq_true rfl) ⟨Nat.zero_le _, Nat.zero_le _⟩ dX5_lenders_3 ?_
  refine lv_if_eq (tgt := 13) hx hb dX5_lenders_6 (by decide) (fun c2 => ?_) (fun c2 => ?_)
  · have hp := hp.1 c2
    refine lv_iconst (v := 1) hx hb dX5_lenders_13 (by decide) ?_
    rw [eV14] at hp
    exact hp _ _ _ hP hD hS (lv_sub hl [0, 1] rfl)
  · have hp := hp.2 c2
    refine lv_iconst (v := 0) hx hb dX5_lenders_9 (by decide) ?_
    refine lv_goto (tgt := 14) hx hb dX5_lenders_10 (by decide) ?_
    rw [eV14] at hp
    exact hp _ _ _ hP hD hS (lv_sub hl [0, 1] rfl)
theorem kX5_copyOf_0 : (.fieldLink RX5 28 "MeeplehouseModel" "copy" "[I" : Cond) ∈ wsX5_copyOf := by decide +kernel
theorem iX5_copyOf_X5 : ∀ w ∈ wsX50, w ∈ wsX5_copyOf := by decide +kernel
def P_X5_copyOf (g : St) (a1 : Int32) (r : Int32) (g' : St) : Prop := ∀ V14 : St → Int32 → Prop, (∀ gv : St, ∀ t0 : Int32, (∃ (r3 : Int32) (g4 : St), P_X5_isFine gv t0 r3 g4 ∧ ((r3 = 0 → (r = (0 : Int32) ∧ g' = g4)) ∧ (¬ r3 = 0 → (vp_in a1 30 ∧ (r = (g4 7 a1.toNatClampNeg) ∧ g' = g4))))) → V14 gv t0) → (∃ r1 : Int32, P_X5_isGroup g a1 r1 ∧ ((r1 = 0 → (V14 g (1 : Int32))) ∧ (¬ r1 = 0 → (V14 g (0 : Int32)))))
set_option maxRecDepth 100000 in
set_option maxHeartbeats 4000000 in
theorem c_X5_copyOf (l : Launch) (dC : Nat → ClassId) (dI : Nat → Nat → Nat) (cI : ClassId) (q : Nat → Nat) (g : St) (a1 : Int32) (r : Int32) (g' : St) (hp : P_X5_copyOf g a1 r g') (sz : Nat) : Met l yX5_copyOf wsX5_copyOf { frames := 2, cells := 0, slots := 0, locals := 43 } (va_Pc [.ref (q 0), .int a1] (wpS (dC, dI) vwCl [(cI, .int)] (wX5 q cI g) sz)) (va_Qi (fun (r' : Int32) (_ : Unit) => r' = r) (fun _ t => wqB (dC, dI) vwCl (wX5 q cI g') (va_A (wX5 q cI g) sz) t) (va_A (wX5 q cI g) sz)) 0 0 (va_A (wX5 q cI g) sz) := by
  refine wr_met (fun A => (va_Qi (fun (r' : Int32) (_ : Unit) => r' = r) (fun _ t => wqB (dC, dI) vwCl (wX5 q cI g') A t) A)) (cc := cX5_copyOf) (maxL := 2) (ret := (some .int)) (by decide) rfl (Nat.le_of_ble_eq_true rfl) ?_
  intro p e s m below meth c A hx hb hml hr hlk hts hown hnm hP hK hN hD hA ls hl
  have hS : va_S A s.heap s.heap [] := va_S.rf
  have hl : lv_has ls 2 [(0, .ref (q 0)), (1, .int a1)] := hl
  obtain ⟨V14, eV14⟩ : ∃ V : St → Int32 → Prop, V = (fun gv t0 => ∀ (H : Heap) (locs : List Loc) (ls : Array Slot), va_P (dC, dI) vwCl (wX5 q cI gv) H → va_D A (wX5 q cI gv) → va_S A s.heap H locs → lv_has ls 2 [(0, .ref (q 0)), (1, .int a1)] → W p l e { frames := 2, cells := 0, slots := 0, locals := 43 } s m ([.ref (q 0), .int a1] : List Value).toArray below meth c H locs 0 0 (MQ below (va_Qi (fun (r' : Int32) (_ : Unit) => r' = r) (fun _ t => wqB (dC, dI) vwCl (wX5 q cI g') A t) A) ([.ref (q 0), .int a1] : List Value).toArray s 0 0 A) (F0 m 14 ls [.int t0, .ref (q 0)])) := ⟨_, rfl⟩
  have hp := hp V14
  have hp := hp (by
    intro gv t0 hp
    rw [eV14]
    intro H locs ls hP hD hS hl
    obtain ⟨r3, g4, hg4, hp⟩ := hp
    refine wr_Vi (As := [.int t0]) (rest := []) (w1 := []) (w2 := []) (ws1 := wX5 q cI g4) ⟨hx, hb, hml, hown, hts⟩ (c_X5_isFine l dC dI cI q gv t0 r3 g4 hg4 _) (cwV 1 hts gX5_copyOf_X5_isFine rfl rfl rfl (by decide +kernel) ⟨Nat.le_of_ble_eq_true rfl, Nat.le_of_ble_eq_true rfl⟩) hP hD hS hA hK hN (List.append_nil _).symm (List.append_nil _) rfl rfl rfl rfl hl.1 (Nat.le_of_ble_eq_true rfl) ⟨Nat.zero_le _, Nat.zero_le _⟩ dX5_copyOf_14 (fun H locs hP hD hS => ?_)
    refine lv_if_eq (tgt := 29) hx hb dX5_copyOf_17 (by decide) (fun c5 => ?_) (fun c5 => ?_)
    · have hp := hp.1 c5
      refine lv_iconst (v := 0) hx hb dX5_copyOf_29 (by decide) ?_
      exact W.iret hx hb hr (fun t ht _ => ⟨⟨_, (), rfl, hp.1.symm, by rw [ht, hp.2]; exact hP, by rw [hp.2]; exact hD⟩, hS.F ht⟩) hS.2.2 dX5_copyOf_30
    · have hp := hp.2 c5
      refine lv_aload_n hx hb dX5_copyOf_20 rfl (lv_at hl 0 rfl) ?_
      refine va_get (D := (dC, dI)) (ci := 5) (v := .ref (q 7)) (C := RX5) (T := TX5) (N := 33) hx hb hts iX5_copyOf_X5 hown hK hP 0 rfl rfl 9 (by decide) (hts _ kX5_copyOf_0) (fun _ h9 => h9) rfl dX5_copyOf_21 ?_
      refine lv_iload_n hx hb dX5_copyOf_24 rfl (lv_at hl 1 rfl) ?_
      refine va_iald hx hb hK hP 7 0 rfl rfl hp.1 dX5_copyOf_25 ?_
      have hp := hp.2
      refine lv_goto (tgt := 30) hx hb dX5_copyOf_26 (by decide) ?_
      exact W.iret hx hb hr (fun t ht _ => ⟨⟨_, (), rfl, hp.1.symm, by rw [ht, hp.2]; exact hP, by rw [hp.2]; exact hD⟩, hS.F ht⟩) hS.2.2 dX5_copyOf_30)
  refine lv_aload_n hx hb dX5_copyOf_0 rfl (lv_at hl 0 rfl) ?_
  refine lv_aload_n hx hb dX5_copyOf_1 rfl (lv_at hl 0 rfl) ?_
  refine lv_iload_n hx hb dX5_copyOf_2 rfl (lv_at hl 1 rfl) ?_
  obtain ⟨r1, hr1, hp⟩ := hp
  refine ro_V (As := [.int a1]) (rest := [.ref (q 0)]) ⟨hx, hb, hml, hown, hts⟩ (c_X5_isGroup l dC dI cI q g a1 r1 hr1) (cwV 1 hts gX5_copyOf_X5_isGroup rfl rfl rfl (by decide +kernel) ⟨Nat.le_of_ble_eq_true rfl, Nat.le_of_ble_eq_true rfl⟩) hP hK hN rfl rfl rfl rfl hl.1 (Nat.le_of_ble_eq_true rfl) ⟨Nat.zero_le _, Nat.zero_le _⟩ dX5_copyOf_3 ?_
  refine lv_if_eq (tgt := 13) hx hb dX5_copyOf_6 (by decide) (fun c2 => ?_) (fun c2 => ?_)
  · have hp := hp.1 c2
    refine lv_iconst (v := 1) hx hb dX5_copyOf_13 (by decide) ?_
    rw [eV14] at hp
    exact hp _ _ _ hP hD hS (lv_sub hl [0, 1] rfl)
  · have hp := hp.2 c2
    refine lv_iconst (v := 0) hx hb dX5_copyOf_9 (by decide) ?_
    refine lv_goto (tgt := 14) hx hb dX5_copyOf_10 (by decide) ?_
    rw [eV14] at hp
    exact hp _ _ _ hP hD hS (lv_sub hl [0, 1] rfl)
theorem kX5_lentTo_0 : (.fieldLink RX5 163 "MeeplehouseModel" "loans" "I" : Cond) ∈ wsX5_lentTo := by decide +kernel
theorem iX5_lentTo_X5 : ∀ w ∈ wsX50, w ∈ wsX5_lentTo := by decide +kernel
theorem kX5_lentTo_2 : (.fieldLink RX5 52 "MeeplehouseModel" "borrower" "[I" : Cond) ∈ wsX5_lentTo := by decide +kernel
theorem kX5_lentTo_3 : (.fieldLink RX5 61 "MeeplehouseModel" "lent" "[I" : Cond) ∈ wsX5_lentTo := by decide +kernel
def P_X5_lentTo (g : St) (a1 : Int32) (r : Int32) : Prop := ∀ V4 : Int32 → Int32 → Prop, (∀ x2 x3 : Int32, (((g 0 24) ≤ x3 → (r = x2)) ∧ (¬ (g 0 24) ≤ x3 → (vp_in x3 64 ∧ ((¬ (g 15 x3.toNatClampNeg) = a1 → (V4 (x2 + (0 : Int32)) (x3 + (1 : Int32)))) ∧ ((g 15 x3.toNatClampNeg) = a1 → (vp_in x3 64 ∧ (V4 (x2 + (g 18 x3.toNatClampNeg)) (x3 + (1 : Int32))))))))) → V4 x2 x3) → (V4 (0 : Int32) (0 : Int32))
set_option maxRecDepth 100000 in
set_option maxHeartbeats 4000000 in
theorem c_X5_lentTo (l : Launch) (dC : Nat → ClassId) (dI : Nat → Nat → Nat) (cI : ClassId) (q : Nat → Nat) (g : St) (a1 : Int32) (r : Int32) (hp : P_X5_lentTo g a1 r) : Met l yX5_lentTo wsX5_lentTo { frames := 0, cells := 0, slots := 0, locals := 0 } (va_Pc [.ref (q 0), .int a1] (rpS (dC, dI) vwCl [(cI, .int)] (wX5 q cI g))) (QcRead r) 0 0 (fun _ => False) := by
  refine ro_met (cc := cX5_lentTo) (maxL := 4) (ret := (some .int)) (by decide) rfl (Nat.le_of_ble_eq_true rfl) ?_
  intro p e s m below meth c hx hb hml hr hlk hts hown hP hK hN ls hl
  have hl : lv_has ls 4 [(0, .ref (q 0)), (1, .int a1)] := hl
  obtain ⟨V4, eV4⟩ : ∃ V : Int32 → Int32 → Prop, V = (fun x2 x3 => ∀ ls : Array Slot, lv_has ls 4 [(0, .ref (q 0)), (1, .int a1), (2, .int x2), (3, .int x3)] → W p l e { frames := 0, cells := 0, slots := 0, locals := 0 } s m ([.ref (q 0), .int a1] : List Value).toArray below meth c s.heap [] 0 0 (MQ below (QcRead r) ([.ref (q 0), .int a1] : List Value).toArray s 0 0 (fun _ => False)) (F0 m 4 ls [])) := ⟨_, rfl⟩
  have hp := hp V4
  have hp := hp (by
    intro x2 x3 hp
    rw [eV4]
    intro ls hl
    refine lv_iload_n hx hb dX5_lentTo_4 rfl (lv_at hl 3 rfl) ?_
    refine lv_aload_n hx hb dX5_lentTo_5 rfl (lv_at hl 0 rfl) ?_
    refine va_get (D := (dC, dI)) (ci := 5) (v := .int (g 0 24)) (C := RX5) (T := TX5) (N := 33) hx hb hts iX5_lentTo_X5 hown hK hP 0 rfl rfl 24 (by decide) (hts _ kX5_lentTo_0) (fun _ h9 => h9) rfl dX5_lentTo_6 ?_
    refine lv_icmp_ge (tgt := 41) hx hb dX5_lentTo_9 (by decide) (fun c2 => ?_) (fun c2 => ?_)
    · have hp := hp.1 c2
      refine lv_iload_n hx hb dX5_lentTo_41 rfl (lv_at hl 2 rfl) ?_
      exact W.iret hx hb hr (fun t ht _ => ⟨by rw [hp], ht⟩) (fun _ h => nomatch h) dX5_lentTo_42
    · have hp := hp.2 c2
      refine lv_iload_n hx hb dX5_lentTo_12 rfl (lv_at hl 2 rfl) ?_
      refine lv_aload_n hx hb dX5_lentTo_13 rfl (lv_at hl 0 rfl) ?_
      refine va_get (D := (dC, dI)) (ci := 5) (v := .ref (q 15)) (C := RX5) (T := TX5) (N := 33) hx hb hts iX5_lentTo_X5 hown hK hP 0 rfl rfl 20 (by decide) (hts _ kX5_lentTo_2) (fun _ h9 => h9) rfl dX5_lentTo_14 ?_
      refine lv_iload_n hx hb dX5_lentTo_17 rfl (lv_at hl 3 rfl) ?_
      refine va_iald hx hb hK hP 15 0 rfl rfl hp.1 dX5_lentTo_18 ?_
      have hp := hp.2
      refine lv_iload_n hx hb dX5_lentTo_19 rfl (lv_at hl 1 rfl) ?_
      refine lv_icmp_ne (tgt := 32) hx hb dX5_lentTo_20 (by decide) (fun c1 => ?_) (fun c1 => ?_)
      · have hp := hp.1 c1
        refine lv_iconst (v := 0) hx hb dX5_lentTo_32 (by decide) ?_
        refine lv_iadd hx hb dX5_lentTo_33 ?_
        refine lv_istore_n (lv' := [(2, .int (x2 + (0 : Int32))), (0, .ref (q 0)), (1, .int a1), (3, .int x3)]) hx hb dX5_lentTo_34 rfl hl (by decide) rfl (fun ls hl => ?_)
        refine lv_iinc (v := x3 + (1 : Int32)) (lv' := [(3, .int (x3 + (1 : Int32))), (2, .int (x2 + (0 : Int32))), (0, .ref (q 0)), (1, .int a1)]) hx hb dX5_lentTo_35 hl (k := 3) rfl rfl (by decide) rfl (fun ls hl => ?_)
        refine lv_goto (tgt := 4) hx hb dX5_lentTo_38 (by decide) ?_
        rw [eV4] at hp
        exact hp _ (lv_sub hl [2, 3, 1, 0] rfl)
      · have hp := hp.2 c1
        refine lv_aload_n hx hb dX5_lentTo_23 rfl (lv_at hl 0 rfl) ?_
        refine va_get (D := (dC, dI)) (ci := 5) (v := .ref (q 18)) (C := RX5) (T := TX5) (N := 33) hx hb hts iX5_lentTo_X5 hown hK hP 0 rfl rfl 23 (by decide) (hts _ kX5_lentTo_3) (fun _ h9 => h9) rfl dX5_lentTo_24 ?_
        refine lv_iload_n hx hb dX5_lentTo_27 rfl (lv_at hl 3 rfl) ?_
        refine va_iald hx hb hK hP 18 0 rfl rfl hp.1 dX5_lentTo_28 ?_
        have hp := hp.2
        refine lv_goto (tgt := 33) hx hb dX5_lentTo_29 (by decide) ?_
        refine lv_iadd hx hb dX5_lentTo_33 ?_
        refine lv_istore_n (lv' := [(2, .int (x2 + (g 18 x3.toNatClampNeg))), (0, .ref (q 0)), (1, .int a1), (3, .int x3)]) hx hb dX5_lentTo_34 rfl hl (by decide) rfl (fun ls hl => ?_)
        refine lv_iinc (v := x3 + (1 : Int32)) (lv' := [(3, .int (x3 + (1 : Int32))), (2, .int (x2 + (g 18 x3.toNatClampNeg))), (0, .ref (q 0)), (1, .int a1)]) hx hb dX5_lentTo_35 hl (k := 3) rfl rfl (by decide) rfl (fun ls hl => ?_)
        refine lv_goto (tgt := 4) hx hb dX5_lentTo_38 (by decide) ?_
        rw [eV4] at hp
        exact hp _ (lv_sub hl [2, 3, 1, 0] rfl))
  refine lv_iconst (v := 0) hx hb dX5_lentTo_0 (by decide) ?_
  refine lv_istore_n (lv' := [(2, .int (0 : Int32)), (0, .ref (q 0)), (1, .int a1)]) hx hb dX5_lentTo_1 rfl hl (by decide) rfl (fun ls hl => ?_)
  refine lv_iconst (v := 0) hx hb dX5_lentTo_2 (by decide) ?_
  refine lv_istore_n (lv' := [(3, .int (0 : Int32)), (2, .int (0 : Int32)), (0, .ref (q 0)), (1, .int a1)]) hx hb dX5_lentTo_3 rfl hl (by decide) rfl (fun ls hl => ?_)
  rw [eV4] at hp
  exact hp _ (lv_sub hl [2, 3, 1, 0] rfl)
theorem kX5_holds_0 : (.fieldLink RX5 70 "MeeplehouseModel" "value" "[I" : Cond) ∈ wsX5_holds := by decide +kernel
theorem iX5_holds_X5 : ∀ w ∈ wsX50, w ∈ wsX5_holds := by decide +kernel
theorem kX5_holds_2 : (.fieldLink RX5 67 "MeeplehouseModel" "test" "[I" : Cond) ∈ wsX5_holds := by decide +kernel
theorem kX5_holds_3 : (.fieldLink RX5 16 "MeeplehouseModel" "players" "[I" : Cond) ∈ wsX5_holds := by decide +kernel
theorem kX5_holds_4 : (.fieldLink RX5 28 "MeeplehouseModel" "copy" "[I" : Cond) ∈ wsX5_holds := by decide +kernel
def P_X5_holds (g : St) (a1 : Int32) (a2 : Int32) (r : Int32) : Prop := (vp_in a2 96 ∧ (vp_in a2 96 ∧ (((g 20 a2.toNatClampNeg) = (0 : Int32) → (vp_in a1 30 ∧ (((g 3 a1.toNatClampNeg) < (g 21 a2.toNatClampNeg) → (r = (0 : Int32))) ∧ (¬ (g 3 a1.toNatClampNeg) < (g 21 a2.toNatClampNeg) → (r = (1 : Int32)))))) ∧ (¬ (g 20 a2.toNatClampNeg) = (0 : Int32) → (((g 20 a2.toNatClampNeg) = (1 : Int32) → (∃ r3 : Int32, P_X5_leftOf g a1 r3 ∧ (((g 21 a2.toNatClampNeg) ≤ r3 → (r = (0 : Int32))) ∧ (¬ (g 21 a2.toNatClampNeg) ≤ r3 → (r = (1 : Int32)))))) ∧ (¬ (g 20 a2.toNatClampNeg) = (1 : Int32) → (((g 20 a2.toNatClampNeg) = (2 : Int32) → (vp_in a1 30 ∧ (¬ (g 21 a2.toNatClampNeg) = 0 ∧ ((¬ ((g 3 a1.toNatClampNeg) - (g 3 a1.toNatClampNeg) / (g 21 a2.toNatClampNeg) * (g 21 a2.toNatClampNeg)) = 0 → (r = (0 : Int32))) ∧ (((g 3 a1.toNatClampNeg) - (g 3 a1.toNatClampNeg) / (g 21 a2.toNatClampNeg) * (g 21 a2.toNatClampNeg)) = 0 → (r = (1 : Int32))))))) ∧ (¬ (g 20 a2.toNatClampNeg) = (2 : Int32) → (vp_in a1 30 ∧ (∃ r8 : Int32, P_X5_lentTo g (g 7 a1.toNatClampNeg) r8 ∧ ((r8 < (g 21 a2.toNatClampNeg) → (r = (0 : Int32))) ∧ (¬ r8 < (g 21 a2.toNatClampNeg) → (r = (1 : Int32))))))))))))))
set_option maxRecDepth 100000 in
set_option maxHeartbeats 4000000 in
theorem c_X5_holds (l : Launch) (dC : Nat → ClassId) (dI : Nat → Nat → Nat) (cI : ClassId) (q : Nat → Nat) (g : St) (a1 : Int32) (a2 : Int32) (r : Int32) (hp : P_X5_holds g a1 a2 r) : Met l yX5_holds wsX5_holds { frames := 1, cells := 0, slots := 0, locals := 23 } (va_Pc [.ref (q 0), .int a1, .int a2] (rpS (dC, dI) vwCl [(cI, .int)] (wX5 q cI g))) (QcRead r) 0 0 (fun _ => False) := by
  refine ro_met (cc := cX5_holds) (maxL := 4) (ret := (some .boolean)) (by decide) rfl (Nat.le_of_ble_eq_true rfl) ?_
  intro p e s m below meth c hx hb hml hr hlk hts hown hP hK hN ls hl
  have hl : lv_has ls 4 [(0, .ref (q 0)), (1, .int a1), (2, .int a2)] := hl
  unfold P_X5_holds at hp
  refine lv_aload_n hx hb dX5_holds_0 rfl (lv_at hl 0 rfl) ?_
  refine va_get (D := (dC, dI)) (ci := 5) (v := .ref (q 21)) (C := RX5) (T := TX5) (N := 33) hx hb hts iX5_holds_X5 hown hK hP 0 rfl rfl 27 (by decide) (hts _ kX5_holds_0) (fun _ h9 => h9) rfl dX5_holds_1 ?_
  refine lv_iload_n hx hb dX5_holds_4 rfl (lv_at hl 2 rfl) ?_
  refine va_iald hx hb hK hP 21 0 rfl rfl hp.1 dX5_holds_5 ?_
  have hp := hp.2
  refine lv_istore_n (lv' := [(3, .int (g 21 a2.toNatClampNeg)), (0, .ref (q 0)), (1, .int a1), (2, .int a2)]) hx hb dX5_holds_6 rfl hl (by decide) rfl (fun ls hl => ?_)
  refine lv_aload_n hx hb dX5_holds_7 rfl (lv_at hl 1 rfl) ?_
  refine va_get (D := (dC, dI)) (ci := 5) (v := .ref (q 20)) (C := RX5) (T := TX5) (N := 33) hx hb hts iX5_holds_X5 hown hK hP 0 rfl rfl 26 (by decide) (hts _ kX5_holds_2) (fun _ h9 => h9) rfl dX5_holds_8 ?_
  refine lv_iload_n hx hb dX5_holds_11 rfl (lv_at hl 3 rfl) ?_
  refine va_iald hx hb hK hP 20 0 rfl rfl hp.1 dX5_holds_12 ?_
  have hp := hp.2
  by_cases c2 : (g 20 a2.toNatClampNeg) = (0 : Int32)
  · have hp := hp.1 c2
    refine lv_tableIn (tgt := 40) hx hb dX5_holds_13 (by rw [c2]; decide) (by rw [c2]; decide) (by rw [c2]; rfl) (by decide) ?_
    refine lv_aload_n hx hb dX5_holds_40 rfl (lv_at hl 1 rfl) ?_
    refine va_get (D := (dC, dI)) (ci := 5) (v := .ref (q 3)) (C := RX5) (T := TX5) (N := 33) hx hb hts iX5_holds_X5 hown hK hP 0 rfl rfl 5 (by decide) (hts _ kX5_holds_3) (fun _ h9 => h9) rfl dX5_holds_41 ?_
    refine lv_iload_n hx hb dX5_holds_44 rfl (lv_at hl 2 rfl) ?_
    refine va_iald hx hb hK hP 3 0 rfl rfl hp.1 dX5_holds_45 ?_
    have hp := hp.2
    refine lv_iload_n hx hb dX5_holds_46 rfl (lv_at hl 0 rfl) ?_
    refine lv_icmp_lt (tgt := 54) hx hb dX5_holds_47 (by decide) (fun c1 => ?_) (fun c1 => ?_)
    · have hp := hp.1 c1
      refine lv_iconst (v := 0) hx hb dX5_holds_54 (by decide) ?_
      exact W.zret (ty := .boolean) hx hb hr rfl (fun t ht _ => ⟨by rw [hp], ht⟩) (fun _ h => nomatch h) dX5_holds_55
    · have hp := hp.2 c1
      refine lv_iconst (v := 1) hx hb dX5_holds_50 (by decide) ?_
      refine lv_goto (tgt := 55) hx hb dX5_holds_51 (by decide) ?_
      exact W.zret (ty := .boolean) hx hb hr rfl (fun t ht _ => ⟨by rw [hp], ht⟩) (fun _ h => nomatch h) dX5_holds_55
  have hp := hp.2 c2
  by_cases c5 : (g 20 a2.toNatClampNeg) = (1 : Int32)
  · have hp := hp.1 c5
    refine lv_tableIn (tgt := 56) hx hb dX5_holds_13 (by rw [c5]; decide) (by rw [c5]; decide) (by rw [c5]; rfl) (by decide) ?_
    refine lv_aload_n hx hb dX5_holds_56 rfl (lv_at hl 1 rfl) ?_
    refine lv_iload_n hx hb dX5_holds_57 rfl (lv_at hl 2 rfl) ?_
    obtain ⟨r3, hr3, hp⟩ := hp
    refine ro_V (As := [.int a1]) (rest := []) ⟨hx, hb, hml, hown, hts⟩ (c_X5_leftOf l dC dI cI q g a1 r3 hr3) (cwV 1 hts gX5_holds_X5_leftOf rfl rfl rfl (by decide +kernel) ⟨Nat.le_of_ble_eq_true rfl, Nat.le_of_ble_eq_true rfl⟩) hP hK hN rfl rfl rfl rfl hl.1 (Nat.le_of_ble_eq_true rfl) ⟨Nat.zero_le _, Nat.zero_le _⟩ dX5_holds_58 ?_
    refine lv_iload_n hx hb dX5_holds_61 rfl (lv_at hl 0 rfl) ?_
    refine lv_icmp_ge (tgt := 69) hx hb dX5_holds_62 (by decide) (fun c4 => ?_) (fun c4 => ?_)
    · have hp := hp.1 c4
      refine lv_iconst (v := 0) hx hb dX5_holds_69 (by decide) ?_
      exact W.zret (ty := .boolean) hx hb hr rfl (fun t ht _ => ⟨by rw [hp], ht⟩) (fun _ h => nomatch h) dX5_holds_70
    · have hp := hp.2 c4
      refine lv_iconst (v := 1) hx hb dX5_holds_65 (by decide) ?_
      refine lv_goto (tgt := 70) hx hb dX5_holds_66 (by decide) ?_
      exact W.zret (ty := .boolean) hx hb hr rfl (fun t ht _ => ⟨by rw [hp], ht⟩) (fun _ h => nomatch h) dX5_holds_70
  have hp := hp.2 c5
  by_cases c7 : (g 20 a2.toNatClampNeg) = (2 : Int32)
  · have hp := hp.1 c7
    refine lv_tableIn (tgt := 71) hx hb dX5_holds_13 (by rw [c7]; decide) (by rw [c7]; decide) (by rw [c7]; rfl) (by decide) ?_
    refine lv_aload_n hx hb dX5_holds_71 rfl (lv_at hl 1 rfl) ?_
    refine va_get (D := (dC, dI)) (ci := 5) (v := .ref (q 3)) (C := RX5) (T := TX5) (N := 33) hx hb hts iX5_holds_X5 hown hK hP 0 rfl rfl 5 (by decide) (hts _ kX5_holds_3) (fun _ h9 => h9) rfl dX5_holds_72 ?_
    refine lv_iload_n hx hb dX5_holds_75 rfl (lv_at hl 2 rfl) ?_
    refine va_iald hx hb hK hP 3 0 rfl rfl hp.1 dX5_holds_76 ?_
    have hp := hp.2
    refine lv_iload_n hx hb dX5_holds_77 rfl (lv_at hl 0 rfl) ?_
    refine lv_irem hx hb dX5_holds_78 hp.1 ?_
    have hp := hp.2
    refine lv_if_ne (tgt := 86) hx hb dX5_holds_79 (by decide) (fun c6 => ?_) (fun c6 => ?_)
    · have hp := hp.1 c6
      refine lv_iconst (v := 0) hx hb dX5_holds_86 (by decide) ?_
      exact W.zret (ty := .boolean) hx hb hr rfl (fun t ht _ => ⟨by rw [hp], ht⟩) (fun _ h => nomatch h) dX5_holds_87
    · have hp := hp.2 c6
      refine lv_iconst (v := 1) hx hb dX5_holds_82 (by decide) ?_
      refine lv_goto (tgt := 87) hx hb dX5_holds_83 (by decide) ?_
      exact W.zret (ty := .boolean) hx hb hr rfl (fun t ht _ => ⟨by rw [hp], ht⟩) (fun _ h => nomatch h) dX5_holds_87
  have hp := hp.2 c7
  refine lv_tableOut (x := (g 20 a2.toNatClampNeg)) (tgt := 88) hx hb dX5_holds_13 (by have n0 := lv_neT (a := 0) c2 (by decide); have n1 := lv_neT (a := 1) c5 (by decide); have n2 := lv_neT (a := 2) c7 (by decide); omega) (by decide) ?_
  refine lv_aload_n hx hb dX5_holds_88 rfl (lv_at hl 1 rfl) ?_
  refine lv_aload_n hx hb dX5_holds_89 rfl (lv_at hl 1 rfl) ?_
  refine va_get (D := (dC, dI)) (ci := 5) (v := .ref (q 7)) (C := RX5) (T := TX5) (N := 33) hx hb hts iX5_holds_X5 hown hK hP 0 rfl rfl 9 (by decide) (hts _ kX5_holds_4) (fun _ h9 => h9) rfl dX5_holds_90 ?_
  refine lv_iload_n hx hb dX5_holds_93 rfl (lv_at hl 2 rfl) ?_
  refine va_iald hx hb hK hP 7 0 rfl rfl hp.1 dX5_holds_94 ?_
  have hp := hp.2
  obtain ⟨r8, hr8, hp⟩ := hp
  refine ro_V (As := [.int (g 7 a1.toNatClampNeg)]) (rest := []) ⟨hx, hb, hml, hown, hts⟩ (c_X5_lentTo l dC dI cI q g (g 7 a1.toNatClampNeg) r8 hr8) (cwV 1 hts gX5_holds_X5_lentTo rfl rfl rfl (by decide +kernel) ⟨Nat.le_of_ble_eq_true rfl, Nat.le_of_ble_eq_true rfl⟩) hP hK hN rfl rfl rfl rfl hl.1 (Nat.le_of_ble_eq_true rfl) ⟨Nat.zero_le _, Nat.zero_le _⟩ dX5_holds_95 ?_
  refine lv_iload_n hx hb dX5_holds_98 rfl (lv_at hl 0 rfl) ?_
  refine lv_icmp_lt (tgt := 106) hx hb dX5_holds_99 (by decide) (fun c9 => ?_) (fun c9 => ?_)
  · have hp := hp.1 c9
    refine lv_iconst (v := 0) hx hb dX5_holds_106 (by decide) ?_
    exact W.zret (ty := .boolean) hx hb hr rfl (fun t ht _ => ⟨by rw [hp], ht⟩) (fun _ h => nomatch h) dX5_holds_107
  · have hp := hp.2 c9
    refine lv_iconst (v := 1) hx hb dX5_holds_102 (by decide) ?_
    refine lv_goto (tgt := 107) hx hb dX5_holds_103 (by decide) ?_
    exact W.zret (ty := .boolean) hx hb hr rfl (fun t ht _ => ⟨by rw [hp], ht⟩) (fun _ h => nomatch h) dX5_holds_107
theorem kX5_firstThat_0 : (.fieldLink RX5 76 "MeeplehouseModel" "rules" "[I" : Cond) ∈ wsX5_firstThat := by decide +kernel
theorem iX5_firstThat_X5 : ∀ w ∈ wsX50, w ∈ wsX5_firstThat := by decide +kernel
theorem kX5_firstThat_2 : (.fieldLink RX5 64 "MeeplehouseModel" "parent" "[I" : Cond) ∈ wsX5_firstThat := by decide +kernel
def P_X5_firstThat (g : St) (a1 : Int32) (a2 : Int32) (a3 : Int32) (r : Int32) : Prop := ∀ V3 : Int32 → Prop, (∀ x4 : Int32, (vp_in a2 8 ∧ (((g 23 a2.toNatClampNeg) ≤ x4 → (r = (-1 : Int32))) ∧ (¬ (g 23 a2.toNatClampNeg) ≤ x4 → (vp_in (((12 : Int32) * a2) + x4) 96 ∧ ((¬ (g 19 (((12 : Int32) * a2) + x4).toNatClampNeg) = a3 → (V3 (x4 + (1 : Int32)))) ∧ ((g 19 (((12 : Int32) * a2) + x4).toNatClampNeg) = a3 → (∃ r1 : Int32, P_X5_holds g a1 (((12 : Int32) * a2) + x4) r1 ∧ ((r1 = 0 → (V3 (x4 + (1 : Int32)))) ∧ (¬ r1 = 0 → (r = x4)))))))))) → V3 x4) → (V3 (0 : Int32))
set_option maxRecDepth 100000 in
set_option maxHeartbeats 4000000 in
theorem c_X5_firstThat (l : Launch) (dC : Nat → ClassId) (dI : Nat → Nat → Nat) (cI : ClassId) (q : Nat → Nat) (g : St) (a1 : Int32) (a2 : Int32) (a3 : Int32) (r : Int32) (hp : P_X5_firstThat g a1 a2 a3 r) : Met l yX5_firstThat wsX5_firstThat { frames := 2, cells := 0, slots := 0, locals := 46 } (va_Pc [.ref (q 0), .int a1, .int a2, .int a3] (rpS (dC, dI) vwCl [(cI, .int)] (wX5 q cI g))) (QcRead r) 0 0 (fun _ => False) := by
  refine ro_met (cc := cX5_firstThat) (maxL := 5) (ret := (some .int)) (by decide) rfl (Nat.le_of_ble_eq_true rfl) ?_
  intro p e s m below meth c hx hb hml hr hlk hts hown hP hK hN ls hl
  have hl : lv_has ls 5 [(0, .ref (q 0)), (1, .int a1), (2, .int a2), (3, .int a3)] := hl
  obtain ⟨V3, eV3⟩ : ∃ V : Int32 → Prop, V = (fun x4 => ∀ ls : Array Slot, lv_has ls 5 [(0, .ref (q 0)), (1, .int a1), (2, .int a2), (3, .int a3), (4, .int x4)] → W p l e { frames := 2, cells := 0, slots := 0, locals := 46 } s m ([.ref (q 0), .int a1, .int a2, .int a3] : List Value).toArray below meth c s.heap [] 0 0 (MQ below (QcRead r) ([.ref (q 0), .int a1, .int a2, .int a3] : List Value).toArray s 0 0 (fun _ => False)) (F0 m 3 ls [])) := ⟨_, rfl⟩
  have hp := hp V3
  have hp := hp (by
    intro x4 hp
    rw [eV3]
    intro ls hl
    refine lv_iload hx hb dX5_firstThat_3 (lv_at hl 4 rfl) ?_
    refine lv_aload_n hx hb dX5_firstThat_5 rfl (lv_at hl 0 rfl) ?_
    refine va_get (D := (dC, dI)) (ci := 5) (v := .ref (q 23)) (C := RX5) (T := TX5) (N := 33) hx hb hts iX5_firstThat_X5 hown hK hP 0 rfl rfl 29 (by decide) (hts _ kX5_firstThat_0) (fun _ h9 => h9) rfl dX5_firstThat_6 ?_
    refine lv_iload_n hx hb dX5_firstThat_9 rfl (lv_at hl 2 rfl) ?_
    refine va_iald hx hb hK hP 23 0 rfl rfl hp.1 dX5_firstThat_10 ?_
    have hp := hp.2
    refine lv_icmp_ge (tgt := 54) hx hb dX5_firstThat_11 (by decide) (fun c4 => ?_) (fun c4 => ?_)
    · have hp := hp.1 c4
      refine lv_iconst (v := -1) hx hb dX5_firstThat_54 (by decide) ?_
      exact W.iret hx hb hr (fun t ht _ => ⟨by rw [hp], ht⟩) (fun _ h => nomatch h) dX5_firstThat_55
    · have hp := hp.2 c4
      refine lv_aload_n hx hb dX5_firstThat_14 rfl (lv_at hl 0 rfl) ?_
      refine va_get (D := (dC, dI)) (ci := 5) (v := .ref (q 19)) (C := RX5) (T := TX5) (N := 33) hx hb hts iX5_firstThat_X5 hown hK hP 0 rfl rfl 25 (by decide) (hts _ kX5_firstThat_2) (fun _ h9 => h9) rfl dX5_firstThat_15 ?_
      refine lv_bipush (v := 12) hx hb dX5_firstThat_18 (by decide) ?_
      refine lv_iload_n hx hb dX5_firstThat_20 rfl (lv_at hl 2 rfl) ?_
      refine lv_imul hx hb dX5_firstThat_21 ?_
      refine lv_iload hx hb dX5_firstThat_22 (lv_at hl 4 rfl) ?_
      refine lv_iadd hx hb dX5_firstThat_24 ?_
      refine va_iald hx hb hK hP 19 0 rfl rfl hp.1 dX5_firstThat_25 ?_
      have hp := hp.2
      refine lv_iload_n hx hb dX5_firstThat_26 rfl (lv_at hl 3 rfl) ?_
      refine lv_icmp_ne (tgt := 48) hx hb dX5_firstThat_27 (by decide) (fun c3 => ?_) (fun c3 => ?_)
      · have hp := hp.1 c3
        refine lv_iinc (v := x4 + (1 : Int32)) (lv' := [(4, .int (x4 + (1 : Int32))), (0, .ref (q 0)), (1, .int a1), (2, .int a2), (3, .int a3)]) hx hb dX5_firstThat_48 hl (k := 4) rfl rfl (by decide) rfl (fun ls hl => ?_)
        refine lv_goto (tgt := 3) hx hb dX5_firstThat_51 (by decide) ?_
        rw [eV3] at hp
        exact hp _ (lv_sub hl [1, 2, 3, 4, 0] rfl)
      · have hp := hp.2 c3
        refine lv_aload_n hx hb dX5_firstThat_30 rfl (lv_at hl 0 rfl) ?_
        refine lv_iload_n hx hb dX5_firstThat_31 rfl (lv_at hl 1 rfl) ?_
        refine lv_bipush (v := 12) hx hb dX5_firstThat_32 (by decide) ?_
        refine lv_iload_n hx hb dX5_firstThat_34 rfl (lv_at hl 2 rfl) ?_
        refine lv_imul hx hb dX5_firstThat_35 ?_
        refine lv_iload hx hb dX5_firstThat_36 (lv_at hl 4 rfl) ?_
        refine lv_iadd hx hb dX5_firstThat_38 ?_
        obtain ⟨r1, hr1, hp⟩ := hp
        refine ro_V (As := [.int a1, .int (((12 : Int32) * a2) + x4)]) (rest := []) ⟨hx, hb, hml, hown, hts⟩ (c_X5_holds l dC dI cI q g a1 (((12 : Int32) * a2) + x4) r1 hr1) (cwV 2 hts gX5_firstThat_X5_holds rfl rfl rfl (by decide +kernel) ⟨Nat.le_of_ble_eq_true rfl, Nat.le_of_ble_eq_true rfl⟩) hP hK hN rfl rfl rfl rfl hl.1 (Nat.le_of_ble_eq_true rfl) ⟨Nat.zero_le _, Nat.zero_le _⟩ dX5_firstThat_39 ?_
        refine lv_if_eq (tgt := 48) hx hb dX5_firstThat_42 (by decide) (fun c2 => ?_) (fun c2 => ?_)
        · have hp := hp.1 c2
          refine lv_iinc (v := x4 + (1 : Int32)) (lv' := [(4, .int (x4 + (1 : Int32))), (0, .ref (q 0)), (1, .int a1), (2, .int a2), (3, .int a3)]) hx hb dX5_firstThat_48 hl (k := 4) rfl rfl (by decide) rfl (fun ls hl => ?_)
          refine lv_goto (tgt := 3) hx hb dX5_firstThat_51 (by decide) ?_
          rw [eV3] at hp
          exact hp _ (lv_sub hl [1, 2, 3, 4, 0] rfl)
        · have hp := hp.2 c2
          refine lv_iload hx hb dX5_firstThat_45 (lv_at hl 4 rfl) ?_
          exact W.iret hx hb hr (fun t ht _ => ⟨by rw [hp], ht⟩) (fun _ h => nomatch h) dX5_firstThat_47)
  refine lv_iconst (v := 0) hx hb dX5_firstThat_0 (by decide) ?_
  refine lv_istore (lv' := [(4, .int (0 : Int32)), (0, .ref (q 0)), (1, .int a1), (2, .int a2), (3, .int a3)]) hx hb dX5_firstThat_1 hl (by decide) rfl (fun ls hl => ?_)
  rw [eV3] at hp
  exact hp _ (lv_sub hl [1, 2, 3, 4, 0] rfl)
theorem kX5_rulingFor_0 : (.fieldLink RX5 43 "MeeplehouseModel" "title" "[I" : Cond) ∈ wsX5_rulingFor := by decide +kernel
theorem iX5_rulingFor_X5 : ∀ w ∈ wsX50, w ∈ wsX5_rulingFor := by decide +kernel
theorem kX5_rulingFor_2 : (.fieldLink RX5 28 "MeeplehouseModel" "copy" "[I" : Cond) ∈ wsX5_rulingFor := by decide +kernel
theorem kX5_rulingFor_3 : (.fieldLink RX5 73 "MeeplehouseModel" "ruling" "[I" : Cond) ∈ wsX5_rulingFor := by decide +kernel
def P_X5_rulingFor (g : St) (a1 : Int32) (r : Int32) : Prop := ∀ V23 : Int32 → Int32 → Int32 → Prop, (∀ x2 x3 x4 : Int32, ((x4 = (-1 : Int32) → ((¬ x3 = (-1 : Int32) → (vp_in (((12 : Int32) * x2) + x3) 96 ∧ (r = (g 22 (((12 : Int32) * x2) + x3).toNatClampNeg)))) ∧ (x3 = (-1 : Int32) → (r = (-1 : Int32))))) ∧ (¬ x4 = (-1 : Int32) → (∃ r3 : Int32, P_X5_firstThat g a1 x2 x4 r3 ∧ (V23 x2 x4 r3)))) → V23 x2 x3 x4) → (vp_in a1 30 ∧ (vp_in (g 7 a1.toNatClampNeg) 16 ∧ (∃ r1 : Int32, P_X5_firstThat g a1 (g 12 (g 7 a1.toNatClampNeg).toNatClampNeg) (-1 : Int32) r1 ∧ (V23 (g 12 (g 7 a1.toNatClampNeg).toNatClampNeg) (-1 : Int32) r1))))
set_option maxRecDepth 100000 in
set_option maxHeartbeats 4000000 in
theorem c_X5_rulingFor (l : Launch) (dC : Nat → ClassId) (dI : Nat → Nat → Nat) (cI : ClassId) (q : Nat → Nat) (g : St) (a1 : Int32) (r : Int32) (hp : P_X5_rulingFor g a1 r) : Met l yX5_rulingFor wsX5_rulingFor { frames := 3, cells := 0, slots := 0, locals := 70 } (va_Pc [.ref (q 0), .int a1] (rpS (dC, dI) vwCl [(cI, .int)] (wX5 q cI g))) (QcRead r) 0 0 (fun _ => False) := by
  refine ro_met (cc := cX5_rulingFor) (maxL := 5) (ret := (some .int)) (by decide) rfl (Nat.le_of_ble_eq_true rfl) ?_
  intro p e s m below meth c hx hb hml hr hlk hts hown hP hK hN ls hl
  have hl : lv_has ls 5 [(0, .ref (q 0)), (1, .int a1)] := hl
  obtain ⟨V23, eV23⟩ : ∃ V : Int32 → Int32 → Int32 → Prop, V = (fun x2 x3 x4 => ∀ ls : Array Slot, lv_has ls 5 [(0, .ref (q 0)), (1, .int a1), (2, .int x2), (3, .int x3), (4, .int x4)] → W p l e { frames := 3, cells := 0, slots := 0, locals := 70 } s m ([.ref (q 0), .int a1] : List Value).toArray below meth c s.heap [] 0 0 (MQ below (QcRead r) ([.ref (q 0), .int a1] : List Value).toArray s 0 0 (fun _ => False)) (F0 m 23 ls [])) := ⟨_, rfl⟩
  have hp := hp V23
  have hp := hp (by
    intro x2 x3 x4 hp
    rw [eV23]
    intro ls hl
    refine lv_iload hx hb dX5_rulingFor_23 (lv_at hl 4 rfl) ?_
    refine lv_iconst (v := -1) hx hb dX5_rulingFor_25 (by decide) ?_
    refine lv_icmp_eq (tgt := 44) hx hb dX5_rulingFor_26 (by decide) (fun c4 => ?_) (fun c4 => ?_)
    · have hp := hp.1 c4
      refine lv_iload_n hx hb dX5_rulingFor_44 rfl (lv_at hl 3 rfl) ?_
      refine lv_iconst (v := -1) hx hb dX5_rulingFor_45 (by decide) ?_
      refine lv_icmp_ne (tgt := 53) hx hb dX5_rulingFor_46 (by decide) (fun c2 => ?_) (fun c2 => ?_)
      · have hp := hp.1 c2
        refine lv_aload_n hx hb dX5_rulingFor_53 rfl (lv_at hl 0 rfl) ?_
        refine va_get (D := (dC, dI)) (ci := 5) (v := .ref (q 22)) (C := RX5) (T := TX5) (N := 33) hx hb hts iX5_rulingFor_X5 hown hK hP 0 rfl rfl 28 (by decide) (hts _ kX5_rulingFor_3) (fun _ h9 => h9) rfl dX5_rulingFor_54 ?_
        refine lv_bipush (v := 12) hx hb dX5_rulingFor_57 (by decide) ?_
        refine lv_iload_n hx hb dX5_rulingFor_59 rfl (lv_at hl 2 rfl) ?_
        refine lv_imul hx hb dX5_rulingFor_60 ?_
        refine lv_iload_n hx hb dX5_rulingFor_61 rfl (lv_at hl 3 rfl) ?_
        refine lv_iadd hx hb dX5_rulingFor_62 ?_
        refine va_iald hx hb hK hP 22 0 rfl rfl hp.1 dX5_rulingFor_63 ?_
        have hp := hp.2
        exact W.iret hx hb hr (fun t ht _ => ⟨by rw [hp], ht⟩) (fun _ h => nomatch h) dX5_rulingFor_64
      · have hp := hp.2 c2
        refine lv_iconst (v := -1) hx hb dX5_rulingFor_49 (by decide) ?_
        refine lv_goto (tgt := 64) hx hb dX5_rulingFor_50 (by decide) ?_
        exact W.iret hx hb hr (fun t ht _ => ⟨by rw [hp], ht⟩) (fun _ h => nomatch h) dX5_rulingFor_64
    · have hp := hp.2 c4
      refine lv_iload hx hb dX5_rulingFor_29 (lv_at hl 4 rfl) ?_
      refine lv_istore_n (lv' := [(3, .int x4), (0, .ref (q 0)), (1, .int a1), (2, .int x2), (4, .int x4)]) hx hb dX5_rulingFor_31 rfl hl (by decide) rfl (fun ls hl => ?_)
      refine lv_aload_n hx hb dX5_rulingFor_32 rfl (lv_at hl 1 rfl) ?_
      refine lv_iload_n hx hb dX5_rulingFor_33 rfl (lv_at hl 2 rfl) ?_
      refine lv_iload_n hx hb dX5_rulingFor_34 rfl (lv_at hl 3 rfl) ?_
      refine lv_iload_n hx hb dX5_rulingFor_35 rfl (lv_at hl 0 rfl) ?_
      obtain ⟨r3, hr3, hp⟩ := hp
      refine ro_V (As := [.int a1, .int x2, .int x4]) (rest := []) ⟨hx, hb, hml, hown, hts⟩ (c_X5_firstThat l dC dI cI q g a1 x2 x4 r3 hr3) (cwV 3 hts gX5_rulingFor_X5_firstThat rfl rfl rfl (by decide +kernel) ⟨Nat.le_of_ble_eq_true rfl, Nat.le_of_ble_eq_true rfl⟩) hP hK hN rfl rfl rfl rfl hl.1 (Nat.le_of_ble_eq_true rfl) ⟨Nat.zero_le _, Nat.zero_le _⟩ dX5_rulingFor_36 ?_
      refine lv_istore (lv' := [(4, .int r3), (3, .int x4), (0, .ref (q 0)), (1, .int a1), (2, .int x2)]) hx hb dX5_rulingFor_39 hl (by decide) rfl (fun ls hl => ?_)
      refine lv_goto (tgt := 23) hx hb dX5_rulingFor_41 (by decide) ?_
      rw [eV23] at hp
      exact hp _ (lv_sub hl [2, 3, 4, 1, 0] rfl))
  refine lv_aload_n hx hb dX5_rulingFor_0 rfl (lv_at hl 0 rfl) ?_
  refine va_get (D := (dC, dI)) (ci := 5) (v := .ref (q 12)) (C := RX5) (T := TX5) (N := 33) hx hb hts iX5_rulingFor_X5 hown hK hP 0 rfl rfl 16 (by decide) (hts _ kX5_rulingFor_0) (fun _ h9 => h9) rfl dX5_rulingFor_1 ?_
  refine lv_aload_n hx hb dX5_rulingFor_4 rfl (lv_at hl 0 rfl) ?_
  refine va_get (D := (dC, dI)) (ci := 5) (v := .ref (q 7)) (C := RX5) (T := TX5) (N := 33) hx hb hts iX5_rulingFor_X5 hown hK hP 0 rfl rfl 9 (by decide) (hts _ kX5_rulingFor_2) (fun _ h9 => h9) rfl dX5_rulingFor_5 ?_
  refine lv_iload_n hx hb dX5_rulingFor_8 rfl (lv_at hl 1 rfl) ?_
  refine va_iald hx hb hK hP 7 0 rfl rfl hp.1 dX5_rulingFor_9 ?_
  have hp := hp.2
  refine va_iald hx hb hK hP 12 0 rfl rfl hp.1 dX5_rulingFor_10 ?_
  have hp := hp.2
  refine lv_istore_n (lv' := [(2, .int (g 12 (g 7 a1.toNatClampNeg).toNatClampNeg)), (0, .ref (q 0)), (1, .int a1)]) hx hb dX5_rulingFor_11 rfl hl (by decide) rfl (fun ls hl => ?_)
  refine lv_iconst (v := -1) hx hb dX5_rulingFor_12 (by decide) ?_
  refine lv_istore_n (lv' := [(3, .int (-1 : Int32)), (2, .int (g 12 (g 7 a1.toNatClampNeg).toNatClampNeg)), (0, .ref (q 0)), (1, .int a1)]) hx hb dX5_rulingFor_13 rfl hl (by decide) rfl (fun ls hl => ?_)
  refine lv_aload_n hx hb dX5_rulingFor_14 rfl (lv_at hl 2 rfl) ?_
  refine lv_iload_n hx hb dX5_rulingFor_15 rfl (lv_at hl 3 rfl) ?_
  refine lv_iload_n hx hb dX5_rulingFor_16 rfl (lv_at hl 1 rfl) ?_
  refine lv_iconst (v := -1) hx hb dX5_rulingFor_17 (by decide) ?_
  obtain ⟨r1, hr1, hp⟩ := hp
  refine ro_V (As := [.int a1, .int (g 12 (g 7 a1.toNatClampNeg).toNatClampNeg), .int (-1 : Int32)]) (rest := []) ⟨hx, hb, hml, hown, hts⟩ (c_X5_firstThat l dC dI cI q g a1 (g 12 (g 7 a1.toNatClampNeg).toNatClampNeg) (-1 : Int32) r1 hr1) (cwV 3 hts gX5_rulingFor_X5_firstThat rfl rfl rfl (by decide +kernel) ⟨Nat.le_of_ble_eq_true rfl, Nat.le_of_ble_eq_true rfl⟩) hP hK hN rfl rfl rfl rfl hl.1 (Nat.le_of_ble_eq_true rfl) ⟨Nat.zero_le _, Nat.zero_le _⟩ dX5_rulingFor_18 ?_
  refine lv_istore (lv' := [(4, .int r1), (3, .int (-1 : Int32)), (2, .int (g 12 (g 7 a1.toNatClampNeg).toNatClampNeg)), (0, .ref (q 0)), (1, .int a1)]) hx hb dX5_rulingFor_21 hl (by decide) rfl (fun ls hl => ?_)
  rw [eV23] at hp
  exact hp _ (lv_sub hl [3, 4, 2, 1, 0] rfl)
theorem kX5_asks_0 : (.fieldLink RX5 28 "MeeplehouseModel" "copy" "[I" : Cond) ∈ wsX5_asks := by decide +kernel
theorem iX5_asks_X5 : ∀ w ∈ wsX50, w ∈ wsX5_asks := by decide +kernel
def P_X5_asks (g : St) (a1 : Int32) (r : Int32) (g' : St) : Prop := (∃ r1 : Int32, P_X5_isGroup g a1 r1 ∧ ((¬ r1 = 0 → (vp_in a1 30 ∧ ((¬ (g 7 a1.toNatClampNeg) = (-1 : Int32) → (∃ (r2 : Int32) (g3 : St), P_X5_isFine g (0 : Int32) r2 g3 ∧ ((r2 = 0 ∨ r2 = 1) ∧ (r = r2 ∧ g' = g3)))) ∧ ((g 7 a1.toNatClampNeg) = (-1 : Int32) → (∃ (r4 : Int32) (g5 : St), P_X5_isFine g (2 : Int32) r4 g5 ∧ ((r4 = 0 ∨ r4 = 1) ∧ (r = r4 ∧ g' = g5))))))) ∧ (r1 = 0 → (∃ (r7 : Int32) (g8 : St), P_X5_isFine g (1 : Int32) r7 g8 ∧ ((r7 = 0 ∨ r7 = 1) ∧ (r = r7 ∧ g' = g8))))))
set_option maxRecDepth 100000 in
set_option maxHeartbeats 4000000 in
theorem c_X5_asks (l : Launch) (dC : Nat → ClassId) (dI : Nat → Nat → Nat) (cI : ClassId) (q : Nat → Nat) (g : St) (a1 : Int32) (r : Int32) (g' : St) (hp : P_X5_asks g a1 r g') (sz : Nat) : Met l yX5_asks wsX5_asks { frames := 2, cells := 0, slots := 0, locals := 43 } (va_Pc [.ref (q 0), .int a1] (wpS (dC, dI) vwCl [(cI, .int)] (wX5 q cI g) sz)) (va_Qi (fun (r' : Int32) (_ : Unit) => r' = r) (fun _ t => wqB (dC, dI) vwCl (wX5 q cI g') (va_A (wX5 q cI g) sz) t) (va_A (wX5 q cI g) sz)) 0 0 (va_A (wX5 q cI g) sz) := by
  refine wr_met (fun A => (va_Qi (fun (r' : Int32) (_ : Unit) => r' = r) (fun _ t => wqB (dC, dI) vwCl (wX5 q cI g') A t) A)) (cc := cX5_asks) (maxL := 3) (ret := (some .boolean)) (by decide) rfl (Nat.le_of_ble_eq_true rfl) ?_
  intro p e s m below meth c A hx hb hml hr hlk hts hown hnm hP hK hN hD hA ls hl
  have hS : va_S A s.heap s.heap [] := va_S.rf
  have hl : lv_has ls 3 [(0, .ref (q 0)), (1, .int a1)] := hl
  unfold P_X5_asks at hp
  refine lv_aload_n hx hb dX5_asks_0 rfl (lv_at hl 0 rfl) ?_
  refine lv_iload_n hx hb dX5_asks_1 rfl (lv_at hl 1 rfl) ?_
  obtain ⟨r1, hr1, hp⟩ := hp
  refine ro_V (As := [.int a1]) (rest := []) ⟨hx, hb, hml, hown, hts⟩ (c_X5_isGroup l dC dI cI q g a1 r1 hr1) (cwV 1 hts gX5_asks_X5_isGroup rfl rfl rfl (by decide +kernel) ⟨Nat.le_of_ble_eq_true rfl, Nat.le_of_ble_eq_true rfl⟩) hP hK hN rfl rfl rfl rfl hl.1 (Nat.le_of_ble_eq_true rfl) ⟨Nat.zero_le _, Nat.zero_le _⟩ dX5_asks_2 ?_
  refine lv_istore_n (lv' := [(2, .int r1), (0, .ref (q 0)), (1, .int a1)]) hx hb dX5_asks_5 rfl hl (by decide) rfl (fun ls hl => ?_)
  refine lv_aload_n hx hb dX5_asks_6 rfl (lv_at hl 1 rfl) ?_
  refine lv_iload_n hx hb dX5_asks_7 rfl (lv_at hl 0 rfl) ?_
  refine lv_if_ne (tgt := 15) hx hb dX5_asks_8 (by decide) (fun c9 => ?_) (fun c9 => ?_)
  · have hp := hp.1 c9
    refine lv_aload_n hx hb dX5_asks_15 rfl (lv_at hl 1 rfl) ?_
    refine va_get (D := (dC, dI)) (ci := 5) (v := .ref (q 7)) (C := RX5) (T := TX5) (N := 33) hx hb hts iX5_asks_X5 hown hK hP 0 rfl rfl 9 (by decide) (hts _ kX5_asks_0) (fun _ h9 => h9) rfl dX5_asks_16 ?_
    refine lv_iload_n hx hb dX5_asks_19 rfl (lv_at hl 2 rfl) ?_
    refine va_iald hx hb hK hP 7 0 rfl rfl hp.1 dX5_asks_20 ?_
    have hp := hp.2
    refine lv_iconst (v := -1) hx hb dX5_asks_21 (by decide) ?_
    refine lv_icmp_ne (tgt := 29) hx hb dX5_asks_22 (by decide) (fun c6 => ?_) (fun c6 => ?_)
    · have hp := hp.1 c6
      refine lv_iconst (v := 0) hx hb dX5_asks_29 (by decide) ?_
      obtain ⟨r2, g3, hg3, hp⟩ := hp
      refine wr_Vi (As := [.int (0 : Int32)]) (rest := []) (w1 := []) (w2 := []) (ws1 := wX5 q cI g3) ⟨hx, hb, hml, hown, hts⟩ (c_X5_isFine l dC dI cI q g (0 : Int32) r2 g3 hg3 _) (cwV 1 hts gX5_asks_X5_isFine rfl rfl rfl (by decide +kernel) ⟨Nat.le_of_ble_eq_true rfl, Nat.le_of_ble_eq_true rfl⟩) hP hD hS hA hK hN (List.append_nil _).symm (List.append_nil _) rfl rfl rfl rfl hl.1 (Nat.le_of_ble_eq_true rfl) ⟨Nat.zero_le _, Nat.zero_le _⟩ dX5_asks_30 (fun H locs hP hD hS => ?_)
      have hbv := rd_bool hp.1
      have hp := hp.2
      exact W.zret (ty := .boolean) hx hb hr hbv (fun t ht _ => ⟨⟨_, (), rfl, hp.1.symm, by rw [ht, hp.2]; exact hP, by rw [hp.2]; exact hD⟩, hS.F ht⟩) hS.2.2 dX5_asks_33
    · have hp := hp.2 c6
      refine lv_iconst (v := 2) hx hb dX5_asks_25 (by decide) ?_
      refine lv_goto (tgt := 30) hx hb dX5_asks_26 (by decide) ?_
      obtain ⟨r4, g5, hg5, hp⟩ := hp
      refine wr_Vi (As := [.int (2 : Int32)]) (rest := []) (w1 := []) (w2 := []) (ws1 := wX5 q cI g5) ⟨hx, hb, hml, hown, hts⟩ (c_X5_isFine l dC dI cI q g (2 : Int32) r4 g5 hg5 _) (cwV 1 hts gX5_asks_X5_isFine rfl rfl rfl (by decide +kernel) ⟨Nat.le_of_ble_eq_true rfl, Nat.le_of_ble_eq_true rfl⟩) hP hD hS hA hK hN (List.append_nil _).symm (List.append_nil _) rfl rfl rfl rfl hl.1 (Nat.le_of_ble_eq_true rfl) ⟨Nat.zero_le _, Nat.zero_le _⟩ dX5_asks_30 (fun H locs hP hD hS => ?_)
      have hbv := rd_bool hp.1
      have hp := hp.2
      exact W.zret (ty := .boolean) hx hb hr hbv (fun t ht _ => ⟨⟨_, (), rfl, hp.1.symm, by rw [ht, hp.2]; exact hP, by rw [hp.2]; exact hD⟩, hS.F ht⟩) hS.2.2 dX5_asks_33
  · have hp := hp.2 c9
    refine lv_iconst (v := 1) hx hb dX5_asks_11 (by decide) ?_
    refine lv_goto (tgt := 30) hx hb dX5_asks_12 (by decide) ?_
    obtain ⟨r7, g8, hg8, hp⟩ := hp
    refine wr_Vi (As := [.int (1 : Int32)]) (rest := []) (w1 := []) (w2 := []) (ws1 := wX5 q cI g8) ⟨hx, hb, hml, hown, hts⟩ (c_X5_isFine l dC dI cI q g (1 : Int32) r7 g8 hg8 _) (cwV 1 hts gX5_asks_X5_isFine rfl rfl rfl (by decide +kernel) ⟨Nat.le_of_ble_eq_true rfl, Nat.le_of_ble_eq_true rfl⟩) hP hD hS hA hK hN (List.append_nil _).symm (List.append_nil _) rfl rfl rfl rfl hl.1 (Nat.le_of_ble_eq_true rfl) ⟨Nat.zero_le _, Nat.zero_le _⟩ dX5_asks_30 (fun H locs hP hD hS => ?_)
    have hbv := rd_bool hp.1
    have hp := hp.2
    exact W.zret (ty := .boolean) hx hb hr hbv (fun t ht _ => ⟨⟨_, (), rfl, hp.1.symm, by rw [ht, hp.2]; exact hP, by rw [hp.2]; exact hD⟩, hS.F ht⟩) hS.2.2 dX5_asks_33
def P_X5_ruling (g : St) (a1 : Int32) (r : Int32) (g' : St) : Prop := (∃ (r1 : Int32) (g2 : St), P_X5_asks g a1 r1 g2 ∧ ((r1 = 0 → (r = (0 : Int32) ∧ g' = g2)) ∧ (¬ r1 = 0 → (∃ r3 : Int32, P_X5_rulingFor g2 a1 r3 ∧ (r = r3 ∧ g' = g2)))))
set_option maxRecDepth 100000 in
set_option maxHeartbeats 4000000 in
theorem c_X5_ruling (l : Launch) (dC : Nat → ClassId) (dI : Nat → Nat → Nat) (cI : ClassId) (q : Nat → Nat) (g : St) (a1 : Int32) (r : Int32) (g' : St) (hp : P_X5_ruling g a1 r g') (sz : Nat) : Met l yX5_ruling wsX5_ruling { frames := 4, cells := 0, slots := 0, locals := 94 } (va_Pc [.ref (q 0), .int a1] (wpS (dC, dI) vwCl [(cI, .int)] (wX5 q cI g) sz)) (va_Qi (fun (r' : Int32) (_ : Unit) => r' = r) (fun _ t => wqB (dC, dI) vwCl (wX5 q cI g') (va_A (wX5 q cI g) sz) t) (va_A (wX5 q cI g) sz)) 0 0 (va_A (wX5 q cI g) sz) := by
  refine wr_met (fun A => (va_Qi (fun (r' : Int32) (_ : Unit) => r' = r) (fun _ t => wqB (dC, dI) vwCl (wX5 q cI g') A t) A)) (cc := cX5_ruling) (maxL := 2) (ret := (some .int)) (by decide) rfl (Nat.le_of_ble_eq_true rfl) ?_
  intro p e s m below meth c A hx hb hml hr hlk hts hown hnm hP hK hN hD hA ls hl
  have hS : va_S A s.heap s.heap [] := va_S.rf
  have hl : lv_has ls 2 [(0, .ref (q 0)), (1, .int a1)] := hl
  unfold P_X5_ruling at hp
  refine lv_aload_n hx hb dX5_ruling_0 rfl (lv_at hl 0 rfl) ?_
  refine lv_iload_n hx hb dX5_ruling_1 rfl (lv_at hl 1 rfl) ?_
  obtain ⟨r1, g2, hg2, hp⟩ := hp
  refine wr_Vi (As := [.int a1]) (rest := []) (w1 := []) (w2 := []) (ws1 := wX5 q cI g2) ⟨hx, hb, hml, hown, hts⟩ (c_X5_asks l dC dI cI q g a1 r1 g2 hg2 _) (cwV 1 hts gX5_ruling_X5_asks rfl rfl rfl (by decide +kernel) ⟨Nat.le_of_ble_eq_true rfl, Nat.le_of_ble_eq_true rfl⟩) hP hD hS hA hK hN (List.append_nil _).symm (List.append_nil _) rfl rfl rfl rfl hl.1 (Nat.le_of_ble_eq_true rfl) ⟨Nat.zero_le _, Nat.zero_le _⟩ dX5_ruling_2 (fun H locs hP hD hS => ?_)
  refine lv_if_eq (tgt := 16) hx hb dX5_ruling_5 (by decide) (fun c4 => ?_) (fun c4 => ?_)
  · have hp := hp.1 c4
    refine lv_iconst (v := 0) hx hb dX5_ruling_16 (by decide) ?_
    exact W.iret hx hb hr (fun t ht _ => ⟨⟨_, (), rfl, hp.1.symm, by rw [ht, hp.2]; exact hP, by rw [hp.2]; exact hD⟩, hS.F ht⟩) hS.2.2 dX5_ruling_17
  · have hp := hp.2 c4
    refine lv_aload_n hx hb dX5_ruling_8 rfl (lv_at hl 0 rfl) ?_
    refine lv_iload_n hx hb dX5_ruling_9 rfl (lv_at hl 1 rfl) ?_
    obtain ⟨r3, hr3, hp⟩ := hp
    refine ro_V (As := [.int a1]) (rest := []) ⟨hx, hb, hml, hown, hts⟩ (c_X5_rulingFor l dC dI cI q g2 a1 r3 hr3) (cwV 1 hts gX5_ruling_X5_rulingFor rfl rfl rfl (by decide +kernel) ⟨Nat.le_of_ble_eq_true rfl, Nat.le_of_ble_eq_true rfl⟩) hP hK hN rfl rfl rfl rfl hl.1 (Nat.le_of_ble_eq_true rfl) ⟨Nat.zero_le _, Nat.zero_le _⟩ dX5_ruling_10 ?_
    refine lv_goto (tgt := 17) hx hb dX5_ruling_13 (by decide) ?_
    exact W.iret hx hb hr (fun t ht _ => ⟨⟨_, (), rfl, hp.1.symm, by rw [ht, hp.2]; exact hP, by rw [hp.2]; exact hD⟩, hS.F ht⟩) hS.2.2 dX5_ruling_17
def P_X5_rulingFromBelow (g : St) (a1 : Int32) (r : Int32) (g' : St) : Prop := (∃ (r1 : Int32) (g2 : St), P_X5_asks g a1 r1 g2 ∧ ((r1 = 0 → (r = (0 : Int32) ∧ g' = g2)) ∧ (¬ r1 = 0 → (∃ r3 : Int32, P_X5_rulingFor g2 a1 r3 ∧ (r = r3 ∧ g' = g2)))))
set_option maxRecDepth 100000 in
set_option maxHeartbeats 4000000 in
theorem c_X5_rulingFromBelow (l : Launch) (dC : Nat → ClassId) (dI : Nat → Nat → Nat) (cI : ClassId) (q : Nat → Nat) (g : St) (a1 : Int32) (r : Int32) (g' : St) (hp : P_X5_rulingFromBelow g a1 r g') (sz : Nat) : Met l yX5_rulingFromBelow wsX5_rulingFromBelow { frames := 4, cells := 0, slots := 0, locals := 94 } (va_Pc [.ref (q 0), .int a1] (wpS (dC, dI) vwCl [(cI, .int)] (wX5 q cI g) sz)) (va_Qi (fun (r' : Int32) (_ : Unit) => r' = r) (fun _ t => wqB (dC, dI) vwCl (wX5 q cI g') (va_A (wX5 q cI g) sz) t) (va_A (wX5 q cI g) sz)) 0 0 (va_A (wX5 q cI g) sz) := by
  refine wr_met (fun A => (va_Qi (fun (r' : Int32) (_ : Unit) => r' = r) (fun _ t => wqB (dC, dI) vwCl (wX5 q cI g') A t) A)) (cc := cX5_rulingFromBelow) (maxL := 2) (ret := (some .int)) (by decide) rfl (Nat.le_of_ble_eq_true rfl) ?_
  intro p e s m below meth c A hx hb hml hr hlk hts hown hnm hP hK hN hD hA ls hl
  have hS : va_S A s.heap s.heap [] := va_S.rf
  have hl : lv_has ls 2 [(0, .ref (q 0)), (1, .int a1)] := hl
  unfold P_X5_rulingFromBelow at hp
  refine lv_aload_n hx hb dX5_rulingFromBelow_0 rfl (lv_at hl 0 rfl) ?_
  refine lv_iload_n hx hb dX5_rulingFromBelow_1 rfl (lv_at hl 1 rfl) ?_
  obtain ⟨r1, g2, hg2, hp⟩ := hp
  refine wr_Vi (As := [.int a1]) (rest := []) (w1 := []) (w2 := []) (ws1 := wX5 q cI g2) ⟨hx, hb, hml, hown, hts⟩ (c_X5_asks l dC dI cI q g a1 r1 g2 hg2 _) (cwV 1 hts gX5_rulingFromBelow_X5_asks rfl rfl rfl (by decide +kernel) ⟨Nat.le_of_ble_eq_true rfl, Nat.le_of_ble_eq_true rfl⟩) hP hD hS hA hK hN (List.append_nil _).symm (List.append_nil _) rfl rfl rfl rfl hl.1 (Nat.le_of_ble_eq_true rfl) ⟨Nat.zero_le _, Nat.zero_le _⟩ dX5_rulingFromBelow_2 (fun H locs hP hD hS => ?_)
  refine lv_if_eq (tgt := 16) hx hb dX5_rulingFromBelow_5 (by decide) (fun c4 => ?_) (fun c4 => ?_)
  · have hp := hp.1 c4
    refine lv_iconst (v := 0) hx hb dX5_rulingFromBelow_16 (by decide) ?_
    exact W.iret hx hb hr (fun t ht _ => ⟨⟨_, (), rfl, hp.1.symm, by rw [ht, hp.2]; exact hP, by rw [hp.2]; exact hD⟩, hS.F ht⟩) hS.2.2 dX5_rulingFromBelow_17
  · have hp := hp.2 c4
    refine lv_aload_n hx hb dX5_rulingFromBelow_8 rfl (lv_at hl 0 rfl) ?_
    refine lv_iload_n hx hb dX5_rulingFromBelow_9 rfl (lv_at hl 1 rfl) ?_
    obtain ⟨r3, hr3, hp⟩ := hp
    refine ro_V (As := [.int a1]) (rest := []) ⟨hx, hb, hml, hown, hts⟩ (c_X5_rulingFor l dC dI cI q g2 a1 r3 hr3) (cwV 1 hts gX5_rulingFromBelow_X5_rulingFor rfl rfl rfl (by decide +kernel) ⟨Nat.le_of_ble_eq_true rfl, Nat.le_of_ble_eq_true rfl⟩) hP hK hN rfl rfl rfl rfl hl.1 (Nat.le_of_ble_eq_true rfl) ⟨Nat.zero_le _, Nat.zero_le _⟩ dX5_rulingFromBelow_10 ?_
    refine lv_goto (tgt := 17) hx hb dX5_rulingFromBelow_13 (by decide) ?_
    exact W.iret hx hb hr (fun t ht _ => ⟨⟨_, (), rfl, hp.1.symm, by rw [ht, hp.2]; exact hP, by rw [hp.2]; exact hD⟩, hS.F ht⟩) hS.2.2 dX5_rulingFromBelow_17
theorem kX5_depth_0 : (.fieldLink RX5 76 "MeeplehouseModel" "rules" "[I" : Cond) ∈ wsX5_depth := by decide +kernel
theorem iX5_depth_X5 : ∀ w ∈ wsX50, w ∈ wsX5_depth := by decide +kernel
theorem kX5_depth_2 : (.fieldLink RX5 64 "MeeplehouseModel" "parent" "[I" : Cond) ∈ wsX5_depth := by decide +kernel
def P_X5_depth (g : St) (a1 : Int32) (r : Int32) (g' : St) : Prop := ∀ V14 : St → Int32 → Prop, ∀ V26 : St → Int32 → Int32 → Prop, ∀ V42 : St → Int32 → Int32 → Int32 → Int32 → Prop, (∀ gv : St, ∀ t0 : Int32, (∃ (r3 : Int32) (g4 : St), P_X5_isFine gv t0 r3 g4 ∧ ((¬ r3 = 0 → (V26 g4 (0 : Int32) (0 : Int32))) ∧ (r3 = 0 → (r = (0 : Int32) ∧ g' = g4)))) → V14 gv t0) → (∀ gv : St, ∀ x2 x3 : Int32, (vp_in a1 8 ∧ (((gv 23 a1.toNatClampNeg) ≤ x3 → (r = x2 ∧ g' = gv)) ∧ (¬ (gv 23 a1.toNatClampNeg) ≤ x3 → (V42 gv x2 x3 (0 : Int32) x3)))) → V26 gv x2 x3) → (∀ gv : St, ∀ x2 x3 x4 x5 : Int32, ((x5 = (-1 : Int32) → ((x4 ≤ x2 → (V26 gv x2 (x3 + (1 : Int32)))) ∧ (¬ x4 ≤ x2 → (V26 gv x4 (x3 + (1 : Int32)))))) ∧ (¬ x5 = (-1 : Int32) → (vp_in (((12 : Int32) * a1) + x5) 96 ∧ (V42 gv x2 x3 (x4 + (1 : Int32)) (gv 19 (((12 : Int32) * a1) + x5).toNatClampNeg))))) → V42 gv x2 x3 x4 x5) → (∃ r1 : Int32, P_X5_isTitle g a1 r1 ∧ ((r1 = 0 → (V14 g (1 : Int32))) ∧ (¬ r1 = 0 → (V14 g (0 : Int32)))))
set_option maxRecDepth 100000 in
set_option maxHeartbeats 4000000 in
theorem c_X5_depth (l : Launch) (dC : Nat → ClassId) (dI : Nat → Nat → Nat) (cI : ClassId) (q : Nat → Nat) (g : St) (a1 : Int32) (r : Int32) (g' : St) (hp : P_X5_depth g a1 r g') (sz : Nat) : Met l yX5_depth wsX5_depth { frames := 2, cells := 0, slots := 0, locals := 43 } (va_Pc [.ref (q 0), .int a1] (wpS (dC, dI) vwCl [(cI, .int)] (wX5 q cI g) sz)) (va_Qi (fun (r' : Int32) (_ : Unit) => r' = r) (fun _ t => wqB (dC, dI) vwCl (wX5 q cI g') (va_A (wX5 q cI g) sz) t) (va_A (wX5 q cI g) sz)) 0 0 (va_A (wX5 q cI g) sz) := by
  refine wr_met (fun A => (va_Qi (fun (r' : Int32) (_ : Unit) => r' = r) (fun _ t => wqB (dC, dI) vwCl (wX5 q cI g') A t) A)) (cc := cX5_depth) (maxL := 6) (ret := (some .int)) (by decide) rfl (Nat.le_of_ble_eq_true rfl) ?_
  intro p e s m below meth c A hx hb hml hr hlk hts hown hnm hP hK hN hD hA ls hl
  have hS : va_S A s.heap s.heap [] := va_S.rf
  have hl : lv_has ls 6 [(0, .ref (q 0)), (1, .int a1)] := hl
  obtain ⟨V14, eV14⟩ : ∃ V : St → Int32 → Prop, V = (fun gv t0 => ∀ (H : Heap) (locs : List Loc) (ls : Array Slot), va_P (dC, dI) vwCl (wX5 q cI gv) H → va_D A (wX5 q cI gv) → va_S A s.heap H locs → lv_has ls 6 [(0, .ref (q 0)), (1, .int a1)] → W p l e { frames := 2, cells := 0, slots := 0, locals := 43 } s m ([.ref (q 0), .int a1] : List Value).toArray below meth c H locs 0 0 (MQ below (va_Qi (fun (r' : Int32) (_ : Unit) => r' = r) (fun _ t => wqB (dC, dI) vwCl (wX5 q cI g') A t) A) ([.ref (q 0), .int a1] : List Value).toArray s 0 0 A) (F0 m 14 ls [.int t0, .ref (q 0)])) := ⟨_, rfl⟩
  obtain ⟨V26, eV26⟩ : ∃ V : St → Int32 → Int32 → Prop, V = (fun gv x2 x3 => ∀ (H : Heap) (locs : List Loc) (ls : Array Slot), va_P (dC, dI) vwCl (wX5 q cI gv) H → va_D A (wX5 q cI gv) → va_S A s.heap H locs → lv_has ls 6 [(0, .ref (q 0)), (1, .int a1), (2, .int x2), (3, .int x3)] → W p l e { frames := 2, cells := 0, slots := 0, locals := 43 } s m ([.ref (q 0), .int a1] : List Value).toArray below meth c H locs 0 0 (MQ below (va_Qi (fun (r' : Int32) (_ : Unit) => r' = r) (fun _ t => wqB (dC, dI) vwCl (wX5 q cI g') A t) A) ([.ref (q 0), .int a1] : List Value).toArray s 0 0 A) (F0 m 26 ls [])) := ⟨_, rfl⟩
  obtain ⟨V42, eV42⟩ : ∃ V : St → Int32 → Int32 → Int32 → Int32 → Prop, V = (fun gv x2 x3 x4 x5 => ∀ (H : Heap) (locs : List Loc) (ls : Array Slot), va_P (dC, dI) vwCl (wX5 q cI gv) H → va_D A (wX5 q cI gv) → va_S A s.heap H locs → lv_has ls 6 [(0, .ref (q 0)), (1, .int a1), (2, .int x2), (3, .int x3), (4, .int x4), (5, .int x5)] → W p l e { frames := 2, cells := 0, slots := 0, locals := 43 } s m ([.ref (q 0), .int a1] : List Value).toArray below meth c H locs 0 0 (MQ below (va_Qi (fun (r' : Int32) (_ : Unit) => r' = r) (fun _ t => wqB (dC, dI) vwCl (wX5 q cI g') A t) A) ([.ref (q 0), .int a1] : List Value).toArray s 0 0 A) (F0 m 42 ls [])) := ⟨_, rfl⟩
  have hp := hp V14 V26 V42
  have hp := hp (by
    intro gv t0 hp
    rw [eV14]
    intro H locs ls hP hD hS hl
    obtain ⟨r3, g4, hg4, hp⟩ := hp
    refine wr_Vi (As := [.int t0]) (rest := []) (w1 := []) (w2 := []) (ws1 := wX5 q cI g4) ⟨hx, hb, hml, hown, hts⟩ (c_X5_isFine l dC dI cI q gv t0 r3 g4 hg4 _) (cwV 1 hts gX5_depth_X5_isFine rfl rfl rfl (by decide +kernel) ⟨Nat.le_of_ble_eq_true rfl, Nat.le_of_ble_eq_true rfl⟩) hP hD hS hA hK hN (List.append_nil _).symm (List.append_nil _) rfl rfl rfl rfl hl.1 (Nat.le_of_ble_eq_true rfl) ⟨Nat.zero_le _, Nat.zero_le _⟩ dX5_depth_14 (fun H locs hP hD hS => ?_)
    refine lv_if_ne (tgt := 22) hx hb dX5_depth_17 (by decide) (fun c5 => ?_) (fun c5 => ?_)
    · have hp := hp.1 c5
      refine lv_iconst (v := 0) hx hb dX5_depth_22 (by decide) ?_
      refine lv_istore_n (lv' := [(2, .int (0 : Int32)), (0, .ref (q 0)), (1, .int a1)]) hx hb dX5_depth_23 rfl hl (by decide) rfl (fun ls hl => ?_)
      refine lv_iconst (v := 0) hx hb dX5_depth_24 (by decide) ?_
      refine lv_istore_n (lv' := [(3, .int (0 : Int32)), (2, .int (0 : Int32)), (0, .ref (q 0)), (1, .int a1)]) hx hb dX5_depth_25 rfl hl (by decide) rfl (fun ls hl => ?_)
      rw [eV26] at hp
      exact hp _ _ _ hP hD hS (lv_sub hl [2, 3, 1, 0] rfl)
    · have hp := hp.2 c5
      refine lv_iconst (v := 0) hx hb dX5_depth_20 (by decide) ?_
      exact W.iret hx hb hr (fun t ht _ => ⟨⟨_, (), rfl, hp.1.symm, by rw [ht, hp.2]; exact hP, by rw [hp.2]; exact hD⟩, hS.F ht⟩) hS.2.2 dX5_depth_21)
  have hp := hp (by
    intro gv x2 x3 hp
    rw [eV26]
    intro H locs ls hP hD hS hl
    refine lv_iload_n hx hb dX5_depth_26 rfl (lv_at hl 3 rfl) ?_
    refine lv_aload_n hx hb dX5_depth_27 rfl (lv_at hl 0 rfl) ?_
    refine va_get (D := (dC, dI)) (ci := 5) (v := .ref (q 23)) (C := RX5) (T := TX5) (N := 33) hx hb hts iX5_depth_X5 hown hK hP 0 rfl rfl 29 (by decide) (hts _ kX5_depth_0) (fun _ h9 => h9) rfl dX5_depth_28 ?_
    refine lv_iload_n hx hb dX5_depth_31 rfl (lv_at hl 1 rfl) ?_
    refine va_iald hx hb hK hP 23 0 rfl rfl hp.1 dX5_depth_32 ?_
    have hp := hp.2
    refine lv_icmp_ge (tgt := 87) hx hb dX5_depth_33 (by decide) (fun c6 => ?_) (fun c6 => ?_)
    · have hp := hp.1 c6
      refine lv_iload_n hx hb dX5_depth_87 rfl (lv_at hl 2 rfl) ?_
      exact W.iret hx hb hr (fun t ht _ => ⟨⟨_, (), rfl, hp.1.symm, by rw [ht, hp.2]; exact hP, by rw [hp.2]; exact hD⟩, hS.F ht⟩) hS.2.2 dX5_depth_88
    · have hp := hp.2 c6
      refine lv_iconst (v := 0) hx hb dX5_depth_36 (by decide) ?_
      refine lv_istore (lv' := [(4, .int (0 : Int32)), (0, .ref (q 0)), (1, .int a1), (2, .int x2), (3, .int x3)]) hx hb dX5_depth_37 hl (by decide) rfl (fun ls hl => ?_)
      refine lv_iload_n hx hb dX5_depth_39 rfl (lv_at hl 4 rfl) ?_
      refine lv_istore (lv' := [(5, .int x3), (4, .int (0 : Int32)), (0, .ref (q 0)), (1, .int a1), (2, .int x2), (3, .int x3)]) hx hb dX5_depth_40 hl (by decide) rfl (fun ls hl => ?_)
      rw [eV42] at hp
      exact hp _ _ _ hP hD hS (lv_sub hl [2, 3, 4, 5, 1, 0] rfl))
  have hp := hp (by
    intro gv x2 x3 x4 x5 hp
    rw [eV42]
    intro H locs ls hP hD hS hl
    refine lv_iload hx hb dX5_depth_42 (lv_at hl 5 rfl) ?_
    refine lv_iconst (v := -1) hx hb dX5_depth_44 (by decide) ?_
    refine lv_icmp_eq (tgt := 68) hx hb dX5_depth_45 (by decide) (fun c8 => ?_) (fun c8 => ?_)
    · have hp := hp.1 c8
      refine lv_iload hx hb dX5_depth_68 (lv_at hl 4 rfl) ?_
      refine lv_iload_n hx hb dX5_depth_70 rfl (lv_at hl 2 rfl) ?_
      refine lv_icmp_le (tgt := 79) hx hb dX5_depth_71 (by decide) (fun c7 => ?_) (fun c7 => ?_)
      · have hp := hp.1 c7
        refine lv_iload_n hx hb dX5_depth_79 rfl (lv_at hl 2 rfl) ?_
        refine lv_istore_n (lv' := [(2, .int x2), (0, .ref (q 0)), (1, .int a1), (3, .int x3), (4, .int x4), (5, .int x5)]) hx hb dX5_depth_80 rfl hl (by decide) rfl (fun ls hl => ?_)
        refine lv_iinc (v := x3 + (1 : Int32)) (lv' := [(3, .int (x3 + (1 : Int32))), (2, .int x2), (0, .ref (q 0)), (1, .int a1), (4, .int x4), (5, .int x5)]) hx hb dX5_depth_81 hl (k := 3) rfl rfl (by decide) rfl (fun ls hl => ?_)
        refine lv_goto (tgt := 26) hx hb dX5_depth_84 (by decide) ?_
        rw [eV26] at hp
        exact hp _ _ _ hP hD hS (lv_sub hl [2, 3, 1, 0] rfl)
      · have hp := hp.2 c7
        refine lv_iload hx hb dX5_depth_74 (lv_at hl 4 rfl) ?_
        refine lv_goto (tgt := 80) hx hb dX5_depth_76 (by decide) ?_
        refine lv_istore_n (lv' := [(2, .int x4), (0, .ref (q 0)), (1, .int a1), (3, .int x3), (4, .int x4), (5, .int x5)]) hx hb dX5_depth_80 rfl hl (by decide) rfl (fun ls hl => ?_)
        refine lv_iinc (v := x3 + (1 : Int32)) (lv' := [(3, .int (x3 + (1 : Int32))), (2, .int x4), (0, .ref (q 0)), (1, .int a1), (4, .int x4), (5, .int x5)]) hx hb dX5_depth_81 hl (k := 3) rfl rfl (by decide) rfl (fun ls hl => ?_)
        refine lv_goto (tgt := 26) hx hb dX5_depth_84 (by decide) ?_
        rw [eV26] at hp
        exact hp _ _ _ hP hD hS (lv_sub hl [2, 3, 1, 0] rfl)
    · have hp := hp.2 c8
      refine lv_iinc (v := x4 + (1 : Int32)) (lv' := [(4, .int (x4 + (1 : Int32))), (0, .ref (q 0)), (1, .int a1), (2, .int x2), (3, .int x3), (5, .int x5)]) hx hb dX5_depth_48 hl (k := 4) rfl rfl (by decide) rfl (fun ls hl => ?_)
      refine lv_aload_n hx hb dX5_depth_51 rfl (lv_at hl 1 rfl) ?_
      refine va_get (D := (dC, dI)) (ci := 5) (v := .ref (q 19)) (C := RX5) (T := TX5) (N := 33) hx hb hts iX5_depth_X5 hown hK hP 0 rfl rfl 25 (by decide) (hts _ kX5_depth_2) (fun _ h9 => h9) rfl dX5_depth_52 ?_
      refine lv_bipush (v := 12) hx hb dX5_depth_55 (by decide) ?_
      refine lv_iload_n hx hb dX5_depth_57 rfl (lv_at hl 2 rfl) ?_
      refine lv_imul hx hb dX5_depth_58 ?_
      refine lv_iload hx hb dX5_depth_59 (lv_at hl 5 rfl) ?_
      refine lv_iadd hx hb dX5_depth_61 ?_
      refine va_iald hx hb hK hP 19 0 rfl rfl hp.1 dX5_depth_62 ?_
      have hp := hp.2
      refine lv_istore (lv' := [(5, .int (gv 19 (((12 : Int32) * a1) + x5).toNatClampNeg)), (4, .int (x4 + (1 : Int32))), (0, .ref (q 0)), (1, .int a1), (2, .int x2), (3, .int x3)]) hx hb dX5_depth_63 hl (by decide) rfl (fun ls hl => ?_)
      refine lv_goto (tgt := 42) hx hb dX5_depth_65 (by decide) ?_
      rw [eV42] at hp
      exact hp _ _ _ hP hD hS (lv_sub hl [2, 3, 4, 5, 1, 0] rfl))
  refine lv_aload_n hx hb dX5_depth_0 rfl (lv_at hl 0 rfl) ?_
  refine lv_aload_n hx hb dX5_depth_1 rfl (lv_at hl 0 rfl) ?_
  refine lv_iload_n hx hb dX5_depth_2 rfl (lv_at hl 1 rfl) ?_
  obtain ⟨r1, hr1, hp⟩ := hp
  refine ro_V (As := [.int a1]) (rest := [.ref (q 0)]) ⟨hx, hb, hml, hown, hts⟩ (c_X5_isTitle l dC dI cI q g a1 r1 hr1) (cwV 1 hts gX5_depth_X5_isTitle rfl rfl rfl (by decide +kernel) ⟨Nat.le_of_ble_eq_true rfl, Nat.le_of_ble_eq_true rfl⟩) hP hK hN rfl rfl rfl rfl hl.1 (Nat.le_of_ble_eq_true rfl) ⟨Nat.zero_le _, Nat.zero_le _⟩ dX5_depth_3 ?_
  refine lv_if_eq (tgt := 13) hx hb dX5_depth_6 (by decide) (fun c2 => ?_) (fun c2 => ?_)
  · have hp := hp.1 c2
    refine lv_iconst (v := 1) hx hb dX5_depth_13 (by decide) ?_
    rw [eV14] at hp
    exact hp _ _ _ hP hD hS (lv_sub hl [0, 1] rfl)
  · have hp := hp.2 c2
    refine lv_iconst (v := 0) hx hb dX5_depth_9 (by decide) ?_
    refine lv_goto (tgt := 14) hx hb dX5_depth_10 (by decide) ?_
    rw [eV14] at hp
    exact hp _ _ _ hP hD hS (lv_sub hl [0, 1] rfl)
