def wX1 (q : Nat → Nat) (cI : ClassId) (g : St) : va_W := [(q 0, .inr (1, [.ref (q 1), .ref (q 3), .ref (q 5), .ref (q 7), .ref (q 9)])), (q 1, .inr (2, [.ref (q 2)])), (q 2, .inl (cI, 8, .inl (g 1))), (q 3, .inr (2, [.ref (q 4)])), (q 4, .inl (cI, 96, .inl (g 2))), (q 5, .inr (2, [.ref (q 6)])), (q 6, .inl (cI, 96, .inl (g 3))), (q 7, .inr (2, [.ref (q 8)])), (q 8, .inl (cI, 96, .inl (g 4))), (q 9, .inr (2, [.ref (q 10)])), (q 10, .inl (cI, 96, .inl (g 5)))]
theorem kX1_rulesOf_0 : (.fieldLink RX1 14 "Meeplehouse$Referee" "rules" "LMeeplehouse$Row;" : Cond) ∈ wsX1_rulesOf := by decide +kernel
theorem iX1_rulesOf_X1 : ∀ w ∈ wsX10, w ∈ wsX1_rulesOf := by decide +kernel
def P_X1_rulesOf (g : St) (a1 : Int32) (r : Int32) : Prop := (r = (f_at 8 (g 1) a1))
set_option maxRecDepth 100000 in
set_option maxHeartbeats 4000000 in
theorem c_X1_rulesOf (l : Launch) (dC : Nat → ClassId) (dI : Nat → Nat → Nat) (cI : ClassId) (q : Nat → Nat) (g : St) (a1 : Int32) (r : Int32) (hp : P_X1_rulesOf g a1 r) : Met l yX1_rulesOf wsX1_rulesOf { frames := 1, cells := 0, slots := 0, locals := 21 } (va_Pc [.ref (q 0), .int a1] (rpS (dC, dI) vwCl [(cI, .int)] (wX1 q cI g))) (QcRead r) 0 0 (fun _ => False) := by
  refine ro_met (cc := cX1_rulesOf) (maxL := 2) (ret := (some .int)) (by decide) rfl (Nat.le_of_ble_eq_true rfl) ?_
  intro p e s m below meth c hx hb hml hr hlk hts hown hP hK hN ls hl
  have hl : lv_has ls 2 [(0, .ref (q 0)), (1, .int a1)] := hl
  unfold P_X1_rulesOf at hp
  refine lv_aload_n hx hb dX1_rulesOf_0 rfl (lv_at hl 0 rfl) ?_
  refine va_get (D := (dC, dI)) (ci := 1) (v := .ref (q 1)) (C := RX1) (T := TX1) (N := 5) hx hb hts iX1_rulesOf_X1 hown hK hP 0 rfl rfl 0 (by decide) (hts _ kX1_rulesOf_0) (fun _ h9 => h9) rfl dX1_rulesOf_1 ?_
  refine lv_iload_n hx hb dX1_rulesOf_4 rfl (lv_at hl 1 rfl) ?_
  refine ro_V (As := [.int a1]) (rest := []) ⟨hx, hb, hml, hown, hts⟩ (c_X2_at l dC dI cI (q 1) (q 2) 8 (g 1) a1 (by decide)) (cwV 1 hts gX1_rulesOf_X2_at rfl rfl rfl (by decide +kernel) ⟨Nat.le_of_ble_eq_true rfl, Nat.le_of_ble_eq_true rfl⟩) (hP.sub [1, 2] rfl) hK hN rfl rfl rfl rfl hl.1 (Nat.le_of_ble_eq_true rfl) ⟨Nat.zero_le _, Nat.zero_le _⟩ dX1_rulesOf_5 ?_
  exact W.iret hx hb hr (fun t ht _ => ⟨by rw [hp], ht⟩) (fun _ h => nomatch h) dX1_rulesOf_8
theorem kX1_putRule_0 : (.fieldLink RX1 14 "Meeplehouse$Referee" "rules" "LMeeplehouse$Row;" : Cond) ∈ wsX1_putRule := by decide +kernel
theorem iX1_putRule_X1 : ∀ w ∈ wsX10, w ∈ wsX1_putRule := by decide +kernel
theorem kX1_putRule_2 : (.fieldLink RX1 20 "Meeplehouse$Referee" "parents" "LMeeplehouse$Row;" : Cond) ∈ wsX1_putRule := by decide +kernel
theorem kX1_putRule_3 : (.fieldLink RX1 23 "Meeplehouse$Referee" "tests" "LMeeplehouse$Row;" : Cond) ∈ wsX1_putRule := by decide +kernel
theorem kX1_putRule_4 : (.fieldLink RX1 26 "Meeplehouse$Referee" "values" "LMeeplehouse$Row;" : Cond) ∈ wsX1_putRule := by decide +kernel
theorem kX1_putRule_5 : (.fieldLink RX1 29 "Meeplehouse$Referee" "rulings" "LMeeplehouse$Row;" : Cond) ∈ wsX1_putRule := by decide +kernel
def P_X1_putRule (g : St) (a1 : Int32) (a2 : Int32) (a3 : Int32) (a4 : Int32) (a5 : Int32) (r : Int32) (g' : St) : Prop := (∀ g3 : St, g3 = st_put g 2 96 ((a1 * (12 : Int32)) + (f_at 8 (g 1) a1)) a2 → (∀ g5 : St, g5 = st_put g3 3 96 ((a1 * (12 : Int32)) + (f_at 8 (g 1) a1)) a3 → (∀ g7 : St, g7 = st_put g5 4 96 ((a1 * (12 : Int32)) + (f_at 8 (g 1) a1)) a4 → (∀ g9 : St, g9 = st_put g7 5 96 ((a1 * (12 : Int32)) + (f_at 8 (g 1) a1)) a5 → (∀ g11 : St, g11 = st_put g9 1 8 a1 ((f_at 8 (g 1) a1) + (1 : Int32)) → (r = (f_at 8 (g 1) a1) ∧ g' = g11))))))
set_option maxRecDepth 100000 in
set_option maxHeartbeats 4000000 in
theorem c_X1_putRule (l : Launch) (dC : Nat → ClassId) (dI : Nat → Nat → Nat) (cI : ClassId) (q : Nat → Nat) (g : St) (a1 : Int32) (a2 : Int32) (a3 : Int32) (a4 : Int32) (a5 : Int32) (r : Int32) (g' : St) (hp : P_X1_putRule g a1 a2 a3 a4 a5 r g') (sz : Nat) : Met l yX1_putRule wsX1_putRule { frames := 1, cells := 0, slots := 0, locals := 22 } (va_Pc [.ref (q 0), .int a1, .int a2, .int a3, .int a4, .int a5] (wpS (dC, dI) vwCl [(cI, .int)] (wX1 q cI g) sz)) (va_Qi (fun (r' : Int32) (_ : Unit) => r' = r) (fun _ t => wqB (dC, dI) vwCl (wX1 q cI g') (va_A (wX1 q cI g) sz) t) (va_A (wX1 q cI g) sz)) 0 0 (va_A (wX1 q cI g) sz) := by
  refine wr_met (fun A => (va_Qi (fun (r' : Int32) (_ : Unit) => r' = r) (fun _ t => wqB (dC, dI) vwCl (wX1 q cI g') A t) A)) (cc := cX1_putRule) (maxL := 8) (ret := (some .int)) (by decide) rfl (Nat.le_of_ble_eq_true rfl) ?_
  intro p e s m below meth c A hx hb hml hr hlk hts hown hnm hP hK hN hD hA ls hl
  have hS : va_S A s.heap s.heap [] := va_S.rf
  have hl : lv_has ls 8 [(0, .ref (q 0)), (1, .int a1), (2, .int a2), (3, .int a3), (4, .int a4), (5, .int a5)] := hl
  unfold P_X1_putRule at hp
  refine lv_aload_n hx hb dX1_putRule_0 rfl (lv_at hl 0 rfl) ?_
  refine va_get (D := (dC, dI)) (ci := 1) (v := .ref (q 1)) (C := RX1) (T := TX1) (N := 5) hx hb hts iX1_putRule_X1 hown hK hP 0 rfl rfl 0 (by decide) (hts _ kX1_putRule_0) (fun _ h9 => h9) rfl dX1_putRule_1 ?_
  refine lv_iload_n hx hb dX1_putRule_4 rfl (lv_at hl 1 rfl) ?_
  refine ro_V (As := [.int a1]) (rest := []) ⟨hx, hb, hml, hown, hts⟩ (c_X2_at l dC dI cI (q 1) (q 2) 8 (g 1) a1 (by decide)) (cwV 1 hts gX1_putRule_X2_at rfl rfl rfl (by decide +kernel) ⟨Nat.le_of_ble_eq_true rfl, Nat.le_of_ble_eq_true rfl⟩) (hP.sub [1, 2] rfl) hK hN rfl rfl rfl rfl hl.1 (Nat.le_of_ble_eq_true rfl) ⟨Nat.zero_le _, Nat.zero_le _⟩ dX1_putRule_5 ?_
  refine lv_istore (lv' := [(6, .int (f_at 8 (g 1) a1)), (0, .ref (q 0)), (1, .int a1), (2, .int a2), (3, .int a3), (4, .int a4), (5, .int a5)]) hx hb dX1_putRule_8 hl (by decide) rfl (fun ls hl => ?_)
  refine lv_iload_n hx hb dX1_putRule_10 rfl (lv_at hl 2 rfl) ?_
  refine lv_bipush (v := 12) hx hb dX1_putRule_11 (by decide) ?_
  refine lv_imul hx hb dX1_putRule_13 ?_
  refine lv_iload hx hb dX1_putRule_14 (lv_at hl 0 rfl) ?_
  refine lv_iadd hx hb dX1_putRule_16 ?_
  refine lv_istore (lv' := [(7, .int ((a1 * (12 : Int32)) + (f_at 8 (g 1) a1))), (6, .int (f_at 8 (g 1) a1)), (0, .ref (q 0)), (1, .int a1), (2, .int a2), (3, .int a3), (4, .int a4), (5, .int a5)]) hx hb dX1_putRule_17 hl (by decide) rfl (fun ls hl => ?_)
  refine lv_aload_n hx hb dX1_putRule_19 rfl (lv_at hl 2 rfl) ?_
  refine va_get (D := (dC, dI)) (ci := 1) (v := .ref (q 3)) (C := RX1) (T := TX1) (N := 5) hx hb hts iX1_putRule_X1 hown hK hP 0 rfl rfl 1 (by decide) (hts _ kX1_putRule_2) (fun _ h9 => h9) rfl dX1_putRule_20 ?_
  refine lv_iload hx hb dX1_putRule_23 (lv_at hl 0 rfl) ?_
  refine lv_iload_n hx hb dX1_putRule_25 rfl (lv_at hl 4 rfl) ?_
  refine wr_Vv (As := [.int ((a1 * (12 : Int32)) + (f_at 8 (g 1) a1)), .int a2]) (rest := []) (w1 := (wX1 q cI g).take 3) (w2 := (wX1 q cI g).drop 5) (ws1 := wX1 q cI (st_put g 2 96 ((a1 * (12 : Int32)) + (f_at 8 (g 1) a1)) a2)) ⟨hx, hb, hml, hown, hts⟩ (c_X2_put l dC dI cI (q 3) (q 4) 96 (g 2) ((a1 * (12 : Int32)) + (f_at 8 (g 1) a1)) a2 _ (by decide)) (cwV 2 hts gX1_putRule_X2_put rfl rfl rfl (by decide +kernel) ⟨Nat.le_of_ble_eq_true rfl, Nat.le_of_ble_eq_true rfl⟩) hP hD hS hA hK hN rfl rfl rfl rfl rfl rfl hl.1 (Nat.le_of_ble_eq_true rfl) ⟨Nat.zero_le _, Nat.zero_le _⟩ dX1_putRule_26 (fun H locs hP hD hS => ?_)
  obtain ⟨g3, eg3⟩ : ∃ z : St, z = st_put g 2 96 ((a1 * (12 : Int32)) + (f_at 8 (g 1) a1)) a2 := ⟨_, rfl⟩
  have hp := hp g3 eg3
  have hP : va_P (dC, dI) vwCl (wX1 q cI g3) H := by rw [eg3]; exact hP
  have hD : va_D A (wX1 q cI g3) := by rw [eg3]; exact hD
  refine lv_aload_n hx hb dX1_putRule_29 rfl (lv_at hl 2 rfl) ?_
  refine va_get (D := (dC, dI)) (ci := 1) (v := .ref (q 5)) (C := RX1) (T := TX1) (N := 5) hx hb hts iX1_putRule_X1 hown hK hP 0 rfl rfl 2 (by decide) (hts _ kX1_putRule_3) (fun _ h9 => h9) rfl dX1_putRule_30 ?_
  refine lv_iload hx hb dX1_putRule_33 (lv_at hl 0 rfl) ?_
  refine lv_iload_n hx hb dX1_putRule_35 rfl (lv_at hl 5 rfl) ?_
  refine wr_Vv (As := [.int ((a1 * (12 : Int32)) + (f_at 8 (g 1) a1)), .int a3]) (rest := []) (w1 := (wX1 q cI g3).take 5) (w2 := (wX1 q cI g3).drop 7) (ws1 := wX1 q cI (st_put g3 3 96 ((a1 * (12 : Int32)) + (f_at 8 (g 1) a1)) a3)) ⟨hx, hb, hml, hown, hts⟩ (c_X2_put l dC dI cI (q 5) (q 6) 96 (g3 3) ((a1 * (12 : Int32)) + (f_at 8 (g 1) a1)) a3 _ (by decide)) (cwV 2 hts gX1_putRule_X2_put rfl rfl rfl (by decide +kernel) ⟨Nat.le_of_ble_eq_true rfl, Nat.le_of_ble_eq_true rfl⟩) hP hD hS hA hK hN rfl rfl rfl rfl rfl rfl hl.1 (Nat.le_of_ble_eq_true rfl) ⟨Nat.zero_le _, Nat.zero_le _⟩ dX1_putRule_36 (fun H locs hP hD hS => ?_)
  obtain ⟨g5, eg5⟩ : ∃ z : St, z = st_put g3 3 96 ((a1 * (12 : Int32)) + (f_at 8 (g 1) a1)) a3 := ⟨_, rfl⟩
  have hp := hp g5 eg5
  have hP : va_P (dC, dI) vwCl (wX1 q cI g5) H := by rw [eg5]; exact hP
  have hD : va_D A (wX1 q cI g5) := by rw [eg5]; exact hD
  refine lv_aload_n hx hb dX1_putRule_39 rfl (lv_at hl 2 rfl) ?_
  refine va_get (D := (dC, dI)) (ci := 1) (v := .ref (q 7)) (C := RX1) (T := TX1) (N := 5) hx hb hts iX1_putRule_X1 hown hK hP 0 rfl rfl 3 (by decide) (hts _ kX1_putRule_4) (fun _ h9 => h9) rfl dX1_putRule_40 ?_
  refine lv_iload hx hb dX1_putRule_43 (lv_at hl 0 rfl) ?_
  refine lv_iload hx hb dX1_putRule_45 (lv_at hl 6 rfl) ?_
  refine wr_Vv (As := [.int ((a1 * (12 : Int32)) + (f_at 8 (g 1) a1)), .int a4]) (rest := []) (w1 := (wX1 q cI g5).take 7) (w2 := (wX1 q cI g5).drop 9) (ws1 := wX1 q cI (st_put g5 4 96 ((a1 * (12 : Int32)) + (f_at 8 (g 1) a1)) a4)) ⟨hx, hb, hml, hown, hts⟩ (c_X2_put l dC dI cI (q 7) (q 8) 96 (g5 4) ((a1 * (12 : Int32)) + (f_at 8 (g 1) a1)) a4 _ (by decide)) (cwV 2 hts gX1_putRule_X2_put rfl rfl rfl (by decide +kernel) ⟨Nat.le_of_ble_eq_true rfl, Nat.le_of_ble_eq_true rfl⟩) hP hD hS hA hK hN rfl rfl rfl rfl rfl rfl hl.1 (Nat.le_of_ble_eq_true rfl) ⟨Nat.zero_le _, Nat.zero_le _⟩ dX1_putRule_47 (fun H locs hP hD hS => ?_)
  obtain ⟨g7, eg7⟩ : ∃ z : St, z = st_put g5 4 96 ((a1 * (12 : Int32)) + (f_at 8 (g 1) a1)) a4 := ⟨_, rfl⟩
  have hp := hp g7 eg7
  have hP : va_P (dC, dI) vwCl (wX1 q cI g7) H := by rw [eg7]; exact hP
  have hD : va_D A (wX1 q cI g7) := by rw [eg7]; exact hD
  refine lv_aload_n hx hb dX1_putRule_50 rfl (lv_at hl 2 rfl) ?_
  refine va_get (D := (dC, dI)) (ci := 1) (v := .ref (q 9)) (C := RX1) (T := TX1) (N := 5) hx hb hts iX1_putRule_X1 hown hK hP 0 rfl rfl 4 (by decide) (hts _ kX1_putRule_5) (fun _ h9 => h9) rfl dX1_putRule_51 ?_
  refine lv_iload hx hb dX1_putRule_54 (lv_at hl 0 rfl) ?_
  refine lv_iload hx hb dX1_putRule_56 (lv_at hl 7 rfl) ?_
  refine wr_Vv (As := [.int ((a1 * (12 : Int32)) + (f_at 8 (g 1) a1)), .int a5]) (rest := []) (w1 := (wX1 q cI g7).take 9) (w2 := (wX1 q cI g7).drop 11) (ws1 := wX1 q cI (st_put g7 5 96 ((a1 * (12 : Int32)) + (f_at 8 (g 1) a1)) a5)) ⟨hx, hb, hml, hown, hts⟩ (c_X2_put l dC dI cI (q 9) (q 10) 96 (g7 5) ((a1 * (12 : Int32)) + (f_at 8 (g 1) a1)) a5 _ (by decide)) (cwV 2 hts gX1_putRule_X2_put rfl rfl rfl (by decide +kernel) ⟨Nat.le_of_ble_eq_true rfl, Nat.le_of_ble_eq_true rfl⟩) hP hD hS hA hK hN rfl rfl rfl rfl rfl rfl hl.1 (Nat.le_of_ble_eq_true rfl) ⟨Nat.zero_le _, Nat.zero_le _⟩ dX1_putRule_58 (fun H locs hP hD hS => ?_)
  obtain ⟨g9, eg9⟩ : ∃ z : St, z = st_put g7 5 96 ((a1 * (12 : Int32)) + (f_at 8 (g 1) a1)) a5 := ⟨_, rfl⟩
  have hp := hp g9 eg9
  have hP : va_P (dC, dI) vwCl (wX1 q cI g9) H := by rw [eg9]; exact hP
  have hD : va_D A (wX1 q cI g9) := by rw [eg9]; exact hD
  refine lv_aload_n hx hb dX1_putRule_61 rfl (lv_at hl 2 rfl) ?_
  refine va_get (D := (dC, dI)) (ci := 1) (v := .ref (q 1)) (C := RX1) (T := TX1) (N := 5) hx hb hts iX1_putRule_X1 hown hK hP 0 rfl rfl 0 (by decide) (hts _ kX1_putRule_0) (fun _ h9 => h9) rfl dX1_putRule_62 ?_
  refine lv_iload_n hx hb dX1_putRule_65 rfl (lv_at hl 3 rfl) ?_
  refine lv_iload hx hb dX1_putRule_66 (lv_at hl 1 rfl) ?_
  refine lv_iconst (v := 1) hx hb dX1_putRule_68 (by decide) ?_
  refine lv_iadd hx hb dX1_putRule_69 ?_
  refine wr_Vv (As := [.int a1, .int ((f_at 8 (g 1) a1) + (1 : Int32))]) (rest := []) (w1 := (wX1 q cI g9).take 1) (w2 := (wX1 q cI g9).drop 3) (ws1 := wX1 q cI (st_put g9 1 8 a1 ((f_at 8 (g 1) a1) + (1 : Int32)))) ⟨hx, hb, hml, hown, hts⟩ (c_X2_put l dC dI cI (q 1) (q 2) 8 (g9 1) a1 ((f_at 8 (g 1) a1) + (1 : Int32)) _ (by decide)) (cwV 2 hts gX1_putRule_X2_put rfl rfl rfl (by decide +kernel) ⟨Nat.le_of_ble_eq_true rfl, Nat.le_of_ble_eq_true rfl⟩) hP hD hS hA hK hN rfl rfl rfl rfl rfl rfl hl.1 (Nat.le_of_ble_eq_true rfl) ⟨Nat.zero_le _, Nat.zero_le _⟩ dX1_putRule_70 (fun H locs hP hD hS => ?_)
  obtain ⟨g11, eg11⟩ : ∃ z : St, z = st_put g9 1 8 a1 ((f_at 8 (g 1) a1) + (1 : Int32)) := ⟨_, rfl⟩
  have hp := hp g11 eg11
  have hP : va_P (dC, dI) vwCl (wX1 q cI g11) H := by rw [eg11]; exact hP
  have hD : va_D A (wX1 q cI g11) := by rw [eg11]; exact hD
  refine lv_iload hx hb dX1_putRule_73 (lv_at hl 1 rfl) ?_
  exact W.iret hx hb hr (fun t ht _ => ⟨⟨_, (), rfl, hp.1.symm, by rw [ht, hp.2]; exact hP, by rw [hp.2]; exact hD⟩, hS.F ht⟩) hS.2.2 dX1_putRule_75
theorem kX1_parentOf_0 : (.fieldLink RX1 20 "Meeplehouse$Referee" "parents" "LMeeplehouse$Row;" : Cond) ∈ wsX1_parentOf := by decide +kernel
theorem iX1_parentOf_X1 : ∀ w ∈ wsX10, w ∈ wsX1_parentOf := by decide +kernel
def P_X1_parentOf (g : St) (a1 : Int32) (a2 : Int32) (r : Int32) : Prop := (r = (f_at 96 (g 2) ((a1 * (12 : Int32)) + a2)))
set_option maxRecDepth 100000 in
set_option maxHeartbeats 4000000 in
theorem c_X1_parentOf (l : Launch) (dC : Nat → ClassId) (dI : Nat → Nat → Nat) (cI : ClassId) (q : Nat → Nat) (g : St) (a1 : Int32) (a2 : Int32) (r : Int32) (hp : P_X1_parentOf g a1 a2 r) : Met l yX1_parentOf wsX1_parentOf { frames := 1, cells := 0, slots := 0, locals := 21 } (va_Pc [.ref (q 0), .int a1, .int a2] (rpS (dC, dI) vwCl [(cI, .int)] (wX1 q cI g))) (QcRead r) 0 0 (fun _ => False) := by
  refine ro_met (cc := cX1_parentOf) (maxL := 3) (ret := (some .int)) (by decide) rfl (Nat.le_of_ble_eq_true rfl) ?_
  intro p e s m below meth c hx hb hml hr hlk hts hown hP hK hN ls hl
  have hl : lv_has ls 3 [(0, .ref (q 0)), (1, .int a1), (2, .int a2)] := hl
  unfold P_X1_parentOf at hp
  refine lv_aload_n hx hb dX1_parentOf_0 rfl (lv_at hl 0 rfl) ?_
  refine va_get (D := (dC, dI)) (ci := 1) (v := .ref (q 3)) (C := RX1) (T := TX1) (N := 5) hx hb hts iX1_parentOf_X1 hown hK hP 0 rfl rfl 1 (by decide) (hts _ kX1_parentOf_0) (fun _ h9 => h9) rfl dX1_parentOf_1 ?_
  refine lv_iload_n hx hb dX1_parentOf_4 rfl (lv_at hl 1 rfl) ?_
  refine lv_bipush (v := 12) hx hb dX1_parentOf_5 (by decide) ?_
  refine lv_imul hx hb dX1_parentOf_7 ?_
  refine lv_iload_n hx hb dX1_parentOf_8 rfl (lv_at hl 2 rfl) ?_
  refine lv_iadd hx hb dX1_parentOf_9 ?_
  refine ro_V (As := [.int ((a1 * (12 : Int32)) + a2)]) (rest := []) ⟨hx, hb, hml, hown, hts⟩ (c_X2_at l dC dI cI (q 3) (q 4) 96 (g 2) ((a1 * (12 : Int32)) + a2) (by decide)) (cwV 1 hts gX1_parentOf_X2_at rfl rfl rfl (by decide +kernel) ⟨Nat.le_of_ble_eq_true rfl, Nat.le_of_ble_eq_true rfl⟩) (hP.sub [3, 4] rfl) hK hN rfl rfl rfl rfl hl.1 (Nat.le_of_ble_eq_true rfl) ⟨Nat.zero_le _, Nat.zero_le _⟩ dX1_parentOf_10 ?_
  exact W.iret hx hb hr (fun t ht _ => ⟨by rw [hp], ht⟩) (fun _ h => nomatch h) dX1_parentOf_13
def P_X1_holds (a0 : Int32) (a1 : Int32) (a2 : Int32) (a3 : Int32) (a4 : Int32) (r : Int32) : Prop := ((a0 = (0 : Int32) → ((a2 < a1 → (r = (0 : Int32))) ∧ (¬ a2 < a1 → (r = (1 : Int32))))) ∧ (¬ a0 = (0 : Int32) → ((a0 = (1 : Int32) → ((a1 ≤ a3 → (r = (0 : Int32))) ∧ (¬ a1 ≤ a3 → (r = (1 : Int32))))) ∧ (¬ a0 = (1 : Int32) → ((a0 = (2 : Int32) → ((a1 ≤ 0 → (r = (0 : Int32))) ∧ (¬ a1 ≤ 0 → (¬ a1 = 0 ∧ ((¬ (a2 - a2 / a1 * a1) = 0 → (r = (0 : Int32))) ∧ ((a2 - a2 / a1 * a1) = 0 → (r = (1 : Int32)))))))) ∧ (¬ a0 = (2 : Int32) → ((a0 = (3 : Int32) → ((a4 < a1 → (r = (0 : Int32))) ∧ (¬ a4 < a1 → (r = (1 : Int32))))) ∧ (¬ a0 = (3 : Int32) → (r = (0 : Int32))))))))))
set_option maxRecDepth 100000 in
set_option maxHeartbeats 4000000 in
theorem c_X1_holds (l : Launch) (dC : Nat → ClassId) (dI : Nat → Nat → Nat) (cI : ClassId) (a0 : Int32) (a1 : Int32) (a2 : Int32) (a3 : Int32) (a4 : Int32) (r : Int32) (hp : P_X1_holds a0 a1 a2 a3 a4 r) : Met l yX1_holds wsX1_holds { frames := 0, cells := 0, slots := 0, locals := 0 } (va_Pc [.int a0, .int a1, .int a2, .int a3, .int a4] (rpS (dC, dI) vwCl [(cI, .int)] ([]))) (QcRead r) 0 0 (fun _ => False) := by
  refine ro_met (cc := cX1_holds) (maxL := 5) (ret := (some .boolean)) (by decide) rfl (Nat.le_of_ble_eq_true rfl) ?_
  intro p e s m below meth c hx hb hml hr hlk hts hown hP hK hN ls hl
  have hl : lv_has ls 5 [(0, .int a0), (1, .int a1), (2, .int a2), (3, .int a3), (4, .int a4)] := hl
  unfold P_X1_holds at hp
  refine lv_iload_n hx hb dX1_holds_0 rfl (lv_at hl 0 rfl) ?_
  by_cases c2 : a0 = (0 : Int32)
  · have hp := hp.1 c2
    refine lv_tableIn (tgt := 32) hx hb dX1_holds_1 (by rw [c2]; decide) (by rw [c2]; decide) (by rw [c2]; rfl) (by decide) ?_
    refine lv_iload_n hx hb dX1_holds_32 rfl (lv_at hl 2 rfl) ?_
    refine lv_iload_n hx hb dX1_holds_33 rfl (lv_at hl 1 rfl) ?_
    refine lv_icmp_lt (tgt := 41) hx hb dX1_holds_34 (by decide) (fun c1 => ?_) (fun c1 => ?_)
    · have hp := hp.1 c1
      refine lv_iconst (v := 0) hx hb dX1_holds_41 (by decide) ?_
      exact W.zret (ty := .boolean) hx hb hr rfl (fun t ht _ => ⟨by rw [hp], ht⟩) (fun _ h => nomatch h) dX1_holds_42
    · have hp := hp.2 c1
      refine lv_iconst (v := 1) hx hb dX1_holds_37 (by decide) ?_
      refine lv_goto (tgt := 42) hx hb dX1_holds_38 (by decide) ?_
      exact W.zret (ty := .boolean) hx hb hr rfl (fun t ht _ => ⟨by rw [hp], ht⟩) (fun _ h => nomatch h) dX1_holds_42
  have hp := hp.2 c2
  by_cases c4 : a0 = (1 : Int32)
  · have hp := hp.1 c4
    refine lv_tableIn (tgt := 43) hx hb dX1_holds_1 (by rw [c4]; decide) (by rw [c4]; decide) (by rw [c4]; rfl) (by decide) ?_
    refine lv_iload_n hx hb dX1_holds_43 rfl (lv_at hl 3 rfl) ?_
    refine lv_iload_n hx hb dX1_holds_44 rfl (lv_at hl 1 rfl) ?_
    refine lv_icmp_ge (tgt := 52) hx hb dX1_holds_45 (by decide) (fun c3 => ?_) (fun c3 => ?_)
    · have hp := hp.1 c3
      refine lv_iconst (v := 0) hx hb dX1_holds_52 (by decide) ?_
      exact W.zret (ty := .boolean) hx hb hr rfl (fun t ht _ => ⟨by rw [hp], ht⟩) (fun _ h => nomatch h) dX1_holds_53
    · have hp := hp.2 c3
      refine lv_iconst (v := 1) hx hb dX1_holds_48 (by decide) ?_
      refine lv_goto (tgt := 53) hx hb dX1_holds_49 (by decide) ?_
      exact W.zret (ty := .boolean) hx hb hr rfl (fun t ht _ => ⟨by rw [hp], ht⟩) (fun _ h => nomatch h) dX1_holds_53
  have hp := hp.2 c4
  by_cases c7 : a0 = (2 : Int32)
  · have hp := hp.1 c7
    refine lv_tableIn (tgt := 54) hx hb dX1_holds_1 (by rw [c7]; decide) (by rw [c7]; decide) (by rw [c7]; rfl) (by decide) ?_
    refine lv_iload_n hx hb dX1_holds_54 rfl (lv_at hl 1 rfl) ?_
    refine lv_if_le (tgt := 68) hx hb dX1_holds_55 (by decide) (fun c6 => ?_) (fun c6 => ?_)
    · have hp := hp.1 c6
      refine lv_iconst (v := 0) hx hb dX1_holds_68 (by decide) ?_
      exact W.zret (ty := .boolean) hx hb hr rfl (fun t ht _ => ⟨by rw [hp], ht⟩) (fun _ h => nomatch h) dX1_holds_69
    · have hp := hp.2 c6
      refine lv_iload_n hx hb dX1_holds_58 rfl (lv_at hl 2 rfl) ?_
      refine lv_iload_n hx hb dX1_holds_59 rfl (lv_at hl 1 rfl) ?_
      refine lv_irem hx hb dX1_holds_60 hp.1 ?_
      have hp := hp.2
      refine lv_if_ne (tgt := 68) hx hb dX1_holds_61 (by decide) (fun c5 => ?_) (fun c5 => ?_)
      · have hp := hp.1 c5
        refine lv_iconst (v := 0) hx hb dX1_holds_68 (by decide) ?_
        exact W.zret (ty := .boolean) hx hb hr rfl (fun t ht _ => ⟨by rw [hp], ht⟩) (fun _ h => nomatch h) dX1_holds_69
      · have hp := hp.2 c5
        refine lv_iconst (v := 1) hx hb dX1_holds_64 (by decide) ?_
        refine lv_goto (tgt := 69) hx hb dX1_holds_65 (by decide) ?_
        exact W.zret (ty := .boolean) hx hb hr rfl (fun t ht _ => ⟨by rw [hp], ht⟩) (fun _ h => nomatch h) dX1_holds_69
  have hp := hp.2 c7
  by_cases c9 : a0 = (3 : Int32)
  · have hp := hp.1 c9
    refine lv_tableIn (tgt := 70) hx hb dX1_holds_1 (by rw [c9]; decide) (by rw [c9]; decide) (by rw [c9]; rfl) (by decide) ?_
    refine lv_iload hx hb dX1_holds_70 (lv_at hl 4 rfl) ?_
    refine lv_iload_n hx hb dX1_holds_72 rfl (lv_at hl 1 rfl) ?_
    refine lv_icmp_lt (tgt := 80) hx hb dX1_holds_73 (by decide) (fun c8 => ?_) (fun c8 => ?_)
    · have hp := hp.1 c8
      refine lv_iconst (v := 0) hx hb dX1_holds_80 (by decide) ?_
      exact W.zret (ty := .boolean) hx hb hr rfl (fun t ht _ => ⟨by rw [hp], ht⟩) (fun _ h => nomatch h) dX1_holds_81
    · have hp := hp.2 c8
      refine lv_iconst (v := 1) hx hb dX1_holds_76 (by decide) ?_
      refine lv_goto (tgt := 81) hx hb dX1_holds_77 (by decide) ?_
      exact W.zret (ty := .boolean) hx hb hr rfl (fun t ht _ => ⟨by rw [hp], ht⟩) (fun _ h => nomatch h) dX1_holds_81
  have hp := hp.2 c9
  refine lv_tableOut (x := a0) (tgt := 82) hx hb dX1_holds_1 (by have n0 := lv_neT (a := 0) c2 (by decide); have n1 := lv_neT (a := 1) c4 (by decide); have n2 := lv_neT (a := 2) c7 (by decide); have n3 := lv_neT (a := 3) c9 (by decide); omega) (by decide) ?_
  refine lv_iconst (v := 0) hx hb dX1_holds_82 (by decide) ?_
  exact W.zret (ty := .boolean) hx hb hr rfl (fun t ht _ => ⟨by rw [hp], ht⟩) (fun _ h => nomatch h) dX1_holds_83
theorem kX1_holding_0 : (.fieldLink RX1 14 "Meeplehouse$Referee" "rules" "LMeeplehouse$Row;" : Cond) ∈ wsX1_holding := by decide +kernel
theorem iX1_holding_X1 : ∀ w ∈ wsX10, w ∈ wsX1_holding := by decide +kernel
theorem kX1_holding_2 : (.fieldLink RX1 23 "Meeplehouse$Referee" "tests" "LMeeplehouse$Row;" : Cond) ∈ wsX1_holding := by decide +kernel
theorem kX1_holding_3 : (.fieldLink RX1 26 "Meeplehouse$Referee" "values" "LMeeplehouse$Row;" : Cond) ∈ wsX1_holding := by decide +kernel
def P_X1_holding (g : St) (a1 : Int32) (a2 : Int32) (a3 : Int32) (a4 : Int32) (r : Int32) : Prop := ∀ V6 : Int32 → Int32 → Prop, (∀ x5 x6 : Int32, (((f_at 8 (g 1) a1) ≤ x6 → (r = x5)) ∧ (¬ (f_at 8 (g 1) a1) ≤ x6 → (∃ r4 : Int32, P_X1_holds (f_at 96 (g 3) ((a1 * (12 : Int32)) + x6)) (f_at 96 (g 4) ((a1 * (12 : Int32)) + x6)) a2 a3 a4 r4 ∧ ((r4 = 0 → (V6 x5 (x6 + (1 : Int32)))) ∧ (¬ r4 = 0 → (V6 (x5 ||| ((1 : Int32) <<< (x6 &&& 31))) (x6 + (1 : Int32)))))))) → V6 x5 x6) → (V6 (0 : Int32) (0 : Int32))
set_option maxRecDepth 100000 in
set_option maxHeartbeats 4000000 in
theorem c_X1_holding (l : Launch) (dC : Nat → ClassId) (dI : Nat → Nat → Nat) (cI : ClassId) (q : Nat → Nat) (g : St) (a1 : Int32) (a2 : Int32) (a3 : Int32) (a4 : Int32) (r : Int32) (hp : P_X1_holding g a1 a2 a3 a4 r) : Met l yX1_holding wsX1_holding { frames := 1, cells := 0, slots := 0, locals := 24 } (va_Pc [.ref (q 0), .int a1, .int a2, .int a3, .int a4] (rpS (dC, dI) vwCl [(cI, .int)] (wX1 q cI g))) (QcRead r) 0 0 (fun _ => False) := by
  refine ro_met (cc := cX1_holding) (maxL := 8) (ret := (some .int)) (by decide) rfl (Nat.le_of_ble_eq_true rfl) ?_
  intro p e s m below meth c hx hb hml hr hlk hts hown hP hK hN ls hl
  have hl : lv_has ls 8 [(0, .ref (q 0)), (1, .int a1), (2, .int a2), (3, .int a3), (4, .int a4)] := hl
  obtain ⟨V6, eV6⟩ : ∃ V : Int32 → Int32 → Prop, V = (fun x5 x6 => ∀ ls : Array Slot, lv_has ls 8 [(0, .ref (q 0)), (1, .int a1), (2, .int a2), (3, .int a3), (4, .int a4), (5, .int x5), (6, .int x6)] → W p l e { frames := 1, cells := 0, slots := 0, locals := 24 } s m ([.ref (q 0), .int a1, .int a2, .int a3, .int a4] : List Value).toArray below meth c s.heap [] 0 0 (MQ below (QcRead r) ([.ref (q 0), .int a1, .int a2, .int a3, .int a4] : List Value).toArray s 0 0 (fun _ => False)) (F0 m 6 ls [])) := ⟨_, rfl⟩
  have hp := hp V6
  have hp := hp (by
    intro x5 x6 hp
    rw [eV6]
    intro ls hl
    refine lv_iload hx hb dX1_holding_6 (lv_at hl 6 rfl) ?_
    refine lv_aload_n hx hb dX1_holding_8 rfl (lv_at hl 0 rfl) ?_
    refine va_get (D := (dC, dI)) (ci := 1) (v := .ref (q 1)) (C := RX1) (T := TX1) (N := 5) hx hb hts iX1_holding_X1 hown hK hP 0 rfl rfl 0 (by decide) (hts _ kX1_holding_0) (fun _ h9 => h9) rfl dX1_holding_9 ?_
    refine lv_iload_n hx hb dX1_holding_12 rfl (lv_at hl 1 rfl) ?_
    refine ro_V (As := [.int a1]) (rest := [.int x6]) ⟨hx, hb, hml, hown, hts⟩ (c_X2_at l dC dI cI (q 1) (q 2) 8 (g 1) a1 (by decide)) (cwV 1 hts gX1_holding_X2_at rfl rfl rfl (by decide +kernel) ⟨Nat.le_of_ble_eq_true rfl, Nat.le_of_ble_eq_true rfl⟩) (hP.sub [1, 2] rfl) hK hN rfl rfl rfl rfl hl.1 (Nat.le_of_ble_eq_true rfl) ⟨Nat.zero_le _, Nat.zero_le _⟩ dX1_holding_13 ?_
    refine lv_icmp_ge (tgt := 71) hx hb dX1_holding_16 (by decide) (fun c6 => ?_) (fun c6 => ?_)
    · have hp := hp.1 c6
      refine lv_iload hx hb dX1_holding_71 (lv_at hl 5 rfl) ?_
      exact W.iret hx hb hr (fun t ht _ => ⟨by rw [hp], ht⟩) (fun _ h => nomatch h) dX1_holding_73
    · have hp := hp.2 c6
      refine lv_iload_n hx hb dX1_holding_19 rfl (lv_at hl 1 rfl) ?_
      refine lv_bipush (v := 12) hx hb dX1_holding_20 (by decide) ?_
      refine lv_imul hx hb dX1_holding_22 ?_
      refine lv_iload hx hb dX1_holding_23 (lv_at hl 6 rfl) ?_
      refine lv_iadd hx hb dX1_holding_25 ?_
      refine lv_istore (lv' := [(7, .int ((a1 * (12 : Int32)) + x6)), (0, .ref (q 0)), (1, .int a1), (2, .int a2), (3, .int a3), (4, .int a4), (5, .int x5), (6, .int x6)]) hx hb dX1_holding_26 hl (by decide) rfl (fun ls hl => ?_)
      refine lv_aload_n hx hb dX1_holding_28 rfl (lv_at hl 1 rfl) ?_
      refine va_get (D := (dC, dI)) (ci := 1) (v := .ref (q 5)) (C := RX1) (T := TX1) (N := 5) hx hb hts iX1_holding_X1 hown hK hP 0 rfl rfl 2 (by decide) (hts _ kX1_holding_2) (fun _ h9 => h9) rfl dX1_holding_29 ?_
      refine lv_iload hx hb dX1_holding_32 (lv_at hl 0 rfl) ?_
      refine ro_V (As := [.int ((a1 * (12 : Int32)) + x6)]) (rest := []) ⟨hx, hb, hml, hown, hts⟩ (c_X2_at l dC dI cI (q 5) (q 6) 96 (g 3) ((a1 * (12 : Int32)) + x6) (by decide)) (cwV 1 hts gX1_holding_X2_at rfl rfl rfl (by decide +kernel) ⟨Nat.le_of_ble_eq_true rfl, Nat.le_of_ble_eq_true rfl⟩) (hP.sub [5, 6] rfl) hK hN rfl rfl rfl rfl hl.1 (Nat.le_of_ble_eq_true rfl) ⟨Nat.zero_le _, Nat.zero_le _⟩ dX1_holding_34 ?_
      refine lv_aload_n hx hb dX1_holding_37 rfl (lv_at hl 1 rfl) ?_
      refine va_get (D := (dC, dI)) (ci := 1) (v := .ref (q 7)) (C := RX1) (T := TX1) (N := 5) hx hb hts iX1_holding_X1 hown hK hP 0 rfl rfl 3 (by decide) (hts _ kX1_holding_3) (fun _ h9 => h9) rfl dX1_holding_38 ?_
      refine lv_iload hx hb dX1_holding_41 (lv_at hl 0 rfl) ?_
      refine ro_V (As := [.int ((a1 * (12 : Int32)) + x6)]) (rest := [.int (f_at 96 (g 3) ((a1 * (12 : Int32)) + x6))]) ⟨hx, hb, hml, hown, hts⟩ (c_X2_at l dC dI cI (q 7) (q 8) 96 (g 4) ((a1 * (12 : Int32)) + x6) (by decide)) (cwV 1 hts gX1_holding_X2_at rfl rfl rfl (by decide +kernel) ⟨Nat.le_of_ble_eq_true rfl, Nat.le_of_ble_eq_true rfl⟩) (hP.sub [7, 8] rfl) hK hN rfl rfl rfl rfl hl.1 (Nat.le_of_ble_eq_true rfl) ⟨Nat.zero_le _, Nat.zero_le _⟩ dX1_holding_43 ?_
      refine lv_iload_n hx hb dX1_holding_46 rfl (lv_at hl 3 rfl) ?_
      refine lv_iload_n hx hb dX1_holding_47 rfl (lv_at hl 4 rfl) ?_
      refine lv_iload hx hb dX1_holding_48 (lv_at hl 5 rfl) ?_
      obtain ⟨r4, hr4, hp⟩ := hp
      refine ro_S (As := [.int (f_at 96 (g 3) ((a1 * (12 : Int32)) + x6)), .int (f_at 96 (g 4) ((a1 * (12 : Int32)) + x6)), .int a2, .int a3, .int a4]) (rest := []) ⟨hx, hb, hml, hown, hts⟩ (c_X1_holds l dC dI cI (f_at 96 (g 3) ((a1 * (12 : Int32)) + x6)) (f_at 96 (g 4) ((a1 * (12 : Int32)) + x6)) a2 a3 a4 r4 hr4) (va_cwS 5 hts gX1_holding_X1_holds rfl rfl rfl (by decide +kernel) ⟨Nat.le_of_ble_eq_true rfl, Nat.le_of_ble_eq_true rfl⟩) (hP.sub [] rfl) hK hN rfl rfl hl.1 (Nat.le_of_ble_eq_true rfl) ⟨Nat.zero_le _, Nat.zero_le _⟩ dX1_holding_50 ?_
      refine lv_if_eq (tgt := 65) hx hb dX1_holding_53 (by decide) (fun c5 => ?_) (fun c5 => ?_)
      · have hp := hp.1 c5
        refine lv_iinc (v := x6 + (1 : Int32)) (lv' := [(6, .int (x6 + (1 : Int32))), (7, .int ((a1 * (12 : Int32)) + x6)), (0, .ref (q 0)), (1, .int a1), (2, .int a2), (3, .int a3), (4, .int a4), (5, .int x5)]) hx hb dX1_holding_65 hl (k := 7) rfl rfl (by decide) rfl (fun ls hl => ?_)
        refine lv_goto (tgt := 6) hx hb dX1_holding_68 (by decide) ?_
        rw [eV6] at hp
        exact hp _ (lv_sub hl [2, 3, 4, 5, 6, 7, 0] rfl)
      · have hp := hp.2 c5
        refine lv_iload hx hb dX1_holding_56 (lv_at hl 6 rfl) ?_
        refine lv_iconst (v := 1) hx hb dX1_holding_58 (by decide) ?_
        refine lv_iload hx hb dX1_holding_59 (lv_at hl 7 rfl) ?_
        refine lv_ishl hx hb dX1_holding_61 ?_
        refine lv_ior hx hb dX1_holding_62 ?_
        refine lv_istore (lv' := [(5, .int (x5 ||| ((1 : Int32) <<< (x6 &&& 31)))), (7, .int ((a1 * (12 : Int32)) + x6)), (0, .ref (q 0)), (1, .int a1), (2, .int a2), (3, .int a3), (4, .int a4), (6, .int x6)]) hx hb dX1_holding_63 hl (by decide) rfl (fun ls hl => ?_)
        refine lv_iinc (v := x6 + (1 : Int32)) (lv' := [(6, .int (x6 + (1 : Int32))), (5, .int (x5 ||| ((1 : Int32) <<< (x6 &&& 31)))), (7, .int ((a1 * (12 : Int32)) + x6)), (0, .ref (q 0)), (1, .int a1), (2, .int a2), (3, .int a3), (4, .int a4)]) hx hb dX1_holding_65 hl (k := 7) rfl rfl (by decide) rfl (fun ls hl => ?_)
        refine lv_goto (tgt := 6) hx hb dX1_holding_68 (by decide) ?_
        rw [eV6] at hp
        exact hp _ (lv_sub hl [3, 4, 5, 6, 7, 1, 0] rfl))
  refine lv_iconst (v := 0) hx hb dX1_holding_0 (by decide) ?_
  refine lv_istore (lv' := [(5, .int (0 : Int32)), (0, .ref (q 0)), (1, .int a1), (2, .int a2), (3, .int a3), (4, .int a4)]) hx hb dX1_holding_1 hl (by decide) rfl (fun ls hl => ?_)
  refine lv_iconst (v := 0) hx hb dX1_holding_3 (by decide) ?_
  refine lv_istore (lv' := [(6, .int (0 : Int32)), (5, .int (0 : Int32)), (0, .ref (q 0)), (1, .int a1), (2, .int a2), (3, .int a3), (4, .int a4)]) hx hb dX1_holding_4 hl (by decide) rfl (fun ls hl => ?_)
  rw [eV6] at hp
  exact hp _ (lv_sub hl [2, 3, 4, 5, 6, 1, 0] rfl)
theorem kX1_firstHolding_0 : (.fieldLink RX1 14 "Meeplehouse$Referee" "rules" "LMeeplehouse$Row;" : Cond) ∈ wsX1_firstHolding := by decide +kernel
theorem iX1_firstHolding_X1 : ∀ w ∈ wsX10, w ∈ wsX1_firstHolding := by decide +kernel
theorem kX1_firstHolding_2 : (.initialized RX4 : Cond) ∈ wsX1_firstHolding := by decide +kernel
theorem kX1_firstHolding_3 : (.static yX4_contains : Cond) ∈ wsX1_firstHolding := by decide +kernel
def P_X1_firstHolding (g : St) (a1 : Int32) (a2 : Int32) (a3 : Int32) (r : Int32) : Prop := ∀ V3 : Int32 → Prop, (∀ x4 : Int32, (((f_at 8 (g 1) a1) ≤ x4 → (r = (-1 : Int32))) ∧ (¬ (f_at 8 (g 1) a1) ≤ x4 → (∃ r2 : Int32, P_X1_parentOf g a1 x4 r2 ∧ ((¬ r2 = a2 → (V3 (x4 + (1 : Int32)))) ∧ (r2 = a2 → (∃ r3 : Int32, P_X4_contains a3 x4 r3 ∧ ((r3 = 0 → (V3 (x4 + (1 : Int32)))) ∧ (¬ r3 = 0 → (r = x4))))))))) → V3 x4) → (V3 (0 : Int32))
set_option maxRecDepth 100000 in
set_option maxHeartbeats 4000000 in
theorem c_X1_firstHolding (l : Launch) (dC : Nat → ClassId) (dI : Nat → Nat → Nat) (cI : ClassId) (q : Nat → Nat) (g : St) (a1 : Int32) (a2 : Int32) (a3 : Int32) (r : Int32) (hp : P_X1_firstHolding g a1 a2 a3 r) : Met l yX1_firstHolding wsX1_firstHolding { frames := 2, cells := 0, slots := 0, locals := 43 } (va_Pc [.ref (q 0), .int a1, .int a2, .int a3] (rpS (dC, dI) vwCl [(cI, .int)] (wX1 q cI g))) (QcRead r) 0 0 (fun _ => False) := by
  refine ro_met (cc := cX1_firstHolding) (maxL := 5) (ret := (some .int)) (by decide) rfl (Nat.le_of_ble_eq_true rfl) ?_
  intro p e s m below meth c hx hb hml hr hlk hts hown hP hK hN ls hl
  have hl : lv_has ls 5 [(0, .ref (q 0)), (1, .int a1), (2, .int a2), (3, .int a3)] := hl
  obtain ⟨V3, eV3⟩ : ∃ V : Int32 → Prop, V = (fun x4 => ∀ ls : Array Slot, lv_has ls 5 [(0, .ref (q 0)), (1, .int a1), (2, .int a2), (3, .int a3), (4, .int x4)] → W p l e { frames := 2, cells := 0, slots := 0, locals := 43 } s m ([.ref (q 0), .int a1, .int a2, .int a3] : List Value).toArray below meth c s.heap [] 0 0 (MQ below (QcRead r) ([.ref (q 0), .int a1, .int a2, .int a3] : List Value).toArray s 0 0 (fun _ => False)) (F0 m 3 ls [])) := ⟨_, rfl⟩
  have hp := hp V3
  have hp := hp (by
    intro x4 hp
    rw [eV3]
    intro ls hl
    refine lv_iload hx hb dX1_firstHolding_3 (lv_at hl 4 rfl) ?_
    refine lv_aload_n hx hb dX1_firstHolding_5 rfl (lv_at hl 0 rfl) ?_
    refine va_get (D := (dC, dI)) (ci := 1) (v := .ref (q 1)) (C := RX1) (T := TX1) (N := 5) hx hb hts iX1_firstHolding_X1 hown hK hP 0 rfl rfl 0 (by decide) (hts _ kX1_firstHolding_0) (fun _ h9 => h9) rfl dX1_firstHolding_6 ?_
    refine lv_iload_n hx hb dX1_firstHolding_9 rfl (lv_at hl 1 rfl) ?_
    refine ro_V (As := [.int a1]) (rest := [.int x4]) ⟨hx, hb, hml, hown, hts⟩ (c_X2_at l dC dI cI (q 1) (q 2) 8 (g 1) a1 (by decide)) (cwV 1 hts gX1_firstHolding_X2_at rfl rfl rfl (by decide +kernel) ⟨Nat.le_of_ble_eq_true rfl, Nat.le_of_ble_eq_true rfl⟩) (hP.sub [1, 2] rfl) hK hN rfl rfl rfl rfl hl.1 (Nat.le_of_ble_eq_true rfl) ⟨Nat.zero_le _, Nat.zero_le _⟩ dX1_firstHolding_10 ?_
    refine lv_icmp_ge (tgt := 45) hx hb dX1_firstHolding_13 (by decide) (fun c6 => ?_) (fun c6 => ?_)
    · have hp := hp.1 c6
      refine lv_iconst (v := -1) hx hb dX1_firstHolding_45 (by decide) ?_
      exact W.iret hx hb hr (fun t ht _ => ⟨by rw [hp], ht⟩) (fun _ h => nomatch h) dX1_firstHolding_46
    · have hp := hp.2 c6
      refine lv_aload_n hx hb dX1_firstHolding_16 rfl (lv_at hl 0 rfl) ?_
      refine lv_iload_n hx hb dX1_firstHolding_17 rfl (lv_at hl 1 rfl) ?_
      refine lv_iload hx hb dX1_firstHolding_18 (lv_at hl 4 rfl) ?_
      obtain ⟨r2, hr2, hp⟩ := hp
      refine ro_V (As := [.int a1, .int x4]) (rest := []) ⟨hx, hb, hml, hown, hts⟩ (c_X1_parentOf l dC dI cI q g a1 x4 r2 hr2) (cwV 2 hts gX1_firstHolding_X1_parentOf rfl rfl rfl (by decide +kernel) ⟨Nat.le_of_ble_eq_true rfl, Nat.le_of_ble_eq_true rfl⟩) hP hK hN rfl rfl rfl rfl hl.1 (Nat.le_of_ble_eq_true rfl) ⟨Nat.zero_le _, Nat.zero_le _⟩ dX1_firstHolding_20 ?_
      refine lv_iload_n hx hb dX1_firstHolding_23 rfl (lv_at hl 2 rfl) ?_
      refine lv_icmp_ne (tgt := 39) hx hb dX1_firstHolding_24 (by decide) (fun c5 => ?_) (fun c5 => ?_)
      · have hp := hp.1 c5
        refine lv_iinc (v := x4 + (1 : Int32)) (lv' := [(4, .int (x4 + (1 : Int32))), (0, .ref (q 0)), (1, .int a1), (2, .int a2), (3, .int a3)]) hx hb dX1_firstHolding_39 hl (k := 4) rfl rfl (by decide) rfl (fun ls hl => ?_)
        refine lv_goto (tgt := 3) hx hb dX1_firstHolding_42 (by decide) ?_
        rw [eV3] at hp
        exact hp _ (lv_sub hl [1, 2, 3, 4, 0] rfl)
      · have hp := hp.2 c5
        refine lv_iload_n hx hb dX1_firstHolding_27 rfl (lv_at hl 3 rfl) ?_
        refine lv_iload hx hb dX1_firstHolding_28 (lv_at hl 4 rfl) ?_
        obtain ⟨r3, hr3, hp⟩ := hp
        refine ro_SN (As := [.int a3, .int x4]) (rest := []) ⟨hx, hb, hml, hown, hts⟩ (c_X4_contains l dC dI cI a3 x4 r3 hr3) ⟨va_cnB 2 hts gX1_firstHolding_X4_contains_n51 rfl rfl rfl (nw_w hN 2 rfl) (hts _ kX1_firstHolding_2) (by decide +kernel) ⟨Nat.le_of_ble_eq_true rfl, Nat.le_of_ble_eq_true rfl⟩, hts _ kX1_firstHolding_3, trivial⟩ (hP.sub [] rfl) hK hN rfl rfl hl.1 (Nat.le_of_ble_eq_true rfl) ⟨Nat.zero_le _, Nat.zero_le _⟩ dX1_firstHolding_30 ?_
        refine lv_if_eq (tgt := 39) hx hb dX1_firstHolding_33 (by decide) (fun c4 => ?_) (fun c4 => ?_)
        · have hp := hp.1 c4
          refine lv_iinc (v := x4 + (1 : Int32)) (lv' := [(4, .int (x4 + (1 : Int32))), (0, .ref (q 0)), (1, .int a1), (2, .int a2), (3, .int a3)]) hx hb dX1_firstHolding_39 hl (k := 4) rfl rfl (by decide) rfl (fun ls hl => ?_)
          refine lv_goto (tgt := 3) hx hb dX1_firstHolding_42 (by decide) ?_
          rw [eV3] at hp
          exact hp _ (lv_sub hl [1, 2, 3, 4, 0] rfl)
        · have hp := hp.2 c4
          refine lv_iload hx hb dX1_firstHolding_36 (lv_at hl 4 rfl) ?_
          exact W.iret hx hb hr (fun t ht _ => ⟨by rw [hp], ht⟩) (fun _ h => nomatch h) dX1_firstHolding_38)
  refine lv_iconst (v := 0) hx hb dX1_firstHolding_0 (by decide) ?_
  refine lv_istore (lv' := [(4, .int (0 : Int32)), (0, .ref (q 0)), (1, .int a1), (2, .int a2), (3, .int a3)]) hx hb dX1_firstHolding_1 hl (by decide) rfl (fun ls hl => ?_)
  rw [eV3] at hp
  exact hp _ (lv_sub hl [1, 2, 3, 4, 0] rfl)
theorem kX1_rulingGoingDown_0 : (.fieldLink RX1 29 "Meeplehouse$Referee" "rulings" "LMeeplehouse$Row;" : Cond) ∈ wsX1_rulingGoingDown := by decide +kernel
theorem iX1_rulingGoingDown_X1 : ∀ w ∈ wsX10, w ∈ wsX1_rulingGoingDown := by decide +kernel
def P_X1_rulingGoingDown (g : St) (a1 : Int32) (a2 : Int32) (r : Int32) : Prop := ∀ V5 : Int32 → Int32 → Prop, ∀ V39 : Int32 → Prop, (∀ x3 x4 : Int32, (((12 : Int32) ≤ x4 → (V39 x3)) ∧ (¬ (12 : Int32) ≤ x4 → (∃ r1 : Int32, P_X1_firstHolding g a1 x3 a2 r1 ∧ ((¬ r1 = (-1 : Int32) → (V5 r1 (x4 + (1 : Int32)))) ∧ (r1 = (-1 : Int32) → (V39 x3)))))) → V5 x3 x4) → (∀ x3 : Int32, ((¬ x3 = (-1 : Int32) → (r = (f_at 96 (g 5) ((a1 * (12 : Int32)) + x3)))) ∧ (x3 = (-1 : Int32) → (r = (-1 : Int32)))) → V39 x3) → (V5 (-1 : Int32) (0 : Int32))
set_option maxRecDepth 100000 in
set_option maxHeartbeats 4000000 in
theorem c_X1_rulingGoingDown (l : Launch) (dC : Nat → ClassId) (dI : Nat → Nat → Nat) (cI : ClassId) (q : Nat → Nat) (g : St) (a1 : Int32) (a2 : Int32) (r : Int32) (hp : P_X1_rulingGoingDown g a1 a2 r) : Met l yX1_rulingGoingDown wsX1_rulingGoingDown { frames := 3, cells := 0, slots := 0, locals := 67 } (va_Pc [.ref (q 0), .int a1, .int a2] (rpS (dC, dI) vwCl [(cI, .int)] (wX1 q cI g))) (QcRead r) 0 0 (fun _ => False) := by
  refine ro_met (cc := cX1_rulingGoingDown) (maxL := 6) (ret := (some .int)) (by decide) rfl (Nat.le_of_ble_eq_true rfl) ?_
  intro p e s m below meth c hx hb hml hr hlk hts hown hP hK hN ls hl
  have hl : lv_has ls 6 [(0, .ref (q 0)), (1, .int a1), (2, .int a2)] := hl
  obtain ⟨V5, eV5⟩ : ∃ V : Int32 → Int32 → Prop, V = (fun x3 x4 => ∀ ls : Array Slot, lv_has ls 6 [(0, .ref (q 0)), (1, .int a1), (2, .int a2), (3, .int x3), (4, .int x4)] → W p l e { frames := 3, cells := 0, slots := 0, locals := 67 } s m ([.ref (q 0), .int a1, .int a2] : List Value).toArray below meth c s.heap [] 0 0 (MQ below (QcRead r) ([.ref (q 0), .int a1, .int a2] : List Value).toArray s 0 0 (fun _ => False)) (F0 m 5 ls [])) := ⟨_, rfl⟩
  obtain ⟨V39, eV39⟩ : ∃ V : Int32 → Prop, V = (fun x3 => ∀ ls : Array Slot, lv_has ls 6 [(0, .ref (q 0)), (1, .int a1), (2, .int a2), (3, .int x3)] → W p l e { frames := 3, cells := 0, slots := 0, locals := 67 } s m ([.ref (q 0), .int a1, .int a2] : List Value).toArray below meth c s.heap [] 0 0 (MQ below (QcRead r) ([.ref (q 0), .int a1, .int a2] : List Value).toArray s 0 0 (fun _ => False)) (F0 m 39 ls [])) := ⟨_, rfl⟩
  have hp := hp V5 V39
  have hp := hp (by
    intro x3 x4 hp
    rw [eV5]
    intro ls hl
    refine lv_iload hx hb dX1_rulingGoingDown_5 (lv_at hl 4 rfl) ?_
    refine lv_bipush (v := 12) hx hb dX1_rulingGoingDown_7 (by decide) ?_
    refine lv_icmp_ge (tgt := 39) hx hb dX1_rulingGoingDown_9 (by decide) (fun c3 => ?_) (fun c3 => ?_)
    · have hp := hp.1 c3
      rw [eV39] at hp
      exact hp _ (lv_sub hl [0, 1, 2, 3] rfl)
    · have hp := hp.2 c3
      refine lv_aload_n hx hb dX1_rulingGoingDown_12 rfl (lv_at hl 0 rfl) ?_
      refine lv_iload_n hx hb dX1_rulingGoingDown_13 rfl (lv_at hl 1 rfl) ?_
      refine lv_iload_n hx hb dX1_rulingGoingDown_14 rfl (lv_at hl 3 rfl) ?_
      refine lv_iload_n hx hb dX1_rulingGoingDown_15 rfl (lv_at hl 2 rfl) ?_
      obtain ⟨r1, hr1, hp⟩ := hp
      refine ro_V (As := [.int a1, .int x3, .int a2]) (rest := []) ⟨hx, hb, hml, hown, hts⟩ (c_X1_firstHolding l dC dI cI q g a1 x3 a2 r1 hr1) (cwV 3 hts gX1_rulingGoingDown_X1_firstHolding rfl rfl rfl (by decide +kernel) ⟨Nat.le_of_ble_eq_true rfl, Nat.le_of_ble_eq_true rfl⟩) hP hK hN rfl rfl rfl rfl hl.1 (Nat.le_of_ble_eq_true rfl) ⟨Nat.zero_le _, Nat.zero_le _⟩ dX1_rulingGoingDown_16 ?_
      refine lv_istore (lv' := [(5, .int r1), (0, .ref (q 0)), (1, .int a1), (2, .int a2), (3, .int x3), (4, .int x4)]) hx hb dX1_rulingGoingDown_19 hl (by decide) rfl (fun ls hl => ?_)
      refine lv_iload hx hb dX1_rulingGoingDown_21 (lv_at hl 0 rfl) ?_
      refine lv_iconst (v := -1) hx hb dX1_rulingGoingDown_23 (by decide) ?_
      refine lv_icmp_ne (tgt := 30) hx hb dX1_rulingGoingDown_24 (by decide) (fun c2 => ?_) (fun c2 => ?_)
      · have hp := hp.1 c2
        refine lv_iload hx hb dX1_rulingGoingDown_30 (lv_at hl 0 rfl) ?_
        refine lv_istore_n (lv' := [(3, .int r1), (5, .int r1), (0, .ref (q 0)), (1, .int a1), (2, .int a2), (4, .int x4)]) hx hb dX1_rulingGoingDown_32 rfl hl (by decide) rfl (fun ls hl => ?_)
        refine lv_iinc (v := x4 + (1 : Int32)) (lv' := [(4, .int (x4 + (1 : Int32))), (3, .int r1), (5, .int r1), (0, .ref (q 0)), (1, .int a1), (2, .int a2)]) hx hb dX1_rulingGoingDown_33 hl (k := 5) rfl rfl (by decide) rfl (fun ls hl => ?_)
        refine lv_goto (tgt := 5) hx hb dX1_rulingGoingDown_36 (by decide) ?_
        rw [eV5] at hp
        exact hp _ (lv_sub hl [3, 4, 5, 1, 0] rfl)
      · have hp := hp.2 c2
        refine lv_goto (tgt := 39) hx hb dX1_rulingGoingDown_27 (by decide) ?_
        rw [eV39] at hp
        exact hp _ (lv_sub hl [1, 2, 3, 4] rfl))
  have hp := hp (by
    intro x3 hp
    rw [eV39]
    intro ls hl
    refine lv_iload_n hx hb dX1_rulingGoingDown_39 rfl (lv_at hl 3 rfl) ?_
    refine lv_iconst (v := -1) hx hb dX1_rulingGoingDown_40 (by decide) ?_
    refine lv_icmp_ne (tgt := 48) hx hb dX1_rulingGoingDown_41 (by decide) (fun c5 => ?_) (fun c5 => ?_)
    · have hp := hp.1 c5
      refine lv_aload_n hx hb dX1_rulingGoingDown_48 rfl (lv_at hl 0 rfl) ?_
      refine va_get (D := (dC, dI)) (ci := 1) (v := .ref (q 9)) (C := RX1) (T := TX1) (N := 5) hx hb hts iX1_rulingGoingDown_X1 hown hK hP 0 rfl rfl 4 (by decide) (hts _ kX1_rulingGoingDown_0) (fun _ h9 => h9) rfl dX1_rulingGoingDown_49 ?_
      refine lv_iload_n hx hb dX1_rulingGoingDown_52 rfl (lv_at hl 1 rfl) ?_
      refine lv_bipush (v := 12) hx hb dX1_rulingGoingDown_53 (by decide) ?_
      refine lv_imul hx hb dX1_rulingGoingDown_55 ?_
      refine lv_iload_n hx hb dX1_rulingGoingDown_56 rfl (lv_at hl 3 rfl) ?_
      refine lv_iadd hx hb dX1_rulingGoingDown_57 ?_
      refine ro_V (As := [.int ((a1 * (12 : Int32)) + x3)]) (rest := []) ⟨hx, hb, hml, hown, hts⟩ (c_X2_at l dC dI cI (q 9) (q 10) 96 (g 5) ((a1 * (12 : Int32)) + x3) (by decide)) (cwV 1 hts gX1_rulingGoingDown_X2_at rfl rfl rfl (by decide +kernel) ⟨Nat.le_of_ble_eq_true rfl, Nat.le_of_ble_eq_true rfl⟩) (hP.sub [9, 10] rfl) hK hN rfl rfl rfl rfl hl.1 (Nat.le_of_ble_eq_true rfl) ⟨Nat.zero_le _, Nat.zero_le _⟩ dX1_rulingGoingDown_58 ?_
      exact W.iret hx hb hr (fun t ht _ => ⟨by rw [hp], ht⟩) (fun _ h => nomatch h) dX1_rulingGoingDown_61
    · have hp := hp.2 c5
      refine lv_iconst (v := -1) hx hb dX1_rulingGoingDown_44 (by decide) ?_
      refine lv_goto (tgt := 61) hx hb dX1_rulingGoingDown_45 (by decide) ?_
      exact W.iret hx hb hr (fun t ht _ => ⟨by rw [hp], ht⟩) (fun _ h => nomatch h) dX1_rulingGoingDown_61)
  refine lv_iconst (v := -1) hx hb dX1_rulingGoingDown_0 (by decide) ?_
  refine lv_istore_n (lv' := [(3, .int (-1 : Int32)), (0, .ref (q 0)), (1, .int a1), (2, .int a2)]) hx hb dX1_rulingGoingDown_1 rfl hl (by decide) rfl (fun ls hl => ?_)
  refine lv_iconst (v := 0) hx hb dX1_rulingGoingDown_2 (by decide) ?_
  refine lv_istore (lv' := [(4, .int (0 : Int32)), (3, .int (-1 : Int32)), (0, .ref (q 0)), (1, .int a1), (2, .int a2)]) hx hb dX1_rulingGoingDown_3 hl (by decide) rfl (fun ls hl => ?_)
  rw [eV5] at hp
  exact hp _ (lv_sub hl [2, 3, 4, 1, 0] rfl)
theorem kX1_holdsAmong_0 : (.initialized RX4 : Cond) ∈ wsX1_holdsAmong := by decide +kernel
theorem kX1_holdsAmong_1 : (.static yX4_contains : Cond) ∈ wsX1_holdsAmong := by decide +kernel
def P_X1_holdsAmong (g : St) (a1 : Int32) (a2 : Int32) (a3 : Int32) (a4 : Int32) (r : Int32) : Prop := ∀ V3 : Int32 → Prop, (∀ x5 : Int32, ((a3 ≤ x5 → (r = (0 : Int32))) ∧ (¬ a3 ≤ x5 → (∃ r1 : Int32, P_X1_parentOf g a1 x5 r1 ∧ ((¬ r1 = a2 → (V3 (x5 + (1 : Int32)))) ∧ (r1 = a2 → (∃ r2 : Int32, P_X4_contains a4 x5 r2 ∧ ((r2 = 0 → (V3 (x5 + (1 : Int32)))) ∧ (¬ r2 = 0 → (r = (1 : Int32)))))))))) → V3 x5) → (V3 (0 : Int32))
set_option maxRecDepth 100000 in
set_option maxHeartbeats 4000000 in
theorem c_X1_holdsAmong (l : Launch) (dC : Nat → ClassId) (dI : Nat → Nat → Nat) (cI : ClassId) (q : Nat → Nat) (g : St) (a1 : Int32) (a2 : Int32) (a3 : Int32) (a4 : Int32) (r : Int32) (hp : P_X1_holdsAmong g a1 a2 a3 a4 r) : Met l yX1_holdsAmong wsX1_holdsAmong { frames := 2, cells := 0, slots := 0, locals := 43 } (va_Pc [.ref (q 0), .int a1, .int a2, .int a3, .int a4] (rpS (dC, dI) vwCl [(cI, .int)] (wX1 q cI g))) (QcRead r) 0 0 (fun _ => False) := by
  refine ro_met (cc := cX1_holdsAmong) (maxL := 6) (ret := (some .boolean)) (by decide) rfl (Nat.le_of_ble_eq_true rfl) ?_
  intro p e s m below meth c hx hb hml hr hlk hts hown hP hK hN ls hl
  have hl : lv_has ls 6 [(0, .ref (q 0)), (1, .int a1), (2, .int a2), (3, .int a3), (4, .int a4)] := hl
  obtain ⟨V3, eV3⟩ : ∃ V : Int32 → Prop, V = (fun x5 => ∀ ls : Array Slot, lv_has ls 6 [(0, .ref (q 0)), (1, .int a1), (2, .int a2), (3, .int a3), (4, .int a4), (5, .int x5)] → W p l e { frames := 2, cells := 0, slots := 0, locals := 43 } s m ([.ref (q 0), .int a1, .int a2, .int a3, .int a4] : List Value).toArray below meth c s.heap [] 0 0 (MQ below (QcRead r) ([.ref (q 0), .int a1, .int a2, .int a3, .int a4] : List Value).toArray s 0 0 (fun _ => False)) (F0 m 3 ls [])) := ⟨_, rfl⟩
  have hp := hp V3
  have hp := hp (by
    intro x5 hp
    rw [eV3]
    intro ls hl
    refine lv_iload hx hb dX1_holdsAmong_3 (lv_at hl 5 rfl) ?_
    refine lv_iload_n hx hb dX1_holdsAmong_5 rfl (lv_at hl 3 rfl) ?_
    refine lv_icmp_ge (tgt := 38) hx hb dX1_holdsAmong_6 (by decide) (fun c5 => ?_) (fun c5 => ?_)
    · have hp := hp.1 c5
      refine lv_iconst (v := 0) hx hb dX1_holdsAmong_38 (by decide) ?_
      exact W.zret (ty := .boolean) hx hb hr rfl (fun t ht _ => ⟨by rw [hp], ht⟩) (fun _ h => nomatch h) dX1_holdsAmong_39
    · have hp := hp.2 c5
      refine lv_aload_n hx hb dX1_holdsAmong_9 rfl (lv_at hl 0 rfl) ?_
      refine lv_iload_n hx hb dX1_holdsAmong_10 rfl (lv_at hl 1 rfl) ?_
      refine lv_iload hx hb dX1_holdsAmong_11 (lv_at hl 5 rfl) ?_
      obtain ⟨r1, hr1, hp⟩ := hp
      refine ro_V (As := [.int a1, .int x5]) (rest := []) ⟨hx, hb, hml, hown, hts⟩ (c_X1_parentOf l dC dI cI q g a1 x5 r1 hr1) (cwV 2 hts gX1_holdsAmong_X1_parentOf rfl rfl rfl (by decide +kernel) ⟨Nat.le_of_ble_eq_true rfl, Nat.le_of_ble_eq_true rfl⟩) hP hK hN rfl rfl rfl rfl hl.1 (Nat.le_of_ble_eq_true rfl) ⟨Nat.zero_le _, Nat.zero_le _⟩ dX1_holdsAmong_13 ?_
      refine lv_iload_n hx hb dX1_holdsAmong_16 rfl (lv_at hl 2 rfl) ?_
      refine lv_icmp_ne (tgt := 32) hx hb dX1_holdsAmong_17 (by decide) (fun c4 => ?_) (fun c4 => ?_)
      · have hp := hp.1 c4
        refine lv_iinc (v := x5 + (1 : Int32)) (lv' := [(5, .int (x5 + (1 : Int32))), (0, .ref (q 0)), (1, .int a1), (2, .int a2), (3, .int a3), (4, .int a4)]) hx hb dX1_holdsAmong_32 hl (k := 5) rfl rfl (by decide) rfl (fun ls hl => ?_)
        refine lv_goto (tgt := 3) hx hb dX1_holdsAmong_35 (by decide) ?_
        rw [eV3] at hp
        exact hp _ (lv_sub hl [1, 2, 3, 4, 5, 0] rfl)
      · have hp := hp.2 c4
        refine lv_iload hx hb dX1_holdsAmong_20 (lv_at hl 4 rfl) ?_
        refine lv_iload hx hb dX1_holdsAmong_22 (lv_at hl 5 rfl) ?_
        obtain ⟨r2, hr2, hp⟩ := hp
        refine ro_SN (As := [.int a4, .int x5]) (rest := []) ⟨hx, hb, hml, hown, hts⟩ (c_X4_contains l dC dI cI a4 x5 r2 hr2) ⟨va_cnB 2 hts gX1_holdsAmong_X4_contains_n51 rfl rfl rfl (nw_w hN 2 rfl) (hts _ kX1_holdsAmong_0) (by decide +kernel) ⟨Nat.le_of_ble_eq_true rfl, Nat.le_of_ble_eq_true rfl⟩, hts _ kX1_holdsAmong_1, trivial⟩ (hP.sub [] rfl) hK hN rfl rfl hl.1 (Nat.le_of_ble_eq_true rfl) ⟨Nat.zero_le _, Nat.zero_le _⟩ dX1_holdsAmong_24 ?_
        refine lv_if_eq (tgt := 32) hx hb dX1_holdsAmong_27 (by decide) (fun c3 => ?_) (fun c3 => ?_)
        · have hp := hp.1 c3
          refine lv_iinc (v := x5 + (1 : Int32)) (lv' := [(5, .int (x5 + (1 : Int32))), (0, .ref (q 0)), (1, .int a1), (2, .int a2), (3, .int a3), (4, .int a4)]) hx hb dX1_holdsAmong_32 hl (k := 5) rfl rfl (by decide) rfl (fun ls hl => ?_)
          refine lv_goto (tgt := 3) hx hb dX1_holdsAmong_35 (by decide) ?_
          rw [eV3] at hp
          exact hp _ (lv_sub hl [1, 2, 3, 4, 5, 0] rfl)
        · have hp := hp.2 c3
          refine lv_iconst (v := 1) hx hb dX1_holdsAmong_30 (by decide) ?_
          exact W.zret (ty := .boolean) hx hb hr rfl (fun t ht _ => ⟨by rw [hp], ht⟩) (fun _ h => nomatch h) dX1_holdsAmong_31)
  refine lv_iconst (v := 0) hx hb dX1_holdsAmong_0 (by decide) ?_
  refine lv_istore (lv' := [(5, .int (0 : Int32)), (0, .ref (q 0)), (1, .int a1), (2, .int a2), (3, .int a3), (4, .int a4)]) hx hb dX1_holdsAmong_1 hl (by decide) rfl (fun ls hl => ?_)
  rw [eV3] at hp
  exact hp _ (lv_sub hl [1, 2, 3, 4, 5, 0] rfl)
theorem kX1_decides_0 : (.fieldLink RX1 14 "Meeplehouse$Referee" "rules" "LMeeplehouse$Row;" : Cond) ∈ wsX1_decides := by decide +kernel
theorem iX1_decides_X1 : ∀ w ∈ wsX10, w ∈ wsX1_decides := by decide +kernel
theorem kX1_decides_2 : (.initialized RX4 : Cond) ∈ wsX1_decides := by decide +kernel
theorem kX1_decides_3 : (.static yX4_contains : Cond) ∈ wsX1_decides := by decide +kernel
def P_X1_decides (g : St) (a1 : Int32) (a2 : Int32) (a3 : Int32) (r : Int32) : Prop := ∀ V26 : Int32 → Int32 → Prop, (∀ x4 x5 : Int32, (((12 : Int32) ≤ x5 → (r = (1 : Int32))) ∧ (¬ (12 : Int32) ≤ x5 → ((x4 = (-1 : Int32) → (r = (1 : Int32))) ∧ (¬ x4 = (-1 : Int32) → (∃ r4 : Int32, P_X1_parentOf g a1 x4 r4 ∧ (∃ r5 : Int32, P_X4_contains a3 x4 r5 ∧ ((r5 = 0 → (r = (0 : Int32))) ∧ (¬ r5 = 0 → (∃ r6 : Int32, P_X1_holdsAmong g a1 r4 x4 a3 r6 ∧ ((r6 = 0 → (V26 r4 (x5 + (1 : Int32)))) ∧ (¬ r6 = 0 → (r = (0 : Int32))))))))))))) → V26 x4 x5) → (∃ r2 : Int32, P_X1_holdsAmong g a1 a2 (f_at 8 (g 1) a1) a3 r2 ∧ ((r2 = 0 → (V26 a2 (0 : Int32))) ∧ (¬ r2 = 0 → (r = (0 : Int32)))))
set_option maxRecDepth 100000 in
set_option maxHeartbeats 4000000 in
theorem c_X1_decides (l : Launch) (dC : Nat → ClassId) (dI : Nat → Nat → Nat) (cI : ClassId) (q : Nat → Nat) (g : St) (a1 : Int32) (a2 : Int32) (a3 : Int32) (r : Int32) (hp : P_X1_decides g a1 a2 a3 r) : Met l yX1_decides wsX1_decides { frames := 3, cells := 0, slots := 0, locals := 68 } (va_Pc [.ref (q 0), .int a1, .int a2, .int a3] (rpS (dC, dI) vwCl [(cI, .int)] (wX1 q cI g))) (QcRead r) 0 0 (fun _ => False) := by
  refine ro_met (cc := cX1_decides) (maxL := 7) (ret := (some .boolean)) (by decide) rfl (Nat.le_of_ble_eq_true rfl) ?_
  intro p e s m below meth c hx hb hml hr hlk hts hown hP hK hN ls hl
  have hl : lv_has ls 7 [(0, .ref (q 0)), (1, .int a1), (2, .int a2), (3, .int a3)] := hl
  obtain ⟨V26, eV26⟩ : ∃ V : Int32 → Int32 → Prop, V = (fun x4 x5 => ∀ ls : Array Slot, lv_has ls 7 [(0, .ref (q 0)), (1, .int a1), (2, .int a2), (3, .int a3), (4, .int x4), (5, .int x5)] → W p l e { frames := 3, cells := 0, slots := 0, locals := 68 } s m ([.ref (q 0), .int a1, .int a2, .int a3] : List Value).toArray below meth c s.heap [] 0 0 (MQ below (QcRead r) ([.ref (q 0), .int a1, .int a2, .int a3] : List Value).toArray s 0 0 (fun _ => False)) (F0 m 26 ls [])) := ⟨_, rfl⟩
  have hp := hp V26
  have hp := hp (by
    intro x4 x5 hp
    rw [eV26]
    intro ls hl
    refine lv_iload hx hb dX1_decides_26 (lv_at hl 5 rfl) ?_
    refine lv_bipush (v := 12) hx hb dX1_decides_28 (by decide) ?_
    refine lv_icmp_ge (tgt := 82) hx hb dX1_decides_30 (by decide) (fun c10 => ?_) (fun c10 => ?_)
    · have hp := hp.1 c10
      refine lv_iconst (v := 1) hx hb dX1_decides_82 (by decide) ?_
      exact W.zret (ty := .boolean) hx hb hr rfl (fun t ht _ => ⟨by rw [hp], ht⟩) (fun _ h => nomatch h) dX1_decides_83
    · have hp := hp.2 c10
      refine lv_iload hx hb dX1_decides_33 (lv_at hl 4 rfl) ?_
      refine lv_iconst (v := -1) hx hb dX1_decides_35 (by decide) ?_
      refine lv_icmp_eq (tgt := 82) hx hb dX1_decides_36 (by decide) (fun c9 => ?_) (fun c9 => ?_)
      · have hp := hp.1 c9
        refine lv_iconst (v := 1) hx hb dX1_decides_82 (by decide) ?_
        exact W.zret (ty := .boolean) hx hb hr rfl (fun t ht _ => ⟨by rw [hp], ht⟩) (fun _ h => nomatch h) dX1_decides_83
      · have hp := hp.2 c9
        refine lv_aload_n hx hb dX1_decides_39 rfl (lv_at hl 0 rfl) ?_
        refine lv_iload_n hx hb dX1_decides_40 rfl (lv_at hl 1 rfl) ?_
        refine lv_iload hx hb dX1_decides_41 (lv_at hl 4 rfl) ?_
        obtain ⟨r4, hr4, hp⟩ := hp
        refine ro_V (As := [.int a1, .int x4]) (rest := []) ⟨hx, hb, hml, hown, hts⟩ (c_X1_parentOf l dC dI cI q g a1 x4 r4 hr4) (cwV 2 hts gX1_decides_X1_parentOf rfl rfl rfl (by decide +kernel) ⟨Nat.le_of_ble_eq_true rfl, Nat.le_of_ble_eq_true rfl⟩) hP hK hN rfl rfl rfl rfl hl.1 (Nat.le_of_ble_eq_true rfl) ⟨Nat.zero_le _, Nat.zero_le _⟩ dX1_decides_43 ?_
        refine lv_istore (lv' := [(6, .int r4), (0, .ref (q 0)), (1, .int a1), (2, .int a2), (3, .int a3), (4, .int x4), (5, .int x5)]) hx hb dX1_decides_46 hl (by decide) rfl (fun ls hl => ?_)
        refine lv_iload_n hx hb dX1_decides_48 rfl (lv_at hl 4 rfl) ?_
        refine lv_iload hx hb dX1_decides_49 (lv_at hl 5 rfl) ?_
        obtain ⟨r5, hr5, hp⟩ := hp
        refine ro_SN (As := [.int a3, .int x4]) (rest := []) ⟨hx, hb, hml, hown, hts⟩ (c_X4_contains l dC dI cI a3 x4 r5 hr5) ⟨va_cnB 2 hts gX1_decides_X4_contains_n51 rfl rfl rfl (nw_w hN 2 rfl) (hts _ kX1_decides_2) (by decide +kernel) ⟨Nat.le_of_ble_eq_true rfl, Nat.le_of_ble_eq_true rfl⟩, hts _ kX1_decides_3, trivial⟩ (hP.sub [] rfl) hK hN rfl rfl hl.1 (Nat.le_of_ble_eq_true rfl) ⟨Nat.zero_le _, Nat.zero_le _⟩ dX1_decides_51 ?_
        refine lv_if_eq (tgt := 70) hx hb dX1_decides_54 (by decide) (fun c8 => ?_) (fun c8 => ?_)
        · have hp := hp.1 c8
          refine lv_iconst (v := 0) hx hb dX1_decides_70 (by decide) ?_
          exact W.zret (ty := .boolean) hx hb hr rfl (fun t ht _ => ⟨by rw [hp], ht⟩) (fun _ h => nomatch h) dX1_decides_71
        · have hp := hp.2 c8
          refine lv_aload_n hx hb dX1_decides_57 rfl (lv_at hl 1 rfl) ?_
          refine lv_iload_n hx hb dX1_decides_58 rfl (lv_at hl 2 rfl) ?_
          refine lv_iload hx hb dX1_decides_59 (lv_at hl 0 rfl) ?_
          refine lv_iload hx hb dX1_decides_61 (lv_at hl 5 rfl) ?_
          refine lv_iload_n hx hb dX1_decides_63 rfl (lv_at hl 4 rfl) ?_
          obtain ⟨r6, hr6, hp⟩ := hp
          refine ro_V (As := [.int a1, .int r4, .int x4, .int a3]) (rest := []) ⟨hx, hb, hml, hown, hts⟩ (c_X1_holdsAmong l dC dI cI q g a1 r4 x4 a3 r6 hr6) (cwV 4 hts gX1_decides_X1_holdsAmong rfl rfl rfl (by decide +kernel) ⟨Nat.le_of_ble_eq_true rfl, Nat.le_of_ble_eq_true rfl⟩) hP hK hN rfl rfl rfl rfl hl.1 (Nat.le_of_ble_eq_true rfl) ⟨Nat.zero_le _, Nat.zero_le _⟩ dX1_decides_64 ?_
          refine lv_if_eq (tgt := 72) hx hb dX1_decides_67 (by decide) (fun c7 => ?_) (fun c7 => ?_)
          · have hp := hp.1 c7
            refine lv_iload hx hb dX1_decides_72 (lv_at hl 0 rfl) ?_
            refine lv_istore (lv' := [(4, .int r4), (6, .int r4), (0, .ref (q 0)), (1, .int a1), (2, .int a2), (3, .int a3), (5, .int x5)]) hx hb dX1_decides_74 hl (by decide) rfl (fun ls hl => ?_)
            refine lv_iinc (v := x5 + (1 : Int32)) (lv' := [(5, .int (x5 + (1 : Int32))), (4, .int r4), (6, .int r4), (0, .ref (q 0)), (1, .int a1), (2, .int a2), (3, .int a3)]) hx hb dX1_decides_76 hl (k := 6) rfl rfl (by decide) rfl (fun ls hl => ?_)
            refine lv_goto (tgt := 26) hx hb dX1_decides_79 (by decide) ?_
            rw [eV26] at hp
            exact hp _ (lv_sub hl [3, 4, 5, 6, 1, 0] rfl)
          · have hp := hp.2 c7
            refine lv_iconst (v := 0) hx hb dX1_decides_70 (by decide) ?_
            exact W.zret (ty := .boolean) hx hb hr rfl (fun t ht _ => ⟨by rw [hp], ht⟩) (fun _ h => nomatch h) dX1_decides_71)
  refine lv_aload_n hx hb dX1_decides_0 rfl (lv_at hl 0 rfl) ?_
  refine lv_iload_n hx hb dX1_decides_1 rfl (lv_at hl 1 rfl) ?_
  refine lv_iload_n hx hb dX1_decides_2 rfl (lv_at hl 2 rfl) ?_
  refine lv_aload_n hx hb dX1_decides_3 rfl (lv_at hl 0 rfl) ?_
  refine va_get (D := (dC, dI)) (ci := 1) (v := .ref (q 1)) (C := RX1) (T := TX1) (N := 5) hx hb hts iX1_decides_X1 hown hK hP 0 rfl rfl 0 (by decide) (hts _ kX1_decides_0) (fun _ h9 => h9) rfl dX1_decides_4 ?_
  refine lv_iload_n hx hb dX1_decides_7 rfl (lv_at hl 1 rfl) ?_
  refine ro_V (As := [.int a1]) (rest := [.int a2, .int a1, .ref (q 0)]) ⟨hx, hb, hml, hown, hts⟩ (c_X2_at l dC dI cI (q 1) (q 2) 8 (g 1) a1 (by decide)) (cwV 1 hts gX1_decides_X2_at rfl rfl rfl (by decide +kernel) ⟨Nat.le_of_ble_eq_true rfl, Nat.le_of_ble_eq_true rfl⟩) (hP.sub [1, 2] rfl) hK hN rfl rfl rfl rfl hl.1 (Nat.le_of_ble_eq_true rfl) ⟨Nat.zero_le _, Nat.zero_le _⟩ dX1_decides_8 ?_
  refine lv_iload_n hx hb dX1_decides_11 rfl (lv_at hl 3 rfl) ?_
  obtain ⟨r2, hr2, hp⟩ := hp
  refine ro_V (As := [.int a1, .int a2, .int (f_at 8 (g 1) a1), .int a3]) (rest := []) ⟨hx, hb, hml, hown, hts⟩ (c_X1_holdsAmong l dC dI cI q g a1 a2 (f_at 8 (g 1) a1) a3 r2 hr2) (cwV 4 hts gX1_decides_X1_holdsAmong rfl rfl rfl (by decide +kernel) ⟨Nat.le_of_ble_eq_true rfl, Nat.le_of_ble_eq_true rfl⟩) hP hK hN rfl rfl rfl rfl hl.1 (Nat.le_of_ble_eq_true rfl) ⟨Nat.zero_le _, Nat.zero_le _⟩ dX1_decides_12 ?_
  refine lv_if_eq (tgt := 20) hx hb dX1_decides_15 (by decide) (fun c3 => ?_) (fun c3 => ?_)
  · have hp := hp.1 c3
    refine lv_iload_n hx hb dX1_decides_20 rfl (lv_at hl 2 rfl) ?_
    refine lv_istore (lv' := [(4, .int a2), (0, .ref (q 0)), (1, .int a1), (2, .int a2), (3, .int a3)]) hx hb dX1_decides_21 hl (by decide) rfl (fun ls hl => ?_)
    refine lv_iconst (v := 0) hx hb dX1_decides_23 (by decide) ?_
    refine lv_istore (lv' := [(5, .int (0 : Int32)), (4, .int a2), (0, .ref (q 0)), (1, .int a1), (2, .int a2), (3, .int a3)]) hx hb dX1_decides_24 hl (by decide) rfl (fun ls hl => ?_)
    rw [eV26] at hp
    exact hp _ (lv_sub hl [2, 3, 4, 5, 1, 0] rfl)
  · have hp := hp.2 c3
    refine lv_iconst (v := 0) hx hb dX1_decides_18 (by decide) ?_
    exact W.zret (ty := .boolean) hx hb hr rfl (fun t ht _ => ⟨by rw [hp], ht⟩) (fun _ h => nomatch h) dX1_decides_19
theorem kX1_rulingGoingUp_0 : (.fieldLink RX1 14 "Meeplehouse$Referee" "rules" "LMeeplehouse$Row;" : Cond) ∈ wsX1_rulingGoingUp := by decide +kernel
theorem iX1_rulingGoingUp_X1 : ∀ w ∈ wsX10, w ∈ wsX1_rulingGoingUp := by decide +kernel
theorem kX1_rulingGoingUp_2 : (.fieldLink RX1 29 "Meeplehouse$Referee" "rulings" "LMeeplehouse$Row;" : Cond) ∈ wsX1_rulingGoingUp := by decide +kernel
def P_X1_rulingGoingUp (g : St) (a1 : Int32) (a2 : Int32) (r : Int32) : Prop := ∀ V2 : Int32 → Prop, (∀ x3 : Int32, (((f_at 8 (g 1) a1) ≤ x3 → (r = (-1 : Int32))) ∧ (¬ (f_at 8 (g 1) a1) ≤ x3 → (∃ r2 : Int32, P_X1_decides g a1 x3 a2 r2 ∧ ((r2 = 0 → (V2 (x3 + (1 : Int32)))) ∧ (¬ r2 = 0 → (r = (f_at 96 (g 5) ((a1 * (12 : Int32)) + x3)))))))) → V2 x3) → (V2 (0 : Int32))
set_option maxRecDepth 100000 in
set_option maxHeartbeats 4000000 in
theorem c_X1_rulingGoingUp (l : Launch) (dC : Nat → ClassId) (dI : Nat → Nat → Nat) (cI : ClassId) (q : Nat → Nat) (g : St) (a1 : Int32) (a2 : Int32) (r : Int32) (hp : P_X1_rulingGoingUp g a1 a2 r) : Met l yX1_rulingGoingUp wsX1_rulingGoingUp { frames := 4, cells := 0, slots := 0, locals := 94 } (va_Pc [.ref (q 0), .int a1, .int a2] (rpS (dC, dI) vwCl [(cI, .int)] (wX1 q cI g))) (QcRead r) 0 0 (fun _ => False) := by
  refine ro_met (cc := cX1_rulingGoingUp) (maxL := 4) (ret := (some .int)) (by decide) rfl (Nat.le_of_ble_eq_true rfl) ?_
  intro p e s m below meth c hx hb hml hr hlk hts hown hP hK hN ls hl
  have hl : lv_has ls 4 [(0, .ref (q 0)), (1, .int a1), (2, .int a2)] := hl
  obtain ⟨V2, eV2⟩ : ∃ V : Int32 → Prop, V = (fun x3 => ∀ ls : Array Slot, lv_has ls 4 [(0, .ref (q 0)), (1, .int a1), (2, .int a2), (3, .int x3)] → W p l e { frames := 4, cells := 0, slots := 0, locals := 94 } s m ([.ref (q 0), .int a1, .int a2] : List Value).toArray below meth c s.heap [] 0 0 (MQ below (QcRead r) ([.ref (q 0), .int a1, .int a2] : List Value).toArray s 0 0 (fun _ => False)) (F0 m 2 ls [])) := ⟨_, rfl⟩
  have hp := hp V2
  have hp := hp (by
    intro x3 hp
    rw [eV2]
    intro ls hl
    refine lv_iload_n hx hb dX1_rulingGoingUp_2 rfl (lv_at hl 3 rfl) ?_
    refine lv_aload_n hx hb dX1_rulingGoingUp_3 rfl (lv_at hl 0 rfl) ?_
    refine va_get (D := (dC, dI)) (ci := 1) (v := .ref (q 1)) (C := RX1) (T := TX1) (N := 5) hx hb hts iX1_rulingGoingUp_X1 hown hK hP 0 rfl rfl 0 (by decide) (hts _ kX1_rulingGoingUp_0) (fun _ h9 => h9) rfl dX1_rulingGoingUp_4 ?_
    refine lv_iload_n hx hb dX1_rulingGoingUp_7 rfl (lv_at hl 1 rfl) ?_
    refine ro_V (As := [.int a1]) (rest := [.int x3]) ⟨hx, hb, hml, hown, hts⟩ (c_X2_at l dC dI cI (q 1) (q 2) 8 (g 1) a1 (by decide)) (cwV 1 hts gX1_rulingGoingUp_X2_at rfl rfl rfl (by decide +kernel) ⟨Nat.le_of_ble_eq_true rfl, Nat.le_of_ble_eq_true rfl⟩) (hP.sub [1, 2] rfl) hK hN rfl rfl rfl rfl hl.1 (Nat.le_of_ble_eq_true rfl) ⟨Nat.zero_le _, Nat.zero_le _⟩ dX1_rulingGoingUp_8 ?_
    refine lv_icmp_ge (tgt := 44) hx hb dX1_rulingGoingUp_11 (by decide) (fun c5 => ?_) (fun c5 => ?_)
    · have hp := hp.1 c5
      refine lv_iconst (v := -1) hx hb dX1_rulingGoingUp_44 (by decide) ?_
      exact W.iret hx hb hr (fun t ht _ => ⟨by rw [hp], ht⟩) (fun _ h => nomatch h) dX1_rulingGoingUp_45
    · have hp := hp.2 c5
      refine lv_aload_n hx hb dX1_rulingGoingUp_14 rfl (lv_at hl 0 rfl) ?_
      refine lv_iload_n hx hb dX1_rulingGoingUp_15 rfl (lv_at hl 1 rfl) ?_
      refine lv_iload_n hx hb dX1_rulingGoingUp_16 rfl (lv_at hl 3 rfl) ?_
      refine lv_iload_n hx hb dX1_rulingGoingUp_17 rfl (lv_at hl 2 rfl) ?_
      obtain ⟨r2, hr2, hp⟩ := hp
      refine ro_V (As := [.int a1, .int x3, .int a2]) (rest := []) ⟨hx, hb, hml, hown, hts⟩ (c_X1_decides l dC dI cI q g a1 x3 a2 r2 hr2) (cwV 3 hts gX1_rulingGoingUp_X1_decides rfl rfl rfl (by decide +kernel) ⟨Nat.le_of_ble_eq_true rfl, Nat.le_of_ble_eq_true rfl⟩) hP hK hN rfl rfl rfl rfl hl.1 (Nat.le_of_ble_eq_true rfl) ⟨Nat.zero_le _, Nat.zero_le _⟩ dX1_rulingGoingUp_18 ?_
      refine lv_if_eq (tgt := 38) hx hb dX1_rulingGoingUp_21 (by decide) (fun c4 => ?_) (fun c4 => ?_)
      · have hp := hp.1 c4
        refine lv_iinc (v := x3 + (1 : Int32)) (lv' := [(3, .int (x3 + (1 : Int32))), (0, .ref (q 0)), (1, .int a1), (2, .int a2)]) hx hb dX1_rulingGoingUp_38 hl (k := 3) rfl rfl (by decide) rfl (fun ls hl => ?_)
        refine lv_goto (tgt := 2) hx hb dX1_rulingGoingUp_41 (by decide) ?_
        rw [eV2] at hp
        exact hp _ (lv_sub hl [1, 2, 3, 0] rfl)
      · have hp := hp.2 c4
        refine lv_aload_n hx hb dX1_rulingGoingUp_24 rfl (lv_at hl 0 rfl) ?_
        refine va_get (D := (dC, dI)) (ci := 1) (v := .ref (q 9)) (C := RX1) (T := TX1) (N := 5) hx hb hts iX1_rulingGoingUp_X1 hown hK hP 0 rfl rfl 4 (by decide) (hts _ kX1_rulingGoingUp_2) (fun _ h9 => h9) rfl dX1_rulingGoingUp_25 ?_
        refine lv_iload_n hx hb dX1_rulingGoingUp_28 rfl (lv_at hl 1 rfl) ?_
        refine lv_bipush (v := 12) hx hb dX1_rulingGoingUp_29 (by decide) ?_
        refine lv_imul hx hb dX1_rulingGoingUp_31 ?_
        refine lv_iload_n hx hb dX1_rulingGoingUp_32 rfl (lv_at hl 3 rfl) ?_
        refine lv_iadd hx hb dX1_rulingGoingUp_33 ?_
        refine ro_V (As := [.int ((a1 * (12 : Int32)) + x3)]) (rest := []) ⟨hx, hb, hml, hown, hts⟩ (c_X2_at l dC dI cI (q 9) (q 10) 96 (g 5) ((a1 * (12 : Int32)) + x3) (by decide)) (cwV 1 hts gX1_rulingGoingUp_X2_at rfl rfl rfl (by decide +kernel) ⟨Nat.le_of_ble_eq_true rfl, Nat.le_of_ble_eq_true rfl⟩) (hP.sub [9, 10] rfl) hK hN rfl rfl rfl rfl hl.1 (Nat.le_of_ble_eq_true rfl) ⟨Nat.zero_le _, Nat.zero_le _⟩ dX1_rulingGoingUp_34 ?_
        exact W.iret hx hb hr (fun t ht _ => ⟨by rw [hp], ht⟩) (fun _ h => nomatch h) dX1_rulingGoingUp_37)
  refine lv_iconst (v := 0) hx hb dX1_rulingGoingUp_0 (by decide) ?_
  refine lv_istore_n (lv' := [(3, .int (0 : Int32)), (0, .ref (q 0)), (1, .int a1), (2, .int a2)]) hx hb dX1_rulingGoingUp_1 rfl hl (by decide) rfl (fun ls hl => ?_)
  rw [eV2] at hp
  exact hp _ (lv_sub hl [1, 2, 3, 0] rfl)
def P_X1_levelOf (g : St) (a1 : Int32) (a2 : Int32) (r : Int32) : Prop := ∀ V5 : Int32 → Int32 → Prop, (∀ x3 x4 : Int32, ((x4 = (-1 : Int32) → (r = x3)) ∧ (¬ x4 = (-1 : Int32) → (((12 : Int32) ≤ x3 → (r = x3)) ∧ (¬ (12 : Int32) ≤ x3 → (∃ r1 : Int32, P_X1_parentOf g a1 x4 r1 ∧ (V5 (x3 + (1 : Int32)) r1)))))) → V5 x3 x4) → (V5 (0 : Int32) a2)
set_option maxRecDepth 100000 in
set_option maxHeartbeats 4000000 in
theorem c_X1_levelOf (l : Launch) (dC : Nat → ClassId) (dI : Nat → Nat → Nat) (cI : ClassId) (q : Nat → Nat) (g : St) (a1 : Int32) (a2 : Int32) (r : Int32) (hp : P_X1_levelOf g a1 a2 r) : Met l yX1_levelOf wsX1_levelOf { frames := 2, cells := 0, slots := 0, locals := 43 } (va_Pc [.ref (q 0), .int a1, .int a2] (rpS (dC, dI) vwCl [(cI, .int)] (wX1 q cI g))) (QcRead r) 0 0 (fun _ => False) := by
  refine ro_met (cc := cX1_levelOf) (maxL := 5) (ret := (some .int)) (by decide) rfl (Nat.le_of_ble_eq_true rfl) ?_
  intro p e s m below meth c hx hb hml hr hlk hts hown hP hK hN ls hl
  have hl : lv_has ls 5 [(0, .ref (q 0)), (1, .int a1), (2, .int a2)] := hl
  obtain ⟨V5, eV5⟩ : ∃ V : Int32 → Int32 → Prop, V = (fun x3 x4 => ∀ ls : Array Slot, lv_has ls 5 [(0, .ref (q 0)), (1, .int a1), (2, .int a2), (3, .int x3), (4, .int x4)] → W p l e { frames := 2, cells := 0, slots := 0, locals := 43 } s m ([.ref (q 0), .int a1, .int a2] : List Value).toArray below meth c s.heap [] 0 0 (MQ below (QcRead r) ([.ref (q 0), .int a1, .int a2] : List Value).toArray s 0 0 (fun _ => False)) (F0 m 5 ls [])) := ⟨_, rfl⟩
  have hp := hp V5
  have hp := hp (by
    intro x3 x4 hp
    rw [eV5]
    intro ls hl
    refine lv_iload hx hb dX1_levelOf_5 (lv_at hl 4 rfl) ?_
    refine lv_iconst (v := -1) hx hb dX1_levelOf_7 (by decide) ?_
    refine lv_icmp_eq (tgt := 32) hx hb dX1_levelOf_8 (by decide) (fun c3 => ?_) (fun c3 => ?_)
    · have hp := hp.1 c3
      refine lv_iload_n hx hb dX1_levelOf_32 rfl (lv_at hl 3 rfl) ?_
      exact W.iret hx hb hr (fun t ht _ => ⟨by rw [hp], ht⟩) (fun _ h => nomatch h) dX1_levelOf_33
    · have hp := hp.2 c3
      refine lv_iload_n hx hb dX1_levelOf_11 rfl (lv_at hl 3 rfl) ?_
      refine lv_bipush (v := 12) hx hb dX1_levelOf_12 (by decide) ?_
      refine lv_icmp_ge (tgt := 32) hx hb dX1_levelOf_14 (by decide) (fun c2 => ?_) (fun c2 => ?_)
      · have hp := hp.1 c2
        refine lv_iload_n hx hb dX1_levelOf_32 rfl (lv_at hl 3 rfl) ?_
        exact W.iret hx hb hr (fun t ht _ => ⟨by rw [hp], ht⟩) (fun _ h => nomatch h) dX1_levelOf_33
      · have hp := hp.2 c2
        refine lv_iinc (v := x3 + (1 : Int32)) (lv' := [(3, .int (x3 + (1 : Int32))), (0, .ref (q 0)), (1, .int a1), (2, .int a2), (4, .int x4)]) hx hb dX1_levelOf_17 hl (k := 3) rfl rfl (by decide) rfl (fun ls hl => ?_)
        refine lv_aload_n hx hb dX1_levelOf_20 rfl (lv_at hl 1 rfl) ?_
        refine lv_iload_n hx hb dX1_levelOf_21 rfl (lv_at hl 2 rfl) ?_
        refine lv_iload hx hb dX1_levelOf_22 (lv_at hl 4 rfl) ?_
        obtain ⟨r1, hr1, hp⟩ := hp
        refine ro_V (As := [.int a1, .int x4]) (rest := []) ⟨hx, hb, hml, hown, hts⟩ (c_X1_parentOf l dC dI cI q g a1 x4 r1 hr1) (cwV 2 hts gX1_levelOf_X1_parentOf rfl rfl rfl (by decide +kernel) ⟨Nat.le_of_ble_eq_true rfl, Nat.le_of_ble_eq_true rfl⟩) hP hK hN rfl rfl rfl rfl hl.1 (Nat.le_of_ble_eq_true rfl) ⟨Nat.zero_le _, Nat.zero_le _⟩ dX1_levelOf_24 ?_
        refine lv_istore (lv' := [(4, .int r1), (3, .int (x3 + (1 : Int32))), (0, .ref (q 0)), (1, .int a1), (2, .int a2)]) hx hb dX1_levelOf_27 hl (by decide) rfl (fun ls hl => ?_)
        refine lv_goto (tgt := 5) hx hb dX1_levelOf_29 (by decide) ?_
        rw [eV5] at hp
        exact hp _ (lv_sub hl [2, 3, 4, 1, 0] rfl))
  refine lv_iconst (v := 0) hx hb dX1_levelOf_0 (by decide) ?_
  refine lv_istore_n (lv' := [(3, .int (0 : Int32)), (0, .ref (q 0)), (1, .int a1), (2, .int a2)]) hx hb dX1_levelOf_1 rfl hl (by decide) rfl (fun ls hl => ?_)
  refine lv_iload_n hx hb dX1_levelOf_2 rfl (lv_at hl 3 rfl) ?_
  refine lv_istore (lv' := [(4, .int a2), (3, .int (0 : Int32)), (0, .ref (q 0)), (1, .int a1), (2, .int a2)]) hx hb dX1_levelOf_3 hl (by decide) rfl (fun ls hl => ?_)
  rw [eV5] at hp
  exact hp _ (lv_sub hl [2, 3, 4, 1, 0] rfl)
theorem kX1_deepest_0 : (.fieldLink RX1 14 "Meeplehouse$Referee" "rules" "LMeeplehouse$Row;" : Cond) ∈ wsX1_deepest := by decide +kernel
theorem iX1_deepest_X1 : ∀ w ∈ wsX10, w ∈ wsX1_deepest := by decide +kernel
theorem kX1_deepest_2 : (.methodLink RX1 66 Lib.Math.max.name : Cond) ∈ wsX1_deepest := by decide +kernel
theorem kX1_deepest_3 : (.static Lib.Math.max.name : Cond) ∈ wsX1_deepest := by decide +kernel
theorem kX1_deepest_4 : (.initialized "java/lang/Math" : Cond) ∈ wsX1_deepest := by decide +kernel
theorem kX1_deepest_5 : (.code Lib.Math.max.name Lib.Math.max.code 2 (some .int) : Cond) ∈ wsX1_deepest := by decide +kernel
def P_X1_deepest (g : St) (a1 : Int32) (r : Int32) : Prop := ∀ V4 : Int32 → Int32 → Prop, (∀ x2 x3 : Int32, (((f_at 8 (g 1) a1) ≤ x3 → (r = x2)) ∧ (¬ (f_at 8 (g 1) a1) ≤ x3 → (∃ r2 : Int32, P_X1_levelOf g a1 x3 r2 ∧ (V4 (if x2 < r2 then r2 else x2) (x3 + (1 : Int32)))))) → V4 x2 x3) → (V4 (0 : Int32) (0 : Int32))
set_option maxRecDepth 100000 in
set_option maxHeartbeats 4000000 in
theorem c_X1_deepest (l : Launch) (dC : Nat → ClassId) (dI : Nat → Nat → Nat) (cI : ClassId) (q : Nat → Nat) (g : St) (a1 : Int32) (r : Int32) (hp : P_X1_deepest g a1 r) : Met l yX1_deepest wsX1_deepest { frames := 3, cells := 0, slots := 0, locals := 67 } (va_Pc [.ref (q 0), .int a1] (rpS (dC, dI) vwCl [(cI, .int)] (wX1 q cI g))) (QcRead r) 0 0 (fun _ => False) := by
  refine ro_met (cc := cX1_deepest) (maxL := 4) (ret := (some .int)) (by decide) rfl (Nat.le_of_ble_eq_true rfl) ?_
  intro p e s m below meth c hx hb hml hr hlk hts hown hP hK hN ls hl
  have hl : lv_has ls 4 [(0, .ref (q 0)), (1, .int a1)] := hl
  obtain ⟨V4, eV4⟩ : ∃ V : Int32 → Int32 → Prop, V = (fun x2 x3 => ∀ ls : Array Slot, lv_has ls 4 [(0, .ref (q 0)), (1, .int a1), (2, .int x2), (3, .int x3)] → W p l e { frames := 3, cells := 0, slots := 0, locals := 67 } s m ([.ref (q 0), .int a1] : List Value).toArray below meth c s.heap [] 0 0 (MQ below (QcRead r) ([.ref (q 0), .int a1] : List Value).toArray s 0 0 (fun _ => False)) (F0 m 4 ls [])) := ⟨_, rfl⟩
  have hp := hp V4
  have hp := hp (by
    intro x2 x3 hp
    rw [eV4]
    intro ls hl
    refine lv_iload_n hx hb dX1_deepest_4 rfl (lv_at hl 3 rfl) ?_
    refine lv_aload_n hx hb dX1_deepest_5 rfl (lv_at hl 0 rfl) ?_
    refine va_get (D := (dC, dI)) (ci := 1) (v := .ref (q 1)) (C := RX1) (T := TX1) (N := 5) hx hb hts iX1_deepest_X1 hown hK hP 0 rfl rfl 0 (by decide) (hts _ kX1_deepest_0) (fun _ h9 => h9) rfl dX1_deepest_6 ?_
    refine lv_iload_n hx hb dX1_deepest_9 rfl (lv_at hl 1 rfl) ?_
    refine ro_V (As := [.int a1]) (rest := [.int x3]) ⟨hx, hb, hml, hown, hts⟩ (c_X2_at l dC dI cI (q 1) (q 2) 8 (g 1) a1 (by decide)) (cwV 1 hts gX1_deepest_X2_at rfl rfl rfl (by decide +kernel) ⟨Nat.le_of_ble_eq_true rfl, Nat.le_of_ble_eq_true rfl⟩) (hP.sub [1, 2] rfl) hK hN rfl rfl rfl rfl hl.1 (Nat.le_of_ble_eq_true rfl) ⟨Nat.zero_le _, Nat.zero_le _⟩ dX1_deepest_10 ?_
    refine lv_icmp_ge (tgt := 33) hx hb dX1_deepest_13 (by decide) (fun c3 => ?_) (fun c3 => ?_)
    · have hp := hp.1 c3
      refine lv_iload_n hx hb dX1_deepest_33 rfl (lv_at hl 2 rfl) ?_
      exact W.iret hx hb hr (fun t ht _ => ⟨by rw [hp], ht⟩) (fun _ h => nomatch h) dX1_deepest_34
    · have hp := hp.2 c3
      refine lv_iload_n hx hb dX1_deepest_16 rfl (lv_at hl 2 rfl) ?_
      refine lv_aload_n hx hb dX1_deepest_17 rfl (lv_at hl 0 rfl) ?_
      refine lv_iload_n hx hb dX1_deepest_18 rfl (lv_at hl 1 rfl) ?_
      refine lv_iload_n hx hb dX1_deepest_19 rfl (lv_at hl 3 rfl) ?_
      obtain ⟨r2, hr2, hp⟩ := hp
      refine ro_V (As := [.int a1, .int x3]) (rest := [.int x2]) ⟨hx, hb, hml, hown, hts⟩ (c_X1_levelOf l dC dI cI q g a1 x3 r2 hr2) (cwV 2 hts gX1_deepest_X1_levelOf rfl rfl rfl (by decide +kernel) ⟨Nat.le_of_ble_eq_true rfl, Nat.le_of_ble_eq_true rfl⟩) hP hK hN rfl rfl rfl rfl hl.1 (Nat.le_of_ble_eq_true rfl) ⟨Nat.zero_le _, Nat.zero_le _⟩ dX1_deepest_20 ?_
      refine va_mmax hx hb (hml.trans hl.1.symm) hown (hts _ kX1_deepest_2) (hts _ kX1_deepest_3) (hts _ kX1_deepest_4) (hts _ kX1_deepest_5) (Nat.le_of_ble_eq_true rfl) (Nat.le_of_ble_eq_true rfl) (Nat.zero_le _) (Nat.zero_le _) dX1_deepest_23 ?_
      refine lv_istore_n (lv' := [(2, .int (if x2 < r2 then r2 else x2)), (0, .ref (q 0)), (1, .int a1), (3, .int x3)]) hx hb dX1_deepest_26 rfl hl (by decide) rfl (fun ls hl => ?_)
      refine lv_iinc (v := x3 + (1 : Int32)) (lv' := [(3, .int (x3 + (1 : Int32))), (2, .int (if x2 < r2 then r2 else x2)), (0, .ref (q 0)), (1, .int a1)]) hx hb dX1_deepest_27 hl (k := 3) rfl rfl (by decide) rfl (fun ls hl => ?_)
      refine lv_goto (tgt := 4) hx hb dX1_deepest_30 (by decide) ?_
      rw [eV4] at hp
      exact hp _ (lv_sub hl [2, 3, 1, 0] rfl))
  refine lv_iconst (v := 0) hx hb dX1_deepest_0 (by decide) ?_
  refine lv_istore_n (lv' := [(2, .int (0 : Int32)), (0, .ref (q 0)), (1, .int a1)]) hx hb dX1_deepest_1 rfl hl (by decide) rfl (fun ls hl => ?_)
  refine lv_iconst (v := 0) hx hb dX1_deepest_2 (by decide) ?_
  refine lv_istore_n (lv' := [(3, .int (0 : Int32)), (2, .int (0 : Int32)), (0, .ref (q 0)), (1, .int a1)]) hx hb dX1_deepest_3 rfl hl (by decide) rfl (fun ls hl => ?_)
  rw [eV4] at hp
  exact hp _ (lv_sub hl [2, 3, 1, 0] rfl)
