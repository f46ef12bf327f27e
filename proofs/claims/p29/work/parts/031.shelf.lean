def wX3 (q : Nat → Nat) (cI : ClassId) (g : St) : va_W := [(q 0, .inr (3, [.int (g 0 0), .int (g 0 1), .ref (q 1), .ref (q 3), .ref (q 5), .ref (q 7), .ref (q 9), .ref (q 11), .ref (q 13), .ref (q 15), .ref (q 17)])), (q 1, .inr (2, [.ref (q 2)])), (q 2, .inl (cI, 8, .inl (g 1))), (q 3, .inr (2, [.ref (q 4)])), (q 4, .inl (cI, 8, .inl (g 2))), (q 5, .inr (2, [.ref (q 6)])), (q 6, .inl (cI, 8, .inl (g 3))), (q 7, .inr (2, [.ref (q 8)])), (q 8, .inl (cI, 32, .inl (g 4))), (q 9, .inr (2, [.ref (q 10)])), (q 10, .inl (cI, 16, .inl (g 5))), (q 11, .inr (2, [.ref (q 12)])), (q 12, .inl (cI, 16, .inl (g 6))), (q 13, .inr (2, [.ref (q 14)])), (q 14, .inl (cI, 16, .inl (g 7))), (q 15, .inr (2, [.ref (q 16)])), (q 16, .inl (cI, 64, .inl (g 8))), (q 17, .inr (2, [.ref (q 18)])), (q 18, .inl (cI, 64, .inl (g 9)))]
theorem kX3_putTitle_0 : (.fieldLink RX3 14 "Meeplehouse$Shelf" "least" "LMeeplehouse$Row;" : Cond) ∈ wsX3_putTitle := by decide +kernel
theorem iX3_putTitle_X3 : ∀ w ∈ wsX30, w ∈ wsX3_putTitle := by decide +kernel
theorem kX3_putTitle_2 : (.fieldLink RX3 44 "Meeplehouse$Shelf" "titles" "I" : Cond) ∈ wsX3_putTitle := by decide +kernel
theorem kX3_putTitle_3 : (.fieldLink RX3 20 "Meeplehouse$Shelf" "most" "LMeeplehouse$Row;" : Cond) ∈ wsX3_putTitle := by decide +kernel
theorem kX3_putTitle_4 : (.fieldLink RX3 23 "Meeplehouse$Shelf" "minutes" "LMeeplehouse$Row;" : Cond) ∈ wsX3_putTitle := by decide +kernel
def P_X3_putTitle (g : St) (a1 : Int32) (a2 : Int32) (a3 : Int32) (r : Int32) (g' : St) : Prop := (∀ g2 : St, g2 = st_put g 1 8 (g 0 0) a1 → (∀ g4 : St, g4 = st_put g2 2 8 (g2 0 0) a2 → (∀ g6 : St, g6 = st_put g4 3 8 (g4 0 0) a3 → (∀ g7 : St, g7 = st_set g6 0 0 ((g6 0 0) + (1 : Int32)) → (r = ((g7 0 0) - (1 : Int32)) ∧ g' = g7)))))
set_option maxRecDepth 100000 in
set_option maxHeartbeats 4000000 in
theorem c_X3_putTitle (l : Launch) (dC : Nat → ClassId) (dI : Nat → Nat → Nat) (cI : ClassId) (q : Nat → Nat) (g : St) (a1 : Int32) (a2 : Int32) (a3 : Int32) (r : Int32) (g' : St) (hp : P_X3_putTitle g a1 a2 a3 r g') (sz : Nat) : Met l yX3_putTitle wsX3_putTitle { frames := 1, cells := 0, slots := 0, locals := 22 } (va_Pc [.ref (q 0), .int a1, .int a2, .int a3] (wpS (dC, dI) vwCl [(cI, .int)] (wX3 q cI g) sz)) (va_Qi (fun (r' : Int32) (_ : Unit) => r' = r) (fun _ t => wqB (dC, dI) vwCl (wX3 q cI g') (va_A (wX3 q cI g) sz) t) (va_A (wX3 q cI g) sz)) 0 0 (va_A (wX3 q cI g) sz) := by
  refine wr_met (fun A => (va_Qi (fun (r' : Int32) (_ : Unit) => r' = r) (fun _ t => wqB (dC, dI) vwCl (wX3 q cI g') A t) A)) (cc := cX3_putTitle) (maxL := 4) (ret := (some .int)) (by decide) rfl (Nat.le_of_ble_eq_true rfl) ?_
  intro p e s m below meth c A hx hb hml hr hlk hts hown hnm hP hK hN hD hA ls hl
  have hS : va_S A s.heap s.heap [] := va_S.rf
  have hl : lv_has ls 4 [(0, .ref (q 0)), (1, .int a1), (2, .int a2), (3, .int a3)] := hl
  unfold P_X3_putTitle at hp
  refine lv_aload_n hx hb dX3_putTitle_0 rfl (lv_at hl 0 rfl) ?_
  refine va_get (D := (dC, dI)) (ci := 3) (v := .ref (q 1)) (C := RX3) (T := TX3) (N := 11) hx hb hts iX3_putTitle_X3 hown hK hP 0 rfl rfl 2 (by decide) (hts _ kX3_putTitle_0) (fun _ h9 => h9) rfl dX3_putTitle_1 ?_
  refine lv_aload_n hx hb dX3_putTitle_4 rfl (lv_at hl 0 rfl) ?_
  refine va_get (D := (dC, dI)) (ci := 3) (v := .int (g 0 0)) (C := RX3) (T := TX3) (N := 11) hx hb hts iX3_putTitle_X3 hown hK hP 0 rfl rfl 0 (by decide) (hts _ kX3_putTitle_2) (fun _ h9 => h9) rfl dX3_putTitle_5 ?_
  refine lv_iload_n hx hb dX3_putTitle_8 rfl (lv_at hl 1 rfl) ?_
  refine wr_Vv (As := [.int (g 0 0), .int a1]) (rest := []) (w1 := (wX3 q cI g).take 1) (w2 := (wX3 q cI g).drop 3) (ws1 := wX3 q cI (st_put g 1 8 (g 0 0) a1)) ⟨hx, hb, hml, hown, hts⟩ (c_X2_put l dC dI cI (q 1) (q 2) 8 (g 1) (g 0 0) a1 _ (by decide)) (cwV 2 hts gX3_putTitle_X2_put rfl rfl rfl (by decide +kernel) ⟨Nat.le_of_ble_eq_true rfl, Nat.le_of_ble_eq_true rfl⟩) hP hD hS hA hK hN rfl rfl rfl rfl rfl rfl hl.1 (Nat.le_of_ble_eq_true rfl) ⟨Nat.zero_le _, Nat.zero_le _⟩ dX3_putTitle_9 (fun H locs hP hD hS => ?_)
  obtain ⟨g2, eg2⟩ : ∃ z : St, z = st_put g 1 8 (g 0 0) a1 := ⟨_, rfl⟩
  have hp := hp g2 eg2
  have hP : va_P (dC, dI) vwCl (wX3 q cI g2) H := by rw [eg2]; exact hP
  have hD : va_D A (wX3 q cI g2) := by rw [eg2]; exact hD
  refine lv_aload_n hx hb dX3_putTitle_12 rfl (lv_at hl 0 rfl) ?_
  refine va_get (D := (dC, dI)) (ci := 3) (v := .ref (q 3)) (C := RX3) (T := TX3) (N := 11) hx hb hts iX3_putTitle_X3 hown hK hP 0 rfl rfl 3 (by decide) (hts _ kX3_putTitle_3) (fun _ h9 => h9) rfl dX3_putTitle_13 ?_
  refine lv_aload_n hx hb dX3_putTitle_16 rfl (lv_at hl 0 rfl) ?_
  refine va_get (D := (dC, dI)) (ci := 3) (v := .int (g2 0 0)) (C := RX3) (T := TX3) (N := 11) hx hb hts iX3_putTitle_X3 hown hK hP 0 rfl rfl 0 (by decide) (hts _ kX3_putTitle_2) (fun _ h9 => h9) rfl dX3_putTitle_17 ?_
  refine lv_iload_n hx hb dX3_putTitle_20 rfl (lv_at hl 2 rfl) ?_
  refine wr_Vv (As := [.int (g2 0 0), .int a2]) (rest := []) (w1 := (wX3 q cI g2).take 3) (w2 := (wX3 q cI g2).drop 5) (ws1 := wX3 q cI (st_put g2 2 8 (g2 0 0) a2)) ⟨hx, hb, hml, hown, hts⟩ (c_X2_put l dC dI cI (q 3) (q 4) 8 (g2 2) (g2 0 0) a2 _ (by decide)) (cwV 2 hts gX3_putTitle_X2_put rfl rfl rfl (by decide +kernel) ⟨Nat.le_of_ble_eq_true rfl, Nat.le_of_ble_eq_true rfl⟩) hP hD hS hA hK hN rfl rfl rfl rfl rfl rfl hl.1 (Nat.le_of_ble_eq_true rfl) ⟨Nat.zero_le _, Nat.zero_le _⟩ dX3_putTitle_21 (fun H locs hP hD hS => ?_)
  obtain ⟨g4, eg4⟩ : ∃ z : St, z = st_put g2 2 8 (g2 0 0) a2 := ⟨_, rfl⟩
  have hp := hp g4 eg4
  have hP : va_P (dC, dI) vwCl (wX3 q cI g4) H := by rw [eg4]; exact hP
  have hD : va_D A (wX3 q cI g4) := by rw [eg4]; exact hD
  refine lv_aload_n hx hb dX3_putTitle_24 rfl (lv_at hl 0 rfl) ?_
  refine va_get (D := (dC, dI)) (ci := 3) (v := .ref (q 5)) (C := RX3) (T := TX3) (N := 11) hx hb hts iX3_putTitle_X3 hown hK hP 0 rfl rfl 4 (by decide) (hts _ kX3_putTitle_4) (fun _ h9 => h9) rfl dX3_putTitle_25 ?_
  refine lv_aload_n hx hb dX3_putTitle_28 rfl (lv_at hl 0 rfl) ?_
  refine va_get (D := (dC, dI)) (ci := 3) (v := .int (g4 0 0)) (C := RX3) (T := TX3) (N := 11) hx hb hts iX3_putTitle_X3 hown hK hP 0 rfl rfl 0 (by decide) (hts _ kX3_putTitle_2) (fun _ h9 => h9) rfl dX3_putTitle_29 ?_
  refine lv_iload_n hx hb dX3_putTitle_32 rfl (lv_at hl 3 rfl) ?_
  refine wr_Vv (As := [.int (g4 0 0), .int a3]) (rest := []) (w1 := (wX3 q cI g4).take 5) (w2 := (wX3 q cI g4).drop 7) (ws1 := wX3 q cI (st_put g4 3 8 (g4 0 0) a3)) ⟨hx, hb, hml, hown, hts⟩ (c_X2_put l dC dI cI (q 5) (q 6) 8 (g4 3) (g4 0 0) a3 _ (by decide)) (cwV 2 hts gX3_putTitle_X2_put rfl rfl rfl (by decide +kernel) ⟨Nat.le_of_ble_eq_true rfl, Nat.le_of_ble_eq_true rfl⟩) hP hD hS hA hK hN rfl rfl rfl rfl rfl rfl hl.1 (Nat.le_of_ble_eq_true rfl) ⟨Nat.zero_le _, Nat.zero_le _⟩ dX3_putTitle_33 (fun H locs hP hD hS => ?_)
  obtain ⟨g6, eg6⟩ : ∃ z : St, z = st_put g4 3 8 (g4 0 0) a3 := ⟨_, rfl⟩
  have hp := hp g6 eg6
  have hP : va_P (dC, dI) vwCl (wX3 q cI g6) H := by rw [eg6]; exact hP
  have hD : va_D A (wX3 q cI g6) := by rw [eg6]; exact hD
  refine lv_aload_n hx hb dX3_putTitle_36 rfl (lv_at hl 0 rfl) ?_
  refine lv_dup hx hb dX3_putTitle_37 rfl ?_
  refine va_get (D := (dC, dI)) (ci := 3) (v := .int (g6 0 0)) (C := RX3) (T := TX3) (N := 11) hx hb hts iX3_putTitle_X3 hown hK hP 0 rfl rfl 0 (by decide) (hts _ kX3_putTitle_2) (fun _ h9 => h9) rfl dX3_putTitle_38 ?_
  refine lv_iconst (v := 1) hx hb dX3_putTitle_41 (by decide) ?_
  refine lv_iadd hx hb dX3_putTitle_42 ?_
  refine va_put (D := (dC, dI)) (ci := 3) (v := .int ((g6 0 0) + (1 : Int32))) (ty := .int) (C := RX3) (T := TX3) (N := 11) hx hb hts iX3_putTitle_X3 tyX3 tyX3_ok nmX3 hown hK hP hD hS 0 rfl rfl 0 (by decide) (hts _ kX3_putTitle_2) (fun _ h9 => h9) rfl (by decide +kernel) rfl rfl (Nat.le_of_ble_eq_true rfl) dX3_putTitle_43 (fun H locs hP hD hS => ?_)
  obtain ⟨g7, eg7⟩ : ∃ z : St, z = st_set g6 0 0 ((g6 0 0) + (1 : Int32)) := ⟨_, rfl⟩
  have hp := hp g7 eg7
  have hP : va_P (dC, dI) vwCl (wX3 q cI g7) H := by rw [eg7]; exact hP
  have hD : va_D A (wX3 q cI g7) := by rw [eg7]; exact hD
  refine lv_aload_n hx hb dX3_putTitle_46 rfl (lv_at hl 0 rfl) ?_
  refine va_get (D := (dC, dI)) (ci := 3) (v := .int (g7 0 0)) (C := RX3) (T := TX3) (N := 11) hx hb hts iX3_putTitle_X3 hown hK hP 0 rfl rfl 0 (by decide) (hts _ kX3_putTitle_2) (fun _ h9 => h9) rfl dX3_putTitle_47 ?_
  refine lv_iconst (v := 1) hx hb dX3_putTitle_50 (by decide) ?_
  refine lv_isub hx hb dX3_putTitle_51 ?_
  exact W.iret hx hb hr (fun t ht _ => ⟨⟨_, (), rfl, hp.1.symm, by rw [ht, hp.2]; exact hP, by rw [hp.2]; exact hD⟩, hS.F ht⟩) hS.2.2 dX3_putTitle_52
theorem kX3_setFull_0 : (.fieldLink RX3 26 "Meeplehouse$Shelf" "full" "LMeeplehouse$Row;" : Cond) ∈ wsX3_setFull := by decide +kernel
theorem iX3_setFull_X3 : ∀ w ∈ wsX30, w ∈ wsX3_setFull := by decide +kernel
def P_X3_setFull (g : St) (a1 : Int32) (a2 : Int32) (a3 : Int32) (g' : St) : Prop := (∀ g2 : St, g2 = st_put g 4 32 ((a1 * (4 : Int32)) + a2) a3 → (g' = g2))
set_option maxRecDepth 100000 in
set_option maxHeartbeats 4000000 in
theorem c_X3_setFull (l : Launch) (dC : Nat → ClassId) (dI : Nat → Nat → Nat) (cI : ClassId) (q : Nat → Nat) (g : St) (a1 : Int32) (a2 : Int32) (a3 : Int32) (g' : St) (hp : P_X3_setFull g a1 a2 a3 g') (sz : Nat) : Met l yX3_setFull wsX3_setFull { frames := 1, cells := 0, slots := 0, locals := 22 } (va_Pc [.ref (q 0), .int a1, .int a2, .int a3] (wpS (dC, dI) vwCl [(cI, .int)] (wX3 q cI g) sz)) (va_Qv (fun _ : Unit => True) (fun _ t => wqB (dC, dI) vwCl (wX3 q cI g') (va_A (wX3 q cI g) sz) t) (va_A (wX3 q cI g) sz)) 0 0 (va_A (wX3 q cI g) sz) := by
  refine wr_met (fun A => (va_Qv (fun _ : Unit => True) (fun _ t => wqB (dC, dI) vwCl (wX3 q cI g') A t) A)) (cc := cX3_setFull) (maxL := 4) (ret := none) (by decide) rfl (Nat.le_of_ble_eq_true rfl) ?_
  intro p e s m below meth c A hx hb hml hr hlk hts hown hnm hP hK hN hD hA ls hl
  have hS : va_S A s.heap s.heap [] := va_S.rf
  have hl : lv_has ls 4 [(0, .ref (q 0)), (1, .int a1), (2, .int a2), (3, .int a3)] := hl
  unfold P_X3_setFull at hp
  refine lv_aload_n hx hb dX3_setFull_0 rfl (lv_at hl 0 rfl) ?_
  refine va_get (D := (dC, dI)) (ci := 3) (v := .ref (q 7)) (C := RX3) (T := TX3) (N := 11) hx hb hts iX3_setFull_X3 hown hK hP 0 rfl rfl 5 (by decide) (hts _ kX3_setFull_0) (fun _ h9 => h9) rfl dX3_setFull_1 ?_
  refine lv_iload_n hx hb dX3_setFull_4 rfl (lv_at hl 1 rfl) ?_
  refine lv_iconst (v := 4) hx hb dX3_setFull_5 (by decide) ?_
  refine lv_imul hx hb dX3_setFull_6 ?_
  refine lv_iload_n hx hb dX3_setFull_7 rfl (lv_at hl 2 rfl) ?_
  refine lv_iadd hx hb dX3_setFull_8 ?_
  refine lv_iload_n hx hb dX3_setFull_9 rfl (lv_at hl 3 rfl) ?_
  refine wr_Vv (As := [.int ((a1 * (4 : Int32)) + a2), .int a3]) (rest := []) (w1 := (wX3 q cI g).take 7) (w2 := (wX3 q cI g).drop 9) (ws1 := wX3 q cI (st_put g 4 32 ((a1 * (4 : Int32)) + a2) a3)) ⟨hx, hb, hml, hown, hts⟩ (c_X2_put l dC dI cI (q 7) (q 8) 32 (g 4) ((a1 * (4 : Int32)) + a2) a3 _ (by decide)) (cwV 2 hts gX3_setFull_X2_put rfl rfl rfl (by decide +kernel) ⟨Nat.le_of_ble_eq_true rfl, Nat.le_of_ble_eq_true rfl⟩) hP hD hS hA hK hN rfl rfl rfl rfl rfl rfl hl.1 (Nat.le_of_ble_eq_true rfl) ⟨Nat.zero_le _, Nat.zero_le _⟩ dX3_setFull_10 (fun H locs hP hD hS => ?_)
  obtain ⟨g2, eg2⟩ : ∃ z : St, z = st_put g 4 32 ((a1 * (4 : Int32)) + a2) a3 := ⟨_, rfl⟩
  have hp := hp g2 eg2
  have hP : va_P (dC, dI) vwCl (wX3 q cI g2) H := by rw [eg2]; exact hP
  have hD : va_D A (wX3 q cI g2) := by rw [eg2]; exact hD
  exact W.vret hx hb hr (fun t ht _ => ⟨⟨(), rfl, trivial, by rw [ht, hp]; exact hP, by rw [hp]; exact hD⟩, hS.F ht⟩) hS.2.2 dX3_setFull_13
theorem kX3_putCopy_0 : (.fieldLink RX3 51 "Meeplehouse$Shelf" "copies" "I" : Cond) ∈ wsX3_putCopy := by decide +kernel
theorem iX3_putCopy_X3 : ∀ w ∈ wsX30, w ∈ wsX3_putCopy := by decide +kernel
theorem kX3_putCopy_2 : (.fieldLink RX3 29 "Meeplehouse$Shelf" "titleOf" "LMeeplehouse$Row;" : Cond) ∈ wsX3_putCopy := by decide +kernel
theorem kX3_putCopy_3 : (.fieldLink RX3 41 "Meeplehouse$Shelf" "has" "LMeeplehouse$Row;" : Cond) ∈ wsX3_putCopy := by decide +kernel
theorem kX3_putCopy_4 : (.fieldLink RX3 26 "Meeplehouse$Shelf" "full" "LMeeplehouse$Row;" : Cond) ∈ wsX3_putCopy := by decide +kernel
def P_X3_putCopy (g : St) (a1 : Int32) (r : Int32) (g' : St) : Prop := ∀ V26 : St → Int32 → Int32 → Prop, (∀ gv : St, ∀ x2 x3 : Int32, (((4 : Int32) ≤ x3 → (r = x2 ∧ g' = gv)) ∧ (¬ (4 : Int32) ≤ x3 → (∀ g6 : St, g6 = st_put gv 9 64 ((x2 * (4 : Int32)) + x3) (f_at 32 (gv 4) ((a1 * (4 : Int32)) + x3)) → (V26 g6 x2 (x3 + (1 : Int32)))))) → V26 gv x2 x3) → (∀ g1 : St, g1 = st_set g 0 1 ((g 0 1) + (1 : Int32)) → (∀ g3 : St, g3 = st_put g1 5 16 (g 0 1) a1 → (V26 g3 (g 0 1) (0 : Int32))))
set_option maxRecDepth 100000 in
set_option maxHeartbeats 4000000 in
theorem c_X3_putCopy (l : Launch) (dC : Nat → ClassId) (dI : Nat → Nat → Nat) (cI : ClassId) (q : Nat → Nat) (g : St) (a1 : Int32) (r : Int32) (g' : St) (hp : P_X3_putCopy g a1 r g') (sz : Nat) : Met l yX3_putCopy wsX3_putCopy { frames := 1, cells := 0, slots := 0, locals := 22 } (va_Pc [.ref (q 0), .int a1] (wpS (dC, dI) vwCl [(cI, .int)] (wX3 q cI g) sz)) (va_Qi (fun (r' : Int32) (_ : Unit) => r' = r) (fun _ t => wqB (dC, dI) vwCl (wX3 q cI g') (va_A (wX3 q cI g) sz) t) (va_A (wX3 q cI g) sz)) 0 0 (va_A (wX3 q cI g) sz) := by
  refine wr_met (fun A => (va_Qi (fun (r' : Int32) (_ : Unit) => r' = r) (fun _ t => wqB (dC, dI) vwCl (wX3 q cI g') A t) A)) (cc := cX3_putCopy) (maxL := 4) (ret := (some .int)) (by decide) rfl (Nat.le_of_ble_eq_true rfl) ?_
  intro p e s m below meth c A hx hb hml hr hlk hts hown hnm hP hK hN hD hA ls hl
  have hS : va_S A s.heap s.heap [] := va_S.rf
  have hl : lv_has ls 4 [(0, .ref (q 0)), (1, .int a1)] := hl
  obtain ⟨V26, eV26⟩ : ∃ V : St → Int32 → Int32 → Prop, V = (fun gv x2 x3 => ∀ (H : Heap) (locs : List Loc) (ls : Array Slot), va_P (dC, dI) vwCl (wX3 q cI gv) H → va_D A (wX3 q cI gv) → va_S A s.heap H locs → lv_has ls 4 [(0, .ref (q 0)), (1, .int a1), (2, .int x2), (3, .int x3)] → W p l e { frames := 1, cells := 0, slots := 0, locals := 22 } s m ([.ref (q 0), .int a1] : List Value).toArray below meth c H locs 0 0 (MQ below (va_Qi (fun (r' : Int32) (_ : Unit) => r' = r) (fun _ t => wqB (dC, dI) vwCl (wX3 q cI g') A t) A) ([.ref (q 0), .int a1] : List Value).toArray s 0 0 A) (F0 m 26 ls [])) := ⟨_, rfl⟩
  have hp := hp V26
  have hp := hp (by
    intro gv x2 x3 hp
    rw [eV26]
    intro H locs ls hP hD hS hl
    refine lv_iload_n hx hb dX3_putCopy_26 rfl (lv_at hl 3 rfl) ?_
    refine lv_iconst (v := 4) hx hb dX3_putCopy_27 (by decide) ?_
    refine lv_icmp_ge (tgt := 61) hx hb dX3_putCopy_28 (by decide) (fun c7 => ?_) (fun c7 => ?_)
    · have hp := hp.1 c7
      refine lv_iload_n hx hb dX3_putCopy_61 rfl (lv_at hl 2 rfl) ?_
      exact W.iret hx hb hr (fun t ht _ => ⟨⟨_, (), rfl, hp.1.symm, by rw [ht, hp.2]; exact hP, by rw [hp.2]; exact hD⟩, hS.F ht⟩) hS.2.2 dX3_putCopy_62
    · have hp := hp.2 c7
      refine lv_aload_n hx hb dX3_putCopy_31 rfl (lv_at hl 0 rfl) ?_
      refine va_get (D := (dC, dI)) (ci := 3) (v := .ref (q 17)) (C := RX3) (T := TX3) (N := 11) hx hb hts iX3_putCopy_X3 hown hK hP 0 rfl rfl 10 (by decide) (hts _ kX3_putCopy_3) (fun _ h9 => h9) rfl dX3_putCopy_32 ?_
      refine lv_iload_n hx hb dX3_putCopy_35 rfl (lv_at hl 2 rfl) ?_
      refine lv_iconst (v := 4) hx hb dX3_putCopy_36 (by decide) ?_
      refine lv_imul hx hb dX3_putCopy_37 ?_
      refine lv_iload_n hx hb dX3_putCopy_38 rfl (lv_at hl 3 rfl) ?_
      refine lv_iadd hx hb dX3_putCopy_39 ?_
      refine lv_aload_n hx hb dX3_putCopy_40 rfl (lv_at hl 0 rfl) ?_
      refine va_get (D := (dC, dI)) (ci := 3) (v := .ref (q 7)) (C := RX3) (T := TX3) (N := 11) hx hb hts iX3_putCopy_X3 hown hK hP 0 rfl rfl 5 (by decide) (hts _ kX3_putCopy_4) (fun _ h9 => h9) rfl dX3_putCopy_41 ?_
      refine lv_iload_n hx hb dX3_putCopy_44 rfl (lv_at hl 1 rfl) ?_
      refine lv_iconst (v := 4) hx hb dX3_putCopy_45 (by decide) ?_
      refine lv_imul hx hb dX3_putCopy_46 ?_
      refine lv_iload_n hx hb dX3_putCopy_47 rfl (lv_at hl 3 rfl) ?_
      refine lv_iadd hx hb dX3_putCopy_48 ?_
      refine ro_V (As := [.int ((a1 * (4 : Int32)) + x3)]) (rest := [.int ((x2 * (4 : Int32)) + x3), .ref (q 17)]) ⟨hx, hb, hml, hown, hts⟩ (c_X2_at l dC dI cI (q 7) (q 8) 32 (gv 4) ((a1 * (4 : Int32)) + x3) (by decide)) (cwV 1 hts gX3_putCopy_X2_at rfl rfl rfl (by decide +kernel) ⟨Nat.le_of_ble_eq_true rfl, Nat.le_of_ble_eq_true rfl⟩) (hP.sub [7, 8] rfl) hK hN rfl rfl rfl rfl hl.1 (Nat.le_of_ble_eq_true rfl) ⟨Nat.zero_le _, Nat.zero_le _⟩ dX3_putCopy_49 ?_
      refine wr_Vv (As := [.int ((x2 * (4 : Int32)) + x3), .int (f_at 32 (gv 4) ((a1 * (4 : Int32)) + x3))]) (rest := []) (w1 := (wX3 q cI gv).take 17) (w2 := (wX3 q cI gv).drop 19) (ws1 := wX3 q cI (st_put gv 9 64 ((x2 * (4 : Int32)) + x3) (f_at 32 (gv 4) ((a1 * (4 : Int32)) + x3)))) ⟨hx, hb, hml, hown, hts⟩ (c_X2_put l dC dI cI (q 17) (q 18) 64 (gv 9) ((x2 * (4 : Int32)) + x3) (f_at 32 (gv 4) ((a1 * (4 : Int32)) + x3)) _ (by decide)) (cwV 2 hts gX3_putCopy_X2_put rfl rfl rfl (by decide +kernel) ⟨Nat.le_of_ble_eq_true rfl, Nat.le_of_ble_eq_true rfl⟩) hP hD hS hA hK hN rfl rfl rfl rfl rfl rfl hl.1 (Nat.le_of_ble_eq_true rfl) ⟨Nat.zero_le _, Nat.zero_le _⟩ dX3_putCopy_52 (fun H locs hP hD hS => ?_)
      obtain ⟨g6, eg6⟩ : ∃ z : St, z = st_put gv 9 64 ((x2 * (4 : Int32)) + x3) (f_at 32 (gv 4) ((a1 * (4 : Int32)) + x3)) := ⟨_, rfl⟩
      have hp := hp g6 eg6
      have hP : va_P (dC, dI) vwCl (wX3 q cI g6) H := by rw [eg6]; exact hP
      have hD : va_D A (wX3 q cI g6) := by rw [eg6]; exact hD
      refine lv_iinc (v := x3 + (1 : Int32)) (lv' := [(3, .int (x3 + (1 : Int32))), (0, .ref (q 0)), (1, .int a1), (2, .int x2)]) hx hb dX3_putCopy_55 hl (k := 3) rfl rfl (by decide) rfl (fun ls hl => ?_)
      refine lv_goto (tgt := 26) hx hb dX3_putCopy_58 (by decide) ?_
      rw [eV26] at hp
      exact hp _ _ _ hP hD hS (lv_sub hl [1, 2, 3, 0] rfl))
  refine lv_aload_n hx hb dX3_putCopy_0 rfl (lv_at hl 0 rfl) ?_
  refine va_get (D := (dC, dI)) (ci := 3) (v := .int (g 0 1)) (C := RX3) (T := TX3) (N := 11) hx hb hts iX3_putCopy_X3 hown hK hP 0 rfl rfl 1 (by decide) (hts _ kX3_putCopy_0) (fun _ h9 => h9) rfl dX3_putCopy_1 ?_
  refine lv_istore_n (lv' := [(2, .int (g 0 1)), (0, .ref (q 0)), (1, .int a1)]) hx hb dX3_putCopy_4 rfl hl (by decide) rfl (fun ls hl => ?_)
  refine lv_aload_n hx hb dX3_putCopy_5 rfl (lv_at hl 1 rfl) ?_
  refine lv_dup hx hb dX3_putCopy_6 rfl ?_
  refine va_get (D := (dC, dI)) (ci := 3) (v := .int (g 0 1)) (C := RX3) (T := TX3) (N := 11) hx hb hts iX3_putCopy_X3 hown hK hP 0 rfl rfl 1 (by decide) (hts _ kX3_putCopy_0) (fun _ h9 => h9) rfl dX3_putCopy_7 ?_
  refine lv_iconst (v := 1) hx hb dX3_putCopy_10 (by decide) ?_
  refine lv_iadd hx hb dX3_putCopy_11 ?_
  refine va_put (D := (dC, dI)) (ci := 3) (v := .int ((g 0 1) + (1 : Int32))) (ty := .int) (C := RX3) (T := TX3) (N := 11) hx hb hts iX3_putCopy_X3 tyX3 tyX3_ok nmX3 hown hK hP hD hS 0 rfl rfl 1 (by decide) (hts _ kX3_putCopy_0) (fun _ h9 => h9) rfl (by decide +kernel) rfl rfl (Nat.le_of_ble_eq_true rfl) dX3_putCopy_12 (fun H locs hP hD hS => ?_)
  obtain ⟨g1, eg1⟩ : ∃ z : St, z = st_set g 0 1 ((g 0 1) + (1 : Int32)) := ⟨_, rfl⟩
  have hp := hp g1 eg1
  have hP : va_P (dC, dI) vwCl (wX3 q cI g1) H := by rw [eg1]; exact hP
  have hD : va_D A (wX3 q cI g1) := by rw [eg1]; exact hD
  refine lv_aload_n hx hb dX3_putCopy_15 rfl (lv_at hl 1 rfl) ?_
  refine va_get (D := (dC, dI)) (ci := 3) (v := .ref (q 9)) (C := RX3) (T := TX3) (N := 11) hx hb hts iX3_putCopy_X3 hown hK hP 0 rfl rfl 6 (by decide) (hts _ kX3_putCopy_2) (fun _ h9 => h9) rfl dX3_putCopy_16 ?_
  refine lv_iload_n hx hb dX3_putCopy_19 rfl (lv_at hl 0 rfl) ?_
  refine lv_iload_n hx hb dX3_putCopy_20 rfl (lv_at hl 2 rfl) ?_
  refine wr_Vv (As := [.int (g 0 1), .int a1]) (rest := []) (w1 := (wX3 q cI g1).take 9) (w2 := (wX3 q cI g1).drop 11) (ws1 := wX3 q cI (st_put g1 5 16 (g 0 1) a1)) ⟨hx, hb, hml, hown, hts⟩ (c_X2_put l dC dI cI (q 9) (q 10) 16 (g1 5) (g 0 1) a1 _ (by decide)) (cwV 2 hts gX3_putCopy_X2_put rfl rfl rfl (by decide +kernel) ⟨Nat.le_of_ble_eq_true rfl, Nat.le_of_ble_eq_true rfl⟩) hP hD hS hA hK hN rfl rfl rfl rfl rfl rfl hl.1 (Nat.le_of_ble_eq_true rfl) ⟨Nat.zero_le _, Nat.zero_le _⟩ dX3_putCopy_21 (fun H locs hP hD hS => ?_)
  obtain ⟨g3, eg3⟩ : ∃ z : St, z = st_put g1 5 16 (g 0 1) a1 := ⟨_, rfl⟩
  have hp := hp g3 eg3
  have hP : va_P (dC, dI) vwCl (wX3 q cI g3) H := by rw [eg3]; exact hP
  have hD : va_D A (wX3 q cI g3) := by rw [eg3]; exact hD
  refine lv_iconst (v := 0) hx hb dX3_putCopy_24 (by decide) ?_
  refine lv_istore_n (lv' := [(3, .int (0 : Int32)), (2, .int (g 0 1)), (0, .ref (q 0)), (1, .int a1)]) hx hb dX3_putCopy_25 rfl hl (by decide) rfl (fun ls hl => ?_)
  rw [eV26] at hp
  exact hp _ _ _ hP hD hS (lv_sub hl [2, 3, 1, 0] rfl)
theorem kX3_heldBy_0 : (.fieldLink RX3 51 "Meeplehouse$Shelf" "copies" "I" : Cond) ∈ wsX3_heldBy := by decide +kernel
theorem iX3_heldBy_X3 : ∀ w ∈ wsX30, w ∈ wsX3_heldBy := by decide +kernel
theorem kX3_heldBy_2 : (.fieldLink RX3 32 "Meeplehouse$Shelf" "holder" "LMeeplehouse$Row;" : Cond) ∈ wsX3_heldBy := by decide +kernel
def P_X3_heldBy (g : St) (a1 : Int32) (r : Int32) : Prop := ∀ V2 : Int32 → Prop, (∀ x2 : Int32, (((g 0 1) ≤ x2 → (r = (-1 : Int32))) ∧ (¬ (g 0 1) ≤ x2 → ((¬ (f_at 16 (g 6) x2) = a1 → (V2 (x2 + (1 : Int32)))) ∧ ((f_at 16 (g 6) x2) = a1 → (r = x2))))) → V2 x2) → (V2 (0 : Int32))
set_option maxRecDepth 100000 in
set_option maxHeartbeats 4000000 in
theorem c_X3_heldBy (l : Launch) (dC : Nat → ClassId) (dI : Nat → Nat → Nat) (cI : ClassId) (q : Nat → Nat) (g : St) (a1 : Int32) (r : Int32) (hp : P_X3_heldBy g a1 r) : Met l yX3_heldBy wsX3_heldBy { frames := 1, cells := 0, slots := 0, locals := 21 } (va_Pc [.ref (q 0), .int a1] (rpS (dC, dI) vwCl [(cI, .int)] (wX3 q cI g))) (QcRead r) 0 0 (fun _ => False) := by
  refine ro_met (cc := cX3_heldBy) (maxL := 3) (ret := (some .int)) (by decide) rfl (Nat.le_of_ble_eq_true rfl) ?_
  intro p e s m below meth c hx hb hml hr hlk hts hown hP hK hN ls hl
  have hl : lv_has ls 3 [(0, .ref (q 0)), (1, .int a1)] := hl
  obtain ⟨V2, eV2⟩ : ∃ V : Int32 → Prop, V = (fun x2 => ∀ ls : Array Slot, lv_has ls 3 [(0, .ref (q 0)), (1, .int a1), (2, .int x2)] → W p l e { frames := 1, cells := 0, slots := 0, locals := 21 } s m ([.ref (q 0), .int a1] : List Value).toArray below meth c s.heap [] 0 0 (MQ below (QcRead r) ([.ref (q 0), .int a1] : List Value).toArray s 0 0 (fun _ => False)) (F0 m 2 ls [])) := ⟨_, rfl⟩
  have hp := hp V2
  have hp := hp (by
    intro x2 hp
    rw [eV2]
    intro ls hl
    refine lv_iload_n hx hb dX3_heldBy_2 rfl (lv_at hl 2 rfl) ?_
    refine lv_aload_n hx hb dX3_heldBy_3 rfl (lv_at hl 0 rfl) ?_
    refine va_get (D := (dC, dI)) (ci := 3) (v := .int (g 0 1)) (C := RX3) (T := TX3) (N := 11) hx hb hts iX3_heldBy_X3 hown hK hP 0 rfl rfl 1 (by decide) (hts _ kX3_heldBy_0) (fun _ h9 => h9) rfl dX3_heldBy_4 ?_
    refine lv_icmp_ge (tgt := 30) hx hb dX3_heldBy_7 (by decide) (fun c3 => ?_) (fun c3 => ?_)
    · have hp := hp.1 c3
      refine lv_iconst (v := -1) hx hb dX3_heldBy_30 (by decide) ?_
      exact W.iret hx hb hr (fun t ht _ => ⟨by rw [hp], ht⟩) (fun _ h => nomatch h) dX3_heldBy_31
    · have hp := hp.2 c3
      refine lv_aload_n hx hb dX3_heldBy_10 rfl (lv_at hl 0 rfl) ?_
      refine va_get (D := (dC, dI)) (ci := 3) (v := .ref (q 11)) (C := RX3) (T := TX3) (N := 11) hx hb hts iX3_heldBy_X3 hown hK hP 0 rfl rfl 7 (by decide) (hts _ kX3_heldBy_2) (fun _ h9 => h9) rfl dX3_heldBy_11 ?_
      refine lv_iload_n hx hb dX3_heldBy_14 rfl (lv_at hl 2 rfl) ?_
      refine ro_V (As := [.int x2]) (rest := []) ⟨hx, hb, hml, hown, hts⟩ (c_X2_at l dC dI cI (q 11) (q 12) 16 (g 6) x2 (by decide)) (cwV 1 hts gX3_heldBy_X2_at rfl rfl rfl (by decide +kernel) ⟨Nat.le_of_ble_eq_true rfl, Nat.le_of_ble_eq_true rfl⟩) (hP.sub [11, 12] rfl) hK hN rfl rfl rfl rfl hl.1 (Nat.le_of_ble_eq_true rfl) ⟨Nat.zero_le _, Nat.zero_le _⟩ dX3_heldBy_15 ?_
      refine lv_iload_n hx hb dX3_heldBy_18 rfl (lv_at hl 1 rfl) ?_
      refine lv_icmp_ne (tgt := 24) hx hb dX3_heldBy_19 (by decide) (fun c2 => ?_) (fun c2 => ?_)
      · have hp := hp.1 c2
        refine lv_iinc (v := x2 + (1 : Int32)) (lv' := [(2, .int (x2 + (1 : Int32))), (0, .ref (q 0)), (1, .int a1)]) hx hb dX3_heldBy_24 hl (k := 2) rfl rfl (by decide) rfl (fun ls hl => ?_)
        refine lv_goto (tgt := 2) hx hb dX3_heldBy_27 (by decide) ?_
        rw [eV2] at hp
        exact hp _ (lv_sub hl [1, 2, 0] rfl)
      · have hp := hp.2 c2
        refine lv_iload_n hx hb dX3_heldBy_22 rfl (lv_at hl 2 rfl) ?_
        exact W.iret hx hb hr (fun t ht _ => ⟨by rw [hp], ht⟩) (fun _ h => nomatch h) dX3_heldBy_23)
  refine lv_iconst (v := 0) hx hb dX3_heldBy_0 (by decide) ?_
  refine lv_istore_n (lv' := [(2, .int (0 : Int32)), (0, .ref (q 0)), (1, .int a1)]) hx hb dX3_heldBy_1 rfl hl (by decide) rfl (fun ls hl => ?_)
  rw [eV2] at hp
  exact hp _ (lv_sub hl [1, 2, 0] rfl)
theorem kX3_place_0 : (.fieldLink RX3 32 "Meeplehouse$Shelf" "holder" "LMeeplehouse$Row;" : Cond) ∈ wsX3_place := by decide +kernel
theorem iX3_place_X3 : ∀ w ∈ wsX30, w ∈ wsX3_place := by decide +kernel
theorem kX3_place_2 : (.fieldLink RX3 35 "Meeplehouse$Shelf" "borrower" "LMeeplehouse$Row;" : Cond) ∈ wsX3_place := by decide +kernel
def P_X3_place (g : St) (a1 : Int32) (r : Int32) : Prop := (((f_at 16 (g 6) a1) = (-1 : Int32) → (((f_at 16 (g 7) a1) = (-1 : Int32) → (r = (0 : Int32))) ∧ (¬ (f_at 16 (g 7) a1) = (-1 : Int32) → (r = (2 : Int32))))) ∧ (¬ (f_at 16 (g 6) a1) = (-1 : Int32) → (r = (1 : Int32))))
set_option maxRecDepth 100000 in
set_option maxHeartbeats 4000000 in
theorem c_X3_place (l : Launch) (dC : Nat → ClassId) (dI : Nat → Nat → Nat) (cI : ClassId) (q : Nat → Nat) (g : St) (a1 : Int32) (r : Int32) (hp : P_X3_place g a1 r) : Met l yX3_place wsX3_place { frames := 1, cells := 0, slots := 0, locals := 21 } (va_Pc [.ref (q 0), .int a1] (rpS (dC, dI) vwCl [(cI, .int)] (wX3 q cI g))) (QcRead r) 0 0 (fun _ => False) := by
  refine ro_met (cc := cX3_place) (maxL := 2) (ret := (some .int)) (by decide) rfl (Nat.le_of_ble_eq_true rfl) ?_
  intro p e s m below meth c hx hb hml hr hlk hts hown hP hK hN ls hl
  have hl : lv_has ls 2 [(0, .ref (q 0)), (1, .int a1)] := hl
  unfold P_X3_place at hp
  refine lv_aload_n hx hb dX3_place_0 rfl (lv_at hl 0 rfl) ?_
  refine va_get (D := (dC, dI)) (ci := 3) (v := .ref (q 11)) (C := RX3) (T := TX3) (N := 11) hx hb hts iX3_place_X3 hown hK hP 0 rfl rfl 7 (by decide) (hts _ kX3_place_0) (fun _ h9 => h9) rfl dX3_place_1 ?_
  refine lv_iload_n hx hb dX3_place_4 rfl (lv_at hl 1 rfl) ?_
  refine ro_V (As := [.int a1]) (rest := []) ⟨hx, hb, hml, hown, hts⟩ (c_X2_at l dC dI cI (q 11) (q 12) 16 (g 6) a1 (by decide)) (cwV 1 hts gX3_place_X2_at rfl rfl rfl (by decide +kernel) ⟨Nat.le_of_ble_eq_true rfl, Nat.le_of_ble_eq_true rfl⟩) (hP.sub [11, 12] rfl) hK hN rfl rfl rfl rfl hl.1 (Nat.le_of_ble_eq_true rfl) ⟨Nat.zero_le _, Nat.zero_le _⟩ dX3_place_5 ?_
  refine lv_iconst (v := -1) hx hb dX3_place_8 (by decide) ?_
  refine lv_icmp_eq (tgt := 14) hx hb dX3_place_9 (by decide) (fun c4 => ?_) (fun c4 => ?_)
  · have hp := hp.1 c4
    refine lv_aload_n hx hb dX3_place_14 rfl (lv_at hl 0 rfl) ?_
    refine va_get (D := (dC, dI)) (ci := 3) (v := .ref (q 13)) (C := RX3) (T := TX3) (N := 11) hx hb hts iX3_place_X3 hown hK hP 0 rfl rfl 8 (by decide) (hts _ kX3_place_2) (fun _ h9 => h9) rfl dX3_place_15 ?_
    refine lv_iload_n hx hb dX3_place_18 rfl (lv_at hl 1 rfl) ?_
    refine ro_V (As := [.int a1]) (rest := []) ⟨hx, hb, hml, hown, hts⟩ (c_X2_at l dC dI cI (q 13) (q 14) 16 (g 7) a1 (by decide)) (cwV 1 hts gX3_place_X2_at rfl rfl rfl (by decide +kernel) ⟨Nat.le_of_ble_eq_true rfl, Nat.le_of_ble_eq_true rfl⟩) (hP.sub [13, 14] rfl) hK hN rfl rfl rfl rfl hl.1 (Nat.le_of_ble_eq_true rfl) ⟨Nat.zero_le _, Nat.zero_le _⟩ dX3_place_19 ?_
    refine lv_iconst (v := -1) hx hb dX3_place_22 (by decide) ?_
    refine lv_icmp_eq (tgt := 30) hx hb dX3_place_23 (by decide) (fun c3 => ?_) (fun c3 => ?_)
    · have hp := hp.1 c3
      refine lv_iconst (v := 0) hx hb dX3_place_30 (by decide) ?_
      exact W.iret hx hb hr (fun t ht _ => ⟨by rw [hp], ht⟩) (fun _ h => nomatch h) dX3_place_31
    · have hp := hp.2 c3
      refine lv_iconst (v := 2) hx hb dX3_place_26 (by decide) ?_
      refine lv_goto (tgt := 31) hx hb dX3_place_27 (by decide) ?_
      exact W.iret hx hb hr (fun t ht _ => ⟨by rw [hp], ht⟩) (fun _ h => nomatch h) dX3_place_31
  · have hp := hp.2 c4
    refine lv_iconst (v := 1) hx hb dX3_place_12 (by decide) ?_
    exact W.iret hx hb hr (fun t ht _ => ⟨by rw [hp], ht⟩) (fun _ h => nomatch h) dX3_place_13
theorem kX3_count_0 : (.fieldLink RX3 41 "Meeplehouse$Shelf" "has" "LMeeplehouse$Row;" : Cond) ∈ wsX3_count := by decide +kernel
theorem iX3_count_X3 : ∀ w ∈ wsX30, w ∈ wsX3_count := by decide +kernel
def P_X3_count (g : St) (a1 : Int32) (a2 : Int32) (r : Int32) : Prop := (r = (f_at 64 (g 9) ((a1 * (4 : Int32)) + a2)))
set_option maxRecDepth 100000 in
set_option maxHeartbeats 4000000 in
theorem c_X3_count (l : Launch) (dC : Nat → ClassId) (dI : Nat → Nat → Nat) (cI : ClassId) (q : Nat → Nat) (g : St) (a1 : Int32) (a2 : Int32) (r : Int32) (hp : P_X3_count g a1 a2 r) : Met l yX3_count wsX3_count { frames := 1, cells := 0, slots := 0, locals := 21 } (va_Pc [.ref (q 0), .int a1, .int a2] (rpS (dC, dI) vwCl [(cI, .int)] (wX3 q cI g))) (QcRead r) 0 0 (fun _ => False) := by
  refine ro_met (cc := cX3_count) (maxL := 3) (ret := (some .int)) (by decide) rfl (Nat.le_of_ble_eq_true rfl) ?_
  intro p e s m below meth c hx hb hml hr hlk hts hown hP hK hN ls hl
  have hl : lv_has ls 3 [(0, .ref (q 0)), (1, .int a1), (2, .int a2)] := hl
  unfold P_X3_count at hp
  refine lv_aload_n hx hb dX3_count_0 rfl (lv_at hl 0 rfl) ?_
  refine va_get (D := (dC, dI)) (ci := 3) (v := .ref (q 17)) (C := RX3) (T := TX3) (N := 11) hx hb hts iX3_count_X3 hown hK hP 0 rfl rfl 10 (by decide) (hts _ kX3_count_0) (fun _ h9 => h9) rfl dX3_count_1 ?_
  refine lv_iload_n hx hb dX3_count_4 rfl (lv_at hl 1 rfl) ?_
  refine lv_iconst (v := 4) hx hb dX3_count_5 (by decide) ?_
  refine lv_imul hx hb dX3_count_6 ?_
  refine lv_iload_n hx hb dX3_count_7 rfl (lv_at hl 2 rfl) ?_
  refine lv_iadd hx hb dX3_count_8 ?_
  refine ro_V (As := [.int ((a1 * (4 : Int32)) + a2)]) (rest := []) ⟨hx, hb, hml, hown, hts⟩ (c_X2_at l dC dI cI (q 17) (q 18) 64 (g 9) ((a1 * (4 : Int32)) + a2) (by decide)) (cwV 1 hts gX3_count_X2_at rfl rfl rfl (by decide +kernel) ⟨Nat.le_of_ble_eq_true rfl, Nat.le_of_ble_eq_true rfl⟩) (hP.sub [17, 18] rfl) hK hN rfl rfl rfl rfl hl.1 (Nat.le_of_ble_eq_true rfl) ⟨Nat.zero_le _, Nat.zero_le _⟩ dX3_count_9 ?_
  exact W.iret hx hb hr (fun t ht _ => ⟨by rw [hp], ht⟩) (fun _ h => nomatch h) dX3_count_12
theorem kX3_lack_0 : (.fieldLink RX3 26 "Meeplehouse$Shelf" "full" "LMeeplehouse$Row;" : Cond) ∈ wsX3_lack := by decide +kernel
theorem iX3_lack_X3 : ∀ w ∈ wsX30, w ∈ wsX3_lack := by decide +kernel
theorem kX3_lack_2 : (.fieldLink RX3 29 "Meeplehouse$Shelf" "titleOf" "LMeeplehouse$Row;" : Cond) ∈ wsX3_lack := by decide +kernel
theorem kX3_lack_3 : (.fieldLink RX3 41 "Meeplehouse$Shelf" "has" "LMeeplehouse$Row;" : Cond) ∈ wsX3_lack := by decide +kernel
def P_X3_lack (g : St) (a1 : Int32) (a2 : Int32) (r : Int32) : Prop := (r = ((f_at 32 (g 4) (((f_at 16 (g 5) a1) * (4 : Int32)) + a2)) - (f_at 64 (g 9) ((a1 * (4 : Int32)) + a2))))
set_option maxRecDepth 100000 in
set_option maxHeartbeats 4000000 in
theorem c_X3_lack (l : Launch) (dC : Nat → ClassId) (dI : Nat → Nat → Nat) (cI : ClassId) (q : Nat → Nat) (g : St) (a1 : Int32) (a2 : Int32) (r : Int32) (hp : P_X3_lack g a1 a2 r) : Met l yX3_lack wsX3_lack { frames := 1, cells := 0, slots := 0, locals := 21 } (va_Pc [.ref (q 0), .int a1, .int a2] (rpS (dC, dI) vwCl [(cI, .int)] (wX3 q cI g))) (QcRead r) 0 0 (fun _ => False) := by
  refine ro_met (cc := cX3_lack) (maxL := 3) (ret := (some .int)) (by decide) rfl (Nat.le_of_ble_eq_true rfl) ?_
  intro p e s m below meth c hx hb hml hr hlk hts hown hP hK hN ls hl
  have hl : lv_has ls 3 [(0, .ref (q 0)), (1, .int a1), (2, .int a2)] := hl
  unfold P_X3_lack at hp
  refine lv_aload_n hx hb dX3_lack_0 rfl (lv_at hl 0 rfl) ?_
  refine va_get (D := (dC, dI)) (ci := 3) (v := .ref (q 7)) (C := RX3) (T := TX3) (N := 11) hx hb hts iX3_lack_X3 hown hK hP 0 rfl rfl 5 (by decide) (hts _ kX3_lack_0) (fun _ h9 => h9) rfl dX3_lack_1 ?_
  refine lv_aload_n hx hb dX3_lack_4 rfl (lv_at hl 0 rfl) ?_
  refine va_get (D := (dC, dI)) (ci := 3) (v := .ref (q 9)) (C := RX3) (T := TX3) (N := 11) hx hb hts iX3_lack_X3 hown hK hP 0 rfl rfl 6 (by decide) (hts _ kX3_lack_2) (fun _ h9 => h9) rfl dX3_lack_5 ?_
  refine lv_iload_n hx hb dX3_lack_8 rfl (lv_at hl 1 rfl) ?_
  refine ro_V (As := [.int a1]) (rest := [.ref (q 7)]) ⟨hx, hb, hml, hown, hts⟩ (c_X2_at l dC dI cI (q 9) (q 10) 16 (g 5) a1 (by decide)) (cwV 1 hts gX3_lack_X2_at rfl rfl rfl (by decide +kernel) ⟨Nat.le_of_ble_eq_true rfl, Nat.le_of_ble_eq_true rfl⟩) (hP.sub [9, 10] rfl) hK hN rfl rfl rfl rfl hl.1 (Nat.le_of_ble_eq_true rfl) ⟨Nat.zero_le _, Nat.zero_le _⟩ dX3_lack_9 ?_
  refine lv_iconst (v := 4) hx hb dX3_lack_12 (by decide) ?_
  refine lv_imul hx hb dX3_lack_13 ?_
  refine lv_iload_n hx hb dX3_lack_14 rfl (lv_at hl 2 rfl) ?_
  refine lv_iadd hx hb dX3_lack_15 ?_
  refine ro_V (As := [.int (((f_at 16 (g 5) a1) * (4 : Int32)) + a2)]) (rest := []) ⟨hx, hb, hml, hown, hts⟩ (c_X2_at l dC dI cI (q 7) (q 8) 32 (g 4) (((f_at 16 (g 5) a1) * (4 : Int32)) + a2) (by decide)) (cwV 1 hts gX3_lack_X2_at rfl rfl rfl (by decide +kernel) ⟨Nat.le_of_ble_eq_true rfl, Nat.le_of_ble_eq_true rfl⟩) (hP.sub [7, 8] rfl) hK hN rfl rfl rfl rfl hl.1 (Nat.le_of_ble_eq_true rfl) ⟨Nat.zero_le _, Nat.zero_le _⟩ dX3_lack_16 ?_
  refine lv_aload_n hx hb dX3_lack_19 rfl (lv_at hl 0 rfl) ?_
  refine va_get (D := (dC, dI)) (ci := 3) (v := .ref (q 17)) (C := RX3) (T := TX3) (N := 11) hx hb hts iX3_lack_X3 hown hK hP 0 rfl rfl 10 (by decide) (hts _ kX3_lack_3) (fun _ h9 => h9) rfl dX3_lack_20 ?_
  refine lv_iload_n hx hb dX3_lack_23 rfl (lv_at hl 1 rfl) ?_
  refine lv_iconst (v := 4) hx hb dX3_lack_24 (by decide) ?_
  refine lv_imul hx hb dX3_lack_25 ?_
  refine lv_iload_n hx hb dX3_lack_26 rfl (lv_at hl 2 rfl) ?_
  refine lv_iadd hx hb dX3_lack_27 ?_
  refine ro_V (As := [.int ((a1 * (4 : Int32)) + a2)]) (rest := [.int (f_at 32 (g 4) (((f_at 16 (g 5) a1) * (4 : Int32)) + a2))]) ⟨hx, hb, hml, hown, hts⟩ (c_X2_at l dC dI cI (q 17) (q 18) 64 (g 9) ((a1 * (4 : Int32)) + a2) (by decide)) (cwV 1 hts gX3_lack_X2_at rfl rfl rfl (by decide +kernel) ⟨Nat.le_of_ble_eq_true rfl, Nat.le_of_ble_eq_true rfl⟩) (hP.sub [17, 18] rfl) hK hN rfl rfl rfl rfl hl.1 (Nat.le_of_ble_eq_true rfl) ⟨Nat.zero_le _, Nat.zero_le _⟩ dX3_lack_28 ?_
  refine lv_isub hx hb dX3_lack_31 ?_
  exact W.iret hx hb hr (fun t ht _ => ⟨by rw [hp], ht⟩) (fun _ h => nomatch h) dX3_lack_32
theorem kX3_change_0 : (.fieldLink RX3 41 "Meeplehouse$Shelf" "has" "LMeeplehouse$Row;" : Cond) ∈ wsX3_change := by decide +kernel
theorem iX3_change_X3 : ∀ w ∈ wsX30, w ∈ wsX3_change := by decide +kernel
def P_X3_change (g : St) (a1 : Int32) (a2 : Int32) (a3 : Int32) (g' : St) : Prop := (∃ r1 : Int32, P_X3_count g a1 a2 r1 ∧ (∀ g3 : St, g3 = st_put g 9 64 ((a1 * (4 : Int32)) + a2) (r1 + a3) → (g' = g3)))
set_option maxRecDepth 100000 in
set_option maxHeartbeats 4000000 in
theorem c_X3_change (l : Launch) (dC : Nat → ClassId) (dI : Nat → Nat → Nat) (cI : ClassId) (q : Nat → Nat) (g : St) (a1 : Int32) (a2 : Int32) (a3 : Int32) (g' : St) (hp : P_X3_change g a1 a2 a3 g') (sz : Nat) : Met l yX3_change wsX3_change { frames := 2, cells := 0, slots := 0, locals := 43 } (va_Pc [.ref (q 0), .int a1, .int a2, .int a3] (wpS (dC, dI) vwCl [(cI, .int)] (wX3 q cI g) sz)) (va_Qv (fun _ : Unit => True) (fun _ t => wqB (dC, dI) vwCl (wX3 q cI g') (va_A (wX3 q cI g) sz) t) (va_A (wX3 q cI g) sz)) 0 0 (va_A (wX3 q cI g) sz) := by
  refine wr_met (fun A => (va_Qv (fun _ : Unit => True) (fun _ t => wqB (dC, dI) vwCl (wX3 q cI g') A t) A)) (cc := cX3_change) (maxL := 4) (ret := none) (by decide) rfl (Nat.le_of_ble_eq_true rfl) ?_
  intro p e s m below meth c A hx hb hml hr hlk hts hown hnm hP hK hN hD hA ls hl
  have hS : va_S A s.heap s.heap [] := va_S.rf
  have hl : lv_has ls 4 [(0, .ref (q 0)), (1, .int a1), (2, .int a2), (3, .int a3)] := hl
  unfold P_X3_change at hp
  refine lv_aload_n hx hb dX3_change_0 rfl (lv_at hl 0 rfl) ?_
  refine va_get (D := (dC, dI)) (ci := 3) (v := .ref (q 17)) (C := RX3) (T := TX3) (N := 11) hx hb hts iX3_change_X3 hown hK hP 0 rfl rfl 10 (by decide) (hts _ kX3_change_0) (fun _ h9 => h9) rfl dX3_change_1 ?_
  refine lv_iload_n hx hb dX3_change_4 rfl (lv_at hl 1 rfl) ?_
  refine lv_iconst (v := 4) hx hb dX3_change_5 (by decide) ?_
  refine lv_imul hx hb dX3_change_6 ?_
  refine lv_iload_n hx hb dX3_change_7 rfl (lv_at hl 2 rfl) ?_
  refine lv_iadd hx hb dX3_change_8 ?_
  refine lv_aload_n hx hb dX3_change_9 rfl (lv_at hl 0 rfl) ?_
  refine lv_iload_n hx hb dX3_change_10 rfl (lv_at hl 1 rfl) ?_
  refine lv_iload_n hx hb dX3_change_11 rfl (lv_at hl 2 rfl) ?_
  obtain ⟨r1, hr1, hp⟩ := hp
  refine ro_V (As := [.int a1, .int a2]) (rest := [.int ((a1 * (4 : Int32)) + a2), .ref (q 17)]) ⟨hx, hb, hml, hown, hts⟩ (c_X3_count l dC dI cI q g a1 a2 r1 hr1) (cwV 2 hts gX3_change_X3_count rfl rfl rfl (by decide +kernel) ⟨Nat.le_of_ble_eq_true rfl, Nat.le_of_ble_eq_true rfl⟩) hP hK hN rfl rfl rfl rfl hl.1 (Nat.le_of_ble_eq_true rfl) ⟨Nat.zero_le _, Nat.zero_le _⟩ dX3_change_12 ?_
  refine lv_iload_n hx hb dX3_change_15 rfl (lv_at hl 3 rfl) ?_
  refine lv_iadd hx hb dX3_change_16 ?_
  refine wr_Vv (As := [.int ((a1 * (4 : Int32)) + a2), .int (r1 + a3)]) (rest := []) (w1 := (wX3 q cI g).take 17) (w2 := (wX3 q cI g).drop 19) (ws1 := wX3 q cI (st_put g 9 64 ((a1 * (4 : Int32)) + a2) (r1 + a3))) ⟨hx, hb, hml, hown, hts⟩ (c_X2_put l dC dI cI (q 17) (q 18) 64 (g 9) ((a1 * (4 : Int32)) + a2) (r1 + a3) _ (by decide)) (cwV 2 hts gX3_change_X2_put rfl rfl rfl (by decide +kernel) ⟨Nat.le_of_ble_eq_true rfl, Nat.le_of_ble_eq_true rfl⟩) hP hD hS hA hK hN rfl rfl rfl rfl rfl rfl hl.1 (Nat.le_of_ble_eq_true rfl) ⟨Nat.zero_le _, Nat.zero_le _⟩ dX3_change_17 (fun H locs hP hD hS => ?_)
  obtain ⟨g3, eg3⟩ : ∃ z : St, z = st_put g 9 64 ((a1 * (4 : Int32)) + a2) (r1 + a3) := ⟨_, rfl⟩
  have hp := hp g3 eg3
  have hP : va_P (dC, dI) vwCl (wX3 q cI g3) H := by rw [eg3]; exact hP
  have hD : va_D A (wX3 q cI g3) := by rw [eg3]; exact hD
  exact W.vret hx hb hr (fun t ht _ => ⟨⟨(), rfl, trivial, by rw [ht, hp]; exact hP, by rw [hp]; exact hD⟩, hS.F ht⟩) hS.2.2 dX3_change_20
theorem kX3_suits_0 : (.fieldLink RX3 14 "Meeplehouse$Shelf" "least" "LMeeplehouse$Row;" : Cond) ∈ wsX3_suits := by decide +kernel
theorem iX3_suits_X3 : ∀ w ∈ wsX30, w ∈ wsX3_suits := by decide +kernel
theorem kX3_suits_2 : (.fieldLink RX3 20 "Meeplehouse$Shelf" "most" "LMeeplehouse$Row;" : Cond) ∈ wsX3_suits := by decide +kernel
theorem kX3_suits_3 : (.fieldLink RX3 23 "Meeplehouse$Shelf" "minutes" "LMeeplehouse$Row;" : Cond) ∈ wsX3_suits := by decide +kernel
def P_X3_suits (g : St) (a1 : Int32) (a2 : Int32) (a3 : Int32) (r : Int32) : Prop := ((a2 < (f_at 8 (g 1) a1) → (r = (0 : Int32))) ∧ (¬ a2 < (f_at 8 (g 1) a1) → (((f_at 8 (g 2) a1) < a2 → (r = (0 : Int32))) ∧ (¬ (f_at 8 (g 2) a1) < a2 → ((a3 < (f_at 8 (g 3) a1) → (r = (0 : Int32))) ∧ (¬ a3 < (f_at 8 (g 3) a1) → (r = (1 : Int32))))))))
set_option maxRecDepth 100000 in
set_option maxHeartbeats 4000000 in
theorem c_X3_suits (l : Launch) (dC : Nat → ClassId) (dI : Nat → Nat → Nat) (cI : ClassId) (q : Nat → Nat) (g : St) (a1 : Int32) (a2 : Int32) (a3 : Int32) (r : Int32) (hp : P_X3_suits g a1 a2 a3 r) : Met l yX3_suits wsX3_suits { frames := 1, cells := 0, slots := 0, locals := 21 } (va_Pc [.ref (q 0), .int a1, .int a2, .int a3] (rpS (dC, dI) vwCl [(cI, .int)] (wX3 q cI g))) (QcRead r) 0 0 (fun _ => False) := by
  refine ro_met (cc := cX3_suits) (maxL := 4) (ret := (some .boolean)) (by decide) rfl (Nat.le_of_ble_eq_true rfl) ?_
  intro p e s m below meth c hx hb hml hr hlk hts hown hP hK hN ls hl
  have hl : lv_has ls 4 [(0, .ref (q 0)), (1, .int a1), (2, .int a2), (3, .int a3)] := hl
  unfold P_X3_suits at hp
  refine lv_iload_n hx hb dX3_suits_0 rfl (lv_at hl 2 rfl) ?_
  refine lv_aload_n hx hb dX3_suits_1 rfl (lv_at hl 0 rfl) ?_
  refine va_get (D := (dC, dI)) (ci := 3) (v := .ref (q 1)) (C := RX3) (T := TX3) (N := 11) hx hb hts iX3_suits_X3 hown hK hP 0 rfl rfl 2 (by decide) (hts _ kX3_suits_0) (fun _ h9 => h9) rfl dX3_suits_2 ?_
  refine lv_iload_n hx hb dX3_suits_5 rfl (lv_at hl 1 rfl) ?_
  refine ro_V (As := [.int a1]) (rest := [.int a2]) ⟨hx, hb, hml, hown, hts⟩ (c_X2_at l dC dI cI (q 1) (q 2) 8 (g 1) a1 (by decide)) (cwV 1 hts gX3_suits_X2_at rfl rfl rfl (by decide +kernel) ⟨Nat.le_of_ble_eq_true rfl, Nat.le_of_ble_eq_true rfl⟩) (hP.sub [1, 2] rfl) hK hN rfl rfl rfl rfl hl.1 (Nat.le_of_ble_eq_true rfl) ⟨Nat.zero_le _, Nat.zero_le _⟩ dX3_suits_6 ?_
  refine lv_icmp_lt (tgt := 40) hx hb dX3_suits_9 (by decide) (fun c6 => ?_) (fun c6 => ?_)
  · have hp := hp.1 c6
    refine lv_iconst (v := 0) hx hb dX3_suits_40 (by decide) ?_
    exact W.zret (ty := .boolean) hx hb hr rfl (fun t ht _ => ⟨by rw [hp], ht⟩) (fun _ h => nomatch h) dX3_suits_41
  · have hp := hp.2 c6
    refine lv_iload_n hx hb dX3_suits_12 rfl (lv_at hl 2 rfl) ?_
    refine lv_aload_n hx hb dX3_suits_13 rfl (lv_at hl 0 rfl) ?_
    refine va_get (D := (dC, dI)) (ci := 3) (v := .ref (q 3)) (C := RX3) (T := TX3) (N := 11) hx hb hts iX3_suits_X3 hown hK hP 0 rfl rfl 3 (by decide) (hts _ kX3_suits_2) (fun _ h9 => h9) rfl dX3_suits_14 ?_
    refine lv_iload_n hx hb dX3_suits_17 rfl (lv_at hl 1 rfl) ?_
    refine ro_V (As := [.int a1]) (rest := [.int a2]) ⟨hx, hb, hml, hown, hts⟩ (c_X2_at l dC dI cI (q 3) (q 4) 8 (g 2) a1 (by decide)) (cwV 1 hts gX3_suits_X2_at rfl rfl rfl (by decide +kernel) ⟨Nat.le_of_ble_eq_true rfl, Nat.le_of_ble_eq_true rfl⟩) (hP.sub [3, 4] rfl) hK hN rfl rfl rfl rfl hl.1 (Nat.le_of_ble_eq_true rfl) ⟨Nat.zero_le _, Nat.zero_le _⟩ dX3_suits_18 ?_
    refine lv_icmp_gt (tgt := 40) hx hb dX3_suits_21 (by decide) (fun c5 => ?_) (fun c5 => ?_)
    · have hp := hp.1 c5
      refine lv_iconst (v := 0) hx hb dX3_suits_40 (by decide) ?_
      exact W.zret (ty := .boolean) hx hb hr rfl (fun t ht _ => ⟨by rw [hp], ht⟩) (fun _ h => nomatch h) dX3_suits_41
    · have hp := hp.2 c5
      refine lv_iload_n hx hb dX3_suits_24 rfl (lv_at hl 3 rfl) ?_
      refine lv_aload_n hx hb dX3_suits_25 rfl (lv_at hl 0 rfl) ?_
      refine va_get (D := (dC, dI)) (ci := 3) (v := .ref (q 5)) (C := RX3) (T := TX3) (N := 11) hx hb hts iX3_suits_X3 hown hK hP 0 rfl rfl 4 (by decide) (hts _ kX3_suits_3) (fun _ h9 => h9) rfl dX3_suits_26 ?_
      refine lv_iload_n hx hb dX3_suits_29 rfl (lv_at hl 1 rfl) ?_
      refine ro_V (As := [.int a1]) (rest := [.int a3]) ⟨hx, hb, hml, hown, hts⟩ (c_X2_at l dC dI cI (q 5) (q 6) 8 (g 3) a1 (by decide)) (cwV 1 hts gX3_suits_X2_at rfl rfl rfl (by decide +kernel) ⟨Nat.le_of_ble_eq_true rfl, Nat.le_of_ble_eq_true rfl⟩) (hP.sub [5, 6] rfl) hK hN rfl rfl rfl rfl hl.1 (Nat.le_of_ble_eq_true rfl) ⟨Nat.zero_le _, Nat.zero_le _⟩ dX3_suits_30 ?_
      refine lv_icmp_lt (tgt := 40) hx hb dX3_suits_33 (by decide) (fun c4 => ?_) (fun c4 => ?_)
      · have hp := hp.1 c4
        refine lv_iconst (v := 0) hx hb dX3_suits_40 (by decide) ?_
        exact W.zret (ty := .boolean) hx hb hr rfl (fun t ht _ => ⟨by rw [hp], ht⟩) (fun _ h => nomatch h) dX3_suits_41
      · have hp := hp.2 c4
        refine lv_iconst (v := 1) hx hb dX3_suits_36 (by decide) ?_
        refine lv_goto (tgt := 41) hx hb dX3_suits_37 (by decide) ?_
        exact W.zret (ty := .boolean) hx hb hr rfl (fun t ht _ => ⟨by rw [hp], ht⟩) (fun _ h => nomatch h) dX3_suits_41
theorem kX3_countAhead_0 : (.fieldLink RX3 44 "Meeplehouse$Shelf" "titles" "I" : Cond) ∈ wsX3_countAhead := by decide +kernel
theorem iX3_countAhead_X3 : ∀ w ∈ wsX30, w ∈ wsX3_countAhead := by decide +kernel
theorem kX3_countAhead_2 : (.fieldLink RX3 23 "Meeplehouse$Shelf" "minutes" "LMeeplehouse$Row;" : Cond) ∈ wsX3_countAhead := by decide +kernel
theorem kX3_countAhead_3 : (.initialized RX4 : Cond) ∈ wsX3_countAhead := by decide +kernel
theorem kX3_countAhead_4 : (.static yX4_contains : Cond) ∈ wsX3_countAhead := by decide +kernel
def P_X3_countAhead (g : St) (a1 : Int32) (a2 : Int32) (r : Int32) : Prop := ∀ V5 : Int32 → Int32 → Prop, (∀ x3 x4 : Int32, (((g 0 0) ≤ x4 → (r = x3)) ∧ (¬ (g 0 0) ≤ x4 → (∃ r3 : Int32, P_X4_contains a1 x4 r3 ∧ ((r3 = 0 → (V5 x3 (x4 + (1 : Int32)))) ∧ (¬ r3 = 0 → ((0 < ((f_at 8 (g 3) x4) - (f_at 8 (g 3) a2)) → (V5 (x3 + (1 : Int32)) (x4 + (1 : Int32)))) ∧ (¬ 0 < ((f_at 8 (g 3) x4) - (f_at 8 (g 3) a2)) → ((¬ ((f_at 8 (g 3) x4) - (f_at 8 (g 3) a2)) = 0 → (V5 x3 (x4 + (1 : Int32)))) ∧ (((f_at 8 (g 3) x4) - (f_at 8 (g 3) a2)) = 0 → ((a2 ≤ x4 → (V5 x3 (x4 + (1 : Int32)))) ∧ (¬ a2 ≤ x4 → (V5 (x3 + (1 : Int32)) (x4 + (1 : Int32)))))))))))))) → V5 x3 x4) → (V5 (0 : Int32) (0 : Int32))
set_option maxRecDepth 100000 in
set_option maxHeartbeats 4000000 in
theorem c_X3_countAhead (l : Launch) (dC : Nat → ClassId) (dI : Nat → Nat → Nat) (cI : ClassId) (q : Nat → Nat) (g : St) (a1 : Int32) (a2 : Int32) (r : Int32) (hp : P_X3_countAhead g a1 a2 r) : Met l yX3_countAhead wsX3_countAhead { frames := 1, cells := 0, slots := 0, locals := 21 } (va_Pc [.ref (q 0), .int a1, .int a2] (rpS (dC, dI) vwCl [(cI, .int)] (wX3 q cI g))) (QcRead r) 0 0 (fun _ => False) := by
  refine ro_met (cc := cX3_countAhead) (maxL := 6) (ret := (some .int)) (by decide) rfl (Nat.le_of_ble_eq_true rfl) ?_
  intro p e s m below meth c hx hb hml hr hlk hts hown hP hK hN ls hl
  have hl : lv_has ls 6 [(0, .ref (q 0)), (1, .int a1), (2, .int a2)] := hl
  obtain ⟨V5, eV5⟩ : ∃ V : Int32 → Int32 → Prop, V = (fun x3 x4 => ∀ ls : Array Slot, lv_has ls 6 [(0, .ref (q 0)), (1, .int a1), (2, .int a2), (3, .int x3), (4, .int x4)] → W p l e { frames := 1, cells := 0, slots := 0, locals := 21 } s m ([.ref (q 0), .int a1, .int a2] : List Value).toArray below meth c s.heap [] 0 0 (MQ below (QcRead r) ([.ref (q 0), .int a1, .int a2] : List Value).toArray s 0 0 (fun _ => False)) (F0 m 5 ls [])) := ⟨_, rfl⟩
  have hp := hp V5
  have hp := hp (by
    intro x3 x4 hp
    rw [eV5]
    intro ls hl
    refine lv_iload hx hb dX3_countAhead_5 (lv_at hl 4 rfl) ?_
    refine lv_aload_n hx hb dX3_countAhead_7 rfl (lv_at hl 0 rfl) ?_
    refine va_get (D := (dC, dI)) (ci := 3) (v := .int (g 0 0)) (C := RX3) (T := TX3) (N := 11) hx hb hts iX3_countAhead_X3 hown hK hP 0 rfl rfl 0 (by decide) (hts _ kX3_countAhead_0) (fun _ h9 => h9) rfl dX3_countAhead_8 ?_
    refine lv_icmp_ge (tgt := 68) hx hb dX3_countAhead_11 (by decide) (fun c8 => ?_) (fun c8 => ?_)
    · have hp := hp.1 c8
      refine lv_iload_n hx hb dX3_countAhead_68 rfl (lv_at hl 3 rfl) ?_
      exact W.iret hx hb hr (fun t ht _ => ⟨by rw [hp], ht⟩) (fun _ h => nomatch h) dX3_countAhead_69
    · have hp := hp.2 c8
      refine lv_aload_n hx hb dX3_countAhead_14 rfl (lv_at hl 0 rfl) ?_
      refine va_get (D := (dC, dI)) (ci := 3) (v := .ref (q 5)) (C := RX3) (T := TX3) (N := 11) hx hb hts iX3_countAhead_X3 hown hK hP 0 rfl rfl 4 (by decide) (hts _ kX3_countAhead_2) (fun _ h9 => h9) rfl dX3_countAhead_15 ?_
      refine lv_iload hx hb dX3_countAhead_18 (lv_at hl 4 rfl) ?_
      refine ro_V (As := [.int x4]) (rest := []) ⟨hx, hb, hml, hown, hts⟩ (c_X2_at l dC dI cI (q 5) (q 6) 8 (g 3) x4 (by decide)) (cwV 1 hts gX3_countAhead_X2_at rfl rfl rfl (by decide +kernel) ⟨Nat.le_of_ble_eq_true rfl, Nat.le_of_ble_eq_true rfl⟩) (hP.sub [5, 6] rfl) hK hN rfl rfl rfl rfl hl.1 (Nat.le_of_ble_eq_true rfl) ⟨Nat.zero_le _, Nat.zero_le _⟩ dX3_countAhead_20 ?_
      refine lv_aload_n hx hb dX3_countAhead_23 rfl (lv_at hl 0 rfl) ?_
      refine va_get (D := (dC, dI)) (ci := 3) (v := .ref (q 5)) (C := RX3) (T := TX3) (N := 11) hx hb hts iX3_countAhead_X3 hown hK hP 0 rfl rfl 4 (by decide) (hts _ kX3_countAhead_2) (fun _ h9 => h9) rfl dX3_countAhead_24 ?_
      refine lv_iload_n hx hb dX3_countAhead_27 rfl (lv_at hl 2 rfl) ?_
      refine ro_V (As := [.int a2]) (rest := [.int (f_at 8 (g 3) x4)]) ⟨hx, hb, hml, hown, hts⟩ (c_X2_at l dC dI cI (q 5) (q 6) 8 (g 3) a2 (by decide)) (cwV 1 hts gX3_countAhead_X2_at rfl rfl rfl (by decide +kernel) ⟨Nat.le_of_ble_eq_true rfl, Nat.le_of_ble_eq_true rfl⟩) (hP.sub [5, 6] rfl) hK hN rfl rfl rfl rfl hl.1 (Nat.le_of_ble_eq_true rfl) ⟨Nat.zero_le _, Nat.zero_le _⟩ dX3_countAhead_28 ?_
      refine lv_isub hx hb dX3_countAhead_31 ?_
      refine lv_istore (lv' := [(5, .int ((f_at 8 (g 3) x4) - (f_at 8 (g 3) a2))), (0, .ref (q 0)), (1, .int a1), (2, .int a2), (3, .int x3), (4, .int x4)]) hx hb dX3_countAhead_32 hl (by decide) rfl (fun ls hl => ?_)
      refine lv_iload_n hx hb dX3_countAhead_34 rfl (lv_at hl 2 rfl) ?_
      refine lv_iload hx hb dX3_countAhead_35 (lv_at hl 5 rfl) ?_
      obtain ⟨r3, hr3, hp⟩ := hp
      refine ro_SN (As := [.int a1, .int x4]) (rest := []) ⟨hx, hb, hml, hown, hts⟩ (c_X4_contains l dC dI cI a1 x4 r3 hr3) ⟨va_cnB 2 hts gX3_countAhead_X4_contains_n62 rfl rfl rfl (nw_w hN 1 rfl) (hts _ kX3_countAhead_3) (by decide +kernel) ⟨Nat.le_of_ble_eq_true rfl, Nat.le_of_ble_eq_true rfl⟩, hts _ kX3_countAhead_4, trivial⟩ (hP.sub [] rfl) hK hN rfl rfl hl.1 (Nat.le_of_ble_eq_true rfl) ⟨Nat.zero_le _, Nat.zero_le _⟩ dX3_countAhead_37 ?_
      refine lv_if_eq (tgt := 62) hx hb dX3_countAhead_40 (by decide) (fun c7 => ?_) (fun c7 => ?_)
      · have hp := hp.1 c7
        refine lv_iinc (v := x4 + (1 : Int32)) (lv' := [(4, .int (x4 + (1 : Int32))), (5, .int ((f_at 8 (g 3) x4) - (f_at 8 (g 3) a2))), (0, .ref (q 0)), (1, .int a1), (2, .int a2), (3, .int x3)]) hx hb dX3_countAhead_62 hl (k := 5) rfl rfl (by decide) rfl (fun ls hl => ?_)
        refine lv_goto (tgt := 5) hx hb dX3_countAhead_65 (by decide) ?_
        rw [eV5] at hp
        exact hp _ (lv_sub hl [2, 3, 4, 5, 0] rfl)
      · have hp := hp.2 c7
        refine lv_iload hx hb dX3_countAhead_43 (lv_at hl 0 rfl) ?_
        refine lv_if_gt (tgt := 59) hx hb dX3_countAhead_45 (by decide) (fun c6 => ?_) (fun c6 => ?_)
        · have hp := hp.1 c6
          refine lv_iinc (v := x3 + (1 : Int32)) (lv' := [(3, .int (x3 + (1 : Int32))), (5, .int ((f_at 8 (g 3) x4) - (f_at 8 (g 3) a2))), (0, .ref (q 0)), (1, .int a1), (2, .int a2), (4, .int x4)]) hx hb dX3_countAhead_59 hl (k := 4) rfl rfl (by decide) rfl (fun ls hl => ?_)
          refine lv_iinc (v := x4 + (1 : Int32)) (lv' := [(4, .int (x4 + (1 : Int32))), (3, .int (x3 + (1 : Int32))), (5, .int ((f_at 8 (g 3) x4) - (f_at 8 (g 3) a2))), (0, .ref (q 0)), (1, .int a1), (2, .int a2)]) hx hb dX3_countAhead_62 hl (k := 5) rfl rfl (by decide) rfl (fun ls hl => ?_)
          refine lv_goto (tgt := 5) hx hb dX3_countAhead_65 (by decide) ?_
          rw [eV5] at hp
          exact hp _ (lv_sub hl [3, 4, 5, 1, 0] rfl)
        · have hp := hp.2 c6
          refine lv_iload hx hb dX3_countAhead_48 (lv_at hl 0 rfl) ?_
          refine lv_if_ne (tgt := 62) hx hb dX3_countAhead_50 (by decide) (fun c5 => ?_) (fun c5 => ?_)
          · have hp := hp.1 c5
            refine lv_iinc (v := x4 + (1 : Int32)) (lv' := [(4, .int (x4 + (1 : Int32))), (5, .int ((f_at 8 (g 3) x4) - (f_at 8 (g 3) a2))), (0, .ref (q 0)), (1, .int a1), (2, .int a2), (3, .int x3)]) hx hb dX3_countAhead_62 hl (k := 5) rfl rfl (by decide) rfl (fun ls hl => ?_)
            refine lv_goto (tgt := 5) hx hb dX3_countAhead_65 (by decide) ?_
            rw [eV5] at hp
            exact hp _ (lv_sub hl [2, 3, 4, 5, 0] rfl)
          · have hp := hp.2 c5
            refine lv_iload hx hb dX3_countAhead_53 (lv_at hl 5 rfl) ?_
            refine lv_iload_n hx hb dX3_countAhead_55 rfl (lv_at hl 3 rfl) ?_
            refine lv_icmp_ge (tgt := 62) hx hb dX3_countAhead_56 (by decide) (fun c4 => ?_) (fun c4 => ?_)
            · have hp := hp.1 c4
              refine lv_iinc (v := x4 + (1 : Int32)) (lv' := [(4, .int (x4 + (1 : Int32))), (5, .int ((f_at 8 (g 3) x4) - (f_at 8 (g 3) a2))), (0, .ref (q 0)), (1, .int a1), (2, .int a2), (3, .int x3)]) hx hb dX3_countAhead_62 hl (k := 5) rfl rfl (by decide) rfl (fun ls hl => ?_)
              refine lv_goto (tgt := 5) hx hb dX3_countAhead_65 (by decide) ?_
              rw [eV5] at hp
              exact hp _ (lv_sub hl [2, 3, 4, 5, 0] rfl)
            · have hp := hp.2 c4
              refine lv_iinc (v := x3 + (1 : Int32)) (lv' := [(3, .int (x3 + (1 : Int32))), (5, .int ((f_at 8 (g 3) x4) - (f_at 8 (g 3) a2))), (0, .ref (q 0)), (1, .int a1), (2, .int a2), (4, .int x4)]) hx hb dX3_countAhead_59 hl (k := 4) rfl rfl (by decide) rfl (fun ls hl => ?_)
              refine lv_iinc (v := x4 + (1 : Int32)) (lv' := [(4, .int (x4 + (1 : Int32))), (3, .int (x3 + (1 : Int32))), (5, .int ((f_at 8 (g 3) x4) - (f_at 8 (g 3) a2))), (0, .ref (q 0)), (1, .int a1), (2, .int a2)]) hx hb dX3_countAhead_62 hl (k := 5) rfl rfl (by decide) rfl (fun ls hl => ?_)
              refine lv_goto (tgt := 5) hx hb dX3_countAhead_65 (by decide) ?_
              rw [eV5] at hp
              exact hp _ (lv_sub hl [3, 4, 5, 1, 0] rfl))
  refine lv_iconst (v := 0) hx hb dX3_countAhead_0 (by decide) ?_
  refine lv_istore_n (lv' := [(3, .int (0 : Int32)), (0, .ref (q 0)), (1, .int a1), (2, .int a2)]) hx hb dX3_countAhead_1 rfl hl (by decide) rfl (fun ls hl => ?_)
  refine lv_iconst (v := 0) hx hb dX3_countAhead_2 (by decide) ?_
  refine lv_istore (lv' := [(4, .int (0 : Int32)), (3, .int (0 : Int32)), (0, .ref (q 0)), (1, .int a1), (2, .int a2)]) hx hb dX3_countAhead_3 hl (by decide) rfl (fun ls hl => ?_)
  rw [eV5] at hp
  exact hp _ (lv_sub hl [2, 3, 4, 1, 0] rfl)
theorem kX3_titleInPlace_0 : (.fieldLink RX3 44 "Meeplehouse$Shelf" "titles" "I" : Cond) ∈ wsX3_titleInPlace := by decide +kernel
theorem iX3_titleInPlace_X3 : ∀ w ∈ wsX30, w ∈ wsX3_titleInPlace := by decide +kernel
theorem kX3_titleInPlace_2 : (.initialized RX4 : Cond) ∈ wsX3_titleInPlace := by decide +kernel
theorem kX3_titleInPlace_3 : (.static yX4_contains : Cond) ∈ wsX3_titleInPlace := by decide +kernel
def P_X3_titleInPlace (g : St) (a1 : Int32) (a2 : Int32) (r : Int32) : Prop := ∀ V2 : Int32 → Prop, (∀ x3 : Int32, (((g 0 0) ≤ x3 → (r = (-1 : Int32))) ∧ (¬ (g 0 0) ≤ x3 → (∃ r1 : Int32, P_X4_contains a1 x3 r1 ∧ ((r1 = 0 → (V2 (x3 + (1 : Int32)))) ∧ (¬ r1 = 0 → (∃ r2 : Int32, P_X3_countAhead g a1 x3 r2 ∧ ((¬ r2 = a2 → (V2 (x3 + (1 : Int32)))) ∧ (r2 = a2 → (r = x3))))))))) → V2 x3) → (V2 (0 : Int32))
set_option maxRecDepth 100000 in
set_option maxHeartbeats 4000000 in
theorem c_X3_titleInPlace (l : Launch) (dC : Nat → ClassId) (dI : Nat → Nat → Nat) (cI : ClassId) (q : Nat → Nat) (g : St) (a1 : Int32) (a2 : Int32) (r : Int32) (hp : P_X3_titleInPlace g a1 a2 r) : Met l yX3_titleInPlace wsX3_titleInPlace { frames := 2, cells := 0, slots := 0, locals := 46 } (va_Pc [.ref (q 0), .int a1, .int a2] (rpS (dC, dI) vwCl [(cI, .int)] (wX3 q cI g))) (QcRead r) 0 0 (fun _ => False) := by
  refine ro_met (cc := cX3_titleInPlace) (maxL := 4) (ret := (some .int)) (by decide) rfl (Nat.le_of_ble_eq_true rfl) ?_
  intro p e s m below meth c hx hb hml hr hlk hts hown hP hK hN ls hl
  have hl : lv_has ls 4 [(0, .ref (q 0)), (1, .int a1), (2, .int a2)] := hl
  obtain ⟨V2, eV2⟩ : ∃ V : Int32 → Prop, V = (fun x3 => ∀ ls : Array Slot, lv_has ls 4 [(0, .ref (q 0)), (1, .int a1), (2, .int a2), (3, .int x3)] → W p l e { frames := 2, cells := 0, slots := 0, locals := 46 } s m ([.ref (q 0), .int a1, .int a2] : List Value).toArray below meth c s.heap [] 0 0 (MQ below (QcRead r) ([.ref (q 0), .int a1, .int a2] : List Value).toArray s 0 0 (fun _ => False)) (F0 m 2 ls [])) := ⟨_, rfl⟩
  have hp := hp V2
  have hp := hp (by
    intro x3 hp
    rw [eV2]
    intro ls hl
    refine lv_iload_n hx hb dX3_titleInPlace_2 rfl (lv_at hl 3 rfl) ?_
    refine lv_aload_n hx hb dX3_titleInPlace_3 rfl (lv_at hl 0 rfl) ?_
    refine va_get (D := (dC, dI)) (ci := 3) (v := .int (g 0 0)) (C := RX3) (T := TX3) (N := 11) hx hb hts iX3_titleInPlace_X3 hown hK hP 0 rfl rfl 0 (by decide) (hts _ kX3_titleInPlace_0) (fun _ h9 => h9) rfl dX3_titleInPlace_4 ?_
    refine lv_icmp_ge (tgt := 36) hx hb dX3_titleInPlace_7 (by decide) (fun c5 => ?_) (fun c5 => ?_)
    · have hp := hp.1 c5
      refine lv_iconst (v := -1) hx hb dX3_titleInPlace_36 (by decide) ?_
      exact W.iret hx hb hr (fun t ht _ => ⟨by rw [hp], ht⟩) (fun _ h => nomatch h) dX3_titleInPlace_37
    · have hp := hp.2 c5
      refine lv_iload_n hx hb dX3_titleInPlace_10 rfl (lv_at hl 1 rfl) ?_
      refine lv_iload_n hx hb dX3_titleInPlace_11 rfl (lv_at hl 3 rfl) ?_
      obtain ⟨r1, hr1, hp⟩ := hp
      refine ro_SN (As := [.int a1, .int x3]) (rest := []) ⟨hx, hb, hml, hown, hts⟩ (c_X4_contains l dC dI cI a1 x3 r1 hr1) ⟨va_cnB 2 hts gX3_titleInPlace_X4_contains_n62 rfl rfl rfl (nw_w hN 1 rfl) (hts _ kX3_titleInPlace_2) (by decide +kernel) ⟨Nat.le_of_ble_eq_true rfl, Nat.le_of_ble_eq_true rfl⟩, hts _ kX3_titleInPlace_3, trivial⟩ (hP.sub [] rfl) hK hN rfl rfl hl.1 (Nat.le_of_ble_eq_true rfl) ⟨Nat.zero_le _, Nat.zero_le _⟩ dX3_titleInPlace_12 ?_
      refine lv_if_eq (tgt := 30) hx hb dX3_titleInPlace_15 (by decide) (fun c4 => ?_) (fun c4 => ?_)
      · have hp := hp.1 c4
        refine lv_iinc (v := x3 + (1 : Int32)) (lv' := [(3, .int (x3 + (1 : Int32))), (0, .ref (q 0)), (1, .int a1), (2, .int a2)]) hx hb dX3_titleInPlace_30 hl (k := 3) rfl rfl (by decide) rfl (fun ls hl => ?_)
        refine lv_goto (tgt := 2) hx hb dX3_titleInPlace_33 (by decide) ?_
        rw [eV2] at hp
        exact hp _ (lv_sub hl [1, 2, 3, 0] rfl)
      · have hp := hp.2 c4
        refine lv_aload_n hx hb dX3_titleInPlace_18 rfl (lv_at hl 0 rfl) ?_
        refine lv_iload_n hx hb dX3_titleInPlace_19 rfl (lv_at hl 1 rfl) ?_
        refine lv_iload_n hx hb dX3_titleInPlace_20 rfl (lv_at hl 3 rfl) ?_
        obtain ⟨r2, hr2, hp⟩ := hp
        refine ro_V (As := [.int a1, .int x3]) (rest := []) ⟨hx, hb, hml, hown, hts⟩ (c_X3_countAhead l dC dI cI q g a1 x3 r2 hr2) (cwV 2 hts gX3_titleInPlace_X3_countAhead rfl rfl rfl (by decide +kernel) ⟨Nat.le_of_ble_eq_true rfl, Nat.le_of_ble_eq_true rfl⟩) hP hK hN rfl rfl rfl rfl hl.1 (Nat.le_of_ble_eq_true rfl) ⟨Nat.zero_le _, Nat.zero_le _⟩ dX3_titleInPlace_21 ?_
        refine lv_iload_n hx hb dX3_titleInPlace_24 rfl (lv_at hl 2 rfl) ?_
        refine lv_icmp_ne (tgt := 30) hx hb dX3_titleInPlace_25 (by decide) (fun c3 => ?_) (fun c3 => ?_)
        · have hp := hp.1 c3
          refine lv_iinc (v := x3 + (1 : Int32)) (lv' := [(3, .int (x3 + (1 : Int32))), (0, .ref (q 0)), (1, .int a1), (2, .int a2)]) hx hb dX3_titleInPlace_30 hl (k := 3) rfl rfl (by decide) rfl (fun ls hl => ?_)
          refine lv_goto (tgt := 2) hx hb dX3_titleInPlace_33 (by decide) ?_
          rw [eV2] at hp
          exact hp _ (lv_sub hl [1, 2, 3, 0] rfl)
        · have hp := hp.2 c3
          refine lv_iload_n hx hb dX3_titleInPlace_28 rfl (lv_at hl 3 rfl) ?_
          exact W.iret hx hb hr (fun t ht _ => ⟨by rw [hp], ht⟩) (fun _ h => nomatch h) dX3_titleInPlace_29)
  refine lv_iconst (v := 0) hx hb dX3_titleInPlace_0 (by decide) ?_
  refine lv_istore_n (lv' := [(3, .int (0 : Int32)), (0, .ref (q 0)), (1, .int a1), (2, .int a2)]) hx hb dX3_titleInPlace_1 rfl hl (by decide) rfl (fun ls hl => ?_)
  rw [eV2] at hp
  exact hp _ (lv_sub hl [1, 2, 3, 0] rfl)
theorem kX3_mayLend_0 : (.fieldLink RX3 29 "Meeplehouse$Shelf" "titleOf" "LMeeplehouse$Row;" : Cond) ∈ wsX3_mayLend := by decide +kernel
theorem iX3_mayLend_X3 : ∀ w ∈ wsX30, w ∈ wsX3_mayLend := by decide +kernel
theorem kX3_mayLend_2 : (.fieldLink RX3 32 "Meeplehouse$Shelf" "holder" "LMeeplehouse$Row;" : Cond) ∈ wsX3_mayLend := by decide +kernel
theorem kX3_mayLend_3 : (.fieldLink RX3 35 "Meeplehouse$Shelf" "borrower" "LMeeplehouse$Row;" : Cond) ∈ wsX3_mayLend := by decide +kernel
def P_X3_mayLend (g : St) (a1 : Int32) (a2 : Int32) (r : Int32) : Prop := ((a1 = a2 → (r = (0 : Int32))) ∧ (¬ a1 = a2 → ((¬ (f_at 16 (g 5) a1) = (f_at 16 (g 5) a2) → (r = (0 : Int32))) ∧ ((f_at 16 (g 5) a1) = (f_at 16 (g 5) a2) → ((¬ (f_at 16 (g 6) a1) = (-1 : Int32) → (r = (0 : Int32))) ∧ ((f_at 16 (g 6) a1) = (-1 : Int32) → (((f_at 16 (g 7) a1) = (-1 : Int32) → (r = (1 : Int32))) ∧ (¬ (f_at 16 (g 7) a1) = (-1 : Int32) → ((¬ (f_at 16 (g 7) a1) = a2 → (r = (0 : Int32))) ∧ ((f_at 16 (g 7) a1) = a2 → (r = (1 : Int32))))))))))))
set_option maxRecDepth 100000 in
set_option maxHeartbeats 4000000 in
theorem c_X3_mayLend (l : Launch) (dC : Nat → ClassId) (dI : Nat → Nat → Nat) (cI : ClassId) (q : Nat → Nat) (g : St) (a1 : Int32) (a2 : Int32) (r : Int32) (hp : P_X3_mayLend g a1 a2 r) : Met l yX3_mayLend wsX3_mayLend { frames := 1, cells := 0, slots := 0, locals := 21 } (va_Pc [.ref (q 0), .int a1, .int a2] (rpS (dC, dI) vwCl [(cI, .int)] (wX3 q cI g))) (QcRead r) 0 0 (fun _ => False) := by
  refine ro_met (cc := cX3_mayLend) (maxL := 3) (ret := (some .boolean)) (by decide) rfl (Nat.le_of_ble_eq_true rfl) ?_
  intro p e s m below meth c hx hb hml hr hlk hts hown hP hK hN ls hl
  have hl : lv_has ls 3 [(0, .ref (q 0)), (1, .int a1), (2, .int a2)] := hl
  unfold P_X3_mayLend at hp
  refine lv_iload_n hx hb dX3_mayLend_0 rfl (lv_at hl 1 rfl) ?_
  refine lv_iload_n hx hb dX3_mayLend_1 rfl (lv_at hl 2 rfl) ?_
  refine lv_icmp_eq (tgt := 64) hx hb dX3_mayLend_2 (by decide) (fun c10 => ?_) (fun c10 => ?_)
  · have hp := hp.1 c10
    refine lv_iconst (v := 0) hx hb dX3_mayLend_64 (by decide) ?_
    exact W.zret (ty := .boolean) hx hb hr rfl (fun t ht _ => ⟨by rw [hp], ht⟩) (fun _ h => nomatch h) dX3_mayLend_65
  · have hp := hp.2 c10
    refine lv_aload_n hx hb dX3_mayLend_5 rfl (lv_at hl 0 rfl) ?_
    refine va_get (D := (dC, dI)) (ci := 3) (v := .ref (q 9)) (C := RX3) (T := TX3) (N := 11) hx hb hts iX3_mayLend_X3 hown hK hP 0 rfl rfl 6 (by decide) (hts _ kX3_mayLend_0) (fun _ h9 => h9) rfl dX3_mayLend_6 ?_
    refine lv_iload_n hx hb dX3_mayLend_9 rfl (lv_at hl 1 rfl) ?_
    refine ro_V (As := [.int a1]) (rest := []) ⟨hx, hb, hml, hown, hts⟩ (c_X2_at l dC dI cI (q 9) (q 10) 16 (g 5) a1 (by decide)) (cwV 1 hts gX3_mayLend_X2_at rfl rfl rfl (by decide +kernel) ⟨Nat.le_of_ble_eq_true rfl, Nat.le_of_ble_eq_true rfl⟩) (hP.sub [9, 10] rfl) hK hN rfl rfl rfl rfl hl.1 (Nat.le_of_ble_eq_true rfl) ⟨Nat.zero_le _, Nat.zero_le _⟩ dX3_mayLend_10 ?_
    refine lv_aload_n hx hb dX3_mayLend_13 rfl (lv_at hl 0 rfl) ?_
    refine va_get (D := (dC, dI)) (ci := 3) (v := .ref (q 9)) (C := RX3) (T := TX3) (N := 11) hx hb hts iX3_mayLend_X3 hown hK hP 0 rfl rfl 6 (by decide) (hts _ kX3_mayLend_0) (fun _ h9 => h9) rfl dX3_mayLend_14 ?_
    refine lv_iload_n hx hb dX3_mayLend_17 rfl (lv_at hl 2 rfl) ?_
    refine ro_V (As := [.int a2]) (rest := [.int (f_at 16 (g 5) a1)]) ⟨hx, hb, hml, hown, hts⟩ (c_X2_at l dC dI cI (q 9) (q 10) 16 (g 5) a2 (by decide)) (cwV 1 hts gX3_mayLend_X2_at rfl rfl rfl (by decide +kernel) ⟨Nat.le_of_ble_eq_true rfl, Nat.le_of_ble_eq_true rfl⟩) (hP.sub [9, 10] rfl) hK hN rfl rfl rfl rfl hl.1 (Nat.le_of_ble_eq_true rfl) ⟨Nat.zero_le _, Nat.zero_le _⟩ dX3_mayLend_18 ?_
    refine lv_icmp_ne (tgt := 64) hx hb dX3_mayLend_21 (by decide) (fun c9 => ?_) (fun c9 => ?_)
    · have hp := hp.1 c9
      refine lv_iconst (v := 0) hx hb dX3_mayLend_64 (by decide) ?_
      exact W.zret (ty := .boolean) hx hb hr rfl (fun t ht _ => ⟨by rw [hp], ht⟩) (fun _ h => nomatch h) dX3_mayLend_65
    · have hp := hp.2 c9
      refine lv_aload_n hx hb dX3_mayLend_24 rfl (lv_at hl 0 rfl) ?_
      refine va_get (D := (dC, dI)) (ci := 3) (v := .ref (q 11)) (C := RX3) (T := TX3) (N := 11) hx hb hts iX3_mayLend_X3 hown hK hP 0 rfl rfl 7 (by decide) (hts _ kX3_mayLend_2) (fun _ h9 => h9) rfl dX3_mayLend_25 ?_
      refine lv_iload_n hx hb dX3_mayLend_28 rfl (lv_at hl 1 rfl) ?_
      refine ro_V (As := [.int a1]) (rest := []) ⟨hx, hb, hml, hown, hts⟩ (c_X2_at l dC dI cI (q 11) (q 12) 16 (g 6) a1 (by decide)) (cwV 1 hts gX3_mayLend_X2_at rfl rfl rfl (by decide +kernel) ⟨Nat.le_of_ble_eq_true rfl, Nat.le_of_ble_eq_true rfl⟩) (hP.sub [11, 12] rfl) hK hN rfl rfl rfl rfl hl.1 (Nat.le_of_ble_eq_true rfl) ⟨Nat.zero_le _, Nat.zero_le _⟩ dX3_mayLend_29 ?_
      refine lv_iconst (v := -1) hx hb dX3_mayLend_32 (by decide) ?_
      refine lv_icmp_ne (tgt := 64) hx hb dX3_mayLend_33 (by decide) (fun c8 => ?_) (fun c8 => ?_)
      · have hp := hp.1 c8
        refine lv_iconst (v := 0) hx hb dX3_mayLend_64 (by decide) ?_
        exact W.zret (ty := .boolean) hx hb hr rfl (fun t ht _ => ⟨by rw [hp], ht⟩) (fun _ h => nomatch h) dX3_mayLend_65
      · have hp := hp.2 c8
        refine lv_aload_n hx hb dX3_mayLend_36 rfl (lv_at hl 0 rfl) ?_
        refine va_get (D := (dC, dI)) (ci := 3) (v := .ref (q 13)) (C := RX3) (T := TX3) (N := 11) hx hb hts iX3_mayLend_X3 hown hK hP 0 rfl rfl 8 (by decide) (hts _ kX3_mayLend_3) (fun _ h9 => h9) rfl dX3_mayLend_37 ?_
        refine lv_iload_n hx hb dX3_mayLend_40 rfl (lv_at hl 1 rfl) ?_
        refine ro_V (As := [.int a1]) (rest := []) ⟨hx, hb, hml, hown, hts⟩ (c_X2_at l dC dI cI (q 13) (q 14) 16 (g 7) a1 (by decide)) (cwV 1 hts gX3_mayLend_X2_at rfl rfl rfl (by decide +kernel) ⟨Nat.le_of_ble_eq_true rfl, Nat.le_of_ble_eq_true rfl⟩) (hP.sub [13, 14] rfl) hK hN rfl rfl rfl rfl hl.1 (Nat.le_of_ble_eq_true rfl) ⟨Nat.zero_le _, Nat.zero_le _⟩ dX3_mayLend_41 ?_
        refine lv_iconst (v := -1) hx hb dX3_mayLend_44 (by decide) ?_
        refine lv_icmp_eq (tgt := 60) hx hb dX3_mayLend_45 (by decide) (fun c7 => ?_) (fun c7 => ?_)
        · have hp := hp.1 c7
          refine lv_iconst (v := 1) hx hb dX3_mayLend_60 (by decide) ?_
          refine lv_goto (tgt := 65) hx hb dX3_mayLend_61 (by decide) ?_
          exact W.zret (ty := .boolean) hx hb hr rfl (fun t ht _ => ⟨by rw [hp], ht⟩) (fun _ h => nomatch h) dX3_mayLend_65
        · have hp := hp.2 c7
          refine lv_aload_n hx hb dX3_mayLend_48 rfl (lv_at hl 0 rfl) ?_
          refine va_get (D := (dC, dI)) (ci := 3) (v := .ref (q 13)) (C := RX3) (T := TX3) (N := 11) hx hb hts iX3_mayLend_X3 hown hK hP 0 rfl rfl 8 (by decide) (hts _ kX3_mayLend_3) (fun _ h9 => h9) rfl dX3_mayLend_49 ?_
          refine lv_iload_n hx hb dX3_mayLend_52 rfl (lv_at hl 1 rfl) ?_
          refine ro_V (As := [.int a1]) (rest := []) ⟨hx, hb, hml, hown, hts⟩ (c_X2_at l dC dI cI (q 13) (q 14) 16 (g 7) a1 (by decide)) (cwV 1 hts gX3_mayLend_X2_at rfl rfl rfl (by decide +kernel) ⟨Nat.le_of_ble_eq_true rfl, Nat.le_of_ble_eq_true rfl⟩) (hP.sub [13, 14] rfl) hK hN rfl rfl rfl rfl hl.1 (Nat.le_of_ble_eq_true rfl) ⟨Nat.zero_le _, Nat.zero_le _⟩ dX3_mayLend_53 ?_
          refine lv_iload_n hx hb dX3_mayLend_56 rfl (lv_at hl 2 rfl) ?_
          refine lv_icmp_ne (tgt := 64) hx hb dX3_mayLend_57 (by decide) (fun c6 => ?_) (fun c6 => ?_)
          · have hp := hp.1 c6
            refine lv_iconst (v := 0) hx hb dX3_mayLend_64 (by decide) ?_
            exact W.zret (ty := .boolean) hx hb hr rfl (fun t ht _ => ⟨by rw [hp], ht⟩) (fun _ h => nomatch h) dX3_mayLend_65
          · have hp := hp.2 c6
            refine lv_iconst (v := 1) hx hb dX3_mayLend_60 (by decide) ?_
            refine lv_goto (tgt := 65) hx hb dX3_mayLend_61 (by decide) ?_
            exact W.zret (ty := .boolean) hx hb hr rfl (fun t ht _ => ⟨by rw [hp], ht⟩) (fun _ h => nomatch h) dX3_mayLend_65
theorem kX3_countLenders_0 : (.fieldLink RX3 51 "Meeplehouse$Shelf" "copies" "I" : Cond) ∈ wsX3_countLenders := by decide +kernel
theorem iX3_countLenders_X3 : ∀ w ∈ wsX30, w ∈ wsX3_countLenders := by decide +kernel
theorem kX3_countLenders_2 : (.methodLink RX3 81 Lib.Math.min.name : Cond) ∈ wsX3_countLenders := by decide +kernel
theorem kX3_countLenders_3 : (.static Lib.Math.min.name : Cond) ∈ wsX3_countLenders := by decide +kernel
theorem kX3_countLenders_4 : (.initialized "java/lang/Math" : Cond) ∈ wsX3_countLenders := by decide +kernel
theorem kX3_countLenders_5 : (.code Lib.Math.min.name Lib.Math.min.code 2 (some .int) : Cond) ∈ wsX3_countLenders := by decide +kernel
def P_X3_countLenders (g : St) (a1 : Int32) (r : Int32) : Prop := ∀ V14 : Int32 → Int32 → Prop, ∀ V30 : Int32 → Int32 → Int32 → Int32 → Prop, (∀ x2 x3 : Int32, (((4 : Int32) ≤ x3 → (∃ r3 : Int32, P_J6_bitCount_0f7a4 x2 r3 ∧ (r = r3))) ∧ (¬ (4 : Int32) ≤ x3 → (∃ r4 : Int32, P_X3_lack g a1 x3 r4 ∧ (V30 x2 x3 r4 (0 : Int32))))) → V14 x2 x3) → (∀ x2 x3 x4 x5 : Int32, (((g 0 1) ≤ x5 → ((x4 ≤ 0 → (V14 x2 (x3 + (1 : Int32)))) ∧ (¬ x4 ≤ 0 → (r = (-1 : Int32))))) ∧ (¬ (g 0 1) ≤ x5 → ((x4 ≤ 0 → ((x4 ≤ 0 → (V14 x2 (x3 + (1 : Int32)))) ∧ (¬ x4 ≤ 0 → (r = (-1 : Int32))))) ∧ (¬ x4 ≤ 0 → (∃ r8 : Int32, P_X3_mayLend g x5 a1 r8 ∧ ((r8 = 0 → (V30 x2 x3 x4 (x5 + (1 : Int32)))) ∧ (¬ r8 = 0 → (∃ r9 : Int32, P_X3_count g x5 x3 r9 ∧ ((r9 ≤ 0 → (V30 x2 x3 x4 (x5 + (1 : Int32)))) ∧ (¬ r9 ≤ 0 → (∃ r10 : Int32, P_X3_count g x5 x3 r10 ∧ (V30 (x2 ||| ((1 : Int32) <<< (x5 &&& 31))) x3 (x4 - (if r10 < x4 then r10 else x4)) (x5 + (1 : Int32)))))))))))))) → V30 x2 x3 x4 x5) → (∃ r1 : Int32, P_X3_place g a1 r1 ∧ ((r1 = 0 → (V14 (0 : Int32) (0 : Int32))) ∧ (¬ r1 = 0 → (r = (-1 : Int32)))))
set_option maxRecDepth 100000 in
set_option maxHeartbeats 4000000 in
theorem c_X3_countLenders (l : Launch) (dC : Nat → ClassId) (dI : Nat → Nat → Nat) (cI : ClassId) (q : Nat → Nat) (g : St) (a1 : Int32) (r : Int32) (hp : P_X3_countLenders g a1 r) : Met l yX3_countLenders wsX3_countLenders { frames := 2, cells := 0, slots := 0, locals := 43 } (va_Pc [.ref (q 0), .int a1] (rpS (dC, dI) vwCl [(cI, .int)] (wX3 q cI g))) (QcRead r) 0 0 (fun _ => False) := by
  refine ro_met (cc := cX3_countLenders) (maxL := 6) (ret := (some .int)) (by decide) rfl (Nat.le_of_ble_eq_true rfl) ?_
  intro p e s m below meth c hx hb hml hr hlk hts hown hP hK hN ls hl
  have hl : lv_has ls 6 [(0, .ref (q 0)), (1, .int a1)] := hl
  obtain ⟨V14, eV14⟩ : ∃ V : Int32 → Int32 → Prop, V = (fun x2 x3 => ∀ ls : Array Slot, lv_has ls 6 [(0, .ref (q 0)), (1, .int a1), (2, .int x2), (3, .int x3)] → W p l e { frames := 2, cells := 0, slots := 0, locals := 43 } s m ([.ref (q 0), .int a1] : List Value).toArray below meth c s.heap [] 0 0 (MQ below (QcRead r) ([.ref (q 0), .int a1] : List Value).toArray s 0 0 (fun _ => False)) (F0 m 14 ls [])) := ⟨_, rfl⟩
  obtain ⟨V30, eV30⟩ : ∃ V : Int32 → Int32 → Int32 → Int32 → Prop, V = (fun x2 x3 x4 x5 => ∀ ls : Array Slot, lv_has ls 6 [(0, .ref (q 0)), (1, .int a1), (2, .int x2), (3, .int x3), (4, .int x4), (5, .int x5)] → W p l e { frames := 2, cells := 0, slots := 0, locals := 43 } s m ([.ref (q 0), .int a1] : List Value).toArray below meth c s.heap [] 0 0 (MQ below (QcRead r) ([.ref (q 0), .int a1] : List Value).toArray s 0 0 (fun _ => False)) (F0 m 30 ls [])) := ⟨_, rfl⟩
  have hp := hp V14 V30
  have hp := hp (by
    intro x2 x3 hp
    rw [eV14]
    intro ls hl
    refine lv_iload_n hx hb dX3_countLenders_14 rfl (lv_at hl 3 rfl) ?_
    refine lv_iconst (v := 4) hx hb dX3_countLenders_15 (by decide) ?_
    refine lv_icmp_ge (tgt := 107) hx hb dX3_countLenders_16 (by decide) (fun c5 => ?_) (fun c5 => ?_)
    · have hp := hp.1 c5
      refine lv_iload_n hx hb dX3_countLenders_107 rfl (lv_at hl 2 rfl) ?_
      obtain ⟨r3, hr3, hp⟩ := hp
      refine ro_S (As := [.int x2]) (rest := []) ⟨hx, hb, hml, hown, hts⟩ (c_J6_bitCount_0f7a4 l dC dI cI x2 r3 hr3) (va_cwS 1 hts gX3_countLenders_J6_bitCount_0f7a4 rfl rfl rfl (by decide +kernel) ⟨Nat.le_of_ble_eq_true rfl, Nat.le_of_ble_eq_true rfl⟩) (hP.sub [] rfl) hK hN rfl rfl hl.1 (Nat.le_of_ble_eq_true rfl) ⟨Nat.zero_le _, Nat.zero_le _⟩ dX3_countLenders_108 ?_
      exact W.iret hx hb hr (fun t ht _ => ⟨by rw [hp], ht⟩) (fun _ h => nomatch h) dX3_countLenders_111
    · have hp := hp.2 c5
      refine lv_aload_n hx hb dX3_countLenders_19 rfl (lv_at hl 0 rfl) ?_
      refine lv_iload_n hx hb dX3_countLenders_20 rfl (lv_at hl 1 rfl) ?_
      refine lv_iload_n hx hb dX3_countLenders_21 rfl (lv_at hl 3 rfl) ?_
      obtain ⟨r4, hr4, hp⟩ := hp
      refine ro_V (As := [.int a1, .int x3]) (rest := []) ⟨hx, hb, hml, hown, hts⟩ (c_X3_lack l dC dI cI q g a1 x3 r4 hr4) (cwV 2 hts gX3_countLenders_X3_lack rfl rfl rfl (by decide +kernel) ⟨Nat.le_of_ble_eq_true rfl, Nat.le_of_ble_eq_true rfl⟩) hP hK hN rfl rfl rfl rfl hl.1 (Nat.le_of_ble_eq_true rfl) ⟨Nat.zero_le _, Nat.zero_le _⟩ dX3_countLenders_22 ?_
      refine lv_istore (lv' := [(4, .int r4), (0, .ref (q 0)), (1, .int a1), (2, .int x2), (3, .int x3)]) hx hb dX3_countLenders_25 hl (by decide) rfl (fun ls hl => ?_)
      refine lv_iconst (v := 0) hx hb dX3_countLenders_27 (by decide) ?_
      refine lv_istore (lv' := [(5, .int (0 : Int32)), (4, .int r4), (0, .ref (q 0)), (1, .int a1), (2, .int x2), (3, .int x3)]) hx hb dX3_countLenders_28 hl (by decide) rfl (fun ls hl => ?_)
      rw [eV30] at hp
      exact hp _ (lv_sub hl [2, 3, 4, 5, 1, 0] rfl))
  have hp := hp (by
    intro x2 x3 x4 x5 hp
    rw [eV30]
    intro ls hl
    refine lv_iload hx hb dX3_countLenders_30 (lv_at hl 5 rfl) ?_
    refine lv_aload_n hx hb dX3_countLenders_32 rfl (lv_at hl 0 rfl) ?_
    refine va_get (D := (dC, dI)) (ci := 3) (v := .int (g 0 1)) (C := RX3) (T := TX3) (N := 11) hx hb hts iX3_countLenders_X3 hown hK hP 0 rfl rfl 1 (by decide) (hts _ kX3_countLenders_0) (fun _ h9 => h9) rfl dX3_countLenders_33 ?_
    refine lv_icmp_ge (tgt := 94) hx hb dX3_countLenders_36 (by decide) (fun c14 => ?_) (fun c14 => ?_)
    · have hp := hp.1 c14
      refine lv_iload hx hb dX3_countLenders_94 (lv_at hl 4 rfl) ?_
      refine lv_if_le (tgt := 101) hx hb dX3_countLenders_96 (by decide) (fun c6 => ?_) (fun c6 => ?_)
      · have hp := hp.1 c6
        refine lv_iinc (v := x3 + (1 : Int32)) (lv' := [(3, .int (x3 + (1 : Int32))), (0, .ref (q 0)), (1, .int a1), (2, .int x2), (4, .int x4), (5, .int x5)]) hx hb dX3_countLenders_101 hl (k := 3) rfl rfl (by decide) rfl (fun ls hl => ?_)
        refine lv_goto (tgt := 14) hx hb dX3_countLenders_104 (by decide) ?_
        rw [eV14] at hp
        exact hp _ (lv_sub hl [1, 2, 3, 0] rfl)
      · have hp := hp.2 c6
        refine lv_iconst (v := -1) hx hb dX3_countLenders_99 (by decide) ?_
        exact W.iret hx hb hr (fun t ht _ => ⟨by rw [hp], ht⟩) (fun _ h => nomatch h) dX3_countLenders_100
    · have hp := hp.2 c14
      refine lv_iload hx hb dX3_countLenders_39 (lv_at hl 4 rfl) ?_
      refine lv_if_le (tgt := 94) hx hb dX3_countLenders_41 (by decide) (fun c13 => ?_) (fun c13 => ?_)
      · have hp := hp.1 c13
        refine lv_iload hx hb dX3_countLenders_94 (lv_at hl 4 rfl) ?_
        refine lv_if_le (tgt := 101) hx hb dX3_countLenders_96 (by decide) (fun c7 => ?_) (fun c7 => ?_)
        · have hp := hp.1 c7
          refine lv_iinc (v := x3 + (1 : Int32)) (lv' := [(3, .int (x3 + (1 : Int32))), (0, .ref (q 0)), (1, .int a1), (2, .int x2), (4, .int x4), (5, .int x5)]) hx hb dX3_countLenders_101 hl (k := 3) rfl rfl (by decide) rfl (fun ls hl => ?_)
          refine lv_goto (tgt := 14) hx hb dX3_countLenders_104 (by decide) ?_
          rw [eV14] at hp
          exact hp _ (lv_sub hl [1, 2, 3, 0] rfl)
        · have hp := hp.2 c7
          refine lv_iconst (v := -1) hx hb dX3_countLenders_99 (by decide) ?_
          exact W.iret hx hb hr (fun t ht _ => ⟨by rw [hp], ht⟩) (fun _ h => nomatch h) dX3_countLenders_100
      · have hp := hp.2 c13
        refine lv_aload_n hx hb dX3_countLenders_44 rfl (lv_at hl 0 rfl) ?_
        refine lv_iload hx hb dX3_countLenders_45 (lv_at hl 5 rfl) ?_
        refine lv_iload_n hx hb dX3_countLenders_47 rfl (lv_at hl 1 rfl) ?_
        obtain ⟨r8, hr8, hp⟩ := hp
        refine ro_V (As := [.int x5, .int a1]) (rest := []) ⟨hx, hb, hml, hown, hts⟩ (c_X3_mayLend l dC dI cI q g x5 a1 r8 hr8) (cwV 2 hts gX3_countLenders_X3_mayLend rfl rfl rfl (by decide +kernel) ⟨Nat.le_of_ble_eq_true rfl, Nat.le_of_ble_eq_true rfl⟩) hP hK hN rfl rfl rfl rfl hl.1 (Nat.le_of_ble_eq_true rfl) ⟨Nat.zero_le _, Nat.zero_le _⟩ dX3_countLenders_48 ?_
        refine lv_if_eq (tgt := 88) hx hb dX3_countLenders_51 (by decide) (fun c12 => ?_) (fun c12 => ?_)
        · have hp := hp.1 c12
          refine lv_iinc (v := x5 + (1 : Int32)) (lv' := [(5, .int (x5 + (1 : Int32))), (0, .ref (q 0)), (1, .int a1), (2, .int x2), (3, .int x3), (4, .int x4)]) hx hb dX3_countLenders_88 hl (k := 5) rfl rfl (by decide) rfl (fun ls hl => ?_)
          refine lv_goto (tgt := 30) hx hb dX3_countLenders_91 (by decide) ?_
          rw [eV30] at hp
          exact hp _ (lv_sub hl [1, 2, 3, 4, 5, 0] rfl)
        · have hp := hp.2 c12
          refine lv_aload_n hx hb dX3_countLenders_54 rfl (lv_at hl 0 rfl) ?_
          refine lv_iload hx hb dX3_countLenders_55 (lv_at hl 5 rfl) ?_
          refine lv_iload_n hx hb dX3_countLenders_57 rfl (lv_at hl 3 rfl) ?_
          obtain ⟨r9, hr9, hp⟩ := hp
          refine ro_V (As := [.int x5, .int x3]) (rest := []) ⟨hx, hb, hml, hown, hts⟩ (c_X3_count l dC dI cI q g x5 x3 r9 hr9) (cwV 2 hts gX3_countLenders_X3_count rfl rfl rfl (by decide +kernel) ⟨Nat.le_of_ble_eq_true rfl, Nat.le_of_ble_eq_true rfl⟩) hP hK hN rfl rfl rfl rfl hl.1 (Nat.le_of_ble_eq_true rfl) ⟨Nat.zero_le _, Nat.zero_le _⟩ dX3_countLenders_58 ?_
          refine lv_if_le (tgt := 88) hx hb dX3_countLenders_61 (by decide) (fun c11 => ?_) (fun c11 => ?_)
          · have hp := hp.1 c11
            refine lv_iinc (v := x5 + (1 : Int32)) (lv' := [(5, .int (x5 + (1 : Int32))), (0, .ref (q 0)), (1, .int a1), (2, .int x2), (3, .int x3), (4, .int x4)]) hx hb dX3_countLenders_88 hl (k := 5) rfl rfl (by decide) rfl (fun ls hl => ?_)
            refine lv_goto (tgt := 30) hx hb dX3_countLenders_91 (by decide) ?_
            rw [eV30] at hp
            exact hp _ (lv_sub hl [1, 2, 3, 4, 5, 0] rfl)
          · have hp := hp.2 c11
            refine lv_iload_n hx hb dX3_countLenders_64 rfl (lv_at hl 2 rfl) ?_
            refine lv_iconst (v := 1) hx hb dX3_countLenders_65 (by decide) ?_
            refine lv_iload hx hb dX3_countLenders_66 (lv_at hl 5 rfl) ?_
            refine lv_ishl hx hb dX3_countLenders_68 ?_
            refine lv_ior hx hb dX3_countLenders_69 ?_
            refine lv_istore_n (lv' := [(2, .int (x2 ||| ((1 : Int32) <<< (x5 &&& 31)))), (0, .ref (q 0)), (1, .int a1), (3, .int x3), (4, .int x4), (5, .int x5)]) hx hb dX3_countLenders_70 rfl hl (by decide) rfl (fun ls hl => ?_)
            refine lv_iload hx hb dX3_countLenders_71 (lv_at hl 4 rfl) ?_
            refine lv_iload hx hb dX3_countLenders_73 (lv_at hl 4 rfl) ?_
            refine lv_aload_n hx hb dX3_countLenders_75 rfl (lv_at hl 1 rfl) ?_
            refine lv_iload hx hb dX3_countLenders_76 (lv_at hl 5 rfl) ?_
            refine lv_iload_n hx hb dX3_countLenders_78 rfl (lv_at hl 3 rfl) ?_
            obtain ⟨r10, hr10, hp⟩ := hp
            refine ro_V (As := [.int x5, .int x3]) (rest := [.int x4, .int x4]) ⟨hx, hb, hml, hown, hts⟩ (c_X3_count l dC dI cI q g x5 x3 r10 hr10) (cwV 2 hts gX3_countLenders_X3_count rfl rfl rfl (by decide +kernel) ⟨Nat.le_of_ble_eq_true rfl, Nat.le_of_ble_eq_true rfl⟩) hP hK hN rfl rfl rfl rfl hl.1 (Nat.le_of_ble_eq_true rfl) ⟨Nat.zero_le _, Nat.zero_le _⟩ dX3_countLenders_79 ?_
            refine va_mmin hx hb (hml.trans hl.1.symm) hown (hts _ kX3_countLenders_2) (hts _ kX3_countLenders_3) (hts _ kX3_countLenders_4) (hts _ kX3_countLenders_5) (Nat.le_of_ble_eq_true rfl) (Nat.le_of_ble_eq_true rfl) (Nat.zero_le _) (Nat.zero_le _) dX3_countLenders_82 ?_
            refine lv_isub hx hb dX3_countLenders_85 ?_
            refine lv_istore (lv' := [(4, .int (x4 - (if r10 < x4 then r10 else x4))), (2, .int (x2 ||| ((1 : Int32) <<< (x5 &&& 31)))), (0, .ref (q 0)), (1, .int a1), (3, .int x3), (5, .int x5)]) hx hb dX3_countLenders_86 hl (by decide) rfl (fun ls hl => ?_)
            refine lv_iinc (v := x5 + (1 : Int32)) (lv' := [(5, .int (x5 + (1 : Int32))), (4, .int (x4 - (if r10 < x4 then r10 else x4))), (2, .int (x2 ||| ((1 : Int32) <<< (x5 &&& 31)))), (0, .ref (q 0)), (1, .int a1), (3, .int x3)]) hx hb dX3_countLenders_88 hl (k := 5) rfl rfl (by decide) rfl (fun ls hl => ?_)
            refine lv_goto (tgt := 30) hx hb dX3_countLenders_91 (by decide) ?_
            rw [eV30] at hp
            exact hp _ (lv_sub hl [3, 4, 2, 5, 1, 0] rfl))
  refine lv_aload_n hx hb dX3_countLenders_0 rfl (lv_at hl 0 rfl) ?_
  refine lv_iload_n hx hb dX3_countLenders_1 rfl (lv_at hl 1 rfl) ?_
  obtain ⟨r1, hr1, hp⟩ := hp
  refine ro_V (As := [.int a1]) (rest := []) ⟨hx, hb, hml, hown, hts⟩ (c_X3_place l dC dI cI q g a1 r1 hr1) (cwV 1 hts gX3_countLenders_X3_place rfl rfl rfl (by decide +kernel) ⟨Nat.le_of_ble_eq_true rfl, Nat.le_of_ble_eq_true rfl⟩) hP hK hN rfl rfl rfl rfl hl.1 (Nat.le_of_ble_eq_true rfl) ⟨Nat.zero_le _, Nat.zero_le _⟩ dX3_countLenders_2 ?_
  refine lv_if_eq (tgt := 10) hx hb dX3_countLenders_5 (by decide) (fun c2 => ?_) (fun c2 => ?_)
  · have hp := hp.1 c2
    refine lv_iconst (v := 0) hx hb dX3_countLenders_10 (by decide) ?_
    refine lv_istore_n (lv' := [(2, .int (0 : Int32)), (0, .ref (q 0)), (1, .int a1)]) hx hb dX3_countLenders_11 rfl hl (by decide) rfl (fun ls hl => ?_)
    refine lv_iconst (v := 0) hx hb dX3_countLenders_12 (by decide) ?_
    refine lv_istore_n (lv' := [(3, .int (0 : Int32)), (2, .int (0 : Int32)), (0, .ref (q 0)), (1, .int a1)]) hx hb dX3_countLenders_13 rfl hl (by decide) rfl (fun ls hl => ?_)
    rw [eV14] at hp
    exact hp _ (lv_sub hl [2, 3, 1, 0] rfl)
  · have hp := hp.2 c2
    refine lv_iconst (v := -1) hx hb dX3_countLenders_8 (by decide) ?_
    exact W.iret hx hb hr (fun t ht _ => ⟨by rw [hp], ht⟩) (fun _ h => nomatch h) dX3_countLenders_9
theorem kX3_bestCopy_0 : (.fieldLink RX3 51 "Meeplehouse$Shelf" "copies" "I" : Cond) ∈ wsX3_bestCopy := by decide +kernel
theorem iX3_bestCopy_X3 : ∀ w ∈ wsX30, w ∈ wsX3_bestCopy := by decide +kernel
theorem kX3_bestCopy_2 : (.fieldLink RX3 29 "Meeplehouse$Shelf" "titleOf" "LMeeplehouse$Row;" : Cond) ∈ wsX3_bestCopy := by decide +kernel
def P_X3_bestCopy (g : St) (a1 : Int32) (r : Int32) : Prop := ∀ V8 : Int32 → Int32 → Int32 → Prop, ∀ V40 : Int32 → Int32 → Int32 → Int32 → Prop, (∀ x2 x3 x4 : Int32, (((g 0 1) ≤ x4 → (r = x2)) ∧ (¬ (g 0 1) ≤ x4 → ((¬ (f_at 16 (g 5) x4) = a1 → (V40 x2 x3 x4 (-1 : Int32))) ∧ ((f_at 16 (g 5) x4) = a1 → (∃ r2 : Int32, P_X3_countLenders g x4 r2 ∧ (V40 x2 x3 x4 r2)))))) → V8 x2 x3 x4) → (∀ x2 x3 x4 t0 : Int32, ((t0 = (-1 : Int32) → (V8 x2 x3 (x4 + (1 : Int32)))) ∧ (¬ t0 = (-1 : Int32) → ((x3 ≤ t0 → (V8 x2 x3 (x4 + (1 : Int32)))) ∧ (¬ x3 ≤ t0 → (V8 x4 t0 (x4 + (1 : Int32))))))) → V40 x2 x3 x4 t0) → (V8 (-1 : Int32) (16 : Int32) (0 : Int32))
set_option maxRecDepth 100000 in
set_option maxHeartbeats 4000000 in
theorem c_X3_bestCopy (l : Launch) (dC : Nat → ClassId) (dI : Nat → Nat → Nat) (cI : ClassId) (q : Nat → Nat) (g : St) (a1 : Int32) (r : Int32) (hp : P_X3_bestCopy g a1 r) : Met l yX3_bestCopy wsX3_bestCopy { frames := 3, cells := 0, slots := 0, locals := 68 } (va_Pc [.ref (q 0), .int a1] (rpS (dC, dI) vwCl [(cI, .int)] (wX3 q cI g))) (QcRead r) 0 0 (fun _ => False) := by
  refine ro_met (cc := cX3_bestCopy) (maxL := 6) (ret := (some .int)) (by decide) rfl (Nat.le_of_ble_eq_true rfl) ?_
  intro p e s m below meth c hx hb hml hr hlk hts hown hP hK hN ls hl
  have hl : lv_has ls 6 [(0, .ref (q 0)), (1, .int a1)] := hl
  obtain ⟨V8, eV8⟩ : ∃ V : Int32 → Int32 → Int32 → Prop, V = (fun x2 x3 x4 => ∀ ls : Array Slot, lv_has ls 6 [(0, .ref (q 0)), (1, .int a1), (2, .int x2), (3, .int x3), (4, .int x4)] → W p l e { frames := 3, cells := 0, slots := 0, locals := 68 } s m ([.ref (q 0), .int a1] : List Value).toArray below meth c s.heap [] 0 0 (MQ below (QcRead r) ([.ref (q 0), .int a1] : List Value).toArray s 0 0 (fun _ => False)) (F0 m 8 ls [])) := ⟨_, rfl⟩
  obtain ⟨V40, eV40⟩ : ∃ V : Int32 → Int32 → Int32 → Int32 → Prop, V = (fun x2 x3 x4 t0 => ∀ ls : Array Slot, lv_has ls 6 [(0, .ref (q 0)), (1, .int a1), (2, .int x2), (3, .int x3), (4, .int x4)] → W p l e { frames := 3, cells := 0, slots := 0, locals := 68 } s m ([.ref (q 0), .int a1] : List Value).toArray below meth c s.heap [] 0 0 (MQ below (QcRead r) ([.ref (q 0), .int a1] : List Value).toArray s 0 0 (fun _ => False)) (F0 m 40 ls [.int t0])) := ⟨_, rfl⟩
  have hp := hp V8 V40
  have hp := hp (by
    intro x2 x3 x4 hp
    rw [eV8]
    intro ls hl
    refine lv_iload hx hb dX3_bestCopy_8 (lv_at hl 4 rfl) ?_
    refine lv_aload_n hx hb dX3_bestCopy_10 rfl (lv_at hl 0 rfl) ?_
    refine va_get (D := (dC, dI)) (ci := 3) (v := .int (g 0 1)) (C := RX3) (T := TX3) (N := 11) hx hb hts iX3_bestCopy_X3 hown hK hP 0 rfl rfl 1 (by decide) (hts _ kX3_bestCopy_0) (fun _ h9 => h9) rfl dX3_bestCopy_11 ?_
    refine lv_icmp_ge (tgt := 66) hx hb dX3_bestCopy_14 (by decide) (fun c4 => ?_) (fun c4 => ?_)
    · have hp := hp.1 c4
      refine lv_iload_n hx hb dX3_bestCopy_66 rfl (lv_at hl 2 rfl) ?_
      exact W.iret hx hb hr (fun t ht _ => ⟨by rw [hp], ht⟩) (fun _ h => nomatch h) dX3_bestCopy_67
    · have hp := hp.2 c4
      refine lv_aload_n hx hb dX3_bestCopy_17 rfl (lv_at hl 0 rfl) ?_
      refine va_get (D := (dC, dI)) (ci := 3) (v := .ref (q 9)) (C := RX3) (T := TX3) (N := 11) hx hb hts iX3_bestCopy_X3 hown hK hP 0 rfl rfl 6 (by decide) (hts _ kX3_bestCopy_2) (fun _ h9 => h9) rfl dX3_bestCopy_18 ?_
      refine lv_iload hx hb dX3_bestCopy_21 (lv_at hl 4 rfl) ?_
      refine ro_V (As := [.int x4]) (rest := []) ⟨hx, hb, hml, hown, hts⟩ (c_X2_at l dC dI cI (q 9) (q 10) 16 (g 5) x4 (by decide)) (cwV 1 hts gX3_bestCopy_X2_at rfl rfl rfl (by decide +kernel) ⟨Nat.le_of_ble_eq_true rfl, Nat.le_of_ble_eq_true rfl⟩) (hP.sub [9, 10] rfl) hK hN rfl rfl rfl rfl hl.1 (Nat.le_of_ble_eq_true rfl) ⟨Nat.zero_le _, Nat.zero_le _⟩ dX3_bestCopy_23 ?_
      refine lv_iload_n hx hb dX3_bestCopy_26 rfl (lv_at hl 1 rfl) ?_
      refine lv_icmp_ne (tgt := 39) hx hb dX3_bestCopy_27 (by decide) (fun c3 => ?_) (fun c3 => ?_)
      · have hp := hp.1 c3
        refine lv_iconst (v := -1) hx hb dX3_bestCopy_39 (by decide) ?_
        rw [eV40] at hp
        exact hp _ (lv_sub hl [0, 1, 2, 3, 4] rfl)
      · have hp := hp.2 c3
        refine lv_aload_n hx hb dX3_bestCopy_30 rfl (lv_at hl 0 rfl) ?_
        refine lv_iload hx hb dX3_bestCopy_31 (lv_at hl 4 rfl) ?_
        obtain ⟨r2, hr2, hp⟩ := hp
        refine ro_V (As := [.int x4]) (rest := []) ⟨hx, hb, hml, hown, hts⟩ (c_X3_countLenders l dC dI cI q g x4 r2 hr2) (cwV 1 hts gX3_bestCopy_X3_countLenders rfl rfl rfl (by decide +kernel) ⟨Nat.le_of_ble_eq_true rfl, Nat.le_of_ble_eq_true rfl⟩) hP hK hN rfl rfl rfl rfl hl.1 (Nat.le_of_ble_eq_true rfl) ⟨Nat.zero_le _, Nat.zero_le _⟩ dX3_bestCopy_33 ?_
        refine lv_goto (tgt := 40) hx hb dX3_bestCopy_36 (by decide) ?_
        rw [eV40] at hp
        exact hp _ (lv_sub hl [0, 1, 2, 3, 4] rfl))
  have hp := hp (by
    intro x2 x3 x4 t0 hp
    rw [eV40]
    intro ls hl
    refine lv_istore (lv' := [(5, .int t0), (0, .ref (q 0)), (1, .int a1), (2, .int x2), (3, .int x3), (4, .int x4)]) hx hb dX3_bestCopy_40 hl (by decide) rfl (fun ls hl => ?_)
    refine lv_iload hx hb dX3_bestCopy_42 (lv_at hl 0 rfl) ?_
    refine lv_iconst (v := -1) hx hb dX3_bestCopy_44 (by decide) ?_
    refine lv_icmp_eq (tgt := 60) hx hb dX3_bestCopy_45 (by decide) (fun c6 => ?_) (fun c6 => ?_)
    · have hp := hp.1 c6
      refine lv_iinc (v := x4 + (1 : Int32)) (lv' := [(4, .int (x4 + (1 : Int32))), (5, .int t0), (0, .ref (q 0)), (1, .int a1), (2, .int x2), (3, .int x3)]) hx hb dX3_bestCopy_60 hl (k := 5) rfl rfl (by decide) rfl (fun ls hl => ?_)
      refine lv_goto (tgt := 8) hx hb dX3_bestCopy_63 (by decide) ?_
      rw [eV8] at hp
      exact hp _ (lv_sub hl [2, 3, 4, 5, 0] rfl)
    · have hp := hp.2 c6
      refine lv_iload hx hb dX3_bestCopy_48 (lv_at hl 0 rfl) ?_
      refine lv_iload_n hx hb dX3_bestCopy_50 rfl (lv_at hl 4 rfl) ?_
      refine lv_icmp_ge (tgt := 60) hx hb dX3_bestCopy_51 (by decide) (fun c5 => ?_) (fun c5 => ?_)
      · have hp := hp.1 c5
        refine lv_iinc (v := x4 + (1 : Int32)) (lv' := [(4, .int (x4 + (1 : Int32))), (5, .int t0), (0, .ref (q 0)), (1, .int a1), (2, .int x2), (3, .int x3)]) hx hb dX3_bestCopy_60 hl (k := 5) rfl rfl (by decide) rfl (fun ls hl => ?_)
        refine lv_goto (tgt := 8) hx hb dX3_bestCopy_63 (by decide) ?_
        rw [eV8] at hp
        exact hp _ (lv_sub hl [2, 3, 4, 5, 0] rfl)
      · have hp := hp.2 c5
        refine lv_iload hx hb dX3_bestCopy_54 (lv_at hl 5 rfl) ?_
        refine lv_istore_n (lv' := [(2, .int x4), (5, .int t0), (0, .ref (q 0)), (1, .int a1), (3, .int x3), (4, .int x4)]) hx hb dX3_bestCopy_56 rfl hl (by decide) rfl (fun ls hl => ?_)
        refine lv_iload hx hb dX3_bestCopy_57 (lv_at hl 1 rfl) ?_
        refine lv_istore_n (lv' := [(3, .int t0), (2, .int x4), (5, .int t0), (0, .ref (q 0)), (1, .int a1), (4, .int x4)]) hx hb dX3_bestCopy_59 rfl hl (by decide) rfl (fun ls hl => ?_)
        refine lv_iinc (v := x4 + (1 : Int32)) (lv' := [(4, .int (x4 + (1 : Int32))), (3, .int t0), (2, .int x4), (5, .int t0), (0, .ref (q 0)), (1, .int a1)]) hx hb dX3_bestCopy_60 hl (k := 5) rfl rfl (by decide) rfl (fun ls hl => ?_)
        refine lv_goto (tgt := 8) hx hb dX3_bestCopy_63 (by decide) ?_
        rw [eV8] at hp
        exact hp _ (lv_sub hl [4, 5, 2, 1, 0] rfl))
  refine lv_iconst (v := -1) hx hb dX3_bestCopy_0 (by decide) ?_
  refine lv_istore_n (lv' := [(2, .int (-1 : Int32)), (0, .ref (q 0)), (1, .int a1)]) hx hb dX3_bestCopy_1 rfl hl (by decide) rfl (fun ls hl => ?_)
  refine lv_bipush (v := 16) hx hb dX3_bestCopy_2 (by decide) ?_
  refine lv_istore_n (lv' := [(3, .int (16 : Int32)), (2, .int (-1 : Int32)), (0, .ref (q 0)), (1, .int a1)]) hx hb dX3_bestCopy_4 rfl hl (by decide) rfl (fun ls hl => ?_)
  refine lv_iconst (v := 0) hx hb dX3_bestCopy_5 (by decide) ?_
  refine lv_istore (lv' := [(4, .int (0 : Int32)), (3, .int (16 : Int32)), (2, .int (-1 : Int32)), (0, .ref (q 0)), (1, .int a1)]) hx hb dX3_bestCopy_6 hl (by decide) rfl (fun ls hl => ?_)
  rw [eV8] at hp
  exact hp _ (lv_sub hl [3, 4, 2, 1, 0] rfl)
theorem kX3_lend_0 : (.fieldLink RX3 35 "Meeplehouse$Shelf" "borrower" "LMeeplehouse$Row;" : Cond) ∈ wsX3_lend := by decide +kernel
theorem iX3_lend_X3 : ∀ w ∈ wsX30, w ∈ wsX3_lend := by decide +kernel
theorem kX3_lend_2 : (.fieldLink RX3 38 "Meeplehouse$Shelf" "lent" "LMeeplehouse$Row;" : Cond) ∈ wsX3_lend := by decide +kernel
def P_X3_lend (g : St) (a1 : Int32) (a2 : Int32) (a3 : Int32) (a4 : Int32) (g' : St) : Prop := (∀ g2 : St, g2 = st_put g 7 16 a1 a2 → (∀ g4 : St, g4 = st_put g2 8 64 ((a1 * (4 : Int32)) + a3) a4 → (∃ g6 : St, P_X3_change g4 a1 a3 (-a4) g6 ∧ (∃ g8 : St, P_X3_change g6 a2 a3 a4 g8 ∧ (g' = g8)))))
set_option maxRecDepth 100000 in
set_option maxHeartbeats 4000000 in
theorem c_X3_lend (l : Launch) (dC : Nat → ClassId) (dI : Nat → Nat → Nat) (cI : ClassId) (q : Nat → Nat) (g : St) (a1 : Int32) (a2 : Int32) (a3 : Int32) (a4 : Int32) (g' : St) (hp : P_X3_lend g a1 a2 a3 a4 g') (sz : Nat) : Met l yX3_lend wsX3_lend { frames := 3, cells := 0, slots := 0, locals := 66 } (va_Pc [.ref (q 0), .int a1, .int a2, .int a3, .int a4] (wpS (dC, dI) vwCl [(cI, .int)] (wX3 q cI g) sz)) (va_Qv (fun _ : Unit => True) (fun _ t => wqB (dC, dI) vwCl (wX3 q cI g') (va_A (wX3 q cI g) sz) t) (va_A (wX3 q cI g) sz)) 0 0 (va_A (wX3 q cI g) sz) := by
  refine wr_met (fun A => (va_Qv (fun _ : Unit => True) (fun _ t => wqB (dC, dI) vwCl (wX3 q cI g') A t) A)) (cc := cX3_lend) (maxL := 5) (ret := none) (by decide) rfl (Nat.le_of_ble_eq_true rfl) ?_
  intro p e s m below meth c A hx hb hml hr hlk hts hown hnm hP hK hN hD hA ls hl
  have hS : va_S A s.heap s.heap [] := va_S.rf
  have hl : lv_has ls 5 [(0, .ref (q 0)), (1, .int a1), (2, .int a2), (3, .int a3), (4, .int a4)] := hl
  unfold P_X3_lend at hp
  refine lv_aload_n hx hb dX3_lend_0 rfl (lv_at hl 0 rfl) ?_
  refine va_get (D := (dC, dI)) (ci := 3) (v := .ref (q 13)) (C := RX3) (T := TX3) (N := 11) hx hb hts iX3_lend_X3 hown hK hP 0 rfl rfl 8 (by decide) (hts _ kX3_lend_0) (fun _ h9 => h9) rfl dX3_lend_1 ?_
  refine lv_iload_n hx hb dX3_lend_4 rfl (lv_at hl 1 rfl) ?_
  refine lv_iload_n hx hb dX3_lend_5 rfl (lv_at hl 2 rfl) ?_
  refine wr_Vv (As := [.int a1, .int a2]) (rest := []) (w1 := (wX3 q cI g).take 13) (w2 := (wX3 q cI g).drop 15) (ws1 := wX3 q cI (st_put g 7 16 a1 a2)) ⟨hx, hb, hml, hown, hts⟩ (c_X2_put l dC dI cI (q 13) (q 14) 16 (g 7) a1 a2 _ (by decide)) (cwV 2 hts gX3_lend_X2_put rfl rfl rfl (by decide +kernel) ⟨Nat.le_of_ble_eq_true rfl, Nat.le_of_ble_eq_true rfl⟩) hP hD hS hA hK hN rfl rfl rfl rfl rfl rfl hl.1 (Nat.le_of_ble_eq_true rfl) ⟨Nat.zero_le _, Nat.zero_le _⟩ dX3_lend_6 (fun H locs hP hD hS => ?_)
  obtain ⟨g2, eg2⟩ : ∃ z : St, z = st_put g 7 16 a1 a2 := ⟨_, rfl⟩
  have hp := hp g2 eg2
  have hP : va_P (dC, dI) vwCl (wX3 q cI g2) H := by rw [eg2]; exact hP
  have hD : va_D A (wX3 q cI g2) := by rw [eg2]; exact hD
  refine lv_aload_n hx hb dX3_lend_9 rfl (lv_at hl 0 rfl) ?_
  refine va_get (D := (dC, dI)) (ci := 3) (v := .ref (q 15)) (C := RX3) (T := TX3) (N := 11) hx hb hts iX3_lend_X3 hown hK hP 0 rfl rfl 9 (by decide) (hts _ kX3_lend_2) (fun _ h9 => h9) rfl dX3_lend_10 ?_
  refine lv_iload_n hx hb dX3_lend_13 rfl (lv_at hl 1 rfl) ?_
  refine lv_iconst (v := 4) hx hb dX3_lend_14 (by decide) ?_
  refine lv_imul hx hb dX3_lend_15 ?_
  refine lv_iload_n hx hb dX3_lend_16 rfl (lv_at hl 3 rfl) ?_
  refine lv_iadd hx hb dX3_lend_17 ?_
  refine lv_iload hx hb dX3_lend_18 (lv_at hl 4 rfl) ?_
  refine wr_Vv (As := [.int ((a1 * (4 : Int32)) + a3), .int a4]) (rest := []) (w1 := (wX3 q cI g2).take 15) (w2 := (wX3 q cI g2).drop 17) (ws1 := wX3 q cI (st_put g2 8 64 ((a1 * (4 : Int32)) + a3) a4)) ⟨hx, hb, hml, hown, hts⟩ (c_X2_put l dC dI cI (q 15) (q 16) 64 (g2 8) ((a1 * (4 : Int32)) + a3) a4 _ (by decide)) (cwV 2 hts gX3_lend_X2_put rfl rfl rfl (by decide +kernel) ⟨Nat.le_of_ble_eq_true rfl, Nat.le_of_ble_eq_true rfl⟩) hP hD hS hA hK hN rfl rfl rfl rfl rfl rfl hl.1 (Nat.le_of_ble_eq_true rfl) ⟨Nat.zero_le _, Nat.zero_le _⟩ dX3_lend_20 (fun H locs hP hD hS => ?_)
  obtain ⟨g4, eg4⟩ : ∃ z : St, z = st_put g2 8 64 ((a1 * (4 : Int32)) + a3) a4 := ⟨_, rfl⟩
  have hp := hp g4 eg4
  have hP : va_P (dC, dI) vwCl (wX3 q cI g4) H := by rw [eg4]; exact hP
  have hD : va_D A (wX3 q cI g4) := by rw [eg4]; exact hD
  refine lv_aload_n hx hb dX3_lend_23 rfl (lv_at hl 0 rfl) ?_
  refine lv_iload_n hx hb dX3_lend_24 rfl (lv_at hl 1 rfl) ?_
  refine lv_iload_n hx hb dX3_lend_25 rfl (lv_at hl 3 rfl) ?_
  refine lv_iload hx hb dX3_lend_26 (lv_at hl 4 rfl) ?_
  refine lv_ineg hx hb dX3_lend_28 ?_
  obtain ⟨g6, hg6, hp⟩ := hp
  refine wr_Vv (As := [.int a1, .int a3, .int (-a4)]) (rest := []) (w1 := []) (w2 := []) (ws1 := wX3 q cI g6) ⟨hx, hb, hml, hown, hts⟩ (c_X3_change l dC dI cI q g4 a1 a3 (-a4) g6 hg6 _) (cwV 3 hts gX3_lend_X3_change rfl rfl rfl (by decide +kernel) ⟨Nat.le_of_ble_eq_true rfl, Nat.le_of_ble_eq_true rfl⟩) hP hD hS hA hK hN (List.append_nil _).symm (List.append_nil _) rfl rfl rfl rfl hl.1 (Nat.le_of_ble_eq_true rfl) ⟨Nat.zero_le _, Nat.zero_le _⟩ dX3_lend_29 (fun H locs hP hD hS => ?_)
  refine lv_aload_n hx hb dX3_lend_32 rfl (lv_at hl 0 rfl) ?_
  refine lv_iload_n hx hb dX3_lend_33 rfl (lv_at hl 2 rfl) ?_
  refine lv_iload_n hx hb dX3_lend_34 rfl (lv_at hl 3 rfl) ?_
  refine lv_iload hx hb dX3_lend_35 (lv_at hl 4 rfl) ?_
  obtain ⟨g8, hg8, hp⟩ := hp
  refine wr_Vv (As := [.int a2, .int a3, .int a4]) (rest := []) (w1 := []) (w2 := []) (ws1 := wX3 q cI g8) ⟨hx, hb, hml, hown, hts⟩ (c_X3_change l dC dI cI q g6 a2 a3 a4 g8 hg8 _) (cwV 3 hts gX3_lend_X3_change rfl rfl rfl (by decide +kernel) ⟨Nat.le_of_ble_eq_true rfl, Nat.le_of_ble_eq_true rfl⟩) hP hD hS hA hK hN (List.append_nil _).symm (List.append_nil _) rfl rfl rfl rfl hl.1 (Nat.le_of_ble_eq_true rfl) ⟨Nat.zero_le _, Nat.zero_le _⟩ dX3_lend_37 (fun H locs hP hD hS => ?_)
  exact W.vret hx hb hr (fun t ht _ => ⟨⟨(), rfl, trivial, by rw [ht, hp]; exact hP, by rw [hp]; exact hD⟩, hS.F ht⟩) hS.2.2 dX3_lend_40
theorem kX3_handOut_0 : (.fieldLink RX3 32 "Meeplehouse$Shelf" "holder" "LMeeplehouse$Row;" : Cond) ∈ wsX3_handOut := by decide +kernel
theorem iX3_handOut_X3 : ∀ w ∈ wsX30, w ∈ wsX3_handOut := by decide +kernel
theorem kX3_handOut_2 : (.fieldLink RX3 51 "Meeplehouse$Shelf" "copies" "I" : Cond) ∈ wsX3_handOut := by decide +kernel
theorem kX3_handOut_3 : (.methodLink RX3 81 Lib.Math.min.name : Cond) ∈ wsX3_handOut := by decide +kernel
theorem kX3_handOut_4 : (.static Lib.Math.min.name : Cond) ∈ wsX3_handOut := by decide +kernel
theorem kX3_handOut_5 : (.initialized "java/lang/Math" : Cond) ∈ wsX3_handOut := by decide +kernel
theorem kX3_handOut_6 : (.code Lib.Math.min.name Lib.Math.min.code 2 (some .int) : Cond) ∈ wsX3_handOut := by decide +kernel
def P_X3_handOut (g : St) (a1 : Int32) (a2 : Int32) (g' : St) : Prop := ∀ V2 : St → Int32 → Prop, ∀ V10 : St → Int32 → Int32 → Prop, (∀ gv : St, ∀ x3 : Int32, (((4 : Int32) ≤ x3 → (∀ g2 : St, g2 = st_put gv 6 16 a1 a2 → (g' = g2))) ∧ (¬ (4 : Int32) ≤ x3 → (V10 gv x3 (0 : Int32)))) → V2 gv x3) → (∀ gv : St, ∀ x3 x4 : Int32, (((gv 0 1) ≤ x4 → (V2 gv (x3 + (1 : Int32)))) ∧ (¬ (gv 0 1) ≤ x4 → (∃ r4 : Int32, P_X3_lack gv a1 x3 r4 ∧ (∃ r5 : Int32, P_X3_count gv x4 x3 r5 ∧ (∃ r6 : Int32, P_X3_mayLend gv x4 a1 r6 ∧ ((r6 = 0 → (V10 gv x3 (x4 + (1 : Int32)))) ∧ (¬ r6 = 0 → (((if r5 < r4 then r5 else r4) ≤ 0 → (V10 gv x3 (x4 + (1 : Int32)))) ∧ (¬ (if r5 < r4 then r5 else r4) ≤ 0 → (∃ g8 : St, P_X3_lend gv x4 a1 x3 (if r5 < r4 then r5 else r4) g8 ∧ (V10 g8 x3 (x4 + (1 : Int32))))))))))))) → V10 gv x3 x4) → (V2 g (0 : Int32))
set_option maxRecDepth 100000 in
set_option maxHeartbeats 4000000 in
theorem c_X3_handOut (l : Launch) (dC : Nat → ClassId) (dI : Nat → Nat → Nat) (cI : ClassId) (q : Nat → Nat) (g : St) (a1 : Int32) (a2 : Int32) (g' : St) (hp : P_X3_handOut g a1 a2 g') (sz : Nat) : Met l yX3_handOut wsX3_handOut { frames := 4, cells := 0, slots := 0, locals := 90 } (va_Pc [.ref (q 0), .int a1, .int a2] (wpS (dC, dI) vwCl [(cI, .int)] (wX3 q cI g) sz)) (va_Qv (fun _ : Unit => True) (fun _ t => wqB (dC, dI) vwCl (wX3 q cI g') (va_A (wX3 q cI g) sz) t) (va_A (wX3 q cI g) sz)) 0 0 (va_A (wX3 q cI g) sz) := by
  refine wr_met (fun A => (va_Qv (fun _ : Unit => True) (fun _ t => wqB (dC, dI) vwCl (wX3 q cI g') A t) A)) (cc := cX3_handOut) (maxL := 6) (ret := none) (by decide) rfl (Nat.le_of_ble_eq_true rfl) ?_
  intro p e s m below meth c A hx hb hml hr hlk hts hown hnm hP hK hN hD hA ls hl
  have hS : va_S A s.heap s.heap [] := va_S.rf
  have hl : lv_has ls 6 [(0, .ref (q 0)), (1, .int a1), (2, .int a2)] := hl
  obtain ⟨V2, eV2⟩ : ∃ V : St → Int32 → Prop, V = (fun gv x3 => ∀ (H : Heap) (locs : List Loc) (ls : Array Slot), va_P (dC, dI) vwCl (wX3 q cI gv) H → va_D A (wX3 q cI gv) → va_S A s.heap H locs → lv_has ls 6 [(0, .ref (q 0)), (1, .int a1), (2, .int a2), (3, .int x3)] → W p l e { frames := 4, cells := 0, slots := 0, locals := 90 } s m ([.ref (q 0), .int a1, .int a2] : List Value).toArray below meth c H locs 0 0 (MQ below (va_Qv (fun _ : Unit => True) (fun _ t => wqB (dC, dI) vwCl (wX3 q cI g') A t) A) ([.ref (q 0), .int a1, .int a2] : List Value).toArray s 0 0 A) (F0 m 2 ls [])) := ⟨_, rfl⟩
  obtain ⟨V10, eV10⟩ : ∃ V : St → Int32 → Int32 → Prop, V = (fun gv x3 x4 => ∀ (H : Heap) (locs : List Loc) (ls : Array Slot), va_P (dC, dI) vwCl (wX3 q cI gv) H → va_D A (wX3 q cI gv) → va_S A s.heap H locs → lv_has ls 6 [(0, .ref (q 0)), (1, .int a1), (2, .int a2), (3, .int x3), (4, .int x4)] → W p l e { frames := 4, cells := 0, slots := 0, locals := 90 } s m ([.ref (q 0), .int a1, .int a2] : List Value).toArray below meth c H locs 0 0 (MQ below (va_Qv (fun _ : Unit => True) (fun _ t => wqB (dC, dI) vwCl (wX3 q cI g') A t) A) ([.ref (q 0), .int a1, .int a2] : List Value).toArray s 0 0 A) (F0 m 10 ls [])) := ⟨_, rfl⟩
  have hp := hp V2 V10
  have hp := hp (by
    intro gv x3 hp
    rw [eV2]
    intro H locs ls hP hD hS hl
    refine lv_iload_n hx hb dX3_handOut_2 rfl (lv_at hl 3 rfl) ?_
    refine lv_iconst (v := 4) hx hb dX3_handOut_3 (by decide) ?_
    refine lv_icmp_ge (tgt := 74) hx hb dX3_handOut_4 (by decide) (fun c3 => ?_) (fun c3 => ?_)
    · have hp := hp.1 c3
      refine lv_aload_n hx hb dX3_handOut_74 rfl (lv_at hl 0 rfl) ?_
      refine va_get (D := (dC, dI)) (ci := 3) (v := .ref (q 11)) (C := RX3) (T := TX3) (N := 11) hx hb hts iX3_handOut_X3 hown hK hP 0 rfl rfl 7 (by decide) (hts _ kX3_handOut_0) (fun _ h9 => h9) rfl dX3_handOut_75 ?_
      refine lv_iload_n hx hb dX3_handOut_78 rfl (lv_at hl 1 rfl) ?_
      refine lv_iload_n hx hb dX3_handOut_79 rfl (lv_at hl 2 rfl) ?_
      refine wr_Vv (As := [.int a1, .int a2]) (rest := []) (w1 := (wX3 q cI gv).take 11) (w2 := (wX3 q cI gv).drop 13) (ws1 := wX3 q cI (st_put gv 6 16 a1 a2)) ⟨hx, hb, hml, hown, hts⟩ (c_X2_put l dC dI cI (q 11) (q 12) 16 (gv 6) a1 a2 _ (by decide)) (cwV 2 hts gX3_handOut_X2_put rfl rfl rfl (by decide +kernel) ⟨Nat.le_of_ble_eq_true rfl, Nat.le_of_ble_eq_true rfl⟩) hP hD hS hA hK hN rfl rfl rfl rfl rfl rfl hl.1 (Nat.le_of_ble_eq_true rfl) ⟨Nat.zero_le _, Nat.zero_le _⟩ dX3_handOut_80 (fun H locs hP hD hS => ?_)
      obtain ⟨g2, eg2⟩ : ∃ z : St, z = st_put gv 6 16 a1 a2 := ⟨_, rfl⟩
      have hp := hp g2 eg2
      have hP : va_P (dC, dI) vwCl (wX3 q cI g2) H := by rw [eg2]; exact hP
      have hD : va_D A (wX3 q cI g2) := by rw [eg2]; exact hD
      exact W.vret hx hb hr (fun t ht _ => ⟨⟨(), rfl, trivial, by rw [ht, hp]; exact hP, by rw [hp]; exact hD⟩, hS.F ht⟩) hS.2.2 dX3_handOut_83
    · have hp := hp.2 c3
      refine lv_iconst (v := 0) hx hb dX3_handOut_7 (by decide) ?_
      refine lv_istore (lv' := [(4, .int (0 : Int32)), (0, .ref (q 0)), (1, .int a1), (2, .int a2), (3, .int x3)]) hx hb dX3_handOut_8 hl (by decide) rfl (fun ls hl => ?_)
      rw [eV10] at hp
      exact hp _ _ _ hP hD hS (lv_sub hl [1, 2, 3, 4, 0] rfl))
  have hp := hp (by
    intro gv x3 x4 hp
    rw [eV10]
    intro H locs ls hP hD hS hl
    refine lv_iload hx hb dX3_handOut_10 (lv_at hl 4 rfl) ?_
    refine lv_aload_n hx hb dX3_handOut_12 rfl (lv_at hl 0 rfl) ?_
    refine va_get (D := (dC, dI)) (ci := 3) (v := .int (gv 0 1)) (C := RX3) (T := TX3) (N := 11) hx hb hts iX3_handOut_X3 hown hK hP 0 rfl rfl 1 (by decide) (hts _ kX3_handOut_2) (fun _ h9 => h9) rfl dX3_handOut_13 ?_
    refine lv_icmp_ge (tgt := 68) hx hb dX3_handOut_16 (by decide) (fun c11 => ?_) (fun c11 => ?_)
    · have hp := hp.1 c11
      refine lv_iinc (v := x3 + (1 : Int32)) (lv' := [(3, .int (x3 + (1 : Int32))), (0, .ref (q 0)), (1, .int a1), (2, .int a2), (4, .int x4)]) hx hb dX3_handOut_68 hl (k := 3) rfl rfl (by decide) rfl (fun ls hl => ?_)
      refine lv_goto (tgt := 2) hx hb dX3_handOut_71 (by decide) ?_
      rw [eV2] at hp
      exact hp _ _ _ hP hD hS (lv_sub hl [1, 2, 3, 0] rfl)
    · have hp := hp.2 c11
      refine lv_aload_n hx hb dX3_handOut_19 rfl (lv_at hl 0 rfl) ?_
      refine lv_iload_n hx hb dX3_handOut_20 rfl (lv_at hl 1 rfl) ?_
      refine lv_iload_n hx hb dX3_handOut_21 rfl (lv_at hl 3 rfl) ?_
      obtain ⟨r4, hr4, hp⟩ := hp
      refine ro_V (As := [.int a1, .int x3]) (rest := []) ⟨hx, hb, hml, hown, hts⟩ (c_X3_lack l dC dI cI q gv a1 x3 r4 hr4) (cwV 2 hts gX3_handOut_X3_lack rfl rfl rfl (by decide +kernel) ⟨Nat.le_of_ble_eq_true rfl, Nat.le_of_ble_eq_true rfl⟩) hP hK hN rfl rfl rfl rfl hl.1 (Nat.le_of_ble_eq_true rfl) ⟨Nat.zero_le _, Nat.zero_le _⟩ dX3_handOut_22 ?_
      refine lv_aload_n hx hb dX3_handOut_25 rfl (lv_at hl 0 rfl) ?_
      refine lv_iload hx hb dX3_handOut_26 (lv_at hl 4 rfl) ?_
      refine lv_iload_n hx hb dX3_handOut_28 rfl (lv_at hl 3 rfl) ?_
      obtain ⟨r5, hr5, hp⟩ := hp
      refine ro_V (As := [.int x4, .int x3]) (rest := [.int r4]) ⟨hx, hb, hml, hown, hts⟩ (c_X3_count l dC dI cI q gv x4 x3 r5 hr5) (cwV 2 hts gX3_handOut_X3_count rfl rfl rfl (by decide +kernel) ⟨Nat.le_of_ble_eq_true rfl, Nat.le_of_ble_eq_true rfl⟩) hP hK hN rfl rfl rfl rfl hl.1 (Nat.le_of_ble_eq_true rfl) ⟨Nat.zero_le _, Nat.zero_le _⟩ dX3_handOut_29 ?_
      refine va_mmin hx hb (hml.trans hl.1.symm) hown (hts _ kX3_handOut_3) (hts _ kX3_handOut_4) (hts _ kX3_handOut_5) (hts _ kX3_handOut_6) (Nat.le_of_ble_eq_true rfl) (Nat.le_of_ble_eq_true rfl) (Nat.zero_le _) (Nat.zero_le _) dX3_handOut_32 ?_
      refine lv_istore (lv' := [(5, .int (if r5 < r4 then r5 else r4)), (0, .ref (q 0)), (1, .int a1), (2, .int a2), (3, .int x3), (4, .int x4)]) hx hb dX3_handOut_35 hl (by decide) rfl (fun ls hl => ?_)
      refine lv_aload_n hx hb dX3_handOut_37 rfl (lv_at hl 1 rfl) ?_
      refine lv_iload hx hb dX3_handOut_38 (lv_at hl 5 rfl) ?_
      refine lv_iload_n hx hb dX3_handOut_40 rfl (lv_at hl 2 rfl) ?_
      obtain ⟨r6, hr6, hp⟩ := hp
      refine ro_V (As := [.int x4, .int a1]) (rest := []) ⟨hx, hb, hml, hown, hts⟩ (c_X3_mayLend l dC dI cI q gv x4 a1 r6 hr6) (cwV 2 hts gX3_handOut_X3_mayLend rfl rfl rfl (by decide +kernel) ⟨Nat.le_of_ble_eq_true rfl, Nat.le_of_ble_eq_true rfl⟩) hP hK hN rfl rfl rfl rfl hl.1 (Nat.le_of_ble_eq_true rfl) ⟨Nat.zero_le _, Nat.zero_le _⟩ dX3_handOut_41 ?_
      refine lv_if_eq (tgt := 62) hx hb dX3_handOut_44 (by decide) (fun c10 => ?_) (fun c10 => ?_)
      · have hp := hp.1 c10
        refine lv_iinc (v := x4 + (1 : Int32)) (lv' := [(4, .int (x4 + (1 : Int32))), (5, .int (if r5 < r4 then r5 else r4)), (0, .ref (q 0)), (1, .int a1), (2, .int a2), (3, .int x3)]) hx hb dX3_handOut_62 hl (k := 5) rfl rfl (by decide) rfl (fun ls hl => ?_)
        refine lv_goto (tgt := 10) hx hb dX3_handOut_65 (by decide) ?_
        rw [eV10] at hp
        exact hp _ _ _ hP hD hS (lv_sub hl [2, 3, 4, 5, 0] rfl)
      · have hp := hp.2 c10
        refine lv_iload hx hb dX3_handOut_47 (lv_at hl 0 rfl) ?_
        refine lv_if_le (tgt := 62) hx hb dX3_handOut_49 (by decide) (fun c9 => ?_) (fun c9 => ?_)
        · have hp := hp.1 c9
          refine lv_iinc (v := x4 + (1 : Int32)) (lv' := [(4, .int (x4 + (1 : Int32))), (5, .int (if r5 < r4 then r5 else r4)), (0, .ref (q 0)), (1, .int a1), (2, .int a2), (3, .int x3)]) hx hb dX3_handOut_62 hl (k := 5) rfl rfl (by decide) rfl (fun ls hl => ?_)
          refine lv_goto (tgt := 10) hx hb dX3_handOut_65 (by decide) ?_
          rw [eV10] at hp
          exact hp _ _ _ hP hD hS (lv_sub hl [2, 3, 4, 5, 0] rfl)
        · have hp := hp.2 c9
          refine lv_aload_n hx hb dX3_handOut_52 rfl (lv_at hl 1 rfl) ?_
          refine lv_iload hx hb dX3_handOut_53 (lv_at hl 5 rfl) ?_
          refine lv_iload_n hx hb dX3_handOut_55 rfl (lv_at hl 2 rfl) ?_
          refine lv_iload_n hx hb dX3_handOut_56 rfl (lv_at hl 4 rfl) ?_
          refine lv_iload hx hb dX3_handOut_57 (lv_at hl 0 rfl) ?_
          obtain ⟨g8, hg8, hp⟩ := hp
          refine wr_Vv (As := [.int x4, .int a1, .int x3, .int (if r5 < r4 then r5 else r4)]) (rest := []) (w1 := []) (w2 := []) (ws1 := wX3 q cI g8) ⟨hx, hb, hml, hown, hts⟩ (c_X3_lend l dC dI cI q gv x4 a1 x3 (if r5 < r4 then r5 else r4) g8 hg8 _) (cwV 4 hts gX3_handOut_X3_lend rfl rfl rfl (by decide +kernel) ⟨Nat.le_of_ble_eq_true rfl, Nat.le_of_ble_eq_true rfl⟩) hP hD hS hA hK hN (List.append_nil _).symm (List.append_nil _) rfl rfl rfl rfl hl.1 (Nat.le_of_ble_eq_true rfl) ⟨Nat.zero_le _, Nat.zero_le _⟩ dX3_handOut_59 (fun H locs hP hD hS => ?_)
          refine lv_iinc (v := x4 + (1 : Int32)) (lv' := [(4, .int (x4 + (1 : Int32))), (5, .int (if r5 < r4 then r5 else r4)), (0, .ref (q 0)), (1, .int a1), (2, .int a2), (3, .int x3)]) hx hb dX3_handOut_62 hl (k := 5) rfl rfl (by decide) rfl (fun ls hl => ?_)
          refine lv_goto (tgt := 10) hx hb dX3_handOut_65 (by decide) ?_
          rw [eV10] at hp
          exact hp _ _ _ hP hD hS (lv_sub hl [2, 3, 4, 5, 0] rfl))
  refine lv_iconst (v := 0) hx hb dX3_handOut_0 (by decide) ?_
  refine lv_istore_n (lv' := [(3, .int (0 : Int32)), (0, .ref (q 0)), (1, .int a1), (2, .int a2)]) hx hb dX3_handOut_1 rfl hl (by decide) rfl (fun ls hl => ?_)
  rw [eV2] at hp
  exact hp _ _ _ hP hD hS (lv_sub hl [1, 2, 3, 0] rfl)
theorem kX3_closeLoans_0 : (.fieldLink RX3 51 "Meeplehouse$Shelf" "copies" "I" : Cond) ∈ wsX3_closeLoans := by decide +kernel
theorem iX3_closeLoans_X3 : ∀ w ∈ wsX30, w ∈ wsX3_closeLoans := by decide +kernel
theorem kX3_closeLoans_2 : (.fieldLink RX3 38 "Meeplehouse$Shelf" "lent" "LMeeplehouse$Row;" : Cond) ∈ wsX3_closeLoans := by decide +kernel
theorem kX3_closeLoans_3 : (.fieldLink RX3 35 "Meeplehouse$Shelf" "borrower" "LMeeplehouse$Row;" : Cond) ∈ wsX3_closeLoans := by decide +kernel
theorem kX3_closeLoans_4 : (.methodLink RX3 81 Lib.Math.min.name : Cond) ∈ wsX3_closeLoans := by decide +kernel
theorem kX3_closeLoans_5 : (.static Lib.Math.min.name : Cond) ∈ wsX3_closeLoans := by decide +kernel
theorem kX3_closeLoans_6 : (.initialized "java/lang/Math" : Cond) ∈ wsX3_closeLoans := by decide +kernel
theorem kX3_closeLoans_7 : (.code Lib.Math.min.name Lib.Math.min.code 2 (some .int) : Cond) ∈ wsX3_closeLoans := by decide +kernel
def P_X3_closeLoans (g : St) (a1 : Int32) (r : Int32) (g' : St) : Prop := ∀ V4 : St → Int32 → Int32 → Prop, ∀ V16 : St → Int32 → Int32 → Int32 → Prop, (∀ gv : St, ∀ x2 x3 : Int32, ((x3 < 0 → (r = x2 ∧ g' = gv)) ∧ (¬ x3 < 0 → (V16 gv x2 x3 ((gv 0 1) - (1 : Int32))))) → V4 gv x2 x3) → (∀ gv : St, ∀ x2 x3 x4 : Int32, ((x4 < 0 → (V4 gv x2 (x3 + (-1 : Int32)))) ∧ (¬ x4 < 0 → ((¬ (f_at 16 (gv 7) x4) = a1 → (V16 gv x2 x3 (x4 + (-1 : Int32)))) ∧ ((f_at 16 (gv 7) x4) = a1 → (((f_at 64 (gv 8) ((x4 * (4 : Int32)) + x3)) ≤ 0 → (V16 gv x2 x3 (x4 + (-1 : Int32)))) ∧ (¬ (f_at 64 (gv 8) ((x4 * (4 : Int32)) + x3)) ≤ 0 → (∃ r4 : Int32, P_X3_count gv a1 x3 r4 ∧ (∀ y5 : Int32, y5 = (if r4 < (f_at 64 (gv 8) ((x4 * (4 : Int32)) + x3)) then r4 else (f_at 64 (gv 8) ((x4 * (4 : Int32)) + x3))) → (∃ g7 : St, P_X3_change gv a1 x3 (-y5) g7 ∧ (∃ g9 : St, P_X3_change g7 x4 x3 y5 g9 ∧ (∀ g11 : St, g11 = st_put g9 8 64 ((x4 * (4 : Int32)) + x3) (0 : Int32) → (V16 g11 (x2 + (1 : Int32)) x3 (x4 + (-1 : Int32)))))))))))))) → V16 gv x2 x3 x4) → (V4 g (0 : Int32) (3 : Int32))
set_option maxRecDepth 100000 in
set_option maxHeartbeats 4000000 in
theorem c_X3_closeLoans (l : Launch) (dC : Nat → ClassId) (dI : Nat → Nat → Nat) (cI : ClassId) (q : Nat → Nat) (g : St) (a1 : Int32) (r : Int32) (g' : St) (hp : P_X3_closeLoans g a1 r g') (sz : Nat) : Met l yX3_closeLoans wsX3_closeLoans { frames := 3, cells := 0, slots := 0, locals := 66 } (va_Pc [.ref (q 0), .int a1] (wpS (dC, dI) vwCl [(cI, .int)] (wX3 q cI g) sz)) (va_Qi (fun (r' : Int32) (_ : Unit) => r' = r) (fun _ t => wqB (dC, dI) vwCl (wX3 q cI g') (va_A (wX3 q cI g) sz) t) (va_A (wX3 q cI g) sz)) 0 0 (va_A (wX3 q cI g) sz) := by
  refine wr_met (fun A => (va_Qi (fun (r' : Int32) (_ : Unit) => r' = r) (fun _ t => wqB (dC, dI) vwCl (wX3 q cI g') A t) A)) (cc := cX3_closeLoans) (maxL := 7) (ret := (some .int)) (by decide) rfl (Nat.le_of_ble_eq_true rfl) ?_
  intro p e s m below meth c A hx hb hml hr hlk hts hown hnm hP hK hN hD hA ls hl
  have hS : va_S A s.heap s.heap [] := va_S.rf
  have hl : lv_has ls 7 [(0, .ref (q 0)), (1, .int a1)] := hl
  obtain ⟨V4, eV4⟩ : ∃ V : St → Int32 → Int32 → Prop, V = (fun gv x2 x3 => ∀ (H : Heap) (locs : List Loc) (ls : Array Slot), va_P (dC, dI) vwCl (wX3 q cI gv) H → va_D A (wX3 q cI gv) → va_S A s.heap H locs → lv_has ls 7 [(0, .ref (q 0)), (1, .int a1), (2, .int x2), (3, .int x3)] → W p l e { frames := 3, cells := 0, slots := 0, locals := 66 } s m ([.ref (q 0), .int a1] : List Value).toArray below meth c H locs 0 0 (MQ below (va_Qi (fun (r' : Int32) (_ : Unit) => r' = r) (fun _ t => wqB (dC, dI) vwCl (wX3 q cI g') A t) A) ([.ref (q 0), .int a1] : List Value).toArray s 0 0 A) (F0 m 4 ls [])) := ⟨_, rfl⟩
  obtain ⟨V16, eV16⟩ : ∃ V : St → Int32 → Int32 → Int32 → Prop, V = (fun gv x2 x3 x4 => ∀ (H : Heap) (locs : List Loc) (ls : Array Slot), va_P (dC, dI) vwCl (wX3 q cI gv) H → va_D A (wX3 q cI gv) → va_S A s.heap H locs → lv_has ls 7 [(0, .ref (q 0)), (1, .int a1), (2, .int x2), (3, .int x3), (4, .int x4)] → W p l e { frames := 3, cells := 0, slots := 0, locals := 66 } s m ([.ref (q 0), .int a1] : List Value).toArray below meth c H locs 0 0 (MQ below (va_Qi (fun (r' : Int32) (_ : Unit) => r' = r) (fun _ t => wqB (dC, dI) vwCl (wX3 q cI g') A t) A) ([.ref (q 0), .int a1] : List Value).toArray s 0 0 A) (F0 m 16 ls [])) := ⟨_, rfl⟩
  have hp := hp V4 V16
  have hp := hp (by
    intro gv x2 x3 hp
    rw [eV4]
    intro H locs ls hP hD hS hl
    refine lv_iload_n hx hb dX3_closeLoans_4 rfl (lv_at hl 3 rfl) ?_
    refine lv_if_lt (tgt := 114) hx hb dX3_closeLoans_5 (by decide) (fun c1 => ?_) (fun c1 => ?_)
    · have hp := hp.1 c1
      refine lv_iload_n hx hb dX3_closeLoans_114 rfl (lv_at hl 2 rfl) ?_
      exact W.iret hx hb hr (fun t ht _ => ⟨⟨_, (), rfl, hp.1.symm, by rw [ht, hp.2]; exact hP, by rw [hp.2]; exact hD⟩, hS.F ht⟩) hS.2.2 dX3_closeLoans_115
    · have hp := hp.2 c1
      refine lv_aload_n hx hb dX3_closeLoans_8 rfl (lv_at hl 0 rfl) ?_
      refine va_get (D := (dC, dI)) (ci := 3) (v := .int (gv 0 1)) (C := RX3) (T := TX3) (N := 11) hx hb hts iX3_closeLoans_X3 hown hK hP 0 rfl rfl 1 (by decide) (hts _ kX3_closeLoans_0) (fun _ h9 => h9) rfl dX3_closeLoans_9 ?_
      refine lv_iconst (v := 1) hx hb dX3_closeLoans_12 (by decide) ?_
      refine lv_isub hx hb dX3_closeLoans_13 ?_
      refine lv_istore (lv' := [(4, .int ((gv 0 1) - (1 : Int32))), (0, .ref (q 0)), (1, .int a1), (2, .int x2), (3, .int x3)]) hx hb dX3_closeLoans_14 hl (by decide) rfl (fun ls hl => ?_)
      rw [eV16] at hp
      exact hp _ _ _ hP hD hS (lv_sub hl [1, 2, 3, 4, 0] rfl))
  have hp := hp (by
    intro gv x2 x3 x4 hp
    rw [eV16]
    intro H locs ls hP hD hS hl
    refine lv_iload hx hb dX3_closeLoans_16 (lv_at hl 4 rfl) ?_
    refine lv_if_lt (tgt := 108) hx hb dX3_closeLoans_18 (by decide) (fun c14 => ?_) (fun c14 => ?_)
    · have hp := hp.1 c14
      refine lv_iinc (v := x3 + (-1 : Int32)) (lv' := [(3, .int (x3 + (-1 : Int32))), (0, .ref (q 0)), (1, .int a1), (2, .int x2), (4, .int x4)]) hx hb dX3_closeLoans_108 hl (k := 3) rfl rfl (by decide) rfl (fun ls hl => ?_)
      refine lv_goto (tgt := 4) hx hb dX3_closeLoans_111 (by decide) ?_
      rw [eV4] at hp
      exact hp _ _ _ hP hD hS (lv_sub hl [1, 2, 3, 0] rfl)
    · have hp := hp.2 c14
      refine lv_aload_n hx hb dX3_closeLoans_21 rfl (lv_at hl 0 rfl) ?_
      refine va_get (D := (dC, dI)) (ci := 3) (v := .ref (q 15)) (C := RX3) (T := TX3) (N := 11) hx hb hts iX3_closeLoans_X3 hown hK hP 0 rfl rfl 9 (by decide) (hts _ kX3_closeLoans_2) (fun _ h9 => h9) rfl dX3_closeLoans_22 ?_
      refine lv_iload hx hb dX3_closeLoans_25 (lv_at hl 4 rfl) ?_
      refine lv_iconst (v := 4) hx hb dX3_closeLoans_27 (by decide) ?_
      refine lv_imul hx hb dX3_closeLoans_28 ?_
      refine lv_iload_n hx hb dX3_closeLoans_29 rfl (lv_at hl 3 rfl) ?_
      refine lv_iadd hx hb dX3_closeLoans_30 ?_
      refine ro_V (As := [.int ((x4 * (4 : Int32)) + x3)]) (rest := []) ⟨hx, hb, hml, hown, hts⟩ (c_X2_at l dC dI cI (q 15) (q 16) 64 (gv 8) ((x4 * (4 : Int32)) + x3) (by decide)) (cwV 1 hts gX3_closeLoans_X2_at rfl rfl rfl (by decide +kernel) ⟨Nat.le_of_ble_eq_true rfl, Nat.le_of_ble_eq_true rfl⟩) (hP.sub [15, 16] rfl) hK hN rfl rfl rfl rfl hl.1 (Nat.le_of_ble_eq_true rfl) ⟨Nat.zero_le _, Nat.zero_le _⟩ dX3_closeLoans_31 ?_
      refine lv_istore (lv' := [(5, .int (f_at 64 (gv 8) ((x4 * (4 : Int32)) + x3))), (0, .ref (q 0)), (1, .int a1), (2, .int x2), (3, .int x3), (4, .int x4)]) hx hb dX3_closeLoans_34 hl (by decide) rfl (fun ls hl => ?_)
      refine lv_aload_n hx hb dX3_closeLoans_36 rfl (lv_at hl 1 rfl) ?_
      refine va_get (D := (dC, dI)) (ci := 3) (v := .ref (q 13)) (C := RX3) (T := TX3) (N := 11) hx hb hts iX3_closeLoans_X3 hown hK hP 0 rfl rfl 8 (by decide) (hts _ kX3_closeLoans_3) (fun _ h9 => h9) rfl dX3_closeLoans_37 ?_
      refine lv_iload hx hb dX3_closeLoans_40 (lv_at hl 5 rfl) ?_
      refine ro_V (As := [.int x4]) (rest := []) ⟨hx, hb, hml, hown, hts⟩ (c_X2_at l dC dI cI (q 13) (q 14) 16 (gv 7) x4 (by decide)) (cwV 1 hts gX3_closeLoans_X2_at rfl rfl rfl (by decide +kernel) ⟨Nat.le_of_ble_eq_true rfl, Nat.le_of_ble_eq_true rfl⟩) (hP.sub [13, 14] rfl) hK hN rfl rfl rfl rfl hl.1 (Nat.le_of_ble_eq_true rfl) ⟨Nat.zero_le _, Nat.zero_le _⟩ dX3_closeLoans_42 ?_
      refine lv_iload_n hx hb dX3_closeLoans_45 rfl (lv_at hl 2 rfl) ?_
      refine lv_icmp_ne (tgt := 102) hx hb dX3_closeLoans_46 (by decide) (fun c13 => ?_) (fun c13 => ?_)
      · have hp := hp.1 c13
        refine lv_iinc (v := x4 + (-1 : Int32)) (lv' := [(4, .int (x4 + (-1 : Int32))), (5, .int (f_at 64 (gv 8) ((x4 * (4 : Int32)) + x3))), (0, .ref (q 0)), (1, .int a1), (2, .int x2), (3, .int x3)]) hx hb dX3_closeLoans_102 hl (k := 5) rfl rfl (by decide) rfl (fun ls hl => ?_)
        refine lv_goto (tgt := 16) hx hb dX3_closeLoans_105 (by decide) ?_
        rw [eV16] at hp
        exact hp _ _ _ hP hD hS (lv_sub hl [2, 3, 4, 5, 0] rfl)
      · have hp := hp.2 c13
        refine lv_iload hx hb dX3_closeLoans_49 (lv_at hl 0 rfl) ?_
        refine lv_if_le (tgt := 102) hx hb dX3_closeLoans_51 (by decide) (fun c12 => ?_) (fun c12 => ?_)
        · have hp := hp.1 c12
          refine lv_iinc (v := x4 + (-1 : Int32)) (lv' := [(4, .int (x4 + (-1 : Int32))), (5, .int (f_at 64 (gv 8) ((x4 * (4 : Int32)) + x3))), (0, .ref (q 0)), (1, .int a1), (2, .int x2), (3, .int x3)]) hx hb dX3_closeLoans_102 hl (k := 5) rfl rfl (by decide) rfl (fun ls hl => ?_)
          refine lv_goto (tgt := 16) hx hb dX3_closeLoans_105 (by decide) ?_
          rw [eV16] at hp
          exact hp _ _ _ hP hD hS (lv_sub hl [2, 3, 4, 5, 0] rfl)
        · have hp := hp.2 c12
          refine lv_iload hx hb dX3_closeLoans_54 (lv_at hl 0 rfl) ?_
          refine lv_aload_n hx hb dX3_closeLoans_56 rfl (lv_at hl 1 rfl) ?_
          refine lv_iload_n hx hb dX3_closeLoans_57 rfl (lv_at hl 2 rfl) ?_
          refine lv_iload_n hx hb dX3_closeLoans_58 rfl (lv_at hl 4 rfl) ?_
          obtain ⟨r4, hr4, hp⟩ := hp
          refine ro_V (As := [.int a1, .int x3]) (rest := [.int (f_at 64 (gv 8) ((x4 * (4 : Int32)) + x3))]) ⟨hx, hb, hml, hown, hts⟩ (c_X3_count l dC dI cI q gv a1 x3 r4 hr4) (cwV 2 hts gX3_closeLoans_X3_count rfl rfl rfl (by decide +kernel) ⟨Nat.le_of_ble_eq_true rfl, Nat.le_of_ble_eq_true rfl⟩) hP hK hN rfl rfl rfl rfl hl.1 (Nat.le_of_ble_eq_true rfl) ⟨Nat.zero_le _, Nat.zero_le _⟩ dX3_closeLoans_59 ?_
          refine va_mmin hx hb (hml.trans hl.1.symm) hown (hts _ kX3_closeLoans_4) (hts _ kX3_closeLoans_5) (hts _ kX3_closeLoans_6) (hts _ kX3_closeLoans_7) (Nat.le_of_ble_eq_true rfl) (Nat.le_of_ble_eq_true rfl) (Nat.zero_le _) (Nat.zero_le _) dX3_closeLoans_62 ?_
          refine lv_topi (fun y5 ey5 => ?_)
          have hp := hp y5 ey5
          refine lv_istore (lv' := [(6, .int y5), (5, .int (f_at 64 (gv 8) ((x4 * (4 : Int32)) + x3))), (0, .ref (q 0)), (1, .int a1), (2, .int x2), (3, .int x3), (4, .int x4)]) hx hb dX3_closeLoans_65 hl (by decide) rfl (fun ls hl => ?_)
          refine lv_aload_n hx hb dX3_closeLoans_67 rfl (lv_at hl 2 rfl) ?_
          refine lv_iload_n hx hb dX3_closeLoans_68 rfl (lv_at hl 3 rfl) ?_
          refine lv_iload_n hx hb dX3_closeLoans_69 rfl (lv_at hl 5 rfl) ?_
          refine lv_iload hx hb dX3_closeLoans_70 (lv_at hl 0 rfl) ?_
          refine lv_ineg hx hb dX3_closeLoans_72 ?_
          obtain ⟨g7, hg7, hp⟩ := hp
          refine wr_Vv (As := [.int a1, .int x3, .int (-y5)]) (rest := []) (w1 := []) (w2 := []) (ws1 := wX3 q cI g7) ⟨hx, hb, hml, hown, hts⟩ (c_X3_change l dC dI cI q gv a1 x3 (-y5) g7 hg7 _) (cwV 3 hts gX3_closeLoans_X3_change rfl rfl rfl (by decide +kernel) ⟨Nat.le_of_ble_eq_true rfl, Nat.le_of_ble_eq_true rfl⟩) hP hD hS hA hK hN (List.append_nil _).symm (List.append_nil _) rfl rfl rfl rfl hl.1 (Nat.le_of_ble_eq_true rfl) ⟨Nat.zero_le _, Nat.zero_le _⟩ dX3_closeLoans_73 (fun H locs hP hD hS => ?_)
          refine lv_aload_n hx hb dX3_closeLoans_76 rfl (lv_at hl 2 rfl) ?_
          refine lv_iload hx hb dX3_closeLoans_77 (lv_at hl 6 rfl) ?_
          refine lv_iload_n hx hb dX3_closeLoans_79 rfl (lv_at hl 5 rfl) ?_
          refine lv_iload hx hb dX3_closeLoans_80 (lv_at hl 0 rfl) ?_
          obtain ⟨g9, hg9, hp⟩ := hp
          refine wr_Vv (As := [.int x4, .int x3, .int y5]) (rest := []) (w1 := []) (w2 := []) (ws1 := wX3 q cI g9) ⟨hx, hb, hml, hown, hts⟩ (c_X3_change l dC dI cI q g7 x4 x3 y5 g9 hg9 _) (cwV 3 hts gX3_closeLoans_X3_change rfl rfl rfl (by decide +kernel) ⟨Nat.le_of_ble_eq_true rfl, Nat.le_of_ble_eq_true rfl⟩) hP hD hS hA hK hN (List.append_nil _).symm (List.append_nil _) rfl rfl rfl rfl hl.1 (Nat.le_of_ble_eq_true rfl) ⟨Nat.zero_le _, Nat.zero_le _⟩ dX3_closeLoans_82 (fun H locs hP hD hS => ?_)
          refine lv_aload_n hx hb dX3_closeLoans_85 rfl (lv_at hl 2 rfl) ?_
          refine va_get (D := (dC, dI)) (ci := 3) (v := .ref (q 15)) (C := RX3) (T := TX3) (N := 11) hx hb hts iX3_closeLoans_X3 hown hK hP 0 rfl rfl 9 (by decide) (hts _ kX3_closeLoans_2) (fun _ h9 => h9) rfl dX3_closeLoans_86 ?_
          refine lv_iload hx hb dX3_closeLoans_89 (lv_at hl 6 rfl) ?_
          refine lv_iconst (v := 4) hx hb dX3_closeLoans_91 (by decide) ?_
          refine lv_imul hx hb dX3_closeLoans_92 ?_
          refine lv_iload_n hx hb dX3_closeLoans_93 rfl (lv_at hl 5 rfl) ?_
          refine lv_iadd hx hb dX3_closeLoans_94 ?_
          refine lv_iconst (v := 0) hx hb dX3_closeLoans_95 (by decide) ?_
          refine wr_Vv (As := [.int ((x4 * (4 : Int32)) + x3), .int (0 : Int32)]) (rest := []) (w1 := (wX3 q cI g9).take 15) (w2 := (wX3 q cI g9).drop 17) (ws1 := wX3 q cI (st_put g9 8 64 ((x4 * (4 : Int32)) + x3) (0 : Int32))) ⟨hx, hb, hml, hown, hts⟩ (c_X2_put l dC dI cI (q 15) (q 16) 64 (g9 8) ((x4 * (4 : Int32)) + x3) (0 : Int32) _ (by decide)) (cwV 2 hts gX3_closeLoans_X2_put rfl rfl rfl (by decide +kernel) ⟨Nat.le_of_ble_eq_true rfl, Nat.le_of_ble_eq_true rfl⟩) hP hD hS hA hK hN rfl rfl rfl rfl rfl rfl hl.1 (Nat.le_of_ble_eq_true rfl) ⟨Nat.zero_le _, Nat.zero_le _⟩ dX3_closeLoans_96 (fun H locs hP hD hS => ?_)
          obtain ⟨g11, eg11⟩ : ∃ z : St, z = st_put g9 8 64 ((x4 * (4 : Int32)) + x3) (0 : Int32) := ⟨_, rfl⟩
          have hp := hp g11 eg11
          have hP : va_P (dC, dI) vwCl (wX3 q cI g11) H := by rw [eg11]; exact hP
          have hD : va_D A (wX3 q cI g11) := by rw [eg11]; exact hD
          refine lv_iinc (v := x2 + (1 : Int32)) (lv' := [(2, .int (x2 + (1 : Int32))), (6, .int y5), (5, .int (f_at 64 (gv 8) ((x4 * (4 : Int32)) + x3))), (0, .ref (q 0)), (1, .int a1), (3, .int x3), (4, .int x4)]) hx hb dX3_closeLoans_99 hl (k := 4) rfl rfl (by decide) rfl (fun ls hl => ?_)
          refine lv_iinc (v := x4 + (-1 : Int32)) (lv' := [(4, .int (x4 + (-1 : Int32))), (2, .int (x2 + (1 : Int32))), (6, .int y5), (5, .int (f_at 64 (gv 8) ((x4 * (4 : Int32)) + x3))), (0, .ref (q 0)), (1, .int a1), (3, .int x3)]) hx hb dX3_closeLoans_102 hl (k := 6) rfl rfl (by decide) rfl (fun ls hl => ?_)
          refine lv_goto (tgt := 16) hx hb dX3_closeLoans_105 (by decide) ?_
          rw [eV16] at hp
          exact hp _ _ _ hP hD hS (lv_sub hl [4, 5, 1, 6, 0] rfl))
  refine lv_iconst (v := 0) hx hb dX3_closeLoans_0 (by decide) ?_
  refine lv_istore_n (lv' := [(2, .int (0 : Int32)), (0, .ref (q 0)), (1, .int a1)]) hx hb dX3_closeLoans_1 rfl hl (by decide) rfl (fun ls hl => ?_)
  refine lv_iconst (v := 3) hx hb dX3_closeLoans_2 (by decide) ?_
  refine lv_istore_n (lv' := [(3, .int (3 : Int32)), (2, .int (0 : Int32)), (0, .ref (q 0)), (1, .int a1)]) hx hb dX3_closeLoans_3 rfl hl (by decide) rfl (fun ls hl => ?_)
  rw [eV4] at hp
  exact hp _ _ _ hP hD hS (lv_sub hl [2, 3, 1, 0] rfl)
theorem kX3_takeBack_0 : (.fieldLink RX3 51 "Meeplehouse$Shelf" "copies" "I" : Cond) ∈ wsX3_takeBack := by decide +kernel
theorem iX3_takeBack_X3 : ∀ w ∈ wsX30, w ∈ wsX3_takeBack := by decide +kernel
theorem kX3_takeBack_2 : (.fieldLink RX3 32 "Meeplehouse$Shelf" "holder" "LMeeplehouse$Row;" : Cond) ∈ wsX3_takeBack := by decide +kernel
theorem kX3_takeBack_3 : (.fieldLink RX3 35 "Meeplehouse$Shelf" "borrower" "LMeeplehouse$Row;" : Cond) ∈ wsX3_takeBack := by decide +kernel
def P_X3_takeBack (g : St) (a1 : Int32) (a2 : Int32) (a3 : Int32) (r : Int32) (g' : St) : Prop := ∀ V18 : St → Int32 → Int32 → Prop, (∀ gv : St, ∀ x4 x5 : Int32, (((gv 0 1) ≤ x5 → (∀ g6 : St, g6 = st_put gv 6 16 a1 (-1 : Int32) → (r = x4 ∧ g' = g6))) ∧ (¬ (gv 0 1) ≤ x5 → ((¬ (f_at 16 (gv 7) x5) = a1 → (V18 gv x4 (x5 + (1 : Int32)))) ∧ ((f_at 16 (gv 7) x5) = a1 → (∀ g9 : St, g9 = st_put gv 7 16 x5 (-1 : Int32) → (V18 g9 x4 (x5 + (1 : Int32)))))))) → V18 gv x4 x5) → (∃ g2 : St, P_X3_change g a1 a2 (-a3) g2 ∧ (∃ (r3 : Int32) (g4 : St), P_X3_closeLoans g2 a1 r3 g4 ∧ (V18 g4 r3 (0 : Int32))))
set_option maxRecDepth 100000 in
set_option maxHeartbeats 4000000 in
theorem c_X3_takeBack (l : Launch) (dC : Nat → ClassId) (dI : Nat → Nat → Nat) (cI : ClassId) (q : Nat → Nat) (g : St) (a1 : Int32) (a2 : Int32) (a3 : Int32) (r : Int32) (g' : St) (hp : P_X3_takeBack g a1 a2 a3 r g') (sz : Nat) : Met l yX3_takeBack wsX3_takeBack { frames := 4, cells := 0, slots := 0, locals := 92 } (va_Pc [.ref (q 0), .int a1, .int a2, .int a3] (wpS (dC, dI) vwCl [(cI, .int)] (wX3 q cI g) sz)) (va_Qi (fun (r' : Int32) (_ : Unit) => r' = r) (fun _ t => wqB (dC, dI) vwCl (wX3 q cI g') (va_A (wX3 q cI g) sz) t) (va_A (wX3 q cI g) sz)) 0 0 (va_A (wX3 q cI g) sz) := by
  refine wr_met (fun A => (va_Qi (fun (r' : Int32) (_ : Unit) => r' = r) (fun _ t => wqB (dC, dI) vwCl (wX3 q cI g') A t) A)) (cc := cX3_takeBack) (maxL := 6) (ret := (some .int)) (by decide) rfl (Nat.le_of_ble_eq_true rfl) ?_
  intro p e s m below meth c A hx hb hml hr hlk hts hown hnm hP hK hN hD hA ls hl
  have hS : va_S A s.heap s.heap [] := va_S.rf
  have hl : lv_has ls 6 [(0, .ref (q 0)), (1, .int a1), (2, .int a2), (3, .int a3)] := hl
  obtain ⟨V18, eV18⟩ : ∃ V : St → Int32 → Int32 → Prop, V = (fun gv x4 x5 => ∀ (H : Heap) (locs : List Loc) (ls : Array Slot), va_P (dC, dI) vwCl (wX3 q cI gv) H → va_D A (wX3 q cI gv) → va_S A s.heap H locs → lv_has ls 6 [(0, .ref (q 0)), (1, .int a1), (2, .int a2), (3, .int a3), (4, .int x4), (5, .int x5)] → W p l e { frames := 4, cells := 0, slots := 0, locals := 92 } s m ([.ref (q 0), .int a1, .int a2, .int a3] : List Value).toArray below meth c H locs 0 0 (MQ below (va_Qi (fun (r' : Int32) (_ : Unit) => r' = r) (fun _ t => wqB (dC, dI) vwCl (wX3 q cI g') A t) A) ([.ref (q 0), .int a1, .int a2, .int a3] : List Value).toArray s 0 0 A) (F0 m 18 ls [])) := ⟨_, rfl⟩
  have hp := hp V18
  have hp := hp (by
    intro gv x4 x5 hp
    rw [eV18]
    intro H locs ls hP hD hS hl
    refine lv_iload hx hb dX3_takeBack_18 (lv_at hl 5 rfl) ?_
    refine lv_aload_n hx hb dX3_takeBack_20 rfl (lv_at hl 0 rfl) ?_
    refine va_get (D := (dC, dI)) (ci := 3) (v := .int (gv 0 1)) (C := RX3) (T := TX3) (N := 11) hx hb hts iX3_takeBack_X3 hown hK hP 0 rfl rfl 1 (by decide) (hts _ kX3_takeBack_0) (fun _ h9 => h9) rfl dX3_takeBack_21 ?_
    refine lv_icmp_ge (tgt := 56) hx hb dX3_takeBack_24 (by decide) (fun c11 => ?_) (fun c11 => ?_)
    · have hp := hp.1 c11
      refine lv_aload_n hx hb dX3_takeBack_56 rfl (lv_at hl 0 rfl) ?_
      refine va_get (D := (dC, dI)) (ci := 3) (v := .ref (q 11)) (C := RX3) (T := TX3) (N := 11) hx hb hts iX3_takeBack_X3 hown hK hP 0 rfl rfl 7 (by decide) (hts _ kX3_takeBack_2) (fun _ h9 => h9) rfl dX3_takeBack_57 ?_
      refine lv_iload_n hx hb dX3_takeBack_60 rfl (lv_at hl 1 rfl) ?_
      refine lv_iconst (v := -1) hx hb dX3_takeBack_61 (by decide) ?_
      refine wr_Vv (As := [.int a1, .int (-1 : Int32)]) (rest := []) (w1 := (wX3 q cI gv).take 11) (w2 := (wX3 q cI gv).drop 13) (ws1 := wX3 q cI (st_put gv 6 16 a1 (-1 : Int32))) ⟨hx, hb, hml, hown, hts⟩ (c_X2_put l dC dI cI (q 11) (q 12) 16 (gv 6) a1 (-1 : Int32) _ (by decide)) (cwV 2 hts gX3_takeBack_X2_put rfl rfl rfl (by decide +kernel) ⟨Nat.le_of_ble_eq_true rfl, Nat.le_of_ble_eq_true rfl⟩) hP hD hS hA hK hN rfl rfl rfl rfl rfl rfl hl.1 (Nat.le_of_ble_eq_true rfl) ⟨Nat.zero_le _, Nat.zero_le _⟩ dX3_takeBack_62 (fun H locs hP hD hS => ?_)
      obtain ⟨g6, eg6⟩ : ∃ z : St, z = st_put gv 6 16 a1 (-1 : Int32) := ⟨_, rfl⟩
      have hp := hp g6 eg6
      have hP : va_P (dC, dI) vwCl (wX3 q cI g6) H := by rw [eg6]; exact hP
      have hD : va_D A (wX3 q cI g6) := by rw [eg6]; exact hD
      refine lv_iload hx hb dX3_takeBack_65 (lv_at hl 4 rfl) ?_
      exact W.iret hx hb hr (fun t ht _ => ⟨⟨_, (), rfl, hp.1.symm, by rw [ht, hp.2]; exact hP, by rw [hp.2]; exact hD⟩, hS.F ht⟩) hS.2.2 dX3_takeBack_67
    · have hp := hp.2 c11
      refine lv_aload_n hx hb dX3_takeBack_27 rfl (lv_at hl 0 rfl) ?_
      refine va_get (D := (dC, dI)) (ci := 3) (v := .ref (q 13)) (C := RX3) (T := TX3) (N := 11) hx hb hts iX3_takeBack_X3 hown hK hP 0 rfl rfl 8 (by decide) (hts _ kX3_takeBack_3) (fun _ h9 => h9) rfl dX3_takeBack_28 ?_
      refine lv_iload hx hb dX3_takeBack_31 (lv_at hl 5 rfl) ?_
      refine ro_V (As := [.int x5]) (rest := []) ⟨hx, hb, hml, hown, hts⟩ (c_X2_at l dC dI cI (q 13) (q 14) 16 (gv 7) x5 (by decide)) (cwV 1 hts gX3_takeBack_X2_at rfl rfl rfl (by decide +kernel) ⟨Nat.le_of_ble_eq_true rfl, Nat.le_of_ble_eq_true rfl⟩) (hP.sub [13, 14] rfl) hK hN rfl rfl rfl rfl hl.1 (Nat.le_of_ble_eq_true rfl) ⟨Nat.zero_le _, Nat.zero_le _⟩ dX3_takeBack_33 ?_
      refine lv_iload_n hx hb dX3_takeBack_36 rfl (lv_at hl 1 rfl) ?_
      refine lv_icmp_ne (tgt := 50) hx hb dX3_takeBack_37 (by decide) (fun c10 => ?_) (fun c10 => ?_)
      · have hp := hp.1 c10
        refine lv_iinc (v := x5 + (1 : Int32)) (lv' := [(5, .int (x5 + (1 : Int32))), (0, .ref (q 0)), (1, .int a1), (2, .int a2), (3, .int a3), (4, .int x4)]) hx hb dX3_takeBack_50 hl (k := 5) rfl rfl (by decide) rfl (fun ls hl => ?_)
        refine lv_goto (tgt := 18) hx hb dX3_takeBack_53 (by decide) ?_
        rw [eV18] at hp
        exact hp _ _ _ hP hD hS (lv_sub hl [1, 2, 3, 4, 5, 0] rfl)
      · have hp := hp.2 c10
        refine lv_aload_n hx hb dX3_takeBack_40 rfl (lv_at hl 0 rfl) ?_
        refine va_get (D := (dC, dI)) (ci := 3) (v := .ref (q 13)) (C := RX3) (T := TX3) (N := 11) hx hb hts iX3_takeBack_X3 hown hK hP 0 rfl rfl 8 (by decide) (hts _ kX3_takeBack_3) (fun _ h9 => h9) rfl dX3_takeBack_41 ?_
        refine lv_iload hx hb dX3_takeBack_44 (lv_at hl 5 rfl) ?_
        refine lv_iconst (v := -1) hx hb dX3_takeBack_46 (by decide) ?_
        refine wr_Vv (As := [.int x5, .int (-1 : Int32)]) (rest := []) (w1 := (wX3 q cI gv).take 13) (w2 := (wX3 q cI gv).drop 15) (ws1 := wX3 q cI (st_put gv 7 16 x5 (-1 : Int32))) ⟨hx, hb, hml, hown, hts⟩ (c_X2_put l dC dI cI (q 13) (q 14) 16 (gv 7) x5 (-1 : Int32) _ (by decide)) (cwV 2 hts gX3_takeBack_X2_put rfl rfl rfl (by decide +kernel) ⟨Nat.le_of_ble_eq_true rfl, Nat.le_of_ble_eq_true rfl⟩) hP hD hS hA hK hN rfl rfl rfl rfl rfl rfl hl.1 (Nat.le_of_ble_eq_true rfl) ⟨Nat.zero_le _, Nat.zero_le _⟩ dX3_takeBack_47 (fun H locs hP hD hS => ?_)
        obtain ⟨g9, eg9⟩ : ∃ z : St, z = st_put gv 7 16 x5 (-1 : Int32) := ⟨_, rfl⟩
        have hp := hp g9 eg9
        have hP : va_P (dC, dI) vwCl (wX3 q cI g9) H := by rw [eg9]; exact hP
        have hD : va_D A (wX3 q cI g9) := by rw [eg9]; exact hD
        refine lv_iinc (v := x5 + (1 : Int32)) (lv' := [(5, .int (x5 + (1 : Int32))), (0, .ref (q 0)), (1, .int a1), (2, .int a2), (3, .int a3), (4, .int x4)]) hx hb dX3_takeBack_50 hl (k := 5) rfl rfl (by decide) rfl (fun ls hl => ?_)
        refine lv_goto (tgt := 18) hx hb dX3_takeBack_53 (by decide) ?_
        rw [eV18] at hp
        exact hp _ _ _ hP hD hS (lv_sub hl [1, 2, 3, 4, 5, 0] rfl))
  refine lv_aload_n hx hb dX3_takeBack_0 rfl (lv_at hl 0 rfl) ?_
  refine lv_iload_n hx hb dX3_takeBack_1 rfl (lv_at hl 1 rfl) ?_
  refine lv_iload_n hx hb dX3_takeBack_2 rfl (lv_at hl 2 rfl) ?_
  refine lv_iload_n hx hb dX3_takeBack_3 rfl (lv_at hl 3 rfl) ?_
  refine lv_ineg hx hb dX3_takeBack_4 ?_
  obtain ⟨g2, hg2, hp⟩ := hp
  refine wr_Vv (As := [.int a1, .int a2, .int (-a3)]) (rest := []) (w1 := []) (w2 := []) (ws1 := wX3 q cI g2) ⟨hx, hb, hml, hown, hts⟩ (c_X3_change l dC dI cI q g a1 a2 (-a3) g2 hg2 _) (cwV 3 hts gX3_takeBack_X3_change rfl rfl rfl (by decide +kernel) ⟨Nat.le_of_ble_eq_true rfl, Nat.le_of_ble_eq_true rfl⟩) hP hD hS hA hK hN (List.append_nil _).symm (List.append_nil _) rfl rfl rfl rfl hl.1 (Nat.le_of_ble_eq_true rfl) ⟨Nat.zero_le _, Nat.zero_le _⟩ dX3_takeBack_5 (fun H locs hP hD hS => ?_)
  refine lv_aload_n hx hb dX3_takeBack_8 rfl (lv_at hl 0 rfl) ?_
  refine lv_iload_n hx hb dX3_takeBack_9 rfl (lv_at hl 1 rfl) ?_
  obtain ⟨r3, g4, hg4, hp⟩ := hp
  refine wr_Vi (As := [.int a1]) (rest := []) (w1 := []) (w2 := []) (ws1 := wX3 q cI g4) ⟨hx, hb, hml, hown, hts⟩ (c_X3_closeLoans l dC dI cI q g2 a1 r3 g4 hg4 _) (cwV 1 hts gX3_takeBack_X3_closeLoans rfl rfl rfl (by decide +kernel) ⟨Nat.le_of_ble_eq_true rfl, Nat.le_of_ble_eq_true rfl⟩) hP hD hS hA hK hN (List.append_nil _).symm (List.append_nil _) rfl rfl rfl rfl hl.1 (Nat.le_of_ble_eq_true rfl) ⟨Nat.zero_le _, Nat.zero_le _⟩ dX3_takeBack_10 (fun H locs hP hD hS => ?_)
  refine lv_istore (lv' := [(4, .int r3), (0, .ref (q 0)), (1, .int a1), (2, .int a2), (3, .int a3)]) hx hb dX3_takeBack_13 hl (by decide) rfl (fun ls hl => ?_)
  refine lv_iconst (v := 0) hx hb dX3_takeBack_15 (by decide) ?_
  refine lv_istore (lv' := [(5, .int (0 : Int32)), (4, .int r3), (0, .ref (q 0)), (1, .int a1), (2, .int a2), (3, .int a3)]) hx hb dX3_takeBack_16 hl (by decide) rfl (fun ls hl => ?_)
  rw [eV18] at hp
  exact hp _ _ _ hP hD hS (lv_sub hl [2, 3, 4, 5, 1, 0] rfl)
theorem kX3_piecesLentTo_0 : (.fieldLink RX3 51 "Meeplehouse$Shelf" "copies" "I" : Cond) ∈ wsX3_piecesLentTo := by decide +kernel
theorem iX3_piecesLentTo_X3 : ∀ w ∈ wsX30, w ∈ wsX3_piecesLentTo := by decide +kernel
theorem kX3_piecesLentTo_2 : (.fieldLink RX3 35 "Meeplehouse$Shelf" "borrower" "LMeeplehouse$Row;" : Cond) ∈ wsX3_piecesLentTo := by decide +kernel
theorem kX3_piecesLentTo_3 : (.fieldLink RX3 38 "Meeplehouse$Shelf" "lent" "LMeeplehouse$Row;" : Cond) ∈ wsX3_piecesLentTo := by decide +kernel
def P_X3_piecesLentTo (g : St) (a1 : Int32) (r : Int32) : Prop := ∀ V4 : Int32 → Int32 → Prop, ∀ V15 : Int32 → Int32 → Int32 → Prop, (∀ x2 x3 : Int32, (((g 0 1) ≤ x3 → (r = x2)) ∧ (¬ (g 0 1) ≤ x3 → (V15 x2 x3 (0 : Int32)))) → V4 x2 x3) → (∀ x2 x3 x4 : Int32, (((4 : Int32) ≤ x4 → (V4 x2 (x3 + (1 : Int32)))) ∧ (¬ (4 : Int32) ≤ x4 → ((¬ (f_at 16 (g 7) x3) = a1 → (V4 x2 (x3 + (1 : Int32)))) ∧ ((f_at 16 (g 7) x3) = a1 → (V15 (x2 + (f_at 64 (g 8) ((x3 * (4 : Int32)) + x4))) x3 (x4 + (1 : Int32))))))) → V15 x2 x3 x4) → (V4 (0 : Int32) (0 : Int32))
set_option maxRecDepth 100000 in
set_option maxHeartbeats 4000000 in
theorem c_X3_piecesLentTo (l : Launch) (dC : Nat → ClassId) (dI : Nat → Nat → Nat) (cI : ClassId) (q : Nat → Nat) (g : St) (a1 : Int32) (r : Int32) (hp : P_X3_piecesLentTo g a1 r) : Met l yX3_piecesLentTo wsX3_piecesLentTo { frames := 1, cells := 0, slots := 0, locals := 21 } (va_Pc [.ref (q 0), .int a1] (rpS (dC, dI) vwCl [(cI, .int)] (wX3 q cI g))) (QcRead r) 0 0 (fun _ => False) := by
  refine ro_met (cc := cX3_piecesLentTo) (maxL := 5) (ret := (some .int)) (by decide) rfl (Nat.le_of_ble_eq_true rfl) ?_
  intro p e s m below meth c hx hb hml hr hlk hts hown hP hK hN ls hl
  have hl : lv_has ls 5 [(0, .ref (q 0)), (1, .int a1)] := hl
  obtain ⟨V4, eV4⟩ : ∃ V : Int32 → Int32 → Prop, V = (fun x2 x3 => ∀ ls : Array Slot, lv_has ls 5 [(0, .ref (q 0)), (1, .int a1), (2, .int x2), (3, .int x3)] → W p l e { frames := 1, cells := 0, slots := 0, locals := 21 } s m ([.ref (q 0), .int a1] : List Value).toArray below meth c s.heap [] 0 0 (MQ below (QcRead r) ([.ref (q 0), .int a1] : List Value).toArray s 0 0 (fun _ => False)) (F0 m 4 ls [])) := ⟨_, rfl⟩
  obtain ⟨V15, eV15⟩ : ∃ V : Int32 → Int32 → Int32 → Prop, V = (fun x2 x3 x4 => ∀ ls : Array Slot, lv_has ls 5 [(0, .ref (q 0)), (1, .int a1), (2, .int x2), (3, .int x3), (4, .int x4)] → W p l e { frames := 1, cells := 0, slots := 0, locals := 21 } s m ([.ref (q 0), .int a1] : List Value).toArray below meth c s.heap [] 0 0 (MQ below (QcRead r) ([.ref (q 0), .int a1] : List Value).toArray s 0 0 (fun _ => False)) (F0 m 15 ls [])) := ⟨_, rfl⟩
  have hp := hp V4 V15
  have hp := hp (by
    intro x2 x3 hp
    rw [eV4]
    intro ls hl
    refine lv_iload_n hx hb dX3_piecesLentTo_4 rfl (lv_at hl 3 rfl) ?_
    refine lv_aload_n hx hb dX3_piecesLentTo_5 rfl (lv_at hl 0 rfl) ?_
    refine va_get (D := (dC, dI)) (ci := 3) (v := .int (g 0 1)) (C := RX3) (T := TX3) (N := 11) hx hb hts iX3_piecesLentTo_X3 hown hK hP 0 rfl rfl 1 (by decide) (hts _ kX3_piecesLentTo_0) (fun _ h9 => h9) rfl dX3_piecesLentTo_6 ?_
    refine lv_icmp_ge (tgt := 61) hx hb dX3_piecesLentTo_9 (by decide) (fun c1 => ?_) (fun c1 => ?_)
    · have hp := hp.1 c1
      refine lv_iload_n hx hb dX3_piecesLentTo_61 rfl (lv_at hl 2 rfl) ?_
      exact W.iret hx hb hr (fun t ht _ => ⟨by rw [hp], ht⟩) (fun _ h => nomatch h) dX3_piecesLentTo_62
    · have hp := hp.2 c1
      refine lv_iconst (v := 0) hx hb dX3_piecesLentTo_12 (by decide) ?_
      refine lv_istore (lv' := [(4, .int (0 : Int32)), (0, .ref (q 0)), (1, .int a1), (2, .int x2), (3, .int x3)]) hx hb dX3_piecesLentTo_13 hl (by decide) rfl (fun ls hl => ?_)
      rw [eV15] at hp
      exact hp _ (lv_sub hl [1, 2, 3, 4, 0] rfl))
  have hp := hp (by
    intro x2 x3 x4 hp
    rw [eV15]
    intro ls hl
    refine lv_iload hx hb dX3_piecesLentTo_15 (lv_at hl 4 rfl) ?_
    refine lv_iconst (v := 4) hx hb dX3_piecesLentTo_17 (by decide) ?_
    refine lv_icmp_ge (tgt := 55) hx hb dX3_piecesLentTo_18 (by decide) (fun c5 => ?_) (fun c5 => ?_)
    · have hp := hp.1 c5
      refine lv_iinc (v := x3 + (1 : Int32)) (lv' := [(3, .int (x3 + (1 : Int32))), (0, .ref (q 0)), (1, .int a1), (2, .int x2), (4, .int x4)]) hx hb dX3_piecesLentTo_55 hl (k := 3) rfl rfl (by decide) rfl (fun ls hl => ?_)
      refine lv_goto (tgt := 4) hx hb dX3_piecesLentTo_58 (by decide) ?_
      rw [eV4] at hp
      exact hp _ (lv_sub hl [1, 2, 3, 0] rfl)
    · have hp := hp.2 c5
      refine lv_aload_n hx hb dX3_piecesLentTo_21 rfl (lv_at hl 0 rfl) ?_
      refine va_get (D := (dC, dI)) (ci := 3) (v := .ref (q 13)) (C := RX3) (T := TX3) (N := 11) hx hb hts iX3_piecesLentTo_X3 hown hK hP 0 rfl rfl 8 (by decide) (hts _ kX3_piecesLentTo_2) (fun _ h9 => h9) rfl dX3_piecesLentTo_22 ?_
      refine lv_iload_n hx hb dX3_piecesLentTo_25 rfl (lv_at hl 3 rfl) ?_
      refine ro_V (As := [.int x3]) (rest := []) ⟨hx, hb, hml, hown, hts⟩ (c_X2_at l dC dI cI (q 13) (q 14) 16 (g 7) x3 (by decide)) (cwV 1 hts gX3_piecesLentTo_X2_at rfl rfl rfl (by decide +kernel) ⟨Nat.le_of_ble_eq_true rfl, Nat.le_of_ble_eq_true rfl⟩) (hP.sub [13, 14] rfl) hK hN rfl rfl rfl rfl hl.1 (Nat.le_of_ble_eq_true rfl) ⟨Nat.zero_le _, Nat.zero_le _⟩ dX3_piecesLentTo_26 ?_
      refine lv_iload_n hx hb dX3_piecesLentTo_29 rfl (lv_at hl 1 rfl) ?_
      refine lv_icmp_ne (tgt := 55) hx hb dX3_piecesLentTo_30 (by decide) (fun c4 => ?_) (fun c4 => ?_)
      · have hp := hp.1 c4
        refine lv_iinc (v := x3 + (1 : Int32)) (lv' := [(3, .int (x3 + (1 : Int32))), (0, .ref (q 0)), (1, .int a1), (2, .int x2), (4, .int x4)]) hx hb dX3_piecesLentTo_55 hl (k := 3) rfl rfl (by decide) rfl (fun ls hl => ?_)
        refine lv_goto (tgt := 4) hx hb dX3_piecesLentTo_58 (by decide) ?_
        rw [eV4] at hp
        exact hp _ (lv_sub hl [1, 2, 3, 0] rfl)
      · have hp := hp.2 c4
        refine lv_iload_n hx hb dX3_piecesLentTo_33 rfl (lv_at hl 2 rfl) ?_
        refine lv_aload_n hx hb dX3_piecesLentTo_34 rfl (lv_at hl 0 rfl) ?_
        refine va_get (D := (dC, dI)) (ci := 3) (v := .ref (q 15)) (C := RX3) (T := TX3) (N := 11) hx hb hts iX3_piecesLentTo_X3 hown hK hP 0 rfl rfl 9 (by decide) (hts _ kX3_piecesLentTo_3) (fun _ h9 => h9) rfl dX3_piecesLentTo_35 ?_
        refine lv_iload_n hx hb dX3_piecesLentTo_38 rfl (lv_at hl 3 rfl) ?_
        refine lv_iconst (v := 4) hx hb dX3_piecesLentTo_39 (by decide) ?_
        refine lv_imul hx hb dX3_piecesLentTo_40 ?_
        refine lv_iload hx hb dX3_piecesLentTo_41 (lv_at hl 4 rfl) ?_
        refine lv_iadd hx hb dX3_piecesLentTo_43 ?_
        refine ro_V (As := [.int ((x3 * (4 : Int32)) + x4)]) (rest := [.int x2]) ⟨hx, hb, hml, hown, hts⟩ (c_X2_at l dC dI cI (q 15) (q 16) 64 (g 8) ((x3 * (4 : Int32)) + x4) (by decide)) (cwV 1 hts gX3_piecesLentTo_X2_at rfl rfl rfl (by decide +kernel) ⟨Nat.le_of_ble_eq_true rfl, Nat.le_of_ble_eq_true rfl⟩) (hP.sub [15, 16] rfl) hK hN rfl rfl rfl rfl hl.1 (Nat.le_of_ble_eq_true rfl) ⟨Nat.zero_le _, Nat.zero_le _⟩ dX3_piecesLentTo_44 ?_
        refine lv_iadd hx hb dX3_piecesLentTo_47 ?_
        refine lv_istore_n (lv' := [(2, .int (x2 + (f_at 64 (g 8) ((x3 * (4 : Int32)) + x4)))), (0, .ref (q 0)), (1, .int a1), (3, .int x3), (4, .int x4)]) hx hb dX3_piecesLentTo_48 rfl hl (by decide) rfl (fun ls hl => ?_)
        refine lv_iinc (v := x4 + (1 : Int32)) (lv' := [(4, .int (x4 + (1 : Int32))), (2, .int (x2 + (f_at 64 (g 8) ((x3 * (4 : Int32)) + x4)))), (0, .ref (q 0)), (1, .int a1), (3, .int x3)]) hx hb dX3_piecesLentTo_49 hl (k := 4) rfl rfl (by decide) rfl (fun ls hl => ?_)
        refine lv_goto (tgt := 15) hx hb dX3_piecesLentTo_52 (by decide) ?_
        rw [eV15] at hp
        exact hp _ (lv_sub hl [2, 3, 1, 4, 0] rfl))
  refine lv_iconst (v := 0) hx hb dX3_piecesLentTo_0 (by decide) ?_
  refine lv_istore_n (lv' := [(2, .int (0 : Int32)), (0, .ref (q 0)), (1, .int a1)]) hx hb dX3_piecesLentTo_1 rfl hl (by decide) rfl (fun ls hl => ?_)
  refine lv_iconst (v := 0) hx hb dX3_piecesLentTo_2 (by decide) ?_
  refine lv_istore_n (lv' := [(3, .int (0 : Int32)), (2, .int (0 : Int32)), (0, .ref (q 0)), (1, .int a1)]) hx hb dX3_piecesLentTo_3 rfl hl (by decide) rfl (fun ls hl => ?_)
  rw [eV4] at hp
  exact hp _ (lv_sub hl [2, 3, 1, 0] rfl)
