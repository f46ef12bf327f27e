def wX0 (q : Nat → Nat) (cI : ClassId) (g : St) : va_W := [(q 0, .inr (0, [.int (g 0 0), .int (g 0 1), .int (g 0 2), .ref (q 1), .ref (q 3), .ref (q 5), .ref (q 7), .ref (q 9), .ref (q 11)])), (q 1, .inr (2, [.ref (q 2)])), (q 2, .inl (cI, 10, .inl (g 1))), (q 3, .inr (2, [.ref (q 4)])), (q 4, .inl (cI, 10, .inl (g 2))), (q 5, .inr (2, [.ref (q 6)])), (q 6, .inl (cI, 30, .inl (g 3))), (q 7, .inr (2, [.ref (q 8)])), (q 8, .inl (cI, 30, .inl (g 4))), (q 9, .inr (2, [.ref (q 10)])), (q 10, .inl (cI, 30, .inl (g 5))), (q 11, .inr (2, [.ref (q 12)])), (q 12, .inl (cI, 30, .inl (g 6)))]
theorem kX0_putTable_0 : (.fieldLink RX0 14 "Meeplehouse$Hall" "seats" "LMeeplehouse$Row;" : Cond) ∈ wsX0_putTable := by decide +kernel
theorem iX0_putTable_X0 : ∀ w ∈ wsX00, w ∈ wsX0_putTable := by decide +kernel
theorem kX0_putTable_2 : (.fieldLink RX0 35 "Meeplehouse$Hall" "tables" "I" : Cond) ∈ wsX0_putTable := by decide +kernel
def P_X0_putTable (g : St) (a1 : Int32) (r : Int32) (g' : St) : Prop := (∀ g2 : St, g2 = st_put g 1 10 (g 0 1) a1 → (∀ g3 : St, g3 = st_set g2 0 1 ((g2 0 1) + (1 : Int32)) → (r = ((g3 0 1) - (1 : Int32)) ∧ g' = g3)))
set_option maxRecDepth 100000 in
set_option maxHeartbeats 4000000 in
theorem c_X0_putTable (l : Launch) (dC : Nat → ClassId) (dI : Nat → Nat → Nat) (cI : ClassId) (q : Nat → Nat) (g : St) (a1 : Int32) (r : Int32) (g' : St) (hp : P_X0_putTable g a1 r g') (sz : Nat) : Met l yX0_putTable wsX0_putTable { frames := 1, cells := 0, slots := 0, locals := 22 } (va_Pc [.ref (q 0), .int a1] (wpS (dC, dI) vwCl [(cI, .int)] (wX0 q cI g) sz)) (va_Qi (fun (r' : Int32) (_ : Unit) => r' = r) (fun _ t => wqB (dC, dI) vwCl (wX0 q cI g') (va_A (wX0 q cI g) sz) t) (va_A (wX0 q cI g) sz)) 0 0 (va_A (wX0 q cI g) sz) := by
  refine wr_met (fun A => (va_Qi (fun (r' : Int32) (_ : Unit) => r' = r) (fun _ t => wqB (dC, dI) vwCl (wX0 q cI g') A t) A)) (cc := cX0_putTable) (maxL := 2) (ret := (some .int)) (by decide) rfl (Nat.le_of_ble_eq_true rfl) ?_
  intro p e s m below meth c A hx hb hml hr hlk hts hown hnm hP hK hN hD hA ls hl
  have hS : va_S A s.heap s.heap [] := va_S.rf
  have hl : lv_has ls 2 [(0, .ref (q 0)), (1, .int a1)] := hl
  unfold P_X0_putTable at hp
  refine lv_aload_n hx hb dX0_putTable_0 rfl (lv_at hl 0 rfl) ?_
  refine va_get (D := (dC, dI)) (ci := 0) (v := .ref (q 1)) (C := RX0) (T := TX0) (N := 9) hx hb hts iX0_putTable_X0 hown hK hP 0 rfl rfl 3 (by decide) (hts _ kX0_putTable_0) (fun _ h9 => h9) rfl dX0_putTable_1 ?_
  refine lv_aload_n hx hb dX0_putTable_4 rfl (lv_at hl 0 rfl) ?_
  refine va_get (D := (dC, dI)) (ci := 0) (v := .int (g 0 1)) (C := RX0) (T := TX0) (N := 9) hx hb hts iX0_putTable_X0 hown hK hP 0 rfl rfl 1 (by decide) (hts _ kX0_putTable_2) (fun _ h9 => h9) rfl dX0_putTable_5 ?_
  refine lv_iload_n hx hb dX0_putTable_8 rfl (lv_at hl 1 rfl) ?_
  refine wr_Vv (As := [.int (g 0 1), .int a1]) (rest := []) (w1 := (wX0 q cI g).take 1) (w2 := (wX0 q cI g).drop 3) (ws1 := wX0 q cI (st_put g 1 10 (g 0 1) a1)) ⟨hx, hb, hml, hown, hts⟩ (c_X2_put l dC dI cI (q 1) (q 2) 10 (g 1) (g 0 1) a1 _ (by decide)) (cwV 2 hts gX0_putTable_X2_put rfl rfl rfl (by decide +kernel) ⟨Nat.le_of_ble_eq_true rfl, Nat.le_of_ble_eq_true rfl⟩) hP hD hS hA hK hN rfl rfl rfl rfl rfl rfl hl.1 (Nat.le_of_ble_eq_true rfl) ⟨Nat.zero_le _, Nat.zero_le _⟩ dX0_putTable_9 (fun H locs hP hD hS => ?_)
  obtain ⟨g2, eg2⟩ : ∃ z : St, z = st_put g 1 10 (g 0 1) a1 := ⟨_, rfl⟩
  have hp := hp g2 eg2
  have hP : va_P (dC, dI) vwCl (wX0 q cI g2) H := by rw [eg2]; exact hP
  have hD : va_D A (wX0 q cI g2) := by rw [eg2]; exact hD
  refine lv_aload_n hx hb dX0_putTable_12 rfl (lv_at hl 0 rfl) ?_
  refine lv_dup hx hb dX0_putTable_13 rfl ?_
  refine va_get (D := (dC, dI)) (ci := 0) (v := .int (g2 0 1)) (C := RX0) (T := TX0) (N := 9) hx hb hts iX0_putTable_X0 hown hK hP 0 rfl rfl 1 (by decide) (hts _ kX0_putTable_2) (fun _ h9 => h9) rfl dX0_putTable_14 ?_
  refine lv_iconst (v := 1) hx hb dX0_putTable_17 (by decide) ?_
  refine lv_iadd hx hb dX0_putTable_18 ?_
  refine va_put (D := (dC, dI)) (ci := 0) (v := .int ((g2 0 1) + (1 : Int32))) (ty := .int) (C := RX0) (T := TX0) (N := 9) hx hb hts iX0_putTable_X0 tyX0 tyX0_ok nmX0 hown hK hP hD hS 0 rfl rfl 1 (by decide) (hts _ kX0_putTable_2) (fun _ h9 => h9) rfl (by decide +kernel) rfl rfl (Nat.le_of_ble_eq_true rfl) dX0_putTable_19 (fun H locs hP hD hS => ?_)
  obtain ⟨g3, eg3⟩ : ∃ z : St, z = st_set g2 0 1 ((g2 0 1) + (1 : Int32)) := ⟨_, rfl⟩
  have hp := hp g3 eg3
  have hP : va_P (dC, dI) vwCl (wX0 q cI g3) H := by rw [eg3]; exact hP
  have hD : va_D A (wX0 q cI g3) := by rw [eg3]; exact hD
  refine lv_aload_n hx hb dX0_putTable_22 rfl (lv_at hl 0 rfl) ?_
  refine va_get (D := (dC, dI)) (ci := 0) (v := .int (g3 0 1)) (C := RX0) (T := TX0) (N := 9) hx hb hts iX0_putTable_X0 hown hK hP 0 rfl rfl 1 (by decide) (hts _ kX0_putTable_2) (fun _ h9 => h9) rfl dX0_putTable_23 ?_
  refine lv_iconst (v := 1) hx hb dX0_putTable_26 (by decide) ?_
  refine lv_isub hx hb dX0_putTable_27 ?_
  exact W.iret hx hb hr (fun t ht _ => ⟨⟨_, (), rfl, hp.1.symm, by rw [ht, hp.2]; exact hP, by rw [hp.2]; exact hD⟩, hS.F ht⟩) hS.2.2 dX0_putTable_28
theorem kX0_wasteAt_0 : (.fieldLink RX0 20 "Meeplehouse$Hall" "sitter" "LMeeplehouse$Row;" : Cond) ∈ wsX0_wasteAt := by decide +kernel
theorem iX0_wasteAt_X0 : ∀ w ∈ wsX00, w ∈ wsX0_wasteAt := by decide +kernel
theorem kX0_wasteAt_2 : (.fieldLink RX0 14 "Meeplehouse$Hall" "seats" "LMeeplehouse$Row;" : Cond) ∈ wsX0_wasteAt := by decide +kernel
def P_X0_wasteAt (g : St) (a1 : Int32) (a2 : Int32) (a3 : Int32) (r : Int32) : Prop := ∀ V8 : Int32 → Int32 → Prop, (∀ x4 x5 : Int32, (((a1 + a2) ≤ x5 → ((a3 ≤ x4 → (r = (x4 - a3))) ∧ (¬ a3 ≤ x4 → (r = (-1 : Int32))))) ∧ (¬ (a1 + a2) ≤ x5 → (((f_at 10 (g 2) x5) = (-1 : Int32) → (V8 (x4 + (f_at 10 (g 1) x5)) (x5 + (1 : Int32)))) ∧ (¬ (f_at 10 (g 2) x5) = (-1 : Int32) → (r = (-1 : Int32)))))) → V8 x4 x5) → (V8 ((1 : Int32) - a2) a1)
set_option maxRecDepth 100000 in
set_option maxHeartbeats 4000000 in
theorem c_X0_wasteAt (l : Launch) (dC : Nat → ClassId) (dI : Nat → Nat → Nat) (cI : ClassId) (q : Nat → Nat) (g : St) (a1 : Int32) (a2 : Int32) (a3 : Int32) (r : Int32) (hp : P_X0_wasteAt g a1 a2 a3 r) : Met l yX0_wasteAt wsX0_wasteAt { frames := 1, cells := 0, slots := 0, locals := 21 } (va_Pc [.ref (q 0), .int a1, .int a2, .int a3] (rpS (dC, dI) vwCl [(cI, .int)] (wX0 q cI g))) (QcRead r) 0 0 (fun _ => False) := by
  refine ro_met (cc := cX0_wasteAt) (maxL := 6) (ret := (some .int)) (by decide) rfl (Nat.le_of_ble_eq_true rfl) ?_
  intro p e s m below meth c hx hb hml hr hlk hts hown hP hK hN ls hl
  have hl : lv_has ls 6 [(0, .ref (q 0)), (1, .int a1), (2, .int a2), (3, .int a3)] := hl
  obtain ⟨V8, eV8⟩ : ∃ V : Int32 → Int32 → Prop, V = (fun x4 x5 => ∀ ls : Array Slot, lv_has ls 6 [(0, .ref (q 0)), (1, .int a1), (2, .int a2), (3, .int a3), (4, .int x4), (5, .int x5)] → W p l e { frames := 1, cells := 0, slots := 0, locals := 21 } s m ([.ref (q 0), .int a1, .int a2, .int a3] : List Value).toArray below meth c s.heap [] 0 0 (MQ below (QcRead r) ([.ref (q 0), .int a1, .int a2, .int a3] : List Value).toArray s 0 0 (fun _ => False)) (F0 m 8 ls [])) := ⟨_, rfl⟩
  have hp := hp V8
  have hp := hp (by
    intro x4 x5 hp
    rw [eV8]
    intro ls hl
    refine lv_iload hx hb dX0_wasteAt_8 (lv_at hl 5 rfl) ?_
    refine lv_iload_n hx hb dX0_wasteAt_10 rfl (lv_at hl 1 rfl) ?_
    refine lv_iload_n hx hb dX0_wasteAt_11 rfl (lv_at hl 2 rfl) ?_
    refine lv_iadd hx hb dX0_wasteAt_12 ?_
    refine lv_icmp_ge (tgt := 51) hx hb dX0_wasteAt_13 (by decide) (fun c5 => ?_) (fun c5 => ?_)
    · have hp := hp.1 c5
      refine lv_iload hx hb dX0_wasteAt_51 (lv_at hl 4 rfl) ?_
      refine lv_iload_n hx hb dX0_wasteAt_53 rfl (lv_at hl 3 rfl) ?_
      refine lv_icmp_ge (tgt := 61) hx hb dX0_wasteAt_54 (by decide) (fun c1 => ?_) (fun c1 => ?_)
      · have hp := hp.1 c1
        refine lv_iload hx hb dX0_wasteAt_61 (lv_at hl 4 rfl) ?_
        refine lv_iload_n hx hb dX0_wasteAt_63 rfl (lv_at hl 3 rfl) ?_
        refine lv_isub hx hb dX0_wasteAt_64 ?_
        exact W.iret hx hb hr (fun t ht _ => ⟨by rw [hp], ht⟩) (fun _ h => nomatch h) dX0_wasteAt_65
      · have hp := hp.2 c1
        refine lv_iconst (v := -1) hx hb dX0_wasteAt_57 (by decide) ?_
        refine lv_goto (tgt := 65) hx hb dX0_wasteAt_58 (by decide) ?_
        exact W.iret hx hb hr (fun t ht _ => ⟨by rw [hp], ht⟩) (fun _ h => nomatch h) dX0_wasteAt_65
    · have hp := hp.2 c5
      refine lv_aload_n hx hb dX0_wasteAt_16 rfl (lv_at hl 0 rfl) ?_
      refine va_get (D := (dC, dI)) (ci := 0) (v := .ref (q 3)) (C := RX0) (T := TX0) (N := 9) hx hb hts iX0_wasteAt_X0 hown hK hP 0 rfl rfl 4 (by decide) (hts _ kX0_wasteAt_0) (fun _ h9 => h9) rfl dX0_wasteAt_17 ?_
      refine lv_iload hx hb dX0_wasteAt_20 (lv_at hl 5 rfl) ?_
      refine ro_V (As := [.int x5]) (rest := []) ⟨hx, hb, hml, hown, hts⟩ (c_X2_at l dC dI cI (q 3) (q 4) 10 (g 2) x5 (by decide)) (cwV 1 hts gX0_wasteAt_X2_at rfl rfl rfl (by decide +kernel) ⟨Nat.le_of_ble_eq_true rfl, Nat.le_of_ble_eq_true rfl⟩) (hP.sub [3, 4] rfl) hK hN rfl rfl rfl rfl hl.1 (Nat.le_of_ble_eq_true rfl) ⟨Nat.zero_le _, Nat.zero_le _⟩ dX0_wasteAt_22 ?_
      refine lv_iconst (v := -1) hx hb dX0_wasteAt_25 (by decide) ?_
      refine lv_icmp_eq (tgt := 31) hx hb dX0_wasteAt_26 (by decide) (fun c4 => ?_) (fun c4 => ?_)
      · have hp := hp.1 c4
        refine lv_iload hx hb dX0_wasteAt_31 (lv_at hl 4 rfl) ?_
        refine lv_aload_n hx hb dX0_wasteAt_33 rfl (lv_at hl 0 rfl) ?_
        refine va_get (D := (dC, dI)) (ci := 0) (v := .ref (q 1)) (C := RX0) (T := TX0) (N := 9) hx hb hts iX0_wasteAt_X0 hown hK hP 0 rfl rfl 3 (by decide) (hts _ kX0_wasteAt_2) (fun _ h9 => h9) rfl dX0_wasteAt_34 ?_
        refine lv_iload hx hb dX0_wasteAt_37 (lv_at hl 5 rfl) ?_
        refine ro_V (As := [.int x5]) (rest := [.int x4]) ⟨hx, hb, hml, hown, hts⟩ (c_X2_at l dC dI cI (q 1) (q 2) 10 (g 1) x5 (by decide)) (cwV 1 hts gX0_wasteAt_X2_at rfl rfl rfl (by decide +kernel) ⟨Nat.le_of_ble_eq_true rfl, Nat.le_of_ble_eq_true rfl⟩) (hP.sub [1, 2] rfl) hK hN rfl rfl rfl rfl hl.1 (Nat.le_of_ble_eq_true rfl) ⟨Nat.zero_le _, Nat.zero_le _⟩ dX0_wasteAt_39 ?_
        refine lv_iadd hx hb dX0_wasteAt_42 ?_
        refine lv_istore (lv' := [(4, .int (x4 + (f_at 10 (g 1) x5))), (0, .ref (q 0)), (1, .int a1), (2, .int a2), (3, .int a3), (5, .int x5)]) hx hb dX0_wasteAt_43 hl (by decide) rfl (fun ls hl => ?_)
        refine lv_iinc (v := x5 + (1 : Int32)) (lv' := [(5, .int (x5 + (1 : Int32))), (4, .int (x4 + (f_at 10 (g 1) x5))), (0, .ref (q 0)), (1, .int a1), (2, .int a2), (3, .int a3)]) hx hb dX0_wasteAt_45 hl (k := 5) rfl rfl (by decide) rfl (fun ls hl => ?_)
        refine lv_goto (tgt := 8) hx hb dX0_wasteAt_48 (by decide) ?_
        rw [eV8] at hp
        exact hp _ (lv_sub hl [2, 3, 4, 5, 1, 0] rfl)
      · have hp := hp.2 c4
        refine lv_iconst (v := -1) hx hb dX0_wasteAt_29 (by decide) ?_
        exact W.iret hx hb hr (fun t ht _ => ⟨by rw [hp], ht⟩) (fun _ h => nomatch h) dX0_wasteAt_30)
  refine lv_iconst (v := 1) hx hb dX0_wasteAt_0 (by decide) ?_
  refine lv_iload_n hx hb dX0_wasteAt_1 rfl (lv_at hl 2 rfl) ?_
  refine lv_isub hx hb dX0_wasteAt_2 ?_
  refine lv_istore (lv' := [(4, .int ((1 : Int32) - a2)), (0, .ref (q 0)), (1, .int a1), (2, .int a2), (3, .int a3)]) hx hb dX0_wasteAt_3 hl (by decide) rfl (fun ls hl => ?_)
  refine lv_iload_n hx hb dX0_wasteAt_5 rfl (lv_at hl 2 rfl) ?_
  refine lv_istore (lv' := [(5, .int a1), (4, .int ((1 : Int32) - a2)), (0, .ref (q 0)), (1, .int a1), (2, .int a2), (3, .int a3)]) hx hb dX0_wasteAt_6 hl (by decide) rfl (fun ls hl => ?_)
  rw [eV8] at hp
  exact hp _ (lv_sub hl [2, 3, 4, 5, 1, 0] rfl)
theorem kX0_lesser_0 : (.methodLink RX0 82 Lib.Math.max.name : Cond) ∈ wsX0_lesser := by decide +kernel
theorem kX0_lesser_1 : (.static Lib.Math.max.name : Cond) ∈ wsX0_lesser := by decide +kernel
theorem kX0_lesser_2 : (.initialized "java/lang/Math" : Cond) ∈ wsX0_lesser := by decide +kernel
theorem kX0_lesser_3 : (.code Lib.Math.max.name Lib.Math.max.code 2 (some .int) : Cond) ∈ wsX0_lesser := by decide +kernel
theorem kX0_lesser_4 : (.methodLink RX0 87 Lib.Math.min.name : Cond) ∈ wsX0_lesser := by decide +kernel
theorem kX0_lesser_5 : (.static Lib.Math.min.name : Cond) ∈ wsX0_lesser := by decide +kernel
theorem kX0_lesser_6 : (.code Lib.Math.min.name Lib.Math.min.code 2 (some .int) : Cond) ∈ wsX0_lesser := by decide +kernel
def P_X0_lesser (a0 : Int32) (a1 : Int32) (r : Int32) : Prop := ((a0 = (-1 : Int32) → (r = (if a0 < a1 then a1 else a0))) ∧ (¬ a0 = (-1 : Int32) → ((¬ a1 = (-1 : Int32) → (r = (if a1 < a0 then a1 else a0))) ∧ (a1 = (-1 : Int32) → (r = (if a0 < a1 then a1 else a0))))))
set_option maxRecDepth 100000 in
set_option maxHeartbeats 4000000 in
theorem c_X0_lesser (l : Launch) (dC : Nat → ClassId) (dI : Nat → Nat → Nat) (cI : ClassId) (a0 : Int32) (a1 : Int32) (r : Int32) (hp : P_X0_lesser a0 a1 r) : Met l yX0_lesser wsX0_lesser { frames := 1, cells := 0, slots := 0, locals := 21 } (va_Pc [.int a0, .int a1] (rpS (dC, dI) vwCl [(cI, .int)] ([]))) (QcRead r) 0 0 (fun _ => False) := by
  refine ro_met (cc := cX0_lesser) (maxL := 2) (ret := (some .int)) (by decide) rfl (Nat.le_of_ble_eq_true rfl) ?_
  intro p e s m below meth c hx hb hml hr hlk hts hown hP hK hN ls hl
  have hl : lv_has ls 2 [(0, .int a0), (1, .int a1)] := hl
  unfold P_X0_lesser at hp
  refine lv_iload_n hx hb dX0_lesser_0 rfl (lv_at hl 0 rfl) ?_
  refine lv_iconst (v := -1) hx hb dX0_lesser_1 (by decide) ?_
  refine lv_icmp_eq (tgt := 10) hx hb dX0_lesser_2 (by decide) (fun c2 => ?_) (fun c2 => ?_)
  · have hp := hp.1 c2
    refine lv_iload_n hx hb dX0_lesser_10 rfl (lv_at hl 0 rfl) ?_
    refine lv_iload_n hx hb dX0_lesser_11 rfl (lv_at hl 1 rfl) ?_
    refine va_mmax hx hb (hml.trans hl.1.symm) hown (hts _ kX0_lesser_0) (hts _ kX0_lesser_1) (hts _ kX0_lesser_2) (hts _ kX0_lesser_3) (Nat.le_of_ble_eq_true rfl) (Nat.le_of_ble_eq_true rfl) (Nat.zero_le _) (Nat.zero_le _) dX0_lesser_12 ?_
    exact W.iret hx hb hr (fun t ht _ => ⟨by rw [hp], ht⟩) (fun _ h => nomatch h) dX0_lesser_15
  · have hp := hp.2 c2
    refine lv_iload_n hx hb dX0_lesser_5 rfl (lv_at hl 1 rfl) ?_
    refine lv_iconst (v := -1) hx hb dX0_lesser_6 (by decide) ?_
    refine lv_icmp_ne (tgt := 16) hx hb dX0_lesser_7 (by decide) (fun c1 => ?_) (fun c1 => ?_)
    · have hp := hp.1 c1
      refine lv_iload_n hx hb dX0_lesser_16 rfl (lv_at hl 0 rfl) ?_
      refine lv_iload_n hx hb dX0_lesser_17 rfl (lv_at hl 1 rfl) ?_
      refine va_mmin hx hb (hml.trans hl.1.symm) hown (hts _ kX0_lesser_4) (hts _ kX0_lesser_5) (hts _ kX0_lesser_2) (hts _ kX0_lesser_6) (Nat.le_of_ble_eq_true rfl) (Nat.le_of_ble_eq_true rfl) (Nat.zero_le _) (Nat.zero_le _) dX0_lesser_18 ?_
      exact W.iret hx hb hr (fun t ht _ => ⟨by rw [hp], ht⟩) (fun _ h => nomatch h) dX0_lesser_21
    · have hp := hp.2 c1
      refine lv_iload_n hx hb dX0_lesser_10 rfl (lv_at hl 0 rfl) ?_
      refine lv_iload_n hx hb dX0_lesser_11 rfl (lv_at hl 1 rfl) ?_
      refine va_mmax hx hb (hml.trans hl.1.symm) hown (hts _ kX0_lesser_0) (hts _ kX0_lesser_1) (hts _ kX0_lesser_2) (hts _ kX0_lesser_3) (Nat.le_of_ble_eq_true rfl) (Nat.le_of_ble_eq_true rfl) (Nat.zero_le _) (Nat.zero_le _) dX0_lesser_12 ?_
      exact W.iret hx hb hr (fun t ht _ => ⟨by rw [hp], ht⟩) (fun _ h => nomatch h) dX0_lesser_15
theorem kX0_leastWaste_0 : (.fieldLink RX0 35 "Meeplehouse$Hall" "tables" "I" : Cond) ∈ wsX0_leastWaste := by decide +kernel
theorem iX0_leastWaste_X0 : ∀ w ∈ wsX00, w ∈ wsX0_leastWaste := by decide +kernel
def P_X0_leastWaste (g : St) (a1 : Int32) (r : Int32) : Prop := ∀ V4 : Int32 → Int32 → Prop, ∀ V15 : Int32 → Int32 → Int32 → Prop, (∀ x2 x3 : Int32, (((g 0 1) < x3 → (r = x2)) ∧ (¬ (g 0 1) < x3 → (V15 x2 x3 (0 : Int32)))) → V4 x2 x3) → (∀ x2 x3 x4 : Int32, (((g 0 1) < (x4 + x3) → (V4 x2 (x3 + (1 : Int32)))) ∧ (¬ (g 0 1) < (x4 + x3) → (∃ r2 : Int32, P_X0_wasteAt g x4 x3 a1 r2 ∧ (∃ r3 : Int32, P_X0_lesser x2 r2 r3 ∧ (V15 r3 x3 (x4 + (1 : Int32))))))) → V15 x2 x3 x4) → (V4 (-1 : Int32) (1 : Int32))
set_option maxRecDepth 100000 in
set_option maxHeartbeats 4000000 in
theorem c_X0_leastWaste (l : Launch) (dC : Nat → ClassId) (dI : Nat → Nat → Nat) (cI : ClassId) (q : Nat → Nat) (g : St) (a1 : Int32) (r : Int32) (hp : P_X0_leastWaste g a1 r) : Met l yX0_leastWaste wsX0_leastWaste { frames := 2, cells := 0, slots := 0, locals := 46 } (va_Pc [.ref (q 0), .int a1] (rpS (dC, dI) vwCl [(cI, .int)] (wX0 q cI g))) (QcRead r) 0 0 (fun _ => False) := by
  refine ro_met (cc := cX0_leastWaste) (maxL := 5) (ret := (some .int)) (by decide) rfl (Nat.le_of_ble_eq_true rfl) ?_
  intro p e s m below meth c hx hb hml hr hlk hts hown hP hK hN ls hl
  have hl : lv_has ls 5 [(0, .ref (q 0)), (1, .int a1)] := hl
  obtain ⟨V4, eV4⟩ : ∃ V : Int32 → Int32 → Prop, V = (fun x2 x3 => ∀ ls : Array Slot, lv_has ls 5 [(0, .ref (q 0)), (1, .int a1), (2, .int x2), (3, .int x3)] → W p l e { frames := 2, cells := 0, slots := 0, locals := 46 } s m ([.ref (q 0), .int a1] : List Value).toArray below meth c s.heap [] 0 0 (MQ below (QcRead r) ([.ref (q 0), .int a1] : List Value).toArray s 0 0 (fun _ => False)) (F0 m 4 ls [])) := ⟨_, rfl⟩
  obtain ⟨V15, eV15⟩ : ∃ V : Int32 → Int32 → Int32 → Prop, V = (fun x2 x3 x4 => ∀ ls : Array Slot, lv_has ls 5 [(0, .ref (q 0)), (1, .int a1), (2, .int x2), (3, .int x3), (4, .int x4)] → W p l e { frames := 2, cells := 0, slots := 0, locals := 46 } s m ([.ref (q 0), .int a1] : List Value).toArray below meth c s.heap [] 0 0 (MQ below (QcRead r) ([.ref (q 0), .int a1] : List Value).toArray s 0 0 (fun _ => False)) (F0 m 15 ls [])) := ⟨_, rfl⟩
  have hp := hp V4 V15
  have hp := hp (by
    intro x2 x3 hp
    rw [eV4]
    intro ls hl
    refine lv_iload_n hx hb dX0_leastWaste_4 rfl (lv_at hl 3 rfl) ?_
    refine lv_aload_n hx hb dX0_leastWaste_5 rfl (lv_at hl 0 rfl) ?_
    refine va_get (D := (dC, dI)) (ci := 0) (v := .int (g 0 1)) (C := RX0) (T := TX0) (N := 9) hx hb hts iX0_leastWaste_X0 hown hK hP 0 rfl rfl 1 (by decide) (hts _ kX0_leastWaste_0) (fun _ h9 => h9) rfl dX0_leastWaste_6 ?_
    refine lv_icmp_gt (tgt := 51) hx hb dX0_leastWaste_9 (by decide) (fun c1 => ?_) (fun c1 => ?_)
    · have hp := hp.1 c1
      refine lv_iload_n hx hb dX0_leastWaste_51 rfl (lv_at hl 2 rfl) ?_
      exact W.iret hx hb hr (fun t ht _ => ⟨by rw [hp], ht⟩) (fun _ h => nomatch h) dX0_leastWaste_52
    · have hp := hp.2 c1
      refine lv_iconst (v := 0) hx hb dX0_leastWaste_12 (by decide) ?_
      refine lv_istore (lv' := [(4, .int (0 : Int32)), (0, .ref (q 0)), (1, .int a1), (2, .int x2), (3, .int x3)]) hx hb dX0_leastWaste_13 hl (by decide) rfl (fun ls hl => ?_)
      rw [eV15] at hp
      exact hp _ (lv_sub hl [1, 2, 3, 4, 0] rfl))
  have hp := hp (by
    intro x2 x3 x4 hp
    rw [eV15]
    intro ls hl
    refine lv_iload hx hb dX0_leastWaste_15 (lv_at hl 4 rfl) ?_
    refine lv_iload_n hx hb dX0_leastWaste_17 rfl (lv_at hl 3 rfl) ?_
    refine lv_iadd hx hb dX0_leastWaste_18 ?_
    refine lv_aload_n hx hb dX0_leastWaste_19 rfl (lv_at hl 0 rfl) ?_
    refine va_get (D := (dC, dI)) (ci := 0) (v := .int (g 0 1)) (C := RX0) (T := TX0) (N := 9) hx hb hts iX0_leastWaste_X0 hown hK hP 0 rfl rfl 1 (by decide) (hts _ kX0_leastWaste_0) (fun _ h9 => h9) rfl dX0_leastWaste_20 ?_
    refine lv_icmp_gt (tgt := 45) hx hb dX0_leastWaste_23 (by decide) (fun c4 => ?_) (fun c4 => ?_)
    · have hp := hp.1 c4
      refine lv_iinc (v := x3 + (1 : Int32)) (lv' := [(3, .int (x3 + (1 : Int32))), (0, .ref (q 0)), (1, .int a1), (2, .int x2), (4, .int x4)]) hx hb dX0_leastWaste_45 hl (k := 3) rfl rfl (by decide) rfl (fun ls hl => ?_)
      refine lv_goto (tgt := 4) hx hb dX0_leastWaste_48 (by decide) ?_
      rw [eV4] at hp
      exact hp _ (lv_sub hl [1, 2, 3, 0] rfl)
    · have hp := hp.2 c4
      refine lv_iload_n hx hb dX0_leastWaste_26 rfl (lv_at hl 2 rfl) ?_
      refine lv_aload_n hx hb dX0_leastWaste_27 rfl (lv_at hl 0 rfl) ?_
      refine lv_iload hx hb dX0_leastWaste_28 (lv_at hl 4 rfl) ?_
      refine lv_iload_n hx hb dX0_leastWaste_30 rfl (lv_at hl 3 rfl) ?_
      refine lv_iload_n hx hb dX0_leastWaste_31 rfl (lv_at hl 1 rfl) ?_
      obtain ⟨r2, hr2, hp⟩ := hp
      refine ro_V (As := [.int x4, .int x3, .int a1]) (rest := [.int x2]) ⟨hx, hb, hml, hown, hts⟩ (c_X0_wasteAt l dC dI cI q g x4 x3 a1 r2 hr2) (cwV 3 hts gX0_leastWaste_X0_wasteAt rfl rfl rfl (by decide +kernel) ⟨Nat.le_of_ble_eq_true rfl, Nat.le_of_ble_eq_true rfl⟩) hP hK hN rfl rfl rfl rfl hl.1 (Nat.le_of_ble_eq_true rfl) ⟨Nat.zero_le _, Nat.zero_le _⟩ dX0_leastWaste_32 ?_
      obtain ⟨r3, hr3, hp⟩ := hp
      refine ro_S (As := [.int x2, .int r2]) (rest := []) ⟨hx, hb, hml, hown, hts⟩ (c_X0_lesser l dC dI cI x2 r2 r3 hr3) (va_cwS 2 hts gX0_leastWaste_X0_lesser rfl rfl rfl (by decide +kernel) ⟨Nat.le_of_ble_eq_true rfl, Nat.le_of_ble_eq_true rfl⟩) (hP.sub [] rfl) hK hN rfl rfl hl.1 (Nat.le_of_ble_eq_true rfl) ⟨Nat.zero_le _, Nat.zero_le _⟩ dX0_leastWaste_35 ?_
      refine lv_istore_n (lv' := [(2, .int r3), (0, .ref (q 0)), (1, .int a1), (3, .int x3), (4, .int x4)]) hx hb dX0_leastWaste_38 rfl hl (by decide) rfl (fun ls hl => ?_)
      refine lv_iinc (v := x4 + (1 : Int32)) (lv' := [(4, .int (x4 + (1 : Int32))), (2, .int r3), (0, .ref (q 0)), (1, .int a1), (3, .int x3)]) hx hb dX0_leastWaste_39 hl (k := 4) rfl rfl (by decide) rfl (fun ls hl => ?_)
      refine lv_goto (tgt := 15) hx hb dX0_leastWaste_42 (by decide) ?_
      rw [eV15] at hp
      exact hp _ (lv_sub hl [2, 3, 1, 4, 0] rfl))
  refine lv_iconst (v := -1) hx hb dX0_leastWaste_0 (by decide) ?_
  refine lv_istore_n (lv' := [(2, .int (-1 : Int32)), (0, .ref (q 0)), (1, .int a1)]) hx hb dX0_leastWaste_1 rfl hl (by decide) rfl (fun ls hl => ?_)
  refine lv_iconst (v := 1) hx hb dX0_leastWaste_2 (by decide) ?_
  refine lv_istore_n (lv' := [(3, .int (1 : Int32)), (2, .int (-1 : Int32)), (0, .ref (q 0)), (1, .int a1)]) hx hb dX0_leastWaste_3 rfl hl (by decide) rfl (fun ls hl => ?_)
  rw [eV4] at hp
  exact hp _ (lv_sub hl [2, 3, 1, 0] rfl)
theorem kX0_seat_0 : (.fieldLink RX0 32 "Meeplehouse$Hall" "state" "LMeeplehouse$Row;" : Cond) ∈ wsX0_seat := by decide +kernel
theorem iX0_seat_X0 : ∀ w ∈ wsX00, w ∈ wsX0_seat := by decide +kernel
theorem kX0_seat_2 : (.fieldLink RX0 29 "Meeplehouse$Hall" "end" "LMeeplehouse$Row;" : Cond) ∈ wsX0_seat := by decide +kernel
theorem kX0_seat_3 : (.fieldLink RX0 68 "Meeplehouse$Hall" "minute" "I" : Cond) ∈ wsX0_seat := by decide +kernel
theorem kX0_seat_4 : (.fieldLink RX0 26 "Meeplehouse$Hall" "stay" "LMeeplehouse$Row;" : Cond) ∈ wsX0_seat := by decide +kernel
theorem kX0_seat_5 : (.fieldLink RX0 20 "Meeplehouse$Hall" "sitter" "LMeeplehouse$Row;" : Cond) ∈ wsX0_seat := by decide +kernel
def P_X0_seat (g : St) (a1 : Int32) (a2 : Int32) (a3 : Int32) (g' : St) : Prop := ∀ V3 : St → Int32 → Prop, (∀ gv : St, ∀ x4 : Int32, (((a2 + a3) ≤ x4 → (∀ g2 : St, g2 = st_put gv 6 30 a1 (1 : Int32) → (∀ g5 : St, g5 = st_put g2 5 30 a1 ((g2 0 0) + (f_at 30 (g2 4) a1)) → (g' = g5)))) ∧ (¬ (a2 + a3) ≤ x4 → (∀ g7 : St, g7 = st_put gv 2 10 x4 a1 → (V3 g7 (x4 + (1 : Int32)))))) → V3 gv x4) → (V3 g a2)
set_option maxRecDepth 100000 in
set_option maxHeartbeats 4000000 in
theorem c_X0_seat (l : Launch) (dC : Nat → ClassId) (dI : Nat → Nat → Nat) (cI : ClassId) (q : Nat → Nat) (g : St) (a1 : Int32) (a2 : Int32) (a3 : Int32) (g' : St) (hp : P_X0_seat g a1 a2 a3 g') (sz : Nat) : Met l yX0_seat wsX0_seat { frames := 1, cells := 0, slots := 0, locals := 22 } (va_Pc [.ref (q 0), .int a1, .int a2, .int a3] (wpS (dC, dI) vwCl [(cI, .int)] (wX0 q cI g) sz)) (va_Qv (fun _ : Unit => True) (fun _ t => wqB (dC, dI) vwCl (wX0 q cI g') (va_A (wX0 q cI g) sz) t) (va_A (wX0 q cI g) sz)) 0 0 (va_A (wX0 q cI g) sz) := by
  refine wr_met (fun A => (va_Qv (fun _ : Unit => True) (fun _ t => wqB (dC, dI) vwCl (wX0 q cI g') A t) A)) (cc := cX0_seat) (maxL := 5) (ret := none) (by decide) rfl (Nat.le_of_ble_eq_true rfl) ?_
  intro p e s m below meth c A hx hb hml hr hlk hts hown hnm hP hK hN hD hA ls hl
  have hS : va_S A s.heap s.heap [] := va_S.rf
  have hl : lv_has ls 5 [(0, .ref (q 0)), (1, .int a1), (2, .int a2), (3, .int a3)] := hl
  obtain ⟨V3, eV3⟩ : ∃ V : St → Int32 → Prop, V = (fun gv x4 => ∀ (H : Heap) (locs : List Loc) (ls : Array Slot), va_P (dC, dI) vwCl (wX0 q cI gv) H → va_D A (wX0 q cI gv) → va_S A s.heap H locs → lv_has ls 5 [(0, .ref (q 0)), (1, .int a1), (2, .int a2), (3, .int a3), (4, .int x4)] → W p l e { frames := 1, cells := 0, slots := 0, locals := 22 } s m ([.ref (q 0), .int a1, .int a2, .int a3] : List Value).toArray below meth c H locs 0 0 (MQ below (va_Qv (fun _ : Unit => True) (fun _ t => wqB (dC, dI) vwCl (wX0 q cI g') A t) A) ([.ref (q 0), .int a1, .int a2, .int a3] : List Value).toArray s 0 0 A) (F0 m 3 ls [])) := ⟨_, rfl⟩
  have hp := hp V3
  have hp := hp (by
    intro gv x4 hp
    rw [eV3]
    intro H locs ls hP hD hS hl
    refine lv_iload hx hb dX0_seat_3 (lv_at hl 4 rfl) ?_
    refine lv_iload_n hx hb dX0_seat_5 rfl (lv_at hl 2 rfl) ?_
    refine lv_iload_n hx hb dX0_seat_6 rfl (lv_at hl 3 rfl) ?_
    refine lv_iadd hx hb dX0_seat_7 ?_
    refine lv_icmp_ge (tgt := 27) hx hb dX0_seat_8 (by decide) (fun c8 => ?_) (fun c8 => ?_)
    · have hp := hp.1 c8
      refine lv_aload_n hx hb dX0_seat_27 rfl (lv_at hl 0 rfl) ?_
      refine va_get (D := (dC, dI)) (ci := 0) (v := .ref (q 11)) (C := RX0) (T := TX0) (N := 9) hx hb hts iX0_seat_X0 hown hK hP 0 rfl rfl 8 (by decide) (hts _ kX0_seat_0) (fun _ h9 => h9) rfl dX0_seat_28 ?_
      refine lv_iload_n hx hb dX0_seat_31 rfl (lv_at hl 1 rfl) ?_
      refine lv_iconst (v := 1) hx hb dX0_seat_32 (by decide) ?_
      refine wr_Vv (As := [.int a1, .int (1 : Int32)]) (rest := []) (w1 := (wX0 q cI gv).take 11) (w2 := (wX0 q cI gv).drop 13) (ws1 := wX0 q cI (st_put gv 6 30 a1 (1 : Int32))) ⟨hx, hb, hml, hown, hts⟩ (c_X2_put l dC dI cI (q 11) (q 12) 30 (gv 6) a1 (1 : Int32) _ (by decide)) (cwV 2 hts gX0_seat_X2_put rfl rfl rfl (by decide +kernel) ⟨Nat.le_of_ble_eq_true rfl, Nat.le_of_ble_eq_true rfl⟩) hP hD hS hA hK hN rfl rfl rfl rfl rfl rfl hl.1 (Nat.le_of_ble_eq_true rfl) ⟨Nat.zero_le _, Nat.zero_le _⟩ dX0_seat_33 (fun H locs hP hD hS => ?_)
      obtain ⟨g2, eg2⟩ : ∃ z : St, z = st_put gv 6 30 a1 (1 : Int32) := ⟨_, rfl⟩
      have hp := hp g2 eg2
      have hP : va_P (dC, dI) vwCl (wX0 q cI g2) H := by rw [eg2]; exact hP
      have hD : va_D A (wX0 q cI g2) := by rw [eg2]; exact hD
      refine lv_aload_n hx hb dX0_seat_36 rfl (lv_at hl 0 rfl) ?_
      refine va_get (D := (dC, dI)) (ci := 0) (v := .ref (q 9)) (C := RX0) (T := TX0) (N := 9) hx hb hts iX0_seat_X0 hown hK hP 0 rfl rfl 7 (by decide) (hts _ kX0_seat_2) (fun _ h9 => h9) rfl dX0_seat_37 ?_
      refine lv_iload_n hx hb dX0_seat_40 rfl (lv_at hl 1 rfl) ?_
      refine lv_aload_n hx hb dX0_seat_41 rfl (lv_at hl 0 rfl) ?_
      refine va_get (D := (dC, dI)) (ci := 0) (v := .int (g2 0 0)) (C := RX0) (T := TX0) (N := 9) hx hb hts iX0_seat_X0 hown hK hP 0 rfl rfl 0 (by decide) (hts _ kX0_seat_3) (fun _ h9 => h9) rfl dX0_seat_42 ?_
      refine lv_aload_n hx hb dX0_seat_45 rfl (lv_at hl 0 rfl) ?_
      refine va_get (D := (dC, dI)) (ci := 0) (v := .ref (q 7)) (C := RX0) (T := TX0) (N := 9) hx hb hts iX0_seat_X0 hown hK hP 0 rfl rfl 6 (by decide) (hts _ kX0_seat_4) (fun _ h9 => h9) rfl dX0_seat_46 ?_
      refine lv_iload_n hx hb dX0_seat_49 rfl (lv_at hl 1 rfl) ?_
      refine ro_V (As := [.int a1]) (rest := [.int (g2 0 0), .int a1, .ref (q 9)]) ⟨hx, hb, hml, hown, hts⟩ (c_X2_at l dC dI cI (q 7) (q 8) 30 (g2 4) a1 (by decide)) (cwV 1 hts gX0_seat_X2_at rfl rfl rfl (by decide +kernel) ⟨Nat.le_of_ble_eq_true rfl, Nat.le_of_ble_eq_true rfl⟩) (hP.sub [7, 8] rfl) hK hN rfl rfl rfl rfl hl.1 (Nat.le_of_ble_eq_true rfl) ⟨Nat.zero_le _, Nat.zero_le _⟩ dX0_seat_50 ?_
      refine lv_iadd hx hb dX0_seat_53 ?_
      refine wr_Vv (As := [.int a1, .int ((g2 0 0) + (f_at 30 (g2 4) a1))]) (rest := []) (w1 := (wX0 q cI g2).take 9) (w2 := (wX0 q cI g2).drop 11) (ws1 := wX0 q cI (st_put g2 5 30 a1 ((g2 0 0) + (f_at 30 (g2 4) a1)))) ⟨hx, hb, hml, hown, hts⟩ (c_X2_put l dC dI cI (q 9) (q 10) 30 (g2 5) a1 ((g2 0 0) + (f_at 30 (g2 4) a1)) _ (by decide)) (cwV 2 hts gX0_seat_X2_put rfl rfl rfl (by decide +kernel) ⟨Nat.le_of_ble_eq_true rfl, Nat.le_of_ble_eq_true rfl⟩) hP hD hS hA hK hN rfl rfl rfl rfl rfl rfl hl.1 (Nat.le_of_ble_eq_true rfl) ⟨Nat.zero_le _, Nat.zero_le _⟩ dX0_seat_54 (fun H locs hP hD hS => ?_)
      obtain ⟨g5, eg5⟩ : ∃ z : St, z = st_put g2 5 30 a1 ((g2 0 0) + (f_at 30 (g2 4) a1)) := ⟨_, rfl⟩
      have hp := hp g5 eg5
      have hP : va_P (dC, dI) vwCl (wX0 q cI g5) H := by rw [eg5]; exact hP
      have hD : va_D A (wX0 q cI g5) := by rw [eg5]; exact hD
      exact W.vret hx hb hr (fun t ht _ => ⟨⟨(), rfl, trivial, by rw [ht, hp]; exact hP, by rw [hp]; exact hD⟩, hS.F ht⟩) hS.2.2 dX0_seat_57
    · have hp := hp.2 c8
      refine lv_aload_n hx hb dX0_seat_11 rfl (lv_at hl 0 rfl) ?_
      refine va_get (D := (dC, dI)) (ci := 0) (v := .ref (q 3)) (C := RX0) (T := TX0) (N := 9) hx hb hts iX0_seat_X0 hown hK hP 0 rfl rfl 4 (by decide) (hts _ kX0_seat_5) (fun _ h9 => h9) rfl dX0_seat_12 ?_
      refine lv_iload hx hb dX0_seat_15 (lv_at hl 4 rfl) ?_
      refine lv_iload_n hx hb dX0_seat_17 rfl (lv_at hl 1 rfl) ?_
      refine wr_Vv (As := [.int x4, .int a1]) (rest := []) (w1 := (wX0 q cI gv).take 3) (w2 := (wX0 q cI gv).drop 5) (ws1 := wX0 q cI (st_put gv 2 10 x4 a1)) ⟨hx, hb, hml, hown, hts⟩ (c_X2_put l dC dI cI (q 3) (q 4) 10 (gv 2) x4 a1 _ (by decide)) (cwV 2 hts gX0_seat_X2_put rfl rfl rfl (by decide +kernel) ⟨Nat.le_of_ble_eq_true rfl, Nat.le_of_ble_eq_true rfl⟩) hP hD hS hA hK hN rfl rfl rfl rfl rfl rfl hl.1 (Nat.le_of_ble_eq_true rfl) ⟨Nat.zero_le _, Nat.zero_le _⟩ dX0_seat_18 (fun H locs hP hD hS => ?_)
      obtain ⟨g7, eg7⟩ : ∃ z : St, z = st_put gv 2 10 x4 a1 := ⟨_, rfl⟩
      have hp := hp g7 eg7
      have hP : va_P (dC, dI) vwCl (wX0 q cI g7) H := by rw [eg7]; exact hP
      have hD : va_D A (wX0 q cI g7) := by rw [eg7]; exact hD
      refine lv_iinc (v := x4 + (1 : Int32)) (lv' := [(4, .int (x4 + (1 : Int32))), (0, .ref (q 0)), (1, .int a1), (2, .int a2), (3, .int a3)]) hx hb dX0_seat_21 hl (k := 4) rfl rfl (by decide) rfl (fun ls hl => ?_)
      refine lv_goto (tgt := 3) hx hb dX0_seat_24 (by decide) ?_
      rw [eV3] at hp
      exact hp _ _ _ hP hD hS (lv_sub hl [1, 2, 3, 4, 0] rfl))
  refine lv_iload_n hx hb dX0_seat_0 rfl (lv_at hl 2 rfl) ?_
  refine lv_istore (lv' := [(4, .int a2), (0, .ref (q 0)), (1, .int a1), (2, .int a2), (3, .int a3)]) hx hb dX0_seat_1 hl (by decide) rfl (fun ls hl => ?_)
  rw [eV3] at hp
  exact hp _ _ _ hP hD hS (lv_sub hl [1, 2, 3, 4, 0] rfl)
theorem kX0_seatIfPossible_0 : (.fieldLink RX0 23 "Meeplehouse$Hall" "players" "LMeeplehouse$Row;" : Cond) ∈ wsX0_seatIfPossible := by decide +kernel
theorem iX0_seatIfPossible_X0 : ∀ w ∈ wsX00, w ∈ wsX0_seatIfPossible := by decide +kernel
theorem kX0_seatIfPossible_2 : (.fieldLink RX0 35 "Meeplehouse$Hall" "tables" "I" : Cond) ∈ wsX0_seatIfPossible := by decide +kernel
def P_X0_seatIfPossible (g : St) (a1 : Int32) (r : Int32) (g' : St) : Prop := ∀ V22 : St → Int32 → Int32 → Prop, ∀ V33 : St → Int32 → Int32 → Int32 → Prop, (∀ gv : St, ∀ x2 x3 : Int32, (((gv 0 1) < x3 → (r = (0 : Int32) ∧ g' = gv)) ∧ (¬ (gv 0 1) < x3 → (V33 gv x2 x3 (0 : Int32)))) → V22 gv x2 x3) → (∀ gv : St, ∀ x2 x3 x4 : Int32, (((gv 0 1) < (x4 + x3) → (V22 gv x2 (x3 + (1 : Int32)))) ∧ (¬ (gv 0 1) < (x4 + x3) → (∃ r6 : Int32, P_X0_wasteAt gv x4 x3 (f_at 30 (gv 3) a1) r6 ∧ ((¬ r6 = x2 → (V33 gv x2 x3 (x4 + (1 : Int32)))) ∧ (r6 = x2 → (∃ g8 : St, P_X0_seat gv a1 x4 x3 g8 ∧ (r = (1 : Int32) ∧ g' = g8))))))) → V33 gv x2 x3 x4) → (∃ r2 : Int32, P_X0_leastWaste g (f_at 30 (g 3) a1) r2 ∧ ((¬ r2 = (-1 : Int32) → (V22 g r2 (1 : Int32))) ∧ (r2 = (-1 : Int32) → (r = (0 : Int32) ∧ g' = g))))
set_option maxRecDepth 100000 in
set_option maxHeartbeats 4000000 in
theorem c_X0_seatIfPossible (l : Launch) (dC : Nat → ClassId) (dI : Nat → Nat → Nat) (cI : ClassId) (q : Nat → Nat) (g : St) (a1 : Int32) (r : Int32) (g' : St) (hp : P_X0_seatIfPossible g a1 r g') (sz : Nat) : Met l yX0_seatIfPossible wsX0_seatIfPossible { frames := 3, cells := 0, slots := 0, locals := 70 } (va_Pc [.ref (q 0), .int a1] (wpS (dC, dI) vwCl [(cI, .int)] (wX0 q cI g) sz)) (va_Qi (fun (r' : Int32) (_ : Unit) => r' = r) (fun _ t => wqB (dC, dI) vwCl (wX0 q cI g') (va_A (wX0 q cI g) sz) t) (va_A (wX0 q cI g) sz)) 0 0 (va_A (wX0 q cI g) sz) := by
  refine wr_met (fun A => (va_Qi (fun (r' : Int32) (_ : Unit) => r' = r) (fun _ t => wqB (dC, dI) vwCl (wX0 q cI g') A t) A)) (cc := cX0_seatIfPossible) (maxL := 5) (ret := (some .boolean)) (by decide) rfl (Nat.le_of_ble_eq_true rfl) ?_
  intro p e s m below meth c A hx hb hml hr hlk hts hown hnm hP hK hN hD hA ls hl
  have hS : va_S A s.heap s.heap [] := va_S.rf
  have hl : lv_has ls 5 [(0, .ref (q 0)), (1, .int a1)] := hl
  obtain ⟨V22, eV22⟩ : ∃ V : St → Int32 → Int32 → Prop, V = (fun gv x2 x3 => ∀ (H : Heap) (locs : List Loc) (ls : Array Slot), va_P (dC, dI) vwCl (wX0 q cI gv) H → va_D A (wX0 q cI gv) → va_S A s.heap H locs → lv_has ls 5 [(0, .ref (q 0)), (1, .int a1), (2, .int x2), (3, .int x3)] → W p l e { frames := 3, cells := 0, slots := 0, locals := 70 } s m ([.ref (q 0), .int a1] : List Value).toArray below meth c H locs 0 0 (MQ below (va_Qi (fun (r' : Int32) (_ : Unit) => r' = r) (fun _ t => wqB (dC, dI) vwCl (wX0 q cI g') A t) A) ([.ref (q 0), .int a1] : List Value).toArray s 0 0 A) (F0 m 22 ls [])) := ⟨_, rfl⟩
  obtain ⟨V33, eV33⟩ : ∃ V : St → Int32 → Int32 → Int32 → Prop, V = (fun gv x2 x3 x4 => ∀ (H : Heap) (locs : List Loc) (ls : Array Slot), va_P (dC, dI) vwCl (wX0 q cI gv) H → va_D A (wX0 q cI gv) → va_S A s.heap H locs → lv_has ls 5 [(0, .ref (q 0)), (1, .int a1), (2, .int x2), (3, .int x3), (4, .int x4)] → W p l e { frames := 3, cells := 0, slots := 0, locals := 70 } s m ([.ref (q 0), .int a1] : List Value).toArray below meth c H locs 0 0 (MQ below (va_Qi (fun (r' : Int32) (_ : Unit) => r' = r) (fun _ t => wqB (dC, dI) vwCl (wX0 q cI g') A t) A) ([.ref (q 0), .int a1] : List Value).toArray s 0 0 A) (F0 m 33 ls [])) := ⟨_, rfl⟩
  have hp := hp V22 V33
  have hp := hp (by
    intro gv x2 x3 hp
    rw [eV22]
    intro H locs ls hP hD hS hl
    refine lv_iload_n hx hb dX0_seatIfPossible_22 rfl (lv_at hl 3 rfl) ?_
    refine lv_aload_n hx hb dX0_seatIfPossible_23 rfl (lv_at hl 0 rfl) ?_
    refine va_get (D := (dC, dI)) (ci := 0) (v := .int (gv 0 1)) (C := RX0) (T := TX0) (N := 9) hx hb hts iX0_seatIfPossible_X0 hown hK hP 0 rfl rfl 1 (by decide) (hts _ kX0_seatIfPossible_2) (fun _ h9 => h9) rfl dX0_seatIfPossible_24 ?_
    refine lv_icmp_gt (tgt := 85) hx hb dX0_seatIfPossible_27 (by decide) (fun c4 => ?_) (fun c4 => ?_)
    · have hp := hp.1 c4
      refine lv_iconst (v := 0) hx hb dX0_seatIfPossible_85 (by decide) ?_
      exact W.zret (ty := .boolean) hx hb hr rfl (fun t ht _ => ⟨⟨_, (), rfl, hp.1.symm, by rw [ht, hp.2]; exact hP, by rw [hp.2]; exact hD⟩, hS.F ht⟩) hS.2.2 dX0_seatIfPossible_86
    · have hp := hp.2 c4
      refine lv_iconst (v := 0) hx hb dX0_seatIfPossible_30 (by decide) ?_
      refine lv_istore (lv' := [(4, .int (0 : Int32)), (0, .ref (q 0)), (1, .int a1), (2, .int x2), (3, .int x3)]) hx hb dX0_seatIfPossible_31 hl (by decide) rfl (fun ls hl => ?_)
      rw [eV33] at hp
      exact hp _ _ _ hP hD hS (lv_sub hl [1, 2, 3, 4, 0] rfl))
  have hp := hp (by
    intro gv x2 x3 x4 hp
    rw [eV33]
    intro H locs ls hP hD hS hl
    refine lv_iload hx hb dX0_seatIfPossible_33 (lv_at hl 4 rfl) ?_
    refine lv_iload_n hx hb dX0_seatIfPossible_35 rfl (lv_at hl 3 rfl) ?_
    refine lv_iadd hx hb dX0_seatIfPossible_36 ?_
    refine lv_aload_n hx hb dX0_seatIfPossible_37 rfl (lv_at hl 0 rfl) ?_
    refine va_get (D := (dC, dI)) (ci := 0) (v := .int (gv 0 1)) (C := RX0) (T := TX0) (N := 9) hx hb hts iX0_seatIfPossible_X0 hown hK hP 0 rfl rfl 1 (by decide) (hts _ kX0_seatIfPossible_2) (fun _ h9 => h9) rfl dX0_seatIfPossible_38 ?_
    refine lv_icmp_gt (tgt := 79) hx hb dX0_seatIfPossible_41 (by decide) (fun c10 => ?_) (fun c10 => ?_)
    · have hp := hp.1 c10
      refine lv_iinc (v := x3 + (1 : Int32)) (lv' := [(3, .int (x3 + (1 : Int32))), (0, .ref (q 0)), (1, .int a1), (2, .int x2), (4, .int x4)]) hx hb dX0_seatIfPossible_79 hl (k := 3) rfl rfl (by decide) rfl (fun ls hl => ?_)
      refine lv_goto (tgt := 22) hx hb dX0_seatIfPossible_82 (by decide) ?_
      rw [eV22] at hp
      exact hp _ _ _ hP hD hS (lv_sub hl [1, 2, 3, 0] rfl)
    · have hp := hp.2 c10
      refine lv_aload_n hx hb dX0_seatIfPossible_44 rfl (lv_at hl 0 rfl) ?_
      refine lv_iload hx hb dX0_seatIfPossible_45 (lv_at hl 4 rfl) ?_
      refine lv_iload_n hx hb dX0_seatIfPossible_47 rfl (lv_at hl 3 rfl) ?_
      refine lv_aload_n hx hb dX0_seatIfPossible_48 rfl (lv_at hl 0 rfl) ?_
      refine va_get (D := (dC, dI)) (ci := 0) (v := .ref (q 5)) (C := RX0) (T := TX0) (N := 9) hx hb hts iX0_seatIfPossible_X0 hown hK hP 0 rfl rfl 5 (by decide) (hts _ kX0_seatIfPossible_0) (fun _ h9 => h9) rfl dX0_seatIfPossible_49 ?_
      refine lv_iload_n hx hb dX0_seatIfPossible_52 rfl (lv_at hl 1 rfl) ?_
      refine ro_V (As := [.int a1]) (rest := [.int x3, .int x4, .ref (q 0)]) ⟨hx, hb, hml, hown, hts⟩ (c_X2_at l dC dI cI (q 5) (q 6) 30 (gv 3) a1 (by decide)) (cwV 1 hts gX0_seatIfPossible_X2_at rfl rfl rfl (by decide +kernel) ⟨Nat.le_of_ble_eq_true rfl, Nat.le_of_ble_eq_true rfl⟩) (hP.sub [5, 6] rfl) hK hN rfl rfl rfl rfl hl.1 (Nat.le_of_ble_eq_true rfl) ⟨Nat.zero_le _, Nat.zero_le _⟩ dX0_seatIfPossible_53 ?_
      obtain ⟨r6, hr6, hp⟩ := hp
      refine ro_V (As := [.int x4, .int x3, .int (f_at 30 (gv 3) a1)]) (rest := []) ⟨hx, hb, hml, hown, hts⟩ (c_X0_wasteAt l dC dI cI q gv x4 x3 (f_at 30 (gv 3) a1) r6 hr6) (cwV 3 hts gX0_seatIfPossible_X0_wasteAt rfl rfl rfl (by decide +kernel) ⟨Nat.le_of_ble_eq_true rfl, Nat.le_of_ble_eq_true rfl⟩) hP hK hN rfl rfl rfl rfl hl.1 (Nat.le_of_ble_eq_true rfl) ⟨Nat.zero_le _, Nat.zero_le _⟩ dX0_seatIfPossible_56 ?_
      refine lv_iload_n hx hb dX0_seatIfPossible_59 rfl (lv_at hl 2 rfl) ?_
      refine lv_icmp_ne (tgt := 73) hx hb dX0_seatIfPossible_60 (by decide) (fun c9 => ?_) (fun c9 => ?_)
      · have hp := hp.1 c9
        refine lv_iinc (v := x4 + (1 : Int32)) (lv' := [(4, .int (x4 + (1 : Int32))), (0, .ref (q 0)), (1, .int a1), (2, .int x2), (3, .int x3)]) hx hb dX0_seatIfPossible_73 hl (k := 4) rfl rfl (by decide) rfl (fun ls hl => ?_)
        refine lv_goto (tgt := 33) hx hb dX0_seatIfPossible_76 (by decide) ?_
        rw [eV33] at hp
        exact hp _ _ _ hP hD hS (lv_sub hl [1, 2, 3, 4, 0] rfl)
      · have hp := hp.2 c9
        refine lv_aload_n hx hb dX0_seatIfPossible_63 rfl (lv_at hl 0 rfl) ?_
        refine lv_iload_n hx hb dX0_seatIfPossible_64 rfl (lv_at hl 1 rfl) ?_
        refine lv_iload hx hb dX0_seatIfPossible_65 (lv_at hl 4 rfl) ?_
        refine lv_iload_n hx hb dX0_seatIfPossible_67 rfl (lv_at hl 3 rfl) ?_
        obtain ⟨g8, hg8, hp⟩ := hp
        refine wr_Vv (As := [.int a1, .int x4, .int x3]) (rest := []) (w1 := []) (w2 := []) (ws1 := wX0 q cI g8) ⟨hx, hb, hml, hown, hts⟩ (c_X0_seat l dC dI cI q gv a1 x4 x3 g8 hg8 _) (cwV 3 hts gX0_seatIfPossible_X0_seat rfl rfl rfl (by decide +kernel) ⟨Nat.le_of_ble_eq_true rfl, Nat.le_of_ble_eq_true rfl⟩) hP hD hS hA hK hN (List.append_nil _).symm (List.append_nil _) rfl rfl rfl rfl hl.1 (Nat.le_of_ble_eq_true rfl) ⟨Nat.zero_le _, Nat.zero_le _⟩ dX0_seatIfPossible_68 (fun H locs hP hD hS => ?_)
        refine lv_iconst (v := 1) hx hb dX0_seatIfPossible_71 (by decide) ?_
        exact W.zret (ty := .boolean) hx hb hr rfl (fun t ht _ => ⟨⟨_, (), rfl, hp.1.symm, by rw [ht, hp.2]; exact hP, by rw [hp.2]; exact hD⟩, hS.F ht⟩) hS.2.2 dX0_seatIfPossible_72)
  refine lv_aload_n hx hb dX0_seatIfPossible_0 rfl (lv_at hl 0 rfl) ?_
  refine lv_aload_n hx hb dX0_seatIfPossible_1 rfl (lv_at hl 0 rfl) ?_
  refine va_get (D := (dC, dI)) (ci := 0) (v := .ref (q 5)) (C := RX0) (T := TX0) (N := 9) hx hb hts iX0_seatIfPossible_X0 hown hK hP 0 rfl rfl 5 (by decide) (hts _ kX0_seatIfPossible_0) (fun _ h9 => h9) rfl dX0_seatIfPossible_2 ?_
  refine lv_iload_n hx hb dX0_seatIfPossible_5 rfl (lv_at hl 1 rfl) ?_
  refine ro_V (As := [.int a1]) (rest := [.ref (q 0)]) ⟨hx, hb, hml, hown, hts⟩ (c_X2_at l dC dI cI (q 5) (q 6) 30 (g 3) a1 (by decide)) (cwV 1 hts gX0_seatIfPossible_X2_at rfl rfl rfl (by decide +kernel) ⟨Nat.le_of_ble_eq_true rfl, Nat.le_of_ble_eq_true rfl⟩) (hP.sub [5, 6] rfl) hK hN rfl rfl rfl rfl hl.1 (Nat.le_of_ble_eq_true rfl) ⟨Nat.zero_le _, Nat.zero_le _⟩ dX0_seatIfPossible_6 ?_
  obtain ⟨r2, hr2, hp⟩ := hp
  refine ro_V (As := [.int (f_at 30 (g 3) a1)]) (rest := []) ⟨hx, hb, hml, hown, hts⟩ (c_X0_leastWaste l dC dI cI q g (f_at 30 (g 3) a1) r2 hr2) (cwV 1 hts gX0_seatIfPossible_X0_leastWaste rfl rfl rfl (by decide +kernel) ⟨Nat.le_of_ble_eq_true rfl, Nat.le_of_ble_eq_true rfl⟩) hP hK hN rfl rfl rfl rfl hl.1 (Nat.le_of_ble_eq_true rfl) ⟨Nat.zero_le _, Nat.zero_le _⟩ dX0_seatIfPossible_9 ?_
  refine lv_istore_n (lv' := [(2, .int r2), (0, .ref (q 0)), (1, .int a1)]) hx hb dX0_seatIfPossible_12 rfl hl (by decide) rfl (fun ls hl => ?_)
  refine lv_iload_n hx hb dX0_seatIfPossible_13 rfl (lv_at hl 0 rfl) ?_
  refine lv_iconst (v := -1) hx hb dX0_seatIfPossible_14 (by decide) ?_
  refine lv_icmp_ne (tgt := 20) hx hb dX0_seatIfPossible_15 (by decide) (fun c3 => ?_) (fun c3 => ?_)
  · have hp := hp.1 c3
    refine lv_iconst (v := 1) hx hb dX0_seatIfPossible_20 (by decide) ?_
    refine lv_istore_n (lv' := [(3, .int (1 : Int32)), (2, .int r2), (0, .ref (q 0)), (1, .int a1)]) hx hb dX0_seatIfPossible_21 rfl hl (by decide) rfl (fun ls hl => ?_)
    rw [eV22] at hp
    exact hp _ _ _ hP hD hS (lv_sub hl [2, 3, 1, 0] rfl)
  · have hp := hp.2 c3
    refine lv_iconst (v := 0) hx hb dX0_seatIfPossible_18 (by decide) ?_
    exact W.zret (ty := .boolean) hx hb hr rfl (fun t ht _ => ⟨⟨_, (), rfl, hp.1.symm, by rw [ht, hp.2]; exact hP, by rw [hp.2]; exact hD⟩, hS.F ht⟩) hS.2.2 dX0_seatIfPossible_19
theorem kX0_welcome_0 : (.fieldLink RX0 42 "Meeplehouse$Hall" "groups" "I" : Cond) ∈ wsX0_welcome := by decide +kernel
theorem iX0_welcome_X0 : ∀ w ∈ wsX00, w ∈ wsX0_welcome := by decide +kernel
theorem kX0_welcome_2 : (.fieldLink RX0 23 "Meeplehouse$Hall" "players" "LMeeplehouse$Row;" : Cond) ∈ wsX0_welcome := by decide +kernel
theorem kX0_welcome_3 : (.fieldLink RX0 26 "Meeplehouse$Hall" "stay" "LMeeplehouse$Row;" : Cond) ∈ wsX0_welcome := by decide +kernel
def P_X0_welcome (g : St) (a1 : Int32) (a2 : Int32) (r : Int32) (g' : St) : Prop := (∀ g1 : St, g1 = st_set g 0 2 ((g 0 2) + (1 : Int32)) → (∀ g3 : St, g3 = st_put g1 3 30 (g 0 2) a1 → (∀ g5 : St, g5 = st_put g3 4 30 (g 0 2) a2 → (∃ (r6 : Int32) (g7 : St), P_X0_seatIfPossible g5 (g 0 2) r6 g7 ∧ (r = (g 0 2) ∧ g' = g7)))))
set_option maxRecDepth 100000 in
set_option maxHeartbeats 4000000 in
theorem c_X0_welcome (l : Launch) (dC : Nat → ClassId) (dI : Nat → Nat → Nat) (cI : ClassId) (q : Nat → Nat) (g : St) (a1 : Int32) (a2 : Int32) (r : Int32) (g' : St) (hp : P_X0_welcome g a1 a2 r g') (sz : Nat) : Met l yX0_welcome wsX0_welcome { frames := 4, cells := 0, slots := 0, locals := 94 } (va_Pc [.ref (q 0), .int a1, .int a2] (wpS (dC, dI) vwCl [(cI, .int)] (wX0 q cI g) sz)) (va_Qi (fun (r' : Int32) (_ : Unit) => r' = r) (fun _ t => wqB (dC, dI) vwCl (wX0 q cI g') (va_A (wX0 q cI g) sz) t) (va_A (wX0 q cI g) sz)) 0 0 (va_A (wX0 q cI g) sz) := by
  refine wr_met (fun A => (va_Qi (fun (r' : Int32) (_ : Unit) => r' = r) (fun _ t => wqB (dC, dI) vwCl (wX0 q cI g') A t) A)) (cc := cX0_welcome) (maxL := 4) (ret := (some .int)) (by decide) rfl (Nat.le_of_ble_eq_true rfl) ?_
  intro p e s m below meth c A hx hb hml hr hlk hts hown hnm hP hK hN hD hA ls hl
  have hS : va_S A s.heap s.heap [] := va_S.rf
  have hl : lv_has ls 4 [(0, .ref (q 0)), (1, .int a1), (2, .int a2)] := hl
  unfold P_X0_welcome at hp
  refine lv_aload_n hx hb dX0_welcome_0 rfl (lv_at hl 0 rfl) ?_
  refine va_get (D := (dC, dI)) (ci := 0) (v := .int (g 0 2)) (C := RX0) (T := TX0) (N := 9) hx hb hts iX0_welcome_X0 hown hK hP 0 rfl rfl 2 (by decide) (hts _ kX0_welcome_0) (fun _ h9 => h9) rfl dX0_welcome_1 ?_
  refine lv_istore_n (lv' := [(3, .int (g 0 2)), (0, .ref (q 0)), (1, .int a1), (2, .int a2)]) hx hb dX0_welcome_4 rfl hl (by decide) rfl (fun ls hl => ?_)
  refine lv_aload_n hx hb dX0_welcome_5 rfl (lv_at hl 1 rfl) ?_
  refine lv_dup hx hb dX0_welcome_6 rfl ?_
  refine va_get (D := (dC, dI)) (ci := 0) (v := .int (g 0 2)) (C := RX0) (T := TX0) (N := 9) hx hb hts iX0_welcome_X0 hown hK hP 0 rfl rfl 2 (by decide) (hts _ kX0_welcome_0) (fun _ h9 => h9) rfl dX0_welcome_7 ?_
  refine lv_iconst (v := 1) hx hb dX0_welcome_10 (by decide) ?_
  refine lv_iadd hx hb dX0_welcome_11 ?_
  refine va_put (D := (dC, dI)) (ci := 0) (v := .int ((g 0 2) + (1 : Int32))) (ty := .int) (C := RX0) (T := TX0) (N := 9) hx hb hts iX0_welcome_X0 tyX0 tyX0_ok nmX0 hown hK hP hD hS 0 rfl rfl 2 (by decide) (hts _ kX0_welcome_0) (fun _ h9 => h9) rfl (by decide +kernel) rfl rfl (Nat.le_of_ble_eq_true rfl) dX0_welcome_12 (fun H locs hP hD hS => ?_)
  obtain ⟨g1, eg1⟩ : ∃ z : St, z = st_set g 0 2 ((g 0 2) + (1 : Int32)) := ⟨_, rfl⟩
  have hp := hp g1 eg1
  have hP : va_P (dC, dI) vwCl (wX0 q cI g1) H := by rw [eg1]; exact hP
  have hD : va_D A (wX0 q cI g1) := by rw [eg1]; exact hD
  refine lv_aload_n hx hb dX0_welcome_15 rfl (lv_at hl 1 rfl) ?_
  refine va_get (D := (dC, dI)) (ci := 0) (v := .ref (q 5)) (C := RX0) (T := TX0) (N := 9) hx hb hts iX0_welcome_X0 hown hK hP 0 rfl rfl 5 (by decide) (hts _ kX0_welcome_2) (fun _ h9 => h9) rfl dX0_welcome_16 ?_
  refine lv_iload_n hx hb dX0_welcome_19 rfl (lv_at hl 0 rfl) ?_
  refine lv_iload_n hx hb dX0_welcome_20 rfl (lv_at hl 2 rfl) ?_
  refine wr_Vv (As := [.int (g 0 2), .int a1]) (rest := []) (w1 := (wX0 q cI g1).take 5) (w2 := (wX0 q cI g1).drop 7) (ws1 := wX0 q cI (st_put g1 3 30 (g 0 2) a1)) ⟨hx, hb, hml, hown, hts⟩ (c_X2_put l dC dI cI (q 5) (q 6) 30 (g1 3) (g 0 2) a1 _ (by decide)) (cwV 2 hts gX0_welcome_X2_put rfl rfl rfl (by decide +kernel) ⟨Nat.le_of_ble_eq_true rfl, Nat.le_of_ble_eq_true rfl⟩) hP hD hS hA hK hN rfl rfl rfl rfl rfl rfl hl.1 (Nat.le_of_ble_eq_true rfl) ⟨Nat.zero_le _, Nat.zero_le _⟩ dX0_welcome_21 (fun H locs hP hD hS => ?_)
  obtain ⟨g3, eg3⟩ : ∃ z : St, z = st_put g1 3 30 (g 0 2) a1 := ⟨_, rfl⟩
  have hp := hp g3 eg3
  have hP : va_P (dC, dI) vwCl (wX0 q cI g3) H := by rw [eg3]; exact hP
  have hD : va_D A (wX0 q cI g3) := by rw [eg3]; exact hD
  refine lv_aload_n hx hb dX0_welcome_24 rfl (lv_at hl 1 rfl) ?_
  refine va_get (D := (dC, dI)) (ci := 0) (v := .ref (q 7)) (C := RX0) (T := TX0) (N := 9) hx hb hts iX0_welcome_X0 hown hK hP 0 rfl rfl 6 (by decide) (hts _ kX0_welcome_3) (fun _ h9 => h9) rfl dX0_welcome_25 ?_
  refine lv_iload_n hx hb dX0_welcome_28 rfl (lv_at hl 0 rfl) ?_
  refine lv_iload_n hx hb dX0_welcome_29 rfl (lv_at hl 3 rfl) ?_
  refine wr_Vv (As := [.int (g 0 2), .int a2]) (rest := []) (w1 := (wX0 q cI g3).take 7) (w2 := (wX0 q cI g3).drop 9) (ws1 := wX0 q cI (st_put g3 4 30 (g 0 2) a2)) ⟨hx, hb, hml, hown, hts⟩ (c_X2_put l dC dI cI (q 7) (q 8) 30 (g3 4) (g 0 2) a2 _ (by decide)) (cwV 2 hts gX0_welcome_X2_put rfl rfl rfl (by decide +kernel) ⟨Nat.le_of_ble_eq_true rfl, Nat.le_of_ble_eq_true rfl⟩) hP hD hS hA hK hN rfl rfl rfl rfl rfl rfl hl.1 (Nat.le_of_ble_eq_true rfl) ⟨Nat.zero_le _, Nat.zero_le _⟩ dX0_welcome_30 (fun H locs hP hD hS => ?_)
  obtain ⟨g5, eg5⟩ : ∃ z : St, z = st_put g3 4 30 (g 0 2) a2 := ⟨_, rfl⟩
  have hp := hp g5 eg5
  have hP : va_P (dC, dI) vwCl (wX0 q cI g5) H := by rw [eg5]; exact hP
  have hD : va_D A (wX0 q cI g5) := by rw [eg5]; exact hD
  refine lv_aload_n hx hb dX0_welcome_33 rfl (lv_at hl 1 rfl) ?_
  refine lv_iload_n hx hb dX0_welcome_34 rfl (lv_at hl 0 rfl) ?_
  obtain ⟨r6, g7, hg7, hp⟩ := hp
  refine wr_Vi (As := [.int (g 0 2)]) (rest := []) (w1 := []) (w2 := []) (ws1 := wX0 q cI g7) ⟨hx, hb, hml, hown, hts⟩ (c_X0_seatIfPossible l dC dI cI q g5 (g 0 2) r6 g7 hg7 _) (cwV 1 hts gX0_welcome_X0_seatIfPossible rfl rfl rfl (by decide +kernel) ⟨Nat.le_of_ble_eq_true rfl, Nat.le_of_ble_eq_true rfl⟩) hP hD hS hA hK hN (List.append_nil _).symm (List.append_nil _) rfl rfl rfl rfl hl.1 (Nat.le_of_ble_eq_true rfl) ⟨Nat.zero_le _, Nat.zero_le _⟩ dX0_welcome_35 (fun H locs hP hD hS => ?_)
  refine lv_pop hx hb dX0_welcome_38 rfl ?_
  refine lv_iload_n hx hb dX0_welcome_39 rfl (lv_at hl 0 rfl) ?_
  exact W.iret hx hb hr (fun t ht _ => ⟨⟨_, (), rfl, hp.1.symm, by rw [ht, hp.2]; exact hP, by rw [hp.2]; exact hD⟩, hS.F ht⟩) hS.2.2 dX0_welcome_40
theorem kX0_seatWaiting_0 : (.fieldLink RX0 42 "Meeplehouse$Hall" "groups" "I" : Cond) ∈ wsX0_seatWaiting := by decide +kernel
theorem iX0_seatWaiting_X0 : ∀ w ∈ wsX00, w ∈ wsX0_seatWaiting := by decide +kernel
theorem kX0_seatWaiting_2 : (.fieldLink RX0 32 "Meeplehouse$Hall" "state" "LMeeplehouse$Row;" : Cond) ∈ wsX0_seatWaiting := by decide +kernel
def P_X0_seatWaiting (g : St) (r : Int32) (g' : St) : Prop := ∀ V4 : St → Int32 → Int32 → Prop, (∀ gv : St, ∀ x1 x2 : Int32, (((gv 0 2) ≤ x2 → (r = x1 ∧ g' = gv)) ∧ (¬ (gv 0 2) ≤ x2 → ((¬ (f_at 30 (gv 6) x2) = 0 → (V4 gv x1 (x2 + (1 : Int32)))) ∧ ((f_at 30 (gv 6) x2) = 0 → (∃ (r2 : Int32) (g3 : St), P_X0_seatIfPossible gv x2 r2 g3 ∧ ((r2 = 0 → (V4 g3 x1 (x2 + (1 : Int32)))) ∧ (¬ r2 = 0 → (V4 g3 (x1 + (1 : Int32)) (x2 + (1 : Int32)))))))))) → V4 gv x1 x2) → (V4 g (0 : Int32) (0 : Int32))
set_option maxRecDepth 100000 in
set_option maxHeartbeats 4000000 in
theorem c_X0_seatWaiting (l : Launch) (dC : Nat → ClassId) (dI : Nat → Nat → Nat) (cI : ClassId) (q : Nat → Nat) (g : St) (r : Int32) (g' : St) (hp : P_X0_seatWaiting g r g') (sz : Nat) : Met l yX0_seatWaiting wsX0_seatWaiting { frames := 4, cells := 0, slots := 0, locals := 94 } (va_Pc [.ref (q 0)] (wpS (dC, dI) vwCl [(cI, .int)] (wX0 q cI g) sz)) (va_Qi (fun (r' : Int32) (_ : Unit) => r' = r) (fun _ t => wqB (dC, dI) vwCl (wX0 q cI g') (va_A (wX0 q cI g) sz) t) (va_A (wX0 q cI g) sz)) 0 0 (va_A (wX0 q cI g) sz) := by
  refine wr_met (fun A => (va_Qi (fun (r' : Int32) (_ : Unit) => r' = r) (fun _ t => wqB (dC, dI) vwCl (wX0 q cI g') A t) A)) (cc := cX0_seatWaiting) (maxL := 3) (ret := (some .int)) (by decide) rfl (Nat.le_of_ble_eq_true rfl) ?_
  intro p e s m below meth c A hx hb hml hr hlk hts hown hnm hP hK hN hD hA ls hl
  have hS : va_S A s.heap s.heap [] := va_S.rf
  have hl : lv_has ls 3 [(0, .ref (q 0))] := hl
  obtain ⟨V4, eV4⟩ : ∃ V : St → Int32 → Int32 → Prop, V = (fun gv x1 x2 => ∀ (H : Heap) (locs : List Loc) (ls : Array Slot), va_P (dC, dI) vwCl (wX0 q cI gv) H → va_D A (wX0 q cI gv) → va_S A s.heap H locs → lv_has ls 3 [(0, .ref (q 0)), (1, .int x1), (2, .int x2)] → W p l e { frames := 4, cells := 0, slots := 0, locals := 94 } s m ([.ref (q 0)] : List Value).toArray below meth c H locs 0 0 (MQ below (va_Qi (fun (r' : Int32) (_ : Unit) => r' = r) (fun _ t => wqB (dC, dI) vwCl (wX0 q cI g') A t) A) ([.ref (q 0)] : List Value).toArray s 0 0 A) (F0 m 4 ls [])) := ⟨_, rfl⟩
  have hp := hp V4
  have hp := hp (by
    intro gv x1 x2 hp
    rw [eV4]
    intro H locs ls hP hD hS hl
    refine lv_iload_n hx hb dX0_seatWaiting_4 rfl (lv_at hl 2 rfl) ?_
    refine lv_aload_n hx hb dX0_seatWaiting_5 rfl (lv_at hl 0 rfl) ?_
    refine va_get (D := (dC, dI)) (ci := 0) (v := .int (gv 0 2)) (C := RX0) (T := TX0) (N := 9) hx hb hts iX0_seatWaiting_X0 hown hK hP 0 rfl rfl 2 (by decide) (hts _ kX0_seatWaiting_0) (fun _ h9 => h9) rfl dX0_seatWaiting_6 ?_
    refine lv_icmp_ge (tgt := 40) hx hb dX0_seatWaiting_9 (by decide) (fun c6 => ?_) (fun c6 => ?_)
    · have hp := hp.1 c6
      refine lv_iload_n hx hb dX0_seatWaiting_40 rfl (lv_at hl 1 rfl) ?_
      exact W.iret hx hb hr (fun t ht _ => ⟨⟨_, (), rfl, hp.1.symm, by rw [ht, hp.2]; exact hP, by rw [hp.2]; exact hD⟩, hS.F ht⟩) hS.2.2 dX0_seatWaiting_41
    · have hp := hp.2 c6
      refine lv_aload_n hx hb dX0_seatWaiting_12 rfl (lv_at hl 0 rfl) ?_
      refine va_get (D := (dC, dI)) (ci := 0) (v := .ref (q 11)) (C := RX0) (T := TX0) (N := 9) hx hb hts iX0_seatWaiting_X0 hown hK hP 0 rfl rfl 8 (by decide) (hts _ kX0_seatWaiting_2) (fun _ h9 => h9) rfl dX0_seatWaiting_13 ?_
      refine lv_iload_n hx hb dX0_seatWaiting_16 rfl (lv_at hl 2 rfl) ?_
      refine ro_V (As := [.int x2]) (rest := []) ⟨hx, hb, hml, hown, hts⟩ (c_X2_at l dC dI cI (q 11) (q 12) 30 (gv 6) x2 (by decide)) (cwV 1 hts gX0_seatWaiting_X2_at rfl rfl rfl (by decide +kernel) ⟨Nat.le_of_ble_eq_true rfl, Nat.le_of_ble_eq_true rfl⟩) (hP.sub [11, 12] rfl) hK hN rfl rfl rfl rfl hl.1 (Nat.le_of_ble_eq_true rfl) ⟨Nat.zero_le _, Nat.zero_le _⟩ dX0_seatWaiting_17 ?_
      refine lv_if_ne (tgt := 34) hx hb dX0_seatWaiting_20 (by decide) (fun c5 => ?_) (fun c5 => ?_)
      · have hp := hp.1 c5
        refine lv_iinc (v := x2 + (1 : Int32)) (lv' := [(2, .int (x2 + (1 : Int32))), (0, .ref (q 0)), (1, .int x1)]) hx hb dX0_seatWaiting_34 hl (k := 2) rfl rfl (by decide) rfl (fun ls hl => ?_)
        refine lv_goto (tgt := 4) hx hb dX0_seatWaiting_37 (by decide) ?_
        rw [eV4] at hp
        exact hp _ _ _ hP hD hS (lv_sub hl [1, 2, 0] rfl)
      · have hp := hp.2 c5
        refine lv_aload_n hx hb dX0_seatWaiting_23 rfl (lv_at hl 0 rfl) ?_
        refine lv_iload_n hx hb dX0_seatWaiting_24 rfl (lv_at hl 2 rfl) ?_
        obtain ⟨r2, g3, hg3, hp⟩ := hp
        refine wr_Vi (As := [.int x2]) (rest := []) (w1 := []) (w2 := []) (ws1 := wX0 q cI g3) ⟨hx, hb, hml, hown, hts⟩ (c_X0_seatIfPossible l dC dI cI q gv x2 r2 g3 hg3 _) (cwV 1 hts gX0_seatWaiting_X0_seatIfPossible rfl rfl rfl (by decide +kernel) ⟨Nat.le_of_ble_eq_true rfl, Nat.le_of_ble_eq_true rfl⟩) hP hD hS hA hK hN (List.append_nil _).symm (List.append_nil _) rfl rfl rfl rfl hl.1 (Nat.le_of_ble_eq_true rfl) ⟨Nat.zero_le _, Nat.zero_le _⟩ dX0_seatWaiting_25 (fun H locs hP hD hS => ?_)
        refine lv_if_eq (tgt := 34) hx hb dX0_seatWaiting_28 (by decide) (fun c4 => ?_) (fun c4 => ?_)
        · have hp := hp.1 c4
          refine lv_iinc (v := x2 + (1 : Int32)) (lv' := [(2, .int (x2 + (1 : Int32))), (0, .ref (q 0)), (1, .int x1)]) hx hb dX0_seatWaiting_34 hl (k := 2) rfl rfl (by decide) rfl (fun ls hl => ?_)
          refine lv_goto (tgt := 4) hx hb dX0_seatWaiting_37 (by decide) ?_
          rw [eV4] at hp
          exact hp _ _ _ hP hD hS (lv_sub hl [1, 2, 0] rfl)
        · have hp := hp.2 c4
          refine lv_iinc (v := x1 + (1 : Int32)) (lv' := [(1, .int (x1 + (1 : Int32))), (0, .ref (q 0)), (2, .int x2)]) hx hb dX0_seatWaiting_31 hl (k := 1) rfl rfl (by decide) rfl (fun ls hl => ?_)
          refine lv_iinc (v := x2 + (1 : Int32)) (lv' := [(2, .int (x2 + (1 : Int32))), (1, .int (x1 + (1 : Int32))), (0, .ref (q 0))]) hx hb dX0_seatWaiting_34 hl (k := 2) rfl rfl (by decide) rfl (fun ls hl => ?_)
          refine lv_goto (tgt := 4) hx hb dX0_seatWaiting_37 (by decide) ?_
          rw [eV4] at hp
          exact hp _ _ _ hP hD hS (lv_sub hl [2, 1, 0] rfl))
  refine lv_iconst (v := 0) hx hb dX0_seatWaiting_0 (by decide) ?_
  refine lv_istore_n (lv' := [(1, .int (0 : Int32)), (0, .ref (q 0))]) hx hb dX0_seatWaiting_1 rfl hl (by decide) rfl (fun ls hl => ?_)
  refine lv_iconst (v := 0) hx hb dX0_seatWaiting_2 (by decide) ?_
  refine lv_istore_n (lv' := [(2, .int (0 : Int32)), (1, .int (0 : Int32)), (0, .ref (q 0))]) hx hb dX0_seatWaiting_3 rfl hl (by decide) rfl (fun ls hl => ?_)
  rw [eV4] at hp
  exact hp _ _ _ hP hD hS (lv_sub hl [2, 1, 0] rfl)
theorem kX0_dismiss_0 : (.fieldLink RX0 32 "Meeplehouse$Hall" "state" "LMeeplehouse$Row;" : Cond) ∈ wsX0_dismiss := by decide +kernel
theorem iX0_dismiss_X0 : ∀ w ∈ wsX00, w ∈ wsX0_dismiss := by decide +kernel
theorem kX0_dismiss_2 : (.fieldLink RX0 35 "Meeplehouse$Hall" "tables" "I" : Cond) ∈ wsX0_dismiss := by decide +kernel
theorem kX0_dismiss_3 : (.fieldLink RX0 20 "Meeplehouse$Hall" "sitter" "LMeeplehouse$Row;" : Cond) ∈ wsX0_dismiss := by decide +kernel
def P_X0_dismiss (g : St) (a1 : Int32) (r : Int32) (g' : St) : Prop := ∀ V11 : St → Int32 → Prop, (∀ gv : St, ∀ x2 : Int32, (((gv 0 1) ≤ x2 → (∃ (r3 : Int32) (g4 : St), P_X0_seatWaiting gv r3 g4 ∧ (r = r3 ∧ g' = g4))) ∧ (¬ (gv 0 1) ≤ x2 → ((¬ (f_at 10 (gv 2) x2) = a1 → (V11 gv (x2 + (1 : Int32)))) ∧ ((f_at 10 (gv 2) x2) = a1 → (∀ g7 : St, g7 = st_put gv 2 10 x2 (-1 : Int32) → (V11 g7 (x2 + (1 : Int32)))))))) → V11 gv x2) → (∀ g2 : St, g2 = st_put g 6 30 a1 (2 : Int32) → (V11 g2 (0 : Int32)))
set_option maxRecDepth 100000 in
set_option maxHeartbeats 4000000 in
theorem c_X0_dismiss (l : Launch) (dC : Nat → ClassId) (dI : Nat → Nat → Nat) (cI : ClassId) (q : Nat → Nat) (g : St) (a1 : Int32) (r : Int32) (g' : St) (hp : P_X0_dismiss g a1 r g') (sz : Nat) : Met l yX0_dismiss wsX0_dismiss { frames := 5, cells := 0, slots := 0, locals := 116 } (va_Pc [.ref (q 0), .int a1] (wpS (dC, dI) vwCl [(cI, .int)] (wX0 q cI g) sz)) (va_Qi (fun (r' : Int32) (_ : Unit) => r' = r) (fun _ t => wqB (dC, dI) vwCl (wX0 q cI g') (va_A (wX0 q cI g) sz) t) (va_A (wX0 q cI g) sz)) 0 0 (va_A (wX0 q cI g) sz) := by
  refine wr_met (fun A => (va_Qi (fun (r' : Int32) (_ : Unit) => r' = r) (fun _ t => wqB (dC, dI) vwCl (wX0 q cI g') A t) A)) (cc := cX0_dismiss) (maxL := 3) (ret := (some .int)) (by decide) rfl (Nat.le_of_ble_eq_true rfl) ?_
  intro p e s m below meth c A hx hb hml hr hlk hts hown hnm hP hK hN hD hA ls hl
  have hS : va_S A s.heap s.heap [] := va_S.rf
  have hl : lv_has ls 3 [(0, .ref (q 0)), (1, .int a1)] := hl
  obtain ⟨V11, eV11⟩ : ∃ V : St → Int32 → Prop, V = (fun gv x2 => ∀ (H : Heap) (locs : List Loc) (ls : Array Slot), va_P (dC, dI) vwCl (wX0 q cI gv) H → va_D A (wX0 q cI gv) → va_S A s.heap H locs → lv_has ls 3 [(0, .ref (q 0)), (1, .int a1), (2, .int x2)] → W p l e { frames := 5, cells := 0, slots := 0, locals := 116 } s m ([.ref (q 0), .int a1] : List Value).toArray below meth c H locs 0 0 (MQ below (va_Qi (fun (r' : Int32) (_ : Unit) => r' = r) (fun _ t => wqB (dC, dI) vwCl (wX0 q cI g') A t) A) ([.ref (q 0), .int a1] : List Value).toArray s 0 0 A) (F0 m 11 ls [])) := ⟨_, rfl⟩
  have hp := hp V11
  have hp := hp (by
    intro gv x2 hp
    rw [eV11]
    intro H locs ls hP hD hS hl
    refine lv_iload_n hx hb dX0_dismiss_11 rfl (lv_at hl 2 rfl) ?_
    refine lv_aload_n hx hb dX0_dismiss_12 rfl (lv_at hl 0 rfl) ?_
    refine va_get (D := (dC, dI)) (ci := 0) (v := .int (gv 0 1)) (C := RX0) (T := TX0) (N := 9) hx hb hts iX0_dismiss_X0 hown hK hP 0 rfl rfl 1 (by decide) (hts _ kX0_dismiss_2) (fun _ h9 => h9) rfl dX0_dismiss_13 ?_
    refine lv_icmp_ge (tgt := 46) hx hb dX0_dismiss_16 (by decide) (fun c9 => ?_) (fun c9 => ?_)
    · have hp := hp.1 c9
      refine lv_aload_n hx hb dX0_dismiss_46 rfl (lv_at hl 0 rfl) ?_
      obtain ⟨r3, g4, hg4, hp⟩ := hp
      refine wr_Vi (As := []) (rest := []) (w1 := []) (w2 := []) (ws1 := wX0 q cI g4) ⟨hx, hb, hml, hown, hts⟩ (c_X0_seatWaiting l dC dI cI q gv r3 g4 hg4 _) (cwV 0 hts gX0_dismiss_X0_seatWaiting rfl rfl rfl (by decide +kernel) ⟨Nat.le_of_ble_eq_true rfl, Nat.le_of_ble_eq_true rfl⟩) hP hD hS hA hK hN (List.append_nil _).symm (List.append_nil _) rfl rfl rfl rfl hl.1 (Nat.le_of_ble_eq_true rfl) ⟨Nat.zero_le _, Nat.zero_le _⟩ dX0_dismiss_47 (fun H locs hP hD hS => ?_)
      exact W.iret hx hb hr (fun t ht _ => ⟨⟨_, (), rfl, hp.1.symm, by rw [ht, hp.2]; exact hP, by rw [hp.2]; exact hD⟩, hS.F ht⟩) hS.2.2 dX0_dismiss_50
    · have hp := hp.2 c9
      refine lv_aload_n hx hb dX0_dismiss_19 rfl (lv_at hl 0 rfl) ?_
      refine va_get (D := (dC, dI)) (ci := 0) (v := .ref (q 3)) (C := RX0) (T := TX0) (N := 9) hx hb hts iX0_dismiss_X0 hown hK hP 0 rfl rfl 4 (by decide) (hts _ kX0_dismiss_3) (fun _ h9 => h9) rfl dX0_dismiss_20 ?_
      refine lv_iload_n hx hb dX0_dismiss_23 rfl (lv_at hl 2 rfl) ?_
      refine ro_V (As := [.int x2]) (rest := []) ⟨hx, hb, hml, hown, hts⟩ (c_X2_at l dC dI cI (q 3) (q 4) 10 (gv 2) x2 (by decide)) (cwV 1 hts gX0_dismiss_X2_at rfl rfl rfl (by decide +kernel) ⟨Nat.le_of_ble_eq_true rfl, Nat.le_of_ble_eq_true rfl⟩) (hP.sub [3, 4] rfl) hK hN rfl rfl rfl rfl hl.1 (Nat.le_of_ble_eq_true rfl) ⟨Nat.zero_le _, Nat.zero_le _⟩ dX0_dismiss_24 ?_
      refine lv_iload_n hx hb dX0_dismiss_27 rfl (lv_at hl 1 rfl) ?_
      refine lv_icmp_ne (tgt := 40) hx hb dX0_dismiss_28 (by decide) (fun c8 => ?_) (fun c8 => ?_)
      · have hp := hp.1 c8
        refine lv_iinc (v := x2 + (1 : Int32)) (lv' := [(2, .int (x2 + (1 : Int32))), (0, .ref (q 0)), (1, .int a1)]) hx hb dX0_dismiss_40 hl (k := 2) rfl rfl (by decide) rfl (fun ls hl => ?_)
        refine lv_goto (tgt := 11) hx hb dX0_dismiss_43 (by decide) ?_
        rw [eV11] at hp
        exact hp _ _ _ hP hD hS (lv_sub hl [1, 2, 0] rfl)
      · have hp := hp.2 c8
        refine lv_aload_n hx hb dX0_dismiss_31 rfl (lv_at hl 0 rfl) ?_
        refine va_get (D := (dC, dI)) (ci := 0) (v := .ref (q 3)) (C := RX0) (T := TX0) (N := 9) hx hb hts iX0_dismiss_X0 hown hK hP 0 rfl rfl 4 (by decide) (hts _ kX0_dismiss_3) (fun _ h9 => h9) rfl dX0_dismiss_32 ?_
        refine lv_iload_n hx hb dX0_dismiss_35 rfl (lv_at hl 2 rfl) ?_
        refine lv_iconst (v := -1) hx hb dX0_dismiss_36 (by decide) ?_
        refine wr_Vv (As := [.int x2, .int (-1 : Int32)]) (rest := []) (w1 := (wX0 q cI gv).take 3) (w2 := (wX0 q cI gv).drop 5) (ws1 := wX0 q cI (st_put gv 2 10 x2 (-1 : Int32))) ⟨hx, hb, hml, hown, hts⟩ (c_X2_put l dC dI cI (q 3) (q 4) 10 (gv 2) x2 (-1 : Int32) _ (by decide)) (cwV 2 hts gX0_dismiss_X2_put rfl rfl rfl (by decide +kernel) ⟨Nat.le_of_ble_eq_true rfl, Nat.le_of_ble_eq_true rfl⟩) hP hD hS hA hK hN rfl rfl rfl rfl rfl rfl hl.1 (Nat.le_of_ble_eq_true rfl) ⟨Nat.zero_le _, Nat.zero_le _⟩ dX0_dismiss_37 (fun H locs hP hD hS => ?_)
        obtain ⟨g7, eg7⟩ : ∃ z : St, z = st_put gv 2 10 x2 (-1 : Int32) := ⟨_, rfl⟩
        have hp := hp g7 eg7
        have hP : va_P (dC, dI) vwCl (wX0 q cI g7) H := by rw [eg7]; exact hP
        have hD : va_D A (wX0 q cI g7) := by rw [eg7]; exact hD
        refine lv_iinc (v := x2 + (1 : Int32)) (lv' := [(2, .int (x2 + (1 : Int32))), (0, .ref (q 0)), (1, .int a1)]) hx hb dX0_dismiss_40 hl (k := 2) rfl rfl (by decide) rfl (fun ls hl => ?_)
        refine lv_goto (tgt := 11) hx hb dX0_dismiss_43 (by decide) ?_
        rw [eV11] at hp
        exact hp _ _ _ hP hD hS (lv_sub hl [1, 2, 0] rfl))
  refine lv_aload_n hx hb dX0_dismiss_0 rfl (lv_at hl 0 rfl) ?_
  refine va_get (D := (dC, dI)) (ci := 0) (v := .ref (q 11)) (C := RX0) (T := TX0) (N := 9) hx hb hts iX0_dismiss_X0 hown hK hP 0 rfl rfl 8 (by decide) (hts _ kX0_dismiss_0) (fun _ h9 => h9) rfl dX0_dismiss_1 ?_
  refine lv_iload_n hx hb dX0_dismiss_4 rfl (lv_at hl 1 rfl) ?_
  refine lv_iconst (v := 2) hx hb dX0_dismiss_5 (by decide) ?_
  refine wr_Vv (As := [.int a1, .int (2 : Int32)]) (rest := []) (w1 := (wX0 q cI g).take 11) (w2 := (wX0 q cI g).drop 13) (ws1 := wX0 q cI (st_put g 6 30 a1 (2 : Int32))) ⟨hx, hb, hml, hown, hts⟩ (c_X2_put l dC dI cI (q 11) (q 12) 30 (g 6) a1 (2 : Int32) _ (by decide)) (cwV 2 hts gX0_dismiss_X2_put rfl rfl rfl (by decide +kernel) ⟨Nat.le_of_ble_eq_true rfl, Nat.le_of_ble_eq_true rfl⟩) hP hD hS hA hK hN rfl rfl rfl rfl rfl rfl hl.1 (Nat.le_of_ble_eq_true rfl) ⟨Nat.zero_le _, Nat.zero_le _⟩ dX0_dismiss_6 (fun H locs hP hD hS => ?_)
  obtain ⟨g2, eg2⟩ : ∃ z : St, z = st_put g 6 30 a1 (2 : Int32) := ⟨_, rfl⟩
  have hp := hp g2 eg2
  have hP : va_P (dC, dI) vwCl (wX0 q cI g2) H := by rw [eg2]; exact hP
  have hD : va_D A (wX0 q cI g2) := by rw [eg2]; exact hD
  refine lv_iconst (v := 0) hx hb dX0_dismiss_9 (by decide) ?_
  refine lv_istore_n (lv' := [(2, .int (0 : Int32)), (0, .ref (q 0)), (1, .int a1)]) hx hb dX0_dismiss_10 rfl hl (by decide) rfl (fun ls hl => ?_)
  rw [eV11] at hp
  exact hp _ _ _ hP hD hS (lv_sub hl [1, 2, 0] rfl)
theorem kX0_wasteOfSet_0 : (.fieldLink RX0 35 "Meeplehouse$Hall" "tables" "I" : Cond) ∈ wsX0_wasteOfSet := by decide +kernel
theorem iX0_wasteOfSet_X0 : ∀ w ∈ wsX00, w ∈ wsX0_wasteOfSet := by decide +kernel
theorem kX0_wasteOfSet_2 : (.initialized RX4 : Cond) ∈ wsX0_wasteOfSet := by decide +kernel
theorem kX0_wasteOfSet_3 : (.static yX4_contains : Cond) ∈ wsX0_wasteOfSet := by decide +kernel
theorem kX0_wasteOfSet_4 : (.fieldLink RX0 20 "Meeplehouse$Hall" "sitter" "LMeeplehouse$Row;" : Cond) ∈ wsX0_wasteOfSet := by decide +kernel
theorem kX0_wasteOfSet_5 : (.fieldLink RX0 14 "Meeplehouse$Hall" "seats" "LMeeplehouse$Row;" : Cond) ∈ wsX0_wasteOfSet := by decide +kernel
def P_X0_wasteOfSet (g : St) (a1 : Int32) (a2 : Int32) (r : Int32) : Prop := ∀ V8 : Int32 → Int32 → Int32 → Prop, ∀ V43 : Int32 → Int32 → Prop, ∀ V44 : Int32 → Int32 → Int32 → Prop, (∀ x3 x4 x5 : Int32, (((g 0 1) ≤ x5 → ((a2 ≤ x4 → (r = (x4 - a2))) ∧ (¬ a2 ≤ x4 → (r = (-1 : Int32))))) ∧ (¬ (g 0 1) ≤ x5 → (∃ r2 : Int32, P_X4_contains a1 x5 r2 ∧ ((r2 = 0 → (V8 x3 x4 (x5 + (1 : Int32)))) ∧ (¬ r2 = 0 → ((x3 = (-1 : Int32) → (V43 x4 x5)) ∧ (¬ x3 = (-1 : Int32) → ((x3 = (x5 - (1 : Int32)) → (V43 x4 x5)) ∧ (¬ x3 = (x5 - (1 : Int32)) → (V44 x4 x5 (1 : Int32))))))))))) → V8 x3 x4 x5) → (∀ x4 x5 : Int32, (V44 x4 x5 (0 : Int32)) → V43 x4 x5) → (∀ x4 x5 t0 : Int32, ((¬ t0 = 0 → (r = (-1 : Int32))) ∧ (t0 = 0 → (((f_at 10 (g 2) x5) = (-1 : Int32) → (V8 x5 (x4 + ((f_at 10 (g 1) x5) - (1 : Int32))) (x5 + (1 : Int32)))) ∧ (¬ (f_at 10 (g 2) x5) = (-1 : Int32) → (r = (-1 : Int32)))))) → V44 x4 x5 t0) → (V8 (-1 : Int32) (1 : Int32) (0 : Int32))
set_option maxRecDepth 100000 in
set_option maxHeartbeats 4000000 in
theorem c_X0_wasteOfSet (l : Launch) (dC : Nat → ClassId) (dI : Nat → Nat → Nat) (cI : ClassId) (q : Nat → Nat) (g : St) (a1 : Int32) (a2 : Int32) (r : Int32) (hp : P_X0_wasteOfSet g a1 a2 r) : Met l yX0_wasteOfSet wsX0_wasteOfSet { frames := 1, cells := 0, slots := 0, locals := 21 } (va_Pc [.ref (q 0), .int a1, .int a2] (rpS (dC, dI) vwCl [(cI, .int)] (wX0 q cI g))) (QcRead r) 0 0 (fun _ => False) := by
  refine ro_met (cc := cX0_wasteOfSet) (maxL := 7) (ret := (some .int)) (by decide) rfl (Nat.le_of_ble_eq_true rfl) ?_
  intro p e s m below meth c hx hb hml hr hlk hts hown hP hK hN ls hl
  have hl : lv_has ls 7 [(0, .ref (q 0)), (1, .int a1), (2, .int a2)] := hl
  obtain ⟨V8, eV8⟩ : ∃ V : Int32 → Int32 → Int32 → Prop, V = (fun x3 x4 x5 => ∀ ls : Array Slot, lv_has ls 7 [(0, .ref (q 0)), (1, .int a1), (2, .int a2), (3, .int x3), (4, .int x4), (5, .int x5)] → W p l e { frames := 1, cells := 0, slots := 0, locals := 21 } s m ([.ref (q 0), .int a1, .int a2] : List Value).toArray below meth c s.heap [] 0 0 (MQ below (QcRead r) ([.ref (q 0), .int a1, .int a2] : List Value).toArray s 0 0 (fun _ => False)) (F0 m 8 ls [])) := ⟨_, rfl⟩
  obtain ⟨V43, eV43⟩ : ∃ V : Int32 → Int32 → Prop, V = (fun x4 x5 => ∀ ls : Array Slot, lv_has ls 7 [(0, .ref (q 0)), (1, .int a1), (2, .int a2), (4, .int x4), (5, .int x5)] → W p l e { frames := 1, cells := 0, slots := 0, locals := 21 } s m ([.ref (q 0), .int a1, .int a2] : List Value).toArray below meth c s.heap [] 0 0 (MQ below (QcRead r) ([.ref (q 0), .int a1, .int a2] : List Value).toArray s 0 0 (fun _ => False)) (F0 m 43 ls [])) := ⟨_, rfl⟩
  obtain ⟨V44, eV44⟩ : ∃ V : Int32 → Int32 → Int32 → Prop, V = (fun x4 x5 t0 => ∀ ls : Array Slot, lv_has ls 7 [(0, .ref (q 0)), (1, .int a1), (2, .int a2), (4, .int x4), (5, .int x5)] → W p l e { frames := 1, cells := 0, slots := 0, locals := 21 } s m ([.ref (q 0), .int a1, .int a2] : List Value).toArray below meth c s.heap [] 0 0 (MQ below (QcRead r) ([.ref (q 0), .int a1, .int a2] : List Value).toArray s 0 0 (fun _ => False)) (F0 m 44 ls [.int t0])) := ⟨_, rfl⟩
  have hp := hp V8 V43 V44
  have hp := hp (by
    intro x3 x4 x5 hp
    rw [eV8]
    intro ls hl
    refine lv_iload hx hb dX0_wasteOfSet_8 (lv_at hl 5 rfl) ?_
    refine lv_aload_n hx hb dX0_wasteOfSet_10 rfl (lv_at hl 0 rfl) ?_
    refine va_get (D := (dC, dI)) (ci := 0) (v := .int (g 0 1)) (C := RX0) (T := TX0) (N := 9) hx hb hts iX0_wasteOfSet_X0 hown hK hP 0 rfl rfl 1 (by decide) (hts _ kX0_wasteOfSet_0) (fun _ h9 => h9) rfl dX0_wasteOfSet_11 ?_
    refine lv_icmp_ge (tgt := 91) hx hb dX0_wasteOfSet_14 (by decide) (fun c6 => ?_) (fun c6 => ?_)
    · have hp := hp.1 c6
      refine lv_iload hx hb dX0_wasteOfSet_91 (lv_at hl 4 rfl) ?_
      refine lv_iload_n hx hb dX0_wasteOfSet_93 rfl (lv_at hl 2 rfl) ?_
      refine lv_icmp_ge (tgt := 101) hx hb dX0_wasteOfSet_94 (by decide) (fun c1 => ?_) (fun c1 => ?_)
      · have hp := hp.1 c1
        refine lv_iload hx hb dX0_wasteOfSet_101 (lv_at hl 4 rfl) ?_
        refine lv_iload_n hx hb dX0_wasteOfSet_103 rfl (lv_at hl 2 rfl) ?_
        refine lv_isub hx hb dX0_wasteOfSet_104 ?_
        exact W.iret hx hb hr (fun t ht _ => ⟨by rw [hp], ht⟩) (fun _ h => nomatch h) dX0_wasteOfSet_105
      · have hp := hp.2 c1
        refine lv_iconst (v := -1) hx hb dX0_wasteOfSet_97 (by decide) ?_
        refine lv_goto (tgt := 105) hx hb dX0_wasteOfSet_98 (by decide) ?_
        exact W.iret hx hb hr (fun t ht _ => ⟨by rw [hp], ht⟩) (fun _ h => nomatch h) dX0_wasteOfSet_105
    · have hp := hp.2 c6
      refine lv_iload_n hx hb dX0_wasteOfSet_17 rfl (lv_at hl 1 rfl) ?_
      refine lv_iload hx hb dX0_wasteOfSet_18 (lv_at hl 5 rfl) ?_
      obtain ⟨r2, hr2, hp⟩ := hp
      refine ro_SN (As := [.int a1, .int x5]) (rest := []) ⟨hx, hb, hml, hown, hts⟩ (c_X4_contains l dC dI cI a1 x5 r2 hr2) ⟨va_cnB 2 hts gX0_wasteOfSet_X4_contains_n78 rfl rfl rfl (nw_w hN 0 rfl) (hts _ kX0_wasteOfSet_2) (by decide +kernel) ⟨Nat.le_of_ble_eq_true rfl, Nat.le_of_ble_eq_true rfl⟩, hts _ kX0_wasteOfSet_3, trivial⟩ (hP.sub [] rfl) hK hN rfl rfl hl.1 (Nat.le_of_ble_eq_true rfl) ⟨Nat.zero_le _, Nat.zero_le _⟩ dX0_wasteOfSet_20 ?_
      refine lv_if_eq (tgt := 85) hx hb dX0_wasteOfSet_23 (by decide) (fun c5 => ?_) (fun c5 => ?_)
      · have hp := hp.1 c5
        refine lv_iinc (v := x5 + (1 : Int32)) (lv' := [(5, .int (x5 + (1 : Int32))), (0, .ref (q 0)), (1, .int a1), (2, .int a2), (3, .int x3), (4, .int x4)]) hx hb dX0_wasteOfSet_85 hl (k := 5) rfl rfl (by decide) rfl (fun ls hl => ?_)
        refine lv_goto (tgt := 8) hx hb dX0_wasteOfSet_88 (by decide) ?_
        rw [eV8] at hp
        exact hp _ (lv_sub hl [1, 2, 3, 4, 5, 0] rfl)
      · have hp := hp.2 c5
        refine lv_iload_n hx hb dX0_wasteOfSet_26 rfl (lv_at hl 3 rfl) ?_
        refine lv_iconst (v := -1) hx hb dX0_wasteOfSet_27 (by decide) ?_
        refine lv_icmp_eq (tgt := 43) hx hb dX0_wasteOfSet_28 (by decide) (fun c4 => ?_) (fun c4 => ?_)
        · have hp := hp.1 c4
          rw [eV43] at hp
          exact hp _ (lv_sub hl [0, 1, 2, 4, 5] rfl)
        · have hp := hp.2 c4
          refine lv_iload_n hx hb dX0_wasteOfSet_31 rfl (lv_at hl 3 rfl) ?_
          refine lv_iload hx hb dX0_wasteOfSet_32 (lv_at hl 5 rfl) ?_
          refine lv_iconst (v := 1) hx hb dX0_wasteOfSet_34 (by decide) ?_
          refine lv_isub hx hb dX0_wasteOfSet_35 ?_
          refine lv_icmp_eq (tgt := 43) hx hb dX0_wasteOfSet_36 (by decide) (fun c3 => ?_) (fun c3 => ?_)
          · have hp := hp.1 c3
            rw [eV43] at hp
            exact hp _ (lv_sub hl [0, 1, 2, 4, 5] rfl)
          · have hp := hp.2 c3
            refine lv_iconst (v := 1) hx hb dX0_wasteOfSet_39 (by decide) ?_
            refine lv_goto (tgt := 44) hx hb dX0_wasteOfSet_40 (by decide) ?_
            rw [eV44] at hp
            exact hp _ (lv_sub hl [0, 1, 2, 4, 5] rfl))
  have hp := hp (by
    intro x4 x5 hp
    rw [eV43]
    intro ls hl
    refine lv_iconst (v := 0) hx hb dX0_wasteOfSet_43 (by decide) ?_
    rw [eV44] at hp
    exact hp _ (lv_sub hl [0, 1, 2, 3, 4] rfl))
  have hp := hp (by
    intro x4 x5 t0 hp
    rw [eV44]
    intro ls hl
    refine lv_istore (lv' := [(6, .int t0), (0, .ref (q 0)), (1, .int a1), (2, .int a2), (4, .int x4), (5, .int x5)]) hx hb dX0_wasteOfSet_44 hl (by decide) rfl (fun ls hl => ?_)
    refine lv_iload hx hb dX0_wasteOfSet_46 (lv_at hl 0 rfl) ?_
    refine lv_if_ne (tgt := 64) hx hb dX0_wasteOfSet_48 (by decide) (fun c10 => ?_) (fun c10 => ?_)
    · have hp := hp.1 c10
      refine lv_iconst (v := -1) hx hb dX0_wasteOfSet_64 (by decide) ?_
      exact W.iret hx hb hr (fun t ht _ => ⟨by rw [hp], ht⟩) (fun _ h => nomatch h) dX0_wasteOfSet_65
    · have hp := hp.2 c10
      refine lv_aload_n hx hb dX0_wasteOfSet_51 rfl (lv_at hl 1 rfl) ?_
      refine va_get (D := (dC, dI)) (ci := 0) (v := .ref (q 3)) (C := RX0) (T := TX0) (N := 9) hx hb hts iX0_wasteOfSet_X0 hown hK hP 0 rfl rfl 4 (by decide) (hts _ kX0_wasteOfSet_4) (fun _ h9 => h9) rfl dX0_wasteOfSet_52 ?_
      refine lv_iload hx hb dX0_wasteOfSet_55 (lv_at hl 5 rfl) ?_
      refine ro_V (As := [.int x5]) (rest := []) ⟨hx, hb, hml, hown, hts⟩ (c_X2_at l dC dI cI (q 3) (q 4) 10 (g 2) x5 (by decide)) (cwV 1 hts gX0_wasteOfSet_X2_at rfl rfl rfl (by decide +kernel) ⟨Nat.le_of_ble_eq_true rfl, Nat.le_of_ble_eq_true rfl⟩) (hP.sub [3, 4] rfl) hK hN rfl rfl rfl rfl hl.1 (Nat.le_of_ble_eq_true rfl) ⟨Nat.zero_le _, Nat.zero_le _⟩ dX0_wasteOfSet_57 ?_
      refine lv_iconst (v := -1) hx hb dX0_wasteOfSet_60 (by decide) ?_
      refine lv_icmp_eq (tgt := 66) hx hb dX0_wasteOfSet_61 (by decide) (fun c9 => ?_) (fun c9 => ?_)
      · have hp := hp.1 c9
        refine lv_iload hx hb dX0_wasteOfSet_66 (lv_at hl 4 rfl) ?_
        refine lv_aload_n hx hb dX0_wasteOfSet_68 rfl (lv_at hl 1 rfl) ?_
        refine va_get (D := (dC, dI)) (ci := 0) (v := .ref (q 1)) (C := RX0) (T := TX0) (N := 9) hx hb hts iX0_wasteOfSet_X0 hown hK hP 0 rfl rfl 3 (by decide) (hts _ kX0_wasteOfSet_5) (fun _ h9 => h9) rfl dX0_wasteOfSet_69 ?_
        refine lv_iload hx hb dX0_wasteOfSet_72 (lv_at hl 5 rfl) ?_
        refine ro_V (As := [.int x5]) (rest := [.int x4]) ⟨hx, hb, hml, hown, hts⟩ (c_X2_at l dC dI cI (q 1) (q 2) 10 (g 1) x5 (by decide)) (cwV 1 hts gX0_wasteOfSet_X2_at rfl rfl rfl (by decide +kernel) ⟨Nat.le_of_ble_eq_true rfl, Nat.le_of_ble_eq_true rfl⟩) (hP.sub [1, 2] rfl) hK hN rfl rfl rfl rfl hl.1 (Nat.le_of_ble_eq_true rfl) ⟨Nat.zero_le _, Nat.zero_le _⟩ dX0_wasteOfSet_74 ?_
        refine lv_iconst (v := 1) hx hb dX0_wasteOfSet_77 (by decide) ?_
        refine lv_isub hx hb dX0_wasteOfSet_78 ?_
        refine lv_iadd hx hb dX0_wasteOfSet_79 ?_
        refine lv_istore (lv' := [(4, .int (x4 + ((f_at 10 (g 1) x5) - (1 : Int32)))), (6, .int t0), (0, .ref (q 0)), (1, .int a1), (2, .int a2), (5, .int x5)]) hx hb dX0_wasteOfSet_80 hl (by decide) rfl (fun ls hl => ?_)
        refine lv_iload hx hb dX0_wasteOfSet_82 (lv_at hl 5 rfl) ?_
        refine lv_istore_n (lv' := [(3, .int x5), (4, .int (x4 + ((f_at 10 (g 1) x5) - (1 : Int32)))), (6, .int t0), (0, .ref (q 0)), (1, .int a1), (2, .int a2), (5, .int x5)]) hx hb dX0_wasteOfSet_84 rfl hl (by decide) rfl (fun ls hl => ?_)
        refine lv_iinc (v := x5 + (1 : Int32)) (lv' := [(5, .int (x5 + (1 : Int32))), (3, .int x5), (4, .int (x4 + ((f_at 10 (g 1) x5) - (1 : Int32)))), (6, .int t0), (0, .ref (q 0)), (1, .int a1), (2, .int a2)]) hx hb dX0_wasteOfSet_85 hl (k := 6) rfl rfl (by decide) rfl (fun ls hl => ?_)
        refine lv_goto (tgt := 8) hx hb dX0_wasteOfSet_88 (by decide) ?_
        rw [eV8] at hp
        exact hp _ (lv_sub hl [4, 5, 6, 1, 2, 0] rfl)
      · have hp := hp.2 c9
        refine lv_iconst (v := -1) hx hb dX0_wasteOfSet_64 (by decide) ?_
        exact W.iret hx hb hr (fun t ht _ => ⟨by rw [hp], ht⟩) (fun _ h => nomatch h) dX0_wasteOfSet_65)
  refine lv_iconst (v := -1) hx hb dX0_wasteOfSet_0 (by decide) ?_
  refine lv_istore_n (lv' := [(3, .int (-1 : Int32)), (0, .ref (q 0)), (1, .int a1), (2, .int a2)]) hx hb dX0_wasteOfSet_1 rfl hl (by decide) rfl (fun ls hl => ?_)
  refine lv_iconst (v := 1) hx hb dX0_wasteOfSet_2 (by decide) ?_
  refine lv_istore (lv' := [(4, .int (1 : Int32)), (3, .int (-1 : Int32)), (0, .ref (q 0)), (1, .int a1), (2, .int a2)]) hx hb dX0_wasteOfSet_3 hl (by decide) rfl (fun ls hl => ?_)
  refine lv_iconst (v := 0) hx hb dX0_wasteOfSet_5 (by decide) ?_
  refine lv_istore (lv' := [(5, .int (0 : Int32)), (4, .int (1 : Int32)), (3, .int (-1 : Int32)), (0, .ref (q 0)), (1, .int a1), (2, .int a2)]) hx hb dX0_wasteOfSet_6 hl (by decide) rfl (fun ls hl => ?_)
  rw [eV8] at hp
  exact hp _ (lv_sub hl [3, 4, 5, 2, 1, 0] rfl)
theorem kX0_leastWasteOfSets_0 : (.fieldLink RX0 35 "Meeplehouse$Hall" "tables" "I" : Cond) ∈ wsX0_leastWasteOfSets := by decide +kernel
theorem iX0_leastWasteOfSets_X0 : ∀ w ∈ wsX00, w ∈ wsX0_leastWasteOfSets := by decide +kernel
def P_X0_leastWasteOfSets (g : St) (a1 : Int32) (r : Int32) : Prop := ∀ V4 : Int32 → Int32 → Prop, (∀ x2 x3 : Int32, ((((1 : Int32) <<< ((g 0 1) &&& 31)) ≤ x3 → (r = x2)) ∧ (¬ ((1 : Int32) <<< ((g 0 1) &&& 31)) ≤ x3 → (∃ r1 : Int32, P_X0_wasteOfSet g x3 a1 r1 ∧ (∃ r2 : Int32, P_X0_lesser x2 r1 r2 ∧ (V4 r2 (x3 + (1 : Int32))))))) → V4 x2 x3) → (V4 (-1 : Int32) (1 : Int32))
set_option maxRecDepth 100000 in
set_option maxHeartbeats 4000000 in
theorem c_X0_leastWasteOfSets (l : Launch) (dC : Nat → ClassId) (dI : Nat → Nat → Nat) (cI : ClassId) (q : Nat → Nat) (g : St) (a1 : Int32) (r : Int32) (hp : P_X0_leastWasteOfSets g a1 r) : Met l yX0_leastWasteOfSets wsX0_leastWasteOfSets { frames := 2, cells := 0, slots := 0, locals := 47 } (va_Pc [.ref (q 0), .int a1] (rpS (dC, dI) vwCl [(cI, .int)] (wX0 q cI g))) (QcRead r) 0 0 (fun _ => False) := by
  refine ro_met (cc := cX0_leastWasteOfSets) (maxL := 4) (ret := (some .int)) (by decide) rfl (Nat.le_of_ble_eq_true rfl) ?_
  intro p e s m below meth c hx hb hml hr hlk hts hown hP hK hN ls hl
  have hl : lv_has ls 4 [(0, .ref (q 0)), (1, .int a1)] := hl
  obtain ⟨V4, eV4⟩ : ∃ V : Int32 → Int32 → Prop, V = (fun x2 x3 => ∀ ls : Array Slot, lv_has ls 4 [(0, .ref (q 0)), (1, .int a1), (2, .int x2), (3, .int x3)] → W p l e { frames := 2, cells := 0, slots := 0, locals := 47 } s m ([.ref (q 0), .int a1] : List Value).toArray below meth c s.heap [] 0 0 (MQ below (QcRead r) ([.ref (q 0), .int a1] : List Value).toArray s 0 0 (fun _ => False)) (F0 m 4 ls [])) := ⟨_, rfl⟩
  have hp := hp V4
  have hp := hp (by
    intro x2 x3 hp
    rw [eV4]
    intro ls hl
    refine lv_iload_n hx hb dX0_leastWasteOfSets_4 rfl (lv_at hl 3 rfl) ?_
    refine lv_iconst (v := 1) hx hb dX0_leastWasteOfSets_5 (by decide) ?_
    refine lv_aload_n hx hb dX0_leastWasteOfSets_6 rfl (lv_at hl 0 rfl) ?_
    refine va_get (D := (dC, dI)) (ci := 0) (v := .int (g 0 1)) (C := RX0) (T := TX0) (N := 9) hx hb hts iX0_leastWasteOfSets_X0 hown hK hP 0 rfl rfl 1 (by decide) (hts _ kX0_leastWasteOfSets_0) (fun _ h9 => h9) rfl dX0_leastWasteOfSets_7 ?_
    refine lv_ishl hx hb dX0_leastWasteOfSets_10 ?_
    refine lv_icmp_ge (tgt := 31) hx hb dX0_leastWasteOfSets_11 (by decide) (fun c3 => ?_) (fun c3 => ?_)
    · have hp := hp.1 c3
      refine lv_iload_n hx hb dX0_leastWasteOfSets_31 rfl (lv_at hl 2 rfl) ?_
      exact W.iret hx hb hr (fun t ht _ => ⟨by rw [hp], ht⟩) (fun _ h => nomatch h) dX0_leastWasteOfSets_32
    · have hp := hp.2 c3
      refine lv_iload_n hx hb dX0_leastWasteOfSets_14 rfl (lv_at hl 2 rfl) ?_
      refine lv_aload_n hx hb dX0_leastWasteOfSets_15 rfl (lv_at hl 0 rfl) ?_
      refine lv_iload_n hx hb dX0_leastWasteOfSets_16 rfl (lv_at hl 3 rfl) ?_
      refine lv_iload_n hx hb dX0_leastWasteOfSets_17 rfl (lv_at hl 1 rfl) ?_
      obtain ⟨r1, hr1, hp⟩ := hp
      refine ro_V (As := [.int x3, .int a1]) (rest := [.int x2]) ⟨hx, hb, hml, hown, hts⟩ (c_X0_wasteOfSet l dC dI cI q g x3 a1 r1 hr1) (cwV 2 hts gX0_leastWasteOfSets_X0_wasteOfSet rfl rfl rfl (by decide +kernel) ⟨Nat.le_of_ble_eq_true rfl, Nat.le_of_ble_eq_true rfl⟩) hP hK hN rfl rfl rfl rfl hl.1 (Nat.le_of_ble_eq_true rfl) ⟨Nat.zero_le _, Nat.zero_le _⟩ dX0_leastWasteOfSets_18 ?_
      obtain ⟨r2, hr2, hp⟩ := hp
      refine ro_S (As := [.int x2, .int r1]) (rest := []) ⟨hx, hb, hml, hown, hts⟩ (c_X0_lesser l dC dI cI x2 r1 r2 hr2) (va_cwS 2 hts gX0_leastWasteOfSets_X0_lesser rfl rfl rfl (by decide +kernel) ⟨Nat.le_of_ble_eq_true rfl, Nat.le_of_ble_eq_true rfl⟩) (hP.sub [] rfl) hK hN rfl rfl hl.1 (Nat.le_of_ble_eq_true rfl) ⟨Nat.zero_le _, Nat.zero_le _⟩ dX0_leastWasteOfSets_21 ?_
      refine lv_istore_n (lv' := [(2, .int r2), (0, .ref (q 0)), (1, .int a1), (3, .int x3)]) hx hb dX0_leastWasteOfSets_24 rfl hl (by decide) rfl (fun ls hl => ?_)
      refine lv_iinc (v := x3 + (1 : Int32)) (lv' := [(3, .int (x3 + (1 : Int32))), (2, .int r2), (0, .ref (q 0)), (1, .int a1)]) hx hb dX0_leastWasteOfSets_25 hl (k := 3) rfl rfl (by decide) rfl (fun ls hl => ?_)
      refine lv_goto (tgt := 4) hx hb dX0_leastWasteOfSets_28 (by decide) ?_
      rw [eV4] at hp
      exact hp _ (lv_sub hl [2, 3, 1, 0] rfl))
  refine lv_iconst (v := -1) hx hb dX0_leastWasteOfSets_0 (by decide) ?_
  refine lv_istore_n (lv' := [(2, .int (-1 : Int32)), (0, .ref (q 0)), (1, .int a1)]) hx hb dX0_leastWasteOfSets_1 rfl hl (by decide) rfl (fun ls hl => ?_)
  refine lv_iconst (v := 1) hx hb dX0_leastWasteOfSets_2 (by decide) ?_
  refine lv_istore_n (lv' := [(3, .int (1 : Int32)), (2, .int (-1 : Int32)), (0, .ref (q 0)), (1, .int a1)]) hx hb dX0_leastWasteOfSets_3 rfl hl (by decide) rfl (fun ls hl => ?_)
  rw [eV4] at hp
  exact hp _ (lv_sub hl [2, 3, 1, 0] rfl)
theorem kX0_firstTable_0 : (.fieldLink RX0 35 "Meeplehouse$Hall" "tables" "I" : Cond) ∈ wsX0_firstTable := by decide +kernel
theorem iX0_firstTable_X0 : ∀ w ∈ wsX00, w ∈ wsX0_firstTable := by decide +kernel
theorem kX0_firstTable_2 : (.fieldLink RX0 20 "Meeplehouse$Hall" "sitter" "LMeeplehouse$Row;" : Cond) ∈ wsX0_firstTable := by decide +kernel
def P_X0_firstTable (g : St) (a1 : Int32) (r : Int32) : Prop := ∀ V2 : Int32 → Prop, (∀ x2 : Int32, (((g 0 1) ≤ x2 → (r = (-1 : Int32))) ∧ (¬ (g 0 1) ≤ x2 → ((¬ (f_at 10 (g 2) x2) = a1 → (V2 (x2 + (1 : Int32)))) ∧ ((f_at 10 (g 2) x2) = a1 → (r = x2))))) → V2 x2) → (V2 (0 : Int32))
set_option maxRecDepth 100000 in
set_option maxHeartbeats 4000000 in
theorem c_X0_firstTable (l : Launch) (dC : Nat → ClassId) (dI : Nat → Nat → Nat) (cI : ClassId) (q : Nat → Nat) (g : St) (a1 : Int32) (r : Int32) (hp : P_X0_firstTable g a1 r) : Met l yX0_firstTable wsX0_firstTable { frames := 1, cells := 0, slots := 0, locals := 21 } (va_Pc [.ref (q 0), .int a1] (rpS (dC, dI) vwCl [(cI, .int)] (wX0 q cI g))) (QcRead r) 0 0 (fun _ => False) := by
  refine ro_met (cc := cX0_firstTable) (maxL := 3) (ret := (some .int)) (by decide) rfl (Nat.le_of_ble_eq_true rfl) ?_
  intro p e s m below meth c hx hb hml hr hlk hts hown hP hK hN ls hl
  have hl : lv_has ls 3 [(0, .ref (q 0)), (1, .int a1)] := hl
  obtain ⟨V2, eV2⟩ : ∃ V : Int32 → Prop, V = (fun x2 => ∀ ls : Array Slot, lv_has ls 3 [(0, .ref (q 0)), (1, .int a1), (2, .int x2)] → W p l e { frames := 1, cells := 0, slots := 0, locals := 21 } s m ([.ref (q 0), .int a1] : List Value).toArray below meth c s.heap [] 0 0 (MQ below (QcRead r) ([.ref (q 0), .int a1] : List Value).toArray s 0 0 (fun _ => False)) (F0 m 2 ls [])) := ⟨_, rfl⟩
  have hp := hp V2
  have hp := hp (by
    intro x2 hp
    rw [eV2]
    intro ls hl
    refine lv_iload_n hx hb dX0_firstTable_2 rfl (lv_at hl 2 rfl) ?_
    refine lv_aload_n hx hb dX0_firstTable_3 rfl (lv_at hl 0 rfl) ?_
    refine va_get (D := (dC, dI)) (ci := 0) (v := .int (g 0 1)) (C := RX0) (T := TX0) (N := 9) hx hb hts iX0_firstTable_X0 hown hK hP 0 rfl rfl 1 (by decide) (hts _ kX0_firstTable_0) (fun _ h9 => h9) rfl dX0_firstTable_4 ?_
    refine lv_icmp_ge (tgt := 30) hx hb dX0_firstTable_7 (by decide) (fun c3 => ?_) (fun c3 => ?_)
    · have hp := hp.1 c3
      refine lv_iconst (v := -1) hx hb dX0_firstTable_30 (by decide) ?_
      exact W.iret hx hb hr (fun t ht _ => ⟨by rw [hp], ht⟩) (fun _ h => nomatch h) dX0_firstTable_31
    · have hp := hp.2 c3
      refine lv_aload_n hx hb dX0_firstTable_10 rfl (lv_at hl 0 rfl) ?_
      refine va_get (D := (dC, dI)) (ci := 0) (v := .ref (q 3)) (C := RX0) (T := TX0) (N := 9) hx hb hts iX0_firstTable_X0 hown hK hP 0 rfl rfl 4 (by decide) (hts _ kX0_firstTable_2) (fun _ h9 => h9) rfl dX0_firstTable_11 ?_
      refine lv_iload_n hx hb dX0_firstTable_14 rfl (lv_at hl 2 rfl) ?_
      refine ro_V (As := [.int x2]) (rest := []) ⟨hx, hb, hml, hown, hts⟩ (c_X2_at l dC dI cI (q 3) (q 4) 10 (g 2) x2 (by decide)) (cwV 1 hts gX0_firstTable_X2_at rfl rfl rfl (by decide +kernel) ⟨Nat.le_of_ble_eq_true rfl, Nat.le_of_ble_eq_true rfl⟩) (hP.sub [3, 4] rfl) hK hN rfl rfl rfl rfl hl.1 (Nat.le_of_ble_eq_true rfl) ⟨Nat.zero_le _, Nat.zero_le _⟩ dX0_firstTable_15 ?_
      refine lv_iload_n hx hb dX0_firstTable_18 rfl (lv_at hl 1 rfl) ?_
      refine lv_icmp_ne (tgt := 24) hx hb dX0_firstTable_19 (by decide) (fun c2 => ?_) (fun c2 => ?_)
      · have hp := hp.1 c2
        refine lv_iinc (v := x2 + (1 : Int32)) (lv' := [(2, .int (x2 + (1 : Int32))), (0, .ref (q 0)), (1, .int a1)]) hx hb dX0_firstTable_24 hl (k := 2) rfl rfl (by decide) rfl (fun ls hl => ?_)
        refine lv_goto (tgt := 2) hx hb dX0_firstTable_27 (by decide) ?_
        rw [eV2] at hp
        exact hp _ (lv_sub hl [1, 2, 0] rfl)
      · have hp := hp.2 c2
        refine lv_iload_n hx hb dX0_firstTable_22 rfl (lv_at hl 2 rfl) ?_
        exact W.iret hx hb hr (fun t ht _ => ⟨by rw [hp], ht⟩) (fun _ h => nomatch h) dX0_firstTable_23)
  refine lv_iconst (v := 0) hx hb dX0_firstTable_0 (by decide) ?_
  refine lv_istore_n (lv' := [(2, .int (0 : Int32)), (0, .ref (q 0)), (1, .int a1)]) hx hb dX0_firstTable_1 rfl hl (by decide) rfl (fun ls hl => ?_)
  rw [eV2] at hp
  exact hp _ (lv_sub hl [1, 2, 0] rfl)
theorem kX0_countTables_0 : (.fieldLink RX0 35 "Meeplehouse$Hall" "tables" "I" : Cond) ∈ wsX0_countTables := by decide +kernel
theorem iX0_countTables_X0 : ∀ w ∈ wsX00, w ∈ wsX0_countTables := by decide +kernel
theorem kX0_countTables_2 : (.fieldLink RX0 20 "Meeplehouse$Hall" "sitter" "LMeeplehouse$Row;" : Cond) ∈ wsX0_countTables := by decide +kernel
def P_X0_countTables (g : St) (a1 : Int32) (r : Int32) : Prop := ∀ V4 : Int32 → Int32 → Prop, (∀ x2 x3 : Int32, (((g 0 1) ≤ x3 → (r = x2)) ∧ (¬ (g 0 1) ≤ x3 → ((¬ (f_at 10 (g 2) x3) = a1 → (V4 x2 (x3 + (1 : Int32)))) ∧ ((f_at 10 (g 2) x3) = a1 → (V4 (x2 + (1 : Int32)) (x3 + (1 : Int32))))))) → V4 x2 x3) → (V4 (0 : Int32) (0 : Int32))
set_option maxRecDepth 100000 in
set_option maxHeartbeats 4000000 in
theorem c_X0_countTables (l : Launch) (dC : Nat → ClassId) (dI : Nat → Nat → Nat) (cI : ClassId) (q : Nat → Nat) (g : St) (a1 : Int32) (r : Int32) (hp : P_X0_countTables g a1 r) : Met l yX0_countTables wsX0_countTables { frames := 1, cells := 0, slots := 0, locals := 21 } (va_Pc [.ref (q 0), .int a1] (rpS (dC, dI) vwCl [(cI, .int)] (wX0 q cI g))) (QcRead r) 0 0 (fun _ => False) := by
  refine ro_met (cc := cX0_countTables) (maxL := 4) (ret := (some .int)) (by decide) rfl (Nat.le_of_ble_eq_true rfl) ?_
  intro p e s m below meth c hx hb hml hr hlk hts hown hP hK hN ls hl
  have hl : lv_has ls 4 [(0, .ref (q 0)), (1, .int a1)] := hl
  obtain ⟨V4, eV4⟩ : ∃ V : Int32 → Int32 → Prop, V = (fun x2 x3 => ∀ ls : Array Slot, lv_has ls 4 [(0, .ref (q 0)), (1, .int a1), (2, .int x2), (3, .int x3)] → W p l e { frames := 1, cells := 0, slots := 0, locals := 21 } s m ([.ref (q 0), .int a1] : List Value).toArray below meth c s.heap [] 0 0 (MQ below (QcRead r) ([.ref (q 0), .int a1] : List Value).toArray s 0 0 (fun _ => False)) (F0 m 4 ls [])) := ⟨_, rfl⟩
  have hp := hp V4
  have hp := hp (by
    intro x2 x3 hp
    rw [eV4]
    intro ls hl
    refine lv_iload_n hx hb dX0_countTables_4 rfl (lv_at hl 3 rfl) ?_
    refine lv_aload_n hx hb dX0_countTables_5 rfl (lv_at hl 0 rfl) ?_
    refine va_get (D := (dC, dI)) (ci := 0) (v := .int (g 0 1)) (C := RX0) (T := TX0) (N := 9) hx hb hts iX0_countTables_X0 hown hK hP 0 rfl rfl 1 (by decide) (hts _ kX0_countTables_0) (fun _ h9 => h9) rfl dX0_countTables_6 ?_
    refine lv_icmp_ge (tgt := 33) hx hb dX0_countTables_9 (by decide) (fun c3 => ?_) (fun c3 => ?_)
    · have hp := hp.1 c3
      refine lv_iload_n hx hb dX0_countTables_33 rfl (lv_at hl 2 rfl) ?_
      exact W.iret hx hb hr (fun t ht _ => ⟨by rw [hp], ht⟩) (fun _ h => nomatch h) dX0_countTables_34
    · have hp := hp.2 c3
      refine lv_aload_n hx hb dX0_countTables_12 rfl (lv_at hl 0 rfl) ?_
      refine va_get (D := (dC, dI)) (ci := 0) (v := .ref (q 3)) (C := RX0) (T := TX0) (N := 9) hx hb hts iX0_countTables_X0 hown hK hP 0 rfl rfl 4 (by decide) (hts _ kX0_countTables_2) (fun _ h9 => h9) rfl dX0_countTables_13 ?_
      refine lv_iload_n hx hb dX0_countTables_16 rfl (lv_at hl 3 rfl) ?_
      refine ro_V (As := [.int x3]) (rest := []) ⟨hx, hb, hml, hown, hts⟩ (c_X2_at l dC dI cI (q 3) (q 4) 10 (g 2) x3 (by decide)) (cwV 1 hts gX0_countTables_X2_at rfl rfl rfl (by decide +kernel) ⟨Nat.le_of_ble_eq_true rfl, Nat.le_of_ble_eq_true rfl⟩) (hP.sub [3, 4] rfl) hK hN rfl rfl rfl rfl hl.1 (Nat.le_of_ble_eq_true rfl) ⟨Nat.zero_le _, Nat.zero_le _⟩ dX0_countTables_17 ?_
      refine lv_iload_n hx hb dX0_countTables_20 rfl (lv_at hl 1 rfl) ?_
      refine lv_icmp_ne (tgt := 27) hx hb dX0_countTables_21 (by decide) (fun c2 => ?_) (fun c2 => ?_)
      · have hp := hp.1 c2
        refine lv_iinc (v := x3 + (1 : Int32)) (lv' := [(3, .int (x3 + (1 : Int32))), (0, .ref (q 0)), (1, .int a1), (2, .int x2)]) hx hb dX0_countTables_27 hl (k := 3) rfl rfl (by decide) rfl (fun ls hl => ?_)
        refine lv_goto (tgt := 4) hx hb dX0_countTables_30 (by decide) ?_
        rw [eV4] at hp
        exact hp _ (lv_sub hl [1, 2, 3, 0] rfl)
      · have hp := hp.2 c2
        refine lv_iinc (v := x2 + (1 : Int32)) (lv' := [(2, .int (x2 + (1 : Int32))), (0, .ref (q 0)), (1, .int a1), (3, .int x3)]) hx hb dX0_countTables_24 hl (k := 2) rfl rfl (by decide) rfl (fun ls hl => ?_)
        refine lv_iinc (v := x3 + (1 : Int32)) (lv' := [(3, .int (x3 + (1 : Int32))), (2, .int (x2 + (1 : Int32))), (0, .ref (q 0)), (1, .int a1)]) hx hb dX0_countTables_27 hl (k := 3) rfl rfl (by decide) rfl (fun ls hl => ?_)
        refine lv_goto (tgt := 4) hx hb dX0_countTables_30 (by decide) ?_
        rw [eV4] at hp
        exact hp _ (lv_sub hl [2, 3, 1, 0] rfl))
  refine lv_iconst (v := 0) hx hb dX0_countTables_0 (by decide) ?_
  refine lv_istore_n (lv' := [(2, .int (0 : Int32)), (0, .ref (q 0)), (1, .int a1)]) hx hb dX0_countTables_1 rfl hl (by decide) rfl (fun ls hl => ?_)
  refine lv_iconst (v := 0) hx hb dX0_countTables_2 (by decide) ?_
  refine lv_istore_n (lv' := [(3, .int (0 : Int32)), (2, .int (0 : Int32)), (0, .ref (q 0)), (1, .int a1)]) hx hb dX0_countTables_3 rfl hl (by decide) rfl (fun ls hl => ?_)
  rw [eV4] at hp
  exact hp _ (lv_sub hl [2, 3, 1, 0] rfl)
theorem kX0_countWaiting_0 : (.fieldLink RX0 42 "Meeplehouse$Hall" "groups" "I" : Cond) ∈ wsX0_countWaiting := by decide +kernel
theorem iX0_countWaiting_X0 : ∀ w ∈ wsX00, w ∈ wsX0_countWaiting := by decide +kernel
theorem kX0_countWaiting_2 : (.fieldLink RX0 32 "Meeplehouse$Hall" "state" "LMeeplehouse$Row;" : Cond) ∈ wsX0_countWaiting := by decide +kernel
def P_X0_countWaiting (g : St) (r : Int32) : Prop := ∀ V4 : Int32 → Int32 → Prop, (∀ x1 x2 : Int32, (((g 0 2) ≤ x2 → (r = x1)) ∧ (¬ (g 0 2) ≤ x2 → ((¬ (f_at 30 (g 6) x2) = 0 → (V4 x1 (x2 + (1 : Int32)))) ∧ ((f_at 30 (g 6) x2) = 0 → (V4 (x1 + (1 : Int32)) (x2 + (1 : Int32))))))) → V4 x1 x2) → (V4 (0 : Int32) (0 : Int32))
set_option maxRecDepth 100000 in
set_option maxHeartbeats 4000000 in
theorem c_X0_countWaiting (l : Launch) (dC : Nat → ClassId) (dI : Nat → Nat → Nat) (cI : ClassId) (q : Nat → Nat) (g : St) (r : Int32) (hp : P_X0_countWaiting g r) : Met l yX0_countWaiting wsX0_countWaiting { frames := 1, cells := 0, slots := 0, locals := 21 } (va_Pc [.ref (q 0)] (rpS (dC, dI) vwCl [(cI, .int)] (wX0 q cI g))) (QcRead r) 0 0 (fun _ => False) := by
  refine ro_met (cc := cX0_countWaiting) (maxL := 3) (ret := (some .int)) (by decide) rfl (Nat.le_of_ble_eq_true rfl) ?_
  intro p e s m below meth c hx hb hml hr hlk hts hown hP hK hN ls hl
  have hl : lv_has ls 3 [(0, .ref (q 0))] := hl
  obtain ⟨V4, eV4⟩ : ∃ V : Int32 → Int32 → Prop, V = (fun x1 x2 => ∀ ls : Array Slot, lv_has ls 3 [(0, .ref (q 0)), (1, .int x1), (2, .int x2)] → W p l e { frames := 1, cells := 0, slots := 0, locals := 21 } s m ([.ref (q 0)] : List Value).toArray below meth c s.heap [] 0 0 (MQ below (QcRead r) ([.ref (q 0)] : List Value).toArray s 0 0 (fun _ => False)) (F0 m 4 ls [])) := ⟨_, rfl⟩
  have hp := hp V4
  have hp := hp (by
    intro x1 x2 hp
    rw [eV4]
    intro ls hl
    refine lv_iload_n hx hb dX0_countWaiting_4 rfl (lv_at hl 2 rfl) ?_
    refine lv_aload_n hx hb dX0_countWaiting_5 rfl (lv_at hl 0 rfl) ?_
    refine va_get (D := (dC, dI)) (ci := 0) (v := .int (g 0 2)) (C := RX0) (T := TX0) (N := 9) hx hb hts iX0_countWaiting_X0 hown hK hP 0 rfl rfl 2 (by decide) (hts _ kX0_countWaiting_0) (fun _ h9 => h9) rfl dX0_countWaiting_6 ?_
    refine lv_icmp_ge (tgt := 32) hx hb dX0_countWaiting_9 (by decide) (fun c3 => ?_) (fun c3 => ?_)
    · have hp := hp.1 c3
      refine lv_iload_n hx hb dX0_countWaiting_32 rfl (lv_at hl 1 rfl) ?_
      exact W.iret hx hb hr (fun t ht _ => ⟨by rw [hp], ht⟩) (fun _ h => nomatch h) dX0_countWaiting_33
    · have hp := hp.2 c3
      refine lv_aload_n hx hb dX0_countWaiting_12 rfl (lv_at hl 0 rfl) ?_
      refine va_get (D := (dC, dI)) (ci := 0) (v := .ref (q 11)) (C := RX0) (T := TX0) (N := 9) hx hb hts iX0_countWaiting_X0 hown hK hP 0 rfl rfl 8 (by decide) (hts _ kX0_countWaiting_2) (fun _ h9 => h9) rfl dX0_countWaiting_13 ?_
      refine lv_iload_n hx hb dX0_countWaiting_16 rfl (lv_at hl 2 rfl) ?_
      refine ro_V (As := [.int x2]) (rest := []) ⟨hx, hb, hml, hown, hts⟩ (c_X2_at l dC dI cI (q 11) (q 12) 30 (g 6) x2 (by decide)) (cwV 1 hts gX0_countWaiting_X2_at rfl rfl rfl (by decide +kernel) ⟨Nat.le_of_ble_eq_true rfl, Nat.le_of_ble_eq_true rfl⟩) (hP.sub [11, 12] rfl) hK hN rfl rfl rfl rfl hl.1 (Nat.le_of_ble_eq_true rfl) ⟨Nat.zero_le _, Nat.zero_le _⟩ dX0_countWaiting_17 ?_
      refine lv_if_ne (tgt := 26) hx hb dX0_countWaiting_20 (by decide) (fun c2 => ?_) (fun c2 => ?_)
      · have hp := hp.1 c2
        refine lv_iinc (v := x2 + (1 : Int32)) (lv' := [(2, .int (x2 + (1 : Int32))), (0, .ref (q 0)), (1, .int x1)]) hx hb dX0_countWaiting_26 hl (k := 2) rfl rfl (by decide) rfl (fun ls hl => ?_)
        refine lv_goto (tgt := 4) hx hb dX0_countWaiting_29 (by decide) ?_
        rw [eV4] at hp
        exact hp _ (lv_sub hl [1, 2, 0] rfl)
      · have hp := hp.2 c2
        refine lv_iinc (v := x1 + (1 : Int32)) (lv' := [(1, .int (x1 + (1 : Int32))), (0, .ref (q 0)), (2, .int x2)]) hx hb dX0_countWaiting_23 hl (k := 1) rfl rfl (by decide) rfl (fun ls hl => ?_)
        refine lv_iinc (v := x2 + (1 : Int32)) (lv' := [(2, .int (x2 + (1 : Int32))), (1, .int (x1 + (1 : Int32))), (0, .ref (q 0))]) hx hb dX0_countWaiting_26 hl (k := 2) rfl rfl (by decide) rfl (fun ls hl => ?_)
        refine lv_goto (tgt := 4) hx hb dX0_countWaiting_29 (by decide) ?_
        rw [eV4] at hp
        exact hp _ (lv_sub hl [2, 1, 0] rfl))
  refine lv_iconst (v := 0) hx hb dX0_countWaiting_0 (by decide) ?_
  refine lv_istore_n (lv' := [(1, .int (0 : Int32)), (0, .ref (q 0))]) hx hb dX0_countWaiting_1 rfl hl (by decide) rfl (fun ls hl => ?_)
  refine lv_iconst (v := 0) hx hb dX0_countWaiting_2 (by decide) ?_
  refine lv_istore_n (lv' := [(2, .int (0 : Int32)), (1, .int (0 : Int32)), (0, .ref (q 0))]) hx hb dX0_countWaiting_3 rfl hl (by decide) rfl (fun ls hl => ?_)
  rw [eV4] at hp
  exact hp _ (lv_sub hl [2, 1, 0] rfl)
theorem kX0_isSeated_0 : (.fieldLink RX0 32 "Meeplehouse$Hall" "state" "LMeeplehouse$Row;" : Cond) ∈ wsX0_isSeated := by decide +kernel
theorem iX0_isSeated_X0 : ∀ w ∈ wsX00, w ∈ wsX0_isSeated := by decide +kernel
def P_X0_isSeated (g : St) (a1 : Int32) (r : Int32) : Prop := ((¬ (f_at 30 (g 6) a1) = (1 : Int32) → (r = (0 : Int32))) ∧ ((f_at 30 (g 6) a1) = (1 : Int32) → (r = (1 : Int32))))
set_option maxRecDepth 100000 in
set_option maxHeartbeats 4000000 in
theorem c_X0_isSeated (l : Launch) (dC : Nat → ClassId) (dI : Nat → Nat → Nat) (cI : ClassId) (q : Nat → Nat) (g : St) (a1 : Int32) (r : Int32) (hp : P_X0_isSeated g a1 r) : Met l yX0_isSeated wsX0_isSeated { frames := 1, cells := 0, slots := 0, locals := 21 } (va_Pc [.ref (q 0), .int a1] (rpS (dC, dI) vwCl [(cI, .int)] (wX0 q cI g))) (QcRead r) 0 0 (fun _ => False) := by
  refine ro_met (cc := cX0_isSeated) (maxL := 2) (ret := (some .boolean)) (by decide) rfl (Nat.le_of_ble_eq_true rfl) ?_
  intro p e s m below meth c hx hb hml hr hlk hts hown hP hK hN ls hl
  have hl : lv_has ls 2 [(0, .ref (q 0)), (1, .int a1)] := hl
  unfold P_X0_isSeated at hp
  refine lv_aload_n hx hb dX0_isSeated_0 rfl (lv_at hl 0 rfl) ?_
  refine va_get (D := (dC, dI)) (ci := 0) (v := .ref (q 11)) (C := RX0) (T := TX0) (N := 9) hx hb hts iX0_isSeated_X0 hown hK hP 0 rfl rfl 8 (by decide) (hts _ kX0_isSeated_0) (fun _ h9 => h9) rfl dX0_isSeated_1 ?_
  refine lv_iload_n hx hb dX0_isSeated_4 rfl (lv_at hl 1 rfl) ?_
  refine ro_V (As := [.int a1]) (rest := []) ⟨hx, hb, hml, hown, hts⟩ (c_X2_at l dC dI cI (q 11) (q 12) 30 (g 6) a1 (by decide)) (cwV 1 hts gX0_isSeated_X2_at rfl rfl rfl (by decide +kernel) ⟨Nat.le_of_ble_eq_true rfl, Nat.le_of_ble_eq_true rfl⟩) (hP.sub [11, 12] rfl) hK hN rfl rfl rfl rfl hl.1 (Nat.le_of_ble_eq_true rfl) ⟨Nat.zero_le _, Nat.zero_le _⟩ dX0_isSeated_5 ?_
  refine lv_iconst (v := 1) hx hb dX0_isSeated_8 (by decide) ?_
  refine lv_icmp_ne (tgt := 16) hx hb dX0_isSeated_9 (by decide) (fun c2 => ?_) (fun c2 => ?_)
  · have hp := hp.1 c2
    refine lv_iconst (v := 0) hx hb dX0_isSeated_16 (by decide) ?_
    exact W.zret (ty := .boolean) hx hb hr rfl (fun t ht _ => ⟨by rw [hp], ht⟩) (fun _ h => nomatch h) dX0_isSeated_17
  · have hp := hp.2 c2
    refine lv_iconst (v := 1) hx hb dX0_isSeated_12 (by decide) ?_
    refine lv_goto (tgt := 17) hx hb dX0_isSeated_13 (by decide) ?_
    exact W.zret (ty := .boolean) hx hb hr rfl (fun t ht _ => ⟨by rw [hp], ht⟩) (fun _ h => nomatch h) dX0_isSeated_17
theorem kX0_isGone_0 : (.fieldLink RX0 32 "Meeplehouse$Hall" "state" "LMeeplehouse$Row;" : Cond) ∈ wsX0_isGone := by decide +kernel
theorem iX0_isGone_X0 : ∀ w ∈ wsX00, w ∈ wsX0_isGone := by decide +kernel
def P_X0_isGone (g : St) (a1 : Int32) (r : Int32) : Prop := ((¬ (f_at 30 (g 6) a1) = (2 : Int32) → (r = (0 : Int32))) ∧ ((f_at 30 (g 6) a1) = (2 : Int32) → (r = (1 : Int32))))
set_option maxRecDepth 100000 in
set_option maxHeartbeats 4000000 in
theorem c_X0_isGone (l : Launch) (dC : Nat → ClassId) (dI : Nat → Nat → Nat) (cI : ClassId) (q : Nat → Nat) (g : St) (a1 : Int32) (r : Int32) (hp : P_X0_isGone g a1 r) : Met l yX0_isGone wsX0_isGone { frames := 1, cells := 0, slots := 0, locals := 21 } (va_Pc [.ref (q 0), .int a1] (rpS (dC, dI) vwCl [(cI, .int)] (wX0 q cI g))) (QcRead r) 0 0 (fun _ => False) := by
  refine ro_met (cc := cX0_isGone) (maxL := 2) (ret := (some .boolean)) (by decide) rfl (Nat.le_of_ble_eq_true rfl) ?_
  intro p e s m below meth c hx hb hml hr hlk hts hown hP hK hN ls hl
  have hl : lv_has ls 2 [(0, .ref (q 0)), (1, .int a1)] := hl
  unfold P_X0_isGone at hp
  refine lv_aload_n hx hb dX0_isGone_0 rfl (lv_at hl 0 rfl) ?_
  refine va_get (D := (dC, dI)) (ci := 0) (v := .ref (q 11)) (C := RX0) (T := TX0) (N := 9) hx hb hts iX0_isGone_X0 hown hK hP 0 rfl rfl 8 (by decide) (hts _ kX0_isGone_0) (fun _ h9 => h9) rfl dX0_isGone_1 ?_
  refine lv_iload_n hx hb dX0_isGone_4 rfl (lv_at hl 1 rfl) ?_
  refine ro_V (As := [.int a1]) (rest := []) ⟨hx, hb, hml, hown, hts⟩ (c_X2_at l dC dI cI (q 11) (q 12) 30 (g 6) a1 (by decide)) (cwV 1 hts gX0_isGone_X2_at rfl rfl rfl (by decide +kernel) ⟨Nat.le_of_ble_eq_true rfl, Nat.le_of_ble_eq_true rfl⟩) (hP.sub [11, 12] rfl) hK hN rfl rfl rfl rfl hl.1 (Nat.le_of_ble_eq_true rfl) ⟨Nat.zero_le _, Nat.zero_le _⟩ dX0_isGone_5 ?_
  refine lv_iconst (v := 2) hx hb dX0_isGone_8 (by decide) ?_
  refine lv_icmp_ne (tgt := 16) hx hb dX0_isGone_9 (by decide) (fun c2 => ?_) (fun c2 => ?_)
  · have hp := hp.1 c2
    refine lv_iconst (v := 0) hx hb dX0_isGone_16 (by decide) ?_
    exact W.zret (ty := .boolean) hx hb hr rfl (fun t ht _ => ⟨by rw [hp], ht⟩) (fun _ h => nomatch h) dX0_isGone_17
  · have hp := hp.2 c2
    refine lv_iconst (v := 1) hx hb dX0_isGone_12 (by decide) ?_
    refine lv_goto (tgt := 17) hx hb dX0_isGone_13 (by decide) ?_
    exact W.zret (ty := .boolean) hx hb hr rfl (fun t ht _ => ⟨by rw [hp], ht⟩) (fun _ h => nomatch h) dX0_isGone_17
theorem kX0_minutesLeft_0 : (.fieldLink RX0 29 "Meeplehouse$Hall" "end" "LMeeplehouse$Row;" : Cond) ∈ wsX0_minutesLeft := by decide +kernel
theorem iX0_minutesLeft_X0 : ∀ w ∈ wsX00, w ∈ wsX0_minutesLeft := by decide +kernel
theorem kX0_minutesLeft_2 : (.fieldLink RX0 68 "Meeplehouse$Hall" "minute" "I" : Cond) ∈ wsX0_minutesLeft := by decide +kernel
theorem kX0_minutesLeft_3 : (.methodLink RX0 82 Lib.Math.max.name : Cond) ∈ wsX0_minutesLeft := by decide +kernel
theorem kX0_minutesLeft_4 : (.static Lib.Math.max.name : Cond) ∈ wsX0_minutesLeft := by decide +kernel
theorem kX0_minutesLeft_5 : (.initialized "java/lang/Math" : Cond) ∈ wsX0_minutesLeft := by decide +kernel
theorem kX0_minutesLeft_6 : (.code Lib.Math.max.name Lib.Math.max.code 2 (some .int) : Cond) ∈ wsX0_minutesLeft := by decide +kernel
def P_X0_minutesLeft (g : St) (a1 : Int32) (r : Int32) : Prop := (r = (if ((f_at 30 (g 5) a1) - (g 0 0)) < (0 : Int32) then (0 : Int32) else ((f_at 30 (g 5) a1) - (g 0 0))))
set_option maxRecDepth 100000 in
set_option maxHeartbeats 4000000 in
theorem c_X0_minutesLeft (l : Launch) (dC : Nat → ClassId) (dI : Nat → Nat → Nat) (cI : ClassId) (q : Nat → Nat) (g : St) (a1 : Int32) (r : Int32) (hp : P_X0_minutesLeft g a1 r) : Met l yX0_minutesLeft wsX0_minutesLeft { frames := 1, cells := 0, slots := 0, locals := 21 } (va_Pc [.ref (q 0), .int a1] (rpS (dC, dI) vwCl [(cI, .int)] (wX0 q cI g))) (QcRead r) 0 0 (fun _ => False) := by
  refine ro_met (cc := cX0_minutesLeft) (maxL := 2) (ret := (some .int)) (by decide) rfl (Nat.le_of_ble_eq_true rfl) ?_
  intro p e s m below meth c hx hb hml hr hlk hts hown hP hK hN ls hl
  have hl : lv_has ls 2 [(0, .ref (q 0)), (1, .int a1)] := hl
  unfold P_X0_minutesLeft at hp
  refine lv_aload_n hx hb dX0_minutesLeft_0 rfl (lv_at hl 0 rfl) ?_
  refine va_get (D := (dC, dI)) (ci := 0) (v := .ref (q 9)) (C := RX0) (T := TX0) (N := 9) hx hb hts iX0_minutesLeft_X0 hown hK hP 0 rfl rfl 7 (by decide) (hts _ kX0_minutesLeft_0) (fun _ h9 => h9) rfl dX0_minutesLeft_1 ?_
  refine lv_iload_n hx hb dX0_minutesLeft_4 rfl (lv_at hl 1 rfl) ?_
  refine ro_V (As := [.int a1]) (rest := []) ⟨hx, hb, hml, hown, hts⟩ (c_X2_at l dC dI cI (q 9) (q 10) 30 (g 5) a1 (by decide)) (cwV 1 hts gX0_minutesLeft_X2_at rfl rfl rfl (by decide +kernel) ⟨Nat.le_of_ble_eq_true rfl, Nat.le_of_ble_eq_true rfl⟩) (hP.sub [9, 10] rfl) hK hN rfl rfl rfl rfl hl.1 (Nat.le_of_ble_eq_true rfl) ⟨Nat.zero_le _, Nat.zero_le _⟩ dX0_minutesLeft_5 ?_
  refine lv_aload_n hx hb dX0_minutesLeft_8 rfl (lv_at hl 0 rfl) ?_
  refine va_get (D := (dC, dI)) (ci := 0) (v := .int (g 0 0)) (C := RX0) (T := TX0) (N := 9) hx hb hts iX0_minutesLeft_X0 hown hK hP 0 rfl rfl 0 (by decide) (hts _ kX0_minutesLeft_2) (fun _ h9 => h9) rfl dX0_minutesLeft_9 ?_
  refine lv_isub hx hb dX0_minutesLeft_12 ?_
  refine lv_iconst (v := 0) hx hb dX0_minutesLeft_13 (by decide) ?_
  refine va_mmax hx hb (hml.trans hl.1.symm) hown (hts _ kX0_minutesLeft_3) (hts _ kX0_minutesLeft_4) (hts _ kX0_minutesLeft_5) (hts _ kX0_minutesLeft_6) (Nat.le_of_ble_eq_true rfl) (Nat.le_of_ble_eq_true rfl) (Nat.zero_le _) (Nat.zero_le _) dX0_minutesLeft_14 ?_
  exact W.iret hx hb hr (fun t ht _ => ⟨by rw [hp], ht⟩) (fun _ h => nomatch h) dX0_minutesLeft_17
