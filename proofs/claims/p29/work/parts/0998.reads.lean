def P_L_pieces (gh gs gr ga : St) (a1 : Int32) (a2 : Int32) (r : Int32) : Prop := ∀ V5 : Int32 → Int32 → Prop, (∀ x3 x4 : Int32, ((a1 ≤ x4 → (r = x3)) ∧ (¬ a1 ≤ x4 → (∃ r1 : Int32, Pn_X4_pieces gh gs gr x4 a2 r1 ∧ (V5 (x3 + r1) (x4 + (1 : Int32)))))) → V5 x3 x4) → (V5 (0 : Int32) (0 : Int32))
set_option maxRecDepth 100000 in
set_option maxHeartbeats 8000000 in
theorem c_L_pieces (l : Launch) (dC : Nat → ClassId) (dI : Nat → Nat → Nat) (cI : ClassId) (b0 : Nat) (qh qs qr qa : Nat → Nat) (gh gs gr ga : St) (a1 : Int32) (a2 : Int32) (r : Int32) (hp : P_L_pieces gh gs gr ga a1 a2 r) : Met l yL_pieces wsL_pieces { frames := 8, cells := 0, slots := 0, locals := 125 } (va_Pc [.ref b0, .int a1, .int a2] (rpS (dC, dI) vwCl [(cI, .int)] (wLL b0 qh qs qr qa cI gh gs gr ga))) (QcRead r) 0 0 (fun _ => False) := by
  refine ro_met (cc := cL_pieces) (maxL := 5) (ret := (some .int)) (by decide) rfl (Nat.le_of_ble_eq_true rfl) ?_
  intro p e s m below meth c hx hb hml hr hlk hts hown hP hK hN ls hl
  have hl : lv_has ls 5 [(0, .ref b0), (1, .int a1), (2, .int a2)] := hl
  obtain ⟨V5, eV5⟩ : ∃ V : Int32 → Int32 → Prop, V = (fun x3 x4 => ∀ ls : Array Slot, lv_has ls 5 [(0, .ref b0), (1, .int a1), (2, .int a2), (3, .int x3), (4, .int x4)] → W p l e { frames := 8, cells := 0, slots := 0, locals := 125 } s m ([.ref b0, .int a1, .int a2] : List Value).toArray below meth c s.heap [] 0 0 (MQ below (QcRead r) ([.ref b0, .int a1, .int a2] : List Value).toArray s 0 0 (fun _ => False)) (F0 m 5 ls [])) := ⟨_, rfl⟩
  have hp := hp V5
  have hp := hp (by
    intro x3 x4 hp
    rw [eV5]
    intro ls hl
    refine lv_iload hx hb dL_pieces_5 (lv_at hl 4 rfl) ?_
    refine lv_iload_n hx hb dL_pieces_7 rfl (lv_at hl 1 rfl) ?_
    refine lv_icmp_ge (tgt := 27) hx hb dL_pieces_8 (by decide) (fun c2 => ?_) (fun c2 => ?_)
    · have hp := hp.1 c2
      refine lv_iload_n hx hb dL_pieces_27 rfl (lv_at hl 3 rfl) ?_
      exact W.iret hx hb hr (fun t ht _ => ⟨by rw [hp], ht⟩) (fun _ h => nomatch h) dL_pieces_28
    · have hp := hp.2 c2
      refine lv_iload_n hx hb dL_pieces_11 rfl (lv_at hl 3 rfl) ?_
      refine lv_aload_n hx hb dL_pieces_12 rfl (lv_at hl 0 rfl) ?_
      refine lv_iload hx hb dL_pieces_13 (lv_at hl 4 rfl) ?_
      refine lv_iload_n hx hb dL_pieces_15 rfl (lv_at hl 2 rfl) ?_
      obtain ⟨r1, hr1, hp⟩ := hp
      refine ro_V (As := [.int x4, .int a2]) (rest := [.int x3]) ⟨hx, hb, hml, hown, hts⟩ (cn_X4_pieces l dC dI cI b0 qh qs qr gh gs gr x4 a2 r1 hr1) (cwV 2 hts gL_pieces_X4_pieces rfl rfl rfl (by decide +kernel) ⟨Nat.le_of_ble_eq_true rfl, Nat.le_of_ble_eq_true rfl⟩) (tLL hP) hK hN rfl rfl rfl rfl hl.1 (Nat.le_of_ble_eq_true rfl) ⟨Nat.zero_le _, Nat.zero_le _⟩ dL_pieces_16 ?_
      refine lv_iadd hx hb dL_pieces_19 ?_
      refine lv_istore_n (lv' := [(3, .int (x3 + r1)), (0, .ref b0), (1, .int a1), (2, .int a2), (4, .int x4)]) hx hb dL_pieces_20 rfl hl (by decide) rfl (fun ls hl => ?_)
      refine lv_iinc (v := x4 + (1 : Int32)) (lv' := [(4, .int (x4 + (1 : Int32))), (3, .int (x3 + r1)), (0, .ref b0), (1, .int a1), (2, .int a2)]) hx hb dL_pieces_21 hl (k := 4) rfl rfl (by decide) rfl (fun ls hl => ?_)
      refine lv_goto (tgt := 5) hx hb dL_pieces_24 (by decide) ?_
      rw [eV5] at hp
      exact hp _ (lv_sub hl [2, 3, 4, 1, 0] rfl))
  refine lv_iconst (v := 0) hx hb dL_pieces_0 (by decide) ?_
  refine lv_istore_n (lv' := [(3, .int (0 : Int32)), (0, .ref b0), (1, .int a1), (2, .int a2)]) hx hb dL_pieces_1 rfl hl (by decide) rfl (fun ls hl => ?_)
  refine lv_iconst (v := 0) hx hb dL_pieces_2 (by decide) ?_
  refine lv_istore (lv' := [(4, .int (0 : Int32)), (3, .int (0 : Int32)), (0, .ref b0), (1, .int a1), (2, .int a2)]) hx hb dL_pieces_3 hl (by decide) rfl (fun ls hl => ?_)
  rw [eV5] at hp
  exact hp _ (lv_sub hl [2, 3, 4, 1, 0] rfl)
def P_L_isWaste (gh gs gr ga : St) (a1 : Int32) (r : Int32) : Prop := ∀ V23 : Int32 → Int32 → Prop, (∀ x2 t0 : Int32, (∃ r4 : Int32, Pn_X4_wasteByAll gh gs gr a1 r4 ∧ ((¬ r4 = x2 → (r = (0 : Int32))) ∧ (r4 = x2 → ((t0 = (-1 : Int32) → (r = (1 : Int32))) ∧ (¬ t0 = (-1 : Int32) → ((x2 < 0 → (r = (0 : Int32))) ∧ (¬ x2 < 0 → (((t0 + (1 : Int32)) < x2 → (r = (0 : Int32))) ∧ (¬ (t0 + (1 : Int32)) < x2 → (r = (1 : Int32))))))))))) → V23 x2 t0) → (∃ r1 : Int32, Pn_X4_waste gh gs gr a1 r1 ∧ ((¬ a1 = (12 : Int32) → (∃ r2 : Int32, Pn_X4_waste gh gs gr (a1 + (1 : Int32)) r2 ∧ (V23 r1 r2))) ∧ (a1 = (12 : Int32) → (V23 r1 (-1 : Int32)))))
set_option maxRecDepth 100000 in
set_option maxHeartbeats 8000000 in
theorem c_L_isWaste (l : Launch) (dC : Nat → ClassId) (dI : Nat → Nat → Nat) (cI : ClassId) (b0 : Nat) (qh qs qr qa : Nat → Nat) (gh gs gr ga : St) (a1 : Int32) (r : Int32) (hp : P_L_isWaste gh gs gr ga a1 r) : Met l yL_isWaste wsL_isWaste { frames := 8, cells := 0, slots := 0, locals := 125 } (va_Pc [.ref b0, .int a1] (rpS (dC, dI) vwCl [(cI, .int)] (wLL b0 qh qs qr qa cI gh gs gr ga))) (QcRead r) 0 0 (fun _ => False) := by
  refine ro_met (cc := cL_isWaste) (maxL := 4) (ret := (some .boolean)) (by decide) rfl (Nat.le_of_ble_eq_true rfl) ?_
  intro p e s m below meth c hx hb hml hr hlk hts hown hP hK hN ls hl
  have hl : lv_has ls 4 [(0, .ref b0), (1, .int a1)] := hl
  obtain ⟨V23, eV23⟩ : ∃ V : Int32 → Int32 → Prop, V = (fun x2 t0 => ∀ ls : Array Slot, lv_has ls 4 [(0, .ref b0), (1, .int a1), (2, .int x2)] → W p l e { frames := 8, cells := 0, slots := 0, locals := 125 } s m ([.ref b0, .int a1] : List Value).toArray below meth c s.heap [] 0 0 (MQ below (QcRead r) ([.ref b0, .int a1] : List Value).toArray s 0 0 (fun _ => False)) (F0 m 23 ls [.int t0])) := ⟨_, rfl⟩
  have hp := hp V23
  have hp := hp (by
    intro x2 t0 hp
    rw [eV23]
    intro ls hl
    refine lv_istore_n (lv' := [(3, .int t0), (0, .ref b0), (1, .int a1), (2, .int x2)]) hx hb dL_isWaste_23 rfl hl (by decide) rfl (fun ls hl => ?_)
    refine lv_aload_n hx hb dL_isWaste_24 rfl (lv_at hl 1 rfl) ?_
    refine lv_iload_n hx hb dL_isWaste_25 rfl (lv_at hl 2 rfl) ?_
    obtain ⟨r4, hr4, hp⟩ := hp
    refine ro_V (As := [.int a1]) (rest := []) ⟨hx, hb, hml, hown, hts⟩ (cn_X4_wasteByAll l dC dI cI b0 qh qs qr gh gs gr a1 r4 hr4) (cwV 1 hts gL_isWaste_X4_wasteByAll rfl rfl rfl (by decide +kernel) ⟨Nat.le_of_ble_eq_true rfl, Nat.le_of_ble_eq_true rfl⟩) (tLL hP) hK hN rfl rfl rfl rfl hl.1 (Nat.le_of_ble_eq_true rfl) ⟨Nat.zero_le _, Nat.zero_le _⟩ dL_isWaste_26 ?_
    refine lv_iload_n hx hb dL_isWaste_29 rfl (lv_at hl 3 rfl) ?_
    refine lv_icmp_ne (tgt := 53) hx hb dL_isWaste_30 (by decide) (fun c8 => ?_) (fun c8 => ?_)
    · have hp := hp.1 c8
      refine lv_iconst (v := 0) hx hb dL_isWaste_53 (by decide) ?_
      exact W.zret (ty := .boolean) hx hb hr rfl (fun t ht _ => ⟨by rw [hp], ht⟩) (fun _ h => nomatch h) dL_isWaste_54
    · have hp := hp.2 c8
      refine lv_iload_n hx hb dL_isWaste_33 rfl (lv_at hl 0 rfl) ?_
      refine lv_iconst (v := -1) hx hb dL_isWaste_34 (by decide) ?_
      refine lv_icmp_eq (tgt := 49) hx hb dL_isWaste_35 (by decide) (fun c7 => ?_) (fun c7 => ?_)
      · have hp := hp.1 c7
        refine lv_iconst (v := 1) hx hb dL_isWaste_49 (by decide) ?_
        refine lv_goto (tgt := 54) hx hb dL_isWaste_50 (by decide) ?_
        exact W.zret (ty := .boolean) hx hb hr rfl (fun t ht _ => ⟨by rw [hp], ht⟩) (fun _ h => nomatch h) dL_isWaste_54
      · have hp := hp.2 c7
        refine lv_iload_n hx hb dL_isWaste_38 rfl (lv_at hl 3 rfl) ?_
        refine lv_if_lt (tgt := 53) hx hb dL_isWaste_39 (by decide) (fun c6 => ?_) (fun c6 => ?_)
        · have hp := hp.1 c6
          refine lv_iconst (v := 0) hx hb dL_isWaste_53 (by decide) ?_
          exact W.zret (ty := .boolean) hx hb hr rfl (fun t ht _ => ⟨by rw [hp], ht⟩) (fun _ h => nomatch h) dL_isWaste_54
        · have hp := hp.2 c6
          refine lv_iload_n hx hb dL_isWaste_42 rfl (lv_at hl 3 rfl) ?_
          refine lv_iload_n hx hb dL_isWaste_43 rfl (lv_at hl 0 rfl) ?_
          refine lv_iconst (v := 1) hx hb dL_isWaste_44 (by decide) ?_
          refine lv_iadd hx hb dL_isWaste_45 ?_
          refine lv_icmp_gt (tgt := 53) hx hb dL_isWaste_46 (by decide) (fun c5 => ?_) (fun c5 => ?_)
          · have hp := hp.1 c5
            refine lv_iconst (v := 0) hx hb dL_isWaste_53 (by decide) ?_
            exact W.zret (ty := .boolean) hx hb hr rfl (fun t ht _ => ⟨by rw [hp], ht⟩) (fun _ h => nomatch h) dL_isWaste_54
          · have hp := hp.2 c5
            refine lv_iconst (v := 1) hx hb dL_isWaste_49 (by decide) ?_
            refine lv_goto (tgt := 54) hx hb dL_isWaste_50 (by decide) ?_
            exact W.zret (ty := .boolean) hx hb hr rfl (fun t ht _ => ⟨by rw [hp], ht⟩) (fun _ h => nomatch h) dL_isWaste_54)
  refine lv_aload_n hx hb dL_isWaste_0 rfl (lv_at hl 0 rfl) ?_
  refine lv_iload_n hx hb dL_isWaste_1 rfl (lv_at hl 1 rfl) ?_
  obtain ⟨r1, hr1, hp⟩ := hp
  refine ro_V (As := [.int a1]) (rest := []) ⟨hx, hb, hml, hown, hts⟩ (cn_X4_waste l dC dI cI b0 qh qs qr gh gs gr a1 r1 hr1) (cwV 1 hts gL_isWaste_X4_waste rfl rfl rfl (by decide +kernel) ⟨Nat.le_of_ble_eq_true rfl, Nat.le_of_ble_eq_true rfl⟩) (tLL hP) hK hN rfl rfl rfl rfl hl.1 (Nat.le_of_ble_eq_true rfl) ⟨Nat.zero_le _, Nat.zero_le _⟩ dL_isWaste_2 ?_
  refine lv_istore_n (lv' := [(2, .int r1), (0, .ref b0), (1, .int a1)]) hx hb dL_isWaste_5 rfl hl (by decide) rfl (fun ls hl => ?_)
  refine lv_iload_n hx hb dL_isWaste_6 rfl (lv_at hl 2 rfl) ?_
  refine lv_bipush (v := 12) hx hb dL_isWaste_7 (by decide) ?_
  refine lv_icmp_ne (tgt := 16) hx hb dL_isWaste_9 (by decide) (fun c3 => ?_) (fun c3 => ?_)
  · have hp := hp.1 c3
    refine lv_aload_n hx hb dL_isWaste_16 rfl (lv_at hl 1 rfl) ?_
    refine lv_iload_n hx hb dL_isWaste_17 rfl (lv_at hl 2 rfl) ?_
    refine lv_iconst (v := 1) hx hb dL_isWaste_18 (by decide) ?_
    refine lv_iadd hx hb dL_isWaste_19 ?_
    obtain ⟨r2, hr2, hp⟩ := hp
    refine ro_V (As := [.int (a1 + (1 : Int32))]) (rest := []) ⟨hx, hb, hml, hown, hts⟩ (cn_X4_waste l dC dI cI b0 qh qs qr gh gs gr (a1 + (1 : Int32)) r2 hr2) (cwV 1 hts gL_isWaste_X4_waste rfl rfl rfl (by decide +kernel) ⟨Nat.le_of_ble_eq_true rfl, Nat.le_of_ble_eq_true rfl⟩) (tLL hP) hK hN rfl rfl rfl rfl hl.1 (Nat.le_of_ble_eq_true rfl) ⟨Nat.zero_le _, Nat.zero_le _⟩ dL_isWaste_20 ?_
    rw [eV23] at hp
    exact hp _ (lv_sub hl [1, 2, 0] rfl)
  · have hp := hp.2 c3
    refine lv_iconst (v := -1) hx hb dL_isWaste_12 (by decide) ?_
    refine lv_goto (tgt := 23) hx hb dL_isWaste_13 (by decide) ?_
    rw [eV23] at hp
    exact hp _ (lv_sub hl [1, 2, 0] rfl)
def P_L_areCopies (gh gs gr ga : St) (a3 : Int32) (a4 : Int32) (r : Int32) : Prop := ∀ V9 : Int32 → Int32 → Int32 → Prop, ∀ V55 : Int32 → Int32 → Int32 → Prop, ∀ V59 : Int32 → Int32 → Int32 → Prop, ∀ V60 : Int32 → Int32 → Int32 → Int32 → Prop, ∀ V90 : Int32 → Int32 → Int32 → Prop, ∀ V123 : Int32 → Int32 → Int32 → Int32 → Int32 → Int32 → Int32 → Prop, ∀ V164 : Int32 → Int32 → Int32 → Int32 → Int32 → Int32 → Int32 → Prop, ∀ V165 : Int32 → Int32 → Int32 → Int32 → Int32 → Int32 → Int32 → Int32 → Prop, ∀ V222 : Int32 → Int32 → Int32 → Int32 → Int32 → Int32 → Prop, ∀ V238 : Int32 → Int32 → Int32 → Int32 → Int32 → Int32 → Int32 → Prop, ∀ V252 : Int32 → Int32 → Int32 → Int32 → Int32 → Prop, ∀ V263 : Int32 → Int32 → Int32 → Int32 → Int32 → Prop, ∀ V283 : Int32 → Int32 → Int32 → Prop, (∀ x5 x6 x7 : Int32, ((a4 ≤ x7 → (V90 x5 x6 (0 : Int32))) ∧ (¬ a4 ≤ x7 → ((x6 = 0 → (V90 x5 x6 (0 : Int32))) ∧ (¬ x6 = 0 → (∃ r1 : Int32, Pn_X4_copyOf gh gs gr x7 r1 ∧ ((r1 = (-1 : Int32) → (V55 x5 x7 r1)) ∧ (¬ r1 = (-1 : Int32) → ((¬ ((x5 >>> (r1 &&& 31)) &&& (1 : Int32)) = 0 → (V59 x5 x7 r1)) ∧ (((x5 >>> (r1 &&& 31)) &&& (1 : Int32)) = 0 → (∃ r2 : Int32, Pn_X4_stateOf gh gs gr r1 r2 ∧ ((¬ r2 = (1 : Int32) → (V59 x5 x7 r1)) ∧ (r2 = (1 : Int32) → (V55 x5 x7 r1))))))))))))) → V9 x5 x6 x7) → (∀ x5 x7 x8 : Int32, (V60 x5 x7 x8 (1 : Int32)) → V55 x5 x7 x8) → (∀ x5 x7 x8 : Int32, (V60 x5 x7 x8 (0 : Int32)) → V59 x5 x7 x8) → (∀ x5 x7 x8 t0 : Int32, ((¬ x8 = (-1 : Int32) → (V9 (x5 ||| ((1 : Int32) <<< (x8 &&& 31))) t0 (x7 + (1 : Int32)))) ∧ (x8 = (-1 : Int32) → (V9 (x5 ||| (0 : Int32)) t0 (x7 + (1 : Int32))))) → V60 x5 x7 x8 t0) → (∀ x5 x6 x7 : Int32, ((a3 ≤ x7 → ((x6 = 0 ∨ x6 = 1) ∧ (r = x6))) ∧ (¬ a3 ≤ x7 → ((x6 = 0 → ((x6 = 0 ∨ x6 = 1) ∧ (r = x6))) ∧ (¬ x6 = 0 → (∃ r8 : Int32, Pn_X4_stateOf gh gs gr x7 r8 ∧ (∃ r9 : Int32, Pn_X4_lenders gh gs gr x7 r9 ∧ (V123 x5 x6 x7 r8 r9 (1 : Int32) (0 : Int32)))))))) → V90 x5 x6 x7) → (∀ x5 x6 x7 x8 x9 x10 x11 : Int32, (((4 : Int32) ≤ x11 → ((x6 = 0 → (V90 x5 (0 : Int32) (x7 + (1 : Int32)))) ∧ (¬ x6 = 0 → ((¬ x8 = (1 : Int32) → (V222 x5 x7 x8 x9 x10 (0 : Int32))) ∧ (x8 = (1 : Int32) → (V222 x5 x7 x8 x9 x10 (1 : Int32))))))) ∧ (¬ (4 : Int32) ≤ x11 → (∃ r14 : Int32, Pn_X4_pieces gh gs gr x7 x11 r14 ∧ ((x10 = 0 → (V164 x5 x6 x7 x8 x9 x11 r14)) ∧ (¬ x10 = 0 → (vp_in x7 16 ∧ (vp_in (((4 : Int32) * (ga 3 x7.toNatClampNeg)) + x11) 32 ∧ ((¬ r14 = (ga 4 (((4 : Int32) * (ga 3 x7.toNatClampNeg)) + x11).toNatClampNeg) → (V164 x5 x6 x7 x8 x9 x11 r14)) ∧ (r14 = (ga 4 (((4 : Int32) * (ga 3 x7.toNatClampNeg)) + x11).toNatClampNeg) → (V165 x5 x6 x7 x8 x9 x11 r14 (1 : Int32))))))))))) → V123 x5 x6 x7 x8 x9 x10 x11) → (∀ x5 x6 x7 x8 x9 x11 x12 : Int32, (V165 x5 x6 x7 x8 x9 x11 x12 (0 : Int32)) → V164 x5 x6 x7 x8 x9 x11 x12) → (∀ x5 x6 x7 x8 x9 x11 x12 t0 : Int32, ((x6 = 0 → (V123 x5 (0 : Int32) x7 x8 x9 t0 (x11 + (1 : Int32)))) ∧ (¬ x6 = 0 → ((x12 < 0 → (V123 x5 (0 : Int32) x7 x8 x9 t0 (x11 + (1 : Int32)))) ∧ (¬ x12 < 0 → (vp_in x7 16 ∧ (vp_in (((4 : Int32) * (ga 3 x7.toNatClampNeg)) + x11) 32 ∧ (((ga 4 (((4 : Int32) * (ga 3 x7.toNatClampNeg)) + x11).toNatClampNeg) < x12 → (V123 x5 (0 : Int32) x7 x8 x9 t0 (x11 + (1 : Int32)))) ∧ (¬ (ga 4 (((4 : Int32) * (ga 3 x7.toNatClampNeg)) + x11).toNatClampNeg) < x12 → (V123 x5 (1 : Int32) x7 x8 x9 t0 (x11 + (1 : Int32))))))))))) → V165 x5 x6 x7 x8 x9 x11 x12 t0) → (∀ x5 x7 x8 x9 x10 t0 : Int32, ((¬ ((x5 >>> (x7 &&& 31)) &&& (1 : Int32)) = (1 : Int32) → (V238 x5 x7 x8 x9 x10 (0 : Int32) t0)) ∧ (((x5 >>> (x7 &&& 31)) &&& (1 : Int32)) = (1 : Int32) → (V238 x5 x7 x8 x9 x10 (1 : Int32) t0))) → V222 x5 x7 x8 x9 x10 t0) → (∀ x5 x7 x8 x9 x10 t0 t1 : Int32, ((¬ t1 = t0 → (V90 x5 (0 : Int32) (x7 + (1 : Int32)))) ∧ (t1 = t0 → ((¬ x8 = (1 : Int32) → (V252 x5 x7 x8 x9 x10)) ∧ (x8 = (1 : Int32) → ((x10 = 0 → (V90 x5 (0 : Int32) (x7 + (1 : Int32)))) ∧ (¬ x10 = 0 → (V252 x5 x7 x8 x9 x10))))))) → V238 x5 x7 x8 x9 x10 t0 t1) → (∀ x5 x7 x8 x9 x10 : Int32, ((x8 = 0 → (V263 x5 x7 x8 x9 x10)) ∧ (¬ x8 = 0 → ((¬ x9 = (-1 : Int32) → (V90 x5 (0 : Int32) (x7 + (1 : Int32)))) ∧ (x9 = (-1 : Int32) → (V263 x5 x7 x8 x9 x10))))) → V252 x5 x7 x8 x9 x10) → (∀ x5 x7 x8 x9 x10 : Int32, ((¬ x8 = 0 → (V283 x5 x7 x9)) ∧ (x8 = 0 → ((¬ x9 = 0 → ((¬ (0 : Int32) = x10 → (V90 x5 (0 : Int32) (x7 + (1 : Int32)))) ∧ ((0 : Int32) = x10 → (V283 x5 x7 x9)))) ∧ (x9 = 0 → ((¬ (1 : Int32) = x10 → (V90 x5 (0 : Int32) (x7 + (1 : Int32)))) ∧ ((1 : Int32) = x10 → (V283 x5 x7 x9))))))) → V263 x5 x7 x8 x9 x10) → (∀ x5 x7 x9 : Int32, ((a3 ≤ x9 → (V90 x5 (0 : Int32) (x7 + (1 : Int32)))) ∧ (¬ a3 ≤ x9 → (V90 x5 (1 : Int32) (x7 + (1 : Int32))))) → V283 x5 x7 x9) → (V9 (0 : Int32) (1 : Int32) (0 : Int32))
set_option maxRecDepth 100000 in
set_option maxHeartbeats 8000000 in
theorem c_L_areCopies (l : Launch) (dC : Nat → ClassId) (dI : Nat → Nat → Nat) (cI : ClassId) (b0 : Nat) (qh qs qr qa : Nat → Nat) (gh gs gr ga : St) (a3 : Int32) (a4 : Int32) (r : Int32) (hp : P_L_areCopies gh gs gr ga a3 a4 r) : Met l yL_areCopies wsL_areCopies { frames := 8, cells := 0, slots := 0, locals := 125 } (va_Pc [.ref b0, .ref (qa 3), .ref (qa 4), .int a3, .int a4] (rpS (dC, dI) vwCl [(cI, .int)] (wLL b0 qh qs qr qa cI gh gs gr ga))) (QcRead r) 0 0 (fun _ => False) := by
  refine ro_met (cc := cL_areCopies) (maxL := 13) (ret := (some .boolean)) (by decide) rfl (Nat.le_of_ble_eq_true rfl) ?_
  intro p e s m below meth c hx hb hml hr hlk hts hown hP hK hN ls hl
  have hl : lv_has ls 13 [(0, .ref b0), (1, .ref (qa 3)), (2, .ref (qa 4)), (3, .int a3), (4, .int a4)] := hl
  obtain ⟨V9, eV9⟩ : ∃ V : Int32 → Int32 → Int32 → Prop, V = (fun x5 x6 x7 => ∀ ls : Array Slot, lv_has ls 13 [(0, .ref b0), (1, .ref (qa 3)), (2, .ref (qa 4)), (3, .int a3), (4, .int a4), (5, .int x5), (6, .int x6), (7, .int x7)] → W p l e { frames := 8, cells := 0, slots := 0, locals := 125 } s m ([.ref b0, .ref (qa 3), .ref (qa 4), .int a3, .int a4] : List Value).toArray below meth c s.heap [] 0 0 (MQ below (QcRead r) ([.ref b0, .ref (qa 3), .ref (qa 4), .int a3, .int a4] : List Value).toArray s 0 0 (fun _ => False)) (F0 m 9 ls [])) := ⟨_, rfl⟩
  obtain ⟨V55, eV55⟩ : ∃ V : Int32 → Int32 → Int32 → Prop, V = (fun x5 x7 x8 => ∀ ls : Array Slot, lv_has ls 13 [(0, .ref b0), (1, .ref (qa 3)), (2, .ref (qa 4)), (3, .int a3), (4, .int a4), (5, .int x5), (7, .int x7), (8, .int x8)] → W p l e { frames := 8, cells := 0, slots := 0, locals := 125 } s m ([.ref b0, .ref (qa 3), .ref (qa 4), .int a3, .int a4] : List Value).toArray below meth c s.heap [] 0 0 (MQ below (QcRead r) ([.ref b0, .ref (qa 3), .ref (qa 4), .int a3, .int a4] : List Value).toArray s 0 0 (fun _ => False)) (F0 m 55 ls [])) := ⟨_, rfl⟩
  obtain ⟨V59, eV59⟩ : ∃ V : Int32 → Int32 → Int32 → Prop, V = (fun x5 x7 x8 => ∀ ls : Array Slot, lv_has ls 13 [(0, .ref b0), (1, .ref (qa 3)), (2, .ref (qa 4)), (3, .int a3), (4, .int a4), (5, .int x5), (7, .int x7), (8, .int x8)] → W p l e { frames := 8, cells := 0, slots := 0, locals := 125 } s m ([.ref b0, .ref (qa 3), .ref (qa 4), .int a3, .int a4] : List Value).toArray below meth c s.heap [] 0 0 (MQ below (QcRead r) ([.ref b0, .ref (qa 3), .ref (qa 4), .int a3, .int a4] : List Value).toArray s 0 0 (fun _ => False)) (F0 m 59 ls [])) := ⟨_, rfl⟩
  obtain ⟨V60, eV60⟩ : ∃ V : Int32 → Int32 → Int32 → Int32 → Prop, V = (fun x5 x7 x8 t0 => ∀ ls : Array Slot, lv_has ls 13 [(0, .ref b0), (1, .ref (qa 3)), (2, .ref (qa 4)), (3, .int a3), (4, .int a4), (5, .int x5), (7, .int x7), (8, .int x8)] → W p l e { frames := 8, cells := 0, slots := 0, locals := 125 } s m ([.ref b0, .ref (qa 3), .ref (qa 4), .int a3, .int a4] : List Value).toArray below meth c s.heap [] 0 0 (MQ below (QcRead r) ([.ref b0, .ref (qa 3), .ref (qa 4), .int a3, .int a4] : List Value).toArray s 0 0 (fun _ => False)) (F0 m 60 ls [.int t0])) := ⟨_, rfl⟩
  obtain ⟨V90, eV90⟩ : ∃ V : Int32 → Int32 → Int32 → Prop, V = (fun x5 x6 x7 => ∀ ls : Array Slot, lv_has ls 13 [(0, .ref b0), (1, .ref (qa 3)), (2, .ref (qa 4)), (3, .int a3), (4, .int a4), (5, .int x5), (6, .int x6), (7, .int x7)] → W p l e { frames := 8, cells := 0, slots := 0, locals := 125 } s m ([.ref b0, .ref (qa 3), .ref (qa 4), .int a3, .int a4] : List Value).toArray below meth c s.heap [] 0 0 (MQ below (QcRead r) ([.ref b0, .ref (qa 3), .ref (qa 4), .int a3, .int a4] : List Value).toArray s 0 0 (fun _ => False)) (F0 m 90 ls [])) := ⟨_, rfl⟩
  obtain ⟨V123, eV123⟩ : ∃ V : Int32 → Int32 → Int32 → Int32 → Int32 → Int32 → Int32 → Prop, V = (fun x5 x6 x7 x8 x9 x10 x11 => ∀ ls : Array Slot, lv_has ls 13 [(0, .ref b0), (1, .ref (qa 3)), (2, .ref (qa 4)), (3, .int a3), (4, .int a4), (5, .int x5), (6, .int x6), (7, .int x7), (8, .int x8), (9, .int x9), (10, .int x10), (11, .int x11)] → W p l e { frames := 8, cells := 0, slots := 0, locals := 125 } s m ([.ref b0, .ref (qa 3), .ref (qa 4), .int a3, .int a4] : List Value).toArray below meth c s.heap [] 0 0 (MQ below (QcRead r) ([.ref b0, .ref (qa 3), .ref (qa 4), .int a3, .int a4] : List Value).toArray s 0 0 (fun _ => False)) (F0 m 123 ls [])) := ⟨_, rfl⟩
  obtain ⟨V164, eV164⟩ : ∃ V : Int32 → Int32 → Int32 → Int32 → Int32 → Int32 → Int32 → Prop, V = (fun x5 x6 x7 x8 x9 x11 x12 => ∀ ls : Array Slot, lv_has ls 13 [(0, .ref b0), (1, .ref (qa 3)), (2, .ref (qa 4)), (3, .int a3), (4, .int a4), (5, .int x5), (6, .int x6), (7, .int x7), (8, .int x8), (9, .int x9), (11, .int x11), (12, .int x12)] → W p l e { frames := 8, cells := 0, slots := 0, locals := 125 } s m ([.ref b0, .ref (qa 3), .ref (qa 4), .int a3, .int a4] : List Value).toArray below meth c s.heap [] 0 0 (MQ below (QcRead r) ([.ref b0, .ref (qa 3), .ref (qa 4), .int a3, .int a4] : List Value).toArray s 0 0 (fun _ => False)) (F0 m 164 ls [])) := ⟨_, rfl⟩
  obtain ⟨V165, eV165⟩ : ∃ V : Int32 → Int32 → Int32 → Int32 → Int32 → Int32 → Int32 → Int32 → Prop, V = (fun x5 x6 x7 x8 x9 x11 x12 t0 => ∀ ls : Array Slot, lv_has ls 13 [(0, .ref b0), (1, .ref (qa 3)), (2, .ref (qa 4)), (3, .int a3), (4, .int a4), (5, .int x5), (6, .int x6), (7, .int x7), (8, .int x8), (9, .int x9), (11, .int x11), (12, .int x12)] → W p l e { frames := 8, cells := 0, slots := 0, locals := 125 } s m ([.ref b0, .ref (qa 3), .ref (qa 4), .int a3, .int a4] : List Value).toArray below meth c s.heap [] 0 0 (MQ below (QcRead r) ([.ref b0, .ref (qa 3), .ref (qa 4), .int a3, .int a4] : List Value).toArray s 0 0 (fun _ => False)) (F0 m 165 ls [.int t0])) := ⟨_, rfl⟩
  obtain ⟨V222, eV222⟩ : ∃ V : Int32 → Int32 → Int32 → Int32 → Int32 → Int32 → Prop, V = (fun x5 x7 x8 x9 x10 t0 => ∀ ls : Array Slot, lv_has ls 13 [(0, .ref b0), (1, .ref (qa 3)), (2, .ref (qa 4)), (3, .int a3), (4, .int a4), (5, .int x5), (7, .int x7), (8, .int x8), (9, .int x9), (10, .int x10)] → W p l e { frames := 8, cells := 0, slots := 0, locals := 125 } s m ([.ref b0, .ref (qa 3), .ref (qa 4), .int a3, .int a4] : List Value).toArray below meth c s.heap [] 0 0 (MQ below (QcRead r) ([.ref b0, .ref (qa 3), .ref (qa 4), .int a3, .int a4] : List Value).toArray s 0 0 (fun _ => False)) (F0 m 222 ls [.int t0])) := ⟨_, rfl⟩
  obtain ⟨V238, eV238⟩ : ∃ V : Int32 → Int32 → Int32 → Int32 → Int32 → Int32 → Int32 → Prop, V = (fun x5 x7 x8 x9 x10 t0 t1 => ∀ ls : Array Slot, lv_has ls 13 [(0, .ref b0), (1, .ref (qa 3)), (2, .ref (qa 4)), (3, .int a3), (4, .int a4), (5, .int x5), (7, .int x7), (8, .int x8), (9, .int x9), (10, .int x10)] → W p l e { frames := 8, cells := 0, slots := 0, locals := 125 } s m ([.ref b0, .ref (qa 3), .ref (qa 4), .int a3, .int a4] : List Value).toArray below meth c s.heap [] 0 0 (MQ below (QcRead r) ([.ref b0, .ref (qa 3), .ref (qa 4), .int a3, .int a4] : List Value).toArray s 0 0 (fun _ => False)) (F0 m 238 ls [.int t0, .int t1])) := ⟨_, rfl⟩
  obtain ⟨V252, eV252⟩ : ∃ V : Int32 → Int32 → Int32 → Int32 → Int32 → Prop, V = (fun x5 x7 x8 x9 x10 => ∀ ls : Array Slot, lv_has ls 13 [(0, .ref b0), (1, .ref (qa 3)), (2, .ref (qa 4)), (3, .int a3), (4, .int a4), (5, .int x5), (7, .int x7), (8, .int x8), (9, .int x9), (10, .int x10)] → W p l e { frames := 8, cells := 0, slots := 0, locals := 125 } s m ([.ref b0, .ref (qa 3), .ref (qa 4), .int a3, .int a4] : List Value).toArray below meth c s.heap [] 0 0 (MQ below (QcRead r) ([.ref b0, .ref (qa 3), .ref (qa 4), .int a3, .int a4] : List Value).toArray s 0 0 (fun _ => False)) (F0 m 252 ls [])) := ⟨_, rfl⟩
  obtain ⟨V263, eV263⟩ : ∃ V : Int32 → Int32 → Int32 → Int32 → Int32 → Prop, V = (fun x5 x7 x8 x9 x10 => ∀ ls : Array Slot, lv_has ls 13 [(0, .ref b0), (1, .ref (qa 3)), (2, .ref (qa 4)), (3, .int a3), (4, .int a4), (5, .int x5), (7, .int x7), (8, .int x8), (9, .int x9), (10, .int x10)] → W p l e { frames := 8, cells := 0, slots := 0, locals := 125 } s m ([.ref b0, .ref (qa 3), .ref (qa 4), .int a3, .int a4] : List Value).toArray below meth c s.heap [] 0 0 (MQ below (QcRead r) ([.ref b0, .ref (qa 3), .ref (qa 4), .int a3, .int a4] : List Value).toArray s 0 0 (fun _ => False)) (F0 m 263 ls [])) := ⟨_, rfl⟩
  obtain ⟨V283, eV283⟩ : ∃ V : Int32 → Int32 → Int32 → Prop, V = (fun x5 x7 x9 => ∀ ls : Array Slot, lv_has ls 13 [(0, .ref b0), (1, .ref (qa 3)), (2, .ref (qa 4)), (3, .int a3), (4, .int a4), (5, .int x5), (7, .int x7), (9, .int x9)] → W p l e { frames := 8, cells := 0, slots := 0, locals := 125 } s m ([.ref b0, .ref (qa 3), .ref (qa 4), .int a3, .int a4] : List Value).toArray below meth c s.heap [] 0 0 (MQ below (QcRead r) ([.ref b0, .ref (qa 3), .ref (qa 4), .int a3, .int a4] : List Value).toArray s 0 0 (fun _ => False)) (F0 m 283 ls [])) := ⟨_, rfl⟩
  have hp := hp V9 V55 V59 V60 V90 V123 V164 V165 V222 V238 V252 V263 V283
  have hp := hp (by
    intro x5 x6 x7 hp
    rw [eV9]
    intro ls hl
    refine lv_iload hx hb dL_areCopies_9 (lv_at hl 7 rfl) ?_
    refine lv_iload hx hb dL_areCopies_11 (lv_at hl 4 rfl) ?_
    refine lv_icmp_ge (tgt := 87) hx hb dL_areCopies_13 (by decide) (fun c7 => ?_) (fun c7 => ?_)
    · have hp := hp.1 c7
      refine lv_iconst (v := 0) hx hb dL_areCopies_87 (by decide) ?_
      refine lv_istore (lv' := [(7, .int (0 : Int32)), (0, .ref b0), (1, .ref (qa 3)), (2, .ref (qa 4)), (3, .int a3), (4, .int a4), (5, .int x5), (6, .int x6)]) hx hb dL_areCopies_88 hl (by decide) rfl (fun ls hl => ?_)
      rw [eV90] at hp
      exact hp _ (lv_sub hl [1, 2, 3, 4, 5, 6, 7, 0] rfl)
    · have hp := hp.2 c7
      refine lv_iload hx hb dL_areCopies_16 (lv_at hl 6 rfl) ?_
      refine lv_if_eq (tgt := 87) hx hb dL_areCopies_18 (by decide) (fun c6 => ?_) (fun c6 => ?_)
      · have hp := hp.1 c6
        refine lv_iconst (v := 0) hx hb dL_areCopies_87 (by decide) ?_
        refine lv_istore (lv' := [(7, .int (0 : Int32)), (0, .ref b0), (1, .ref (qa 3)), (2, .ref (qa 4)), (3, .int a3), (4, .int a4), (5, .int x5), (6, .int x6)]) hx hb dL_areCopies_88 hl (by decide) rfl (fun ls hl => ?_)
        rw [eV90] at hp
        exact hp _ (lv_sub hl [1, 2, 3, 4, 5, 6, 7, 0] rfl)
      · have hp := hp.2 c6
        refine lv_aload_n hx hb dL_areCopies_21 rfl (lv_at hl 0 rfl) ?_
        refine lv_iload hx hb dL_areCopies_22 (lv_at hl 7 rfl) ?_
        obtain ⟨r1, hr1, hp⟩ := hp
        refine ro_V (As := [.int x7]) (rest := []) ⟨hx, hb, hml, hown, hts⟩ (cn_X4_copyOf l dC dI cI b0 qh qs qr gh gs gr x7 r1 hr1) (cwV 1 hts gL_areCopies_X4_copyOf rfl rfl rfl (by decide +kernel) ⟨Nat.le_of_ble_eq_true rfl, Nat.le_of_ble_eq_true rfl⟩) (tLL hP) hK hN rfl rfl rfl rfl hl.1 (Nat.le_of_ble_eq_true rfl) ⟨Nat.zero_le _, Nat.zero_le _⟩ dL_areCopies_24 ?_
        refine lv_istore (lv' := [(8, .int r1), (0, .ref b0), (1, .ref (qa 3)), (2, .ref (qa 4)), (3, .int a3), (4, .int a4), (5, .int x5), (6, .int x6), (7, .int x7)]) hx hb dL_areCopies_27 hl (by decide) rfl (fun ls hl => ?_)
        refine lv_iload hx hb dL_areCopies_29 (lv_at hl 0 rfl) ?_
        refine lv_iconst (v := -1) hx hb dL_areCopies_31 (by decide) ?_
        refine lv_icmp_eq (tgt := 55) hx hb dL_areCopies_32 (by decide) (fun c5 => ?_) (fun c5 => ?_)
        · have hp := hp.1 c5
          rw [eV55] at hp
          exact hp _ (lv_sub hl [1, 2, 3, 4, 5, 6, 8, 0] rfl)
        · have hp := hp.2 c5
          refine lv_iload hx hb dL_areCopies_35 (lv_at hl 6 rfl) ?_
          refine lv_iload hx hb dL_areCopies_37 (lv_at hl 0 rfl) ?_
          refine lv_ishr hx hb dL_areCopies_39 ?_
          refine lv_iconst (v := 1) hx hb dL_areCopies_40 (by decide) ?_
          refine lv_iand hx hb dL_areCopies_41 ?_
          refine lv_if_ne (tgt := 59) hx hb dL_areCopies_42 (by decide) (fun c4 => ?_) (fun c4 => ?_)
          · have hp := hp.1 c4
            rw [eV59] at hp
            exact hp _ (lv_sub hl [1, 2, 3, 4, 5, 6, 8, 0] rfl)
          · have hp := hp.2 c4
            refine lv_aload_n hx hb dL_areCopies_45 rfl (lv_at hl 1 rfl) ?_
            refine lv_iload hx hb dL_areCopies_46 (lv_at hl 0 rfl) ?_
            obtain ⟨r2, hr2, hp⟩ := hp
            refine ro_V (As := [.int r1]) (rest := []) ⟨hx, hb, hml, hown, hts⟩ (cn_X4_stateOf l dC dI cI b0 qh qs qr gh gs gr r1 r2 hr2) (cwV 1 hts gL_areCopies_X4_stateOf rfl rfl rfl (by decide +kernel) ⟨Nat.le_of_ble_eq_true rfl, Nat.le_of_ble_eq_true rfl⟩) (tLL hP) hK hN rfl rfl rfl rfl hl.1 (Nat.le_of_ble_eq_true rfl) ⟨Nat.zero_le _, Nat.zero_le _⟩ dL_areCopies_48 ?_
            refine lv_iconst (v := 1) hx hb dL_areCopies_51 (by decide) ?_
            refine lv_icmp_ne (tgt := 59) hx hb dL_areCopies_52 (by decide) (fun c3 => ?_) (fun c3 => ?_)
            · have hp := hp.1 c3
              rw [eV59] at hp
              exact hp _ (lv_sub hl [1, 2, 3, 4, 5, 6, 8, 0] rfl)
            · have hp := hp.2 c3
              rw [eV55] at hp
              exact hp _ (lv_sub hl [1, 2, 3, 4, 5, 6, 8, 0] rfl))
  have hp := hp (by
    intro x5 x7 x8 hp
    rw [eV55]
    intro ls hl
    refine lv_iconst (v := 1) hx hb dL_areCopies_55 (by decide) ?_
    refine lv_goto (tgt := 60) hx hb dL_areCopies_56 (by decide) ?_
    rw [eV60] at hp
    exact hp _ (lv_sub hl [0, 1, 2, 3, 4, 5, 6, 7] rfl))
  have hp := hp (by
    intro x5 x7 x8 hp
    rw [eV59]
    intro ls hl
    refine lv_iconst (v := 0) hx hb dL_areCopies_59 (by decide) ?_
    rw [eV60] at hp
    exact hp _ (lv_sub hl [0, 1, 2, 3, 4, 5, 6, 7] rfl))
  have hp := hp (by
    intro x5 x7 x8 t0 hp
    rw [eV60]
    intro ls hl
    refine lv_istore (lv' := [(6, .int t0), (0, .ref b0), (1, .ref (qa 3)), (2, .ref (qa 4)), (3, .int a3), (4, .int a4), (5, .int x5), (7, .int x7), (8, .int x8)]) hx hb dL_areCopies_60 hl (by decide) rfl (fun ls hl => ?_)
    refine lv_iload hx hb dL_areCopies_62 (lv_at hl 6 rfl) ?_
    refine lv_iload hx hb dL_areCopies_64 (lv_at hl 8 rfl) ?_
    refine lv_iconst (v := -1) hx hb dL_areCopies_66 (by decide) ?_
    refine lv_icmp_ne (tgt := 74) hx hb dL_areCopies_67 (by decide) (fun c18 => ?_) (fun c18 => ?_)
    · have hp := hp.1 c18
      refine lv_iconst (v := 1) hx hb dL_areCopies_74 (by decide) ?_
      refine lv_iload hx hb dL_areCopies_75 (lv_at hl 8 rfl) ?_
      refine lv_ishl hx hb dL_areCopies_77 ?_
      refine lv_ior hx hb dL_areCopies_78 ?_
      refine lv_istore (lv' := [(5, .int (x5 ||| ((1 : Int32) <<< (x8 &&& 31)))), (6, .int t0), (0, .ref b0), (1, .ref (qa 3)), (2, .ref (qa 4)), (3, .int a3), (4, .int a4), (7, .int x7), (8, .int x8)]) hx hb dL_areCopies_79 hl (by decide) rfl (fun ls hl => ?_)
      refine lv_iinc (v := x7 + (1 : Int32)) (lv' := [(7, .int (x7 + (1 : Int32))), (5, .int (x5 ||| ((1 : Int32) <<< (x8 &&& 31)))), (6, .int t0), (0, .ref b0), (1, .ref (qa 3)), (2, .ref (qa 4)), (3, .int a3), (4, .int a4), (8, .int x8)]) hx hb dL_areCopies_81 hl (k := 7) rfl rfl (by decide) rfl (fun ls hl => ?_)
      refine lv_goto (tgt := 9) hx hb dL_areCopies_84 (by decide) ?_
      rw [eV9] at hp
      exact hp _ (lv_sub hl [3, 4, 5, 6, 7, 1, 2, 0] rfl)
    · have hp := hp.2 c18
      refine lv_iconst (v := 0) hx hb dL_areCopies_70 (by decide) ?_
      refine lv_goto (tgt := 78) hx hb dL_areCopies_71 (by decide) ?_
      refine lv_ior hx hb dL_areCopies_78 ?_
      refine lv_istore (lv' := [(5, .int (x5 ||| (0 : Int32))), (6, .int t0), (0, .ref b0), (1, .ref (qa 3)), (2, .ref (qa 4)), (3, .int a3), (4, .int a4), (7, .int x7), (8, .int x8)]) hx hb dL_areCopies_79 hl (by decide) rfl (fun ls hl => ?_)
      refine lv_iinc (v := x7 + (1 : Int32)) (lv' := [(7, .int (x7 + (1 : Int32))), (5, .int (x5 ||| (0 : Int32))), (6, .int t0), (0, .ref b0), (1, .ref (qa 3)), (2, .ref (qa 4)), (3, .int a3), (4, .int a4), (8, .int x8)]) hx hb dL_areCopies_81 hl (k := 7) rfl rfl (by decide) rfl (fun ls hl => ?_)
      refine lv_goto (tgt := 9) hx hb dL_areCopies_84 (by decide) ?_
      rw [eV9] at hp
      exact hp _ (lv_sub hl [3, 4, 5, 6, 7, 1, 2, 0] rfl))
  have hp := hp (by
    intro x5 x6 x7 hp
    rw [eV90]
    intro ls hl
    refine lv_iload hx hb dL_areCopies_90 (lv_at hl 7 rfl) ?_
    refine lv_iload_n hx hb dL_areCopies_92 rfl (lv_at hl 3 rfl) ?_
    refine lv_icmp_ge (tgt := 302) hx hb dL_areCopies_93 (by decide) (fun c11 => ?_) (fun c11 => ?_)
    · have hp := hp.1 c11
      refine lv_iload hx hb dL_areCopies_302 (lv_at hl 6 rfl) ?_
      have hbv := rd_bool hp.1
      have hp := hp.2
      exact W.zret (ty := .boolean) hx hb hr hbv (fun t ht _ => ⟨by rw [hp], ht⟩) (fun _ h => nomatch h) dL_areCopies_304
    · have hp := hp.2 c11
      refine lv_iload hx hb dL_areCopies_96 (lv_at hl 6 rfl) ?_
      refine lv_if_eq (tgt := 302) hx hb dL_areCopies_98 (by decide) (fun c10 => ?_) (fun c10 => ?_)
      · have hp := hp.1 c10
        refine lv_iload hx hb dL_areCopies_302 (lv_at hl 6 rfl) ?_
        have hbv := rd_bool hp.1
        have hp := hp.2
        exact W.zret (ty := .boolean) hx hb hr hbv (fun t ht _ => ⟨by rw [hp], ht⟩) (fun _ h => nomatch h) dL_areCopies_304
      · have hp := hp.2 c10
        refine lv_aload_n hx hb dL_areCopies_101 rfl (lv_at hl 0 rfl) ?_
        refine lv_iload hx hb dL_areCopies_102 (lv_at hl 7 rfl) ?_
        obtain ⟨r8, hr8, hp⟩ := hp
        refine ro_V (As := [.int x7]) (rest := []) ⟨hx, hb, hml, hown, hts⟩ (cn_X4_stateOf l dC dI cI b0 qh qs qr gh gs gr x7 r8 hr8) (cwV 1 hts gL_areCopies_X4_stateOf rfl rfl rfl (by decide +kernel) ⟨Nat.le_of_ble_eq_true rfl, Nat.le_of_ble_eq_true rfl⟩) (tLL hP) hK hN rfl rfl rfl rfl hl.1 (Nat.le_of_ble_eq_true rfl) ⟨Nat.zero_le _, Nat.zero_le _⟩ dL_areCopies_104 ?_
        refine lv_istore (lv' := [(8, .int r8), (0, .ref b0), (1, .ref (qa 3)), (2, .ref (qa 4)), (3, .int a3), (4, .int a4), (5, .int x5), (6, .int x6), (7, .int x7)]) hx hb dL_areCopies_107 hl (by decide) rfl (fun ls hl => ?_)
        refine lv_aload_n hx hb dL_areCopies_109 rfl (lv_at hl 1 rfl) ?_
        refine lv_iload hx hb dL_areCopies_110 (lv_at hl 8 rfl) ?_
        obtain ⟨r9, hr9, hp⟩ := hp
        refine ro_V (As := [.int x7]) (rest := []) ⟨hx, hb, hml, hown, hts⟩ (cn_X4_lenders l dC dI cI b0 qh qs qr gh gs gr x7 r9 hr9) (cwV 1 hts gL_areCopies_X4_lenders rfl rfl rfl (by decide +kernel) ⟨Nat.le_of_ble_eq_true rfl, Nat.le_of_ble_eq_true rfl⟩) (tLL hP) hK hN rfl rfl rfl rfl hl.1 (Nat.le_of_ble_eq_true rfl) ⟨Nat.zero_le _, Nat.zero_le _⟩ dL_areCopies_112 ?_
        refine lv_istore (lv' := [(9, .int r9), (8, .int r8), (0, .ref b0), (1, .ref (qa 3)), (2, .ref (qa 4)), (3, .int a3), (4, .int a4), (5, .int x5), (6, .int x6), (7, .int x7)]) hx hb dL_areCopies_115 hl (by decide) rfl (fun ls hl => ?_)
        refine lv_iconst (v := 1) hx hb dL_areCopies_117 (by decide) ?_
        refine lv_istore (lv' := [(10, .int (1 : Int32)), (9, .int r9), (8, .int r8), (0, .ref b0), (1, .ref (qa 3)), (2, .ref (qa 4)), (3, .int a3), (4, .int a4), (5, .int x5), (6, .int x6), (7, .int x7)]) hx hb dL_areCopies_118 hl (by decide) rfl (fun ls hl => ?_)
        refine lv_iconst (v := 0) hx hb dL_areCopies_120 (by decide) ?_
        refine lv_istore (lv' := [(11, .int (0 : Int32)), (10, .int (1 : Int32)), (9, .int r9), (8, .int r8), (0, .ref b0), (1, .ref (qa 3)), (2, .ref (qa 4)), (3, .int a3), (4, .int a4), (5, .int x5), (6, .int x6), (7, .int x7)]) hx hb dL_areCopies_121 hl (by decide) rfl (fun ls hl => ?_)
        rw [eV123] at hp
        exact hp _ (lv_sub hl [4, 5, 6, 7, 8, 9, 10, 11, 3, 2, 1, 0] rfl))
  have hp := hp (by
    intro x5 x6 x7 x8 x9 x10 x11 hp
    rw [eV123]
    intro ls hl
    refine lv_iload hx hb dL_areCopies_123 (lv_at hl 11 rfl) ?_
    refine lv_iconst (v := 4) hx hb dL_areCopies_125 (by decide) ?_
    refine lv_icmp_ge (tgt := 206) hx hb dL_areCopies_126 (by decide) (fun c17 => ?_) (fun c17 => ?_)
    · have hp := hp.1 c17
      refine lv_iload hx hb dL_areCopies_206 (lv_at hl 6 rfl) ?_
      refine lv_if_eq (tgt := 293) hx hb dL_areCopies_208 (by decide) (fun c13 => ?_) (fun c13 => ?_)
      · have hp := hp.1 c13
        refine lv_iconst (v := 0) hx hb dL_areCopies_293 (by decide) ?_
        refine lv_istore (lv' := [(6, .int (0 : Int32)), (0, .ref b0), (1, .ref (qa 3)), (2, .ref (qa 4)), (3, .int a3), (4, .int a4), (5, .int x5), (7, .int x7), (8, .int x8), (9, .int x9), (10, .int x10), (11, .int x11)]) hx hb dL_areCopies_294 hl (by decide) rfl (fun ls hl => ?_)
        refine lv_iinc (v := x7 + (1 : Int32)) (lv' := [(7, .int (x7 + (1 : Int32))), (6, .int (0 : Int32)), (0, .ref b0), (1, .ref (qa 3)), (2, .ref (qa 4)), (3, .int a3), (4, .int a4), (5, .int x5), (8, .int x8), (9, .int x9), (10, .int x10), (11, .int x11)]) hx hb dL_areCopies_296 hl (k := 7) rfl rfl (by decide) rfl (fun ls hl => ?_)
        refine lv_goto (tgt := 90) hx hb dL_areCopies_299 (by decide) ?_
        rw [eV90] at hp
        exact hp _ (lv_sub hl [2, 3, 4, 5, 6, 7, 1, 0] rfl)
      · have hp := hp.2 c13
        refine lv_iload hx hb dL_areCopies_211 (lv_at hl 8 rfl) ?_
        refine lv_iconst (v := 1) hx hb dL_areCopies_213 (by decide) ?_
        refine lv_icmp_ne (tgt := 221) hx hb dL_areCopies_214 (by decide) (fun c12 => ?_) (fun c12 => ?_)
        · have hp := hp.1 c12
          refine lv_iconst (v := 0) hx hb dL_areCopies_221 (by decide) ?_
          rw [eV222] at hp
          exact hp _ (lv_sub hl [0, 1, 2, 3, 4, 5, 7, 8, 9, 10] rfl)
        · have hp := hp.2 c12
          refine lv_iconst (v := 1) hx hb dL_areCopies_217 (by decide) ?_
          refine lv_goto (tgt := 222) hx hb dL_areCopies_218 (by decide) ?_
          rw [eV222] at hp
          exact hp _ (lv_sub hl [0, 1, 2, 3, 4, 5, 7, 8, 9, 10] rfl)
    · have hp := hp.2 c17
      refine lv_aload_n hx hb dL_areCopies_129 rfl (lv_at hl 0 rfl) ?_
      refine lv_iload hx hb dL_areCopies_130 (lv_at hl 7 rfl) ?_
      refine lv_iload hx hb dL_areCopies_132 (lv_at hl 11 rfl) ?_
      obtain ⟨r14, hr14, hp⟩ := hp
      refine ro_V (As := [.int x7, .int x11]) (rest := []) ⟨hx, hb, hml, hown, hts⟩ (cn_X4_pieces l dC dI cI b0 qh qs qr gh gs gr x7 x11 r14 hr14) (cwV 2 hts gL_areCopies_X4_pieces rfl rfl rfl (by decide +kernel) ⟨Nat.le_of_ble_eq_true rfl, Nat.le_of_ble_eq_true rfl⟩) (tLL hP) hK hN rfl rfl rfl rfl hl.1 (Nat.le_of_ble_eq_true rfl) ⟨Nat.zero_le _, Nat.zero_le _⟩ dL_areCopies_134 ?_
      refine lv_istore (lv' := [(12, .int r14), (0, .ref b0), (1, .ref (qa 3)), (2, .ref (qa 4)), (3, .int a3), (4, .int a4), (5, .int x5), (6, .int x6), (7, .int x7), (8, .int x8), (9, .int x9), (10, .int x10), (11, .int x11)]) hx hb dL_areCopies_137 hl (by decide) rfl (fun ls hl => ?_)
      refine lv_iload hx hb dL_areCopies_139 (lv_at hl 11 rfl) ?_
      refine lv_if_eq (tgt := 164) hx hb dL_areCopies_141 (by decide) (fun c16 => ?_) (fun c16 => ?_)
      · have hp := hp.1 c16
        rw [eV164] at hp
        exact hp _ (lv_sub hl [1, 2, 3, 4, 5, 6, 7, 8, 9, 10, 12, 0] rfl)
      · have hp := hp.2 c16
        refine lv_iload hx hb dL_areCopies_144 (lv_at hl 0 rfl) ?_
        refine lv_aload_n hx hb dL_areCopies_146 rfl (lv_at hl 3 rfl) ?_
        refine lv_iconst (v := 4) hx hb dL_areCopies_147 (by decide) ?_
        refine lv_aload_n hx hb dL_areCopies_148 rfl (lv_at hl 2 rfl) ?_
        refine lv_iload hx hb dL_areCopies_149 (lv_at hl 8 rfl) ?_
        refine va_iald hx hb hK hP 47 0 rfl rfl hp.1 dL_areCopies_151 ?_
        have hp := hp.2
        refine lv_imul hx hb dL_areCopies_152 ?_
        refine lv_iload hx hb dL_areCopies_153 (lv_at hl 12 rfl) ?_
        refine lv_iadd hx hb dL_areCopies_155 ?_
        refine va_iald hx hb hK hP 48 0 rfl rfl hp.1 dL_areCopies_156 ?_
        have hp := hp.2
        refine lv_icmp_ne (tgt := 164) hx hb dL_areCopies_157 (by decide) (fun c15 => ?_) (fun c15 => ?_)
        · have hp := hp.1 c15
          rw [eV164] at hp
          exact hp _ (lv_sub hl [1, 2, 3, 4, 5, 6, 7, 8, 9, 10, 12, 0] rfl)
        · have hp := hp.2 c15
          refine lv_iconst (v := 1) hx hb dL_areCopies_160 (by decide) ?_
          refine lv_goto (tgt := 165) hx hb dL_areCopies_161 (by decide) ?_
          rw [eV165] at hp
          exact hp _ (lv_sub hl [1, 2, 3, 4, 5, 6, 7, 8, 9, 10, 12, 0] rfl))
  have hp := hp (by
    intro x5 x6 x7 x8 x9 x11 x12 hp
    rw [eV164]
    intro ls hl
    refine lv_iconst (v := 0) hx hb dL_areCopies_164 (by decide) ?_
    rw [eV165] at hp
    exact hp _ (lv_sub hl [0, 1, 2, 3, 4, 5, 6, 7, 8, 9, 10, 11] rfl))
  have hp := hp (by
    intro x5 x6 x7 x8 x9 x11 x12 t0 hp
    rw [eV165]
    intro ls hl
    refine lv_istore (lv' := [(10, .int t0), (0, .ref b0), (1, .ref (qa 3)), (2, .ref (qa 4)), (3, .int a3), (4, .int a4), (5, .int x5), (6, .int x6), (7, .int x7), (8, .int x8), (9, .int x9), (11, .int x11), (12, .int x12)]) hx hb dL_areCopies_165 hl (by decide) rfl (fun ls hl => ?_)
    refine lv_iload hx hb dL_areCopies_167 (lv_at hl 7 rfl) ?_
    refine lv_if_eq (tgt := 197) hx hb dL_areCopies_169 (by decide) (fun c22 => ?_) (fun c22 => ?_)
    · have hp := hp.1 c22
      refine lv_iconst (v := 0) hx hb dL_areCopies_197 (by decide) ?_
      refine lv_istore (lv' := [(6, .int (0 : Int32)), (10, .int t0), (0, .ref b0), (1, .ref (qa 3)), (2, .ref (qa 4)), (3, .int a3), (4, .int a4), (5, .int x5), (7, .int x7), (8, .int x8), (9, .int x9), (11, .int x11), (12, .int x12)]) hx hb dL_areCopies_198 hl (by decide) rfl (fun ls hl => ?_)
      refine lv_iinc (v := x11 + (1 : Int32)) (lv' := [(11, .int (x11 + (1 : Int32))), (6, .int (0 : Int32)), (10, .int t0), (0, .ref b0), (1, .ref (qa 3)), (2, .ref (qa 4)), (3, .int a3), (4, .int a4), (5, .int x5), (7, .int x7), (8, .int x8), (9, .int x9), (12, .int x12)]) hx hb dL_areCopies_200 hl (k := 11) rfl rfl (by decide) rfl (fun ls hl => ?_)
      refine lv_goto (tgt := 123) hx hb dL_areCopies_203 (by decide) ?_
      rw [eV123] at hp
      exact hp _ (lv_sub hl [3, 4, 5, 6, 7, 8, 1, 9, 10, 11, 2, 0] rfl)
    · have hp := hp.2 c22
      refine lv_iload hx hb dL_areCopies_172 (lv_at hl 12 rfl) ?_
      refine lv_if_lt (tgt := 197) hx hb dL_areCopies_174 (by decide) (fun c21 => ?_) (fun c21 => ?_)
      · have hp := hp.1 c21
        refine lv_iconst (v := 0) hx hb dL_areCopies_197 (by decide) ?_
        refine lv_istore (lv' := [(6, .int (0 : Int32)), (10, .int t0), (0, .ref b0), (1, .ref (qa 3)), (2, .ref (qa 4)), (3, .int a3), (4, .int a4), (5, .int x5), (7, .int x7), (8, .int x8), (9, .int x9), (11, .int x11), (12, .int x12)]) hx hb dL_areCopies_198 hl (by decide) rfl (fun ls hl => ?_)
        refine lv_iinc (v := x11 + (1 : Int32)) (lv' := [(11, .int (x11 + (1 : Int32))), (6, .int (0 : Int32)), (10, .int t0), (0, .ref b0), (1, .ref (qa 3)), (2, .ref (qa 4)), (3, .int a3), (4, .int a4), (5, .int x5), (7, .int x7), (8, .int x8), (9, .int x9), (12, .int x12)]) hx hb dL_areCopies_200 hl (k := 11) rfl rfl (by decide) rfl (fun ls hl => ?_)
        refine lv_goto (tgt := 123) hx hb dL_areCopies_203 (by decide) ?_
        rw [eV123] at hp
        exact hp _ (lv_sub hl [3, 4, 5, 6, 7, 8, 1, 9, 10, 11, 2, 0] rfl)
      · have hp := hp.2 c21
        refine lv_iload hx hb dL_areCopies_177 (lv_at hl 12 rfl) ?_
        refine lv_aload_n hx hb dL_areCopies_179 rfl (lv_at hl 3 rfl) ?_
        refine lv_iconst (v := 4) hx hb dL_areCopies_180 (by decide) ?_
        refine lv_aload_n hx hb dL_areCopies_181 rfl (lv_at hl 2 rfl) ?_
        refine lv_iload hx hb dL_areCopies_182 (lv_at hl 8 rfl) ?_
        refine va_iald hx hb hK hP 47 0 rfl rfl hp.1 dL_areCopies_184 ?_
        have hp := hp.2
        refine lv_imul hx hb dL_areCopies_185 ?_
        refine lv_iload hx hb dL_areCopies_186 (lv_at hl 11 rfl) ?_
        refine lv_iadd hx hb dL_areCopies_188 ?_
        refine va_iald hx hb hK hP 48 0 rfl rfl hp.1 dL_areCopies_189 ?_
        have hp := hp.2
        refine lv_icmp_gt (tgt := 197) hx hb dL_areCopies_190 (by decide) (fun c20 => ?_) (fun c20 => ?_)
        · have hp := hp.1 c20
          refine lv_iconst (v := 0) hx hb dL_areCopies_197 (by decide) ?_
          refine lv_istore (lv' := [(6, .int (0 : Int32)), (10, .int t0), (0, .ref b0), (1, .ref (qa 3)), (2, .ref (qa 4)), (3, .int a3), (4, .int a4), (5, .int x5), (7, .int x7), (8, .int x8), (9, .int x9), (11, .int x11), (12, .int x12)]) hx hb dL_areCopies_198 hl (by decide) rfl (fun ls hl => ?_)
          refine lv_iinc (v := x11 + (1 : Int32)) (lv' := [(11, .int (x11 + (1 : Int32))), (6, .int (0 : Int32)), (10, .int t0), (0, .ref b0), (1, .ref (qa 3)), (2, .ref (qa 4)), (3, .int a3), (4, .int a4), (5, .int x5), (7, .int x7), (8, .int x8), (9, .int x9), (12, .int x12)]) hx hb dL_areCopies_200 hl (k := 11) rfl rfl (by decide) rfl (fun ls hl => ?_)
          refine lv_goto (tgt := 123) hx hb dL_areCopies_203 (by decide) ?_
          rw [eV123] at hp
          exact hp _ (lv_sub hl [3, 4, 5, 6, 7, 8, 1, 9, 10, 11, 2, 0] rfl)
        · have hp := hp.2 c20
          refine lv_iconst (v := 1) hx hb dL_areCopies_193 (by decide) ?_
          refine lv_goto (tgt := 198) hx hb dL_areCopies_194 (by decide) ?_
          refine lv_istore (lv' := [(6, .int (1 : Int32)), (10, .int t0), (0, .ref b0), (1, .ref (qa 3)), (2, .ref (qa 4)), (3, .int a3), (4, .int a4), (5, .int x5), (7, .int x7), (8, .int x8), (9, .int x9), (11, .int x11), (12, .int x12)]) hx hb dL_areCopies_198 hl (by decide) rfl (fun ls hl => ?_)
          refine lv_iinc (v := x11 + (1 : Int32)) (lv' := [(11, .int (x11 + (1 : Int32))), (6, .int (1 : Int32)), (10, .int t0), (0, .ref b0), (1, .ref (qa 3)), (2, .ref (qa 4)), (3, .int a3), (4, .int a4), (5, .int x5), (7, .int x7), (8, .int x8), (9, .int x9), (12, .int x12)]) hx hb dL_areCopies_200 hl (k := 11) rfl rfl (by decide) rfl (fun ls hl => ?_)
          refine lv_goto (tgt := 123) hx hb dL_areCopies_203 (by decide) ?_
          rw [eV123] at hp
          exact hp _ (lv_sub hl [3, 4, 5, 6, 7, 8, 1, 9, 10, 11, 2, 0] rfl))
  have hp := hp (by
    intro x5 x7 x8 x9 x10 t0 hp
    rw [eV222]
    intro ls hl
    refine lv_iload hx hb dL_areCopies_222 (lv_at hl 5 rfl) ?_
    refine lv_iload hx hb dL_areCopies_224 (lv_at hl 6 rfl) ?_
    refine lv_ishr hx hb dL_areCopies_226 ?_
    refine lv_iconst (v := 1) hx hb dL_areCopies_227 (by decide) ?_
    refine lv_iand hx hb dL_areCopies_228 ?_
    refine lv_iconst (v := 1) hx hb dL_areCopies_229 (by decide) ?_
    refine lv_icmp_ne (tgt := 237) hx hb dL_areCopies_230 (by decide) (fun c19 => ?_) (fun c19 => ?_)
    · have hp := hp.1 c19
      refine lv_iconst (v := 0) hx hb dL_areCopies_237 (by decide) ?_
      rw [eV238] at hp
      exact hp _ (lv_sub hl [0, 1, 2, 3, 4, 5, 6, 7, 8, 9] rfl)
    · have hp := hp.2 c19
      refine lv_iconst (v := 1) hx hb dL_areCopies_233 (by decide) ?_
      refine lv_goto (tgt := 238) hx hb dL_areCopies_234 (by decide) ?_
      rw [eV238] at hp
      exact hp _ (lv_sub hl [0, 1, 2, 3, 4, 5, 6, 7, 8, 9] rfl))
  have hp := hp (by
    intro x5 x7 x8 x9 x10 t0 t1 hp
    rw [eV238]
    intro ls hl
    refine lv_icmp_ne (tgt := 293) hx hb dL_areCopies_238 (by decide) (fun c25 => ?_) (fun c25 => ?_)
    · have hp := hp.1 c25
      refine lv_iconst (v := 0) hx hb dL_areCopies_293 (by decide) ?_
      refine lv_istore (lv' := [(6, .int (0 : Int32)), (0, .ref b0), (1, .ref (qa 3)), (2, .ref (qa 4)), (3, .int a3), (4, .int a4), (5, .int x5), (7, .int x7), (8, .int x8), (9, .int x9), (10, .int x10)]) hx hb dL_areCopies_294 hl (by decide) rfl (fun ls hl => ?_)
      refine lv_iinc (v := x7 + (1 : Int32)) (lv' := [(7, .int (x7 + (1 : Int32))), (6, .int (0 : Int32)), (0, .ref b0), (1, .ref (qa 3)), (2, .ref (qa 4)), (3, .int a3), (4, .int a4), (5, .int x5), (8, .int x8), (9, .int x9), (10, .int x10)]) hx hb dL_areCopies_296 hl (k := 7) rfl rfl (by decide) rfl (fun ls hl => ?_)
      refine lv_goto (tgt := 90) hx hb dL_areCopies_299 (by decide) ?_
      rw [eV90] at hp
      exact hp _ (lv_sub hl [2, 3, 4, 5, 6, 7, 1, 0] rfl)
    · have hp := hp.2 c25
      refine lv_iload hx hb dL_areCopies_241 (lv_at hl 7 rfl) ?_
      refine lv_iconst (v := 1) hx hb dL_areCopies_243 (by decide) ?_
      refine lv_icmp_ne (tgt := 252) hx hb dL_areCopies_244 (by decide) (fun c24 => ?_) (fun c24 => ?_)
      · have hp := hp.1 c24
        rw [eV252] at hp
        exact hp _ (lv_sub hl [0, 1, 2, 3, 4, 5, 6, 7, 8, 9] rfl)
      · have hp := hp.2 c24
        refine lv_iload hx hb dL_areCopies_247 (lv_at hl 9 rfl) ?_
        refine lv_if_eq (tgt := 293) hx hb dL_areCopies_249 (by decide) (fun c23 => ?_) (fun c23 => ?_)
        · have hp := hp.1 c23
          refine lv_iconst (v := 0) hx hb dL_areCopies_293 (by decide) ?_
          refine lv_istore (lv' := [(6, .int (0 : Int32)), (0, .ref b0), (1, .ref (qa 3)), (2, .ref (qa 4)), (3, .int a3), (4, .int a4), (5, .int x5), (7, .int x7), (8, .int x8), (9, .int x9), (10, .int x10)]) hx hb dL_areCopies_294 hl (by decide) rfl (fun ls hl => ?_)
          refine lv_iinc (v := x7 + (1 : Int32)) (lv' := [(7, .int (x7 + (1 : Int32))), (6, .int (0 : Int32)), (0, .ref b0), (1, .ref (qa 3)), (2, .ref (qa 4)), (3, .int a3), (4, .int a4), (5, .int x5), (8, .int x8), (9, .int x9), (10, .int x10)]) hx hb dL_areCopies_296 hl (k := 7) rfl rfl (by decide) rfl (fun ls hl => ?_)
          refine lv_goto (tgt := 90) hx hb dL_areCopies_299 (by decide) ?_
          rw [eV90] at hp
          exact hp _ (lv_sub hl [2, 3, 4, 5, 6, 7, 1, 0] rfl)
        · have hp := hp.2 c23
          rw [eV252] at hp
          exact hp _ (lv_sub hl [0, 1, 2, 3, 4, 5, 6, 7, 8, 9] rfl))
  have hp := hp (by
    intro x5 x7 x8 x9 x10 hp
    rw [eV252]
    intro ls hl
    refine lv_iload hx hb dL_areCopies_252 (lv_at hl 7 rfl) ?_
    refine lv_if_eq (tgt := 263) hx hb dL_areCopies_254 (by decide) (fun c27 => ?_) (fun c27 => ?_)
    · have hp := hp.1 c27
      rw [eV263] at hp
      exact hp _ (lv_sub hl [0, 1, 2, 3, 4, 5, 6, 7, 8, 9] rfl)
    · have hp := hp.2 c27
      refine lv_iload hx hb dL_areCopies_257 (lv_at hl 8 rfl) ?_
      refine lv_iconst (v := -1) hx hb dL_areCopies_259 (by decide) ?_
      refine lv_icmp_ne (tgt := 293) hx hb dL_areCopies_260 (by decide) (fun c26 => ?_) (fun c26 => ?_)
      · have hp := hp.1 c26
        refine lv_iconst (v := 0) hx hb dL_areCopies_293 (by decide) ?_
        refine lv_istore (lv' := [(6, .int (0 : Int32)), (0, .ref b0), (1, .ref (qa 3)), (2, .ref (qa 4)), (3, .int a3), (4, .int a4), (5, .int x5), (7, .int x7), (8, .int x8), (9, .int x9), (10, .int x10)]) hx hb dL_areCopies_294 hl (by decide) rfl (fun ls hl => ?_)
        refine lv_iinc (v := x7 + (1 : Int32)) (lv' := [(7, .int (x7 + (1 : Int32))), (6, .int (0 : Int32)), (0, .ref b0), (1, .ref (qa 3)), (2, .ref (qa 4)), (3, .int a3), (4, .int a4), (5, .int x5), (8, .int x8), (9, .int x9), (10, .int x10)]) hx hb dL_areCopies_296 hl (k := 7) rfl rfl (by decide) rfl (fun ls hl => ?_)
        refine lv_goto (tgt := 90) hx hb dL_areCopies_299 (by decide) ?_
        rw [eV90] at hp
        exact hp _ (lv_sub hl [2, 3, 4, 5, 6, 7, 1, 0] rfl)
      · have hp := hp.2 c26
        rw [eV263] at hp
        exact hp _ (lv_sub hl [0, 1, 2, 3, 4, 5, 6, 7, 8, 9] rfl))
  have hp := hp (by
    intro x5 x7 x8 x9 x10 hp
    rw [eV263]
    intro ls hl
    refine lv_iload hx hb dL_areCopies_263 (lv_at hl 7 rfl) ?_
    refine lv_if_ne (tgt := 283) hx hb dL_areCopies_265 (by decide) (fun c31 => ?_) (fun c31 => ?_)
    · have hp := hp.1 c31
      rw [eV283] at hp
      exact hp _ (lv_sub hl [0, 1, 2, 3, 4, 5, 6, 8] rfl)
    · have hp := hp.2 c31
      refine lv_iload hx hb dL_areCopies_268 (lv_at hl 8 rfl) ?_
      refine lv_if_ne (tgt := 277) hx hb dL_areCopies_270 (by decide) (fun c30 => ?_) (fun c30 => ?_)
      · have hp := hp.1 c30
        refine lv_iconst (v := 0) hx hb dL_areCopies_277 (by decide) ?_
        refine lv_iload hx hb dL_areCopies_278 (lv_at hl 9 rfl) ?_
        refine lv_icmp_ne (tgt := 293) hx hb dL_areCopies_280 (by decide) (fun c28 => ?_) (fun c28 => ?_)
        · have hp := hp.1 c28
          refine lv_iconst (v := 0) hx hb dL_areCopies_293 (by decide) ?_
          refine lv_istore (lv' := [(6, .int (0 : Int32)), (0, .ref b0), (1, .ref (qa 3)), (2, .ref (qa 4)), (3, .int a3), (4, .int a4), (5, .int x5), (7, .int x7), (8, .int x8), (9, .int x9), (10, .int x10)]) hx hb dL_areCopies_294 hl (by decide) rfl (fun ls hl => ?_)
          refine lv_iinc (v := x7 + (1 : Int32)) (lv' := [(7, .int (x7 + (1 : Int32))), (6, .int (0 : Int32)), (0, .ref b0), (1, .ref (qa 3)), (2, .ref (qa 4)), (3, .int a3), (4, .int a4), (5, .int x5), (8, .int x8), (9, .int x9), (10, .int x10)]) hx hb dL_areCopies_296 hl (k := 7) rfl rfl (by decide) rfl (fun ls hl => ?_)
          refine lv_goto (tgt := 90) hx hb dL_areCopies_299 (by decide) ?_
          rw [eV90] at hp
          exact hp _ (lv_sub hl [2, 3, 4, 5, 6, 7, 1, 0] rfl)
        · have hp := hp.2 c28
          rw [eV283] at hp
          exact hp _ (lv_sub hl [0, 1, 2, 3, 4, 5, 6, 8] rfl)
      · have hp := hp.2 c30
        refine lv_iconst (v := 1) hx hb dL_areCopies_273 (by decide) ?_
        refine lv_goto (tgt := 278) hx hb dL_areCopies_274 (by decide) ?_
        refine lv_iload hx hb dL_areCopies_278 (lv_at hl 9 rfl) ?_
        refine lv_icmp_ne (tgt := 293) hx hb dL_areCopies_280 (by decide) (fun c29 => ?_) (fun c29 => ?_)
        · have hp := hp.1 c29
          refine lv_iconst (v := 0) hx hb dL_areCopies_293 (by decide) ?_
          refine lv_istore (lv' := [(6, .int (0 : Int32)), (0, .ref b0), (1, .ref (qa 3)), (2, .ref (qa 4)), (3, .int a3), (4, .int a4), (5, .int x5), (7, .int x7), (8, .int x8), (9, .int x9), (10, .int x10)]) hx hb dL_areCopies_294 hl (by decide) rfl (fun ls hl => ?_)
          refine lv_iinc (v := x7 + (1 : Int32)) (lv' := [(7, .int (x7 + (1 : Int32))), (6, .int (0 : Int32)), (0, .ref b0), (1, .ref (qa 3)), (2, .ref (qa 4)), (3, .int a3), (4, .int a4), (5, .int x5), (8, .int x8), (9, .int x9), (10, .int x10)]) hx hb dL_areCopies_296 hl (k := 7) rfl rfl (by decide) rfl (fun ls hl => ?_)
          refine lv_goto (tgt := 90) hx hb dL_areCopies_299 (by decide) ?_
          rw [eV90] at hp
          exact hp _ (lv_sub hl [2, 3, 4, 5, 6, 7, 1, 0] rfl)
        · have hp := hp.2 c29
          rw [eV283] at hp
          exact hp _ (lv_sub hl [0, 1, 2, 3, 4, 5, 6, 8] rfl))
  have hp := hp (by
    intro x5 x7 x9 hp
    rw [eV283]
    intro ls hl
    refine lv_iload hx hb dL_areCopies_283 (lv_at hl 7 rfl) ?_
    refine lv_iload_n hx hb dL_areCopies_285 rfl (lv_at hl 3 rfl) ?_
    refine lv_icmp_ge (tgt := 293) hx hb dL_areCopies_286 (by decide) (fun c32 => ?_) (fun c32 => ?_)
    · have hp := hp.1 c32
      refine lv_iconst (v := 0) hx hb dL_areCopies_293 (by decide) ?_
      refine lv_istore (lv' := [(6, .int (0 : Int32)), (0, .ref b0), (1, .ref (qa 3)), (2, .ref (qa 4)), (3, .int a3), (4, .int a4), (5, .int x5), (7, .int x7), (9, .int x9)]) hx hb dL_areCopies_294 hl (by decide) rfl (fun ls hl => ?_)
      refine lv_iinc (v := x7 + (1 : Int32)) (lv' := [(7, .int (x7 + (1 : Int32))), (6, .int (0 : Int32)), (0, .ref b0), (1, .ref (qa 3)), (2, .ref (qa 4)), (3, .int a3), (4, .int a4), (5, .int x5), (9, .int x9)]) hx hb dL_areCopies_296 hl (k := 7) rfl rfl (by decide) rfl (fun ls hl => ?_)
      refine lv_goto (tgt := 90) hx hb dL_areCopies_299 (by decide) ?_
      rw [eV90] at hp
      exact hp _ (lv_sub hl [2, 3, 4, 5, 6, 7, 1, 0] rfl)
    · have hp := hp.2 c32
      refine lv_iconst (v := 1) hx hb dL_areCopies_289 (by decide) ?_
      refine lv_goto (tgt := 294) hx hb dL_areCopies_290 (by decide) ?_
      refine lv_istore (lv' := [(6, .int (1 : Int32)), (0, .ref b0), (1, .ref (qa 3)), (2, .ref (qa 4)), (3, .int a3), (4, .int a4), (5, .int x5), (7, .int x7), (9, .int x9)]) hx hb dL_areCopies_294 hl (by decide) rfl (fun ls hl => ?_)
      refine lv_iinc (v := x7 + (1 : Int32)) (lv' := [(7, .int (x7 + (1 : Int32))), (6, .int (1 : Int32)), (0, .ref b0), (1, .ref (qa 3)), (2, .ref (qa 4)), (3, .int a3), (4, .int a4), (5, .int x5), (9, .int x9)]) hx hb dL_areCopies_296 hl (k := 7) rfl rfl (by decide) rfl (fun ls hl => ?_)
      refine lv_goto (tgt := 90) hx hb dL_areCopies_299 (by decide) ?_
      rw [eV90] at hp
      exact hp _ (lv_sub hl [2, 3, 4, 5, 6, 7, 1, 0] rfl))
  refine lv_iconst (v := 0) hx hb dL_areCopies_0 (by decide) ?_
  refine lv_istore (lv' := [(5, .int (0 : Int32)), (0, .ref b0), (1, .ref (qa 3)), (2, .ref (qa 4)), (3, .int a3), (4, .int a4)]) hx hb dL_areCopies_1 hl (by decide) rfl (fun ls hl => ?_)
  refine lv_iconst (v := 1) hx hb dL_areCopies_3 (by decide) ?_
  refine lv_istore (lv' := [(6, .int (1 : Int32)), (5, .int (0 : Int32)), (0, .ref b0), (1, .ref (qa 3)), (2, .ref (qa 4)), (3, .int a3), (4, .int a4)]) hx hb dL_areCopies_4 hl (by decide) rfl (fun ls hl => ?_)
  refine lv_iconst (v := 0) hx hb dL_areCopies_6 (by decide) ?_
  refine lv_istore (lv' := [(7, .int (0 : Int32)), (6, .int (1 : Int32)), (5, .int (0 : Int32)), (0, .ref b0), (1, .ref (qa 3)), (2, .ref (qa 4)), (3, .int a3), (4, .int a4)]) hx hb dL_areCopies_7 hl (by decide) rfl (fun ls hl => ?_)
  rw [eV9] at hp
  exact hp _ (lv_sub hl [3, 4, 5, 6, 7, 2, 1, 0] rfl)
