/-! THE CLASS ITSELF: its world, its parts -/
def wX4 (b0 : Nat) (qh qs qr : Nat → Nat) (cI : ClassId) (gh gs gr : St) : va_W := (b0, .inr (4, [.ref (qh 0), .ref (qs 0), .ref (qr 0)])) :: (wX0 qh cI gh ++ (wX3 qs cI gs ++ wX1 qr cI gr))
theorem va_P_mid {D : va_G} {cl : List vw_C} {H : Heap} {w1 wc w2 : va_W} (h : va_P D cl (w1 ++ (wc ++ w2)) H) : va_P D cl wc H := fun k q hq => h (w1.length + k) q (by
  rw [List.getElem?_append_right (by omega), show w1.length + k - w1.length = k by omega, List.getElem?_append_left (List.getElem?_eq_some_iff.mp hq).1]; exact hq)
theorem w4h (b0 : Nat) (qh qs qr : Nat → Nat) (cI : ClassId) (gh gs gr : St) : wX4 b0 qh qs qr cI gh gs gr = [(b0, .inr (4, [.ref (qh 0), .ref (qs 0), .ref (qr 0)]))] ++ (wX0 qh cI gh ++ (wX3 qs cI gs ++ wX1 qr cI gr)) := rfl
theorem w4s (b0 : Nat) (qh qs qr : Nat → Nat) (cI : ClassId) (gh gs gr : St) : wX4 b0 qh qs qr cI gh gs gr = ((b0, .inr (4, [.ref (qh 0), .ref (qs 0), .ref (qr 0)])) :: wX0 qh cI gh) ++ (wX3 qs cI gs ++ wX1 qr cI gr) := rfl
theorem w4r (b0 : Nat) (qh qs qr : Nat → Nat) (cI : ClassId) (gh gs gr : St) : wX4 b0 qh qs qr cI gh gs gr = ((b0, .inr (4, [.ref (qh 0), .ref (qs 0), .ref (qr 0)])) :: (wX0 qh cI gh ++ wX3 qs cI gs)) ++ (wX1 qr cI gr ++ []) := by
  rw [wX4, List.append_nil, List.cons_append, List.append_assoc]
theorem t4h {D : va_G} {cl : List vw_C} {H : Heap} {b0 : Nat} {qh qs qr : Nat → Nat} {cI : ClassId} {gh gs gr : St} (h : va_P D cl (wX4 b0 qh qs qr cI gh gs gr) H) : va_P D cl (wX0 qh cI gh) H := va_P_mid (by rw [w4h] at h; exact h)
theorem t4s {D : va_G} {cl : List vw_C} {H : Heap} {b0 : Nat} {qh qs qr : Nat → Nat} {cI : ClassId} {gh gs gr : St} (h : va_P D cl (wX4 b0 qh qs qr cI gh gs gr) H) : va_P D cl (wX3 qs cI gs) H := va_P_mid (by rw [w4s] at h; exact h)
theorem t4r {D : va_G} {cl : List vw_C} {H : Heap} {b0 : Nat} {qh qs qr : Nat → Nat} {cI : ClassId} {gh gs gr : St} (h : va_P D cl (wX4 b0 qh qs qr cI gh gs gr) H) : va_P D cl (wX1 qr cI gr) H := va_P_mid (by rw [w4r] at h; exact h)
theorem kX4_pass_0 : (.fieldLink RX4 10 "Meeplehouse" "hall" "LMeeplehouse$Hall;" : Cond) ∈ wsX4_pass := by decide +kernel
theorem iX4_pass_X4 : ∀ w ∈ wsX40, w ∈ wsX4_pass := by decide +kernel
theorem iX4_pass_X0 : ∀ w ∈ wsX00, w ∈ wsX4_pass := by decide +kernel
def P_X4_pass (gh gs gr : St) (a1 : Int32) (ok : Int32 → St → St → St → Prop) (ex : String → Prop) : Prop := ∀ V28 : Int32 → Prop, (∀ t0 : Int32, (((¬ t0 = 0) → (∀ g2 : St, g2 = st_set gh 0 0 ((gh 0 0) + a1) → (ok (g2 0 0) g2 gs gr))) ∧ (¬ (¬ t0 = 0) → (ex E_s))) → V28 t0) → (((¬ a1 < (1 : Int32) ∧ a1 ≤ (500 : Int32)) → (((20000 : Int32) < ((gh 0 0) + a1) → (V28 (0 : Int32))) ∧ (¬ (20000 : Int32) < ((gh 0 0) + a1) → (V28 (1 : Int32))))) ∧ (¬ (¬ a1 < (1 : Int32) ∧ a1 ≤ (500 : Int32)) → (ex E_a)))
set_option maxRecDepth 100000 in
set_option maxHeartbeats 4000000 in
theorem c_X4_pass (l : Launch) (hfl : l.stackTraces = false) (dC : Nat → ClassId) (dI : Nat → Nat → Nat) (cI : ClassId) (b0 : Nat) (qh qs qr : Nat → Nat) (gh gs gr : St) (a1 : Int32) (ok : Int32 → St → St → St → Prop) (ex : String → Prop) (hp : P_X4_pass gh gs gr a1 ok ex) (sz : Nat) : vx_Met l yX4_pass wsX4_pass { frames := 7, cells := 2, slots := 12, locals := 104 } (va_Pc [.ref b0, .int a1] (tpS (dC, dI) vwCl [(cI, .int)] (wX4 b0 qh qs qr cI gh gs gr) sz)) (va_Qi (fun (r : Int32) (u : St × St × St) => ok r u.1 u.2.1 u.2.2) (fun u t => wqB (dC, dI) vwCl (wX4 b0 qh qs qr cI u.1 u.2.1 u.2.2) (va_A (wX4 b0 qh qs qr cI gh gs gr) sz) t) (va_A (wX4 b0 qh qs qr cI gh gs gr) sz)) (vx_X (fun _ : Unit => True) (fun E _ t => ex E ∧ wqB (dC, dI) vwCl (wX4 b0 qh qs qr cI gh gs gr) (va_A (wX4 b0 qh qs qr cI gh gs gr) sz) t) (va_A (wX4 b0 qh qs qr cI gh gs gr) sz)) 2 12 (va_A (wX4 b0 qh qs qr cI gh gs gr) sz) := by
  refine tx_met (fun A => (va_Qi (fun (r : Int32) (u : St × St × St) => ok r u.1 u.2.1 u.2.2) (fun u t => wqB (dC, dI) vwCl (wX4 b0 qh qs qr cI u.1 u.2.1 u.2.2) A t) A)) (fun A => (vx_X (fun _ : Unit => True) (fun E _ t => ex E ∧ wqB (dC, dI) vwCl (wX4 b0 qh qs qr cI gh gs gr) A t) A)) (cc := cX4_pass) (maxL := 2) (ret := (some .int)) (by decide) rfl (Nat.le_of_ble_eq_true rfl) ?_
  intro p e s m below meth c A hx hb hml hr hlk het hts hown hP hK hN hD hA hXS hXH ls hl
  have hS : va_S A s.heap s.heap [] := va_S.rf
  have hl : lv_has ls 2 [(0, .ref b0), (1, .int a1)] := hl
  obtain ⟨V28, eV28⟩ : ∃ V : Int32 → Prop, V = (fun t0 => ∀ (H : Heap) (locs : List Loc) (ls : Array Slot), va_P (dC, dI) vwCl (wX4 b0 qh qs qr cI gh gs gr) H → va_S A s.heap H locs → lv_has ls 2 [(0, .ref b0), (1, .int a1)] → W p l e { frames := 7, cells := 2, slots := 12, locals := 104 } s m ([.ref b0, .int a1] : List Value).toArray below meth c H locs 1 6 (vx_MQ below (va_Qi (fun (r : Int32) (u : St × St × St) => ok r u.1 u.2.1 u.2.2) (fun u t => wqB (dC, dI) vwCl (wX4 b0 qh qs qr cI u.1 u.2.1 u.2.2) A t) A) (vx_X (fun _ : Unit => True) (fun E _ t => ex E ∧ wqB (dC, dI) vwCl (wX4 b0 qh qs qr cI gh gs gr) A t) A) ([.ref b0, .int a1] : List Value).toArray s 2 12 A) (F0 m 28 ls [.int t0])) := ⟨_, rfl⟩
  have hp := hp V28
  have hp := hp (by
    intro t0 hp
    rw [eV28]
    intro H locs ls hP hS hl
    refine tx_S (As := [.int t0]) (rest := []) ⟨hx, hb, hml, hown, hts⟩ (c_X4_checkState l hfl t0 _) (va_cwS 1 hts gX4_pass_X4_checkState rfl rfl rfl (by decide +kernel) ⟨Nat.le_of_ble_eq_true rfl, Nat.le_of_ble_eq_true rfl⟩) hP hS hA hXS hXH het hlk rfl rfl hl.1 (Nat.le_of_ble_eq_true rfl) ⟨Nat.le_of_ble_eq_true rfl, Nat.le_of_ble_eq_true rfl⟩ ⟨Nat.le_of_ble_eq_true rfl, Nat.le_of_ble_eq_true rfl⟩ dX4_pass_28 (fun hno t hPt hFt => ⟨(), trivial, ⟨hp.2 hno, hPt, hD⟩, hFt⟩) (fun hok H locs hP hS => ?_)
    have hp := hp.1 hok
    refine lv_aload_n hx hb dX4_pass_31 rfl (lv_at hl 0 rfl) ?_
    refine va_get (D := (dC, dI)) (ci := 4) (v := .ref (qh 0)) (C := RX4) (T := TX4) (N := 3) hx hb hts iX4_pass_X4 hown hK hP 0 rfl rfl 0 (by decide) (hts _ kX4_pass_0) (fun _ h9 => h9) rfl dX4_pass_32 ?_
    refine lv_dup hx hb dX4_pass_35 rfl ?_
    refine va_getN (D := (dC, dI)) (ci := 0) (v := .int (gh 0 0)) (C := RX0) (T := TX0) (N := 9) (host := RX4) hx hb hts iX4_pass_X0 hown hK (t4h hP) 0 rfl rfl 0 (by decide) (nw_use hN 6 rfl) (fun _ h9 => h9) rfl dX4_pass_36 ?_
    refine lv_iload_n hx hb dX4_pass_39 rfl (lv_at hl 1 rfl) ?_
    refine lv_iadd hx hb dX4_pass_40 ?_
    refine va_putN (D := (dC, dI)) (ci := 0) (v := .int ((gh 0 0) + a1)) (ty := .int) (C := RX0) (T := TX0) (N := 9) (host := RX4) hx hb hts iX4_pass_X0 tyX0 tyX0_ok nmX0 hown hK hP hD hS 1 rfl rfl 0 (by decide) (nw_use hN 6 rfl) (fun _ h9 => h9) rfl (by decide +kernel) rfl rfl (Nat.le_of_ble_eq_true rfl) dX4_pass_41 (fun H locs hP hD hS => ?_)
    obtain ⟨g2, eg2⟩ : ∃ z : St, z = st_set gh 0 0 ((gh 0 0) + a1) := ⟨_, rfl⟩
    have hp := hp g2 eg2
    have hP : va_P (dC, dI) vwCl (wX4 b0 qh qs qr cI g2 gs gr) H := by rw [eg2]; exact hP
    have hD : va_D A (wX4 b0 qh qs qr cI g2 gs gr) := by rw [eg2]; exact hD
    refine lv_aload_n hx hb dX4_pass_44 rfl (lv_at hl 0 rfl) ?_
    refine va_get (D := (dC, dI)) (ci := 4) (v := .ref (qh 0)) (C := RX4) (T := TX4) (N := 3) hx hb hts iX4_pass_X4 hown hK hP 0 rfl rfl 0 (by decide) (hts _ kX4_pass_0) (fun _ h9 => h9) rfl dX4_pass_45 ?_
    refine va_getN (D := (dC, dI)) (ci := 0) (v := .int (g2 0 0)) (C := RX0) (T := TX0) (N := 9) (host := RX4) hx hb hts iX4_pass_X0 hown hK (t4h hP) 0 rfl rfl 0 (by decide) (nw_use hN 6 rfl) (fun _ h9 => h9) rfl dX4_pass_48 ?_
    refine vx_ret (W.widen (k := 2) (n := 12) (Nat.le_of_ble_eq_true rfl) (Nat.le_of_ble_eq_true rfl) ?_)
    exact W.iret hx hb hr (fun t ht _ => ⟨⟨_, (g2, gs, gr), rfl, hp, by rw [ht]; exact hP, hD⟩, hS.F ht⟩) hS.2.2 dX4_pass_51)
  refine lv_iload_n hx hb dX4_pass_0 rfl (lv_at hl 1 rfl) ?_
  refine lv_iconst (v := 1) hx hb dX4_pass_1 (by decide) ?_
  refine lv_sipush (v := 500) hx hb dX4_pass_2 (by decide) ?_
  refine tx_S (As := [.int a1, .int (1 : Int32), .int (500 : Int32)]) (rest := []) ⟨hx, hb, hml, hown, hts⟩ (c_X4_checkRange l hfl a1 (1 : Int32) (500 : Int32) _) (va_cwS 3 hts gX4_pass_X4_checkRange rfl rfl rfl (by decide +kernel) ⟨Nat.le_of_ble_eq_true rfl, Nat.le_of_ble_eq_true rfl⟩) hP hS hA hXS hXH het hlk rfl rfl hl.1 (Nat.le_of_ble_eq_true rfl) ⟨Nat.le_of_ble_eq_true rfl, Nat.le_of_ble_eq_true rfl⟩ ⟨Nat.le_of_ble_eq_true rfl, Nat.le_of_ble_eq_true rfl⟩ dX4_pass_5 (fun hno t hPt hFt => ⟨(), trivial, ⟨hp.2 hno, hPt, hD⟩, hFt⟩) (fun hok H locs hP hS => ?_)
  have hp := hp.1 hok
  refine lv_aload_n hx hb dX4_pass_8 rfl (lv_at hl 0 rfl) ?_
  refine va_get (D := (dC, dI)) (ci := 4) (v := .ref (qh 0)) (C := RX4) (T := TX4) (N := 3) hx hb hts iX4_pass_X4 hown hK hP 0 rfl rfl 0 (by decide) (hts _ kX4_pass_0) (fun _ h9 => h9) rfl dX4_pass_9 ?_
  refine va_getN (D := (dC, dI)) (ci := 0) (v := .int (gh 0 0)) (C := RX0) (T := TX0) (N := 9) (host := RX4) hx hb hts iX4_pass_X0 hown hK (t4h hP) 0 rfl rfl 0 (by decide) (nw_use hN 6 rfl) (fun _ h9 => h9) rfl dX4_pass_12 ?_
  refine lv_iload_n hx hb dX4_pass_15 rfl (lv_at hl 1 rfl) ?_
  refine lv_iadd hx hb dX4_pass_16 ?_
  refine lv_sipush (v := 20000) hx hb dX4_pass_17 (by decide) ?_
  refine lv_icmp_gt (tgt := 27) hx hb dX4_pass_20 (by decide) (fun c1 => ?_) (fun c1 => ?_)
  · have hp := hp.1 c1
    refine lv_iconst (v := 0) hx hb dX4_pass_27 (by decide) ?_
    rw [eV28] at hp
    exact hp _ _ _ hP hS (lv_sub hl [0, 1] rfl)
  · have hp := hp.2 c1
    refine lv_iconst (v := 1) hx hb dX4_pass_23 (by decide) ?_
    refine lv_goto (tgt := 28) hx hb dX4_pass_24 (by decide) ?_
    rw [eV28] at hp
    exact hp _ _ _ hP hS (lv_sub hl [0, 1] rfl)
theorem kX4_now_0 : (.fieldLink RX4 10 "Meeplehouse" "hall" "LMeeplehouse$Hall;" : Cond) ∈ wsX4_now := by decide +kernel
theorem iX4_now_X4 : ∀ w ∈ wsX40, w ∈ wsX4_now := by decide +kernel
theorem iX4_now_X0 : ∀ w ∈ wsX00, w ∈ wsX4_now := by decide +kernel
def P_X4_now (gh gs gr : St) (r : Int32) : Prop := (r = (gh 0 0))
set_option maxRecDepth 100000 in
set_option maxHeartbeats 4000000 in
theorem c_X4_now (l : Launch) (dC : Nat → ClassId) (dI : Nat → Nat → Nat) (cI : ClassId) (b0 : Nat) (qh qs qr : Nat → Nat) (gh gs gr : St) (r : Int32) (hp : P_X4_now gh gs gr r) : Met l yX4_now wsX4_now { frames := 0, cells := 0, slots := 0, locals := 0 } (va_Pc [.ref b0] (rpS (dC, dI) vwCl [(cI, .int)] (wX4 b0 qh qs qr cI gh gs gr))) (QcRead r) 0 0 (fun _ => False) := by
  refine ro_met (cc := cX4_now) (maxL := 1) (ret := (some .int)) (by decide) rfl (Nat.le_of_ble_eq_true rfl) ?_
  intro p e s m below meth c hx hb hml hr hlk hts hown hP hK hN ls hl
  have hl : lv_has ls 1 [(0, .ref b0)] := hl
  unfold P_X4_now at hp
  refine lv_aload_n hx hb dX4_now_0 rfl (lv_at hl 0 rfl) ?_
  refine va_get (D := (dC, dI)) (ci := 4) (v := .ref (qh 0)) (C := RX4) (T := TX4) (N := 3) hx hb hts iX4_now_X4 hown hK hP 0 rfl rfl 0 (by decide) (hts _ kX4_now_0) (fun _ h9 => h9) rfl dX4_now_1 ?_
  refine va_getN (D := (dC, dI)) (ci := 0) (v := .int (gh 0 0)) (C := RX0) (T := TX0) (N := 9) (host := RX4) hx hb hts iX4_now_X0 hown hK (t4h hP) 0 rfl rfl 0 (by decide) (nw_use hN 6 rfl) (fun _ h9 => h9) rfl dX4_now_4 ?_
  exact W.iret hx hb hr (fun t ht _ => ⟨by rw [hp], ht⟩) (fun _ h => nomatch h) dX4_now_7
theorem kX4_addTable_0 : (.fieldLink RX4 10 "Meeplehouse" "hall" "LMeeplehouse$Hall;" : Cond) ∈ wsX4_addTable := by decide +kernel
theorem iX4_addTable_X4 : ∀ w ∈ wsX40, w ∈ wsX4_addTable := by decide +kernel
theorem iX4_addTable_X0 : ∀ w ∈ wsX00, w ∈ wsX4_addTable := by decide +kernel
def P_X4_addTable (gh gs gr : St) (a1 : Int32) (ok : Int32 → St → St → St → Prop) (ex : String → Prop) : Prop := (((¬ a1 < (2 : Int32) ∧ a1 ≤ (6 : Int32)) → (((10 : Int32) ≤ (gh 0 1) → (((¬ (0 : Int32) = 0) → (∃ (r1 : Int32) (g2 : St), P_X0_putTable gh a1 r1 g2 ∧ (ok r1 g2 gs gr))) ∧ (¬ (¬ (0 : Int32) = 0) → (ex E_s)))) ∧ (¬ (10 : Int32) ≤ (gh 0 1) → (((¬ (1 : Int32) = 0) → (∃ (r3 : Int32) (g4 : St), P_X0_putTable gh a1 r3 g4 ∧ (ok r3 g4 gs gr))) ∧ (¬ (¬ (1 : Int32) = 0) → (ex E_s)))))) ∧ (¬ (¬ a1 < (2 : Int32) ∧ a1 ≤ (6 : Int32)) → (ex E_a)))
set_option maxRecDepth 100000 in
set_option maxHeartbeats 4000000 in
theorem c_X4_addTable (l : Launch) (hfl : l.stackTraces = false) (dC : Nat → ClassId) (dI : Nat → Nat → Nat) (cI : ClassId) (b0 : Nat) (qh qs qr : Nat → Nat) (gh gs gr : St) (a1 : Int32) (ok : Int32 → St → St → St → Prop) (ex : String → Prop) (hp : P_X4_addTable gh gs gr a1 ok ex) (sz : Nat) : vx_Met l yX4_addTable wsX4_addTable { frames := 7, cells := 2, slots := 12, locals := 104 } (va_Pc [.ref b0, .int a1] (tpS (dC, dI) vwCl [(cI, .int)] (wX4 b0 qh qs qr cI gh gs gr) sz)) (va_Qi (fun (r : Int32) (u : St × St × St) => ok r u.1 u.2.1 u.2.2) (fun u t => wqB (dC, dI) vwCl (wX4 b0 qh qs qr cI u.1 u.2.1 u.2.2) (va_A (wX4 b0 qh qs qr cI gh gs gr) sz) t) (va_A (wX4 b0 qh qs qr cI gh gs gr) sz)) (vx_X (fun _ : Unit => True) (fun E _ t => ex E ∧ wqB (dC, dI) vwCl (wX4 b0 qh qs qr cI gh gs gr) (va_A (wX4 b0 qh qs qr cI gh gs gr) sz) t) (va_A (wX4 b0 qh qs qr cI gh gs gr) sz)) 2 12 (va_A (wX4 b0 qh qs qr cI gh gs gr) sz) := by
  refine tx_met (fun A => (va_Qi (fun (r : Int32) (u : St × St × St) => ok r u.1 u.2.1 u.2.2) (fun u t => wqB (dC, dI) vwCl (wX4 b0 qh qs qr cI u.1 u.2.1 u.2.2) A t) A)) (fun A => (vx_X (fun _ : Unit => True) (fun E _ t => ex E ∧ wqB (dC, dI) vwCl (wX4 b0 qh qs qr cI gh gs gr) A t) A)) (cc := cX4_addTable) (maxL := 2) (ret := (some .int)) (by decide) rfl (Nat.le_of_ble_eq_true rfl) ?_
  intro p e s m below meth c A hx hb hml hr hlk het hts hown hP hK hN hD hA hXS hXH ls hl
  have hS : va_S A s.heap s.heap [] := va_S.rf
  have hl : lv_has ls 2 [(0, .ref b0), (1, .int a1)] := hl
  unfold P_X4_addTable at hp
  refine lv_iload_n hx hb dX4_addTable_0 rfl (lv_at hl 1 rfl) ?_
  refine lv_iconst (v := 2) hx hb dX4_addTable_1 (by decide) ?_
  refine lv_bipush (v := 6) hx hb dX4_addTable_2 (by decide) ?_
  refine tx_S (As := [.int a1, .int (2 : Int32), .int (6 : Int32)]) (rest := []) ⟨hx, hb, hml, hown, hts⟩ (c_X4_checkRange l hfl a1 (2 : Int32) (6 : Int32) _) (va_cwS 3 hts gX4_addTable_X4_checkRange rfl rfl rfl (by decide +kernel) ⟨Nat.le_of_ble_eq_true rfl, Nat.le_of_ble_eq_true rfl⟩) hP hS hA hXS hXH het hlk rfl rfl hl.1 (Nat.le_of_ble_eq_true rfl) ⟨Nat.le_of_ble_eq_true rfl, Nat.le_of_ble_eq_true rfl⟩ ⟨Nat.le_of_ble_eq_true rfl, Nat.le_of_ble_eq_true rfl⟩ dX4_addTable_4 (fun hno t hPt hFt => ⟨(), trivial, ⟨hp.2 hno, hPt, hD⟩, hFt⟩) (fun hok H locs hP hS => ?_)
  have hp := hp.1 hok
  refine lv_aload_n hx hb dX4_addTable_7 rfl (lv_at hl 0 rfl) ?_
  refine va_get (D := (dC, dI)) (ci := 4) (v := .ref (qh 0)) (C := RX4) (T := TX4) (N := 3) hx hb hts iX4_addTable_X4 hown hK hP 0 rfl rfl 0 (by decide) (hts _ kX4_addTable_0) (fun _ h9 => h9) rfl dX4_addTable_8 ?_
  refine va_getN (D := (dC, dI)) (ci := 0) (v := .int (gh 0 1)) (C := RX0) (T := TX0) (N := 9) (host := RX4) hx hb hts iX4_addTable_X0 hown hK (t4h hP) 0 rfl rfl 1 (by decide) (nw_use hN 7 rfl) (fun _ h9 => h9) rfl dX4_addTable_11 ?_
  refine lv_bipush (v := 10) hx hb dX4_addTable_14 (by decide) ?_
  refine lv_icmp_ge (tgt := 23) hx hb dX4_addTable_16 (by decide) (fun c5 => ?_) (fun c5 => ?_)
  · have hp := hp.1 c5
    refine lv_iconst (v := 0) hx hb dX4_addTable_23 (by decide) ?_
    refine tx_S (As := [.int (0 : Int32)]) (rest := []) ⟨hx, hb, hml, hown, hts⟩ (c_X4_checkState l hfl (0 : Int32) _) (va_cwS 1 hts gX4_addTable_X4_checkState rfl rfl rfl (by decide +kernel) ⟨Nat.le_of_ble_eq_true rfl, Nat.le_of_ble_eq_true rfl⟩) hP hS hA hXS hXH het hlk rfl rfl hl.1 (Nat.le_of_ble_eq_true rfl) ⟨Nat.le_of_ble_eq_true rfl, Nat.le_of_ble_eq_true rfl⟩ ⟨Nat.le_of_ble_eq_true rfl, Nat.le_of_ble_eq_true rfl⟩ dX4_addTable_24 (fun hno t hPt hFt => ⟨(), trivial, ⟨hp.2 hno, hPt, hD⟩, hFt⟩) (fun hok H locs hP hS => ?_)
    have hp := hp.1 hok
    refine lv_aload_n hx hb dX4_addTable_27 rfl (lv_at hl 0 rfl) ?_
    refine va_get (D := (dC, dI)) (ci := 4) (v := .ref (qh 0)) (C := RX4) (T := TX4) (N := 3) hx hb hts iX4_addTable_X4 hown hK hP 0 rfl rfl 0 (by decide) (hts _ kX4_addTable_0) (fun _ h9 => h9) rfl dX4_addTable_28 ?_
    refine lv_iload_n hx hb dX4_addTable_31 rfl (lv_at hl 1 rfl) ?_
    obtain ⟨r1, g2, hg2, hp⟩ := hp
    refine wr_Vi (As := [.int a1]) (rest := []) (ws1 := wX4 b0 qh qs qr cI g2 gs gr) ⟨hx, hb, hml, hown, hts⟩ (c_X0_putTable l dC dI cI qh gh a1 r1 g2 hg2 _) (cwV 1 hts gX4_addTable_X0_putTable rfl rfl rfl (by decide +kernel) ⟨Nat.le_of_ble_eq_true rfl, Nat.le_of_ble_eq_true rfl⟩) hP hD hS hA hK hN (w4h b0 qh qs qr cI gh gs gr) (w4h b0 qh qs qr cI g2 gs gr).symm rfl rfl rfl rfl hl.1 (Nat.le_of_ble_eq_true rfl) ⟨Nat.le_of_ble_eq_true rfl, Nat.le_of_ble_eq_true rfl⟩ dX4_addTable_32 (fun H locs hP hD hS => ?_)
    refine vx_ret (W.widen (k := 2) (n := 12) (Nat.le_of_ble_eq_true rfl) (Nat.le_of_ble_eq_true rfl) ?_)
    exact W.iret hx hb hr (fun t ht _ => ⟨⟨_, (g2, gs, gr), rfl, hp, by rw [ht]; exact hP, hD⟩, hS.F ht⟩) hS.2.2 dX4_addTable_35
  · have hp := hp.2 c5
    refine lv_iconst (v := 1) hx hb dX4_addTable_19 (by decide) ?_
    refine lv_goto (tgt := 24) hx hb dX4_addTable_20 (by decide) ?_
    refine tx_S (As := [.int (1 : Int32)]) (rest := []) ⟨hx, hb, hml, hown, hts⟩ (c_X4_checkState l hfl (1 : Int32) _) (va_cwS 1 hts gX4_addTable_X4_checkState rfl rfl rfl (by decide +kernel) ⟨Nat.le_of_ble_eq_true rfl, Nat.le_of_ble_eq_true rfl⟩) hP hS hA hXS hXH het hlk rfl rfl hl.1 (Nat.le_of_ble_eq_true rfl) ⟨Nat.le_of_ble_eq_true rfl, Nat.le_of_ble_eq_true rfl⟩ ⟨Nat.le_of_ble_eq_true rfl, Nat.le_of_ble_eq_true rfl⟩ dX4_addTable_24 (fun hno t hPt hFt => ⟨(), trivial, ⟨hp.2 hno, hPt, hD⟩, hFt⟩) (fun hok H locs hP hS => ?_)
    have hp := hp.1 hok
    refine lv_aload_n hx hb dX4_addTable_27 rfl (lv_at hl 0 rfl) ?_
    refine va_get (D := (dC, dI)) (ci := 4) (v := .ref (qh 0)) (C := RX4) (T := TX4) (N := 3) hx hb hts iX4_addTable_X4 hown hK hP 0 rfl rfl 0 (by decide) (hts _ kX4_addTable_0) (fun _ h9 => h9) rfl dX4_addTable_28 ?_
    refine lv_iload_n hx hb dX4_addTable_31 rfl (lv_at hl 1 rfl) ?_
    obtain ⟨r3, g4, hg4, hp⟩ := hp
    refine wr_Vi (As := [.int a1]) (rest := []) (ws1 := wX4 b0 qh qs qr cI g4 gs gr) ⟨hx, hb, hml, hown, hts⟩ (c_X0_putTable l dC dI cI qh gh a1 r3 g4 hg4 _) (cwV 1 hts gX4_addTable_X0_putTable rfl rfl rfl (by decide +kernel) ⟨Nat.le_of_ble_eq_true rfl, Nat.le_of_ble_eq_true rfl⟩) hP hD hS hA hK hN (w4h b0 qh qs qr cI gh gs gr) (w4h b0 qh qs qr cI g4 gs gr).symm rfl rfl rfl rfl hl.1 (Nat.le_of_ble_eq_true rfl) ⟨Nat.le_of_ble_eq_true rfl, Nat.le_of_ble_eq_true rfl⟩ dX4_addTable_32 (fun H locs hP hD hS => ?_)
    refine vx_ret (W.widen (k := 2) (n := 12) (Nat.le_of_ble_eq_true rfl) (Nat.le_of_ble_eq_true rfl) ?_)
    exact W.iret hx hb hr (fun t ht _ => ⟨⟨_, (g4, gs, gr), rfl, hp, by rw [ht]; exact hP, hD⟩, hS.F ht⟩) hS.2.2 dX4_addTable_35
theorem kX4_addTitle_0 : (.fieldLink RX4 19 "Meeplehouse" "shelf" "LMeeplehouse$Shelf;" : Cond) ∈ wsX4_addTitle := by decide +kernel
theorem iX4_addTitle_X4 : ∀ w ∈ wsX40, w ∈ wsX4_addTitle := by decide +kernel
theorem iX4_addTitle_X3 : ∀ w ∈ wsX30, w ∈ wsX4_addTitle := by decide +kernel
def P_X4_addTitle (gh gs gr : St) (a1 : Int32) (a2 : Int32) (a3 : Int32) (a4 : Int32) (a5 : Int32) (a6 : Int32) (a7 : Int32) (ok : Int32 → St → St → St → Prop) (ex : String → Prop) : Prop := ∀ V71 : Int32 → Prop, (∀ t0 : Int32, (((¬ t0 = 0) → (∃ (r2 : Int32) (g3 : St), P_X3_putTitle gs a1 a2 a3 r2 g3 ∧ (∃ g5 : St, P_X3_setFull g3 r2 (0 : Int32) a4 g5 ∧ (∃ g7 : St, P_X3_setFull g5 r2 (1 : Int32) a5 g7 ∧ (∃ g9 : St, P_X3_setFull g7 r2 (2 : Int32) a6 g9 ∧ (∃ g11 : St, P_X3_setFull g9 r2 (3 : Int32) a7 g11 ∧ (ok r2 gh g11 gr))))))) ∧ (¬ (¬ t0 = 0) → (ex E_s))) → V71 t0) → (((¬ a1 < (1 : Int32) ∧ a1 ≤ (12 : Int32)) → (((¬ a2 < a1 ∧ a2 ≤ (12 : Int32)) → (((¬ a3 < (5 : Int32) ∧ a3 ≤ (300 : Int32)) → (((¬ a4 < (0 : Int32) ∧ a4 ≤ (9 : Int32)) → (((¬ a5 < (0 : Int32) ∧ a5 ≤ (9 : Int32)) → (((¬ a6 < (0 : Int32) ∧ a6 ≤ (9 : Int32)) → (((¬ a7 < (0 : Int32) ∧ a7 ≤ (9 : Int32)) → (((8 : Int32) ≤ (gs 0 0) → (V71 (0 : Int32))) ∧ (¬ (8 : Int32) ≤ (gs 0 0) → (V71 (1 : Int32))))) ∧ (¬ (¬ a7 < (0 : Int32) ∧ a7 ≤ (9 : Int32)) → (ex E_a)))) ∧ (¬ (¬ a6 < (0 : Int32) ∧ a6 ≤ (9 : Int32)) → (ex E_a)))) ∧ (¬ (¬ a5 < (0 : Int32) ∧ a5 ≤ (9 : Int32)) → (ex E_a)))) ∧ (¬ (¬ a4 < (0 : Int32) ∧ a4 ≤ (9 : Int32)) → (ex E_a)))) ∧ (¬ (¬ a3 < (5 : Int32) ∧ a3 ≤ (300 : Int32)) → (ex E_a)))) ∧ (¬ (¬ a2 < a1 ∧ a2 ≤ (12 : Int32)) → (ex E_a)))) ∧ (¬ (¬ a1 < (1 : Int32) ∧ a1 ≤ (12 : Int32)) → (ex E_a)))
set_option maxRecDepth 100000 in
set_option maxHeartbeats 4000000 in
theorem c_X4_addTitle (l : Launch) (hfl : l.stackTraces = false) (dC : Nat → ClassId) (dI : Nat → Nat → Nat) (cI : ClassId) (b0 : Nat) (qh qs qr : Nat → Nat) (gh gs gr : St) (a1 : Int32) (a2 : Int32) (a3 : Int32) (a4 : Int32) (a5 : Int32) (a6 : Int32) (a7 : Int32) (ok : Int32 → St → St → St → Prop) (ex : String → Prop) (hp : P_X4_addTitle gh gs gr a1 a2 a3 a4 a5 a6 a7 ok ex) (sz : Nat) : vx_Met l yX4_addTitle wsX4_addTitle { frames := 7, cells := 8, slots := 48, locals := 104 } (va_Pc [.ref b0, .int a1, .int a2, .int a3, .int a4, .int a5, .int a6, .int a7] (tpS (dC, dI) vwCl [(cI, .int)] (wX4 b0 qh qs qr cI gh gs gr) sz)) (va_Qi (fun (r : Int32) (u : St × St × St) => ok r u.1 u.2.1 u.2.2) (fun u t => wqB (dC, dI) vwCl (wX4 b0 qh qs qr cI u.1 u.2.1 u.2.2) (va_A (wX4 b0 qh qs qr cI gh gs gr) sz) t) (va_A (wX4 b0 qh qs qr cI gh gs gr) sz)) (vx_X (fun _ : Unit => True) (fun E _ t => ex E ∧ wqB (dC, dI) vwCl (wX4 b0 qh qs qr cI gh gs gr) (va_A (wX4 b0 qh qs qr cI gh gs gr) sz) t) (va_A (wX4 b0 qh qs qr cI gh gs gr) sz)) 8 48 (va_A (wX4 b0 qh qs qr cI gh gs gr) sz) := by
  refine tx_met (fun A => (va_Qi (fun (r : Int32) (u : St × St × St) => ok r u.1 u.2.1 u.2.2) (fun u t => wqB (dC, dI) vwCl (wX4 b0 qh qs qr cI u.1 u.2.1 u.2.2) A t) A)) (fun A => (vx_X (fun _ : Unit => True) (fun E _ t => ex E ∧ wqB (dC, dI) vwCl (wX4 b0 qh qs qr cI gh gs gr) A t) A)) (cc := cX4_addTitle) (maxL := 9) (ret := (some .int)) (by decide) rfl (Nat.le_of_ble_eq_true rfl) ?_
  intro p e s m below meth c A hx hb hml hr hlk het hts hown hP hK hN hD hA hXS hXH ls hl
  have hS : va_S A s.heap s.heap [] := va_S.rf
  have hl : lv_has ls 9 [(0, .ref b0), (1, .int a1), (2, .int a2), (3, .int a3), (4, .int a4), (5, .int a5), (6, .int a6), (7, .int a7)] := hl
  obtain ⟨V71, eV71⟩ : ∃ V : Int32 → Prop, V = (fun t0 => ∀ (H : Heap) (locs : List Loc) (ls : Array Slot), va_P (dC, dI) vwCl (wX4 b0 qh qs qr cI gh gs gr) H → va_S A s.heap H locs → lv_has ls 9 [(0, .ref b0), (1, .int a1), (2, .int a2), (3, .int a3), (4, .int a4), (5, .int a5), (6, .int a6), (7, .int a7)] → W p l e { frames := 7, cells := 8, slots := 48, locals := 104 } s m ([.ref b0, .int a1, .int a2, .int a3, .int a4, .int a5, .int a6, .int a7] : List Value).toArray below meth c H locs 7 42 (vx_MQ below (va_Qi (fun (r : Int32) (u : St × St × St) => ok r u.1 u.2.1 u.2.2) (fun u t => wqB (dC, dI) vwCl (wX4 b0 qh qs qr cI u.1 u.2.1 u.2.2) A t) A) (vx_X (fun _ : Unit => True) (fun E _ t => ex E ∧ wqB (dC, dI) vwCl (wX4 b0 qh qs qr cI gh gs gr) A t) A) ([.ref b0, .int a1, .int a2, .int a3, .int a4, .int a5, .int a6, .int a7] : List Value).toArray s 8 48 A) (F0 m 71 ls [.int t0])) := ⟨_, rfl⟩
  have hp := hp V71
  have hp := hp (by
    intro t0 hp
    rw [eV71]
    intro H locs ls hP hS hl
    refine tx_S (As := [.int t0]) (rest := []) ⟨hx, hb, hml, hown, hts⟩ (c_X4_checkState l hfl t0 _) (va_cwS 1 hts gX4_addTitle_X4_checkState rfl rfl rfl (by decide +kernel) ⟨Nat.le_of_ble_eq_true rfl, Nat.le_of_ble_eq_true rfl⟩) hP hS hA hXS hXH het hlk rfl rfl hl.1 (Nat.le_of_ble_eq_true rfl) ⟨Nat.le_of_ble_eq_true rfl, Nat.le_of_ble_eq_true rfl⟩ ⟨Nat.le_of_ble_eq_true rfl, Nat.le_of_ble_eq_true rfl⟩ dX4_addTitle_71 (fun hno t hPt hFt => ⟨(), trivial, ⟨hp.2 hno, hPt, hD⟩, hFt⟩) (fun hok H locs hP hS => ?_)
    have hp := hp.1 hok
    refine lv_aload_n hx hb dX4_addTitle_74 rfl (lv_at hl 0 rfl) ?_
    refine va_get (D := (dC, dI)) (ci := 4) (v := .ref (qs 0)) (C := RX4) (T := TX4) (N := 3) hx hb hts iX4_addTitle_X4 hown hK hP 0 rfl rfl 1 (by decide) (hts _ kX4_addTitle_0) (fun _ h9 => h9) rfl dX4_addTitle_75 ?_
    refine lv_iload_n hx hb dX4_addTitle_78 rfl (lv_at hl 1 rfl) ?_
    refine lv_iload_n hx hb dX4_addTitle_79 rfl (lv_at hl 2 rfl) ?_
    refine lv_iload_n hx hb dX4_addTitle_80 rfl (lv_at hl 3 rfl) ?_
    obtain ⟨r2, g3, hg3, hp⟩ := hp
    refine wr_Vi (As := [.int a1, .int a2, .int a3]) (rest := []) (ws1 := wX4 b0 qh qs qr cI gh g3 gr) ⟨hx, hb, hml, hown, hts⟩ (c_X3_putTitle l dC dI cI qs gs a1 a2 a3 r2 g3 hg3 _) (cwV 3 hts gX4_addTitle_X3_putTitle rfl rfl rfl (by decide +kernel) ⟨Nat.le_of_ble_eq_true rfl, Nat.le_of_ble_eq_true rfl⟩) hP hD hS hA hK hN (w4s b0 qh qs qr cI gh gs gr) (w4s b0 qh qs qr cI gh g3 gr).symm rfl rfl rfl rfl hl.1 (Nat.le_of_ble_eq_true rfl) ⟨Nat.le_of_ble_eq_true rfl, Nat.le_of_ble_eq_true rfl⟩ dX4_addTitle_81 (fun H locs hP hD hS => ?_)
    refine lv_istore (lv' := [(8, .int r2), (0, .ref b0), (1, .int a1), (2, .int a2), (3, .int a3), (4, .int a4), (5, .int a5), (6, .int a6), (7, .int a7)]) hx hb dX4_addTitle_84 hl (by decide) rfl (fun ls hl => ?_)
    refine lv_aload_n hx hb dX4_addTitle_86 rfl (lv_at hl 1 rfl) ?_
    refine va_get (D := (dC, dI)) (ci := 4) (v := .ref (qs 0)) (C := RX4) (T := TX4) (N := 3) hx hb hts iX4_addTitle_X4 hown hK hP 0 rfl rfl 1 (by decide) (hts _ kX4_addTitle_0) (fun _ h9 => h9) rfl dX4_addTitle_87 ?_
    refine lv_iload hx hb dX4_addTitle_90 (lv_at hl 0 rfl) ?_
    refine lv_iconst (v := 0) hx hb dX4_addTitle_92 (by decide) ?_
    refine lv_iload hx hb dX4_addTitle_93 (lv_at hl 5 rfl) ?_
    obtain ⟨g5, hg5, hp⟩ := hp
    refine wr_Vv (As := [.int r2, .int (0 : Int32), .int a4]) (rest := []) (ws1 := wX4 b0 qh qs qr cI gh g5 gr) ⟨hx, hb, hml, hown, hts⟩ (c_X3_setFull l dC dI cI qs g3 r2 (0 : Int32) a4 g5 hg5 _) (cwV 3 hts gX4_addTitle_X3_setFull rfl rfl rfl (by decide +kernel) ⟨Nat.le_of_ble_eq_true rfl, Nat.le_of_ble_eq_true rfl⟩) hP hD hS hA hK hN (w4s b0 qh qs qr cI gh g3 gr) (w4s b0 qh qs qr cI gh g5 gr).symm rfl rfl rfl rfl hl.1 (Nat.le_of_ble_eq_true rfl) ⟨Nat.le_of_ble_eq_true rfl, Nat.le_of_ble_eq_true rfl⟩ dX4_addTitle_95 (fun H locs hP hD hS => ?_)
    refine lv_aload_n hx hb dX4_addTitle_98 rfl (lv_at hl 1 rfl) ?_
    refine va_get (D := (dC, dI)) (ci := 4) (v := .ref (qs 0)) (C := RX4) (T := TX4) (N := 3) hx hb hts iX4_addTitle_X4 hown hK hP 0 rfl rfl 1 (by decide) (hts _ kX4_addTitle_0) (fun _ h9 => h9) rfl dX4_addTitle_99 ?_
    refine lv_iload hx hb dX4_addTitle_102 (lv_at hl 0 rfl) ?_
    refine lv_iconst (v := 1) hx hb dX4_addTitle_104 (by decide) ?_
    refine lv_iload hx hb dX4_addTitle_105 (lv_at hl 6 rfl) ?_
    obtain ⟨g7, hg7, hp⟩ := hp
    refine wr_Vv (As := [.int r2, .int (1 : Int32), .int a5]) (rest := []) (ws1 := wX4 b0 qh qs qr cI gh g7 gr) ⟨hx, hb, hml, hown, hts⟩ (c_X3_setFull l dC dI cI qs g5 r2 (1 : Int32) a5 g7 hg7 _) (cwV 3 hts gX4_addTitle_X3_setFull rfl rfl rfl (by decide +kernel) ⟨Nat.le_of_ble_eq_true rfl, Nat.le_of_ble_eq_true rfl⟩) hP hD hS hA hK hN (w4s b0 qh qs qr cI gh g5 gr) (w4s b0 qh qs qr cI gh g7 gr).symm rfl rfl rfl rfl hl.1 (Nat.le_of_ble_eq_true rfl) ⟨Nat.le_of_ble_eq_true rfl, Nat.le_of_ble_eq_true rfl⟩ dX4_addTitle_107 (fun H locs hP hD hS => ?_)
    refine lv_aload_n hx hb dX4_addTitle_110 rfl (lv_at hl 1 rfl) ?_
    refine va_get (D := (dC, dI)) (ci := 4) (v := .ref (qs 0)) (C := RX4) (T := TX4) (N := 3) hx hb hts iX4_addTitle_X4 hown hK hP 0 rfl rfl 1 (by decide) (hts _ kX4_addTitle_0) (fun _ h9 => h9) rfl dX4_addTitle_111 ?_
    refine lv_iload hx hb dX4_addTitle_114 (lv_at hl 0 rfl) ?_
    refine lv_iconst (v := 2) hx hb dX4_addTitle_116 (by decide) ?_
    refine lv_iload hx hb dX4_addTitle_117 (lv_at hl 7 rfl) ?_
    obtain ⟨g9, hg9, hp⟩ := hp
    refine wr_Vv (As := [.int r2, .int (2 : Int32), .int a6]) (rest := []) (ws1 := wX4 b0 qh qs qr cI gh g9 gr) ⟨hx, hb, hml, hown, hts⟩ (c_X3_setFull l dC dI cI qs g7 r2 (2 : Int32) a6 g9 hg9 _) (cwV 3 hts gX4_addTitle_X3_setFull rfl rfl rfl (by decide +kernel) ⟨Nat.le_of_ble_eq_true rfl, Nat.le_of_ble_eq_true rfl⟩) hP hD hS hA hK hN (w4s b0 qh qs qr cI gh g7 gr) (w4s b0 qh qs qr cI gh g9 gr).symm rfl rfl rfl rfl hl.1 (Nat.le_of_ble_eq_true rfl) ⟨Nat.le_of_ble_eq_true rfl, Nat.le_of_ble_eq_true rfl⟩ dX4_addTitle_119 (fun H locs hP hD hS => ?_)
    refine lv_aload_n hx hb dX4_addTitle_122 rfl (lv_at hl 1 rfl) ?_
    refine va_get (D := (dC, dI)) (ci := 4) (v := .ref (qs 0)) (C := RX4) (T := TX4) (N := 3) hx hb hts iX4_addTitle_X4 hown hK hP 0 rfl rfl 1 (by decide) (hts _ kX4_addTitle_0) (fun _ h9 => h9) rfl dX4_addTitle_123 ?_
    refine lv_iload hx hb dX4_addTitle_126 (lv_at hl 0 rfl) ?_
    refine lv_iconst (v := 3) hx hb dX4_addTitle_128 (by decide) ?_
    refine lv_iload hx hb dX4_addTitle_129 (lv_at hl 8 rfl) ?_
    obtain ⟨g11, hg11, hp⟩ := hp
    refine wr_Vv (As := [.int r2, .int (3 : Int32), .int a7]) (rest := []) (ws1 := wX4 b0 qh qs qr cI gh g11 gr) ⟨hx, hb, hml, hown, hts⟩ (c_X3_setFull l dC dI cI qs g9 r2 (3 : Int32) a7 g11 hg11 _) (cwV 3 hts gX4_addTitle_X3_setFull rfl rfl rfl (by decide +kernel) ⟨Nat.le_of_ble_eq_true rfl, Nat.le_of_ble_eq_true rfl⟩) hP hD hS hA hK hN (w4s b0 qh qs qr cI gh g9 gr) (w4s b0 qh qs qr cI gh g11 gr).symm rfl rfl rfl rfl hl.1 (Nat.le_of_ble_eq_true rfl) ⟨Nat.le_of_ble_eq_true rfl, Nat.le_of_ble_eq_true rfl⟩ dX4_addTitle_131 (fun H locs hP hD hS => ?_)
    refine lv_iload hx hb dX4_addTitle_134 (lv_at hl 0 rfl) ?_
    refine vx_ret (W.widen (k := 8) (n := 48) (Nat.le_of_ble_eq_true rfl) (Nat.le_of_ble_eq_true rfl) ?_)
    exact W.iret hx hb hr (fun t ht _ => ⟨⟨_, (gh, g11, gr), rfl, hp, by rw [ht]; exact hP, hD⟩, hS.F ht⟩) hS.2.2 dX4_addTitle_136)
  refine lv_iload_n hx hb dX4_addTitle_0 rfl (lv_at hl 1 rfl) ?_
  refine lv_iconst (v := 1) hx hb dX4_addTitle_1 (by decide) ?_
  refine lv_bipush (v := 12) hx hb dX4_addTitle_2 (by decide) ?_
  refine tx_S (As := [.int a1, .int (1 : Int32), .int (12 : Int32)]) (rest := []) ⟨hx, hb, hml, hown, hts⟩ (c_X4_checkRange l hfl a1 (1 : Int32) (12 : Int32) _) (va_cwS 3 hts gX4_addTitle_X4_checkRange rfl rfl rfl (by decide +kernel) ⟨Nat.le_of_ble_eq_true rfl, Nat.le_of_ble_eq_true rfl⟩) hP hS hA hXS hXH het hlk rfl rfl hl.1 (Nat.le_of_ble_eq_true rfl) ⟨Nat.le_of_ble_eq_true rfl, Nat.le_of_ble_eq_true rfl⟩ ⟨Nat.le_of_ble_eq_true rfl, Nat.le_of_ble_eq_true rfl⟩ dX4_addTitle_4 (fun hno t hPt hFt => ⟨(), trivial, ⟨hp.2 hno, hPt, hD⟩, hFt⟩) (fun hok H locs hP hS => ?_)
  have hp := hp.1 hok
  refine lv_iload_n hx hb dX4_addTitle_7 rfl (lv_at hl 2 rfl) ?_
  refine lv_iload_n hx hb dX4_addTitle_8 rfl (lv_at hl 1 rfl) ?_
  refine lv_bipush (v := 12) hx hb dX4_addTitle_9 (by decide) ?_
  refine tx_S (As := [.int a2, .int a1, .int (12 : Int32)]) (rest := []) ⟨hx, hb, hml, hown, hts⟩ (c_X4_checkRange l hfl a2 a1 (12 : Int32) _) (va_cwS 3 hts gX4_addTitle_X4_checkRange rfl rfl rfl (by decide +kernel) ⟨Nat.le_of_ble_eq_true rfl, Nat.le_of_ble_eq_true rfl⟩) hP hS hA hXS hXH het hlk rfl rfl hl.1 (Nat.le_of_ble_eq_true rfl) ⟨Nat.le_of_ble_eq_true rfl, Nat.le_of_ble_eq_true rfl⟩ ⟨Nat.le_of_ble_eq_true rfl, Nat.le_of_ble_eq_true rfl⟩ dX4_addTitle_11 (fun hno t hPt hFt => ⟨(), trivial, ⟨hp.2 hno, hPt, hD⟩, hFt⟩) (fun hok H locs hP hS => ?_)
  have hp := hp.1 hok
  refine lv_iload_n hx hb dX4_addTitle_14 rfl (lv_at hl 3 rfl) ?_
  refine lv_iconst (v := 5) hx hb dX4_addTitle_15 (by decide) ?_
  refine lv_sipush (v := 300) hx hb dX4_addTitle_16 (by decide) ?_
  refine tx_S (As := [.int a3, .int (5 : Int32), .int (300 : Int32)]) (rest := []) ⟨hx, hb, hml, hown, hts⟩ (c_X4_checkRange l hfl a3 (5 : Int32) (300 : Int32) _) (va_cwS 3 hts gX4_addTitle_X4_checkRange rfl rfl rfl (by decide +kernel) ⟨Nat.le_of_ble_eq_true rfl, Nat.le_of_ble_eq_true rfl⟩) hP hS hA hXS hXH het hlk rfl rfl hl.1 (Nat.le_of_ble_eq_true rfl) ⟨Nat.le_of_ble_eq_true rfl, Nat.le_of_ble_eq_true rfl⟩ ⟨Nat.le_of_ble_eq_true rfl, Nat.le_of_ble_eq_true rfl⟩ dX4_addTitle_19 (fun hno t hPt hFt => ⟨(), trivial, ⟨hp.2 hno, hPt, hD⟩, hFt⟩) (fun hok H locs hP hS => ?_)
  have hp := hp.1 hok
  refine lv_iload hx hb dX4_addTitle_22 (lv_at hl 4 rfl) ?_
  refine lv_iconst (v := 0) hx hb dX4_addTitle_24 (by decide) ?_
  refine lv_bipush (v := 9) hx hb dX4_addTitle_25 (by decide) ?_
  refine tx_S (As := [.int a4, .int (0 : Int32), .int (9 : Int32)]) (rest := []) ⟨hx, hb, hml, hown, hts⟩ (c_X4_checkRange l hfl a4 (0 : Int32) (9 : Int32) _) (va_cwS 3 hts gX4_addTitle_X4_checkRange rfl rfl rfl (by decide +kernel) ⟨Nat.le_of_ble_eq_true rfl, Nat.le_of_ble_eq_true rfl⟩) hP hS hA hXS hXH het hlk rfl rfl hl.1 (Nat.le_of_ble_eq_true rfl) ⟨Nat.le_of_ble_eq_true rfl, Nat.le_of_ble_eq_true rfl⟩ ⟨Nat.le_of_ble_eq_true rfl, Nat.le_of_ble_eq_true rfl⟩ dX4_addTitle_27 (fun hno t hPt hFt => ⟨(), trivial, ⟨hp.2 hno, hPt, hD⟩, hFt⟩) (fun hok H locs hP hS => ?_)
  have hp := hp.1 hok
  refine lv_iload hx hb dX4_addTitle_30 (lv_at hl 5 rfl) ?_
  refine lv_iconst (v := 0) hx hb dX4_addTitle_32 (by decide) ?_
  refine lv_bipush (v := 9) hx hb dX4_addTitle_33 (by decide) ?_
  refine tx_S (As := [.int a5, .int (0 : Int32), .int (9 : Int32)]) (rest := []) ⟨hx, hb, hml, hown, hts⟩ (c_X4_checkRange l hfl a5 (0 : Int32) (9 : Int32) _) (va_cwS 3 hts gX4_addTitle_X4_checkRange rfl rfl rfl (by decide +kernel) ⟨Nat.le_of_ble_eq_true rfl, Nat.le_of_ble_eq_true rfl⟩) hP hS hA hXS hXH het hlk rfl rfl hl.1 (Nat.le_of_ble_eq_true rfl) ⟨Nat.le_of_ble_eq_true rfl, Nat.le_of_ble_eq_true rfl⟩ ⟨Nat.le_of_ble_eq_true rfl, Nat.le_of_ble_eq_true rfl⟩ dX4_addTitle_35 (fun hno t hPt hFt => ⟨(), trivial, ⟨hp.2 hno, hPt, hD⟩, hFt⟩) (fun hok H locs hP hS => ?_)
  have hp := hp.1 hok
  refine lv_iload hx hb dX4_addTitle_38 (lv_at hl 6 rfl) ?_
  refine lv_iconst (v := 0) hx hb dX4_addTitle_40 (by decide) ?_
  refine lv_bipush (v := 9) hx hb dX4_addTitle_41 (by decide) ?_
  refine tx_S (As := [.int a6, .int (0 : Int32), .int (9 : Int32)]) (rest := []) ⟨hx, hb, hml, hown, hts⟩ (c_X4_checkRange l hfl a6 (0 : Int32) (9 : Int32) _) (va_cwS 3 hts gX4_addTitle_X4_checkRange rfl rfl rfl (by decide +kernel) ⟨Nat.le_of_ble_eq_true rfl, Nat.le_of_ble_eq_true rfl⟩) hP hS hA hXS hXH het hlk rfl rfl hl.1 (Nat.le_of_ble_eq_true rfl) ⟨Nat.le_of_ble_eq_true rfl, Nat.le_of_ble_eq_true rfl⟩ ⟨Nat.le_of_ble_eq_true rfl, Nat.le_of_ble_eq_true rfl⟩ dX4_addTitle_43 (fun hno t hPt hFt => ⟨(), trivial, ⟨hp.2 hno, hPt, hD⟩, hFt⟩) (fun hok H locs hP hS => ?_)
  have hp := hp.1 hok
  refine lv_iload hx hb dX4_addTitle_46 (lv_at hl 7 rfl) ?_
  refine lv_iconst (v := 0) hx hb dX4_addTitle_48 (by decide) ?_
  refine lv_bipush (v := 9) hx hb dX4_addTitle_49 (by decide) ?_
  refine tx_S (As := [.int a7, .int (0 : Int32), .int (9 : Int32)]) (rest := []) ⟨hx, hb, hml, hown, hts⟩ (c_X4_checkRange l hfl a7 (0 : Int32) (9 : Int32) _) (va_cwS 3 hts gX4_addTitle_X4_checkRange rfl rfl rfl (by decide +kernel) ⟨Nat.le_of_ble_eq_true rfl, Nat.le_of_ble_eq_true rfl⟩) hP hS hA hXS hXH het hlk rfl rfl hl.1 (Nat.le_of_ble_eq_true rfl) ⟨Nat.le_of_ble_eq_true rfl, Nat.le_of_ble_eq_true rfl⟩ ⟨Nat.le_of_ble_eq_true rfl, Nat.le_of_ble_eq_true rfl⟩ dX4_addTitle_51 (fun hno t hPt hFt => ⟨(), trivial, ⟨hp.2 hno, hPt, hD⟩, hFt⟩) (fun hok H locs hP hS => ?_)
  have hp := hp.1 hok
  refine lv_aload_n hx hb dX4_addTitle_54 rfl (lv_at hl 0 rfl) ?_
  refine va_get (D := (dC, dI)) (ci := 4) (v := .ref (qs 0)) (C := RX4) (T := TX4) (N := 3) hx hb hts iX4_addTitle_X4 hown hK hP 0 rfl rfl 1 (by decide) (hts _ kX4_addTitle_0) (fun _ h9 => h9) rfl dX4_addTitle_55 ?_
  refine va_getN (D := (dC, dI)) (ci := 3) (v := .int (gs 0 0)) (C := RX3) (T := TX3) (N := 11) (host := RX4) hx hb hts iX4_addTitle_X3 hown hK (t4s hP) 0 rfl rfl 0 (by decide) (nw_use hN 10 rfl) (fun _ h9 => h9) rfl dX4_addTitle_58 ?_
  refine lv_bipush (v := 8) hx hb dX4_addTitle_61 (by decide) ?_
  refine lv_icmp_ge (tgt := 70) hx hb dX4_addTitle_63 (by decide) (fun c1 => ?_) (fun c1 => ?_)
  · have hp := hp.1 c1
    refine lv_iconst (v := 0) hx hb dX4_addTitle_70 (by decide) ?_
    rw [eV71] at hp
    exact hp _ _ _ hP hS (lv_sub hl [0, 1, 2, 3, 4, 5, 6, 7] rfl)
  · have hp := hp.2 c1
    refine lv_iconst (v := 1) hx hb dX4_addTitle_66 (by decide) ?_
    refine lv_goto (tgt := 71) hx hb dX4_addTitle_67 (by decide) ?_
    rw [eV71] at hp
    exact hp _ _ _ hP hS (lv_sub hl [0, 1, 2, 3, 4, 5, 6, 7] rfl)
theorem kX4_addCopy_0 : (.fieldLink RX4 19 "Meeplehouse" "shelf" "LMeeplehouse$Shelf;" : Cond) ∈ wsX4_addCopy := by decide +kernel
theorem iX4_addCopy_X4 : ∀ w ∈ wsX40, w ∈ wsX4_addCopy := by decide +kernel
theorem iX4_addCopy_X3 : ∀ w ∈ wsX30, w ∈ wsX4_addCopy := by decide +kernel
def P_X4_addCopy (gh gs gr : St) (a1 : Int32) (ok : Int32 → St → St → St → Prop) (ex : String → Prop) : Prop := (((¬ a1 < 0 ∧ a1 < (gs 0 0)) → (((16 : Int32) ≤ (gs 0 1) → (((¬ (0 : Int32) = 0) → (∃ (r1 : Int32) (g2 : St), P_X3_putCopy gs a1 r1 g2 ∧ (ok r1 gh g2 gr))) ∧ (¬ (¬ (0 : Int32) = 0) → (ex E_s)))) ∧ (¬ (16 : Int32) ≤ (gs 0 1) → (((¬ (1 : Int32) = 0) → (∃ (r3 : Int32) (g4 : St), P_X3_putCopy gs a1 r3 g4 ∧ (ok r3 gh g4 gr))) ∧ (¬ (¬ (1 : Int32) = 0) → (ex E_s)))))) ∧ (¬ (¬ a1 < 0 ∧ a1 < (gs 0 0)) → (ex E_i)))
set_option maxRecDepth 100000 in
set_option maxHeartbeats 4000000 in
theorem c_X4_addCopy (l : Launch) (hfl : l.stackTraces = false) (dC : Nat → ClassId) (dI : Nat → Nat → Nat) (cI : ClassId) (b0 : Nat) (qh qs qr : Nat → Nat) (gh gs gr : St) (a1 : Int32) (ok : Int32 → St → St → St → Prop) (ex : String → Prop) (hp : P_X4_addCopy gh gs gr a1 ok ex) (sz : Nat) : vx_Met l yX4_addCopy wsX4_addCopy { frames := 7, cells := 2, slots := 12, locals := 103 } (va_Pc [.ref b0, .int a1] (tpS (dC, dI) vwCl [(cI, .int)] (wX4 b0 qh qs qr cI gh gs gr) sz)) (va_Qi (fun (r : Int32) (u : St × St × St) => ok r u.1 u.2.1 u.2.2) (fun u t => wqB (dC, dI) vwCl (wX4 b0 qh qs qr cI u.1 u.2.1 u.2.2) (va_A (wX4 b0 qh qs qr cI gh gs gr) sz) t) (va_A (wX4 b0 qh qs qr cI gh gs gr) sz)) (vx_X (fun _ : Unit => True) (fun E _ t => ex E ∧ wqB (dC, dI) vwCl (wX4 b0 qh qs qr cI gh gs gr) (va_A (wX4 b0 qh qs qr cI gh gs gr) sz) t) (va_A (wX4 b0 qh qs qr cI gh gs gr) sz)) 2 12 (va_A (wX4 b0 qh qs qr cI gh gs gr) sz) := by
  refine tx_met (fun A => (va_Qi (fun (r : Int32) (u : St × St × St) => ok r u.1 u.2.1 u.2.2) (fun u t => wqB (dC, dI) vwCl (wX4 b0 qh qs qr cI u.1 u.2.1 u.2.2) A t) A)) (fun A => (vx_X (fun _ : Unit => True) (fun E _ t => ex E ∧ wqB (dC, dI) vwCl (wX4 b0 qh qs qr cI gh gs gr) A t) A)) (cc := cX4_addCopy) (maxL := 2) (ret := (some .int)) (by decide) rfl (Nat.le_of_ble_eq_true rfl) ?_
  intro p e s m below meth c A hx hb hml hr hlk het hts hown hP hK hN hD hA hXS hXH ls hl
  have hS : va_S A s.heap s.heap [] := va_S.rf
  have hl : lv_has ls 2 [(0, .ref b0), (1, .int a1)] := hl
  unfold P_X4_addCopy at hp
  refine lv_iload_n hx hb dX4_addCopy_0 rfl (lv_at hl 1 rfl) ?_
  refine lv_aload_n hx hb dX4_addCopy_1 rfl (lv_at hl 0 rfl) ?_
  refine va_get (D := (dC, dI)) (ci := 4) (v := .ref (qs 0)) (C := RX4) (T := TX4) (N := 3) hx hb hts iX4_addCopy_X4 hown hK hP 0 rfl rfl 1 (by decide) (hts _ kX4_addCopy_0) (fun _ h9 => h9) rfl dX4_addCopy_2 ?_
  refine va_getN (D := (dC, dI)) (ci := 3) (v := .int (gs 0 0)) (C := RX3) (T := TX3) (N := 11) (host := RX4) hx hb hts iX4_addCopy_X3 hown hK (t4s hP) 0 rfl rfl 0 (by decide) (nw_use hN 10 rfl) (fun _ h9 => h9) rfl dX4_addCopy_5 ?_
  refine tx_S (As := [.int a1, .int (gs 0 0)]) (rest := []) ⟨hx, hb, hml, hown, hts⟩ (c_X4_checkIndex l hfl a1 (gs 0 0) _) (va_cwS 2 hts gX4_addCopy_X4_checkIndex rfl rfl rfl (by decide +kernel) ⟨Nat.le_of_ble_eq_true rfl, Nat.le_of_ble_eq_true rfl⟩) hP hS hA hXS hXH het hlk rfl rfl hl.1 (Nat.le_of_ble_eq_true rfl) ⟨Nat.le_of_ble_eq_true rfl, Nat.le_of_ble_eq_true rfl⟩ ⟨Nat.le_of_ble_eq_true rfl, Nat.le_of_ble_eq_true rfl⟩ dX4_addCopy_8 (fun hno t hPt hFt => ⟨(), trivial, ⟨hp.2 hno, hPt, hD⟩, hFt⟩) (fun hok H locs hP hS => ?_)
  have hp := hp.1 hok
  refine lv_aload_n hx hb dX4_addCopy_11 rfl (lv_at hl 0 rfl) ?_
  refine va_get (D := (dC, dI)) (ci := 4) (v := .ref (qs 0)) (C := RX4) (T := TX4) (N := 3) hx hb hts iX4_addCopy_X4 hown hK hP 0 rfl rfl 1 (by decide) (hts _ kX4_addCopy_0) (fun _ h9 => h9) rfl dX4_addCopy_12 ?_
  refine va_getN (D := (dC, dI)) (ci := 3) (v := .int (gs 0 1)) (C := RX3) (T := TX3) (N := 11) (host := RX4) hx hb hts iX4_addCopy_X3 hown hK (t4s hP) 0 rfl rfl 1 (by decide) (nw_use hN 11 rfl) (fun _ h9 => h9) rfl dX4_addCopy_15 ?_
  refine lv_bipush (v := 16) hx hb dX4_addCopy_18 (by decide) ?_
  refine lv_icmp_ge (tgt := 27) hx hb dX4_addCopy_20 (by decide) (fun c5 => ?_) (fun c5 => ?_)
  · have hp := hp.1 c5
    refine lv_iconst (v := 0) hx hb dX4_addCopy_27 (by decide) ?_
    refine tx_S (As := [.int (0 : Int32)]) (rest := []) ⟨hx, hb, hml, hown, hts⟩ (c_X4_checkState l hfl (0 : Int32) _) (va_cwS 1 hts gX4_addCopy_X4_checkState rfl rfl rfl (by decide +kernel) ⟨Nat.le_of_ble_eq_true rfl, Nat.le_of_ble_eq_true rfl⟩) hP hS hA hXS hXH het hlk rfl rfl hl.1 (Nat.le_of_ble_eq_true rfl) ⟨Nat.le_of_ble_eq_true rfl, Nat.le_of_ble_eq_true rfl⟩ ⟨Nat.le_of_ble_eq_true rfl, Nat.le_of_ble_eq_true rfl⟩ dX4_addCopy_28 (fun hno t hPt hFt => ⟨(), trivial, ⟨hp.2 hno, hPt, hD⟩, hFt⟩) (fun hok H locs hP hS => ?_)
    have hp := hp.1 hok
    refine lv_aload_n hx hb dX4_addCopy_31 rfl (lv_at hl 0 rfl) ?_
    refine va_get (D := (dC, dI)) (ci := 4) (v := .ref (qs 0)) (C := RX4) (T := TX4) (N := 3) hx hb hts iX4_addCopy_X4 hown hK hP 0 rfl rfl 1 (by decide) (hts _ kX4_addCopy_0) (fun _ h9 => h9) rfl dX4_addCopy_32 ?_
    refine lv_iload_n hx hb dX4_addCopy_35 rfl (lv_at hl 1 rfl) ?_
    obtain ⟨r1, g2, hg2, hp⟩ := hp
    refine wr_Vi (As := [.int a1]) (rest := []) (ws1 := wX4 b0 qh qs qr cI gh g2 gr) ⟨hx, hb, hml, hown, hts⟩ (c_X3_putCopy l dC dI cI qs gs a1 r1 g2 hg2 _) (cwV 1 hts gX4_addCopy_X3_putCopy rfl rfl rfl (by decide +kernel) ⟨Nat.le_of_ble_eq_true rfl, Nat.le_of_ble_eq_true rfl⟩) hP hD hS hA hK hN (w4s b0 qh qs qr cI gh gs gr) (w4s b0 qh qs qr cI gh g2 gr).symm rfl rfl rfl rfl hl.1 (Nat.le_of_ble_eq_true rfl) ⟨Nat.le_of_ble_eq_true rfl, Nat.le_of_ble_eq_true rfl⟩ dX4_addCopy_36 (fun H locs hP hD hS => ?_)
    refine vx_ret (W.widen (k := 2) (n := 12) (Nat.le_of_ble_eq_true rfl) (Nat.le_of_ble_eq_true rfl) ?_)
    exact W.iret hx hb hr (fun t ht _ => ⟨⟨_, (gh, g2, gr), rfl, hp, by rw [ht]; exact hP, hD⟩, hS.F ht⟩) hS.2.2 dX4_addCopy_39
  · have hp := hp.2 c5
    refine lv_iconst (v := 1) hx hb dX4_addCopy_23 (by decide) ?_
    refine lv_goto (tgt := 28) hx hb dX4_addCopy_24 (by decide) ?_
    refine tx_S (As := [.int (1 : Int32)]) (rest := []) ⟨hx, hb, hml, hown, hts⟩ (c_X4_checkState l hfl (1 : Int32) _) (va_cwS 1 hts gX4_addCopy_X4_checkState rfl rfl rfl (by decide +kernel) ⟨Nat.le_of_ble_eq_true rfl, Nat.le_of_ble_eq_true rfl⟩) hP hS hA hXS hXH het hlk rfl rfl hl.1 (Nat.le_of_ble_eq_true rfl) ⟨Nat.le_of_ble_eq_true rfl, Nat.le_of_ble_eq_true rfl⟩ ⟨Nat.le_of_ble_eq_true rfl, Nat.le_of_ble_eq_true rfl⟩ dX4_addCopy_28 (fun hno t hPt hFt => ⟨(), trivial, ⟨hp.2 hno, hPt, hD⟩, hFt⟩) (fun hok H locs hP hS => ?_)
    have hp := hp.1 hok
    refine lv_aload_n hx hb dX4_addCopy_31 rfl (lv_at hl 0 rfl) ?_
    refine va_get (D := (dC, dI)) (ci := 4) (v := .ref (qs 0)) (C := RX4) (T := TX4) (N := 3) hx hb hts iX4_addCopy_X4 hown hK hP 0 rfl rfl 1 (by decide) (hts _ kX4_addCopy_0) (fun _ h9 => h9) rfl dX4_addCopy_32 ?_
    refine lv_iload_n hx hb dX4_addCopy_35 rfl (lv_at hl 1 rfl) ?_
    obtain ⟨r3, g4, hg4, hp⟩ := hp
    refine wr_Vi (As := [.int a1]) (rest := []) (ws1 := wX4 b0 qh qs qr cI gh g4 gr) ⟨hx, hb, hml, hown, hts⟩ (c_X3_putCopy l dC dI cI qs gs a1 r3 g4 hg4 _) (cwV 1 hts gX4_addCopy_X3_putCopy rfl rfl rfl (by decide +kernel) ⟨Nat.le_of_ble_eq_true rfl, Nat.le_of_ble_eq_true rfl⟩) hP hD hS hA hK hN (w4s b0 qh qs qr cI gh gs gr) (w4s b0 qh qs qr cI gh g4 gr).symm rfl rfl rfl rfl hl.1 (Nat.le_of_ble_eq_true rfl) ⟨Nat.le_of_ble_eq_true rfl, Nat.le_of_ble_eq_true rfl⟩ dX4_addCopy_36 (fun H locs hP hD hS => ?_)
    refine vx_ret (W.widen (k := 2) (n := 12) (Nat.le_of_ble_eq_true rfl) (Nat.le_of_ble_eq_true rfl) ?_)
    exact W.iret hx hb hr (fun t ht _ => ⟨⟨_, (gh, g4, gr), rfl, hp, by rw [ht]; exact hP, hD⟩, hS.F ht⟩) hS.2.2 dX4_addCopy_39
theorem kX4_addRule_0 : (.fieldLink RX4 19 "Meeplehouse" "shelf" "LMeeplehouse$Shelf;" : Cond) ∈ wsX4_addRule := by decide +kernel
theorem iX4_addRule_X4 : ∀ w ∈ wsX40, w ∈ wsX4_addRule := by decide +kernel
theorem iX4_addRule_X3 : ∀ w ∈ wsX30, w ∈ wsX4_addRule := by decide +kernel
theorem kX4_addRule_3 : (.fieldLink RX4 26 "Meeplehouse" "referee" "LMeeplehouse$Referee;" : Cond) ∈ wsX4_addRule := by decide +kernel
def P_X4_addRule (gh gs gr : St) (a1 : Int32) (a2 : Int32) (a3 : Int32) (a4 : Int32) (a5 : Int32) (ok : Int32 → St → St → St → Prop) (ex : String → Prop) : Prop := ∀ V28 : Prop, ∀ V69 : Int32 → Prop, ((((¬ a3 < (0 : Int32) ∧ a3 ≤ (3 : Int32)) → (((¬ a4 < (1 : Int32) ∧ a4 ≤ (300 : Int32)) → (((¬ a5 < (0 : Int32) ∧ a5 ≤ (99 : Int32)) → (∃ r3 : Int32, P_X1_rulesOf gr a1 r3 ∧ (((12 : Int32) ≤ r3 → (V69 (0 : Int32))) ∧ (¬ (12 : Int32) ≤ r3 → (V69 (1 : Int32)))))) ∧ (¬ (¬ a5 < (0 : Int32) ∧ a5 ≤ (99 : Int32)) → (ex E_a)))) ∧ (¬ (¬ a4 < (1 : Int32) ∧ a4 ≤ (300 : Int32)) → (ex E_a)))) ∧ (¬ (¬ a3 < (0 : Int32) ∧ a3 ≤ (3 : Int32)) → (ex E_a))) → V28) → (∀ t0 : Int32, (((¬ t0 = 0) → (∃ (r5 : Int32) (g6 : St), P_X1_putRule gr a1 a2 a3 a4 a5 r5 g6 ∧ (ok r5 gh gs g6))) ∧ (¬ (¬ t0 = 0) → (ex E_s))) → V69 t0) → (((¬ a1 < 0 ∧ a1 < (gs 0 0)) → ((a2 = (-1 : Int32) → (V28)) ∧ (¬ a2 = (-1 : Int32) → (∃ r1 : Int32, P_X1_rulesOf gr a1 r1 ∧ (((¬ a2 < 0 ∧ a2 < r1) → (V28)) ∧ (¬ (¬ a2 < 0 ∧ a2 < r1) → (ex E_i))))))) ∧ (¬ (¬ a1 < 0 ∧ a1 < (gs 0 0)) → (ex E_i)))
set_option maxRecDepth 100000 in
set_option maxHeartbeats 4000000 in
theorem c_X4_addRule (l : Launch) (hfl : l.stackTraces = false) (dC : Nat → ClassId) (dI : Nat → Nat → Nat) (cI : ClassId) (b0 : Nat) (qh qs qr : Nat → Nat) (gh gs gr : St) (a1 : Int32) (a2 : Int32) (a3 : Int32) (a4 : Int32) (a5 : Int32) (ok : Int32 → St → St → St → Prop) (ex : String → Prop) (hp : P_X4_addRule gh gs gr a1 a2 a3 a4 a5 ok ex) (sz : Nat) : vx_Met l yX4_addRule wsX4_addRule { frames := 7, cells := 6, slots := 36, locals := 104 } (va_Pc [.ref b0, .int a1, .int a2, .int a3, .int a4, .int a5] (tpS (dC, dI) vwCl [(cI, .int)] (wX4 b0 qh qs qr cI gh gs gr) sz)) (va_Qi (fun (r : Int32) (u : St × St × St) => ok r u.1 u.2.1 u.2.2) (fun u t => wqB (dC, dI) vwCl (wX4 b0 qh qs qr cI u.1 u.2.1 u.2.2) (va_A (wX4 b0 qh qs qr cI gh gs gr) sz) t) (va_A (wX4 b0 qh qs qr cI gh gs gr) sz)) (vx_X (fun _ : Unit => True) (fun E _ t => ex E ∧ wqB (dC, dI) vwCl (wX4 b0 qh qs qr cI gh gs gr) (va_A (wX4 b0 qh qs qr cI gh gs gr) sz) t) (va_A (wX4 b0 qh qs qr cI gh gs gr) sz)) 6 36 (va_A (wX4 b0 qh qs qr cI gh gs gr) sz) := by
  refine tx_met (fun A => (va_Qi (fun (r : Int32) (u : St × St × St) => ok r u.1 u.2.1 u.2.2) (fun u t => wqB (dC, dI) vwCl (wX4 b0 qh qs qr cI u.1 u.2.1 u.2.2) A t) A)) (fun A => (vx_X (fun _ : Unit => True) (fun E _ t => ex E ∧ wqB (dC, dI) vwCl (wX4 b0 qh qs qr cI gh gs gr) A t) A)) (cc := cX4_addRule) (maxL := 6) (ret := (some .int)) (by decide) rfl (Nat.le_of_ble_eq_true rfl) ?_
  intro p e s m below meth c A hx hb hml hr hlk het hts hown hP hK hN hD hA hXS hXH ls hl
  have hS : va_S A s.heap s.heap [] := va_S.rf
  have hl : lv_has ls 6 [(0, .ref b0), (1, .int a1), (2, .int a2), (3, .int a3), (4, .int a4), (5, .int a5)] := hl
  obtain ⟨V28, eV28⟩ : ∃ V : Prop, V = (∀ (H : Heap) (locs : List Loc) (ls : Array Slot), va_P (dC, dI) vwCl (wX4 b0 qh qs qr cI gh gs gr) H → va_S A s.heap H locs → lv_has ls 6 [(0, .ref b0), (1, .int a1), (2, .int a2), (3, .int a3), (4, .int a4), (5, .int a5)] → W p l e { frames := 7, cells := 6, slots := 36, locals := 104 } s m ([.ref b0, .int a1, .int a2, .int a3, .int a4, .int a5] : List Value).toArray below meth c H locs 2 12 (vx_MQ below (va_Qi (fun (r : Int32) (u : St × St × St) => ok r u.1 u.2.1 u.2.2) (fun u t => wqB (dC, dI) vwCl (wX4 b0 qh qs qr cI u.1 u.2.1 u.2.2) A t) A) (vx_X (fun _ : Unit => True) (fun E _ t => ex E ∧ wqB (dC, dI) vwCl (wX4 b0 qh qs qr cI gh gs gr) A t) A) ([.ref b0, .int a1, .int a2, .int a3, .int a4, .int a5] : List Value).toArray s 6 36 A) (F0 m 28 ls [])) := ⟨_, rfl⟩
  obtain ⟨V69, eV69⟩ : ∃ V : Int32 → Prop, V = (fun t0 => ∀ (H : Heap) (locs : List Loc) (ls : Array Slot), va_P (dC, dI) vwCl (wX4 b0 qh qs qr cI gh gs gr) H → va_S A s.heap H locs → lv_has ls 6 [(0, .ref b0), (1, .int a1), (2, .int a2), (3, .int a3), (4, .int a4), (5, .int a5)] → W p l e { frames := 7, cells := 6, slots := 36, locals := 104 } s m ([.ref b0, .int a1, .int a2, .int a3, .int a4, .int a5] : List Value).toArray below meth c H locs 5 30 (vx_MQ below (va_Qi (fun (r : Int32) (u : St × St × St) => ok r u.1 u.2.1 u.2.2) (fun u t => wqB (dC, dI) vwCl (wX4 b0 qh qs qr cI u.1 u.2.1 u.2.2) A t) A) (vx_X (fun _ : Unit => True) (fun E _ t => ex E ∧ wqB (dC, dI) vwCl (wX4 b0 qh qs qr cI gh gs gr) A t) A) ([.ref b0, .int a1, .int a2, .int a3, .int a4, .int a5] : List Value).toArray s 6 36 A) (F0 m 69 ls [.int t0])) := ⟨_, rfl⟩
  have hp := hp V28 V69
  have hp := hp (by
    intro hp
    rw [eV28]
    intro H locs ls hP hS hl
    refine lv_iload_n hx hb dX4_addRule_28 rfl (lv_at hl 3 rfl) ?_
    refine lv_iconst (v := 0) hx hb dX4_addRule_29 (by decide) ?_
    refine lv_iconst (v := 3) hx hb dX4_addRule_30 (by decide) ?_
    refine tx_S (As := [.int a3, .int (0 : Int32), .int (3 : Int32)]) (rest := []) ⟨hx, hb, hml, hown, hts⟩ (c_X4_checkRange l hfl a3 (0 : Int32) (3 : Int32) _) (va_cwS 3 hts gX4_addRule_X4_checkRange rfl rfl rfl (by decide +kernel) ⟨Nat.le_of_ble_eq_true rfl, Nat.le_of_ble_eq_true rfl⟩) hP hS hA hXS hXH het hlk rfl rfl hl.1 (Nat.le_of_ble_eq_true rfl) ⟨Nat.le_of_ble_eq_true rfl, Nat.le_of_ble_eq_true rfl⟩ ⟨Nat.le_of_ble_eq_true rfl, Nat.le_of_ble_eq_true rfl⟩ dX4_addRule_31 (fun hno t hPt hFt => ⟨(), trivial, ⟨hp.2 hno, hPt, hD⟩, hFt⟩) (fun hok H locs hP hS => ?_)
    have hp := hp.1 hok
    refine lv_iload hx hb dX4_addRule_34 (lv_at hl 4 rfl) ?_
    refine lv_iconst (v := 1) hx hb dX4_addRule_36 (by decide) ?_
    refine lv_sipush (v := 300) hx hb dX4_addRule_37 (by decide) ?_
    refine tx_S (As := [.int a4, .int (1 : Int32), .int (300 : Int32)]) (rest := []) ⟨hx, hb, hml, hown, hts⟩ (c_X4_checkRange l hfl a4 (1 : Int32) (300 : Int32) _) (va_cwS 3 hts gX4_addRule_X4_checkRange rfl rfl rfl (by decide +kernel) ⟨Nat.le_of_ble_eq_true rfl, Nat.le_of_ble_eq_true rfl⟩) hP hS hA hXS hXH het hlk rfl rfl hl.1 (Nat.le_of_ble_eq_true rfl) ⟨Nat.le_of_ble_eq_true rfl, Nat.le_of_ble_eq_true rfl⟩ ⟨Nat.le_of_ble_eq_true rfl, Nat.le_of_ble_eq_true rfl⟩ dX4_addRule_40 (fun hno t hPt hFt => ⟨(), trivial, ⟨hp.2 hno, hPt, hD⟩, hFt⟩) (fun hok H locs hP hS => ?_)
    have hp := hp.1 hok
    refine lv_iload hx hb dX4_addRule_43 (lv_at hl 5 rfl) ?_
    refine lv_iconst (v := 0) hx hb dX4_addRule_45 (by decide) ?_
    refine lv_bipush (v := 99) hx hb dX4_addRule_46 (by decide) ?_
    refine tx_S (As := [.int a5, .int (0 : Int32), .int (99 : Int32)]) (rest := []) ⟨hx, hb, hml, hown, hts⟩ (c_X4_checkRange l hfl a5 (0 : Int32) (99 : Int32) _) (va_cwS 3 hts gX4_addRule_X4_checkRange rfl rfl rfl (by decide +kernel) ⟨Nat.le_of_ble_eq_true rfl, Nat.le_of_ble_eq_true rfl⟩) hP hS hA hXS hXH het hlk rfl rfl hl.1 (Nat.le_of_ble_eq_true rfl) ⟨Nat.le_of_ble_eq_true rfl, Nat.le_of_ble_eq_true rfl⟩ ⟨Nat.le_of_ble_eq_true rfl, Nat.le_of_ble_eq_true rfl⟩ dX4_addRule_48 (fun hno t hPt hFt => ⟨(), trivial, ⟨hp.2 hno, hPt, hD⟩, hFt⟩) (fun hok H locs hP hS => ?_)
    have hp := hp.1 hok
    refine lv_aload_n hx hb dX4_addRule_51 rfl (lv_at hl 0 rfl) ?_
    refine va_get (D := (dC, dI)) (ci := 4) (v := .ref (qr 0)) (C := RX4) (T := TX4) (N := 3) hx hb hts iX4_addRule_X4 hown hK hP 0 rfl rfl 2 (by decide) (hts _ kX4_addRule_3) (fun _ h9 => h9) rfl dX4_addRule_52 ?_
    refine lv_iload_n hx hb dX4_addRule_55 rfl (lv_at hl 1 rfl) ?_
    obtain ⟨r3, hr3, hp⟩ := hp
    refine ro_V (As := [.int a1]) (rest := []) ⟨hx, hb, hml, hown, hts⟩ (c_X1_rulesOf l dC dI cI qr gr a1 r3 hr3) (cwV 1 hts gX4_addRule_X1_rulesOf rfl rfl rfl (by decide +kernel) ⟨Nat.le_of_ble_eq_true rfl, Nat.le_of_ble_eq_true rfl⟩) (t4r hP) hK hN rfl rfl rfl rfl hl.1 (Nat.le_of_ble_eq_true rfl) ⟨Nat.le_of_ble_eq_true rfl, Nat.le_of_ble_eq_true rfl⟩ dX4_addRule_56 ?_
    refine lv_bipush (v := 12) hx hb dX4_addRule_59 (by decide) ?_
    refine lv_icmp_ge (tgt := 68) hx hb dX4_addRule_61 (by decide) (fun c4 => ?_) (fun c4 => ?_)
    · have hp := hp.1 c4
      refine lv_iconst (v := 0) hx hb dX4_addRule_68 (by decide) ?_
      rw [eV69] at hp
      exact hp _ _ _ hP hS (lv_sub hl [0, 1, 2, 3, 4, 5] rfl)
    · have hp := hp.2 c4
      refine lv_iconst (v := 1) hx hb dX4_addRule_64 (by decide) ?_
      refine lv_goto (tgt := 69) hx hb dX4_addRule_65 (by decide) ?_
      rw [eV69] at hp
      exact hp _ _ _ hP hS (lv_sub hl [0, 1, 2, 3, 4, 5] rfl))
  have hp := hp (by
    intro t0 hp
    rw [eV69]
    intro H locs ls hP hS hl
    refine tx_S (As := [.int t0]) (rest := []) ⟨hx, hb, hml, hown, hts⟩ (c_X4_checkState l hfl t0 _) (va_cwS 1 hts gX4_addRule_X4_checkState rfl rfl rfl (by decide +kernel) ⟨Nat.le_of_ble_eq_true rfl, Nat.le_of_ble_eq_true rfl⟩) hP hS hA hXS hXH het hlk rfl rfl hl.1 (Nat.le_of_ble_eq_true rfl) ⟨Nat.le_of_ble_eq_true rfl, Nat.le_of_ble_eq_true rfl⟩ ⟨Nat.le_of_ble_eq_true rfl, Nat.le_of_ble_eq_true rfl⟩ dX4_addRule_69 (fun hno t hPt hFt => ⟨(), trivial, ⟨hp.2 hno, hPt, hD⟩, hFt⟩) (fun hok H locs hP hS => ?_)
    have hp := hp.1 hok
    refine lv_aload_n hx hb dX4_addRule_72 rfl (lv_at hl 0 rfl) ?_
    refine va_get (D := (dC, dI)) (ci := 4) (v := .ref (qr 0)) (C := RX4) (T := TX4) (N := 3) hx hb hts iX4_addRule_X4 hown hK hP 0 rfl rfl 2 (by decide) (hts _ kX4_addRule_3) (fun _ h9 => h9) rfl dX4_addRule_73 ?_
    refine lv_iload_n hx hb dX4_addRule_76 rfl (lv_at hl 1 rfl) ?_
    refine lv_iload_n hx hb dX4_addRule_77 rfl (lv_at hl 2 rfl) ?_
    refine lv_iload_n hx hb dX4_addRule_78 rfl (lv_at hl 3 rfl) ?_
    refine lv_iload hx hb dX4_addRule_79 (lv_at hl 4 rfl) ?_
    refine lv_iload hx hb dX4_addRule_81 (lv_at hl 5 rfl) ?_
    obtain ⟨r5, g6, hg6, hp⟩ := hp
    refine wr_Vi (As := [.int a1, .int a2, .int a3, .int a4, .int a5]) (rest := []) (ws1 := wX4 b0 qh qs qr cI gh gs g6) ⟨hx, hb, hml, hown, hts⟩ (c_X1_putRule l dC dI cI qr gr a1 a2 a3 a4 a5 r5 g6 hg6 _) (cwV 5 hts gX4_addRule_X1_putRule rfl rfl rfl (by decide +kernel) ⟨Nat.le_of_ble_eq_true rfl, Nat.le_of_ble_eq_true rfl⟩) hP hD hS hA hK hN (w4r b0 qh qs qr cI gh gs gr) (w4r b0 qh qs qr cI gh gs g6).symm rfl rfl rfl rfl hl.1 (Nat.le_of_ble_eq_true rfl) ⟨Nat.le_of_ble_eq_true rfl, Nat.le_of_ble_eq_true rfl⟩ dX4_addRule_83 (fun H locs hP hD hS => ?_)
    refine vx_ret (W.widen (k := 6) (n := 36) (Nat.le_of_ble_eq_true rfl) (Nat.le_of_ble_eq_true rfl) ?_)
    exact W.iret hx hb hr (fun t ht _ => ⟨⟨_, (gh, gs, g6), rfl, hp, by rw [ht]; exact hP, hD⟩, hS.F ht⟩) hS.2.2 dX4_addRule_86)
  refine lv_iload_n hx hb dX4_addRule_0 rfl (lv_at hl 1 rfl) ?_
  refine lv_aload_n hx hb dX4_addRule_1 rfl (lv_at hl 0 rfl) ?_
  refine va_get (D := (dC, dI)) (ci := 4) (v := .ref (qs 0)) (C := RX4) (T := TX4) (N := 3) hx hb hts iX4_addRule_X4 hown hK hP 0 rfl rfl 1 (by decide) (hts _ kX4_addRule_0) (fun _ h9 => h9) rfl dX4_addRule_2 ?_
  refine va_getN (D := (dC, dI)) (ci := 3) (v := .int (gs 0 0)) (C := RX3) (T := TX3) (N := 11) (host := RX4) hx hb hts iX4_addRule_X3 hown hK (t4s hP) 0 rfl rfl 0 (by decide) (nw_use hN 10 rfl) (fun _ h9 => h9) rfl dX4_addRule_5 ?_
  refine tx_S (As := [.int a1, .int (gs 0 0)]) (rest := []) ⟨hx, hb, hml, hown, hts⟩ (c_X4_checkIndex l hfl a1 (gs 0 0) _) (va_cwS 2 hts gX4_addRule_X4_checkIndex rfl rfl rfl (by decide +kernel) ⟨Nat.le_of_ble_eq_true rfl, Nat.le_of_ble_eq_true rfl⟩) hP hS hA hXS hXH het hlk rfl rfl hl.1 (Nat.le_of_ble_eq_true rfl) ⟨Nat.le_of_ble_eq_true rfl, Nat.le_of_ble_eq_true rfl⟩ ⟨Nat.le_of_ble_eq_true rfl, Nat.le_of_ble_eq_true rfl⟩ dX4_addRule_8 (fun hno t hPt hFt => ⟨(), trivial, ⟨hp.2 hno, hPt, hD⟩, hFt⟩) (fun hok H locs hP hS => ?_)
  have hp := hp.1 hok
  refine lv_iload_n hx hb dX4_addRule_11 rfl (lv_at hl 2 rfl) ?_
  refine lv_iconst (v := -1) hx hb dX4_addRule_12 (by decide) ?_
  refine lv_icmp_eq (tgt := 28) hx hb dX4_addRule_13 (by decide) (fun c2 => ?_) (fun c2 => ?_)
  · have hp := hp.1 c2
    rw [eV28] at hp
    refine W.widen (k := 2) (n := 12) (Nat.le_of_ble_eq_true rfl) (Nat.le_of_ble_eq_true rfl) ?_
    exact hp _ _ _ hP hS (lv_sub hl [0, 1, 2, 3, 4, 5] rfl)
  · have hp := hp.2 c2
    refine lv_iload_n hx hb dX4_addRule_16 rfl (lv_at hl 2 rfl) ?_
    refine lv_aload_n hx hb dX4_addRule_17 rfl (lv_at hl 0 rfl) ?_
    refine va_get (D := (dC, dI)) (ci := 4) (v := .ref (qr 0)) (C := RX4) (T := TX4) (N := 3) hx hb hts iX4_addRule_X4 hown hK hP 0 rfl rfl 2 (by decide) (hts _ kX4_addRule_3) (fun _ h9 => h9) rfl dX4_addRule_18 ?_
    refine lv_iload_n hx hb dX4_addRule_21 rfl (lv_at hl 1 rfl) ?_
    obtain ⟨r1, hr1, hp⟩ := hp
    refine ro_V (As := [.int a1]) (rest := [.int a2]) ⟨hx, hb, hml, hown, hts⟩ (c_X1_rulesOf l dC dI cI qr gr a1 r1 hr1) (cwV 1 hts gX4_addRule_X1_rulesOf rfl rfl rfl (by decide +kernel) ⟨Nat.le_of_ble_eq_true rfl, Nat.le_of_ble_eq_true rfl⟩) (t4r hP) hK hN rfl rfl rfl rfl hl.1 (Nat.le_of_ble_eq_true rfl) ⟨Nat.le_of_ble_eq_true rfl, Nat.le_of_ble_eq_true rfl⟩ dX4_addRule_22 ?_
    refine tx_S (As := [.int a2, .int r1]) (rest := []) ⟨hx, hb, hml, hown, hts⟩ (c_X4_checkIndex l hfl a2 r1 _) (va_cwS 2 hts gX4_addRule_X4_checkIndex rfl rfl rfl (by decide +kernel) ⟨Nat.le_of_ble_eq_true rfl, Nat.le_of_ble_eq_true rfl⟩) hP hS hA hXS hXH het hlk rfl rfl hl.1 (Nat.le_of_ble_eq_true rfl) ⟨Nat.le_of_ble_eq_true rfl, Nat.le_of_ble_eq_true rfl⟩ ⟨Nat.le_of_ble_eq_true rfl, Nat.le_of_ble_eq_true rfl⟩ dX4_addRule_25 (fun hno t hPt hFt => ⟨(), trivial, ⟨hp.2 hno, hPt, hD⟩, hFt⟩) (fun hok H locs hP hS => ?_)
    have hp := hp.1 hok
    rw [eV28] at hp
    exact hp _ _ _ hP hS (lv_sub hl [0, 1, 2, 3, 4, 5] rfl)
theorem kX4_arrive_0 : (.fieldLink RX4 10 "Meeplehouse" "hall" "LMeeplehouse$Hall;" : Cond) ∈ wsX4_arrive := by decide +kernel
theorem iX4_arrive_X4 : ∀ w ∈ wsX40, w ∈ wsX4_arrive := by decide +kernel
theorem iX4_arrive_X0 : ∀ w ∈ wsX00, w ∈ wsX4_arrive := by decide +kernel
def P_X4_arrive (gh gs gr : St) (a1 : Int32) (a2 : Int32) (ok : Int32 → St → St → St → Prop) (ex : String → Prop) : Prop := (((¬ a1 < (1 : Int32) ∧ a1 ≤ (12 : Int32)) → (((¬ a2 < (10 : Int32) ∧ a2 ≤ (600 : Int32)) → (((30 : Int32) ≤ (gh 0 2) → (((¬ (0 : Int32) = 0) → (∃ (r1 : Int32) (g2 : St), P_X0_welcome gh a1 a2 r1 g2 ∧ (ok r1 g2 gs gr))) ∧ (¬ (¬ (0 : Int32) = 0) → (ex E_s)))) ∧ (¬ (30 : Int32) ≤ (gh 0 2) → (((¬ (1 : Int32) = 0) → (∃ (r3 : Int32) (g4 : St), P_X0_welcome gh a1 a2 r3 g4 ∧ (ok r3 g4 gs gr))) ∧ (¬ (¬ (1 : Int32) = 0) → (ex E_s)))))) ∧ (¬ (¬ a2 < (10 : Int32) ∧ a2 ≤ (600 : Int32)) → (ex E_a)))) ∧ (¬ (¬ a1 < (1 : Int32) ∧ a1 ≤ (12 : Int32)) → (ex E_a)))
set_option maxRecDepth 100000 in
set_option maxHeartbeats 4000000 in
theorem c_X4_arrive (l : Launch) (hfl : l.stackTraces = false) (dC : Nat → ClassId) (dI : Nat → Nat → Nat) (cI : ClassId) (b0 : Nat) (qh qs qr : Nat → Nat) (gh gs gr : St) (a1 : Int32) (a2 : Int32) (ok : Int32 → St → St → St → Prop) (ex : String → Prop) (hp : P_X4_arrive gh gs gr a1 a2 ok ex) (sz : Nat) : vx_Met l yX4_arrive wsX4_arrive { frames := 7, cells := 3, slots := 18, locals := 117 } (va_Pc [.ref b0, .int a1, .int a2] (tpS (dC, dI) vwCl [(cI, .int)] (wX4 b0 qh qs qr cI gh gs gr) sz)) (va_Qi (fun (r : Int32) (u : St × St × St) => ok r u.1 u.2.1 u.2.2) (fun u t => wqB (dC, dI) vwCl (wX4 b0 qh qs qr cI u.1 u.2.1 u.2.2) (va_A (wX4 b0 qh qs qr cI gh gs gr) sz) t) (va_A (wX4 b0 qh qs qr cI gh gs gr) sz)) (vx_X (fun _ : Unit => True) (fun E _ t => ex E ∧ wqB (dC, dI) vwCl (wX4 b0 qh qs qr cI gh gs gr) (va_A (wX4 b0 qh qs qr cI gh gs gr) sz) t) (va_A (wX4 b0 qh qs qr cI gh gs gr) sz)) 3 18 (va_A (wX4 b0 qh qs qr cI gh gs gr) sz) := by
  refine tx_met (fun A => (va_Qi (fun (r : Int32) (u : St × St × St) => ok r u.1 u.2.1 u.2.2) (fun u t => wqB (dC, dI) vwCl (wX4 b0 qh qs qr cI u.1 u.2.1 u.2.2) A t) A)) (fun A => (vx_X (fun _ : Unit => True) (fun E _ t => ex E ∧ wqB (dC, dI) vwCl (wX4 b0 qh qs qr cI gh gs gr) A t) A)) (cc := cX4_arrive) (maxL := 3) (ret := (some .int)) (by decide) rfl (Nat.le_of_ble_eq_true rfl) ?_
  intro p e s m below meth c A hx hb hml hr hlk het hts hown hP hK hN hD hA hXS hXH ls hl
  have hS : va_S A s.heap s.heap [] := va_S.rf
  have hl : lv_has ls 3 [(0, .ref b0), (1, .int a1), (2, .int a2)] := hl
  unfold P_X4_arrive at hp
  refine lv_iload_n hx hb dX4_arrive_0 rfl (lv_at hl 1 rfl) ?_
  refine lv_iconst (v := 1) hx hb dX4_arrive_1 (by decide) ?_
  refine lv_bipush (v := 12) hx hb dX4_arrive_2 (by decide) ?_
  refine tx_S (As := [.int a1, .int (1 : Int32), .int (12 : Int32)]) (rest := []) ⟨hx, hb, hml, hown, hts⟩ (c_X4_checkRange l hfl a1 (1 : Int32) (12 : Int32) _) (va_cwS 3 hts gX4_arrive_X4_checkRange rfl rfl rfl (by decide +kernel) ⟨Nat.le_of_ble_eq_true rfl, Nat.le_of_ble_eq_true rfl⟩) hP hS hA hXS hXH het hlk rfl rfl hl.1 (Nat.le_of_ble_eq_true rfl) ⟨Nat.le_of_ble_eq_true rfl, Nat.le_of_ble_eq_true rfl⟩ ⟨Nat.le_of_ble_eq_true rfl, Nat.le_of_ble_eq_true rfl⟩ dX4_arrive_4 (fun hno t hPt hFt => ⟨(), trivial, ⟨hp.2 hno, hPt, hD⟩, hFt⟩) (fun hok H locs hP hS => ?_)
  have hp := hp.1 hok
  refine lv_iload_n hx hb dX4_arrive_7 rfl (lv_at hl 2 rfl) ?_
  refine lv_bipush (v := 10) hx hb dX4_arrive_8 (by decide) ?_
  refine lv_sipush (v := 600) hx hb dX4_arrive_10 (by decide) ?_
  refine tx_S (As := [.int a2, .int (10 : Int32), .int (600 : Int32)]) (rest := []) ⟨hx, hb, hml, hown, hts⟩ (c_X4_checkRange l hfl a2 (10 : Int32) (600 : Int32) _) (va_cwS 3 hts gX4_arrive_X4_checkRange rfl rfl rfl (by decide +kernel) ⟨Nat.le_of_ble_eq_true rfl, Nat.le_of_ble_eq_true rfl⟩) hP hS hA hXS hXH het hlk rfl rfl hl.1 (Nat.le_of_ble_eq_true rfl) ⟨Nat.le_of_ble_eq_true rfl, Nat.le_of_ble_eq_true rfl⟩ ⟨Nat.le_of_ble_eq_true rfl, Nat.le_of_ble_eq_true rfl⟩ dX4_arrive_13 (fun hno t hPt hFt => ⟨(), trivial, ⟨hp.2 hno, hPt, hD⟩, hFt⟩) (fun hok H locs hP hS => ?_)
  have hp := hp.1 hok
  refine lv_aload_n hx hb dX4_arrive_16 rfl (lv_at hl 0 rfl) ?_
  refine va_get (D := (dC, dI)) (ci := 4) (v := .ref (qh 0)) (C := RX4) (T := TX4) (N := 3) hx hb hts iX4_arrive_X4 hown hK hP 0 rfl rfl 0 (by decide) (hts _ kX4_arrive_0) (fun _ h9 => h9) rfl dX4_arrive_17 ?_
  refine va_getN (D := (dC, dI)) (ci := 0) (v := .int (gh 0 2)) (C := RX0) (T := TX0) (N := 9) (host := RX4) hx hb hts iX4_arrive_X0 hown hK (t4h hP) 0 rfl rfl 2 (by decide) (nw_use hN 8 rfl) (fun _ h9 => h9) rfl dX4_arrive_20 ?_
  refine lv_bipush (v := 30) hx hb dX4_arrive_23 (by decide) ?_
  refine lv_icmp_ge (tgt := 32) hx hb dX4_arrive_25 (by decide) (fun c5 => ?_) (fun c5 => ?_)
  · have hp := hp.1 c5
    refine lv_iconst (v := 0) hx hb dX4_arrive_32 (by decide) ?_
    refine tx_S (As := [.int (0 : Int32)]) (rest := []) ⟨hx, hb, hml, hown, hts⟩ (c_X4_checkState l hfl (0 : Int32) _) (va_cwS 1 hts gX4_arrive_X4_checkState rfl rfl rfl (by decide +kernel) ⟨Nat.le_of_ble_eq_true rfl, Nat.le_of_ble_eq_true rfl⟩) hP hS hA hXS hXH het hlk rfl rfl hl.1 (Nat.le_of_ble_eq_true rfl) ⟨Nat.le_of_ble_eq_true rfl, Nat.le_of_ble_eq_true rfl⟩ ⟨Nat.le_of_ble_eq_true rfl, Nat.le_of_ble_eq_true rfl⟩ dX4_arrive_33 (fun hno t hPt hFt => ⟨(), trivial, ⟨hp.2 hno, hPt, hD⟩, hFt⟩) (fun hok H locs hP hS => ?_)
    have hp := hp.1 hok
    refine lv_aload_n hx hb dX4_arrive_36 rfl (lv_at hl 0 rfl) ?_
    refine va_get (D := (dC, dI)) (ci := 4) (v := .ref (qh 0)) (C := RX4) (T := TX4) (N := 3) hx hb hts iX4_arrive_X4 hown hK hP 0 rfl rfl 0 (by decide) (hts _ kX4_arrive_0) (fun _ h9 => h9) rfl dX4_arrive_37 ?_
    refine lv_iload_n hx hb dX4_arrive_40 rfl (lv_at hl 1 rfl) ?_
    refine lv_iload_n hx hb dX4_arrive_41 rfl (lv_at hl 2 rfl) ?_
    obtain ⟨r1, g2, hg2, hp⟩ := hp
    refine wr_Vi (As := [.int a1, .int a2]) (rest := []) (ws1 := wX4 b0 qh qs qr cI g2 gs gr) ⟨hx, hb, hml, hown, hts⟩ (c_X0_welcome l dC dI cI qh gh a1 a2 r1 g2 hg2 _) (cwV 2 hts gX4_arrive_X0_welcome rfl rfl rfl (by decide +kernel) ⟨Nat.le_of_ble_eq_true rfl, Nat.le_of_ble_eq_true rfl⟩) hP hD hS hA hK hN (w4h b0 qh qs qr cI gh gs gr) (w4h b0 qh qs qr cI g2 gs gr).symm rfl rfl rfl rfl hl.1 (Nat.le_of_ble_eq_true rfl) ⟨Nat.le_of_ble_eq_true rfl, Nat.le_of_ble_eq_true rfl⟩ dX4_arrive_42 (fun H locs hP hD hS => ?_)
    refine vx_ret (W.widen (k := 3) (n := 18) (Nat.le_of_ble_eq_true rfl) (Nat.le_of_ble_eq_true rfl) ?_)
    exact W.iret hx hb hr (fun t ht _ => ⟨⟨_, (g2, gs, gr), rfl, hp, by rw [ht]; exact hP, hD⟩, hS.F ht⟩) hS.2.2 dX4_arrive_45
  · have hp := hp.2 c5
    refine lv_iconst (v := 1) hx hb dX4_arrive_28 (by decide) ?_
    refine lv_goto (tgt := 33) hx hb dX4_arrive_29 (by decide) ?_
    refine tx_S (As := [.int (1 : Int32)]) (rest := []) ⟨hx, hb, hml, hown, hts⟩ (c_X4_checkState l hfl (1 : Int32) _) (va_cwS 1 hts gX4_arrive_X4_checkState rfl rfl rfl (by decide +kernel) ⟨Nat.le_of_ble_eq_true rfl, Nat.le_of_ble_eq_true rfl⟩) hP hS hA hXS hXH het hlk rfl rfl hl.1 (Nat.le_of_ble_eq_true rfl) ⟨Nat.le_of_ble_eq_true rfl, Nat.le_of_ble_eq_true rfl⟩ ⟨Nat.le_of_ble_eq_true rfl, Nat.le_of_ble_eq_true rfl⟩ dX4_arrive_33 (fun hno t hPt hFt => ⟨(), trivial, ⟨hp.2 hno, hPt, hD⟩, hFt⟩) (fun hok H locs hP hS => ?_)
    have hp := hp.1 hok
    refine lv_aload_n hx hb dX4_arrive_36 rfl (lv_at hl 0 rfl) ?_
    refine va_get (D := (dC, dI)) (ci := 4) (v := .ref (qh 0)) (C := RX4) (T := TX4) (N := 3) hx hb hts iX4_arrive_X4 hown hK hP 0 rfl rfl 0 (by decide) (hts _ kX4_arrive_0) (fun _ h9 => h9) rfl dX4_arrive_37 ?_
    refine lv_iload_n hx hb dX4_arrive_40 rfl (lv_at hl 1 rfl) ?_
    refine lv_iload_n hx hb dX4_arrive_41 rfl (lv_at hl 2 rfl) ?_
    obtain ⟨r3, g4, hg4, hp⟩ := hp
    refine wr_Vi (As := [.int a1, .int a2]) (rest := []) (ws1 := wX4 b0 qh qs qr cI g4 gs gr) ⟨hx, hb, hml, hown, hts⟩ (c_X0_welcome l dC dI cI qh gh a1 a2 r3 g4 hg4 _) (cwV 2 hts gX4_arrive_X0_welcome rfl rfl rfl (by decide +kernel) ⟨Nat.le_of_ble_eq_true rfl, Nat.le_of_ble_eq_true rfl⟩) hP hD hS hA hK hN (w4h b0 qh qs qr cI gh gs gr) (w4h b0 qh qs qr cI g4 gs gr).symm rfl rfl rfl rfl hl.1 (Nat.le_of_ble_eq_true rfl) ⟨Nat.le_of_ble_eq_true rfl, Nat.le_of_ble_eq_true rfl⟩ dX4_arrive_42 (fun H locs hP hD hS => ?_)
    refine vx_ret (W.widen (k := 3) (n := 18) (Nat.le_of_ble_eq_true rfl) (Nat.le_of_ble_eq_true rfl) ?_)
    exact W.iret hx hb hr (fun t ht _ => ⟨⟨_, (g4, gs, gr), rfl, hp, by rw [ht]; exact hP, hD⟩, hS.F ht⟩) hS.2.2 dX4_arrive_45
theorem kX4_leave_0 : (.fieldLink RX4 10 "Meeplehouse" "hall" "LMeeplehouse$Hall;" : Cond) ∈ wsX4_leave := by decide +kernel
theorem iX4_leave_X4 : ∀ w ∈ wsX40, w ∈ wsX4_leave := by decide +kernel
theorem iX4_leave_X0 : ∀ w ∈ wsX00, w ∈ wsX4_leave := by decide +kernel
theorem kX4_leave_3 : (.fieldLink RX4 19 "Meeplehouse" "shelf" "LMeeplehouse$Shelf;" : Cond) ∈ wsX4_leave := by decide +kernel
def P_X4_leave (gh gs gr : St) (a1 : Int32) (ok : Int32 → St → St → St → Prop) (ex : String → Prop) : Prop := (((¬ a1 < 0 ∧ a1 < (gh 0 2)) → (∃ r1 : Int32, P_X3_heldBy gs a1 r1 ∧ ((¬ r1 = (-1 : Int32) → (((¬ (0 : Int32) = 0) → (∃ (r2 : Int32) (g3 : St), P_X0_dismiss gh a1 r2 g3 ∧ (ok r2 g3 gs gr))) ∧ (¬ (¬ (0 : Int32) = 0) → (ex E_s)))) ∧ (r1 = (-1 : Int32) → (∃ r4 : Int32, P_X0_isGone gh a1 r4 ∧ ((¬ r4 = 0 → (((¬ (0 : Int32) = 0) → (∃ (r5 : Int32) (g6 : St), P_X0_dismiss gh a1 r5 g6 ∧ (ok r5 g6 gs gr))) ∧ (¬ (¬ (0 : Int32) = 0) → (ex E_s)))) ∧ (r4 = 0 → (((¬ (1 : Int32) = 0) → (∃ (r7 : Int32) (g8 : St), P_X0_dismiss gh a1 r7 g8 ∧ (ok r7 g8 gs gr))) ∧ (¬ (¬ (1 : Int32) = 0) → (ex E_s)))))))))) ∧ (¬ (¬ a1 < 0 ∧ a1 < (gh 0 2)) → (ex E_i)))
set_option maxRecDepth 100000 in
set_option maxHeartbeats 4000000 in
theorem c_X4_leave (l : Launch) (hfl : l.stackTraces = false) (dC : Nat → ClassId) (dI : Nat → Nat → Nat) (cI : ClassId) (b0 : Nat) (qh qs qr : Nat → Nat) (gh gs gr : St) (a1 : Int32) (ok : Int32 → St → St → St → Prop) (ex : String → Prop) (hp : P_X4_leave gh gs gr a1 ok ex) (sz : Nat) : vx_Met l yX4_leave wsX4_leave { frames := 7, cells := 2, slots := 12, locals := 138 } (va_Pc [.ref b0, .int a1] (tpS (dC, dI) vwCl [(cI, .int)] (wX4 b0 qh qs qr cI gh gs gr) sz)) (va_Qi (fun (r : Int32) (u : St × St × St) => ok r u.1 u.2.1 u.2.2) (fun u t => wqB (dC, dI) vwCl (wX4 b0 qh qs qr cI u.1 u.2.1 u.2.2) (va_A (wX4 b0 qh qs qr cI gh gs gr) sz) t) (va_A (wX4 b0 qh qs qr cI gh gs gr) sz)) (vx_X (fun _ : Unit => True) (fun E _ t => ex E ∧ wqB (dC, dI) vwCl (wX4 b0 qh qs qr cI gh gs gr) (va_A (wX4 b0 qh qs qr cI gh gs gr) sz) t) (va_A (wX4 b0 qh qs qr cI gh gs gr) sz)) 2 12 (va_A (wX4 b0 qh qs qr cI gh gs gr) sz) := by
  refine tx_met (fun A => (va_Qi (fun (r : Int32) (u : St × St × St) => ok r u.1 u.2.1 u.2.2) (fun u t => wqB (dC, dI) vwCl (wX4 b0 qh qs qr cI u.1 u.2.1 u.2.2) A t) A)) (fun A => (vx_X (fun _ : Unit => True) (fun E _ t => ex E ∧ wqB (dC, dI) vwCl (wX4 b0 qh qs qr cI gh gs gr) A t) A)) (cc := cX4_leave) (maxL := 2) (ret := (some .int)) (by decide) rfl (Nat.le_of_ble_eq_true rfl) ?_
  intro p e s m below meth c A hx hb hml hr hlk het hts hown hP hK hN hD hA hXS hXH ls hl
  have hS : va_S A s.heap s.heap [] := va_S.rf
  have hl : lv_has ls 2 [(0, .ref b0), (1, .int a1)] := hl
  unfold P_X4_leave at hp
  refine lv_iload_n hx hb dX4_leave_0 rfl (lv_at hl 1 rfl) ?_
  refine lv_aload_n hx hb dX4_leave_1 rfl (lv_at hl 0 rfl) ?_
  refine va_get (D := (dC, dI)) (ci := 4) (v := .ref (qh 0)) (C := RX4) (T := TX4) (N := 3) hx hb hts iX4_leave_X4 hown hK hP 0 rfl rfl 0 (by decide) (hts _ kX4_leave_0) (fun _ h9 => h9) rfl dX4_leave_2 ?_
  refine va_getN (D := (dC, dI)) (ci := 0) (v := .int (gh 0 2)) (C := RX0) (T := TX0) (N := 9) (host := RX4) hx hb hts iX4_leave_X0 hown hK (t4h hP) 0 rfl rfl 2 (by decide) (nw_use hN 8 rfl) (fun _ h9 => h9) rfl dX4_leave_5 ?_
  refine tx_S (As := [.int a1, .int (gh 0 2)]) (rest := []) ⟨hx, hb, hml, hown, hts⟩ (c_X4_checkIndex l hfl a1 (gh 0 2) _) (va_cwS 2 hts gX4_leave_X4_checkIndex rfl rfl rfl (by decide +kernel) ⟨Nat.le_of_ble_eq_true rfl, Nat.le_of_ble_eq_true rfl⟩) hP hS hA hXS hXH het hlk rfl rfl hl.1 (Nat.le_of_ble_eq_true rfl) ⟨Nat.le_of_ble_eq_true rfl, Nat.le_of_ble_eq_true rfl⟩ ⟨Nat.le_of_ble_eq_true rfl, Nat.le_of_ble_eq_true rfl⟩ dX4_leave_8 (fun hno t hPt hFt => ⟨(), trivial, ⟨hp.2 hno, hPt, hD⟩, hFt⟩) (fun hok H locs hP hS => ?_)
  have hp := hp.1 hok
  refine lv_aload_n hx hb dX4_leave_11 rfl (lv_at hl 0 rfl) ?_
  refine va_get (D := (dC, dI)) (ci := 4) (v := .ref (qs 0)) (C := RX4) (T := TX4) (N := 3) hx hb hts iX4_leave_X4 hown hK hP 0 rfl rfl 1 (by decide) (hts _ kX4_leave_3) (fun _ h9 => h9) rfl dX4_leave_12 ?_
  refine lv_iload_n hx hb dX4_leave_15 rfl (lv_at hl 1 rfl) ?_
  obtain ⟨r1, hr1, hp⟩ := hp
  refine ro_V (As := [.int a1]) (rest := []) ⟨hx, hb, hml, hown, hts⟩ (c_X3_heldBy l dC dI cI qs gs a1 r1 hr1) (cwV 1 hts gX4_leave_X3_heldBy rfl rfl rfl (by decide +kernel) ⟨Nat.le_of_ble_eq_true rfl, Nat.le_of_ble_eq_true rfl⟩) (t4s hP) hK hN rfl rfl rfl rfl hl.1 (Nat.le_of_ble_eq_true rfl) ⟨Nat.le_of_ble_eq_true rfl, Nat.le_of_ble_eq_true rfl⟩ dX4_leave_16 ?_
  refine lv_iconst (v := -1) hx hb dX4_leave_19 (by decide) ?_
  refine lv_icmp_ne (tgt := 38) hx hb dX4_leave_20 (by decide) (fun c10 => ?_) (fun c10 => ?_)
  · have hp := hp.1 c10
    refine lv_iconst (v := 0) hx hb dX4_leave_38 (by decide) ?_
    refine tx_S (As := [.int (0 : Int32)]) (rest := []) ⟨hx, hb, hml, hown, hts⟩ (c_X4_checkState l hfl (0 : Int32) _) (va_cwS 1 hts gX4_leave_X4_checkState rfl rfl rfl (by decide +kernel) ⟨Nat.le_of_ble_eq_true rfl, Nat.le_of_ble_eq_true rfl⟩) hP hS hA hXS hXH het hlk rfl rfl hl.1 (Nat.le_of_ble_eq_true rfl) ⟨Nat.le_of_ble_eq_true rfl, Nat.le_of_ble_eq_true rfl⟩ ⟨Nat.le_of_ble_eq_true rfl, Nat.le_of_ble_eq_true rfl⟩ dX4_leave_39 (fun hno t hPt hFt => ⟨(), trivial, ⟨hp.2 hno, hPt, hD⟩, hFt⟩) (fun hok H locs hP hS => ?_)
    have hp := hp.1 hok
    refine lv_aload_n hx hb dX4_leave_42 rfl (lv_at hl 0 rfl) ?_
    refine va_get (D := (dC, dI)) (ci := 4) (v := .ref (qh 0)) (C := RX4) (T := TX4) (N := 3) hx hb hts iX4_leave_X4 hown hK hP 0 rfl rfl 0 (by decide) (hts _ kX4_leave_0) (fun _ h9 => h9) rfl dX4_leave_43 ?_
    refine lv_iload_n hx hb dX4_leave_46 rfl (lv_at hl 1 rfl) ?_
    obtain ⟨r2, g3, hg3, hp⟩ := hp
    refine wr_Vi (As := [.int a1]) (rest := []) (ws1 := wX4 b0 qh qs qr cI g3 gs gr) ⟨hx, hb, hml, hown, hts⟩ (c_X0_dismiss l dC dI cI qh gh a1 r2 g3 hg3 _) (cwV 1 hts gX4_leave_X0_dismiss rfl rfl rfl (by decide +kernel) ⟨Nat.le_of_ble_eq_true rfl, Nat.le_of_ble_eq_true rfl⟩) hP hD hS hA hK hN (w4h b0 qh qs qr cI gh gs gr) (w4h b0 qh qs qr cI g3 gs gr).symm rfl rfl rfl rfl hl.1 (Nat.le_of_ble_eq_true rfl) ⟨Nat.le_of_ble_eq_true rfl, Nat.le_of_ble_eq_true rfl⟩ dX4_leave_47 (fun H locs hP hD hS => ?_)
    refine vx_ret (W.widen (k := 2) (n := 12) (Nat.le_of_ble_eq_true rfl) (Nat.le_of_ble_eq_true rfl) ?_)
    exact W.iret hx hb hr (fun t ht _ => ⟨⟨_, (g3, gs, gr), rfl, hp, by rw [ht]; exact hP, hD⟩, hS.F ht⟩) hS.2.2 dX4_leave_50
  · have hp := hp.2 c10
    refine lv_aload_n hx hb dX4_leave_23 rfl (lv_at hl 0 rfl) ?_
    refine va_get (D := (dC, dI)) (ci := 4) (v := .ref (qh 0)) (C := RX4) (T := TX4) (N := 3) hx hb hts iX4_leave_X4 hown hK hP 0 rfl rfl 0 (by decide) (hts _ kX4_leave_0) (fun _ h9 => h9) rfl dX4_leave_24 ?_
    refine lv_iload_n hx hb dX4_leave_27 rfl (lv_at hl 1 rfl) ?_
    obtain ⟨r4, hr4, hp⟩ := hp
    refine ro_V (As := [.int a1]) (rest := []) ⟨hx, hb, hml, hown, hts⟩ (c_X0_isGone l dC dI cI qh gh a1 r4 hr4) (cwV 1 hts gX4_leave_X0_isGone rfl rfl rfl (by decide +kernel) ⟨Nat.le_of_ble_eq_true rfl, Nat.le_of_ble_eq_true rfl⟩) (t4h hP) hK hN rfl rfl rfl rfl hl.1 (Nat.le_of_ble_eq_true rfl) ⟨Nat.le_of_ble_eq_true rfl, Nat.le_of_ble_eq_true rfl⟩ dX4_leave_28 ?_
    refine lv_if_ne (tgt := 38) hx hb dX4_leave_31 (by decide) (fun c9 => ?_) (fun c9 => ?_)
    · have hp := hp.1 c9
      refine lv_iconst (v := 0) hx hb dX4_leave_38 (by decide) ?_
      refine tx_S (As := [.int (0 : Int32)]) (rest := []) ⟨hx, hb, hml, hown, hts⟩ (c_X4_checkState l hfl (0 : Int32) _) (va_cwS 1 hts gX4_leave_X4_checkState rfl rfl rfl (by decide +kernel) ⟨Nat.le_of_ble_eq_true rfl, Nat.le_of_ble_eq_true rfl⟩) hP hS hA hXS hXH het hlk rfl rfl hl.1 (Nat.le_of_ble_eq_true rfl) ⟨Nat.le_of_ble_eq_true rfl, Nat.le_of_ble_eq_true rfl⟩ ⟨Nat.le_of_ble_eq_true rfl, Nat.le_of_ble_eq_true rfl⟩ dX4_leave_39 (fun hno t hPt hFt => ⟨(), trivial, ⟨hp.2 hno, hPt, hD⟩, hFt⟩) (fun hok H locs hP hS => ?_)
      have hp := hp.1 hok
      refine lv_aload_n hx hb dX4_leave_42 rfl (lv_at hl 0 rfl) ?_
      refine va_get (D := (dC, dI)) (ci := 4) (v := .ref (qh 0)) (C := RX4) (T := TX4) (N := 3) hx hb hts iX4_leave_X4 hown hK hP 0 rfl rfl 0 (by decide) (hts _ kX4_leave_0) (fun _ h9 => h9) rfl dX4_leave_43 ?_
      refine lv_iload_n hx hb dX4_leave_46 rfl (lv_at hl 1 rfl) ?_
      obtain ⟨r5, g6, hg6, hp⟩ := hp
      refine wr_Vi (As := [.int a1]) (rest := []) (ws1 := wX4 b0 qh qs qr cI g6 gs gr) ⟨hx, hb, hml, hown, hts⟩ (c_X0_dismiss l dC dI cI qh gh a1 r5 g6 hg6 _) (cwV 1 hts gX4_leave_X0_dismiss rfl rfl rfl (by decide +kernel) ⟨Nat.le_of_ble_eq_true rfl, Nat.le_of_ble_eq_true rfl⟩) hP hD hS hA hK hN (w4h b0 qh qs qr cI gh gs gr) (w4h b0 qh qs qr cI g6 gs gr).symm rfl rfl rfl rfl hl.1 (Nat.le_of_ble_eq_true rfl) ⟨Nat.le_of_ble_eq_true rfl, Nat.le_of_ble_eq_true rfl⟩ dX4_leave_47 (fun H locs hP hD hS => ?_)
      refine vx_ret (W.widen (k := 2) (n := 12) (Nat.le_of_ble_eq_true rfl) (Nat.le_of_ble_eq_true rfl) ?_)
      exact W.iret hx hb hr (fun t ht _ => ⟨⟨_, (g6, gs, gr), rfl, hp, by rw [ht]; exact hP, hD⟩, hS.F ht⟩) hS.2.2 dX4_leave_50
    · have hp := hp.2 c9
      refine lv_iconst (v := 1) hx hb dX4_leave_34 (by decide) ?_
      refine lv_goto (tgt := 39) hx hb dX4_leave_35 (by decide) ?_
      refine tx_S (As := [.int (1 : Int32)]) (rest := []) ⟨hx, hb, hml, hown, hts⟩ (c_X4_checkState l hfl (1 : Int32) _) (va_cwS 1 hts gX4_leave_X4_checkState rfl rfl rfl (by decide +kernel) ⟨Nat.le_of_ble_eq_true rfl, Nat.le_of_ble_eq_true rfl⟩) hP hS hA hXS hXH het hlk rfl rfl hl.1 (Nat.le_of_ble_eq_true rfl) ⟨Nat.le_of_ble_eq_true rfl, Nat.le_of_ble_eq_true rfl⟩ ⟨Nat.le_of_ble_eq_true rfl, Nat.le_of_ble_eq_true rfl⟩ dX4_leave_39 (fun hno t hPt hFt => ⟨(), trivial, ⟨hp.2 hno, hPt, hD⟩, hFt⟩) (fun hok H locs hP hS => ?_)
      have hp := hp.1 hok
      refine lv_aload_n hx hb dX4_leave_42 rfl (lv_at hl 0 rfl) ?_
      refine va_get (D := (dC, dI)) (ci := 4) (v := .ref (qh 0)) (C := RX4) (T := TX4) (N := 3) hx hb hts iX4_leave_X4 hown hK hP 0 rfl rfl 0 (by decide) (hts _ kX4_leave_0) (fun _ h9 => h9) rfl dX4_leave_43 ?_
      refine lv_iload_n hx hb dX4_leave_46 rfl (lv_at hl 1 rfl) ?_
      obtain ⟨r7, g8, hg8, hp⟩ := hp
      refine wr_Vi (As := [.int a1]) (rest := []) (ws1 := wX4 b0 qh qs qr cI g8 gs gr) ⟨hx, hb, hml, hown, hts⟩ (c_X0_dismiss l dC dI cI qh gh a1 r7 g8 hg8 _) (cwV 1 hts gX4_leave_X0_dismiss rfl rfl rfl (by decide +kernel) ⟨Nat.le_of_ble_eq_true rfl, Nat.le_of_ble_eq_true rfl⟩) hP hD hS hA hK hN (w4h b0 qh qs qr cI gh gs gr) (w4h b0 qh qs qr cI g8 gs gr).symm rfl rfl rfl rfl hl.1 (Nat.le_of_ble_eq_true rfl) ⟨Nat.le_of_ble_eq_true rfl, Nat.le_of_ble_eq_true rfl⟩ dX4_leave_47 (fun H locs hP hD hS => ?_)
      refine vx_ret (W.widen (k := 2) (n := 12) (Nat.le_of_ble_eq_true rfl) (Nat.le_of_ble_eq_true rfl) ?_)
      exact W.iret hx hb hr (fun t ht _ => ⟨⟨_, (g8, gs, gr), rfl, hp, by rw [ht]; exact hP, hD⟩, hS.F ht⟩) hS.2.2 dX4_leave_50
theorem kX4_tableOf_0 : (.fieldLink RX4 10 "Meeplehouse" "hall" "LMeeplehouse$Hall;" : Cond) ∈ wsX4_tableOf := by decide +kernel
theorem iX4_tableOf_X4 : ∀ w ∈ wsX40, w ∈ wsX4_tableOf := by decide +kernel
theorem iX4_tableOf_X0 : ∀ w ∈ wsX00, w ∈ wsX4_tableOf := by decide +kernel
def P_X4_tableOf (gh gs gr : St) (a1 : Int32) (ok : Int32 → St → St → St → Prop) (ex : String → Prop) : Prop := (((¬ a1 < 0 ∧ a1 < (gh 0 2)) → (∃ r1 : Int32, P_X0_firstTable gh a1 r1 ∧ (ok r1 gh gs gr))) ∧ (¬ (¬ a1 < 0 ∧ a1 < (gh 0 2)) → (ex E_i)))
set_option maxRecDepth 100000 in
set_option maxHeartbeats 4000000 in
theorem c_X4_tableOf (l : Launch) (hfl : l.stackTraces = false) (dC : Nat → ClassId) (dI : Nat → Nat → Nat) (cI : ClassId) (b0 : Nat) (qh qs qr : Nat → Nat) (gh gs gr : St) (a1 : Int32) (ok : Int32 → St → St → St → Prop) (ex : String → Prop) (hp : P_X4_tableOf gh gs gr a1 ok ex) (sz : Nat) : vx_Met l yX4_tableOf wsX4_tableOf { frames := 7, cells := 1, slots := 6, locals := 103 } (va_Pc [.ref b0, .int a1] (tpS (dC, dI) vwCl [(cI, .int)] (wX4 b0 qh qs qr cI gh gs gr) sz)) (va_Qi (fun (r : Int32) (u : St × St × St) => ok r u.1 u.2.1 u.2.2) (fun u t => wqB (dC, dI) vwCl (wX4 b0 qh qs qr cI u.1 u.2.1 u.2.2) (va_A (wX4 b0 qh qs qr cI gh gs gr) sz) t) (va_A (wX4 b0 qh qs qr cI gh gs gr) sz)) (vx_X (fun _ : Unit => True) (fun E _ t => ex E ∧ wqB (dC, dI) vwCl (wX4 b0 qh qs qr cI gh gs gr) (va_A (wX4 b0 qh qs qr cI gh gs gr) sz) t) (va_A (wX4 b0 qh qs qr cI gh gs gr) sz)) 1 6 (va_A (wX4 b0 qh qs qr cI gh gs gr) sz) := by
  refine tx_met (fun A => (va_Qi (fun (r : Int32) (u : St × St × St) => ok r u.1 u.2.1 u.2.2) (fun u t => wqB (dC, dI) vwCl (wX4 b0 qh qs qr cI u.1 u.2.1 u.2.2) A t) A)) (fun A => (vx_X (fun _ : Unit => True) (fun E _ t => ex E ∧ wqB (dC, dI) vwCl (wX4 b0 qh qs qr cI gh gs gr) A t) A)) (cc := cX4_tableOf) (maxL := 2) (ret := (some .int)) (by decide) rfl (Nat.le_of_ble_eq_true rfl) ?_
  intro p e s m below meth c A hx hb hml hr hlk het hts hown hP hK hN hD hA hXS hXH ls hl
  have hS : va_S A s.heap s.heap [] := va_S.rf
  have hl : lv_has ls 2 [(0, .ref b0), (1, .int a1)] := hl
  unfold P_X4_tableOf at hp
  refine lv_iload_n hx hb dX4_tableOf_0 rfl (lv_at hl 1 rfl) ?_
  refine lv_aload_n hx hb dX4_tableOf_1 rfl (lv_at hl 0 rfl) ?_
  refine va_get (D := (dC, dI)) (ci := 4) (v := .ref (qh 0)) (C := RX4) (T := TX4) (N := 3) hx hb hts iX4_tableOf_X4 hown hK hP 0 rfl rfl 0 (by decide) (hts _ kX4_tableOf_0) (fun _ h9 => h9) rfl dX4_tableOf_2 ?_
  refine va_getN (D := (dC, dI)) (ci := 0) (v := .int (gh 0 2)) (C := RX0) (T := TX0) (N := 9) (host := RX4) hx hb hts iX4_tableOf_X0 hown hK (t4h hP) 0 rfl rfl 2 (by decide) (nw_use hN 8 rfl) (fun _ h9 => h9) rfl dX4_tableOf_5 ?_
  refine tx_S (As := [.int a1, .int (gh 0 2)]) (rest := []) ⟨hx, hb, hml, hown, hts⟩ (c_X4_checkIndex l hfl a1 (gh 0 2) _) (va_cwS 2 hts gX4_tableOf_X4_checkIndex rfl rfl rfl (by decide +kernel) ⟨Nat.le_of_ble_eq_true rfl, Nat.le_of_ble_eq_true rfl⟩) hP hS hA hXS hXH het hlk rfl rfl hl.1 (Nat.le_of_ble_eq_true rfl) ⟨Nat.le_of_ble_eq_true rfl, Nat.le_of_ble_eq_true rfl⟩ ⟨Nat.le_of_ble_eq_true rfl, Nat.le_of_ble_eq_true rfl⟩ dX4_tableOf_8 (fun hno t hPt hFt => ⟨(), trivial, ⟨hp.2 hno, hPt, hD⟩, hFt⟩) (fun hok H locs hP hS => ?_)
  have hp := hp.1 hok
  refine lv_aload_n hx hb dX4_tableOf_11 rfl (lv_at hl 0 rfl) ?_
  refine va_get (D := (dC, dI)) (ci := 4) (v := .ref (qh 0)) (C := RX4) (T := TX4) (N := 3) hx hb hts iX4_tableOf_X4 hown hK hP 0 rfl rfl 0 (by decide) (hts _ kX4_tableOf_0) (fun _ h9 => h9) rfl dX4_tableOf_12 ?_
  refine lv_iload_n hx hb dX4_tableOf_15 rfl (lv_at hl 1 rfl) ?_
  obtain ⟨r1, hr1, hp⟩ := hp
  refine ro_V (As := [.int a1]) (rest := []) ⟨hx, hb, hml, hown, hts⟩ (c_X0_firstTable l dC dI cI qh gh a1 r1 hr1) (cwV 1 hts gX4_tableOf_X0_firstTable rfl rfl rfl (by decide +kernel) ⟨Nat.le_of_ble_eq_true rfl, Nat.le_of_ble_eq_true rfl⟩) (t4h hP) hK hN rfl rfl rfl rfl hl.1 (Nat.le_of_ble_eq_true rfl) ⟨Nat.le_of_ble_eq_true rfl, Nat.le_of_ble_eq_true rfl⟩ dX4_tableOf_16 ?_
  refine vx_ret (W.widen (k := 1) (n := 6) (Nat.le_of_ble_eq_true rfl) (Nat.le_of_ble_eq_true rfl) ?_)
  exact W.iret hx hb hr (fun t ht _ => ⟨⟨_, (gh, gs, gr), rfl, hp, by rw [ht]; exact hP, hD⟩, hS.F ht⟩) hS.2.2 dX4_tableOf_19
theorem kX4_tablesOf_0 : (.fieldLink RX4 10 "Meeplehouse" "hall" "LMeeplehouse$Hall;" : Cond) ∈ wsX4_tablesOf := by decide +kernel
theorem iX4_tablesOf_X4 : ∀ w ∈ wsX40, w ∈ wsX4_tablesOf := by decide +kernel
theorem iX4_tablesOf_X0 : ∀ w ∈ wsX00, w ∈ wsX4_tablesOf := by decide +kernel
def P_X4_tablesOf (gh gs gr : St) (a1 : Int32) (ok : Int32 → St → St → St → Prop) (ex : String → Prop) : Prop := (((¬ a1 < 0 ∧ a1 < (gh 0 2)) → (∃ r1 : Int32, P_X0_countTables gh a1 r1 ∧ (ok r1 gh gs gr))) ∧ (¬ (¬ a1 < 0 ∧ a1 < (gh 0 2)) → (ex E_i)))
set_option maxRecDepth 100000 in
set_option maxHeartbeats 4000000 in
theorem c_X4_tablesOf (l : Launch) (hfl : l.stackTraces = false) (dC : Nat → ClassId) (dI : Nat → Nat → Nat) (cI : ClassId) (b0 : Nat) (qh qs qr : Nat → Nat) (gh gs gr : St) (a1 : Int32) (ok : Int32 → St → St → St → Prop) (ex : String → Prop) (hp : P_X4_tablesOf gh gs gr a1 ok ex) (sz : Nat) : vx_Met l yX4_tablesOf wsX4_tablesOf { frames := 7, cells := 1, slots := 6, locals := 103 } (va_Pc [.ref b0, .int a1] (tpS (dC, dI) vwCl [(cI, .int)] (wX4 b0 qh qs qr cI gh gs gr) sz)) (va_Qi (fun (r : Int32) (u : St × St × St) => ok r u.1 u.2.1 u.2.2) (fun u t => wqB (dC, dI) vwCl (wX4 b0 qh qs qr cI u.1 u.2.1 u.2.2) (va_A (wX4 b0 qh qs qr cI gh gs gr) sz) t) (va_A (wX4 b0 qh qs qr cI gh gs gr) sz)) (vx_X (fun _ : Unit => True) (fun E _ t => ex E ∧ wqB (dC, dI) vwCl (wX4 b0 qh qs qr cI gh gs gr) (va_A (wX4 b0 qh qs qr cI gh gs gr) sz) t) (va_A (wX4 b0 qh qs qr cI gh gs gr) sz)) 1 6 (va_A (wX4 b0 qh qs qr cI gh gs gr) sz) := by
  refine tx_met (fun A => (va_Qi (fun (r : Int32) (u : St × St × St) => ok r u.1 u.2.1 u.2.2) (fun u t => wqB (dC, dI) vwCl (wX4 b0 qh qs qr cI u.1 u.2.1 u.2.2) A t) A)) (fun A => (vx_X (fun _ : Unit => True) (fun E _ t => ex E ∧ wqB (dC, dI) vwCl (wX4 b0 qh qs qr cI gh gs gr) A t) A)) (cc := cX4_tablesOf) (maxL := 2) (ret := (some .int)) (by decide) rfl (Nat.le_of_ble_eq_true rfl) ?_
  intro p e s m below meth c A hx hb hml hr hlk het hts hown hP hK hN hD hA hXS hXH ls hl
  have hS : va_S A s.heap s.heap [] := va_S.rf
  have hl : lv_has ls 2 [(0, .ref b0), (1, .int a1)] := hl
  unfold P_X4_tablesOf at hp
  refine lv_iload_n hx hb dX4_tablesOf_0 rfl (lv_at hl 1 rfl) ?_
  refine lv_aload_n hx hb dX4_tablesOf_1 rfl (lv_at hl 0 rfl) ?_
  refine va_get (D := (dC, dI)) (ci := 4) (v := .ref (qh 0)) (C := RX4) (T := TX4) (N := 3) hx hb hts iX4_tablesOf_X4 hown hK hP 0 rfl rfl 0 (by decide) (hts _ kX4_tablesOf_0) (fun _ h9 => h9) rfl dX4_tablesOf_2 ?_
  refine va_getN (D := (dC, dI)) (ci := 0) (v := .int (gh 0 2)) (C := RX0) (T := TX0) (N := 9) (host := RX4) hx hb hts iX4_tablesOf_X0 hown hK (t4h hP) 0 rfl rfl 2 (by decide) (nw_use hN 8 rfl) (fun _ h9 => h9) rfl dX4_tablesOf_5 ?_
  refine tx_S (As := [.int a1, .int (gh 0 2)]) (rest := []) ⟨hx, hb, hml, hown, hts⟩ (c_X4_checkIndex l hfl a1 (gh 0 2) _) (va_cwS 2 hts gX4_tablesOf_X4_checkIndex rfl rfl rfl (by decide +kernel) ⟨Nat.le_of_ble_eq_true rfl, Nat.le_of_ble_eq_true rfl⟩) hP hS hA hXS hXH het hlk rfl rfl hl.1 (Nat.le_of_ble_eq_true rfl) ⟨Nat.le_of_ble_eq_true rfl, Nat.le_of_ble_eq_true rfl⟩ ⟨Nat.le_of_ble_eq_true rfl, Nat.le_of_ble_eq_true rfl⟩ dX4_tablesOf_8 (fun hno t hPt hFt => ⟨(), trivial, ⟨hp.2 hno, hPt, hD⟩, hFt⟩) (fun hok H locs hP hS => ?_)
  have hp := hp.1 hok
  refine lv_aload_n hx hb dX4_tablesOf_11 rfl (lv_at hl 0 rfl) ?_
  refine va_get (D := (dC, dI)) (ci := 4) (v := .ref (qh 0)) (C := RX4) (T := TX4) (N := 3) hx hb hts iX4_tablesOf_X4 hown hK hP 0 rfl rfl 0 (by decide) (hts _ kX4_tablesOf_0) (fun _ h9 => h9) rfl dX4_tablesOf_12 ?_
  refine lv_iload_n hx hb dX4_tablesOf_15 rfl (lv_at hl 1 rfl) ?_
  obtain ⟨r1, hr1, hp⟩ := hp
  refine ro_V (As := [.int a1]) (rest := []) ⟨hx, hb, hml, hown, hts⟩ (c_X0_countTables l dC dI cI qh gh a1 r1 hr1) (cwV 1 hts gX4_tablesOf_X0_countTables rfl rfl rfl (by decide +kernel) ⟨Nat.le_of_ble_eq_true rfl, Nat.le_of_ble_eq_true rfl⟩) (t4h hP) hK hN rfl rfl rfl rfl hl.1 (Nat.le_of_ble_eq_true rfl) ⟨Nat.le_of_ble_eq_true rfl, Nat.le_of_ble_eq_true rfl⟩ dX4_tablesOf_16 ?_
  refine vx_ret (W.widen (k := 1) (n := 6) (Nat.le_of_ble_eq_true rfl) (Nat.le_of_ble_eq_true rfl) ?_)
  exact W.iret hx hb hr (fun t ht _ => ⟨⟨_, (gh, gs, gr), rfl, hp, by rw [ht]; exact hP, hD⟩, hS.F ht⟩) hS.2.2 dX4_tablesOf_19
theorem kX4_waiting_0 : (.fieldLink RX4 10 "Meeplehouse" "hall" "LMeeplehouse$Hall;" : Cond) ∈ wsX4_waiting := by decide +kernel
theorem iX4_waiting_X4 : ∀ w ∈ wsX40, w ∈ wsX4_waiting := by decide +kernel
def P_X4_waiting (gh gs gr : St) (r : Int32) : Prop := (∃ r1 : Int32, P_X0_countWaiting gh r1 ∧ (r = r1))
set_option maxRecDepth 100000 in
set_option maxHeartbeats 4000000 in
theorem c_X4_waiting (l : Launch) (dC : Nat → ClassId) (dI : Nat → Nat → Nat) (cI : ClassId) (b0 : Nat) (qh qs qr : Nat → Nat) (gh gs gr : St) (r : Int32) (hp : P_X4_waiting gh gs gr r) : Met l yX4_waiting wsX4_waiting { frames := 2, cells := 0, slots := 0, locals := 43 } (va_Pc [.ref b0] (rpS (dC, dI) vwCl [(cI, .int)] (wX4 b0 qh qs qr cI gh gs gr))) (QcRead r) 0 0 (fun _ => False) := by
  refine ro_met (cc := cX4_waiting) (maxL := 1) (ret := (some .int)) (by decide) rfl (Nat.le_of_ble_eq_true rfl) ?_
  intro p e s m below meth c hx hb hml hr hlk hts hown hP hK hN ls hl
  have hl : lv_has ls 1 [(0, .ref b0)] := hl
  unfold P_X4_waiting at hp
  refine lv_aload_n hx hb dX4_waiting_0 rfl (lv_at hl 0 rfl) ?_
  refine va_get (D := (dC, dI)) (ci := 4) (v := .ref (qh 0)) (C := RX4) (T := TX4) (N := 3) hx hb hts iX4_waiting_X4 hown hK hP 0 rfl rfl 0 (by decide) (hts _ kX4_waiting_0) (fun _ h9 => h9) rfl dX4_waiting_1 ?_
  obtain ⟨r1, hr1, hp⟩ := hp
  refine ro_V (As := []) (rest := []) ⟨hx, hb, hml, hown, hts⟩ (c_X0_countWaiting l dC dI cI qh gh r1 hr1) (cwV 0 hts gX4_waiting_X0_countWaiting rfl rfl rfl (by decide +kernel) ⟨Nat.le_of_ble_eq_true rfl, Nat.le_of_ble_eq_true rfl⟩) (t4h hP) hK hN rfl rfl rfl rfl hl.1 (Nat.le_of_ble_eq_true rfl) ⟨Nat.le_of_ble_eq_true rfl, Nat.le_of_ble_eq_true rfl⟩ dX4_waiting_4 ?_
  exact W.iret hx hb hr (fun t ht _ => ⟨by rw [hp], ht⟩) (fun _ h => nomatch h) dX4_waiting_7
theorem kX4_waste_0 : (.fieldLink RX4 10 "Meeplehouse" "hall" "LMeeplehouse$Hall;" : Cond) ∈ wsX4_waste := by decide +kernel
theorem iX4_waste_X4 : ∀ w ∈ wsX40, w ∈ wsX4_waste := by decide +kernel
def P_X4_waste (gh gs gr : St) (a1 : Int32) (ok : Int32 → St → St → St → Prop) (ex : String → Prop) : Prop := (((¬ a1 < (1 : Int32) ∧ a1 ≤ (12 : Int32)) → (∃ r1 : Int32, P_X0_leastWaste gh a1 r1 ∧ (ok r1 gh gs gr))) ∧ (¬ (¬ a1 < (1 : Int32) ∧ a1 ≤ (12 : Int32)) → (ex E_a)))
set_option maxRecDepth 100000 in
set_option maxHeartbeats 4000000 in
theorem c_X4_waste (l : Launch) (hfl : l.stackTraces = false) (dC : Nat → ClassId) (dI : Nat → Nat → Nat) (cI : ClassId) (b0 : Nat) (qh qs qr : Nat → Nat) (gh gs gr : St) (a1 : Int32) (ok : Int32 → St → St → St → Prop) (ex : String → Prop) (hp : P_X4_waste gh gs gr a1 ok ex) (sz : Nat) : vx_Met l yX4_waste wsX4_waste { frames := 7, cells := 1, slots := 6, locals := 104 } (va_Pc [.ref b0, .int a1] (tpS (dC, dI) vwCl [(cI, .int)] (wX4 b0 qh qs qr cI gh gs gr) sz)) (va_Qi (fun (r : Int32) (u : St × St × St) => ok r u.1 u.2.1 u.2.2) (fun u t => wqB (dC, dI) vwCl (wX4 b0 qh qs qr cI u.1 u.2.1 u.2.2) (va_A (wX4 b0 qh qs qr cI gh gs gr) sz) t) (va_A (wX4 b0 qh qs qr cI gh gs gr) sz)) (vx_X (fun _ : Unit => True) (fun E _ t => ex E ∧ wqB (dC, dI) vwCl (wX4 b0 qh qs qr cI gh gs gr) (va_A (wX4 b0 qh qs qr cI gh gs gr) sz) t) (va_A (wX4 b0 qh qs qr cI gh gs gr) sz)) 1 6 (va_A (wX4 b0 qh qs qr cI gh gs gr) sz) := by
  refine tx_met (fun A => (va_Qi (fun (r : Int32) (u : St × St × St) => ok r u.1 u.2.1 u.2.2) (fun u t => wqB (dC, dI) vwCl (wX4 b0 qh qs qr cI u.1 u.2.1 u.2.2) A t) A)) (fun A => (vx_X (fun _ : Unit => True) (fun E _ t => ex E ∧ wqB (dC, dI) vwCl (wX4 b0 qh qs qr cI gh gs gr) A t) A)) (cc := cX4_waste) (maxL := 2) (ret := (some .int)) (by decide) rfl (Nat.le_of_ble_eq_true rfl) ?_
  intro p e s m below meth c A hx hb hml hr hlk het hts hown hP hK hN hD hA hXS hXH ls hl
  have hS : va_S A s.heap s.heap [] := va_S.rf
  have hl : lv_has ls 2 [(0, .ref b0), (1, .int a1)] := hl
  unfold P_X4_waste at hp
  refine lv_iload_n hx hb dX4_waste_0 rfl (lv_at hl 1 rfl) ?_
  refine lv_iconst (v := 1) hx hb dX4_waste_1 (by decide) ?_
  refine lv_bipush (v := 12) hx hb dX4_waste_2 (by decide) ?_
  refine tx_S (As := [.int a1, .int (1 : Int32), .int (12 : Int32)]) (rest := []) ⟨hx, hb, hml, hown, hts⟩ (c_X4_checkRange l hfl a1 (1 : Int32) (12 : Int32) _) (va_cwS 3 hts gX4_waste_X4_checkRange rfl rfl rfl (by decide +kernel) ⟨Nat.le_of_ble_eq_true rfl, Nat.le_of_ble_eq_true rfl⟩) hP hS hA hXS hXH het hlk rfl rfl hl.1 (Nat.le_of_ble_eq_true rfl) ⟨Nat.le_of_ble_eq_true rfl, Nat.le_of_ble_eq_true rfl⟩ ⟨Nat.le_of_ble_eq_true rfl, Nat.le_of_ble_eq_true rfl⟩ dX4_waste_4 (fun hno t hPt hFt => ⟨(), trivial, ⟨hp.2 hno, hPt, hD⟩, hFt⟩) (fun hok H locs hP hS => ?_)
  have hp := hp.1 hok
  refine lv_aload_n hx hb dX4_waste_7 rfl (lv_at hl 0 rfl) ?_
  refine va_get (D := (dC, dI)) (ci := 4) (v := .ref (qh 0)) (C := RX4) (T := TX4) (N := 3) hx hb hts iX4_waste_X4 hown hK hP 0 rfl rfl 0 (by decide) (hts _ kX4_waste_0) (fun _ h9 => h9) rfl dX4_waste_8 ?_
  refine lv_iload_n hx hb dX4_waste_11 rfl (lv_at hl 1 rfl) ?_
  obtain ⟨r1, hr1, hp⟩ := hp
  refine ro_V (As := [.int a1]) (rest := []) ⟨hx, hb, hml, hown, hts⟩ (c_X0_leastWaste l dC dI cI qh gh a1 r1 hr1) (cwV 1 hts gX4_waste_X0_leastWaste rfl rfl rfl (by decide +kernel) ⟨Nat.le_of_ble_eq_true rfl, Nat.le_of_ble_eq_true rfl⟩) (t4h hP) hK hN rfl rfl rfl rfl hl.1 (Nat.le_of_ble_eq_true rfl) ⟨Nat.le_of_ble_eq_true rfl, Nat.le_of_ble_eq_true rfl⟩ dX4_waste_12 ?_
  refine vx_ret (W.widen (k := 1) (n := 6) (Nat.le_of_ble_eq_true rfl) (Nat.le_of_ble_eq_true rfl) ?_)
  exact W.iret hx hb hr (fun t ht _ => ⟨⟨_, (gh, gs, gr), rfl, hp, by rw [ht]; exact hP, hD⟩, hS.F ht⟩) hS.2.2 dX4_waste_15
theorem kX4_wasteByAll_0 : (.fieldLink RX4 10 "Meeplehouse" "hall" "LMeeplehouse$Hall;" : Cond) ∈ wsX4_wasteByAll := by decide +kernel
theorem iX4_wasteByAll_X4 : ∀ w ∈ wsX40, w ∈ wsX4_wasteByAll := by decide +kernel
def P_X4_wasteByAll (gh gs gr : St) (a1 : Int32) (ok : Int32 → St → St → St → Prop) (ex : String → Prop) : Prop := (((¬ a1 < (1 : Int32) ∧ a1 ≤ (12 : Int32)) → (∃ r1 : Int32, P_X0_leastWasteOfSets gh a1 r1 ∧ (ok r1 gh gs gr))) ∧ (¬ (¬ a1 < (1 : Int32) ∧ a1 ≤ (12 : Int32)) → (ex E_a)))
set_option maxRecDepth 100000 in
set_option maxHeartbeats 4000000 in
theorem c_X4_wasteByAll (l : Launch) (hfl : l.stackTraces = false) (dC : Nat → ClassId) (dI : Nat → Nat → Nat) (cI : ClassId) (b0 : Nat) (qh qs qr : Nat → Nat) (gh gs gr : St) (a1 : Int32) (ok : Int32 → St → St → St → Prop) (ex : String → Prop) (hp : P_X4_wasteByAll gh gs gr a1 ok ex) (sz : Nat) : vx_Met l yX4_wasteByAll wsX4_wasteByAll { frames := 7, cells := 1, slots := 6, locals := 104 } (va_Pc [.ref b0, .int a1] (tpS (dC, dI) vwCl [(cI, .int)] (wX4 b0 qh qs qr cI gh gs gr) sz)) (va_Qi (fun (r : Int32) (u : St × St × St) => ok r u.1 u.2.1 u.2.2) (fun u t => wqB (dC, dI) vwCl (wX4 b0 qh qs qr cI u.1 u.2.1 u.2.2) (va_A (wX4 b0 qh qs qr cI gh gs gr) sz) t) (va_A (wX4 b0 qh qs qr cI gh gs gr) sz)) (vx_X (fun _ : Unit => True) (fun E _ t => ex E ∧ wqB (dC, dI) vwCl (wX4 b0 qh qs qr cI gh gs gr) (va_A (wX4 b0 qh qs qr cI gh gs gr) sz) t) (va_A (wX4 b0 qh qs qr cI gh gs gr) sz)) 1 6 (va_A (wX4 b0 qh qs qr cI gh gs gr) sz) := by
  refine tx_met (fun A => (va_Qi (fun (r : Int32) (u : St × St × St) => ok r u.1 u.2.1 u.2.2) (fun u t => wqB (dC, dI) vwCl (wX4 b0 qh qs qr cI u.1 u.2.1 u.2.2) A t) A)) (fun A => (vx_X (fun _ : Unit => True) (fun E _ t => ex E ∧ wqB (dC, dI) vwCl (wX4 b0 qh qs qr cI gh gs gr) A t) A)) (cc := cX4_wasteByAll) (maxL := 2) (ret := (some .int)) (by decide) rfl (Nat.le_of_ble_eq_true rfl) ?_
  intro p e s m below meth c A hx hb hml hr hlk het hts hown hP hK hN hD hA hXS hXH ls hl
  have hS : va_S A s.heap s.heap [] := va_S.rf
  have hl : lv_has ls 2 [(0, .ref b0), (1, .int a1)] := hl
  unfold P_X4_wasteByAll at hp
  refine lv_iload_n hx hb dX4_wasteByAll_0 rfl (lv_at hl 1 rfl) ?_
  refine lv_iconst (v := 1) hx hb dX4_wasteByAll_1 (by decide) ?_
  refine lv_bipush (v := 12) hx hb dX4_wasteByAll_2 (by decide) ?_
  refine tx_S (As := [.int a1, .int (1 : Int32), .int (12 : Int32)]) (rest := []) ⟨hx, hb, hml, hown, hts⟩ (c_X4_checkRange l hfl a1 (1 : Int32) (12 : Int32) _) (va_cwS 3 hts gX4_wasteByAll_X4_checkRange rfl rfl rfl (by decide +kernel) ⟨Nat.le_of_ble_eq_true rfl, Nat.le_of_ble_eq_true rfl⟩) hP hS hA hXS hXH het hlk rfl rfl hl.1 (Nat.le_of_ble_eq_true rfl) ⟨Nat.le_of_ble_eq_true rfl, Nat.le_of_ble_eq_true rfl⟩ ⟨Nat.le_of_ble_eq_true rfl, Nat.le_of_ble_eq_true rfl⟩ dX4_wasteByAll_4 (fun hno t hPt hFt => ⟨(), trivial, ⟨hp.2 hno, hPt, hD⟩, hFt⟩) (fun hok H locs hP hS => ?_)
  have hp := hp.1 hok
  refine lv_aload_n hx hb dX4_wasteByAll_7 rfl (lv_at hl 0 rfl) ?_
  refine va_get (D := (dC, dI)) (ci := 4) (v := .ref (qh 0)) (C := RX4) (T := TX4) (N := 3) hx hb hts iX4_wasteByAll_X4 hown hK hP 0 rfl rfl 0 (by decide) (hts _ kX4_wasteByAll_0) (fun _ h9 => h9) rfl dX4_wasteByAll_8 ?_
  refine lv_iload_n hx hb dX4_wasteByAll_11 rfl (lv_at hl 1 rfl) ?_
  obtain ⟨r1, hr1, hp⟩ := hp
  refine ro_V (As := [.int a1]) (rest := []) ⟨hx, hb, hml, hown, hts⟩ (c_X0_leastWasteOfSets l dC dI cI qh gh a1 r1 hr1) (cwV 1 hts gX4_wasteByAll_X0_leastWasteOfSets rfl rfl rfl (by decide +kernel) ⟨Nat.le_of_ble_eq_true rfl, Nat.le_of_ble_eq_true rfl⟩) (t4h hP) hK hN rfl rfl rfl rfl hl.1 (Nat.le_of_ble_eq_true rfl) ⟨Nat.le_of_ble_eq_true rfl, Nat.le_of_ble_eq_true rfl⟩ dX4_wasteByAll_12 ?_
  refine vx_ret (W.widen (k := 1) (n := 6) (Nat.le_of_ble_eq_true rfl) (Nat.le_of_ble_eq_true rfl) ?_)
  exact W.iret hx hb hr (fun t ht _ => ⟨⟨_, (gh, gs, gr), rfl, hp, by rw [ht]; exact hP, hD⟩, hS.F ht⟩) hS.2.2 dX4_wasteByAll_15
theorem kX4_left_0 : (.fieldLink RX4 10 "Meeplehouse" "hall" "LMeeplehouse$Hall;" : Cond) ∈ wsX4_left := by decide +kernel
theorem iX4_left_X4 : ∀ w ∈ wsX40, w ∈ wsX4_left := by decide +kernel
theorem iX4_left_X0 : ∀ w ∈ wsX00, w ∈ wsX4_left := by decide +kernel
def P_X4_left (gh gs gr : St) (a1 : Int32) (ok : Int32 → St → St → St → Prop) (ex : String → Prop) : Prop := (((¬ a1 < 0 ∧ a1 < (gh 0 2)) → (∃ r1 : Int32, P_X0_isSeated gh a1 r1 ∧ (((¬ r1 = 0) → (∃ r2 : Int32, P_X0_minutesLeft gh a1 r2 ∧ (ok r2 gh gs gr))) ∧ (¬ (¬ r1 = 0) → (ex E_s))))) ∧ (¬ (¬ a1 < 0 ∧ a1 < (gh 0 2)) → (ex E_i)))
set_option maxRecDepth 100000 in
set_option maxHeartbeats 4000000 in
theorem c_X4_left (l : Launch) (hfl : l.stackTraces = false) (dC : Nat → ClassId) (dI : Nat → Nat → Nat) (cI : ClassId) (b0 : Nat) (qh qs qr : Nat → Nat) (gh gs gr : St) (a1 : Int32) (ok : Int32 → St → St → St → Prop) (ex : String → Prop) (hp : P_X4_left gh gs gr a1 ok ex) (sz : Nat) : vx_Met l yX4_left wsX4_left { frames := 7, cells := 2, slots := 12, locals := 103 } (va_Pc [.ref b0, .int a1] (tpS (dC, dI) vwCl [(cI, .int)] (wX4 b0 qh qs qr cI gh gs gr) sz)) (va_Qi (fun (r : Int32) (u : St × St × St) => ok r u.1 u.2.1 u.2.2) (fun u t => wqB (dC, dI) vwCl (wX4 b0 qh qs qr cI u.1 u.2.1 u.2.2) (va_A (wX4 b0 qh qs qr cI gh gs gr) sz) t) (va_A (wX4 b0 qh qs qr cI gh gs gr) sz)) (vx_X (fun _ : Unit => True) (fun E _ t => ex E ∧ wqB (dC, dI) vwCl (wX4 b0 qh qs qr cI gh gs gr) (va_A (wX4 b0 qh qs qr cI gh gs gr) sz) t) (va_A (wX4 b0 qh qs qr cI gh gs gr) sz)) 2 12 (va_A (wX4 b0 qh qs qr cI gh gs gr) sz) := by
  refine tx_met (fun A => (va_Qi (fun (r : Int32) (u : St × St × St) => ok r u.1 u.2.1 u.2.2) (fun u t => wqB (dC, dI) vwCl (wX4 b0 qh qs qr cI u.1 u.2.1 u.2.2) A t) A)) (fun A => (vx_X (fun _ : Unit => True) (fun E _ t => ex E ∧ wqB (dC, dI) vwCl (wX4 b0 qh qs qr cI gh gs gr) A t) A)) (cc := cX4_left) (maxL := 2) (ret := (some .int)) (by decide) rfl (Nat.le_of_ble_eq_true rfl) ?_
  intro p e s m below meth c A hx hb hml hr hlk het hts hown hP hK hN hD hA hXS hXH ls hl
  have hS : va_S A s.heap s.heap [] := va_S.rf
  have hl : lv_has ls 2 [(0, .ref b0), (1, .int a1)] := hl
  unfold P_X4_left at hp
  refine lv_iload_n hx hb dX4_left_0 rfl (lv_at hl 1 rfl) ?_
  refine lv_aload_n hx hb dX4_left_1 rfl (lv_at hl 0 rfl) ?_
  refine va_get (D := (dC, dI)) (ci := 4) (v := .ref (qh 0)) (C := RX4) (T := TX4) (N := 3) hx hb hts iX4_left_X4 hown hK hP 0 rfl rfl 0 (by decide) (hts _ kX4_left_0) (fun _ h9 => h9) rfl dX4_left_2 ?_
  refine va_getN (D := (dC, dI)) (ci := 0) (v := .int (gh 0 2)) (C := RX0) (T := TX0) (N := 9) (host := RX4) hx hb hts iX4_left_X0 hown hK (t4h hP) 0 rfl rfl 2 (by decide) (nw_use hN 8 rfl) (fun _ h9 => h9) rfl dX4_left_5 ?_
  refine tx_S (As := [.int a1, .int (gh 0 2)]) (rest := []) ⟨hx, hb, hml, hown, hts⟩ (c_X4_checkIndex l hfl a1 (gh 0 2) _) (va_cwS 2 hts gX4_left_X4_checkIndex rfl rfl rfl (by decide +kernel) ⟨Nat.le_of_ble_eq_true rfl, Nat.le_of_ble_eq_true rfl⟩) hP hS hA hXS hXH het hlk rfl rfl hl.1 (Nat.le_of_ble_eq_true rfl) ⟨Nat.le_of_ble_eq_true rfl, Nat.le_of_ble_eq_true rfl⟩ ⟨Nat.le_of_ble_eq_true rfl, Nat.le_of_ble_eq_true rfl⟩ dX4_left_8 (fun hno t hPt hFt => ⟨(), trivial, ⟨hp.2 hno, hPt, hD⟩, hFt⟩) (fun hok H locs hP hS => ?_)
  have hp := hp.1 hok
  refine lv_aload_n hx hb dX4_left_11 rfl (lv_at hl 0 rfl) ?_
  refine va_get (D := (dC, dI)) (ci := 4) (v := .ref (qh 0)) (C := RX4) (T := TX4) (N := 3) hx hb hts iX4_left_X4 hown hK hP 0 rfl rfl 0 (by decide) (hts _ kX4_left_0) (fun _ h9 => h9) rfl dX4_left_12 ?_
  refine lv_iload_n hx hb dX4_left_15 rfl (lv_at hl 1 rfl) ?_
  obtain ⟨r1, hr1, hp⟩ := hp
  refine ro_V (As := [.int a1]) (rest := []) ⟨hx, hb, hml, hown, hts⟩ (c_X0_isSeated l dC dI cI qh gh a1 r1 hr1) (cwV 1 hts gX4_left_X0_isSeated rfl rfl rfl (by decide +kernel) ⟨Nat.le_of_ble_eq_true rfl, Nat.le_of_ble_eq_true rfl⟩) (t4h hP) hK hN rfl rfl rfl rfl hl.1 (Nat.le_of_ble_eq_true rfl) ⟨Nat.le_of_ble_eq_true rfl, Nat.le_of_ble_eq_true rfl⟩ dX4_left_16 ?_
  refine tx_S (As := [.int r1]) (rest := []) ⟨hx, hb, hml, hown, hts⟩ (c_X4_checkState l hfl r1 _) (va_cwS 1 hts gX4_left_X4_checkState rfl rfl rfl (by decide +kernel) ⟨Nat.le_of_ble_eq_true rfl, Nat.le_of_ble_eq_true rfl⟩) hP hS hA hXS hXH het hlk rfl rfl hl.1 (Nat.le_of_ble_eq_true rfl) ⟨Nat.le_of_ble_eq_true rfl, Nat.le_of_ble_eq_true rfl⟩ ⟨Nat.le_of_ble_eq_true rfl, Nat.le_of_ble_eq_true rfl⟩ dX4_left_19 (fun hno t hPt hFt => ⟨(), trivial, ⟨hp.2 hno, hPt, hD⟩, hFt⟩) (fun hok H locs hP hS => ?_)
  have hp := hp.1 hok
  refine lv_aload_n hx hb dX4_left_22 rfl (lv_at hl 0 rfl) ?_
  refine va_get (D := (dC, dI)) (ci := 4) (v := .ref (qh 0)) (C := RX4) (T := TX4) (N := 3) hx hb hts iX4_left_X4 hown hK hP 0 rfl rfl 0 (by decide) (hts _ kX4_left_0) (fun _ h9 => h9) rfl dX4_left_23 ?_
  refine lv_iload_n hx hb dX4_left_26 rfl (lv_at hl 1 rfl) ?_
  obtain ⟨r2, hr2, hp⟩ := hp
  refine ro_V (As := [.int a1]) (rest := []) ⟨hx, hb, hml, hown, hts⟩ (c_X0_minutesLeft l dC dI cI qh gh a1 r2 hr2) (cwV 1 hts gX4_left_X0_minutesLeft rfl rfl rfl (by decide +kernel) ⟨Nat.le_of_ble_eq_true rfl, Nat.le_of_ble_eq_true rfl⟩) (t4h hP) hK hN rfl rfl rfl rfl hl.1 (Nat.le_of_ble_eq_true rfl) ⟨Nat.le_of_ble_eq_true rfl, Nat.le_of_ble_eq_true rfl⟩ dX4_left_27 ?_
  refine vx_ret (W.widen (k := 2) (n := 12) (Nat.le_of_ble_eq_true rfl) (Nat.le_of_ble_eq_true rfl) ?_)
  exact W.iret hx hb hr (fun t ht _ => ⟨⟨_, (gh, gs, gr), rfl, hp, by rw [ht]; exact hP, hD⟩, hS.F ht⟩) hS.2.2 dX4_left_30
theorem kX4_isOffered_0 : (.fieldLink RX4 10 "Meeplehouse" "hall" "LMeeplehouse$Hall;" : Cond) ∈ wsX4_isOffered := by decide +kernel
theorem iX4_isOffered_X4 : ∀ w ∈ wsX40, w ∈ wsX4_isOffered := by decide +kernel
theorem kX4_isOffered_2 : (.fieldLink RX4 19 "Meeplehouse" "shelf" "LMeeplehouse$Shelf;" : Cond) ∈ wsX4_isOffered := by decide +kernel
theorem iX4_isOffered_X0 : ∀ w ∈ wsX00, w ∈ wsX4_isOffered := by decide +kernel
def P_X4_isOffered (gh gs gr : St) (a1 : Int32) (a2 : Int32) (r : Int32) : Prop := (∃ r1 : Int32, P_X0_isSeated gh a1 r1 ∧ ((r1 = 0 → (r = (0 : Int32))) ∧ (¬ r1 = 0 → (∃ r2 : Int32, P_X3_heldBy gs a1 r2 ∧ ((¬ r2 = (-1 : Int32) → (r = (0 : Int32))) ∧ (r2 = (-1 : Int32) → (∃ r4 : Int32, P_X0_minutesLeft gh a1 r4 ∧ (∃ r5 : Int32, P_X3_suits gs a2 (f_at 30 (gh 3) a1) r4 r5 ∧ ((r5 = 0 → (r = (0 : Int32))) ∧ (¬ r5 = 0 → (∃ r6 : Int32, P_X3_bestCopy gs a2 r6 ∧ ((r6 = (-1 : Int32) → (r = (0 : Int32))) ∧ (¬ r6 = (-1 : Int32) → (r = (1 : Int32)))))))))))))))
set_option maxRecDepth 100000 in
set_option maxHeartbeats 4000000 in
theorem c_X4_isOffered (l : Launch) (dC : Nat → ClassId) (dI : Nat → Nat → Nat) (cI : ClassId) (b0 : Nat) (qh qs qr : Nat → Nat) (gh gs gr : St) (a1 : Int32) (a2 : Int32) (r : Int32) (hp : P_X4_isOffered gh gs gr a1 a2 r) : Met l yX4_isOffered wsX4_isOffered { frames := 4, cells := 0, slots := 0, locals := 93 } (va_Pc [.ref b0, .int a1, .int a2] (rpS (dC, dI) vwCl [(cI, .int)] (wX4 b0 qh qs qr cI gh gs gr))) (QcRead r) 0 0 (fun _ => False) := by
  refine ro_met (cc := cX4_isOffered) (maxL := 3) (ret := (some .boolean)) (by decide) rfl (Nat.le_of_ble_eq_true rfl) ?_
  intro p e s m below meth c hx hb hml hr hlk hts hown hP hK hN ls hl
  have hl : lv_has ls 3 [(0, .ref b0), (1, .int a1), (2, .int a2)] := hl
  unfold P_X4_isOffered at hp
  refine lv_aload_n hx hb dX4_isOffered_0 rfl (lv_at hl 0 rfl) ?_
  refine va_get (D := (dC, dI)) (ci := 4) (v := .ref (qh 0)) (C := RX4) (T := TX4) (N := 3) hx hb hts iX4_isOffered_X4 hown hK hP 0 rfl rfl 0 (by decide) (hts _ kX4_isOffered_0) (fun _ h9 => h9) rfl dX4_isOffered_1 ?_
  refine lv_iload_n hx hb dX4_isOffered_4 rfl (lv_at hl 1 rfl) ?_
  obtain ⟨r1, hr1, hp⟩ := hp
  refine ro_V (As := [.int a1]) (rest := []) ⟨hx, hb, hml, hown, hts⟩ (c_X0_isSeated l dC dI cI qh gh a1 r1 hr1) (cwV 1 hts gX4_isOffered_X0_isSeated rfl rfl rfl (by decide +kernel) ⟨Nat.le_of_ble_eq_true rfl, Nat.le_of_ble_eq_true rfl⟩) (t4h hP) hK hN rfl rfl rfl rfl hl.1 (Nat.le_of_ble_eq_true rfl) ⟨Nat.le_of_ble_eq_true rfl, Nat.le_of_ble_eq_true rfl⟩ dX4_isOffered_5 ?_
  refine lv_if_eq (tgt := 69) hx hb dX4_isOffered_8 (by decide) (fun c10 => ?_) (fun c10 => ?_)
  · have hp := hp.1 c10
    refine lv_iconst (v := 0) hx hb dX4_isOffered_69 (by decide) ?_
    exact W.zret (ty := .boolean) hx hb hr rfl (fun t ht _ => ⟨by rw [hp], ht⟩) (fun _ h => nomatch h) dX4_isOffered_70
  · have hp := hp.2 c10
    refine lv_aload_n hx hb dX4_isOffered_11 rfl (lv_at hl 0 rfl) ?_
    refine va_get (D := (dC, dI)) (ci := 4) (v := .ref (qs 0)) (C := RX4) (T := TX4) (N := 3) hx hb hts iX4_isOffered_X4 hown hK hP 0 rfl rfl 1 (by decide) (hts _ kX4_isOffered_2) (fun _ h9 => h9) rfl dX4_isOffered_12 ?_
    refine lv_iload_n hx hb dX4_isOffered_15 rfl (lv_at hl 1 rfl) ?_
    obtain ⟨r2, hr2, hp⟩ := hp
    refine ro_V (As := [.int a1]) (rest := []) ⟨hx, hb, hml, hown, hts⟩ (c_X3_heldBy l dC dI cI qs gs a1 r2 hr2) (cwV 1 hts gX4_isOffered_X3_heldBy rfl rfl rfl (by decide +kernel) ⟨Nat.le_of_ble_eq_true rfl, Nat.le_of_ble_eq_true rfl⟩) (t4s hP) hK hN rfl rfl rfl rfl hl.1 (Nat.le_of_ble_eq_true rfl) ⟨Nat.le_of_ble_eq_true rfl, Nat.le_of_ble_eq_true rfl⟩ dX4_isOffered_16 ?_
    refine lv_iconst (v := -1) hx hb dX4_isOffered_19 (by decide) ?_
    refine lv_icmp_ne (tgt := 69) hx hb dX4_isOffered_20 (by decide) (fun c9 => ?_) (fun c9 => ?_)
    · have hp := hp.1 c9
      refine lv_iconst (v := 0) hx hb dX4_isOffered_69 (by decide) ?_
      exact W.zret (ty := .boolean) hx hb hr rfl (fun t ht _ => ⟨by rw [hp], ht⟩) (fun _ h => nomatch h) dX4_isOffered_70
    · have hp := hp.2 c9
      refine lv_aload_n hx hb dX4_isOffered_23 rfl (lv_at hl 0 rfl) ?_
      refine va_get (D := (dC, dI)) (ci := 4) (v := .ref (qs 0)) (C := RX4) (T := TX4) (N := 3) hx hb hts iX4_isOffered_X4 hown hK hP 0 rfl rfl 1 (by decide) (hts _ kX4_isOffered_2) (fun _ h9 => h9) rfl dX4_isOffered_24 ?_
      refine lv_iload_n hx hb dX4_isOffered_27 rfl (lv_at hl 2 rfl) ?_
      refine lv_aload_n hx hb dX4_isOffered_28 rfl (lv_at hl 0 rfl) ?_
      refine va_get (D := (dC, dI)) (ci := 4) (v := .ref (qh 0)) (C := RX4) (T := TX4) (N := 3) hx hb hts iX4_isOffered_X4 hown hK hP 0 rfl rfl 0 (by decide) (hts _ kX4_isOffered_0) (fun _ h9 => h9) rfl dX4_isOffered_29 ?_
      refine va_getN (D := (dC, dI)) (ci := 0) (v := .ref (qh 5)) (C := RX0) (T := TX0) (N := 9) (host := RX4) hx hb hts iX4_isOffered_X0 hown hK (t4h hP) 0 rfl rfl 5 (by decide) (nw_use hN 9 rfl) (fun _ h9 => h9) rfl dX4_isOffered_32 ?_
      refine lv_iload_n hx hb dX4_isOffered_35 rfl (lv_at hl 1 rfl) ?_
      refine ro_V (As := [.int a1]) (rest := [.int a2, .ref (qs 0)]) ⟨hx, hb, hml, hown, hts⟩ (c_X2_at l dC dI cI (qh 5) (qh 6) 30 (gh 3) a1 (by decide)) (cwV 1 hts gX4_isOffered_X2_at rfl rfl rfl (by decide +kernel) ⟨Nat.le_of_ble_eq_true rfl, Nat.le_of_ble_eq_true rfl⟩) ((t4h hP).sub [5, 6] rfl) hK hN rfl rfl rfl rfl hl.1 (Nat.le_of_ble_eq_true rfl) ⟨Nat.le_of_ble_eq_true rfl, Nat.le_of_ble_eq_true rfl⟩ dX4_isOffered_36 ?_
      refine lv_aload_n hx hb dX4_isOffered_39 rfl (lv_at hl 0 rfl) ?_
      refine va_get (D := (dC, dI)) (ci := 4) (v := .ref (qh 0)) (C := RX4) (T := TX4) (N := 3) hx hb hts iX4_isOffered_X4 hown hK hP 0 rfl rfl 0 (by decide) (hts _ kX4_isOffered_0) (fun _ h9 => h9) rfl dX4_isOffered_40 ?_
      refine lv_iload_n hx hb dX4_isOffered_43 rfl (lv_at hl 1 rfl) ?_
      obtain ⟨r4, hr4, hp⟩ := hp
      refine ro_V (As := [.int a1]) (rest := [.int (f_at 30 (gh 3) a1), .int a2, .ref (qs 0)]) ⟨hx, hb, hml, hown, hts⟩ (c_X0_minutesLeft l dC dI cI qh gh a1 r4 hr4) (cwV 1 hts gX4_isOffered_X0_minutesLeft rfl rfl rfl (by decide +kernel) ⟨Nat.le_of_ble_eq_true rfl, Nat.le_of_ble_eq_true rfl⟩) (t4h hP) hK hN rfl rfl rfl rfl hl.1 (Nat.le_of_ble_eq_true rfl) ⟨Nat.le_of_ble_eq_true rfl, Nat.le_of_ble_eq_true rfl⟩ dX4_isOffered_44 ?_
      obtain ⟨r5, hr5, hp⟩ := hp
      refine ro_V (As := [.int a2, .int (f_at 30 (gh 3) a1), .int r4]) (rest := []) ⟨hx, hb, hml, hown, hts⟩ (c_X3_suits l dC dI cI qs gs a2 (f_at 30 (gh 3) a1) r4 r5 hr5) (cwV 3 hts gX4_isOffered_X3_suits rfl rfl rfl (by decide +kernel) ⟨Nat.le_of_ble_eq_true rfl, Nat.le_of_ble_eq_true rfl⟩) (t4s hP) hK hN rfl rfl rfl rfl hl.1 (Nat.le_of_ble_eq_true rfl) ⟨Nat.le_of_ble_eq_true rfl, Nat.le_of_ble_eq_true rfl⟩ dX4_isOffered_47 ?_
      refine lv_if_eq (tgt := 69) hx hb dX4_isOffered_50 (by decide) (fun c8 => ?_) (fun c8 => ?_)
      · have hp := hp.1 c8
        refine lv_iconst (v := 0) hx hb dX4_isOffered_69 (by decide) ?_
        exact W.zret (ty := .boolean) hx hb hr rfl (fun t ht _ => ⟨by rw [hp], ht⟩) (fun _ h => nomatch h) dX4_isOffered_70
      · have hp := hp.2 c8
        refine lv_aload_n hx hb dX4_isOffered_53 rfl (lv_at hl 0 rfl) ?_
        refine va_get (D := (dC, dI)) (ci := 4) (v := .ref (qs 0)) (C := RX4) (T := TX4) (N := 3) hx hb hts iX4_isOffered_X4 hown hK hP 0 rfl rfl 1 (by decide) (hts _ kX4_isOffered_2) (fun _ h9 => h9) rfl dX4_isOffered_54 ?_
        refine lv_iload_n hx hb dX4_isOffered_57 rfl (lv_at hl 2 rfl) ?_
        obtain ⟨r6, hr6, hp⟩ := hp
        refine ro_V (As := [.int a2]) (rest := []) ⟨hx, hb, hml, hown, hts⟩ (c_X3_bestCopy l dC dI cI qs gs a2 r6 hr6) (cwV 1 hts gX4_isOffered_X3_bestCopy rfl rfl rfl (by decide +kernel) ⟨Nat.le_of_ble_eq_true rfl, Nat.le_of_ble_eq_true rfl⟩) (t4s hP) hK hN rfl rfl rfl rfl hl.1 (Nat.le_of_ble_eq_true rfl) ⟨Nat.le_of_ble_eq_true rfl, Nat.le_of_ble_eq_true rfl⟩ dX4_isOffered_58 ?_
        refine lv_iconst (v := -1) hx hb dX4_isOffered_61 (by decide) ?_
        refine lv_icmp_eq (tgt := 69) hx hb dX4_isOffered_62 (by decide) (fun c7 => ?_) (fun c7 => ?_)
        · have hp := hp.1 c7
          refine lv_iconst (v := 0) hx hb dX4_isOffered_69 (by decide) ?_
          exact W.zret (ty := .boolean) hx hb hr rfl (fun t ht _ => ⟨by rw [hp], ht⟩) (fun _ h => nomatch h) dX4_isOffered_70
        · have hp := hp.2 c7
          refine lv_iconst (v := 1) hx hb dX4_isOffered_65 (by decide) ?_
          refine lv_goto (tgt := 70) hx hb dX4_isOffered_66 (by decide) ?_
          exact W.zret (ty := .boolean) hx hb hr rfl (fun t ht _ => ⟨by rw [hp], ht⟩) (fun _ h => nomatch h) dX4_isOffered_70
theorem kX4_offeredTitles_0 : (.fieldLink RX4 19 "Meeplehouse" "shelf" "LMeeplehouse$Shelf;" : Cond) ∈ wsX4_offeredTitles := by decide +kernel
theorem iX4_offeredTitles_X4 : ∀ w ∈ wsX40, w ∈ wsX4_offeredTitles := by decide +kernel
theorem iX4_offeredTitles_X3 : ∀ w ∈ wsX30, w ∈ wsX4_offeredTitles := by decide +kernel
def P_X4_offeredTitles (gh gs gr : St) (a1 : Int32) (r : Int32) : Prop := ∀ V4 : Int32 → Int32 → Prop, (∀ x2 x3 : Int32, (((gs 0 0) ≤ x3 → (r = x2)) ∧ (¬ (gs 0 0) ≤ x3 → (∃ r1 : Int32, P_X4_isOffered gh gs gr a1 x3 r1 ∧ ((r1 = 0 → (V4 x2 (x3 + (1 : Int32)))) ∧ (¬ r1 = 0 → (V4 (x2 ||| ((1 : Int32) <<< (x3 &&& 31))) (x3 + (1 : Int32)))))))) → V4 x2 x3) → (V4 (0 : Int32) (0 : Int32))
set_option maxRecDepth 100000 in
set_option maxHeartbeats 4000000 in
theorem c_X4_offeredTitles (l : Launch) (dC : Nat → ClassId) (dI : Nat → Nat → Nat) (cI : ClassId) (b0 : Nat) (qh qs qr : Nat → Nat) (gh gs gr : St) (a1 : Int32) (r : Int32) (hp : P_X4_offeredTitles gh gs gr a1 r) : Met l yX4_offeredTitles wsX4_offeredTitles { frames := 5, cells := 0, slots := 0, locals := 115 } (va_Pc [.ref b0, .int a1] (rpS (dC, dI) vwCl [(cI, .int)] (wX4 b0 qh qs qr cI gh gs gr))) (QcRead r) 0 0 (fun _ => False) := by
  refine ro_met (cc := cX4_offeredTitles) (maxL := 4) (ret := (some .int)) (by decide) rfl (Nat.le_of_ble_eq_true rfl) ?_
  intro p e s m below meth c hx hb hml hr hlk hts hown hP hK hN ls hl
  have hl : lv_has ls 4 [(0, .ref b0), (1, .int a1)] := hl
  obtain ⟨V4, eV4⟩ : ∃ V : Int32 → Int32 → Prop, V = (fun x2 x3 => ∀ ls : Array Slot, lv_has ls 4 [(0, .ref b0), (1, .int a1), (2, .int x2), (3, .int x3)] → W p l e { frames := 5, cells := 0, slots := 0, locals := 115 } s m ([.ref b0, .int a1] : List Value).toArray below meth c s.heap [] 0 0 (MQ below (QcRead r) ([.ref b0, .int a1] : List Value).toArray s 0 0 (fun _ => False)) (F0 m 4 ls [])) := ⟨_, rfl⟩
  have hp := hp V4
  have hp := hp (by
    intro x2 x3 hp
    rw [eV4]
    intro ls hl
    refine lv_iload_n hx hb dX4_offeredTitles_4 rfl (lv_at hl 3 rfl) ?_
    refine lv_aload_n hx hb dX4_offeredTitles_5 rfl (lv_at hl 0 rfl) ?_
    refine va_get (D := (dC, dI)) (ci := 4) (v := .ref (qs 0)) (C := RX4) (T := TX4) (N := 3) hx hb hts iX4_offeredTitles_X4 hown hK hP 0 rfl rfl 1 (by decide) (hts _ kX4_offeredTitles_0) (fun _ h9 => h9) rfl dX4_offeredTitles_6 ?_
    refine va_getN (D := (dC, dI)) (ci := 3) (v := .int (gs 0 0)) (C := RX3) (T := TX3) (N := 11) (host := RX4) hx hb hts iX4_offeredTitles_X3 hown hK (t4s hP) 0 rfl rfl 0 (by decide) (nw_use hN 10 rfl) (fun _ h9 => h9) rfl dX4_offeredTitles_9 ?_
    refine lv_icmp_ge (tgt := 36) hx hb dX4_offeredTitles_12 (by decide) (fun c3 => ?_) (fun c3 => ?_)
    · have hp := hp.1 c3
      refine lv_iload_n hx hb dX4_offeredTitles_36 rfl (lv_at hl 2 rfl) ?_
      exact W.iret hx hb hr (fun t ht _ => ⟨by rw [hp], ht⟩) (fun _ h => nomatch h) dX4_offeredTitles_37
    · have hp := hp.2 c3
      refine lv_aload_n hx hb dX4_offeredTitles_15 rfl (lv_at hl 0 rfl) ?_
      refine lv_iload_n hx hb dX4_offeredTitles_16 rfl (lv_at hl 1 rfl) ?_
      refine lv_iload_n hx hb dX4_offeredTitles_17 rfl (lv_at hl 3 rfl) ?_
      obtain ⟨r1, hr1, hp⟩ := hp
      refine ro_V (As := [.int a1, .int x3]) (rest := []) ⟨hx, hb, hml, hown, hts⟩ (c_X4_isOffered l dC dI cI b0 qh qs qr gh gs gr a1 x3 r1 hr1) (cwV 2 hts gX4_offeredTitles_X4_isOffered rfl rfl rfl (by decide +kernel) ⟨Nat.le_of_ble_eq_true rfl, Nat.le_of_ble_eq_true rfl⟩) hP hK hN rfl rfl rfl rfl hl.1 (Nat.le_of_ble_eq_true rfl) ⟨Nat.le_of_ble_eq_true rfl, Nat.le_of_ble_eq_true rfl⟩ dX4_offeredTitles_18 ?_
      refine lv_if_eq (tgt := 30) hx hb dX4_offeredTitles_21 (by decide) (fun c2 => ?_) (fun c2 => ?_)
      · have hp := hp.1 c2
        refine lv_iinc (v := x3 + (1 : Int32)) (lv' := [(3, .int (x3 + (1 : Int32))), (0, .ref b0), (1, .int a1), (2, .int x2)]) hx hb dX4_offeredTitles_30 hl (k := 3) rfl rfl (by decide) rfl (fun ls hl => ?_)
        refine lv_goto (tgt := 4) hx hb dX4_offeredTitles_33 (by decide) ?_
        rw [eV4] at hp
        exact hp _ (lv_sub hl [1, 2, 3, 0] rfl)
      · have hp := hp.2 c2
        refine lv_iload_n hx hb dX4_offeredTitles_24 rfl (lv_at hl 2 rfl) ?_
        refine lv_iconst (v := 1) hx hb dX4_offeredTitles_25 (by decide) ?_
        refine lv_iload_n hx hb dX4_offeredTitles_26 rfl (lv_at hl 3 rfl) ?_
        refine lv_ishl hx hb dX4_offeredTitles_27 ?_
        refine lv_ior hx hb dX4_offeredTitles_28 ?_
        refine lv_istore_n (lv' := [(2, .int (x2 ||| ((1 : Int32) <<< (x3 &&& 31)))), (0, .ref b0), (1, .int a1), (3, .int x3)]) hx hb dX4_offeredTitles_29 rfl hl (by decide) rfl (fun ls hl => ?_)
        refine lv_iinc (v := x3 + (1 : Int32)) (lv' := [(3, .int (x3 + (1 : Int32))), (2, .int (x2 ||| ((1 : Int32) <<< (x3 &&& 31)))), (0, .ref b0), (1, .int a1)]) hx hb dX4_offeredTitles_30 hl (k := 3) rfl rfl (by decide) rfl (fun ls hl => ?_)
        refine lv_goto (tgt := 4) hx hb dX4_offeredTitles_33 (by decide) ?_
        rw [eV4] at hp
        exact hp _ (lv_sub hl [2, 3, 1, 0] rfl))
  refine lv_iconst (v := 0) hx hb dX4_offeredTitles_0 (by decide) ?_
  refine lv_istore_n (lv' := [(2, .int (0 : Int32)), (0, .ref b0), (1, .int a1)]) hx hb dX4_offeredTitles_1 rfl hl (by decide) rfl (fun ls hl => ?_)
  refine lv_iconst (v := 0) hx hb dX4_offeredTitles_2 (by decide) ?_
  refine lv_istore_n (lv' := [(3, .int (0 : Int32)), (2, .int (0 : Int32)), (0, .ref b0), (1, .int a1)]) hx hb dX4_offeredTitles_3 rfl hl (by decide) rfl (fun ls hl => ?_)
  rw [eV4] at hp
  exact hp _ (lv_sub hl [2, 3, 1, 0] rfl)
theorem kX4_offers_0 : (.fieldLink RX4 10 "Meeplehouse" "hall" "LMeeplehouse$Hall;" : Cond) ∈ wsX4_offers := by decide +kernel
theorem iX4_offers_X4 : ∀ w ∈ wsX40, w ∈ wsX4_offers := by decide +kernel
theorem iX4_offers_X0 : ∀ w ∈ wsX00, w ∈ wsX4_offers := by decide +kernel
def P_X4_offers (gh gs gr : St) (a1 : Int32) (ok : Int32 → St → St → St → Prop) (ex : String → Prop) : Prop := (((¬ a1 < 0 ∧ a1 < (gh 0 2)) → (∃ r1 : Int32, P_X4_offeredTitles gh gs gr a1 r1 ∧ (∃ r2 : Int32, P_J6_bitCount_0f7a4 r1 r2 ∧ (ok r2 gh gs gr)))) ∧ (¬ (¬ a1 < 0 ∧ a1 < (gh 0 2)) → (ex E_i)))
set_option maxRecDepth 100000 in
set_option maxHeartbeats 4000000 in
theorem c_X4_offers (l : Launch) (hfl : l.stackTraces = false) (dC : Nat → ClassId) (dI : Nat → Nat → Nat) (cI : ClassId) (b0 : Nat) (qh qs qr : Nat → Nat) (gh gs gr : St) (a1 : Int32) (ok : Int32 → St → St → St → Prop) (ex : String → Prop) (hp : P_X4_offers gh gs gr a1 ok ex) (sz : Nat) : vx_Met l yX4_offers wsX4_offers { frames := 7, cells := 1, slots := 6, locals := 138 } (va_Pc [.ref b0, .int a1] (tpS (dC, dI) vwCl [(cI, .int)] (wX4 b0 qh qs qr cI gh gs gr) sz)) (va_Qi (fun (r : Int32) (u : St × St × St) => ok r u.1 u.2.1 u.2.2) (fun u t => wqB (dC, dI) vwCl (wX4 b0 qh qs qr cI u.1 u.2.1 u.2.2) (va_A (wX4 b0 qh qs qr cI gh gs gr) sz) t) (va_A (wX4 b0 qh qs qr cI gh gs gr) sz)) (vx_X (fun _ : Unit => True) (fun E _ t => ex E ∧ wqB (dC, dI) vwCl (wX4 b0 qh qs qr cI gh gs gr) (va_A (wX4 b0 qh qs qr cI gh gs gr) sz) t) (va_A (wX4 b0 qh qs qr cI gh gs gr) sz)) 1 6 (va_A (wX4 b0 qh qs qr cI gh gs gr) sz) := by
  refine tx_met (fun A => (va_Qi (fun (r : Int32) (u : St × St × St) => ok r u.1 u.2.1 u.2.2) (fun u t => wqB (dC, dI) vwCl (wX4 b0 qh qs qr cI u.1 u.2.1 u.2.2) A t) A)) (fun A => (vx_X (fun _ : Unit => True) (fun E _ t => ex E ∧ wqB (dC, dI) vwCl (wX4 b0 qh qs qr cI gh gs gr) A t) A)) (cc := cX4_offers) (maxL := 2) (ret := (some .int)) (by decide) rfl (Nat.le_of_ble_eq_true rfl) ?_
  intro p e s m below meth c A hx hb hml hr hlk het hts hown hP hK hN hD hA hXS hXH ls hl
  have hS : va_S A s.heap s.heap [] := va_S.rf
  have hl : lv_has ls 2 [(0, .ref b0), (1, .int a1)] := hl
  unfold P_X4_offers at hp
  refine lv_iload_n hx hb dX4_offers_0 rfl (lv_at hl 1 rfl) ?_
  refine lv_aload_n hx hb dX4_offers_1 rfl (lv_at hl 0 rfl) ?_
  refine va_get (D := (dC, dI)) (ci := 4) (v := .ref (qh 0)) (C := RX4) (T := TX4) (N := 3) hx hb hts iX4_offers_X4 hown hK hP 0 rfl rfl 0 (by decide) (hts _ kX4_offers_0) (fun _ h9 => h9) rfl dX4_offers_2 ?_
  refine va_getN (D := (dC, dI)) (ci := 0) (v := .int (gh 0 2)) (C := RX0) (T := TX0) (N := 9) (host := RX4) hx hb hts iX4_offers_X0 hown hK (t4h hP) 0 rfl rfl 2 (by decide) (nw_use hN 8 rfl) (fun _ h9 => h9) rfl dX4_offers_5 ?_
  refine tx_S (As := [.int a1, .int (gh 0 2)]) (rest := []) ⟨hx, hb, hml, hown, hts⟩ (c_X4_checkIndex l hfl a1 (gh 0 2) _) (va_cwS 2 hts gX4_offers_X4_checkIndex rfl rfl rfl (by decide +kernel) ⟨Nat.le_of_ble_eq_true rfl, Nat.le_of_ble_eq_true rfl⟩) hP hS hA hXS hXH het hlk rfl rfl hl.1 (Nat.le_of_ble_eq_true rfl) ⟨Nat.le_of_ble_eq_true rfl, Nat.le_of_ble_eq_true rfl⟩ ⟨Nat.le_of_ble_eq_true rfl, Nat.le_of_ble_eq_true rfl⟩ dX4_offers_8 (fun hno t hPt hFt => ⟨(), trivial, ⟨hp.2 hno, hPt, hD⟩, hFt⟩) (fun hok H locs hP hS => ?_)
  have hp := hp.1 hok
  refine lv_aload_n hx hb dX4_offers_11 rfl (lv_at hl 0 rfl) ?_
  refine lv_iload_n hx hb dX4_offers_12 rfl (lv_at hl 1 rfl) ?_
  obtain ⟨r1, hr1, hp⟩ := hp
  refine ro_V (As := [.int a1]) (rest := []) ⟨hx, hb, hml, hown, hts⟩ (c_X4_offeredTitles l dC dI cI b0 qh qs qr gh gs gr a1 r1 hr1) (cwV 1 hts gX4_offers_X4_offeredTitles rfl rfl rfl (by decide +kernel) ⟨Nat.le_of_ble_eq_true rfl, Nat.le_of_ble_eq_true rfl⟩) hP hK hN rfl rfl rfl rfl hl.1 (Nat.le_of_ble_eq_true rfl) ⟨Nat.le_of_ble_eq_true rfl, Nat.le_of_ble_eq_true rfl⟩ dX4_offers_13 ?_
  obtain ⟨r2, hr2, hp⟩ := hp
  refine ro_S (As := [.int r1]) (rest := []) ⟨hx, hb, hml, hown, hts⟩ (c_J6_bitCount_0f7a4 l dC dI cI r1 r2 hr2) (va_cwS 1 hts gX4_offers_J6_bitCount_0f7a4 rfl rfl rfl (by decide +kernel) ⟨Nat.le_of_ble_eq_true rfl, Nat.le_of_ble_eq_true rfl⟩) (hP.sub [] rfl) hK hN rfl rfl hl.1 (Nat.le_of_ble_eq_true rfl) ⟨Nat.le_of_ble_eq_true rfl, Nat.le_of_ble_eq_true rfl⟩ dX4_offers_16 ?_
  refine vx_ret (W.widen (k := 1) (n := 6) (Nat.le_of_ble_eq_true rfl) (Nat.le_of_ble_eq_true rfl) ?_)
  exact W.iret hx hb hr (fun t ht _ => ⟨⟨_, (gh, gs, gr), rfl, hp, by rw [ht]; exact hP, hD⟩, hS.F ht⟩) hS.2.2 dX4_offers_19
theorem kX4_offerAt_0 : (.fieldLink RX4 10 "Meeplehouse" "hall" "LMeeplehouse$Hall;" : Cond) ∈ wsX4_offerAt := by decide +kernel
theorem iX4_offerAt_X4 : ∀ w ∈ wsX40, w ∈ wsX4_offerAt := by decide +kernel
theorem iX4_offerAt_X0 : ∀ w ∈ wsX00, w ∈ wsX4_offerAt := by decide +kernel
theorem kX4_offerAt_3 : (.fieldLink RX4 19 "Meeplehouse" "shelf" "LMeeplehouse$Shelf;" : Cond) ∈ wsX4_offerAt := by decide +kernel
def P_X4_offerAt (gh gs gr : St) (a1 : Int32) (a2 : Int32) (ok : Int32 → St → St → St → Prop) (ex : String → Prop) : Prop := (((¬ a1 < 0 ∧ a1 < (gh 0 2)) → (∃ r1 : Int32, P_X4_offeredTitles gh gs gr a1 r1 ∧ (∃ r2 : Int32, P_J6_bitCount_0f7a4 r1 r2 ∧ (((¬ a2 < 0 ∧ a2 < r2) → (∃ r3 : Int32, P_X3_titleInPlace gs r1 a2 r3 ∧ (ok r3 gh gs gr))) ∧ (¬ (¬ a2 < 0 ∧ a2 < r2) → (ex E_i)))))) ∧ (¬ (¬ a1 < 0 ∧ a1 < (gh 0 2)) → (ex E_i)))
set_option maxRecDepth 100000 in
set_option maxHeartbeats 4000000 in
theorem c_X4_offerAt (l : Launch) (hfl : l.stackTraces = false) (dC : Nat → ClassId) (dI : Nat → Nat → Nat) (cI : ClassId) (b0 : Nat) (qh qs qr : Nat → Nat) (gh gs gr : St) (a1 : Int32) (a2 : Int32) (ok : Int32 → St → St → St → Prop) (ex : String → Prop) (hp : P_X4_offerAt gh gs gr a1 a2 ok ex) (sz : Nat) : vx_Met l yX4_offerAt wsX4_offerAt { frames := 7, cells := 2, slots := 12, locals := 138 } (va_Pc [.ref b0, .int a1, .int a2] (tpS (dC, dI) vwCl [(cI, .int)] (wX4 b0 qh qs qr cI gh gs gr) sz)) (va_Qi (fun (r : Int32) (u : St × St × St) => ok r u.1 u.2.1 u.2.2) (fun u t => wqB (dC, dI) vwCl (wX4 b0 qh qs qr cI u.1 u.2.1 u.2.2) (va_A (wX4 b0 qh qs qr cI gh gs gr) sz) t) (va_A (wX4 b0 qh qs qr cI gh gs gr) sz)) (vx_X (fun _ : Unit => True) (fun E _ t => ex E ∧ wqB (dC, dI) vwCl (wX4 b0 qh qs qr cI gh gs gr) (va_A (wX4 b0 qh qs qr cI gh gs gr) sz) t) (va_A (wX4 b0 qh qs qr cI gh gs gr) sz)) 2 12 (va_A (wX4 b0 qh qs qr cI gh gs gr) sz) := by
  refine tx_met (fun A => (va_Qi (fun (r : Int32) (u : St × St × St) => ok r u.1 u.2.1 u.2.2) (fun u t => wqB (dC, dI) vwCl (wX4 b0 qh qs qr cI u.1 u.2.1 u.2.2) A t) A)) (fun A => (vx_X (fun _ : Unit => True) (fun E _ t => ex E ∧ wqB (dC, dI) vwCl (wX4 b0 qh qs qr cI gh gs gr) A t) A)) (cc := cX4_offerAt) (maxL := 4) (ret := (some .int)) (by decide) rfl (Nat.le_of_ble_eq_true rfl) ?_
  intro p e s m below meth c A hx hb hml hr hlk het hts hown hP hK hN hD hA hXS hXH ls hl
  have hS : va_S A s.heap s.heap [] := va_S.rf
  have hl : lv_has ls 4 [(0, .ref b0), (1, .int a1), (2, .int a2)] := hl
  unfold P_X4_offerAt at hp
  refine lv_iload_n hx hb dX4_offerAt_0 rfl (lv_at hl 1 rfl) ?_
  refine lv_aload_n hx hb dX4_offerAt_1 rfl (lv_at hl 0 rfl) ?_
  refine va_get (D := (dC, dI)) (ci := 4) (v := .ref (qh 0)) (C := RX4) (T := TX4) (N := 3) hx hb hts iX4_offerAt_X4 hown hK hP 0 rfl rfl 0 (by decide) (hts _ kX4_offerAt_0) (fun _ h9 => h9) rfl dX4_offerAt_2 ?_
  refine va_getN (D := (dC, dI)) (ci := 0) (v := .int (gh 0 2)) (C := RX0) (T := TX0) (N := 9) (host := RX4) hx hb hts iX4_offerAt_X0 hown hK (t4h hP) 0 rfl rfl 2 (by decide) (nw_use hN 8 rfl) (fun _ h9 => h9) rfl dX4_offerAt_5 ?_
  refine tx_S (As := [.int a1, .int (gh 0 2)]) (rest := []) ⟨hx, hb, hml, hown, hts⟩ (c_X4_checkIndex l hfl a1 (gh 0 2) _) (va_cwS 2 hts gX4_offerAt_X4_checkIndex rfl rfl rfl (by decide +kernel) ⟨Nat.le_of_ble_eq_true rfl, Nat.le_of_ble_eq_true rfl⟩) hP hS hA hXS hXH het hlk rfl rfl hl.1 (Nat.le_of_ble_eq_true rfl) ⟨Nat.le_of_ble_eq_true rfl, Nat.le_of_ble_eq_true rfl⟩ ⟨Nat.le_of_ble_eq_true rfl, Nat.le_of_ble_eq_true rfl⟩ dX4_offerAt_8 (fun hno t hPt hFt => ⟨(), trivial, ⟨hp.2 hno, hPt, hD⟩, hFt⟩) (fun hok H locs hP hS => ?_)
  have hp := hp.1 hok
  refine lv_aload_n hx hb dX4_offerAt_11 rfl (lv_at hl 0 rfl) ?_
  refine lv_iload_n hx hb dX4_offerAt_12 rfl (lv_at hl 1 rfl) ?_
  obtain ⟨r1, hr1, hp⟩ := hp
  refine ro_V (As := [.int a1]) (rest := []) ⟨hx, hb, hml, hown, hts⟩ (c_X4_offeredTitles l dC dI cI b0 qh qs qr gh gs gr a1 r1 hr1) (cwV 1 hts gX4_offerAt_X4_offeredTitles rfl rfl rfl (by decide +kernel) ⟨Nat.le_of_ble_eq_true rfl, Nat.le_of_ble_eq_true rfl⟩) hP hK hN rfl rfl rfl rfl hl.1 (Nat.le_of_ble_eq_true rfl) ⟨Nat.le_of_ble_eq_true rfl, Nat.le_of_ble_eq_true rfl⟩ dX4_offerAt_13 ?_
  refine lv_istore_n (lv' := [(3, .int r1), (0, .ref b0), (1, .int a1), (2, .int a2)]) hx hb dX4_offerAt_16 rfl hl (by decide) rfl (fun ls hl => ?_)
  refine lv_iload_n hx hb dX4_offerAt_17 rfl (lv_at hl 3 rfl) ?_
  refine lv_iload_n hx hb dX4_offerAt_18 rfl (lv_at hl 0 rfl) ?_
  obtain ⟨r2, hr2, hp⟩ := hp
  refine ro_S (As := [.int r1]) (rest := [.int a2]) ⟨hx, hb, hml, hown, hts⟩ (c_J6_bitCount_0f7a4 l dC dI cI r1 r2 hr2) (va_cwS 1 hts gX4_offerAt_J6_bitCount_0f7a4 rfl rfl rfl (by decide +kernel) ⟨Nat.le_of_ble_eq_true rfl, Nat.le_of_ble_eq_true rfl⟩) (hP.sub [] rfl) hK hN rfl rfl hl.1 (Nat.le_of_ble_eq_true rfl) ⟨Nat.le_of_ble_eq_true rfl, Nat.le_of_ble_eq_true rfl⟩ dX4_offerAt_19 ?_
  refine tx_S (As := [.int a2, .int r2]) (rest := []) ⟨hx, hb, hml, hown, hts⟩ (c_X4_checkIndex l hfl a2 r2 _) (va_cwS 2 hts gX4_offerAt_X4_checkIndex rfl rfl rfl (by decide +kernel) ⟨Nat.le_of_ble_eq_true rfl, Nat.le_of_ble_eq_true rfl⟩) hP hS hA hXS hXH het hlk rfl rfl hl.1 (Nat.le_of_ble_eq_true rfl) ⟨Nat.le_of_ble_eq_true rfl, Nat.le_of_ble_eq_true rfl⟩ ⟨Nat.le_of_ble_eq_true rfl, Nat.le_of_ble_eq_true rfl⟩ dX4_offerAt_22 (fun hno t hPt hFt => ⟨(), trivial, ⟨hp.2 hno, hPt, hD⟩, hFt⟩) (fun hok H locs hP hS => ?_)
  have hp := hp.1 hok
  refine lv_aload_n hx hb dX4_offerAt_25 rfl (lv_at hl 1 rfl) ?_
  refine va_get (D := (dC, dI)) (ci := 4) (v := .ref (qs 0)) (C := RX4) (T := TX4) (N := 3) hx hb hts iX4_offerAt_X4 hown hK hP 0 rfl rfl 1 (by decide) (hts _ kX4_offerAt_3) (fun _ h9 => h9) rfl dX4_offerAt_26 ?_
  refine lv_iload_n hx hb dX4_offerAt_29 rfl (lv_at hl 0 rfl) ?_
  refine lv_iload_n hx hb dX4_offerAt_30 rfl (lv_at hl 3 rfl) ?_
  obtain ⟨r3, hr3, hp⟩ := hp
  refine ro_V (As := [.int r1, .int a2]) (rest := []) ⟨hx, hb, hml, hown, hts⟩ (c_X3_titleInPlace l dC dI cI qs gs r1 a2 r3 hr3) (cwV 2 hts gX4_offerAt_X3_titleInPlace rfl rfl rfl (by decide +kernel) ⟨Nat.le_of_ble_eq_true rfl, Nat.le_of_ble_eq_true rfl⟩) (t4s hP) hK hN rfl rfl rfl rfl hl.1 (Nat.le_of_ble_eq_true rfl) ⟨Nat.le_of_ble_eq_true rfl, Nat.le_of_ble_eq_true rfl⟩ dX4_offerAt_31 ?_
  refine vx_ret (W.widen (k := 2) (n := 12) (Nat.le_of_ble_eq_true rfl) (Nat.le_of_ble_eq_true rfl) ?_)
  exact W.iret hx hb hr (fun t ht _ => ⟨⟨_, (gh, gs, gr), rfl, hp, by rw [ht]; exact hP, hD⟩, hS.F ht⟩) hS.2.2 dX4_offerAt_34
theorem kX4_serve_0 : (.fieldLink RX4 10 "Meeplehouse" "hall" "LMeeplehouse$Hall;" : Cond) ∈ wsX4_serve := by decide +kernel
theorem iX4_serve_X4 : ∀ w ∈ wsX40, w ∈ wsX4_serve := by decide +kernel
theorem iX4_serve_X0 : ∀ w ∈ wsX00, w ∈ wsX4_serve := by decide +kernel
theorem kX4_serve_3 : (.fieldLink RX4 19 "Meeplehouse" "shelf" "LMeeplehouse$Shelf;" : Cond) ∈ wsX4_serve := by decide +kernel
theorem iX4_serve_X3 : ∀ w ∈ wsX30, w ∈ wsX4_serve := by decide +kernel
def P_X4_serve (gh gs gr : St) (a1 : Int32) (a2 : Int32) (ok : Int32 → St → St → St → Prop) (ex : String → Prop) : Prop := (((¬ a1 < 0 ∧ a1 < (gh 0 2)) → (((¬ a2 < 0 ∧ a2 < (gs 0 0)) → (∃ r1 : Int32, P_X4_isOffered gh gs gr a1 a2 r1 ∧ (((¬ r1 = 0) → (∃ r2 : Int32, P_X3_bestCopy gs a2 r2 ∧ (∃ g4 : St, P_X3_handOut gs r2 a1 g4 ∧ (ok r2 gh g4 gr)))) ∧ (¬ (¬ r1 = 0) → (ex E_s))))) ∧ (¬ (¬ a2 < 0 ∧ a2 < (gs 0 0)) → (ex E_i)))) ∧ (¬ (¬ a1 < 0 ∧ a1 < (gh 0 2)) → (ex E_i)))
set_option maxRecDepth 100000 in
set_option maxHeartbeats 4000000 in
theorem c_X4_serve (l : Launch) (hfl : l.stackTraces = false) (dC : Nat → ClassId) (dI : Nat → Nat → Nat) (cI : ClassId) (b0 : Nat) (qh qs qr : Nat → Nat) (gh gs gr : St) (a1 : Int32) (a2 : Int32) (ok : Int32 → St → St → St → Prop) (ex : String → Prop) (hp : P_X4_serve gh gs gr a1 a2 ok ex) (sz : Nat) : vx_Met l yX4_serve wsX4_serve { frames := 7, cells := 3, slots := 18, locals := 115 } (va_Pc [.ref b0, .int a1, .int a2] (tpS (dC, dI) vwCl [(cI, .int)] (wX4 b0 qh qs qr cI gh gs gr) sz)) (va_Qi (fun (r : Int32) (u : St × St × St) => ok r u.1 u.2.1 u.2.2) (fun u t => wqB (dC, dI) vwCl (wX4 b0 qh qs qr cI u.1 u.2.1 u.2.2) (va_A (wX4 b0 qh qs qr cI gh gs gr) sz) t) (va_A (wX4 b0 qh qs qr cI gh gs gr) sz)) (vx_X (fun _ : Unit => True) (fun E _ t => ex E ∧ wqB (dC, dI) vwCl (wX4 b0 qh qs qr cI gh gs gr) (va_A (wX4 b0 qh qs qr cI gh gs gr) sz) t) (va_A (wX4 b0 qh qs qr cI gh gs gr) sz)) 3 18 (va_A (wX4 b0 qh qs qr cI gh gs gr) sz) := by
  refine tx_met (fun A => (va_Qi (fun (r : Int32) (u : St × St × St) => ok r u.1 u.2.1 u.2.2) (fun u t => wqB (dC, dI) vwCl (wX4 b0 qh qs qr cI u.1 u.2.1 u.2.2) A t) A)) (fun A => (vx_X (fun _ : Unit => True) (fun E _ t => ex E ∧ wqB (dC, dI) vwCl (wX4 b0 qh qs qr cI gh gs gr) A t) A)) (cc := cX4_serve) (maxL := 4) (ret := (some .int)) (by decide) rfl (Nat.le_of_ble_eq_true rfl) ?_
  intro p e s m below meth c A hx hb hml hr hlk het hts hown hP hK hN hD hA hXS hXH ls hl
  have hS : va_S A s.heap s.heap [] := va_S.rf
  have hl : lv_has ls 4 [(0, .ref b0), (1, .int a1), (2, .int a2)] := hl
  unfold P_X4_serve at hp
  refine lv_iload_n hx hb dX4_serve_0 rfl (lv_at hl 1 rfl) ?_
  refine lv_aload_n hx hb dX4_serve_1 rfl (lv_at hl 0 rfl) ?_
  refine va_get (D := (dC, dI)) (ci := 4) (v := .ref (qh 0)) (C := RX4) (T := TX4) (N := 3) hx hb hts iX4_serve_X4 hown hK hP 0 rfl rfl 0 (by decide) (hts _ kX4_serve_0) (fun _ h9 => h9) rfl dX4_serve_2 ?_
  refine va_getN (D := (dC, dI)) (ci := 0) (v := .int (gh 0 2)) (C := RX0) (T := TX0) (N := 9) (host := RX4) hx hb hts iX4_serve_X0 hown hK (t4h hP) 0 rfl rfl 2 (by decide) (nw_use hN 8 rfl) (fun _ h9 => h9) rfl dX4_serve_5 ?_
  refine tx_S (As := [.int a1, .int (gh 0 2)]) (rest := []) ⟨hx, hb, hml, hown, hts⟩ (c_X4_checkIndex l hfl a1 (gh 0 2) _) (va_cwS 2 hts gX4_serve_X4_checkIndex rfl rfl rfl (by decide +kernel) ⟨Nat.le_of_ble_eq_true rfl, Nat.le_of_ble_eq_true rfl⟩) hP hS hA hXS hXH het hlk rfl rfl hl.1 (Nat.le_of_ble_eq_true rfl) ⟨Nat.le_of_ble_eq_true rfl, Nat.le_of_ble_eq_true rfl⟩ ⟨Nat.le_of_ble_eq_true rfl, Nat.le_of_ble_eq_true rfl⟩ dX4_serve_8 (fun hno t hPt hFt => ⟨(), trivial, ⟨hp.2 hno, hPt, hD⟩, hFt⟩) (fun hok H locs hP hS => ?_)
  have hp := hp.1 hok
  refine lv_iload_n hx hb dX4_serve_11 rfl (lv_at hl 2 rfl) ?_
  refine lv_aload_n hx hb dX4_serve_12 rfl (lv_at hl 0 rfl) ?_
  refine va_get (D := (dC, dI)) (ci := 4) (v := .ref (qs 0)) (C := RX4) (T := TX4) (N := 3) hx hb hts iX4_serve_X4 hown hK hP 0 rfl rfl 1 (by decide) (hts _ kX4_serve_3) (fun _ h9 => h9) rfl dX4_serve_13 ?_
  refine va_getN (D := (dC, dI)) (ci := 3) (v := .int (gs 0 0)) (C := RX3) (T := TX3) (N := 11) (host := RX4) hx hb hts iX4_serve_X3 hown hK (t4s hP) 0 rfl rfl 0 (by decide) (nw_use hN 10 rfl) (fun _ h9 => h9) rfl dX4_serve_16 ?_
  refine tx_S (As := [.int a2, .int (gs 0 0)]) (rest := []) ⟨hx, hb, hml, hown, hts⟩ (c_X4_checkIndex l hfl a2 (gs 0 0) _) (va_cwS 2 hts gX4_serve_X4_checkIndex rfl rfl rfl (by decide +kernel) ⟨Nat.le_of_ble_eq_true rfl, Nat.le_of_ble_eq_true rfl⟩) hP hS hA hXS hXH het hlk rfl rfl hl.1 (Nat.le_of_ble_eq_true rfl) ⟨Nat.le_of_ble_eq_true rfl, Nat.le_of_ble_eq_true rfl⟩ ⟨Nat.le_of_ble_eq_true rfl, Nat.le_of_ble_eq_true rfl⟩ dX4_serve_19 (fun hno t hPt hFt => ⟨(), trivial, ⟨hp.2 hno, hPt, hD⟩, hFt⟩) (fun hok H locs hP hS => ?_)
  have hp := hp.1 hok
  refine lv_aload_n hx hb dX4_serve_22 rfl (lv_at hl 0 rfl) ?_
  refine lv_iload_n hx hb dX4_serve_23 rfl (lv_at hl 1 rfl) ?_
  refine lv_iload_n hx hb dX4_serve_24 rfl (lv_at hl 2 rfl) ?_
  obtain ⟨r1, hr1, hp⟩ := hp
  refine ro_V (As := [.int a1, .int a2]) (rest := []) ⟨hx, hb, hml, hown, hts⟩ (c_X4_isOffered l dC dI cI b0 qh qs qr gh gs gr a1 a2 r1 hr1) (cwV 2 hts gX4_serve_X4_isOffered rfl rfl rfl (by decide +kernel) ⟨Nat.le_of_ble_eq_true rfl, Nat.le_of_ble_eq_true rfl⟩) hP hK hN rfl rfl rfl rfl hl.1 (Nat.le_of_ble_eq_true rfl) ⟨Nat.le_of_ble_eq_true rfl, Nat.le_of_ble_eq_true rfl⟩ dX4_serve_25 ?_
  refine tx_S (As := [.int r1]) (rest := []) ⟨hx, hb, hml, hown, hts⟩ (c_X4_checkState l hfl r1 _) (va_cwS 1 hts gX4_serve_X4_checkState rfl rfl rfl (by decide +kernel) ⟨Nat.le_of_ble_eq_true rfl, Nat.le_of_ble_eq_true rfl⟩) hP hS hA hXS hXH het hlk rfl rfl hl.1 (Nat.le_of_ble_eq_true rfl) ⟨Nat.le_of_ble_eq_true rfl, Nat.le_of_ble_eq_true rfl⟩ ⟨Nat.le_of_ble_eq_true rfl, Nat.le_of_ble_eq_true rfl⟩ dX4_serve_28 (fun hno t hPt hFt => ⟨(), trivial, ⟨hp.2 hno, hPt, hD⟩, hFt⟩) (fun hok H locs hP hS => ?_)
  have hp := hp.1 hok
  refine lv_aload_n hx hb dX4_serve_31 rfl (lv_at hl 0 rfl) ?_
  refine va_get (D := (dC, dI)) (ci := 4) (v := .ref (qs 0)) (C := RX4) (T := TX4) (N := 3) hx hb hts iX4_serve_X4 hown hK hP 0 rfl rfl 1 (by decide) (hts _ kX4_serve_3) (fun _ h9 => h9) rfl dX4_serve_32 ?_
  refine lv_iload_n hx hb dX4_serve_35 rfl (lv_at hl 2 rfl) ?_
  obtain ⟨r2, hr2, hp⟩ := hp
  refine ro_V (As := [.int a2]) (rest := []) ⟨hx, hb, hml, hown, hts⟩ (c_X3_bestCopy l dC dI cI qs gs a2 r2 hr2) (cwV 1 hts gX4_serve_X3_bestCopy rfl rfl rfl (by decide +kernel) ⟨Nat.le_of_ble_eq_true rfl, Nat.le_of_ble_eq_true rfl⟩) (t4s hP) hK hN rfl rfl rfl rfl hl.1 (Nat.le_of_ble_eq_true rfl) ⟨Nat.le_of_ble_eq_true rfl, Nat.le_of_ble_eq_true rfl⟩ dX4_serve_36 ?_
  refine lv_istore_n (lv' := [(3, .int r2), (0, .ref b0), (1, .int a1), (2, .int a2)]) hx hb dX4_serve_39 rfl hl (by decide) rfl (fun ls hl => ?_)
  refine lv_aload_n hx hb dX4_serve_40 rfl (lv_at hl 1 rfl) ?_
  refine va_get (D := (dC, dI)) (ci := 4) (v := .ref (qs 0)) (C := RX4) (T := TX4) (N := 3) hx hb hts iX4_serve_X4 hown hK hP 0 rfl rfl 1 (by decide) (hts _ kX4_serve_3) (fun _ h9 => h9) rfl dX4_serve_41 ?_
  refine lv_iload_n hx hb dX4_serve_44 rfl (lv_at hl 0 rfl) ?_
  refine lv_iload_n hx hb dX4_serve_45 rfl (lv_at hl 2 rfl) ?_
  obtain ⟨g4, hg4, hp⟩ := hp
  refine wr_Vv (As := [.int r2, .int a1]) (rest := []) (ws1 := wX4 b0 qh qs qr cI gh g4 gr) ⟨hx, hb, hml, hown, hts⟩ (c_X3_handOut l dC dI cI qs gs r2 a1 g4 hg4 _) (cwV 2 hts gX4_serve_X3_handOut rfl rfl rfl (by decide +kernel) ⟨Nat.le_of_ble_eq_true rfl, Nat.le_of_ble_eq_true rfl⟩) hP hD hS hA hK hN (w4s b0 qh qs qr cI gh gs gr) (w4s b0 qh qs qr cI gh g4 gr).symm rfl rfl rfl rfl hl.1 (Nat.le_of_ble_eq_true rfl) ⟨Nat.le_of_ble_eq_true rfl, Nat.le_of_ble_eq_true rfl⟩ dX4_serve_46 (fun H locs hP hD hS => ?_)
  refine lv_iload_n hx hb dX4_serve_49 rfl (lv_at hl 0 rfl) ?_
  refine vx_ret (W.widen (k := 3) (n := 18) (Nat.le_of_ble_eq_true rfl) (Nat.le_of_ble_eq_true rfl) ?_)
  exact W.iret hx hb hr (fun t ht _ => ⟨⟨_, (gh, g4, gr), rfl, hp, by rw [ht]; exact hP, hD⟩, hS.F ht⟩) hS.2.2 dX4_serve_50
theorem kX4_giveBack_0 : (.fieldLink RX4 10 "Meeplehouse" "hall" "LMeeplehouse$Hall;" : Cond) ∈ wsX4_giveBack := by decide +kernel
theorem iX4_giveBack_X4 : ∀ w ∈ wsX40, w ∈ wsX4_giveBack := by decide +kernel
theorem iX4_giveBack_X0 : ∀ w ∈ wsX00, w ∈ wsX4_giveBack := by decide +kernel
theorem kX4_giveBack_3 : (.fieldLink RX4 19 "Meeplehouse" "shelf" "LMeeplehouse$Shelf;" : Cond) ∈ wsX4_giveBack := by decide +kernel
def P_X4_giveBack (gh gs gr : St) (a1 : Int32) (a2 : Int32) (a3 : Int32) (ok : Int32 → St → St → St → Prop) (ex : String → Prop) : Prop := ∀ V57 : Int32 → Prop, ∀ V58 : Int32 → Int32 → Prop, (∀ x4 : Int32, (V58 x4 (0 : Int32)) → V57 x4) → (∀ x4 t0 : Int32, (((¬ t0 = 0) → (∃ (r5 : Int32) (g6 : St), P_X3_takeBack gs x4 a2 a3 r5 g6 ∧ (ok r5 gh g6 gr))) ∧ (¬ (¬ t0 = 0) → (ex E_s))) → V58 x4 t0) → (((¬ a1 < 0 ∧ a1 < (gh 0 2)) → (((¬ a2 < 0 ∧ a2 < (4 : Int32)) → (((¬ a3 < (0 : Int32) ∧ a3 ≤ (9 : Int32)) → (∃ r1 : Int32, P_X3_heldBy gs a1 r1 ∧ ((r1 = (-1 : Int32) → (V57 r1)) ∧ (¬ r1 = (-1 : Int32) → (∃ r2 : Int32, P_X3_count gs r1 a2 r2 ∧ ((r2 < a3 → (V57 r1)) ∧ (¬ r2 < a3 → (V58 r1 (1 : Int32))))))))) ∧ (¬ (¬ a3 < (0 : Int32) ∧ a3 ≤ (9 : Int32)) → (ex E_a)))) ∧ (¬ (¬ a2 < 0 ∧ a2 < (4 : Int32)) → (ex E_i)))) ∧ (¬ (¬ a1 < 0 ∧ a1 < (gh 0 2)) → (ex E_i)))
set_option maxRecDepth 100000 in
set_option maxHeartbeats 4000000 in
theorem c_X4_giveBack (l : Launch) (hfl : l.stackTraces = false) (dC : Nat → ClassId) (dI : Nat → Nat → Nat) (cI : ClassId) (b0 : Nat) (qh qs qr : Nat → Nat) (gh gs gr : St) (a1 : Int32) (a2 : Int32) (a3 : Int32) (ok : Int32 → St → St → St → Prop) (ex : String → Prop) (hp : P_X4_giveBack gh gs gr a1 a2 a3 ok ex) (sz : Nat) : vx_Met l yX4_giveBack wsX4_giveBack { frames := 7, cells := 4, slots := 24, locals := 117 } (va_Pc [.ref b0, .int a1, .int a2, .int a3] (tpS (dC, dI) vwCl [(cI, .int)] (wX4 b0 qh qs qr cI gh gs gr) sz)) (va_Qi (fun (r : Int32) (u : St × St × St) => ok r u.1 u.2.1 u.2.2) (fun u t => wqB (dC, dI) vwCl (wX4 b0 qh qs qr cI u.1 u.2.1 u.2.2) (va_A (wX4 b0 qh qs qr cI gh gs gr) sz) t) (va_A (wX4 b0 qh qs qr cI gh gs gr) sz)) (vx_X (fun _ : Unit => True) (fun E _ t => ex E ∧ wqB (dC, dI) vwCl (wX4 b0 qh qs qr cI gh gs gr) (va_A (wX4 b0 qh qs qr cI gh gs gr) sz) t) (va_A (wX4 b0 qh qs qr cI gh gs gr) sz)) 4 24 (va_A (wX4 b0 qh qs qr cI gh gs gr) sz) := by
  refine tx_met (fun A => (va_Qi (fun (r : Int32) (u : St × St × St) => ok r u.1 u.2.1 u.2.2) (fun u t => wqB (dC, dI) vwCl (wX4 b0 qh qs qr cI u.1 u.2.1 u.2.2) A t) A)) (fun A => (vx_X (fun _ : Unit => True) (fun E _ t => ex E ∧ wqB (dC, dI) vwCl (wX4 b0 qh qs qr cI gh gs gr) A t) A)) (cc := cX4_giveBack) (maxL := 5) (ret := (some .int)) (by decide) rfl (Nat.le_of_ble_eq_true rfl) ?_
  intro p e s m below meth c A hx hb hml hr hlk het hts hown hP hK hN hD hA hXS hXH ls hl
  have hS : va_S A s.heap s.heap [] := va_S.rf
  have hl : lv_has ls 5 [(0, .ref b0), (1, .int a1), (2, .int a2), (3, .int a3)] := hl
  obtain ⟨V57, eV57⟩ : ∃ V : Int32 → Prop, V = (fun x4 => ∀ (H : Heap) (locs : List Loc) (ls : Array Slot), va_P (dC, dI) vwCl (wX4 b0 qh qs qr cI gh gs gr) H → va_S A s.heap H locs → lv_has ls 5 [(0, .ref b0), (1, .int a1), (2, .int a2), (3, .int a3), (4, .int x4)] → W p l e { frames := 7, cells := 4, slots := 24, locals := 117 } s m ([.ref b0, .int a1, .int a2, .int a3] : List Value).toArray below meth c H locs 3 18 (vx_MQ below (va_Qi (fun (r : Int32) (u : St × St × St) => ok r u.1 u.2.1 u.2.2) (fun u t => wqB (dC, dI) vwCl (wX4 b0 qh qs qr cI u.1 u.2.1 u.2.2) A t) A) (vx_X (fun _ : Unit => True) (fun E _ t => ex E ∧ wqB (dC, dI) vwCl (wX4 b0 qh qs qr cI gh gs gr) A t) A) ([.ref b0, .int a1, .int a2, .int a3] : List Value).toArray s 4 24 A) (F0 m 57 ls [])) := ⟨_, rfl⟩
  obtain ⟨V58, eV58⟩ : ∃ V : Int32 → Int32 → Prop, V = (fun x4 t0 => ∀ (H : Heap) (locs : List Loc) (ls : Array Slot), va_P (dC, dI) vwCl (wX4 b0 qh qs qr cI gh gs gr) H → va_S A s.heap H locs → lv_has ls 5 [(0, .ref b0), (1, .int a1), (2, .int a2), (3, .int a3), (4, .int x4)] → W p l e { frames := 7, cells := 4, slots := 24, locals := 117 } s m ([.ref b0, .int a1, .int a2, .int a3] : List Value).toArray below meth c H locs 3 18 (vx_MQ below (va_Qi (fun (r : Int32) (u : St × St × St) => ok r u.1 u.2.1 u.2.2) (fun u t => wqB (dC, dI) vwCl (wX4 b0 qh qs qr cI u.1 u.2.1 u.2.2) A t) A) (vx_X (fun _ : Unit => True) (fun E _ t => ex E ∧ wqB (dC, dI) vwCl (wX4 b0 qh qs qr cI gh gs gr) A t) A) ([.ref b0, .int a1, .int a2, .int a3] : List Value).toArray s 4 24 A) (F0 m 58 ls [.int t0])) := ⟨_, rfl⟩
  have hp := hp V57 V58
  have hp := hp (by
    intro x4 hp
    rw [eV57]
    intro H locs ls hP hS hl
    refine lv_iconst (v := 0) hx hb dX4_giveBack_57 (by decide) ?_
    rw [eV58] at hp
    exact hp _ _ _ hP hS (lv_sub hl [0, 1, 2, 3, 4] rfl))
  have hp := hp (by
    intro x4 t0 hp
    rw [eV58]
    intro H locs ls hP hS hl
    refine tx_S (As := [.int t0]) (rest := []) ⟨hx, hb, hml, hown, hts⟩ (c_X4_checkState l hfl t0 _) (va_cwS 1 hts gX4_giveBack_X4_checkState rfl rfl rfl (by decide +kernel) ⟨Nat.le_of_ble_eq_true rfl, Nat.le_of_ble_eq_true rfl⟩) hP hS hA hXS hXH het hlk rfl rfl hl.1 (Nat.le_of_ble_eq_true rfl) ⟨Nat.le_of_ble_eq_true rfl, Nat.le_of_ble_eq_true rfl⟩ ⟨Nat.le_of_ble_eq_true rfl, Nat.le_of_ble_eq_true rfl⟩ dX4_giveBack_58 (fun hno t hPt hFt => ⟨(), trivial, ⟨hp.2 hno, hPt, hD⟩, hFt⟩) (fun hok H locs hP hS => ?_)
    have hp := hp.1 hok
    refine lv_aload_n hx hb dX4_giveBack_61 rfl (lv_at hl 0 rfl) ?_
    refine va_get (D := (dC, dI)) (ci := 4) (v := .ref (qs 0)) (C := RX4) (T := TX4) (N := 3) hx hb hts iX4_giveBack_X4 hown hK hP 0 rfl rfl 1 (by decide) (hts _ kX4_giveBack_3) (fun _ h9 => h9) rfl dX4_giveBack_62 ?_
    refine lv_iload hx hb dX4_giveBack_65 (lv_at hl 4 rfl) ?_
    refine lv_iload_n hx hb dX4_giveBack_67 rfl (lv_at hl 2 rfl) ?_
    refine lv_iload_n hx hb dX4_giveBack_68 rfl (lv_at hl 3 rfl) ?_
    obtain ⟨r5, g6, hg6, hp⟩ := hp
    refine wr_Vi (As := [.int x4, .int a2, .int a3]) (rest := []) (ws1 := wX4 b0 qh qs qr cI gh g6 gr) ⟨hx, hb, hml, hown, hts⟩ (c_X3_takeBack l dC dI cI qs gs x4 a2 a3 r5 g6 hg6 _) (cwV 3 hts gX4_giveBack_X3_takeBack rfl rfl rfl (by decide +kernel) ⟨Nat.le_of_ble_eq_true rfl, Nat.le_of_ble_eq_true rfl⟩) hP hD hS hA hK hN (w4s b0 qh qs qr cI gh gs gr) (w4s b0 qh qs qr cI gh g6 gr).symm rfl rfl rfl rfl hl.1 (Nat.le_of_ble_eq_true rfl) ⟨Nat.le_of_ble_eq_true rfl, Nat.le_of_ble_eq_true rfl⟩ dX4_giveBack_69 (fun H locs hP hD hS => ?_)
    refine vx_ret (W.widen (k := 4) (n := 24) (Nat.le_of_ble_eq_true rfl) (Nat.le_of_ble_eq_true rfl) ?_)
    exact W.iret hx hb hr (fun t ht _ => ⟨⟨_, (gh, g6, gr), rfl, hp, by rw [ht]; exact hP, hD⟩, hS.F ht⟩) hS.2.2 dX4_giveBack_72)
  refine lv_iload_n hx hb dX4_giveBack_0 rfl (lv_at hl 1 rfl) ?_
  refine lv_aload_n hx hb dX4_giveBack_1 rfl (lv_at hl 0 rfl) ?_
  refine va_get (D := (dC, dI)) (ci := 4) (v := .ref (qh 0)) (C := RX4) (T := TX4) (N := 3) hx hb hts iX4_giveBack_X4 hown hK hP 0 rfl rfl 0 (by decide) (hts _ kX4_giveBack_0) (fun _ h9 => h9) rfl dX4_giveBack_2 ?_
  refine va_getN (D := (dC, dI)) (ci := 0) (v := .int (gh 0 2)) (C := RX0) (T := TX0) (N := 9) (host := RX4) hx hb hts iX4_giveBack_X0 hown hK (t4h hP) 0 rfl rfl 2 (by decide) (nw_use hN 8 rfl) (fun _ h9 => h9) rfl dX4_giveBack_5 ?_
  refine tx_S (As := [.int a1, .int (gh 0 2)]) (rest := []) ⟨hx, hb, hml, hown, hts⟩ (c_X4_checkIndex l hfl a1 (gh 0 2) _) (va_cwS 2 hts gX4_giveBack_X4_checkIndex rfl rfl rfl (by decide +kernel) ⟨Nat.le_of_ble_eq_true rfl, Nat.le_of_ble_eq_true rfl⟩) hP hS hA hXS hXH het hlk rfl rfl hl.1 (Nat.le_of_ble_eq_true rfl) ⟨Nat.le_of_ble_eq_true rfl, Nat.le_of_ble_eq_true rfl⟩ ⟨Nat.le_of_ble_eq_true rfl, Nat.le_of_ble_eq_true rfl⟩ dX4_giveBack_8 (fun hno t hPt hFt => ⟨(), trivial, ⟨hp.2 hno, hPt, hD⟩, hFt⟩) (fun hok H locs hP hS => ?_)
  have hp := hp.1 hok
  refine lv_iload_n hx hb dX4_giveBack_11 rfl (lv_at hl 2 rfl) ?_
  refine lv_iconst (v := 4) hx hb dX4_giveBack_12 (by decide) ?_
  refine tx_S (As := [.int a2, .int (4 : Int32)]) (rest := []) ⟨hx, hb, hml, hown, hts⟩ (c_X4_checkIndex l hfl a2 (4 : Int32) _) (va_cwS 2 hts gX4_giveBack_X4_checkIndex rfl rfl rfl (by decide +kernel) ⟨Nat.le_of_ble_eq_true rfl, Nat.le_of_ble_eq_true rfl⟩) hP hS hA hXS hXH het hlk rfl rfl hl.1 (Nat.le_of_ble_eq_true rfl) ⟨Nat.le_of_ble_eq_true rfl, Nat.le_of_ble_eq_true rfl⟩ ⟨Nat.le_of_ble_eq_true rfl, Nat.le_of_ble_eq_true rfl⟩ dX4_giveBack_13 (fun hno t hPt hFt => ⟨(), trivial, ⟨hp.2 hno, hPt, hD⟩, hFt⟩) (fun hok H locs hP hS => ?_)
  have hp := hp.1 hok
  refine lv_iload_n hx hb dX4_giveBack_16 rfl (lv_at hl 3 rfl) ?_
  refine lv_iconst (v := 0) hx hb dX4_giveBack_17 (by decide) ?_
  refine lv_bipush (v := 9) hx hb dX4_giveBack_18 (by decide) ?_
  refine tx_S (As := [.int a3, .int (0 : Int32), .int (9 : Int32)]) (rest := []) ⟨hx, hb, hml, hown, hts⟩ (c_X4_checkRange l hfl a3 (0 : Int32) (9 : Int32) _) (va_cwS 3 hts gX4_giveBack_X4_checkRange rfl rfl rfl (by decide +kernel) ⟨Nat.le_of_ble_eq_true rfl, Nat.le_of_ble_eq_true rfl⟩) hP hS hA hXS hXH het hlk rfl rfl hl.1 (Nat.le_of_ble_eq_true rfl) ⟨Nat.le_of_ble_eq_true rfl, Nat.le_of_ble_eq_true rfl⟩ ⟨Nat.le_of_ble_eq_true rfl, Nat.le_of_ble_eq_true rfl⟩ dX4_giveBack_20 (fun hno t hPt hFt => ⟨(), trivial, ⟨hp.2 hno, hPt, hD⟩, hFt⟩) (fun hok H locs hP hS => ?_)
  have hp := hp.1 hok
  refine lv_aload_n hx hb dX4_giveBack_23 rfl (lv_at hl 0 rfl) ?_
  refine va_get (D := (dC, dI)) (ci := 4) (v := .ref (qs 0)) (C := RX4) (T := TX4) (N := 3) hx hb hts iX4_giveBack_X4 hown hK hP 0 rfl rfl 1 (by decide) (hts _ kX4_giveBack_3) (fun _ h9 => h9) rfl dX4_giveBack_24 ?_
  refine lv_iload_n hx hb dX4_giveBack_27 rfl (lv_at hl 1 rfl) ?_
  obtain ⟨r1, hr1, hp⟩ := hp
  refine ro_V (As := [.int a1]) (rest := []) ⟨hx, hb, hml, hown, hts⟩ (c_X3_heldBy l dC dI cI qs gs a1 r1 hr1) (cwV 1 hts gX4_giveBack_X3_heldBy rfl rfl rfl (by decide +kernel) ⟨Nat.le_of_ble_eq_true rfl, Nat.le_of_ble_eq_true rfl⟩) (t4s hP) hK hN rfl rfl rfl rfl hl.1 (Nat.le_of_ble_eq_true rfl) ⟨Nat.le_of_ble_eq_true rfl, Nat.le_of_ble_eq_true rfl⟩ dX4_giveBack_28 ?_
  refine lv_istore (lv' := [(4, .int r1), (0, .ref b0), (1, .int a1), (2, .int a2), (3, .int a3)]) hx hb dX4_giveBack_31 hl (by decide) rfl (fun ls hl => ?_)
  refine lv_iload hx hb dX4_giveBack_33 (lv_at hl 0 rfl) ?_
  refine lv_iconst (v := -1) hx hb dX4_giveBack_35 (by decide) ?_
  refine lv_icmp_eq (tgt := 57) hx hb dX4_giveBack_36 (by decide) (fun c4 => ?_) (fun c4 => ?_)
  · have hp := hp.1 c4
    rw [eV57] at hp
    exact hp _ _ _ hP hS (lv_sub hl [1, 2, 3, 4, 0] rfl)
  · have hp := hp.2 c4
    refine lv_aload_n hx hb dX4_giveBack_39 rfl (lv_at hl 1 rfl) ?_
    refine va_get (D := (dC, dI)) (ci := 4) (v := .ref (qs 0)) (C := RX4) (T := TX4) (N := 3) hx hb hts iX4_giveBack_X4 hown hK hP 0 rfl rfl 1 (by decide) (hts _ kX4_giveBack_3) (fun _ h9 => h9) rfl dX4_giveBack_40 ?_
    refine lv_iload hx hb dX4_giveBack_43 (lv_at hl 0 rfl) ?_
    refine lv_iload_n hx hb dX4_giveBack_45 rfl (lv_at hl 3 rfl) ?_
    obtain ⟨r2, hr2, hp⟩ := hp
    refine ro_V (As := [.int r1, .int a2]) (rest := []) ⟨hx, hb, hml, hown, hts⟩ (c_X3_count l dC dI cI qs gs r1 a2 r2 hr2) (cwV 2 hts gX4_giveBack_X3_count rfl rfl rfl (by decide +kernel) ⟨Nat.le_of_ble_eq_true rfl, Nat.le_of_ble_eq_true rfl⟩) (t4s hP) hK hN rfl rfl rfl rfl hl.1 (Nat.le_of_ble_eq_true rfl) ⟨Nat.le_of_ble_eq_true rfl, Nat.le_of_ble_eq_true rfl⟩ dX4_giveBack_46 ?_
    refine lv_iload_n hx hb dX4_giveBack_49 rfl (lv_at hl 4 rfl) ?_
    refine lv_icmp_lt (tgt := 57) hx hb dX4_giveBack_50 (by decide) (fun c3 => ?_) (fun c3 => ?_)
    · have hp := hp.1 c3
      rw [eV57] at hp
      exact hp _ _ _ hP hS (lv_sub hl [1, 2, 3, 4, 0] rfl)
    · have hp := hp.2 c3
      refine lv_iconst (v := 1) hx hb dX4_giveBack_53 (by decide) ?_
      refine lv_goto (tgt := 58) hx hb dX4_giveBack_54 (by decide) ?_
      rw [eV58] at hp
      exact hp _ _ _ hP hS (lv_sub hl [1, 2, 3, 4, 0] rfl)
theorem kX4_found_0 : (.fieldLink RX4 19 "Meeplehouse" "shelf" "LMeeplehouse$Shelf;" : Cond) ∈ wsX4_found := by decide +kernel
theorem iX4_found_X4 : ∀ w ∈ wsX40, w ∈ wsX4_found := by decide +kernel
theorem iX4_found_X3 : ∀ w ∈ wsX30, w ∈ wsX4_found := by decide +kernel
def P_X4_found (gh gs gr : St) (a1 : Int32) (a2 : Int32) (a3 : Int32) (ok : Int32 → St → St → St → Prop) (ex : String → Prop) : Prop := ∀ V51 : Prop, ∀ V52 : Int32 → Prop, ((V52 (0 : Int32)) → V51) → (∀ t0 : Int32, (((¬ t0 = 0) → (∃ g6 : St, P_X3_change gs a1 a2 a3 g6 ∧ (∃ r7 : Int32, P_X3_count g6 a1 a2 r7 ∧ (ok r7 gh g6 gr)))) ∧ (¬ (¬ t0 = 0) → (ex E_s))) → V52 t0) → (((¬ a1 < 0 ∧ a1 < (gs 0 1)) → (((¬ a2 < 0 ∧ a2 < (4 : Int32)) → (((¬ a3 < (1 : Int32) ∧ a3 ≤ (9 : Int32)) → (∃ r1 : Int32, P_X3_place gs a1 r1 ∧ ((¬ r1 = 0 → (V51)) ∧ (r1 = 0 → (∃ r2 : Int32, P_X3_lack gs a1 a2 r2 ∧ ((r2 < a3 → (V51)) ∧ (¬ r2 < a3 → (V52 (1 : Int32))))))))) ∧ (¬ (¬ a3 < (1 : Int32) ∧ a3 ≤ (9 : Int32)) → (ex E_a)))) ∧ (¬ (¬ a2 < 0 ∧ a2 < (4 : Int32)) → (ex E_i)))) ∧ (¬ (¬ a1 < 0 ∧ a1 < (gs 0 1)) → (ex E_i)))
set_option maxRecDepth 100000 in
set_option maxHeartbeats 4000000 in
theorem c_X4_found (l : Launch) (hfl : l.stackTraces = false) (dC : Nat → ClassId) (dI : Nat → Nat → Nat) (cI : ClassId) (b0 : Nat) (qh qs qr : Nat → Nat) (gh gs gr : St) (a1 : Int32) (a2 : Int32) (a3 : Int32) (ok : Int32 → St → St → St → Prop) (ex : String → Prop) (hp : P_X4_found gh gs gr a1 a2 a3 ok ex) (sz : Nat) : vx_Met l yX4_found wsX4_found { frames := 7, cells := 4, slots := 24, locals := 104 } (va_Pc [.ref b0, .int a1, .int a2, .int a3] (tpS (dC, dI) vwCl [(cI, .int)] (wX4 b0 qh qs qr cI gh gs gr) sz)) (va_Qi (fun (r : Int32) (u : St × St × St) => ok r u.1 u.2.1 u.2.2) (fun u t => wqB (dC, dI) vwCl (wX4 b0 qh qs qr cI u.1 u.2.1 u.2.2) (va_A (wX4 b0 qh qs qr cI gh gs gr) sz) t) (va_A (wX4 b0 qh qs qr cI gh gs gr) sz)) (vx_X (fun _ : Unit => True) (fun E _ t => ex E ∧ wqB (dC, dI) vwCl (wX4 b0 qh qs qr cI gh gs gr) (va_A (wX4 b0 qh qs qr cI gh gs gr) sz) t) (va_A (wX4 b0 qh qs qr cI gh gs gr) sz)) 4 24 (va_A (wX4 b0 qh qs qr cI gh gs gr) sz) := by
  refine tx_met (fun A => (va_Qi (fun (r : Int32) (u : St × St × St) => ok r u.1 u.2.1 u.2.2) (fun u t => wqB (dC, dI) vwCl (wX4 b0 qh qs qr cI u.1 u.2.1 u.2.2) A t) A)) (fun A => (vx_X (fun _ : Unit => True) (fun E _ t => ex E ∧ wqB (dC, dI) vwCl (wX4 b0 qh qs qr cI gh gs gr) A t) A)) (cc := cX4_found) (maxL := 4) (ret := (some .int)) (by decide) rfl (Nat.le_of_ble_eq_true rfl) ?_
  intro p e s m below meth c A hx hb hml hr hlk het hts hown hP hK hN hD hA hXS hXH ls hl
  have hS : va_S A s.heap s.heap [] := va_S.rf
  have hl : lv_has ls 4 [(0, .ref b0), (1, .int a1), (2, .int a2), (3, .int a3)] := hl
  obtain ⟨V51, eV51⟩ : ∃ V : Prop, V = (∀ (H : Heap) (locs : List Loc) (ls : Array Slot), va_P (dC, dI) vwCl (wX4 b0 qh qs qr cI gh gs gr) H → va_S A s.heap H locs → lv_has ls 4 [(0, .ref b0), (1, .int a1), (2, .int a2), (3, .int a3)] → W p l e { frames := 7, cells := 4, slots := 24, locals := 104 } s m ([.ref b0, .int a1, .int a2, .int a3] : List Value).toArray below meth c H locs 3 18 (vx_MQ below (va_Qi (fun (r : Int32) (u : St × St × St) => ok r u.1 u.2.1 u.2.2) (fun u t => wqB (dC, dI) vwCl (wX4 b0 qh qs qr cI u.1 u.2.1 u.2.2) A t) A) (vx_X (fun _ : Unit => True) (fun E _ t => ex E ∧ wqB (dC, dI) vwCl (wX4 b0 qh qs qr cI gh gs gr) A t) A) ([.ref b0, .int a1, .int a2, .int a3] : List Value).toArray s 4 24 A) (F0 m 51 ls [])) := ⟨_, rfl⟩
  obtain ⟨V52, eV52⟩ : ∃ V : Int32 → Prop, V = (fun t0 => ∀ (H : Heap) (locs : List Loc) (ls : Array Slot), va_P (dC, dI) vwCl (wX4 b0 qh qs qr cI gh gs gr) H → va_S A s.heap H locs → lv_has ls 4 [(0, .ref b0), (1, .int a1), (2, .int a2), (3, .int a3)] → W p l e { frames := 7, cells := 4, slots := 24, locals := 104 } s m ([.ref b0, .int a1, .int a2, .int a3] : List Value).toArray below meth c H locs 3 18 (vx_MQ below (va_Qi (fun (r : Int32) (u : St × St × St) => ok r u.1 u.2.1 u.2.2) (fun u t => wqB (dC, dI) vwCl (wX4 b0 qh qs qr cI u.1 u.2.1 u.2.2) A t) A) (vx_X (fun _ : Unit => True) (fun E _ t => ex E ∧ wqB (dC, dI) vwCl (wX4 b0 qh qs qr cI gh gs gr) A t) A) ([.ref b0, .int a1, .int a2, .int a3] : List Value).toArray s 4 24 A) (F0 m 52 ls [.int t0])) := ⟨_, rfl⟩
  have hp := hp V51 V52
  have hp := hp (by
    intro hp
    rw [eV51]
    intro H locs ls hP hS hl
    refine lv_iconst (v := 0) hx hb dX4_found_51 (by decide) ?_
    rw [eV52] at hp
    exact hp _ _ _ hP hS (lv_sub hl [0, 1, 2, 3] rfl))
  have hp := hp (by
    intro t0 hp
    rw [eV52]
    intro H locs ls hP hS hl
    refine tx_S (As := [.int t0]) (rest := []) ⟨hx, hb, hml, hown, hts⟩ (c_X4_checkState l hfl t0 _) (va_cwS 1 hts gX4_found_X4_checkState rfl rfl rfl (by decide +kernel) ⟨Nat.le_of_ble_eq_true rfl, Nat.le_of_ble_eq_true rfl⟩) hP hS hA hXS hXH het hlk rfl rfl hl.1 (Nat.le_of_ble_eq_true rfl) ⟨Nat.le_of_ble_eq_true rfl, Nat.le_of_ble_eq_true rfl⟩ ⟨Nat.le_of_ble_eq_true rfl, Nat.le_of_ble_eq_true rfl⟩ dX4_found_52 (fun hno t hPt hFt => ⟨(), trivial, ⟨hp.2 hno, hPt, hD⟩, hFt⟩) (fun hok H locs hP hS => ?_)
    have hp := hp.1 hok
    refine lv_aload_n hx hb dX4_found_55 rfl (lv_at hl 0 rfl) ?_
    refine va_get (D := (dC, dI)) (ci := 4) (v := .ref (qs 0)) (C := RX4) (T := TX4) (N := 3) hx hb hts iX4_found_X4 hown hK hP 0 rfl rfl 1 (by decide) (hts _ kX4_found_0) (fun _ h9 => h9) rfl dX4_found_56 ?_
    refine lv_iload_n hx hb dX4_found_59 rfl (lv_at hl 1 rfl) ?_
    refine lv_iload_n hx hb dX4_found_60 rfl (lv_at hl 2 rfl) ?_
    refine lv_iload_n hx hb dX4_found_61 rfl (lv_at hl 3 rfl) ?_
    obtain ⟨g6, hg6, hp⟩ := hp
    refine wr_Vv (As := [.int a1, .int a2, .int a3]) (rest := []) (ws1 := wX4 b0 qh qs qr cI gh g6 gr) ⟨hx, hb, hml, hown, hts⟩ (c_X3_change l dC dI cI qs gs a1 a2 a3 g6 hg6 _) (cwV 3 hts gX4_found_X3_change rfl rfl rfl (by decide +kernel) ⟨Nat.le_of_ble_eq_true rfl, Nat.le_of_ble_eq_true rfl⟩) hP hD hS hA hK hN (w4s b0 qh qs qr cI gh gs gr) (w4s b0 qh qs qr cI gh g6 gr).symm rfl rfl rfl rfl hl.1 (Nat.le_of_ble_eq_true rfl) ⟨Nat.le_of_ble_eq_true rfl, Nat.le_of_ble_eq_true rfl⟩ dX4_found_62 (fun H locs hP hD hS => ?_)
    refine lv_aload_n hx hb dX4_found_65 rfl (lv_at hl 0 rfl) ?_
    refine va_get (D := (dC, dI)) (ci := 4) (v := .ref (qs 0)) (C := RX4) (T := TX4) (N := 3) hx hb hts iX4_found_X4 hown hK hP 0 rfl rfl 1 (by decide) (hts _ kX4_found_0) (fun _ h9 => h9) rfl dX4_found_66 ?_
    refine lv_iload_n hx hb dX4_found_69 rfl (lv_at hl 1 rfl) ?_
    refine lv_iload_n hx hb dX4_found_70 rfl (lv_at hl 2 rfl) ?_
    obtain ⟨r7, hr7, hp⟩ := hp
    refine ro_V (As := [.int a1, .int a2]) (rest := []) ⟨hx, hb, hml, hown, hts⟩ (c_X3_count l dC dI cI qs g6 a1 a2 r7 hr7) (cwV 2 hts gX4_found_X3_count rfl rfl rfl (by decide +kernel) ⟨Nat.le_of_ble_eq_true rfl, Nat.le_of_ble_eq_true rfl⟩) (t4s hP) hK hN rfl rfl rfl rfl hl.1 (Nat.le_of_ble_eq_true rfl) ⟨Nat.le_of_ble_eq_true rfl, Nat.le_of_ble_eq_true rfl⟩ dX4_found_71 ?_
    refine vx_ret (W.widen (k := 4) (n := 24) (Nat.le_of_ble_eq_true rfl) (Nat.le_of_ble_eq_true rfl) ?_)
    exact W.iret hx hb hr (fun t ht _ => ⟨⟨_, (gh, g6, gr), rfl, hp, by rw [ht]; exact hP, hD⟩, hS.F ht⟩) hS.2.2 dX4_found_74)
  refine lv_iload_n hx hb dX4_found_0 rfl (lv_at hl 1 rfl) ?_
  refine lv_aload_n hx hb dX4_found_1 rfl (lv_at hl 0 rfl) ?_
  refine va_get (D := (dC, dI)) (ci := 4) (v := .ref (qs 0)) (C := RX4) (T := TX4) (N := 3) hx hb hts iX4_found_X4 hown hK hP 0 rfl rfl 1 (by decide) (hts _ kX4_found_0) (fun _ h9 => h9) rfl dX4_found_2 ?_
  refine va_getN (D := (dC, dI)) (ci := 3) (v := .int (gs 0 1)) (C := RX3) (T := TX3) (N := 11) (host := RX4) hx hb hts iX4_found_X3 hown hK (t4s hP) 0 rfl rfl 1 (by decide) (nw_use hN 11 rfl) (fun _ h9 => h9) rfl dX4_found_5 ?_
  refine tx_S (As := [.int a1, .int (gs 0 1)]) (rest := []) ⟨hx, hb, hml, hown, hts⟩ (c_X4_checkIndex l hfl a1 (gs 0 1) _) (va_cwS 2 hts gX4_found_X4_checkIndex rfl rfl rfl (by decide +kernel) ⟨Nat.le_of_ble_eq_true rfl, Nat.le_of_ble_eq_true rfl⟩) hP hS hA hXS hXH het hlk rfl rfl hl.1 (Nat.le_of_ble_eq_true rfl) ⟨Nat.le_of_ble_eq_true rfl, Nat.le_of_ble_eq_true rfl⟩ ⟨Nat.le_of_ble_eq_true rfl, Nat.le_of_ble_eq_true rfl⟩ dX4_found_8 (fun hno t hPt hFt => ⟨(), trivial, ⟨hp.2 hno, hPt, hD⟩, hFt⟩) (fun hok H locs hP hS => ?_)
  have hp := hp.1 hok
  refine lv_iload_n hx hb dX4_found_11 rfl (lv_at hl 2 rfl) ?_
  refine lv_iconst (v := 4) hx hb dX4_found_12 (by decide) ?_
  refine tx_S (As := [.int a2, .int (4 : Int32)]) (rest := []) ⟨hx, hb, hml, hown, hts⟩ (c_X4_checkIndex l hfl a2 (4 : Int32) _) (va_cwS 2 hts gX4_found_X4_checkIndex rfl rfl rfl (by decide +kernel) ⟨Nat.le_of_ble_eq_true rfl, Nat.le_of_ble_eq_true rfl⟩) hP hS hA hXS hXH het hlk rfl rfl hl.1 (Nat.le_of_ble_eq_true rfl) ⟨Nat.le_of_ble_eq_true rfl, Nat.le_of_ble_eq_true rfl⟩ ⟨Nat.le_of_ble_eq_true rfl, Nat.le_of_ble_eq_true rfl⟩ dX4_found_13 (fun hno t hPt hFt => ⟨(), trivial, ⟨hp.2 hno, hPt, hD⟩, hFt⟩) (fun hok H locs hP hS => ?_)
  have hp := hp.1 hok
  refine lv_iload_n hx hb dX4_found_16 rfl (lv_at hl 3 rfl) ?_
  refine lv_iconst (v := 1) hx hb dX4_found_17 (by decide) ?_
  refine lv_bipush (v := 9) hx hb dX4_found_18 (by decide) ?_
  refine tx_S (As := [.int a3, .int (1 : Int32), .int (9 : Int32)]) (rest := []) ⟨hx, hb, hml, hown, hts⟩ (c_X4_checkRange l hfl a3 (1 : Int32) (9 : Int32) _) (va_cwS 3 hts gX4_found_X4_checkRange rfl rfl rfl (by decide +kernel) ⟨Nat.le_of_ble_eq_true rfl, Nat.le_of_ble_eq_true rfl⟩) hP hS hA hXS hXH het hlk rfl rfl hl.1 (Nat.le_of_ble_eq_true rfl) ⟨Nat.le_of_ble_eq_true rfl, Nat.le_of_ble_eq_true rfl⟩ ⟨Nat.le_of_ble_eq_true rfl, Nat.le_of_ble_eq_true rfl⟩ dX4_found_20 (fun hno t hPt hFt => ⟨(), trivial, ⟨hp.2 hno, hPt, hD⟩, hFt⟩) (fun hok H locs hP hS => ?_)
  have hp := hp.1 hok
  refine lv_aload_n hx hb dX4_found_23 rfl (lv_at hl 0 rfl) ?_
  refine va_get (D := (dC, dI)) (ci := 4) (v := .ref (qs 0)) (C := RX4) (T := TX4) (N := 3) hx hb hts iX4_found_X4 hown hK hP 0 rfl rfl 1 (by decide) (hts _ kX4_found_0) (fun _ h9 => h9) rfl dX4_found_24 ?_
  refine lv_iload_n hx hb dX4_found_27 rfl (lv_at hl 1 rfl) ?_
  obtain ⟨r1, hr1, hp⟩ := hp
  refine ro_V (As := [.int a1]) (rest := []) ⟨hx, hb, hml, hown, hts⟩ (c_X3_place l dC dI cI qs gs a1 r1 hr1) (cwV 1 hts gX4_found_X3_place rfl rfl rfl (by decide +kernel) ⟨Nat.le_of_ble_eq_true rfl, Nat.le_of_ble_eq_true rfl⟩) (t4s hP) hK hN rfl rfl rfl rfl hl.1 (Nat.le_of_ble_eq_true rfl) ⟨Nat.le_of_ble_eq_true rfl, Nat.le_of_ble_eq_true rfl⟩ dX4_found_28 ?_
  refine lv_if_ne (tgt := 51) hx hb dX4_found_31 (by decide) (fun c4 => ?_) (fun c4 => ?_)
  · have hp := hp.1 c4
    rw [eV51] at hp
    exact hp _ _ _ hP hS (lv_sub hl [0, 1, 2, 3] rfl)
  · have hp := hp.2 c4
    refine lv_aload_n hx hb dX4_found_34 rfl (lv_at hl 0 rfl) ?_
    refine va_get (D := (dC, dI)) (ci := 4) (v := .ref (qs 0)) (C := RX4) (T := TX4) (N := 3) hx hb hts iX4_found_X4 hown hK hP 0 rfl rfl 1 (by decide) (hts _ kX4_found_0) (fun _ h9 => h9) rfl dX4_found_35 ?_
    refine lv_iload_n hx hb dX4_found_38 rfl (lv_at hl 1 rfl) ?_
    refine lv_iload_n hx hb dX4_found_39 rfl (lv_at hl 2 rfl) ?_
    obtain ⟨r2, hr2, hp⟩ := hp
    refine ro_V (As := [.int a1, .int a2]) (rest := []) ⟨hx, hb, hml, hown, hts⟩ (c_X3_lack l dC dI cI qs gs a1 a2 r2 hr2) (cwV 2 hts gX4_found_X3_lack rfl rfl rfl (by decide +kernel) ⟨Nat.le_of_ble_eq_true rfl, Nat.le_of_ble_eq_true rfl⟩) (t4s hP) hK hN rfl rfl rfl rfl hl.1 (Nat.le_of_ble_eq_true rfl) ⟨Nat.le_of_ble_eq_true rfl, Nat.le_of_ble_eq_true rfl⟩ dX4_found_40 ?_
    refine lv_iload_n hx hb dX4_found_43 rfl (lv_at hl 3 rfl) ?_
    refine lv_icmp_lt (tgt := 51) hx hb dX4_found_44 (by decide) (fun c3 => ?_) (fun c3 => ?_)
    · have hp := hp.1 c3
      rw [eV51] at hp
      exact hp _ _ _ hP hS (lv_sub hl [0, 1, 2, 3] rfl)
    · have hp := hp.2 c3
      refine lv_iconst (v := 1) hx hb dX4_found_47 (by decide) ?_
      refine lv_goto (tgt := 52) hx hb dX4_found_48 (by decide) ?_
      rw [eV52] at hp
      exact hp _ _ _ hP hS (lv_sub hl [0, 1, 2, 3] rfl)
theorem kX4_pieces_0 : (.fieldLink RX4 19 "Meeplehouse" "shelf" "LMeeplehouse$Shelf;" : Cond) ∈ wsX4_pieces := by decide +kernel
theorem iX4_pieces_X4 : ∀ w ∈ wsX40, w ∈ wsX4_pieces := by decide +kernel
theorem iX4_pieces_X3 : ∀ w ∈ wsX30, w ∈ wsX4_pieces := by decide +kernel
def P_X4_pieces (gh gs gr : St) (a1 : Int32) (a2 : Int32) (ok : Int32 → St → St → St → Prop) (ex : String → Prop) : Prop := (((¬ a1 < 0 ∧ a1 < (gs 0 1)) → (((¬ a2 < 0 ∧ a2 < (4 : Int32)) → (∃ r1 : Int32, P_X3_count gs a1 a2 r1 ∧ (ok r1 gh gs gr))) ∧ (¬ (¬ a2 < 0 ∧ a2 < (4 : Int32)) → (ex E_i)))) ∧ (¬ (¬ a1 < 0 ∧ a1 < (gs 0 1)) → (ex E_i)))
set_option maxRecDepth 100000 in
set_option maxHeartbeats 4000000 in
theorem c_X4_pieces (l : Launch) (hfl : l.stackTraces = false) (dC : Nat → ClassId) (dI : Nat → Nat → Nat) (cI : ClassId) (b0 : Nat) (qh qs qr : Nat → Nat) (gh gs gr : St) (a1 : Int32) (a2 : Int32) (ok : Int32 → St → St → St → Prop) (ex : String → Prop) (hp : P_X4_pieces gh gs gr a1 a2 ok ex) (sz : Nat) : vx_Met l yX4_pieces wsX4_pieces { frames := 7, cells := 2, slots := 12, locals := 103 } (va_Pc [.ref b0, .int a1, .int a2] (tpS (dC, dI) vwCl [(cI, .int)] (wX4 b0 qh qs qr cI gh gs gr) sz)) (va_Qi (fun (r : Int32) (u : St × St × St) => ok r u.1 u.2.1 u.2.2) (fun u t => wqB (dC, dI) vwCl (wX4 b0 qh qs qr cI u.1 u.2.1 u.2.2) (va_A (wX4 b0 qh qs qr cI gh gs gr) sz) t) (va_A (wX4 b0 qh qs qr cI gh gs gr) sz)) (vx_X (fun _ : Unit => True) (fun E _ t => ex E ∧ wqB (dC, dI) vwCl (wX4 b0 qh qs qr cI gh gs gr) (va_A (wX4 b0 qh qs qr cI gh gs gr) sz) t) (va_A (wX4 b0 qh qs qr cI gh gs gr) sz)) 2 12 (va_A (wX4 b0 qh qs qr cI gh gs gr) sz) := by
  refine tx_met (fun A => (va_Qi (fun (r : Int32) (u : St × St × St) => ok r u.1 u.2.1 u.2.2) (fun u t => wqB (dC, dI) vwCl (wX4 b0 qh qs qr cI u.1 u.2.1 u.2.2) A t) A)) (fun A => (vx_X (fun _ : Unit => True) (fun E _ t => ex E ∧ wqB (dC, dI) vwCl (wX4 b0 qh qs qr cI gh gs gr) A t) A)) (cc := cX4_pieces) (maxL := 3) (ret := (some .int)) (by decide) rfl (Nat.le_of_ble_eq_true rfl) ?_
  intro p e s m below meth c A hx hb hml hr hlk het hts hown hP hK hN hD hA hXS hXH ls hl
  have hS : va_S A s.heap s.heap [] := va_S.rf
  have hl : lv_has ls 3 [(0, .ref b0), (1, .int a1), (2, .int a2)] := hl
  unfold P_X4_pieces at hp
  refine lv_iload_n hx hb dX4_pieces_0 rfl (lv_at hl 1 rfl) ?_
  refine lv_aload_n hx hb dX4_pieces_1 rfl (lv_at hl 0 rfl) ?_
  refine va_get (D := (dC, dI)) (ci := 4) (v := .ref (qs 0)) (C := RX4) (T := TX4) (N := 3) hx hb hts iX4_pieces_X4 hown hK hP 0 rfl rfl 1 (by decide) (hts _ kX4_pieces_0) (fun _ h9 => h9) rfl dX4_pieces_2 ?_
  refine va_getN (D := (dC, dI)) (ci := 3) (v := .int (gs 0 1)) (C := RX3) (T := TX3) (N := 11) (host := RX4) hx hb hts iX4_pieces_X3 hown hK (t4s hP) 0 rfl rfl 1 (by decide) (nw_use hN 11 rfl) (fun _ h9 => h9) rfl dX4_pieces_5 ?_
  refine tx_S (As := [.int a1, .int (gs 0 1)]) (rest := []) ⟨hx, hb, hml, hown, hts⟩ (c_X4_checkIndex l hfl a1 (gs 0 1) _) (va_cwS 2 hts gX4_pieces_X4_checkIndex rfl rfl rfl (by decide +kernel) ⟨Nat.le_of_ble_eq_true rfl, Nat.le_of_ble_eq_true rfl⟩) hP hS hA hXS hXH het hlk rfl rfl hl.1 (Nat.le_of_ble_eq_true rfl) ⟨Nat.le_of_ble_eq_true rfl, Nat.le_of_ble_eq_true rfl⟩ ⟨Nat.le_of_ble_eq_true rfl, Nat.le_of_ble_eq_true rfl⟩ dX4_pieces_8 (fun hno t hPt hFt => ⟨(), trivial, ⟨hp.2 hno, hPt, hD⟩, hFt⟩) (fun hok H locs hP hS => ?_)
  have hp := hp.1 hok
  refine lv_iload_n hx hb dX4_pieces_11 rfl (lv_at hl 2 rfl) ?_
  refine lv_iconst (v := 4) hx hb dX4_pieces_12 (by decide) ?_
  refine tx_S (As := [.int a2, .int (4 : Int32)]) (rest := []) ⟨hx, hb, hml, hown, hts⟩ (c_X4_checkIndex l hfl a2 (4 : Int32) _) (va_cwS 2 hts gX4_pieces_X4_checkIndex rfl rfl rfl (by decide +kernel) ⟨Nat.le_of_ble_eq_true rfl, Nat.le_of_ble_eq_true rfl⟩) hP hS hA hXS hXH het hlk rfl rfl hl.1 (Nat.le_of_ble_eq_true rfl) ⟨Nat.le_of_ble_eq_true rfl, Nat.le_of_ble_eq_true rfl⟩ ⟨Nat.le_of_ble_eq_true rfl, Nat.le_of_ble_eq_true rfl⟩ dX4_pieces_13 (fun hno t hPt hFt => ⟨(), trivial, ⟨hp.2 hno, hPt, hD⟩, hFt⟩) (fun hok H locs hP hS => ?_)
  have hp := hp.1 hok
  refine lv_aload_n hx hb dX4_pieces_16 rfl (lv_at hl 0 rfl) ?_
  refine va_get (D := (dC, dI)) (ci := 4) (v := .ref (qs 0)) (C := RX4) (T := TX4) (N := 3) hx hb hts iX4_pieces_X4 hown hK hP 0 rfl rfl 1 (by decide) (hts _ kX4_pieces_0) (fun _ h9 => h9) rfl dX4_pieces_17 ?_
  refine lv_iload_n hx hb dX4_pieces_20 rfl (lv_at hl 1 rfl) ?_
  refine lv_iload_n hx hb dX4_pieces_21 rfl (lv_at hl 2 rfl) ?_
  obtain ⟨r1, hr1, hp⟩ := hp
  refine ro_V (As := [.int a1, .int a2]) (rest := []) ⟨hx, hb, hml, hown, hts⟩ (c_X3_count l dC dI cI qs gs a1 a2 r1 hr1) (cwV 2 hts gX4_pieces_X3_count rfl rfl rfl (by decide +kernel) ⟨Nat.le_of_ble_eq_true rfl, Nat.le_of_ble_eq_true rfl⟩) (t4s hP) hK hN rfl rfl rfl rfl hl.1 (Nat.le_of_ble_eq_true rfl) ⟨Nat.le_of_ble_eq_true rfl, Nat.le_of_ble_eq_true rfl⟩ dX4_pieces_22 ?_
  refine vx_ret (W.widen (k := 2) (n := 12) (Nat.le_of_ble_eq_true rfl) (Nat.le_of_ble_eq_true rfl) ?_)
  exact W.iret hx hb hr (fun t ht _ => ⟨⟨_, (gh, gs, gr), rfl, hp, by rw [ht]; exact hP, hD⟩, hS.F ht⟩) hS.2.2 dX4_pieces_25
theorem kX4_stateOf_0 : (.fieldLink RX4 19 "Meeplehouse" "shelf" "LMeeplehouse$Shelf;" : Cond) ∈ wsX4_stateOf := by decide +kernel
theorem iX4_stateOf_X4 : ∀ w ∈ wsX40, w ∈ wsX4_stateOf := by decide +kernel
theorem iX4_stateOf_X3 : ∀ w ∈ wsX30, w ∈ wsX4_stateOf := by decide +kernel
def P_X4_stateOf (gh gs gr : St) (a1 : Int32) (ok : Int32 → St → St → St → Prop) (ex : String → Prop) : Prop := (((¬ a1 < 0 ∧ a1 < (gs 0 1)) → (∃ r1 : Int32, P_X3_place gs a1 r1 ∧ (ok r1 gh gs gr))) ∧ (¬ (¬ a1 < 0 ∧ a1 < (gs 0 1)) → (ex E_i)))
set_option maxRecDepth 100000 in
set_option maxHeartbeats 4000000 in
theorem c_X4_stateOf (l : Launch) (hfl : l.stackTraces = false) (dC : Nat → ClassId) (dI : Nat → Nat → Nat) (cI : ClassId) (b0 : Nat) (qh qs qr : Nat → Nat) (gh gs gr : St) (a1 : Int32) (ok : Int32 → St → St → St → Prop) (ex : String → Prop) (hp : P_X4_stateOf gh gs gr a1 ok ex) (sz : Nat) : vx_Met l yX4_stateOf wsX4_stateOf { frames := 7, cells := 1, slots := 6, locals := 103 } (va_Pc [.ref b0, .int a1] (tpS (dC, dI) vwCl [(cI, .int)] (wX4 b0 qh qs qr cI gh gs gr) sz)) (va_Qi (fun (r : Int32) (u : St × St × St) => ok r u.1 u.2.1 u.2.2) (fun u t => wqB (dC, dI) vwCl (wX4 b0 qh qs qr cI u.1 u.2.1 u.2.2) (va_A (wX4 b0 qh qs qr cI gh gs gr) sz) t) (va_A (wX4 b0 qh qs qr cI gh gs gr) sz)) (vx_X (fun _ : Unit => True) (fun E _ t => ex E ∧ wqB (dC, dI) vwCl (wX4 b0 qh qs qr cI gh gs gr) (va_A (wX4 b0 qh qs qr cI gh gs gr) sz) t) (va_A (wX4 b0 qh qs qr cI gh gs gr) sz)) 1 6 (va_A (wX4 b0 qh qs qr cI gh gs gr) sz) := by
  refine tx_met (fun A => (va_Qi (fun (r : Int32) (u : St × St × St) => ok r u.1 u.2.1 u.2.2) (fun u t => wqB (dC, dI) vwCl (wX4 b0 qh qs qr cI u.1 u.2.1 u.2.2) A t) A)) (fun A => (vx_X (fun _ : Unit => True) (fun E _ t => ex E ∧ wqB (dC, dI) vwCl (wX4 b0 qh qs qr cI gh gs gr) A t) A)) (cc := cX4_stateOf) (maxL := 2) (ret := (some .int)) (by decide) rfl (Nat.le_of_ble_eq_true rfl) ?_
  intro p e s m below meth c A hx hb hml hr hlk het hts hown hP hK hN hD hA hXS hXH ls hl
  have hS : va_S A s.heap s.heap [] := va_S.rf
  have hl : lv_has ls 2 [(0, .ref b0), (1, .int a1)] := hl
  unfold P_X4_stateOf at hp
  refine lv_iload_n hx hb dX4_stateOf_0 rfl (lv_at hl 1 rfl) ?_
  refine lv_aload_n hx hb dX4_stateOf_1 rfl (lv_at hl 0 rfl) ?_
  refine va_get (D := (dC, dI)) (ci := 4) (v := .ref (qs 0)) (C := RX4) (T := TX4) (N := 3) hx hb hts iX4_stateOf_X4 hown hK hP 0 rfl rfl 1 (by decide) (hts _ kX4_stateOf_0) (fun _ h9 => h9) rfl dX4_stateOf_2 ?_
  refine va_getN (D := (dC, dI)) (ci := 3) (v := .int (gs 0 1)) (C := RX3) (T := TX3) (N := 11) (host := RX4) hx hb hts iX4_stateOf_X3 hown hK (t4s hP) 0 rfl rfl 1 (by decide) (nw_use hN 11 rfl) (fun _ h9 => h9) rfl dX4_stateOf_5 ?_
  refine tx_S (As := [.int a1, .int (gs 0 1)]) (rest := []) ⟨hx, hb, hml, hown, hts⟩ (c_X4_checkIndex l hfl a1 (gs 0 1) _) (va_cwS 2 hts gX4_stateOf_X4_checkIndex rfl rfl rfl (by decide +kernel) ⟨Nat.le_of_ble_eq_true rfl, Nat.le_of_ble_eq_true rfl⟩) hP hS hA hXS hXH het hlk rfl rfl hl.1 (Nat.le_of_ble_eq_true rfl) ⟨Nat.le_of_ble_eq_true rfl, Nat.le_of_ble_eq_true rfl⟩ ⟨Nat.le_of_ble_eq_true rfl, Nat.le_of_ble_eq_true rfl⟩ dX4_stateOf_8 (fun hno t hPt hFt => ⟨(), trivial, ⟨hp.2 hno, hPt, hD⟩, hFt⟩) (fun hok H locs hP hS => ?_)
  have hp := hp.1 hok
  refine lv_aload_n hx hb dX4_stateOf_11 rfl (lv_at hl 0 rfl) ?_
  refine va_get (D := (dC, dI)) (ci := 4) (v := .ref (qs 0)) (C := RX4) (T := TX4) (N := 3) hx hb hts iX4_stateOf_X4 hown hK hP 0 rfl rfl 1 (by decide) (hts _ kX4_stateOf_0) (fun _ h9 => h9) rfl dX4_stateOf_12 ?_
  refine lv_iload_n hx hb dX4_stateOf_15 rfl (lv_at hl 1 rfl) ?_
  obtain ⟨r1, hr1, hp⟩ := hp
  refine ro_V (As := [.int a1]) (rest := []) ⟨hx, hb, hml, hown, hts⟩ (c_X3_place l dC dI cI qs gs a1 r1 hr1) (cwV 1 hts gX4_stateOf_X3_place rfl rfl rfl (by decide +kernel) ⟨Nat.le_of_ble_eq_true rfl, Nat.le_of_ble_eq_true rfl⟩) (t4s hP) hK hN rfl rfl rfl rfl hl.1 (Nat.le_of_ble_eq_true rfl) ⟨Nat.le_of_ble_eq_true rfl, Nat.le_of_ble_eq_true rfl⟩ dX4_stateOf_16 ?_
  refine vx_ret (W.widen (k := 1) (n := 6) (Nat.le_of_ble_eq_true rfl) (Nat.le_of_ble_eq_true rfl) ?_)
  exact W.iret hx hb hr (fun t ht _ => ⟨⟨_, (gh, gs, gr), rfl, hp, by rw [ht]; exact hP, hD⟩, hS.F ht⟩) hS.2.2 dX4_stateOf_19
theorem kX4_lenders_0 : (.fieldLink RX4 19 "Meeplehouse" "shelf" "LMeeplehouse$Shelf;" : Cond) ∈ wsX4_lenders := by decide +kernel
theorem iX4_lenders_X4 : ∀ w ∈ wsX40, w ∈ wsX4_lenders := by decide +kernel
theorem iX4_lenders_X3 : ∀ w ∈ wsX30, w ∈ wsX4_lenders := by decide +kernel
def P_X4_lenders (gh gs gr : St) (a1 : Int32) (ok : Int32 → St → St → St → Prop) (ex : String → Prop) : Prop := (((¬ a1 < 0 ∧ a1 < (gs 0 1)) → (∃ r1 : Int32, P_X3_countLenders gs a1 r1 ∧ (ok r1 gh gs gr))) ∧ (¬ (¬ a1 < 0 ∧ a1 < (gs 0 1)) → (ex E_i)))
set_option maxRecDepth 100000 in
set_option maxHeartbeats 4000000 in
theorem c_X4_lenders (l : Launch) (hfl : l.stackTraces = false) (dC : Nat → ClassId) (dI : Nat → Nat → Nat) (cI : ClassId) (b0 : Nat) (qh qs qr : Nat → Nat) (gh gs gr : St) (a1 : Int32) (ok : Int32 → St → St → St → Prop) (ex : String → Prop) (hp : P_X4_lenders gh gs gr a1 ok ex) (sz : Nat) : vx_Met l yX4_lenders wsX4_lenders { frames := 7, cells := 1, slots := 6, locals := 103 } (va_Pc [.ref b0, .int a1] (tpS (dC, dI) vwCl [(cI, .int)] (wX4 b0 qh qs qr cI gh gs gr) sz)) (va_Qi (fun (r : Int32) (u : St × St × St) => ok r u.1 u.2.1 u.2.2) (fun u t => wqB (dC, dI) vwCl (wX4 b0 qh qs qr cI u.1 u.2.1 u.2.2) (va_A (wX4 b0 qh qs qr cI gh gs gr) sz) t) (va_A (wX4 b0 qh qs qr cI gh gs gr) sz)) (vx_X (fun _ : Unit => True) (fun E _ t => ex E ∧ wqB (dC, dI) vwCl (wX4 b0 qh qs qr cI gh gs gr) (va_A (wX4 b0 qh qs qr cI gh gs gr) sz) t) (va_A (wX4 b0 qh qs qr cI gh gs gr) sz)) 1 6 (va_A (wX4 b0 qh qs qr cI gh gs gr) sz) := by
  refine tx_met (fun A => (va_Qi (fun (r : Int32) (u : St × St × St) => ok r u.1 u.2.1 u.2.2) (fun u t => wqB (dC, dI) vwCl (wX4 b0 qh qs qr cI u.1 u.2.1 u.2.2) A t) A)) (fun A => (vx_X (fun _ : Unit => True) (fun E _ t => ex E ∧ wqB (dC, dI) vwCl (wX4 b0 qh qs qr cI gh gs gr) A t) A)) (cc := cX4_lenders) (maxL := 2) (ret := (some .int)) (by decide) rfl (Nat.le_of_ble_eq_true rfl) ?_
  intro p e s m below meth c A hx hb hml hr hlk het hts hown hP hK hN hD hA hXS hXH ls hl
  have hS : va_S A s.heap s.heap [] := va_S.rf
  have hl : lv_has ls 2 [(0, .ref b0), (1, .int a1)] := hl
  unfold P_X4_lenders at hp
  refine lv_iload_n hx hb dX4_lenders_0 rfl (lv_at hl 1 rfl) ?_
  refine lv_aload_n hx hb dX4_lenders_1 rfl (lv_at hl 0 rfl) ?_
  refine va_get (D := (dC, dI)) (ci := 4) (v := .ref (qs 0)) (C := RX4) (T := TX4) (N := 3) hx hb hts iX4_lenders_X4 hown hK hP 0 rfl rfl 1 (by decide) (hts _ kX4_lenders_0) (fun _ h9 => h9) rfl dX4_lenders_2 ?_
  refine va_getN (D := (dC, dI)) (ci := 3) (v := .int (gs 0 1)) (C := RX3) (T := TX3) (N := 11) (host := RX4) hx hb hts iX4_lenders_X3 hown hK (t4s hP) 0 rfl rfl 1 (by decide) (nw_use hN 11 rfl) (fun _ h9 => h9) rfl dX4_lenders_5 ?_
  refine tx_S (As := [.int a1, .int (gs 0 1)]) (rest := []) ⟨hx, hb, hml, hown, hts⟩ (c_X4_checkIndex l hfl a1 (gs 0 1) _) (va_cwS 2 hts gX4_lenders_X4_checkIndex rfl rfl rfl (by decide +kernel) ⟨Nat.le_of_ble_eq_true rfl, Nat.le_of_ble_eq_true rfl⟩) hP hS hA hXS hXH het hlk rfl rfl hl.1 (Nat.le_of_ble_eq_true rfl) ⟨Nat.le_of_ble_eq_true rfl, Nat.le_of_ble_eq_true rfl⟩ ⟨Nat.le_of_ble_eq_true rfl, Nat.le_of_ble_eq_true rfl⟩ dX4_lenders_8 (fun hno t hPt hFt => ⟨(), trivial, ⟨hp.2 hno, hPt, hD⟩, hFt⟩) (fun hok H locs hP hS => ?_)
  have hp := hp.1 hok
  refine lv_aload_n hx hb dX4_lenders_11 rfl (lv_at hl 0 rfl) ?_
  refine va_get (D := (dC, dI)) (ci := 4) (v := .ref (qs 0)) (C := RX4) (T := TX4) (N := 3) hx hb hts iX4_lenders_X4 hown hK hP 0 rfl rfl 1 (by decide) (hts _ kX4_lenders_0) (fun _ h9 => h9) rfl dX4_lenders_12 ?_
  refine lv_iload_n hx hb dX4_lenders_15 rfl (lv_at hl 1 rfl) ?_
  obtain ⟨r1, hr1, hp⟩ := hp
  refine ro_V (As := [.int a1]) (rest := []) ⟨hx, hb, hml, hown, hts⟩ (c_X3_countLenders l dC dI cI qs gs a1 r1 hr1) (cwV 1 hts gX4_lenders_X3_countLenders rfl rfl rfl (by decide +kernel) ⟨Nat.le_of_ble_eq_true rfl, Nat.le_of_ble_eq_true rfl⟩) (t4s hP) hK hN rfl rfl rfl rfl hl.1 (Nat.le_of_ble_eq_true rfl) ⟨Nat.le_of_ble_eq_true rfl, Nat.le_of_ble_eq_true rfl⟩ dX4_lenders_16 ?_
  refine vx_ret (W.widen (k := 1) (n := 6) (Nat.le_of_ble_eq_true rfl) (Nat.le_of_ble_eq_true rfl) ?_)
  exact W.iret hx hb hr (fun t ht _ => ⟨⟨_, (gh, gs, gr), rfl, hp, by rw [ht]; exact hP, hD⟩, hS.F ht⟩) hS.2.2 dX4_lenders_19
theorem kX4_copyOf_0 : (.fieldLink RX4 10 "Meeplehouse" "hall" "LMeeplehouse$Hall;" : Cond) ∈ wsX4_copyOf := by decide +kernel
theorem iX4_copyOf_X4 : ∀ w ∈ wsX40, w ∈ wsX4_copyOf := by decide +kernel
theorem iX4_copyOf_X0 : ∀ w ∈ wsX00, w ∈ wsX4_copyOf := by decide +kernel
theorem kX4_copyOf_3 : (.fieldLink RX4 19 "Meeplehouse" "shelf" "LMeeplehouse$Shelf;" : Cond) ∈ wsX4_copyOf := by decide +kernel
def P_X4_copyOf (gh gs gr : St) (a1 : Int32) (ok : Int32 → St → St → St → Prop) (ex : String → Prop) : Prop := (((¬ a1 < 0 ∧ a1 < (gh 0 2)) → (∃ r1 : Int32, P_X3_heldBy gs a1 r1 ∧ (ok r1 gh gs gr))) ∧ (¬ (¬ a1 < 0 ∧ a1 < (gh 0 2)) → (ex E_i)))
set_option maxRecDepth 100000 in
set_option maxHeartbeats 4000000 in
theorem c_X4_copyOf (l : Launch) (hfl : l.stackTraces = false) (dC : Nat → ClassId) (dI : Nat → Nat → Nat) (cI : ClassId) (b0 : Nat) (qh qs qr : Nat → Nat) (gh gs gr : St) (a1 : Int32) (ok : Int32 → St → St → St → Prop) (ex : String → Prop) (hp : P_X4_copyOf gh gs gr a1 ok ex) (sz : Nat) : vx_Met l yX4_copyOf wsX4_copyOf { frames := 7, cells := 1, slots := 6, locals := 103 } (va_Pc [.ref b0, .int a1] (tpS (dC, dI) vwCl [(cI, .int)] (wX4 b0 qh qs qr cI gh gs gr) sz)) (va_Qi (fun (r : Int32) (u : St × St × St) => ok r u.1 u.2.1 u.2.2) (fun u t => wqB (dC, dI) vwCl (wX4 b0 qh qs qr cI u.1 u.2.1 u.2.2) (va_A (wX4 b0 qh qs qr cI gh gs gr) sz) t) (va_A (wX4 b0 qh qs qr cI gh gs gr) sz)) (vx_X (fun _ : Unit => True) (fun E _ t => ex E ∧ wqB (dC, dI) vwCl (wX4 b0 qh qs qr cI gh gs gr) (va_A (wX4 b0 qh qs qr cI gh gs gr) sz) t) (va_A (wX4 b0 qh qs qr cI gh gs gr) sz)) 1 6 (va_A (wX4 b0 qh qs qr cI gh gs gr) sz) := by
  refine tx_met (fun A => (va_Qi (fun (r : Int32) (u : St × St × St) => ok r u.1 u.2.1 u.2.2) (fun u t => wqB (dC, dI) vwCl (wX4 b0 qh qs qr cI u.1 u.2.1 u.2.2) A t) A)) (fun A => (vx_X (fun _ : Unit => True) (fun E _ t => ex E ∧ wqB (dC, dI) vwCl (wX4 b0 qh qs qr cI gh gs gr) A t) A)) (cc := cX4_copyOf) (maxL := 2) (ret := (some .int)) (by decide) rfl (Nat.le_of_ble_eq_true rfl) ?_
  intro p e s m below meth c A hx hb hml hr hlk het hts hown hP hK hN hD hA hXS hXH ls hl
  have hS : va_S A s.heap s.heap [] := va_S.rf
  have hl : lv_has ls 2 [(0, .ref b0), (1, .int a1)] := hl
  unfold P_X4_copyOf at hp
  refine lv_iload_n hx hb dX4_copyOf_0 rfl (lv_at hl 1 rfl) ?_
  refine lv_aload_n hx hb dX4_copyOf_1 rfl (lv_at hl 0 rfl) ?_
  refine va_get (D := (dC, dI)) (ci := 4) (v := .ref (qh 0)) (C := RX4) (T := TX4) (N := 3) hx hb hts iX4_copyOf_X4 hown hK hP 0 rfl rfl 0 (by decide) (hts _ kX4_copyOf_0) (fun _ h9 => h9) rfl dX4_copyOf_2 ?_
  refine va_getN (D := (dC, dI)) (ci := 0) (v := .int (gh 0 2)) (C := RX0) (T := TX0) (N := 9) (host := RX4) hx hb hts iX4_copyOf_X0 hown hK (t4h hP) 0 rfl rfl 2 (by decide) (nw_use hN 8 rfl) (fun _ h9 => h9) rfl dX4_copyOf_5 ?_
  refine tx_S (As := [.int a1, .int (gh 0 2)]) (rest := []) ⟨hx, hb, hml, hown, hts⟩ (c_X4_checkIndex l hfl a1 (gh 0 2) _) (va_cwS 2 hts gX4_copyOf_X4_checkIndex rfl rfl rfl (by decide +kernel) ⟨Nat.le_of_ble_eq_true rfl, Nat.le_of_ble_eq_true rfl⟩) hP hS hA hXS hXH het hlk rfl rfl hl.1 (Nat.le_of_ble_eq_true rfl) ⟨Nat.le_of_ble_eq_true rfl, Nat.le_of_ble_eq_true rfl⟩ ⟨Nat.le_of_ble_eq_true rfl, Nat.le_of_ble_eq_true rfl⟩ dX4_copyOf_8 (fun hno t hPt hFt => ⟨(), trivial, ⟨hp.2 hno, hPt, hD⟩, hFt⟩) (fun hok H locs hP hS => ?_)
  have hp := hp.1 hok
  refine lv_aload_n hx hb dX4_copyOf_11 rfl (lv_at hl 0 rfl) ?_
  refine va_get (D := (dC, dI)) (ci := 4) (v := .ref (qs 0)) (C := RX4) (T := TX4) (N := 3) hx hb hts iX4_copyOf_X4 hown hK hP 0 rfl rfl 1 (by decide) (hts _ kX4_copyOf_3) (fun _ h9 => h9) rfl dX4_copyOf_12 ?_
  refine lv_iload_n hx hb dX4_copyOf_15 rfl (lv_at hl 1 rfl) ?_
  obtain ⟨r1, hr1, hp⟩ := hp
  refine ro_V (As := [.int a1]) (rest := []) ⟨hx, hb, hml, hown, hts⟩ (c_X3_heldBy l dC dI cI qs gs a1 r1 hr1) (cwV 1 hts gX4_copyOf_X3_heldBy rfl rfl rfl (by decide +kernel) ⟨Nat.le_of_ble_eq_true rfl, Nat.le_of_ble_eq_true rfl⟩) (t4s hP) hK hN rfl rfl rfl rfl hl.1 (Nat.le_of_ble_eq_true rfl) ⟨Nat.le_of_ble_eq_true rfl, Nat.le_of_ble_eq_true rfl⟩ dX4_copyOf_16 ?_
  refine vx_ret (W.widen (k := 1) (n := 6) (Nat.le_of_ble_eq_true rfl) (Nat.le_of_ble_eq_true rfl) ?_)
  exact W.iret hx hb hr (fun t ht _ => ⟨⟨_, (gh, gs, gr), rfl, hp, by rw [ht]; exact hP, hD⟩, hS.F ht⟩) hS.2.2 dX4_copyOf_19
theorem kX4_playedBy_0 : (.fieldLink RX4 19 "Meeplehouse" "shelf" "LMeeplehouse$Shelf;" : Cond) ∈ wsX4_playedBy := by decide +kernel
theorem iX4_playedBy_X4 : ∀ w ∈ wsX40, w ∈ wsX4_playedBy := by decide +kernel
theorem iX4_playedBy_X3 : ∀ w ∈ wsX30, w ∈ wsX4_playedBy := by decide +kernel
def P_X4_playedBy (gh gs gr : St) (a1 : Int32) (r : Int32) : Prop := (∃ r1 : Int32, P_X3_heldBy gs a1 r1 ∧ (r = (f_at 16 (gs 5) r1)))
set_option maxRecDepth 100000 in
set_option maxHeartbeats 4000000 in
theorem c_X4_playedBy (l : Launch) (dC : Nat → ClassId) (dI : Nat → Nat → Nat) (cI : ClassId) (b0 : Nat) (qh qs qr : Nat → Nat) (gh gs gr : St) (a1 : Int32) (r : Int32) (hp : P_X4_playedBy gh gs gr a1 r) : Met l yX4_playedBy wsX4_playedBy { frames := 2, cells := 0, slots := 0, locals := 43 } (va_Pc [.ref b0, .int a1] (rpS (dC, dI) vwCl [(cI, .int)] (wX4 b0 qh qs qr cI gh gs gr))) (QcRead r) 0 0 (fun _ => False) := by
  refine ro_met (cc := cX4_playedBy) (maxL := 2) (ret := (some .int)) (by decide) rfl (Nat.le_of_ble_eq_true rfl) ?_
  intro p e s m below meth c hx hb hml hr hlk hts hown hP hK hN ls hl
  have hl : lv_has ls 2 [(0, .ref b0), (1, .int a1)] := hl
  unfold P_X4_playedBy at hp
  refine lv_aload_n hx hb dX4_playedBy_0 rfl (lv_at hl 0 rfl) ?_
  refine va_get (D := (dC, dI)) (ci := 4) (v := .ref (qs 0)) (C := RX4) (T := TX4) (N := 3) hx hb hts iX4_playedBy_X4 hown hK hP 0 rfl rfl 1 (by decide) (hts _ kX4_playedBy_0) (fun _ h9 => h9) rfl dX4_playedBy_1 ?_
  refine va_getN (D := (dC, dI)) (ci := 3) (v := .ref (qs 9)) (C := RX3) (T := TX3) (N := 11) (host := RX4) hx hb hts iX4_playedBy_X3 hown hK (t4s hP) 0 rfl rfl 6 (by decide) (nw_use hN 12 rfl) (fun _ h9 => h9) rfl dX4_playedBy_4 ?_
  refine lv_aload_n hx hb dX4_playedBy_7 rfl (lv_at hl 0 rfl) ?_
  refine va_get (D := (dC, dI)) (ci := 4) (v := .ref (qs 0)) (C := RX4) (T := TX4) (N := 3) hx hb hts iX4_playedBy_X4 hown hK hP 0 rfl rfl 1 (by decide) (hts _ kX4_playedBy_0) (fun _ h9 => h9) rfl dX4_playedBy_8 ?_
  refine lv_iload_n hx hb dX4_playedBy_11 rfl (lv_at hl 1 rfl) ?_
  obtain ⟨r1, hr1, hp⟩ := hp
  refine ro_V (As := [.int a1]) (rest := [.ref (qs 9)]) ⟨hx, hb, hml, hown, hts⟩ (c_X3_heldBy l dC dI cI qs gs a1 r1 hr1) (cwV 1 hts gX4_playedBy_X3_heldBy rfl rfl rfl (by decide +kernel) ⟨Nat.le_of_ble_eq_true rfl, Nat.le_of_ble_eq_true rfl⟩) (t4s hP) hK hN rfl rfl rfl rfl hl.1 (Nat.le_of_ble_eq_true rfl) ⟨Nat.le_of_ble_eq_true rfl, Nat.le_of_ble_eq_true rfl⟩ dX4_playedBy_12 ?_
  refine ro_V (As := [.int r1]) (rest := []) ⟨hx, hb, hml, hown, hts⟩ (c_X2_at l dC dI cI (qs 9) (qs 10) 16 (gs 5) r1 (by decide)) (cwV 1 hts gX4_playedBy_X2_at rfl rfl rfl (by decide +kernel) ⟨Nat.le_of_ble_eq_true rfl, Nat.le_of_ble_eq_true rfl⟩) ((t4s hP).sub [9, 10] rfl) hK hN rfl rfl rfl rfl hl.1 (Nat.le_of_ble_eq_true rfl) ⟨Nat.le_of_ble_eq_true rfl, Nat.le_of_ble_eq_true rfl⟩ dX4_playedBy_15 ?_
  exact W.iret hx hb hr (fun t ht _ => ⟨by rw [hp], ht⟩) (fun _ h => nomatch h) dX4_playedBy_18
theorem kX4_holdingFor_0 : (.fieldLink RX4 19 "Meeplehouse" "shelf" "LMeeplehouse$Shelf;" : Cond) ∈ wsX4_holdingFor := by decide +kernel
theorem iX4_holdingFor_X4 : ∀ w ∈ wsX40, w ∈ wsX4_holdingFor := by decide +kernel
theorem kX4_holdingFor_2 : (.fieldLink RX4 26 "Meeplehouse" "referee" "LMeeplehouse$Referee;" : Cond) ∈ wsX4_holdingFor := by decide +kernel
theorem kX4_holdingFor_3 : (.fieldLink RX4 10 "Meeplehouse" "hall" "LMeeplehouse$Hall;" : Cond) ∈ wsX4_holdingFor := by decide +kernel
theorem iX4_holdingFor_X0 : ∀ w ∈ wsX00, w ∈ wsX4_holdingFor := by decide +kernel
def P_X4_holdingFor (gh gs gr : St) (a1 : Int32) (r : Int32) : Prop := (∃ r1 : Int32, P_X3_heldBy gs a1 r1 ∧ (∃ r2 : Int32, P_X3_piecesLentTo gs r1 r2 ∧ (∃ r3 : Int32, P_X4_playedBy gh gs gr a1 r3 ∧ (∃ r5 : Int32, P_X0_minutesLeft gh a1 r5 ∧ (∃ r6 : Int32, P_X1_holding gr r3 (f_at 30 (gh 3) a1) r5 r2 r6 ∧ (r = r6))))))
set_option maxRecDepth 100000 in
set_option maxHeartbeats 4000000 in
theorem c_X4_holdingFor (l : Launch) (dC : Nat → ClassId) (dI : Nat → Nat → Nat) (cI : ClassId) (b0 : Nat) (qh qs qr : Nat → Nat) (gh gs gr : St) (a1 : Int32) (r : Int32) (hp : P_X4_holdingFor gh gs gr a1 r) : Met l yX4_holdingFor wsX4_holdingFor { frames := 3, cells := 0, slots := 0, locals := 64 } (va_Pc [.ref b0, .int a1] (rpS (dC, dI) vwCl [(cI, .int)] (wX4 b0 qh qs qr cI gh gs gr))) (QcRead r) 0 0 (fun _ => False) := by
  refine ro_met (cc := cX4_holdingFor) (maxL := 3) (ret := (some .int)) (by decide) rfl (Nat.le_of_ble_eq_true rfl) ?_
  intro p e s m below meth c hx hb hml hr hlk hts hown hP hK hN ls hl
  have hl : lv_has ls 3 [(0, .ref b0), (1, .int a1)] := hl
  unfold P_X4_holdingFor at hp
  refine lv_aload_n hx hb dX4_holdingFor_0 rfl (lv_at hl 0 rfl) ?_
  refine va_get (D := (dC, dI)) (ci := 4) (v := .ref (qs 0)) (C := RX4) (T := TX4) (N := 3) hx hb hts iX4_holdingFor_X4 hown hK hP 0 rfl rfl 1 (by decide) (hts _ kX4_holdingFor_0) (fun _ h9 => h9) rfl dX4_holdingFor_1 ?_
  refine lv_aload_n hx hb dX4_holdingFor_4 rfl (lv_at hl 0 rfl) ?_
  refine va_get (D := (dC, dI)) (ci := 4) (v := .ref (qs 0)) (C := RX4) (T := TX4) (N := 3) hx hb hts iX4_holdingFor_X4 hown hK hP 0 rfl rfl 1 (by decide) (hts _ kX4_holdingFor_0) (fun _ h9 => h9) rfl dX4_holdingFor_5 ?_
  refine lv_iload_n hx hb dX4_holdingFor_8 rfl (lv_at hl 1 rfl) ?_
  obtain ⟨r1, hr1, hp⟩ := hp
  refine ro_V (As := [.int a1]) (rest := [.ref (qs 0)]) ⟨hx, hb, hml, hown, hts⟩ (c_X3_heldBy l dC dI cI qs gs a1 r1 hr1) (cwV 1 hts gX4_holdingFor_X3_heldBy rfl rfl rfl (by decide +kernel) ⟨Nat.le_of_ble_eq_true rfl, Nat.le_of_ble_eq_true rfl⟩) (t4s hP) hK hN rfl rfl rfl rfl hl.1 (Nat.le_of_ble_eq_true rfl) ⟨Nat.le_of_ble_eq_true rfl, Nat.le_of_ble_eq_true rfl⟩ dX4_holdingFor_9 ?_
  obtain ⟨r2, hr2, hp⟩ := hp
  refine ro_V (As := [.int r1]) (rest := []) ⟨hx, hb, hml, hown, hts⟩ (c_X3_piecesLentTo l dC dI cI qs gs r1 r2 hr2) (cwV 1 hts gX4_holdingFor_X3_piecesLentTo rfl rfl rfl (by decide +kernel) ⟨Nat.le_of_ble_eq_true rfl, Nat.le_of_ble_eq_true rfl⟩) (t4s hP) hK hN rfl rfl rfl rfl hl.1 (Nat.le_of_ble_eq_true rfl) ⟨Nat.le_of_ble_eq_true rfl, Nat.le_of_ble_eq_true rfl⟩ dX4_holdingFor_12 ?_
  refine lv_istore_n (lv' := [(2, .int r2), (0, .ref b0), (1, .int a1)]) hx hb dX4_holdingFor_15 rfl hl (by decide) rfl (fun ls hl => ?_)
  refine lv_aload_n hx hb dX4_holdingFor_16 rfl (lv_at hl 1 rfl) ?_
  refine va_get (D := (dC, dI)) (ci := 4) (v := .ref (qr 0)) (C := RX4) (T := TX4) (N := 3) hx hb hts iX4_holdingFor_X4 hown hK hP 0 rfl rfl 2 (by decide) (hts _ kX4_holdingFor_2) (fun _ h9 => h9) rfl dX4_holdingFor_17 ?_
  refine lv_aload_n hx hb dX4_holdingFor_20 rfl (lv_at hl 1 rfl) ?_
  refine lv_iload_n hx hb dX4_holdingFor_21 rfl (lv_at hl 2 rfl) ?_
  obtain ⟨r3, hr3, hp⟩ := hp
  refine ro_V (As := [.int a1]) (rest := [.ref (qr 0)]) ⟨hx, hb, hml, hown, hts⟩ (c_X4_playedBy l dC dI cI b0 qh qs qr gh gs gr a1 r3 hr3) (cwV 1 hts gX4_holdingFor_X4_playedBy rfl rfl rfl (by decide +kernel) ⟨Nat.le_of_ble_eq_true rfl, Nat.le_of_ble_eq_true rfl⟩) hP hK hN rfl rfl rfl rfl hl.1 (Nat.le_of_ble_eq_true rfl) ⟨Nat.le_of_ble_eq_true rfl, Nat.le_of_ble_eq_true rfl⟩ dX4_holdingFor_22 ?_
  refine lv_aload_n hx hb dX4_holdingFor_25 rfl (lv_at hl 1 rfl) ?_
  refine va_get (D := (dC, dI)) (ci := 4) (v := .ref (qh 0)) (C := RX4) (T := TX4) (N := 3) hx hb hts iX4_holdingFor_X4 hown hK hP 0 rfl rfl 0 (by decide) (hts _ kX4_holdingFor_3) (fun _ h9 => h9) rfl dX4_holdingFor_26 ?_
  refine va_getN (D := (dC, dI)) (ci := 0) (v := .ref (qh 5)) (C := RX0) (T := TX0) (N := 9) (host := RX4) hx hb hts iX4_holdingFor_X0 hown hK (t4h hP) 0 rfl rfl 5 (by decide) (nw_use hN 9 rfl) (fun _ h9 => h9) rfl dX4_holdingFor_29 ?_
  refine lv_iload_n hx hb dX4_holdingFor_32 rfl (lv_at hl 2 rfl) ?_
  refine ro_V (As := [.int a1]) (rest := [.int r3, .ref (qr 0)]) ⟨hx, hb, hml, hown, hts⟩ (c_X2_at l dC dI cI (qh 5) (qh 6) 30 (gh 3) a1 (by decide)) (cwV 1 hts gX4_holdingFor_X2_at rfl rfl rfl (by decide +kernel) ⟨Nat.le_of_ble_eq_true rfl, Nat.le_of_ble_eq_true rfl⟩) ((t4h hP).sub [5, 6] rfl) hK hN rfl rfl rfl rfl hl.1 (Nat.le_of_ble_eq_true rfl) ⟨Nat.le_of_ble_eq_true rfl, Nat.le_of_ble_eq_true rfl⟩ dX4_holdingFor_33 ?_
  refine lv_aload_n hx hb dX4_holdingFor_36 rfl (lv_at hl 1 rfl) ?_
  refine va_get (D := (dC, dI)) (ci := 4) (v := .ref (qh 0)) (C := RX4) (T := TX4) (N := 3) hx hb hts iX4_holdingFor_X4 hown hK hP 0 rfl rfl 0 (by decide) (hts _ kX4_holdingFor_3) (fun _ h9 => h9) rfl dX4_holdingFor_37 ?_
  refine lv_iload_n hx hb dX4_holdingFor_40 rfl (lv_at hl 2 rfl) ?_
  obtain ⟨r5, hr5, hp⟩ := hp
  refine ro_V (As := [.int a1]) (rest := [.int (f_at 30 (gh 3) a1), .int r3, .ref (qr 0)]) ⟨hx, hb, hml, hown, hts⟩ (c_X0_minutesLeft l dC dI cI qh gh a1 r5 hr5) (cwV 1 hts gX4_holdingFor_X0_minutesLeft rfl rfl rfl (by decide +kernel) ⟨Nat.le_of_ble_eq_true rfl, Nat.le_of_ble_eq_true rfl⟩) (t4h hP) hK hN rfl rfl rfl rfl hl.1 (Nat.le_of_ble_eq_true rfl) ⟨Nat.le_of_ble_eq_true rfl, Nat.le_of_ble_eq_true rfl⟩ dX4_holdingFor_41 ?_
  refine lv_iload_n hx hb dX4_holdingFor_44 rfl (lv_at hl 0 rfl) ?_
  obtain ⟨r6, hr6, hp⟩ := hp
  refine ro_V (As := [.int r3, .int (f_at 30 (gh 3) a1), .int r5, .int r2]) (rest := []) ⟨hx, hb, hml, hown, hts⟩ (c_X1_holding l dC dI cI qr gr r3 (f_at 30 (gh 3) a1) r5 r2 r6 hr6) (cwV 4 hts gX4_holdingFor_X1_holding rfl rfl rfl (by decide +kernel) ⟨Nat.le_of_ble_eq_true rfl, Nat.le_of_ble_eq_true rfl⟩) (t4r hP) hK hN rfl rfl rfl rfl hl.1 (Nat.le_of_ble_eq_true rfl) ⟨Nat.le_of_ble_eq_true rfl, Nat.le_of_ble_eq_true rfl⟩ dX4_holdingFor_45 ?_
  exact W.iret hx hb hr (fun t ht _ => ⟨by rw [hp], ht⟩) (fun _ h => nomatch h) dX4_holdingFor_48
theorem kX4_ruling_0 : (.fieldLink RX4 10 "Meeplehouse" "hall" "LMeeplehouse$Hall;" : Cond) ∈ wsX4_ruling := by decide +kernel
theorem iX4_ruling_X4 : ∀ w ∈ wsX40, w ∈ wsX4_ruling := by decide +kernel
theorem iX4_ruling_X0 : ∀ w ∈ wsX00, w ∈ wsX4_ruling := by decide +kernel
theorem kX4_ruling_3 : (.fieldLink RX4 19 "Meeplehouse" "shelf" "LMeeplehouse$Shelf;" : Cond) ∈ wsX4_ruling := by decide +kernel
theorem kX4_ruling_4 : (.fieldLink RX4 26 "Meeplehouse" "referee" "LMeeplehouse$Referee;" : Cond) ∈ wsX4_ruling := by decide +kernel
def P_X4_ruling (gh gs gr : St) (a1 : Int32) (ok : Int32 → St → St → St → Prop) (ex : String → Prop) : Prop := ∀ V28 : Int32 → Prop, (∀ t0 : Int32, (((¬ t0 = 0) → (∃ r3 : Int32, P_X4_playedBy gh gs gr a1 r3 ∧ (∃ r4 : Int32, P_X4_holdingFor gh gs gr a1 r4 ∧ (∃ r5 : Int32, P_X1_rulingGoingDown gr r3 r4 r5 ∧ (ok r5 gh gs gr))))) ∧ (¬ (¬ t0 = 0) → (ex E_s))) → V28 t0) → (((¬ a1 < 0 ∧ a1 < (gh 0 2)) → (∃ r1 : Int32, P_X3_heldBy gs a1 r1 ∧ ((r1 = (-1 : Int32) → (V28 (0 : Int32))) ∧ (¬ r1 = (-1 : Int32) → (V28 (1 : Int32)))))) ∧ (¬ (¬ a1 < 0 ∧ a1 < (gh 0 2)) → (ex E_i)))
set_option maxRecDepth 100000 in
set_option maxHeartbeats 4000000 in
theorem c_X4_ruling (l : Launch) (hfl : l.stackTraces = false) (dC : Nat → ClassId) (dI : Nat → Nat → Nat) (cI : ClassId) (b0 : Nat) (qh qs qr : Nat → Nat) (gh gs gr : St) (a1 : Int32) (ok : Int32 → St → St → St → Prop) (ex : String → Prop) (hp : P_X4_ruling gh gs gr a1 ok ex) (sz : Nat) : vx_Met l yX4_ruling wsX4_ruling { frames := 7, cells := 2, slots := 12, locals := 103 } (va_Pc [.ref b0, .int a1] (tpS (dC, dI) vwCl [(cI, .int)] (wX4 b0 qh qs qr cI gh gs gr) sz)) (va_Qi (fun (r : Int32) (u : St × St × St) => ok r u.1 u.2.1 u.2.2) (fun u t => wqB (dC, dI) vwCl (wX4 b0 qh qs qr cI u.1 u.2.1 u.2.2) (va_A (wX4 b0 qh qs qr cI gh gs gr) sz) t) (va_A (wX4 b0 qh qs qr cI gh gs gr) sz)) (vx_X (fun _ : Unit => True) (fun E _ t => ex E ∧ wqB (dC, dI) vwCl (wX4 b0 qh qs qr cI gh gs gr) (va_A (wX4 b0 qh qs qr cI gh gs gr) sz) t) (va_A (wX4 b0 qh qs qr cI gh gs gr) sz)) 2 12 (va_A (wX4 b0 qh qs qr cI gh gs gr) sz) := by
  refine tx_met (fun A => (va_Qi (fun (r : Int32) (u : St × St × St) => ok r u.1 u.2.1 u.2.2) (fun u t => wqB (dC, dI) vwCl (wX4 b0 qh qs qr cI u.1 u.2.1 u.2.2) A t) A)) (fun A => (vx_X (fun _ : Unit => True) (fun E _ t => ex E ∧ wqB (dC, dI) vwCl (wX4 b0 qh qs qr cI gh gs gr) A t) A)) (cc := cX4_ruling) (maxL := 2) (ret := (some .int)) (by decide) rfl (Nat.le_of_ble_eq_true rfl) ?_
  intro p e s m below meth c A hx hb hml hr hlk het hts hown hP hK hN hD hA hXS hXH ls hl
  have hS : va_S A s.heap s.heap [] := va_S.rf
  have hl : lv_has ls 2 [(0, .ref b0), (1, .int a1)] := hl
  obtain ⟨V28, eV28⟩ : ∃ V : Int32 → Prop, V = (fun t0 => ∀ (H : Heap) (locs : List Loc) (ls : Array Slot), va_P (dC, dI) vwCl (wX4 b0 qh qs qr cI gh gs gr) H → va_S A s.heap H locs → lv_has ls 2 [(0, .ref b0), (1, .int a1)] → W p l e { frames := 7, cells := 2, slots := 12, locals := 103 } s m ([.ref b0, .int a1] : List Value).toArray below meth c H locs 1 6 (vx_MQ below (va_Qi (fun (r : Int32) (u : St × St × St) => ok r u.1 u.2.1 u.2.2) (fun u t => wqB (dC, dI) vwCl (wX4 b0 qh qs qr cI u.1 u.2.1 u.2.2) A t) A) (vx_X (fun _ : Unit => True) (fun E _ t => ex E ∧ wqB (dC, dI) vwCl (wX4 b0 qh qs qr cI gh gs gr) A t) A) ([.ref b0, .int a1] : List Value).toArray s 2 12 A) (F0 m 28 ls [.int t0])) := ⟨_, rfl⟩
  have hp := hp V28
  have hp := hp (by
    intro t0 hp
    rw [eV28]
    intro H locs ls hP hS hl
    refine tx_S (As := [.int t0]) (rest := []) ⟨hx, hb, hml, hown, hts⟩ (c_X4_checkState l hfl t0 _) (va_cwS 1 hts gX4_ruling_X4_checkState rfl rfl rfl (by decide +kernel) ⟨Nat.le_of_ble_eq_true rfl, Nat.le_of_ble_eq_true rfl⟩) hP hS hA hXS hXH het hlk rfl rfl hl.1 (Nat.le_of_ble_eq_true rfl) ⟨Nat.le_of_ble_eq_true rfl, Nat.le_of_ble_eq_true rfl⟩ ⟨Nat.le_of_ble_eq_true rfl, Nat.le_of_ble_eq_true rfl⟩ dX4_ruling_28 (fun hno t hPt hFt => ⟨(), trivial, ⟨hp.2 hno, hPt, hD⟩, hFt⟩) (fun hok H locs hP hS => ?_)
    have hp := hp.1 hok
    refine lv_aload_n hx hb dX4_ruling_31 rfl (lv_at hl 0 rfl) ?_
    refine va_get (D := (dC, dI)) (ci := 4) (v := .ref (qr 0)) (C := RX4) (T := TX4) (N := 3) hx hb hts iX4_ruling_X4 hown hK hP 0 rfl rfl 2 (by decide) (hts _ kX4_ruling_4) (fun _ h9 => h9) rfl dX4_ruling_32 ?_
    refine lv_aload_n hx hb dX4_ruling_35 rfl (lv_at hl 0 rfl) ?_
    refine lv_iload_n hx hb dX4_ruling_36 rfl (lv_at hl 1 rfl) ?_
    obtain ⟨r3, hr3, hp⟩ := hp
    refine ro_V (As := [.int a1]) (rest := [.ref (qr 0)]) ⟨hx, hb, hml, hown, hts⟩ (c_X4_playedBy l dC dI cI b0 qh qs qr gh gs gr a1 r3 hr3) (cwV 1 hts gX4_ruling_X4_playedBy rfl rfl rfl (by decide +kernel) ⟨Nat.le_of_ble_eq_true rfl, Nat.le_of_ble_eq_true rfl⟩) hP hK hN rfl rfl rfl rfl hl.1 (Nat.le_of_ble_eq_true rfl) ⟨Nat.le_of_ble_eq_true rfl, Nat.le_of_ble_eq_true rfl⟩ dX4_ruling_37 ?_
    refine lv_aload_n hx hb dX4_ruling_40 rfl (lv_at hl 0 rfl) ?_
    refine lv_iload_n hx hb dX4_ruling_41 rfl (lv_at hl 1 rfl) ?_
    obtain ⟨r4, hr4, hp⟩ := hp
    refine ro_V (As := [.int a1]) (rest := [.int r3, .ref (qr 0)]) ⟨hx, hb, hml, hown, hts⟩ (c_X4_holdingFor l dC dI cI b0 qh qs qr gh gs gr a1 r4 hr4) (cwV 1 hts gX4_ruling_X4_holdingFor rfl rfl rfl (by decide +kernel) ⟨Nat.le_of_ble_eq_true rfl, Nat.le_of_ble_eq_true rfl⟩) hP hK hN rfl rfl rfl rfl hl.1 (Nat.le_of_ble_eq_true rfl) ⟨Nat.le_of_ble_eq_true rfl, Nat.le_of_ble_eq_true rfl⟩ dX4_ruling_42 ?_
    obtain ⟨r5, hr5, hp⟩ := hp
    refine ro_V (As := [.int r3, .int r4]) (rest := []) ⟨hx, hb, hml, hown, hts⟩ (c_X1_rulingGoingDown l dC dI cI qr gr r3 r4 r5 hr5) (cwV 2 hts gX4_ruling_X1_rulingGoingDown rfl rfl rfl (by decide +kernel) ⟨Nat.le_of_ble_eq_true rfl, Nat.le_of_ble_eq_true rfl⟩) (t4r hP) hK hN rfl rfl rfl rfl hl.1 (Nat.le_of_ble_eq_true rfl) ⟨Nat.le_of_ble_eq_true rfl, Nat.le_of_ble_eq_true rfl⟩ dX4_ruling_45 ?_
    refine vx_ret (W.widen (k := 2) (n := 12) (Nat.le_of_ble_eq_true rfl) (Nat.le_of_ble_eq_true rfl) ?_)
    exact W.iret hx hb hr (fun t ht _ => ⟨⟨_, (gh, gs, gr), rfl, hp, by rw [ht]; exact hP, hD⟩, hS.F ht⟩) hS.2.2 dX4_ruling_48)
  refine lv_iload_n hx hb dX4_ruling_0 rfl (lv_at hl 1 rfl) ?_
  refine lv_aload_n hx hb dX4_ruling_1 rfl (lv_at hl 0 rfl) ?_
  refine va_get (D := (dC, dI)) (ci := 4) (v := .ref (qh 0)) (C := RX4) (T := TX4) (N := 3) hx hb hts iX4_ruling_X4 hown hK hP 0 rfl rfl 0 (by decide) (hts _ kX4_ruling_0) (fun _ h9 => h9) rfl dX4_ruling_2 ?_
  refine va_getN (D := (dC, dI)) (ci := 0) (v := .int (gh 0 2)) (C := RX0) (T := TX0) (N := 9) (host := RX4) hx hb hts iX4_ruling_X0 hown hK (t4h hP) 0 rfl rfl 2 (by decide) (nw_use hN 8 rfl) (fun _ h9 => h9) rfl dX4_ruling_5 ?_
  refine tx_S (As := [.int a1, .int (gh 0 2)]) (rest := []) ⟨hx, hb, hml, hown, hts⟩ (c_X4_checkIndex l hfl a1 (gh 0 2) _) (va_cwS 2 hts gX4_ruling_X4_checkIndex rfl rfl rfl (by decide +kernel) ⟨Nat.le_of_ble_eq_true rfl, Nat.le_of_ble_eq_true rfl⟩) hP hS hA hXS hXH het hlk rfl rfl hl.1 (Nat.le_of_ble_eq_true rfl) ⟨Nat.le_of_ble_eq_true rfl, Nat.le_of_ble_eq_true rfl⟩ ⟨Nat.le_of_ble_eq_true rfl, Nat.le_of_ble_eq_true rfl⟩ dX4_ruling_8 (fun hno t hPt hFt => ⟨(), trivial, ⟨hp.2 hno, hPt, hD⟩, hFt⟩) (fun hok H locs hP hS => ?_)
  have hp := hp.1 hok
  refine lv_aload_n hx hb dX4_ruling_11 rfl (lv_at hl 0 rfl) ?_
  refine va_get (D := (dC, dI)) (ci := 4) (v := .ref (qs 0)) (C := RX4) (T := TX4) (N := 3) hx hb hts iX4_ruling_X4 hown hK hP 0 rfl rfl 1 (by decide) (hts _ kX4_ruling_3) (fun _ h9 => h9) rfl dX4_ruling_12 ?_
  refine lv_iload_n hx hb dX4_ruling_15 rfl (lv_at hl 1 rfl) ?_
  obtain ⟨r1, hr1, hp⟩ := hp
  refine ro_V (As := [.int a1]) (rest := []) ⟨hx, hb, hml, hown, hts⟩ (c_X3_heldBy l dC dI cI qs gs a1 r1 hr1) (cwV 1 hts gX4_ruling_X3_heldBy rfl rfl rfl (by decide +kernel) ⟨Nat.le_of_ble_eq_true rfl, Nat.le_of_ble_eq_true rfl⟩) (t4s hP) hK hN rfl rfl rfl rfl hl.1 (Nat.le_of_ble_eq_true rfl) ⟨Nat.le_of_ble_eq_true rfl, Nat.le_of_ble_eq_true rfl⟩ dX4_ruling_16 ?_
  refine lv_iconst (v := -1) hx hb dX4_ruling_19 (by decide) ?_
  refine lv_icmp_eq (tgt := 27) hx hb dX4_ruling_20 (by decide) (fun c2 => ?_) (fun c2 => ?_)
  · have hp := hp.1 c2
    refine lv_iconst (v := 0) hx hb dX4_ruling_27 (by decide) ?_
    rw [eV28] at hp
    exact hp _ _ _ hP hS (lv_sub hl [0, 1] rfl)
  · have hp := hp.2 c2
    refine lv_iconst (v := 1) hx hb dX4_ruling_23 (by decide) ?_
    refine lv_goto (tgt := 28) hx hb dX4_ruling_24 (by decide) ?_
    rw [eV28] at hp
    exact hp _ _ _ hP hS (lv_sub hl [0, 1] rfl)
theorem kX4_rulingFromBelow_0 : (.fieldLink RX4 10 "Meeplehouse" "hall" "LMeeplehouse$Hall;" : Cond) ∈ wsX4_rulingFromBelow := by decide +kernel
theorem iX4_rulingFromBelow_X4 : ∀ w ∈ wsX40, w ∈ wsX4_rulingFromBelow := by decide +kernel
theorem iX4_rulingFromBelow_X0 : ∀ w ∈ wsX00, w ∈ wsX4_rulingFromBelow := by decide +kernel
theorem kX4_rulingFromBelow_3 : (.fieldLink RX4 19 "Meeplehouse" "shelf" "LMeeplehouse$Shelf;" : Cond) ∈ wsX4_rulingFromBelow := by decide +kernel
theorem kX4_rulingFromBelow_4 : (.fieldLink RX4 26 "Meeplehouse" "referee" "LMeeplehouse$Referee;" : Cond) ∈ wsX4_rulingFromBelow := by decide +kernel
def P_X4_rulingFromBelow (gh gs gr : St) (a1 : Int32) (ok : Int32 → St → St → St → Prop) (ex : String → Prop) : Prop := ∀ V28 : Int32 → Prop, (∀ t0 : Int32, (((¬ t0 = 0) → (∃ r3 : Int32, P_X4_playedBy gh gs gr a1 r3 ∧ (∃ r4 : Int32, P_X4_holdingFor gh gs gr a1 r4 ∧ (∃ r5 : Int32, P_X1_rulingGoingUp gr r3 r4 r5 ∧ (ok r5 gh gs gr))))) ∧ (¬ (¬ t0 = 0) → (ex E_s))) → V28 t0) → (((¬ a1 < 0 ∧ a1 < (gh 0 2)) → (∃ r1 : Int32, P_X3_heldBy gs a1 r1 ∧ ((r1 = (-1 : Int32) → (V28 (0 : Int32))) ∧ (¬ r1 = (-1 : Int32) → (V28 (1 : Int32)))))) ∧ (¬ (¬ a1 < 0 ∧ a1 < (gh 0 2)) → (ex E_i)))
set_option maxRecDepth 100000 in
set_option maxHeartbeats 4000000 in
theorem c_X4_rulingFromBelow (l : Launch) (hfl : l.stackTraces = false) (dC : Nat → ClassId) (dI : Nat → Nat → Nat) (cI : ClassId) (b0 : Nat) (qh qs qr : Nat → Nat) (gh gs gr : St) (a1 : Int32) (ok : Int32 → St → St → St → Prop) (ex : String → Prop) (hp : P_X4_rulingFromBelow gh gs gr a1 ok ex) (sz : Nat) : vx_Met l yX4_rulingFromBelow wsX4_rulingFromBelow { frames := 7, cells := 2, slots := 12, locals := 117 } (va_Pc [.ref b0, .int a1] (tpS (dC, dI) vwCl [(cI, .int)] (wX4 b0 qh qs qr cI gh gs gr) sz)) (va_Qi (fun (r : Int32) (u : St × St × St) => ok r u.1 u.2.1 u.2.2) (fun u t => wqB (dC, dI) vwCl (wX4 b0 qh qs qr cI u.1 u.2.1 u.2.2) (va_A (wX4 b0 qh qs qr cI gh gs gr) sz) t) (va_A (wX4 b0 qh qs qr cI gh gs gr) sz)) (vx_X (fun _ : Unit => True) (fun E _ t => ex E ∧ wqB (dC, dI) vwCl (wX4 b0 qh qs qr cI gh gs gr) (va_A (wX4 b0 qh qs qr cI gh gs gr) sz) t) (va_A (wX4 b0 qh qs qr cI gh gs gr) sz)) 2 12 (va_A (wX4 b0 qh qs qr cI gh gs gr) sz) := by
  refine tx_met (fun A => (va_Qi (fun (r : Int32) (u : St × St × St) => ok r u.1 u.2.1 u.2.2) (fun u t => wqB (dC, dI) vwCl (wX4 b0 qh qs qr cI u.1 u.2.1 u.2.2) A t) A)) (fun A => (vx_X (fun _ : Unit => True) (fun E _ t => ex E ∧ wqB (dC, dI) vwCl (wX4 b0 qh qs qr cI gh gs gr) A t) A)) (cc := cX4_rulingFromBelow) (maxL := 2) (ret := (some .int)) (by decide) rfl (Nat.le_of_ble_eq_true rfl) ?_
  intro p e s m below meth c A hx hb hml hr hlk het hts hown hP hK hN hD hA hXS hXH ls hl
  have hS : va_S A s.heap s.heap [] := va_S.rf
  have hl : lv_has ls 2 [(0, .ref b0), (1, .int a1)] := hl
  obtain ⟨V28, eV28⟩ : ∃ V : Int32 → Prop, V = (fun t0 => ∀ (H : Heap) (locs : List Loc) (ls : Array Slot), va_P (dC, dI) vwCl (wX4 b0 qh qs qr cI gh gs gr) H → va_S A s.heap H locs → lv_has ls 2 [(0, .ref b0), (1, .int a1)] → W p l e { frames := 7, cells := 2, slots := 12, locals := 117 } s m ([.ref b0, .int a1] : List Value).toArray below meth c H locs 1 6 (vx_MQ below (va_Qi (fun (r : Int32) (u : St × St × St) => ok r u.1 u.2.1 u.2.2) (fun u t => wqB (dC, dI) vwCl (wX4 b0 qh qs qr cI u.1 u.2.1 u.2.2) A t) A) (vx_X (fun _ : Unit => True) (fun E _ t => ex E ∧ wqB (dC, dI) vwCl (wX4 b0 qh qs qr cI gh gs gr) A t) A) ([.ref b0, .int a1] : List Value).toArray s 2 12 A) (F0 m 28 ls [.int t0])) := ⟨_, rfl⟩
  have hp := hp V28
  have hp := hp (by
    intro t0 hp
    rw [eV28]
    intro H locs ls hP hS hl
    refine tx_S (As := [.int t0]) (rest := []) ⟨hx, hb, hml, hown, hts⟩ (c_X4_checkState l hfl t0 _) (va_cwS 1 hts gX4_rulingFromBelow_X4_checkState rfl rfl rfl (by decide +kernel) ⟨Nat.le_of_ble_eq_true rfl, Nat.le_of_ble_eq_true rfl⟩) hP hS hA hXS hXH het hlk rfl rfl hl.1 (Nat.le_of_ble_eq_true rfl) ⟨Nat.le_of_ble_eq_true rfl, Nat.le_of_ble_eq_true rfl⟩ ⟨Nat.le_of_ble_eq_true rfl, Nat.le_of_ble_eq_true rfl⟩ dX4_rulingFromBelow_28 (fun hno t hPt hFt => ⟨(), trivial, ⟨hp.2 hno, hPt, hD⟩, hFt⟩) (fun hok H locs hP hS => ?_)
    have hp := hp.1 hok
    refine lv_aload_n hx hb dX4_rulingFromBelow_31 rfl (lv_at hl 0 rfl) ?_
    refine va_get (D := (dC, dI)) (ci := 4) (v := .ref (qr 0)) (C := RX4) (T := TX4) (N := 3) hx hb hts iX4_rulingFromBelow_X4 hown hK hP 0 rfl rfl 2 (by decide) (hts _ kX4_rulingFromBelow_4) (fun _ h9 => h9) rfl dX4_rulingFromBelow_32 ?_
    refine lv_aload_n hx hb dX4_rulingFromBelow_35 rfl (lv_at hl 0 rfl) ?_
    refine lv_iload_n hx hb dX4_rulingFromBelow_36 rfl (lv_at hl 1 rfl) ?_
    obtain ⟨r3, hr3, hp⟩ := hp
    refine ro_V (As := [.int a1]) (rest := [.ref (qr 0)]) ⟨hx, hb, hml, hown, hts⟩ (c_X4_playedBy l dC dI cI b0 qh qs qr gh gs gr a1 r3 hr3) (cwV 1 hts gX4_rulingFromBelow_X4_playedBy rfl rfl rfl (by decide +kernel) ⟨Nat.le_of_ble_eq_true rfl, Nat.le_of_ble_eq_true rfl⟩) hP hK hN rfl rfl rfl rfl hl.1 (Nat.le_of_ble_eq_true rfl) ⟨Nat.le_of_ble_eq_true rfl, Nat.le_of_ble_eq_true rfl⟩ dX4_rulingFromBelow_37 ?_
    refine lv_aload_n hx hb dX4_rulingFromBelow_40 rfl (lv_at hl 0 rfl) ?_
    refine lv_iload_n hx hb dX4_rulingFromBelow_41 rfl (lv_at hl 1 rfl) ?_
    obtain ⟨r4, hr4, hp⟩ := hp
    refine ro_V (As := [.int a1]) (rest := [.int r3, .ref (qr 0)]) ⟨hx, hb, hml, hown, hts⟩ (c_X4_holdingFor l dC dI cI b0 qh qs qr gh gs gr a1 r4 hr4) (cwV 1 hts gX4_rulingFromBelow_X4_holdingFor rfl rfl rfl (by decide +kernel) ⟨Nat.le_of_ble_eq_true rfl, Nat.le_of_ble_eq_true rfl⟩) hP hK hN rfl rfl rfl rfl hl.1 (Nat.le_of_ble_eq_true rfl) ⟨Nat.le_of_ble_eq_true rfl, Nat.le_of_ble_eq_true rfl⟩ dX4_rulingFromBelow_42 ?_
    obtain ⟨r5, hr5, hp⟩ := hp
    refine ro_V (As := [.int r3, .int r4]) (rest := []) ⟨hx, hb, hml, hown, hts⟩ (c_X1_rulingGoingUp l dC dI cI qr gr r3 r4 r5 hr5) (cwV 2 hts gX4_rulingFromBelow_X1_rulingGoingUp rfl rfl rfl (by decide +kernel) ⟨Nat.le_of_ble_eq_true rfl, Nat.le_of_ble_eq_true rfl⟩) (t4r hP) hK hN rfl rfl rfl rfl hl.1 (Nat.le_of_ble_eq_true rfl) ⟨Nat.le_of_ble_eq_true rfl, Nat.le_of_ble_eq_true rfl⟩ dX4_rulingFromBelow_45 ?_
    refine vx_ret (W.widen (k := 2) (n := 12) (Nat.le_of_ble_eq_true rfl) (Nat.le_of_ble_eq_true rfl) ?_)
    exact W.iret hx hb hr (fun t ht _ => ⟨⟨_, (gh, gs, gr), rfl, hp, by rw [ht]; exact hP, hD⟩, hS.F ht⟩) hS.2.2 dX4_rulingFromBelow_48)
  refine lv_iload_n hx hb dX4_rulingFromBelow_0 rfl (lv_at hl 1 rfl) ?_
  refine lv_aload_n hx hb dX4_rulingFromBelow_1 rfl (lv_at hl 0 rfl) ?_
  refine va_get (D := (dC, dI)) (ci := 4) (v := .ref (qh 0)) (C := RX4) (T := TX4) (N := 3) hx hb hts iX4_rulingFromBelow_X4 hown hK hP 0 rfl rfl 0 (by decide) (hts _ kX4_rulingFromBelow_0) (fun _ h9 => h9) rfl dX4_rulingFromBelow_2 ?_
  refine va_getN (D := (dC, dI)) (ci := 0) (v := .int (gh 0 2)) (C := RX0) (T := TX0) (N := 9) (host := RX4) hx hb hts iX4_rulingFromBelow_X0 hown hK (t4h hP) 0 rfl rfl 2 (by decide) (nw_use hN 8 rfl) (fun _ h9 => h9) rfl dX4_rulingFromBelow_5 ?_
  refine tx_S (As := [.int a1, .int (gh 0 2)]) (rest := []) ⟨hx, hb, hml, hown, hts⟩ (c_X4_checkIndex l hfl a1 (gh 0 2) _) (va_cwS 2 hts gX4_rulingFromBelow_X4_checkIndex rfl rfl rfl (by decide +kernel) ⟨Nat.le_of_ble_eq_true rfl, Nat.le_of_ble_eq_true rfl⟩) hP hS hA hXS hXH het hlk rfl rfl hl.1 (Nat.le_of_ble_eq_true rfl) ⟨Nat.le_of_ble_eq_true rfl, Nat.le_of_ble_eq_true rfl⟩ ⟨Nat.le_of_ble_eq_true rfl, Nat.le_of_ble_eq_true rfl⟩ dX4_rulingFromBelow_8 (fun hno t hPt hFt => ⟨(), trivial, ⟨hp.2 hno, hPt, hD⟩, hFt⟩) (fun hok H locs hP hS => ?_)
  have hp := hp.1 hok
  refine lv_aload_n hx hb dX4_rulingFromBelow_11 rfl (lv_at hl 0 rfl) ?_
  refine va_get (D := (dC, dI)) (ci := 4) (v := .ref (qs 0)) (C := RX4) (T := TX4) (N := 3) hx hb hts iX4_rulingFromBelow_X4 hown hK hP 0 rfl rfl 1 (by decide) (hts _ kX4_rulingFromBelow_3) (fun _ h9 => h9) rfl dX4_rulingFromBelow_12 ?_
  refine lv_iload_n hx hb dX4_rulingFromBelow_15 rfl (lv_at hl 1 rfl) ?_
  obtain ⟨r1, hr1, hp⟩ := hp
  refine ro_V (As := [.int a1]) (rest := []) ⟨hx, hb, hml, hown, hts⟩ (c_X3_heldBy l dC dI cI qs gs a1 r1 hr1) (cwV 1 hts gX4_rulingFromBelow_X3_heldBy rfl rfl rfl (by decide +kernel) ⟨Nat.le_of_ble_eq_true rfl, Nat.le_of_ble_eq_true rfl⟩) (t4s hP) hK hN rfl rfl rfl rfl hl.1 (Nat.le_of_ble_eq_true rfl) ⟨Nat.le_of_ble_eq_true rfl, Nat.le_of_ble_eq_true rfl⟩ dX4_rulingFromBelow_16 ?_
  refine lv_iconst (v := -1) hx hb dX4_rulingFromBelow_19 (by decide) ?_
  refine lv_icmp_eq (tgt := 27) hx hb dX4_rulingFromBelow_20 (by decide) (fun c2 => ?_) (fun c2 => ?_)
  · have hp := hp.1 c2
    refine lv_iconst (v := 0) hx hb dX4_rulingFromBelow_27 (by decide) ?_
    rw [eV28] at hp
    exact hp _ _ _ hP hS (lv_sub hl [0, 1] rfl)
  · have hp := hp.2 c2
    refine lv_iconst (v := 1) hx hb dX4_rulingFromBelow_23 (by decide) ?_
    refine lv_goto (tgt := 28) hx hb dX4_rulingFromBelow_24 (by decide) ?_
    rw [eV28] at hp
    exact hp _ _ _ hP hS (lv_sub hl [0, 1] rfl)
theorem kX4_depth_0 : (.fieldLink RX4 19 "Meeplehouse" "shelf" "LMeeplehouse$Shelf;" : Cond) ∈ wsX4_depth := by decide +kernel
theorem iX4_depth_X4 : ∀ w ∈ wsX40, w ∈ wsX4_depth := by decide +kernel
theorem iX4_depth_X3 : ∀ w ∈ wsX30, w ∈ wsX4_depth := by decide +kernel
theorem kX4_depth_3 : (.fieldLink RX4 26 "Meeplehouse" "referee" "LMeeplehouse$Referee;" : Cond) ∈ wsX4_depth := by decide +kernel
def P_X4_depth (gh gs gr : St) (a1 : Int32) (ok : Int32 → St → St → St → Prop) (ex : String → Prop) : Prop := (((¬ a1 < 0 ∧ a1 < (gs 0 0)) → (∃ r1 : Int32, P_X1_deepest gr a1 r1 ∧ (ok r1 gh gs gr))) ∧ (¬ (¬ a1 < 0 ∧ a1 < (gs 0 0)) → (ex E_i)))
set_option maxRecDepth 100000 in
set_option maxHeartbeats 4000000 in
theorem c_X4_depth (l : Launch) (hfl : l.stackTraces = false) (dC : Nat → ClassId) (dI : Nat → Nat → Nat) (cI : ClassId) (b0 : Nat) (qh qs qr : Nat → Nat) (gh gs gr : St) (a1 : Int32) (ok : Int32 → St → St → St → Prop) (ex : String → Prop) (hp : P_X4_depth gh gs gr a1 ok ex) (sz : Nat) : vx_Met l yX4_depth wsX4_depth { frames := 7, cells := 1, slots := 6, locals := 103 } (va_Pc [.ref b0, .int a1] (tpS (dC, dI) vwCl [(cI, .int)] (wX4 b0 qh qs qr cI gh gs gr) sz)) (va_Qi (fun (r : Int32) (u : St × St × St) => ok r u.1 u.2.1 u.2.2) (fun u t => wqB (dC, dI) vwCl (wX4 b0 qh qs qr cI u.1 u.2.1 u.2.2) (va_A (wX4 b0 qh qs qr cI gh gs gr) sz) t) (va_A (wX4 b0 qh qs qr cI gh gs gr) sz)) (vx_X (fun _ : Unit => True) (fun E _ t => ex E ∧ wqB (dC, dI) vwCl (wX4 b0 qh qs qr cI gh gs gr) (va_A (wX4 b0 qh qs qr cI gh gs gr) sz) t) (va_A (wX4 b0 qh qs qr cI gh gs gr) sz)) 1 6 (va_A (wX4 b0 qh qs qr cI gh gs gr) sz) := by
  refine tx_met (fun A => (va_Qi (fun (r : Int32) (u : St × St × St) => ok r u.1 u.2.1 u.2.2) (fun u t => wqB (dC, dI) vwCl (wX4 b0 qh qs qr cI u.1 u.2.1 u.2.2) A t) A)) (fun A => (vx_X (fun _ : Unit => True) (fun E _ t => ex E ∧ wqB (dC, dI) vwCl (wX4 b0 qh qs qr cI gh gs gr) A t) A)) (cc := cX4_depth) (maxL := 2) (ret := (some .int)) (by decide) rfl (Nat.le_of_ble_eq_true rfl) ?_
  intro p e s m below meth c A hx hb hml hr hlk het hts hown hP hK hN hD hA hXS hXH ls hl
  have hS : va_S A s.heap s.heap [] := va_S.rf
  have hl : lv_has ls 2 [(0, .ref b0), (1, .int a1)] := hl
  unfold P_X4_depth at hp
  refine lv_iload_n hx hb dX4_depth_0 rfl (lv_at hl 1 rfl) ?_
  refine lv_aload_n hx hb dX4_depth_1 rfl (lv_at hl 0 rfl) ?_
  refine va_get (D := (dC, dI)) (ci := 4) (v := .ref (qs 0)) (C := RX4) (T := TX4) (N := 3) hx hb hts iX4_depth_X4 hown hK hP 0 rfl rfl 1 (by decide) (hts _ kX4_depth_0) (fun _ h9 => h9) rfl dX4_depth_2 ?_
  refine va_getN (D := (dC, dI)) (ci := 3) (v := .int (gs 0 0)) (C := RX3) (T := TX3) (N := 11) (host := RX4) hx hb hts iX4_depth_X3 hown hK (t4s hP) 0 rfl rfl 0 (by decide) (nw_use hN 10 rfl) (fun _ h9 => h9) rfl dX4_depth_5 ?_
  refine tx_S (As := [.int a1, .int (gs 0 0)]) (rest := []) ⟨hx, hb, hml, hown, hts⟩ (c_X4_checkIndex l hfl a1 (gs 0 0) _) (va_cwS 2 hts gX4_depth_X4_checkIndex rfl rfl rfl (by decide +kernel) ⟨Nat.le_of_ble_eq_true rfl, Nat.le_of_ble_eq_true rfl⟩) hP hS hA hXS hXH het hlk rfl rfl hl.1 (Nat.le_of_ble_eq_true rfl) ⟨Nat.le_of_ble_eq_true rfl, Nat.le_of_ble_eq_true rfl⟩ ⟨Nat.le_of_ble_eq_true rfl, Nat.le_of_ble_eq_true rfl⟩ dX4_depth_8 (fun hno t hPt hFt => ⟨(), trivial, ⟨hp.2 hno, hPt, hD⟩, hFt⟩) (fun hok H locs hP hS => ?_)
  have hp := hp.1 hok
  refine lv_aload_n hx hb dX4_depth_11 rfl (lv_at hl 0 rfl) ?_
  refine va_get (D := (dC, dI)) (ci := 4) (v := .ref (qr 0)) (C := RX4) (T := TX4) (N := 3) hx hb hts iX4_depth_X4 hown hK hP 0 rfl rfl 2 (by decide) (hts _ kX4_depth_3) (fun _ h9 => h9) rfl dX4_depth_12 ?_
  refine lv_iload_n hx hb dX4_depth_15 rfl (lv_at hl 1 rfl) ?_
  obtain ⟨r1, hr1, hp⟩ := hp
  refine ro_V (As := [.int a1]) (rest := []) ⟨hx, hb, hml, hown, hts⟩ (c_X1_deepest l dC dI cI qr gr a1 r1 hr1) (cwV 1 hts gX4_depth_X1_deepest rfl rfl rfl (by decide +kernel) ⟨Nat.le_of_ble_eq_true rfl, Nat.le_of_ble_eq_true rfl⟩) (t4r hP) hK hN rfl rfl rfl rfl hl.1 (Nat.le_of_ble_eq_true rfl) ⟨Nat.le_of_ble_eq_true rfl, Nat.le_of_ble_eq_true rfl⟩ dX4_depth_16 ?_
  refine vx_ret (W.widen (k := 1) (n := 6) (Nat.le_of_ble_eq_true rfl) (Nat.le_of_ble_eq_true rfl) ?_)
  exact W.iret hx hb hr (fun t ht _ => ⟨⟨_, (gh, gs, gr), rfl, hp, by rw [ht]; exact hP, hD⟩, hS.F ht⟩) hS.2.2 dX4_depth_19
