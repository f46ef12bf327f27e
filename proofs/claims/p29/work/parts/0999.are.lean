def P_L_areTables (gh gs gr ga : St) (a4 : Int32) (post : Int32 → St → St → St → Prop) : Prop := ∀ V12 : Nat → St → St → St → Int32 → Int32 → Int32 → Int32 → Prop, ∀ V50 : Nat → St → St → St → Int32 → Int32 → Int32 → Int32 → Int32 → Int32 → Int32 → Int32 → Prop, ∀ V79 : Nat → St → St → St → Int32 → Int32 → Int32 → Int32 → Int32 → Int32 → Int32 → Prop, ∀ V80 : Nat → St → St → St → Int32 → Int32 → Int32 → Int32 → Int32 → Int32 → Int32 → Int32 → Prop, ∀ V124 : Nat → St → St → St → Int32 → Int32 → Int32 → Int32 → Int32 → Int32 → Int32 → Prop, ∀ V125 : Nat → St → St → St → Int32 → Int32 → Int32 → Int32 → Int32 → Int32 → Int32 → Int32 → Prop, ∀ V143 : Nat → St → St → St → Int32 → Int32 → Int32 → Int32 → Int32 → Int32 → Int32 → Prop, ∀ V153 : Nat → St → St → St → Int32 → Int32 → Int32 → Int32 → Int32 → Int32 → Int32 → Prop, ∀ V177 : Nat → St → St → St → Int32 → Int32 → Int32 → Int32 → Prop, ∀ V187 : Nat → St → St → St → Int32 → Int32 → Int32 → Int32 → Int32 → Prop, ∀ V204 : Nat → St → St → St → Int32 → Int32 → Int32 → Int32 → Int32 → Int32 → Prop, ∀ V244 : Nat → St → St → St → Int32 → Int32 → Prop, (∀ (k : Nat) (gh gs gr : St) (x5 x6 x7 x8 : Int32), ((a4 ≤ x8 → (V244 k gh gs gr x6 x7)) ∧ (¬ a4 ≤ x8 → ((x7 = 0 → (V244 k gh gs gr x6 x7)) ∧ (¬ x7 = 0 → (k ≤ 30 ∧ ∃ r1 : Int32, Pn_X4_tableOf gh gs gr x8 r1 ∧ (k ≤ 30 ∧ ∃ r2 : Int32, Pn_X4_tablesOf gh gs gr x8 r2 ∧ (V50 k gh gs gr x5 x6 x7 x8 r1 r2 ((1 : Int32) - r2) r1))))))) → V12 k gh gs gr x5 x6 x7 x8) → (∀ (k : Nat) (gh gs gr : St) (x5 x6 x7 x8 x9 x10 x11 x12 : Int32), (((x9 + x10) ≤ x12 → ((0 ≤ x9 → (V124 k gh gs gr x5 x7 x8 x9 x10 x11 x6)) ∧ (¬ 0 ≤ x9 → (vp_in x8 30 ∧ ((¬ (ga 2 x8.toNatClampNeg) = 0 → (V124 k gh gs gr x5 x7 x8 x9 x10 x11 x6)) ∧ ((ga 2 x8.toNatClampNeg) = 0 → (V125 k gh gs gr x5 x7 x8 x9 x10 x11 (1 : Int32) x6))))))) ∧ (¬ (x9 + x10) ≤ x12 → ((x7 = 0 → (V79 k gh gs gr x5 x6 x8 x9 x10 x11 x12)) ∧ (¬ x7 = 0 → ((¬ ((x5 >>> (x12 &&& 31)) &&& (1 : Int32)) = 0 → (V79 k gh gs gr x5 x6 x8 x9 x10 x11 x12)) ∧ (((x5 >>> (x12 &&& 31)) &&& (1 : Int32)) = 0 → (V80 k gh gs gr x5 x6 x8 x9 x10 x11 x12 (1 : Int32)))))))) → V50 k gh gs gr x5 x6 x7 x8 x9 x10 x11 x12) → (∀ (k : Nat) (gh gs gr : St) (x5 x6 x8 x9 x10 x11 x12 : Int32), (V80 k gh gs gr x5 x6 x8 x9 x10 x11 x12 (0 : Int32)) → V79 k gh gs gr x5 x6 x8 x9 x10 x11 x12) → (∀ (k : Nat) (gh gs gr : St) (x5 x6 x8 x9 x10 x11 x12 t0 : Int32), (vp_in x12 10 ∧ (V50 k gh gs gr (x5 ||| ((1 : Int32) <<< (x12 &&& 31))) x6 t0 x8 x9 x10 (x11 + (ga 0 x12.toNatClampNeg)) (x12 + (1 : Int32)))) → V80 k gh gs gr x5 x6 x8 x9 x10 x11 x12 t0) → (∀ (k : Nat) (gh gs gr : St) (x5 x7 x8 x9 x10 x11 t0 : Int32), (V125 k gh gs gr x5 x7 x8 x9 x10 x11 (0 : Int32) t0) → V124 k gh gs gr x5 x7 x8 x9 x10 x11 t0) → (∀ (k : Nat) (gh gs gr : St) (x5 x7 x8 x9 x10 x11 t0 t1 : Int32), ((x7 = 0 → (V12 k gh gs gr x5 (t1 + t0) (0 : Int32) (x8 + (1 : Int32)))) ∧ (¬ x7 = 0 → ((0 ≤ x9 → (V143 k gh gs gr x5 (t1 + t0) x8 x9 x10 x11 (0 : Int32))) ∧ (¬ 0 ≤ x9 → (V143 k gh gs gr x5 (t1 + t0) x8 x9 x10 x11 (1 : Int32)))))) → V125 k gh gs gr x5 x7 x8 x9 x10 x11 t0 t1) → (∀ (k : Nat) (gh gs gr : St) (x5 x6 x8 x9 x10 x11 t0 : Int32), ((¬ x10 = 0 → (V153 k gh gs gr x5 x6 x8 x9 x11 (0 : Int32) t0)) ∧ (x10 = 0 → (V153 k gh gs gr x5 x6 x8 x9 x11 (1 : Int32) t0))) → V143 k gh gs gr x5 x6 x8 x9 x10 x11 t0) → (∀ (k : Nat) (gh gs gr : St) (x5 x6 x8 x9 x11 t0 t1 : Int32), ((¬ t1 = t0 → (V12 k gh gs gr x5 x6 (0 : Int32) (x8 + (1 : Int32)))) ∧ (t1 = t0 → ((x9 < 0 → (V177 k gh gs gr x5 x6 x8 x9)) ∧ (¬ x9 < 0 → (vp_in x8 30 ∧ ((x11 < (ga 1 x8.toNatClampNeg) → (V12 k gh gs gr x5 x6 (0 : Int32) (x8 + (1 : Int32)))) ∧ (¬ x11 < (ga 1 x8.toNatClampNeg) → (vp_in x8 30 ∧ ((¬ (ga 2 x8.toNatClampNeg) = 0 → (V12 k gh gs gr x5 x6 (0 : Int32) (x8 + (1 : Int32)))) ∧ ((ga 2 x8.toNatClampNeg) = 0 → (V177 k gh gs gr x5 x6 x8 x9))))))))))) → V153 k gh gs gr x5 x6 x8 x9 x11 t0 t1) → (∀ (k : Nat) (gh gs gr : St) (x5 x6 x8 x9 : Int32), ((x9 < 0 → (V187 k gh gs gr x5 x6 x8 x9 (0 : Int32))) ∧ (¬ x9 < 0 → (V187 k gh gs gr x5 x6 x8 x9 (1 : Int32)))) → V177 k gh gs gr x5 x6 x8 x9) → (∀ (k : Nat) (gh gs gr : St) (x5 x6 x8 x9 t0 : Int32), (k + 1 ≤ 30 ∧ P_L_on gh gs gr (1 : Int32) x8 (0 : Int32) (0 : Int32) (fun (r21 : Int32) (gh22 gs23 gr24 : St) => (r21 < 0 → (V204 (k + 1) gh22 gs23 gr24 x5 x6 x8 x9 (0 : Int32) t0)) ∧ (¬ r21 < 0 → (V204 (k + 1) gh22 gs23 gr24 x5 x6 x8 x9 (1 : Int32) t0)))) → V187 k gh gs gr x5 x6 x8 x9 t0) → (∀ (k : Nat) (gh gs gr : St) (x5 x6 x8 x9 t0 t1 : Int32), ((¬ t1 = t0 → (V12 k gh gs gr x5 x6 (0 : Int32) (x8 + (1 : Int32)))) ∧ (t1 = t0 → ((0 ≤ x9 → (V12 k gh gs gr x5 x6 (1 : Int32) (x8 + (1 : Int32)))) ∧ (¬ 0 ≤ x9 → (k ≤ 30 ∧ ∃ r26 : Int32, Pn_X4_copyOf gh gs gr x8 r26 ∧ ((¬ r26 = (-1 : Int32) → (V12 k gh gs gr x5 x6 (0 : Int32) (x8 + (1 : Int32)))) ∧ (r26 = (-1 : Int32) → (k ≤ 30 ∧ ∃ r27 : Int32, Pn_X4_offers gh gs gr x8 r27 ∧ ((¬ r27 = 0 → (V12 k gh gs gr x5 x6 (0 : Int32) (x8 + (1 : Int32)))) ∧ (r27 = 0 → (V12 k gh gs gr x5 x6 (1 : Int32) (x8 + (1 : Int32))))))))))))) → V204 k gh gs gr x5 x6 x8 x9 t0 t1) → (∀ (k : Nat) (gh gs gr : St) (x6 x7 : Int32), ((x7 = 0 → (k ≤ 30 ∧ (post (0 : Int32) gh gs gr))) ∧ (¬ x7 = 0 → (k ≤ 30 ∧ ∃ r5 : Int32, P_X4_waiting gh gs gr r5 ∧ ((¬ r5 = x6 → (k ≤ 30 ∧ (post (0 : Int32) gh gs gr))) ∧ (r5 = x6 → (k ≤ 30 ∧ (post (1 : Int32) gh gs gr))))))) → V244 k gh gs gr x6 x7) → (V12 0 gh gs gr (0 : Int32) (0 : Int32) (1 : Int32) (0 : Int32))
set_option maxRecDepth 100000 in
set_option maxHeartbeats 8000000 in
theorem c_L_areTables (l : Launch) (hfl : l.stackTraces = false) (dC : Nat → ClassId) (dI : Nat → Nat → Nat) (cI : ClassId) (b0 : Nat) (qh qs qr qa : Nat → Nat) (gh gs gr ga : St) (a4 : Int32) (post : Int32 → St → St → St → Prop) (hp : P_L_areTables gh gs gr ga a4 post) (sz : Nat) : Met l yL_areTables wsL_areTables { frames := 10, cells := 120, slots := 720, locals := 210 } (va_Pc [.ref b0, .ref (qa 0), .ref (qa 1), .ref (qa 2), .int a4] (tpS (dC, dI) vwCl [(cI, .int)] (wLL b0 qh qs qr qa cI gh gs gr ga) sz)) (va_Qi (fun (r : Int32) (u : St × St × St) => post r u.1 u.2.1 u.2.2) (fun u t => wqB (dC, dI) vwCl (wLL b0 qh qs qr qa cI u.1 u.2.1 u.2.2 ga) (va_A (wLL b0 qh qs qr qa cI gh gs gr ga) sz) t) (va_A (wLL b0 qh qs qr qa cI gh gs gr ga) sz)) 120 720 (va_A (wLL b0 qh qs qr qa cI gh gs gr ga) sz) := by
  refine tp_met (fun A => (va_Qi (fun (r : Int32) (u : St × St × St) => post r u.1 u.2.1 u.2.2) (fun u t => wqB (dC, dI) vwCl (wLL b0 qh qs qr qa cI u.1 u.2.1 u.2.2 ga) A t) A)) (cc := cL_areTables) (maxL := 13) (ret := (some .boolean)) (by decide) rfl (Nat.le_of_ble_eq_true rfl) ?_
  intro p e s m below meth c A hx hb hml hr hlk hts hown hP hK hN hD hA hXS hXH ls hl
  have hS : va_S A s.heap s.heap [] := va_S.rf
  have hl : lv_has ls 13 [(0, .ref b0), (1, .ref (qa 0)), (2, .ref (qa 1)), (3, .ref (qa 2)), (4, .int a4)] := hl
  obtain ⟨V12, eV12⟩ : ∃ V : Nat → St → St → St → Int32 → Int32 → Int32 → Int32 → Prop, V = (fun k gh gs gr x5 x6 x7 x8 => ∀ (H : Heap) (locs : List Loc) (ls : Array Slot), va_P (dC, dI) vwCl (wLL b0 qh qs qr qa cI gh gs gr ga) H → va_D A (wLL b0 qh qs qr qa cI gh gs gr ga) → va_S A s.heap H locs → lv_has ls 13 [(0, .ref b0), (1, .ref (qa 0)), (2, .ref (qa 1)), (3, .ref (qa 2)), (4, .int a4), (5, .int x5), (6, .int x6), (7, .int x7), (8, .int x8)] → W p l e { frames := 10, cells := 120, slots := 720, locals := 210 } s m ([.ref b0, .ref (qa 0), .ref (qa 1), .ref (qa 2), .int a4] : List Value).toArray below meth c H locs (4 * k) (24 * k) (MQ below (va_Qi (fun (r : Int32) (u : St × St × St) => post r u.1 u.2.1 u.2.2) (fun u t => wqB (dC, dI) vwCl (wLL b0 qh qs qr qa cI u.1 u.2.1 u.2.2 ga) A t) A) ([.ref b0, .ref (qa 0), .ref (qa 1), .ref (qa 2), .int a4] : List Value).toArray s 120 720 A) (F0 m 12 ls [])) := ⟨_, rfl⟩
  obtain ⟨V50, eV50⟩ : ∃ V : Nat → St → St → St → Int32 → Int32 → Int32 → Int32 → Int32 → Int32 → Int32 → Int32 → Prop, V = (fun k gh gs gr x5 x6 x7 x8 x9 x10 x11 x12 => ∀ (H : Heap) (locs : List Loc) (ls : Array Slot), va_P (dC, dI) vwCl (wLL b0 qh qs qr qa cI gh gs gr ga) H → va_D A (wLL b0 qh qs qr qa cI gh gs gr ga) → va_S A s.heap H locs → lv_has ls 13 [(0, .ref b0), (1, .ref (qa 0)), (2, .ref (qa 1)), (3, .ref (qa 2)), (4, .int a4), (5, .int x5), (6, .int x6), (7, .int x7), (8, .int x8), (9, .int x9), (10, .int x10), (11, .int x11), (12, .int x12)] → W p l e { frames := 10, cells := 120, slots := 720, locals := 210 } s m ([.ref b0, .ref (qa 0), .ref (qa 1), .ref (qa 2), .int a4] : List Value).toArray below meth c H locs (4 * k) (24 * k) (MQ below (va_Qi (fun (r : Int32) (u : St × St × St) => post r u.1 u.2.1 u.2.2) (fun u t => wqB (dC, dI) vwCl (wLL b0 qh qs qr qa cI u.1 u.2.1 u.2.2 ga) A t) A) ([.ref b0, .ref (qa 0), .ref (qa 1), .ref (qa 2), .int a4] : List Value).toArray s 120 720 A) (F0 m 50 ls [])) := ⟨_, rfl⟩
  obtain ⟨V79, eV79⟩ : ∃ V : Nat → St → St → St → Int32 → Int32 → Int32 → Int32 → Int32 → Int32 → Int32 → Prop, V = (fun k gh gs gr x5 x6 x8 x9 x10 x11 x12 => ∀ (H : Heap) (locs : List Loc) (ls : Array Slot), va_P (dC, dI) vwCl (wLL b0 qh qs qr qa cI gh gs gr ga) H → va_D A (wLL b0 qh qs qr qa cI gh gs gr ga) → va_S A s.heap H locs → lv_has ls 13 [(0, .ref b0), (1, .ref (qa 0)), (2, .ref (qa 1)), (3, .ref (qa 2)), (4, .int a4), (5, .int x5), (6, .int x6), (8, .int x8), (9, .int x9), (10, .int x10), (11, .int x11), (12, .int x12)] → W p l e { frames := 10, cells := 120, slots := 720, locals := 210 } s m ([.ref b0, .ref (qa 0), .ref (qa 1), .ref (qa 2), .int a4] : List Value).toArray below meth c H locs (4 * k) (24 * k) (MQ below (va_Qi (fun (r : Int32) (u : St × St × St) => post r u.1 u.2.1 u.2.2) (fun u t => wqB (dC, dI) vwCl (wLL b0 qh qs qr qa cI u.1 u.2.1 u.2.2 ga) A t) A) ([.ref b0, .ref (qa 0), .ref (qa 1), .ref (qa 2), .int a4] : List Value).toArray s 120 720 A) (F0 m 79 ls [])) := ⟨_, rfl⟩
  obtain ⟨V80, eV80⟩ : ∃ V : Nat → St → St → St → Int32 → Int32 → Int32 → Int32 → Int32 → Int32 → Int32 → Int32 → Prop, V = (fun k gh gs gr x5 x6 x8 x9 x10 x11 x12 t0 => ∀ (H : Heap) (locs : List Loc) (ls : Array Slot), va_P (dC, dI) vwCl (wLL b0 qh qs qr qa cI gh gs gr ga) H → va_D A (wLL b0 qh qs qr qa cI gh gs gr ga) → va_S A s.heap H locs → lv_has ls 13 [(0, .ref b0), (1, .ref (qa 0)), (2, .ref (qa 1)), (3, .ref (qa 2)), (4, .int a4), (5, .int x5), (6, .int x6), (8, .int x8), (9, .int x9), (10, .int x10), (11, .int x11), (12, .int x12)] → W p l e { frames := 10, cells := 120, slots := 720, locals := 210 } s m ([.ref b0, .ref (qa 0), .ref (qa 1), .ref (qa 2), .int a4] : List Value).toArray below meth c H locs (4 * k) (24 * k) (MQ below (va_Qi (fun (r : Int32) (u : St × St × St) => post r u.1 u.2.1 u.2.2) (fun u t => wqB (dC, dI) vwCl (wLL b0 qh qs qr qa cI u.1 u.2.1 u.2.2 ga) A t) A) ([.ref b0, .ref (qa 0), .ref (qa 1), .ref (qa 2), .int a4] : List Value).toArray s 120 720 A) (F0 m 80 ls [.int t0])) := ⟨_, rfl⟩
  obtain ⟨V124, eV124⟩ : ∃ V : Nat → St → St → St → Int32 → Int32 → Int32 → Int32 → Int32 → Int32 → Int32 → Prop, V = (fun k gh gs gr x5 x7 x8 x9 x10 x11 t0 => ∀ (H : Heap) (locs : List Loc) (ls : Array Slot), va_P (dC, dI) vwCl (wLL b0 qh qs qr qa cI gh gs gr ga) H → va_D A (wLL b0 qh qs qr qa cI gh gs gr ga) → va_S A s.heap H locs → lv_has ls 13 [(0, .ref b0), (1, .ref (qa 0)), (2, .ref (qa 1)), (3, .ref (qa 2)), (4, .int a4), (5, .int x5), (7, .int x7), (8, .int x8), (9, .int x9), (10, .int x10), (11, .int x11)] → W p l e { frames := 10, cells := 120, slots := 720, locals := 210 } s m ([.ref b0, .ref (qa 0), .ref (qa 1), .ref (qa 2), .int a4] : List Value).toArray below meth c H locs (4 * k) (24 * k) (MQ below (va_Qi (fun (r : Int32) (u : St × St × St) => post r u.1 u.2.1 u.2.2) (fun u t => wqB (dC, dI) vwCl (wLL b0 qh qs qr qa cI u.1 u.2.1 u.2.2 ga) A t) A) ([.ref b0, .ref (qa 0), .ref (qa 1), .ref (qa 2), .int a4] : List Value).toArray s 120 720 A) (F0 m 124 ls [.int t0])) := ⟨_, rfl⟩
  obtain ⟨V125, eV125⟩ : ∃ V : Nat → St → St → St → Int32 → Int32 → Int32 → Int32 → Int32 → Int32 → Int32 → Int32 → Prop, V = (fun k gh gs gr x5 x7 x8 x9 x10 x11 t0 t1 => ∀ (H : Heap) (locs : List Loc) (ls : Array Slot), va_P (dC, dI) vwCl (wLL b0 qh qs qr qa cI gh gs gr ga) H → va_D A (wLL b0 qh qs qr qa cI gh gs gr ga) → va_S A s.heap H locs → lv_has ls 13 [(0, .ref b0), (1, .ref (qa 0)), (2, .ref (qa 1)), (3, .ref (qa 2)), (4, .int a4), (5, .int x5), (7, .int x7), (8, .int x8), (9, .int x9), (10, .int x10), (11, .int x11)] → W p l e { frames := 10, cells := 120, slots := 720, locals := 210 } s m ([.ref b0, .ref (qa 0), .ref (qa 1), .ref (qa 2), .int a4] : List Value).toArray below meth c H locs (4 * k) (24 * k) (MQ below (va_Qi (fun (r : Int32) (u : St × St × St) => post r u.1 u.2.1 u.2.2) (fun u t => wqB (dC, dI) vwCl (wLL b0 qh qs qr qa cI u.1 u.2.1 u.2.2 ga) A t) A) ([.ref b0, .ref (qa 0), .ref (qa 1), .ref (qa 2), .int a4] : List Value).toArray s 120 720 A) (F0 m 125 ls [.int t0, .int t1])) := ⟨_, rfl⟩
  obtain ⟨V143, eV143⟩ : ∃ V : Nat → St → St → St → Int32 → Int32 → Int32 → Int32 → Int32 → Int32 → Int32 → Prop, V = (fun k gh gs gr x5 x6 x8 x9 x10 x11 t0 => ∀ (H : Heap) (locs : List Loc) (ls : Array Slot), va_P (dC, dI) vwCl (wLL b0 qh qs qr qa cI gh gs gr ga) H → va_D A (wLL b0 qh qs qr qa cI gh gs gr ga) → va_S A s.heap H locs → lv_has ls 13 [(0, .ref b0), (1, .ref (qa 0)), (2, .ref (qa 1)), (3, .ref (qa 2)), (4, .int a4), (5, .int x5), (6, .int x6), (8, .int x8), (9, .int x9), (10, .int x10), (11, .int x11)] → W p l e { frames := 10, cells := 120, slots := 720, locals := 210 } s m ([.ref b0, .ref (qa 0), .ref (qa 1), .ref (qa 2), .int a4] : List Value).toArray below meth c H locs (4 * k) (24 * k) (MQ below (va_Qi (fun (r : Int32) (u : St × St × St) => post r u.1 u.2.1 u.2.2) (fun u t => wqB (dC, dI) vwCl (wLL b0 qh qs qr qa cI u.1 u.2.1 u.2.2 ga) A t) A) ([.ref b0, .ref (qa 0), .ref (qa 1), .ref (qa 2), .int a4] : List Value).toArray s 120 720 A) (F0 m 143 ls [.int t0])) := ⟨_, rfl⟩
  obtain ⟨V153, eV153⟩ : ∃ V : Nat → St → St → St → Int32 → Int32 → Int32 → Int32 → Int32 → Int32 → Int32 → Prop, V = (fun k gh gs gr x5 x6 x8 x9 x11 t0 t1 => ∀ (H : Heap) (locs : List Loc) (ls : Array Slot), va_P (dC, dI) vwCl (wLL b0 qh qs qr qa cI gh gs gr ga) H → va_D A (wLL b0 qh qs qr qa cI gh gs gr ga) → va_S A s.heap H locs → lv_has ls 13 [(0, .ref b0), (1, .ref (qa 0)), (2, .ref (qa 1)), (3, .ref (qa 2)), (4, .int a4), (5, .int x5), (6, .int x6), (8, .int x8), (9, .int x9), (11, .int x11)] → W p l e { frames := 10, cells := 120, slots := 720, locals := 210 } s m ([.ref b0, .ref (qa 0), .ref (qa 1), .ref (qa 2), .int a4] : List Value).toArray below meth c H locs (4 * k) (24 * k) (MQ below (va_Qi (fun (r : Int32) (u : St × St × St) => post r u.1 u.2.1 u.2.2) (fun u t => wqB (dC, dI) vwCl (wLL b0 qh qs qr qa cI u.1 u.2.1 u.2.2 ga) A t) A) ([.ref b0, .ref (qa 0), .ref (qa 1), .ref (qa 2), .int a4] : List Value).toArray s 120 720 A) (F0 m 153 ls [.int t0, .int t1])) := ⟨_, rfl⟩
  obtain ⟨V177, eV177⟩ : ∃ V : Nat → St → St → St → Int32 → Int32 → Int32 → Int32 → Prop, V = (fun k gh gs gr x5 x6 x8 x9 => ∀ (H : Heap) (locs : List Loc) (ls : Array Slot), va_P (dC, dI) vwCl (wLL b0 qh qs qr qa cI gh gs gr ga) H → va_D A (wLL b0 qh qs qr qa cI gh gs gr ga) → va_S A s.heap H locs → lv_has ls 13 [(0, .ref b0), (1, .ref (qa 0)), (2, .ref (qa 1)), (3, .ref (qa 2)), (4, .int a4), (5, .int x5), (6, .int x6), (8, .int x8), (9, .int x9)] → W p l e { frames := 10, cells := 120, slots := 720, locals := 210 } s m ([.ref b0, .ref (qa 0), .ref (qa 1), .ref (qa 2), .int a4] : List Value).toArray below meth c H locs (4 * k) (24 * k) (MQ below (va_Qi (fun (r : Int32) (u : St × St × St) => post r u.1 u.2.1 u.2.2) (fun u t => wqB (dC, dI) vwCl (wLL b0 qh qs qr qa cI u.1 u.2.1 u.2.2 ga) A t) A) ([.ref b0, .ref (qa 0), .ref (qa 1), .ref (qa 2), .int a4] : List Value).toArray s 120 720 A) (F0 m 177 ls [])) := ⟨_, rfl⟩
  obtain ⟨V187, eV187⟩ : ∃ V : Nat → St → St → St → Int32 → Int32 → Int32 → Int32 → Int32 → Prop, V = (fun k gh gs gr x5 x6 x8 x9 t0 => ∀ (H : Heap) (locs : List Loc) (ls : Array Slot), va_P (dC, dI) vwCl (wLL b0 qh qs qr qa cI gh gs gr ga) H → va_D A (wLL b0 qh qs qr qa cI gh gs gr ga) → va_S A s.heap H locs → lv_has ls 13 [(0, .ref b0), (1, .ref (qa 0)), (2, .ref (qa 1)), (3, .ref (qa 2)), (4, .int a4), (5, .int x5), (6, .int x6), (8, .int x8), (9, .int x9)] → W p l e { frames := 10, cells := 120, slots := 720, locals := 210 } s m ([.ref b0, .ref (qa 0), .ref (qa 1), .ref (qa 2), .int a4] : List Value).toArray below meth c H locs (4 * k) (24 * k) (MQ below (va_Qi (fun (r : Int32) (u : St × St × St) => post r u.1 u.2.1 u.2.2) (fun u t => wqB (dC, dI) vwCl (wLL b0 qh qs qr qa cI u.1 u.2.1 u.2.2 ga) A t) A) ([.ref b0, .ref (qa 0), .ref (qa 1), .ref (qa 2), .int a4] : List Value).toArray s 120 720 A) (F0 m 187 ls [.int t0])) := ⟨_, rfl⟩
  obtain ⟨V204, eV204⟩ : ∃ V : Nat → St → St → St → Int32 → Int32 → Int32 → Int32 → Int32 → Int32 → Prop, V = (fun k gh gs gr x5 x6 x8 x9 t0 t1 => ∀ (H : Heap) (locs : List Loc) (ls : Array Slot), va_P (dC, dI) vwCl (wLL b0 qh qs qr qa cI gh gs gr ga) H → va_D A (wLL b0 qh qs qr qa cI gh gs gr ga) → va_S A s.heap H locs → lv_has ls 13 [(0, .ref b0), (1, .ref (qa 0)), (2, .ref (qa 1)), (3, .ref (qa 2)), (4, .int a4), (5, .int x5), (6, .int x6), (8, .int x8), (9, .int x9)] → W p l e { frames := 10, cells := 120, slots := 720, locals := 210 } s m ([.ref b0, .ref (qa 0), .ref (qa 1), .ref (qa 2), .int a4] : List Value).toArray below meth c H locs (4 * k) (24 * k) (MQ below (va_Qi (fun (r : Int32) (u : St × St × St) => post r u.1 u.2.1 u.2.2) (fun u t => wqB (dC, dI) vwCl (wLL b0 qh qs qr qa cI u.1 u.2.1 u.2.2 ga) A t) A) ([.ref b0, .ref (qa 0), .ref (qa 1), .ref (qa 2), .int a4] : List Value).toArray s 120 720 A) (F0 m 204 ls [.int t0, .int t1])) := ⟨_, rfl⟩
  obtain ⟨V244, eV244⟩ : ∃ V : Nat → St → St → St → Int32 → Int32 → Prop, V = (fun k gh gs gr x6 x7 => ∀ (H : Heap) (locs : List Loc) (ls : Array Slot), va_P (dC, dI) vwCl (wLL b0 qh qs qr qa cI gh gs gr ga) H → va_D A (wLL b0 qh qs qr qa cI gh gs gr ga) → va_S A s.heap H locs → lv_has ls 13 [(0, .ref b0), (1, .ref (qa 0)), (2, .ref (qa 1)), (3, .ref (qa 2)), (4, .int a4), (6, .int x6), (7, .int x7)] → W p l e { frames := 10, cells := 120, slots := 720, locals := 210 } s m ([.ref b0, .ref (qa 0), .ref (qa 1), .ref (qa 2), .int a4] : List Value).toArray below meth c H locs (4 * k) (24 * k) (MQ below (va_Qi (fun (r : Int32) (u : St × St × St) => post r u.1 u.2.1 u.2.2) (fun u t => wqB (dC, dI) vwCl (wLL b0 qh qs qr qa cI u.1 u.2.1 u.2.2 ga) A t) A) ([.ref b0, .ref (qa 0), .ref (qa 1), .ref (qa 2), .int a4] : List Value).toArray s 120 720 A) (F0 m 244 ls [])) := ⟨_, rfl⟩
  have hp := hp V12 V50 V79 V80 V124 V125 V143 V153 V177 V187 V204 V244
  have hp := hp (by
    intro k gh gs gr x5 x6 x7 x8 hp
    rw [eV12]
    intro H locs ls hP hD hS hl
    refine lv_iload hx hb dL_areTables_12 (lv_at hl 8 rfl) ?_
    refine lv_iload hx hb dL_areTables_14 (lv_at hl 4 rfl) ?_
    refine lv_icmp_ge (tgt := 244) hx hb dL_areTables_16 (by decide) (fun c4 => ?_) (fun c4 => ?_)
    · have hp := hp.1 c4
      rw [eV244] at hp
      exact hp _ _ _ hP hD hS (lv_sub hl [0, 1, 2, 3, 4, 6, 7] rfl)
    · have hp := hp.2 c4
      refine lv_iload hx hb dL_areTables_19 (lv_at hl 7 rfl) ?_
      refine lv_if_eq (tgt := 244) hx hb dL_areTables_21 (by decide) (fun c3 => ?_) (fun c3 => ?_)
      · have hp := hp.1 c3
        rw [eV244] at hp
        exact hp _ _ _ hP hD hS (lv_sub hl [0, 1, 2, 3, 4, 6, 7] rfl)
      · have hp := hp.2 c3
        refine lv_aload_n hx hb dL_areTables_24 rfl (lv_at hl 0 rfl) ?_
        refine lv_iload hx hb dL_areTables_25 (lv_at hl 8 rfl) ?_
        have hkb := hp.1
        have hp := hp.2
        obtain ⟨r1, hr1, hp⟩ := hp
        refine ro_V (As := [.int x8]) (rest := []) ⟨hx, hb, hml, hown, hts⟩ (cn_X4_tableOf l dC dI cI b0 qh qs qr gh gs gr x8 r1 hr1) (cwV 1 hts gL_areTables_X4_tableOf rfl rfl rfl (by decide +kernel) ⟨Nat.le_of_ble_eq_true rfl, Nat.le_of_ble_eq_true rfl⟩) (tLL hP) hK hN rfl rfl rfl rfl hl.1 (Nat.le_of_ble_eq_true rfl) ⟨by show 4 * k ≤ 120; omega, by show 24 * k ≤ 720; omega⟩ dL_areTables_27 ?_
        refine lv_istore (lv' := [(9, .int r1), (0, .ref b0), (1, .ref (qa 0)), (2, .ref (qa 1)), (3, .ref (qa 2)), (4, .int a4), (5, .int x5), (6, .int x6), (7, .int x7), (8, .int x8)]) hx hb dL_areTables_30 hl (by decide) rfl (fun ls hl => ?_)
        refine lv_aload_n hx hb dL_areTables_32 rfl (lv_at hl 1 rfl) ?_
        refine lv_iload hx hb dL_areTables_33 (lv_at hl 9 rfl) ?_
        have hkb := hp.1
        have hp := hp.2
        obtain ⟨r2, hr2, hp⟩ := hp
        refine ro_V (As := [.int x8]) (rest := []) ⟨hx, hb, hml, hown, hts⟩ (cn_X4_tablesOf l dC dI cI b0 qh qs qr gh gs gr x8 r2 hr2) (cwV 1 hts gL_areTables_X4_tablesOf rfl rfl rfl (by decide +kernel) ⟨Nat.le_of_ble_eq_true rfl, Nat.le_of_ble_eq_true rfl⟩) (tLL hP) hK hN rfl rfl rfl rfl hl.1 (Nat.le_of_ble_eq_true rfl) ⟨by show 4 * k ≤ 120; omega, by show 24 * k ≤ 720; omega⟩ dL_areTables_35 ?_
        refine lv_istore (lv' := [(10, .int r2), (9, .int r1), (0, .ref b0), (1, .ref (qa 0)), (2, .ref (qa 1)), (3, .ref (qa 2)), (4, .int a4), (5, .int x5), (6, .int x6), (7, .int x7), (8, .int x8)]) hx hb dL_areTables_38 hl (by decide) rfl (fun ls hl => ?_)
        refine lv_iconst (v := 1) hx hb dL_areTables_40 (by decide) ?_
        refine lv_iload hx hb dL_areTables_41 (lv_at hl 0 rfl) ?_
        refine lv_isub hx hb dL_areTables_43 ?_
        refine lv_istore (lv' := [(11, .int ((1 : Int32) - r2)), (10, .int r2), (9, .int r1), (0, .ref b0), (1, .ref (qa 0)), (2, .ref (qa 1)), (3, .ref (qa 2)), (4, .int a4), (5, .int x5), (6, .int x6), (7, .int x7), (8, .int x8)]) hx hb dL_areTables_44 hl (by decide) rfl (fun ls hl => ?_)
        refine lv_iload hx hb dL_areTables_46 (lv_at hl 2 rfl) ?_
        refine lv_istore (lv' := [(12, .int r1), (11, .int ((1 : Int32) - r2)), (10, .int r2), (9, .int r1), (0, .ref b0), (1, .ref (qa 0)), (2, .ref (qa 1)), (3, .ref (qa 2)), (4, .int a4), (5, .int x5), (6, .int x6), (7, .int x7), (8, .int x8)]) hx hb dL_areTables_48 hl (by decide) rfl (fun ls hl => ?_)
        rw [eV50] at hp
        exact hp _ _ _ hP hD hS (lv_sub hl [4, 5, 6, 7, 8, 9, 10, 11, 12, 3, 2, 1, 0] rfl))
  have hp := hp (by
    intro k gh gs gr x5 x6 x7 x8 x9 x10 x11 x12 hp
    rw [eV50]
    intro H locs ls hP hD hS hl
    refine lv_iload hx hb dL_areTables_50 (lv_at hl 12 rfl) ?_
    refine lv_iload hx hb dL_areTables_52 (lv_at hl 9 rfl) ?_
    refine lv_iload hx hb dL_areTables_54 (lv_at hl 10 rfl) ?_
    refine lv_iadd hx hb dL_areTables_56 ?_
    refine lv_icmp_ge (tgt := 106) hx hb dL_areTables_57 (by decide) (fun c12 => ?_) (fun c12 => ?_)
    · have hp := hp.1 c12
      refine lv_iload hx hb dL_areTables_106 (lv_at hl 6 rfl) ?_
      refine lv_iload hx hb dL_areTables_108 (lv_at hl 9 rfl) ?_
      refine lv_if_ge (tgt := 124) hx hb dL_areTables_110 (by decide) (fun c9 => ?_) (fun c9 => ?_)
      · have hp := hp.1 c9
        rw [eV124] at hp
        exact hp _ _ _ hP hD hS (lv_sub hl [0, 1, 2, 3, 4, 5, 7, 8, 9, 10, 11] rfl)
      · have hp := hp.2 c9
        refine lv_aload_n hx hb dL_areTables_113 rfl (lv_at hl 3 rfl) ?_
        refine lv_iload hx hb dL_areTables_114 (lv_at hl 8 rfl) ?_
        refine va_iald hx hb hK hP 46 0 rfl rfl hp.1 dL_areTables_116 ?_
        have hp := hp.2
        refine lv_if_ne (tgt := 124) hx hb dL_areTables_117 (by decide) (fun c8 => ?_) (fun c8 => ?_)
        · have hp := hp.1 c8
          rw [eV124] at hp
          exact hp _ _ _ hP hD hS (lv_sub hl [0, 1, 2, 3, 4, 5, 7, 8, 9, 10, 11] rfl)
        · have hp := hp.2 c8
          refine lv_iconst (v := 1) hx hb dL_areTables_120 (by decide) ?_
          refine lv_goto (tgt := 125) hx hb dL_areTables_121 (by decide) ?_
          rw [eV125] at hp
          exact hp _ _ _ hP hD hS (lv_sub hl [0, 1, 2, 3, 4, 5, 7, 8, 9, 10, 11] rfl)
    · have hp := hp.2 c12
      refine lv_iload hx hb dL_areTables_60 (lv_at hl 7 rfl) ?_
      refine lv_if_eq (tgt := 79) hx hb dL_areTables_62 (by decide) (fun c11 => ?_) (fun c11 => ?_)
      · have hp := hp.1 c11
        rw [eV79] at hp
        exact hp _ _ _ hP hD hS (lv_sub hl [0, 1, 2, 3, 4, 5, 6, 8, 9, 10, 11, 12] rfl)
      · have hp := hp.2 c11
        refine lv_iload hx hb dL_areTables_65 (lv_at hl 5 rfl) ?_
        refine lv_iload hx hb dL_areTables_67 (lv_at hl 12 rfl) ?_
        refine lv_ishr hx hb dL_areTables_69 ?_
        refine lv_iconst (v := 1) hx hb dL_areTables_70 (by decide) ?_
        refine lv_iand hx hb dL_areTables_71 ?_
        refine lv_if_ne (tgt := 79) hx hb dL_areTables_72 (by decide) (fun c10 => ?_) (fun c10 => ?_)
        · have hp := hp.1 c10
          rw [eV79] at hp
          exact hp _ _ _ hP hD hS (lv_sub hl [0, 1, 2, 3, 4, 5, 6, 8, 9, 10, 11, 12] rfl)
        · have hp := hp.2 c10
          refine lv_iconst (v := 1) hx hb dL_areTables_75 (by decide) ?_
          refine lv_goto (tgt := 80) hx hb dL_areTables_76 (by decide) ?_
          rw [eV80] at hp
          exact hp _ _ _ hP hD hS (lv_sub hl [0, 1, 2, 3, 4, 5, 6, 8, 9, 10, 11, 12] rfl))
  have hp := hp (by
    intro k gh gs gr x5 x6 x8 x9 x10 x11 x12 hp
    rw [eV79]
    intro H locs ls hP hD hS hl
    refine lv_iconst (v := 0) hx hb dL_areTables_79 (by decide) ?_
    rw [eV80] at hp
    exact hp _ _ _ hP hD hS (lv_sub hl [0, 1, 2, 3, 4, 5, 6, 7, 8, 9, 10, 11] rfl))
  have hp := hp (by
    intro k gh gs gr x5 x6 x8 x9 x10 x11 x12 t0 hp
    rw [eV80]
    intro H locs ls hP hD hS hl
    refine lv_istore (lv' := [(7, .int t0), (0, .ref b0), (1, .ref (qa 0)), (2, .ref (qa 1)), (3, .ref (qa 2)), (4, .int a4), (5, .int x5), (6, .int x6), (8, .int x8), (9, .int x9), (10, .int x10), (11, .int x11), (12, .int x12)]) hx hb dL_areTables_80 hl (by decide) rfl (fun ls hl => ?_)
    refine lv_iload hx hb dL_areTables_82 (lv_at hl 6 rfl) ?_
    refine lv_iconst (v := 1) hx hb dL_areTables_84 (by decide) ?_
    refine lv_iload hx hb dL_areTables_85 (lv_at hl 12 rfl) ?_
    refine lv_ishl hx hb dL_areTables_87 ?_
    refine lv_ior hx hb dL_areTables_88 ?_
    refine lv_istore (lv' := [(5, .int (x5 ||| ((1 : Int32) <<< (x12 &&& 31)))), (7, .int t0), (0, .ref b0), (1, .ref (qa 0)), (2, .ref (qa 1)), (3, .ref (qa 2)), (4, .int a4), (6, .int x6), (8, .int x8), (9, .int x9), (10, .int x10), (11, .int x11), (12, .int x12)]) hx hb dL_areTables_89 hl (by decide) rfl (fun ls hl => ?_)
    refine lv_iload hx hb dL_areTables_91 (lv_at hl 11 rfl) ?_
    refine lv_aload_n hx hb dL_areTables_93 rfl (lv_at hl 3 rfl) ?_
    refine lv_iload hx hb dL_areTables_94 (lv_at hl 12 rfl) ?_
    refine va_iald hx hb hK hP 44 0 rfl rfl hp.1 dL_areTables_96 ?_
    have hp := hp.2
    refine lv_iadd hx hb dL_areTables_97 ?_
    refine lv_istore (lv' := [(11, .int (x11 + (ga 0 x12.toNatClampNeg))), (5, .int (x5 ||| ((1 : Int32) <<< (x12 &&& 31)))), (7, .int t0), (0, .ref b0), (1, .ref (qa 0)), (2, .ref (qa 1)), (3, .ref (qa 2)), (4, .int a4), (6, .int x6), (8, .int x8), (9, .int x9), (10, .int x10), (12, .int x12)]) hx hb dL_areTables_98 hl (by decide) rfl (fun ls hl => ?_)
    refine lv_iinc (v := x12 + (1 : Int32)) (lv' := [(12, .int (x12 + (1 : Int32))), (11, .int (x11 + (ga 0 x12.toNatClampNeg))), (5, .int (x5 ||| ((1 : Int32) <<< (x12 &&& 31)))), (7, .int t0), (0, .ref b0), (1, .ref (qa 0)), (2, .ref (qa 1)), (3, .ref (qa 2)), (4, .int a4), (6, .int x6), (8, .int x8), (9, .int x9), (10, .int x10)]) hx hb dL_areTables_100 hl (k := 12) rfl rfl (by decide) rfl (fun ls hl => ?_)
    refine lv_goto (tgt := 50) hx hb dL_areTables_103 (by decide) ?_
    rw [eV50] at hp
    exact hp _ _ _ hP hD hS (lv_sub hl [4, 5, 6, 7, 8, 2, 9, 3, 10, 11, 12, 1, 0] rfl))
  have hp := hp (by
    intro k gh gs gr x5 x7 x8 x9 x10 x11 t0 hp
    rw [eV124]
    intro H locs ls hP hD hS hl
    refine lv_iconst (v := 0) hx hb dL_areTables_124 (by decide) ?_
    rw [eV125] at hp
    exact hp _ _ _ hP hD hS (lv_sub hl [0, 1, 2, 3, 4, 5, 6, 7, 8, 9, 10] rfl))
  have hp := hp (by
    intro k gh gs gr x5 x7 x8 x9 x10 x11 t0 t1 hp
    rw [eV125]
    intro H locs ls hP hD hS hl
    refine lv_iadd hx hb dL_areTables_125 ?_
    refine lv_istore (lv' := [(6, .int (t1 + t0)), (0, .ref b0), (1, .ref (qa 0)), (2, .ref (qa 1)), (3, .ref (qa 2)), (4, .int a4), (5, .int x5), (7, .int x7), (8, .int x8), (9, .int x9), (10, .int x10), (11, .int x11)]) hx hb dL_areTables_126 hl (by decide) rfl (fun ls hl => ?_)
    refine lv_iload hx hb dL_areTables_128 (lv_at hl 7 rfl) ?_
    refine lv_if_eq (tgt := 235) hx hb dL_areTables_130 (by decide) (fun c14 => ?_) (fun c14 => ?_)
    · have hp := hp.1 c14
      refine lv_iconst (v := 0) hx hb dL_areTables_235 (by decide) ?_
      refine lv_istore (lv' := [(7, .int (0 : Int32)), (6, .int (t1 + t0)), (0, .ref b0), (1, .ref (qa 0)), (2, .ref (qa 1)), (3, .ref (qa 2)), (4, .int a4), (5, .int x5), (8, .int x8), (9, .int x9), (10, .int x10), (11, .int x11)]) hx hb dL_areTables_236 hl (by decide) rfl (fun ls hl => ?_)
      refine lv_iinc (v := x8 + (1 : Int32)) (lv' := [(8, .int (x8 + (1 : Int32))), (7, .int (0 : Int32)), (6, .int (t1 + t0)), (0, .ref b0), (1, .ref (qa 0)), (2, .ref (qa 1)), (3, .ref (qa 2)), (4, .int a4), (5, .int x5), (9, .int x9), (10, .int x10), (11, .int x11)]) hx hb dL_areTables_238 hl (k := 8) rfl rfl (by decide) rfl (fun ls hl => ?_)
      refine lv_goto (tgt := 12) hx hb dL_areTables_241 (by decide) ?_
      rw [eV12] at hp
      exact hp _ _ _ hP hD hS (lv_sub hl [3, 4, 5, 6, 7, 8, 2, 1, 0] rfl)
    · have hp := hp.2 c14
      refine lv_iload hx hb dL_areTables_133 (lv_at hl 9 rfl) ?_
      refine lv_if_ge (tgt := 142) hx hb dL_areTables_135 (by decide) (fun c13 => ?_) (fun c13 => ?_)
      · have hp := hp.1 c13
        refine lv_iconst (v := 0) hx hb dL_areTables_142 (by decide) ?_
        rw [eV143] at hp
        exact hp _ _ _ hP hD hS (lv_sub hl [1, 2, 3, 4, 5, 6, 0, 8, 9, 10, 11] rfl)
      · have hp := hp.2 c13
        refine lv_iconst (v := 1) hx hb dL_areTables_138 (by decide) ?_
        refine lv_goto (tgt := 143) hx hb dL_areTables_139 (by decide) ?_
        rw [eV143] at hp
        exact hp _ _ _ hP hD hS (lv_sub hl [1, 2, 3, 4, 5, 6, 0, 8, 9, 10, 11] rfl))
  have hp := hp (by
    intro k gh gs gr x5 x6 x8 x9 x10 x11 t0 hp
    rw [eV143]
    intro H locs ls hP hD hS hl
    refine lv_iload hx hb dL_areTables_143 (lv_at hl 9 rfl) ?_
    refine lv_if_ne (tgt := 152) hx hb dL_areTables_145 (by decide) (fun c15 => ?_) (fun c15 => ?_)
    · have hp := hp.1 c15
      refine lv_iconst (v := 0) hx hb dL_areTables_152 (by decide) ?_
      rw [eV153] at hp
      exact hp _ _ _ hP hD hS (lv_sub hl [0, 1, 2, 3, 4, 5, 6, 7, 8, 10] rfl)
    · have hp := hp.2 c15
      refine lv_iconst (v := 1) hx hb dL_areTables_148 (by decide) ?_
      refine lv_goto (tgt := 153) hx hb dL_areTables_149 (by decide) ?_
      rw [eV153] at hp
      exact hp _ _ _ hP hD hS (lv_sub hl [0, 1, 2, 3, 4, 5, 6, 7, 8, 10] rfl))
  have hp := hp (by
    intro k gh gs gr x5 x6 x8 x9 x11 t0 t1 hp
    rw [eV153]
    intro H locs ls hP hD hS hl
    refine lv_icmp_ne (tgt := 235) hx hb dL_areTables_153 (by decide) (fun c19 => ?_) (fun c19 => ?_)
    · have hp := hp.1 c19
      refine lv_iconst (v := 0) hx hb dL_areTables_235 (by decide) ?_
      refine lv_istore (lv' := [(7, .int (0 : Int32)), (0, .ref b0), (1, .ref (qa 0)), (2, .ref (qa 1)), (3, .ref (qa 2)), (4, .int a4), (5, .int x5), (6, .int x6), (8, .int x8), (9, .int x9), (11, .int x11)]) hx hb dL_areTables_236 hl (by decide) rfl (fun ls hl => ?_)
      refine lv_iinc (v := x8 + (1 : Int32)) (lv' := [(8, .int (x8 + (1 : Int32))), (7, .int (0 : Int32)), (0, .ref b0), (1, .ref (qa 0)), (2, .ref (qa 1)), (3, .ref (qa 2)), (4, .int a4), (5, .int x5), (6, .int x6), (9, .int x9), (11, .int x11)]) hx hb dL_areTables_238 hl (k := 8) rfl rfl (by decide) rfl (fun ls hl => ?_)
      refine lv_goto (tgt := 12) hx hb dL_areTables_241 (by decide) ?_
      rw [eV12] at hp
      exact hp _ _ _ hP hD hS (lv_sub hl [2, 3, 4, 5, 6, 7, 8, 1, 0] rfl)
    · have hp := hp.2 c19
      refine lv_iload hx hb dL_areTables_156 (lv_at hl 8 rfl) ?_
      refine lv_if_lt (tgt := 177) hx hb dL_areTables_158 (by decide) (fun c18 => ?_) (fun c18 => ?_)
      · have hp := hp.1 c18
        rw [eV177] at hp
        exact hp _ _ _ hP hD hS (lv_sub hl [0, 1, 2, 3, 4, 5, 6, 7, 8] rfl)
      · have hp := hp.2 c18
        refine lv_iload hx hb dL_areTables_161 (lv_at hl 9 rfl) ?_
        refine lv_aload_n hx hb dL_areTables_163 rfl (lv_at hl 2 rfl) ?_
        refine lv_iload hx hb dL_areTables_164 (lv_at hl 7 rfl) ?_
        refine va_iald hx hb hK hP 45 0 rfl rfl hp.1 dL_areTables_166 ?_
        have hp := hp.2
        refine lv_icmp_lt (tgt := 235) hx hb dL_areTables_167 (by decide) (fun c17 => ?_) (fun c17 => ?_)
        · have hp := hp.1 c17
          refine lv_iconst (v := 0) hx hb dL_areTables_235 (by decide) ?_
          refine lv_istore (lv' := [(7, .int (0 : Int32)), (0, .ref b0), (1, .ref (qa 0)), (2, .ref (qa 1)), (3, .ref (qa 2)), (4, .int a4), (5, .int x5), (6, .int x6), (8, .int x8), (9, .int x9), (11, .int x11)]) hx hb dL_areTables_236 hl (by decide) rfl (fun ls hl => ?_)
          refine lv_iinc (v := x8 + (1 : Int32)) (lv' := [(8, .int (x8 + (1 : Int32))), (7, .int (0 : Int32)), (0, .ref b0), (1, .ref (qa 0)), (2, .ref (qa 1)), (3, .ref (qa 2)), (4, .int a4), (5, .int x5), (6, .int x6), (9, .int x9), (11, .int x11)]) hx hb dL_areTables_238 hl (k := 8) rfl rfl (by decide) rfl (fun ls hl => ?_)
          refine lv_goto (tgt := 12) hx hb dL_areTables_241 (by decide) ?_
          rw [eV12] at hp
          exact hp _ _ _ hP hD hS (lv_sub hl [2, 3, 4, 5, 6, 7, 8, 1, 0] rfl)
        · have hp := hp.2 c17
          refine lv_aload_n hx hb dL_areTables_170 rfl (lv_at hl 3 rfl) ?_
          refine lv_iload hx hb dL_areTables_171 (lv_at hl 7 rfl) ?_
          refine va_iald hx hb hK hP 46 0 rfl rfl hp.1 dL_areTables_173 ?_
          have hp := hp.2
          refine lv_if_ne (tgt := 235) hx hb dL_areTables_174 (by decide) (fun c16 => ?_) (fun c16 => ?_)
          · have hp := hp.1 c16
            refine lv_iconst (v := 0) hx hb dL_areTables_235 (by decide) ?_
            refine lv_istore (lv' := [(7, .int (0 : Int32)), (0, .ref b0), (1, .ref (qa 0)), (2, .ref (qa 1)), (3, .ref (qa 2)), (4, .int a4), (5, .int x5), (6, .int x6), (8, .int x8), (9, .int x9), (11, .int x11)]) hx hb dL_areTables_236 hl (by decide) rfl (fun ls hl => ?_)
            refine lv_iinc (v := x8 + (1 : Int32)) (lv' := [(8, .int (x8 + (1 : Int32))), (7, .int (0 : Int32)), (0, .ref b0), (1, .ref (qa 0)), (2, .ref (qa 1)), (3, .ref (qa 2)), (4, .int a4), (5, .int x5), (6, .int x6), (9, .int x9), (11, .int x11)]) hx hb dL_areTables_238 hl (k := 8) rfl rfl (by decide) rfl (fun ls hl => ?_)
            refine lv_goto (tgt := 12) hx hb dL_areTables_241 (by decide) ?_
            rw [eV12] at hp
            exact hp _ _ _ hP hD hS (lv_sub hl [2, 3, 4, 5, 6, 7, 8, 1, 0] rfl)
          · have hp := hp.2 c16
            rw [eV177] at hp
            exact hp _ _ _ hP hD hS (lv_sub hl [0, 1, 2, 3, 4, 5, 6, 7, 8] rfl))
  have hp := hp (by
    intro k gh gs gr x5 x6 x8 x9 hp
    rw [eV177]
    intro H locs ls hP hD hS hl
    refine lv_iload hx hb dL_areTables_177 (lv_at hl 8 rfl) ?_
    refine lv_if_lt (tgt := 186) hx hb dL_areTables_179 (by decide) (fun c20 => ?_) (fun c20 => ?_)
    · have hp := hp.1 c20
      refine lv_iconst (v := 0) hx hb dL_areTables_186 (by decide) ?_
      rw [eV187] at hp
      exact hp _ _ _ hP hD hS (lv_sub hl [0, 1, 2, 3, 4, 5, 6, 7, 8] rfl)
    · have hp := hp.2 c20
      refine lv_iconst (v := 1) hx hb dL_areTables_182 (by decide) ?_
      refine lv_goto (tgt := 187) hx hb dL_areTables_183 (by decide) ?_
      rw [eV187] at hp
      exact hp _ _ _ hP hD hS (lv_sub hl [0, 1, 2, 3, 4, 5, 6, 7, 8] rfl))
  have hp := hp (by
    intro k gh gs gr x5 x6 x8 x9 t0 hp
    rw [eV187]
    intro H locs ls hP hD hS hl
    refine lv_aload_n hx hb dL_areTables_187 rfl (lv_at hl 0 rfl) ?_
    refine lv_iconst (v := 1) hx hb dL_areTables_188 (by decide) ?_
    refine lv_iload hx hb dL_areTables_189 (lv_at hl 7 rfl) ?_
    refine lv_iconst (v := 0) hx hb dL_areTables_191 (by decide) ?_
    refine lv_iconst (v := 0) hx hb dL_areTables_192 (by decide) ?_
    have hkb := hp.1
    have hp := hp.2
    refine pw_SW (As := [.ref b0, .int (1 : Int32), .int x8, .int (0 : Int32), .int (0 : Int32)]) (rest := [.int t0]) (w1 := []) (w2 := wA qa cI ga) (wsd := fun u : St × St × St => wLL b0 qh qs qr qa cI u.1 u.2.1 u.2.2 ga) ⟨hx, hb, hml, hown, hts⟩ (c_L_on l hfl dC dI cI b0 qh qs qr gh gs gr (1 : Int32) x8 (0 : Int32) (0 : Int32) _ hp _) (vx_cwSW 5 hts gL_areTables_L_on rfl rfl rfl (by decide +kernel) ⟨Nat.le_of_ble_eq_true rfl, Nat.le_of_ble_eq_true rfl⟩) hP hD hS hA hK hN hXS hXH (wLL_eq ..) (fun u => rfl) rfl rfl hl.1 (Nat.le_of_ble_eq_true rfl) ⟨by show 4 * k + 4 ≤ 120; omega, by show 24 * k + 24 ≤ 720; omega⟩ dL_areTables_193 (fun r21 u H locs hp hP hD hS => ?_)
    obtain ⟨gh22, gs23, gr24⟩ := u
    refine W.widen (k := 4 * (k + 1)) (n := 24 * (k + 1)) (by omega) (by omega) ?_
    refine lv_if_lt (tgt := 203) hx hb dL_areTables_196 (by decide) (fun c25 => ?_) (fun c25 => ?_)
    · have hp := hp.1 c25
      refine lv_iconst (v := 0) hx hb dL_areTables_203 (by decide) ?_
      rw [eV204] at hp
      exact hp _ _ _ hP hD hS (lv_sub hl [0, 1, 2, 3, 4, 5, 6, 7, 8] rfl)
    · have hp := hp.2 c25
      refine lv_iconst (v := 1) hx hb dL_areTables_199 (by decide) ?_
      refine lv_goto (tgt := 204) hx hb dL_areTables_200 (by decide) ?_
      rw [eV204] at hp
      exact hp _ _ _ hP hD hS (lv_sub hl [0, 1, 2, 3, 4, 5, 6, 7, 8] rfl))
  have hp := hp (by
    intro k gh gs gr x5 x6 x8 x9 t0 t1 hp
    rw [eV204]
    intro H locs ls hP hD hS hl
    refine lv_icmp_ne (tgt := 235) hx hb dL_areTables_204 (by decide) (fun c31 => ?_) (fun c31 => ?_)
    · have hp := hp.1 c31
      refine lv_iconst (v := 0) hx hb dL_areTables_235 (by decide) ?_
      refine lv_istore (lv' := [(7, .int (0 : Int32)), (0, .ref b0), (1, .ref (qa 0)), (2, .ref (qa 1)), (3, .ref (qa 2)), (4, .int a4), (5, .int x5), (6, .int x6), (8, .int x8), (9, .int x9)]) hx hb dL_areTables_236 hl (by decide) rfl (fun ls hl => ?_)
      refine lv_iinc (v := x8 + (1 : Int32)) (lv' := [(8, .int (x8 + (1 : Int32))), (7, .int (0 : Int32)), (0, .ref b0), (1, .ref (qa 0)), (2, .ref (qa 1)), (3, .ref (qa 2)), (4, .int a4), (5, .int x5), (6, .int x6), (9, .int x9)]) hx hb dL_areTables_238 hl (k := 8) rfl rfl (by decide) rfl (fun ls hl => ?_)
      refine lv_goto (tgt := 12) hx hb dL_areTables_241 (by decide) ?_
      rw [eV12] at hp
      exact hp _ _ _ hP hD hS (lv_sub hl [2, 3, 4, 5, 6, 7, 8, 1, 0] rfl)
    · have hp := hp.2 c31
      refine lv_iload hx hb dL_areTables_207 (lv_at hl 8 rfl) ?_
      refine lv_if_ge (tgt := 231) hx hb dL_areTables_209 (by decide) (fun c30 => ?_) (fun c30 => ?_)
      · have hp := hp.1 c30
        refine lv_iconst (v := 1) hx hb dL_areTables_231 (by decide) ?_
        refine lv_goto (tgt := 236) hx hb dL_areTables_232 (by decide) ?_
        refine lv_istore (lv' := [(7, .int (1 : Int32)), (0, .ref b0), (1, .ref (qa 0)), (2, .ref (qa 1)), (3, .ref (qa 2)), (4, .int a4), (5, .int x5), (6, .int x6), (8, .int x8), (9, .int x9)]) hx hb dL_areTables_236 hl (by decide) rfl (fun ls hl => ?_)
        refine lv_iinc (v := x8 + (1 : Int32)) (lv' := [(8, .int (x8 + (1 : Int32))), (7, .int (1 : Int32)), (0, .ref b0), (1, .ref (qa 0)), (2, .ref (qa 1)), (3, .ref (qa 2)), (4, .int a4), (5, .int x5), (6, .int x6), (9, .int x9)]) hx hb dL_areTables_238 hl (k := 8) rfl rfl (by decide) rfl (fun ls hl => ?_)
        refine lv_goto (tgt := 12) hx hb dL_areTables_241 (by decide) ?_
        rw [eV12] at hp
        exact hp _ _ _ hP hD hS (lv_sub hl [2, 3, 4, 5, 6, 7, 8, 1, 0] rfl)
      · have hp := hp.2 c30
        refine lv_aload_n hx hb dL_areTables_212 rfl (lv_at hl 0 rfl) ?_
        refine lv_iload hx hb dL_areTables_213 (lv_at hl 7 rfl) ?_
        have hkb := hp.1
        have hp := hp.2
        obtain ⟨r26, hr26, hp⟩ := hp
        refine ro_V (As := [.int x8]) (rest := []) ⟨hx, hb, hml, hown, hts⟩ (cn_X4_copyOf l dC dI cI b0 qh qs qr gh gs gr x8 r26 hr26) (cwV 1 hts gL_areTables_X4_copyOf rfl rfl rfl (by decide +kernel) ⟨Nat.le_of_ble_eq_true rfl, Nat.le_of_ble_eq_true rfl⟩) (tLL hP) hK hN rfl rfl rfl rfl hl.1 (Nat.le_of_ble_eq_true rfl) ⟨by show 4 * k ≤ 120; omega, by show 24 * k ≤ 720; omega⟩ dL_areTables_215 ?_
        refine lv_iconst (v := -1) hx hb dL_areTables_218 (by decide) ?_
        refine lv_icmp_ne (tgt := 235) hx hb dL_areTables_219 (by decide) (fun c29 => ?_) (fun c29 => ?_)
        · have hp := hp.1 c29
          refine lv_iconst (v := 0) hx hb dL_areTables_235 (by decide) ?_
          refine lv_istore (lv' := [(7, .int (0 : Int32)), (0, .ref b0), (1, .ref (qa 0)), (2, .ref (qa 1)), (3, .ref (qa 2)), (4, .int a4), (5, .int x5), (6, .int x6), (8, .int x8), (9, .int x9)]) hx hb dL_areTables_236 hl (by decide) rfl (fun ls hl => ?_)
          refine lv_iinc (v := x8 + (1 : Int32)) (lv' := [(8, .int (x8 + (1 : Int32))), (7, .int (0 : Int32)), (0, .ref b0), (1, .ref (qa 0)), (2, .ref (qa 1)), (3, .ref (qa 2)), (4, .int a4), (5, .int x5), (6, .int x6), (9, .int x9)]) hx hb dL_areTables_238 hl (k := 8) rfl rfl (by decide) rfl (fun ls hl => ?_)
          refine lv_goto (tgt := 12) hx hb dL_areTables_241 (by decide) ?_
          rw [eV12] at hp
          exact hp _ _ _ hP hD hS (lv_sub hl [2, 3, 4, 5, 6, 7, 8, 1, 0] rfl)
        · have hp := hp.2 c29
          refine lv_aload_n hx hb dL_areTables_222 rfl (lv_at hl 0 rfl) ?_
          refine lv_iload hx hb dL_areTables_223 (lv_at hl 7 rfl) ?_
          have hkb := hp.1
          have hp := hp.2
          obtain ⟨r27, hr27, hp⟩ := hp
          refine ro_V (As := [.int x8]) (rest := []) ⟨hx, hb, hml, hown, hts⟩ (cn_X4_offers l dC dI cI b0 qh qs qr gh gs gr x8 r27 hr27) (cwV 1 hts gL_areTables_X4_offers rfl rfl rfl (by decide +kernel) ⟨Nat.le_of_ble_eq_true rfl, Nat.le_of_ble_eq_true rfl⟩) (tLL hP) hK hN rfl rfl rfl rfl hl.1 (Nat.le_of_ble_eq_true rfl) ⟨by show 4 * k ≤ 120; omega, by show 24 * k ≤ 720; omega⟩ dL_areTables_225 ?_
          refine lv_if_ne (tgt := 235) hx hb dL_areTables_228 (by decide) (fun c28 => ?_) (fun c28 => ?_)
          · have hp := hp.1 c28
            refine lv_iconst (v := 0) hx hb dL_areTables_235 (by decide) ?_
            refine lv_istore (lv' := [(7, .int (0 : Int32)), (0, .ref b0), (1, .ref (qa 0)), (2, .ref (qa 1)), (3, .ref (qa 2)), (4, .int a4), (5, .int x5), (6, .int x6), (8, .int x8), (9, .int x9)]) hx hb dL_areTables_236 hl (by decide) rfl (fun ls hl => ?_)
            refine lv_iinc (v := x8 + (1 : Int32)) (lv' := [(8, .int (x8 + (1 : Int32))), (7, .int (0 : Int32)), (0, .ref b0), (1, .ref (qa 0)), (2, .ref (qa 1)), (3, .ref (qa 2)), (4, .int a4), (5, .int x5), (6, .int x6), (9, .int x9)]) hx hb dL_areTables_238 hl (k := 8) rfl rfl (by decide) rfl (fun ls hl => ?_)
            refine lv_goto (tgt := 12) hx hb dL_areTables_241 (by decide) ?_
            rw [eV12] at hp
            exact hp _ _ _ hP hD hS (lv_sub hl [2, 3, 4, 5, 6, 7, 8, 1, 0] rfl)
          · have hp := hp.2 c28
            refine lv_iconst (v := 1) hx hb dL_areTables_231 (by decide) ?_
            refine lv_goto (tgt := 236) hx hb dL_areTables_232 (by decide) ?_
            refine lv_istore (lv' := [(7, .int (1 : Int32)), (0, .ref b0), (1, .ref (qa 0)), (2, .ref (qa 1)), (3, .ref (qa 2)), (4, .int a4), (5, .int x5), (6, .int x6), (8, .int x8), (9, .int x9)]) hx hb dL_areTables_236 hl (by decide) rfl (fun ls hl => ?_)
            refine lv_iinc (v := x8 + (1 : Int32)) (lv' := [(8, .int (x8 + (1 : Int32))), (7, .int (1 : Int32)), (0, .ref b0), (1, .ref (qa 0)), (2, .ref (qa 1)), (3, .ref (qa 2)), (4, .int a4), (5, .int x5), (6, .int x6), (9, .int x9)]) hx hb dL_areTables_238 hl (k := 8) rfl rfl (by decide) rfl (fun ls hl => ?_)
            refine lv_goto (tgt := 12) hx hb dL_areTables_241 (by decide) ?_
            rw [eV12] at hp
            exact hp _ _ _ hP hD hS (lv_sub hl [2, 3, 4, 5, 6, 7, 8, 1, 0] rfl))
  have hp := hp (by
    intro k gh gs gr x6 x7 hp
    rw [eV244]
    intro H locs ls hP hD hS hl
    refine lv_iload hx hb dL_areTables_244 (lv_at hl 6 rfl) ?_
    refine lv_if_eq (tgt := 262) hx hb dL_areTables_246 (by decide) (fun c7 => ?_) (fun c7 => ?_)
    · have hp := hp.1 c7
      refine lv_iconst (v := 0) hx hb dL_areTables_262 (by decide) ?_
      have hkb := hp.1
      have hp := hp.2
      refine W.widen (k := 120) (n := 720) (by omega) (by omega) ?_
      exact W.zret (ty := .boolean) hx hb hr rfl (fun t ht _ => ⟨⟨_, (gh, gs, gr), rfl, hp, by rw [ht]; exact hP, hD⟩, hS.F ht⟩) hS.2.2 dL_areTables_263
    · have hp := hp.2 c7
      refine lv_aload_n hx hb dL_areTables_249 rfl (lv_at hl 0 rfl) ?_
      have hkb := hp.1
      have hp := hp.2
      obtain ⟨r5, hr5, hp⟩ := hp
      refine ro_V (As := []) (rest := []) ⟨hx, hb, hml, hown, hts⟩ (c_X4_waiting l dC dI cI b0 qh qs qr gh gs gr r5 hr5) (cwV 0 hts gL_areTables_X4_waiting rfl rfl rfl (by decide +kernel) ⟨Nat.le_of_ble_eq_true rfl, Nat.le_of_ble_eq_true rfl⟩) (tLL hP) hK hN rfl rfl rfl rfl hl.1 (Nat.le_of_ble_eq_true rfl) ⟨by show 4 * k ≤ 120; omega, by show 24 * k ≤ 720; omega⟩ dL_areTables_250 ?_
      refine lv_iload hx hb dL_areTables_253 (lv_at hl 5 rfl) ?_
      refine lv_icmp_ne (tgt := 262) hx hb dL_areTables_255 (by decide) (fun c6 => ?_) (fun c6 => ?_)
      · have hp := hp.1 c6
        refine lv_iconst (v := 0) hx hb dL_areTables_262 (by decide) ?_
        have hkb := hp.1
        have hp := hp.2
        refine W.widen (k := 120) (n := 720) (by omega) (by omega) ?_
        exact W.zret (ty := .boolean) hx hb hr rfl (fun t ht _ => ⟨⟨_, (gh, gs, gr), rfl, hp, by rw [ht]; exact hP, hD⟩, hS.F ht⟩) hS.2.2 dL_areTables_263
      · have hp := hp.2 c6
        refine lv_iconst (v := 1) hx hb dL_areTables_258 (by decide) ?_
        refine lv_goto (tgt := 263) hx hb dL_areTables_259 (by decide) ?_
        have hkb := hp.1
        have hp := hp.2
        refine W.widen (k := 120) (n := 720) (by omega) (by omega) ?_
        exact W.zret (ty := .boolean) hx hb hr rfl (fun t ht _ => ⟨⟨_, (gh, gs, gr), rfl, hp, by rw [ht]; exact hP, hD⟩, hS.F ht⟩) hS.2.2 dL_areTables_263)
  refine lv_iconst (v := 0) hx hb dL_areTables_0 (by decide) ?_
  refine lv_istore (lv' := [(5, .int (0 : Int32)), (0, .ref b0), (1, .ref (qa 0)), (2, .ref (qa 1)), (3, .ref (qa 2)), (4, .int a4)]) hx hb dL_areTables_1 hl (by decide) rfl (fun ls hl => ?_)
  refine lv_iconst (v := 0) hx hb dL_areTables_3 (by decide) ?_
  refine lv_istore (lv' := [(6, .int (0 : Int32)), (5, .int (0 : Int32)), (0, .ref b0), (1, .ref (qa 0)), (2, .ref (qa 1)), (3, .ref (qa 2)), (4, .int a4)]) hx hb dL_areTables_4 hl (by decide) rfl (fun ls hl => ?_)
  refine lv_iconst (v := 1) hx hb dL_areTables_6 (by decide) ?_
  refine lv_istore (lv' := [(7, .int (1 : Int32)), (6, .int (0 : Int32)), (5, .int (0 : Int32)), (0, .ref b0), (1, .ref (qa 0)), (2, .ref (qa 1)), (3, .ref (qa 2)), (4, .int a4)]) hx hb dL_areTables_7 hl (by decide) rfl (fun ls hl => ?_)
  refine lv_iconst (v := 0) hx hb dL_areTables_9 (by decide) ?_
  refine lv_istore (lv' := [(8, .int (0 : Int32)), (7, .int (1 : Int32)), (6, .int (0 : Int32)), (5, .int (0 : Int32)), (0, .ref b0), (1, .ref (qa 0)), (2, .ref (qa 1)), (3, .ref (qa 2)), (4, .int a4)]) hx hb dL_areTables_10 hl (by decide) rfl (fun ls hl => ?_)
  rw [eV12] at hp
  exact hp _ _ _ hP hD hS (lv_sub hl [4, 5, 6, 7, 8, 3, 2, 1, 0] rfl)
def P_L_areOffers (gh gs gr ga : St) (a2 : Int32) (a3 : Int32) (a5 : Int32) (post : Int32 → St → St → St → Prop) : Prop := ∀ V54 : Nat → St → St → St → Int32 → Int32 → Int32 → Int32 → Int32 → Prop, ∀ V91 : Nat → St → St → St → Int32 → Int32 → Int32 → Int32 → Int32 → Int32 → Int32 → Int32 → Prop, ∀ V193 : Nat → St → St → St → Int32 → Int32 → Int32 → Int32 → Prop, ∀ V197 : Nat → St → St → St → Int32 → Int32 → Int32 → Int32 → Prop, (∀ (k : Nat) (gh gs gr : St) (x6 x7 x8 x9 x10 : Int32), ((x6 ≤ x10 → (k ≤ 2 ∧ ((x9 = 0 ∨ x9 = 1) ∧ (post x9 gh gs gr)))) ∧ (¬ x6 ≤ x10 → ((x9 = 0 → (k ≤ 2 ∧ ((x9 = 0 ∨ x9 = 1) ∧ (post x9 gh gs gr)))) ∧ (¬ x9 = 0 → (k ≤ 2 ∧ ∃ r12 : Int32, Pn_X4_offerAt gh gs gr a2 x10 r12 ∧ (vp_in (((3 : Int32) * r12) + (2 : Int32)) 24 ∧ (V91 k gh gs gr x6 x7 x8 x10 r12 (ga 5 (((3 : Int32) * r12) + (2 : Int32)).toNatClampNeg) (0 : Int32) (0 : Int32)))))))) → V54 k gh gs gr x6 x7 x8 x9 x10) → (∀ (k : Nat) (gh gs gr : St) (x6 x7 x8 x10 x11 x12 x13 x14 : Int32), ((a5 ≤ x14 → ((x13 = 0 → (V197 k gh gs gr x6 x10 x11 x12)) ∧ (¬ x13 = 0 → (vp_in ((3 : Int32) * x11) 24 ∧ ((a3 < (ga 5 ((3 : Int32) * x11).toNatClampNeg) → (V197 k gh gs gr x6 x10 x11 x12)) ∧ (¬ a3 < (ga 5 ((3 : Int32) * x11).toNatClampNeg) → (vp_in (((3 : Int32) * x11) + (1 : Int32)) 24 ∧ (((ga 5 (((3 : Int32) * x11) + (1 : Int32)).toNatClampNeg) < a3 → (V197 k gh gs gr x6 x10 x11 x12)) ∧ (¬ (ga 5 (((3 : Int32) * x11) + (1 : Int32)).toNatClampNeg) < a3 → (k ≤ 2 ∧ ∃ r15 : Int32, Pn_X4_left gh gs gr a2 r15 ∧ ((r15 < x12 → (V197 k gh gs gr x6 x10 x11 x12)) ∧ (¬ r15 < x12 → ((x12 < x7 → (V193 k gh gs gr x6 x10 x11 x12)) ∧ (¬ x12 < x7 → ((¬ x12 = x7 → (V197 k gh gs gr x6 x10 x11 x12)) ∧ (x12 = x7 → ((x11 ≤ x8 → (V197 k gh gs gr x6 x10 x11 x12)) ∧ (¬ x11 ≤ x8 → (V193 k gh gs gr x6 x10 x11 x12))))))))))))))))))) ∧ (¬ a5 ≤ x14 → ((¬ x13 = 0 → (V91 k gh gs gr x6 x7 x8 x10 x11 x12 (1 : Int32) (x14 + (1 : Int32)))) ∧ (x13 = 0 → (vp_in x14 16 ∧ ((¬ (ga 3 x14.toNatClampNeg) = x11 → (V91 k gh gs gr x6 x7 x8 x10 x11 x12 (0 : Int32) (x14 + (1 : Int32)))) ∧ ((ga 3 x14.toNatClampNeg) = x11 → (k ≤ 2 ∧ ∃ r23 : Int32, Pn_X4_lenders gh gs gr x14 r23 ∧ ((r23 < 0 → (V91 k gh gs gr x6 x7 x8 x10 x11 x12 (0 : Int32) (x14 + (1 : Int32)))) ∧ (¬ r23 < 0 → (V91 k gh gs gr x6 x7 x8 x10 x11 x12 (1 : Int32) (x14 + (1 : Int32))))))))))))) → V91 k gh gs gr x6 x7 x8 x10 x11 x12 x13 x14) → (∀ (k : Nat) (gh gs gr : St) (x6 x10 x11 x12 : Int32), (V54 k gh gs gr x6 x12 x11 (1 : Int32) (x10 + (1 : Int32))) → V193 k gh gs gr x6 x10 x11 x12) → (∀ (k : Nat) (gh gs gr : St) (x6 x10 x11 x12 : Int32), (V54 k gh gs gr x6 x12 x11 (0 : Int32) (x10 + (1 : Int32))) → V197 k gh gs gr x6 x10 x11 x12) → (0 ≤ 2 ∧ ∃ r1 : Int32, Pn_X4_offers gh gs gr a2 r1 ∧ (1 ≤ 2 ∧ P_L_on gh gs gr (7 : Int32) a2 r1 (0 : Int32) (fun (r2 : Int32) (gh3 gs4 gr5 : St) => (¬ r2 = (-11 : Int32) → (V54 1 gh3 gs4 gr5 r1 (999 : Int32) (-1 : Int32) (0 : Int32) (0 : Int32))) ∧ (r2 = (-11 : Int32) → (1 + 1 ≤ 2 ∧ P_L_on gh3 gs4 gr5 (7 : Int32) a2 (-1 : Int32) (0 : Int32) (fun (r6 : Int32) (gh7 gs8 gr9 : St) => (¬ r6 = (-11 : Int32) → (V54 (1 + 1) gh7 gs8 gr9 r1 (999 : Int32) (-1 : Int32) (0 : Int32) (0 : Int32))) ∧ (r6 = (-11 : Int32) → (V54 (1 + 1) gh7 gs8 gr9 r1 (999 : Int32) (-1 : Int32) (1 : Int32) (0 : Int32)))))))))
set_option maxRecDepth 100000 in
set_option maxHeartbeats 8000000 in
theorem c_L_areOffers (l : Launch) (hfl : l.stackTraces = false) (dC : Nat → ClassId) (dI : Nat → Nat → Nat) (cI : ClassId) (b0 : Nat) (qh qs qr qa : Nat → Nat) (gh gs gr ga : St) (a2 : Int32) (a3 : Int32) (a5 : Int32) (post : Int32 → St → St → St → Prop) (hp : P_L_areOffers gh gs gr ga a2 a3 a5 post) (sz : Nat) : Met l yL_areOffers wsL_areOffers { frames := 10, cells := 8, slots := 48, locals := 210 } (va_Pc [.ref b0, .ref (qa 5), .int a2, .int a3, .ref (qa 3), .int a5] (tpS (dC, dI) vwCl [(cI, .int)] (wLL b0 qh qs qr qa cI gh gs gr ga) sz)) (va_Qi (fun (r : Int32) (u : St × St × St) => post r u.1 u.2.1 u.2.2) (fun u t => wqB (dC, dI) vwCl (wLL b0 qh qs qr qa cI u.1 u.2.1 u.2.2 ga) (va_A (wLL b0 qh qs qr qa cI gh gs gr ga) sz) t) (va_A (wLL b0 qh qs qr qa cI gh gs gr ga) sz)) 8 48 (va_A (wLL b0 qh qs qr qa cI gh gs gr ga) sz) := by
  refine tp_met (fun A => (va_Qi (fun (r : Int32) (u : St × St × St) => post r u.1 u.2.1 u.2.2) (fun u t => wqB (dC, dI) vwCl (wLL b0 qh qs qr qa cI u.1 u.2.1 u.2.2 ga) A t) A)) (cc := cL_areOffers) (maxL := 15) (ret := (some .boolean)) (by decide) rfl (Nat.le_of_ble_eq_true rfl) ?_
  intro p e s m below meth c A hx hb hml hr hlk hts hown hP hK hN hD hA hXS hXH ls hl
  have hS : va_S A s.heap s.heap [] := va_S.rf
  have hl : lv_has ls 15 [(0, .ref b0), (1, .ref (qa 5)), (2, .int a2), (3, .int a3), (4, .ref (qa 3)), (5, .int a5)] := hl
  obtain ⟨V54, eV54⟩ : ∃ V : Nat → St → St → St → Int32 → Int32 → Int32 → Int32 → Int32 → Prop, V = (fun k gh gs gr x6 x7 x8 x9 x10 => ∀ (H : Heap) (locs : List Loc) (ls : Array Slot), va_P (dC, dI) vwCl (wLL b0 qh qs qr qa cI gh gs gr ga) H → va_D A (wLL b0 qh qs qr qa cI gh gs gr ga) → va_S A s.heap H locs → lv_has ls 15 [(0, .ref b0), (1, .ref (qa 5)), (2, .int a2), (3, .int a3), (4, .ref (qa 3)), (5, .int a5), (6, .int x6), (7, .int x7), (8, .int x8), (9, .int x9), (10, .int x10)] → W p l e { frames := 10, cells := 8, slots := 48, locals := 210 } s m ([.ref b0, .ref (qa 5), .int a2, .int a3, .ref (qa 3), .int a5] : List Value).toArray below meth c H locs (4 * k) (24 * k) (MQ below (va_Qi (fun (r : Int32) (u : St × St × St) => post r u.1 u.2.1 u.2.2) (fun u t => wqB (dC, dI) vwCl (wLL b0 qh qs qr qa cI u.1 u.2.1 u.2.2 ga) A t) A) ([.ref b0, .ref (qa 5), .int a2, .int a3, .ref (qa 3), .int a5] : List Value).toArray s 8 48 A) (F0 m 54 ls [])) := ⟨_, rfl⟩
  obtain ⟨V91, eV91⟩ : ∃ V : Nat → St → St → St → Int32 → Int32 → Int32 → Int32 → Int32 → Int32 → Int32 → Int32 → Prop, V = (fun k gh gs gr x6 x7 x8 x10 x11 x12 x13 x14 => ∀ (H : Heap) (locs : List Loc) (ls : Array Slot), va_P (dC, dI) vwCl (wLL b0 qh qs qr qa cI gh gs gr ga) H → va_D A (wLL b0 qh qs qr qa cI gh gs gr ga) → va_S A s.heap H locs → lv_has ls 15 [(0, .ref b0), (1, .ref (qa 5)), (2, .int a2), (3, .int a3), (4, .ref (qa 3)), (5, .int a5), (6, .int x6), (7, .int x7), (8, .int x8), (10, .int x10), (11, .int x11), (12, .int x12), (13, .int x13), (14, .int x14)] → W p l e { frames := 10, cells := 8, slots := 48, locals := 210 } s m ([.ref b0, .ref (qa 5), .int a2, .int a3, .ref (qa 3), .int a5] : List Value).toArray below meth c H locs (4 * k) (24 * k) (MQ below (va_Qi (fun (r : Int32) (u : St × St × St) => post r u.1 u.2.1 u.2.2) (fun u t => wqB (dC, dI) vwCl (wLL b0 qh qs qr qa cI u.1 u.2.1 u.2.2 ga) A t) A) ([.ref b0, .ref (qa 5), .int a2, .int a3, .ref (qa 3), .int a5] : List Value).toArray s 8 48 A) (F0 m 91 ls [])) := ⟨_, rfl⟩
  obtain ⟨V193, eV193⟩ : ∃ V : Nat → St → St → St → Int32 → Int32 → Int32 → Int32 → Prop, V = (fun k gh gs gr x6 x10 x11 x12 => ∀ (H : Heap) (locs : List Loc) (ls : Array Slot), va_P (dC, dI) vwCl (wLL b0 qh qs qr qa cI gh gs gr ga) H → va_D A (wLL b0 qh qs qr qa cI gh gs gr ga) → va_S A s.heap H locs → lv_has ls 15 [(0, .ref b0), (1, .ref (qa 5)), (2, .int a2), (3, .int a3), (4, .ref (qa 3)), (5, .int a5), (6, .int x6), (10, .int x10), (11, .int x11), (12, .int x12)] → W p l e { frames := 10, cells := 8, slots := 48, locals := 210 } s m ([.ref b0, .ref (qa 5), .int a2, .int a3, .ref (qa 3), .int a5] : List Value).toArray below meth c H locs (4 * k) (24 * k) (MQ below (va_Qi (fun (r : Int32) (u : St × St × St) => post r u.1 u.2.1 u.2.2) (fun u t => wqB (dC, dI) vwCl (wLL b0 qh qs qr qa cI u.1 u.2.1 u.2.2 ga) A t) A) ([.ref b0, .ref (qa 5), .int a2, .int a3, .ref (qa 3), .int a5] : List Value).toArray s 8 48 A) (F0 m 193 ls [])) := ⟨_, rfl⟩
  obtain ⟨V197, eV197⟩ : ∃ V : Nat → St → St → St → Int32 → Int32 → Int32 → Int32 → Prop, V = (fun k gh gs gr x6 x10 x11 x12 => ∀ (H : Heap) (locs : List Loc) (ls : Array Slot), va_P (dC, dI) vwCl (wLL b0 qh qs qr qa cI gh gs gr ga) H → va_D A (wLL b0 qh qs qr qa cI gh gs gr ga) → va_S A s.heap H locs → lv_has ls 15 [(0, .ref b0), (1, .ref (qa 5)), (2, .int a2), (3, .int a3), (4, .ref (qa 3)), (5, .int a5), (6, .int x6), (10, .int x10), (11, .int x11), (12, .int x12)] → W p l e { frames := 10, cells := 8, slots := 48, locals := 210 } s m ([.ref b0, .ref (qa 5), .int a2, .int a3, .ref (qa 3), .int a5] : List Value).toArray below meth c H locs (4 * k) (24 * k) (MQ below (va_Qi (fun (r : Int32) (u : St × St × St) => post r u.1 u.2.1 u.2.2) (fun u t => wqB (dC, dI) vwCl (wLL b0 qh qs qr qa cI u.1 u.2.1 u.2.2 ga) A t) A) ([.ref b0, .ref (qa 5), .int a2, .int a3, .ref (qa 3), .int a5] : List Value).toArray s 8 48 A) (F0 m 197 ls [])) := ⟨_, rfl⟩
  have hp := hp V54 V91 V193 V197
  have hp := hp (by
    intro k gh gs gr x6 x7 x8 x9 x10 hp
    rw [eV54]
    intro H locs ls hP hD hS hl
    refine lv_iload hx hb dL_areOffers_54 (lv_at hl 10 rfl) ?_
    refine lv_iload hx hb dL_areOffers_56 (lv_at hl 6 rfl) ?_
    refine lv_icmp_ge (tgt := 214) hx hb dL_areOffers_58 (by decide) (fun c14 => ?_) (fun c14 => ?_)
    · have hp := hp.1 c14
      refine lv_iload hx hb dL_areOffers_214 (lv_at hl 9 rfl) ?_
      have hkb := hp.1
      have hp := hp.2
      refine W.widen (k := 8) (n := 48) (by omega) (by omega) ?_
      have hbv := rd_bool hp.1
      have hp := hp.2
      exact W.zret (ty := .boolean) hx hb hr hbv (fun t ht _ => ⟨⟨_, (gh, gs, gr), rfl, hp, by rw [ht]; exact hP, hD⟩, hS.F ht⟩) hS.2.2 dL_areOffers_216
    · have hp := hp.2 c14
      refine lv_iload hx hb dL_areOffers_61 (lv_at hl 9 rfl) ?_
      refine lv_if_eq (tgt := 214) hx hb dL_areOffers_63 (by decide) (fun c13 => ?_) (fun c13 => ?_)
      · have hp := hp.1 c13
        refine lv_iload hx hb dL_areOffers_214 (lv_at hl 9 rfl) ?_
        have hkb := hp.1
        have hp := hp.2
        refine W.widen (k := 8) (n := 48) (by omega) (by omega) ?_
        have hbv := rd_bool hp.1
        have hp := hp.2
        exact W.zret (ty := .boolean) hx hb hr hbv (fun t ht _ => ⟨⟨_, (gh, gs, gr), rfl, hp, by rw [ht]; exact hP, hD⟩, hS.F ht⟩) hS.2.2 dL_areOffers_216
      · have hp := hp.2 c13
        refine lv_aload_n hx hb dL_areOffers_66 rfl (lv_at hl 0 rfl) ?_
        refine lv_iload_n hx hb dL_areOffers_67 rfl (lv_at hl 2 rfl) ?_
        refine lv_iload hx hb dL_areOffers_68 (lv_at hl 10 rfl) ?_
        have hkb := hp.1
        have hp := hp.2
        obtain ⟨r12, hr12, hp⟩ := hp
        refine ro_V (As := [.int a2, .int x10]) (rest := []) ⟨hx, hb, hml, hown, hts⟩ (cn_X4_offerAt l dC dI cI b0 qh qs qr gh gs gr a2 x10 r12 hr12) (cwV 2 hts gL_areOffers_X4_offerAt rfl rfl rfl (by decide +kernel) ⟨Nat.le_of_ble_eq_true rfl, Nat.le_of_ble_eq_true rfl⟩) (tLL hP) hK hN rfl rfl rfl rfl hl.1 (Nat.le_of_ble_eq_true rfl) ⟨by show 4 * k ≤ 8; omega, by show 24 * k ≤ 48; omega⟩ dL_areOffers_70 ?_
        refine lv_istore (lv' := [(11, .int r12), (0, .ref b0), (1, .ref (qa 5)), (2, .int a2), (3, .int a3), (4, .ref (qa 3)), (5, .int a5), (6, .int x6), (7, .int x7), (8, .int x8), (9, .int x9), (10, .int x10)]) hx hb dL_areOffers_73 hl (by decide) rfl (fun ls hl => ?_)
        refine lv_aload_n hx hb dL_areOffers_75 rfl (lv_at hl 2 rfl) ?_
        refine lv_iconst (v := 3) hx hb dL_areOffers_76 (by decide) ?_
        refine lv_iload hx hb dL_areOffers_77 (lv_at hl 0 rfl) ?_
        refine lv_imul hx hb dL_areOffers_79 ?_
        refine lv_iconst (v := 2) hx hb dL_areOffers_80 (by decide) ?_
        refine lv_iadd hx hb dL_areOffers_81 ?_
        refine va_iald hx hb hK hP 49 0 rfl rfl hp.1 dL_areOffers_82 ?_
        have hp := hp.2
        refine lv_istore (lv' := [(12, .int (ga 5 (((3 : Int32) * r12) + (2 : Int32)).toNatClampNeg)), (11, .int r12), (0, .ref b0), (1, .ref (qa 5)), (2, .int a2), (3, .int a3), (4, .ref (qa 3)), (5, .int a5), (6, .int x6), (7, .int x7), (8, .int x8), (9, .int x9), (10, .int x10)]) hx hb dL_areOffers_83 hl (by decide) rfl (fun ls hl => ?_)
        refine lv_iconst (v := 0) hx hb dL_areOffers_85 (by decide) ?_
        refine lv_istore (lv' := [(13, .int (0 : Int32)), (12, .int (ga 5 (((3 : Int32) * r12) + (2 : Int32)).toNatClampNeg)), (11, .int r12), (0, .ref b0), (1, .ref (qa 5)), (2, .int a2), (3, .int a3), (4, .ref (qa 3)), (5, .int a5), (6, .int x6), (7, .int x7), (8, .int x8), (9, .int x9), (10, .int x10)]) hx hb dL_areOffers_86 hl (by decide) rfl (fun ls hl => ?_)
        refine lv_iconst (v := 0) hx hb dL_areOffers_88 (by decide) ?_
        refine lv_istore (lv' := [(14, .int (0 : Int32)), (13, .int (0 : Int32)), (12, .int (ga 5 (((3 : Int32) * r12) + (2 : Int32)).toNatClampNeg)), (11, .int r12), (0, .ref b0), (1, .ref (qa 5)), (2, .int a2), (3, .int a3), (4, .ref (qa 3)), (5, .int a5), (6, .int x6), (7, .int x7), (8, .int x8), (9, .int x9), (10, .int x10)]) hx hb dL_areOffers_89 hl (by decide) rfl (fun ls hl => ?_)
        rw [eV91] at hp
        exact hp _ _ _ hP hD hS (lv_sub hl [4, 5, 6, 7, 8, 9, 10, 11, 12, 14, 3, 2, 1, 0] rfl))
  have hp := hp (by
    intro k gh gs gr x6 x7 x8 x10 x11 x12 x13 x14 hp
    rw [eV91]
    intro H locs ls hP hD hS hl
    refine lv_iload hx hb dL_areOffers_91 (lv_at hl 13 rfl) ?_
    refine lv_iload hx hb dL_areOffers_93 (lv_at hl 5 rfl) ?_
    refine lv_icmp_ge (tgt := 135) hx hb dL_areOffers_95 (by decide) (fun c27 => ?_) (fun c27 => ?_)
    · have hp := hp.1 c27
      refine lv_iload hx hb dL_areOffers_135 (lv_at hl 12 rfl) ?_
      refine lv_if_eq (tgt := 197) hx hb dL_areOffers_137 (by decide) (fun c22 => ?_) (fun c22 => ?_)
      · have hp := hp.1 c22
        rw [eV197] at hp
        exact hp _ _ _ hP hD hS (lv_sub hl [0, 1, 2, 3, 4, 5, 6, 9, 10, 11] rfl)
      · have hp := hp.2 c22
        refine lv_iload_n hx hb dL_areOffers_140 rfl (lv_at hl 3 rfl) ?_
        refine lv_aload_n hx hb dL_areOffers_141 rfl (lv_at hl 1 rfl) ?_
        refine lv_iconst (v := 3) hx hb dL_areOffers_142 (by decide) ?_
        refine lv_iload hx hb dL_areOffers_143 (lv_at hl 10 rfl) ?_
        refine lv_imul hx hb dL_areOffers_145 ?_
        refine va_iald hx hb hK hP 49 0 rfl rfl hp.1 dL_areOffers_146 ?_
        have hp := hp.2
        refine lv_icmp_lt (tgt := 197) hx hb dL_areOffers_147 (by decide) (fun c21 => ?_) (fun c21 => ?_)
        · have hp := hp.1 c21
          rw [eV197] at hp
          exact hp _ _ _ hP hD hS (lv_sub hl [0, 1, 2, 3, 4, 5, 6, 9, 10, 11] rfl)
        · have hp := hp.2 c21
          refine lv_iload_n hx hb dL_areOffers_150 rfl (lv_at hl 3 rfl) ?_
          refine lv_aload_n hx hb dL_areOffers_151 rfl (lv_at hl 1 rfl) ?_
          refine lv_iconst (v := 3) hx hb dL_areOffers_152 (by decide) ?_
          refine lv_iload hx hb dL_areOffers_153 (lv_at hl 10 rfl) ?_
          refine lv_imul hx hb dL_areOffers_155 ?_
          refine lv_iconst (v := 1) hx hb dL_areOffers_156 (by decide) ?_
          refine lv_iadd hx hb dL_areOffers_157 ?_
          refine va_iald hx hb hK hP 49 0 rfl rfl hp.1 dL_areOffers_158 ?_
          have hp := hp.2
          refine lv_icmp_gt (tgt := 197) hx hb dL_areOffers_159 (by decide) (fun c20 => ?_) (fun c20 => ?_)
          · have hp := hp.1 c20
            rw [eV197] at hp
            exact hp _ _ _ hP hD hS (lv_sub hl [0, 1, 2, 3, 4, 5, 6, 9, 10, 11] rfl)
          · have hp := hp.2 c20
            refine lv_iload hx hb dL_areOffers_162 (lv_at hl 11 rfl) ?_
            refine lv_aload_n hx hb dL_areOffers_164 rfl (lv_at hl 0 rfl) ?_
            refine lv_iload_n hx hb dL_areOffers_165 rfl (lv_at hl 2 rfl) ?_
            have hkb := hp.1
            have hp := hp.2
            obtain ⟨r15, hr15, hp⟩ := hp
            refine ro_V (As := [.int a2]) (rest := [.int x12]) ⟨hx, hb, hml, hown, hts⟩ (cn_X4_left l dC dI cI b0 qh qs qr gh gs gr a2 r15 hr15) (cwV 1 hts gL_areOffers_X4_left rfl rfl rfl (by decide +kernel) ⟨Nat.le_of_ble_eq_true rfl, Nat.le_of_ble_eq_true rfl⟩) (tLL hP) hK hN rfl rfl rfl rfl hl.1 (Nat.le_of_ble_eq_true rfl) ⟨by show 4 * k ≤ 8; omega, by show 24 * k ≤ 48; omega⟩ dL_areOffers_166 ?_
            refine lv_icmp_gt (tgt := 197) hx hb dL_areOffers_169 (by decide) (fun c19 => ?_) (fun c19 => ?_)
            · have hp := hp.1 c19
              rw [eV197] at hp
              exact hp _ _ _ hP hD hS (lv_sub hl [0, 1, 2, 3, 4, 5, 6, 9, 10, 11] rfl)
            · have hp := hp.2 c19
              refine lv_iload hx hb dL_areOffers_172 (lv_at hl 11 rfl) ?_
              refine lv_iload hx hb dL_areOffers_174 (lv_at hl 7 rfl) ?_
              refine lv_icmp_lt (tgt := 193) hx hb dL_areOffers_176 (by decide) (fun c18 => ?_) (fun c18 => ?_)
              · have hp := hp.1 c18
                rw [eV193] at hp
                exact hp _ _ _ hP hD hS (lv_sub hl [0, 1, 2, 3, 4, 5, 6, 9, 10, 11] rfl)
              · have hp := hp.2 c18
                refine lv_iload hx hb dL_areOffers_179 (lv_at hl 11 rfl) ?_
                refine lv_iload hx hb dL_areOffers_181 (lv_at hl 7 rfl) ?_
                refine lv_icmp_ne (tgt := 197) hx hb dL_areOffers_183 (by decide) (fun c17 => ?_) (fun c17 => ?_)
                · have hp := hp.1 c17
                  rw [eV197] at hp
                  exact hp _ _ _ hP hD hS (lv_sub hl [0, 1, 2, 3, 4, 5, 6, 9, 10, 11] rfl)
                · have hp := hp.2 c17
                  refine lv_iload hx hb dL_areOffers_186 (lv_at hl 10 rfl) ?_
                  refine lv_iload hx hb dL_areOffers_188 (lv_at hl 8 rfl) ?_
                  refine lv_icmp_le (tgt := 197) hx hb dL_areOffers_190 (by decide) (fun c16 => ?_) (fun c16 => ?_)
                  · have hp := hp.1 c16
                    rw [eV197] at hp
                    exact hp _ _ _ hP hD hS (lv_sub hl [0, 1, 2, 3, 4, 5, 6, 9, 10, 11] rfl)
                  · have hp := hp.2 c16
                    rw [eV193] at hp
                    exact hp _ _ _ hP hD hS (lv_sub hl [0, 1, 2, 3, 4, 5, 6, 9, 10, 11] rfl)
    · have hp := hp.2 c27
      refine lv_iload hx hb dL_areOffers_98 (lv_at hl 12 rfl) ?_
      refine lv_if_ne (tgt := 122) hx hb dL_areOffers_100 (by decide) (fun c26 => ?_) (fun c26 => ?_)
      · have hp := hp.1 c26
        refine lv_iconst (v := 1) hx hb dL_areOffers_122 (by decide) ?_
        refine lv_goto (tgt := 127) hx hb dL_areOffers_123 (by decide) ?_
        refine lv_istore (lv' := [(13, .int (1 : Int32)), (0, .ref b0), (1, .ref (qa 5)), (2, .int a2), (3, .int a3), (4, .ref (qa 3)), (5, .int a5), (6, .int x6), (7, .int x7), (8, .int x8), (10, .int x10), (11, .int x11), (12, .int x12), (14, .int x14)]) hx hb dL_areOffers_127 hl (by decide) rfl (fun ls hl => ?_)
        refine lv_iinc (v := x14 + (1 : Int32)) (lv' := [(14, .int (x14 + (1 : Int32))), (13, .int (1 : Int32)), (0, .ref b0), (1, .ref (qa 5)), (2, .int a2), (3, .int a3), (4, .ref (qa 3)), (5, .int a5), (6, .int x6), (7, .int x7), (8, .int x8), (10, .int x10), (11, .int x11), (12, .int x12)]) hx hb dL_areOffers_129 hl (k := 13) rfl rfl (by decide) rfl (fun ls hl => ?_)
        refine lv_goto (tgt := 91) hx hb dL_areOffers_132 (by decide) ?_
        rw [eV91] at hp
        exact hp _ _ _ hP hD hS (lv_sub hl [2, 3, 4, 5, 6, 7, 8, 9, 10, 11, 12, 13, 1, 0] rfl)
      · have hp := hp.2 c26
        refine lv_aload hx hb dL_areOffers_103 (lv_at hl 4 rfl) ?_
        refine lv_iload hx hb dL_areOffers_105 (lv_at hl 13 rfl) ?_
        refine va_iald hx hb hK hP 47 0 rfl rfl hp.1 dL_areOffers_107 ?_
        have hp := hp.2
        refine lv_iload hx hb dL_areOffers_108 (lv_at hl 10 rfl) ?_
        refine lv_icmp_ne (tgt := 126) hx hb dL_areOffers_110 (by decide) (fun c25 => ?_) (fun c25 => ?_)
        · have hp := hp.1 c25
          refine lv_iconst (v := 0) hx hb dL_areOffers_126 (by decide) ?_
          refine lv_istore (lv' := [(13, .int (0 : Int32)), (0, .ref b0), (1, .ref (qa 5)), (2, .int a2), (3, .int a3), (4, .ref (qa 3)), (5, .int a5), (6, .int x6), (7, .int x7), (8, .int x8), (10, .int x10), (11, .int x11), (12, .int x12), (14, .int x14)]) hx hb dL_areOffers_127 hl (by decide) rfl (fun ls hl => ?_)
          refine lv_iinc (v := x14 + (1 : Int32)) (lv' := [(14, .int (x14 + (1 : Int32))), (13, .int (0 : Int32)), (0, .ref b0), (1, .ref (qa 5)), (2, .int a2), (3, .int a3), (4, .ref (qa 3)), (5, .int a5), (6, .int x6), (7, .int x7), (8, .int x8), (10, .int x10), (11, .int x11), (12, .int x12)]) hx hb dL_areOffers_129 hl (k := 13) rfl rfl (by decide) rfl (fun ls hl => ?_)
          refine lv_goto (tgt := 91) hx hb dL_areOffers_132 (by decide) ?_
          rw [eV91] at hp
          exact hp _ _ _ hP hD hS (lv_sub hl [2, 3, 4, 5, 6, 7, 8, 9, 10, 11, 12, 13, 1, 0] rfl)
        · have hp := hp.2 c25
          refine lv_aload_n hx hb dL_areOffers_113 rfl (lv_at hl 0 rfl) ?_
          refine lv_iload hx hb dL_areOffers_114 (lv_at hl 13 rfl) ?_
          have hkb := hp.1
          have hp := hp.2
          obtain ⟨r23, hr23, hp⟩ := hp
          refine ro_V (As := [.int x14]) (rest := []) ⟨hx, hb, hml, hown, hts⟩ (cn_X4_lenders l dC dI cI b0 qh qs qr gh gs gr x14 r23 hr23) (cwV 1 hts gL_areOffers_X4_lenders rfl rfl rfl (by decide +kernel) ⟨Nat.le_of_ble_eq_true rfl, Nat.le_of_ble_eq_true rfl⟩) (tLL hP) hK hN rfl rfl rfl rfl hl.1 (Nat.le_of_ble_eq_true rfl) ⟨by show 4 * k ≤ 8; omega, by show 24 * k ≤ 48; omega⟩ dL_areOffers_116 ?_
          refine lv_if_lt (tgt := 126) hx hb dL_areOffers_119 (by decide) (fun c24 => ?_) (fun c24 => ?_)
          · have hp := hp.1 c24
            refine lv_iconst (v := 0) hx hb dL_areOffers_126 (by decide) ?_
            refine lv_istore (lv' := [(13, .int (0 : Int32)), (0, .ref b0), (1, .ref (qa 5)), (2, .int a2), (3, .int a3), (4, .ref (qa 3)), (5, .int a5), (6, .int x6), (7, .int x7), (8, .int x8), (10, .int x10), (11, .int x11), (12, .int x12), (14, .int x14)]) hx hb dL_areOffers_127 hl (by decide) rfl (fun ls hl => ?_)
            refine lv_iinc (v := x14 + (1 : Int32)) (lv' := [(14, .int (x14 + (1 : Int32))), (13, .int (0 : Int32)), (0, .ref b0), (1, .ref (qa 5)), (2, .int a2), (3, .int a3), (4, .ref (qa 3)), (5, .int a5), (6, .int x6), (7, .int x7), (8, .int x8), (10, .int x10), (11, .int x11), (12, .int x12)]) hx hb dL_areOffers_129 hl (k := 13) rfl rfl (by decide) rfl (fun ls hl => ?_)
            refine lv_goto (tgt := 91) hx hb dL_areOffers_132 (by decide) ?_
            rw [eV91] at hp
            exact hp _ _ _ hP hD hS (lv_sub hl [2, 3, 4, 5, 6, 7, 8, 9, 10, 11, 12, 13, 1, 0] rfl)
          · have hp := hp.2 c24
            refine lv_iconst (v := 1) hx hb dL_areOffers_122 (by decide) ?_
            refine lv_goto (tgt := 127) hx hb dL_areOffers_123 (by decide) ?_
            refine lv_istore (lv' := [(13, .int (1 : Int32)), (0, .ref b0), (1, .ref (qa 5)), (2, .int a2), (3, .int a3), (4, .ref (qa 3)), (5, .int a5), (6, .int x6), (7, .int x7), (8, .int x8), (10, .int x10), (11, .int x11), (12, .int x12), (14, .int x14)]) hx hb dL_areOffers_127 hl (by decide) rfl (fun ls hl => ?_)
            refine lv_iinc (v := x14 + (1 : Int32)) (lv' := [(14, .int (x14 + (1 : Int32))), (13, .int (1 : Int32)), (0, .ref b0), (1, .ref (qa 5)), (2, .int a2), (3, .int a3), (4, .ref (qa 3)), (5, .int a5), (6, .int x6), (7, .int x7), (8, .int x8), (10, .int x10), (11, .int x11), (12, .int x12)]) hx hb dL_areOffers_129 hl (k := 13) rfl rfl (by decide) rfl (fun ls hl => ?_)
            refine lv_goto (tgt := 91) hx hb dL_areOffers_132 (by decide) ?_
            rw [eV91] at hp
            exact hp _ _ _ hP hD hS (lv_sub hl [2, 3, 4, 5, 6, 7, 8, 9, 10, 11, 12, 13, 1, 0] rfl))
  have hp := hp (by
    intro k gh gs gr x6 x10 x11 x12 hp
    rw [eV193]
    intro H locs ls hP hD hS hl
    refine lv_iconst (v := 1) hx hb dL_areOffers_193 (by decide) ?_
    refine lv_goto (tgt := 198) hx hb dL_areOffers_194 (by decide) ?_
    refine lv_istore (lv' := [(9, .int (1 : Int32)), (0, .ref b0), (1, .ref (qa 5)), (2, .int a2), (3, .int a3), (4, .ref (qa 3)), (5, .int a5), (6, .int x6), (10, .int x10), (11, .int x11), (12, .int x12)]) hx hb dL_areOffers_198 hl (by decide) rfl (fun ls hl => ?_)
    refine lv_iload hx hb dL_areOffers_200 (lv_at hl 10 rfl) ?_
    refine lv_istore (lv' := [(7, .int x12), (9, .int (1 : Int32)), (0, .ref b0), (1, .ref (qa 5)), (2, .int a2), (3, .int a3), (4, .ref (qa 3)), (5, .int a5), (6, .int x6), (10, .int x10), (11, .int x11), (12, .int x12)]) hx hb dL_areOffers_202 hl (by decide) rfl (fun ls hl => ?_)
    refine lv_iload hx hb dL_areOffers_204 (lv_at hl 10 rfl) ?_
    refine lv_istore (lv' := [(8, .int x11), (7, .int x12), (9, .int (1 : Int32)), (0, .ref b0), (1, .ref (qa 5)), (2, .int a2), (3, .int a3), (4, .ref (qa 3)), (5, .int a5), (6, .int x6), (10, .int x10), (11, .int x11), (12, .int x12)]) hx hb dL_areOffers_206 hl (by decide) rfl (fun ls hl => ?_)
    refine lv_iinc (v := x10 + (1 : Int32)) (lv' := [(10, .int (x10 + (1 : Int32))), (8, .int x11), (7, .int x12), (9, .int (1 : Int32)), (0, .ref b0), (1, .ref (qa 5)), (2, .int a2), (3, .int a3), (4, .ref (qa 3)), (5, .int a5), (6, .int x6), (11, .int x11), (12, .int x12)]) hx hb dL_areOffers_208 hl (k := 10) rfl rfl (by decide) rfl (fun ls hl => ?_)
    refine lv_goto (tgt := 54) hx hb dL_areOffers_211 (by decide) ?_
    rw [eV54] at hp
    exact hp _ _ _ hP hD hS (lv_sub hl [4, 5, 6, 7, 8, 9, 10, 2, 1, 3, 0] rfl))
  have hp := hp (by
    intro k gh gs gr x6 x10 x11 x12 hp
    rw [eV197]
    intro H locs ls hP hD hS hl
    refine lv_iconst (v := 0) hx hb dL_areOffers_197 (by decide) ?_
    refine lv_istore (lv' := [(9, .int (0 : Int32)), (0, .ref b0), (1, .ref (qa 5)), (2, .int a2), (3, .int a3), (4, .ref (qa 3)), (5, .int a5), (6, .int x6), (10, .int x10), (11, .int x11), (12, .int x12)]) hx hb dL_areOffers_198 hl (by decide) rfl (fun ls hl => ?_)
    refine lv_iload hx hb dL_areOffers_200 (lv_at hl 10 rfl) ?_
    refine lv_istore (lv' := [(7, .int x12), (9, .int (0 : Int32)), (0, .ref b0), (1, .ref (qa 5)), (2, .int a2), (3, .int a3), (4, .ref (qa 3)), (5, .int a5), (6, .int x6), (10, .int x10), (11, .int x11), (12, .int x12)]) hx hb dL_areOffers_202 hl (by decide) rfl (fun ls hl => ?_)
    refine lv_iload hx hb dL_areOffers_204 (lv_at hl 10 rfl) ?_
    refine lv_istore (lv' := [(8, .int x11), (7, .int x12), (9, .int (0 : Int32)), (0, .ref b0), (1, .ref (qa 5)), (2, .int a2), (3, .int a3), (4, .ref (qa 3)), (5, .int a5), (6, .int x6), (10, .int x10), (11, .int x11), (12, .int x12)]) hx hb dL_areOffers_206 hl (by decide) rfl (fun ls hl => ?_)
    refine lv_iinc (v := x10 + (1 : Int32)) (lv' := [(10, .int (x10 + (1 : Int32))), (8, .int x11), (7, .int x12), (9, .int (0 : Int32)), (0, .ref b0), (1, .ref (qa 5)), (2, .int a2), (3, .int a3), (4, .ref (qa 3)), (5, .int a5), (6, .int x6), (11, .int x11), (12, .int x12)]) hx hb dL_areOffers_208 hl (k := 10) rfl rfl (by decide) rfl (fun ls hl => ?_)
    refine lv_goto (tgt := 54) hx hb dL_areOffers_211 (by decide) ?_
    rw [eV54] at hp
    exact hp _ _ _ hP hD hS (lv_sub hl [4, 5, 6, 7, 8, 9, 10, 2, 1, 3, 0] rfl))
  refine lv_aload_n hx hb dL_areOffers_0 rfl (lv_at hl 0 rfl) ?_
  refine lv_iload_n hx hb dL_areOffers_1 rfl (lv_at hl 2 rfl) ?_
  have hkb := hp.1
  have hp := hp.2
  obtain ⟨r1, hr1, hp⟩ := hp
  refine ro_V (As := [.int a2]) (rest := []) ⟨hx, hb, hml, hown, hts⟩ (cn_X4_offers l dC dI cI b0 qh qs qr gh gs gr a2 r1 hr1) (cwV 1 hts gL_areOffers_X4_offers rfl rfl rfl (by decide +kernel) ⟨Nat.le_of_ble_eq_true rfl, Nat.le_of_ble_eq_true rfl⟩) (tLL hP) hK hN rfl rfl rfl rfl hl.1 (Nat.le_of_ble_eq_true rfl) ⟨by show 4 * 0 ≤ 8; omega, by show 24 * 0 ≤ 48; omega⟩ dL_areOffers_2 ?_
  refine lv_istore (lv' := [(6, .int r1), (0, .ref b0), (1, .ref (qa 5)), (2, .int a2), (3, .int a3), (4, .ref (qa 3)), (5, .int a5)]) hx hb dL_areOffers_5 hl (by decide) rfl (fun ls hl => ?_)
  refine lv_sipush (v := 999) hx hb dL_areOffers_7 (by decide) ?_
  refine lv_istore (lv' := [(7, .int (999 : Int32)), (6, .int r1), (0, .ref b0), (1, .ref (qa 5)), (2, .int a2), (3, .int a3), (4, .ref (qa 3)), (5, .int a5)]) hx hb dL_areOffers_10 hl (by decide) rfl (fun ls hl => ?_)
  refine lv_iconst (v := -1) hx hb dL_areOffers_12 (by decide) ?_
  refine lv_istore (lv' := [(8, .int (-1 : Int32)), (7, .int (999 : Int32)), (6, .int r1), (0, .ref b0), (1, .ref (qa 5)), (2, .int a2), (3, .int a3), (4, .ref (qa 3)), (5, .int a5)]) hx hb dL_areOffers_13 hl (by decide) rfl (fun ls hl => ?_)
  refine lv_aload_n hx hb dL_areOffers_15 rfl (lv_at hl 3 rfl) ?_
  refine lv_bipush (v := 7) hx hb dL_areOffers_16 (by decide) ?_
  refine lv_iload_n hx hb dL_areOffers_18 rfl (lv_at hl 5 rfl) ?_
  refine lv_iload hx hb dL_areOffers_19 (lv_at hl 2 rfl) ?_
  refine lv_iconst (v := 0) hx hb dL_areOffers_21 (by decide) ?_
  have hkb := hp.1
  have hp := hp.2
  refine pw_SW (As := [.ref b0, .int (7 : Int32), .int a2, .int r1, .int (0 : Int32)]) (rest := []) (w1 := []) (w2 := wA qa cI ga) (wsd := fun u : St × St × St => wLL b0 qh qs qr qa cI u.1 u.2.1 u.2.2 ga) ⟨hx, hb, hml, hown, hts⟩ (c_L_on l hfl dC dI cI b0 qh qs qr gh gs gr (7 : Int32) a2 r1 (0 : Int32) _ hp _) (vx_cwSW 5 hts gL_areOffers_L_on rfl rfl rfl (by decide +kernel) ⟨Nat.le_of_ble_eq_true rfl, Nat.le_of_ble_eq_true rfl⟩) hP hD hS hA hK hN hXS hXH (wLL_eq ..) (fun u => rfl) rfl rfl hl.1 (Nat.le_of_ble_eq_true rfl) ⟨by show 4 * 0 + 4 ≤ 8; omega, by show 24 * 0 + 24 ≤ 48; omega⟩ dL_areOffers_22 (fun r2 u H locs hp hP hD hS => ?_)
  obtain ⟨gh3, gs4, gr5⟩ := u
  refine W.widen (k := 4 * 1) (n := 24 * 1) (by omega) (by omega) ?_
  refine lv_bipush (v := -11) hx hb dL_areOffers_25 (by decide) ?_
  refine lv_icmp_ne (tgt := 48) hx hb dL_areOffers_27 (by decide) (fun c11 => ?_) (fun c11 => ?_)
  · have hp := hp.1 c11
    refine lv_iconst (v := 0) hx hb dL_areOffers_48 (by decide) ?_
    refine lv_istore (lv' := [(9, .int (0 : Int32)), (8, .int (-1 : Int32)), (7, .int (999 : Int32)), (6, .int r1), (0, .ref b0), (1, .ref (qa 5)), (2, .int a2), (3, .int a3), (4, .ref (qa 3)), (5, .int a5)]) hx hb dL_areOffers_49 hl (by decide) rfl (fun ls hl => ?_)
    refine lv_iconst (v := 0) hx hb dL_areOffers_51 (by decide) ?_
    refine lv_istore (lv' := [(10, .int (0 : Int32)), (9, .int (0 : Int32)), (8, .int (-1 : Int32)), (7, .int (999 : Int32)), (6, .int r1), (0, .ref b0), (1, .ref (qa 5)), (2, .int a2), (3, .int a3), (4, .ref (qa 3)), (5, .int a5)]) hx hb dL_areOffers_52 hl (by decide) rfl (fun ls hl => ?_)
    rw [eV54] at hp
    exact hp _ _ _ hP hD hS (lv_sub hl [5, 6, 7, 8, 9, 10, 4, 3, 2, 1, 0] rfl)
  · have hp := hp.2 c11
    refine lv_aload_n hx hb dL_areOffers_30 rfl (lv_at hl 3 rfl) ?_
    refine lv_bipush (v := 7) hx hb dL_areOffers_31 (by decide) ?_
    refine lv_iload_n hx hb dL_areOffers_33 rfl (lv_at hl 5 rfl) ?_
    refine lv_iconst (v := -1) hx hb dL_areOffers_34 (by decide) ?_
    refine lv_iconst (v := 0) hx hb dL_areOffers_35 (by decide) ?_
    have hkb := hp.1
    have hp := hp.2
    refine pw_SW (As := [.ref b0, .int (7 : Int32), .int a2, .int (-1 : Int32), .int (0 : Int32)]) (rest := []) (w1 := []) (w2 := wA qa cI ga) (wsd := fun u : St × St × St => wLL b0 qh qs qr qa cI u.1 u.2.1 u.2.2 ga) ⟨hx, hb, hml, hown, hts⟩ (c_L_on l hfl dC dI cI b0 qh qs qr gh3 gs4 gr5 (7 : Int32) a2 (-1 : Int32) (0 : Int32) _ hp _) (vx_cwSW 5 hts gL_areOffers_L_on rfl rfl rfl (by decide +kernel) ⟨Nat.le_of_ble_eq_true rfl, Nat.le_of_ble_eq_true rfl⟩) hP hD hS hA hK hN hXS hXH (wLL_eq ..) (fun u => rfl) rfl rfl hl.1 (Nat.le_of_ble_eq_true rfl) ⟨by show 4 * 1 + 4 ≤ 8; omega, by show 24 * 1 + 24 ≤ 48; omega⟩ dL_areOffers_36 (fun r6 u H locs hp hP hD hS => ?_)
    obtain ⟨gh7, gs8, gr9⟩ := u
    refine W.widen (k := 4 * (1 + 1)) (n := 24 * (1 + 1)) (by omega) (by omega) ?_
    refine lv_bipush (v := -11) hx hb dL_areOffers_39 (by decide) ?_
    refine lv_icmp_ne (tgt := 48) hx hb dL_areOffers_41 (by decide) (fun c10 => ?_) (fun c10 => ?_)
    · have hp := hp.1 c10
      refine lv_iconst (v := 0) hx hb dL_areOffers_48 (by decide) ?_
      refine lv_istore (lv' := [(9, .int (0 : Int32)), (8, .int (-1 : Int32)), (7, .int (999 : Int32)), (6, .int r1), (0, .ref b0), (1, .ref (qa 5)), (2, .int a2), (3, .int a3), (4, .ref (qa 3)), (5, .int a5)]) hx hb dL_areOffers_49 hl (by decide) rfl (fun ls hl => ?_)
      refine lv_iconst (v := 0) hx hb dL_areOffers_51 (by decide) ?_
      refine lv_istore (lv' := [(10, .int (0 : Int32)), (9, .int (0 : Int32)), (8, .int (-1 : Int32)), (7, .int (999 : Int32)), (6, .int r1), (0, .ref b0), (1, .ref (qa 5)), (2, .int a2), (3, .int a3), (4, .ref (qa 3)), (5, .int a5)]) hx hb dL_areOffers_52 hl (by decide) rfl (fun ls hl => ?_)
      rw [eV54] at hp
      exact hp _ _ _ hP hD hS (lv_sub hl [5, 6, 7, 8, 9, 10, 4, 3, 2, 1, 0] rfl)
    · have hp := hp.2 c10
      refine lv_iconst (v := 1) hx hb dL_areOffers_44 (by decide) ?_
      refine lv_goto (tgt := 49) hx hb dL_areOffers_45 (by decide) ?_
      refine lv_istore (lv' := [(9, .int (1 : Int32)), (8, .int (-1 : Int32)), (7, .int (999 : Int32)), (6, .int r1), (0, .ref b0), (1, .ref (qa 5)), (2, .int a2), (3, .int a3), (4, .ref (qa 3)), (5, .int a5)]) hx hb dL_areOffers_49 hl (by decide) rfl (fun ls hl => ?_)
      refine lv_iconst (v := 0) hx hb dL_areOffers_51 (by decide) ?_
      refine lv_istore (lv' := [(10, .int (0 : Int32)), (9, .int (1 : Int32)), (8, .int (-1 : Int32)), (7, .int (999 : Int32)), (6, .int r1), (0, .ref b0), (1, .ref (qa 5)), (2, .int a2), (3, .int a3), (4, .ref (qa 3)), (5, .int a5)]) hx hb dL_areOffers_52 hl (by decide) rfl (fun ls hl => ?_)
      rw [eV54] at hp
      exact hp _ _ _ hP hD hS (lv_sub hl [5, 6, 7, 8, 9, 10, 4, 3, 2, 1, 0] rfl)
