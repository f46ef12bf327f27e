/-! THE LAW'S OWN METHODS, over whole numbers -/
theorem z_m13 : (-13 : Int32) = zI (-13) := rfl
theorem z_m11 : (-11 : Int32) = zI (-11) := rfl
theorem z_7 : (7 : Int32) = zI (7) := rfl
theorem z_11 : (11 : Int32) = zI (11) := rfl
theorem z_13 : (13 : Int32) = zI (13) := rfl
theorem z_15 : (15 : Int32) = zI (15) := rfl
theorem z_18 : (18 : Int32) = zI (18) := rfl
theorem z_40 : (40 : Int32) = zI (40) := rfl
theorem z_80 : (80 : Int32) = zI (80) := rfl
theorem z_100 : (100 : Int32) = zI (100) := rfl
theorem z_120 : (120 : Int32) = zI (120) := rfl
theorem z_150 : (150 : Int32) = zI (150) := rfl
theorem z_179 : (179 : Int32) = zI (179) := rfl
theorem z_210 : (210 : Int32) = zI (210) := rfl
theorem z_999 : (999 : Int32) = zI (999) := rfl
theorem z_104021 : (104021 : Int32) = zI (104021) := rfl
theorem z_268435455 : (268435455 : Int32) = zI (268435455) := rfl
theorem z_3070017 : (3070017 : Int32) = zI (3070017) := rfl
theorem z_nL (L : Nat) : nI L = zI (L : Int) := rfl
theorem zrem_b {x y : Int} (hx : 0 ≤ x) (hy : 0 < y) : 0 ≤ x % y ∧ x % y < y ∧ x % y ≤ x := by
  refine ⟨Int.emod_nonneg x (by omega), Int.emod_lt_of_pos x hy, ?_⟩
  have h := Int.emod_add_mul_ediv x y
  have h2 : 0 ≤ x / y := Int.ediv_nonneg hx (by omega)
  have h3 : 0 ≤ y * (x / y) := Int.mul_nonneg (by omega) h2
  omega
theorem zshr_b {x y : Int} (hx : 0 ≤ x) : 0 ≤ ishr x y ∧ ishr x y ≤ x := by
  unfold ishr
  refine ⟨Int.natCast_nonneg _, ?_⟩
  have h : x.toNat >>> y.toNat ≤ x.toNat := by rw [Nat.shiftRight_eq_div_pow]; exact Nat.div_le_self _ _
  omega
theorem zand_b (w : Int32) (m : Nat) (hm : m < 2147483648) : 0 ≤ (w &&& nI m).toInt ∧ (w &&& nI m).toInt ≤ m := by
  have e : (w &&& nI m).toBitVec = w.toBitVec &&& BitVec.ofNat 32 m := rfl
  have e1 : (w &&& nI m).toBitVec.toNat = w.toBitVec.toNat &&& (m % 4294967296) := by rw [e, BitVec.toNat_and, BitVec.toNat_ofNat]
  have e2 : (w &&& nI m).toBitVec.toNat ≤ m := by
    rw [e1]
    have := Nat.and_le_right (n := w.toBitVec.toNat) (m := m % 4294967296)
    omega
  have e3 : (w &&& nI m).toInt = ((w &&& nI m).toBitVec.toNat : Int) := by
    show (w &&& nI m).toBitVec.toInt = _
    rw [BitVec.toInt_eq_toNat_of_lt (by omega)]
  omega
def Q_L_pieces (hh hs hr ha : ISt) (a1 : Int) (a2 : Int) (r : Int) : Prop := ∀ V5 : Int → Int → Prop, (∀ x3 x4 : Int, (inR x4 ∧ inR a1 ∧ ((a1 ≤ x4 → (r = x3)) ∧ (¬ a1 ≤ x4 → (∃ r1 : Int, Qn_X4_pieces hh hs hr x4 a2 r1 ∧ (V5 (x3 + r1) (x4 + (1 : Int))))))) → V5 x3 x4) → (V5 (0 : Int) (0 : Int))
set_option maxRecDepth 100000 in
set_option maxHeartbeats 8000000 in
theorem t_L_pieces (hh hs hr ha : ISt) (a1 : Int) (a2 : Int) (r : Int) (hq : Q_L_pieces hh hs hr ha a1 a2 r) : P_L_pieces (zS hh) (zS hs) (zS hr) (zS ha) (zI a1) (zI a2) (zI r) := by
  intro V5 k5
  have hq := hq (fun x3 x4 => V5 (zI x3) (zI x4))
  have hq := hq (by
    intro x3 x4 hq
    refine k5 (zI x3) (zI x4) ?_
    try simp only [z_m1, z_0, z_1, z_2, z_3, z_4, z_5, z_6, z_8, z_9, z_10, z_12, z_16, z_30, z_31, z_99, z_300, z_500, z_600, z_20000, z_m13, z_m11, z_7, z_11, z_13, z_15, z_18, z_40, z_80, z_100, z_120, z_150, z_179, z_210, z_999, z_104021, z_268435455, z_3070017, z_nL, zadd, zsub, zmul, zneg, zap]
    have rx := hq.1
    have hq := hq.2
    have ry := hq.1
    have hq := hq.2
    refine ⟨fun c => ?_, fun c => ?_⟩
    · have hq := hq.1 ((z_le ry rx).mp c)
      exact congrArg zI hq
    · have hq := hq.2 (fun h => c ((z_le ry rx).mpr h))
      obtain ⟨r1, hr1, hq⟩ := hq
      refine ⟨zI r1, tn_X4_pieces hh hs hr x4 a2 r1 hr1, ?_⟩
      try simp only [z_m1, z_0, z_1, z_2, z_3, z_4, z_5, z_6, z_8, z_9, z_10, z_12, z_16, z_30, z_31, z_99, z_300, z_500, z_600, z_20000, z_m13, z_m11, z_7, z_11, z_13, z_15, z_18, z_40, z_80, z_100, z_120, z_150, z_179, z_210, z_999, z_104021, z_268435455, z_3070017, z_nL, zadd, zsub, zmul, zneg, zap]
      exact hq)
  try simp only [z_m1, z_0, z_1, z_2, z_3, z_4, z_5, z_6, z_8, z_9, z_10, z_12, z_16, z_30, z_31, z_99, z_300, z_500, z_600, z_20000, z_m13, z_m11, z_7, z_11, z_13, z_15, z_18, z_40, z_80, z_100, z_120, z_150, z_179, z_210, z_999, z_104021, z_268435455, z_3070017, z_nL, zadd, zsub, zmul, zneg, zap]
  exact hq
def Q_L_isWaste (hh hs hr ha : ISt) (a1 : Int) (r : Int) : Prop := ∀ V23 : Int → Int → Prop, (∀ x2 t0 : Int, (∃ r3 : Int, Qn_X4_wasteByAll hh hs hr a1 r3 ∧ (inR r3 ∧ inR x2 ∧ ((¬ r3 = x2 → (r = (0 : Int))) ∧ (r3 = x2 → (inR t0 ∧ ((t0 = (-1 : Int) → (r = (1 : Int))) ∧ (¬ t0 = (-1 : Int) → (inR x2 ∧ ((x2 < (0 : Int) → (r = (0 : Int))) ∧ (¬ x2 < (0 : Int) → (inR x2 ∧ inR (t0 + (1 : Int)) ∧ (((t0 + (1 : Int)) < x2 → (r = (0 : Int))) ∧ (¬ (t0 + (1 : Int)) < x2 → (r = (1 : Int))))))))))))))) → V23 x2 t0) → (∃ r1 : Int, Qn_X4_waste hh hs hr a1 r1 ∧ (inR a1 ∧ ((¬ a1 = (12 : Int) → (∃ r2 : Int, Qn_X4_waste hh hs hr (a1 + (1 : Int)) r2 ∧ (V23 r1 r2))) ∧ (a1 = (12 : Int) → (V23 r1 (-1 : Int))))))
set_option maxRecDepth 100000 in
set_option maxHeartbeats 8000000 in
theorem t_L_isWaste (hh hs hr ha : ISt) (a1 : Int) (r : Int) (hq : Q_L_isWaste hh hs hr ha a1 r) : P_L_isWaste (zS hh) (zS hs) (zS hr) (zS ha) (zI a1) (zI r) := by
  intro V23 k23
  have hq := hq (fun x2 t0 => V23 (zI x2) (zI t0))
  have hq := hq (by
    intro x2 t0 hq
    refine k23 (zI x2) (zI t0) ?_
    try simp only [z_m1, z_0, z_1, z_2, z_3, z_4, z_5, z_6, z_8, z_9, z_10, z_12, z_16, z_30, z_31, z_99, z_300, z_500, z_600, z_20000, z_m13, z_m11, z_7, z_11, z_13, z_15, z_18, z_40, z_80, z_100, z_120, z_150, z_179, z_210, z_999, z_104021, z_268435455, z_3070017, z_nL, zadd, zsub, zmul, zneg, zap]
    obtain ⟨r3, hr3, hq⟩ := hq
    refine ⟨zI r3, tn_X4_wasteByAll hh hs hr a1 r3 hr3, ?_⟩
    try simp only [z_m1, z_0, z_1, z_2, z_3, z_4, z_5, z_6, z_8, z_9, z_10, z_12, z_16, z_30, z_31, z_99, z_300, z_500, z_600, z_20000, z_m13, z_m11, z_7, z_11, z_13, z_15, z_18, z_40, z_80, z_100, z_120, z_150, z_179, z_210, z_999, z_104021, z_268435455, z_3070017, z_nL, zadd, zsub, zmul, zneg, zap]
    have rx := hq.1
    have hq := hq.2
    have ry := hq.1
    have hq := hq.2
    refine ⟨fun c => ?_, fun c => ?_⟩
    · have hq := hq.1 (fun h => c ((z_eq rx ry).mpr h))
      exact congrArg zI hq
    · have hq := hq.2 ((z_eq rx ry).mp c)
      have rx := hq.1
      have hq := hq.2
      refine ⟨fun c => ?_, fun c => ?_⟩
      · have hq := hq.1 ((z_eq rx ⟨by decide, by decide⟩).mp c)
        exact congrArg zI hq
      · have hq := hq.2 (fun h => c ((z_eq rx ⟨by decide, by decide⟩).mpr h))
        have rx := hq.1
        have hq := hq.2
        refine ⟨fun c => ?_, fun c => ?_⟩
        · have hq := hq.1 ((z_lt rx ⟨by decide, by decide⟩).mp c)
          exact congrArg zI hq
        · have hq := hq.2 (fun h => c ((z_lt rx ⟨by decide, by decide⟩).mpr h))
          have rx := hq.1
          have hq := hq.2
          have ry := hq.1
          have hq := hq.2
          refine ⟨fun c => ?_, fun c => ?_⟩
          · have hq := hq.1 ((z_lt ry rx).mp c)
            exact congrArg zI hq
          · have hq := hq.2 (fun h => c ((z_lt ry rx).mpr h))
            exact congrArg zI hq)
  try simp only [z_m1, z_0, z_1, z_2, z_3, z_4, z_5, z_6, z_8, z_9, z_10, z_12, z_16, z_30, z_31, z_99, z_300, z_500, z_600, z_20000, z_m13, z_m11, z_7, z_11, z_13, z_15, z_18, z_40, z_80, z_100, z_120, z_150, z_179, z_210, z_999, z_104021, z_268435455, z_3070017, z_nL, zadd, zsub, zmul, zneg, zap]
  obtain ⟨r1, hr1, hq⟩ := hq
  refine ⟨zI r1, tn_X4_waste hh hs hr a1 r1 hr1, ?_⟩
  try simp only [z_m1, z_0, z_1, z_2, z_3, z_4, z_5, z_6, z_8, z_9, z_10, z_12, z_16, z_30, z_31, z_99, z_300, z_500, z_600, z_20000, z_m13, z_m11, z_7, z_11, z_13, z_15, z_18, z_40, z_80, z_100, z_120, z_150, z_179, z_210, z_999, z_104021, z_268435455, z_3070017, z_nL, zadd, zsub, zmul, zneg, zap]
  have rx := hq.1
  have hq := hq.2
  refine ⟨fun c => ?_, fun c => ?_⟩
  · have hq := hq.1 (fun h => c ((z_eq rx ⟨by decide, by decide⟩).mpr h))
    obtain ⟨r2, hr2, hq⟩ := hq
    refine ⟨zI r2, tn_X4_waste hh hs hr (a1 + (1 : Int)) r2 hr2, ?_⟩
    try simp only [z_m1, z_0, z_1, z_2, z_3, z_4, z_5, z_6, z_8, z_9, z_10, z_12, z_16, z_30, z_31, z_99, z_300, z_500, z_600, z_20000, z_m13, z_m11, z_7, z_11, z_13, z_15, z_18, z_40, z_80, z_100, z_120, z_150, z_179, z_210, z_999, z_104021, z_268435455, z_3070017, z_nL, zadd, zsub, zmul, zneg, zap]
    exact hq
  · have hq := hq.2 ((z_eq rx ⟨by decide, by decide⟩).mp c)
    exact hq
def Q_L_areCopies (hh hs hr ha : ISt) (a3 : Int) (a4 : Int) (r : Int) : Prop := ∀ V9 : Int → Int → Int → Prop, ∀ V55 : Int → Int → Int → Prop, ∀ V59 : Int → Int → Int → Prop, ∀ V60 : Int → Int → Int → Int → Prop, ∀ V90 : Int → Int → Int → Prop, ∀ V123 : Int → Int → Int → Int → Int → Int → Int → Prop, ∀ V164 : Int → Int → Int → Int → Int → Int → Int → Prop, ∀ V165 : Int → Int → Int → Int → Int → Int → Int → Int → Prop, ∀ V222 : Int → Int → Int → Int → Int → Int → Prop, ∀ V238 : Int → Int → Int → Int → Int → Int → Int → Prop, ∀ V252 : Int → Int → Int → Int → Int → Prop, ∀ V263 : Int → Int → Int → Int → Int → Prop, ∀ V283 : Int → Int → Int → Prop, (∀ x5 x6 x7 : Int, (inR x7 ∧ inR a4 ∧ ((a4 ≤ x7 → (V90 x5 x6 (0 : Int))) ∧ (¬ a4 ≤ x7 → (inR x6 ∧ ((x6 = (0 : Int) → (V90 x5 x6 (0 : Int))) ∧ (¬ x6 = (0 : Int) → (∃ r1 : Int, Qn_X4_copyOf hh hs hr x7 r1 ∧ (inR r1 ∧ ((r1 = (-1 : Int) → (V55 x5 x7 r1)) ∧ (¬ r1 = (-1 : Int) → ((0 ≤ x5 ∧ x5 ≤ 2147483647) ∧ (0 ≤ r1 ∧ r1 < 32) ∧ ((0 ≤ (ishr x5 r1) ∧ (ishr x5 r1) ≤ 2147483647) ∧ (inR ((ishr x5 r1) % 2) ∧ ((¬ ((ishr x5 r1) % 2) = (0 : Int) → (V59 x5 x7 r1)) ∧ (((ishr x5 r1) % 2) = (0 : Int) → (∃ r2 : Int, Qn_X4_stateOf hh hs hr r1 r2 ∧ (inR r2 ∧ ((¬ r2 = (1 : Int) → (V59 x5 x7 r1)) ∧ (r2 = (1 : Int) → (V55 x5 x7 r1)))))))))))))))))))) → V9 x5 x6 x7) → (∀ x5 x7 x8 : Int, (V60 x5 x7 x8 (1 : Int)) → V55 x5 x7 x8) → (∀ x5 x7 x8 : Int, (V60 x5 x7 x8 (0 : Int)) → V59 x5 x7 x8) → (∀ x5 x7 x8 t0 : Int, (inR x8 ∧ ((¬ x8 = (-1 : Int) → ((0 ≤ x8 ∧ x8 < 31) ∧ ((0 ≤ x5) ∧ (0 ≤ (ishl1 x8)) ∧ (V9 (iior x5 (ishl1 x8)) t0 (x7 + (1 : Int)))))) ∧ (x8 = (-1 : Int) → ((0 ≤ x5) ∧ (0 ≤ (0 : Int)) ∧ (V9 (iior x5 (0 : Int)) t0 (x7 + (1 : Int))))))) → V60 x5 x7 x8 t0) → (∀ x5 x6 x7 : Int, (inR x7 ∧ inR a3 ∧ ((a3 ≤ x7 → ((x6 = 0 ∨ x6 = 1) ∧ r = x6)) ∧ (¬ a3 ≤ x7 → (inR x6 ∧ ((x6 = (0 : Int) → ((x6 = 0 ∨ x6 = 1) ∧ r = x6)) ∧ (¬ x6 = (0 : Int) → (∃ r3 : Int, Qn_X4_stateOf hh hs hr x7 r3 ∧ (∃ r4 : Int, Qn_X4_lenders hh hs hr x7 r4 ∧ (V123 x5 x6 x7 r3 r4 (1 : Int) (0 : Int)))))))))) → V90 x5 x6 x7) → (∀ x5 x6 x7 x8 x9 x10 x11 : Int, (inR x11 ∧ (((4 : Int) ≤ x11 → (inR x6 ∧ ((x6 = (0 : Int) → (V90 x5 (0 : Int) (x7 + (1 : Int)))) ∧ (¬ x6 = (0 : Int) → (inR x8 ∧ ((¬ x8 = (1 : Int) → (V222 x5 x7 x8 x9 x10 (0 : Int))) ∧ (x8 = (1 : Int) → (V222 x5 x7 x8 x9 x10 (1 : Int))))))))) ∧ (¬ (4 : Int) ≤ x11 → (∃ r5 : Int, Qn_X4_pieces hh hs hr x7 x11 r5 ∧ (inR x10 ∧ ((x10 = (0 : Int) → (V164 x5 x6 x7 x8 x9 x11 r5)) ∧ (¬ x10 = (0 : Int) → ((0 ≤ x7 ∧ x7 < 16) ∧ ((0 ≤ (((4 : Int) * (ha 3 x7.toNat)) + x11) ∧ (((4 : Int) * (ha 3 x7.toNat)) + x11) < 32) ∧ (inR r5 ∧ inR (ha 4 (((4 : Int) * (ha 3 x7.toNat)) + x11).toNat) ∧ ((¬ r5 = (ha 4 (((4 : Int) * (ha 3 x7.toNat)) + x11).toNat) → (V164 x5 x6 x7 x8 x9 x11 r5)) ∧ (r5 = (ha 4 (((4 : Int) * (ha 3 x7.toNat)) + x11).toNat) → (V165 x5 x6 x7 x8 x9 x11 r5 (1 : Int)))))))))))))) → V123 x5 x6 x7 x8 x9 x10 x11) → (∀ x5 x6 x7 x8 x9 x11 x12 : Int, (V165 x5 x6 x7 x8 x9 x11 x12 (0 : Int)) → V164 x5 x6 x7 x8 x9 x11 x12) → (∀ x5 x6 x7 x8 x9 x11 x12 t0 : Int, (inR x6 ∧ ((x6 = (0 : Int) → (V123 x5 (0 : Int) x7 x8 x9 t0 (x11 + (1 : Int)))) ∧ (¬ x6 = (0 : Int) → (inR x12 ∧ ((x12 < (0 : Int) → (V123 x5 (0 : Int) x7 x8 x9 t0 (x11 + (1 : Int)))) ∧ (¬ x12 < (0 : Int) → ((0 ≤ x7 ∧ x7 < 16) ∧ ((0 ≤ (((4 : Int) * (ha 3 x7.toNat)) + x11) ∧ (((4 : Int) * (ha 3 x7.toNat)) + x11) < 32) ∧ (inR x12 ∧ inR (ha 4 (((4 : Int) * (ha 3 x7.toNat)) + x11).toNat) ∧ (((ha 4 (((4 : Int) * (ha 3 x7.toNat)) + x11).toNat) < x12 → (V123 x5 (0 : Int) x7 x8 x9 t0 (x11 + (1 : Int)))) ∧ (¬ (ha 4 (((4 : Int) * (ha 3 x7.toNat)) + x11).toNat) < x12 → (V123 x5 (1 : Int) x7 x8 x9 t0 (x11 + (1 : Int)))))))))))))) → V165 x5 x6 x7 x8 x9 x11 x12 t0) → (∀ x5 x7 x8 x9 x10 t0 : Int, ((0 ≤ x5 ∧ x5 ≤ 2147483647) ∧ (0 ≤ x7 ∧ x7 < 32) ∧ ((0 ≤ (ishr x5 x7) ∧ (ishr x5 x7) ≤ 2147483647) ∧ (inR ((ishr x5 x7) % 2) ∧ ((¬ ((ishr x5 x7) % 2) = (1 : Int) → (V238 x5 x7 x8 x9 x10 (0 : Int) t0)) ∧ (((ishr x5 x7) % 2) = (1 : Int) → (V238 x5 x7 x8 x9 x10 (1 : Int) t0)))))) → V222 x5 x7 x8 x9 x10 t0) → (∀ x5 x7 x8 x9 x10 t0 t1 : Int, (inR t1 ∧ inR t0 ∧ ((¬ t1 = t0 → (V90 x5 (0 : Int) (x7 + (1 : Int)))) ∧ (t1 = t0 → (inR x8 ∧ ((¬ x8 = (1 : Int) → (V252 x5 x7 x8 x9 x10)) ∧ (x8 = (1 : Int) → (inR x10 ∧ ((x10 = (0 : Int) → (V90 x5 (0 : Int) (x7 + (1 : Int)))) ∧ (¬ x10 = (0 : Int) → (V252 x5 x7 x8 x9 x10)))))))))) → V238 x5 x7 x8 x9 x10 t0 t1) → (∀ x5 x7 x8 x9 x10 : Int, (inR x8 ∧ ((x8 = (0 : Int) → (V263 x5 x7 x8 x9 x10)) ∧ (¬ x8 = (0 : Int) → (inR x9 ∧ ((¬ x9 = (-1 : Int) → (V90 x5 (0 : Int) (x7 + (1 : Int)))) ∧ (x9 = (-1 : Int) → (V263 x5 x7 x8 x9 x10))))))) → V252 x5 x7 x8 x9 x10) → (∀ x5 x7 x8 x9 x10 : Int, (inR x8 ∧ ((¬ x8 = (0 : Int) → (V283 x5 x7 x9)) ∧ (x8 = (0 : Int) → (inR x9 ∧ ((¬ x9 = (0 : Int) → (inR x10 ∧ ((¬ (0 : Int) = x10 → (V90 x5 (0 : Int) (x7 + (1 : Int)))) ∧ ((0 : Int) = x10 → (V283 x5 x7 x9))))) ∧ (x9 = (0 : Int) → (inR x10 ∧ ((¬ (1 : Int) = x10 → (V90 x5 (0 : Int) (x7 + (1 : Int)))) ∧ ((1 : Int) = x10 → (V283 x5 x7 x9)))))))))) → V263 x5 x7 x8 x9 x10) → (∀ x5 x7 x9 : Int, (inR x9 ∧ inR a3 ∧ ((a3 ≤ x9 → (V90 x5 (0 : Int) (x7 + (1 : Int)))) ∧ (¬ a3 ≤ x9 → (V90 x5 (1 : Int) (x7 + (1 : Int)))))) → V283 x5 x7 x9) → (V9 (0 : Int) (1 : Int) (0 : Int))
set_option maxRecDepth 100000 in
set_option maxHeartbeats 8000000 in
theorem t_L_areCopies (hh hs hr ha : ISt) (a3 : Int) (a4 : Int) (r : Int) (hq : Q_L_areCopies hh hs hr ha a3 a4 r) : P_L_areCopies (zS hh) (zS hs) (zS hr) (zS ha) (zI a3) (zI a4) (zI r) := by
  intro V9 V55 V59 V60 V90 V123 V164 V165 V222 V238 V252 V263 V283 k9 k55 k59 k60 k90 k123 k164 k165 k222 k238 k252 k263 k283
  have hq := hq (fun x5 x6 x7 => V9 (zI x5) (zI x6) (zI x7)) (fun x5 x7 x8 => V55 (zI x5) (zI x7) (zI x8)) (fun x5 x7 x8 => V59 (zI x5) (zI x7) (zI x8)) (fun x5 x7 x8 t0 => V60 (zI x5) (zI x7) (zI x8) (zI t0)) (fun x5 x6 x7 => V90 (zI x5) (zI x6) (zI x7)) (fun x5 x6 x7 x8 x9 x10 x11 => V123 (zI x5) (zI x6) (zI x7) (zI x8) (zI x9) (zI x10) (zI x11)) (fun x5 x6 x7 x8 x9 x11 x12 => V164 (zI x5) (zI x6) (zI x7) (zI x8) (zI x9) (zI x11) (zI x12)) (fun x5 x6 x7 x8 x9 x11 x12 t0 => V165 (zI x5) (zI x6) (zI x7) (zI x8) (zI x9) (zI x11) (zI x12) (zI t0)) (fun x5 x7 x8 x9 x10 t0 => V222 (zI x5) (zI x7) (zI x8) (zI x9) (zI x10) (zI t0)) (fun x5 x7 x8 x9 x10 t0 t1 => V238 (zI x5) (zI x7) (zI x8) (zI x9) (zI x10) (zI t0) (zI t1)) (fun x5 x7 x8 x9 x10 => V252 (zI x5) (zI x7) (zI x8) (zI x9) (zI x10)) (fun x5 x7 x8 x9 x10 => V263 (zI x5) (zI x7) (zI x8) (zI x9) (zI x10)) (fun x5 x7 x9 => V283 (zI x5) (zI x7) (zI x9))
  have hq := hq (by
    intro x5 x6 x7 hq
    refine k9 (zI x5) (zI x6) (zI x7) ?_
    try simp only [z_m1, z_0, z_1, z_2, z_3, z_4, z_5, z_6, z_8, z_9, z_10, z_12, z_16, z_30, z_31, z_99, z_300, z_500, z_600, z_20000, z_m13, z_m11, z_7, z_11, z_13, z_15, z_18, z_40, z_80, z_100, z_120, z_150, z_179, z_210, z_999, z_104021, z_268435455, z_3070017, z_nL, zadd, zsub, zmul, zneg, zap]
    have rx := hq.1
    have hq := hq.2
    have ry := hq.1
    have hq := hq.2
    refine ⟨fun c => ?_, fun c => ?_⟩
    · have hq := hq.1 ((z_le ry rx).mp c)
      exact hq
    · have hq := hq.2 (fun h => c ((z_le ry rx).mpr h))
      have rx := hq.1
      have hq := hq.2
      refine ⟨fun c => ?_, fun c => ?_⟩
      · have hq := hq.1 ((z_eq rx ⟨by decide, by decide⟩).mp c)
        exact hq
      · have hq := hq.2 (fun h => c ((z_eq rx ⟨by decide, by decide⟩).mpr h))
        obtain ⟨r1, hr1, hq⟩ := hq
        refine ⟨zI r1, tn_X4_copyOf hh hs hr x7 r1 hr1, ?_⟩
        try simp only [z_m1, z_0, z_1, z_2, z_3, z_4, z_5, z_6, z_8, z_9, z_10, z_12, z_16, z_30, z_31, z_99, z_300, z_500, z_600, z_20000, z_m13, z_m11, z_7, z_11, z_13, z_15, z_18, z_40, z_80, z_100, z_120, z_150, z_179, z_210, z_999, z_104021, z_268435455, z_3070017, z_nL, zadd, zsub, zmul, zneg, zap]
        have rx := hq.1
        have hq := hq.2
        refine ⟨fun c => ?_, fun c => ?_⟩
        · have hq := hq.1 ((z_eq rx ⟨by decide, by decide⟩).mp c)
          exact hq
        · have hq := hq.2 (fun h => c ((z_eq rx ⟨by decide, by decide⟩).mpr h))
          simp only [zshr hq.1 hq.2.1]
          have hq := hq.2.2
          try simp only [z_m1, z_0, z_1, z_2, z_3, z_4, z_5, z_6, z_8, z_9, z_10, z_12, z_16, z_30, z_31, z_99, z_300, z_500, z_600, z_20000, z_m13, z_m11, z_7, z_11, z_13, z_15, z_18, z_40, z_80, z_100, z_120, z_150, z_179, z_210, z_999, z_104021, z_268435455, z_3070017, z_nL, zadd, zsub, zmul, zneg, zap]
          rw [zand1 hq.1]
          have hq := hq.2
          try simp only [z_m1, z_0, z_1, z_2, z_3, z_4, z_5, z_6, z_8, z_9, z_10, z_12, z_16, z_30, z_31, z_99, z_300, z_500, z_600, z_20000, z_m13, z_m11, z_7, z_11, z_13, z_15, z_18, z_40, z_80, z_100, z_120, z_150, z_179, z_210, z_999, z_104021, z_268435455, z_3070017, z_nL, zadd, zsub, zmul, zneg, zap]
          have rx := hq.1
          have hq := hq.2
          refine ⟨fun c => ?_, fun c => ?_⟩
          · have hq := hq.1 (fun h => c ((z_eq rx ⟨by decide, by decide⟩).mpr h))
            exact hq
          · have hq := hq.2 ((z_eq rx ⟨by decide, by decide⟩).mp c)
            obtain ⟨r2, hr2, hq⟩ := hq
            refine ⟨zI r2, tn_X4_stateOf hh hs hr r1 r2 hr2, ?_⟩
            try simp only [z_m1, z_0, z_1, z_2, z_3, z_4, z_5, z_6, z_8, z_9, z_10, z_12, z_16, z_30, z_31, z_99, z_300, z_500, z_600, z_20000, z_m13, z_m11, z_7, z_11, z_13, z_15, z_18, z_40, z_80, z_100, z_120, z_150, z_179, z_210, z_999, z_104021, z_268435455, z_3070017, z_nL, zadd, zsub, zmul, zneg, zap]
            have rx := hq.1
            have hq := hq.2
            refine ⟨fun c => ?_, fun c => ?_⟩
            · have hq := hq.1 (fun h => c ((z_eq rx ⟨by decide, by decide⟩).mpr h))
              exact hq
            · have hq := hq.2 ((z_eq rx ⟨by decide, by decide⟩).mp c)
              exact hq)
  have hq := hq (by
    intro x5 x7 x8 hq
    refine k55 (zI x5) (zI x7) (zI x8) ?_
    try simp only [z_m1, z_0, z_1, z_2, z_3, z_4, z_5, z_6, z_8, z_9, z_10, z_12, z_16, z_30, z_31, z_99, z_300, z_500, z_600, z_20000, z_m13, z_m11, z_7, z_11, z_13, z_15, z_18, z_40, z_80, z_100, z_120, z_150, z_179, z_210, z_999, z_104021, z_268435455, z_3070017, z_nL, zadd, zsub, zmul, zneg, zap]
    exact hq)
  have hq := hq (by
    intro x5 x7 x8 hq
    refine k59 (zI x5) (zI x7) (zI x8) ?_
    try simp only [z_m1, z_0, z_1, z_2, z_3, z_4, z_5, z_6, z_8, z_9, z_10, z_12, z_16, z_30, z_31, z_99, z_300, z_500, z_600, z_20000, z_m13, z_m11, z_7, z_11, z_13, z_15, z_18, z_40, z_80, z_100, z_120, z_150, z_179, z_210, z_999, z_104021, z_268435455, z_3070017, z_nL, zadd, zsub, zmul, zneg, zap]
    exact hq)
  have hq := hq (by
    intro x5 x7 x8 t0 hq
    refine k60 (zI x5) (zI x7) (zI x8) (zI t0) ?_
    try simp only [z_m1, z_0, z_1, z_2, z_3, z_4, z_5, z_6, z_8, z_9, z_10, z_12, z_16, z_30, z_31, z_99, z_300, z_500, z_600, z_20000, z_m13, z_m11, z_7, z_11, z_13, z_15, z_18, z_40, z_80, z_100, z_120, z_150, z_179, z_210, z_999, z_104021, z_268435455, z_3070017, z_nL, zadd, zsub, zmul, zneg, zap]
    have rx := hq.1
    have hq := hq.2
    refine ⟨fun c => ?_, fun c => ?_⟩
    · have hq := hq.1 (fun h => c ((z_eq rx ⟨by decide, by decide⟩).mpr h))
      simp only [zshl hq.1]
      have hq := hq.2
      try simp only [z_m1, z_0, z_1, z_2, z_3, z_4, z_5, z_6, z_8, z_9, z_10, z_12, z_16, z_30, z_31, z_99, z_300, z_500, z_600, z_20000, z_m13, z_m11, z_7, z_11, z_13, z_15, z_18, z_40, z_80, z_100, z_120, z_150, z_179, z_210, z_999, z_104021, z_268435455, z_3070017, z_nL, zadd, zsub, zmul, zneg, zap]
      simp only [zior hq.1 hq.2.1]
      have hq := hq.2.2
      try simp only [z_m1, z_0, z_1, z_2, z_3, z_4, z_5, z_6, z_8, z_9, z_10, z_12, z_16, z_30, z_31, z_99, z_300, z_500, z_600, z_20000, z_m13, z_m11, z_7, z_11, z_13, z_15, z_18, z_40, z_80, z_100, z_120, z_150, z_179, z_210, z_999, z_104021, z_268435455, z_3070017, z_nL, zadd, zsub, zmul, zneg, zap]
      exact hq
    · have hq := hq.2 ((z_eq rx ⟨by decide, by decide⟩).mp c)
      simp only [zior hq.1 hq.2.1]
      have hq := hq.2.2
      try simp only [z_m1, z_0, z_1, z_2, z_3, z_4, z_5, z_6, z_8, z_9, z_10, z_12, z_16, z_30, z_31, z_99, z_300, z_500, z_600, z_20000, z_m13, z_m11, z_7, z_11, z_13, z_15, z_18, z_40, z_80, z_100, z_120, z_150, z_179, z_210, z_999, z_104021, z_268435455, z_3070017, z_nL, zadd, zsub, zmul, zneg, zap]
      exact hq)
  have hq := hq (by
    intro x5 x6 x7 hq
    refine k90 (zI x5) (zI x6) (zI x7) ?_
    try simp only [z_m1, z_0, z_1, z_2, z_3, z_4, z_5, z_6, z_8, z_9, z_10, z_12, z_16, z_30, z_31, z_99, z_300, z_500, z_600, z_20000, z_m13, z_m11, z_7, z_11, z_13, z_15, z_18, z_40, z_80, z_100, z_120, z_150, z_179, z_210, z_999, z_104021, z_268435455, z_3070017, z_nL, zadd, zsub, zmul, zneg, zap]
    have rx := hq.1
    have hq := hq.2
    have ry := hq.1
    have hq := hq.2
    refine ⟨fun c => ?_, fun c => ?_⟩
    · have hq := hq.1 ((z_le ry rx).mp c)
      exact ⟨hq.1.imp (congrArg zI) (congrArg zI), congrArg zI hq.2⟩
    · have hq := hq.2 (fun h => c ((z_le ry rx).mpr h))
      have rx := hq.1
      have hq := hq.2
      refine ⟨fun c => ?_, fun c => ?_⟩
      · have hq := hq.1 ((z_eq rx ⟨by decide, by decide⟩).mp c)
        exact ⟨hq.1.imp (congrArg zI) (congrArg zI), congrArg zI hq.2⟩
      · have hq := hq.2 (fun h => c ((z_eq rx ⟨by decide, by decide⟩).mpr h))
        obtain ⟨r3, hr3, hq⟩ := hq
        refine ⟨zI r3, tn_X4_stateOf hh hs hr x7 r3 hr3, ?_⟩
        try simp only [z_m1, z_0, z_1, z_2, z_3, z_4, z_5, z_6, z_8, z_9, z_10, z_12, z_16, z_30, z_31, z_99, z_300, z_500, z_600, z_20000, z_m13, z_m11, z_7, z_11, z_13, z_15, z_18, z_40, z_80, z_100, z_120, z_150, z_179, z_210, z_999, z_104021, z_268435455, z_3070017, z_nL, zadd, zsub, zmul, zneg, zap]
        obtain ⟨r4, hr4, hq⟩ := hq
        refine ⟨zI r4, tn_X4_lenders hh hs hr x7 r4 hr4, ?_⟩
        try simp only [z_m1, z_0, z_1, z_2, z_3, z_4, z_5, z_6, z_8, z_9, z_10, z_12, z_16, z_30, z_31, z_99, z_300, z_500, z_600, z_20000, z_m13, z_m11, z_7, z_11, z_13, z_15, z_18, z_40, z_80, z_100, z_120, z_150, z_179, z_210, z_999, z_104021, z_268435455, z_3070017, z_nL, zadd, zsub, zmul, zneg, zap]
        exact hq)
  have hq := hq (by
    intro x5 x6 x7 x8 x9 x10 x11 hq
    refine k123 (zI x5) (zI x6) (zI x7) (zI x8) (zI x9) (zI x10) (zI x11) ?_
    try simp only [z_m1, z_0, z_1, z_2, z_3, z_4, z_5, z_6, z_8, z_9, z_10, z_12, z_16, z_30, z_31, z_99, z_300, z_500, z_600, z_20000, z_m13, z_m11, z_7, z_11, z_13, z_15, z_18, z_40, z_80, z_100, z_120, z_150, z_179, z_210, z_999, z_104021, z_268435455, z_3070017, z_nL, zadd, zsub, zmul, zneg, zap]
    have rx := hq.1
    have hq := hq.2
    refine ⟨fun c => ?_, fun c => ?_⟩
    · have hq := hq.1 ((z_le ⟨by decide, by decide⟩ rx).mp c)
      have rx := hq.1
      have hq := hq.2
      refine ⟨fun c => ?_, fun c => ?_⟩
      · have hq := hq.1 ((z_eq rx ⟨by decide, by decide⟩).mp c)
        exact hq
      · have hq := hq.2 (fun h => c ((z_eq rx ⟨by decide, by decide⟩).mpr h))
        have rx := hq.1
        have hq := hq.2
        refine ⟨fun c => ?_, fun c => ?_⟩
        · have hq := hq.1 (fun h => c ((z_eq rx ⟨by decide, by decide⟩).mpr h))
          exact hq
        · have hq := hq.2 ((z_eq rx ⟨by decide, by decide⟩).mp c)
          exact hq
    · have hq := hq.2 (fun h => c ((z_le ⟨by decide, by decide⟩ rx).mpr h))
      obtain ⟨r5, hr5, hq⟩ := hq
      refine ⟨zI r5, tn_X4_pieces hh hs hr x7 x11 r5 hr5, ?_⟩
      try simp only [z_m1, z_0, z_1, z_2, z_3, z_4, z_5, z_6, z_8, z_9, z_10, z_12, z_16, z_30, z_31, z_99, z_300, z_500, z_600, z_20000, z_m13, z_m11, z_7, z_11, z_13, z_15, z_18, z_40, z_80, z_100, z_120, z_150, z_179, z_210, z_999, z_104021, z_268435455, z_3070017, z_nL, zadd, zsub, zmul, zneg, zap]
      have rx := hq.1
      have hq := hq.2
      refine ⟨fun c => ?_, fun c => ?_⟩
      · have hq := hq.1 ((z_eq rx ⟨by decide, by decide⟩).mp c)
        exact hq
      · have hq := hq.2 (fun h => c ((z_eq rx ⟨by decide, by decide⟩).mpr h))
        refine ⟨zin hq.1.1 hq.1.2 (by decide), ?_⟩
        try simp only [zcl hq.1.1 (Int.lt_trans hq.1.2 (by decide))]
        have hq := hq.2
        try simp only [z_m1, z_0, z_1, z_2, z_3, z_4, z_5, z_6, z_8, z_9, z_10, z_12, z_16, z_30, z_31, z_99, z_300, z_500, z_600, z_20000, z_m13, z_m11, z_7, z_11, z_13, z_15, z_18, z_40, z_80, z_100, z_120, z_150, z_179, z_210, z_999, z_104021, z_268435455, z_3070017, z_nL, zadd, zsub, zmul, zneg, zap]
        refine ⟨zin hq.1.1 hq.1.2 (by decide), ?_⟩
        try simp only [zcl hq.1.1 (Int.lt_trans hq.1.2 (by decide))]
        have hq := hq.2
        try simp only [z_m1, z_0, z_1, z_2, z_3, z_4, z_5, z_6, z_8, z_9, z_10, z_12, z_16, z_30, z_31, z_99, z_300, z_500, z_600, z_20000, z_m13, z_m11, z_7, z_11, z_13, z_15, z_18, z_40, z_80, z_100, z_120, z_150, z_179, z_210, z_999, z_104021, z_268435455, z_3070017, z_nL, zadd, zsub, zmul, zneg, zap]
        have rx := hq.1
        have hq := hq.2
        have ry := hq.1
        have hq := hq.2
        refine ⟨fun c => ?_, fun c => ?_⟩
        · have hq := hq.1 (fun h => c ((z_eq rx ry).mpr h))
          exact hq
        · have hq := hq.2 ((z_eq rx ry).mp c)
          exact hq)
  have hq := hq (by
    intro x5 x6 x7 x8 x9 x11 x12 hq
    refine k164 (zI x5) (zI x6) (zI x7) (zI x8) (zI x9) (zI x11) (zI x12) ?_
    try simp only [z_m1, z_0, z_1, z_2, z_3, z_4, z_5, z_6, z_8, z_9, z_10, z_12, z_16, z_30, z_31, z_99, z_300, z_500, z_600, z_20000, z_m13, z_m11, z_7, z_11, z_13, z_15, z_18, z_40, z_80, z_100, z_120, z_150, z_179, z_210, z_999, z_104021, z_268435455, z_3070017, z_nL, zadd, zsub, zmul, zneg, zap]
    exact hq)
  have hq := hq (by
    intro x5 x6 x7 x8 x9 x11 x12 t0 hq
    refine k165 (zI x5) (zI x6) (zI x7) (zI x8) (zI x9) (zI x11) (zI x12) (zI t0) ?_
    try simp only [z_m1, z_0, z_1, z_2, z_3, z_4, z_5, z_6, z_8, z_9, z_10, z_12, z_16, z_30, z_31, z_99, z_300, z_500, z_600, z_20000, z_m13, z_m11, z_7, z_11, z_13, z_15, z_18, z_40, z_80, z_100, z_120, z_150, z_179, z_210, z_999, z_104021, z_268435455, z_3070017, z_nL, zadd, zsub, zmul, zneg, zap]
    have rx := hq.1
    have hq := hq.2
    refine ⟨fun c => ?_, fun c => ?_⟩
    · have hq := hq.1 ((z_eq rx ⟨by decide, by decide⟩).mp c)
      exact hq
    · have hq := hq.2 (fun h => c ((z_eq rx ⟨by decide, by decide⟩).mpr h))
      have rx := hq.1
      have hq := hq.2
      refine ⟨fun c => ?_, fun c => ?_⟩
      · have hq := hq.1 ((z_lt rx ⟨by decide, by decide⟩).mp c)
        exact hq
      · have hq := hq.2 (fun h => c ((z_lt rx ⟨by decide, by decide⟩).mpr h))
        refine ⟨zin hq.1.1 hq.1.2 (by decide), ?_⟩
        try simp only [zcl hq.1.1 (Int.lt_trans hq.1.2 (by decide))]
        have hq := hq.2
        try simp only [z_m1, z_0, z_1, z_2, z_3, z_4, z_5, z_6, z_8, z_9, z_10, z_12, z_16, z_30, z_31, z_99, z_300, z_500, z_600, z_20000, z_m13, z_m11, z_7, z_11, z_13, z_15, z_18, z_40, z_80, z_100, z_120, z_150, z_179, z_210, z_999, z_104021, z_268435455, z_3070017, z_nL, zadd, zsub, zmul, zneg, zap]
        refine ⟨zin hq.1.1 hq.1.2 (by decide), ?_⟩
        try simp only [zcl hq.1.1 (Int.lt_trans hq.1.2 (by decide))]
        have hq := hq.2
        try simp only [z_m1, z_0, z_1, z_2, z_3, z_4, z_5, z_6, z_8, z_9, z_10, z_12, z_16, z_30, z_31, z_99, z_300, z_500, z_600, z_20000, z_m13, z_m11, z_7, z_11, z_13, z_15, z_18, z_40, z_80, z_100, z_120, z_150, z_179, z_210, z_999, z_104021, z_268435455, z_3070017, z_nL, zadd, zsub, zmul, zneg, zap]
        have rx := hq.1
        have hq := hq.2
        have ry := hq.1
        have hq := hq.2
        refine ⟨fun c => ?_, fun c => ?_⟩
        · have hq := hq.1 ((z_lt ry rx).mp c)
          exact hq
        · have hq := hq.2 (fun h => c ((z_lt ry rx).mpr h))
          exact hq)
  have hq := hq (by
    intro x5 x7 x8 x9 x10 t0 hq
    refine k222 (zI x5) (zI x7) (zI x8) (zI x9) (zI x10) (zI t0) ?_
    try simp only [z_m1, z_0, z_1, z_2, z_3, z_4, z_5, z_6, z_8, z_9, z_10, z_12, z_16, z_30, z_31, z_99, z_300, z_500, z_600, z_20000, z_m13, z_m11, z_7, z_11, z_13, z_15, z_18, z_40, z_80, z_100, z_120, z_150, z_179, z_210, z_999, z_104021, z_268435455, z_3070017, z_nL, zadd, zsub, zmul, zneg, zap]
    simp only [zshr hq.1 hq.2.1]
    have hq := hq.2.2
    try simp only [z_m1, z_0, z_1, z_2, z_3, z_4, z_5, z_6, z_8, z_9, z_10, z_12, z_16, z_30, z_31, z_99, z_300, z_500, z_600, z_20000, z_m13, z_m11, z_7, z_11, z_13, z_15, z_18, z_40, z_80, z_100, z_120, z_150, z_179, z_210, z_999, z_104021, z_268435455, z_3070017, z_nL, zadd, zsub, zmul, zneg, zap]
    rw [zand1 hq.1]
    have hq := hq.2
    try simp only [z_m1, z_0, z_1, z_2, z_3, z_4, z_5, z_6, z_8, z_9, z_10, z_12, z_16, z_30, z_31, z_99, z_300, z_500, z_600, z_20000, z_m13, z_m11, z_7, z_11, z_13, z_15, z_18, z_40, z_80, z_100, z_120, z_150, z_179, z_210, z_999, z_104021, z_268435455, z_3070017, z_nL, zadd, zsub, zmul, zneg, zap]
    have rx := hq.1
    have hq := hq.2
    refine ⟨fun c => ?_, fun c => ?_⟩
    · have hq := hq.1 (fun h => c ((z_eq rx ⟨by decide, by decide⟩).mpr h))
      exact hq
    · have hq := hq.2 ((z_eq rx ⟨by decide, by decide⟩).mp c)
      exact hq)
  have hq := hq (by
    intro x5 x7 x8 x9 x10 t0 t1 hq
    refine k238 (zI x5) (zI x7) (zI x8) (zI x9) (zI x10) (zI t0) (zI t1) ?_
    try simp only [z_m1, z_0, z_1, z_2, z_3, z_4, z_5, z_6, z_8, z_9, z_10, z_12, z_16, z_30, z_31, z_99, z_300, z_500, z_600, z_20000, z_m13, z_m11, z_7, z_11, z_13, z_15, z_18, z_40, z_80, z_100, z_120, z_150, z_179, z_210, z_999, z_104021, z_268435455, z_3070017, z_nL, zadd, zsub, zmul, zneg, zap]
    have rx := hq.1
    have hq := hq.2
    have ry := hq.1
    have hq := hq.2
    refine ⟨fun c => ?_, fun c => ?_⟩
    · have hq := hq.1 (fun h => c ((z_eq rx ry).mpr h))
      exact hq
    · have hq := hq.2 ((z_eq rx ry).mp c)
      have rx := hq.1
      have hq := hq.2
      refine ⟨fun c => ?_, fun c => ?_⟩
      · have hq := hq.1 (fun h => c ((z_eq rx ⟨by decide, by decide⟩).mpr h))
        exact hq
      · have hq := hq.2 ((z_eq rx ⟨by decide, by decide⟩).mp c)
        have rx := hq.1
        have hq := hq.2
        refine ⟨fun c => ?_, fun c => ?_⟩
        · have hq := hq.1 ((z_eq rx ⟨by decide, by decide⟩).mp c)
          exact hq
        · have hq := hq.2 (fun h => c ((z_eq rx ⟨by decide, by decide⟩).mpr h))
          exact hq)
  have hq := hq (by
    intro x5 x7 x8 x9 x10 hq
    refine k252 (zI x5) (zI x7) (zI x8) (zI x9) (zI x10) ?_
    try simp only [z_m1, z_0, z_1, z_2, z_3, z_4, z_5, z_6, z_8, z_9, z_10, z_12, z_16, z_30, z_31, z_99, z_300, z_500, z_600, z_20000, z_m13, z_m11, z_7, z_11, z_13, z_15, z_18, z_40, z_80, z_100, z_120, z_150, z_179, z_210, z_999, z_104021, z_268435455, z_3070017, z_nL, zadd, zsub, zmul, zneg, zap]
    have rx := hq.1
    have hq := hq.2
    refine ⟨fun c => ?_, fun c => ?_⟩
    · have hq := hq.1 ((z_eq rx ⟨by decide, by decide⟩).mp c)
      exact hq
    · have hq := hq.2 (fun h => c ((z_eq rx ⟨by decide, by decide⟩).mpr h))
      have rx := hq.1
      have hq := hq.2
      refine ⟨fun c => ?_, fun c => ?_⟩
      · have hq := hq.1 (fun h => c ((z_eq rx ⟨by decide, by decide⟩).mpr h))
        exact hq
      · have hq := hq.2 ((z_eq rx ⟨by decide, by decide⟩).mp c)
        exact hq)
  have hq := hq (by
    intro x5 x7 x8 x9 x10 hq
    refine k263 (zI x5) (zI x7) (zI x8) (zI x9) (zI x10) ?_
    try simp only [z_m1, z_0, z_1, z_2, z_3, z_4, z_5, z_6, z_8, z_9, z_10, z_12, z_16, z_30, z_31, z_99, z_300, z_500, z_600, z_20000, z_m13, z_m11, z_7, z_11, z_13, z_15, z_18, z_40, z_80, z_100, z_120, z_150, z_179, z_210, z_999, z_104021, z_268435455, z_3070017, z_nL, zadd, zsub, zmul, zneg, zap]
    have rx := hq.1
    have hq := hq.2
    refine ⟨fun c => ?_, fun c => ?_⟩
    · have hq := hq.1 (fun h => c ((z_eq rx ⟨by decide, by decide⟩).mpr h))
      exact hq
    · have hq := hq.2 ((z_eq rx ⟨by decide, by decide⟩).mp c)
      have rx := hq.1
      have hq := hq.2
      refine ⟨fun c => ?_, fun c => ?_⟩
      · have hq := hq.1 (fun h => c ((z_eq rx ⟨by decide, by decide⟩).mpr h))
        have ry := hq.1
        have hq := hq.2
        refine ⟨fun c => ?_, fun c => ?_⟩
        · have hq := hq.1 (fun h => c ((z_eq ⟨by decide, by decide⟩ ry).mpr h))
          exact hq
        · have hq := hq.2 ((z_eq ⟨by decide, by decide⟩ ry).mp c)
          exact hq
      · have hq := hq.2 ((z_eq rx ⟨by decide, by decide⟩).mp c)
        have ry := hq.1
        have hq := hq.2
        refine ⟨fun c => ?_, fun c => ?_⟩
        · have hq := hq.1 (fun h => c ((z_eq ⟨by decide, by decide⟩ ry).mpr h))
          exact hq
        · have hq := hq.2 ((z_eq ⟨by decide, by decide⟩ ry).mp c)
          exact hq)
  have hq := hq (by
    intro x5 x7 x9 hq
    refine k283 (zI x5) (zI x7) (zI x9) ?_
    try simp only [z_m1, z_0, z_1, z_2, z_3, z_4, z_5, z_6, z_8, z_9, z_10, z_12, z_16, z_30, z_31, z_99, z_300, z_500, z_600, z_20000, z_m13, z_m11, z_7, z_11, z_13, z_15, z_18, z_40, z_80, z_100, z_120, z_150, z_179, z_210, z_999, z_104021, z_268435455, z_3070017, z_nL, zadd, zsub, zmul, zneg, zap]
    have rx := hq.1
    have hq := hq.2
    have ry := hq.1
    have hq := hq.2
    refine ⟨fun c => ?_, fun c => ?_⟩
    · have hq := hq.1 ((z_le ry rx).mp c)
      exact hq
    · have hq := hq.2 (fun h => c ((z_le ry rx).mpr h))
      exact hq)
  try simp only [z_m1, z_0, z_1, z_2, z_3, z_4, z_5, z_6, z_8, z_9, z_10, z_12, z_16, z_30, z_31, z_99, z_300, z_500, z_600, z_20000, z_m13, z_m11, z_7, z_11, z_13, z_15, z_18, z_40, z_80, z_100, z_120, z_150, z_179, z_210, z_999, z_104021, z_268435455, z_3070017, z_nL, zadd, zsub, zmul, zneg, zap]
  exact hq
def Q_L_areTables (hh hs hr ha : ISt) (a4 : Int) (post : Int → ISt → ISt → ISt → Prop) : Prop := ∀ V12 : Nat → ISt → ISt → ISt → Int → Int → Int → Int → Prop, ∀ V50 : Nat → ISt → ISt → ISt → Int → Int → Int → Int → Int → Int → Int → Int → Prop, ∀ V79 : Nat → ISt → ISt → ISt → Int → Int → Int → Int → Int → Int → Int → Prop, ∀ V80 : Nat → ISt → ISt → ISt → Int → Int → Int → Int → Int → Int → Int → Int → Prop, ∀ V124 : Nat → ISt → ISt → ISt → Int → Int → Int → Int → Int → Int → Int → Prop, ∀ V125 : Nat → ISt → ISt → ISt → Int → Int → Int → Int → Int → Int → Int → Int → Prop, ∀ V143 : Nat → ISt → ISt → ISt → Int → Int → Int → Int → Int → Int → Int → Prop, ∀ V153 : Nat → ISt → ISt → ISt → Int → Int → Int → Int → Int → Int → Int → Prop, ∀ V177 : Nat → ISt → ISt → ISt → Int → Int → Int → Int → Prop, ∀ V187 : Nat → ISt → ISt → ISt → Int → Int → Int → Int → Int → Prop, ∀ V204 : Nat → ISt → ISt → ISt → Int → Int → Int → Int → Int → Int → Prop, ∀ V244 : Nat → ISt → ISt → ISt → Int → Int → Prop, (∀ (k : Nat) (hh hs hr : ISt) (x5 x6 x7 x8 : Int), (inR x8 ∧ inR a4 ∧ ((a4 ≤ x8 → (V244 k hh hs hr x6 x7)) ∧ (¬ a4 ≤ x8 → (inR x7 ∧ ((x7 = (0 : Int) → (V244 k hh hs hr x6 x7)) ∧ (¬ x7 = (0 : Int) → (k ≤ 30 ∧ ∃ r1 : Int, Qn_X4_tableOf hh hs hr x8 r1 ∧ (k ≤ 30 ∧ ∃ r2 : Int, Qn_X4_tablesOf hh hs hr x8 r2 ∧ (V50 k hh hs hr x5 x6 x7 x8 r1 r2 ((1 : Int) - r2) r1))))))))) → V12 k hh hs hr x5 x6 x7 x8) → (∀ (k : Nat) (hh hs hr : ISt) (x5 x6 x7 x8 x9 x10 x11 x12 : Int), (inR x12 ∧ inR (x9 + x10) ∧ (((x9 + x10) ≤ x12 → (inR x9 ∧ (((0 : Int) ≤ x9 → (V124 k hh hs hr x5 x7 x8 x9 x10 x11 x6)) ∧ (¬ (0 : Int) ≤ x9 → ((0 ≤ x8 ∧ x8 < 30) ∧ (inR (ha 2 x8.toNat) ∧ ((¬ (ha 2 x8.toNat) = (0 : Int) → (V124 k hh hs hr x5 x7 x8 x9 x10 x11 x6)) ∧ ((ha 2 x8.toNat) = (0 : Int) → (V125 k hh hs hr x5 x7 x8 x9 x10 x11 (1 : Int) x6))))))))) ∧ (¬ (x9 + x10) ≤ x12 → (inR x7 ∧ ((x7 = (0 : Int) → (V79 k hh hs hr x5 x6 x8 x9 x10 x11 x12)) ∧ (¬ x7 = (0 : Int) → ((0 ≤ x5 ∧ x5 ≤ 2147483647) ∧ (0 ≤ x12 ∧ x12 < 32) ∧ ((0 ≤ (ishr x5 x12) ∧ (ishr x5 x12) ≤ 2147483647) ∧ (inR ((ishr x5 x12) % 2) ∧ ((¬ ((ishr x5 x12) % 2) = (0 : Int) → (V79 k hh hs hr x5 x6 x8 x9 x10 x11 x12)) ∧ (((ishr x5 x12) % 2) = (0 : Int) → (V80 k hh hs hr x5 x6 x8 x9 x10 x11 x12 (1 : Int))))))))))))) → V50 k hh hs hr x5 x6 x7 x8 x9 x10 x11 x12) → (∀ (k : Nat) (hh hs hr : ISt) (x5 x6 x8 x9 x10 x11 x12 : Int), (V80 k hh hs hr x5 x6 x8 x9 x10 x11 x12 (0 : Int)) → V79 k hh hs hr x5 x6 x8 x9 x10 x11 x12) → (∀ (k : Nat) (hh hs hr : ISt) (x5 x6 x8 x9 x10 x11 x12 t0 : Int), ((0 ≤ x12 ∧ x12 < 31) ∧ ((0 ≤ x5) ∧ (0 ≤ (ishl1 x12)) ∧ ((0 ≤ x12 ∧ x12 < 10) ∧ (V50 k hh hs hr (iior x5 (ishl1 x12)) x6 t0 x8 x9 x10 (x11 + (ha 0 x12.toNat)) (x12 + (1 : Int)))))) → V80 k hh hs hr x5 x6 x8 x9 x10 x11 x12 t0) → (∀ (k : Nat) (hh hs hr : ISt) (x5 x7 x8 x9 x10 x11 t0 : Int), (V125 k hh hs hr x5 x7 x8 x9 x10 x11 (0 : Int) t0) → V124 k hh hs hr x5 x7 x8 x9 x10 x11 t0) → (∀ (k : Nat) (hh hs hr : ISt) (x5 x7 x8 x9 x10 x11 t0 t1 : Int), (inR x7 ∧ ((x7 = (0 : Int) → (V12 k hh hs hr x5 (t1 + t0) (0 : Int) (x8 + (1 : Int)))) ∧ (¬ x7 = (0 : Int) → (inR x9 ∧ (((0 : Int) ≤ x9 → (V143 k hh hs hr x5 (t1 + t0) x8 x9 x10 x11 (0 : Int))) ∧ (¬ (0 : Int) ≤ x9 → (V143 k hh hs hr x5 (t1 + t0) x8 x9 x10 x11 (1 : Int)))))))) → V125 k hh hs hr x5 x7 x8 x9 x10 x11 t0 t1) → (∀ (k : Nat) (hh hs hr : ISt) (x5 x6 x8 x9 x10 x11 t0 : Int), (inR x10 ∧ ((¬ x10 = (0 : Int) → (V153 k hh hs hr x5 x6 x8 x9 x11 (0 : Int) t0)) ∧ (x10 = (0 : Int) → (V153 k hh hs hr x5 x6 x8 x9 x11 (1 : Int) t0)))) → V143 k hh hs hr x5 x6 x8 x9 x10 x11 t0) → (∀ (k : Nat) (hh hs hr : ISt) (x5 x6 x8 x9 x11 t0 t1 : Int), (inR t1 ∧ inR t0 ∧ ((¬ t1 = t0 → (V12 k hh hs hr x5 x6 (0 : Int) (x8 + (1 : Int)))) ∧ (t1 = t0 → (inR x9 ∧ ((x9 < (0 : Int) → (V177 k hh hs hr x5 x6 x8 x9)) ∧ (¬ x9 < (0 : Int) → ((0 ≤ x8 ∧ x8 < 30) ∧ (inR x11 ∧ inR (ha 1 x8.toNat) ∧ ((x11 < (ha 1 x8.toNat) → (V12 k hh hs hr x5 x6 (0 : Int) (x8 + (1 : Int)))) ∧ (¬ x11 < (ha 1 x8.toNat) → ((0 ≤ x8 ∧ x8 < 30) ∧ (inR (ha 2 x8.toNat) ∧ ((¬ (ha 2 x8.toNat) = (0 : Int) → (V12 k hh hs hr x5 x6 (0 : Int) (x8 + (1 : Int)))) ∧ ((ha 2 x8.toNat) = (0 : Int) → (V177 k hh hs hr x5 x6 x8 x9))))))))))))))) → V153 k hh hs hr x5 x6 x8 x9 x11 t0 t1) → (∀ (k : Nat) (hh hs hr : ISt) (x5 x6 x8 x9 : Int), (inR x9 ∧ ((x9 < (0 : Int) → (V187 k hh hs hr x5 x6 x8 x9 (0 : Int))) ∧ (¬ x9 < (0 : Int) → (V187 k hh hs hr x5 x6 x8 x9 (1 : Int))))) → V177 k hh hs hr x5 x6 x8 x9) → (∀ (k : Nat) (hh hs hr : ISt) (x5 x6 x8 x9 t0 : Int), (k + 1 ≤ 30 ∧ Q_L_on hh hs hr (1 : Int) x8 (0 : Int) (0 : Int) (fun (r4 : Int) (hh5 hs6 hr7 : ISt) => inR r4 ∧ ((r4 < (0 : Int) → (V204 (k + 1) hh5 hs6 hr7 x5 x6 x8 x9 (0 : Int) t0)) ∧ (¬ r4 < (0 : Int) → (V204 (k + 1) hh5 hs6 hr7 x5 x6 x8 x9 (1 : Int) t0))))) → V187 k hh hs hr x5 x6 x8 x9 t0) → (∀ (k : Nat) (hh hs hr : ISt) (x5 x6 x8 x9 t0 t1 : Int), (inR t1 ∧ inR t0 ∧ ((¬ t1 = t0 → (V12 k hh hs hr x5 x6 (0 : Int) (x8 + (1 : Int)))) ∧ (t1 = t0 → (inR x9 ∧ (((0 : Int) ≤ x9 → (V12 k hh hs hr x5 x6 (1 : Int) (x8 + (1 : Int)))) ∧ (¬ (0 : Int) ≤ x9 → (k ≤ 30 ∧ ∃ r8 : Int, Qn_X4_copyOf hh hs hr x8 r8 ∧ (inR r8 ∧ ((¬ r8 = (-1 : Int) → (V12 k hh hs hr x5 x6 (0 : Int) (x8 + (1 : Int)))) ∧ (r8 = (-1 : Int) → (k ≤ 30 ∧ ∃ r9 : Int, Qn_X4_offers hh hs hr x8 r9 ∧ (inR r9 ∧ ((¬ r9 = (0 : Int) → (V12 k hh hs hr x5 x6 (0 : Int) (x8 + (1 : Int)))) ∧ (r9 = (0 : Int) → (V12 k hh hs hr x5 x6 (1 : Int) (x8 + (1 : Int))))))))))))))))) → V204 k hh hs hr x5 x6 x8 x9 t0 t1) → (∀ (k : Nat) (hh hs hr : ISt) (x6 x7 : Int), (inR x7 ∧ ((x7 = (0 : Int) → (k ≤ 30 ∧ (post (0 : Int) hh hs hr))) ∧ (¬ x7 = (0 : Int) → (k ≤ 30 ∧ ∃ r3 : Int, Q_X4_waiting hh hs hr r3 ∧ (inR r3 ∧ inR x6 ∧ ((¬ r3 = x6 → (k ≤ 30 ∧ (post (0 : Int) hh hs hr))) ∧ (r3 = x6 → (k ≤ 30 ∧ (post (1 : Int) hh hs hr))))))))) → V244 k hh hs hr x6 x7) → (V12 0 hh hs hr (0 : Int) (0 : Int) (1 : Int) (0 : Int))
set_option maxRecDepth 100000 in
set_option maxHeartbeats 8000000 in
theorem tm_L_areTables (hh hs hr ha : ISt) (a4 : Int) (okI : Int → ISt → ISt → ISt → Prop) (ok : Int32 → St → St → St → Prop) (hk : ∀ r h1 h2 h3, okI r h1 h2 h3 → ok (zI r) (zS h1) (zS h2) (zS h3)) (hq : Q_L_areTables hh hs hr ha a4 okI) : P_L_areTables (zS hh) (zS hs) (zS hr) (zS ha) (zI a4) ok := by
  intro V12 V50 V79 V80 V124 V125 V143 V153 V177 V187 V204 V244 k12 k50 k79 k80 k124 k125 k143 k153 k177 k187 k204 k244
  have hq := hq (fun k hh hs hr x5 x6 x7 x8 => V12 k (zS hh) (zS hs) (zS hr) (zI x5) (zI x6) (zI x7) (zI x8)) (fun k hh hs hr x5 x6 x7 x8 x9 x10 x11 x12 => V50 k (zS hh) (zS hs) (zS hr) (zI x5) (zI x6) (zI x7) (zI x8) (zI x9) (zI x10) (zI x11) (zI x12)) (fun k hh hs hr x5 x6 x8 x9 x10 x11 x12 => V79 k (zS hh) (zS hs) (zS hr) (zI x5) (zI x6) (zI x8) (zI x9) (zI x10) (zI x11) (zI x12)) (fun k hh hs hr x5 x6 x8 x9 x10 x11 x12 t0 => V80 k (zS hh) (zS hs) (zS hr) (zI x5) (zI x6) (zI x8) (zI x9) (zI x10) (zI x11) (zI x12) (zI t0)) (fun k hh hs hr x5 x7 x8 x9 x10 x11 t0 => V124 k (zS hh) (zS hs) (zS hr) (zI x5) (zI x7) (zI x8) (zI x9) (zI x10) (zI x11) (zI t0)) (fun k hh hs hr x5 x7 x8 x9 x10 x11 t0 t1 => V125 k (zS hh) (zS hs) (zS hr) (zI x5) (zI x7) (zI x8) (zI x9) (zI x10) (zI x11) (zI t0) (zI t1)) (fun k hh hs hr x5 x6 x8 x9 x10 x11 t0 => V143 k (zS hh) (zS hs) (zS hr) (zI x5) (zI x6) (zI x8) (zI x9) (zI x10) (zI x11) (zI t0)) (fun k hh hs hr x5 x6 x8 x9 x11 t0 t1 => V153 k (zS hh) (zS hs) (zS hr) (zI x5) (zI x6) (zI x8) (zI x9) (zI x11) (zI t0) (zI t1)) (fun k hh hs hr x5 x6 x8 x9 => V177 k (zS hh) (zS hs) (zS hr) (zI x5) (zI x6) (zI x8) (zI x9)) (fun k hh hs hr x5 x6 x8 x9 t0 => V187 k (zS hh) (zS hs) (zS hr) (zI x5) (zI x6) (zI x8) (zI x9) (zI t0)) (fun k hh hs hr x5 x6 x8 x9 t0 t1 => V204 k (zS hh) (zS hs) (zS hr) (zI x5) (zI x6) (zI x8) (zI x9) (zI t0) (zI t1)) (fun k hh hs hr x6 x7 => V244 k (zS hh) (zS hs) (zS hr) (zI x6) (zI x7))
  have hq := hq (by
    intro k hh hs hr x5 x6 x7 x8 hq
    refine k12 k (zS hh) (zS hs) (zS hr) (zI x5) (zI x6) (zI x7) (zI x8) ?_
    try simp only [z_m1, z_0, z_1, z_2, z_3, z_4, z_5, z_6, z_8, z_9, z_10, z_12, z_16, z_30, z_31, z_99, z_300, z_500, z_600, z_20000, z_m13, z_m11, z_7, z_11, z_13, z_15, z_18, z_40, z_80, z_100, z_120, z_150, z_179, z_210, z_999, z_104021, z_268435455, z_3070017, z_nL, zadd, zsub, zmul, zneg, zap]
    have rx := hq.1
    have hq := hq.2
    have ry := hq.1
    have hq := hq.2
    refine ⟨fun c => ?_, fun c => ?_⟩
    · have hq := hq.1 ((z_le ry rx).mp c)
      exact hq
    · have hq := hq.2 (fun h => c ((z_le ry rx).mpr h))
      have rx := hq.1
      have hq := hq.2
      refine ⟨fun c => ?_, fun c => ?_⟩
      · have hq := hq.1 ((z_eq rx ⟨by decide, by decide⟩).mp c)
        exact hq
      · have hq := hq.2 (fun h => c ((z_eq rx ⟨by decide, by decide⟩).mpr h))
        obtain ⟨hkb, r1, hr1, hq⟩ := hq
        refine ⟨hkb, zI r1, tn_X4_tableOf hh hs hr x8 r1 hr1, ?_⟩
        try simp only [z_m1, z_0, z_1, z_2, z_3, z_4, z_5, z_6, z_8, z_9, z_10, z_12, z_16, z_30, z_31, z_99, z_300, z_500, z_600, z_20000, z_m13, z_m11, z_7, z_11, z_13, z_15, z_18, z_40, z_80, z_100, z_120, z_150, z_179, z_210, z_999, z_104021, z_268435455, z_3070017, z_nL, zadd, zsub, zmul, zneg, zap]
        obtain ⟨hkb, r2, hr2, hq⟩ := hq
        refine ⟨hkb, zI r2, tn_X4_tablesOf hh hs hr x8 r2 hr2, ?_⟩
        try simp only [z_m1, z_0, z_1, z_2, z_3, z_4, z_5, z_6, z_8, z_9, z_10, z_12, z_16, z_30, z_31, z_99, z_300, z_500, z_600, z_20000, z_m13, z_m11, z_7, z_11, z_13, z_15, z_18, z_40, z_80, z_100, z_120, z_150, z_179, z_210, z_999, z_104021, z_268435455, z_3070017, z_nL, zadd, zsub, zmul, zneg, zap]
        exact hq)
  have hq := hq (by
    intro k hh hs hr x5 x6 x7 x8 x9 x10 x11 x12 hq
    refine k50 k (zS hh) (zS hs) (zS hr) (zI x5) (zI x6) (zI x7) (zI x8) (zI x9) (zI x10) (zI x11) (zI x12) ?_
    try simp only [z_m1, z_0, z_1, z_2, z_3, z_4, z_5, z_6, z_8, z_9, z_10, z_12, z_16, z_30, z_31, z_99, z_300, z_500, z_600, z_20000, z_m13, z_m11, z_7, z_11, z_13, z_15, z_18, z_40, z_80, z_100, z_120, z_150, z_179, z_210, z_999, z_104021, z_268435455, z_3070017, z_nL, zadd, zsub, zmul, zneg, zap]
    have rx := hq.1
    have hq := hq.2
    have ry := hq.1
    have hq := hq.2
    refine ⟨fun c => ?_, fun c => ?_⟩
    · have hq := hq.1 ((z_le ry rx).mp c)
      have rx := hq.1
      have hq := hq.2
      refine ⟨fun c => ?_, fun c => ?_⟩
      · have hq := hq.1 ((z_le ⟨by decide, by decide⟩ rx).mp c)
        exact hq
      · have hq := hq.2 (fun h => c ((z_le ⟨by decide, by decide⟩ rx).mpr h))
        refine ⟨zin hq.1.1 hq.1.2 (by decide), ?_⟩
        try simp only [zcl hq.1.1 (Int.lt_trans hq.1.2 (by decide))]
        have hq := hq.2
        try simp only [z_m1, z_0, z_1, z_2, z_3, z_4, z_5, z_6, z_8, z_9, z_10, z_12, z_16, z_30, z_31, z_99, z_300, z_500, z_600, z_20000, z_m13, z_m11, z_7, z_11, z_13, z_15, z_18, z_40, z_80, z_100, z_120, z_150, z_179, z_210, z_999, z_104021, z_268435455, z_3070017, z_nL, zadd, zsub, zmul, zneg, zap]
        have rx := hq.1
        have hq := hq.2
        refine ⟨fun c => ?_, fun c => ?_⟩
        · have hq := hq.1 (fun h => c ((z_eq rx ⟨by decide, by decide⟩).mpr h))
          exact hq
        · have hq := hq.2 ((z_eq rx ⟨by decide, by decide⟩).mp c)
          exact hq
    · have hq := hq.2 (fun h => c ((z_le ry rx).mpr h))
      have rx := hq.1
      have hq := hq.2
      refine ⟨fun c => ?_, fun c => ?_⟩
      · have hq := hq.1 ((z_eq rx ⟨by decide, by decide⟩).mp c)
        exact hq
      · have hq := hq.2 (fun h => c ((z_eq rx ⟨by decide, by decide⟩).mpr h))
        simp only [zshr hq.1 hq.2.1]
        have hq := hq.2.2
        try simp only [z_m1, z_0, z_1, z_2, z_3, z_4, z_5, z_6, z_8, z_9, z_10, z_12, z_16, z_30, z_31, z_99, z_300, z_500, z_600, z_20000, z_m13, z_m11, z_7, z_11, z_13, z_15, z_18, z_40, z_80, z_100, z_120, z_150, z_179, z_210, z_999, z_104021, z_268435455, z_3070017, z_nL, zadd, zsub, zmul, zneg, zap]
        rw [zand1 hq.1]
        have hq := hq.2
        try simp only [z_m1, z_0, z_1, z_2, z_3, z_4, z_5, z_6, z_8, z_9, z_10, z_12, z_16, z_30, z_31, z_99, z_300, z_500, z_600, z_20000, z_m13, z_m11, z_7, z_11, z_13, z_15, z_18, z_40, z_80, z_100, z_120, z_150, z_179, z_210, z_999, z_104021, z_268435455, z_3070017, z_nL, zadd, zsub, zmul, zneg, zap]
        have rx := hq.1
        have hq := hq.2
        refine ⟨fun c => ?_, fun c => ?_⟩
        · have hq := hq.1 (fun h => c ((z_eq rx ⟨by decide, by decide⟩).mpr h))
          exact hq
        · have hq := hq.2 ((z_eq rx ⟨by decide, by decide⟩).mp c)
          exact hq)
  have hq := hq (by
    intro k hh hs hr x5 x6 x8 x9 x10 x11 x12 hq
    refine k79 k (zS hh) (zS hs) (zS hr) (zI x5) (zI x6) (zI x8) (zI x9) (zI x10) (zI x11) (zI x12) ?_
    try simp only [z_m1, z_0, z_1, z_2, z_3, z_4, z_5, z_6, z_8, z_9, z_10, z_12, z_16, z_30, z_31, z_99, z_300, z_500, z_600, z_20000, z_m13, z_m11, z_7, z_11, z_13, z_15, z_18, z_40, z_80, z_100, z_120, z_150, z_179, z_210, z_999, z_104021, z_268435455, z_3070017, z_nL, zadd, zsub, zmul, zneg, zap]
    exact hq)
  have hq := hq (by
    intro k hh hs hr x5 x6 x8 x9 x10 x11 x12 t0 hq
    refine k80 k (zS hh) (zS hs) (zS hr) (zI x5) (zI x6) (zI x8) (zI x9) (zI x10) (zI x11) (zI x12) (zI t0) ?_
    try simp only [z_m1, z_0, z_1, z_2, z_3, z_4, z_5, z_6, z_8, z_9, z_10, z_12, z_16, z_30, z_31, z_99, z_300, z_500, z_600, z_20000, z_m13, z_m11, z_7, z_11, z_13, z_15, z_18, z_40, z_80, z_100, z_120, z_150, z_179, z_210, z_999, z_104021, z_268435455, z_3070017, z_nL, zadd, zsub, zmul, zneg, zap]
    simp only [zshl hq.1]
    have hq := hq.2
    try simp only [z_m1, z_0, z_1, z_2, z_3, z_4, z_5, z_6, z_8, z_9, z_10, z_12, z_16, z_30, z_31, z_99, z_300, z_500, z_600, z_20000, z_m13, z_m11, z_7, z_11, z_13, z_15, z_18, z_40, z_80, z_100, z_120, z_150, z_179, z_210, z_999, z_104021, z_268435455, z_3070017, z_nL, zadd, zsub, zmul, zneg, zap]
    simp only [zior hq.1 hq.2.1]
    have hq := hq.2.2
    try simp only [z_m1, z_0, z_1, z_2, z_3, z_4, z_5, z_6, z_8, z_9, z_10, z_12, z_16, z_30, z_31, z_99, z_300, z_500, z_600, z_20000, z_m13, z_m11, z_7, z_11, z_13, z_15, z_18, z_40, z_80, z_100, z_120, z_150, z_179, z_210, z_999, z_104021, z_268435455, z_3070017, z_nL, zadd, zsub, zmul, zneg, zap]
    refine ⟨zin hq.1.1 hq.1.2 (by decide), ?_⟩
    try simp only [zcl hq.1.1 (Int.lt_trans hq.1.2 (by decide))]
    have hq := hq.2
    try simp only [z_m1, z_0, z_1, z_2, z_3, z_4, z_5, z_6, z_8, z_9, z_10, z_12, z_16, z_30, z_31, z_99, z_300, z_500, z_600, z_20000, z_m13, z_m11, z_7, z_11, z_13, z_15, z_18, z_40, z_80, z_100, z_120, z_150, z_179, z_210, z_999, z_104021, z_268435455, z_3070017, z_nL, zadd, zsub, zmul, zneg, zap]
    exact hq)
  have hq := hq (by
    intro k hh hs hr x5 x7 x8 x9 x10 x11 t0 hq
    refine k124 k (zS hh) (zS hs) (zS hr) (zI x5) (zI x7) (zI x8) (zI x9) (zI x10) (zI x11) (zI t0) ?_
    try simp only [z_m1, z_0, z_1, z_2, z_3, z_4, z_5, z_6, z_8, z_9, z_10, z_12, z_16, z_30, z_31, z_99, z_300, z_500, z_600, z_20000, z_m13, z_m11, z_7, z_11, z_13, z_15, z_18, z_40, z_80, z_100, z_120, z_150, z_179, z_210, z_999, z_104021, z_268435455, z_3070017, z_nL, zadd, zsub, zmul, zneg, zap]
    exact hq)
  have hq := hq (by
    intro k hh hs hr x5 x7 x8 x9 x10 x11 t0 t1 hq
    refine k125 k (zS hh) (zS hs) (zS hr) (zI x5) (zI x7) (zI x8) (zI x9) (zI x10) (zI x11) (zI t0) (zI t1) ?_
    try simp only [z_m1, z_0, z_1, z_2, z_3, z_4, z_5, z_6, z_8, z_9, z_10, z_12, z_16, z_30, z_31, z_99, z_300, z_500, z_600, z_20000, z_m13, z_m11, z_7, z_11, z_13, z_15, z_18, z_40, z_80, z_100, z_120, z_150, z_179, z_210, z_999, z_104021, z_268435455, z_3070017, z_nL, zadd, zsub, zmul, zneg, zap]
    have rx := hq.1
    have hq := hq.2
    refine ⟨fun c => ?_, fun c => ?_⟩
    · have hq := hq.1 ((z_eq rx ⟨by decide, by decide⟩).mp c)
      exact hq
    · have hq := hq.2 (fun h => c ((z_eq rx ⟨by decide, by decide⟩).mpr h))
      have rx := hq.1
      have hq := hq.2
      refine ⟨fun c => ?_, fun c => ?_⟩
      · have hq := hq.1 ((z_le ⟨by decide, by decide⟩ rx).mp c)
        exact hq
      · have hq := hq.2 (fun h => c ((z_le ⟨by decide, by decide⟩ rx).mpr h))
        exact hq)
  have hq := hq (by
    intro k hh hs hr x5 x6 x8 x9 x10 x11 t0 hq
    refine k143 k (zS hh) (zS hs) (zS hr) (zI x5) (zI x6) (zI x8) (zI x9) (zI x10) (zI x11) (zI t0) ?_
    try simp only [z_m1, z_0, z_1, z_2, z_3, z_4, z_5, z_6, z_8, z_9, z_10, z_12, z_16, z_30, z_31, z_99, z_300, z_500, z_600, z_20000, z_m13, z_m11, z_7, z_11, z_13, z_15, z_18, z_40, z_80, z_100, z_120, z_150, z_179, z_210, z_999, z_104021, z_268435455, z_3070017, z_nL, zadd, zsub, zmul, zneg, zap]
    have rx := hq.1
    have hq := hq.2
    refine ⟨fun c => ?_, fun c => ?_⟩
    · have hq := hq.1 (fun h => c ((z_eq rx ⟨by decide, by decide⟩).mpr h))
      exact hq
    · have hq := hq.2 ((z_eq rx ⟨by decide, by decide⟩).mp c)
      exact hq)
  have hq := hq (by
    intro k hh hs hr x5 x6 x8 x9 x11 t0 t1 hq
    refine k153 k (zS hh) (zS hs) (zS hr) (zI x5) (zI x6) (zI x8) (zI x9) (zI x11) (zI t0) (zI t1) ?_
    try simp only [z_m1, z_0, z_1, z_2, z_3, z_4, z_5, z_6, z_8, z_9, z_10, z_12, z_16, z_30, z_31, z_99, z_300, z_500, z_600, z_20000, z_m13, z_m11, z_7, z_11, z_13, z_15, z_18, z_40, z_80, z_100, z_120, z_150, z_179, z_210, z_999, z_104021, z_268435455, z_3070017, z_nL, zadd, zsub, zmul, zneg, zap]
    have rx := hq.1
    have hq := hq.2
    have ry := hq.1
    have hq := hq.2
    refine ⟨fun c => ?_, fun c => ?_⟩
    · have hq := hq.1 (fun h => c ((z_eq rx ry).mpr h))
      exact hq
    · have hq := hq.2 ((z_eq rx ry).mp c)
      have rx := hq.1
      have hq := hq.2
      refine ⟨fun c => ?_, fun c => ?_⟩
      · have hq := hq.1 ((z_lt rx ⟨by decide, by decide⟩).mp c)
        exact hq
      · have hq := hq.2 (fun h => c ((z_lt rx ⟨by decide, by decide⟩).mpr h))
        refine ⟨zin hq.1.1 hq.1.2 (by decide), ?_⟩
        try simp only [zcl hq.1.1 (Int.lt_trans hq.1.2 (by decide))]
        have hq := hq.2
        try simp only [z_m1, z_0, z_1, z_2, z_3, z_4, z_5, z_6, z_8, z_9, z_10, z_12, z_16, z_30, z_31, z_99, z_300, z_500, z_600, z_20000, z_m13, z_m11, z_7, z_11, z_13, z_15, z_18, z_40, z_80, z_100, z_120, z_150, z_179, z_210, z_999, z_104021, z_268435455, z_3070017, z_nL, zadd, zsub, zmul, zneg, zap]
        have rx := hq.1
        have hq := hq.2
        have ry := hq.1
        have hq := hq.2
        refine ⟨fun c => ?_, fun c => ?_⟩
        · have hq := hq.1 ((z_lt rx ry).mp c)
          exact hq
        · have hq := hq.2 (fun h => c ((z_lt rx ry).mpr h))
          refine ⟨zin hq.1.1 hq.1.2 (by decide), ?_⟩
          try simp only [zcl hq.1.1 (Int.lt_trans hq.1.2 (by decide))]
          have hq := hq.2
          try simp only [z_m1, z_0, z_1, z_2, z_3, z_4, z_5, z_6, z_8, z_9, z_10, z_12, z_16, z_30, z_31, z_99, z_300, z_500, z_600, z_20000, z_m13, z_m11, z_7, z_11, z_13, z_15, z_18, z_40, z_80, z_100, z_120, z_150, z_179, z_210, z_999, z_104021, z_268435455, z_3070017, z_nL, zadd, zsub, zmul, zneg, zap]
          have rx := hq.1
          have hq := hq.2
          refine ⟨fun c => ?_, fun c => ?_⟩
          · have hq := hq.1 (fun h => c ((z_eq rx ⟨by decide, by decide⟩).mpr h))
            exact hq
          · have hq := hq.2 ((z_eq rx ⟨by decide, by decide⟩).mp c)
            exact hq)
  have hq := hq (by
    intro k hh hs hr x5 x6 x8 x9 hq
    refine k177 k (zS hh) (zS hs) (zS hr) (zI x5) (zI x6) (zI x8) (zI x9) ?_
    try simp only [z_m1, z_0, z_1, z_2, z_3, z_4, z_5, z_6, z_8, z_9, z_10, z_12, z_16, z_30, z_31, z_99, z_300, z_500, z_600, z_20000, z_m13, z_m11, z_7, z_11, z_13, z_15, z_18, z_40, z_80, z_100, z_120, z_150, z_179, z_210, z_999, z_104021, z_268435455, z_3070017, z_nL, zadd, zsub, zmul, zneg, zap]
    have rx := hq.1
    have hq := hq.2
    refine ⟨fun c => ?_, fun c => ?_⟩
    · have hq := hq.1 ((z_lt rx ⟨by decide, by decide⟩).mp c)
      exact hq
    · have hq := hq.2 (fun h => c ((z_lt rx ⟨by decide, by decide⟩).mpr h))
      exact hq)
  have hq := hq (by
    intro k hh hs hr x5 x6 x8 x9 t0 hq
    refine k187 k (zS hh) (zS hs) (zS hr) (zI x5) (zI x6) (zI x8) (zI x9) (zI t0) ?_
    try simp only [z_m1, z_0, z_1, z_2, z_3, z_4, z_5, z_6, z_8, z_9, z_10, z_12, z_16, z_30, z_31, z_99, z_300, z_500, z_600, z_20000, z_m13, z_m11, z_7, z_11, z_13, z_15, z_18, z_40, z_80, z_100, z_120, z_150, z_179, z_210, z_999, z_104021, z_268435455, z_3070017, z_nL, zadd, zsub, zmul, zneg, zap]
    refine ⟨hq.1, tm_L_on hh hs hr (1 : Int) x8 (0 : Int) (0 : Int) _ _ (fun r4 hh5 hs6 hr7 hq => ?_) hq.2⟩
    try simp only [z_m1, z_0, z_1, z_2, z_3, z_4, z_5, z_6, z_8, z_9, z_10, z_12, z_16, z_30, z_31, z_99, z_300, z_500, z_600, z_20000, z_m13, z_m11, z_7, z_11, z_13, z_15, z_18, z_40, z_80, z_100, z_120, z_150, z_179, z_210, z_999, z_104021, z_268435455, z_3070017, z_nL, zadd, zsub, zmul, zneg, zap]
    have rx := hq.1
    have hq := hq.2
    refine ⟨fun c => ?_, fun c => ?_⟩
    · have hq := hq.1 ((z_lt rx ⟨by decide, by decide⟩).mp c)
      exact hq
    · have hq := hq.2 (fun h => c ((z_lt rx ⟨by decide, by decide⟩).mpr h))
      exact hq)
  have hq := hq (by
    intro k hh hs hr x5 x6 x8 x9 t0 t1 hq
    refine k204 k (zS hh) (zS hs) (zS hr) (zI x5) (zI x6) (zI x8) (zI x9) (zI t0) (zI t1) ?_
    try simp only [z_m1, z_0, z_1, z_2, z_3, z_4, z_5, z_6, z_8, z_9, z_10, z_12, z_16, z_30, z_31, z_99, z_300, z_500, z_600, z_20000, z_m13, z_m11, z_7, z_11, z_13, z_15, z_18, z_40, z_80, z_100, z_120, z_150, z_179, z_210, z_999, z_104021, z_268435455, z_3070017, z_nL, zadd, zsub, zmul, zneg, zap]
    have rx := hq.1
    have hq := hq.2
    have ry := hq.1
    have hq := hq.2
    refine ⟨fun c => ?_, fun c => ?_⟩
    · have hq := hq.1 (fun h => c ((z_eq rx ry).mpr h))
      exact hq
    · have hq := hq.2 ((z_eq rx ry).mp c)
      have rx := hq.1
      have hq := hq.2
      refine ⟨fun c => ?_, fun c => ?_⟩
      · have hq := hq.1 ((z_le ⟨by decide, by decide⟩ rx).mp c)
        exact hq
      · have hq := hq.2 (fun h => c ((z_le ⟨by decide, by decide⟩ rx).mpr h))
        obtain ⟨hkb, r8, hr8, hq⟩ := hq
        refine ⟨hkb, zI r8, tn_X4_copyOf hh hs hr x8 r8 hr8, ?_⟩
        try simp only [z_m1, z_0, z_1, z_2, z_3, z_4, z_5, z_6, z_8, z_9, z_10, z_12, z_16, z_30, z_31, z_99, z_300, z_500, z_600, z_20000, z_m13, z_m11, z_7, z_11, z_13, z_15, z_18, z_40, z_80, z_100, z_120, z_150, z_179, z_210, z_999, z_104021, z_268435455, z_3070017, z_nL, zadd, zsub, zmul, zneg, zap]
        have rx := hq.1
        have hq := hq.2
        refine ⟨fun c => ?_, fun c => ?_⟩
        · have hq := hq.1 (fun h => c ((z_eq rx ⟨by decide, by decide⟩).mpr h))
          exact hq
        · have hq := hq.2 ((z_eq rx ⟨by decide, by decide⟩).mp c)
          obtain ⟨hkb, r9, hr9, hq⟩ := hq
          refine ⟨hkb, zI r9, tn_X4_offers hh hs hr x8 r9 hr9, ?_⟩
          try simp only [z_m1, z_0, z_1, z_2, z_3, z_4, z_5, z_6, z_8, z_9, z_10, z_12, z_16, z_30, z_31, z_99, z_300, z_500, z_600, z_20000, z_m13, z_m11, z_7, z_11, z_13, z_15, z_18, z_40, z_80, z_100, z_120, z_150, z_179, z_210, z_999, z_104021, z_268435455, z_3070017, z_nL, zadd, zsub, zmul, zneg, zap]
          have rx := hq.1
          have hq := hq.2
          refine ⟨fun c => ?_, fun c => ?_⟩
          · have hq := hq.1 (fun h => c ((z_eq rx ⟨by decide, by decide⟩).mpr h))
            exact hq
          · have hq := hq.2 ((z_eq rx ⟨by decide, by decide⟩).mp c)
            exact hq)
  have hq := hq (by
    intro k hh hs hr x6 x7 hq
    refine k244 k (zS hh) (zS hs) (zS hr) (zI x6) (zI x7) ?_
    try simp only [z_m1, z_0, z_1, z_2, z_3, z_4, z_5, z_6, z_8, z_9, z_10, z_12, z_16, z_30, z_31, z_99, z_300, z_500, z_600, z_20000, z_m13, z_m11, z_7, z_11, z_13, z_15, z_18, z_40, z_80, z_100, z_120, z_150, z_179, z_210, z_999, z_104021, z_268435455, z_3070017, z_nL, zadd, zsub, zmul, zneg, zap]
    have rx := hq.1
    have hq := hq.2
    refine ⟨fun c => ?_, fun c => ?_⟩
    · have hq := hq.1 ((z_eq rx ⟨by decide, by decide⟩).mp c)
      exact ⟨hq.1, hk _ _ _ _ hq.2⟩
    · have hq := hq.2 (fun h => c ((z_eq rx ⟨by decide, by decide⟩).mpr h))
      obtain ⟨hkb, r3, hr3, hq⟩ := hq
      refine ⟨hkb, zI r3, t_X4_waiting hh hs hr r3 hr3, ?_⟩
      try simp only [z_m1, z_0, z_1, z_2, z_3, z_4, z_5, z_6, z_8, z_9, z_10, z_12, z_16, z_30, z_31, z_99, z_300, z_500, z_600, z_20000, z_m13, z_m11, z_7, z_11, z_13, z_15, z_18, z_40, z_80, z_100, z_120, z_150, z_179, z_210, z_999, z_104021, z_268435455, z_3070017, z_nL, zadd, zsub, zmul, zneg, zap]
      have rx := hq.1
      have hq := hq.2
      have ry := hq.1
      have hq := hq.2
      refine ⟨fun c => ?_, fun c => ?_⟩
      · have hq := hq.1 (fun h => c ((z_eq rx ry).mpr h))
        exact ⟨hq.1, hk _ _ _ _ hq.2⟩
      · have hq := hq.2 ((z_eq rx ry).mp c)
        exact ⟨hq.1, hk _ _ _ _ hq.2⟩)
  try simp only [z_m1, z_0, z_1, z_2, z_3, z_4, z_5, z_6, z_8, z_9, z_10, z_12, z_16, z_30, z_31, z_99, z_300, z_500, z_600, z_20000, z_m13, z_m11, z_7, z_11, z_13, z_15, z_18, z_40, z_80, z_100, z_120, z_150, z_179, z_210, z_999, z_104021, z_268435455, z_3070017, z_nL, zadd, zsub, zmul, zneg, zap]
  exact hq
def Q_L_areOffers (hh hs hr ha : ISt) (a2 : Int) (a3 : Int) (a5 : Int) (post : Int → ISt → ISt → ISt → Prop) : Prop := ∀ V54 : Nat → ISt → ISt → ISt → Int → Int → Int → Int → Int → Prop, ∀ V91 : Nat → ISt → ISt → ISt → Int → Int → Int → Int → Int → Int → Int → Int → Prop, ∀ V193 : Nat → ISt → ISt → ISt → Int → Int → Int → Int → Prop, ∀ V197 : Nat → ISt → ISt → ISt → Int → Int → Int → Int → Prop, (∀ (k : Nat) (hh hs hr : ISt) (x6 x7 x8 x9 x10 : Int), (inR x10 ∧ inR x6 ∧ ((x6 ≤ x10 → (k ≤ 2 ∧ ((x9 = 0 ∨ x9 = 1) ∧ (post x9 hh hs hr)))) ∧ (¬ x6 ≤ x10 → (inR x9 ∧ ((x9 = (0 : Int) → (k ≤ 2 ∧ ((x9 = 0 ∨ x9 = 1) ∧ (post x9 hh hs hr)))) ∧ (¬ x9 = (0 : Int) → (k ≤ 2 ∧ ∃ r10 : Int, Qn_X4_offerAt hh hs hr a2 x10 r10 ∧ ((0 ≤ (((3 : Int) * r10) + (2 : Int)) ∧ (((3 : Int) * r10) + (2 : Int)) < 24) ∧ (V91 k hh hs hr x6 x7 x8 x10 r10 (ha 5 (((3 : Int) * r10) + (2 : Int)).toNat) (0 : Int) (0 : Int)))))))))) → V54 k hh hs hr x6 x7 x8 x9 x10) → (∀ (k : Nat) (hh hs hr : ISt) (x6 x7 x8 x10 x11 x12 x13 x14 : Int), (inR x14 ∧ inR a5 ∧ ((a5 ≤ x14 → (inR x13 ∧ ((x13 = (0 : Int) → (V197 k hh hs hr x6 x10 x11 x12)) ∧ (¬ x13 = (0 : Int) → ((0 ≤ ((3 : Int) * x11) ∧ ((3 : Int) * x11) < 24) ∧ (inR a3 ∧ inR (ha 5 ((3 : Int) * x11).toNat) ∧ ((a3 < (ha 5 ((3 : Int) * x11).toNat) → (V197 k hh hs hr x6 x10 x11 x12)) ∧ (¬ a3 < (ha 5 ((3 : Int) * x11).toNat) → ((0 ≤ (((3 : Int) * x11) + (1 : Int)) ∧ (((3 : Int) * x11) + (1 : Int)) < 24) ∧ (inR a3 ∧ inR (ha 5 (((3 : Int) * x11) + (1 : Int)).toNat) ∧ (((ha 5 (((3 : Int) * x11) + (1 : Int)).toNat) < a3 → (V197 k hh hs hr x6 x10 x11 x12)) ∧ (¬ (ha 5 (((3 : Int) * x11) + (1 : Int)).toNat) < a3 → (k ≤ 2 ∧ ∃ r11 : Int, Qn_X4_left hh hs hr a2 r11 ∧ (inR x12 ∧ inR r11 ∧ ((r11 < x12 → (V197 k hh hs hr x6 x10 x11 x12)) ∧ (¬ r11 < x12 → (inR x12 ∧ inR x7 ∧ ((x12 < x7 → (V193 k hh hs hr x6 x10 x11 x12)) ∧ (¬ x12 < x7 → (inR x12 ∧ inR x7 ∧ ((¬ x12 = x7 → (V197 k hh hs hr x6 x10 x11 x12)) ∧ (x12 = x7 → (inR x11 ∧ inR x8 ∧ ((x11 ≤ x8 → (V197 k hh hs hr x6 x10 x11 x12)) ∧ (¬ x11 ≤ x8 → (V193 k hh hs hr x6 x10 x11 x12)))))))))))))))))))))))))) ∧ (¬ a5 ≤ x14 → (inR x13 ∧ ((¬ x13 = (0 : Int) → (V91 k hh hs hr x6 x7 x8 x10 x11 x12 (1 : Int) (x14 + (1 : Int)))) ∧ (x13 = (0 : Int) → ((0 ≤ x14 ∧ x14 < 16) ∧ (inR (ha 3 x14.toNat) ∧ inR x11 ∧ ((¬ (ha 3 x14.toNat) = x11 → (V91 k hh hs hr x6 x7 x8 x10 x11 x12 (0 : Int) (x14 + (1 : Int)))) ∧ ((ha 3 x14.toNat) = x11 → (k ≤ 2 ∧ ∃ r12 : Int, Qn_X4_lenders hh hs hr x14 r12 ∧ (inR r12 ∧ ((r12 < (0 : Int) → (V91 k hh hs hr x6 x7 x8 x10 x11 x12 (0 : Int) (x14 + (1 : Int)))) ∧ (¬ r12 < (0 : Int) → (V91 k hh hs hr x6 x7 x8 x10 x11 x12 (1 : Int) (x14 + (1 : Int))))))))))))))))) → V91 k hh hs hr x6 x7 x8 x10 x11 x12 x13 x14) → (∀ (k : Nat) (hh hs hr : ISt) (x6 x10 x11 x12 : Int), (V54 k hh hs hr x6 x12 x11 (1 : Int) (x10 + (1 : Int))) → V193 k hh hs hr x6 x10 x11 x12) → (∀ (k : Nat) (hh hs hr : ISt) (x6 x10 x11 x12 : Int), (V54 k hh hs hr x6 x12 x11 (0 : Int) (x10 + (1 : Int))) → V197 k hh hs hr x6 x10 x11 x12) → (0 ≤ 2 ∧ ∃ r1 : Int, Qn_X4_offers hh hs hr a2 r1 ∧ (1 ≤ 2 ∧ Q_L_on hh hs hr (7 : Int) a2 r1 (0 : Int) (fun (r2 : Int) (hh3 hs4 hr5 : ISt) => inR r2 ∧ ((¬ r2 = (-11 : Int) → (V54 1 hh3 hs4 hr5 r1 (999 : Int) (-1 : Int) (0 : Int) (0 : Int))) ∧ (r2 = (-11 : Int) → (1 + 1 ≤ 2 ∧ Q_L_on hh3 hs4 hr5 (7 : Int) a2 (-1 : Int) (0 : Int) (fun (r6 : Int) (hh7 hs8 hr9 : ISt) => inR r6 ∧ ((¬ r6 = (-11 : Int) → (V54 (1 + 1) hh7 hs8 hr9 r1 (999 : Int) (-1 : Int) (0 : Int) (0 : Int))) ∧ (r6 = (-11 : Int) → (V54 (1 + 1) hh7 hs8 hr9 r1 (999 : Int) (-1 : Int) (1 : Int) (0 : Int)))))))))))
set_option maxRecDepth 100000 in
set_option maxHeartbeats 8000000 in
theorem tm_L_areOffers (hh hs hr ha : ISt) (a2 : Int) (a3 : Int) (a5 : Int) (okI : Int → ISt → ISt → ISt → Prop) (ok : Int32 → St → St → St → Prop) (hk : ∀ r h1 h2 h3, okI r h1 h2 h3 → ok (zI r) (zS h1) (zS h2) (zS h3)) (hq : Q_L_areOffers hh hs hr ha a2 a3 a5 okI) : P_L_areOffers (zS hh) (zS hs) (zS hr) (zS ha) (zI a2) (zI a3) (zI a5) ok := by
  intro V54 V91 V193 V197 k54 k91 k193 k197
  have hq := hq (fun k hh hs hr x6 x7 x8 x9 x10 => V54 k (zS hh) (zS hs) (zS hr) (zI x6) (zI x7) (zI x8) (zI x9) (zI x10)) (fun k hh hs hr x6 x7 x8 x10 x11 x12 x13 x14 => V91 k (zS hh) (zS hs) (zS hr) (zI x6) (zI x7) (zI x8) (zI x10) (zI x11) (zI x12) (zI x13) (zI x14)) (fun k hh hs hr x6 x10 x11 x12 => V193 k (zS hh) (zS hs) (zS hr) (zI x6) (zI x10) (zI x11) (zI x12)) (fun k hh hs hr x6 x10 x11 x12 => V197 k (zS hh) (zS hs) (zS hr) (zI x6) (zI x10) (zI x11) (zI x12))
  have hq := hq (by
    intro k hh hs hr x6 x7 x8 x9 x10 hq
    refine k54 k (zS hh) (zS hs) (zS hr) (zI x6) (zI x7) (zI x8) (zI x9) (zI x10) ?_
    try simp only [z_m1, z_0, z_1, z_2, z_3, z_4, z_5, z_6, z_8, z_9, z_10, z_12, z_16, z_30, z_31, z_99, z_300, z_500, z_600, z_20000, z_m13, z_m11, z_7, z_11, z_13, z_15, z_18, z_40, z_80, z_100, z_120, z_150, z_179, z_210, z_999, z_104021, z_268435455, z_3070017, z_nL, zadd, zsub, zmul, zneg, zap]
    have rx := hq.1
    have hq := hq.2
    have ry := hq.1
    have hq := hq.2
    refine ⟨fun c => ?_, fun c => ?_⟩
    · have hq := hq.1 ((z_le ry rx).mp c)
      exact ⟨hq.1, hq.2.1.imp (congrArg zI) (congrArg zI), hk _ _ _ _ hq.2.2⟩
    · have hq := hq.2 (fun h => c ((z_le ry rx).mpr h))
      have rx := hq.1
      have hq := hq.2
      refine ⟨fun c => ?_, fun c => ?_⟩
      · have hq := hq.1 ((z_eq rx ⟨by decide, by decide⟩).mp c)
        exact ⟨hq.1, hq.2.1.imp (congrArg zI) (congrArg zI), hk _ _ _ _ hq.2.2⟩
      · have hq := hq.2 (fun h => c ((z_eq rx ⟨by decide, by decide⟩).mpr h))
        obtain ⟨hkb, r10, hr10, hq⟩ := hq
        refine ⟨hkb, zI r10, tn_X4_offerAt hh hs hr a2 x10 r10 hr10, ?_⟩
        try simp only [z_m1, z_0, z_1, z_2, z_3, z_4, z_5, z_6, z_8, z_9, z_10, z_12, z_16, z_30, z_31, z_99, z_300, z_500, z_600, z_20000, z_m13, z_m11, z_7, z_11, z_13, z_15, z_18, z_40, z_80, z_100, z_120, z_150, z_179, z_210, z_999, z_104021, z_268435455, z_3070017, z_nL, zadd, zsub, zmul, zneg, zap]
        refine ⟨zin hq.1.1 hq.1.2 (by decide), ?_⟩
        try simp only [zcl hq.1.1 (Int.lt_trans hq.1.2 (by decide))]
        have hq := hq.2
        try simp only [z_m1, z_0, z_1, z_2, z_3, z_4, z_5, z_6, z_8, z_9, z_10, z_12, z_16, z_30, z_31, z_99, z_300, z_500, z_600, z_20000, z_m13, z_m11, z_7, z_11, z_13, z_15, z_18, z_40, z_80, z_100, z_120, z_150, z_179, z_210, z_999, z_104021, z_268435455, z_3070017, z_nL, zadd, zsub, zmul, zneg, zap]
        exact hq)
  have hq := hq (by
    intro k hh hs hr x6 x7 x8 x10 x11 x12 x13 x14 hq
    refine k91 k (zS hh) (zS hs) (zS hr) (zI x6) (zI x7) (zI x8) (zI x10) (zI x11) (zI x12) (zI x13) (zI x14) ?_
    try simp only [z_m1, z_0, z_1, z_2, z_3, z_4, z_5, z_6, z_8, z_9, z_10, z_12, z_16, z_30, z_31, z_99, z_300, z_500, z_600, z_20000, z_m13, z_m11, z_7, z_11, z_13, z_15, z_18, z_40, z_80, z_100, z_120, z_150, z_179, z_210, z_999, z_104021, z_268435455, z_3070017, z_nL, zadd, zsub, zmul, zneg, zap]
    have rx := hq.1
    have hq := hq.2
    have ry := hq.1
    have hq := hq.2
    refine ⟨fun c => ?_, fun c => ?_⟩
    · have hq := hq.1 ((z_le ry rx).mp c)
      have rx := hq.1
      have hq := hq.2
      refine ⟨fun c => ?_, fun c => ?_⟩
      · have hq := hq.1 ((z_eq rx ⟨by decide, by decide⟩).mp c)
        exact hq
      · have hq := hq.2 (fun h => c ((z_eq rx ⟨by decide, by decide⟩).mpr h))
        refine ⟨zin hq.1.1 hq.1.2 (by decide), ?_⟩
        try simp only [zcl hq.1.1 (Int.lt_trans hq.1.2 (by decide))]
        have hq := hq.2
        try simp only [z_m1, z_0, z_1, z_2, z_3, z_4, z_5, z_6, z_8, z_9, z_10, z_12, z_16, z_30, z_31, z_99, z_300, z_500, z_600, z_20000, z_m13, z_m11, z_7, z_11, z_13, z_15, z_18, z_40, z_80, z_100, z_120, z_150, z_179, z_210, z_999, z_104021, z_268435455, z_3070017, z_nL, zadd, zsub, zmul, zneg, zap]
        have rx := hq.1
        have hq := hq.2
        have ry := hq.1
        have hq := hq.2
        refine ⟨fun c => ?_, fun c => ?_⟩
        · have hq := hq.1 ((z_lt rx ry).mp c)
          exact hq
        · have hq := hq.2 (fun h => c ((z_lt rx ry).mpr h))
          refine ⟨zin hq.1.1 hq.1.2 (by decide), ?_⟩
          try simp only [zcl hq.1.1 (Int.lt_trans hq.1.2 (by decide))]
          have hq := hq.2
          try simp only [z_m1, z_0, z_1, z_2, z_3, z_4, z_5, z_6, z_8, z_9, z_10, z_12, z_16, z_30, z_31, z_99, z_300, z_500, z_600, z_20000, z_m13, z_m11, z_7, z_11, z_13, z_15, z_18, z_40, z_80, z_100, z_120, z_150, z_179, z_210, z_999, z_104021, z_268435455, z_3070017, z_nL, zadd, zsub, zmul, zneg, zap]
          have rx := hq.1
          have hq := hq.2
          have ry := hq.1
          have hq := hq.2
          refine ⟨fun c => ?_, fun c => ?_⟩
          · have hq := hq.1 ((z_lt ry rx).mp c)
            exact hq
          · have hq := hq.2 (fun h => c ((z_lt ry rx).mpr h))
            obtain ⟨hkb, r11, hr11, hq⟩ := hq
            refine ⟨hkb, zI r11, tn_X4_left hh hs hr a2 r11 hr11, ?_⟩
            try simp only [z_m1, z_0, z_1, z_2, z_3, z_4, z_5, z_6, z_8, z_9, z_10, z_12, z_16, z_30, z_31, z_99, z_300, z_500, z_600, z_20000, z_m13, z_m11, z_7, z_11, z_13, z_15, z_18, z_40, z_80, z_100, z_120, z_150, z_179, z_210, z_999, z_104021, z_268435455, z_3070017, z_nL, zadd, zsub, zmul, zneg, zap]
            have rx := hq.1
            have hq := hq.2
            have ry := hq.1
            have hq := hq.2
            refine ⟨fun c => ?_, fun c => ?_⟩
            · have hq := hq.1 ((z_lt ry rx).mp c)
              exact hq
            · have hq := hq.2 (fun h => c ((z_lt ry rx).mpr h))
              have rx := hq.1
              have hq := hq.2
              have ry := hq.1
              have hq := hq.2
              refine ⟨fun c => ?_, fun c => ?_⟩
              · have hq := hq.1 ((z_lt rx ry).mp c)
                exact hq
              · have hq := hq.2 (fun h => c ((z_lt rx ry).mpr h))
                have rx := hq.1
                have hq := hq.2
                have ry := hq.1
                have hq := hq.2
                refine ⟨fun c => ?_, fun c => ?_⟩
                · have hq := hq.1 (fun h => c ((z_eq rx ry).mpr h))
                  exact hq
                · have hq := hq.2 ((z_eq rx ry).mp c)
                  have rx := hq.1
                  have hq := hq.2
                  have ry := hq.1
                  have hq := hq.2
                  refine ⟨fun c => ?_, fun c => ?_⟩
                  · have hq := hq.1 ((z_le rx ry).mp c)
                    exact hq
                  · have hq := hq.2 (fun h => c ((z_le rx ry).mpr h))
                    exact hq
    · have hq := hq.2 (fun h => c ((z_le ry rx).mpr h))
      have rx := hq.1
      have hq := hq.2
      refine ⟨fun c => ?_, fun c => ?_⟩
      · have hq := hq.1 (fun h => c ((z_eq rx ⟨by decide, by decide⟩).mpr h))
        exact hq
      · have hq := hq.2 ((z_eq rx ⟨by decide, by decide⟩).mp c)
        refine ⟨zin hq.1.1 hq.1.2 (by decide), ?_⟩
        try simp only [zcl hq.1.1 (Int.lt_trans hq.1.2 (by decide))]
        have hq := hq.2
        try simp only [z_m1, z_0, z_1, z_2, z_3, z_4, z_5, z_6, z_8, z_9, z_10, z_12, z_16, z_30, z_31, z_99, z_300, z_500, z_600, z_20000, z_m13, z_m11, z_7, z_11, z_13, z_15, z_18, z_40, z_80, z_100, z_120, z_150, z_179, z_210, z_999, z_104021, z_268435455, z_3070017, z_nL, zadd, zsub, zmul, zneg, zap]
        have rx := hq.1
        have hq := hq.2
        have ry := hq.1
        have hq := hq.2
        refine ⟨fun c => ?_, fun c => ?_⟩
        · have hq := hq.1 (fun h => c ((z_eq rx ry).mpr h))
          exact hq
        · have hq := hq.2 ((z_eq rx ry).mp c)
          obtain ⟨hkb, r12, hr12, hq⟩ := hq
          refine ⟨hkb, zI r12, tn_X4_lenders hh hs hr x14 r12 hr12, ?_⟩
          try simp only [z_m1, z_0, z_1, z_2, z_3, z_4, z_5, z_6, z_8, z_9, z_10, z_12, z_16, z_30, z_31, z_99, z_300, z_500, z_600, z_20000, z_m13, z_m11, z_7, z_11, z_13, z_15, z_18, z_40, z_80, z_100, z_120, z_150, z_179, z_210, z_999, z_104021, z_268435455, z_3070017, z_nL, zadd, zsub, zmul, zneg, zap]
          have rx := hq.1
          have hq := hq.2
          refine ⟨fun c => ?_, fun c => ?_⟩
          · have hq := hq.1 ((z_lt rx ⟨by decide, by decide⟩).mp c)
            exact hq
          · have hq := hq.2 (fun h => c ((z_lt rx ⟨by decide, by decide⟩).mpr h))
            exact hq)
  have hq := hq (by
    intro k hh hs hr x6 x10 x11 x12 hq
    refine k193 k (zS hh) (zS hs) (zS hr) (zI x6) (zI x10) (zI x11) (zI x12) ?_
    try simp only [z_m1, z_0, z_1, z_2, z_3, z_4, z_5, z_6, z_8, z_9, z_10, z_12, z_16, z_30, z_31, z_99, z_300, z_500, z_600, z_20000, z_m13, z_m11, z_7, z_11, z_13, z_15, z_18, z_40, z_80, z_100, z_120, z_150, z_179, z_210, z_999, z_104021, z_268435455, z_3070017, z_nL, zadd, zsub, zmul, zneg, zap]
    exact hq)
  have hq := hq (by
    intro k hh hs hr x6 x10 x11 x12 hq
    refine k197 k (zS hh) (zS hs) (zS hr) (zI x6) (zI x10) (zI x11) (zI x12) ?_
    try simp only [z_m1, z_0, z_1, z_2, z_3, z_4, z_5, z_6, z_8, z_9, z_10, z_12, z_16, z_30, z_31, z_99, z_300, z_500, z_600, z_20000, z_m13, z_m11, z_7, z_11, z_13, z_15, z_18, z_40, z_80, z_100, z_120, z_150, z_179, z_210, z_999, z_104021, z_268435455, z_3070017, z_nL, zadd, zsub, zmul, zneg, zap]
    exact hq)
  try simp only [z_m1, z_0, z_1, z_2, z_3, z_4, z_5, z_6, z_8, z_9, z_10, z_12, z_16, z_30, z_31, z_99, z_300, z_500, z_600, z_20000, z_m13, z_m11, z_7, z_11, z_13, z_15, z_18, z_40, z_80, z_100, z_120, z_150, z_179, z_210, z_999, z_104021, z_268435455, z_3070017, z_nL, zadd, zsub, zmul, zneg, zap]
  obtain ⟨hkb, r1, hr1, hq⟩ := hq
  refine ⟨hkb, zI r1, tn_X4_offers hh hs hr a2 r1 hr1, ?_⟩
  try simp only [z_m1, z_0, z_1, z_2, z_3, z_4, z_5, z_6, z_8, z_9, z_10, z_12, z_16, z_30, z_31, z_99, z_300, z_500, z_600, z_20000, z_m13, z_m11, z_7, z_11, z_13, z_15, z_18, z_40, z_80, z_100, z_120, z_150, z_179, z_210, z_999, z_104021, z_268435455, z_3070017, z_nL, zadd, zsub, zmul, zneg, zap]
  refine ⟨hq.1, tm_L_on hh hs hr (7 : Int) a2 r1 (0 : Int) _ _ (fun r2 hh3 hs4 hr5 hq => ?_) hq.2⟩
  try simp only [z_m1, z_0, z_1, z_2, z_3, z_4, z_5, z_6, z_8, z_9, z_10, z_12, z_16, z_30, z_31, z_99, z_300, z_500, z_600, z_20000, z_m13, z_m11, z_7, z_11, z_13, z_15, z_18, z_40, z_80, z_100, z_120, z_150, z_179, z_210, z_999, z_104021, z_268435455, z_3070017, z_nL, zadd, zsub, zmul, zneg, zap]
  have rx := hq.1
  have hq := hq.2
  refine ⟨fun c => ?_, fun c => ?_⟩
  · have hq := hq.1 (fun h => c ((z_eq rx ⟨by decide, by decide⟩).mpr h))
    exact hq
  · have hq := hq.2 ((z_eq rx ⟨by decide, by decide⟩).mp c)
    refine ⟨hq.1, tm_L_on hh3 hs4 hr5 (7 : Int) a2 (-1 : Int) (0 : Int) _ _ (fun r6 hh7 hs8 hr9 hq => ?_) hq.2⟩
    try simp only [z_m1, z_0, z_1, z_2, z_3, z_4, z_5, z_6, z_8, z_9, z_10, z_12, z_16, z_30, z_31, z_99, z_300, z_500, z_600, z_20000, z_m13, z_m11, z_7, z_11, z_13, z_15, z_18, z_40, z_80, z_100, z_120, z_150, z_179, z_210, z_999, z_104021, z_268435455, z_3070017, z_nL, zadd, zsub, zmul, zneg, zap]
    have rx := hq.1
    have hq := hq.2
    refine ⟨fun c => ?_, fun c => ?_⟩
    · have hq := hq.1 (fun h => c ((z_eq rx ⟨by decide, by decide⟩).mpr h))
      exact hq
    · have hq := hq.2 ((z_eq rx ⟨by decide, by decide⟩).mp c)
      exact hq
