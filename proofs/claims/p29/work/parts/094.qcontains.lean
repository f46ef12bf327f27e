def Q_X4_contains (a0 : Int) (a1 : Int) (r : Int) : Prop := ((0 ≤ a0 ∧ a0 ≤ 2147483647) ∧ (0 ≤ a1 ∧ a1 < 32) ∧ ((0 ≤ (ishr a0 a1) ∧ (ishr a0 a1) ≤ 2147483647) ∧ (inR ((ishr a0 a1) % 2) ∧ ((((ishr a0 a1) % 2) = (0 : Int) → (r = (0 : Int))) ∧ (¬ ((ishr a0 a1) % 2) = (0 : Int) → (r = (1 : Int)))))))
set_option maxRecDepth 100000 in
set_option maxHeartbeats 4000000 in
theorem t_X4_contains (a0 : Int) (a1 : Int) (r : Int) (hq : Q_X4_contains a0 a1 r) : P_X4_contains (zI a0) (zI a1) (zI r) := by
  unfold P_X4_contains
  unfold Q_X4_contains at hq
  try simp only [z_m1, z_0, z_1, z_2, z_3, z_4, z_5, z_6, z_8, z_9, z_10, z_12, z_16, z_30, z_31, z_99, z_300, z_500, z_600, z_20000, zadd, zsub, zmul, zneg, zap]
  simp only [zshr hq.1 hq.2.1]
  have hq := hq.2.2
  try simp only [z_m1, z_0, z_1, z_2, z_3, z_4, z_5, z_6, z_8, z_9, z_10, z_12, z_16, z_30, z_31, z_99, z_300, z_500, z_600, z_20000, zadd, zsub, zmul, zneg, zap]
  rw [zand1 hq.1]
  have hq := hq.2
  try simp only [z_m1, z_0, z_1, z_2, z_3, z_4, z_5, z_6, z_8, z_9, z_10, z_12, z_16, z_30, z_31, z_99, z_300, z_500, z_600, z_20000, zadd, zsub, zmul, zneg, zap]
  have rx := hq.1
  have hq := hq.2
  refine ⟨fun c => ?_, fun c => ?_⟩
  · have hq := hq.1 ((z_eq rx ⟨by decide, by decide⟩).mp c)
    exact congrArg zI hq
  · have hq := hq.2 (fun h => c ((z_eq rx ⟨by decide, by decide⟩).mpr h))
    exact congrArg zI hq
