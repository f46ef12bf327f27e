def Q_X1_rulesOf (h : ISt) (a1 : Int) (r : Int) : Prop := (inR a1 ∧ (r = (iat 8 (h 1) a1)))
set_option maxRecDepth 100000 in
set_option maxHeartbeats 4000000 in
theorem t_X1_rulesOf (h : ISt) (a1 : Int) (r : Int) (hq : Q_X1_rulesOf h a1 r) : P_X1_rulesOf (zS h) (zI a1) (zI r) := by
  unfold P_X1_rulesOf
  unfold Q_X1_rulesOf at hq
  try simp only [z_m1, z_0, z_1, z_2, z_3, z_4, z_5, z_6, z_8, z_9, z_10, z_12, z_16, z_30, z_31, z_99, z_300, z_500, z_600, z_20000, zadd, zsub, zmul, zneg, zap]
  try simp only [zat (N := 8) hq.1 (by decide)]
  have hq := hq.2
  try simp only [z_m1, z_0, z_1, z_2, z_3, z_4, z_5, z_6, z_8, z_9, z_10, z_12, z_16, z_30, z_31, z_99, z_300, z_500, z_600, z_20000, zadd, zsub, zmul, zneg, zap]
  exact congrArg zI hq
def Q_X1_putRule (h : ISt) (a1 : Int) (a2 : Int) (a3 : Int) (a4 : Int) (a5 : Int) (r : Int) (h' : ISt) : Prop := (inR a1 ∧ (inR ((a1 * (12 : Int)) + (iat 8 (h 1) a1)) ∧ (∀ h3 : ISt, h3 = iput h 2 96 ((a1 * (12 : Int)) + (iat 8 (h 1) a1)) a2 → (inR ((a1 * (12 : Int)) + (iat 8 (h 1) a1)) ∧ (∀ h5 : ISt, h5 = iput h3 3 96 ((a1 * (12 : Int)) + (iat 8 (h 1) a1)) a3 → (inR ((a1 * (12 : Int)) + (iat 8 (h 1) a1)) ∧ (∀ h7 : ISt, h7 = iput h5 4 96 ((a1 * (12 : Int)) + (iat 8 (h 1) a1)) a4 → (inR ((a1 * (12 : Int)) + (iat 8 (h 1) a1)) ∧ (∀ h9 : ISt, h9 = iput h7 5 96 ((a1 * (12 : Int)) + (iat 8 (h 1) a1)) a5 → (inR a1 ∧ (∀ h11 : ISt, h11 = iput h9 1 8 a1 ((iat 8 (h 1) a1) + (1 : Int)) → (r = (iat 8 (h 1) a1) ∧ h' = h11))))))))))))
set_option maxRecDepth 100000 in
set_option maxHeartbeats 4000000 in
theorem t_X1_putRule (h : ISt) (a1 : Int) (a2 : Int) (a3 : Int) (a4 : Int) (a5 : Int) (r : Int) (h' : ISt) (hq : Q_X1_putRule h a1 a2 a3 a4 a5 r h') : P_X1_putRule (zS h) (zI a1) (zI a2) (zI a3) (zI a4) (zI a5) (zI r) (zS h') := by
  unfold P_X1_putRule
  unfold Q_X1_putRule at hq
  try simp only [z_m1, z_0, z_1, z_2, z_3, z_4, z_5, z_6, z_8, z_9, z_10, z_12, z_16, z_30, z_31, z_99, z_300, z_500, z_600, z_20000, zadd, zsub, zmul, zneg, zap]
  try simp only [zat (N := 8) hq.1 (by decide)]
  have hq := hq.2
  try simp only [z_m1, z_0, z_1, z_2, z_3, z_4, z_5, z_6, z_8, z_9, z_10, z_12, z_16, z_30, z_31, z_99, z_300, z_500, z_600, z_20000, zadd, zsub, zmul, zneg, zap]
  have rx := hq.1
  have hq := hq.2
  intro g9 eg9
  rw [zput rx (by decide)] at eg9
  subst eg9
  have hq := hq _ rfl
  generalize iput h 2 96 ((a1 * (12 : Int)) + (iat 8 (h 1) a1)) a2 = h3 at hq ⊢
  try simp only [z_m1, z_0, z_1, z_2, z_3, z_4, z_5, z_6, z_8, z_9, z_10, z_12, z_16, z_30, z_31, z_99, z_300, z_500, z_600, z_20000, zadd, zsub, zmul, zneg, zap]
  have rx := hq.1
  have hq := hq.2
  intro g9 eg9
  rw [zput rx (by decide)] at eg9
  subst eg9
  have hq := hq _ rfl
  generalize iput h3 3 96 ((a1 * (12 : Int)) + (iat 8 (h 1) a1)) a3 = h5 at hq ⊢
  try simp only [z_m1, z_0, z_1, z_2, z_3, z_4, z_5, z_6, z_8, z_9, z_10, z_12, z_16, z_30, z_31, z_99, z_300, z_500, z_600, z_20000, zadd, zsub, zmul, zneg, zap]
  have rx := hq.1
  have hq := hq.2
  intro g9 eg9
  rw [zput rx (by decide)] at eg9
  subst eg9
  have hq := hq _ rfl
  generalize iput h5 4 96 ((a1 * (12 : Int)) + (iat 8 (h 1) a1)) a4 = h7 at hq ⊢
  try simp only [z_m1, z_0, z_1, z_2, z_3, z_4, z_5, z_6, z_8, z_9, z_10, z_12, z_16, z_30, z_31, z_99, z_300, z_500, z_600, z_20000, zadd, zsub, zmul, zneg, zap]
  have rx := hq.1
  have hq := hq.2
  intro g9 eg9
  rw [zput rx (by decide)] at eg9
  subst eg9
  have hq := hq _ rfl
  generalize iput h7 5 96 ((a1 * (12 : Int)) + (iat 8 (h 1) a1)) a5 = h9 at hq ⊢
  try simp only [z_m1, z_0, z_1, z_2, z_3, z_4, z_5, z_6, z_8, z_9, z_10, z_12, z_16, z_30, z_31, z_99, z_300, z_500, z_600, z_20000, zadd, zsub, zmul, zneg, zap]
  have rx := hq.1
  have hq := hq.2
  intro g9 eg9
  rw [zput rx (by decide)] at eg9
  subst eg9
  have hq := hq _ rfl
  generalize iput h9 1 8 a1 ((iat 8 (h 1) a1) + (1 : Int)) = h11 at hq ⊢
  try simp only [z_m1, z_0, z_1, z_2, z_3, z_4, z_5, z_6, z_8, z_9, z_10, z_12, z_16, z_30, z_31, z_99, z_300, z_500, z_600, z_20000, zadd, zsub, zmul, zneg, zap]
  exact ⟨congrArg zI hq.1, congrArg zS hq.2⟩
def Q_X1_parentOf (h : ISt) (a1 : Int) (a2 : Int) (r : Int) : Prop := (inR ((a1 * (12 : Int)) + a2) ∧ (r = (iat 96 (h 2) ((a1 * (12 : Int)) + a2))))
set_option maxRecDepth 100000 in
set_option maxHeartbeats 4000000 in
theorem t_X1_parentOf (h : ISt) (a1 : Int) (a2 : Int) (r : Int) (hq : Q_X1_parentOf h a1 a2 r) : P_X1_parentOf (zS h) (zI a1) (zI a2) (zI r) := by
  unfold P_X1_parentOf
  unfold Q_X1_parentOf at hq
  try simp only [z_m1, z_0, z_1, z_2, z_3, z_4, z_5, z_6, z_8, z_9, z_10, z_12, z_16, z_30, z_31, z_99, z_300, z_500, z_600, z_20000, zadd, zsub, zmul, zneg, zap]
  try simp only [zat (N := 96) hq.1 (by decide)]
  have hq := hq.2
  try simp only [z_m1, z_0, z_1, z_2, z_3, z_4, z_5, z_6, z_8, z_9, z_10, z_12, z_16, z_30, z_31, z_99, z_300, z_500, z_600, z_20000, zadd, zsub, zmul, zneg, zap]
  exact congrArg zI hq
def Q_X1_holds (a0 : Int) (a1 : Int) (a2 : Int) (a3 : Int) (a4 : Int) (r : Int) : Prop := (inR a0 ∧ ((a0 = (0 : Int) → (inR a2 ∧ inR a1 ∧ ((a2 < a1 → (r = (0 : Int))) ∧ (¬ a2 < a1 → (r = (1 : Int)))))) ∧ (¬ a0 = (0 : Int) → ((a0 = (1 : Int) → (inR a3 ∧ inR a1 ∧ ((a1 ≤ a3 → (r = (0 : Int))) ∧ (¬ a1 ≤ a3 → (r = (1 : Int)))))) ∧ (¬ a0 = (1 : Int) → ((a0 = (2 : Int) → (inR a1 ∧ ((a1 ≤ (0 : Int) → (r = (0 : Int))) ∧ (¬ a1 ≤ (0 : Int) → ((0 ≤ a2 ∧ a2 ≤ 2147483647) ∧ (0 < a1 ∧ a1 ≤ 2147483647) ∧ (inR (a2 % a1) ∧ ((¬ (a2 % a1) = (0 : Int) → (r = (0 : Int))) ∧ ((a2 % a1) = (0 : Int) → (r = (1 : Int)))))))))) ∧ (¬ a0 = (2 : Int) → ((a0 = (3 : Int) → (inR a4 ∧ inR a1 ∧ ((a4 < a1 → (r = (0 : Int))) ∧ (¬ a4 < a1 → (r = (1 : Int)))))) ∧ (¬ a0 = (3 : Int) → (r = (0 : Int)))))))))))
set_option maxRecDepth 100000 in
set_option maxHeartbeats 4000000 in
theorem t_X1_holds (a0 : Int) (a1 : Int) (a2 : Int) (a3 : Int) (a4 : Int) (r : Int) (hq : Q_X1_holds a0 a1 a2 a3 a4 r) : P_X1_holds (zI a0) (zI a1) (zI a2) (zI a3) (zI a4) (zI r) := by
  unfold P_X1_holds
  unfold Q_X1_holds at hq
  try simp only [z_m1, z_0, z_1, z_2, z_3, z_4, z_5, z_6, z_8, z_9, z_10, z_12, z_16, z_30, z_31, z_99, z_300, z_500, z_600, z_20000, zadd, zsub, zmul, zneg, zap]
  have rx := hq.1
  have hq := hq.2
  refine ⟨fun c => ?_, fun c => ?_⟩
  · have hq := hq.1 ((z_eq rx ⟨by decide, by decide⟩).mp c)
    have rx := hq.1
    have hq := hq.2
    have ry := hq.1
    have hq := hq.2
    refine ⟨fun c => ?_, fun c => ?_⟩
    · have hq := hq.1 ((z_lt rx ry).mp c)
      exact congrArg zI hq
    · have hq := hq.2 (fun h => c ((z_lt rx ry).mpr h))
      exact congrArg zI hq
  have hq := hq.2 (fun h => c ((z_eq rx ⟨by decide, by decide⟩).mpr h))
  refine ⟨fun c => ?_, fun c => ?_⟩
  · have hq := hq.1 ((z_eq rx ⟨by decide, by decide⟩).mp c)
    have rx := hq.1
    have hq := hq.2
    have ry := hq.1
    have hq := hq.2
    refine ⟨fun c => ?_, fun c => ?_⟩
    · have hq := hq.1 ((z_le ry rx).mp c)
      exact congrArg zI hq
    · have hq := hq.2 (fun h => c ((z_le ry rx).mpr h))
      exact congrArg zI hq
  have hq := hq.2 (fun h => c ((z_eq rx ⟨by decide, by decide⟩).mpr h))
  refine ⟨fun c => ?_, fun c => ?_⟩
  · have hq := hq.1 ((z_eq rx ⟨by decide, by decide⟩).mp c)
    have rx := hq.1
    have hq := hq.2
    refine ⟨fun c => ?_, fun c => ?_⟩
    · have hq := hq.1 ((z_le rx ⟨by decide, by decide⟩).mp c)
      exact congrArg zI hq
    · have hq := hq.2 (fun h => c ((z_le rx ⟨by decide, by decide⟩).mpr h))
      refine ⟨fun c0 => absurd ((z_eq (by have := hq.2.1; unfold inR; omega) ⟨by decide, by decide⟩).mp c0) (by have := hq.2.1; omega), ?_⟩
      try simp only [← zadd, ← zsub, ← zmul]
      simp only [zrem hq.1 hq.2.1]
      have hq := hq.2.2
      try simp only [z_m1, z_0, z_1, z_2, z_3, z_4, z_5, z_6, z_8, z_9, z_10, z_12, z_16, z_30, z_31, z_99, z_300, z_500, z_600, z_20000, zadd, zsub, zmul, zneg, zap]
      have rx := hq.1
      have hq := hq.2
      refine ⟨fun c => ?_, fun c => ?_⟩
      · have hq := hq.1 (fun h => c ((z_eq rx ⟨by decide, by decide⟩).mpr h))
        exact congrArg zI hq
      · have hq := hq.2 ((z_eq rx ⟨by decide, by decide⟩).mp c)
        exact congrArg zI hq
  have hq := hq.2 (fun h => c ((z_eq rx ⟨by decide, by decide⟩).mpr h))
  refine ⟨fun c => ?_, fun c => ?_⟩
  · have hq := hq.1 ((z_eq rx ⟨by decide, by decide⟩).mp c)
    have rx := hq.1
    have hq := hq.2
    have ry := hq.1
    have hq := hq.2
    refine ⟨fun c => ?_, fun c => ?_⟩
    · have hq := hq.1 ((z_lt rx ry).mp c)
      exact congrArg zI hq
    · have hq := hq.2 (fun h => c ((z_lt rx ry).mpr h))
      exact congrArg zI hq
  have hq := hq.2 (fun h => c ((z_eq rx ⟨by decide, by decide⟩).mpr h))
  exact congrArg zI hq
def Q_X1_holding (h : ISt) (a1 : Int) (a2 : Int) (a3 : Int) (a4 : Int) (r : Int) : Prop := ∀ V6 : Int → Int → Prop, (∀ x5 x6 : Int, (inR a1 ∧ (inR x6 ∧ inR (iat 8 (h 1) a1) ∧ (((iat 8 (h 1) a1) ≤ x6 → (r = x5)) ∧ (¬ (iat 8 (h 1) a1) ≤ x6 → (inR ((a1 * (12 : Int)) + x6) ∧ (inR ((a1 * (12 : Int)) + x6) ∧ (∃ r4 : Int, Q_X1_holds (iat 96 (h 3) ((a1 * (12 : Int)) + x6)) (iat 96 (h 4) ((a1 * (12 : Int)) + x6)) a2 a3 a4 r4 ∧ (inR r4 ∧ ((r4 = (0 : Int) → (V6 x5 (x6 + (1 : Int)))) ∧ (¬ r4 = (0 : Int) → ((0 ≤ x6 ∧ x6 < 31) ∧ ((0 ≤ x5) ∧ (0 ≤ (ishl1 x6)) ∧ (V6 (iior x5 (ishl1 x6)) (x6 + (1 : Int))))))))))))))) → V6 x5 x6) → (V6 (0 : Int) (0 : Int))
set_option maxRecDepth 100000 in
set_option maxHeartbeats 4000000 in
theorem t_X1_holding (h : ISt) (a1 : Int) (a2 : Int) (a3 : Int) (a4 : Int) (r : Int) (hq : Q_X1_holding h a1 a2 a3 a4 r) : P_X1_holding (zS h) (zI a1) (zI a2) (zI a3) (zI a4) (zI r) := by
  intro V6 k6
  have hq := hq (fun x5 x6 => V6 (zI x5) (zI x6))
  have hq := hq (by
    intro x5 x6 hq
    refine k6 (zI x5) (zI x6) ?_
    try simp only [z_m1, z_0, z_1, z_2, z_3, z_4, z_5, z_6, z_8, z_9, z_10, z_12, z_16, z_30, z_31, z_99, z_300, z_500, z_600, z_20000, zadd, zsub, zmul, zneg, zap]
    try simp only [zat (N := 8) hq.1 (by decide)]
    have hq := hq.2
    try simp only [z_m1, z_0, z_1, z_2, z_3, z_4, z_5, z_6, z_8, z_9, z_10, z_12, z_16, z_30, z_31, z_99, z_300, z_500, z_600, z_20000, zadd, zsub, zmul, zneg, zap]
    have rx := hq.1
    have hq := hq.2
    have ry := hq.1
    have hq := hq.2
    refine ⟨fun c => ?_, fun c => ?_⟩
    · have hq := hq.1 ((z_le ry rx).mp c)
      exact congrArg zI hq
    · have hq := hq.2 (fun h => c ((z_le ry rx).mpr h))
      try simp only [zat (N := 96) hq.1 (by decide)]
      have hq := hq.2
      try simp only [z_m1, z_0, z_1, z_2, z_3, z_4, z_5, z_6, z_8, z_9, z_10, z_12, z_16, z_30, z_31, z_99, z_300, z_500, z_600, z_20000, zadd, zsub, zmul, zneg, zap]
      try simp only [zat (N := 96) hq.1 (by decide)]
      have hq := hq.2
      try simp only [z_m1, z_0, z_1, z_2, z_3, z_4, z_5, z_6, z_8, z_9, z_10, z_12, z_16, z_30, z_31, z_99, z_300, z_500, z_600, z_20000, zadd, zsub, zmul, zneg, zap]
      obtain ⟨r4, hr4, hq⟩ := hq
      refine ⟨zI r4, t_X1_holds (iat 96 (h 3) ((a1 * (12 : Int)) + x6)) (iat 96 (h 4) ((a1 * (12 : Int)) + x6)) a2 a3 a4 r4 hr4, ?_⟩
      try simp only [z_m1, z_0, z_1, z_2, z_3, z_4, z_5, z_6, z_8, z_9, z_10, z_12, z_16, z_30, z_31, z_99, z_300, z_500, z_600, z_20000, zadd, zsub, zmul, zneg, zap]
      have rx := hq.1
      have hq := hq.2
      refine ⟨fun c => ?_, fun c => ?_⟩
      · have hq := hq.1 ((z_eq rx ⟨by decide, by decide⟩).mp c)
        exact hq
      · have hq := hq.2 (fun h => c ((z_eq rx ⟨by decide, by decide⟩).mpr h))
        simp only [zshl hq.1]
        have hq := hq.2
        try simp only [z_m1, z_0, z_1, z_2, z_3, z_4, z_5, z_6, z_8, z_9, z_10, z_12, z_16, z_30, z_31, z_99, z_300, z_500, z_600, z_20000, zadd, zsub, zmul, zneg, zap]
        simp only [zior hq.1 hq.2.1]
        have hq := hq.2.2
        try simp only [z_m1, z_0, z_1, z_2, z_3, z_4, z_5, z_6, z_8, z_9, z_10, z_12, z_16, z_30, z_31, z_99, z_300, z_500, z_600, z_20000, zadd, zsub, zmul, zneg, zap]
        exact hq)
  try simp only [z_m1, z_0, z_1, z_2, z_3, z_4, z_5, z_6, z_8, z_9, z_10, z_12, z_16, z_30, z_31, z_99, z_300, z_500, z_600, z_20000, zadd, zsub, zmul, zneg, zap]
  exact hq
def Q_X1_firstHolding (h : ISt) (a1 : Int) (a2 : Int) (a3 : Int) (r : Int) : Prop := ∀ V3 : Int → Prop, (∀ x4 : Int, (inR a1 ∧ (inR x4 ∧ inR (iat 8 (h 1) a1) ∧ (((iat 8 (h 1) a1) ≤ x4 → (r = (-1 : Int))) ∧ (¬ (iat 8 (h 1) a1) ≤ x4 → (∃ r2 : Int, Q_X1_parentOf h a1 x4 r2 ∧ (inR r2 ∧ inR a2 ∧ ((¬ r2 = a2 → (V3 (x4 + (1 : Int)))) ∧ (r2 = a2 → (∃ r3 : Int, Q_X4_contains a3 x4 r3 ∧ (inR r3 ∧ ((r3 = (0 : Int) → (V3 (x4 + (1 : Int)))) ∧ (¬ r3 = (0 : Int) → (r = x4))))))))))))) → V3 x4) → (V3 (0 : Int))
set_option maxRecDepth 100000 in
set_option maxHeartbeats 4000000 in
theorem t_X1_firstHolding (h : ISt) (a1 : Int) (a2 : Int) (a3 : Int) (r : Int) (hq : Q_X1_firstHolding h a1 a2 a3 r) : P_X1_firstHolding (zS h) (zI a1) (zI a2) (zI a3) (zI r) := by
  intro V3 k3
  have hq := hq (fun x4 => V3 (zI x4))
  have hq := hq (by
    intro x4 hq
    refine k3 (zI x4) ?_
    try simp only [z_m1, z_0, z_1, z_2, z_3, z_4, z_5, z_6, z_8, z_9, z_10, z_12, z_16, z_30, z_31, z_99, z_300, z_500, z_600, z_20000, zadd, zsub, zmul, zneg, zap]
    try simp only [zat (N := 8) hq.1 (by decide)]
    have hq := hq.2
    try simp only [z_m1, z_0, z_1, z_2, z_3, z_4, z_5, z_6, z_8, z_9, z_10, z_12, z_16, z_30, z_31, z_99, z_300, z_500, z_600, z_20000, zadd, zsub, zmul, zneg, zap]
    have rx := hq.1
    have hq := hq.2
    have ry := hq.1
    have hq := hq.2
    refine ⟨fun c => ?_, fun c => ?_⟩
    · have hq := hq.1 ((z_le ry rx).mp c)
      exact congrArg zI hq
    · have hq := hq.2 (fun h => c ((z_le ry rx).mpr h))
      obtain ⟨r2, hr2, hq⟩ := hq
      refine ⟨zI r2, t_X1_parentOf h a1 x4 r2 hr2, ?_⟩
      try simp only [z_m1, z_0, z_1, z_2, z_3, z_4, z_5, z_6, z_8, z_9, z_10, z_12, z_16, z_30, z_31, z_99, z_300, z_500, z_600, z_20000, zadd, zsub, zmul, zneg, zap]
      have rx := hq.1
      have hq := hq.2
      have ry := hq.1
      have hq := hq.2
      refine ⟨fun c => ?_, fun c => ?_⟩
      · have hq := hq.1 (fun h => c ((z_eq rx ry).mpr h))
        exact hq
      · have hq := hq.2 ((z_eq rx ry).mp c)
        obtain ⟨r3, hr3, hq⟩ := hq
        refine ⟨zI r3, t_X4_contains a3 x4 r3 hr3, ?_⟩
        try simp only [z_m1, z_0, z_1, z_2, z_3, z_4, z_5, z_6, z_8, z_9, z_10, z_12, z_16, z_30, z_31, z_99, z_300, z_500, z_600, z_20000, zadd, zsub, zmul, zneg, zap]
        have rx := hq.1
        have hq := hq.2
        refine ⟨fun c => ?_, fun c => ?_⟩
        · have hq := hq.1 ((z_eq rx ⟨by decide, by decide⟩).mp c)
          exact hq
        · have hq := hq.2 (fun h => c ((z_eq rx ⟨by decide, by decide⟩).mpr h))
          exact congrArg zI hq)
  try simp only [z_m1, z_0, z_1, z_2, z_3, z_4, z_5, z_6, z_8, z_9, z_10, z_12, z_16, z_30, z_31, z_99, z_300, z_500, z_600, z_20000, zadd, zsub, zmul, zneg, zap]
  exact hq
def Q_X1_rulingGoingDown (h : ISt) (a1 : Int) (a2 : Int) (r : Int) : Prop := ∀ V5 : Int → Int → Prop, ∀ V39 : Int → Prop, (∀ x3 x4 : Int, (inR x4 ∧ (((12 : Int) ≤ x4 → (V39 x3)) ∧ (¬ (12 : Int) ≤ x4 → (∃ r1 : Int, Q_X1_firstHolding h a1 x3 a2 r1 ∧ (inR r1 ∧ ((¬ r1 = (-1 : Int) → (V5 r1 (x4 + (1 : Int)))) ∧ (r1 = (-1 : Int) → (V39 x3)))))))) → V5 x3 x4) → (∀ x3 : Int, (inR x3 ∧ ((¬ x3 = (-1 : Int) → (inR ((a1 * (12 : Int)) + x3) ∧ (r = (iat 96 (h 5) ((a1 * (12 : Int)) + x3))))) ∧ (x3 = (-1 : Int) → (r = (-1 : Int))))) → V39 x3) → (V5 (-1 : Int) (0 : Int))
set_option maxRecDepth 100000 in
set_option maxHeartbeats 4000000 in
theorem t_X1_rulingGoingDown (h : ISt) (a1 : Int) (a2 : Int) (r : Int) (hq : Q_X1_rulingGoingDown h a1 a2 r) : P_X1_rulingGoingDown (zS h) (zI a1) (zI a2) (zI r) := by
  intro V5 V39 k5 k39
  have hq := hq (fun x3 x4 => V5 (zI x3) (zI x4)) (fun x3 => V39 (zI x3))
  have hq := hq (by
    intro x3 x4 hq
    refine k5 (zI x3) (zI x4) ?_
    try simp only [z_m1, z_0, z_1, z_2, z_3, z_4, z_5, z_6, z_8, z_9, z_10, z_12, z_16, z_30, z_31, z_99, z_300, z_500, z_600, z_20000, zadd, zsub, zmul, zneg, zap]
    have rx := hq.1
    have hq := hq.2
    refine ⟨fun c => ?_, fun c => ?_⟩
    · have hq := hq.1 ((z_le ⟨by decide, by decide⟩ rx).mp c)
      exact hq
    · have hq := hq.2 (fun h => c ((z_le ⟨by decide, by decide⟩ rx).mpr h))
      obtain ⟨r1, hr1, hq⟩ := hq
      refine ⟨zI r1, t_X1_firstHolding h a1 x3 a2 r1 hr1, ?_⟩
      try simp only [z_m1, z_0, z_1, z_2, z_3, z_4, z_5, z_6, z_8, z_9, z_10, z_12, z_16, z_30, z_31, z_99, z_300, z_500, z_600, z_20000, zadd, zsub, zmul, zneg, zap]
      have rx := hq.1
      have hq := hq.2
      refine ⟨fun c => ?_, fun c => ?_⟩
      · have hq := hq.1 (fun h => c ((z_eq rx ⟨by decide, by decide⟩).mpr h))
        exact hq
      · have hq := hq.2 ((z_eq rx ⟨by decide, by decide⟩).mp c)
        exact hq)
  have hq := hq (by
    intro x3 hq
    refine k39 (zI x3) ?_
    try simp only [z_m1, z_0, z_1, z_2, z_3, z_4, z_5, z_6, z_8, z_9, z_10, z_12, z_16, z_30, z_31, z_99, z_300, z_500, z_600, z_20000, zadd, zsub, zmul, zneg, zap]
    have rx := hq.1
    have hq := hq.2
    refine ⟨fun c => ?_, fun c => ?_⟩
    · have hq := hq.1 (fun h => c ((z_eq rx ⟨by decide, by decide⟩).mpr h))
      try simp only [zat (N := 96) hq.1 (by decide)]
      have hq := hq.2
      try simp only [z_m1, z_0, z_1, z_2, z_3, z_4, z_5, z_6, z_8, z_9, z_10, z_12, z_16, z_30, z_31, z_99, z_300, z_500, z_600, z_20000, zadd, zsub, zmul, zneg, zap]
      exact congrArg zI hq
    · have hq := hq.2 ((z_eq rx ⟨by decide, by decide⟩).mp c)
      exact congrArg zI hq)
  try simp only [z_m1, z_0, z_1, z_2, z_3, z_4, z_5, z_6, z_8, z_9, z_10, z_12, z_16, z_30, z_31, z_99, z_300, z_500, z_600, z_20000, zadd, zsub, zmul, zneg, zap]
  exact hq
def Q_X1_holdsAmong (h : ISt) (a1 : Int) (a2 : Int) (a3 : Int) (a4 : Int) (r : Int) : Prop := ∀ V3 : Int → Prop, (∀ x5 : Int, (inR x5 ∧ inR a3 ∧ ((a3 ≤ x5 → (r = (0 : Int))) ∧ (¬ a3 ≤ x5 → (∃ r1 : Int, Q_X1_parentOf h a1 x5 r1 ∧ (inR r1 ∧ inR a2 ∧ ((¬ r1 = a2 → (V3 (x5 + (1 : Int)))) ∧ (r1 = a2 → (∃ r2 : Int, Q_X4_contains a4 x5 r2 ∧ (inR r2 ∧ ((r2 = (0 : Int) → (V3 (x5 + (1 : Int)))) ∧ (¬ r2 = (0 : Int) → (r = (1 : Int))))))))))))) → V3 x5) → (V3 (0 : Int))
set_option maxRecDepth 100000 in
set_option maxHeartbeats 4000000 in
theorem t_X1_holdsAmong (h : ISt) (a1 : Int) (a2 : Int) (a3 : Int) (a4 : Int) (r : Int) (hq : Q_X1_holdsAmong h a1 a2 a3 a4 r) : P_X1_holdsAmong (zS h) (zI a1) (zI a2) (zI a3) (zI a4) (zI r) := by
  intro V3 k3
  have hq := hq (fun x5 => V3 (zI x5))
  have hq := hq (by
    intro x5 hq
    refine k3 (zI x5) ?_
    try simp only [z_m1, z_0, z_1, z_2, z_3, z_4, z_5, z_6, z_8, z_9, z_10, z_12, z_16, z_30, z_31, z_99, z_300, z_500, z_600, z_20000, zadd, zsub, zmul, zneg, zap]
    have rx := hq.1
    have hq := hq.2
    have ry := hq.1
    have hq := hq.2
    refine ⟨fun c => ?_, fun c => ?_⟩
    · have hq := hq.1 ((z_le ry rx).mp c)
      exact congrArg zI hq
    · have hq := hq.2 (fun h => c ((z_le ry rx).mpr h))
      obtain ⟨r1, hr1, hq⟩ := hq
      refine ⟨zI r1, t_X1_parentOf h a1 x5 r1 hr1, ?_⟩
      try simp only [z_m1, z_0, z_1, z_2, z_3, z_4, z_5, z_6, z_8, z_9, z_10, z_12, z_16, z_30, z_31, z_99, z_300, z_500, z_600, z_20000, zadd, zsub, zmul, zneg, zap]
      have rx := hq.1
      have hq := hq.2
      have ry := hq.1
      have hq := hq.2
      refine ⟨fun c => ?_, fun c => ?_⟩
      · have hq := hq.1 (fun h => c ((z_eq rx ry).mpr h))
        exact hq
      · have hq := hq.2 ((z_eq rx ry).mp c)
        obtain ⟨r2, hr2, hq⟩ := hq
        refine ⟨zI r2, t_X4_contains a4 x5 r2 hr2, ?_⟩
        try simp only [z_m1, z_0, z_1, z_2, z_3, z_4, z_5, z_6, z_8, z_9, z_10, z_12, z_16, z_30, z_31, z_99, z_300, z_500, z_600, z_20000, zadd, zsub, zmul, zneg, zap]
        have rx := hq.1
        have hq := hq.2
        refine ⟨fun c => ?_, fun c => ?_⟩
        · have hq := hq.1 ((z_eq rx ⟨by decide, by decide⟩).mp c)
          exact hq
        · have hq := hq.2 (fun h => c ((z_eq rx ⟨by decide, by decide⟩).mpr h))
          exact congrArg zI hq)
  try simp only [z_m1, z_0, z_1, z_2, z_3, z_4, z_5, z_6, z_8, z_9, z_10, z_12, z_16, z_30, z_31, z_99, z_300, z_500, z_600, z_20000, zadd, zsub, zmul, zneg, zap]
  exact hq
def Q_X1_decides (h : ISt) (a1 : Int) (a2 : Int) (a3 : Int) (r : Int) : Prop := ∀ V26 : Int → Int → Prop, (∀ x4 x5 : Int, (inR x5 ∧ (((12 : Int) ≤ x5 → (r = (1 : Int))) ∧ (¬ (12 : Int) ≤ x5 → (inR x4 ∧ ((x4 = (-1 : Int) → (r = (1 : Int))) ∧ (¬ x4 = (-1 : Int) → (∃ r3 : Int, Q_X1_parentOf h a1 x4 r3 ∧ (∃ r4 : Int, Q_X4_contains a3 x4 r4 ∧ (inR r4 ∧ ((r4 = (0 : Int) → (r = (0 : Int))) ∧ (¬ r4 = (0 : Int) → (∃ r5 : Int, Q_X1_holdsAmong h a1 r3 x4 a3 r5 ∧ (inR r5 ∧ ((r5 = (0 : Int) → (V26 r3 (x5 + (1 : Int)))) ∧ (¬ r5 = (0 : Int) → (r = (0 : Int))))))))))))))))) → V26 x4 x5) → (inR a1 ∧ (∃ r2 : Int, Q_X1_holdsAmong h a1 a2 (iat 8 (h 1) a1) a3 r2 ∧ (inR r2 ∧ ((r2 = (0 : Int) → (V26 a2 (0 : Int))) ∧ (¬ r2 = (0 : Int) → (r = (0 : Int)))))))
set_option maxRecDepth 100000 in
set_option maxHeartbeats 4000000 in
theorem t_X1_decides (h : ISt) (a1 : Int) (a2 : Int) (a3 : Int) (r : Int) (hq : Q_X1_decides h a1 a2 a3 r) : P_X1_decides (zS h) (zI a1) (zI a2) (zI a3) (zI r) := by
  intro V26 k26
  have hq := hq (fun x4 x5 => V26 (zI x4) (zI x5))
  have hq := hq (by
    intro x4 x5 hq
    refine k26 (zI x4) (zI x5) ?_
    try simp only [z_m1, z_0, z_1, z_2, z_3, z_4, z_5, z_6, z_8, z_9, z_10, z_12, z_16, z_30, z_31, z_99, z_300, z_500, z_600, z_20000, zadd, zsub, zmul, zneg, zap]
    have rx := hq.1
    have hq := hq.2
    refine ⟨fun c => ?_, fun c => ?_⟩
    · have hq := hq.1 ((z_le ⟨by decide, by decide⟩ rx).mp c)
      exact congrArg zI hq
    · have hq := hq.2 (fun h => c ((z_le ⟨by decide, by decide⟩ rx).mpr h))
      have rx := hq.1
      have hq := hq.2
      refine ⟨fun c => ?_, fun c => ?_⟩
      · have hq := hq.1 ((z_eq rx ⟨by decide, by decide⟩).mp c)
        exact congrArg zI hq
      · have hq := hq.2 (fun h => c ((z_eq rx ⟨by decide, by decide⟩).mpr h))
        obtain ⟨r3, hr3, hq⟩ := hq
        refine ⟨zI r3, t_X1_parentOf h a1 x4 r3 hr3, ?_⟩
        try simp only [z_m1, z_0, z_1, z_2, z_3, z_4, z_5, z_6, z_8, z_9, z_10, z_12, z_16, z_30, z_31, z_99, z_300, z_500, z_600, z_20000, zadd, zsub, zmul, zneg, zap]
        obtain ⟨r4, hr4, hq⟩ := hq
        refine ⟨zI r4, t_X4_contains a3 x4 r4 hr4, ?_⟩
        try simp only [z_m1, z_0, z_1, z_2, z_3, z_4, z_5, z_6, z_8, z_9, z_10, z_12, z_16, z_30, z_31, z_99, z_300, z_500, z_600, z_20000, zadd, zsub, zmul, zneg, zap]
        have rx := hq.1
        have hq := hq.2
        refine ⟨fun c => ?_, fun c => ?_⟩
        · have hq := hq.1 ((z_eq rx ⟨by decide, by decide⟩).mp c)
          exact congrArg zI hq
        · have hq := hq.2 (fun h => c ((z_eq rx ⟨by decide, by decide⟩).mpr h))
          obtain ⟨r5, hr5, hq⟩ := hq
          refine ⟨zI r5, t_X1_holdsAmong h a1 r3 x4 a3 r5 hr5, ?_⟩
          try simp only [z_m1, z_0, z_1, z_2, z_3, z_4, z_5, z_6, z_8, z_9, z_10, z_12, z_16, z_30, z_31, z_99, z_300, z_500, z_600, z_20000, zadd, zsub, zmul, zneg, zap]
          have rx := hq.1
          have hq := hq.2
          refine ⟨fun c => ?_, fun c => ?_⟩
          · have hq := hq.1 ((z_eq rx ⟨by decide, by decide⟩).mp c)
            exact hq
          · have hq := hq.2 (fun h => c ((z_eq rx ⟨by decide, by decide⟩).mpr h))
            exact congrArg zI hq)
  try simp only [z_m1, z_0, z_1, z_2, z_3, z_4, z_5, z_6, z_8, z_9, z_10, z_12, z_16, z_30, z_31, z_99, z_300, z_500, z_600, z_20000, zadd, zsub, zmul, zneg, zap]
  try simp only [zat (N := 8) hq.1 (by decide)]
  have hq := hq.2
  try simp only [z_m1, z_0, z_1, z_2, z_3, z_4, z_5, z_6, z_8, z_9, z_10, z_12, z_16, z_30, z_31, z_99, z_300, z_500, z_600, z_20000, zadd, zsub, zmul, zneg, zap]
  obtain ⟨r2, hr2, hq⟩ := hq
  refine ⟨zI r2, t_X1_holdsAmong h a1 a2 (iat 8 (h 1) a1) a3 r2 hr2, ?_⟩
  try simp only [z_m1, z_0, z_1, z_2, z_3, z_4, z_5, z_6, z_8, z_9, z_10, z_12, z_16, z_30, z_31, z_99, z_300, z_500, z_600, z_20000, zadd, zsub, zmul, zneg, zap]
  have rx := hq.1
  have hq := hq.2
  refine ⟨fun c => ?_, fun c => ?_⟩
  · have hq := hq.1 ((z_eq rx ⟨by decide, by decide⟩).mp c)
    exact hq
  · have hq := hq.2 (fun h => c ((z_eq rx ⟨by decide, by decide⟩).mpr h))
    exact congrArg zI hq
def Q_X1_rulingGoingUp (h : ISt) (a1 : Int) (a2 : Int) (r : Int) : Prop := ∀ V2 : Int → Prop, (∀ x3 : Int, (inR a1 ∧ (inR x3 ∧ inR (iat 8 (h 1) a1) ∧ (((iat 8 (h 1) a1) ≤ x3 → (r = (-1 : Int))) ∧ (¬ (iat 8 (h 1) a1) ≤ x3 → (∃ r2 : Int, Q_X1_decides h a1 x3 a2 r2 ∧ (inR r2 ∧ ((r2 = (0 : Int) → (V2 (x3 + (1 : Int)))) ∧ (¬ r2 = (0 : Int) → (inR ((a1 * (12 : Int)) + x3) ∧ (r = (iat 96 (h 5) ((a1 * (12 : Int)) + x3)))))))))))) → V2 x3) → (V2 (0 : Int))
set_option maxRecDepth 100000 in
set_option maxHeartbeats 4000000 in
theorem t_X1_rulingGoingUp (h : ISt) (a1 : Int) (a2 : Int) (r : Int) (hq : Q_X1_rulingGoingUp h a1 a2 r) : P_X1_rulingGoingUp (zS h) (zI a1) (zI a2) (zI r) := by
  intro V2 k2
  have hq := hq (fun x3 => V2 (zI x3))
  have hq := hq (by
    intro x3 hq
    refine k2 (zI x3) ?_
    try simp only [z_m1, z_0, z_1, z_2, z_3, z_4, z_5, z_6, z_8, z_9, z_10, z_12, z_16, z_30, z_31, z_99, z_300, z_500, z_600, z_20000, zadd, zsub, zmul, zneg, zap]
    try simp only [zat (N := 8) hq.1 (by decide)]
    have hq := hq.2
    try simp only [z_m1, z_0, z_1, z_2, z_3, z_4, z_5, z_6, z_8, z_9, z_10, z_12, z_16, z_30, z_31, z_99, z_300, z_500, z_600, z_20000, zadd, zsub, zmul, zneg, zap]
    have rx := hq.1
    have hq := hq.2
    have ry := hq.1
    have hq := hq.2
    refine ⟨fun c => ?_, fun c => ?_⟩
    · have hq := hq.1 ((z_le ry rx).mp c)
      exact congrArg zI hq
    · have hq := hq.2 (fun h => c ((z_le ry rx).mpr h))
      obtain ⟨r2, hr2, hq⟩ := hq
      refine ⟨zI r2, t_X1_decides h a1 x3 a2 r2 hr2, ?_⟩
      try simp only [z_m1, z_0, z_1, z_2, z_3, z_4, z_5, z_6, z_8, z_9, z_10, z_12, z_16, z_30, z_31, z_99, z_300, z_500, z_600, z_20000, zadd, zsub, zmul, zneg, zap]
      have rx := hq.1
      have hq := hq.2
      refine ⟨fun c => ?_, fun c => ?_⟩
      · have hq := hq.1 ((z_eq rx ⟨by decide, by decide⟩).mp c)
        exact hq
      · have hq := hq.2 (fun h => c ((z_eq rx ⟨by decide, by decide⟩).mpr h))
        try simp only [zat (N := 96) hq.1 (by decide)]
        have hq := hq.2
        try simp only [z_m1, z_0, z_1, z_2, z_3, z_4, z_5, z_6, z_8, z_9, z_10, z_12, z_16, z_30, z_31, z_99, z_300, z_500, z_600, z_20000, zadd, zsub, zmul, zneg, zap]
        exact congrArg zI hq)
  try simp only [z_m1, z_0, z_1, z_2, z_3, z_4, z_5, z_6, z_8, z_9, z_10, z_12, z_16, z_30, z_31, z_99, z_300, z_500, z_600, z_20000, zadd, zsub, zmul, zneg, zap]
  exact hq
def Q_X1_levelOf (h : ISt) (a1 : Int) (a2 : Int) (r : Int) : Prop := ∀ V5 : Int → Int → Prop, (∀ x3 x4 : Int, (inR x4 ∧ ((x4 = (-1 : Int) → (r = x3)) ∧ (¬ x4 = (-1 : Int) → (inR x3 ∧ (((12 : Int) ≤ x3 → (r = x3)) ∧ (¬ (12 : Int) ≤ x3 → (∃ r1 : Int, Q_X1_parentOf h a1 x4 r1 ∧ (V5 (x3 + (1 : Int)) r1)))))))) → V5 x3 x4) → (V5 (0 : Int) a2)
set_option maxRecDepth 100000 in
set_option maxHeartbeats 4000000 in
theorem t_X1_levelOf (h : ISt) (a1 : Int) (a2 : Int) (r : Int) (hq : Q_X1_levelOf h a1 a2 r) : P_X1_levelOf (zS h) (zI a1) (zI a2) (zI r) := by
  intro V5 k5
  have hq := hq (fun x3 x4 => V5 (zI x3) (zI x4))
  have hq := hq (by
    intro x3 x4 hq
    refine k5 (zI x3) (zI x4) ?_
    try simp only [z_m1, z_0, z_1, z_2, z_3, z_4, z_5, z_6, z_8, z_9, z_10, z_12, z_16, z_30, z_31, z_99, z_300, z_500, z_600, z_20000, zadd, zsub, zmul, zneg, zap]
    have rx := hq.1
    have hq := hq.2
    refine ⟨fun c => ?_, fun c => ?_⟩
    · have hq := hq.1 ((z_eq rx ⟨by decide, by decide⟩).mp c)
      exact congrArg zI hq
    · have hq := hq.2 (fun h => c ((z_eq rx ⟨by decide, by decide⟩).mpr h))
      have rx := hq.1
      have hq := hq.2
      refine ⟨fun c => ?_, fun c => ?_⟩
      · have hq := hq.1 ((z_le ⟨by decide, by decide⟩ rx).mp c)
        exact congrArg zI hq
      · have hq := hq.2 (fun h => c ((z_le ⟨by decide, by decide⟩ rx).mpr h))
        obtain ⟨r1, hr1, hq⟩ := hq
        refine ⟨zI r1, t_X1_parentOf h a1 x4 r1 hr1, ?_⟩
        try simp only [z_m1, z_0, z_1, z_2, z_3, z_4, z_5, z_6, z_8, z_9, z_10, z_12, z_16, z_30, z_31, z_99, z_300, z_500, z_600, z_20000, zadd, zsub, zmul, zneg, zap]
        exact hq)
  try simp only [z_m1, z_0, z_1, z_2, z_3, z_4, z_5, z_6, z_8, z_9, z_10, z_12, z_16, z_30, z_31, z_99, z_300, z_500, z_600, z_20000, zadd, zsub, zmul, zneg, zap]
  exact hq
def Q_X1_deepest (h : ISt) (a1 : Int) (r : Int) : Prop := ∀ V4 : Int → Int → Prop, (∀ x2 x3 : Int, (inR a1 ∧ (inR x3 ∧ inR (iat 8 (h 1) a1) ∧ (((iat 8 (h 1) a1) ≤ x3 → (r = x2)) ∧ (¬ (iat 8 (h 1) a1) ≤ x3 → (∃ r2 : Int, Q_X1_levelOf h a1 x3 r2 ∧ (inR x2 ∧ inR r2 ∧ (V4 (imax x2 r2) (x3 + (1 : Int))))))))) → V4 x2 x3) → (V4 (0 : Int) (0 : Int))
set_option maxRecDepth 100000 in
set_option maxHeartbeats 4000000 in
theorem t_X1_deepest (h : ISt) (a1 : Int) (r : Int) (hq : Q_X1_deepest h a1 r) : P_X1_deepest (zS h) (zI a1) (zI r) := by
  intro V4 k4
  have hq := hq (fun x2 x3 => V4 (zI x2) (zI x3))
  have hq := hq (by
    intro x2 x3 hq
    refine k4 (zI x2) (zI x3) ?_
    try simp only [z_m1, z_0, z_1, z_2, z_3, z_4, z_5, z_6, z_8, z_9, z_10, z_12, z_16, z_30, z_31, z_99, z_300, z_500, z_600, z_20000, zadd, zsub, zmul, zneg, zap]
    try simp only [zat (N := 8) hq.1 (by decide)]
    have hq := hq.2
    try simp only [z_m1, z_0, z_1, z_2, z_3, z_4, z_5, z_6, z_8, z_9, z_10, z_12, z_16, z_30, z_31, z_99, z_300, z_500, z_600, z_20000, zadd, zsub, zmul, zneg, zap]
    have rx := hq.1
    have hq := hq.2
    have ry := hq.1
    have hq := hq.2
    refine ⟨fun c => ?_, fun c => ?_⟩
    · have hq := hq.1 ((z_le ry rx).mp c)
      exact congrArg zI hq
    · have hq := hq.2 (fun h => c ((z_le ry rx).mpr h))
      obtain ⟨r2, hr2, hq⟩ := hq
      refine ⟨zI r2, t_X1_levelOf h a1 x3 r2 hr2, ?_⟩
      try simp only [z_m1, z_0, z_1, z_2, z_3, z_4, z_5, z_6, z_8, z_9, z_10, z_12, z_16, z_30, z_31, z_99, z_300, z_500, z_600, z_20000, zadd, zsub, zmul, zneg, zap]
      have rx := hq.1
      have hq := hq.2
      have ry := hq.1
      have hq := hq.2
      try simp only [zmax (a := x2) (b := r2) rx ry]
      try simp only [z_m1, z_0, z_1, z_2, z_3, z_4, z_5, z_6, z_8, z_9, z_10, z_12, z_16, z_30, z_31, z_99, z_300, z_500, z_600, z_20000, zadd, zsub, zmul, zneg, zap]
      exact hq)
  try simp only [z_m1, z_0, z_1, z_2, z_3, z_4, z_5, z_6, z_8, z_9, z_10, z_12, z_16, z_30, z_31, z_99, z_300, z_500, z_600, z_20000, zadd, zsub, zmul, zneg, zap]
  exact hq
