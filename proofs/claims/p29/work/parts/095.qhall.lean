def Q_X0_putTable (h : ISt) (a1 : Int) (r : Int) (h' : ISt) : Prop := (inR (h 0 1) ∧ (∀ h2 : ISt, h2 = iput h 1 10 (h 0 1) a1 → (∀ h3 : ISt, h3 = iset h2 0 1 ((h2 0 1) + (1 : Int)) → (r = ((h3 0 1) - (1 : Int)) ∧ h' = h3))))
set_option maxRecDepth 100000 in
set_option maxHeartbeats 4000000 in
theorem t_X0_putTable (h : ISt) (a1 : Int) (r : Int) (h' : ISt) (hq : Q_X0_putTable h a1 r h') : P_X0_putTable (zS h) (zI a1) (zI r) (zS h') := by
  unfold P_X0_putTable
  unfold Q_X0_putTable at hq
  try simp only [z_m1, z_0, z_1, z_2, z_3, z_4, z_5, z_6, z_8, z_9, z_10, z_12, z_16, z_30, z_31, z_99, z_300, z_500, z_600, z_20000, zadd, zsub, zmul, zneg, zap]
  have rx := hq.1
  have hq := hq.2
  intro g9 eg9
  rw [zput rx (by decide)] at eg9
  subst eg9
  have hq := hq _ rfl
  generalize iput h 1 10 (h 0 1) a1 = h2 at hq ⊢
  try simp only [z_m1, z_0, z_1, z_2, z_3, z_4, z_5, z_6, z_8, z_9, z_10, z_12, z_16, z_30, z_31, z_99, z_300, z_500, z_600, z_20000, zadd, zsub, zmul, zneg, zap]
  intro g9 eg9
  rw [zset] at eg9
  subst eg9
  have hq := hq _ rfl
  generalize iset h2 0 1 ((h2 0 1) + (1 : Int)) = h3 at hq ⊢
  try simp only [z_m1, z_0, z_1, z_2, z_3, z_4, z_5, z_6, z_8, z_9, z_10, z_12, z_16, z_30, z_31, z_99, z_300, z_500, z_600, z_20000, zadd, zsub, zmul, zneg, zap]
  exact ⟨congrArg zI hq.1, congrArg zS hq.2⟩
def Q_X0_wasteAt (h : ISt) (a1 : Int) (a2 : Int) (a3 : Int) (r : Int) : Prop := ∀ V8 : Int → Int → Prop, (∀ x4 x5 : Int, (inR x5 ∧ inR (a1 + a2) ∧ (((a1 + a2) ≤ x5 → (inR x4 ∧ inR a3 ∧ ((a3 ≤ x4 → (r = (x4 - a3))) ∧ (¬ a3 ≤ x4 → (r = (-1 : Int)))))) ∧ (¬ (a1 + a2) ≤ x5 → (inR x5 ∧ (inR (iat 10 (h 2) x5) ∧ (((iat 10 (h 2) x5) = (-1 : Int) → (inR x5 ∧ (V8 (x4 + (iat 10 (h 1) x5)) (x5 + (1 : Int))))) ∧ (¬ (iat 10 (h 2) x5) = (-1 : Int) → (r = (-1 : Int))))))))) → V8 x4 x5) → (V8 ((1 : Int) - a2) a1)
set_option maxRecDepth 100000 in
set_option maxHeartbeats 4000000 in
theorem t_X0_wasteAt (h : ISt) (a1 : Int) (a2 : Int) (a3 : Int) (r : Int) (hq : Q_X0_wasteAt h a1 a2 a3 r) : P_X0_wasteAt (zS h) (zI a1) (zI a2) (zI a3) (zI r) := by
  intro V8 k8
  have hq := hq (fun x4 x5 => V8 (zI x4) (zI x5))
  have hq := hq (by
    intro x4 x5 hq
    refine k8 (zI x4) (zI x5) ?_
    try simp only [z_m1, z_0, z_1, z_2, z_3, z_4, z_5, z_6, z_8, z_9, z_10, z_12, z_16, z_30, z_31, z_99, z_300, z_500, z_600, z_20000, zadd, zsub, zmul, zneg, zap]
    have rx := hq.1
    have hq := hq.2
    have ry := hq.1
    have hq := hq.2
    refine ⟨fun c => ?_, fun c => ?_⟩
    · have hq := hq.1 ((z_le ry rx).mp c)
      have rx := hq.1
      have hq := hq.2
      have ry := hq.1
      have hq := hq.2
      refine ⟨fun c => ?_, fun c => ?_⟩
      · have hq := hq.1 ((z_le ry rx).mp c)
        exact congrArg zI hq
      · have hq := hq.2 (fun h => c ((z_le ry rx).mpr h))
        exact congrArg zI hq
    · have hq := hq.2 (fun h => c ((z_le ry rx).mpr h))
      try simp only [zat (N := 10) hq.1 (by decide)]
      have hq := hq.2
      try simp only [z_m1, z_0, z_1, z_2, z_3, z_4, z_5, z_6, z_8, z_9, z_10, z_12, z_16, z_30, z_31, z_99, z_300, z_500, z_600, z_20000, zadd, zsub, zmul, zneg, zap]
      have rx := hq.1
      have hq := hq.2
      refine ⟨fun c => ?_, fun c => ?_⟩
      · have hq := hq.1 ((z_eq rx ⟨by decide, by decide⟩).mp c)
        try simp only [zat (N := 10) hq.1 (by decide)]
        have hq := hq.2
        try simp only [z_m1, z_0, z_1, z_2, z_3, z_4, z_5, z_6, z_8, z_9, z_10, z_12, z_16, z_30, z_31, z_99, z_300, z_500, z_600, z_20000, zadd, zsub, zmul, zneg, zap]
        exact hq
      · have hq := hq.2 (fun h => c ((z_eq rx ⟨by decide, by decide⟩).mpr h))
        exact congrArg zI hq)
  try simp only [z_m1, z_0, z_1, z_2, z_3, z_4, z_5, z_6, z_8, z_9, z_10, z_12, z_16, z_30, z_31, z_99, z_300, z_500, z_600, z_20000, zadd, zsub, zmul, zneg, zap]
  exact hq
def Q_X0_lesser (a0 : Int) (a1 : Int) (r : Int) : Prop := (inR a0 ∧ ((a0 = (-1 : Int) → (inR a0 ∧ inR a1 ∧ (r = (imax a0 a1)))) ∧ (¬ a0 = (-1 : Int) → (inR a1 ∧ ((¬ a1 = (-1 : Int) → (inR a0 ∧ inR a1 ∧ (r = (imin a0 a1)))) ∧ (a1 = (-1 : Int) → (inR a0 ∧ inR a1 ∧ (r = (imax a0 a1)))))))))
set_option maxRecDepth 100000 in
set_option maxHeartbeats 4000000 in
theorem t_X0_lesser (a0 : Int) (a1 : Int) (r : Int) (hq : Q_X0_lesser a0 a1 r) : P_X0_lesser (zI a0) (zI a1) (zI r) := by
  unfold P_X0_lesser
  unfold Q_X0_lesser at hq
  try simp only [z_m1, z_0, z_1, z_2, z_3, z_4, z_5, z_6, z_8, z_9, z_10, z_12, z_16, z_30, z_31, z_99, z_300, z_500, z_600, z_20000, zadd, zsub, zmul, zneg, zap]
  have rx := hq.1
  have hq := hq.2
  refine ⟨fun c => ?_, fun c => ?_⟩
  · have hq := hq.1 ((z_eq rx ⟨by decide, by decide⟩).mp c)
    have rx := hq.1
    have hq := hq.2
    have ry := hq.1
    have hq := hq.2
    try simp only [zmax (a := a0) (b := a1) rx ry]
    try simp only [z_m1, z_0, z_1, z_2, z_3, z_4, z_5, z_6, z_8, z_9, z_10, z_12, z_16, z_30, z_31, z_99, z_300, z_500, z_600, z_20000, zadd, zsub, zmul, zneg, zap]
    exact congrArg zI hq
  · have hq := hq.2 (fun h => c ((z_eq rx ⟨by decide, by decide⟩).mpr h))
    have rx := hq.1
    have hq := hq.2
    refine ⟨fun c => ?_, fun c => ?_⟩
    · have hq := hq.1 (fun h => c ((z_eq rx ⟨by decide, by decide⟩).mpr h))
      have rx := hq.1
      have hq := hq.2
      have ry := hq.1
      have hq := hq.2
      try simp only [zmin (a := a0) (b := a1) rx ry]
      try simp only [z_m1, z_0, z_1, z_2, z_3, z_4, z_5, z_6, z_8, z_9, z_10, z_12, z_16, z_30, z_31, z_99, z_300, z_500, z_600, z_20000, zadd, zsub, zmul, zneg, zap]
      exact congrArg zI hq
    · have hq := hq.2 ((z_eq rx ⟨by decide, by decide⟩).mp c)
      have rx := hq.1
      have hq := hq.2
      have ry := hq.1
      have hq := hq.2
      try simp only [zmax (a := a0) (b := a1) rx ry]
      try simp only [z_m1, z_0, z_1, z_2, z_3, z_4, z_5, z_6, z_8, z_9, z_10, z_12, z_16, z_30, z_31, z_99, z_300, z_500, z_600, z_20000, zadd, zsub, zmul, zneg, zap]
      exact congrArg zI hq
def Q_X0_leastWaste (h : ISt) (a1 : Int) (r : Int) : Prop := ∀ V4 : Int → Int → Prop, ∀ V15 : Int → Int → Int → Prop, (∀ x2 x3 : Int, (inR x3 ∧ inR (h 0 1) ∧ (((h 0 1) < x3 → (r = x2)) ∧ (¬ (h 0 1) < x3 → (V15 x2 x3 (0 : Int))))) → V4 x2 x3) → (∀ x2 x3 x4 : Int, (inR (x4 + x3) ∧ inR (h 0 1) ∧ (((h 0 1) < (x4 + x3) → (V4 x2 (x3 + (1 : Int)))) ∧ (¬ (h 0 1) < (x4 + x3) → (∃ r1 : Int, Q_X0_wasteAt h x4 x3 a1 r1 ∧ (∃ r2 : Int, Q_X0_lesser x2 r1 r2 ∧ (V15 r2 x3 (x4 + (1 : Int)))))))) → V15 x2 x3 x4) → (V4 (-1 : Int) (1 : Int))
set_option maxRecDepth 100000 in
set_option maxHeartbeats 4000000 in
theorem t_X0_leastWaste (h : ISt) (a1 : Int) (r : Int) (hq : Q_X0_leastWaste h a1 r) : P_X0_leastWaste (zS h) (zI a1) (zI r) := by
  intro V4 V15 k4 k15
  have hq := hq (fun x2 x3 => V4 (zI x2) (zI x3)) (fun x2 x3 x4 => V15 (zI x2) (zI x3) (zI x4))
  have hq := hq (by
    intro x2 x3 hq
    refine k4 (zI x2) (zI x3) ?_
    try simp only [z_m1, z_0, z_1, z_2, z_3, z_4, z_5, z_6, z_8, z_9, z_10, z_12, z_16, z_30, z_31, z_99, z_300, z_500, z_600, z_20000, zadd, zsub, zmul, zneg, zap]
    have rx := hq.1
    have hq := hq.2
    have ry := hq.1
    have hq := hq.2
    refine ⟨fun c => ?_, fun c => ?_⟩
    · have hq := hq.1 ((z_lt ry rx).mp c)
      exact congrArg zI hq
    · have hq := hq.2 (fun h => c ((z_lt ry rx).mpr h))
      exact hq)
  have hq := hq (by
    intro x2 x3 x4 hq
    refine k15 (zI x2) (zI x3) (zI x4) ?_
    try simp only [z_m1, z_0, z_1, z_2, z_3, z_4, z_5, z_6, z_8, z_9, z_10, z_12, z_16, z_30, z_31, z_99, z_300, z_500, z_600, z_20000, zadd, zsub, zmul, zneg, zap]
    have rx := hq.1
    have hq := hq.2
    have ry := hq.1
    have hq := hq.2
    refine ⟨fun c => ?_, fun c => ?_⟩
    · have hq := hq.1 ((z_lt ry rx).mp c)
      exact hq
    · have hq := hq.2 (fun h => c ((z_lt ry rx).mpr h))
      obtain ⟨r1, hr1, hq⟩ := hq
      refine ⟨zI r1, t_X0_wasteAt h x4 x3 a1 r1 hr1, ?_⟩
      try simp only [z_m1, z_0, z_1, z_2, z_3, z_4, z_5, z_6, z_8, z_9, z_10, z_12, z_16, z_30, z_31, z_99, z_300, z_500, z_600, z_20000, zadd, zsub, zmul, zneg, zap]
      obtain ⟨r2, hr2, hq⟩ := hq
      refine ⟨zI r2, t_X0_lesser x2 r1 r2 hr2, ?_⟩
      try simp only [z_m1, z_0, z_1, z_2, z_3, z_4, z_5, z_6, z_8, z_9, z_10, z_12, z_16, z_30, z_31, z_99, z_300, z_500, z_600, z_20000, zadd, zsub, zmul, zneg, zap]
      exact hq)
  try simp only [z_m1, z_0, z_1, z_2, z_3, z_4, z_5, z_6, z_8, z_9, z_10, z_12, z_16, z_30, z_31, z_99, z_300, z_500, z_600, z_20000, zadd, zsub, zmul, zneg, zap]
  exact hq
def Q_X0_seat (h : ISt) (a1 : Int) (a2 : Int) (a3 : Int) (h' : ISt) : Prop := ∀ V3 : ISt → Int → Prop, (∀ hv : ISt, ∀ x4 : Int, (inR x4 ∧ inR (a2 + a3) ∧ (((a2 + a3) ≤ x4 → (inR a1 ∧ (∀ h2 : ISt, h2 = iput hv 6 30 a1 (1 : Int) → (inR a1 ∧ (inR a1 ∧ (∀ h5 : ISt, h5 = iput h2 5 30 a1 ((h2 0 0) + (iat 30 (h2 4) a1)) → (h' = h5))))))) ∧ (¬ (a2 + a3) ≤ x4 → (inR x4 ∧ (∀ h7 : ISt, h7 = iput hv 2 10 x4 a1 → (V3 h7 (x4 + (1 : Int)))))))) → V3 hv x4) → (V3 h a2)
set_option maxRecDepth 100000 in
set_option maxHeartbeats 4000000 in
theorem t_X0_seat (h : ISt) (a1 : Int) (a2 : Int) (a3 : Int) (h' : ISt) (hq : Q_X0_seat h a1 a2 a3 h') : P_X0_seat (zS h) (zI a1) (zI a2) (zI a3) (zS h') := by
  intro V3 k3
  have hq := hq (fun hv x4 => V3 (zS hv) (zI x4))
  have hq := hq (by
    intro hv x4 hq
    refine k3 (zS hv) (zI x4) ?_
    try simp only [z_m1, z_0, z_1, z_2, z_3, z_4, z_5, z_6, z_8, z_9, z_10, z_12, z_16, z_30, z_31, z_99, z_300, z_500, z_600, z_20000, zadd, zsub, zmul, zneg, zap]
    have rx := hq.1
    have hq := hq.2
    have ry := hq.1
    have hq := hq.2
    refine ⟨fun c => ?_, fun c => ?_⟩
    · have hq := hq.1 ((z_le ry rx).mp c)
      have rx := hq.1
      have hq := hq.2
      intro g9 eg9
      rw [zput rx (by decide)] at eg9
      subst eg9
      have hq := hq _ rfl
      generalize iput hv 6 30 a1 (1 : Int) = h2 at hq ⊢
      try simp only [z_m1, z_0, z_1, z_2, z_3, z_4, z_5, z_6, z_8, z_9, z_10, z_12, z_16, z_30, z_31, z_99, z_300, z_500, z_600, z_20000, zadd, zsub, zmul, zneg, zap]
      try simp only [zat (N := 30) hq.1 (by decide)]
      have hq := hq.2
      try simp only [z_m1, z_0, z_1, z_2, z_3, z_4, z_5, z_6, z_8, z_9, z_10, z_12, z_16, z_30, z_31, z_99, z_300, z_500, z_600, z_20000, zadd, zsub, zmul, zneg, zap]
      have rx := hq.1
      have hq := hq.2
      intro g9 eg9
      rw [zput rx (by decide)] at eg9
      subst eg9
      have hq := hq _ rfl
      generalize iput h2 5 30 a1 ((h2 0 0) + (iat 30 (h2 4) a1)) = h5 at hq ⊢
      try simp only [z_m1, z_0, z_1, z_2, z_3, z_4, z_5, z_6, z_8, z_9, z_10, z_12, z_16, z_30, z_31, z_99, z_300, z_500, z_600, z_20000, zadd, zsub, zmul, zneg, zap]
      exact congrArg zS hq
    · have hq := hq.2 (fun h => c ((z_le ry rx).mpr h))
      have rx := hq.1
      have hq := hq.2
      intro g9 eg9
      rw [zput rx (by decide)] at eg9
      subst eg9
      have hq := hq _ rfl
      generalize iput hv 2 10 x4 a1 = h7 at hq ⊢
      try simp only [z_m1, z_0, z_1, z_2, z_3, z_4, z_5, z_6, z_8, z_9, z_10, z_12, z_16, z_30, z_31, z_99, z_300, z_500, z_600, z_20000, zadd, zsub, zmul, zneg, zap]
      exact hq)
  try simp only [z_m1, z_0, z_1, z_2, z_3, z_4, z_5, z_6, z_8, z_9, z_10, z_12, z_16, z_30, z_31, z_99, z_300, z_500, z_600, z_20000, zadd, zsub, zmul, zneg, zap]
  exact hq
def Q_X0_seatIfPossible (h : ISt) (a1 : Int) (r : Int) (h' : ISt) : Prop := ∀ V22 : ISt → Int → Int → Prop, ∀ V33 : ISt → Int → Int → Int → Prop, (∀ hv : ISt, ∀ x2 x3 : Int, (inR x3 ∧ inR (hv 0 1) ∧ (((hv 0 1) < x3 → (r = (0 : Int) ∧ h' = hv)) ∧ (¬ (hv 0 1) < x3 → (V33 hv x2 x3 (0 : Int))))) → V22 hv x2 x3) → (∀ hv : ISt, ∀ x2 x3 x4 : Int, (inR (x4 + x3) ∧ inR (hv 0 1) ∧ (((hv 0 1) < (x4 + x3) → (V22 hv x2 (x3 + (1 : Int)))) ∧ (¬ (hv 0 1) < (x4 + x3) → (inR a1 ∧ (∃ r4 : Int, Q_X0_wasteAt hv x4 x3 (iat 30 (hv 3) a1) r4 ∧ (inR r4 ∧ inR x2 ∧ ((¬ r4 = x2 → (V33 hv x2 x3 (x4 + (1 : Int)))) ∧ (r4 = x2 → (∃ h6 : ISt, Q_X0_seat hv a1 x4 x3 h6 ∧ (r = (1 : Int) ∧ h' = h6)))))))))) → V33 hv x2 x3 x4) → (inR a1 ∧ (∃ r2 : Int, Q_X0_leastWaste h (iat 30 (h 3) a1) r2 ∧ (inR r2 ∧ ((¬ r2 = (-1 : Int) → (V22 h r2 (1 : Int))) ∧ (r2 = (-1 : Int) → (r = (0 : Int) ∧ h' = h))))))
set_option maxRecDepth 100000 in
set_option maxHeartbeats 4000000 in
theorem t_X0_seatIfPossible (h : ISt) (a1 : Int) (r : Int) (h' : ISt) (hq : Q_X0_seatIfPossible h a1 r h') : P_X0_seatIfPossible (zS h) (zI a1) (zI r) (zS h') := by
  intro V22 V33 k22 k33
  have hq := hq (fun hv x2 x3 => V22 (zS hv) (zI x2) (zI x3)) (fun hv x2 x3 x4 => V33 (zS hv) (zI x2) (zI x3) (zI x4))
  have hq := hq (by
    intro hv x2 x3 hq
    refine k22 (zS hv) (zI x2) (zI x3) ?_
    try simp only [z_m1, z_0, z_1, z_2, z_3, z_4, z_5, z_6, z_8, z_9, z_10, z_12, z_16, z_30, z_31, z_99, z_300, z_500, z_600, z_20000, zadd, zsub, zmul, zneg, zap]
    have rx := hq.1
    have hq := hq.2
    have ry := hq.1
    have hq := hq.2
    refine ⟨fun c => ?_, fun c => ?_⟩
    · have hq := hq.1 ((z_lt ry rx).mp c)
      exact ⟨congrArg zI hq.1, congrArg zS hq.2⟩
    · have hq := hq.2 (fun h => c ((z_lt ry rx).mpr h))
      exact hq)
  have hq := hq (by
    intro hv x2 x3 x4 hq
    refine k33 (zS hv) (zI x2) (zI x3) (zI x4) ?_
    try simp only [z_m1, z_0, z_1, z_2, z_3, z_4, z_5, z_6, z_8, z_9, z_10, z_12, z_16, z_30, z_31, z_99, z_300, z_500, z_600, z_20000, zadd, zsub, zmul, zneg, zap]
    have rx := hq.1
    have hq := hq.2
    have ry := hq.1
    have hq := hq.2
    refine ⟨fun c => ?_, fun c => ?_⟩
    · have hq := hq.1 ((z_lt ry rx).mp c)
      exact hq
    · have hq := hq.2 (fun h => c ((z_lt ry rx).mpr h))
      try simp only [zat (N := 30) hq.1 (by decide)]
      have hq := hq.2
      try simp only [z_m1, z_0, z_1, z_2, z_3, z_4, z_5, z_6, z_8, z_9, z_10, z_12, z_16, z_30, z_31, z_99, z_300, z_500, z_600, z_20000, zadd, zsub, zmul, zneg, zap]
      obtain ⟨r4, hr4, hq⟩ := hq
      refine ⟨zI r4, t_X0_wasteAt hv x4 x3 (iat 30 (hv 3) a1) r4 hr4, ?_⟩
      try simp only [z_m1, z_0, z_1, z_2, z_3, z_4, z_5, z_6, z_8, z_9, z_10, z_12, z_16, z_30, z_31, z_99, z_300, z_500, z_600, z_20000, zadd, zsub, zmul, zneg, zap]
      have rx := hq.1
      have hq := hq.2
      have ry := hq.1
      have hq := hq.2
      refine ⟨fun c => ?_, fun c => ?_⟩
      · have hq := hq.1 (fun h => c ((z_eq rx ry).mpr h))
        exact hq
      · have hq := hq.2 ((z_eq rx ry).mp c)
        obtain ⟨h6, hh6, hq⟩ := hq
        refine ⟨zS h6, t_X0_seat hv a1 x4 x3 h6 hh6, ?_⟩
        try simp only [z_m1, z_0, z_1, z_2, z_3, z_4, z_5, z_6, z_8, z_9, z_10, z_12, z_16, z_30, z_31, z_99, z_300, z_500, z_600, z_20000, zadd, zsub, zmul, zneg, zap]
        exact ⟨congrArg zI hq.1, congrArg zS hq.2⟩)
  try simp only [z_m1, z_0, z_1, z_2, z_3, z_4, z_5, z_6, z_8, z_9, z_10, z_12, z_16, z_30, z_31, z_99, z_300, z_500, z_600, z_20000, zadd, zsub, zmul, zneg, zap]
  try simp only [zat (N := 30) hq.1 (by decide)]
  have hq := hq.2
  try simp only [z_m1, z_0, z_1, z_2, z_3, z_4, z_5, z_6, z_8, z_9, z_10, z_12, z_16, z_30, z_31, z_99, z_300, z_500, z_600, z_20000, zadd, zsub, zmul, zneg, zap]
  obtain ⟨r2, hr2, hq⟩ := hq
  refine ⟨zI r2, t_X0_leastWaste h (iat 30 (h 3) a1) r2 hr2, ?_⟩
  try simp only [z_m1, z_0, z_1, z_2, z_3, z_4, z_5, z_6, z_8, z_9, z_10, z_12, z_16, z_30, z_31, z_99, z_300, z_500, z_600, z_20000, zadd, zsub, zmul, zneg, zap]
  have rx := hq.1
  have hq := hq.2
  refine ⟨fun c => ?_, fun c => ?_⟩
  · have hq := hq.1 (fun h => c ((z_eq rx ⟨by decide, by decide⟩).mpr h))
    exact hq
  · have hq := hq.2 ((z_eq rx ⟨by decide, by decide⟩).mp c)
    exact ⟨congrArg zI hq.1, congrArg zS hq.2⟩
def Q_X0_welcome (h : ISt) (a1 : Int) (a2 : Int) (r : Int) (h' : ISt) : Prop := (∀ h1 : ISt, h1 = iset h 0 2 ((h 0 2) + (1 : Int)) → (inR (h 0 2) ∧ (∀ h3 : ISt, h3 = iput h1 3 30 (h 0 2) a1 → (inR (h 0 2) ∧ (∀ h5 : ISt, h5 = iput h3 4 30 (h 0 2) a2 → (∃ (r6 : Int) (h7 : ISt), Q_X0_seatIfPossible h5 (h 0 2) r6 h7 ∧ (r = (h 0 2) ∧ h' = h7)))))))
set_option maxRecDepth 100000 in
set_option maxHeartbeats 4000000 in
theorem t_X0_welcome (h : ISt) (a1 : Int) (a2 : Int) (r : Int) (h' : ISt) (hq : Q_X0_welcome h a1 a2 r h') : P_X0_welcome (zS h) (zI a1) (zI a2) (zI r) (zS h') := by
  unfold P_X0_welcome
  unfold Q_X0_welcome at hq
  try simp only [z_m1, z_0, z_1, z_2, z_3, z_4, z_5, z_6, z_8, z_9, z_10, z_12, z_16, z_30, z_31, z_99, z_300, z_500, z_600, z_20000, zadd, zsub, zmul, zneg, zap]
  intro g9 eg9
  rw [zset] at eg9
  subst eg9
  have hq := hq _ rfl
  generalize iset h 0 2 ((h 0 2) + (1 : Int)) = h1 at hq ⊢
  try simp only [z_m1, z_0, z_1, z_2, z_3, z_4, z_5, z_6, z_8, z_9, z_10, z_12, z_16, z_30, z_31, z_99, z_300, z_500, z_600, z_20000, zadd, zsub, zmul, zneg, zap]
  have rx := hq.1
  have hq := hq.2
  intro g9 eg9
  rw [zput rx (by decide)] at eg9
  subst eg9
  have hq := hq _ rfl
  generalize iput h1 3 30 (h 0 2) a1 = h3 at hq ⊢
  try simp only [z_m1, z_0, z_1, z_2, z_3, z_4, z_5, z_6, z_8, z_9, z_10, z_12, z_16, z_30, z_31, z_99, z_300, z_500, z_600, z_20000, zadd, zsub, zmul, zneg, zap]
  have rx := hq.1
  have hq := hq.2
  intro g9 eg9
  rw [zput rx (by decide)] at eg9
  subst eg9
  have hq := hq _ rfl
  generalize iput h3 4 30 (h 0 2) a2 = h5 at hq ⊢
  try simp only [z_m1, z_0, z_1, z_2, z_3, z_4, z_5, z_6, z_8, z_9, z_10, z_12, z_16, z_30, z_31, z_99, z_300, z_500, z_600, z_20000, zadd, zsub, zmul, zneg, zap]
  obtain ⟨r6, h7, hh7, hq⟩ := hq
  refine ⟨zI r6, zS h7, t_X0_seatIfPossible h5 (h 0 2) r6 h7 hh7, ?_⟩
  try simp only [z_m1, z_0, z_1, z_2, z_3, z_4, z_5, z_6, z_8, z_9, z_10, z_12, z_16, z_30, z_31, z_99, z_300, z_500, z_600, z_20000, zadd, zsub, zmul, zneg, zap]
  exact ⟨congrArg zI hq.1, congrArg zS hq.2⟩
def Q_X0_seatWaiting (h : ISt) (r : Int) (h' : ISt) : Prop := ∀ V4 : ISt → Int → Int → Prop, (∀ hv : ISt, ∀ x1 x2 : Int, (inR x2 ∧ inR (hv 0 2) ∧ (((hv 0 2) ≤ x2 → (r = x1 ∧ h' = hv)) ∧ (¬ (hv 0 2) ≤ x2 → (inR x2 ∧ (inR (iat 30 (hv 6) x2) ∧ ((¬ (iat 30 (hv 6) x2) = (0 : Int) → (V4 hv x1 (x2 + (1 : Int)))) ∧ ((iat 30 (hv 6) x2) = (0 : Int) → (∃ (r2 : Int) (h3 : ISt), Q_X0_seatIfPossible hv x2 r2 h3 ∧ (inR r2 ∧ ((r2 = (0 : Int) → (V4 h3 x1 (x2 + (1 : Int)))) ∧ (¬ r2 = (0 : Int) → (V4 h3 (x1 + (1 : Int)) (x2 + (1 : Int)))))))))))))) → V4 hv x1 x2) → (V4 h (0 : Int) (0 : Int))
set_option maxRecDepth 100000 in
set_option maxHeartbeats 4000000 in
theorem t_X0_seatWaiting (h : ISt) (r : Int) (h' : ISt) (hq : Q_X0_seatWaiting h r h') : P_X0_seatWaiting (zS h) (zI r) (zS h') := by
  intro V4 k4
  have hq := hq (fun hv x1 x2 => V4 (zS hv) (zI x1) (zI x2))
  have hq := hq (by
    intro hv x1 x2 hq
    refine k4 (zS hv) (zI x1) (zI x2) ?_
    try simp only [z_m1, z_0, z_1, z_2, z_3, z_4, z_5, z_6, z_8, z_9, z_10, z_12, z_16, z_30, z_31, z_99, z_300, z_500, z_600, z_20000, zadd, zsub, zmul, zneg, zap]
    have rx := hq.1
    have hq := hq.2
    have ry := hq.1
    have hq := hq.2
    refine ⟨fun c => ?_, fun c => ?_⟩
    · have hq := hq.1 ((z_le ry rx).mp c)
      exact ⟨congrArg zI hq.1, congrArg zS hq.2⟩
    · have hq := hq.2 (fun h => c ((z_le ry rx).mpr h))
      try simp only [zat (N := 30) hq.1 (by decide)]
      have hq := hq.2
      try simp only [z_m1, z_0, z_1, z_2, z_3, z_4, z_5, z_6, z_8, z_9, z_10, z_12, z_16, z_30, z_31, z_99, z_300, z_500, z_600, z_20000, zadd, zsub, zmul, zneg, zap]
      have rx := hq.1
      have hq := hq.2
      refine ⟨fun c => ?_, fun c => ?_⟩
      · have hq := hq.1 (fun h => c ((z_eq rx ⟨by decide, by decide⟩).mpr h))
        exact hq
      · have hq := hq.2 ((z_eq rx ⟨by decide, by decide⟩).mp c)
        obtain ⟨r2, h3, hh3, hq⟩ := hq
        refine ⟨zI r2, zS h3, t_X0_seatIfPossible hv x2 r2 h3 hh3, ?_⟩
        try simp only [z_m1, z_0, z_1, z_2, z_3, z_4, z_5, z_6, z_8, z_9, z_10, z_12, z_16, z_30, z_31, z_99, z_300, z_500, z_600, z_20000, zadd, zsub, zmul, zneg, zap]
        have rx := hq.1
        have hq := hq.2
        refine ⟨fun c => ?_, fun c => ?_⟩
        · have hq := hq.1 ((z_eq rx ⟨by decide, by decide⟩).mp c)
          exact hq
        · have hq := hq.2 (fun h => c ((z_eq rx ⟨by decide, by decide⟩).mpr h))
          exact hq)
  try simp only [z_m1, z_0, z_1, z_2, z_3, z_4, z_5, z_6, z_8, z_9, z_10, z_12, z_16, z_30, z_31, z_99, z_300, z_500, z_600, z_20000, zadd, zsub, zmul, zneg, zap]
  exact hq
def Q_X0_dismiss (h : ISt) (a1 : Int) (r : Int) (h' : ISt) : Prop := ∀ V11 : ISt → Int → Prop, (∀ hv : ISt, ∀ x2 : Int, (inR x2 ∧ inR (hv 0 1) ∧ (((hv 0 1) ≤ x2 → (∃ (r3 : Int) (h4 : ISt), Q_X0_seatWaiting hv r3 h4 ∧ (r = r3 ∧ h' = h4))) ∧ (¬ (hv 0 1) ≤ x2 → (inR x2 ∧ (inR (iat 10 (hv 2) x2) ∧ inR a1 ∧ ((¬ (iat 10 (hv 2) x2) = a1 → (V11 hv (x2 + (1 : Int)))) ∧ ((iat 10 (hv 2) x2) = a1 → (inR x2 ∧ (∀ h7 : ISt, h7 = iput hv 2 10 x2 (-1 : Int) → (V11 h7 (x2 + (1 : Int)))))))))))) → V11 hv x2) → (inR a1 ∧ (∀ h2 : ISt, h2 = iput h 6 30 a1 (2 : Int) → (V11 h2 (0 : Int))))
set_option maxRecDepth 100000 in
set_option maxHeartbeats 4000000 in
theorem t_X0_dismiss (h : ISt) (a1 : Int) (r : Int) (h' : ISt) (hq : Q_X0_dismiss h a1 r h') : P_X0_dismiss (zS h) (zI a1) (zI r) (zS h') := by
  intro V11 k11
  have hq := hq (fun hv x2 => V11 (zS hv) (zI x2))
  have hq := hq (by
    intro hv x2 hq
    refine k11 (zS hv) (zI x2) ?_
    try simp only [z_m1, z_0, z_1, z_2, z_3, z_4, z_5, z_6, z_8, z_9, z_10, z_12, z_16, z_30, z_31, z_99, z_300, z_500, z_600, z_20000, zadd, zsub, zmul, zneg, zap]
    have rx := hq.1
    have hq := hq.2
    have ry := hq.1
    have hq := hq.2
    refine ⟨fun c => ?_, fun c => ?_⟩
    · have hq := hq.1 ((z_le ry rx).mp c)
      obtain ⟨r3, h4, hh4, hq⟩ := hq
      refine ⟨zI r3, zS h4, t_X0_seatWaiting hv r3 h4 hh4, ?_⟩
      try simp only [z_m1, z_0, z_1, z_2, z_3, z_4, z_5, z_6, z_8, z_9, z_10, z_12, z_16, z_30, z_31, z_99, z_300, z_500, z_600, z_20000, zadd, zsub, zmul, zneg, zap]
      exact ⟨congrArg zI hq.1, congrArg zS hq.2⟩
    · have hq := hq.2 (fun h => c ((z_le ry rx).mpr h))
      try simp only [zat (N := 10) hq.1 (by decide)]
      have hq := hq.2
      try simp only [z_m1, z_0, z_1, z_2, z_3, z_4, z_5, z_6, z_8, z_9, z_10, z_12, z_16, z_30, z_31, z_99, z_300, z_500, z_600, z_20000, zadd, zsub, zmul, zneg, zap]
      have rx := hq.1
      have hq := hq.2
      have ry := hq.1
      have hq := hq.2
      refine ⟨fun c => ?_, fun c => ?_⟩
      · have hq := hq.1 (fun h => c ((z_eq rx ry).mpr h))
        exact hq
      · have hq := hq.2 ((z_eq rx ry).mp c)
        have rx := hq.1
        have hq := hq.2
        intro g9 eg9
        rw [zput rx (by decide)] at eg9
        subst eg9
        have hq := hq _ rfl
        generalize iput hv 2 10 x2 (-1 : Int) = h7 at hq ⊢
        try simp only [z_m1, z_0, z_1, z_2, z_3, z_4, z_5, z_6, z_8, z_9, z_10, z_12, z_16, z_30, z_31, z_99, z_300, z_500, z_600, z_20000, zadd, zsub, zmul, zneg, zap]
        exact hq)
  try simp only [z_m1, z_0, z_1, z_2, z_3, z_4, z_5, z_6, z_8, z_9, z_10, z_12, z_16, z_30, z_31, z_99, z_300, z_500, z_600, z_20000, zadd, zsub, zmul, zneg, zap]
  have rx := hq.1
  have hq := hq.2
  intro g9 eg9
  rw [zput rx (by decide)] at eg9
  subst eg9
  have hq := hq _ rfl
  generalize iput h 6 30 a1 (2 : Int) = h2 at hq ⊢
  try simp only [z_m1, z_0, z_1, z_2, z_3, z_4, z_5, z_6, z_8, z_9, z_10, z_12, z_16, z_30, z_31, z_99, z_300, z_500, z_600, z_20000, zadd, zsub, zmul, zneg, zap]
  exact hq
def Q_X0_wasteOfSet (h : ISt) (a1 : Int) (a2 : Int) (r : Int) : Prop := ∀ V8 : Int → Int → Int → Prop, ∀ V43 : Int → Int → Prop, ∀ V44 : Int → Int → Int → Prop, (∀ x3 x4 x5 : Int, (inR x5 ∧ inR (h 0 1) ∧ (((h 0 1) ≤ x5 → (inR x4 ∧ inR a2 ∧ ((a2 ≤ x4 → (r = (x4 - a2))) ∧ (¬ a2 ≤ x4 → (r = (-1 : Int)))))) ∧ (¬ (h 0 1) ≤ x5 → (∃ r1 : Int, Q_X4_contains a1 x5 r1 ∧ (inR r1 ∧ ((r1 = (0 : Int) → (V8 x3 x4 (x5 + (1 : Int)))) ∧ (¬ r1 = (0 : Int) → (inR x3 ∧ ((x3 = (-1 : Int) → (V43 x4 x5)) ∧ (¬ x3 = (-1 : Int) → (inR x3 ∧ inR (x5 - (1 : Int)) ∧ ((x3 = (x5 - (1 : Int)) → (V43 x4 x5)) ∧ (¬ x3 = (x5 - (1 : Int)) → (V44 x4 x5 (1 : Int))))))))))))))) → V8 x3 x4 x5) → (∀ x4 x5 : Int, (V44 x4 x5 (0 : Int)) → V43 x4 x5) → (∀ x4 x5 t0 : Int, (inR t0 ∧ ((¬ t0 = (0 : Int) → (r = (-1 : Int))) ∧ (t0 = (0 : Int) → (inR x5 ∧ (inR (iat 10 (h 2) x5) ∧ (((iat 10 (h 2) x5) = (-1 : Int) → (inR x5 ∧ (V8 x5 (x4 + ((iat 10 (h 1) x5) - (1 : Int))) (x5 + (1 : Int))))) ∧ (¬ (iat 10 (h 2) x5) = (-1 : Int) → (r = (-1 : Int))))))))) → V44 x4 x5 t0) → (V8 (-1 : Int) (1 : Int) (0 : Int))
set_option maxRecDepth 100000 in
set_option maxHeartbeats 4000000 in
theorem t_X0_wasteOfSet (h : ISt) (a1 : Int) (a2 : Int) (r : Int) (hq : Q_X0_wasteOfSet h a1 a2 r) : P_X0_wasteOfSet (zS h) (zI a1) (zI a2) (zI r) := by
  intro V8 V43 V44 k8 k43 k44
  have hq := hq (fun x3 x4 x5 => V8 (zI x3) (zI x4) (zI x5)) (fun x4 x5 => V43 (zI x4) (zI x5)) (fun x4 x5 t0 => V44 (zI x4) (zI x5) (zI t0))
  have hq := hq (by
    intro x3 x4 x5 hq
    refine k8 (zI x3) (zI x4) (zI x5) ?_
    try simp only [z_m1, z_0, z_1, z_2, z_3, z_4, z_5, z_6, z_8, z_9, z_10, z_12, z_16, z_30, z_31, z_99, z_300, z_500, z_600, z_20000, zadd, zsub, zmul, zneg, zap]
    have rx := hq.1
    have hq := hq.2
    have ry := hq.1
    have hq := hq.2
    refine ⟨fun c => ?_, fun c => ?_⟩
    · have hq := hq.1 ((z_le ry rx).mp c)
      have rx := hq.1
      have hq := hq.2
      have ry := hq.1
      have hq := hq.2
      refine ⟨fun c => ?_, fun c => ?_⟩
      · have hq := hq.1 ((z_le ry rx).mp c)
        exact congrArg zI hq
      · have hq := hq.2 (fun h => c ((z_le ry rx).mpr h))
        exact congrArg zI hq
    · have hq := hq.2 (fun h => c ((z_le ry rx).mpr h))
      obtain ⟨r1, hr1, hq⟩ := hq
      refine ⟨zI r1, t_X4_contains a1 x5 r1 hr1, ?_⟩
      try simp only [z_m1, z_0, z_1, z_2, z_3, z_4, z_5, z_6, z_8, z_9, z_10, z_12, z_16, z_30, z_31, z_99, z_300, z_500, z_600, z_20000, zadd, zsub, zmul, zneg, zap]
      have rx := hq.1
      have hq := hq.2
      refine ⟨fun c => ?_, fun c => ?_⟩
      · have hq := hq.1 ((z_eq rx ⟨by decide, by decide⟩).mp c)
        exact hq
      · have hq := hq.2 (fun h => c ((z_eq rx ⟨by decide, by decide⟩).mpr h))
        have rx := hq.1
        have hq := hq.2
        refine ⟨fun c => ?_, fun c => ?_⟩
        · have hq := hq.1 ((z_eq rx ⟨by decide, by decide⟩).mp c)
          exact hq
        · have hq := hq.2 (fun h => c ((z_eq rx ⟨by decide, by decide⟩).mpr h))
          have rx := hq.1
          have hq := hq.2
          have ry := hq.1
          have hq := hq.2
          refine ⟨fun c => ?_, fun c => ?_⟩
          · have hq := hq.1 ((z_eq rx ry).mp c)
            exact hq
          · have hq := hq.2 (fun h => c ((z_eq rx ry).mpr h))
            exact hq)
  have hq := hq (by
    intro x4 x5 hq
    refine k43 (zI x4) (zI x5) ?_
    try simp only [z_m1, z_0, z_1, z_2, z_3, z_4, z_5, z_6, z_8, z_9, z_10, z_12, z_16, z_30, z_31, z_99, z_300, z_500, z_600, z_20000, zadd, zsub, zmul, zneg, zap]
    exact hq)
  have hq := hq (by
    intro x4 x5 t0 hq
    refine k44 (zI x4) (zI x5) (zI t0) ?_
    try simp only [z_m1, z_0, z_1, z_2, z_3, z_4, z_5, z_6, z_8, z_9, z_10, z_12, z_16, z_30, z_31, z_99, z_300, z_500, z_600, z_20000, zadd, zsub, zmul, zneg, zap]
    have rx := hq.1
    have hq := hq.2
    refine ⟨fun c => ?_, fun c => ?_⟩
    · have hq := hq.1 (fun h => c ((z_eq rx ⟨by decide, by decide⟩).mpr h))
      exact congrArg zI hq
    · have hq := hq.2 ((z_eq rx ⟨by decide, by decide⟩).mp c)
      try simp only [zat (N := 10) hq.1 (by decide)]
      have hq := hq.2
      try simp only [z_m1, z_0, z_1, z_2, z_3, z_4, z_5, z_6, z_8, z_9, z_10, z_12, z_16, z_30, z_31, z_99, z_300, z_500, z_600, z_20000, zadd, zsub, zmul, zneg, zap]
      have rx := hq.1
      have hq := hq.2
      refine ⟨fun c => ?_, fun c => ?_⟩
      · have hq := hq.1 ((z_eq rx ⟨by decide, by decide⟩).mp c)
        try simp only [zat (N := 10) hq.1 (by decide)]
        have hq := hq.2
        try simp only [z_m1, z_0, z_1, z_2, z_3, z_4, z_5, z_6, z_8, z_9, z_10, z_12, z_16, z_30, z_31, z_99, z_300, z_500, z_600, z_20000, zadd, zsub, zmul, zneg, zap]
        exact hq
      · have hq := hq.2 (fun h => c ((z_eq rx ⟨by decide, by decide⟩).mpr h))
        exact congrArg zI hq)
  try simp only [z_m1, z_0, z_1, z_2, z_3, z_4, z_5, z_6, z_8, z_9, z_10, z_12, z_16, z_30, z_31, z_99, z_300, z_500, z_600, z_20000, zadd, zsub, zmul, zneg, zap]
  exact hq
def Q_X0_leastWasteOfSets (h : ISt) (a1 : Int) (r : Int) : Prop := ∀ V4 : Int → Int → Prop, (∀ x2 x3 : Int, ((0 ≤ (h 0 1) ∧ (h 0 1) < 31) ∧ (inR x3 ∧ inR (ishl1 (h 0 1)) ∧ (((ishl1 (h 0 1)) ≤ x3 → (r = x2)) ∧ (¬ (ishl1 (h 0 1)) ≤ x3 → (∃ r1 : Int, Q_X0_wasteOfSet h x3 a1 r1 ∧ (∃ r2 : Int, Q_X0_lesser x2 r1 r2 ∧ (V4 r2 (x3 + (1 : Int))))))))) → V4 x2 x3) → (V4 (-1 : Int) (1 : Int))
set_option maxRecDepth 100000 in
set_option maxHeartbeats 4000000 in
theorem t_X0_leastWasteOfSets (h : ISt) (a1 : Int) (r : Int) (hq : Q_X0_leastWasteOfSets h a1 r) : P_X0_leastWasteOfSets (zS h) (zI a1) (zI r) := by
  intro V4 k4
  have hq := hq (fun x2 x3 => V4 (zI x2) (zI x3))
  have hq := hq (by
    intro x2 x3 hq
    refine k4 (zI x2) (zI x3) ?_
    try simp only [z_m1, z_0, z_1, z_2, z_3, z_4, z_5, z_6, z_8, z_9, z_10, z_12, z_16, z_30, z_31, z_99, z_300, z_500, z_600, z_20000, zadd, zsub, zmul, zneg, zap]
    simp only [zshl hq.1]
    have hq := hq.2
    try simp only [z_m1, z_0, z_1, z_2, z_3, z_4, z_5, z_6, z_8, z_9, z_10, z_12, z_16, z_30, z_31, z_99, z_300, z_500, z_600, z_20000, zadd, zsub, zmul, zneg, zap]
    have rx := hq.1
    have hq := hq.2
    have ry := hq.1
    have hq := hq.2
    refine ⟨fun c => ?_, fun c => ?_⟩
    · have hq := hq.1 ((z_le ry rx).mp c)
      exact congrArg zI hq
    · have hq := hq.2 (fun h => c ((z_le ry rx).mpr h))
      obtain ⟨r1, hr1, hq⟩ := hq
      refine ⟨zI r1, t_X0_wasteOfSet h x3 a1 r1 hr1, ?_⟩
      try simp only [z_m1, z_0, z_1, z_2, z_3, z_4, z_5, z_6, z_8, z_9, z_10, z_12, z_16, z_30, z_31, z_99, z_300, z_500, z_600, z_20000, zadd, zsub, zmul, zneg, zap]
      obtain ⟨r2, hr2, hq⟩ := hq
      refine ⟨zI r2, t_X0_lesser x2 r1 r2 hr2, ?_⟩
      try simp only [z_m1, z_0, z_1, z_2, z_3, z_4, z_5, z_6, z_8, z_9, z_10, z_12, z_16, z_30, z_31, z_99, z_300, z_500, z_600, z_20000, zadd, zsub, zmul, zneg, zap]
      exact hq)
  try simp only [z_m1, z_0, z_1, z_2, z_3, z_4, z_5, z_6, z_8, z_9, z_10, z_12, z_16, z_30, z_31, z_99, z_300, z_500, z_600, z_20000, zadd, zsub, zmul, zneg, zap]
  exact hq
def Q_X0_firstTable (h : ISt) (a1 : Int) (r : Int) : Prop := ∀ V2 : Int → Prop, (∀ x2 : Int, (inR x2 ∧ inR (h 0 1) ∧ (((h 0 1) ≤ x2 → (r = (-1 : Int))) ∧ (¬ (h 0 1) ≤ x2 → (inR x2 ∧ (inR (iat 10 (h 2) x2) ∧ inR a1 ∧ ((¬ (iat 10 (h 2) x2) = a1 → (V2 (x2 + (1 : Int)))) ∧ ((iat 10 (h 2) x2) = a1 → (r = x2)))))))) → V2 x2) → (V2 (0 : Int))
set_option maxRecDepth 100000 in
set_option maxHeartbeats 4000000 in
theorem t_X0_firstTable (h : ISt) (a1 : Int) (r : Int) (hq : Q_X0_firstTable h a1 r) : P_X0_firstTable (zS h) (zI a1) (zI r) := by
  intro V2 k2
  have hq := hq (fun x2 => V2 (zI x2))
  have hq := hq (by
    intro x2 hq
    refine k2 (zI x2) ?_
    try simp only [z_m1, z_0, z_1, z_2, z_3, z_4, z_5, z_6, z_8, z_9, z_10, z_12, z_16, z_30, z_31, z_99, z_300, z_500, z_600, z_20000, zadd, zsub, zmul, zneg, zap]
    have rx := hq.1
    have hq := hq.2
    have ry := hq.1
    have hq := hq.2
    refine ⟨fun c => ?_, fun c => ?_⟩
    · have hq := hq.1 ((z_le ry rx).mp c)
      exact congrArg zI hq
    · have hq := hq.2 (fun h => c ((z_le ry rx).mpr h))
      try simp only [zat (N := 10) hq.1 (by decide)]
      have hq := hq.2
      try simp only [z_m1, z_0, z_1, z_2, z_3, z_4, z_5, z_6, z_8, z_9, z_10, z_12, z_16, z_30, z_31, z_99, z_300, z_500, z_600, z_20000, zadd, zsub, zmul, zneg, zap]
      have rx := hq.1
      have hq := hq.2
      have ry := hq.1
      have hq := hq.2
      refine ⟨fun c => ?_, fun c => ?_⟩
      · have hq := hq.1 (fun h => c ((z_eq rx ry).mpr h))
        exact hq
      · have hq := hq.2 ((z_eq rx ry).mp c)
        exact congrArg zI hq)
  try simp only [z_m1, z_0, z_1, z_2, z_3, z_4, z_5, z_6, z_8, z_9, z_10, z_12, z_16, z_30, z_31, z_99, z_300, z_500, z_600, z_20000, zadd, zsub, zmul, zneg, zap]
  exact hq
def Q_X0_countTables (h : ISt) (a1 : Int) (r : Int) : Prop := ∀ V4 : Int → Int → Prop, (∀ x2 x3 : Int, (inR x3 ∧ inR (h 0 1) ∧ (((h 0 1) ≤ x3 → (r = x2)) ∧ (¬ (h 0 1) ≤ x3 → (inR x3 ∧ (inR (iat 10 (h 2) x3) ∧ inR a1 ∧ ((¬ (iat 10 (h 2) x3) = a1 → (V4 x2 (x3 + (1 : Int)))) ∧ ((iat 10 (h 2) x3) = a1 → (V4 (x2 + (1 : Int)) (x3 + (1 : Int)))))))))) → V4 x2 x3) → (V4 (0 : Int) (0 : Int))
set_option maxRecDepth 100000 in
set_option maxHeartbeats 4000000 in
theorem t_X0_countTables (h : ISt) (a1 : Int) (r : Int) (hq : Q_X0_countTables h a1 r) : P_X0_countTables (zS h) (zI a1) (zI r) := by
  intro V4 k4
  have hq := hq (fun x2 x3 => V4 (zI x2) (zI x3))
  have hq := hq (by
    intro x2 x3 hq
    refine k4 (zI x2) (zI x3) ?_
    try simp only [z_m1, z_0, z_1, z_2, z_3, z_4, z_5, z_6, z_8, z_9, z_10, z_12, z_16, z_30, z_31, z_99, z_300, z_500, z_600, z_20000, zadd, zsub, zmul, zneg, zap]
    have rx := hq.1
    have hq := hq.2
    have ry := hq.1
    have hq := hq.2
    refine ⟨fun c => ?_, fun c => ?_⟩
    · have hq := hq.1 ((z_le ry rx).mp c)
      exact congrArg zI hq
    · have hq := hq.2 (fun h => c ((z_le ry rx).mpr h))
      try simp only [zat (N := 10) hq.1 (by decide)]
      have hq := hq.2
      try simp only [z_m1, z_0, z_1, z_2, z_3, z_4, z_5, z_6, z_8, z_9, z_10, z_12, z_16, z_30, z_31, z_99, z_300, z_500, z_600, z_20000, zadd, zsub, zmul, zneg, zap]
      have rx := hq.1
      have hq := hq.2
      have ry := hq.1
      have hq := hq.2
      refine ⟨fun c => ?_, fun c => ?_⟩
      · have hq := hq.1 (fun h => c ((z_eq rx ry).mpr h))
        exact hq
      · have hq := hq.2 ((z_eq rx ry).mp c)
        exact hq)
  try simp only [z_m1, z_0, z_1, z_2, z_3, z_4, z_5, z_6, z_8, z_9, z_10, z_12, z_16, z_30, z_31, z_99, z_300, z_500, z_600, z_20000, zadd, zsub, zmul, zneg, zap]
  exact hq
def Q_X0_countWaiting (h : ISt) (r : Int) : Prop := ∀ V4 : Int → Int → Prop, (∀ x1 x2 : Int, (inR x2 ∧ inR (h 0 2) ∧ (((h 0 2) ≤ x2 → (r = x1)) ∧ (¬ (h 0 2) ≤ x2 → (inR x2 ∧ (inR (iat 30 (h 6) x2) ∧ ((¬ (iat 30 (h 6) x2) = (0 : Int) → (V4 x1 (x2 + (1 : Int)))) ∧ ((iat 30 (h 6) x2) = (0 : Int) → (V4 (x1 + (1 : Int)) (x2 + (1 : Int)))))))))) → V4 x1 x2) → (V4 (0 : Int) (0 : Int))
set_option maxRecDepth 100000 in
set_option maxHeartbeats 4000000 in
theorem t_X0_countWaiting (h : ISt) (r : Int) (hq : Q_X0_countWaiting h r) : P_X0_countWaiting (zS h) (zI r) := by
  intro V4 k4
  have hq := hq (fun x1 x2 => V4 (zI x1) (zI x2))
  have hq := hq (by
    intro x1 x2 hq
    refine k4 (zI x1) (zI x2) ?_
    try simp only [z_m1, z_0, z_1, z_2, z_3, z_4, z_5, z_6, z_8, z_9, z_10, z_12, z_16, z_30, z_31, z_99, z_300, z_500, z_600, z_20000, zadd, zsub, zmul, zneg, zap]
    have rx := hq.1
    have hq := hq.2
    have ry := hq.1
    have hq := hq.2
    refine ⟨fun c => ?_, fun c => ?_⟩
    · have hq := hq.1 ((z_le ry rx).mp c)
      exact congrArg zI hq
    · have hq := hq.2 (fun h => c ((z_le ry rx).mpr h))
      try simp only [zat (N := 30) hq.1 (by decide)]
      have hq := hq.2
      try simp only [z_m1, z_0, z_1, z_2, z_3, z_4, z_5, z_6, z_8, z_9, z_10, z_12, z_16, z_30, z_31, z_99, z_300, z_500, z_600, z_20000, zadd, zsub, zmul, zneg, zap]
      have rx := hq.1
      have hq := hq.2
      refine ⟨fun c => ?_, fun c => ?_⟩
      · have hq := hq.1 (fun h => c ((z_eq rx ⟨by decide, by decide⟩).mpr h))
        exact hq
      · have hq := hq.2 ((z_eq rx ⟨by decide, by decide⟩).mp c)
        exact hq)
  try simp only [z_m1, z_0, z_1, z_2, z_3, z_4, z_5, z_6, z_8, z_9, z_10, z_12, z_16, z_30, z_31, z_99, z_300, z_500, z_600, z_20000, zadd, zsub, zmul, zneg, zap]
  exact hq
def Q_X0_isSeated (h : ISt) (a1 : Int) (r : Int) : Prop := (inR a1 ∧ (inR (iat 30 (h 6) a1) ∧ ((¬ (iat 30 (h 6) a1) = (1 : Int) → (r = (0 : Int))) ∧ ((iat 30 (h 6) a1) = (1 : Int) → (r = (1 : Int))))))
set_option maxRecDepth 100000 in
set_option maxHeartbeats 4000000 in
theorem t_X0_isSeated (h : ISt) (a1 : Int) (r : Int) (hq : Q_X0_isSeated h a1 r) : P_X0_isSeated (zS h) (zI a1) (zI r) := by
  unfold P_X0_isSeated
  unfold Q_X0_isSeated at hq
  try simp only [z_m1, z_0, z_1, z_2, z_3, z_4, z_5, z_6, z_8, z_9, z_10, z_12, z_16, z_30, z_31, z_99, z_300, z_500, z_600, z_20000, zadd, zsub, zmul, zneg, zap]
  try simp only [zat (N := 30) hq.1 (by decide)]
  have hq := hq.2
  try simp only [z_m1, z_0, z_1, z_2, z_3, z_4, z_5, z_6, z_8, z_9, z_10, z_12, z_16, z_30, z_31, z_99, z_300, z_500, z_600, z_20000, zadd, zsub, zmul, zneg, zap]
  have rx := hq.1
  have hq := hq.2
  refine ⟨fun c => ?_, fun c => ?_⟩
  · have hq := hq.1 (fun h => c ((z_eq rx ⟨by decide, by decide⟩).mpr h))
    exact congrArg zI hq
  · have hq := hq.2 ((z_eq rx ⟨by decide, by decide⟩).mp c)
    exact congrArg zI hq
def Q_X0_isGone (h : ISt) (a1 : Int) (r : Int) : Prop := (inR a1 ∧ (inR (iat 30 (h 6) a1) ∧ ((¬ (iat 30 (h 6) a1) = (2 : Int) → (r = (0 : Int))) ∧ ((iat 30 (h 6) a1) = (2 : Int) → (r = (1 : Int))))))
set_option maxRecDepth 100000 in
set_option maxHeartbeats 4000000 in
theorem t_X0_isGone (h : ISt) (a1 : Int) (r : Int) (hq : Q_X0_isGone h a1 r) : P_X0_isGone (zS h) (zI a1) (zI r) := by
  unfold P_X0_isGone
  unfold Q_X0_isGone at hq
  try simp only [z_m1, z_0, z_1, z_2, z_3, z_4, z_5, z_6, z_8, z_9, z_10, z_12, z_16, z_30, z_31, z_99, z_300, z_500, z_600, z_20000, zadd, zsub, zmul, zneg, zap]
  try simp only [zat (N := 30) hq.1 (by decide)]
  have hq := hq.2
  try simp only [z_m1, z_0, z_1, z_2, z_3, z_4, z_5, z_6, z_8, z_9, z_10, z_12, z_16, z_30, z_31, z_99, z_300, z_500, z_600, z_20000, zadd, zsub, zmul, zneg, zap]
  have rx := hq.1
  have hq := hq.2
  refine ⟨fun c => ?_, fun c => ?_⟩
  · have hq := hq.1 (fun h => c ((z_eq rx ⟨by decide, by decide⟩).mpr h))
    exact congrArg zI hq
  · have hq := hq.2 ((z_eq rx ⟨by decide, by decide⟩).mp c)
    exact congrArg zI hq
def Q_X0_minutesLeft (h : ISt) (a1 : Int) (r : Int) : Prop := (inR a1 ∧ (inR ((iat 30 (h 5) a1) - (h 0 0)) ∧ (r = (imax ((iat 30 (h 5) a1) - (h 0 0)) (0 : Int)))))
set_option maxRecDepth 100000 in
set_option maxHeartbeats 4000000 in
theorem t_X0_minutesLeft (h : ISt) (a1 : Int) (r : Int) (hq : Q_X0_minutesLeft h a1 r) : P_X0_minutesLeft (zS h) (zI a1) (zI r) := by
  unfold P_X0_minutesLeft
  unfold Q_X0_minutesLeft at hq
  try simp only [z_m1, z_0, z_1, z_2, z_3, z_4, z_5, z_6, z_8, z_9, z_10, z_12, z_16, z_30, z_31, z_99, z_300, z_500, z_600, z_20000, zadd, zsub, zmul, zneg, zap]
  try simp only [zat (N := 30) hq.1 (by decide)]
  have hq := hq.2
  try simp only [z_m1, z_0, z_1, z_2, z_3, z_4, z_5, z_6, z_8, z_9, z_10, z_12, z_16, z_30, z_31, z_99, z_300, z_500, z_600, z_20000, zadd, zsub, zmul, zneg, zap]
  have rx := hq.1
  have hq := hq.2
  try simp only [zmax (a := ((iat 30 (h 5) a1) - (h 0 0))) (b := (0 : Int)) rx ⟨by decide, by decide⟩]
  try simp only [z_m1, z_0, z_1, z_2, z_3, z_4, z_5, z_6, z_8, z_9, z_10, z_12, z_16, z_30, z_31, z_99, z_300, z_500, z_600, z_20000, zadd, zsub, zmul, zneg, zap]
  exact congrArg zI hq
