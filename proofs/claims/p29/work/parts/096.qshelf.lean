def Q_X3_putTitle (h : ISt) (a1 : Int) (a2 : Int) (a3 : Int) (r : Int) (h' : ISt) : Prop := (inR (h 0 0) ∧ (∀ h2 : ISt, h2 = iput h 1 8 (h 0 0) a1 → (inR (h2 0 0) ∧ (∀ h4 : ISt, h4 = iput h2 2 8 (h2 0 0) a2 → (inR (h4 0 0) ∧ (∀ h6 : ISt, h6 = iput h4 3 8 (h4 0 0) a3 → (∀ h7 : ISt, h7 = iset h6 0 0 ((h6 0 0) + (1 : Int)) → (r = ((h7 0 0) - (1 : Int)) ∧ h' = h7))))))))
set_option maxRecDepth 100000 in
set_option maxHeartbeats 4000000 in
theorem t_X3_putTitle (h : ISt) (a1 : Int) (a2 : Int) (a3 : Int) (r : Int) (h' : ISt) (hq : Q_X3_putTitle h a1 a2 a3 r h') : P_X3_putTitle (zS h) (zI a1) (zI a2) (zI a3) (zI r) (zS h') := by
  unfold P_X3_putTitle
  unfold Q_X3_putTitle at hq
  try simp only [z_m1, z_0, z_1, z_2, z_3, z_4, z_5, z_6, z_8, z_9, z_10, z_12, z_16, z_30, z_31, z_99, z_300, z_500, z_600, z_20000, zadd, zsub, zmul, zneg, zap]
  have rx := hq.1
  have hq := hq.2
  intro g9 eg9
  rw [zput rx (by decide)] at eg9
  subst eg9
  have hq := hq _ rfl
  generalize iput h 1 8 (h 0 0) a1 = h2 at hq ⊢
  try simp only [z_m1, z_0, z_1, z_2, z_3, z_4, z_5, z_6, z_8, z_9, z_10, z_12, z_16, z_30, z_31, z_99, z_300, z_500, z_600, z_20000, zadd, zsub, zmul, zneg, zap]
  have rx := hq.1
  have hq := hq.2
  intro g9 eg9
  rw [zput rx (by decide)] at eg9
  subst eg9
  have hq := hq _ rfl
  generalize iput h2 2 8 (h2 0 0) a2 = h4 at hq ⊢
  try simp only [z_m1, z_0, z_1, z_2, z_3, z_4, z_5, z_6, z_8, z_9, z_10, z_12, z_16, z_30, z_31, z_99, z_300, z_500, z_600, z_20000, zadd, zsub, zmul, zneg, zap]
  have rx := hq.1
  have hq := hq.2
  intro g9 eg9
  rw [zput rx (by decide)] at eg9
  subst eg9
  have hq := hq _ rfl
  generalize iput h4 3 8 (h4 0 0) a3 = h6 at hq ⊢
  try simp only [z_m1, z_0, z_1, z_2, z_3, z_4, z_5, z_6, z_8, z_9, z_10, z_12, z_16, z_30, z_31, z_99, z_300, z_500, z_600, z_20000, zadd, zsub, zmul, zneg, zap]
  intro g9 eg9
  rw [zset] at eg9
  subst eg9
  have hq := hq _ rfl
  generalize iset h6 0 0 ((h6 0 0) + (1 : Int)) = h7 at hq ⊢
  try simp only [z_m1, z_0, z_1, z_2, z_3, z_4, z_5, z_6, z_8, z_9, z_10, z_12, z_16, z_30, z_31, z_99, z_300, z_500, z_600, z_20000, zadd, zsub, zmul, zneg, zap]
  exact ⟨congrArg zI hq.1, congrArg zS hq.2⟩
def Q_X3_setFull (h : ISt) (a1 : Int) (a2 : Int) (a3 : Int) (h' : ISt) : Prop := (inR ((a1 * (4 : Int)) + a2) ∧ (∀ h2 : ISt, h2 = iput h 4 32 ((a1 * (4 : Int)) + a2) a3 → (h' = h2)))
set_option maxRecDepth 100000 in
set_option maxHeartbeats 4000000 in
theorem t_X3_setFull (h : ISt) (a1 : Int) (a2 : Int) (a3 : Int) (h' : ISt) (hq : Q_X3_setFull h a1 a2 a3 h') : P_X3_setFull (zS h) (zI a1) (zI a2) (zI a3) (zS h') := by
  unfold P_X3_setFull
  unfold Q_X3_setFull at hq
  try simp only [z_m1, z_0, z_1, z_2, z_3, z_4, z_5, z_6, z_8, z_9, z_10, z_12, z_16, z_30, z_31, z_99, z_300, z_500, z_600, z_20000, zadd, zsub, zmul, zneg, zap]
  have rx := hq.1
  have hq := hq.2
  intro g9 eg9
  rw [zput rx (by decide)] at eg9
  subst eg9
  have hq := hq _ rfl
  generalize iput h 4 32 ((a1 * (4 : Int)) + a2) a3 = h2 at hq ⊢
  try simp only [z_m1, z_0, z_1, z_2, z_3, z_4, z_5, z_6, z_8, z_9, z_10, z_12, z_16, z_30, z_31, z_99, z_300, z_500, z_600, z_20000, zadd, zsub, zmul, zneg, zap]
  exact congrArg zS hq
def Q_X3_putCopy (h : ISt) (a1 : Int) (r : Int) (h' : ISt) : Prop := ∀ V26 : ISt → Int → Int → Prop, (∀ hv : ISt, ∀ x2 x3 : Int, (inR x3 ∧ (((4 : Int) ≤ x3 → (r = x2 ∧ h' = hv)) ∧ (¬ (4 : Int) ≤ x3 → (inR ((a1 * (4 : Int)) + x3) ∧ (inR ((x2 * (4 : Int)) + x3) ∧ (∀ h6 : ISt, h6 = iput hv 9 64 ((x2 * (4 : Int)) + x3) (iat 32 (hv 4) ((a1 * (4 : Int)) + x3)) → (V26 h6 x2 (x3 + (1 : Int))))))))) → V26 hv x2 x3) → (∀ h1 : ISt, h1 = iset h 0 1 ((h 0 1) + (1 : Int)) → (inR (h 0 1) ∧ (∀ h3 : ISt, h3 = iput h1 5 16 (h 0 1) a1 → (V26 h3 (h 0 1) (0 : Int)))))
set_option maxRecDepth 100000 in
set_option maxHeartbeats 4000000 in
theorem t_X3_putCopy (h : ISt) (a1 : Int) (r : Int) (h' : ISt) (hq : Q_X3_putCopy h a1 r h') : P_X3_putCopy (zS h) (zI a1) (zI r) (zS h') := by
  intro V26 k26
  have hq := hq (fun hv x2 x3 => V26 (zS hv) (zI x2) (zI x3))
  have hq := hq (by
    intro hv x2 x3 hq
    refine k26 (zS hv) (zI x2) (zI x3) ?_
    try simp only [z_m1, z_0, z_1, z_2, z_3, z_4, z_5, z_6, z_8, z_9, z_10, z_12, z_16, z_30, z_31, z_99, z_300, z_500, z_600, z_20000, zadd, zsub, zmul, zneg, zap]
    have rx := hq.1
    have hq := hq.2
    refine ⟨fun c => ?_, fun c => ?_⟩
    · have hq := hq.1 ((z_le ⟨by decide, by decide⟩ rx).mp c)
      exact ⟨congrArg zI hq.1, congrArg zS hq.2⟩
    · have hq := hq.2 (fun h => c ((z_le ⟨by decide, by decide⟩ rx).mpr h))
      try simp only [zat (N := 32) hq.1 (by decide)]
      have hq := hq.2
      try simp only [z_m1, z_0, z_1, z_2, z_3, z_4, z_5, z_6, z_8, z_9, z_10, z_12, z_16, z_30, z_31, z_99, z_300, z_500, z_600, z_20000, zadd, zsub, zmul, zneg, zap]
      have rx := hq.1
      have hq := hq.2
      intro g9 eg9
      rw [zput rx (by decide)] at eg9
      subst eg9
      have hq := hq _ rfl
      generalize iput hv 9 64 ((x2 * (4 : Int)) + x3) (iat 32 (hv 4) ((a1 * (4 : Int)) + x3)) = h6 at hq ⊢
      try simp only [z_m1, z_0, z_1, z_2, z_3, z_4, z_5, z_6, z_8, z_9, z_10, z_12, z_16, z_30, z_31, z_99, z_300, z_500, z_600, z_20000, zadd, zsub, zmul, zneg, zap]
      exact hq)
  try simp only [z_m1, z_0, z_1, z_2, z_3, z_4, z_5, z_6, z_8, z_9, z_10, z_12, z_16, z_30, z_31, z_99, z_300, z_500, z_600, z_20000, zadd, zsub, zmul, zneg, zap]
  intro g9 eg9
  rw [zset] at eg9
  subst eg9
  have hq := hq _ rfl
  generalize iset h 0 1 ((h 0 1) + (1 : Int)) = h1 at hq ⊢
  try simp only [z_m1, z_0, z_1, z_2, z_3, z_4, z_5, z_6, z_8, z_9, z_10, z_12, z_16, z_30, z_31, z_99, z_300, z_500, z_600, z_20000, zadd, zsub, zmul, zneg, zap]
  have rx := hq.1
  have hq := hq.2
  intro g9 eg9
  rw [zput rx (by decide)] at eg9
  subst eg9
  have hq := hq _ rfl
  generalize iput h1 5 16 (h 0 1) a1 = h3 at hq ⊢
  try simp only [z_m1, z_0, z_1, z_2, z_3, z_4, z_5, z_6, z_8, z_9, z_10, z_12, z_16, z_30, z_31, z_99, z_300, z_500, z_600, z_20000, zadd, zsub, zmul, zneg, zap]
  exact hq
def Q_X3_heldBy (h : ISt) (a1 : Int) (r : Int) : Prop := ∀ V2 : Int → Prop, (∀ x2 : Int, (inR x2 ∧ inR (h 0 1) ∧ (((h 0 1) ≤ x2 → (r = (-1 : Int))) ∧ (¬ (h 0 1) ≤ x2 → (inR x2 ∧ (inR (iat 16 (h 6) x2) ∧ inR a1 ∧ ((¬ (iat 16 (h 6) x2) = a1 → (V2 (x2 + (1 : Int)))) ∧ ((iat 16 (h 6) x2) = a1 → (r = x2)))))))) → V2 x2) → (V2 (0 : Int))
set_option maxRecDepth 100000 in
set_option maxHeartbeats 4000000 in
theorem t_X3_heldBy (h : ISt) (a1 : Int) (r : Int) (hq : Q_X3_heldBy h a1 r) : P_X3_heldBy (zS h) (zI a1) (zI r) := by
  intro V2 k2
  have hq := hq (fun x2 => V2 (zI x2))
  have hq := hq (by
    intro x2 hq
    refine k2 (zI x2) ?_
    try simp only [z_m1, z_0, z_1, z_2, z_3, z_4, z_5, z_6, z_8, z_9, z_10, z_12, z_16, z_30, z_31, z_99, z_300, z_500, z_600, z_20000, zadd, zsub, zmul, zneg, zap]
    have rx := hq.1
    have hq := hq.2
    have ry := hq.1
    have hq := hq.2
    refine ⟨fun c => ?_, fun c => ?_⟩
    · have hq := hq.1 ((z_le ry rx).mp c)
      exact congrArg zI hq
    · have hq := hq.2 (fun h => c ((z_le ry rx).mpr h))
      try simp only [zat (N := 16) hq.1 (by decide)]
      have hq := hq.2
      try simp only [z_m1, z_0, z_1, z_2, z_3, z_4, z_5, z_6, z_8, z_9, z_10, z_12, z_16, z_30, z_31, z_99, z_300, z_500, z_600, z_20000, zadd, zsub, zmul, zneg, zap]
      have rx := hq.1
      have hq := hq.2
      have ry := hq.1
      have hq := hq.2
      refine ⟨fun c => ?_, fun c => ?_⟩
      · have hq := hq.1 (fun h => c ((z_eq rx ry).mpr h))
        exact hq
      · have hq := hq.2 ((z_eq rx ry).mp c)
        exact congrArg zI hq)
  try simp only [z_m1, z_0, z_1, z_2, z_3, z_4, z_5, z_6, z_8, z_9, z_10, z_12, z_16, z_30, z_31, z_99, z_300, z_500, z_600, z_20000, zadd, zsub, zmul, zneg, zap]
  exact hq
def Q_X3_place (h : ISt) (a1 : Int) (r : Int) : Prop := (inR a1 ∧ (inR (iat 16 (h 6) a1) ∧ (((iat 16 (h 6) a1) = (-1 : Int) → (inR a1 ∧ (inR (iat 16 (h 7) a1) ∧ (((iat 16 (h 7) a1) = (-1 : Int) → (r = (0 : Int))) ∧ (¬ (iat 16 (h 7) a1) = (-1 : Int) → (r = (2 : Int))))))) ∧ (¬ (iat 16 (h 6) a1) = (-1 : Int) → (r = (1 : Int))))))
set_option maxRecDepth 100000 in
set_option maxHeartbeats 4000000 in
theorem t_X3_place (h : ISt) (a1 : Int) (r : Int) (hq : Q_X3_place h a1 r) : P_X3_place (zS h) (zI a1) (zI r) := by
  unfold P_X3_place
  unfold Q_X3_place at hq
  try simp only [z_m1, z_0, z_1, z_2, z_3, z_4, z_5, z_6, z_8, z_9, z_10, z_12, z_16, z_30, z_31, z_99, z_300, z_500, z_600, z_20000, zadd, zsub, zmul, zneg, zap]
  try simp only [zat (N := 16) hq.1 (by decide)]
  have hq := hq.2
  try simp only [z_m1, z_0, z_1, z_2, z_3, z_4, z_5, z_6, z_8, z_9, z_10, z_12, z_16, z_30, z_31, z_99, z_300, z_500, z_600, z_20000, zadd, zsub, zmul, zneg, zap]
  have rx := hq.1
  have hq := hq.2
  refine ⟨fun c => ?_, fun c => ?_⟩
  · have hq := hq.1 ((z_eq rx ⟨by decide, by decide⟩).mp c)
    try simp only [zat (N := 16) hq.1 (by decide)]
    have hq := hq.2
    try simp only [z_m1, z_0, z_1, z_2, z_3, z_4, z_5, z_6, z_8, z_9, z_10, z_12, z_16, z_30, z_31, z_99, z_300, z_500, z_600, z_20000, zadd, zsub, zmul, zneg, zap]
    have rx := hq.1
    have hq := hq.2
    refine ⟨fun c => ?_, fun c => ?_⟩
    · have hq := hq.1 ((z_eq rx ⟨by decide, by decide⟩).mp c)
      exact congrArg zI hq
    · have hq := hq.2 (fun h => c ((z_eq rx ⟨by decide, by decide⟩).mpr h))
      exact congrArg zI hq
  · have hq := hq.2 (fun h => c ((z_eq rx ⟨by decide, by decide⟩).mpr h))
    exact congrArg zI hq
def Q_X3_count (h : ISt) (a1 : Int) (a2 : Int) (r : Int) : Prop := (inR ((a1 * (4 : Int)) + a2) ∧ (r = (iat 64 (h 9) ((a1 * (4 : Int)) + a2))))
set_option maxRecDepth 100000 in
set_option maxHeartbeats 4000000 in
theorem t_X3_count (h : ISt) (a1 : Int) (a2 : Int) (r : Int) (hq : Q_X3_count h a1 a2 r) : P_X3_count (zS h) (zI a1) (zI a2) (zI r) := by
  unfold P_X3_count
  unfold Q_X3_count at hq
  try simp only [z_m1, z_0, z_1, z_2, z_3, z_4, z_5, z_6, z_8, z_9, z_10, z_12, z_16, z_30, z_31, z_99, z_300, z_500, z_600, z_20000, zadd, zsub, zmul, zneg, zap]
  try simp only [zat (N := 64) hq.1 (by decide)]
  have hq := hq.2
  try simp only [z_m1, z_0, z_1, z_2, z_3, z_4, z_5, z_6, z_8, z_9, z_10, z_12, z_16, z_30, z_31, z_99, z_300, z_500, z_600, z_20000, zadd, zsub, zmul, zneg, zap]
  exact congrArg zI hq
def Q_X3_lack (h : ISt) (a1 : Int) (a2 : Int) (r : Int) : Prop := (inR a1 ∧ (inR (((iat 16 (h 5) a1) * (4 : Int)) + a2) ∧ (inR ((a1 * (4 : Int)) + a2) ∧ (r = ((iat 32 (h 4) (((iat 16 (h 5) a1) * (4 : Int)) + a2)) - (iat 64 (h 9) ((a1 * (4 : Int)) + a2)))))))
set_option maxRecDepth 100000 in
set_option maxHeartbeats 4000000 in
theorem t_X3_lack (h : ISt) (a1 : Int) (a2 : Int) (r : Int) (hq : Q_X3_lack h a1 a2 r) : P_X3_lack (zS h) (zI a1) (zI a2) (zI r) := by
  unfold P_X3_lack
  unfold Q_X3_lack at hq
  try simp only [z_m1, z_0, z_1, z_2, z_3, z_4, z_5, z_6, z_8, z_9, z_10, z_12, z_16, z_30, z_31, z_99, z_300, z_500, z_600, z_20000, zadd, zsub, zmul, zneg, zap]
  try simp only [zat (N := 16) hq.1 (by decide)]
  have hq := hq.2
  try simp only [z_m1, z_0, z_1, z_2, z_3, z_4, z_5, z_6, z_8, z_9, z_10, z_12, z_16, z_30, z_31, z_99, z_300, z_500, z_600, z_20000, zadd, zsub, zmul, zneg, zap]
  try simp only [zat (N := 32) hq.1 (by decide)]
  have hq := hq.2
  try simp only [z_m1, z_0, z_1, z_2, z_3, z_4, z_5, z_6, z_8, z_9, z_10, z_12, z_16, z_30, z_31, z_99, z_300, z_500, z_600, z_20000, zadd, zsub, zmul, zneg, zap]
  try simp only [zat (N := 64) hq.1 (by decide)]
  have hq := hq.2
  try simp only [z_m1, z_0, z_1, z_2, z_3, z_4, z_5, z_6, z_8, z_9, z_10, z_12, z_16, z_30, z_31, z_99, z_300, z_500, z_600, z_20000, zadd, zsub, zmul, zneg, zap]
  exact congrArg zI hq
def Q_X3_change (h : ISt) (a1 : Int) (a2 : Int) (a3 : Int) (h' : ISt) : Prop := (∃ r1 : Int, Q_X3_count h a1 a2 r1 ∧ (inR ((a1 * (4 : Int)) + a2) ∧ (∀ h3 : ISt, h3 = iput h 9 64 ((a1 * (4 : Int)) + a2) (r1 + a3) → (h' = h3))))
set_option maxRecDepth 100000 in
set_option maxHeartbeats 4000000 in
theorem t_X3_change (h : ISt) (a1 : Int) (a2 : Int) (a3 : Int) (h' : ISt) (hq : Q_X3_change h a1 a2 a3 h') : P_X3_change (zS h) (zI a1) (zI a2) (zI a3) (zS h') := by
  unfold P_X3_change
  unfold Q_X3_change at hq
  try simp only [z_m1, z_0, z_1, z_2, z_3, z_4, z_5, z_6, z_8, z_9, z_10, z_12, z_16, z_30, z_31, z_99, z_300, z_500, z_600, z_20000, zadd, zsub, zmul, zneg, zap]
  obtain ⟨r1, hr1, hq⟩ := hq
  refine ⟨zI r1, t_X3_count h a1 a2 r1 hr1, ?_⟩
  try simp only [z_m1, z_0, z_1, z_2, z_3, z_4, z_5, z_6, z_8, z_9, z_10, z_12, z_16, z_30, z_31, z_99, z_300, z_500, z_600, z_20000, zadd, zsub, zmul, zneg, zap]
  have rx := hq.1
  have hq := hq.2
  intro g9 eg9
  rw [zput rx (by decide)] at eg9
  subst eg9
  have hq := hq _ rfl
  generalize iput h 9 64 ((a1 * (4 : Int)) + a2) (r1 + a3) = h3 at hq ⊢
  try simp only [z_m1, z_0, z_1, z_2, z_3, z_4, z_5, z_6, z_8, z_9, z_10, z_12, z_16, z_30, z_31, z_99, z_300, z_500, z_600, z_20000, zadd, zsub, zmul, zneg, zap]
  exact congrArg zS hq
def Q_X3_suits (h : ISt) (a1 : Int) (a2 : Int) (a3 : Int) (r : Int) : Prop := (inR a1 ∧ (inR a2 ∧ inR (iat 8 (h 1) a1) ∧ ((a2 < (iat 8 (h 1) a1) → (r = (0 : Int))) ∧ (¬ a2 < (iat 8 (h 1) a1) → (inR a1 ∧ (inR a2 ∧ inR (iat 8 (h 2) a1) ∧ (((iat 8 (h 2) a1) < a2 → (r = (0 : Int))) ∧ (¬ (iat 8 (h 2) a1) < a2 → (inR a1 ∧ (inR a3 ∧ inR (iat 8 (h 3) a1) ∧ ((a3 < (iat 8 (h 3) a1) → (r = (0 : Int))) ∧ (¬ a3 < (iat 8 (h 3) a1) → (r = (1 : Int))))))))))))))
set_option maxRecDepth 100000 in
set_option maxHeartbeats 4000000 in
theorem t_X3_suits (h : ISt) (a1 : Int) (a2 : Int) (a3 : Int) (r : Int) (hq : Q_X3_suits h a1 a2 a3 r) : P_X3_suits (zS h) (zI a1) (zI a2) (zI a3) (zI r) := by
  unfold P_X3_suits
  unfold Q_X3_suits at hq
  try simp only [z_m1, z_0, z_1, z_2, z_3, z_4, z_5, z_6, z_8, z_9, z_10, z_12, z_16, z_30, z_31, z_99, z_300, z_500, z_600, z_20000, zadd, zsub, zmul, zneg, zap]
  try simp only [zat (N := 8) hq.1 (by decide)]
  have hq := hq.2
  try simp only [z_m1, z_0, z_1, z_2, z_3, z_4, z_5, z_6, z_8, z_9, z_10, z_12, z_16, z_30, z_31, z_99, z_300, z_500, z_600, z_20000, zadd, zsub, zmul, zneg, zap]
  have rx := hq.1
  have hq := hq.2
  have ry := hq.1
  have hq := hq.2
  refine ⟨fun c => ?_, fun c => ?_⟩
  · have hq := hq.1 ((z_lt rx ry).mp c)
    exact congrArg zI hq
  · have hq := hq.2 (fun h => c ((z_lt rx ry).mpr h))
    try simp only [zat (N := 8) hq.1 (by decide)]
    have hq := hq.2
    try simp only [z_m1, z_0, z_1, z_2, z_3, z_4, z_5, z_6, z_8, z_9, z_10, z_12, z_16, z_30, z_31, z_99, z_300, z_500, z_600, z_20000, zadd, zsub, zmul, zneg, zap]
    have rx := hq.1
    have hq := hq.2
    have ry := hq.1
    have hq := hq.2
    refine ⟨fun c => ?_, fun c => ?_⟩
    · have hq := hq.1 ((z_lt ry rx).mp c)
      exact congrArg zI hq
    · have hq := hq.2 (fun h => c ((z_lt ry rx).mpr h))
      try simp only [zat (N := 8) hq.1 (by decide)]
      have hq := hq.2
      try simp only [z_m1, z_0, z_1, z_2, z_3, z_4, z_5, z_6, z_8, z_9, z_10, z_12, z_16, z_30, z_31, z_99, z_300, z_500, z_600, z_20000, zadd, zsub, zmul, zneg, zap]
      have rx := hq.1
      have hq := hq.2
      have ry := hq.1
      have hq := hq.2
      refine ⟨fun c => ?_, fun c => ?_⟩
      · have hq := hq.1 ((z_lt rx ry).mp c)
        exact congrArg zI hq
      · have hq := hq.2 (fun h => c ((z_lt rx ry).mpr h))
        exact congrArg zI hq
def Q_X3_countAhead (h : ISt) (a1 : Int) (a2 : Int) (r : Int) : Prop := ∀ V5 : Int → Int → Prop, (∀ x3 x4 : Int, (inR x4 ∧ inR (h 0 0) ∧ (((h 0 0) ≤ x4 → (r = x3)) ∧ (¬ (h 0 0) ≤ x4 → (inR x4 ∧ (inR a2 ∧ (∃ r3 : Int, Q_X4_contains a1 x4 r3 ∧ (inR r3 ∧ ((r3 = (0 : Int) → (V5 x3 (x4 + (1 : Int)))) ∧ (¬ r3 = (0 : Int) → (inR ((iat 8 (h 3) x4) - (iat 8 (h 3) a2)) ∧ (((0 : Int) < ((iat 8 (h 3) x4) - (iat 8 (h 3) a2)) → (V5 (x3 + (1 : Int)) (x4 + (1 : Int)))) ∧ (¬ (0 : Int) < ((iat 8 (h 3) x4) - (iat 8 (h 3) a2)) → (inR ((iat 8 (h 3) x4) - (iat 8 (h 3) a2)) ∧ ((¬ ((iat 8 (h 3) x4) - (iat 8 (h 3) a2)) = (0 : Int) → (V5 x3 (x4 + (1 : Int)))) ∧ (((iat 8 (h 3) x4) - (iat 8 (h 3) a2)) = (0 : Int) → (inR x4 ∧ inR a2 ∧ ((a2 ≤ x4 → (V5 x3 (x4 + (1 : Int)))) ∧ (¬ a2 ≤ x4 → (V5 (x3 + (1 : Int)) (x4 + (1 : Int))))))))))))))))))))) → V5 x3 x4) → (V5 (0 : Int) (0 : Int))
set_option maxRecDepth 100000 in
set_option maxHeartbeats 4000000 in
theorem t_X3_countAhead (h : ISt) (a1 : Int) (a2 : Int) (r : Int) (hq : Q_X3_countAhead h a1 a2 r) : P_X3_countAhead (zS h) (zI a1) (zI a2) (zI r) := by
  intro V5 k5
  have hq := hq (fun x3 x4 => V5 (zI x3) (zI x4))
  have hq := hq (by
    intro x3 x4 hq
    refine k5 (zI x3) (zI x4) ?_
    try simp only [z_m1, z_0, z_1, z_2, z_3, z_4, z_5, z_6, z_8, z_9, z_10, z_12, z_16, z_30, z_31, z_99, z_300, z_500, z_600, z_20000, zadd, zsub, zmul, zneg, zap]
    have rx := hq.1
    have hq := hq.2
    have ry := hq.1
    have hq := hq.2
    refine ⟨fun c => ?_, fun c => ?_⟩
    · have hq := hq.1 ((z_le ry rx).mp c)
      exact congrArg zI hq
    · have hq := hq.2 (fun h => c ((z_le ry rx).mpr h))
      try simp only [zat (N := 8) hq.1 (by decide)]
      have hq := hq.2
      try simp only [z_m1, z_0, z_1, z_2, z_3, z_4, z_5, z_6, z_8, z_9, z_10, z_12, z_16, z_30, z_31, z_99, z_300, z_500, z_600, z_20000, zadd, zsub, zmul, zneg, zap]
      try simp only [zat (N := 8) hq.1 (by decide)]
      have hq := hq.2
      try simp only [z_m1, z_0, z_1, z_2, z_3, z_4, z_5, z_6, z_8, z_9, z_10, z_12, z_16, z_30, z_31, z_99, z_300, z_500, z_600, z_20000, zadd, zsub, zmul, zneg, zap]
      obtain ⟨r3, hr3, hq⟩ := hq
      refine ⟨zI r3, t_X4_contains a1 x4 r3 hr3, ?_⟩
      try simp only [z_m1, z_0, z_1, z_2, z_3, z_4, z_5, z_6, z_8, z_9, z_10, z_12, z_16, z_30, z_31, z_99, z_300, z_500, z_600, z_20000, zadd, zsub, zmul, zneg, zap]
      have rx := hq.1
      have hq := hq.2
      refine ⟨fun c => ?_, fun c => ?_⟩
      · have hq := hq.1 ((z_eq rx ⟨by decide, by decide⟩).mp c)
        exact hq
      · have hq := hq.2 (fun h => c ((z_eq rx ⟨by decide, by decide⟩).mpr h))
        have rx := hq.1
        have hq := hq.2
        refine ⟨fun c => ?_, fun c => ?_⟩
        · have hq := hq.1 ((z_lt ⟨by decide, by decide⟩ rx).mp c)
          exact hq
        · have hq := hq.2 (fun h => c ((z_lt ⟨by decide, by decide⟩ rx).mpr h))
          have rx := hq.1
          have hq := hq.2
          refine ⟨fun c => ?_, fun c => ?_⟩
          · have hq := hq.1 (fun h => c ((z_eq rx ⟨by decide, by decide⟩).mpr h))
            exact hq
          · have hq := hq.2 ((z_eq rx ⟨by decide, by decide⟩).mp c)
            have rx := hq.1
            have hq := hq.2
            have ry := hq.1
            have hq := hq.2
            refine ⟨fun c => ?_, fun c => ?_⟩
            · have hq := hq.1 ((z_le ry rx).mp c)
              exact hq
            · have hq := hq.2 (fun h => c ((z_le ry rx).mpr h))
              exact hq)
  try simp only [z_m1, z_0, z_1, z_2, z_3, z_4, z_5, z_6, z_8, z_9, z_10, z_12, z_16, z_30, z_31, z_99, z_300, z_500, z_600, z_20000, zadd, zsub, zmul, zneg, zap]
  exact hq
def Q_X3_titleInPlace (h : ISt) (a1 : Int) (a2 : Int) (r : Int) : Prop := ∀ V2 : Int → Prop, (∀ x3 : Int, (inR x3 ∧ inR (h 0 0) ∧ (((h 0 0) ≤ x3 → (r = (-1 : Int))) ∧ (¬ (h 0 0) ≤ x3 → (∃ r1 : Int, Q_X4_contains a1 x3 r1 ∧ (inR r1 ∧ ((r1 = (0 : Int) → (V2 (x3 + (1 : Int)))) ∧ (¬ r1 = (0 : Int) → (∃ r2 : Int, Q_X3_countAhead h a1 x3 r2 ∧ (inR r2 ∧ inR a2 ∧ ((¬ r2 = a2 → (V2 (x3 + (1 : Int)))) ∧ (r2 = a2 → (r = x3)))))))))))) → V2 x3) → (V2 (0 : Int))
set_option maxRecDepth 100000 in
set_option maxHeartbeats 4000000 in
theorem t_X3_titleInPlace (h : ISt) (a1 : Int) (a2 : Int) (r : Int) (hq : Q_X3_titleInPlace h a1 a2 r) : P_X3_titleInPlace (zS h) (zI a1) (zI a2) (zI r) := by
  intro V2 k2
  have hq := hq (fun x3 => V2 (zI x3))
  have hq := hq (by
    intro x3 hq
    refine k2 (zI x3) ?_
    try simp only [z_m1, z_0, z_1, z_2, z_3, z_4, z_5, z_6, z_8, z_9, z_10, z_12, z_16, z_30, z_31, z_99, z_300, z_500, z_600, z_20000, zadd, zsub, zmul, zneg, zap]
    have rx := hq.1
    have hq := hq.2
    have ry := hq.1
    have hq := hq.2
    refine ⟨fun c => ?_, fun c => ?_⟩
    · have hq := hq.1 ((z_le ry rx).mp c)
      exact congrArg zI hq
    · have hq := hq.2 (fun h => c ((z_le ry rx).mpr h))
      obtain ⟨r1, hr1, hq⟩ := hq
      refine ⟨zI r1, t_X4_contains a1 x3 r1 hr1, ?_⟩
      try simp only [z_m1, z_0, z_1, z_2, z_3, z_4, z_5, z_6, z_8, z_9, z_10, z_12, z_16, z_30, z_31, z_99, z_300, z_500, z_600, z_20000, zadd, zsub, zmul, zneg, zap]
      have rx := hq.1
      have hq := hq.2
      refine ⟨fun c => ?_, fun c => ?_⟩
      · have hq := hq.1 ((z_eq rx ⟨by decide, by decide⟩).mp c)
        exact hq
      · have hq := hq.2 (fun h => c ((z_eq rx ⟨by decide, by decide⟩).mpr h))
        obtain ⟨r2, hr2, hq⟩ := hq
        refine ⟨zI r2, t_X3_countAhead h a1 x3 r2 hr2, ?_⟩
        try simp only [z_m1, z_0, z_1, z_2, z_3, z_4, z_5, z_6, z_8, z_9, z_10, z_12, z_16, z_30, z_31, z_99, z_300, z_500, z_600, z_20000, zadd, zsub, zmul, zneg, zap]
        have rx := hq.1
        have hq := hq.2
        have ry := hq.1
        have hq := hq.2
        refine ⟨fun c => ?_, fun c => ?_⟩
        · have hq := hq.1 (fun h => c ((z_eq rx ry).mpr h))
          exact hq
        · have hq := hq.2 ((z_eq rx ry).mp c)
          exact congrArg zI hq)
  try simp only [z_m1, z_0, z_1, z_2, z_3, z_4, z_5, z_6, z_8, z_9, z_10, z_12, z_16, z_30, z_31, z_99, z_300, z_500, z_600, z_20000, zadd, zsub, zmul, zneg, zap]
  exact hq
def Q_X3_mayLend (h : ISt) (a1 : Int) (a2 : Int) (r : Int) : Prop := (inR a1 ∧ inR a2 ∧ ((a1 = a2 → (r = (0 : Int))) ∧ (¬ a1 = a2 → (inR a1 ∧ (inR a2 ∧ (inR (iat 16 (h 5) a1) ∧ inR (iat 16 (h 5) a2) ∧ ((¬ (iat 16 (h 5) a1) = (iat 16 (h 5) a2) → (r = (0 : Int))) ∧ ((iat 16 (h 5) a1) = (iat 16 (h 5) a2) → (inR a1 ∧ (inR (iat 16 (h 6) a1) ∧ ((¬ (iat 16 (h 6) a1) = (-1 : Int) → (r = (0 : Int))) ∧ ((iat 16 (h 6) a1) = (-1 : Int) → (inR a1 ∧ (inR (iat 16 (h 7) a1) ∧ (((iat 16 (h 7) a1) = (-1 : Int) → (r = (1 : Int))) ∧ (¬ (iat 16 (h 7) a1) = (-1 : Int) → (inR a1 ∧ (inR (iat 16 (h 7) a1) ∧ inR a2 ∧ ((¬ (iat 16 (h 7) a1) = a2 → (r = (0 : Int))) ∧ ((iat 16 (h 7) a1) = a2 → (r = (1 : Int))))))))))))))))))))))
set_option maxRecDepth 100000 in
set_option maxHeartbeats 4000000 in
theorem t_X3_mayLend (h : ISt) (a1 : Int) (a2 : Int) (r : Int) (hq : Q_X3_mayLend h a1 a2 r) : P_X3_mayLend (zS h) (zI a1) (zI a2) (zI r) := by
  unfold P_X3_mayLend
  unfold Q_X3_mayLend at hq
  try simp only [z_m1, z_0, z_1, z_2, z_3, z_4, z_5, z_6, z_8, z_9, z_10, z_12, z_16, z_30, z_31, z_99, z_300, z_500, z_600, z_20000, zadd, zsub, zmul, zneg, zap]
  have rx := hq.1
  have hq := hq.2
  have ry := hq.1
  have hq := hq.2
  refine ⟨fun c => ?_, fun c => ?_⟩
  · have hq := hq.1 ((z_eq rx ry).mp c)
    exact congrArg zI hq
  · have hq := hq.2 (fun h => c ((z_eq rx ry).mpr h))
    try simp only [zat (N := 16) hq.1 (by decide)]
    have hq := hq.2
    try simp only [z_m1, z_0, z_1, z_2, z_3, z_4, z_5, z_6, z_8, z_9, z_10, z_12, z_16, z_30, z_31, z_99, z_300, z_500, z_600, z_20000, zadd, zsub, zmul, zneg, zap]
    try simp only [zat (N := 16) hq.1 (by decide)]
    have hq := hq.2
    try simp only [z_m1, z_0, z_1, z_2, z_3, z_4, z_5, z_6, z_8, z_9, z_10, z_12, z_16, z_30, z_31, z_99, z_300, z_500, z_600, z_20000, zadd, zsub, zmul, zneg, zap]
    have rx := hq.1
    have hq := hq.2
    have ry := hq.1
    have hq := hq.2
    refine ⟨fun c => ?_, fun c => ?_⟩
    · have hq := hq.1 (fun h => c ((z_eq rx ry).mpr h))
      exact congrArg zI hq
    · have hq := hq.2 ((z_eq rx ry).mp c)
      try simp only [zat (N := 16) hq.1 (by decide)]
      have hq := hq.2
      try simp only [z_m1, z_0, z_1, z_2, z_3, z_4, z_5, z_6, z_8, z_9, z_10, z_12, z_16, z_30, z_31, z_99, z_300, z_500, z_600, z_20000, zadd, zsub, zmul, zneg, zap]
      have rx := hq.1
      have hq := hq.2
      refine ⟨fun c => ?_, fun c => ?_⟩
      · have hq := hq.1 (fun h => c ((z_eq rx ⟨by decide, by decide⟩).mpr h))
        exact congrArg zI hq
      · have hq := hq.2 ((z_eq rx ⟨by decide, by decide⟩).mp c)
        try simp only [zat (N := 16) hq.1 (by decide)]
        have hq := hq.2
        try simp only [z_m1, z_0, z_1, z_2, z_3, z_4, z_5, z_6, z_8, z_9, z_10, z_12, z_16, z_30, z_31, z_99, z_300, z_500, z_600, z_20000, zadd, zsub, zmul, zneg, zap]
        have rx := hq.1
        have hq := hq.2
        refine ⟨fun c => ?_, fun c => ?_⟩
        · have hq := hq.1 ((z_eq rx ⟨by decide, by decide⟩).mp c)
          exact congrArg zI hq
        · have hq := hq.2 (fun h => c ((z_eq rx ⟨by decide, by decide⟩).mpr h))
          try simp only [zat (N := 16) hq.1 (by decide)]
          have hq := hq.2
          try simp only [z_m1, z_0, z_1, z_2, z_3, z_4, z_5, z_6, z_8, z_9, z_10, z_12, z_16, z_30, z_31, z_99, z_300, z_500, z_600, z_20000, zadd, zsub, zmul, zneg, zap]
          have rx := hq.1
          have hq := hq.2
          have ry := hq.1
          have hq := hq.2
          refine ⟨fun c => ?_, fun c => ?_⟩
          · have hq := hq.1 (fun h => c ((z_eq rx ry).mpr h))
            exact congrArg zI hq
          · have hq := hq.2 ((z_eq rx ry).mp c)
            exact congrArg zI hq
def Q_X3_countLenders (h : ISt) (a1 : Int) (r : Int) : Prop := ∀ V14 : Int → Int → Prop, ∀ V30 : Int → Int → Int → Int → Prop, (∀ x2 x3 : Int, (inR x3 ∧ (((4 : Int) ≤ x3 → (∃ r2 : Int, Q_J6_bitCount_0f7a4 x2 r2 ∧ (r = r2))) ∧ (¬ (4 : Int) ≤ x3 → (∃ r3 : Int, Q_X3_lack h a1 x3 r3 ∧ (V30 x2 x3 r3 (0 : Int)))))) → V14 x2 x3) → (∀ x2 x3 x4 x5 : Int, (inR x5 ∧ inR (h 0 1) ∧ (((h 0 1) ≤ x5 → (inR x4 ∧ ((x4 ≤ (0 : Int) → (V14 x2 (x3 + (1 : Int)))) ∧ (¬ x4 ≤ (0 : Int) → (r = (-1 : Int)))))) ∧ (¬ (h 0 1) ≤ x5 → (inR x4 ∧ ((x4 ≤ (0 : Int) → (inR x4 ∧ ((x4 ≤ (0 : Int) → (V14 x2 (x3 + (1 : Int)))) ∧ (¬ x4 ≤ (0 : Int) → (r = (-1 : Int)))))) ∧ (¬ x4 ≤ (0 : Int) → (∃ r4 : Int, Q_X3_mayLend h x5 a1 r4 ∧ (inR r4 ∧ ((r4 = (0 : Int) → (V30 x2 x3 x4 (x5 + (1 : Int)))) ∧ (¬ r4 = (0 : Int) → (∃ r5 : Int, Q_X3_count h x5 x3 r5 ∧ (inR r5 ∧ ((r5 ≤ (0 : Int) → (V30 x2 x3 x4 (x5 + (1 : Int)))) ∧ (¬ r5 ≤ (0 : Int) → ((0 ≤ x5 ∧ x5 < 31) ∧ ((0 ≤ x2) ∧ (0 ≤ (ishl1 x5)) ∧ (∃ r6 : Int, Q_X3_count h x5 x3 r6 ∧ (inR x4 ∧ inR r6 ∧ (V30 (iior x2 (ishl1 x5)) x3 (x4 - (imin x4 r6)) (x5 + (1 : Int))))))))))))))))))))) → V30 x2 x3 x4 x5) → (∃ r1 : Int, Q_X3_place h a1 r1 ∧ (inR r1 ∧ ((r1 = (0 : Int) → (V14 (0 : Int) (0 : Int))) ∧ (¬ r1 = (0 : Int) → (r = (-1 : Int))))))
set_option maxRecDepth 100000 in
set_option maxHeartbeats 4000000 in
theorem t_X3_countLenders (h : ISt) (a1 : Int) (r : Int) (hq : Q_X3_countLenders h a1 r) : P_X3_countLenders (zS h) (zI a1) (zI r) := by
  intro V14 V30 k14 k30
  have hq := hq (fun x2 x3 => V14 (zI x2) (zI x3)) (fun x2 x3 x4 x5 => V30 (zI x2) (zI x3) (zI x4) (zI x5))
  have hq := hq (by
    intro x2 x3 hq
    refine k14 (zI x2) (zI x3) ?_
    try simp only [z_m1, z_0, z_1, z_2, z_3, z_4, z_5, z_6, z_8, z_9, z_10, z_12, z_16, z_30, z_31, z_99, z_300, z_500, z_600, z_20000, zadd, zsub, zmul, zneg, zap]
    have rx := hq.1
    have hq := hq.2
    refine ⟨fun c => ?_, fun c => ?_⟩
    · have hq := hq.1 ((z_le ⟨by decide, by decide⟩ rx).mp c)
      obtain ⟨r2, hr2, hq⟩ := hq
      refine ⟨zI r2, t_J6_bitCount_0f7a4 x2 r2 hr2, ?_⟩
      try simp only [z_m1, z_0, z_1, z_2, z_3, z_4, z_5, z_6, z_8, z_9, z_10, z_12, z_16, z_30, z_31, z_99, z_300, z_500, z_600, z_20000, zadd, zsub, zmul, zneg, zap]
      exact congrArg zI hq
    · have hq := hq.2 (fun h => c ((z_le ⟨by decide, by decide⟩ rx).mpr h))
      obtain ⟨r3, hr3, hq⟩ := hq
      refine ⟨zI r3, t_X3_lack h a1 x3 r3 hr3, ?_⟩
      try simp only [z_m1, z_0, z_1, z_2, z_3, z_4, z_5, z_6, z_8, z_9, z_10, z_12, z_16, z_30, z_31, z_99, z_300, z_500, z_600, z_20000, zadd, zsub, zmul, zneg, zap]
      exact hq)
  have hq := hq (by
    intro x2 x3 x4 x5 hq
    refine k30 (zI x2) (zI x3) (zI x4) (zI x5) ?_
    try simp only [z_m1, z_0, z_1, z_2, z_3, z_4, z_5, z_6, z_8, z_9, z_10, z_12, z_16, z_30, z_31, z_99, z_300, z_500, z_600, z_20000, zadd, zsub, zmul, zneg, zap]
    have rx := hq.1
    have hq := hq.2
    have ry := hq.1
    have hq := hq.2
    refine ⟨fun c => ?_, fun c => ?_⟩
    · have hq := hq.1 ((z_le ry rx).mp c)
      have rx := hq.1
      have hq := hq.2
      refine ⟨fun c => ?_, fun c => ?_⟩
      · have hq := hq.1 ((z_le rx ⟨by decide, by decide⟩).mp c)
        exact hq
      · have hq := hq.2 (fun h => c ((z_le rx ⟨by decide, by decide⟩).mpr h))
        exact congrArg zI hq
    · have hq := hq.2 (fun h => c ((z_le ry rx).mpr h))
      have rx := hq.1
      have hq := hq.2
      refine ⟨fun c => ?_, fun c => ?_⟩
      · have hq := hq.1 ((z_le rx ⟨by decide, by decide⟩).mp c)
        have rx := hq.1
        have hq := hq.2
        refine ⟨fun c => ?_, fun c => ?_⟩
        · have hq := hq.1 ((z_le rx ⟨by decide, by decide⟩).mp c)
          exact hq
        · have hq := hq.2 (fun h => c ((z_le rx ⟨by decide, by decide⟩).mpr h))
          exact congrArg zI hq
      · have hq := hq.2 (fun h => c ((z_le rx ⟨by decide, by decide⟩).mpr h))
        obtain ⟨r4, hr4, hq⟩ := hq
        refine ⟨zI r4, t_X3_mayLend h x5 a1 r4 hr4, ?_⟩
        try simp only [z_m1, z_0, z_1, z_2, z_3, z_4, z_5, z_6, z_8, z_9, z_10, z_12, z_16, z_30, z_31, z_99, z_300, z_500, z_600, z_20000, zadd, zsub, zmul, zneg, zap]
        have rx := hq.1
        have hq := hq.2
        refine ⟨fun c => ?_, fun c => ?_⟩
        · have hq := hq.1 ((z_eq rx ⟨by decide, by decide⟩).mp c)
          exact hq
        · have hq := hq.2 (fun h => c ((z_eq rx ⟨by decide, by decide⟩).mpr h))
          obtain ⟨r5, hr5, hq⟩ := hq
          refine ⟨zI r5, t_X3_count h x5 x3 r5 hr5, ?_⟩
          try simp only [z_m1, z_0, z_1, z_2, z_3, z_4, z_5, z_6, z_8, z_9, z_10, z_12, z_16, z_30, z_31, z_99, z_300, z_500, z_600, z_20000, zadd, zsub, zmul, zneg, zap]
          have rx := hq.1
          have hq := hq.2
          refine ⟨fun c => ?_, fun c => ?_⟩
          · have hq := hq.1 ((z_le rx ⟨by decide, by decide⟩).mp c)
            exact hq
          · have hq := hq.2 (fun h => c ((z_le rx ⟨by decide, by decide⟩).mpr h))
            simp only [zshl hq.1]
            have hq := hq.2
            try simp only [z_m1, z_0, z_1, z_2, z_3, z_4, z_5, z_6, z_8, z_9, z_10, z_12, z_16, z_30, z_31, z_99, z_300, z_500, z_600, z_20000, zadd, zsub, zmul, zneg, zap]
            simp only [zior hq.1 hq.2.1]
            have hq := hq.2.2
            try simp only [z_m1, z_0, z_1, z_2, z_3, z_4, z_5, z_6, z_8, z_9, z_10, z_12, z_16, z_30, z_31, z_99, z_300, z_500, z_600, z_20000, zadd, zsub, zmul, zneg, zap]
            obtain ⟨r6, hr6, hq⟩ := hq
            refine ⟨zI r6, t_X3_count h x5 x3 r6 hr6, ?_⟩
            try simp only [z_m1, z_0, z_1, z_2, z_3, z_4, z_5, z_6, z_8, z_9, z_10, z_12, z_16, z_30, z_31, z_99, z_300, z_500, z_600, z_20000, zadd, zsub, zmul, zneg, zap]
            have rx := hq.1
            have hq := hq.2
            have ry := hq.1
            have hq := hq.2
            try simp only [zmin (a := x4) (b := r6) rx ry]
            try simp only [z_m1, z_0, z_1, z_2, z_3, z_4, z_5, z_6, z_8, z_9, z_10, z_12, z_16, z_30, z_31, z_99, z_300, z_500, z_600, z_20000, zadd, zsub, zmul, zneg, zap]
            exact hq)
  try simp only [z_m1, z_0, z_1, z_2, z_3, z_4, z_5, z_6, z_8, z_9, z_10, z_12, z_16, z_30, z_31, z_99, z_300, z_500, z_600, z_20000, zadd, zsub, zmul, zneg, zap]
  obtain ⟨r1, hr1, hq⟩ := hq
  refine ⟨zI r1, t_X3_place h a1 r1 hr1, ?_⟩
  try simp only [z_m1, z_0, z_1, z_2, z_3, z_4, z_5, z_6, z_8, z_9, z_10, z_12, z_16, z_30, z_31, z_99, z_300, z_500, z_600, z_20000, zadd, zsub, zmul, zneg, zap]
  have rx := hq.1
  have hq := hq.2
  refine ⟨fun c => ?_, fun c => ?_⟩
  · have hq := hq.1 ((z_eq rx ⟨by decide, by decide⟩).mp c)
    exact hq
  · have hq := hq.2 (fun h => c ((z_eq rx ⟨by decide, by decide⟩).mpr h))
    exact congrArg zI hq
def Q_X3_bestCopy (h : ISt) (a1 : Int) (r : Int) : Prop := ∀ V8 : Int → Int → Int → Prop, ∀ V40 : Int → Int → Int → Int → Prop, (∀ x2 x3 x4 : Int, (inR x4 ∧ inR (h 0 1) ∧ (((h 0 1) ≤ x4 → (r = x2)) ∧ (¬ (h 0 1) ≤ x4 → (inR x4 ∧ (inR (iat 16 (h 5) x4) ∧ inR a1 ∧ ((¬ (iat 16 (h 5) x4) = a1 → (V40 x2 x3 x4 (-1 : Int))) ∧ ((iat 16 (h 5) x4) = a1 → (∃ r2 : Int, Q_X3_countLenders h x4 r2 ∧ (V40 x2 x3 x4 r2))))))))) → V8 x2 x3 x4) → (∀ x2 x3 x4 t0 : Int, (inR t0 ∧ ((t0 = (-1 : Int) → (V8 x2 x3 (x4 + (1 : Int)))) ∧ (¬ t0 = (-1 : Int) → (inR t0 ∧ inR x3 ∧ ((x3 ≤ t0 → (V8 x2 x3 (x4 + (1 : Int)))) ∧ (¬ x3 ≤ t0 → (V8 x4 t0 (x4 + (1 : Int))))))))) → V40 x2 x3 x4 t0) → (V8 (-1 : Int) (16 : Int) (0 : Int))
set_option maxRecDepth 100000 in
set_option maxHeartbeats 4000000 in
theorem t_X3_bestCopy (h : ISt) (a1 : Int) (r : Int) (hq : Q_X3_bestCopy h a1 r) : P_X3_bestCopy (zS h) (zI a1) (zI r) := by
  intro V8 V40 k8 k40
  have hq := hq (fun x2 x3 x4 => V8 (zI x2) (zI x3) (zI x4)) (fun x2 x3 x4 t0 => V40 (zI x2) (zI x3) (zI x4) (zI t0))
  have hq := hq (by
    intro x2 x3 x4 hq
    refine k8 (zI x2) (zI x3) (zI x4) ?_
    try simp only [z_m1, z_0, z_1, z_2, z_3, z_4, z_5, z_6, z_8, z_9, z_10, z_12, z_16, z_30, z_31, z_99, z_300, z_500, z_600, z_20000, zadd, zsub, zmul, zneg, zap]
    have rx := hq.1
    have hq := hq.2
    have ry := hq.1
    have hq := hq.2
    refine ⟨fun c => ?_, fun c => ?_⟩
    · have hq := hq.1 ((z_le ry rx).mp c)
      exact congrArg zI hq
    · have hq := hq.2 (fun h => c ((z_le ry rx).mpr h))
      try simp only [zat (N := 16) hq.1 (by decide)]
      have hq := hq.2
      try simp only [z_m1, z_0, z_1, z_2, z_3, z_4, z_5, z_6, z_8, z_9, z_10, z_12, z_16, z_30, z_31, z_99, z_300, z_500, z_600, z_20000, zadd, zsub, zmul, zneg, zap]
      have rx := hq.1
      have hq := hq.2
      have ry := hq.1
      have hq := hq.2
      refine ⟨fun c => ?_, fun c => ?_⟩
      · have hq := hq.1 (fun h => c ((z_eq rx ry).mpr h))
        exact hq
      · have hq := hq.2 ((z_eq rx ry).mp c)
        obtain ⟨r2, hr2, hq⟩ := hq
        refine ⟨zI r2, t_X3_countLenders h x4 r2 hr2, ?_⟩
        try simp only [z_m1, z_0, z_1, z_2, z_3, z_4, z_5, z_6, z_8, z_9, z_10, z_12, z_16, z_30, z_31, z_99, z_300, z_500, z_600, z_20000, zadd, zsub, zmul, zneg, zap]
        exact hq)
  have hq := hq (by
    intro x2 x3 x4 t0 hq
    refine k40 (zI x2) (zI x3) (zI x4) (zI t0) ?_
    try simp only [z_m1, z_0, z_1, z_2, z_3, z_4, z_5, z_6, z_8, z_9, z_10, z_12, z_16, z_30, z_31, z_99, z_300, z_500, z_600, z_20000, zadd, zsub, zmul, zneg, zap]
    have rx := hq.1
    have hq := hq.2
    refine ⟨fun c => ?_, fun c => ?_⟩
    · have hq := hq.1 ((z_eq rx ⟨by decide, by decide⟩).mp c)
      exact hq
    · have hq := hq.2 (fun h => c ((z_eq rx ⟨by decide, by decide⟩).mpr h))
      have rx := hq.1
      have hq := hq.2
      have ry := hq.1
      have hq := hq.2
      refine ⟨fun c => ?_, fun c => ?_⟩
      · have hq := hq.1 ((z_le ry rx).mp c)
        exact hq
      · have hq := hq.2 (fun h => c ((z_le ry rx).mpr h))
        exact hq)
  try simp only [z_m1, z_0, z_1, z_2, z_3, z_4, z_5, z_6, z_8, z_9, z_10, z_12, z_16, z_30, z_31, z_99, z_300, z_500, z_600, z_20000, zadd, zsub, zmul, zneg, zap]
  exact hq
def Q_X3_lend (h : ISt) (a1 : Int) (a2 : Int) (a3 : Int) (a4 : Int) (h' : ISt) : Prop := (inR a1 ∧ (∀ h2 : ISt, h2 = iput h 7 16 a1 a2 → (inR ((a1 * (4 : Int)) + a3) ∧ (∀ h4 : ISt, h4 = iput h2 8 64 ((a1 * (4 : Int)) + a3) a4 → (∃ h6 : ISt, Q_X3_change h4 a1 a3 (-a4) h6 ∧ (∃ h8 : ISt, Q_X3_change h6 a2 a3 a4 h8 ∧ (h' = h8)))))))
set_option maxRecDepth 100000 in
set_option maxHeartbeats 4000000 in
theorem t_X3_lend (h : ISt) (a1 : Int) (a2 : Int) (a3 : Int) (a4 : Int) (h' : ISt) (hq : Q_X3_lend h a1 a2 a3 a4 h') : P_X3_lend (zS h) (zI a1) (zI a2) (zI a3) (zI a4) (zS h') := by
  unfold P_X3_lend
  unfold Q_X3_lend at hq
  try simp only [z_m1, z_0, z_1, z_2, z_3, z_4, z_5, z_6, z_8, z_9, z_10, z_12, z_16, z_30, z_31, z_99, z_300, z_500, z_600, z_20000, zadd, zsub, zmul, zneg, zap]
  have rx := hq.1
  have hq := hq.2
  intro g9 eg9
  rw [zput rx (by decide)] at eg9
  subst eg9
  have hq := hq _ rfl
  generalize iput h 7 16 a1 a2 = h2 at hq ⊢
  try simp only [z_m1, z_0, z_1, z_2, z_3, z_4, z_5, z_6, z_8, z_9, z_10, z_12, z_16, z_30, z_31, z_99, z_300, z_500, z_600, z_20000, zadd, zsub, zmul, zneg, zap]
  have rx := hq.1
  have hq := hq.2
  intro g9 eg9
  rw [zput rx (by decide)] at eg9
  subst eg9
  have hq := hq _ rfl
  generalize iput h2 8 64 ((a1 * (4 : Int)) + a3) a4 = h4 at hq ⊢
  try simp only [z_m1, z_0, z_1, z_2, z_3, z_4, z_5, z_6, z_8, z_9, z_10, z_12, z_16, z_30, z_31, z_99, z_300, z_500, z_600, z_20000, zadd, zsub, zmul, zneg, zap]
  obtain ⟨h6, hh6, hq⟩ := hq
  refine ⟨zS h6, t_X3_change h4 a1 a3 (-a4) h6 hh6, ?_⟩
  try simp only [z_m1, z_0, z_1, z_2, z_3, z_4, z_5, z_6, z_8, z_9, z_10, z_12, z_16, z_30, z_31, z_99, z_300, z_500, z_600, z_20000, zadd, zsub, zmul, zneg, zap]
  obtain ⟨h8, hh8, hq⟩ := hq
  refine ⟨zS h8, t_X3_change h6 a2 a3 a4 h8 hh8, ?_⟩
  try simp only [z_m1, z_0, z_1, z_2, z_3, z_4, z_5, z_6, z_8, z_9, z_10, z_12, z_16, z_30, z_31, z_99, z_300, z_500, z_600, z_20000, zadd, zsub, zmul, zneg, zap]
  exact congrArg zS hq
def Q_X3_handOut (h : ISt) (a1 : Int) (a2 : Int) (h' : ISt) : Prop := ∀ V2 : ISt → Int → Prop, ∀ V10 : ISt → Int → Int → Prop, (∀ hv : ISt, ∀ x3 : Int, (inR x3 ∧ (((4 : Int) ≤ x3 → (inR a1 ∧ (∀ h2 : ISt, h2 = iput hv 6 16 a1 a2 → (h' = h2)))) ∧ (¬ (4 : Int) ≤ x3 → (V10 hv x3 (0 : Int))))) → V2 hv x3) → (∀ hv : ISt, ∀ x3 x4 : Int, (inR x4 ∧ inR (hv 0 1) ∧ (((hv 0 1) ≤ x4 → (V2 hv (x3 + (1 : Int)))) ∧ (¬ (hv 0 1) ≤ x4 → (∃ r3 : Int, Q_X3_lack hv a1 x3 r3 ∧ (∃ r4 : Int, Q_X3_count hv x4 x3 r4 ∧ (inR r3 ∧ inR r4 ∧ (∃ r5 : Int, Q_X3_mayLend hv x4 a1 r5 ∧ (inR r5 ∧ ((r5 = (0 : Int) → (V10 hv x3 (x4 + (1 : Int)))) ∧ (¬ r5 = (0 : Int) → (inR (imin r3 r4) ∧ (((imin r3 r4) ≤ (0 : Int) → (V10 hv x3 (x4 + (1 : Int)))) ∧ (¬ (imin r3 r4) ≤ (0 : Int) → (∃ h7 : ISt, Q_X3_lend hv x4 a1 x3 (imin r3 r4) h7 ∧ (V10 h7 x3 (x4 + (1 : Int))))))))))))))))) → V10 hv x3 x4) → (V2 h (0 : Int))
set_option maxRecDepth 100000 in
set_option maxHeartbeats 4000000 in
theorem t_X3_handOut (h : ISt) (a1 : Int) (a2 : Int) (h' : ISt) (hq : Q_X3_handOut h a1 a2 h') : P_X3_handOut (zS h) (zI a1) (zI a2) (zS h') := by
  intro V2 V10 k2 k10
  have hq := hq (fun hv x3 => V2 (zS hv) (zI x3)) (fun hv x3 x4 => V10 (zS hv) (zI x3) (zI x4))
  have hq := hq (by
    intro hv x3 hq
    refine k2 (zS hv) (zI x3) ?_
    try simp only [z_m1, z_0, z_1, z_2, z_3, z_4, z_5, z_6, z_8, z_9, z_10, z_12, z_16, z_30, z_31, z_99, z_300, z_500, z_600, z_20000, zadd, zsub, zmul, zneg, zap]
    have rx := hq.1
    have hq := hq.2
    refine ⟨fun c => ?_, fun c => ?_⟩
    · have hq := hq.1 ((z_le ⟨by decide, by decide⟩ rx).mp c)
      have rx := hq.1
      have hq := hq.2
      intro g9 eg9
      rw [zput rx (by decide)] at eg9
      subst eg9
      have hq := hq _ rfl
      generalize iput hv 6 16 a1 a2 = h2 at hq ⊢
      try simp only [z_m1, z_0, z_1, z_2, z_3, z_4, z_5, z_6, z_8, z_9, z_10, z_12, z_16, z_30, z_31, z_99, z_300, z_500, z_600, z_20000, zadd, zsub, zmul, zneg, zap]
      exact congrArg zS hq
    · have hq := hq.2 (fun h => c ((z_le ⟨by decide, by decide⟩ rx).mpr h))
      exact hq)
  have hq := hq (by
    intro hv x3 x4 hq
    refine k10 (zS hv) (zI x3) (zI x4) ?_
    try simp only [z_m1, z_0, z_1, z_2, z_3, z_4, z_5, z_6, z_8, z_9, z_10, z_12, z_16, z_30, z_31, z_99, z_300, z_500, z_600, z_20000, zadd, zsub, zmul, zneg, zap]
    have rx := hq.1
    have hq := hq.2
    have ry := hq.1
    have hq := hq.2
    refine ⟨fun c => ?_, fun c => ?_⟩
    · have hq := hq.1 ((z_le ry rx).mp c)
      exact hq
    · have hq := hq.2 (fun h => c ((z_le ry rx).mpr h))
      obtain ⟨r3, hr3, hq⟩ := hq
      refine ⟨zI r3, t_X3_lack hv a1 x3 r3 hr3, ?_⟩
      try simp only [z_m1, z_0, z_1, z_2, z_3, z_4, z_5, z_6, z_8, z_9, z_10, z_12, z_16, z_30, z_31, z_99, z_300, z_500, z_600, z_20000, zadd, zsub, zmul, zneg, zap]
      obtain ⟨r4, hr4, hq⟩ := hq
      refine ⟨zI r4, t_X3_count hv x4 x3 r4 hr4, ?_⟩
      try simp only [z_m1, z_0, z_1, z_2, z_3, z_4, z_5, z_6, z_8, z_9, z_10, z_12, z_16, z_30, z_31, z_99, z_300, z_500, z_600, z_20000, zadd, zsub, zmul, zneg, zap]
      have rx := hq.1
      have hq := hq.2
      have ry := hq.1
      have hq := hq.2
      try simp only [zmin (a := r3) (b := r4) rx ry]
      try simp only [z_m1, z_0, z_1, z_2, z_3, z_4, z_5, z_6, z_8, z_9, z_10, z_12, z_16, z_30, z_31, z_99, z_300, z_500, z_600, z_20000, zadd, zsub, zmul, zneg, zap]
      obtain ⟨r5, hr5, hq⟩ := hq
      refine ⟨zI r5, t_X3_mayLend hv x4 a1 r5 hr5, ?_⟩
      try simp only [z_m1, z_0, z_1, z_2, z_3, z_4, z_5, z_6, z_8, z_9, z_10, z_12, z_16, z_30, z_31, z_99, z_300, z_500, z_600, z_20000, zadd, zsub, zmul, zneg, zap]
      have rx := hq.1
      have hq := hq.2
      refine ⟨fun c => ?_, fun c => ?_⟩
      · have hq := hq.1 ((z_eq rx ⟨by decide, by decide⟩).mp c)
        exact hq
      · have hq := hq.2 (fun h => c ((z_eq rx ⟨by decide, by decide⟩).mpr h))
        have rx := hq.1
        have hq := hq.2
        refine ⟨fun c => ?_, fun c => ?_⟩
        · have hq := hq.1 ((z_le rx ⟨by decide, by decide⟩).mp c)
          exact hq
        · have hq := hq.2 (fun h => c ((z_le rx ⟨by decide, by decide⟩).mpr h))
          obtain ⟨h7, hh7, hq⟩ := hq
          refine ⟨zS h7, t_X3_lend hv x4 a1 x3 (imin r3 r4) h7 hh7, ?_⟩
          try simp only [z_m1, z_0, z_1, z_2, z_3, z_4, z_5, z_6, z_8, z_9, z_10, z_12, z_16, z_30, z_31, z_99, z_300, z_500, z_600, z_20000, zadd, zsub, zmul, zneg, zap]
          exact hq)
  try simp only [z_m1, z_0, z_1, z_2, z_3, z_4, z_5, z_6, z_8, z_9, z_10, z_12, z_16, z_30, z_31, z_99, z_300, z_500, z_600, z_20000, zadd, zsub, zmul, zneg, zap]
  exact hq
def Q_X3_closeLoans (h : ISt) (a1 : Int) (r : Int) (h' : ISt) : Prop := ∀ V4 : ISt → Int → Int → Prop, ∀ V16 : ISt → Int → Int → Int → Prop, (∀ hv : ISt, ∀ x2 x3 : Int, (inR x3 ∧ ((x3 < (0 : Int) → (r = x2 ∧ h' = hv)) ∧ (¬ x3 < (0 : Int) → (V16 hv x2 x3 ((hv 0 1) - (1 : Int)))))) → V4 hv x2 x3) → (∀ hv : ISt, ∀ x2 x3 x4 : Int, (inR x4 ∧ ((x4 < (0 : Int) → (V4 hv x2 (x3 + (-1 : Int)))) ∧ (¬ x4 < (0 : Int) → (inR ((x4 * (4 : Int)) + x3) ∧ (inR x4 ∧ (inR (iat 16 (hv 7) x4) ∧ inR a1 ∧ ((¬ (iat 16 (hv 7) x4) = a1 → (V16 hv x2 x3 (x4 + (-1 : Int)))) ∧ ((iat 16 (hv 7) x4) = a1 → (inR (iat 64 (hv 8) ((x4 * (4 : Int)) + x3)) ∧ (((iat 64 (hv 8) ((x4 * (4 : Int)) + x3)) ≤ (0 : Int) → (V16 hv x2 x3 (x4 + (-1 : Int)))) ∧ (¬ (iat 64 (hv 8) ((x4 * (4 : Int)) + x3)) ≤ (0 : Int) → (∃ r3 : Int, Q_X3_count hv a1 x3 r3 ∧ (inR (iat 64 (hv 8) ((x4 * (4 : Int)) + x3)) ∧ inR r3 ∧ (∀ y4 : Int, y4 = imin (iat 64 (hv 8) ((x4 * (4 : Int)) + x3)) r3 → (∃ h6 : ISt, Q_X3_change hv a1 x3 (-y4) h6 ∧ (∃ h8 : ISt, Q_X3_change h6 x4 x3 y4 h8 ∧ (inR ((x4 * (4 : Int)) + x3) ∧ (∀ h10 : ISt, h10 = iput h8 8 64 ((x4 * (4 : Int)) + x3) (0 : Int) → (V16 h10 (x2 + (1 : Int)) x3 (x4 + (-1 : Int))))))))))))))))))))) → V16 hv x2 x3 x4) → (V4 h (0 : Int) (3 : Int))
set_option maxRecDepth 100000 in
set_option maxHeartbeats 4000000 in
theorem t_X3_closeLoans (h : ISt) (a1 : Int) (r : Int) (h' : ISt) (hq : Q_X3_closeLoans h a1 r h') : P_X3_closeLoans (zS h) (zI a1) (zI r) (zS h') := by
  intro V4 V16 k4 k16
  have hq := hq (fun hv x2 x3 => V4 (zS hv) (zI x2) (zI x3)) (fun hv x2 x3 x4 => V16 (zS hv) (zI x2) (zI x3) (zI x4))
  have hq := hq (by
    intro hv x2 x3 hq
    refine k4 (zS hv) (zI x2) (zI x3) ?_
    try simp only [z_m1, z_0, z_1, z_2, z_3, z_4, z_5, z_6, z_8, z_9, z_10, z_12, z_16, z_30, z_31, z_99, z_300, z_500, z_600, z_20000, zadd, zsub, zmul, zneg, zap]
    have rx := hq.1
    have hq := hq.2
    refine ⟨fun c => ?_, fun c => ?_⟩
    · have hq := hq.1 ((z_lt rx ⟨by decide, by decide⟩).mp c)
      exact ⟨congrArg zI hq.1, congrArg zS hq.2⟩
    · have hq := hq.2 (fun h => c ((z_lt rx ⟨by decide, by decide⟩).mpr h))
      exact hq)
  have hq := hq (by
    intro hv x2 x3 x4 hq
    refine k16 (zS hv) (zI x2) (zI x3) (zI x4) ?_
    try simp only [z_m1, z_0, z_1, z_2, z_3, z_4, z_5, z_6, z_8, z_9, z_10, z_12, z_16, z_30, z_31, z_99, z_300, z_500, z_600, z_20000, zadd, zsub, zmul, zneg, zap]
    have rx := hq.1
    have hq := hq.2
    refine ⟨fun c => ?_, fun c => ?_⟩
    · have hq := hq.1 ((z_lt rx ⟨by decide, by decide⟩).mp c)
      exact hq
    · have hq := hq.2 (fun h => c ((z_lt rx ⟨by decide, by decide⟩).mpr h))
      try simp only [zat (N := 64) hq.1 (by decide)]
      have hq := hq.2
      try simp only [z_m1, z_0, z_1, z_2, z_3, z_4, z_5, z_6, z_8, z_9, z_10, z_12, z_16, z_30, z_31, z_99, z_300, z_500, z_600, z_20000, zadd, zsub, zmul, zneg, zap]
      try simp only [zat (N := 16) hq.1 (by decide)]
      have hq := hq.2
      try simp only [z_m1, z_0, z_1, z_2, z_3, z_4, z_5, z_6, z_8, z_9, z_10, z_12, z_16, z_30, z_31, z_99, z_300, z_500, z_600, z_20000, zadd, zsub, zmul, zneg, zap]
      have rx := hq.1
      have hq := hq.2
      have ry := hq.1
      have hq := hq.2
      refine ⟨fun c => ?_, fun c => ?_⟩
      · have hq := hq.1 (fun h => c ((z_eq rx ry).mpr h))
        exact hq
      · have hq := hq.2 ((z_eq rx ry).mp c)
        have rx := hq.1
        have hq := hq.2
        refine ⟨fun c => ?_, fun c => ?_⟩
        · have hq := hq.1 ((z_le rx ⟨by decide, by decide⟩).mp c)
          exact hq
        · have hq := hq.2 (fun h => c ((z_le rx ⟨by decide, by decide⟩).mpr h))
          obtain ⟨r3, hr3, hq⟩ := hq
          refine ⟨zI r3, t_X3_count hv a1 x3 r3 hr3, ?_⟩
          try simp only [z_m1, z_0, z_1, z_2, z_3, z_4, z_5, z_6, z_8, z_9, z_10, z_12, z_16, z_30, z_31, z_99, z_300, z_500, z_600, z_20000, zadd, zsub, zmul, zneg, zap]
          have rx := hq.1
          have hq := hq.2
          have ry := hq.1
          have hq := hq.2
          try simp only [zmin (a := (iat 64 (hv 8) ((x4 * (4 : Int)) + x3))) (b := r3) rx ry]
          try simp only [z_m1, z_0, z_1, z_2, z_3, z_4, z_5, z_6, z_8, z_9, z_10, z_12, z_16, z_30, z_31, z_99, z_300, z_500, z_600, z_20000, zadd, zsub, zmul, zneg, zap]
          intro y9 e9
          subst e9
          have hq := hq _ rfl
          generalize imin (iat 64 (hv 8) ((x4 * (4 : Int)) + x3)) r3 = y4 at hq ⊢
          try simp only [z_m1, z_0, z_1, z_2, z_3, z_4, z_5, z_6, z_8, z_9, z_10, z_12, z_16, z_30, z_31, z_99, z_300, z_500, z_600, z_20000, zadd, zsub, zmul, zneg, zap]
          obtain ⟨h6, hh6, hq⟩ := hq
          refine ⟨zS h6, t_X3_change hv a1 x3 (-y4) h6 hh6, ?_⟩
          try simp only [z_m1, z_0, z_1, z_2, z_3, z_4, z_5, z_6, z_8, z_9, z_10, z_12, z_16, z_30, z_31, z_99, z_300, z_500, z_600, z_20000, zadd, zsub, zmul, zneg, zap]
          obtain ⟨h8, hh8, hq⟩ := hq
          refine ⟨zS h8, t_X3_change h6 x4 x3 y4 h8 hh8, ?_⟩
          try simp only [z_m1, z_0, z_1, z_2, z_3, z_4, z_5, z_6, z_8, z_9, z_10, z_12, z_16, z_30, z_31, z_99, z_300, z_500, z_600, z_20000, zadd, zsub, zmul, zneg, zap]
          have rx := hq.1
          have hq := hq.2
          intro g9 eg9
          rw [zput rx (by decide)] at eg9
          subst eg9
          have hq := hq _ rfl
          generalize iput h8 8 64 ((x4 * (4 : Int)) + x3) (0 : Int) = h10 at hq ⊢
          try simp only [z_m1, z_0, z_1, z_2, z_3, z_4, z_5, z_6, z_8, z_9, z_10, z_12, z_16, z_30, z_31, z_99, z_300, z_500, z_600, z_20000, zadd, zsub, zmul, zneg, zap]
          exact hq)
  try simp only [z_m1, z_0, z_1, z_2, z_3, z_4, z_5, z_6, z_8, z_9, z_10, z_12, z_16, z_30, z_31, z_99, z_300, z_500, z_600, z_20000, zadd, zsub, zmul, zneg, zap]
  exact hq
def Q_X3_takeBack (h : ISt) (a1 : Int) (a2 : Int) (a3 : Int) (r : Int) (h' : ISt) : Prop := ∀ V18 : ISt → Int → Int → Prop, (∀ hv : ISt, ∀ x4 x5 : Int, (inR x5 ∧ inR (hv 0 1) ∧ (((hv 0 1) ≤ x5 → (inR a1 ∧ (∀ h6 : ISt, h6 = iput hv 6 16 a1 (-1 : Int) → (r = x4 ∧ h' = h6)))) ∧ (¬ (hv 0 1) ≤ x5 → (inR x5 ∧ (inR (iat 16 (hv 7) x5) ∧ inR a1 ∧ ((¬ (iat 16 (hv 7) x5) = a1 → (V18 hv x4 (x5 + (1 : Int)))) ∧ ((iat 16 (hv 7) x5) = a1 → (inR x5 ∧ (∀ h9 : ISt, h9 = iput hv 7 16 x5 (-1 : Int) → (V18 h9 x4 (x5 + (1 : Int)))))))))))) → V18 hv x4 x5) → (∃ h2 : ISt, Q_X3_change h a1 a2 (-a3) h2 ∧ (∃ (r3 : Int) (h4 : ISt), Q_X3_closeLoans h2 a1 r3 h4 ∧ (V18 h4 r3 (0 : Int))))
set_option maxRecDepth 100000 in
set_option maxHeartbeats 4000000 in
theorem t_X3_takeBack (h : ISt) (a1 : Int) (a2 : Int) (a3 : Int) (r : Int) (h' : ISt) (hq : Q_X3_takeBack h a1 a2 a3 r h') : P_X3_takeBack (zS h) (zI a1) (zI a2) (zI a3) (zI r) (zS h') := by
  intro V18 k18
  have hq := hq (fun hv x4 x5 => V18 (zS hv) (zI x4) (zI x5))
  have hq := hq (by
    intro hv x4 x5 hq
    refine k18 (zS hv) (zI x4) (zI x5) ?_
    try simp only [z_m1, z_0, z_1, z_2, z_3, z_4, z_5, z_6, z_8, z_9, z_10, z_12, z_16, z_30, z_31, z_99, z_300, z_500, z_600, z_20000, zadd, zsub, zmul, zneg, zap]
    have rx := hq.1
    have hq := hq.2
    have ry := hq.1
    have hq := hq.2
    refine ⟨fun c => ?_, fun c => ?_⟩
    · have hq := hq.1 ((z_le ry rx).mp c)
      have rx := hq.1
      have hq := hq.2
      intro g9 eg9
      rw [zput rx (by decide)] at eg9
      subst eg9
      have hq := hq _ rfl
      generalize iput hv 6 16 a1 (-1 : Int) = h6 at hq ⊢
      try simp only [z_m1, z_0, z_1, z_2, z_3, z_4, z_5, z_6, z_8, z_9, z_10, z_12, z_16, z_30, z_31, z_99, z_300, z_500, z_600, z_20000, zadd, zsub, zmul, zneg, zap]
      exact ⟨congrArg zI hq.1, congrArg zS hq.2⟩
    · have hq := hq.2 (fun h => c ((z_le ry rx).mpr h))
      try simp only [zat (N := 16) hq.1 (by decide)]
      have hq := hq.2
      try simp only [z_m1, z_0, z_1, z_2, z_3, z_4, z_5, z_6, z_8, z_9, z_10, z_12, z_16, z_30, z_31, z_99, z_300, z_500, z_600, z_20000, zadd, zsub, zmul, zneg, zap]
      have rx := hq.1
      have hq := hq.2
      have ry := hq.1
      have hq := hq.2
      refine ⟨fun c => ?_, fun c => ?_⟩
      · have hq := hq.1 (fun h => c ((z_eq rx ry).mpr h))
        exact hq
      · have hq := hq.2 ((z_eq rx ry).mp c)
        have rx := hq.1
        have hq := hq.2
        intro g9 eg9
        rw [zput rx (by decide)] at eg9
        subst eg9
        have hq := hq _ rfl
        generalize iput hv 7 16 x5 (-1 : Int) = h9 at hq ⊢
        try simp only [z_m1, z_0, z_1, z_2, z_3, z_4, z_5, z_6, z_8, z_9, z_10, z_12, z_16, z_30, z_31, z_99, z_300, z_500, z_600, z_20000, zadd, zsub, zmul, zneg, zap]
        exact hq)
  try simp only [z_m1, z_0, z_1, z_2, z_3, z_4, z_5, z_6, z_8, z_9, z_10, z_12, z_16, z_30, z_31, z_99, z_300, z_500, z_600, z_20000, zadd, zsub, zmul, zneg, zap]
  obtain ⟨h2, hh2, hq⟩ := hq
  refine ⟨zS h2, t_X3_change h a1 a2 (-a3) h2 hh2, ?_⟩
  try simp only [z_m1, z_0, z_1, z_2, z_3, z_4, z_5, z_6, z_8, z_9, z_10, z_12, z_16, z_30, z_31, z_99, z_300, z_500, z_600, z_20000, zadd, zsub, zmul, zneg, zap]
  obtain ⟨r3, h4, hh4, hq⟩ := hq
  refine ⟨zI r3, zS h4, t_X3_closeLoans h2 a1 r3 h4 hh4, ?_⟩
  try simp only [z_m1, z_0, z_1, z_2, z_3, z_4, z_5, z_6, z_8, z_9, z_10, z_12, z_16, z_30, z_31, z_99, z_300, z_500, z_600, z_20000, zadd, zsub, zmul, zneg, zap]
  exact hq
def Q_X3_piecesLentTo (h : ISt) (a1 : Int) (r : Int) : Prop := ∀ V4 : Int → Int → Prop, ∀ V15 : Int → Int → Int → Prop, (∀ x2 x3 : Int, (inR x3 ∧ inR (h 0 1) ∧ (((h 0 1) ≤ x3 → (r = x2)) ∧ (¬ (h 0 1) ≤ x3 → (V15 x2 x3 (0 : Int))))) → V4 x2 x3) → (∀ x2 x3 x4 : Int, (inR x4 ∧ (((4 : Int) ≤ x4 → (V4 x2 (x3 + (1 : Int)))) ∧ (¬ (4 : Int) ≤ x4 → (inR x3 ∧ (inR (iat 16 (h 7) x3) ∧ inR a1 ∧ ((¬ (iat 16 (h 7) x3) = a1 → (V4 x2 (x3 + (1 : Int)))) ∧ ((iat 16 (h 7) x3) = a1 → (inR ((x3 * (4 : Int)) + x4) ∧ (V15 (x2 + (iat 64 (h 8) ((x3 * (4 : Int)) + x4))) x3 (x4 + (1 : Int))))))))))) → V15 x2 x3 x4) → (V4 (0 : Int) (0 : Int))
set_option maxRecDepth 100000 in
set_option maxHeartbeats 4000000 in
theorem t_X3_piecesLentTo (h : ISt) (a1 : Int) (r : Int) (hq : Q_X3_piecesLentTo h a1 r) : P_X3_piecesLentTo (zS h) (zI a1) (zI r) := by
  intro V4 V15 k4 k15
  have hq := hq (fun x2 x3 => V4 (zI x2) (zI x3)) (fun x2 x3 x4 => V15 (zI x2) (zI x3) (zI x4))
  have hq := hq (by
    intro x2 x3 hq
    refine k4 (zI x2) (zI x3) ?_
    try simp only [z_m1, z_0, z_1, z_2, z_3, z_4, z_5, z_6, z_8, z_9, z_10, z_12, z_16, z_30, z_31, z_99, z_300, z_500, z_600, z_20000, zadd, zsub, zmul, zneg, zap]
    have rx := hq.1
    have hq := hq.2
    have ry := hq.1
    have hq := hq.2
    refine ⟨fun c => ?_, fun c => ?_⟩
    · have hq := hq.1 ((z_le ry rx).mp c)
      exact congrArg zI hq
    · have hq := hq.2 (fun h => c ((z_le ry rx).mpr h))
      exact hq)
  have hq := hq (by
    intro x2 x3 x4 hq
    refine k15 (zI x2) (zI x3) (zI x4) ?_
    try simp only [z_m1, z_0, z_1, z_2, z_3, z_4, z_5, z_6, z_8, z_9, z_10, z_12, z_16, z_30, z_31, z_99, z_300, z_500, z_600, z_20000, zadd, zsub, zmul, zneg, zap]
    have rx := hq.1
    have hq := hq.2
    refine ⟨fun c => ?_, fun c => ?_⟩
    · have hq := hq.1 ((z_le ⟨by decide, by decide⟩ rx).mp c)
      exact hq
    · have hq := hq.2 (fun h => c ((z_le ⟨by decide, by decide⟩ rx).mpr h))
      try simp only [zat (N := 16) hq.1 (by decide)]
      have hq := hq.2
      try simp only [z_m1, z_0, z_1, z_2, z_3, z_4, z_5, z_6, z_8, z_9, z_10, z_12, z_16, z_30, z_31, z_99, z_300, z_500, z_600, z_20000, zadd, zsub, zmul, zneg, zap]
      have rx := hq.1
      have hq := hq.2
      have ry := hq.1
      have hq := hq.2
      refine ⟨fun c => ?_, fun c => ?_⟩
      · have hq := hq.1 (fun h => c ((z_eq rx ry).mpr h))
        exact hq
      · have hq := hq.2 ((z_eq rx ry).mp c)
        try simp only [zat (N := 64) hq.1 (by decide)]
        have hq := hq.2
        try simp only [z_m1, z_0, z_1, z_2, z_3, z_4, z_5, z_6, z_8, z_9, z_10, z_12, z_16, z_30, z_31, z_99, z_300, z_500, z_600, z_20000, zadd, zsub, zmul, zneg, zap]
        exact hq)
  try simp only [z_m1, z_0, z_1, z_2, z_3, z_4, z_5, z_6, z_8, z_9, z_10, z_12, z_16, z_30, z_31, z_99, z_300, z_500, z_600, z_20000, zadd, zsub, zmul, zneg, zap]
  exact hq
