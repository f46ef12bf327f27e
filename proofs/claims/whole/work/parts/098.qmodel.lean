def Q_X5_thrown (h : ISt) (r : Int) : Prop := (r = (h 0 0))
set_option maxRecDepth 100000 in
set_option maxHeartbeats 4000000 in
theorem t_X5_thrown (h : ISt) (r : Int) (hq : Q_X5_thrown h r) : P_X5_thrown (zS h) (zI r) := by
  unfold P_X5_thrown
  unfold Q_X5_thrown at hq
  try simp only [z_m1, z_0, z_1, z_2, z_3, z_4, z_5, z_6, z_8, z_9, z_10, z_12, z_16, z_30, z_31, z_99, z_300, z_500, z_600, z_20000, zadd, zsub, zmul, zneg, zap]
  exact congrArg zI hq
def Q_X5_isFine (h : ISt) (a1 : Int) (r : Int) (h' : ISt) : Prop := (∀ h1 : ISt, h1 = iset h 0 0 a1 → (inR a1 ∧ ((¬ a1 = (0 : Int) → (r = (0 : Int) ∧ h' = h1)) ∧ (a1 = (0 : Int) → (r = (1 : Int) ∧ h' = h1)))))
set_option maxRecDepth 100000 in
set_option maxHeartbeats 4000000 in
theorem t_X5_isFine (h : ISt) (a1 : Int) (r : Int) (h' : ISt) (hq : Q_X5_isFine h a1 r h') : P_X5_isFine (zS h) (zI a1) (zI r) (zS h') := by
  unfold P_X5_isFine
  unfold Q_X5_isFine at hq
  try simp only [z_m1, z_0, z_1, z_2, z_3, z_4, z_5, z_6, z_8, z_9, z_10, z_12, z_16, z_30, z_31, z_99, z_300, z_500, z_600, z_20000, zadd, zsub, zmul, zneg, zap]
  intro g9 eg9
  rw [zset] at eg9
  subst eg9
  have hq := hq _ rfl
  generalize iset h 0 0 a1 = h1 at hq ⊢
  try simp only [z_m1, z_0, z_1, z_2, z_3, z_4, z_5, z_6, z_8, z_9, z_10, z_12, z_16, z_30, z_31, z_99, z_300, z_500, z_600, z_20000, zadd, zsub, zmul, zneg, zap]
  have rx := hq.1
  have hq := hq.2
  refine ⟨fun c => ?_, fun c => ?_⟩
  · have hq := hq.1 (fun h => c ((z_eq rx ⟨by decide, by decide⟩).mpr h))
    exact ⟨congrArg zI hq.1, congrArg zS hq.2⟩
  · have hq := hq.2 ((z_eq rx ⟨by decide, by decide⟩).mp c)
    exact ⟨congrArg zI hq.1, congrArg zS hq.2⟩
def Q_X5_isIn (a0 : Int) (a1 : Int) (a2 : Int) (r : Int) : Prop := (inR a0 ∧ inR a1 ∧ ((a0 < a1 → (r = (0 : Int))) ∧ (¬ a0 < a1 → (inR a0 ∧ inR a2 ∧ ((a2 < a0 → (r = (0 : Int))) ∧ (¬ a2 < a0 → (r = (1 : Int))))))))
set_option maxRecDepth 100000 in
set_option maxHeartbeats 4000000 in
theorem t_X5_isIn (a0 : Int) (a1 : Int) (a2 : Int) (r : Int) (hq : Q_X5_isIn a0 a1 a2 r) : P_X5_isIn (zI a0) (zI a1) (zI a2) (zI r) := by
  unfold P_X5_isIn
  unfold Q_X5_isIn at hq
  try simp only [z_m1, z_0, z_1, z_2, z_3, z_4, z_5, z_6, z_8, z_9, z_10, z_12, z_16, z_30, z_31, z_99, z_300, z_500, z_600, z_20000, zadd, zsub, zmul, zneg, zap]
  have rx := hq.1
  have hq := hq.2
  have ry := hq.1
  have hq := hq.2
  refine ⟨fun c => ?_, fun c => ?_⟩
  · have hq := hq.1 ((z_lt rx ry).mp c)
    exact congrArg zI hq
  · have hq := hq.2 (fun h => c ((z_lt rx ry).mpr h))
    have rx := hq.1
    have hq := hq.2
    have ry := hq.1
    have hq := hq.2
    refine ⟨fun c => ?_, fun c => ?_⟩
    · have hq := hq.1 ((z_lt ry rx).mp c)
      exact congrArg zI hq
    · have hq := hq.2 (fun h => c ((z_lt ry rx).mpr h))
      exact congrArg zI hq
def Q_X5_isTitle (h : ISt) (a1 : Int) (r : Int) : Prop := (∃ r1 : Int, Q_X5_isIn a1 (0 : Int) ((h 0 15) - (1 : Int)) r1 ∧ ((r1 = 0 ∨ r1 = 1) ∧ (r = r1)))
set_option maxRecDepth 100000 in
set_option maxHeartbeats 4000000 in
theorem t_X5_isTitle (h : ISt) (a1 : Int) (r : Int) (hq : Q_X5_isTitle h a1 r) : P_X5_isTitle (zS h) (zI a1) (zI r) := by
  unfold P_X5_isTitle
  unfold Q_X5_isTitle at hq
  try simp only [z_m1, z_0, z_1, z_2, z_3, z_4, z_5, z_6, z_8, z_9, z_10, z_12, z_16, z_30, z_31, z_99, z_300, z_500, z_600, z_20000, zadd, zsub, zmul, zneg, zap]
  obtain ⟨r1, hr1, hq⟩ := hq
  refine ⟨zI r1, t_X5_isIn a1 (0 : Int) ((h 0 15) - (1 : Int)) r1 hr1, ?_⟩
  try simp only [z_m1, z_0, z_1, z_2, z_3, z_4, z_5, z_6, z_8, z_9, z_10, z_12, z_16, z_30, z_31, z_99, z_300, z_500, z_600, z_20000, zadd, zsub, zmul, zneg, zap]
  exact ⟨hq.1.imp (congrArg zI) (congrArg zI), congrArg zI hq.2⟩
def Q_X5_isCopy (h : ISt) (a1 : Int) (r : Int) : Prop := (∃ r1 : Int, Q_X5_isIn a1 (0 : Int) ((h 0 19) - (1 : Int)) r1 ∧ ((r1 = 0 ∨ r1 = 1) ∧ (r = r1)))
set_option maxRecDepth 100000 in
set_option maxHeartbeats 4000000 in
theorem t_X5_isCopy (h : ISt) (a1 : Int) (r : Int) (hq : Q_X5_isCopy h a1 r) : P_X5_isCopy (zS h) (zI a1) (zI r) := by
  unfold P_X5_isCopy
  unfold Q_X5_isCopy at hq
  try simp only [z_m1, z_0, z_1, z_2, z_3, z_4, z_5, z_6, z_8, z_9, z_10, z_12, z_16, z_30, z_31, z_99, z_300, z_500, z_600, z_20000, zadd, zsub, zmul, zneg, zap]
  obtain ⟨r1, hr1, hq⟩ := hq
  refine ⟨zI r1, t_X5_isIn a1 (0 : Int) ((h 0 19) - (1 : Int)) r1 hr1, ?_⟩
  try simp only [z_m1, z_0, z_1, z_2, z_3, z_4, z_5, z_6, z_8, z_9, z_10, z_12, z_16, z_30, z_31, z_99, z_300, z_500, z_600, z_20000, zadd, zsub, zmul, zneg, zap]
  exact ⟨hq.1.imp (congrArg zI) (congrArg zI), congrArg zI hq.2⟩
def Q_X5_isKind (a0 : Int) (r : Int) : Prop := (∃ r1 : Int, Q_X5_isIn a0 (0 : Int) (3 : Int) r1 ∧ ((r1 = 0 ∨ r1 = 1) ∧ (r = r1)))
set_option maxRecDepth 100000 in
set_option maxHeartbeats 4000000 in
theorem t_X5_isKind (a0 : Int) (r : Int) (hq : Q_X5_isKind a0 r) : P_X5_isKind (zI a0) (zI r) := by
  unfold P_X5_isKind
  unfold Q_X5_isKind at hq
  try simp only [z_m1, z_0, z_1, z_2, z_3, z_4, z_5, z_6, z_8, z_9, z_10, z_12, z_16, z_30, z_31, z_99, z_300, z_500, z_600, z_20000, zadd, zsub, zmul, zneg, zap]
  obtain ⟨r1, hr1, hq⟩ := hq
  refine ⟨zI r1, t_X5_isIn a0 (0 : Int) (3 : Int) r1 hr1, ?_⟩
  try simp only [z_m1, z_0, z_1, z_2, z_3, z_4, z_5, z_6, z_8, z_9, z_10, z_12, z_16, z_30, z_31, z_99, z_300, z_500, z_600, z_20000, zadd, zsub, zmul, zneg, zap]
  exact ⟨hq.1.imp (congrArg zI) (congrArg zI), congrArg zI hq.2⟩
def Q_X5_isGroup (h : ISt) (a1 : Int) (r : Int) : Prop := (∃ r1 : Int, Q_X5_isIn a1 (0 : Int) ((h 0 10) - (1 : Int)) r1 ∧ ((r1 = 0 ∨ r1 = 1) ∧ (r = r1)))
set_option maxRecDepth 100000 in
set_option maxHeartbeats 4000000 in
theorem t_X5_isGroup (h : ISt) (a1 : Int) (r : Int) (hq : Q_X5_isGroup h a1 r) : P_X5_isGroup (zS h) (zI a1) (zI r) := by
  unfold P_X5_isGroup
  unfold Q_X5_isGroup at hq
  try simp only [z_m1, z_0, z_1, z_2, z_3, z_4, z_5, z_6, z_8, z_9, z_10, z_12, z_16, z_30, z_31, z_99, z_300, z_500, z_600, z_20000, zadd, zsub, zmul, zneg, zap]
  obtain ⟨r1, hr1, hq⟩ := hq
  refine ⟨zI r1, t_X5_isIn a1 (0 : Int) ((h 0 10) - (1 : Int)) r1 hr1, ?_⟩
  try simp only [z_m1, z_0, z_1, z_2, z_3, z_4, z_5, z_6, z_8, z_9, z_10, z_12, z_16, z_30, z_31, z_99, z_300, z_500, z_600, z_20000, zadd, zsub, zmul, zneg, zap]
  exact ⟨hq.1.imp (congrArg zI) (congrArg zI), congrArg zI hq.2⟩
def Q_X5_pass (h : ISt) (a1 : Int) (r : Int) (h' : ISt) : Prop := ∀ V33 : ISt → Int → Prop, (∀ hv : ISt, ∀ t0 : Int, (∃ (r2 : Int) (h3 : ISt), Q_X5_isFine hv t0 r2 h3 ∧ (inR r2 ∧ ((¬ r2 = (0 : Int) → (∀ h4 : ISt, h4 = iset h3 0 1 ((h3 0 1) + a1) → (r = (h4 0 1) ∧ h' = h4))) ∧ (r2 = (0 : Int) → (r = (0 : Int) ∧ h' = h3))))) → V33 hv t0) → (∃ r1 : Int, Q_X5_isIn a1 (1 : Int) (500 : Int) r1 ∧ (inR r1 ∧ ((¬ r1 = (0 : Int) → (inR ((h 0 1) + a1) ∧ ((((h 0 1) + a1) ≤ (20000 : Int) → (V33 h (0 : Int))) ∧ (¬ ((h 0 1) + a1) ≤ (20000 : Int) → (V33 h (2 : Int)))))) ∧ (r1 = (0 : Int) → (V33 h (1 : Int))))))
set_option maxRecDepth 100000 in
set_option maxHeartbeats 4000000 in
theorem t_X5_pass (h : ISt) (a1 : Int) (r : Int) (h' : ISt) (hq : Q_X5_pass h a1 r h') : P_X5_pass (zS h) (zI a1) (zI r) (zS h') := by
  intro V33 k33
  have hq := hq (fun hv t0 => V33 (zS hv) (zI t0))
  have hq := hq (by
    intro hv t0 hq
    refine k33 (zS hv) (zI t0) ?_
    try simp only [z_m1, z_0, z_1, z_2, z_3, z_4, z_5, z_6, z_8, z_9, z_10, z_12, z_16, z_30, z_31, z_99, z_300, z_500, z_600, z_20000, zadd, zsub, zmul, zneg, zap]
    obtain ⟨r2, h3, hh3, hq⟩ := hq
    refine ⟨zI r2, zS h3, t_X5_isFine hv t0 r2 h3 hh3, ?_⟩
    try simp only [z_m1, z_0, z_1, z_2, z_3, z_4, z_5, z_6, z_8, z_9, z_10, z_12, z_16, z_30, z_31, z_99, z_300, z_500, z_600, z_20000, zadd, zsub, zmul, zneg, zap]
    have rx := hq.1
    have hq := hq.2
    refine ⟨fun c => ?_, fun c => ?_⟩
    · have hq := hq.1 (fun h => c ((z_eq rx ⟨by decide, by decide⟩).mpr h))
      intro g9 eg9
      rw [zset] at eg9
      subst eg9
      have hq := hq _ rfl
      generalize iset h3 0 1 ((h3 0 1) + a1) = h4 at hq ⊢
      try simp only [z_m1, z_0, z_1, z_2, z_3, z_4, z_5, z_6, z_8, z_9, z_10, z_12, z_16, z_30, z_31, z_99, z_300, z_500, z_600, z_20000, zadd, zsub, zmul, zneg, zap]
      exact ⟨congrArg zI hq.1, congrArg zS hq.2⟩
    · have hq := hq.2 ((z_eq rx ⟨by decide, by decide⟩).mp c)
      exact ⟨congrArg zI hq.1, congrArg zS hq.2⟩)
  try simp only [z_m1, z_0, z_1, z_2, z_3, z_4, z_5, z_6, z_8, z_9, z_10, z_12, z_16, z_30, z_31, z_99, z_300, z_500, z_600, z_20000, zadd, zsub, zmul, zneg, zap]
  obtain ⟨r1, hr1, hq⟩ := hq
  refine ⟨zI r1, t_X5_isIn a1 (1 : Int) (500 : Int) r1 hr1, ?_⟩
  try simp only [z_m1, z_0, z_1, z_2, z_3, z_4, z_5, z_6, z_8, z_9, z_10, z_12, z_16, z_30, z_31, z_99, z_300, z_500, z_600, z_20000, zadd, zsub, zmul, zneg, zap]
  have rx := hq.1
  have hq := hq.2
  refine ⟨fun c => ?_, fun c => ?_⟩
  · have hq := hq.1 (fun h => c ((z_eq rx ⟨by decide, by decide⟩).mpr h))
    have rx := hq.1
    have hq := hq.2
    refine ⟨fun c => ?_, fun c => ?_⟩
    · have hq := hq.1 ((z_le rx ⟨by decide, by decide⟩).mp c)
      exact hq
    · have hq := hq.2 (fun h => c ((z_le rx ⟨by decide, by decide⟩).mpr h))
      exact hq
  · have hq := hq.2 ((z_eq rx ⟨by decide, by decide⟩).mp c)
    exact hq
def Q_X5_now (h : ISt) (r : Int) (h' : ISt) : Prop := (∀ h1 : ISt, h1 = iset h 0 0 (0 : Int) → (r = (h1 0 1) ∧ h' = h1))
set_option maxRecDepth 100000 in
set_option maxHeartbeats 4000000 in
theorem t_X5_now (h : ISt) (r : Int) (h' : ISt) (hq : Q_X5_now h r h') : P_X5_now (zS h) (zI r) (zS h') := by
  unfold P_X5_now
  unfold Q_X5_now at hq
  try simp only [z_m1, z_0, z_1, z_2, z_3, z_4, z_5, z_6, z_8, z_9, z_10, z_12, z_16, z_30, z_31, z_99, z_300, z_500, z_600, z_20000, zadd, zsub, zmul, zneg, zap]
  intro g9 eg9
  rw [zset] at eg9
  subst eg9
  have hq := hq _ rfl
  generalize iset h 0 0 (0 : Int) = h1 at hq ⊢
  try simp only [z_m1, z_0, z_1, z_2, z_3, z_4, z_5, z_6, z_8, z_9, z_10, z_12, z_16, z_30, z_31, z_99, z_300, z_500, z_600, z_20000, zadd, zsub, zmul, zneg, zap]
  exact ⟨congrArg zI hq.1, congrArg zS hq.2⟩
def Q_X5_addTable (h : ISt) (a1 : Int) (r : Int) (h' : ISt) : Prop := ∀ V29 : ISt → Int → Prop, (∀ hv : ISt, ∀ t0 : Int, (∃ (r2 : Int) (h3 : ISt), Q_X5_isFine hv t0 r2 h3 ∧ (inR r2 ∧ ((¬ r2 = (0 : Int) → ((0 ≤ (h3 0 4) ∧ (h3 0 4) < 10) ∧ (∀ h4 : ISt, h4 = iset h3 1 (h3 0 4).toNat a1 → ((0 ≤ (h4 0 4) ∧ (h4 0 4) < 10) ∧ (∀ h5 : ISt, h5 = iset h4 2 (h4 0 4).toNat (-1 : Int) → (∀ h6 : ISt, h6 = iset h5 0 4 ((h5 0 4) + (1 : Int)) → (r = ((h6 0 4) - (1 : Int)) ∧ h' = h6))))))) ∧ (r2 = (0 : Int) → (r = (0 : Int) ∧ h' = h3))))) → V29 hv t0) → (∃ r1 : Int, Q_X5_isIn a1 (2 : Int) (6 : Int) r1 ∧ (inR r1 ∧ ((¬ r1 = (0 : Int) → (inR (h 0 4) ∧ ((¬ (h 0 4) = (10 : Int) → (V29 h (0 : Int))) ∧ ((h 0 4) = (10 : Int) → (V29 h (2 : Int)))))) ∧ (r1 = (0 : Int) → (V29 h (1 : Int))))))
set_option maxRecDepth 100000 in
set_option maxHeartbeats 4000000 in
theorem t_X5_addTable (h : ISt) (a1 : Int) (r : Int) (h' : ISt) (hq : Q_X5_addTable h a1 r h') : P_X5_addTable (zS h) (zI a1) (zI r) (zS h') := by
  intro V29 k29
  have hq := hq (fun hv t0 => V29 (zS hv) (zI t0))
  have hq := hq (by
    intro hv t0 hq
    refine k29 (zS hv) (zI t0) ?_
    try simp only [z_m1, z_0, z_1, z_2, z_3, z_4, z_5, z_6, z_8, z_9, z_10, z_12, z_16, z_30, z_31, z_99, z_300, z_500, z_600, z_20000, zadd, zsub, zmul, zneg, zap]
    obtain ⟨r2, h3, hh3, hq⟩ := hq
    refine ⟨zI r2, zS h3, t_X5_isFine hv t0 r2 h3 hh3, ?_⟩
    try simp only [z_m1, z_0, z_1, z_2, z_3, z_4, z_5, z_6, z_8, z_9, z_10, z_12, z_16, z_30, z_31, z_99, z_300, z_500, z_600, z_20000, zadd, zsub, zmul, zneg, zap]
    have rx := hq.1
    have hq := hq.2
    refine ⟨fun c => ?_, fun c => ?_⟩
    · have hq := hq.1 (fun h => c ((z_eq rx ⟨by decide, by decide⟩).mpr h))
      refine ⟨zin hq.1.1 hq.1.2 (by decide), ?_⟩
      try simp only [zcl hq.1.1 (Int.lt_trans hq.1.2 (by decide))]
      have hq := hq.2
      intro g9 eg9
      rw [zset] at eg9
      subst eg9
      have hq := hq _ rfl
      generalize iset h3 1 (h3 0 4).toNat a1 = h4 at hq ⊢
      try simp only [z_m1, z_0, z_1, z_2, z_3, z_4, z_5, z_6, z_8, z_9, z_10, z_12, z_16, z_30, z_31, z_99, z_300, z_500, z_600, z_20000, zadd, zsub, zmul, zneg, zap]
      refine ⟨zin hq.1.1 hq.1.2 (by decide), ?_⟩
      try simp only [zcl hq.1.1 (Int.lt_trans hq.1.2 (by decide))]
      have hq := hq.2
      intro g9 eg9
      rw [zset] at eg9
      subst eg9
      have hq := hq _ rfl
      generalize iset h4 2 (h4 0 4).toNat (-1 : Int) = h5 at hq ⊢
      try simp only [z_m1, z_0, z_1, z_2, z_3, z_4, z_5, z_6, z_8, z_9, z_10, z_12, z_16, z_30, z_31, z_99, z_300, z_500, z_600, z_20000, zadd, zsub, zmul, zneg, zap]
      intro g9 eg9
      rw [zset] at eg9
      subst eg9
      have hq := hq _ rfl
      generalize iset h5 0 4 ((h5 0 4) + (1 : Int)) = h6 at hq ⊢
      try simp only [z_m1, z_0, z_1, z_2, z_3, z_4, z_5, z_6, z_8, z_9, z_10, z_12, z_16, z_30, z_31, z_99, z_300, z_500, z_600, z_20000, zadd, zsub, zmul, zneg, zap]
      exact ⟨congrArg zI hq.1, congrArg zS hq.2⟩
    · have hq := hq.2 ((z_eq rx ⟨by decide, by decide⟩).mp c)
      exact ⟨congrArg zI hq.1, congrArg zS hq.2⟩)
  try simp only [z_m1, z_0, z_1, z_2, z_3, z_4, z_5, z_6, z_8, z_9, z_10, z_12, z_16, z_30, z_31, z_99, z_300, z_500, z_600, z_20000, zadd, zsub, zmul, zneg, zap]
  obtain ⟨r1, hr1, hq⟩ := hq
  refine ⟨zI r1, t_X5_isIn a1 (2 : Int) (6 : Int) r1 hr1, ?_⟩
  try simp only [z_m1, z_0, z_1, z_2, z_3, z_4, z_5, z_6, z_8, z_9, z_10, z_12, z_16, z_30, z_31, z_99, z_300, z_500, z_600, z_20000, zadd, zsub, zmul, zneg, zap]
  have rx := hq.1
  have hq := hq.2
  refine ⟨fun c => ?_, fun c => ?_⟩
  · have hq := hq.1 (fun h => c ((z_eq rx ⟨by decide, by decide⟩).mpr h))
    have rx := hq.1
    have hq := hq.2
    refine ⟨fun c => ?_, fun c => ?_⟩
    · have hq := hq.1 (fun h => c ((z_eq rx ⟨by decide, by decide⟩).mpr h))
      exact hq
    · have hq := hq.2 ((z_eq rx ⟨by decide, by decide⟩).mp c)
      exact hq
  · have hq := hq.2 ((z_eq rx ⟨by decide, by decide⟩).mp c)
    exact hq
def Q_X5_arePieces (a0 : Int) (r : Int) : Prop := (∃ r1 : Int, Q_X5_isIn a0 (0 : Int) (9 : Int) r1 ∧ ((r1 = 0 ∨ r1 = 1) ∧ (r = r1)))
set_option maxRecDepth 100000 in
set_option maxHeartbeats 4000000 in
theorem t_X5_arePieces (a0 : Int) (r : Int) (hq : Q_X5_arePieces a0 r) : P_X5_arePieces (zI a0) (zI r) := by
  unfold P_X5_arePieces
  unfold Q_X5_arePieces at hq
  try simp only [z_m1, z_0, z_1, z_2, z_3, z_4, z_5, z_6, z_8, z_9, z_10, z_12, z_16, z_30, z_31, z_99, z_300, z_500, z_600, z_20000, zadd, zsub, zmul, zneg, zap]
  obtain ⟨r1, hr1, hq⟩ := hq
  refine ⟨zI r1, t_X5_isIn a0 (0 : Int) (9 : Int) r1 hr1, ?_⟩
  try simp only [z_m1, z_0, z_1, z_2, z_3, z_4, z_5, z_6, z_8, z_9, z_10, z_12, z_16, z_30, z_31, z_99, z_300, z_500, z_600, z_20000, zadd, zsub, zmul, zneg, zap]
  exact ⟨hq.1.imp (congrArg zI) (congrArg zI), congrArg zI hq.2⟩
def Q_X5_addTitle (h : ISt) (a1 : Int) (a2 : Int) (a3 : Int) (a4 : Int) (a5 : Int) (a6 : Int) (a7 : Int) (r : Int) (h' : ISt) : Prop := ∀ V35 : ISt → Prop, ∀ V36 : ISt → Int → Prop, ∀ V79 : ISt → Prop, ∀ V80 : ISt → Int → Prop, ∀ V106 : ISt → Int → Prop, (∀ hv : ISt, (V36 hv (0 : Int)) → V35 hv) → (∀ hv : ISt, ∀ t0 : Int, (inR t0 ∧ ((t0 = (0 : Int) → (V79 hv)) ∧ (¬ t0 = (0 : Int) → (∃ r4 : Int, Q_X5_arePieces a4 r4 ∧ (inR r4 ∧ ((r4 = (0 : Int) → (V79 hv)) ∧ (¬ r4 = (0 : Int) → (∃ r5 : Int, Q_X5_arePieces a5 r5 ∧ (inR r5 ∧ ((r5 = (0 : Int) → (V79 hv)) ∧ (¬ r5 = (0 : Int) → (∃ r6 : Int, Q_X5_arePieces a6 r6 ∧ (inR r6 ∧ ((r6 = (0 : Int) → (V79 hv)) ∧ (¬ r6 = (0 : Int) → (∃ r7 : Int, Q_X5_arePieces a7 r7 ∧ (inR r7 ∧ ((r7 = (0 : Int) → (V79 hv)) ∧ (¬ r7 = (0 : Int) → (V80 hv (1 : Int))))))))))))))))))))) → V36 hv t0) → (∀ hv : ISt, (V80 hv (0 : Int)) → V79 hv) → (∀ hv : ISt, ∀ t0 : Int, (inR t0 ∧ ((¬ t0 = (0 : Int) → (inR (hv 0 15) ∧ ((¬ (hv 0 15) = (8 : Int) → (V106 hv (0 : Int))) ∧ ((hv 0 15) = (8 : Int) → (V106 hv (2 : Int)))))) ∧ (t0 = (0 : Int) → (V106 hv (1 : Int))))) → V80 hv t0) → (∀ hv : ISt, ∀ t0 : Int, (∃ (r8 : Int) (h9 : ISt), Q_X5_isFine hv t0 r8 h9 ∧ (inR r8 ∧ ((¬ r8 = (0 : Int) → ((0 ≤ (h9 0 15) ∧ (h9 0 15) < 8) ∧ (∀ h10 : ISt, h10 = iset h9 8 (h9 0 15).toNat a1 → ((0 ≤ (h10 0 15) ∧ (h10 0 15) < 8) ∧ (∀ h11 : ISt, h11 = iset h10 9 (h10 0 15).toNat a2 → ((0 ≤ (h11 0 15) ∧ (h11 0 15) < 8) ∧ (∀ h12 : ISt, h12 = iset h11 10 (h11 0 15).toNat a3 → ((0 ≤ ((4 : Int) * (h12 0 15)) ∧ ((4 : Int) * (h12 0 15)) < 32) ∧ (∀ h13 : ISt, h13 = iset h12 11 ((4 : Int) * (h12 0 15)).toNat a4 → ((0 ≤ (((4 : Int) * (h13 0 15)) + (1 : Int)) ∧ (((4 : Int) * (h13 0 15)) + (1 : Int)) < 32) ∧ (∀ h14 : ISt, h14 = iset h13 11 (((4 : Int) * (h13 0 15)) + (1 : Int)).toNat a5 → ((0 ≤ (((4 : Int) * (h14 0 15)) + (2 : Int)) ∧ (((4 : Int) * (h14 0 15)) + (2 : Int)) < 32) ∧ (∀ h15 : ISt, h15 = iset h14 11 (((4 : Int) * (h14 0 15)) + (2 : Int)).toNat a6 → ((0 ≤ (((4 : Int) * (h15 0 15)) + (3 : Int)) ∧ (((4 : Int) * (h15 0 15)) + (3 : Int)) < 32) ∧ (∀ h16 : ISt, h16 = iset h15 11 (((4 : Int) * (h15 0 15)) + (3 : Int)).toNat a7 → (∀ h17 : ISt, h17 = iset h16 0 15 ((h16 0 15) + (1 : Int)) → (r = ((h17 0 15) - (1 : Int)) ∧ h' = h17))))))))))))))))) ∧ (r8 = (0 : Int) → (r = (0 : Int) ∧ h' = h9))))) → V106 hv t0) → (∃ r1 : Int, Q_X5_isIn a1 (1 : Int) (12 : Int) r1 ∧ (inR r1 ∧ ((r1 = (0 : Int) → (V35 h)) ∧ (¬ r1 = (0 : Int) → (∃ r2 : Int, Q_X5_isIn a2 a1 (12 : Int) r2 ∧ (inR r2 ∧ ((r2 = (0 : Int) → (V35 h)) ∧ (¬ r2 = (0 : Int) → (∃ r3 : Int, Q_X5_isIn a3 (5 : Int) (300 : Int) r3 ∧ (inR r3 ∧ ((r3 = (0 : Int) → (V35 h)) ∧ (¬ r3 = (0 : Int) → (V36 h (1 : Int))))))))))))))
set_option maxRecDepth 100000 in
set_option maxHeartbeats 4000000 in
theorem t_X5_addTitle (h : ISt) (a1 : Int) (a2 : Int) (a3 : Int) (a4 : Int) (a5 : Int) (a6 : Int) (a7 : Int) (r : Int) (h' : ISt) (hq : Q_X5_addTitle h a1 a2 a3 a4 a5 a6 a7 r h') : P_X5_addTitle (zS h) (zI a1) (zI a2) (zI a3) (zI a4) (zI a5) (zI a6) (zI a7) (zI r) (zS h') := by
  intro V35 V36 V79 V80 V106 k35 k36 k79 k80 k106
  have hq := hq (fun hv => V35 (zS hv)) (fun hv t0 => V36 (zS hv) (zI t0)) (fun hv => V79 (zS hv)) (fun hv t0 => V80 (zS hv) (zI t0)) (fun hv t0 => V106 (zS hv) (zI t0))
  have hq := hq (by
    intro hv hq
    refine k35 (zS hv) ?_
    try simp only [z_m1, z_0, z_1, z_2, z_3, z_4, z_5, z_6, z_8, z_9, z_10, z_12, z_16, z_30, z_31, z_99, z_300, z_500, z_600, z_20000, zadd, zsub, zmul, zneg, zap]
    exact hq)
  have hq := hq (by
    intro hv t0 hq
    refine k36 (zS hv) (zI t0) ?_
    try simp only [z_m1, z_0, z_1, z_2, z_3, z_4, z_5, z_6, z_8, z_9, z_10, z_12, z_16, z_30, z_31, z_99, z_300, z_500, z_600, z_20000, zadd, zsub, zmul, zneg, zap]
    have rx := hq.1
    have hq := hq.2
    refine ⟨fun c => ?_, fun c => ?_⟩
    · have hq := hq.1 ((z_eq rx ⟨by decide, by decide⟩).mp c)
      exact hq
    · have hq := hq.2 (fun h => c ((z_eq rx ⟨by decide, by decide⟩).mpr h))
      obtain ⟨r4, hr4, hq⟩ := hq
      refine ⟨zI r4, t_X5_arePieces a4 r4 hr4, ?_⟩
      try simp only [z_m1, z_0, z_1, z_2, z_3, z_4, z_5, z_6, z_8, z_9, z_10, z_12, z_16, z_30, z_31, z_99, z_300, z_500, z_600, z_20000, zadd, zsub, zmul, zneg, zap]
      have rx := hq.1
      have hq := hq.2
      refine ⟨fun c => ?_, fun c => ?_⟩
      · have hq := hq.1 ((z_eq rx ⟨by decide, by decide⟩).mp c)
        exact hq
      · have hq := hq.2 (fun h => c ((z_eq rx ⟨by decide, by decide⟩).mpr h))
        obtain ⟨r5, hr5, hq⟩ := hq
        refine ⟨zI r5, t_X5_arePieces a5 r5 hr5, ?_⟩
        try simp only [z_m1, z_0, z_1, z_2, z_3, z_4, z_5, z_6, z_8, z_9, z_10, z_12, z_16, z_30, z_31, z_99, z_300, z_500, z_600, z_20000, zadd, zsub, zmul, zneg, zap]
        have rx := hq.1
        have hq := hq.2
        refine ⟨fun c => ?_, fun c => ?_⟩
        · have hq := hq.1 ((z_eq rx ⟨by decide, by decide⟩).mp c)
          exact hq
        · have hq := hq.2 (fun h => c ((z_eq rx ⟨by decide, by decide⟩).mpr h))
          obtain ⟨r6, hr6, hq⟩ := hq
          refine ⟨zI r6, t_X5_arePieces a6 r6 hr6, ?_⟩
          try simp only [z_m1, z_0, z_1, z_2, z_3, z_4, z_5, z_6, z_8, z_9, z_10, z_12, z_16, z_30, z_31, z_99, z_300, z_500, z_600, z_20000, zadd, zsub, zmul, zneg, zap]
          have rx := hq.1
          have hq := hq.2
          refine ⟨fun c => ?_, fun c => ?_⟩
          · have hq := hq.1 ((z_eq rx ⟨by decide, by decide⟩).mp c)
            exact hq
          · have hq := hq.2 (fun h => c ((z_eq rx ⟨by decide, by decide⟩).mpr h))
            obtain ⟨r7, hr7, hq⟩ := hq
            refine ⟨zI r7, t_X5_arePieces a7 r7 hr7, ?_⟩
            try simp only [z_m1, z_0, z_1, z_2, z_3, z_4, z_5, z_6, z_8, z_9, z_10, z_12, z_16, z_30, z_31, z_99, z_300, z_500, z_600, z_20000, zadd, zsub, zmul, zneg, zap]
            have rx := hq.1
            have hq := hq.2
            refine ⟨fun c => ?_, fun c => ?_⟩
            · have hq := hq.1 ((z_eq rx ⟨by decide, by decide⟩).mp c)
              exact hq
            · have hq := hq.2 (fun h => c ((z_eq rx ⟨by decide, by decide⟩).mpr h))
              exact hq)
  have hq := hq (by
    intro hv hq
    refine k79 (zS hv) ?_
    try simp only [z_m1, z_0, z_1, z_2, z_3, z_4, z_5, z_6, z_8, z_9, z_10, z_12, z_16, z_30, z_31, z_99, z_300, z_500, z_600, z_20000, zadd, zsub, zmul, zneg, zap]
    exact hq)
  have hq := hq (by
    intro hv t0 hq
    refine k80 (zS hv) (zI t0) ?_
    try simp only [z_m1, z_0, z_1, z_2, z_3, z_4, z_5, z_6, z_8, z_9, z_10, z_12, z_16, z_30, z_31, z_99, z_300, z_500, z_600, z_20000, zadd, zsub, zmul, zneg, zap]
    have rx := hq.1
    have hq := hq.2
    refine ⟨fun c => ?_, fun c => ?_⟩
    · have hq := hq.1 (fun h => c ((z_eq rx ⟨by decide, by decide⟩).mpr h))
      have rx := hq.1
      have hq := hq.2
      refine ⟨fun c => ?_, fun c => ?_⟩
      · have hq := hq.1 (fun h => c ((z_eq rx ⟨by decide, by decide⟩).mpr h))
        exact hq
      · have hq := hq.2 ((z_eq rx ⟨by decide, by decide⟩).mp c)
        exact hq
    · have hq := hq.2 ((z_eq rx ⟨by decide, by decide⟩).mp c)
      exact hq)
  have hq := hq (by
    intro hv t0 hq
    refine k106 (zS hv) (zI t0) ?_
    try simp only [z_m1, z_0, z_1, z_2, z_3, z_4, z_5, z_6, z_8, z_9, z_10, z_12, z_16, z_30, z_31, z_99, z_300, z_500, z_600, z_20000, zadd, zsub, zmul, zneg, zap]
    obtain ⟨r8, h9, hh9, hq⟩ := hq
    refine ⟨zI r8, zS h9, t_X5_isFine hv t0 r8 h9 hh9, ?_⟩
    try simp only [z_m1, z_0, z_1, z_2, z_3, z_4, z_5, z_6, z_8, z_9, z_10, z_12, z_16, z_30, z_31, z_99, z_300, z_500, z_600, z_20000, zadd, zsub, zmul, zneg, zap]
    have rx := hq.1
    have hq := hq.2
    refine ⟨fun c => ?_, fun c => ?_⟩
    · have hq := hq.1 (fun h => c ((z_eq rx ⟨by decide, by decide⟩).mpr h))
      refine ⟨zin hq.1.1 hq.1.2 (by decide), ?_⟩
      try simp only [zcl hq.1.1 (Int.lt_trans hq.1.2 (by decide))]
      have hq := hq.2
      intro g9 eg9
      rw [zset] at eg9
      subst eg9
      have hq := hq _ rfl
      generalize iset h9 8 (h9 0 15).toNat a1 = h10 at hq ⊢
      try simp only [z_m1, z_0, z_1, z_2, z_3, z_4, z_5, z_6, z_8, z_9, z_10, z_12, z_16, z_30, z_31, z_99, z_300, z_500, z_600, z_20000, zadd, zsub, zmul, zneg, zap]
      refine ⟨zin hq.1.1 hq.1.2 (by decide), ?_⟩
      try simp only [zcl hq.1.1 (Int.lt_trans hq.1.2 (by decide))]
      have hq := hq.2
      intro g9 eg9
      rw [zset] at eg9
      subst eg9
      have hq := hq _ rfl
      generalize iset h10 9 (h10 0 15).toNat a2 = h11 at hq ⊢
      try simp only [z_m1, z_0, z_1, z_2, z_3, z_4, z_5, z_6, z_8, z_9, z_10, z_12, z_16, z_30, z_31, z_99, z_300, z_500, z_600, z_20000, zadd, zsub, zmul, zneg, zap]
      refine ⟨zin hq.1.1 hq.1.2 (by decide), ?_⟩
      try simp only [zcl hq.1.1 (Int.lt_trans hq.1.2 (by decide))]
      have hq := hq.2
      intro g9 eg9
      rw [zset] at eg9
      subst eg9
      have hq := hq _ rfl
      generalize iset h11 10 (h11 0 15).toNat a3 = h12 at hq ⊢
      try simp only [z_m1, z_0, z_1, z_2, z_3, z_4, z_5, z_6, z_8, z_9, z_10, z_12, z_16, z_30, z_31, z_99, z_300, z_500, z_600, z_20000, zadd, zsub, zmul, zneg, zap]
      refine ⟨zin hq.1.1 hq.1.2 (by decide), ?_⟩
      try simp only [zcl hq.1.1 (Int.lt_trans hq.1.2 (by decide))]
      have hq := hq.2
      intro g9 eg9
      rw [zset] at eg9
      subst eg9
      have hq := hq _ rfl
      generalize iset h12 11 ((4 : Int) * (h12 0 15)).toNat a4 = h13 at hq ⊢
      try simp only [z_m1, z_0, z_1, z_2, z_3, z_4, z_5, z_6, z_8, z_9, z_10, z_12, z_16, z_30, z_31, z_99, z_300, z_500, z_600, z_20000, zadd, zsub, zmul, zneg, zap]
      refine ⟨zin hq.1.1 hq.1.2 (by decide), ?_⟩
      try simp only [zcl hq.1.1 (Int.lt_trans hq.1.2 (by decide))]
      have hq := hq.2
      intro g9 eg9
      rw [zset] at eg9
      subst eg9
      have hq := hq _ rfl
      generalize iset h13 11 (((4 : Int) * (h13 0 15)) + (1 : Int)).toNat a5 = h14 at hq ⊢
      try simp only [z_m1, z_0, z_1, z_2, z_3, z_4, z_5, z_6, z_8, z_9, z_10, z_12, z_16, z_30, z_31, z_99, z_300, z_500, z_600, z_20000, zadd, zsub, zmul, zneg, zap]
      refine ⟨zin hq.1.1 hq.1.2 (by decide), ?_⟩
      try simp only [zcl hq.1.1 (Int.lt_trans hq.1.2 (by decide))]
      have hq := hq.2
      intro g9 eg9
      rw [zset] at eg9
      subst eg9
      have hq := hq _ rfl
      generalize iset h14 11 (((4 : Int) * (h14 0 15)) + (2 : Int)).toNat a6 = h15 at hq ⊢
      try simp only [z_m1, z_0, z_1, z_2, z_3, z_4, z_5, z_6, z_8, z_9, z_10, z_12, z_16, z_30, z_31, z_99, z_300, z_500, z_600, z_20000, zadd, zsub, zmul, zneg, zap]
      refine ⟨zin hq.1.1 hq.1.2 (by decide), ?_⟩
      try simp only [zcl hq.1.1 (Int.lt_trans hq.1.2 (by decide))]
      have hq := hq.2
      intro g9 eg9
      rw [zset] at eg9
      subst eg9
      have hq := hq _ rfl
      generalize iset h15 11 (((4 : Int) * (h15 0 15)) + (3 : Int)).toNat a7 = h16 at hq ⊢
      try simp only [z_m1, z_0, z_1, z_2, z_3, z_4, z_5, z_6, z_8, z_9, z_10, z_12, z_16, z_30, z_31, z_99, z_300, z_500, z_600, z_20000, zadd, zsub, zmul, zneg, zap]
      intro g9 eg9
      rw [zset] at eg9
      subst eg9
      have hq := hq _ rfl
      generalize iset h16 0 15 ((h16 0 15) + (1 : Int)) = h17 at hq ⊢
      try simp only [z_m1, z_0, z_1, z_2, z_3, z_4, z_5, z_6, z_8, z_9, z_10, z_12, z_16, z_30, z_31, z_99, z_300, z_500, z_600, z_20000, zadd, zsub, zmul, zneg, zap]
      exact ⟨congrArg zI hq.1, congrArg zS hq.2⟩
    · have hq := hq.2 ((z_eq rx ⟨by decide, by decide⟩).mp c)
      exact ⟨congrArg zI hq.1, congrArg zS hq.2⟩)
  try simp only [z_m1, z_0, z_1, z_2, z_3, z_4, z_5, z_6, z_8, z_9, z_10, z_12, z_16, z_30, z_31, z_99, z_300, z_500, z_600, z_20000, zadd, zsub, zmul, zneg, zap]
  obtain ⟨r1, hr1, hq⟩ := hq
  refine ⟨zI r1, t_X5_isIn a1 (1 : Int) (12 : Int) r1 hr1, ?_⟩
  try simp only [z_m1, z_0, z_1, z_2, z_3, z_4, z_5, z_6, z_8, z_9, z_10, z_12, z_16, z_30, z_31, z_99, z_300, z_500, z_600, z_20000, zadd, zsub, zmul, zneg, zap]
  have rx := hq.1
  have hq := hq.2
  refine ⟨fun c => ?_, fun c => ?_⟩
  · have hq := hq.1 ((z_eq rx ⟨by decide, by decide⟩).mp c)
    exact hq
  · have hq := hq.2 (fun h => c ((z_eq rx ⟨by decide, by decide⟩).mpr h))
    obtain ⟨r2, hr2, hq⟩ := hq
    refine ⟨zI r2, t_X5_isIn a2 a1 (12 : Int) r2 hr2, ?_⟩
    try simp only [z_m1, z_0, z_1, z_2, z_3, z_4, z_5, z_6, z_8, z_9, z_10, z_12, z_16, z_30, z_31, z_99, z_300, z_500, z_600, z_20000, zadd, zsub, zmul, zneg, zap]
    have rx := hq.1
    have hq := hq.2
    refine ⟨fun c => ?_, fun c => ?_⟩
    · have hq := hq.1 ((z_eq rx ⟨by decide, by decide⟩).mp c)
      exact hq
    · have hq := hq.2 (fun h => c ((z_eq rx ⟨by decide, by decide⟩).mpr h))
      obtain ⟨r3, hr3, hq⟩ := hq
      refine ⟨zI r3, t_X5_isIn a3 (5 : Int) (300 : Int) r3 hr3, ?_⟩
      try simp only [z_m1, z_0, z_1, z_2, z_3, z_4, z_5, z_6, z_8, z_9, z_10, z_12, z_16, z_30, z_31, z_99, z_300, z_500, z_600, z_20000, zadd, zsub, zmul, zneg, zap]
      have rx := hq.1
      have hq := hq.2
      refine ⟨fun c => ?_, fun c => ?_⟩
      · have hq := hq.1 ((z_eq rx ⟨by decide, by decide⟩).mp c)
        exact hq
      · have hq := hq.2 (fun h => c ((z_eq rx ⟨by decide, by decide⟩).mpr h))
        exact hq
def Q_X5_addCopy (h : ISt) (a1 : Int) (r : Int) (h' : ISt) : Prop := ∀ V27 : ISt → Int → Prop, ∀ V57 : ISt → Int → Prop, (∀ hv : ISt, ∀ t0 : Int, (∃ (r2 : Int) (h3 : ISt), Q_X5_isFine hv t0 r2 h3 ∧ (inR r2 ∧ ((¬ r2 = (0 : Int) → ((0 ≤ (h3 0 19) ∧ (h3 0 19) < 16) ∧ (∀ h4 : ISt, h4 = iset h3 12 (h3 0 19).toNat a1 → ((0 ≤ (h4 0 19) ∧ (h4 0 19) < 16) ∧ (∀ h5 : ISt, h5 = iset h4 13 (h4 0 19).toNat (0 : Int) → (V57 h5 (0 : Int))))))) ∧ (r2 = (0 : Int) → (r = (0 : Int) ∧ h' = h3))))) → V27 hv t0) → (∀ hv : ISt, ∀ x2 : Int, (inR x2 ∧ (((4 : Int) ≤ x2 → (∀ h6 : ISt, h6 = iset hv 0 19 ((hv 0 19) + (1 : Int)) → (r = ((h6 0 19) - (1 : Int)) ∧ h' = h6))) ∧ (¬ (4 : Int) ≤ x2 → ((0 ≤ (((4 : Int) * a1) + x2) ∧ (((4 : Int) * a1) + x2) < 32) ∧ ((0 ≤ (((4 : Int) * (hv 0 19)) + x2) ∧ (((4 : Int) * (hv 0 19)) + x2) < 64) ∧ (∀ h7 : ISt, h7 = iset hv 14 (((4 : Int) * (hv 0 19)) + x2).toNat (hv 11 (((4 : Int) * a1) + x2).toNat) → (V57 h7 (x2 + (1 : Int))))))))) → V57 hv x2) → (∃ r1 : Int, Q_X5_isTitle h a1 r1 ∧ (inR r1 ∧ ((¬ r1 = (0 : Int) → (inR (h 0 19) ∧ ((¬ (h 0 19) = (16 : Int) → (V27 h (0 : Int))) ∧ ((h 0 19) = (16 : Int) → (V27 h (2 : Int)))))) ∧ (r1 = (0 : Int) → (V27 h (1 : Int))))))
set_option maxRecDepth 100000 in
set_option maxHeartbeats 4000000 in
theorem t_X5_addCopy (h : ISt) (a1 : Int) (r : Int) (h' : ISt) (hq : Q_X5_addCopy h a1 r h') : P_X5_addCopy (zS h) (zI a1) (zI r) (zS h') := by
  intro V27 V57 k27 k57
  have hq := hq (fun hv t0 => V27 (zS hv) (zI t0)) (fun hv x2 => V57 (zS hv) (zI x2))
  have hq := hq (by
    intro hv t0 hq
    refine k27 (zS hv) (zI t0) ?_
    try simp only [z_m1, z_0, z_1, z_2, z_3, z_4, z_5, z_6, z_8, z_9, z_10, z_12, z_16, z_30, z_31, z_99, z_300, z_500, z_600, z_20000, zadd, zsub, zmul, zneg, zap]
    obtain ⟨r2, h3, hh3, hq⟩ := hq
    refine ⟨zI r2, zS h3, t_X5_isFine hv t0 r2 h3 hh3, ?_⟩
    try simp only [z_m1, z_0, z_1, z_2, z_3, z_4, z_5, z_6, z_8, z_9, z_10, z_12, z_16, z_30, z_31, z_99, z_300, z_500, z_600, z_20000, zadd, zsub, zmul, zneg, zap]
    have rx := hq.1
    have hq := hq.2
    refine ⟨fun c => ?_, fun c => ?_⟩
    · have hq := hq.1 (fun h => c ((z_eq rx ⟨by decide, by decide⟩).mpr h))
      refine ⟨zin hq.1.1 hq.1.2 (by decide), ?_⟩
      try simp only [zcl hq.1.1 (Int.lt_trans hq.1.2 (by decide))]
      have hq := hq.2
      intro g9 eg9
      rw [zset] at eg9
      subst eg9
      have hq := hq _ rfl
      generalize iset h3 12 (h3 0 19).toNat a1 = h4 at hq ⊢
      try simp only [z_m1, z_0, z_1, z_2, z_3, z_4, z_5, z_6, z_8, z_9, z_10, z_12, z_16, z_30, z_31, z_99, z_300, z_500, z_600, z_20000, zadd, zsub, zmul, zneg, zap]
      refine ⟨zin hq.1.1 hq.1.2 (by decide), ?_⟩
      try simp only [zcl hq.1.1 (Int.lt_trans hq.1.2 (by decide))]
      have hq := hq.2
      intro g9 eg9
      rw [zset] at eg9
      subst eg9
      have hq := hq _ rfl
      generalize iset h4 13 (h4 0 19).toNat (0 : Int) = h5 at hq ⊢
      try simp only [z_m1, z_0, z_1, z_2, z_3, z_4, z_5, z_6, z_8, z_9, z_10, z_12, z_16, z_30, z_31, z_99, z_300, z_500, z_600, z_20000, zadd, zsub, zmul, zneg, zap]
      exact hq
    · have hq := hq.2 ((z_eq rx ⟨by decide, by decide⟩).mp c)
      exact ⟨congrArg zI hq.1, congrArg zS hq.2⟩)
  have hq := hq (by
    intro hv x2 hq
    refine k57 (zS hv) (zI x2) ?_
    try simp only [z_m1, z_0, z_1, z_2, z_3, z_4, z_5, z_6, z_8, z_9, z_10, z_12, z_16, z_30, z_31, z_99, z_300, z_500, z_600, z_20000, zadd, zsub, zmul, zneg, zap]
    have rx := hq.1
    have hq := hq.2
    refine ⟨fun c => ?_, fun c => ?_⟩
    · have hq := hq.1 ((z_le ⟨by decide, by decide⟩ rx).mp c)
      intro g9 eg9
      rw [zset] at eg9
      subst eg9
      have hq := hq _ rfl
      generalize iset hv 0 19 ((hv 0 19) + (1 : Int)) = h6 at hq ⊢
      try simp only [z_m1, z_0, z_1, z_2, z_3, z_4, z_5, z_6, z_8, z_9, z_10, z_12, z_16, z_30, z_31, z_99, z_300, z_500, z_600, z_20000, zadd, zsub, zmul, zneg, zap]
      exact ⟨congrArg zI hq.1, congrArg zS hq.2⟩
    · have hq := hq.2 (fun h => c ((z_le ⟨by decide, by decide⟩ rx).mpr h))
      refine ⟨zin hq.1.1 hq.1.2 (by decide), ?_⟩
      try simp only [zcl hq.1.1 (Int.lt_trans hq.1.2 (by decide))]
      have hq := hq.2
      try simp only [z_m1, z_0, z_1, z_2, z_3, z_4, z_5, z_6, z_8, z_9, z_10, z_12, z_16, z_30, z_31, z_99, z_300, z_500, z_600, z_20000, zadd, zsub, zmul, zneg, zap]
      refine ⟨zin hq.1.1 hq.1.2 (by decide), ?_⟩
      try simp only [zcl hq.1.1 (Int.lt_trans hq.1.2 (by decide))]
      have hq := hq.2
      intro g9 eg9
      rw [zset] at eg9
      subst eg9
      have hq := hq _ rfl
      generalize iset hv 14 (((4 : Int) * (hv 0 19)) + x2).toNat (hv 11 (((4 : Int) * a1) + x2).toNat) = h7 at hq ⊢
      try simp only [z_m1, z_0, z_1, z_2, z_3, z_4, z_5, z_6, z_8, z_9, z_10, z_12, z_16, z_30, z_31, z_99, z_300, z_500, z_600, z_20000, zadd, zsub, zmul, zneg, zap]
      exact hq)
  try simp only [z_m1, z_0, z_1, z_2, z_3, z_4, z_5, z_6, z_8, z_9, z_10, z_12, z_16, z_30, z_31, z_99, z_300, z_500, z_600, z_20000, zadd, zsub, zmul, zneg, zap]
  obtain ⟨r1, hr1, hq⟩ := hq
  refine ⟨zI r1, t_X5_isTitle h a1 r1 hr1, ?_⟩
  try simp only [z_m1, z_0, z_1, z_2, z_3, z_4, z_5, z_6, z_8, z_9, z_10, z_12, z_16, z_30, z_31, z_99, z_300, z_500, z_600, z_20000, zadd, zsub, zmul, zneg, zap]
  have rx := hq.1
  have hq := hq.2
  refine ⟨fun c => ?_, fun c => ?_⟩
  · have hq := hq.1 (fun h => c ((z_eq rx ⟨by decide, by decide⟩).mpr h))
    have rx := hq.1
    have hq := hq.2
    refine ⟨fun c => ?_, fun c => ?_⟩
    · have hq := hq.1 (fun h => c ((z_eq rx ⟨by decide, by decide⟩).mpr h))
      exact hq
    · have hq := hq.2 ((z_eq rx ⟨by decide, by decide⟩).mp c)
      exact hq
  · have hq := hq.2 ((z_eq rx ⟨by decide, by decide⟩).mp c)
    exact hq
def Q_X5_addRule (h : ISt) (a1 : Int) (a2 : Int) (a3 : Int) (a4 : Int) (a5 : Int) (r : Int) (h' : ISt) : Prop := ∀ V28 : ISt → Prop, ∀ V29 : ISt → Int → Prop, ∀ V67 : ISt → Int → Prop, ∀ V68 : ISt → Int → Int → Prop, ∀ V105 : ISt → Int → Prop, (∀ hv : ISt, (V29 hv (0 : Int)) → V28 hv) → (∀ hv : ISt, ∀ t0 : Int, (∃ r3 : Int, Q_X5_isIn a3 (0 : Int) (3 : Int) r3 ∧ (inR r3 ∧ ((r3 = (0 : Int) → (V67 hv t0)) ∧ (¬ r3 = (0 : Int) → (∃ r4 : Int, Q_X5_isIn a4 (1 : Int) (300 : Int) r4 ∧ (inR r4 ∧ ((r4 = (0 : Int) → (V67 hv t0)) ∧ (¬ r4 = (0 : Int) → (∃ r5 : Int, Q_X5_isIn a5 (0 : Int) (99 : Int) r5 ∧ (inR r5 ∧ ((r5 = (0 : Int) → (V67 hv t0)) ∧ (¬ r5 = (0 : Int) → (V68 hv t0 (1 : Int)))))))))))))) → V29 hv t0) → (∀ hv : ISt, ∀ x6 : Int, (V68 hv x6 (0 : Int)) → V67 hv x6) → (∀ hv : ISt, ∀ x6 t0 : Int, (inR x6 ∧ ((¬ x6 = (0 : Int) → (inR t0 ∧ ((¬ t0 = (0 : Int) → ((0 ≤ a1 ∧ a1 < 8) ∧ (inR (hv 23 a1.toNat) ∧ ((¬ (hv 23 a1.toNat) = (12 : Int) → (V105 hv (0 : Int))) ∧ ((hv 23 a1.toNat) = (12 : Int) → (V105 hv (3 : Int))))))) ∧ (t0 = (0 : Int) → (V105 hv (2 : Int)))))) ∧ (x6 = (0 : Int) → (V105 hv (1 : Int))))) → V68 hv x6 t0) → (∀ hv : ISt, ∀ t0 : Int, (∃ (r6 : Int) (h7 : ISt), Q_X5_isFine hv t0 r6 h7 ∧ (inR r6 ∧ ((¬ r6 = (0 : Int) → ((0 ≤ a1 ∧ a1 < 8) ∧ ((0 ≤ (((12 : Int) * a1) + (h7 23 a1.toNat)) ∧ (((12 : Int) * a1) + (h7 23 a1.toNat)) < 96) ∧ (∀ h8 : ISt, h8 = iset h7 19 (((12 : Int) * a1) + (h7 23 a1.toNat)).toNat a2 → ((0 ≤ (((12 : Int) * a1) + (h7 23 a1.toNat)) ∧ (((12 : Int) * a1) + (h7 23 a1.toNat)) < 96) ∧ (∀ h9 : ISt, h9 = iset h8 20 (((12 : Int) * a1) + (h7 23 a1.toNat)).toNat a3 → ((0 ≤ (((12 : Int) * a1) + (h7 23 a1.toNat)) ∧ (((12 : Int) * a1) + (h7 23 a1.toNat)) < 96) ∧ (∀ h10 : ISt, h10 = iset h9 21 (((12 : Int) * a1) + (h7 23 a1.toNat)).toNat a4 → ((0 ≤ (((12 : Int) * a1) + (h7 23 a1.toNat)) ∧ (((12 : Int) * a1) + (h7 23 a1.toNat)) < 96) ∧ (∀ h11 : ISt, h11 = iset h10 22 (((12 : Int) * a1) + (h7 23 a1.toNat)).toNat a5 → ((0 ≤ a1 ∧ a1 < 8) ∧ ((0 ≤ a1 ∧ a1 < 8) ∧ (∀ h12 : ISt, h12 = iset h11 23 a1.toNat ((h11 23 a1.toNat) + (1 : Int)) → ((0 ≤ a1 ∧ a1 < 8) ∧ (r = ((h12 23 a1.toNat) - (1 : Int)) ∧ h' = h12))))))))))))))) ∧ (r6 = (0 : Int) → (r = (0 : Int) ∧ h' = h7))))) → V105 hv t0) → (∃ r1 : Int, Q_X5_isTitle h a1 r1 ∧ (inR r1 ∧ ((r1 = (0 : Int) → (V28 h)) ∧ (¬ r1 = (0 : Int) → ((0 ≤ a1 ∧ a1 < 8) ∧ (∃ r2 : Int, Q_X5_isIn a2 (-1 : Int) ((h 23 a1.toNat) - (1 : Int)) r2 ∧ (inR r2 ∧ ((r2 = (0 : Int) → (V28 h)) ∧ (¬ r2 = (0 : Int) → (V29 h (1 : Int)))))))))))
set_option maxRecDepth 100000 in
set_option maxHeartbeats 4000000 in
theorem t_X5_addRule (h : ISt) (a1 : Int) (a2 : Int) (a3 : Int) (a4 : Int) (a5 : Int) (r : Int) (h' : ISt) (hq : Q_X5_addRule h a1 a2 a3 a4 a5 r h') : P_X5_addRule (zS h) (zI a1) (zI a2) (zI a3) (zI a4) (zI a5) (zI r) (zS h') := by
  intro V28 V29 V67 V68 V105 k28 k29 k67 k68 k105
  have hq := hq (fun hv => V28 (zS hv)) (fun hv t0 => V29 (zS hv) (zI t0)) (fun hv x6 => V67 (zS hv) (zI x6)) (fun hv x6 t0 => V68 (zS hv) (zI x6) (zI t0)) (fun hv t0 => V105 (zS hv) (zI t0))
  have hq := hq (by
    intro hv hq
    refine k28 (zS hv) ?_
    try simp only [z_m1, z_0, z_1, z_2, z_3, z_4, z_5, z_6, z_8, z_9, z_10, z_12, z_16, z_30, z_31, z_99, z_300, z_500, z_600, z_20000, zadd, zsub, zmul, zneg, zap]
    exact hq)
  have hq := hq (by
    intro hv t0 hq
    refine k29 (zS hv) (zI t0) ?_
    try simp only [z_m1, z_0, z_1, z_2, z_3, z_4, z_5, z_6, z_8, z_9, z_10, z_12, z_16, z_30, z_31, z_99, z_300, z_500, z_600, z_20000, zadd, zsub, zmul, zneg, zap]
    obtain ⟨r3, hr3, hq⟩ := hq
    refine ⟨zI r3, t_X5_isIn a3 (0 : Int) (3 : Int) r3 hr3, ?_⟩
    try simp only [z_m1, z_0, z_1, z_2, z_3, z_4, z_5, z_6, z_8, z_9, z_10, z_12, z_16, z_30, z_31, z_99, z_300, z_500, z_600, z_20000, zadd, zsub, zmul, zneg, zap]
    have rx := hq.1
    have hq := hq.2
    refine ⟨fun c => ?_, fun c => ?_⟩
    · have hq := hq.1 ((z_eq rx ⟨by decide, by decide⟩).mp c)
      exact hq
    · have hq := hq.2 (fun h => c ((z_eq rx ⟨by decide, by decide⟩).mpr h))
      obtain ⟨r4, hr4, hq⟩ := hq
      refine ⟨zI r4, t_X5_isIn a4 (1 : Int) (300 : Int) r4 hr4, ?_⟩
      try simp only [z_m1, z_0, z_1, z_2, z_3, z_4, z_5, z_6, z_8, z_9, z_10, z_12, z_16, z_30, z_31, z_99, z_300, z_500, z_600, z_20000, zadd, zsub, zmul, zneg, zap]
      have rx := hq.1
      have hq := hq.2
      refine ⟨fun c => ?_, fun c => ?_⟩
      · have hq := hq.1 ((z_eq rx ⟨by decide, by decide⟩).mp c)
        exact hq
      · have hq := hq.2 (fun h => c ((z_eq rx ⟨by decide, by decide⟩).mpr h))
        obtain ⟨r5, hr5, hq⟩ := hq
        refine ⟨zI r5, t_X5_isIn a5 (0 : Int) (99 : Int) r5 hr5, ?_⟩
        try simp only [z_m1, z_0, z_1, z_2, z_3, z_4, z_5, z_6, z_8, z_9, z_10, z_12, z_16, z_30, z_31, z_99, z_300, z_500, z_600, z_20000, zadd, zsub, zmul, zneg, zap]
        have rx := hq.1
        have hq := hq.2
        refine ⟨fun c => ?_, fun c => ?_⟩
        · have hq := hq.1 ((z_eq rx ⟨by decide, by decide⟩).mp c)
          exact hq
        · have hq := hq.2 (fun h => c ((z_eq rx ⟨by decide, by decide⟩).mpr h))
          exact hq)
  have hq := hq (by
    intro hv x6 hq
    refine k67 (zS hv) (zI x6) ?_
    try simp only [z_m1, z_0, z_1, z_2, z_3, z_4, z_5, z_6, z_8, z_9, z_10, z_12, z_16, z_30, z_31, z_99, z_300, z_500, z_600, z_20000, zadd, zsub, zmul, zneg, zap]
    exact hq)
  have hq := hq (by
    intro hv x6 t0 hq
    refine k68 (zS hv) (zI x6) (zI t0) ?_
    try simp only [z_m1, z_0, z_1, z_2, z_3, z_4, z_5, z_6, z_8, z_9, z_10, z_12, z_16, z_30, z_31, z_99, z_300, z_500, z_600, z_20000, zadd, zsub, zmul, zneg, zap]
    have rx := hq.1
    have hq := hq.2
    refine ⟨fun c => ?_, fun c => ?_⟩
    · have hq := hq.1 (fun h => c ((z_eq rx ⟨by decide, by decide⟩).mpr h))
      have rx := hq.1
      have hq := hq.2
      refine ⟨fun c => ?_, fun c => ?_⟩
      · have hq := hq.1 (fun h => c ((z_eq rx ⟨by decide, by decide⟩).mpr h))
        refine ⟨zin hq.1.1 hq.1.2 (by decide), ?_⟩
        try simp only [zcl hq.1.1 (Int.lt_trans hq.1.2 (by decide))]
        have hq := hq.2
        try simp only [z_m1, z_0, z_1, z_2, z_3, z_4, z_5, z_6, z_8, z_9, z_10, z_12, z_16, z_30, z_31, z_99, z_300, z_500, z_600, z_20000, zadd, zsub, zmul, zneg, zap]
        have rx := hq.1
        have hq := hq.2
        refine ⟨fun c => ?_, fun c => ?_⟩
        · have hq := hq.1 (fun h => c ((z_eq rx ⟨by decide, by decide⟩).mpr h))
          exact hq
        · have hq := hq.2 ((z_eq rx ⟨by decide, by decide⟩).mp c)
          exact hq
      · have hq := hq.2 ((z_eq rx ⟨by decide, by decide⟩).mp c)
        exact hq
    · have hq := hq.2 ((z_eq rx ⟨by decide, by decide⟩).mp c)
      exact hq)
  have hq := hq (by
    intro hv t0 hq
    refine k105 (zS hv) (zI t0) ?_
    try simp only [z_m1, z_0, z_1, z_2, z_3, z_4, z_5, z_6, z_8, z_9, z_10, z_12, z_16, z_30, z_31, z_99, z_300, z_500, z_600, z_20000, zadd, zsub, zmul, zneg, zap]
    obtain ⟨r6, h7, hh7, hq⟩ := hq
    refine ⟨zI r6, zS h7, t_X5_isFine hv t0 r6 h7 hh7, ?_⟩
    try simp only [z_m1, z_0, z_1, z_2, z_3, z_4, z_5, z_6, z_8, z_9, z_10, z_12, z_16, z_30, z_31, z_99, z_300, z_500, z_600, z_20000, zadd, zsub, zmul, zneg, zap]
    have rx := hq.1
    have hq := hq.2
    refine ⟨fun c => ?_, fun c => ?_⟩
    · have hq := hq.1 (fun h => c ((z_eq rx ⟨by decide, by decide⟩).mpr h))
      refine ⟨zin hq.1.1 hq.1.2 (by decide), ?_⟩
      try simp only [zcl hq.1.1 (Int.lt_trans hq.1.2 (by decide))]
      have hq := hq.2
      try simp only [z_m1, z_0, z_1, z_2, z_3, z_4, z_5, z_6, z_8, z_9, z_10, z_12, z_16, z_30, z_31, z_99, z_300, z_500, z_600, z_20000, zadd, zsub, zmul, zneg, zap]
      refine ⟨zin hq.1.1 hq.1.2 (by decide), ?_⟩
      try simp only [zcl hq.1.1 (Int.lt_trans hq.1.2 (by decide))]
      have hq := hq.2
      intro g9 eg9
      rw [zset] at eg9
      subst eg9
      have hq := hq _ rfl
      generalize iset h7 19 (((12 : Int) * a1) + (h7 23 a1.toNat)).toNat a2 = h8 at hq ⊢
      try simp only [z_m1, z_0, z_1, z_2, z_3, z_4, z_5, z_6, z_8, z_9, z_10, z_12, z_16, z_30, z_31, z_99, z_300, z_500, z_600, z_20000, zadd, zsub, zmul, zneg, zap]
      refine ⟨zin hq.1.1 hq.1.2 (by decide), ?_⟩
      try simp only [zcl hq.1.1 (Int.lt_trans hq.1.2 (by decide))]
      have hq := hq.2
      intro g9 eg9
      rw [zset] at eg9
      subst eg9
      have hq := hq _ rfl
      generalize iset h8 20 (((12 : Int) * a1) + (h7 23 a1.toNat)).toNat a3 = h9 at hq ⊢
      try simp only [z_m1, z_0, z_1, z_2, z_3, z_4, z_5, z_6, z_8, z_9, z_10, z_12, z_16, z_30, z_31, z_99, z_300, z_500, z_600, z_20000, zadd, zsub, zmul, zneg, zap]
      refine ⟨zin hq.1.1 hq.1.2 (by decide), ?_⟩
      try simp only [zcl hq.1.1 (Int.lt_trans hq.1.2 (by decide))]
      have hq := hq.2
      intro g9 eg9
      rw [zset] at eg9
      subst eg9
      have hq := hq _ rfl
      generalize iset h9 21 (((12 : Int) * a1) + (h7 23 a1.toNat)).toNat a4 = h10 at hq ⊢
      try simp only [z_m1, z_0, z_1, z_2, z_3, z_4, z_5, z_6, z_8, z_9, z_10, z_12, z_16, z_30, z_31, z_99, z_300, z_500, z_600, z_20000, zadd, zsub, zmul, zneg, zap]
      refine ⟨zin hq.1.1 hq.1.2 (by decide), ?_⟩
      try simp only [zcl hq.1.1 (Int.lt_trans hq.1.2 (by decide))]
      have hq := hq.2
      intro g9 eg9
      rw [zset] at eg9
      subst eg9
      have hq := hq _ rfl
      generalize iset h10 22 (((12 : Int) * a1) + (h7 23 a1.toNat)).toNat a5 = h11 at hq ⊢
      try simp only [z_m1, z_0, z_1, z_2, z_3, z_4, z_5, z_6, z_8, z_9, z_10, z_12, z_16, z_30, z_31, z_99, z_300, z_500, z_600, z_20000, zadd, zsub, zmul, zneg, zap]
      refine ⟨zin hq.1.1 hq.1.2 (by decide), ?_⟩
      try simp only [zcl hq.1.1 (Int.lt_trans hq.1.2 (by decide))]
      have hq := hq.2
      try simp only [z_m1, z_0, z_1, z_2, z_3, z_4, z_5, z_6, z_8, z_9, z_10, z_12, z_16, z_30, z_31, z_99, z_300, z_500, z_600, z_20000, zadd, zsub, zmul, zneg, zap]
      refine ⟨zin hq.1.1 hq.1.2 (by decide), ?_⟩
      try simp only [zcl hq.1.1 (Int.lt_trans hq.1.2 (by decide))]
      have hq := hq.2
      intro g9 eg9
      rw [zset] at eg9
      subst eg9
      have hq := hq _ rfl
      generalize iset h11 23 a1.toNat ((h11 23 a1.toNat) + (1 : Int)) = h12 at hq ⊢
      try simp only [z_m1, z_0, z_1, z_2, z_3, z_4, z_5, z_6, z_8, z_9, z_10, z_12, z_16, z_30, z_31, z_99, z_300, z_500, z_600, z_20000, zadd, zsub, zmul, zneg, zap]
      refine ⟨zin hq.1.1 hq.1.2 (by decide), ?_⟩
      try simp only [zcl hq.1.1 (Int.lt_trans hq.1.2 (by decide))]
      have hq := hq.2
      try simp only [z_m1, z_0, z_1, z_2, z_3, z_4, z_5, z_6, z_8, z_9, z_10, z_12, z_16, z_30, z_31, z_99, z_300, z_500, z_600, z_20000, zadd, zsub, zmul, zneg, zap]
      exact ⟨congrArg zI hq.1, congrArg zS hq.2⟩
    · have hq := hq.2 ((z_eq rx ⟨by decide, by decide⟩).mp c)
      exact ⟨congrArg zI hq.1, congrArg zS hq.2⟩)
  try simp only [z_m1, z_0, z_1, z_2, z_3, z_4, z_5, z_6, z_8, z_9, z_10, z_12, z_16, z_30, z_31, z_99, z_300, z_500, z_600, z_20000, zadd, zsub, zmul, zneg, zap]
  obtain ⟨r1, hr1, hq⟩ := hq
  refine ⟨zI r1, t_X5_isTitle h a1 r1 hr1, ?_⟩
  try simp only [z_m1, z_0, z_1, z_2, z_3, z_4, z_5, z_6, z_8, z_9, z_10, z_12, z_16, z_30, z_31, z_99, z_300, z_500, z_600, z_20000, zadd, zsub, zmul, zneg, zap]
  have rx := hq.1
  have hq := hq.2
  refine ⟨fun c => ?_, fun c => ?_⟩
  · have hq := hq.1 ((z_eq rx ⟨by decide, by decide⟩).mp c)
    exact hq
  · have hq := hq.2 (fun h => c ((z_eq rx ⟨by decide, by decide⟩).mpr h))
    refine ⟨zin hq.1.1 hq.1.2 (by decide), ?_⟩
    try simp only [zcl hq.1.1 (Int.lt_trans hq.1.2 (by decide))]
    have hq := hq.2
    try simp only [z_m1, z_0, z_1, z_2, z_3, z_4, z_5, z_6, z_8, z_9, z_10, z_12, z_16, z_30, z_31, z_99, z_300, z_500, z_600, z_20000, zadd, zsub, zmul, zneg, zap]
    obtain ⟨r2, hr2, hq⟩ := hq
    refine ⟨zI r2, t_X5_isIn a2 (-1 : Int) ((h 23 a1.toNat) - (1 : Int)) r2 hr2, ?_⟩
    try simp only [z_m1, z_0, z_1, z_2, z_3, z_4, z_5, z_6, z_8, z_9, z_10, z_12, z_16, z_30, z_31, z_99, z_300, z_500, z_600, z_20000, zadd, zsub, zmul, zneg, zap]
    have rx := hq.1
    have hq := hq.2
    refine ⟨fun c => ?_, fun c => ?_⟩
    · have hq := hq.1 ((z_eq rx ⟨by decide, by decide⟩).mp c)
      exact hq
    · have hq := hq.2 (fun h => c ((z_eq rx ⟨by decide, by decide⟩).mpr h))
      exact hq
def Q_X5_finds (h : ISt) (a1 : Int) (r : Int) (h' : ISt) : Prop := ∀ V7 : ISt → Int → Prop, ∀ V20 : ISt → Int → Int → Int → Prop, ∀ V96 : ISt → Int → Int → Int → Int → Prop, ∀ V100 : ISt → Int → Int → Int → Int → Prop, ∀ V101 : ISt → Int → Int → Int → Int → Int → Prop, (∀ hv : ISt, ∀ x2 : Int, (inR x2 ∧ inR (hv 0 4) ∧ (((hv 0 4) ≤ x2 → (inR (hv 0 32) ∧ (((hv 0 32) = (-1 : Int) → (r = (0 : Int) ∧ h' = hv)) ∧ (¬ (hv 0 32) = (-1 : Int) → (r = (1 : Int) ∧ h' = hv))))) ∧ (¬ (hv 0 4) ≤ x2 → (V20 hv x2 (1 : Int) x2)))) → V7 hv x2) → (∀ hv : ISt, ∀ x2 x3 x4 : Int, (inR x4 ∧ inR (hv 0 4) ∧ (((hv 0 4) ≤ x4 → (V7 hv (x2 + (1 : Int)))) ∧ (¬ (hv 0 4) ≤ x4 → ((0 ≤ x4 ∧ x4 < 10) ∧ (inR (hv 2 x4.toNat) ∧ ((¬ (hv 2 x4.toNat) = (-1 : Int) → (V7 hv (x2 + (1 : Int)))) ∧ ((hv 2 x4.toNat) = (-1 : Int) → ((0 ≤ x4 ∧ x4 < 10) ∧ (inR (hv 0 32) ∧ (((hv 0 32) = (-1 : Int) → (V96 hv x2 (x3 + ((hv 1 x4.toNat) - (1 : Int))) x4 ((x3 + ((hv 1 x4.toNat) - (1 : Int))) - a1))) ∧ (¬ (hv 0 32) = (-1 : Int) → (inR ((x3 + ((hv 1 x4.toNat) - (1 : Int))) - a1) ∧ inR (hv 0 32) ∧ ((((x3 + ((hv 1 x4.toNat) - (1 : Int))) - a1) < (hv 0 32) → (V96 hv x2 (x3 + ((hv 1 x4.toNat) - (1 : Int))) x4 ((x3 + ((hv 1 x4.toNat) - (1 : Int))) - a1))) ∧ (¬ ((x3 + ((hv 1 x4.toNat) - (1 : Int))) - a1) < (hv 0 32) → (inR ((x3 + ((hv 1 x4.toNat) - (1 : Int))) - a1) ∧ inR (hv 0 32) ∧ ((¬ ((x3 + ((hv 1 x4.toNat) - (1 : Int))) - a1) = (hv 0 32) → (V100 hv x2 (x3 + ((hv 1 x4.toNat) - (1 : Int))) x4 ((x3 + ((hv 1 x4.toNat) - (1 : Int))) - a1))) ∧ (((x3 + ((hv 1 x4.toNat) - (1 : Int))) - a1) = (hv 0 32) → (inR ((x4 + (1 : Int)) - x2) ∧ inR (hv 0 31) ∧ (((hv 0 31) ≤ ((x4 + (1 : Int)) - x2) → (V100 hv x2 (x3 + ((hv 1 x4.toNat) - (1 : Int))) x4 ((x3 + ((hv 1 x4.toNat) - (1 : Int))) - a1))) ∧ (¬ (hv 0 31) ≤ ((x4 + (1 : Int)) - x2) → (V96 hv x2 (x3 + ((hv 1 x4.toNat) - (1 : Int))) x4 ((x3 + ((hv 1 x4.toNat) - (1 : Int))) - a1)))))))))))))))))))))) → V20 hv x2 x3 x4) → (∀ hv : ISt, ∀ x2 x3 x4 x5 : Int, (V101 hv x2 x3 x4 x5 (1 : Int)) → V96 hv x2 x3 x4 x5) → (∀ hv : ISt, ∀ x2 x3 x4 x5 : Int, (V101 hv x2 x3 x4 x5 (0 : Int)) → V100 hv x2 x3 x4 x5) → (∀ hv : ISt, ∀ x2 x3 x4 x5 t0 : Int, (inR x5 ∧ ((x5 < (0 : Int) → (V20 hv x2 x3 (x4 + (1 : Int)))) ∧ (¬ x5 < (0 : Int) → (inR t0 ∧ ((t0 = (0 : Int) → (V20 hv x2 x3 (x4 + (1 : Int)))) ∧ (¬ t0 = (0 : Int) → (∀ h2 : ISt, h2 = iset hv 0 32 x5 → (∀ h3 : ISt, h3 = iset h2 0 30 x2 → (∀ h4 : ISt, h4 = iset h3 0 31 ((x4 + (1 : Int)) - x2) → (V20 h4 x2 x3 (x4 + (1 : Int)))))))))))) → V101 hv x2 x3 x4 x5 t0) → (∀ h1 : ISt, h1 = iset h 0 32 (-1 : Int) → (V7 h1 (0 : Int)))
set_option maxRecDepth 100000 in
set_option maxHeartbeats 4000000 in
theorem t_X5_finds (h : ISt) (a1 : Int) (r : Int) (h' : ISt) (hq : Q_X5_finds h a1 r h') : P_X5_finds (zS h) (zI a1) (zI r) (zS h') := by
  intro V7 V20 V96 V100 V101 k7 k20 k96 k100 k101
  have hq := hq (fun hv x2 => V7 (zS hv) (zI x2)) (fun hv x2 x3 x4 => V20 (zS hv) (zI x2) (zI x3) (zI x4)) (fun hv x2 x3 x4 x5 => V96 (zS hv) (zI x2) (zI x3) (zI x4) (zI x5)) (fun hv x2 x3 x4 x5 => V100 (zS hv) (zI x2) (zI x3) (zI x4) (zI x5)) (fun hv x2 x3 x4 x5 t0 => V101 (zS hv) (zI x2) (zI x3) (zI x4) (zI x5) (zI t0))
  have hq := hq (by
    intro hv x2 hq
    refine k7 (zS hv) (zI x2) ?_
    try simp only [z_m1, z_0, z_1, z_2, z_3, z_4, z_5, z_6, z_8, z_9, z_10, z_12, z_16, z_30, z_31, z_99, z_300, z_500, z_600, z_20000, zadd, zsub, zmul, zneg, zap]
    have rx := hq.1
    have hq := hq.2
    have ry := hq.1
    have hq := hq.2
    refine ⟨fun c => ?_, fun c => ?_⟩
    · have hq := hq.1 ((z_le ry rx).mp c)
      have rx := hq.1
      have hq := hq.2
      refine ⟨fun c => ?_, fun c => ?_⟩
      · have hq := hq.1 ((z_eq rx ⟨by decide, by decide⟩).mp c)
        exact ⟨congrArg zI hq.1, congrArg zS hq.2⟩
      · have hq := hq.2 (fun h => c ((z_eq rx ⟨by decide, by decide⟩).mpr h))
        exact ⟨congrArg zI hq.1, congrArg zS hq.2⟩
    · have hq := hq.2 (fun h => c ((z_le ry rx).mpr h))
      exact hq)
  have hq := hq (by
    intro hv x2 x3 x4 hq
    refine k20 (zS hv) (zI x2) (zI x3) (zI x4) ?_
    try simp only [z_m1, z_0, z_1, z_2, z_3, z_4, z_5, z_6, z_8, z_9, z_10, z_12, z_16, z_30, z_31, z_99, z_300, z_500, z_600, z_20000, zadd, zsub, zmul, zneg, zap]
    have rx := hq.1
    have hq := hq.2
    have ry := hq.1
    have hq := hq.2
    refine ⟨fun c => ?_, fun c => ?_⟩
    · have hq := hq.1 ((z_le ry rx).mp c)
      exact hq
    · have hq := hq.2 (fun h => c ((z_le ry rx).mpr h))
      refine ⟨zin hq.1.1 hq.1.2 (by decide), ?_⟩
      try simp only [zcl hq.1.1 (Int.lt_trans hq.1.2 (by decide))]
      have hq := hq.2
      try simp only [z_m1, z_0, z_1, z_2, z_3, z_4, z_5, z_6, z_8, z_9, z_10, z_12, z_16, z_30, z_31, z_99, z_300, z_500, z_600, z_20000, zadd, zsub, zmul, zneg, zap]
      have rx := hq.1
      have hq := hq.2
      refine ⟨fun c => ?_, fun c => ?_⟩
      · have hq := hq.1 (fun h => c ((z_eq rx ⟨by decide, by decide⟩).mpr h))
        exact hq
      · have hq := hq.2 ((z_eq rx ⟨by decide, by decide⟩).mp c)
        refine ⟨zin hq.1.1 hq.1.2 (by decide), ?_⟩
        try simp only [zcl hq.1.1 (Int.lt_trans hq.1.2 (by decide))]
        have hq := hq.2
        try simp only [z_m1, z_0, z_1, z_2, z_3, z_4, z_5, z_6, z_8, z_9, z_10, z_12, z_16, z_30, z_31, z_99, z_300, z_500, z_600, z_20000, zadd, zsub, zmul, zneg, zap]
        have rx := hq.1
        have hq := hq.2
        refine ⟨fun c => ?_, fun c => ?_⟩
        · have hq := hq.1 ((z_eq rx ⟨by decide, by decide⟩).mp c)
          exact hq
        · have hq := hq.2 (fun h => c ((z_eq rx ⟨by decide, by decide⟩).mpr h))
          have rx := hq.1
          have hq := hq.2
          have ry := hq.1
          have hq := hq.2
          refine ⟨fun c => ?_, fun c => ?_⟩
          · have hq := hq.1 ((z_lt rx ry).mp c)
            exact hq
          · have hq := hq.2 (fun h => c ((z_lt rx ry).mpr h))
            have rx := hq.1
            have hq := hq.2
            have ry := hq.1
            have hq := hq.2
            refine ⟨fun c => ?_, fun c => ?_⟩
            · have hq := hq.1 (fun h => c ((z_eq rx ry).mpr h))
              exact hq
            · have hq := hq.2 ((z_eq rx ry).mp c)
              have rx := hq.1
              have hq := hq.2
              have ry := hq.1
              have hq := hq.2
              refine ⟨fun c => ?_, fun c => ?_⟩
              · have hq := hq.1 ((z_le ry rx).mp c)
                exact hq
              · have hq := hq.2 (fun h => c ((z_le ry rx).mpr h))
                exact hq)
  have hq := hq (by
    intro hv x2 x3 x4 x5 hq
    refine k96 (zS hv) (zI x2) (zI x3) (zI x4) (zI x5) ?_
    try simp only [z_m1, z_0, z_1, z_2, z_3, z_4, z_5, z_6, z_8, z_9, z_10, z_12, z_16, z_30, z_31, z_99, z_300, z_500, z_600, z_20000, zadd, zsub, zmul, zneg, zap]
    exact hq)
  have hq := hq (by
    intro hv x2 x3 x4 x5 hq
    refine k100 (zS hv) (zI x2) (zI x3) (zI x4) (zI x5) ?_
    try simp only [z_m1, z_0, z_1, z_2, z_3, z_4, z_5, z_6, z_8, z_9, z_10, z_12, z_16, z_30, z_31, z_99, z_300, z_500, z_600, z_20000, zadd, zsub, zmul, zneg, zap]
    exact hq)
  have hq := hq (by
    intro hv x2 x3 x4 x5 t0 hq
    refine k101 (zS hv) (zI x2) (zI x3) (zI x4) (zI x5) (zI t0) ?_
    try simp only [z_m1, z_0, z_1, z_2, z_3, z_4, z_5, z_6, z_8, z_9, z_10, z_12, z_16, z_30, z_31, z_99, z_300, z_500, z_600, z_20000, zadd, zsub, zmul, zneg, zap]
    have rx := hq.1
    have hq := hq.2
    refine ⟨fun c => ?_, fun c => ?_⟩
    · have hq := hq.1 ((z_lt rx ⟨by decide, by decide⟩).mp c)
      exact hq
    · have hq := hq.2 (fun h => c ((z_lt rx ⟨by decide, by decide⟩).mpr h))
      have rx := hq.1
      have hq := hq.2
      refine ⟨fun c => ?_, fun c => ?_⟩
      · have hq := hq.1 ((z_eq rx ⟨by decide, by decide⟩).mp c)
        exact hq
      · have hq := hq.2 (fun h => c ((z_eq rx ⟨by decide, by decide⟩).mpr h))
        intro g9 eg9
        rw [zset] at eg9
        subst eg9
        have hq := hq _ rfl
        generalize iset hv 0 32 x5 = h2 at hq ⊢
        try simp only [z_m1, z_0, z_1, z_2, z_3, z_4, z_5, z_6, z_8, z_9, z_10, z_12, z_16, z_30, z_31, z_99, z_300, z_500, z_600, z_20000, zadd, zsub, zmul, zneg, zap]
        intro g9 eg9
        rw [zset] at eg9
        subst eg9
        have hq := hq _ rfl
        generalize iset h2 0 30 x2 = h3 at hq ⊢
        try simp only [z_m1, z_0, z_1, z_2, z_3, z_4, z_5, z_6, z_8, z_9, z_10, z_12, z_16, z_30, z_31, z_99, z_300, z_500, z_600, z_20000, zadd, zsub, zmul, zneg, zap]
        intro g9 eg9
        rw [zset] at eg9
        subst eg9
        have hq := hq _ rfl
        generalize iset h3 0 31 ((x4 + (1 : Int)) - x2) = h4 at hq ⊢
        try simp only [z_m1, z_0, z_1, z_2, z_3, z_4, z_5, z_6, z_8, z_9, z_10, z_12, z_16, z_30, z_31, z_99, z_300, z_500, z_600, z_20000, zadd, zsub, zmul, zneg, zap]
        exact hq)
  try simp only [z_m1, z_0, z_1, z_2, z_3, z_4, z_5, z_6, z_8, z_9, z_10, z_12, z_16, z_30, z_31, z_99, z_300, z_500, z_600, z_20000, zadd, zsub, zmul, zneg, zap]
  intro g9 eg9
  rw [zset] at eg9
  subst eg9
  have hq := hq _ rfl
  generalize iset h 0 32 (-1 : Int) = h1 at hq ⊢
  try simp only [z_m1, z_0, z_1, z_2, z_3, z_4, z_5, z_6, z_8, z_9, z_10, z_12, z_16, z_30, z_31, z_99, z_300, z_500, z_600, z_20000, zadd, zsub, zmul, zneg, zap]
  exact hq
def Q_X5_sits (h : ISt) (a1 : Int) (r : Int) (h' : ISt) : Prop := ∀ V20 : ISt → Int → Prop, (∀ hv : ISt, ∀ x2 : Int, (inR x2 ∧ inR ((hv 0 30) + (hv 0 31)) ∧ ((((hv 0 30) + (hv 0 31)) ≤ x2 → ((0 ≤ a1 ∧ a1 < 30) ∧ (∀ h3 : ISt, h3 = iset hv 5 a1.toNat (1 : Int) → ((0 ≤ a1 ∧ a1 < 30) ∧ (∀ h4 : ISt, h4 = iset h3 6 a1.toNat (h3 0 1) → (r = (1 : Int) ∧ h' = h4)))))) ∧ (¬ ((hv 0 30) + (hv 0 31)) ≤ x2 → ((0 ≤ x2 ∧ x2 < 10) ∧ (∀ h5 : ISt, h5 = iset hv 2 x2.toNat a1 → (V20 h5 (x2 + (1 : Int)))))))) → V20 hv x2) → ((0 ≤ a1 ∧ a1 < 30) ∧ (∃ (r1 : Int) (h2 : ISt), Q_X5_finds h (h 3 a1.toNat) r1 h2 ∧ (inR r1 ∧ ((¬ r1 = (0 : Int) → (V20 h2 (h2 0 30))) ∧ (r1 = (0 : Int) → (r = (0 : Int) ∧ h' = h2))))))
set_option maxRecDepth 100000 in
set_option maxHeartbeats 4000000 in
theorem t_X5_sits (h : ISt) (a1 : Int) (r : Int) (h' : ISt) (hq : Q_X5_sits h a1 r h') : P_X5_sits (zS h) (zI a1) (zI r) (zS h') := by
  intro V20 k20
  have hq := hq (fun hv x2 => V20 (zS hv) (zI x2))
  have hq := hq (by
    intro hv x2 hq
    refine k20 (zS hv) (zI x2) ?_
    try simp only [z_m1, z_0, z_1, z_2, z_3, z_4, z_5, z_6, z_8, z_9, z_10, z_12, z_16, z_30, z_31, z_99, z_300, z_500, z_600, z_20000, zadd, zsub, zmul, zneg, zap]
    have rx := hq.1
    have hq := hq.2
    have ry := hq.1
    have hq := hq.2
    refine ⟨fun c => ?_, fun c => ?_⟩
    · have hq := hq.1 ((z_le ry rx).mp c)
      refine ⟨zin hq.1.1 hq.1.2 (by decide), ?_⟩
      try simp only [zcl hq.1.1 (Int.lt_trans hq.1.2 (by decide))]
      have hq := hq.2
      intro g9 eg9
      rw [zset] at eg9
      subst eg9
      have hq := hq _ rfl
      generalize iset hv 5 a1.toNat (1 : Int) = h3 at hq ⊢
      try simp only [z_m1, z_0, z_1, z_2, z_3, z_4, z_5, z_6, z_8, z_9, z_10, z_12, z_16, z_30, z_31, z_99, z_300, z_500, z_600, z_20000, zadd, zsub, zmul, zneg, zap]
      refine ⟨zin hq.1.1 hq.1.2 (by decide), ?_⟩
      try simp only [zcl hq.1.1 (Int.lt_trans hq.1.2 (by decide))]
      have hq := hq.2
      intro g9 eg9
      rw [zset] at eg9
      subst eg9
      have hq := hq _ rfl
      generalize iset h3 6 a1.toNat (h3 0 1) = h4 at hq ⊢
      try simp only [z_m1, z_0, z_1, z_2, z_3, z_4, z_5, z_6, z_8, z_9, z_10, z_12, z_16, z_30, z_31, z_99, z_300, z_500, z_600, z_20000, zadd, zsub, zmul, zneg, zap]
      exact ⟨congrArg zI hq.1, congrArg zS hq.2⟩
    · have hq := hq.2 (fun h => c ((z_le ry rx).mpr h))
      refine ⟨zin hq.1.1 hq.1.2 (by decide), ?_⟩
      try simp only [zcl hq.1.1 (Int.lt_trans hq.1.2 (by decide))]
      have hq := hq.2
      intro g9 eg9
      rw [zset] at eg9
      subst eg9
      have hq := hq _ rfl
      generalize iset hv 2 x2.toNat a1 = h5 at hq ⊢
      try simp only [z_m1, z_0, z_1, z_2, z_3, z_4, z_5, z_6, z_8, z_9, z_10, z_12, z_16, z_30, z_31, z_99, z_300, z_500, z_600, z_20000, zadd, zsub, zmul, zneg, zap]
      exact hq)
  try simp only [z_m1, z_0, z_1, z_2, z_3, z_4, z_5, z_6, z_8, z_9, z_10, z_12, z_16, z_30, z_31, z_99, z_300, z_500, z_600, z_20000, zadd, zsub, zmul, zneg, zap]
  refine ⟨zin hq.1.1 hq.1.2 (by decide), ?_⟩
  try simp only [zcl hq.1.1 (Int.lt_trans hq.1.2 (by decide))]
  have hq := hq.2
  try simp only [z_m1, z_0, z_1, z_2, z_3, z_4, z_5, z_6, z_8, z_9, z_10, z_12, z_16, z_30, z_31, z_99, z_300, z_500, z_600, z_20000, zadd, zsub, zmul, zneg, zap]
  obtain ⟨r1, h2, hh2, hq⟩ := hq
  refine ⟨zI r1, zS h2, t_X5_finds h (h 3 a1.toNat) r1 h2 hh2, ?_⟩
  try simp only [z_m1, z_0, z_1, z_2, z_3, z_4, z_5, z_6, z_8, z_9, z_10, z_12, z_16, z_30, z_31, z_99, z_300, z_500, z_600, z_20000, zadd, zsub, zmul, zneg, zap]
  have rx := hq.1
  have hq := hq.2
  refine ⟨fun c => ?_, fun c => ?_⟩
  · have hq := hq.1 (fun h => c ((z_eq rx ⟨by decide, by decide⟩).mpr h))
    exact hq
  · have hq := hq.2 ((z_eq rx ⟨by decide, by decide⟩).mp c)
    exact ⟨congrArg zI hq.1, congrArg zS hq.2⟩
def Q_X5_arrive (h : ISt) (a1 : Int) (a2 : Int) (r : Int) (h' : ISt) : Prop := ∀ V23 : ISt → Prop, ∀ V41 : ISt → Int → Prop, (∀ hv : ISt, (V41 hv (1 : Int)) → V23 hv) → (∀ hv : ISt, ∀ t0 : Int, (∃ (r3 : Int) (h4 : ISt), Q_X5_isFine hv t0 r3 h4 ∧ (inR r3 ∧ ((¬ r3 = (0 : Int) → ((0 ≤ (h4 0 10) ∧ (h4 0 10) < 30) ∧ (∀ h5 : ISt, h5 = iset h4 3 (h4 0 10).toNat a1 → ((0 ≤ (h4 0 10) ∧ (h4 0 10) < 30) ∧ (∀ h6 : ISt, h6 = iset h5 4 (h4 0 10).toNat a2 → ((0 ≤ (h4 0 10) ∧ (h4 0 10) < 30) ∧ (∀ h7 : ISt, h7 = iset h6 7 (h4 0 10).toNat (-1 : Int) → (∀ h8 : ISt, h8 = iset h7 0 10 ((h7 0 10) + (1 : Int)) → (∃ (r9 : Int) (h10 : ISt), Q_X5_sits h8 (h4 0 10) r9 h10 ∧ (inR r9 ∧ ((r9 = (0 : Int) → ((0 ≤ (h4 0 10) ∧ (h4 0 10) < 30) ∧ (∀ h11 : ISt, h11 = iset h10 5 (h4 0 10).toNat (0 : Int) → (r = (h4 0 10) ∧ h' = h11)))) ∧ (¬ r9 = (0 : Int) → ((0 ≤ (h4 0 10) ∧ (h4 0 10) < 30) ∧ (∀ h12 : ISt, h12 = iset h10 5 (h4 0 10).toNat (1 : Int) → (r = (h4 0 10) ∧ h' = h12))))))))))))))) ∧ (r3 = (0 : Int) → (r = (0 : Int) ∧ h' = h4))))) → V41 hv t0) → (∃ r1 : Int, Q_X5_isIn a1 (1 : Int) (12 : Int) r1 ∧ (inR r1 ∧ ((r1 = (0 : Int) → (V23 h)) ∧ (¬ r1 = (0 : Int) → (∃ r2 : Int, Q_X5_isIn a2 (10 : Int) (600 : Int) r2 ∧ (inR r2 ∧ ((¬ r2 = (0 : Int) → (inR (h 0 10) ∧ ((¬ (h 0 10) = (30 : Int) → (V41 h (0 : Int))) ∧ ((h 0 10) = (30 : Int) → (V41 h (2 : Int)))))) ∧ (r2 = (0 : Int) → (V23 h)))))))))
set_option maxRecDepth 100000 in
set_option maxHeartbeats 4000000 in
theorem t_X5_arrive (h : ISt) (a1 : Int) (a2 : Int) (r : Int) (h' : ISt) (hq : Q_X5_arrive h a1 a2 r h') : P_X5_arrive (zS h) (zI a1) (zI a2) (zI r) (zS h') := by
  intro V23 V41 k23 k41
  have hq := hq (fun hv => V23 (zS hv)) (fun hv t0 => V41 (zS hv) (zI t0))
  have hq := hq (by
    intro hv hq
    refine k23 (zS hv) ?_
    try simp only [z_m1, z_0, z_1, z_2, z_3, z_4, z_5, z_6, z_8, z_9, z_10, z_12, z_16, z_30, z_31, z_99, z_300, z_500, z_600, z_20000, zadd, zsub, zmul, zneg, zap]
    exact hq)
  have hq := hq (by
    intro hv t0 hq
    refine k41 (zS hv) (zI t0) ?_
    try simp only [z_m1, z_0, z_1, z_2, z_3, z_4, z_5, z_6, z_8, z_9, z_10, z_12, z_16, z_30, z_31, z_99, z_300, z_500, z_600, z_20000, zadd, zsub, zmul, zneg, zap]
    obtain ⟨r3, h4, hh4, hq⟩ := hq
    refine ⟨zI r3, zS h4, t_X5_isFine hv t0 r3 h4 hh4, ?_⟩
    try simp only [z_m1, z_0, z_1, z_2, z_3, z_4, z_5, z_6, z_8, z_9, z_10, z_12, z_16, z_30, z_31, z_99, z_300, z_500, z_600, z_20000, zadd, zsub, zmul, zneg, zap]
    have rx := hq.1
    have hq := hq.2
    refine ⟨fun c => ?_, fun c => ?_⟩
    · have hq := hq.1 (fun h => c ((z_eq rx ⟨by decide, by decide⟩).mpr h))
      refine ⟨zin hq.1.1 hq.1.2 (by decide), ?_⟩
      try simp only [zcl hq.1.1 (Int.lt_trans hq.1.2 (by decide))]
      have hq := hq.2
      intro g9 eg9
      rw [zset] at eg9
      subst eg9
      have hq := hq _ rfl
      generalize iset h4 3 (h4 0 10).toNat a1 = h5 at hq ⊢
      try simp only [z_m1, z_0, z_1, z_2, z_3, z_4, z_5, z_6, z_8, z_9, z_10, z_12, z_16, z_30, z_31, z_99, z_300, z_500, z_600, z_20000, zadd, zsub, zmul, zneg, zap]
      refine ⟨zin hq.1.1 hq.1.2 (by decide), ?_⟩
      try simp only [zcl hq.1.1 (Int.lt_trans hq.1.2 (by decide))]
      have hq := hq.2
      intro g9 eg9
      rw [zset] at eg9
      subst eg9
      have hq := hq _ rfl
      generalize iset h5 4 (h4 0 10).toNat a2 = h6 at hq ⊢
      try simp only [z_m1, z_0, z_1, z_2, z_3, z_4, z_5, z_6, z_8, z_9, z_10, z_12, z_16, z_30, z_31, z_99, z_300, z_500, z_600, z_20000, zadd, zsub, zmul, zneg, zap]
      refine ⟨zin hq.1.1 hq.1.2 (by decide), ?_⟩
      try simp only [zcl hq.1.1 (Int.lt_trans hq.1.2 (by decide))]
      have hq := hq.2
      intro g9 eg9
      rw [zset] at eg9
      subst eg9
      have hq := hq _ rfl
      generalize iset h6 7 (h4 0 10).toNat (-1 : Int) = h7 at hq ⊢
      try simp only [z_m1, z_0, z_1, z_2, z_3, z_4, z_5, z_6, z_8, z_9, z_10, z_12, z_16, z_30, z_31, z_99, z_300, z_500, z_600, z_20000, zadd, zsub, zmul, zneg, zap]
      intro g9 eg9
      rw [zset] at eg9
      subst eg9
      have hq := hq _ rfl
      generalize iset h7 0 10 ((h7 0 10) + (1 : Int)) = h8 at hq ⊢
      try simp only [z_m1, z_0, z_1, z_2, z_3, z_4, z_5, z_6, z_8, z_9, z_10, z_12, z_16, z_30, z_31, z_99, z_300, z_500, z_600, z_20000, zadd, zsub, zmul, zneg, zap]
      obtain ⟨r9, h10, hh10, hq⟩ := hq
      refine ⟨zI r9, zS h10, t_X5_sits h8 (h4 0 10) r9 h10 hh10, ?_⟩
      try simp only [z_m1, z_0, z_1, z_2, z_3, z_4, z_5, z_6, z_8, z_9, z_10, z_12, z_16, z_30, z_31, z_99, z_300, z_500, z_600, z_20000, zadd, zsub, zmul, zneg, zap]
      have rx := hq.1
      have hq := hq.2
      refine ⟨fun c => ?_, fun c => ?_⟩
      · have hq := hq.1 ((z_eq rx ⟨by decide, by decide⟩).mp c)
        refine ⟨zin hq.1.1 hq.1.2 (by decide), ?_⟩
        try simp only [zcl hq.1.1 (Int.lt_trans hq.1.2 (by decide))]
        have hq := hq.2
        intro g9 eg9
        rw [zset] at eg9
        subst eg9
        have hq := hq _ rfl
        generalize iset h10 5 (h4 0 10).toNat (0 : Int) = h11 at hq ⊢
        try simp only [z_m1, z_0, z_1, z_2, z_3, z_4, z_5, z_6, z_8, z_9, z_10, z_12, z_16, z_30, z_31, z_99, z_300, z_500, z_600, z_20000, zadd, zsub, zmul, zneg, zap]
        exact ⟨congrArg zI hq.1, congrArg zS hq.2⟩
      · have hq := hq.2 (fun h => c ((z_eq rx ⟨by decide, by decide⟩).mpr h))
        refine ⟨zin hq.1.1 hq.1.2 (by decide), ?_⟩
        try simp only [zcl hq.1.1 (Int.lt_trans hq.1.2 (by decide))]
        have hq := hq.2
        intro g9 eg9
        rw [zset] at eg9
        subst eg9
        have hq := hq _ rfl
        generalize iset h10 5 (h4 0 10).toNat (1 : Int) = h12 at hq ⊢
        try simp only [z_m1, z_0, z_1, z_2, z_3, z_4, z_5, z_6, z_8, z_9, z_10, z_12, z_16, z_30, z_31, z_99, z_300, z_500, z_600, z_20000, zadd, zsub, zmul, zneg, zap]
        exact ⟨congrArg zI hq.1, congrArg zS hq.2⟩
    · have hq := hq.2 ((z_eq rx ⟨by decide, by decide⟩).mp c)
      exact ⟨congrArg zI hq.1, congrArg zS hq.2⟩)
  try simp only [z_m1, z_0, z_1, z_2, z_3, z_4, z_5, z_6, z_8, z_9, z_10, z_12, z_16, z_30, z_31, z_99, z_300, z_500, z_600, z_20000, zadd, zsub, zmul, zneg, zap]
  obtain ⟨r1, hr1, hq⟩ := hq
  refine ⟨zI r1, t_X5_isIn a1 (1 : Int) (12 : Int) r1 hr1, ?_⟩
  try simp only [z_m1, z_0, z_1, z_2, z_3, z_4, z_5, z_6, z_8, z_9, z_10, z_12, z_16, z_30, z_31, z_99, z_300, z_500, z_600, z_20000, zadd, zsub, zmul, zneg, zap]
  have rx := hq.1
  have hq := hq.2
  refine ⟨fun c => ?_, fun c => ?_⟩
  · have hq := hq.1 ((z_eq rx ⟨by decide, by decide⟩).mp c)
    exact hq
  · have hq := hq.2 (fun h => c ((z_eq rx ⟨by decide, by decide⟩).mpr h))
    obtain ⟨r2, hr2, hq⟩ := hq
    refine ⟨zI r2, t_X5_isIn a2 (10 : Int) (600 : Int) r2 hr2, ?_⟩
    try simp only [z_m1, z_0, z_1, z_2, z_3, z_4, z_5, z_6, z_8, z_9, z_10, z_12, z_16, z_30, z_31, z_99, z_300, z_500, z_600, z_20000, zadd, zsub, zmul, zneg, zap]
    have rx := hq.1
    have hq := hq.2
    refine ⟨fun c => ?_, fun c => ?_⟩
    · have hq := hq.1 (fun h => c ((z_eq rx ⟨by decide, by decide⟩).mpr h))
      have rx := hq.1
      have hq := hq.2
      refine ⟨fun c => ?_, fun c => ?_⟩
      · have hq := hq.1 (fun h => c ((z_eq rx ⟨by decide, by decide⟩).mpr h))
        exact hq
      · have hq := hq.2 ((z_eq rx ⟨by decide, by decide⟩).mp c)
        exact hq
    · have hq := hq.2 ((z_eq rx ⟨by decide, by decide⟩).mp c)
      exact hq
def Q_X5_leave (h : ISt) (a1 : Int) (r : Int) (h' : ISt) : Prop := ∀ V40 : ISt → Int → Prop, ∀ V57 : ISt → Int → Prop, ∀ V102 : ISt → Int → Int → Prop, (∀ hv : ISt, ∀ t0 : Int, (∃ (r2 : Int) (h3 : ISt), Q_X5_isFine hv t0 r2 h3 ∧ (inR r2 ∧ ((¬ r2 = (0 : Int) → ((0 ≤ a1 ∧ a1 < 30) ∧ (∀ h4 : ISt, h4 = iset h3 5 a1.toNat (2 : Int) → (V57 h4 (0 : Int))))) ∧ (r2 = (0 : Int) → (r = (0 : Int) ∧ h' = h3))))) → V40 hv t0) → (∀ hv : ISt, ∀ x3 : Int, (inR x3 ∧ inR (hv 0 4) ∧ (((hv 0 4) ≤ x3 → (V102 hv (0 : Int) (0 : Int))) ∧ (¬ (hv 0 4) ≤ x3 → ((0 ≤ x3 ∧ x3 < 10) ∧ (inR (hv 2 x3.toNat) ∧ inR a1 ∧ ((¬ (hv 2 x3.toNat) = a1 → ((0 ≤ x3 ∧ x3 < 10) ∧ ((0 ≤ x3 ∧ x3 < 10) ∧ (∀ h5 : ISt, h5 = iset hv 2 x3.toNat (hv 2 x3.toNat) → (V57 h5 (x3 + (1 : Int))))))) ∧ ((hv 2 x3.toNat) = a1 → ((0 ≤ x3 ∧ x3 < 10) ∧ (∀ h6 : ISt, h6 = iset hv 2 x3.toNat (-1 : Int) → (V57 h6 (x3 + (1 : Int)))))))))))) → V57 hv x3) → (∀ hv : ISt, ∀ x3 x4 : Int, (inR x4 ∧ inR (hv 0 10) ∧ (((hv 0 10) ≤ x4 → (r = x3 ∧ h' = hv)) ∧ (¬ (hv 0 10) ≤ x4 → ((0 ≤ x4 ∧ x4 < 30) ∧ (inR (hv 5 x4.toNat) ∧ ((¬ (hv 5 x4.toNat) = (0 : Int) → (V102 hv (x3 + (0 : Int)) (x4 + (1 : Int)))) ∧ ((hv 5 x4.toNat) = (0 : Int) → (∃ (r7 : Int) (h8 : ISt), Q_X5_sits hv x4 r7 h8 ∧ (inR r7 ∧ ((r7 = (0 : Int) → (V102 h8 (x3 + (0 : Int)) (x4 + (1 : Int)))) ∧ (¬ r7 = (0 : Int) → (V102 h8 (x3 + (1 : Int)) (x4 + (1 : Int)))))))))))))) → V102 hv x3 x4) → (∃ r1 : Int, Q_X5_isGroup h a1 r1 ∧ (inR r1 ∧ ((¬ r1 = (0 : Int) → ((0 ≤ a1 ∧ a1 < 30) ∧ (inR (h 7 a1.toNat) ∧ ((¬ (h 7 a1.toNat) = (-1 : Int) → (V40 h (2 : Int))) ∧ ((h 7 a1.toNat) = (-1 : Int) → ((0 ≤ a1 ∧ a1 < 30) ∧ (inR (h 5 a1.toNat) ∧ ((¬ (h 5 a1.toNat) = (2 : Int) → (V40 h (0 : Int))) ∧ ((h 5 a1.toNat) = (2 : Int) → (V40 h (2 : Int))))))))))) ∧ (r1 = (0 : Int) → (V40 h (1 : Int))))))
set_option maxRecDepth 100000 in
set_option maxHeartbeats 4000000 in
theorem t_X5_leave (h : ISt) (a1 : Int) (r : Int) (h' : ISt) (hq : Q_X5_leave h a1 r h') : P_X5_leave (zS h) (zI a1) (zI r) (zS h') := by
  intro V40 V57 V102 k40 k57 k102
  have hq := hq (fun hv t0 => V40 (zS hv) (zI t0)) (fun hv x3 => V57 (zS hv) (zI x3)) (fun hv x3 x4 => V102 (zS hv) (zI x3) (zI x4))
  have hq := hq (by
    intro hv t0 hq
    refine k40 (zS hv) (zI t0) ?_
    try simp only [z_m1, z_0, z_1, z_2, z_3, z_4, z_5, z_6, z_8, z_9, z_10, z_12, z_16, z_30, z_31, z_99, z_300, z_500, z_600, z_20000, zadd, zsub, zmul, zneg, zap]
    obtain ⟨r2, h3, hh3, hq⟩ := hq
    refine ⟨zI r2, zS h3, t_X5_isFine hv t0 r2 h3 hh3, ?_⟩
    try simp only [z_m1, z_0, z_1, z_2, z_3, z_4, z_5, z_6, z_8, z_9, z_10, z_12, z_16, z_30, z_31, z_99, z_300, z_500, z_600, z_20000, zadd, zsub, zmul, zneg, zap]
    have rx := hq.1
    have hq := hq.2
    refine ⟨fun c => ?_, fun c => ?_⟩
    · have hq := hq.1 (fun h => c ((z_eq rx ⟨by decide, by decide⟩).mpr h))
      refine ⟨zin hq.1.1 hq.1.2 (by decide), ?_⟩
      try simp only [zcl hq.1.1 (Int.lt_trans hq.1.2 (by decide))]
      have hq := hq.2
      intro g9 eg9
      rw [zset] at eg9
      subst eg9
      have hq := hq _ rfl
      generalize iset h3 5 a1.toNat (2 : Int) = h4 at hq ⊢
      try simp only [z_m1, z_0, z_1, z_2, z_3, z_4, z_5, z_6, z_8, z_9, z_10, z_12, z_16, z_30, z_31, z_99, z_300, z_500, z_600, z_20000, zadd, zsub, zmul, zneg, zap]
      exact hq
    · have hq := hq.2 ((z_eq rx ⟨by decide, by decide⟩).mp c)
      exact ⟨congrArg zI hq.1, congrArg zS hq.2⟩)
  have hq := hq (by
    intro hv x3 hq
    refine k57 (zS hv) (zI x3) ?_
    try simp only [z_m1, z_0, z_1, z_2, z_3, z_4, z_5, z_6, z_8, z_9, z_10, z_12, z_16, z_30, z_31, z_99, z_300, z_500, z_600, z_20000, zadd, zsub, zmul, zneg, zap]
    have rx := hq.1
    have hq := hq.2
    have ry := hq.1
    have hq := hq.2
    refine ⟨fun c => ?_, fun c => ?_⟩
    · have hq := hq.1 ((z_le ry rx).mp c)
      exact hq
    · have hq := hq.2 (fun h => c ((z_le ry rx).mpr h))
      refine ⟨zin hq.1.1 hq.1.2 (by decide), ?_⟩
      try simp only [zcl hq.1.1 (Int.lt_trans hq.1.2 (by decide))]
      have hq := hq.2
      try simp only [z_m1, z_0, z_1, z_2, z_3, z_4, z_5, z_6, z_8, z_9, z_10, z_12, z_16, z_30, z_31, z_99, z_300, z_500, z_600, z_20000, zadd, zsub, zmul, zneg, zap]
      have rx := hq.1
      have hq := hq.2
      have ry := hq.1
      have hq := hq.2
      refine ⟨fun c => ?_, fun c => ?_⟩
      · have hq := hq.1 (fun h => c ((z_eq rx ry).mpr h))
        refine ⟨zin hq.1.1 hq.1.2 (by decide), ?_⟩
        try simp only [zcl hq.1.1 (Int.lt_trans hq.1.2 (by decide))]
        have hq := hq.2
        try simp only [z_m1, z_0, z_1, z_2, z_3, z_4, z_5, z_6, z_8, z_9, z_10, z_12, z_16, z_30, z_31, z_99, z_300, z_500, z_600, z_20000, zadd, zsub, zmul, zneg, zap]
        refine ⟨zin hq.1.1 hq.1.2 (by decide), ?_⟩
        try simp only [zcl hq.1.1 (Int.lt_trans hq.1.2 (by decide))]
        have hq := hq.2
        intro g9 eg9
        rw [zset] at eg9
        subst eg9
        have hq := hq _ rfl
        generalize iset hv 2 x3.toNat (hv 2 x3.toNat) = h5 at hq ⊢
        try simp only [z_m1, z_0, z_1, z_2, z_3, z_4, z_5, z_6, z_8, z_9, z_10, z_12, z_16, z_30, z_31, z_99, z_300, z_500, z_600, z_20000, zadd, zsub, zmul, zneg, zap]
        exact hq
      · have hq := hq.2 ((z_eq rx ry).mp c)
        refine ⟨zin hq.1.1 hq.1.2 (by decide), ?_⟩
        try simp only [zcl hq.1.1 (Int.lt_trans hq.1.2 (by decide))]
        have hq := hq.2
        intro g9 eg9
        rw [zset] at eg9
        subst eg9
        have hq := hq _ rfl
        generalize iset hv 2 x3.toNat (-1 : Int) = h6 at hq ⊢
        try simp only [z_m1, z_0, z_1, z_2, z_3, z_4, z_5, z_6, z_8, z_9, z_10, z_12, z_16, z_30, z_31, z_99, z_300, z_500, z_600, z_20000, zadd, zsub, zmul, zneg, zap]
        exact hq)
  have hq := hq (by
    intro hv x3 x4 hq
    refine k102 (zS hv) (zI x3) (zI x4) ?_
    try simp only [z_m1, z_0, z_1, z_2, z_3, z_4, z_5, z_6, z_8, z_9, z_10, z_12, z_16, z_30, z_31, z_99, z_300, z_500, z_600, z_20000, zadd, zsub, zmul, zneg, zap]
    have rx := hq.1
    have hq := hq.2
    have ry := hq.1
    have hq := hq.2
    refine ⟨fun c => ?_, fun c => ?_⟩
    · have hq := hq.1 ((z_le ry rx).mp c)
      exact ⟨congrArg zI hq.1, congrArg zS hq.2⟩
    · have hq := hq.2 (fun h => c ((z_le ry rx).mpr h))
      refine ⟨zin hq.1.1 hq.1.2 (by decide), ?_⟩
      try simp only [zcl hq.1.1 (Int.lt_trans hq.1.2 (by decide))]
      have hq := hq.2
      try simp only [z_m1, z_0, z_1, z_2, z_3, z_4, z_5, z_6, z_8, z_9, z_10, z_12, z_16, z_30, z_31, z_99, z_300, z_500, z_600, z_20000, zadd, zsub, zmul, zneg, zap]
      have rx := hq.1
      have hq := hq.2
      refine ⟨fun c => ?_, fun c => ?_⟩
      · have hq := hq.1 (fun h => c ((z_eq rx ⟨by decide, by decide⟩).mpr h))
        exact hq
      · have hq := hq.2 ((z_eq rx ⟨by decide, by decide⟩).mp c)
        obtain ⟨r7, h8, hh8, hq⟩ := hq
        refine ⟨zI r7, zS h8, t_X5_sits hv x4 r7 h8 hh8, ?_⟩
        try simp only [z_m1, z_0, z_1, z_2, z_3, z_4, z_5, z_6, z_8, z_9, z_10, z_12, z_16, z_30, z_31, z_99, z_300, z_500, z_600, z_20000, zadd, zsub, zmul, zneg, zap]
        have rx := hq.1
        have hq := hq.2
        refine ⟨fun c => ?_, fun c => ?_⟩
        · have hq := hq.1 ((z_eq rx ⟨by decide, by decide⟩).mp c)
          exact hq
        · have hq := hq.2 (fun h => c ((z_eq rx ⟨by decide, by decide⟩).mpr h))
          exact hq)
  try simp only [z_m1, z_0, z_1, z_2, z_3, z_4, z_5, z_6, z_8, z_9, z_10, z_12, z_16, z_30, z_31, z_99, z_300, z_500, z_600, z_20000, zadd, zsub, zmul, zneg, zap]
  obtain ⟨r1, hr1, hq⟩ := hq
  refine ⟨zI r1, t_X5_isGroup h a1 r1 hr1, ?_⟩
  try simp only [z_m1, z_0, z_1, z_2, z_3, z_4, z_5, z_6, z_8, z_9, z_10, z_12, z_16, z_30, z_31, z_99, z_300, z_500, z_600, z_20000, zadd, zsub, zmul, zneg, zap]
  have rx := hq.1
  have hq := hq.2
  refine ⟨fun c => ?_, fun c => ?_⟩
  · have hq := hq.1 (fun h => c ((z_eq rx ⟨by decide, by decide⟩).mpr h))
    refine ⟨zin hq.1.1 hq.1.2 (by decide), ?_⟩
    try simp only [zcl hq.1.1 (Int.lt_trans hq.1.2 (by decide))]
    have hq := hq.2
    try simp only [z_m1, z_0, z_1, z_2, z_3, z_4, z_5, z_6, z_8, z_9, z_10, z_12, z_16, z_30, z_31, z_99, z_300, z_500, z_600, z_20000, zadd, zsub, zmul, zneg, zap]
    have rx := hq.1
    have hq := hq.2
    refine ⟨fun c => ?_, fun c => ?_⟩
    · have hq := hq.1 (fun h => c ((z_eq rx ⟨by decide, by decide⟩).mpr h))
      exact hq
    · have hq := hq.2 ((z_eq rx ⟨by decide, by decide⟩).mp c)
      refine ⟨zin hq.1.1 hq.1.2 (by decide), ?_⟩
      try simp only [zcl hq.1.1 (Int.lt_trans hq.1.2 (by decide))]
      have hq := hq.2
      try simp only [z_m1, z_0, z_1, z_2, z_3, z_4, z_5, z_6, z_8, z_9, z_10, z_12, z_16, z_30, z_31, z_99, z_300, z_500, z_600, z_20000, zadd, zsub, zmul, zneg, zap]
      have rx := hq.1
      have hq := hq.2
      refine ⟨fun c => ?_, fun c => ?_⟩
      · have hq := hq.1 (fun h => c ((z_eq rx ⟨by decide, by decide⟩).mpr h))
        exact hq
      · have hq := hq.2 ((z_eq rx ⟨by decide, by decide⟩).mp c)
        exact hq
  · have hq := hq.2 ((z_eq rx ⟨by decide, by decide⟩).mp c)
    exact hq
def Q_X5_tableOf (h : ISt) (a1 : Int) (r : Int) (h' : ISt) : Prop := ∀ V24 : ISt → Int → Prop, (∀ hv : ISt, ∀ x2 : Int, (inR x2 ∧ inR (hv 0 4) ∧ (((hv 0 4) ≤ x2 → (r = (-1 : Int) ∧ h' = hv)) ∧ (¬ (hv 0 4) ≤ x2 → ((0 ≤ x2 ∧ x2 < 10) ∧ (inR (hv 2 x2.toNat) ∧ inR a1 ∧ ((¬ (hv 2 x2.toNat) = a1 → (V24 hv (x2 + (1 : Int)))) ∧ ((hv 2 x2.toNat) = a1 → (r = x2 ∧ h' = hv)))))))) → V24 hv x2) → (∃ r1 : Int, Q_X5_isGroup h a1 r1 ∧ (inR r1 ∧ ((r1 = (0 : Int) → (∃ (r2 : Int) (h3 : ISt), Q_X5_isFine h (1 : Int) r2 h3 ∧ (inR r2 ∧ ((¬ r2 = (0 : Int) → (V24 h3 (0 : Int))) ∧ (r2 = (0 : Int) → (r = (0 : Int) ∧ h' = h3)))))) ∧ (¬ r1 = (0 : Int) → (∃ (r4 : Int) (h5 : ISt), Q_X5_isFine h (0 : Int) r4 h5 ∧ (inR r4 ∧ ((¬ r4 = (0 : Int) → (V24 h5 (0 : Int))) ∧ (r4 = (0 : Int) → (r = (0 : Int) ∧ h' = h5)))))))))
set_option maxRecDepth 100000 in
set_option maxHeartbeats 4000000 in
theorem t_X5_tableOf (h : ISt) (a1 : Int) (r : Int) (h' : ISt) (hq : Q_X5_tableOf h a1 r h') : P_X5_tableOf (zS h) (zI a1) (zI r) (zS h') := by
  intro V24 k24
  have hq := hq (fun hv x2 => V24 (zS hv) (zI x2))
  have hq := hq (by
    intro hv x2 hq
    refine k24 (zS hv) (zI x2) ?_
    try simp only [z_m1, z_0, z_1, z_2, z_3, z_4, z_5, z_6, z_8, z_9, z_10, z_12, z_16, z_30, z_31, z_99, z_300, z_500, z_600, z_20000, zadd, zsub, zmul, zneg, zap]
    have rx := hq.1
    have hq := hq.2
    have ry := hq.1
    have hq := hq.2
    refine ⟨fun c => ?_, fun c => ?_⟩
    · have hq := hq.1 ((z_le ry rx).mp c)
      exact ⟨congrArg zI hq.1, congrArg zS hq.2⟩
    · have hq := hq.2 (fun h => c ((z_le ry rx).mpr h))
      refine ⟨zin hq.1.1 hq.1.2 (by decide), ?_⟩
      try simp only [zcl hq.1.1 (Int.lt_trans hq.1.2 (by decide))]
      have hq := hq.2
      try simp only [z_m1, z_0, z_1, z_2, z_3, z_4, z_5, z_6, z_8, z_9, z_10, z_12, z_16, z_30, z_31, z_99, z_300, z_500, z_600, z_20000, zadd, zsub, zmul, zneg, zap]
      have rx := hq.1
      have hq := hq.2
      have ry := hq.1
      have hq := hq.2
      refine ⟨fun c => ?_, fun c => ?_⟩
      · have hq := hq.1 (fun h => c ((z_eq rx ry).mpr h))
        exact hq
      · have hq := hq.2 ((z_eq rx ry).mp c)
        exact ⟨congrArg zI hq.1, congrArg zS hq.2⟩)
  try simp only [z_m1, z_0, z_1, z_2, z_3, z_4, z_5, z_6, z_8, z_9, z_10, z_12, z_16, z_30, z_31, z_99, z_300, z_500, z_600, z_20000, zadd, zsub, zmul, zneg, zap]
  obtain ⟨r1, hr1, hq⟩ := hq
  refine ⟨zI r1, t_X5_isGroup h a1 r1 hr1, ?_⟩
  try simp only [z_m1, z_0, z_1, z_2, z_3, z_4, z_5, z_6, z_8, z_9, z_10, z_12, z_16, z_30, z_31, z_99, z_300, z_500, z_600, z_20000, zadd, zsub, zmul, zneg, zap]
  have rx := hq.1
  have hq := hq.2
  refine ⟨fun c => ?_, fun c => ?_⟩
  · have hq := hq.1 ((z_eq rx ⟨by decide, by decide⟩).mp c)
    obtain ⟨r2, h3, hh3, hq⟩ := hq
    refine ⟨zI r2, zS h3, t_X5_isFine h (1 : Int) r2 h3 hh3, ?_⟩
    try simp only [z_m1, z_0, z_1, z_2, z_3, z_4, z_5, z_6, z_8, z_9, z_10, z_12, z_16, z_30, z_31, z_99, z_300, z_500, z_600, z_20000, zadd, zsub, zmul, zneg, zap]
    have rx := hq.1
    have hq := hq.2
    refine ⟨fun c => ?_, fun c => ?_⟩
    · have hq := hq.1 (fun h => c ((z_eq rx ⟨by decide, by decide⟩).mpr h))
      exact hq
    · have hq := hq.2 ((z_eq rx ⟨by decide, by decide⟩).mp c)
      exact ⟨congrArg zI hq.1, congrArg zS hq.2⟩
  · have hq := hq.2 (fun h => c ((z_eq rx ⟨by decide, by decide⟩).mpr h))
    obtain ⟨r4, h5, hh5, hq⟩ := hq
    refine ⟨zI r4, zS h5, t_X5_isFine h (0 : Int) r4 h5 hh5, ?_⟩
    try simp only [z_m1, z_0, z_1, z_2, z_3, z_4, z_5, z_6, z_8, z_9, z_10, z_12, z_16, z_30, z_31, z_99, z_300, z_500, z_600, z_20000, zadd, zsub, zmul, zneg, zap]
    have rx := hq.1
    have hq := hq.2
    refine ⟨fun c => ?_, fun c => ?_⟩
    · have hq := hq.1 (fun h => c ((z_eq rx ⟨by decide, by decide⟩).mpr h))
      exact hq
    · have hq := hq.2 ((z_eq rx ⟨by decide, by decide⟩).mp c)
      exact ⟨congrArg zI hq.1, congrArg zS hq.2⟩
def Q_X5_tablesOf (h : ISt) (a1 : Int) (r : Int) (h' : ISt) : Prop := ∀ V14 : ISt → Int → Prop, ∀ V26 : ISt → Int → Int → Prop, (∀ hv : ISt, ∀ t0 : Int, (∃ (r2 : Int) (h3 : ISt), Q_X5_isFine hv t0 r2 h3 ∧ (inR r2 ∧ ((¬ r2 = (0 : Int) → (V26 h3 (0 : Int) (0 : Int))) ∧ (r2 = (0 : Int) → (r = (0 : Int) ∧ h' = h3))))) → V14 hv t0) → (∀ hv : ISt, ∀ x2 x3 : Int, (inR x3 ∧ inR (hv 0 4) ∧ (((hv 0 4) ≤ x3 → (r = x2 ∧ h' = hv)) ∧ (¬ (hv 0 4) ≤ x3 → ((0 ≤ x3 ∧ x3 < 10) ∧ (inR (hv 2 x3.toNat) ∧ inR a1 ∧ ((¬ (hv 2 x3.toNat) = a1 → (V26 hv (x2 + (0 : Int)) (x3 + (1 : Int)))) ∧ ((hv 2 x3.toNat) = a1 → (V26 hv (x2 + (1 : Int)) (x3 + (1 : Int)))))))))) → V26 hv x2 x3) → (∃ r1 : Int, Q_X5_isGroup h a1 r1 ∧ (inR r1 ∧ ((r1 = (0 : Int) → (V14 h (1 : Int))) ∧ (¬ r1 = (0 : Int) → (V14 h (0 : Int))))))
set_option maxRecDepth 100000 in
set_option maxHeartbeats 4000000 in
theorem t_X5_tablesOf (h : ISt) (a1 : Int) (r : Int) (h' : ISt) (hq : Q_X5_tablesOf h a1 r h') : P_X5_tablesOf (zS h) (zI a1) (zI r) (zS h') := by
  intro V14 V26 k14 k26
  have hq := hq (fun hv t0 => V14 (zS hv) (zI t0)) (fun hv x2 x3 => V26 (zS hv) (zI x2) (zI x3))
  have hq := hq (by
    intro hv t0 hq
    refine k14 (zS hv) (zI t0) ?_
    try simp only [z_m1, z_0, z_1, z_2, z_3, z_4, z_5, z_6, z_8, z_9, z_10, z_12, z_16, z_30, z_31, z_99, z_300, z_500, z_600, z_20000, zadd, zsub, zmul, zneg, zap]
    obtain ⟨r2, h3, hh3, hq⟩ := hq
    refine ⟨zI r2, zS h3, t_X5_isFine hv t0 r2 h3 hh3, ?_⟩
    try simp only [z_m1, z_0, z_1, z_2, z_3, z_4, z_5, z_6, z_8, z_9, z_10, z_12, z_16, z_30, z_31, z_99, z_300, z_500, z_600, z_20000, zadd, zsub, zmul, zneg, zap]
    have rx := hq.1
    have hq := hq.2
    refine ⟨fun c => ?_, fun c => ?_⟩
    · have hq := hq.1 (fun h => c ((z_eq rx ⟨by decide, by decide⟩).mpr h))
      exact hq
    · have hq := hq.2 ((z_eq rx ⟨by decide, by decide⟩).mp c)
      exact ⟨congrArg zI hq.1, congrArg zS hq.2⟩)
  have hq := hq (by
    intro hv x2 x3 hq
    refine k26 (zS hv) (zI x2) (zI x3) ?_
    try simp only [z_m1, z_0, z_1, z_2, z_3, z_4, z_5, z_6, z_8, z_9, z_10, z_12, z_16, z_30, z_31, z_99, z_300, z_500, z_600, z_20000, zadd, zsub, zmul, zneg, zap]
    have rx := hq.1
    have hq := hq.2
    have ry := hq.1
    have hq := hq.2
    refine ⟨fun c => ?_, fun c => ?_⟩
    · have hq := hq.1 ((z_le ry rx).mp c)
      exact ⟨congrArg zI hq.1, congrArg zS hq.2⟩
    · have hq := hq.2 (fun h => c ((z_le ry rx).mpr h))
      refine ⟨zin hq.1.1 hq.1.2 (by decide), ?_⟩
      try simp only [zcl hq.1.1 (Int.lt_trans hq.1.2 (by decide))]
      have hq := hq.2
      try simp only [z_m1, z_0, z_1, z_2, z_3, z_4, z_5, z_6, z_8, z_9, z_10, z_12, z_16, z_30, z_31, z_99, z_300, z_500, z_600, z_20000, zadd, zsub, zmul, zneg, zap]
      have rx := hq.1
      have hq := hq.2
      have ry := hq.1
      have hq := hq.2
      refine ⟨fun c => ?_, fun c => ?_⟩
      · have hq := hq.1 (fun h => c ((z_eq rx ry).mpr h))
        exact hq
      · have hq := hq.2 ((z_eq rx ry).mp c)
        exact hq)
  try simp only [z_m1, z_0, z_1, z_2, z_3, z_4, z_5, z_6, z_8, z_9, z_10, z_12, z_16, z_30, z_31, z_99, z_300, z_500, z_600, z_20000, zadd, zsub, zmul, zneg, zap]
  obtain ⟨r1, hr1, hq⟩ := hq
  refine ⟨zI r1, t_X5_isGroup h a1 r1 hr1, ?_⟩
  try simp only [z_m1, z_0, z_1, z_2, z_3, z_4, z_5, z_6, z_8, z_9, z_10, z_12, z_16, z_30, z_31, z_99, z_300, z_500, z_600, z_20000, zadd, zsub, zmul, zneg, zap]
  have rx := hq.1
  have hq := hq.2
  refine ⟨fun c => ?_, fun c => ?_⟩
  · have hq := hq.1 ((z_eq rx ⟨by decide, by decide⟩).mp c)
    exact hq
  · have hq := hq.2 (fun h => c ((z_eq rx ⟨by decide, by decide⟩).mpr h))
    exact hq
def Q_X5_waiting (h : ISt) (r : Int) (h' : ISt) : Prop := ∀ V9 : ISt → Int → Int → Prop, (∀ hv : ISt, ∀ x1 x2 : Int, (inR x2 ∧ inR (hv 0 10) ∧ (((hv 0 10) ≤ x2 → (r = x1 ∧ h' = hv)) ∧ (¬ (hv 0 10) ≤ x2 → ((0 ≤ x2 ∧ x2 < 30) ∧ (inR (hv 5 x2.toNat) ∧ ((¬ (hv 5 x2.toNat) = (0 : Int) → (V9 hv (x1 + (0 : Int)) (x2 + (1 : Int)))) ∧ ((hv 5 x2.toNat) = (0 : Int) → (V9 hv (x1 + (1 : Int)) (x2 + (1 : Int)))))))))) → V9 hv x1 x2) → (∀ h1 : ISt, h1 = iset h 0 0 (0 : Int) → (V9 h1 (0 : Int) (0 : Int)))
set_option maxRecDepth 100000 in
set_option maxHeartbeats 4000000 in
theorem t_X5_waiting (h : ISt) (r : Int) (h' : ISt) (hq : Q_X5_waiting h r h') : P_X5_waiting (zS h) (zI r) (zS h') := by
  intro V9 k9
  have hq := hq (fun hv x1 x2 => V9 (zS hv) (zI x1) (zI x2))
  have hq := hq (by
    intro hv x1 x2 hq
    refine k9 (zS hv) (zI x1) (zI x2) ?_
    try simp only [z_m1, z_0, z_1, z_2, z_3, z_4, z_5, z_6, z_8, z_9, z_10, z_12, z_16, z_30, z_31, z_99, z_300, z_500, z_600, z_20000, zadd, zsub, zmul, zneg, zap]
    have rx := hq.1
    have hq := hq.2
    have ry := hq.1
    have hq := hq.2
    refine ⟨fun c => ?_, fun c => ?_⟩
    · have hq := hq.1 ((z_le ry rx).mp c)
      exact ⟨congrArg zI hq.1, congrArg zS hq.2⟩
    · have hq := hq.2 (fun h => c ((z_le ry rx).mpr h))
      refine ⟨zin hq.1.1 hq.1.2 (by decide), ?_⟩
      try simp only [zcl hq.1.1 (Int.lt_trans hq.1.2 (by decide))]
      have hq := hq.2
      try simp only [z_m1, z_0, z_1, z_2, z_3, z_4, z_5, z_6, z_8, z_9, z_10, z_12, z_16, z_30, z_31, z_99, z_300, z_500, z_600, z_20000, zadd, zsub, zmul, zneg, zap]
      have rx := hq.1
      have hq := hq.2
      refine ⟨fun c => ?_, fun c => ?_⟩
      · have hq := hq.1 (fun h => c ((z_eq rx ⟨by decide, by decide⟩).mpr h))
        exact hq
      · have hq := hq.2 ((z_eq rx ⟨by decide, by decide⟩).mp c)
        exact hq)
  try simp only [z_m1, z_0, z_1, z_2, z_3, z_4, z_5, z_6, z_8, z_9, z_10, z_12, z_16, z_30, z_31, z_99, z_300, z_500, z_600, z_20000, zadd, zsub, zmul, zneg, zap]
  intro g9 eg9
  rw [zset] at eg9
  subst eg9
  have hq := hq _ rfl
  generalize iset h 0 0 (0 : Int) = h1 at hq ⊢
  try simp only [z_m1, z_0, z_1, z_2, z_3, z_4, z_5, z_6, z_8, z_9, z_10, z_12, z_16, z_30, z_31, z_99, z_300, z_500, z_600, z_20000, zadd, zsub, zmul, zneg, zap]
  exact hq
def Q_X5_wasteNow (h : ISt) (a1 : Int) (r : Int) (h' : ISt) : Prop := ∀ V16 : ISt → Int → Prop, (∀ hv : ISt, ∀ t0 : Int, (∃ (r2 : Int) (h3 : ISt), Q_X5_isFine hv t0 r2 h3 ∧ (inR r2 ∧ ((r2 = (0 : Int) → (inR (h3 0 0) ∧ (((h3 0 0) ≤ (0 : Int) → (r = (-1 : Int) ∧ h' = h3)) ∧ (¬ (h3 0 0) ≤ (0 : Int) → (r = (0 : Int) ∧ h' = h3))))) ∧ (¬ r2 = (0 : Int) → (∃ (r4 : Int) (h5 : ISt), Q_X5_finds h3 a1 r4 h5 ∧ (inR r4 ∧ ((r4 = (0 : Int) → (inR (h5 0 0) ∧ (((h5 0 0) ≤ (0 : Int) → (r = (-1 : Int) ∧ h' = h5)) ∧ (¬ (h5 0 0) ≤ (0 : Int) → (r = (0 : Int) ∧ h' = h5))))) ∧ (¬ r4 = (0 : Int) → (r = (h5 0 32) ∧ h' = h5))))))))) → V16 hv t0) → (∃ r1 : Int, Q_X5_isIn a1 (1 : Int) (12 : Int) r1 ∧ (inR r1 ∧ ((r1 = (0 : Int) → (V16 h (1 : Int))) ∧ (¬ r1 = (0 : Int) → (V16 h (0 : Int))))))
set_option maxRecDepth 100000 in
set_option maxHeartbeats 4000000 in
theorem t_X5_wasteNow (h : ISt) (a1 : Int) (r : Int) (h' : ISt) (hq : Q_X5_wasteNow h a1 r h') : P_X5_wasteNow (zS h) (zI a1) (zI r) (zS h') := by
  intro V16 k16
  have hq := hq (fun hv t0 => V16 (zS hv) (zI t0))
  have hq := hq (by
    intro hv t0 hq
    refine k16 (zS hv) (zI t0) ?_
    try simp only [z_m1, z_0, z_1, z_2, z_3, z_4, z_5, z_6, z_8, z_9, z_10, z_12, z_16, z_30, z_31, z_99, z_300, z_500, z_600, z_20000, zadd, zsub, zmul, zneg, zap]
    obtain ⟨r2, h3, hh3, hq⟩ := hq
    refine ⟨zI r2, zS h3, t_X5_isFine hv t0 r2 h3 hh3, ?_⟩
    try simp only [z_m1, z_0, z_1, z_2, z_3, z_4, z_5, z_6, z_8, z_9, z_10, z_12, z_16, z_30, z_31, z_99, z_300, z_500, z_600, z_20000, zadd, zsub, zmul, zneg, zap]
    have rx := hq.1
    have hq := hq.2
    refine ⟨fun c => ?_, fun c => ?_⟩
    · have hq := hq.1 ((z_eq rx ⟨by decide, by decide⟩).mp c)
      have rx := hq.1
      have hq := hq.2
      refine ⟨fun c => ?_, fun c => ?_⟩
      · have hq := hq.1 ((z_le rx ⟨by decide, by decide⟩).mp c)
        exact ⟨congrArg zI hq.1, congrArg zS hq.2⟩
      · have hq := hq.2 (fun h => c ((z_le rx ⟨by decide, by decide⟩).mpr h))
        exact ⟨congrArg zI hq.1, congrArg zS hq.2⟩
    · have hq := hq.2 (fun h => c ((z_eq rx ⟨by decide, by decide⟩).mpr h))
      obtain ⟨r4, h5, hh5, hq⟩ := hq
      refine ⟨zI r4, zS h5, t_X5_finds h3 a1 r4 h5 hh5, ?_⟩
      try simp only [z_m1, z_0, z_1, z_2, z_3, z_4, z_5, z_6, z_8, z_9, z_10, z_12, z_16, z_30, z_31, z_99, z_300, z_500, z_600, z_20000, zadd, zsub, zmul, zneg, zap]
      have rx := hq.1
      have hq := hq.2
      refine ⟨fun c => ?_, fun c => ?_⟩
      · have hq := hq.1 ((z_eq rx ⟨by decide, by decide⟩).mp c)
        have rx := hq.1
        have hq := hq.2
        refine ⟨fun c => ?_, fun c => ?_⟩
        · have hq := hq.1 ((z_le rx ⟨by decide, by decide⟩).mp c)
          exact ⟨congrArg zI hq.1, congrArg zS hq.2⟩
        · have hq := hq.2 (fun h => c ((z_le rx ⟨by decide, by decide⟩).mpr h))
          exact ⟨congrArg zI hq.1, congrArg zS hq.2⟩
      · have hq := hq.2 (fun h => c ((z_eq rx ⟨by decide, by decide⟩).mpr h))
        exact ⟨congrArg zI hq.1, congrArg zS hq.2⟩)
  try simp only [z_m1, z_0, z_1, z_2, z_3, z_4, z_5, z_6, z_8, z_9, z_10, z_12, z_16, z_30, z_31, z_99, z_300, z_500, z_600, z_20000, zadd, zsub, zmul, zneg, zap]
  obtain ⟨r1, hr1, hq⟩ := hq
  refine ⟨zI r1, t_X5_isIn a1 (1 : Int) (12 : Int) r1 hr1, ?_⟩
  try simp only [z_m1, z_0, z_1, z_2, z_3, z_4, z_5, z_6, z_8, z_9, z_10, z_12, z_16, z_30, z_31, z_99, z_300, z_500, z_600, z_20000, zadd, zsub, zmul, zneg, zap]
  have rx := hq.1
  have hq := hq.2
  refine ⟨fun c => ?_, fun c => ?_⟩
  · have hq := hq.1 ((z_eq rx ⟨by decide, by decide⟩).mp c)
    exact hq
  · have hq := hq.2 (fun h => c ((z_eq rx ⟨by decide, by decide⟩).mpr h))
    exact hq
def Q_X5_waste (h : ISt) (a1 : Int) (r : Int) (h' : ISt) : Prop := (∃ (r1 : Int) (h2 : ISt), Q_X5_wasteNow h a1 r1 h2 ∧ (r = r1 ∧ h' = h2))
set_option maxRecDepth 100000 in
set_option maxHeartbeats 4000000 in
theorem t_X5_waste (h : ISt) (a1 : Int) (r : Int) (h' : ISt) (hq : Q_X5_waste h a1 r h') : P_X5_waste (zS h) (zI a1) (zI r) (zS h') := by
  unfold P_X5_waste
  unfold Q_X5_waste at hq
  try simp only [z_m1, z_0, z_1, z_2, z_3, z_4, z_5, z_6, z_8, z_9, z_10, z_12, z_16, z_30, z_31, z_99, z_300, z_500, z_600, z_20000, zadd, zsub, zmul, zneg, zap]
  obtain ⟨r1, h2, hh2, hq⟩ := hq
  refine ⟨zI r1, zS h2, t_X5_wasteNow h a1 r1 h2 hh2, ?_⟩
  try simp only [z_m1, z_0, z_1, z_2, z_3, z_4, z_5, z_6, z_8, z_9, z_10, z_12, z_16, z_30, z_31, z_99, z_300, z_500, z_600, z_20000, zadd, zsub, zmul, zneg, zap]
  exact ⟨congrArg zI hq.1, congrArg zS hq.2⟩
def Q_X5_wasteByAll (h : ISt) (a1 : Int) (r : Int) (h' : ISt) : Prop := (∃ (r1 : Int) (h2 : ISt), Q_X5_wasteNow h a1 r1 h2 ∧ (r = r1 ∧ h' = h2))
set_option maxRecDepth 100000 in
set_option maxHeartbeats 4000000 in
theorem t_X5_wasteByAll (h : ISt) (a1 : Int) (r : Int) (h' : ISt) (hq : Q_X5_wasteByAll h a1 r h') : P_X5_wasteByAll (zS h) (zI a1) (zI r) (zS h') := by
  unfold P_X5_wasteByAll
  unfold Q_X5_wasteByAll at hq
  try simp only [z_m1, z_0, z_1, z_2, z_3, z_4, z_5, z_6, z_8, z_9, z_10, z_12, z_16, z_30, z_31, z_99, z_300, z_500, z_600, z_20000, zadd, zsub, zmul, zneg, zap]
  obtain ⟨r1, h2, hh2, hq⟩ := hq
  refine ⟨zI r1, zS h2, t_X5_wasteNow h a1 r1 h2 hh2, ?_⟩
  try simp only [z_m1, z_0, z_1, z_2, z_3, z_4, z_5, z_6, z_8, z_9, z_10, z_12, z_16, z_30, z_31, z_99, z_300, z_500, z_600, z_20000, zadd, zsub, zmul, zneg, zap]
  exact ⟨congrArg zI hq.1, congrArg zS hq.2⟩
def Q_X5_leftOf (h : ISt) (a1 : Int) (r : Int) : Prop := ((0 ≤ a1 ∧ a1 < 30) ∧ ((0 ≤ a1 ∧ a1 < 30) ∧ (inR (((h 6 a1.toNat) + (h 4 a1.toNat)) - (h 0 1)) ∧ (((0 : Int) ≤ (((h 6 a1.toNat) + (h 4 a1.toNat)) - (h 0 1)) → (r = (((h 6 a1.toNat) + (h 4 a1.toNat)) - (h 0 1)))) ∧ (¬ (0 : Int) ≤ (((h 6 a1.toNat) + (h 4 a1.toNat)) - (h 0 1)) → (r = (0 : Int)))))))
set_option maxRecDepth 100000 in
set_option maxHeartbeats 4000000 in
theorem t_X5_leftOf (h : ISt) (a1 : Int) (r : Int) (hq : Q_X5_leftOf h a1 r) : P_X5_leftOf (zS h) (zI a1) (zI r) := by
  unfold P_X5_leftOf
  unfold Q_X5_leftOf at hq
  try simp only [z_m1, z_0, z_1, z_2, z_3, z_4, z_5, z_6, z_8, z_9, z_10, z_12, z_16, z_30, z_31, z_99, z_300, z_500, z_600, z_20000, zadd, zsub, zmul, zneg, zap]
  refine ⟨zin hq.1.1 hq.1.2 (by decide), ?_⟩
  try simp only [zcl hq.1.1 (Int.lt_trans hq.1.2 (by decide))]
  have hq := hq.2
  try simp only [z_m1, z_0, z_1, z_2, z_3, z_4, z_5, z_6, z_8, z_9, z_10, z_12, z_16, z_30, z_31, z_99, z_300, z_500, z_600, z_20000, zadd, zsub, zmul, zneg, zap]
  refine ⟨zin hq.1.1 hq.1.2 (by decide), ?_⟩
  try simp only [zcl hq.1.1 (Int.lt_trans hq.1.2 (by decide))]
  have hq := hq.2
  try simp only [z_m1, z_0, z_1, z_2, z_3, z_4, z_5, z_6, z_8, z_9, z_10, z_12, z_16, z_30, z_31, z_99, z_300, z_500, z_600, z_20000, zadd, zsub, zmul, zneg, zap]
  have rx := hq.1
  have hq := hq.2
  refine ⟨fun c => ?_, fun c => ?_⟩
  · have hq := hq.1 ((z_le ⟨by decide, by decide⟩ rx).mp c)
    exact congrArg zI hq
  · have hq := hq.2 (fun h => c ((z_le ⟨by decide, by decide⟩ rx).mpr h))
    exact congrArg zI hq
def Q_X5_left (h : ISt) (a1 : Int) (r : Int) (h' : ISt) : Prop := ∀ V30 : ISt → Int → Prop, (∀ hv : ISt, ∀ t0 : Int, (∃ (r2 : Int) (h3 : ISt), Q_X5_isFine hv t0 r2 h3 ∧ (inR r2 ∧ ((r2 = (0 : Int) → (r = (0 : Int) ∧ h' = h3)) ∧ (¬ r2 = (0 : Int) → (∃ r4 : Int, Q_X5_leftOf h3 a1 r4 ∧ (r = r4 ∧ h' = h3)))))) → V30 hv t0) → (∃ r1 : Int, Q_X5_isGroup h a1 r1 ∧ (inR r1 ∧ ((¬ r1 = (0 : Int) → ((0 ≤ a1 ∧ a1 < 30) ∧ (inR (h 5 a1.toNat) ∧ (((h 5 a1.toNat) = (1 : Int) → (V30 h (0 : Int))) ∧ (¬ (h 5 a1.toNat) = (1 : Int) → (V30 h (2 : Int))))))) ∧ (r1 = (0 : Int) → (V30 h (1 : Int))))))
set_option maxRecDepth 100000 in
set_option maxHeartbeats 4000000 in
theorem t_X5_left (h : ISt) (a1 : Int) (r : Int) (h' : ISt) (hq : Q_X5_left h a1 r h') : P_X5_left (zS h) (zI a1) (zI r) (zS h') := by
  intro V30 k30
  have hq := hq (fun hv t0 => V30 (zS hv) (zI t0))
  have hq := hq (by
    intro hv t0 hq
    refine k30 (zS hv) (zI t0) ?_
    try simp only [z_m1, z_0, z_1, z_2, z_3, z_4, z_5, z_6, z_8, z_9, z_10, z_12, z_16, z_30, z_31, z_99, z_300, z_500, z_600, z_20000, zadd, zsub, zmul, zneg, zap]
    obtain ⟨r2, h3, hh3, hq⟩ := hq
    refine ⟨zI r2, zS h3, t_X5_isFine hv t0 r2 h3 hh3, ?_⟩
    try simp only [z_m1, z_0, z_1, z_2, z_3, z_4, z_5, z_6, z_8, z_9, z_10, z_12, z_16, z_30, z_31, z_99, z_300, z_500, z_600, z_20000, zadd, zsub, zmul, zneg, zap]
    have rx := hq.1
    have hq := hq.2
    refine ⟨fun c => ?_, fun c => ?_⟩
    · have hq := hq.1 ((z_eq rx ⟨by decide, by decide⟩).mp c)
      exact ⟨congrArg zI hq.1, congrArg zS hq.2⟩
    · have hq := hq.2 (fun h => c ((z_eq rx ⟨by decide, by decide⟩).mpr h))
      obtain ⟨r4, hr4, hq⟩ := hq
      refine ⟨zI r4, t_X5_leftOf h3 a1 r4 hr4, ?_⟩
      try simp only [z_m1, z_0, z_1, z_2, z_3, z_4, z_5, z_6, z_8, z_9, z_10, z_12, z_16, z_30, z_31, z_99, z_300, z_500, z_600, z_20000, zadd, zsub, zmul, zneg, zap]
      exact ⟨congrArg zI hq.1, congrArg zS hq.2⟩)
  try simp only [z_m1, z_0, z_1, z_2, z_3, z_4, z_5, z_6, z_8, z_9, z_10, z_12, z_16, z_30, z_31, z_99, z_300, z_500, z_600, z_20000, zadd, zsub, zmul, zneg, zap]
  obtain ⟨r1, hr1, hq⟩ := hq
  refine ⟨zI r1, t_X5_isGroup h a1 r1 hr1, ?_⟩
  try simp only [z_m1, z_0, z_1, z_2, z_3, z_4, z_5, z_6, z_8, z_9, z_10, z_12, z_16, z_30, z_31, z_99, z_300, z_500, z_600, z_20000, zadd, zsub, zmul, zneg, zap]
  have rx := hq.1
  have hq := hq.2
  refine ⟨fun c => ?_, fun c => ?_⟩
  · have hq := hq.1 (fun h => c ((z_eq rx ⟨by decide, by decide⟩).mpr h))
    refine ⟨zin hq.1.1 hq.1.2 (by decide), ?_⟩
    try simp only [zcl hq.1.1 (Int.lt_trans hq.1.2 (by decide))]
    have hq := hq.2
    try simp only [z_m1, z_0, z_1, z_2, z_3, z_4, z_5, z_6, z_8, z_9, z_10, z_12, z_16, z_30, z_31, z_99, z_300, z_500, z_600, z_20000, zadd, zsub, zmul, zneg, zap]
    have rx := hq.1
    have hq := hq.2
    refine ⟨fun c => ?_, fun c => ?_⟩
    · have hq := hq.1 ((z_eq rx ⟨by decide, by decide⟩).mp c)
      exact hq
    · have hq := hq.2 (fun h => c ((z_eq rx ⟨by decide, by decide⟩).mpr h))
      exact hq
  · have hq := hq.2 ((z_eq rx ⟨by decide, by decide⟩).mp c)
    exact hq
def Q_X5_makes (h : ISt) (a1 : Int) (r : Int) : Prop := ∀ V4 : Int → Int → Prop, ∀ V40 : Int → Int → Int → Int → Prop, ∀ V104 : Int → Int → Int → Int → Prop, ∀ V105 : Int → Int → Int → Int → Int → Prop, ∀ V129 : Int → Int → Int → Int → Int → Int → Prop, (∀ x2 x3 : Int, (inR x3 ∧ (((4 : Int) ≤ x3 → (r = x2)) ∧ (¬ (4 : Int) ≤ x3 → ((0 ≤ a1 ∧ a1 < 16) ∧ ((0 ≤ (((4 : Int) * (h 12 a1.toNat)) + x3) ∧ (((4 : Int) * (h 12 a1.toNat)) + x3) < 32) ∧ ((0 ≤ (((4 : Int) * a1) + x3) ∧ (((4 : Int) * a1) + x3) < 64) ∧ (∀ y1 : Int, y1 = (h 11 (((4 : Int) * (h 12 a1.toNat)) + x3).toNat) - (h 14 (((4 : Int) * a1) + x3).toNat) → (V40 x2 x3 y1 (0 : Int))))))))) → V4 x2 x3) → (∀ x2 x3 x4 x5 : Int, (inR x5 ∧ inR (h 0 19) ∧ (((h 0 19) ≤ x5 → (inR x4 ∧ ((x4 ≤ (0 : Int) → (V4 x2 (x3 + (1 : Int)))) ∧ (¬ x4 ≤ (0 : Int) → (r = (-1 : Int)))))) ∧ (¬ (h 0 19) ≤ x5 → (inR x4 ∧ ((x4 ≤ (0 : Int) → (inR x4 ∧ ((x4 ≤ (0 : Int) → (V4 x2 (x3 + (1 : Int)))) ∧ (¬ x4 ≤ (0 : Int) → (r = (-1 : Int)))))) ∧ (¬ x4 ≤ (0 : Int) → (inR x5 ∧ inR a1 ∧ ((x5 = a1 → (V104 x2 x3 x4 x5)) ∧ (¬ x5 = a1 → ((0 ≤ x5 ∧ x5 < 16) ∧ ((0 ≤ a1 ∧ a1 < 16) ∧ (inR (h 12 x5.toNat) ∧ inR (h 12 a1.toNat) ∧ ((¬ (h 12 x5.toNat) = (h 12 a1.toNat) → (V104 x2 x3 x4 x5)) ∧ ((h 12 x5.toNat) = (h 12 a1.toNat) → ((0 ≤ x5 ∧ x5 < 16) ∧ (inR (h 13 x5.toNat) ∧ ((¬ (h 13 x5.toNat) = (0 : Int) → (V104 x2 x3 x4 x5)) ∧ ((h 13 x5.toNat) = (0 : Int) → ((0 ≤ (((4 : Int) * x5) + x3) ∧ (((4 : Int) * x5) + x3) < 64) ∧ (inR (h 14 (((4 : Int) * x5) + x3).toNat) ∧ (((h 14 (((4 : Int) * x5) + x3).toNat) ≤ (0 : Int) → (V104 x2 x3 x4 x5)) ∧ (¬ (h 14 (((4 : Int) * x5) + x3).toNat) ≤ (0 : Int) → (V105 x2 x3 x4 x5 (1 : Int)))))))))))))))))))))))) → V40 x2 x3 x4 x5) → (∀ x2 x3 x4 x5 : Int, (V105 x2 x3 x4 x5 (0 : Int)) → V104 x2 x3 x4 x5) → (∀ x2 x3 x4 x5 t0 : Int, (inR t0 ∧ ((t0 = (0 : Int) → (V129 x2 x3 x5 t0 (0 : Int) x4)) ∧ (¬ t0 = (0 : Int) → ((0 ≤ (((4 : Int) * x5) + x3) ∧ (((4 : Int) * x5) + x3) < 64) ∧ (V129 x2 x3 x5 t0 (h 14 (((4 : Int) * x5) + x3).toNat) x4))))) → V105 x2 x3 x4 x5 t0) → (∀ x2 x3 x5 x6 t0 t1 : Int, (inR x6 ∧ ((x6 = (0 : Int) → ((0 ≤ x2) ∧ (0 ≤ (0 : Int)) ∧ (V40 (iior x2 (0 : Int)) x3 (t1 - t0) (x5 + (1 : Int))))) ∧ (¬ x6 = (0 : Int) → ((0 ≤ x5 ∧ x5 < 31) ∧ ((0 ≤ x2) ∧ (0 ≤ (ishl1 x5)) ∧ (V40 (iior x2 (ishl1 x5)) x3 (t1 - t0) (x5 + (1 : Int)))))))) → V129 x2 x3 x5 x6 t0 t1) → (V4 (0 : Int) (0 : Int))
set_option maxRecDepth 100000 in
set_option maxHeartbeats 4000000 in
theorem t_X5_makes (h : ISt) (a1 : Int) (r : Int) (hq : Q_X5_makes h a1 r) : P_X5_makes (zS h) (zI a1) (zI r) := by
  intro V4 V40 V104 V105 V129 k4 k40 k104 k105 k129
  have hq := hq (fun x2 x3 => V4 (zI x2) (zI x3)) (fun x2 x3 x4 x5 => V40 (zI x2) (zI x3) (zI x4) (zI x5)) (fun x2 x3 x4 x5 => V104 (zI x2) (zI x3) (zI x4) (zI x5)) (fun x2 x3 x4 x5 t0 => V105 (zI x2) (zI x3) (zI x4) (zI x5) (zI t0)) (fun x2 x3 x5 x6 t0 t1 => V129 (zI x2) (zI x3) (zI x5) (zI x6) (zI t0) (zI t1))
  have hq := hq (by
    intro x2 x3 hq
    refine k4 (zI x2) (zI x3) ?_
    try simp only [z_m1, z_0, z_1, z_2, z_3, z_4, z_5, z_6, z_8, z_9, z_10, z_12, z_16, z_30, z_31, z_99, z_300, z_500, z_600, z_20000, zadd, zsub, zmul, zneg, zap]
    have rx := hq.1
    have hq := hq.2
    refine ⟨fun c => ?_, fun c => ?_⟩
    · have hq := hq.1 ((z_le ⟨by decide, by decide⟩ rx).mp c)
      exact congrArg zI hq
    · have hq := hq.2 (fun h => c ((z_le ⟨by decide, by decide⟩ rx).mpr h))
      refine ⟨zin hq.1.1 hq.1.2 (by decide), ?_⟩
      try simp only [zcl hq.1.1 (Int.lt_trans hq.1.2 (by decide))]
      have hq := hq.2
      try simp only [z_m1, z_0, z_1, z_2, z_3, z_4, z_5, z_6, z_8, z_9, z_10, z_12, z_16, z_30, z_31, z_99, z_300, z_500, z_600, z_20000, zadd, zsub, zmul, zneg, zap]
      refine ⟨zin hq.1.1 hq.1.2 (by decide), ?_⟩
      try simp only [zcl hq.1.1 (Int.lt_trans hq.1.2 (by decide))]
      have hq := hq.2
      try simp only [z_m1, z_0, z_1, z_2, z_3, z_4, z_5, z_6, z_8, z_9, z_10, z_12, z_16, z_30, z_31, z_99, z_300, z_500, z_600, z_20000, zadd, zsub, zmul, zneg, zap]
      refine ⟨zin hq.1.1 hq.1.2 (by decide), ?_⟩
      try simp only [zcl hq.1.1 (Int.lt_trans hq.1.2 (by decide))]
      have hq := hq.2
      try simp only [z_m1, z_0, z_1, z_2, z_3, z_4, z_5, z_6, z_8, z_9, z_10, z_12, z_16, z_30, z_31, z_99, z_300, z_500, z_600, z_20000, zadd, zsub, zmul, zneg, zap]
      intro y9 e9
      subst e9
      have hq := hq _ rfl
      generalize (h 11 (((4 : Int) * (h 12 a1.toNat)) + x3).toNat) - (h 14 (((4 : Int) * a1) + x3).toNat) = y1 at hq ⊢
      try simp only [z_m1, z_0, z_1, z_2, z_3, z_4, z_5, z_6, z_8, z_9, z_10, z_12, z_16, z_30, z_31, z_99, z_300, z_500, z_600, z_20000, zadd, zsub, zmul, zneg, zap]
      exact hq)
  have hq := hq (by
    intro x2 x3 x4 x5 hq
    refine k40 (zI x2) (zI x3) (zI x4) (zI x5) ?_
    try simp only [z_m1, z_0, z_1, z_2, z_3, z_4, z_5, z_6, z_8, z_9, z_10, z_12, z_16, z_30, z_31, z_99, z_300, z_500, z_600, z_20000, zadd, zsub, zmul, zneg, zap]
    have rx := hq.1
    have hq := hq.2
    have ry := hq.1
    have hq := hq.2
    refine ⟨fun c => ?_, fun c => ?_⟩
    · have hq := hq.1 ((z_le ry rx).mp c)
      have rx := hq.1
      have hq := hq.2
      refine ⟨fun c => ?_, fun c => ?_⟩
      · have hq := hq.1 ((z_le rx ⟨by decide, by decide⟩).mp c)
        exact hq
      · have hq := hq.2 (fun h => c ((z_le rx ⟨by decide, by decide⟩).mpr h))
        exact congrArg zI hq
    · have hq := hq.2 (fun h => c ((z_le ry rx).mpr h))
      have rx := hq.1
      have hq := hq.2
      refine ⟨fun c => ?_, fun c => ?_⟩
      · have hq := hq.1 ((z_le rx ⟨by decide, by decide⟩).mp c)
        have rx := hq.1
        have hq := hq.2
        refine ⟨fun c => ?_, fun c => ?_⟩
        · have hq := hq.1 ((z_le rx ⟨by decide, by decide⟩).mp c)
          exact hq
        · have hq := hq.2 (fun h => c ((z_le rx ⟨by decide, by decide⟩).mpr h))
          exact congrArg zI hq
      · have hq := hq.2 (fun h => c ((z_le rx ⟨by decide, by decide⟩).mpr h))
        have rx := hq.1
        have hq := hq.2
        have ry := hq.1
        have hq := hq.2
        refine ⟨fun c => ?_, fun c => ?_⟩
        · have hq := hq.1 ((z_eq rx ry).mp c)
          exact hq
        · have hq := hq.2 (fun h => c ((z_eq rx ry).mpr h))
          refine ⟨zin hq.1.1 hq.1.2 (by decide), ?_⟩
          try simp only [zcl hq.1.1 (Int.lt_trans hq.1.2 (by decide))]
          have hq := hq.2
          try simp only [z_m1, z_0, z_1, z_2, z_3, z_4, z_5, z_6, z_8, z_9, z_10, z_12, z_16, z_30, z_31, z_99, z_300, z_500, z_600, z_20000, zadd, zsub, zmul, zneg, zap]
          refine ⟨zin hq.1.1 hq.1.2 (by decide), ?_⟩
          try simp only [zcl hq.1.1 (Int.lt_trans hq.1.2 (by decide))]
          have hq := hq.2
          try simp only [z_m1, z_0, z_1, z_2, z_3, z_4, z_5, z_6, z_8, z_9, z_10, z_12, z_16, z_30, z_31, z_99, z_300, z_500, z_600, z_20000, zadd, zsub, zmul, zneg, zap]
          have rx := hq.1
          have hq := hq.2
          have ry := hq.1
          have hq := hq.2
          refine ⟨fun c => ?_, fun c => ?_⟩
          · have hq := hq.1 (fun h => c ((z_eq rx ry).mpr h))
            exact hq
          · have hq := hq.2 ((z_eq rx ry).mp c)
            refine ⟨zin hq.1.1 hq.1.2 (by decide), ?_⟩
            try simp only [zcl hq.1.1 (Int.lt_trans hq.1.2 (by decide))]
            have hq := hq.2
            try simp only [z_m1, z_0, z_1, z_2, z_3, z_4, z_5, z_6, z_8, z_9, z_10, z_12, z_16, z_30, z_31, z_99, z_300, z_500, z_600, z_20000, zadd, zsub, zmul, zneg, zap]
            have rx := hq.1
            have hq := hq.2
            refine ⟨fun c => ?_, fun c => ?_⟩
            · have hq := hq.1 (fun h => c ((z_eq rx ⟨by decide, by decide⟩).mpr h))
              exact hq
            · have hq := hq.2 ((z_eq rx ⟨by decide, by decide⟩).mp c)
              refine ⟨zin hq.1.1 hq.1.2 (by decide), ?_⟩
              try simp only [zcl hq.1.1 (Int.lt_trans hq.1.2 (by decide))]
              have hq := hq.2
              try simp only [z_m1, z_0, z_1, z_2, z_3, z_4, z_5, z_6, z_8, z_9, z_10, z_12, z_16, z_30, z_31, z_99, z_300, z_500, z_600, z_20000, zadd, zsub, zmul, zneg, zap]
              have rx := hq.1
              have hq := hq.2
              refine ⟨fun c => ?_, fun c => ?_⟩
              · have hq := hq.1 ((z_le rx ⟨by decide, by decide⟩).mp c)
                exact hq
              · have hq := hq.2 (fun h => c ((z_le rx ⟨by decide, by decide⟩).mpr h))
                exact hq)
  have hq := hq (by
    intro x2 x3 x4 x5 hq
    refine k104 (zI x2) (zI x3) (zI x4) (zI x5) ?_
    try simp only [z_m1, z_0, z_1, z_2, z_3, z_4, z_5, z_6, z_8, z_9, z_10, z_12, z_16, z_30, z_31, z_99, z_300, z_500, z_600, z_20000, zadd, zsub, zmul, zneg, zap]
    exact hq)
  have hq := hq (by
    intro x2 x3 x4 x5 t0 hq
    refine k105 (zI x2) (zI x3) (zI x4) (zI x5) (zI t0) ?_
    try simp only [z_m1, z_0, z_1, z_2, z_3, z_4, z_5, z_6, z_8, z_9, z_10, z_12, z_16, z_30, z_31, z_99, z_300, z_500, z_600, z_20000, zadd, zsub, zmul, zneg, zap]
    have rx := hq.1
    have hq := hq.2
    refine ⟨fun c => ?_, fun c => ?_⟩
    · have hq := hq.1 ((z_eq rx ⟨by decide, by decide⟩).mp c)
      exact hq
    · have hq := hq.2 (fun h => c ((z_eq rx ⟨by decide, by decide⟩).mpr h))
      refine ⟨zin hq.1.1 hq.1.2 (by decide), ?_⟩
      try simp only [zcl hq.1.1 (Int.lt_trans hq.1.2 (by decide))]
      have hq := hq.2
      try simp only [z_m1, z_0, z_1, z_2, z_3, z_4, z_5, z_6, z_8, z_9, z_10, z_12, z_16, z_30, z_31, z_99, z_300, z_500, z_600, z_20000, zadd, zsub, zmul, zneg, zap]
      exact hq)
  have hq := hq (by
    intro x2 x3 x5 x6 t0 t1 hq
    refine k129 (zI x2) (zI x3) (zI x5) (zI x6) (zI t0) (zI t1) ?_
    try simp only [z_m1, z_0, z_1, z_2, z_3, z_4, z_5, z_6, z_8, z_9, z_10, z_12, z_16, z_30, z_31, z_99, z_300, z_500, z_600, z_20000, zadd, zsub, zmul, zneg, zap]
    have rx := hq.1
    have hq := hq.2
    refine ⟨fun c => ?_, fun c => ?_⟩
    · have hq := hq.1 ((z_eq rx ⟨by decide, by decide⟩).mp c)
      simp only [zior hq.1 hq.2.1]
      have hq := hq.2.2
      try simp only [z_m1, z_0, z_1, z_2, z_3, z_4, z_5, z_6, z_8, z_9, z_10, z_12, z_16, z_30, z_31, z_99, z_300, z_500, z_600, z_20000, zadd, zsub, zmul, zneg, zap]
      exact hq
    · have hq := hq.2 (fun h => c ((z_eq rx ⟨by decide, by decide⟩).mpr h))
      simp only [zshl hq.1]
      have hq := hq.2
      try simp only [z_m1, z_0, z_1, z_2, z_3, z_4, z_5, z_6, z_8, z_9, z_10, z_12, z_16, z_30, z_31, z_99, z_300, z_500, z_600, z_20000, zadd, zsub, zmul, zneg, zap]
      simp only [zior hq.1 hq.2.1]
      have hq := hq.2.2
      try simp only [z_m1, z_0, z_1, z_2, z_3, z_4, z_5, z_6, z_8, z_9, z_10, z_12, z_16, z_30, z_31, z_99, z_300, z_500, z_600, z_20000, zadd, zsub, zmul, zneg, zap]
      exact hq)
  try simp only [z_m1, z_0, z_1, z_2, z_3, z_4, z_5, z_6, z_8, z_9, z_10, z_12, z_16, z_30, z_31, z_99, z_300, z_500, z_600, z_20000, zadd, zsub, zmul, zneg, zap]
  exact hq
def Q_X5_count (a0 : Int) (r : Int) : Prop := ∀ V4 : Int → Int → Prop, (∀ x1 x2 : Int, (inR x2 ∧ (((16 : Int) ≤ x2 → (r = x1)) ∧ (¬ (16 : Int) ≤ x2 → ((0 ≤ a0 ∧ a0 ≤ 2147483647) ∧ (0 ≤ x2 ∧ x2 < 32) ∧ ((0 ≤ (ishr a0 x2) ∧ (ishr a0 x2) ≤ 2147483647) ∧ (V4 (x1 + ((ishr a0 x2) % 2)) (x2 + (1 : Int)))))))) → V4 x1 x2) → (V4 (0 : Int) (0 : Int))
set_option maxRecDepth 100000 in
set_option maxHeartbeats 4000000 in
theorem t_X5_count (a0 : Int) (r : Int) (hq : Q_X5_count a0 r) : P_X5_count (zI a0) (zI r) := by
  intro V4 k4
  have hq := hq (fun x1 x2 => V4 (zI x1) (zI x2))
  have hq := hq (by
    intro x1 x2 hq
    refine k4 (zI x1) (zI x2) ?_
    try simp only [z_m1, z_0, z_1, z_2, z_3, z_4, z_5, z_6, z_8, z_9, z_10, z_12, z_16, z_30, z_31, z_99, z_300, z_500, z_600, z_20000, zadd, zsub, zmul, zneg, zap]
    have rx := hq.1
    have hq := hq.2
    refine ⟨fun c => ?_, fun c => ?_⟩
    · have hq := hq.1 ((z_le ⟨by decide, by decide⟩ rx).mp c)
      exact congrArg zI hq
    · have hq := hq.2 (fun h => c ((z_le ⟨by decide, by decide⟩ rx).mpr h))
      simp only [zshr hq.1 hq.2.1]
      have hq := hq.2.2
      try simp only [z_m1, z_0, z_1, z_2, z_3, z_4, z_5, z_6, z_8, z_9, z_10, z_12, z_16, z_30, z_31, z_99, z_300, z_500, z_600, z_20000, zadd, zsub, zmul, zneg, zap]
      rw [zand1 hq.1]
      have hq := hq.2
      try simp only [z_m1, z_0, z_1, z_2, z_3, z_4, z_5, z_6, z_8, z_9, z_10, z_12, z_16, z_30, z_31, z_99, z_300, z_500, z_600, z_20000, zadd, zsub, zmul, zneg, zap]
      exact hq)
  try simp only [z_m1, z_0, z_1, z_2, z_3, z_4, z_5, z_6, z_8, z_9, z_10, z_12, z_16, z_30, z_31, z_99, z_300, z_500, z_600, z_20000, zadd, zsub, zmul, zneg, zap]
  exact hq
def Q_X5_lendersOf (h : ISt) (a1 : Int) (r : Int) : Prop := ∀ V18 : Int → Prop, (∀ t0 : Int, (inR t0 ∧ ((¬ t0 = (-1 : Int) → (∃ r2 : Int, Q_X5_count t0 r2 ∧ (r = r2))) ∧ (t0 = (-1 : Int) → (r = (-1 : Int))))) → V18 t0) → ((0 ≤ a1 ∧ a1 < 16) ∧ (inR (h 13 a1.toNat) ∧ ((¬ (h 13 a1.toNat) = (0 : Int) → (V18 (-1 : Int))) ∧ ((h 13 a1.toNat) = (0 : Int) → (∃ r1 : Int, Q_X5_makes h a1 r1 ∧ (V18 r1))))))
set_option maxRecDepth 100000 in
set_option maxHeartbeats 4000000 in
theorem t_X5_lendersOf (h : ISt) (a1 : Int) (r : Int) (hq : Q_X5_lendersOf h a1 r) : P_X5_lendersOf (zS h) (zI a1) (zI r) := by
  intro V18 k18
  have hq := hq (fun t0 => V18 (zI t0))
  have hq := hq (by
    intro t0 hq
    refine k18 (zI t0) ?_
    try simp only [z_m1, z_0, z_1, z_2, z_3, z_4, z_5, z_6, z_8, z_9, z_10, z_12, z_16, z_30, z_31, z_99, z_300, z_500, z_600, z_20000, zadd, zsub, zmul, zneg, zap]
    have rx := hq.1
    have hq := hq.2
    refine ⟨fun c => ?_, fun c => ?_⟩
    · have hq := hq.1 (fun h => c ((z_eq rx ⟨by decide, by decide⟩).mpr h))
      obtain ⟨r2, hr2, hq⟩ := hq
      refine ⟨zI r2, t_X5_count t0 r2 hr2, ?_⟩
      try simp only [z_m1, z_0, z_1, z_2, z_3, z_4, z_5, z_6, z_8, z_9, z_10, z_12, z_16, z_30, z_31, z_99, z_300, z_500, z_600, z_20000, zadd, zsub, zmul, zneg, zap]
      exact congrArg zI hq
    · have hq := hq.2 ((z_eq rx ⟨by decide, by decide⟩).mp c)
      exact congrArg zI hq)
  try simp only [z_m1, z_0, z_1, z_2, z_3, z_4, z_5, z_6, z_8, z_9, z_10, z_12, z_16, z_30, z_31, z_99, z_300, z_500, z_600, z_20000, zadd, zsub, zmul, zneg, zap]
  refine ⟨zin hq.1.1 hq.1.2 (by decide), ?_⟩
  try simp only [zcl hq.1.1 (Int.lt_trans hq.1.2 (by decide))]
  have hq := hq.2
  try simp only [z_m1, z_0, z_1, z_2, z_3, z_4, z_5, z_6, z_8, z_9, z_10, z_12, z_16, z_30, z_31, z_99, z_300, z_500, z_600, z_20000, zadd, zsub, zmul, zneg, zap]
  have rx := hq.1
  have hq := hq.2
  refine ⟨fun c => ?_, fun c => ?_⟩
  · have hq := hq.1 (fun h => c ((z_eq rx ⟨by decide, by decide⟩).mpr h))
    exact hq
  · have hq := hq.2 ((z_eq rx ⟨by decide, by decide⟩).mp c)
    obtain ⟨r1, hr1, hq⟩ := hq
    refine ⟨zI r1, t_X5_makes h a1 r1 hr1, ?_⟩
    try simp only [z_m1, z_0, z_1, z_2, z_3, z_4, z_5, z_6, z_8, z_9, z_10, z_12, z_16, z_30, z_31, z_99, z_300, z_500, z_600, z_20000, zadd, zsub, zmul, zneg, zap]
    exact hq
def Q_X5_bestCopy (h : ISt) (a1 : Int) (r : Int) : Prop := ∀ V4 : Int → Int → Prop, ∀ V31 : Int → Int → Int → Prop, (∀ x2 x3 : Int, (inR x3 ∧ inR (h 0 19) ∧ (((h 0 19) ≤ x3 → (r = x2)) ∧ (¬ (h 0 19) ≤ x3 → ((0 ≤ x3 ∧ x3 < 16) ∧ (inR (h 12 x3.toNat) ∧ inR a1 ∧ ((¬ (h 12 x3.toNat) = a1 → (V31 x2 x3 (-1 : Int))) ∧ ((h 12 x3.toNat) = a1 → (∃ r1 : Int, Q_X5_lendersOf h x3 r1 ∧ (V31 x2 x3 r1))))))))) → V4 x2 x3) → (∀ x2 x3 t0 : Int, (inR t0 ∧ ((t0 = (-1 : Int) → (V4 x2 (x3 + (1 : Int)))) ∧ (¬ t0 = (-1 : Int) → (inR x2 ∧ ((x2 = (-1 : Int) → (V4 x3 (x3 + (1 : Int)))) ∧ (¬ x2 = (-1 : Int) → (∃ r2 : Int, Q_X5_lendersOf h x2 r2 ∧ (inR t0 ∧ inR r2 ∧ ((r2 ≤ t0 → (V4 x2 (x3 + (1 : Int)))) ∧ (¬ r2 ≤ t0 → (V4 x3 (x3 + (1 : Int))))))))))))) → V31 x2 x3 t0) → (V4 (-1 : Int) (0 : Int))
set_option maxRecDepth 100000 in
set_option maxHeartbeats 4000000 in
theorem t_X5_bestCopy (h : ISt) (a1 : Int) (r : Int) (hq : Q_X5_bestCopy h a1 r) : P_X5_bestCopy (zS h) (zI a1) (zI r) := by
  intro V4 V31 k4 k31
  have hq := hq (fun x2 x3 => V4 (zI x2) (zI x3)) (fun x2 x3 t0 => V31 (zI x2) (zI x3) (zI t0))
  have hq := hq (by
    intro x2 x3 hq
    refine k4 (zI x2) (zI x3) ?_
    try simp only [z_m1, z_0, z_1, z_2, z_3, z_4, z_5, z_6, z_8, z_9, z_10, z_12, z_16, z_30, z_31, z_99, z_300, z_500, z_600, z_20000, zadd, zsub, zmul, zneg, zap]
    have rx := hq.1
    have hq := hq.2
    have ry := hq.1
    have hq := hq.2
    refine ⟨fun c => ?_, fun c => ?_⟩
    · have hq := hq.1 ((z_le ry rx).mp c)
      exact congrArg zI hq
    · have hq := hq.2 (fun h => c ((z_le ry rx).mpr h))
      refine ⟨zin hq.1.1 hq.1.2 (by decide), ?_⟩
      try simp only [zcl hq.1.1 (Int.lt_trans hq.1.2 (by decide))]
      have hq := hq.2
      try simp only [z_m1, z_0, z_1, z_2, z_3, z_4, z_5, z_6, z_8, z_9, z_10, z_12, z_16, z_30, z_31, z_99, z_300, z_500, z_600, z_20000, zadd, zsub, zmul, zneg, zap]
      have rx := hq.1
      have hq := hq.2
      have ry := hq.1
      have hq := hq.2
      refine ⟨fun c => ?_, fun c => ?_⟩
      · have hq := hq.1 (fun h => c ((z_eq rx ry).mpr h))
        exact hq
      · have hq := hq.2 ((z_eq rx ry).mp c)
        obtain ⟨r1, hr1, hq⟩ := hq
        refine ⟨zI r1, t_X5_lendersOf h x3 r1 hr1, ?_⟩
        try simp only [z_m1, z_0, z_1, z_2, z_3, z_4, z_5, z_6, z_8, z_9, z_10, z_12, z_16, z_30, z_31, z_99, z_300, z_500, z_600, z_20000, zadd, zsub, zmul, zneg, zap]
        exact hq)
  have hq := hq (by
    intro x2 x3 t0 hq
    refine k31 (zI x2) (zI x3) (zI t0) ?_
    try simp only [z_m1, z_0, z_1, z_2, z_3, z_4, z_5, z_6, z_8, z_9, z_10, z_12, z_16, z_30, z_31, z_99, z_300, z_500, z_600, z_20000, zadd, zsub, zmul, zneg, zap]
    have rx := hq.1
    have hq := hq.2
    refine ⟨fun c => ?_, fun c => ?_⟩
    · have hq := hq.1 ((z_eq rx ⟨by decide, by decide⟩).mp c)
      exact hq
    · have hq := hq.2 (fun h => c ((z_eq rx ⟨by decide, by decide⟩).mpr h))
      have rx := hq.1
      have hq := hq.2
      refine ⟨fun c => ?_, fun c => ?_⟩
      · have hq := hq.1 ((z_eq rx ⟨by decide, by decide⟩).mp c)
        exact hq
      · have hq := hq.2 (fun h => c ((z_eq rx ⟨by decide, by decide⟩).mpr h))
        obtain ⟨r2, hr2, hq⟩ := hq
        refine ⟨zI r2, t_X5_lendersOf h x2 r2 hr2, ?_⟩
        try simp only [z_m1, z_0, z_1, z_2, z_3, z_4, z_5, z_6, z_8, z_9, z_10, z_12, z_16, z_30, z_31, z_99, z_300, z_500, z_600, z_20000, zadd, zsub, zmul, zneg, zap]
        have rx := hq.1
        have hq := hq.2
        have ry := hq.1
        have hq := hq.2
        refine ⟨fun c => ?_, fun c => ?_⟩
        · have hq := hq.1 ((z_le ry rx).mp c)
          exact hq
        · have hq := hq.2 (fun h => c ((z_le ry rx).mpr h))
          exact hq)
  try simp only [z_m1, z_0, z_1, z_2, z_3, z_4, z_5, z_6, z_8, z_9, z_10, z_12, z_16, z_30, z_31, z_99, z_300, z_500, z_600, z_20000, zadd, zsub, zmul, zneg, zap]
  exact hq
def Q_X5_isOffered (h : ISt) (a1 : Int) (a2 : Int) (r : Int) : Prop := ∀ V48 : Prop, ∀ V49 : Int → Prop, ((V49 (0 : Int)) → V48) → (∀ t0 : Int, (inR t0 ∧ ((t0 = (0 : Int) → (r = (0 : Int))) ∧ (¬ t0 = (0 : Int) → (∃ r2 : Int, Q_X5_leftOf h a1 r2 ∧ ((0 ≤ a2 ∧ a2 < 8) ∧ (inR r2 ∧ inR (h 10 a2.toNat) ∧ ((r2 < (h 10 a2.toNat) → (r = (0 : Int))) ∧ (¬ r2 < (h 10 a2.toNat) → (∃ r3 : Int, Q_X5_bestCopy h a2 r3 ∧ (inR r3 ∧ ((r3 = (-1 : Int) → (r = (0 : Int))) ∧ (¬ r3 = (-1 : Int) → (r = (1 : Int)))))))))))))) → V49 t0) → ((0 ≤ a1 ∧ a1 < 30) ∧ (inR (h 5 a1.toNat) ∧ ((¬ (h 5 a1.toNat) = (1 : Int) → (V48)) ∧ ((h 5 a1.toNat) = (1 : Int) → ((0 ≤ a1 ∧ a1 < 30) ∧ (inR (h 7 a1.toNat) ∧ ((¬ (h 7 a1.toNat) = (-1 : Int) → (V48)) ∧ ((h 7 a1.toNat) = (-1 : Int) → ((0 ≤ a1 ∧ a1 < 30) ∧ ((0 ≤ a2 ∧ a2 < 8) ∧ ((0 ≤ a2 ∧ a2 < 8) ∧ (∃ r1 : Int, Q_X5_isIn (h 3 a1.toNat) (h 8 a2.toNat) (h 9 a2.toNat) r1 ∧ (inR r1 ∧ ((r1 = (0 : Int) → (V48)) ∧ (¬ r1 = (0 : Int) → (V49 (1 : Int)))))))))))))))))
set_option maxRecDepth 100000 in
set_option maxHeartbeats 4000000 in
theorem t_X5_isOffered (h : ISt) (a1 : Int) (a2 : Int) (r : Int) (hq : Q_X5_isOffered h a1 a2 r) : P_X5_isOffered (zS h) (zI a1) (zI a2) (zI r) := by
  intro V48 V49 k48 k49
  have hq := hq V48 (fun t0 => V49 (zI t0))
  have hq := hq (by
    intro hq
    refine k48 ?_
    try simp only [z_m1, z_0, z_1, z_2, z_3, z_4, z_5, z_6, z_8, z_9, z_10, z_12, z_16, z_30, z_31, z_99, z_300, z_500, z_600, z_20000, zadd, zsub, zmul, zneg, zap]
    exact hq)
  have hq := hq (by
    intro t0 hq
    refine k49 (zI t0) ?_
    try simp only [z_m1, z_0, z_1, z_2, z_3, z_4, z_5, z_6, z_8, z_9, z_10, z_12, z_16, z_30, z_31, z_99, z_300, z_500, z_600, z_20000, zadd, zsub, zmul, zneg, zap]
    have rx := hq.1
    have hq := hq.2
    refine ⟨fun c => ?_, fun c => ?_⟩
    · have hq := hq.1 ((z_eq rx ⟨by decide, by decide⟩).mp c)
      exact congrArg zI hq
    · have hq := hq.2 (fun h => c ((z_eq rx ⟨by decide, by decide⟩).mpr h))
      obtain ⟨r2, hr2, hq⟩ := hq
      refine ⟨zI r2, t_X5_leftOf h a1 r2 hr2, ?_⟩
      try simp only [z_m1, z_0, z_1, z_2, z_3, z_4, z_5, z_6, z_8, z_9, z_10, z_12, z_16, z_30, z_31, z_99, z_300, z_500, z_600, z_20000, zadd, zsub, zmul, zneg, zap]
      refine ⟨zin hq.1.1 hq.1.2 (by decide), ?_⟩
      try simp only [zcl hq.1.1 (Int.lt_trans hq.1.2 (by decide))]
      have hq := hq.2
      try simp only [z_m1, z_0, z_1, z_2, z_3, z_4, z_5, z_6, z_8, z_9, z_10, z_12, z_16, z_30, z_31, z_99, z_300, z_500, z_600, z_20000, zadd, zsub, zmul, zneg, zap]
      have rx := hq.1
      have hq := hq.2
      have ry := hq.1
      have hq := hq.2
      refine ⟨fun c => ?_, fun c => ?_⟩
      · have hq := hq.1 ((z_lt rx ry).mp c)
        exact congrArg zI hq
      · have hq := hq.2 (fun h => c ((z_lt rx ry).mpr h))
        obtain ⟨r3, hr3, hq⟩ := hq
        refine ⟨zI r3, t_X5_bestCopy h a2 r3 hr3, ?_⟩
        try simp only [z_m1, z_0, z_1, z_2, z_3, z_4, z_5, z_6, z_8, z_9, z_10, z_12, z_16, z_30, z_31, z_99, z_300, z_500, z_600, z_20000, zadd, zsub, zmul, zneg, zap]
        have rx := hq.1
        have hq := hq.2
        refine ⟨fun c => ?_, fun c => ?_⟩
        · have hq := hq.1 ((z_eq rx ⟨by decide, by decide⟩).mp c)
          exact congrArg zI hq
        · have hq := hq.2 (fun h => c ((z_eq rx ⟨by decide, by decide⟩).mpr h))
          exact congrArg zI hq)
  try simp only [z_m1, z_0, z_1, z_2, z_3, z_4, z_5, z_6, z_8, z_9, z_10, z_12, z_16, z_30, z_31, z_99, z_300, z_500, z_600, z_20000, zadd, zsub, zmul, zneg, zap]
  refine ⟨zin hq.1.1 hq.1.2 (by decide), ?_⟩
  try simp only [zcl hq.1.1 (Int.lt_trans hq.1.2 (by decide))]
  have hq := hq.2
  try simp only [z_m1, z_0, z_1, z_2, z_3, z_4, z_5, z_6, z_8, z_9, z_10, z_12, z_16, z_30, z_31, z_99, z_300, z_500, z_600, z_20000, zadd, zsub, zmul, zneg, zap]
  have rx := hq.1
  have hq := hq.2
  refine ⟨fun c => ?_, fun c => ?_⟩
  · have hq := hq.1 (fun h => c ((z_eq rx ⟨by decide, by decide⟩).mpr h))
    exact hq
  · have hq := hq.2 ((z_eq rx ⟨by decide, by decide⟩).mp c)
    refine ⟨zin hq.1.1 hq.1.2 (by decide), ?_⟩
    try simp only [zcl hq.1.1 (Int.lt_trans hq.1.2 (by decide))]
    have hq := hq.2
    try simp only [z_m1, z_0, z_1, z_2, z_3, z_4, z_5, z_6, z_8, z_9, z_10, z_12, z_16, z_30, z_31, z_99, z_300, z_500, z_600, z_20000, zadd, zsub, zmul, zneg, zap]
    have rx := hq.1
    have hq := hq.2
    refine ⟨fun c => ?_, fun c => ?_⟩
    · have hq := hq.1 (fun h => c ((z_eq rx ⟨by decide, by decide⟩).mpr h))
      exact hq
    · have hq := hq.2 ((z_eq rx ⟨by decide, by decide⟩).mp c)
      refine ⟨zin hq.1.1 hq.1.2 (by decide), ?_⟩
      try simp only [zcl hq.1.1 (Int.lt_trans hq.1.2 (by decide))]
      have hq := hq.2
      try simp only [z_m1, z_0, z_1, z_2, z_3, z_4, z_5, z_6, z_8, z_9, z_10, z_12, z_16, z_30, z_31, z_99, z_300, z_500, z_600, z_20000, zadd, zsub, zmul, zneg, zap]
      refine ⟨zin hq.1.1 hq.1.2 (by decide), ?_⟩
      try simp only [zcl hq.1.1 (Int.lt_trans hq.1.2 (by decide))]
      have hq := hq.2
      try simp only [z_m1, z_0, z_1, z_2, z_3, z_4, z_5, z_6, z_8, z_9, z_10, z_12, z_16, z_30, z_31, z_99, z_300, z_500, z_600, z_20000, zadd, zsub, zmul, zneg, zap]
      refine ⟨zin hq.1.1 hq.1.2 (by decide), ?_⟩
      try simp only [zcl hq.1.1 (Int.lt_trans hq.1.2 (by decide))]
      have hq := hq.2
      try simp only [z_m1, z_0, z_1, z_2, z_3, z_4, z_5, z_6, z_8, z_9, z_10, z_12, z_16, z_30, z_31, z_99, z_300, z_500, z_600, z_20000, zadd, zsub, zmul, zneg, zap]
      obtain ⟨r1, hr1, hq⟩ := hq
      refine ⟨zI r1, t_X5_isIn (h 3 a1.toNat) (h 8 a2.toNat) (h 9 a2.toNat) r1 hr1, ?_⟩
      try simp only [z_m1, z_0, z_1, z_2, z_3, z_4, z_5, z_6, z_8, z_9, z_10, z_12, z_16, z_30, z_31, z_99, z_300, z_500, z_600, z_20000, zadd, zsub, zmul, zneg, zap]
      have rx := hq.1
      have hq := hq.2
      refine ⟨fun c => ?_, fun c => ?_⟩
      · have hq := hq.1 ((z_eq rx ⟨by decide, by decide⟩).mp c)
        exact hq
      · have hq := hq.2 (fun h => c ((z_eq rx ⟨by decide, by decide⟩).mpr h))
        exact hq
def Q_X5_offersTo (h : ISt) (a1 : Int) (r : Int) : Prop := ∀ V4 : Int → Int → Prop, (∀ x2 x3 : Int, (inR x3 ∧ inR (h 0 15) ∧ (((h 0 15) ≤ x3 → (r = x2)) ∧ (¬ (h 0 15) ≤ x3 → (∃ r1 : Int, Q_X5_isOffered h a1 x3 r1 ∧ (inR r1 ∧ ((r1 = (0 : Int) → (V4 (x2 + (0 : Int)) (x3 + (1 : Int)))) ∧ (¬ r1 = (0 : Int) → (V4 (x2 + (1 : Int)) (x3 + (1 : Int)))))))))) → V4 x2 x3) → (V4 (0 : Int) (0 : Int))
set_option maxRecDepth 100000 in
set_option maxHeartbeats 4000000 in
theorem t_X5_offersTo (h : ISt) (a1 : Int) (r : Int) (hq : Q_X5_offersTo h a1 r) : P_X5_offersTo (zS h) (zI a1) (zI r) := by
  intro V4 k4
  have hq := hq (fun x2 x3 => V4 (zI x2) (zI x3))
  have hq := hq (by
    intro x2 x3 hq
    refine k4 (zI x2) (zI x3) ?_
    try simp only [z_m1, z_0, z_1, z_2, z_3, z_4, z_5, z_6, z_8, z_9, z_10, z_12, z_16, z_30, z_31, z_99, z_300, z_500, z_600, z_20000, zadd, zsub, zmul, zneg, zap]
    have rx := hq.1
    have hq := hq.2
    have ry := hq.1
    have hq := hq.2
    refine ⟨fun c => ?_, fun c => ?_⟩
    · have hq := hq.1 ((z_le ry rx).mp c)
      exact congrArg zI hq
    · have hq := hq.2 (fun h => c ((z_le ry rx).mpr h))
      obtain ⟨r1, hr1, hq⟩ := hq
      refine ⟨zI r1, t_X5_isOffered h a1 x3 r1 hr1, ?_⟩
      try simp only [z_m1, z_0, z_1, z_2, z_3, z_4, z_5, z_6, z_8, z_9, z_10, z_12, z_16, z_30, z_31, z_99, z_300, z_500, z_600, z_20000, zadd, zsub, zmul, zneg, zap]
      have rx := hq.1
      have hq := hq.2
      refine ⟨fun c => ?_, fun c => ?_⟩
      · have hq := hq.1 ((z_eq rx ⟨by decide, by decide⟩).mp c)
        exact hq
      · have hq := hq.2 (fun h => c ((z_eq rx ⟨by decide, by decide⟩).mpr h))
        exact hq)
  try simp only [z_m1, z_0, z_1, z_2, z_3, z_4, z_5, z_6, z_8, z_9, z_10, z_12, z_16, z_30, z_31, z_99, z_300, z_500, z_600, z_20000, zadd, zsub, zmul, zneg, zap]
  exact hq
def Q_X5_offers (h : ISt) (a1 : Int) (r : Int) (h' : ISt) : Prop := ∀ V14 : ISt → Int → Prop, (∀ hv : ISt, ∀ t0 : Int, (∃ (r2 : Int) (h3 : ISt), Q_X5_isFine hv t0 r2 h3 ∧ (inR r2 ∧ ((r2 = (0 : Int) → (r = (0 : Int) ∧ h' = h3)) ∧ (¬ r2 = (0 : Int) → (∃ r4 : Int, Q_X5_offersTo h3 a1 r4 ∧ (r = r4 ∧ h' = h3)))))) → V14 hv t0) → (∃ r1 : Int, Q_X5_isGroup h a1 r1 ∧ (inR r1 ∧ ((r1 = (0 : Int) → (V14 h (1 : Int))) ∧ (¬ r1 = (0 : Int) → (V14 h (0 : Int))))))
set_option maxRecDepth 100000 in
set_option maxHeartbeats 4000000 in
theorem t_X5_offers (h : ISt) (a1 : Int) (r : Int) (h' : ISt) (hq : Q_X5_offers h a1 r h') : P_X5_offers (zS h) (zI a1) (zI r) (zS h') := by
  intro V14 k14
  have hq := hq (fun hv t0 => V14 (zS hv) (zI t0))
  have hq := hq (by
    intro hv t0 hq
    refine k14 (zS hv) (zI t0) ?_
    try simp only [z_m1, z_0, z_1, z_2, z_3, z_4, z_5, z_6, z_8, z_9, z_10, z_12, z_16, z_30, z_31, z_99, z_300, z_500, z_600, z_20000, zadd, zsub, zmul, zneg, zap]
    obtain ⟨r2, h3, hh3, hq⟩ := hq
    refine ⟨zI r2, zS h3, t_X5_isFine hv t0 r2 h3 hh3, ?_⟩
    try simp only [z_m1, z_0, z_1, z_2, z_3, z_4, z_5, z_6, z_8, z_9, z_10, z_12, z_16, z_30, z_31, z_99, z_300, z_500, z_600, z_20000, zadd, zsub, zmul, zneg, zap]
    have rx := hq.1
    have hq := hq.2
    refine ⟨fun c => ?_, fun c => ?_⟩
    · have hq := hq.1 ((z_eq rx ⟨by decide, by decide⟩).mp c)
      exact ⟨congrArg zI hq.1, congrArg zS hq.2⟩
    · have hq := hq.2 (fun h => c ((z_eq rx ⟨by decide, by decide⟩).mpr h))
      obtain ⟨r4, hr4, hq⟩ := hq
      refine ⟨zI r4, t_X5_offersTo h3 a1 r4 hr4, ?_⟩
      try simp only [z_m1, z_0, z_1, z_2, z_3, z_4, z_5, z_6, z_8, z_9, z_10, z_12, z_16, z_30, z_31, z_99, z_300, z_500, z_600, z_20000, zadd, zsub, zmul, zneg, zap]
      exact ⟨congrArg zI hq.1, congrArg zS hq.2⟩)
  try simp only [z_m1, z_0, z_1, z_2, z_3, z_4, z_5, z_6, z_8, z_9, z_10, z_12, z_16, z_30, z_31, z_99, z_300, z_500, z_600, z_20000, zadd, zsub, zmul, zneg, zap]
  obtain ⟨r1, hr1, hq⟩ := hq
  refine ⟨zI r1, t_X5_isGroup h a1 r1 hr1, ?_⟩
  try simp only [z_m1, z_0, z_1, z_2, z_3, z_4, z_5, z_6, z_8, z_9, z_10, z_12, z_16, z_30, z_31, z_99, z_300, z_500, z_600, z_20000, zadd, zsub, zmul, zneg, zap]
  have rx := hq.1
  have hq := hq.2
  refine ⟨fun c => ?_, fun c => ?_⟩
  · have hq := hq.1 ((z_eq rx ⟨by decide, by decide⟩).mp c)
    exact hq
  · have hq := hq.2 (fun h => c ((z_eq rx ⟨by decide, by decide⟩).mpr h))
    exact hq
def Q_X5_ahead (h : ISt) (a1 : Int) (a2 : Int) (r : Int) : Prop := ∀ V5 : Int → Int → Prop, ∀ V52 : Int → Int → Prop, ∀ V56 : Int → Int → Prop, ∀ V57 : Int → Int → Int → Prop, (∀ x3 x4 : Int, (inR x4 ∧ inR (h 0 15) ∧ (((h 0 15) ≤ x4 → (r = x3)) ∧ (¬ (h 0 15) ≤ x4 → ((0 ≤ x4 ∧ x4 < 8) ∧ ((0 ≤ a2 ∧ a2 < 8) ∧ (inR (h 10 x4.toNat) ∧ inR (h 10 a2.toNat) ∧ (((h 10 a2.toNat) < (h 10 x4.toNat) → (V52 x3 x4)) ∧ (¬ (h 10 a2.toNat) < (h 10 x4.toNat) → ((0 ≤ x4 ∧ x4 < 8) ∧ ((0 ≤ a2 ∧ a2 < 8) ∧ (inR (h 10 x4.toNat) ∧ inR (h 10 a2.toNat) ∧ ((¬ (h 10 x4.toNat) = (h 10 a2.toNat) → (V56 x3 x4)) ∧ ((h 10 x4.toNat) = (h 10 a2.toNat) → (inR x4 ∧ inR a2 ∧ ((a2 ≤ x4 → (V56 x3 x4)) ∧ (¬ a2 ≤ x4 → (V52 x3 x4))))))))))))))))) → V5 x3 x4) → (∀ x3 x4 : Int, (V57 x3 x4 (1 : Int)) → V52 x3 x4) → (∀ x3 x4 : Int, (V57 x3 x4 (0 : Int)) → V56 x3 x4) → (∀ x3 x4 t0 : Int, (inR t0 ∧ ((t0 = (0 : Int) → (V5 (x3 + (0 : Int)) (x4 + (1 : Int)))) ∧ (¬ t0 = (0 : Int) → (∃ r1 : Int, Q_X5_isOffered h a1 x4 r1 ∧ (inR r1 ∧ ((r1 = (0 : Int) → (V5 (x3 + (0 : Int)) (x4 + (1 : Int)))) ∧ (¬ r1 = (0 : Int) → (V5 (x3 + (1 : Int)) (x4 + (1 : Int)))))))))) → V57 x3 x4 t0) → (V5 (0 : Int) (0 : Int))
set_option maxRecDepth 100000 in
set_option maxHeartbeats 4000000 in
theorem t_X5_ahead (h : ISt) (a1 : Int) (a2 : Int) (r : Int) (hq : Q_X5_ahead h a1 a2 r) : P_X5_ahead (zS h) (zI a1) (zI a2) (zI r) := by
  intro V5 V52 V56 V57 k5 k52 k56 k57
  have hq := hq (fun x3 x4 => V5 (zI x3) (zI x4)) (fun x3 x4 => V52 (zI x3) (zI x4)) (fun x3 x4 => V56 (zI x3) (zI x4)) (fun x3 x4 t0 => V57 (zI x3) (zI x4) (zI t0))
  have hq := hq (by
    intro x3 x4 hq
    refine k5 (zI x3) (zI x4) ?_
    try simp only [z_m1, z_0, z_1, z_2, z_3, z_4, z_5, z_6, z_8, z_9, z_10, z_12, z_16, z_30, z_31, z_99, z_300, z_500, z_600, z_20000, zadd, zsub, zmul, zneg, zap]
    have rx := hq.1
    have hq := hq.2
    have ry := hq.1
    have hq := hq.2
    refine ⟨fun c => ?_, fun c => ?_⟩
    · have hq := hq.1 ((z_le ry rx).mp c)
      exact congrArg zI hq
    · have hq := hq.2 (fun h => c ((z_le ry rx).mpr h))
      refine ⟨zin hq.1.1 hq.1.2 (by decide), ?_⟩
      try simp only [zcl hq.1.1 (Int.lt_trans hq.1.2 (by decide))]
      have hq := hq.2
      try simp only [z_m1, z_0, z_1, z_2, z_3, z_4, z_5, z_6, z_8, z_9, z_10, z_12, z_16, z_30, z_31, z_99, z_300, z_500, z_600, z_20000, zadd, zsub, zmul, zneg, zap]
      refine ⟨zin hq.1.1 hq.1.2 (by decide), ?_⟩
      try simp only [zcl hq.1.1 (Int.lt_trans hq.1.2 (by decide))]
      have hq := hq.2
      try simp only [z_m1, z_0, z_1, z_2, z_3, z_4, z_5, z_6, z_8, z_9, z_10, z_12, z_16, z_30, z_31, z_99, z_300, z_500, z_600, z_20000, zadd, zsub, zmul, zneg, zap]
      have rx := hq.1
      have hq := hq.2
      have ry := hq.1
      have hq := hq.2
      refine ⟨fun c => ?_, fun c => ?_⟩
      · have hq := hq.1 ((z_lt ry rx).mp c)
        exact hq
      · have hq := hq.2 (fun h => c ((z_lt ry rx).mpr h))
        refine ⟨zin hq.1.1 hq.1.2 (by decide), ?_⟩
        try simp only [zcl hq.1.1 (Int.lt_trans hq.1.2 (by decide))]
        have hq := hq.2
        try simp only [z_m1, z_0, z_1, z_2, z_3, z_4, z_5, z_6, z_8, z_9, z_10, z_12, z_16, z_30, z_31, z_99, z_300, z_500, z_600, z_20000, zadd, zsub, zmul, zneg, zap]
        refine ⟨zin hq.1.1 hq.1.2 (by decide), ?_⟩
        try simp only [zcl hq.1.1 (Int.lt_trans hq.1.2 (by decide))]
        have hq := hq.2
        try simp only [z_m1, z_0, z_1, z_2, z_3, z_4, z_5, z_6, z_8, z_9, z_10, z_12, z_16, z_30, z_31, z_99, z_300, z_500, z_600, z_20000, zadd, zsub, zmul, zneg, zap]
        have rx := hq.1
        have hq := hq.2
        have ry := hq.1
        have hq := hq.2
        refine ⟨fun c => ?_, fun c => ?_⟩
        · have hq := hq.1 (fun h => c ((z_eq rx ry).mpr h))
          exact hq
        · have hq := hq.2 ((z_eq rx ry).mp c)
          have rx := hq.1
          have hq := hq.2
          have ry := hq.1
          have hq := hq.2
          refine ⟨fun c => ?_, fun c => ?_⟩
          · have hq := hq.1 ((z_le ry rx).mp c)
            exact hq
          · have hq := hq.2 (fun h => c ((z_le ry rx).mpr h))
            exact hq)
  have hq := hq (by
    intro x3 x4 hq
    refine k52 (zI x3) (zI x4) ?_
    try simp only [z_m1, z_0, z_1, z_2, z_3, z_4, z_5, z_6, z_8, z_9, z_10, z_12, z_16, z_30, z_31, z_99, z_300, z_500, z_600, z_20000, zadd, zsub, zmul, zneg, zap]
    exact hq)
  have hq := hq (by
    intro x3 x4 hq
    refine k56 (zI x3) (zI x4) ?_
    try simp only [z_m1, z_0, z_1, z_2, z_3, z_4, z_5, z_6, z_8, z_9, z_10, z_12, z_16, z_30, z_31, z_99, z_300, z_500, z_600, z_20000, zadd, zsub, zmul, zneg, zap]
    exact hq)
  have hq := hq (by
    intro x3 x4 t0 hq
    refine k57 (zI x3) (zI x4) (zI t0) ?_
    try simp only [z_m1, z_0, z_1, z_2, z_3, z_4, z_5, z_6, z_8, z_9, z_10, z_12, z_16, z_30, z_31, z_99, z_300, z_500, z_600, z_20000, zadd, zsub, zmul, zneg, zap]
    have rx := hq.1
    have hq := hq.2
    refine ⟨fun c => ?_, fun c => ?_⟩
    · have hq := hq.1 ((z_eq rx ⟨by decide, by decide⟩).mp c)
      exact hq
    · have hq := hq.2 (fun h => c ((z_eq rx ⟨by decide, by decide⟩).mpr h))
      obtain ⟨r1, hr1, hq⟩ := hq
      refine ⟨zI r1, t_X5_isOffered h a1 x4 r1 hr1, ?_⟩
      try simp only [z_m1, z_0, z_1, z_2, z_3, z_4, z_5, z_6, z_8, z_9, z_10, z_12, z_16, z_30, z_31, z_99, z_300, z_500, z_600, z_20000, zadd, zsub, zmul, zneg, zap]
      have rx := hq.1
      have hq := hq.2
      refine ⟨fun c => ?_, fun c => ?_⟩
      · have hq := hq.1 ((z_eq rx ⟨by decide, by decide⟩).mp c)
        exact hq
      · have hq := hq.2 (fun h => c ((z_eq rx ⟨by decide, by decide⟩).mpr h))
        exact hq)
  try simp only [z_m1, z_0, z_1, z_2, z_3, z_4, z_5, z_6, z_8, z_9, z_10, z_12, z_16, z_30, z_31, z_99, z_300, z_500, z_600, z_20000, zadd, zsub, zmul, zneg, zap]
  exact hq
def Q_X5_offerAt (h : ISt) (a1 : Int) (a2 : Int) (r : Int) (h' : ISt) : Prop := ∀ V30 : ISt → Prop, ∀ V31 : ISt → Int → Prop, ∀ V45 : ISt → Int → Int → Prop, (∀ hv : ISt, (V31 hv (1 : Int)) → V30 hv) → (∀ hv : ISt, ∀ t0 : Int, (∃ (r4 : Int) (h5 : ISt), Q_X5_isFine hv t0 r4 h5 ∧ (inR r4 ∧ ((¬ r4 = (0 : Int) → (V45 h5 (-1 : Int) (0 : Int))) ∧ (r4 = (0 : Int) → (r = (0 : Int) ∧ h' = h5))))) → V31 hv t0) → (∀ hv : ISt, ∀ x4 x5 : Int, (inR x5 ∧ inR (hv 0 15) ∧ (((hv 0 15) ≤ x5 → (r = x4 ∧ h' = hv)) ∧ (¬ (hv 0 15) ≤ x5 → (∃ r6 : Int, Q_X5_isOffered hv a1 x5 r6 ∧ (inR r6 ∧ ((r6 = (0 : Int) → (V45 hv x4 (x5 + (1 : Int)))) ∧ (¬ r6 = (0 : Int) → (∃ r7 : Int, Q_X5_ahead hv a1 x5 r7 ∧ (inR r7 ∧ inR a2 ∧ ((¬ r7 = a2 → (V45 hv x4 (x5 + (1 : Int)))) ∧ (r7 = a2 → (V45 hv x5 (x5 + (1 : Int)))))))))))))) → V45 hv x4 x5) → (∃ r1 : Int, Q_X5_isGroup h a1 r1 ∧ (inR r1 ∧ ((r1 = (0 : Int) → (V30 h)) ∧ (¬ r1 = (0 : Int) → (∃ r2 : Int, Q_X5_offersTo h a1 r2 ∧ (∃ r3 : Int, Q_X5_isIn a2 (0 : Int) (r2 - (1 : Int)) r3 ∧ (inR r3 ∧ ((r3 = (0 : Int) → (V30 h)) ∧ (¬ r3 = (0 : Int) → (V31 h (0 : Int)))))))))))
set_option maxRecDepth 100000 in
set_option maxHeartbeats 4000000 in
theorem t_X5_offerAt (h : ISt) (a1 : Int) (a2 : Int) (r : Int) (h' : ISt) (hq : Q_X5_offerAt h a1 a2 r h') : P_X5_offerAt (zS h) (zI a1) (zI a2) (zI r) (zS h') := by
  intro V30 V31 V45 k30 k31 k45
  have hq := hq (fun hv => V30 (zS hv)) (fun hv t0 => V31 (zS hv) (zI t0)) (fun hv x4 x5 => V45 (zS hv) (zI x4) (zI x5))
  have hq := hq (by
    intro hv hq
    refine k30 (zS hv) ?_
    try simp only [z_m1, z_0, z_1, z_2, z_3, z_4, z_5, z_6, z_8, z_9, z_10, z_12, z_16, z_30, z_31, z_99, z_300, z_500, z_600, z_20000, zadd, zsub, zmul, zneg, zap]
    exact hq)
  have hq := hq (by
    intro hv t0 hq
    refine k31 (zS hv) (zI t0) ?_
    try simp only [z_m1, z_0, z_1, z_2, z_3, z_4, z_5, z_6, z_8, z_9, z_10, z_12, z_16, z_30, z_31, z_99, z_300, z_500, z_600, z_20000, zadd, zsub, zmul, zneg, zap]
    obtain ⟨r4, h5, hh5, hq⟩ := hq
    refine ⟨zI r4, zS h5, t_X5_isFine hv t0 r4 h5 hh5, ?_⟩
    try simp only [z_m1, z_0, z_1, z_2, z_3, z_4, z_5, z_6, z_8, z_9, z_10, z_12, z_16, z_30, z_31, z_99, z_300, z_500, z_600, z_20000, zadd, zsub, zmul, zneg, zap]
    have rx := hq.1
    have hq := hq.2
    refine ⟨fun c => ?_, fun c => ?_⟩
    · have hq := hq.1 (fun h => c ((z_eq rx ⟨by decide, by decide⟩).mpr h))
      exact hq
    · have hq := hq.2 ((z_eq rx ⟨by decide, by decide⟩).mp c)
      exact ⟨congrArg zI hq.1, congrArg zS hq.2⟩)
  have hq := hq (by
    intro hv x4 x5 hq
    refine k45 (zS hv) (zI x4) (zI x5) ?_
    try simp only [z_m1, z_0, z_1, z_2, z_3, z_4, z_5, z_6, z_8, z_9, z_10, z_12, z_16, z_30, z_31, z_99, z_300, z_500, z_600, z_20000, zadd, zsub, zmul, zneg, zap]
    have rx := hq.1
    have hq := hq.2
    have ry := hq.1
    have hq := hq.2
    refine ⟨fun c => ?_, fun c => ?_⟩
    · have hq := hq.1 ((z_le ry rx).mp c)
      exact ⟨congrArg zI hq.1, congrArg zS hq.2⟩
    · have hq := hq.2 (fun h => c ((z_le ry rx).mpr h))
      obtain ⟨r6, hr6, hq⟩ := hq
      refine ⟨zI r6, t_X5_isOffered hv a1 x5 r6 hr6, ?_⟩
      try simp only [z_m1, z_0, z_1, z_2, z_3, z_4, z_5, z_6, z_8, z_9, z_10, z_12, z_16, z_30, z_31, z_99, z_300, z_500, z_600, z_20000, zadd, zsub, zmul, zneg, zap]
      have rx := hq.1
      have hq := hq.2
      refine ⟨fun c => ?_, fun c => ?_⟩
      · have hq := hq.1 ((z_eq rx ⟨by decide, by decide⟩).mp c)
        exact hq
      · have hq := hq.2 (fun h => c ((z_eq rx ⟨by decide, by decide⟩).mpr h))
        obtain ⟨r7, hr7, hq⟩ := hq
        refine ⟨zI r7, t_X5_ahead hv a1 x5 r7 hr7, ?_⟩
        try simp only [z_m1, z_0, z_1, z_2, z_3, z_4, z_5, z_6, z_8, z_9, z_10, z_12, z_16, z_30, z_31, z_99, z_300, z_500, z_600, z_20000, zadd, zsub, zmul, zneg, zap]
        have rx := hq.1
        have hq := hq.2
        have ry := hq.1
        have hq := hq.2
        refine ⟨fun c => ?_, fun c => ?_⟩
        · have hq := hq.1 (fun h => c ((z_eq rx ry).mpr h))
          exact hq
        · have hq := hq.2 ((z_eq rx ry).mp c)
          exact hq)
  try simp only [z_m1, z_0, z_1, z_2, z_3, z_4, z_5, z_6, z_8, z_9, z_10, z_12, z_16, z_30, z_31, z_99, z_300, z_500, z_600, z_20000, zadd, zsub, zmul, zneg, zap]
  obtain ⟨r1, hr1, hq⟩ := hq
  refine ⟨zI r1, t_X5_isGroup h a1 r1 hr1, ?_⟩
  try simp only [z_m1, z_0, z_1, z_2, z_3, z_4, z_5, z_6, z_8, z_9, z_10, z_12, z_16, z_30, z_31, z_99, z_300, z_500, z_600, z_20000, zadd, zsub, zmul, zneg, zap]
  have rx := hq.1
  have hq := hq.2
  refine ⟨fun c => ?_, fun c => ?_⟩
  · have hq := hq.1 ((z_eq rx ⟨by decide, by decide⟩).mp c)
    exact hq
  · have hq := hq.2 (fun h => c ((z_eq rx ⟨by decide, by decide⟩).mpr h))
    obtain ⟨r2, hr2, hq⟩ := hq
    refine ⟨zI r2, t_X5_offersTo h a1 r2 hr2, ?_⟩
    try simp only [z_m1, z_0, z_1, z_2, z_3, z_4, z_5, z_6, z_8, z_9, z_10, z_12, z_16, z_30, z_31, z_99, z_300, z_500, z_600, z_20000, zadd, zsub, zmul, zneg, zap]
    obtain ⟨r3, hr3, hq⟩ := hq
    refine ⟨zI r3, t_X5_isIn a2 (0 : Int) (r2 - (1 : Int)) r3 hr3, ?_⟩
    try simp only [z_m1, z_0, z_1, z_2, z_3, z_4, z_5, z_6, z_8, z_9, z_10, z_12, z_16, z_30, z_31, z_99, z_300, z_500, z_600, z_20000, zadd, zsub, zmul, zneg, zap]
    have rx := hq.1
    have hq := hq.2
    refine ⟨fun c => ?_, fun c => ?_⟩
    · have hq := hq.1 ((z_eq rx ⟨by decide, by decide⟩).mp c)
      exact hq
    · have hq := hq.2 (fun h => c ((z_eq rx ⟨by decide, by decide⟩).mpr h))
      exact hq
def Q_X5_lendsTo (h : ISt) (a1 : Int) (a2 : Int) (r : Int) : Prop := ∀ V5 : Int → Int → Prop, (∀ x3 x4 : Int, (inR x4 ∧ inR (h 0 24) ∧ (((h 0 24) ≤ x4 → ((x3 = 0 ∨ x3 = 1) ∧ (r = x3))) ∧ (¬ (h 0 24) ≤ x4 → (inR x3 ∧ ((¬ x3 = (0 : Int) → (V5 (1 : Int) (x4 + (1 : Int)))) ∧ (x3 = (0 : Int) → ((0 ≤ x4 ∧ x4 < 64) ∧ (inR (h 17 x4.toNat) ∧ inR a1 ∧ ((¬ (h 17 x4.toNat) = a1 → (V5 (0 : Int) (x4 + (1 : Int)))) ∧ ((h 17 x4.toNat) = a1 → ((0 ≤ x4 ∧ x4 < 64) ∧ (inR (h 15 x4.toNat) ∧ inR a2 ∧ ((¬ (h 15 x4.toNat) = a2 → (V5 (0 : Int) (x4 + (1 : Int)))) ∧ ((h 15 x4.toNat) = a2 → (V5 (1 : Int) (x4 + (1 : Int))))))))))))))))) → V5 x3 x4) → (V5 (0 : Int) (0 : Int))
set_option maxRecDepth 100000 in
set_option maxHeartbeats 4000000 in
theorem t_X5_lendsTo (h : ISt) (a1 : Int) (a2 : Int) (r : Int) (hq : Q_X5_lendsTo h a1 a2 r) : P_X5_lendsTo (zS h) (zI a1) (zI a2) (zI r) := by
  intro V5 k5
  have hq := hq (fun x3 x4 => V5 (zI x3) (zI x4))
  have hq := hq (by
    intro x3 x4 hq
    refine k5 (zI x3) (zI x4) ?_
    try simp only [z_m1, z_0, z_1, z_2, z_3, z_4, z_5, z_6, z_8, z_9, z_10, z_12, z_16, z_30, z_31, z_99, z_300, z_500, z_600, z_20000, zadd, zsub, zmul, zneg, zap]
    have rx := hq.1
    have hq := hq.2
    have ry := hq.1
    have hq := hq.2
    refine ⟨fun c => ?_, fun c => ?_⟩
    · have hq := hq.1 ((z_le ry rx).mp c)
      exact ⟨hq.1.imp (congrArg zI) (congrArg zI), congrArg zI hq.2⟩
    · have hq := hq.2 (fun h => c ((z_le ry rx).mpr h))
      have rx := hq.1
      have hq := hq.2
      refine ⟨fun c => ?_, fun c => ?_⟩
      · have hq := hq.1 (fun h => c ((z_eq rx ⟨by decide, by decide⟩).mpr h))
        exact hq
      · have hq := hq.2 ((z_eq rx ⟨by decide, by decide⟩).mp c)
        refine ⟨zin hq.1.1 hq.1.2 (by decide), ?_⟩
        try simp only [zcl hq.1.1 (Int.lt_trans hq.1.2 (by decide))]
        have hq := hq.2
        try simp only [z_m1, z_0, z_1, z_2, z_3, z_4, z_5, z_6, z_8, z_9, z_10, z_12, z_16, z_30, z_31, z_99, z_300, z_500, z_600, z_20000, zadd, zsub, zmul, zneg, zap]
        have rx := hq.1
        have hq := hq.2
        have ry := hq.1
        have hq := hq.2
        refine ⟨fun c => ?_, fun c => ?_⟩
        · have hq := hq.1 (fun h => c ((z_eq rx ry).mpr h))
          exact hq
        · have hq := hq.2 ((z_eq rx ry).mp c)
          refine ⟨zin hq.1.1 hq.1.2 (by decide), ?_⟩
          try simp only [zcl hq.1.1 (Int.lt_trans hq.1.2 (by decide))]
          have hq := hq.2
          try simp only [z_m1, z_0, z_1, z_2, z_3, z_4, z_5, z_6, z_8, z_9, z_10, z_12, z_16, z_30, z_31, z_99, z_300, z_500, z_600, z_20000, zadd, zsub, zmul, zneg, zap]
          have rx := hq.1
          have hq := hq.2
          have ry := hq.1
          have hq := hq.2
          refine ⟨fun c => ?_, fun c => ?_⟩
          · have hq := hq.1 (fun h => c ((z_eq rx ry).mpr h))
            exact hq
          · have hq := hq.2 ((z_eq rx ry).mp c)
            exact hq)
  try simp only [z_m1, z_0, z_1, z_2, z_3, z_4, z_5, z_6, z_8, z_9, z_10, z_12, z_16, z_30, z_31, z_99, z_300, z_500, z_600, z_20000, zadd, zsub, zmul, zneg, zap]
  exact hq
def Q_X5_lends (h : ISt) (a1 : Int) (h' : ISt) : Prop := ∀ V2 : ISt → Int → Prop, ∀ V37 : ISt → Int → Int → Int → Prop, ∀ V97 : ISt → Int → Int → Int → Prop, ∀ V98 : ISt → Int → Int → Int → Int → Prop, ∀ V125 : ISt → Int → Int → Int → Int → Prop, ∀ V137 : ISt → Int → Int → Int → Int → Prop, (∀ hv : ISt, ∀ x2 : Int, (inR x2 ∧ (((4 : Int) ≤ x2 → (h' = hv)) ∧ (¬ (4 : Int) ≤ x2 → ((0 ≤ a1 ∧ a1 < 16) ∧ ((0 ≤ (((4 : Int) * (hv 12 a1.toNat)) + x2) ∧ (((4 : Int) * (hv 12 a1.toNat)) + x2) < 32) ∧ ((0 ≤ (((4 : Int) * a1) + x2) ∧ (((4 : Int) * a1) + x2) < 64) ∧ (∀ y1 : Int, y1 = (hv 11 (((4 : Int) * (hv 12 a1.toNat)) + x2).toNat) - (hv 14 (((4 : Int) * a1) + x2).toNat) → (V37 hv x2 y1 (0 : Int))))))))) → V2 hv x2) → (∀ hv : ISt, ∀ x2 x3 x4 : Int, (inR x4 ∧ inR (hv 0 19) ∧ (((hv 0 19) ≤ x4 → (V2 hv (x2 + (1 : Int)))) ∧ (¬ (hv 0 19) ≤ x4 → (inR x3 ∧ ((x3 ≤ (0 : Int) → (V2 hv (x2 + (1 : Int)))) ∧ (¬ x3 ≤ (0 : Int) → (inR x4 ∧ inR a1 ∧ ((x4 = a1 → (V97 hv x2 x3 x4)) ∧ (¬ x4 = a1 → ((0 ≤ x4 ∧ x4 < 16) ∧ ((0 ≤ a1 ∧ a1 < 16) ∧ (inR (hv 12 x4.toNat) ∧ inR (hv 12 a1.toNat) ∧ ((¬ (hv 12 x4.toNat) = (hv 12 a1.toNat) → (V97 hv x2 x3 x4)) ∧ ((hv 12 x4.toNat) = (hv 12 a1.toNat) → ((0 ≤ x4 ∧ x4 < 16) ∧ (inR (hv 13 x4.toNat) ∧ (((hv 13 x4.toNat) = (1 : Int) → (V97 hv x2 x3 x4)) ∧ (¬ (hv 13 x4.toNat) = (1 : Int) → ((0 ≤ (((4 : Int) * x4) + x2) ∧ (((4 : Int) * x4) + x2) < 64) ∧ (V98 hv x2 x3 x4 (hv 14 (((4 : Int) * x4) + x2).toNat))))))))))))))))))))) → V37 hv x2 x3 x4) → (∀ hv : ISt, ∀ x2 x3 x4 : Int, (V98 hv x2 x3 x4 (0 : Int)) → V97 hv x2 x3 x4) → (∀ hv : ISt, ∀ x2 x3 x4 t0 : Int, ((0 ≤ x4 ∧ x4 < 16) ∧ (inR (hv 13 x4.toNat) ∧ ((¬ (hv 13 x4.toNat) = (2 : Int) → (V125 hv x2 x3 x4 t0)) ∧ ((hv 13 x4.toNat) = (2 : Int) → (∃ r2 : Int, Q_X5_lendsTo hv x4 a1 r2 ∧ (inR r2 ∧ ((¬ r2 = (0 : Int) → (V125 hv x2 x3 x4 t0)) ∧ (r2 = (0 : Int) → (V137 hv x2 x3 x4 (0 : Int)))))))))) → V98 hv x2 x3 x4 t0) → (∀ hv : ISt, ∀ x2 x3 x4 x5 : Int, (inR x5 ∧ inR x3 ∧ ((x5 ≤ x3 → (V137 hv x2 x3 x4 x5)) ∧ (¬ x5 ≤ x3 → (V137 hv x2 x3 x4 x3)))) → V125 hv x2 x3 x4 x5) → (∀ hv : ISt, ∀ x2 x3 x4 t0 : Int, (inR t0 ∧ ((t0 ≤ (0 : Int) → (V37 hv x2 x3 (x4 + (1 : Int)))) ∧ (¬ t0 ≤ (0 : Int) → ((0 ≤ (hv 0 24) ∧ (hv 0 24) < 64) ∧ (∀ h3 : ISt, h3 = iset hv 15 (hv 0 24).toNat a1 → ((0 ≤ (h3 0 24) ∧ (h3 0 24) < 64) ∧ (∀ h4 : ISt, h4 = iset h3 16 (h3 0 24).toNat x2 → ((0 ≤ (h4 0 24) ∧ (h4 0 24) < 64) ∧ (∀ h5 : ISt, h5 = iset h4 17 (h4 0 24).toNat x4 → ((0 ≤ (h5 0 24) ∧ (h5 0 24) < 64) ∧ (∀ h6 : ISt, h6 = iset h5 18 (h5 0 24).toNat t0 → (∀ h7 : ISt, h7 = iset h6 0 24 ((h6 0 24) + (1 : Int)) → ((0 ≤ (((4 : Int) * x4) + x2) ∧ (((4 : Int) * x4) + x2) < 64) ∧ ((0 ≤ (((4 : Int) * x4) + x2) ∧ (((4 : Int) * x4) + x2) < 64) ∧ (∀ h8 : ISt, h8 = iset h7 14 (((4 : Int) * x4) + x2).toNat ((h7 14 (((4 : Int) * x4) + x2).toNat) - t0) → ((0 ≤ (((4 : Int) * a1) + x2) ∧ (((4 : Int) * a1) + x2) < 64) ∧ ((0 ≤ (((4 : Int) * a1) + x2) ∧ (((4 : Int) * a1) + x2) < 64) ∧ (∀ h9 : ISt, h9 = iset h8 14 (((4 : Int) * a1) + x2).toNat ((h8 14 (((4 : Int) * a1) + x2).toNat) + t0) → ((0 ≤ x4 ∧ x4 < 16) ∧ (∀ h10 : ISt, h10 = iset h9 13 x4.toNat (2 : Int) → (V37 h10 x2 (x3 - t0) (x4 + (1 : Int))))))))))))))))))))))) → V137 hv x2 x3 x4 t0) → (V2 h (0 : Int))
set_option maxRecDepth 100000 in
set_option maxHeartbeats 4000000 in
theorem t_X5_lends (h : ISt) (a1 : Int) (h' : ISt) (hq : Q_X5_lends h a1 h') : P_X5_lends (zS h) (zI a1) (zS h') := by
  intro V2 V37 V97 V98 V125 V137 k2 k37 k97 k98 k125 k137
  have hq := hq (fun hv x2 => V2 (zS hv) (zI x2)) (fun hv x2 x3 x4 => V37 (zS hv) (zI x2) (zI x3) (zI x4)) (fun hv x2 x3 x4 => V97 (zS hv) (zI x2) (zI x3) (zI x4)) (fun hv x2 x3 x4 t0 => V98 (zS hv) (zI x2) (zI x3) (zI x4) (zI t0)) (fun hv x2 x3 x4 x5 => V125 (zS hv) (zI x2) (zI x3) (zI x4) (zI x5)) (fun hv x2 x3 x4 t0 => V137 (zS hv) (zI x2) (zI x3) (zI x4) (zI t0))
  have hq := hq (by
    intro hv x2 hq
    refine k2 (zS hv) (zI x2) ?_
    try simp only [z_m1, z_0, z_1, z_2, z_3, z_4, z_5, z_6, z_8, z_9, z_10, z_12, z_16, z_30, z_31, z_99, z_300, z_500, z_600, z_20000, zadd, zsub, zmul, zneg, zap]
    have rx := hq.1
    have hq := hq.2
    refine ⟨fun c => ?_, fun c => ?_⟩
    · have hq := hq.1 ((z_le ⟨by decide, by decide⟩ rx).mp c)
      exact congrArg zS hq
    · have hq := hq.2 (fun h => c ((z_le ⟨by decide, by decide⟩ rx).mpr h))
      refine ⟨zin hq.1.1 hq.1.2 (by decide), ?_⟩
      try simp only [zcl hq.1.1 (Int.lt_trans hq.1.2 (by decide))]
      have hq := hq.2
      try simp only [z_m1, z_0, z_1, z_2, z_3, z_4, z_5, z_6, z_8, z_9, z_10, z_12, z_16, z_30, z_31, z_99, z_300, z_500, z_600, z_20000, zadd, zsub, zmul, zneg, zap]
      refine ⟨zin hq.1.1 hq.1.2 (by decide), ?_⟩
      try simp only [zcl hq.1.1 (Int.lt_trans hq.1.2 (by decide))]
      have hq := hq.2
      try simp only [z_m1, z_0, z_1, z_2, z_3, z_4, z_5, z_6, z_8, z_9, z_10, z_12, z_16, z_30, z_31, z_99, z_300, z_500, z_600, z_20000, zadd, zsub, zmul, zneg, zap]
      refine ⟨zin hq.1.1 hq.1.2 (by decide), ?_⟩
      try simp only [zcl hq.1.1 (Int.lt_trans hq.1.2 (by decide))]
      have hq := hq.2
      try simp only [z_m1, z_0, z_1, z_2, z_3, z_4, z_5, z_6, z_8, z_9, z_10, z_12, z_16, z_30, z_31, z_99, z_300, z_500, z_600, z_20000, zadd, zsub, zmul, zneg, zap]
      intro y9 e9
      subst e9
      have hq := hq _ rfl
      generalize (hv 11 (((4 : Int) * (hv 12 a1.toNat)) + x2).toNat) - (hv 14 (((4 : Int) * a1) + x2).toNat) = y1 at hq ⊢
      try simp only [z_m1, z_0, z_1, z_2, z_3, z_4, z_5, z_6, z_8, z_9, z_10, z_12, z_16, z_30, z_31, z_99, z_300, z_500, z_600, z_20000, zadd, zsub, zmul, zneg, zap]
      exact hq)
  have hq := hq (by
    intro hv x2 x3 x4 hq
    refine k37 (zS hv) (zI x2) (zI x3) (zI x4) ?_
    try simp only [z_m1, z_0, z_1, z_2, z_3, z_4, z_5, z_6, z_8, z_9, z_10, z_12, z_16, z_30, z_31, z_99, z_300, z_500, z_600, z_20000, zadd, zsub, zmul, zneg, zap]
    have rx := hq.1
    have hq := hq.2
    have ry := hq.1
    have hq := hq.2
    refine ⟨fun c => ?_, fun c => ?_⟩
    · have hq := hq.1 ((z_le ry rx).mp c)
      exact hq
    · have hq := hq.2 (fun h => c ((z_le ry rx).mpr h))
      have rx := hq.1
      have hq := hq.2
      refine ⟨fun c => ?_, fun c => ?_⟩
      · have hq := hq.1 ((z_le rx ⟨by decide, by decide⟩).mp c)
        exact hq
      · have hq := hq.2 (fun h => c ((z_le rx ⟨by decide, by decide⟩).mpr h))
        have rx := hq.1
        have hq := hq.2
        have ry := hq.1
        have hq := hq.2
        refine ⟨fun c => ?_, fun c => ?_⟩
        · have hq := hq.1 ((z_eq rx ry).mp c)
          exact hq
        · have hq := hq.2 (fun h => c ((z_eq rx ry).mpr h))
          refine ⟨zin hq.1.1 hq.1.2 (by decide), ?_⟩
          try simp only [zcl hq.1.1 (Int.lt_trans hq.1.2 (by decide))]
          have hq := hq.2
          try simp only [z_m1, z_0, z_1, z_2, z_3, z_4, z_5, z_6, z_8, z_9, z_10, z_12, z_16, z_30, z_31, z_99, z_300, z_500, z_600, z_20000, zadd, zsub, zmul, zneg, zap]
          refine ⟨zin hq.1.1 hq.1.2 (by decide), ?_⟩
          try simp only [zcl hq.1.1 (Int.lt_trans hq.1.2 (by decide))]
          have hq := hq.2
          try simp only [z_m1, z_0, z_1, z_2, z_3, z_4, z_5, z_6, z_8, z_9, z_10, z_12, z_16, z_30, z_31, z_99, z_300, z_500, z_600, z_20000, zadd, zsub, zmul, zneg, zap]
          have rx := hq.1
          have hq := hq.2
          have ry := hq.1
          have hq := hq.2
          refine ⟨fun c => ?_, fun c => ?_⟩
          · have hq := hq.1 (fun h => c ((z_eq rx ry).mpr h))
            exact hq
          · have hq := hq.2 ((z_eq rx ry).mp c)
            refine ⟨zin hq.1.1 hq.1.2 (by decide), ?_⟩
            try simp only [zcl hq.1.1 (Int.lt_trans hq.1.2 (by decide))]
            have hq := hq.2
            try simp only [z_m1, z_0, z_1, z_2, z_3, z_4, z_5, z_6, z_8, z_9, z_10, z_12, z_16, z_30, z_31, z_99, z_300, z_500, z_600, z_20000, zadd, zsub, zmul, zneg, zap]
            have rx := hq.1
            have hq := hq.2
            refine ⟨fun c => ?_, fun c => ?_⟩
            · have hq := hq.1 ((z_eq rx ⟨by decide, by decide⟩).mp c)
              exact hq
            · have hq := hq.2 (fun h => c ((z_eq rx ⟨by decide, by decide⟩).mpr h))
              refine ⟨zin hq.1.1 hq.1.2 (by decide), ?_⟩
              try simp only [zcl hq.1.1 (Int.lt_trans hq.1.2 (by decide))]
              have hq := hq.2
              try simp only [z_m1, z_0, z_1, z_2, z_3, z_4, z_5, z_6, z_8, z_9, z_10, z_12, z_16, z_30, z_31, z_99, z_300, z_500, z_600, z_20000, zadd, zsub, zmul, zneg, zap]
              exact hq)
  have hq := hq (by
    intro hv x2 x3 x4 hq
    refine k97 (zS hv) (zI x2) (zI x3) (zI x4) ?_
    try simp only [z_m1, z_0, z_1, z_2, z_3, z_4, z_5, z_6, z_8, z_9, z_10, z_12, z_16, z_30, z_31, z_99, z_300, z_500, z_600, z_20000, zadd, zsub, zmul, zneg, zap]
    exact hq)
  have hq := hq (by
    intro hv x2 x3 x4 t0 hq
    refine k98 (zS hv) (zI x2) (zI x3) (zI x4) (zI t0) ?_
    try simp only [z_m1, z_0, z_1, z_2, z_3, z_4, z_5, z_6, z_8, z_9, z_10, z_12, z_16, z_30, z_31, z_99, z_300, z_500, z_600, z_20000, zadd, zsub, zmul, zneg, zap]
    refine ⟨zin hq.1.1 hq.1.2 (by decide), ?_⟩
    try simp only [zcl hq.1.1 (Int.lt_trans hq.1.2 (by decide))]
    have hq := hq.2
    try simp only [z_m1, z_0, z_1, z_2, z_3, z_4, z_5, z_6, z_8, z_9, z_10, z_12, z_16, z_30, z_31, z_99, z_300, z_500, z_600, z_20000, zadd, zsub, zmul, zneg, zap]
    have rx := hq.1
    have hq := hq.2
    refine ⟨fun c => ?_, fun c => ?_⟩
    · have hq := hq.1 (fun h => c ((z_eq rx ⟨by decide, by decide⟩).mpr h))
      exact hq
    · have hq := hq.2 ((z_eq rx ⟨by decide, by decide⟩).mp c)
      obtain ⟨r2, hr2, hq⟩ := hq
      refine ⟨zI r2, t_X5_lendsTo hv x4 a1 r2 hr2, ?_⟩
      try simp only [z_m1, z_0, z_1, z_2, z_3, z_4, z_5, z_6, z_8, z_9, z_10, z_12, z_16, z_30, z_31, z_99, z_300, z_500, z_600, z_20000, zadd, zsub, zmul, zneg, zap]
      have rx := hq.1
      have hq := hq.2
      refine ⟨fun c => ?_, fun c => ?_⟩
      · have hq := hq.1 (fun h => c ((z_eq rx ⟨by decide, by decide⟩).mpr h))
        exact hq
      · have hq := hq.2 ((z_eq rx ⟨by decide, by decide⟩).mp c)
        exact hq)
  have hq := hq (by
    intro hv x2 x3 x4 x5 hq
    refine k125 (zS hv) (zI x2) (zI x3) (zI x4) (zI x5) ?_
    try simp only [z_m1, z_0, z_1, z_2, z_3, z_4, z_5, z_6, z_8, z_9, z_10, z_12, z_16, z_30, z_31, z_99, z_300, z_500, z_600, z_20000, zadd, zsub, zmul, zneg, zap]
    have rx := hq.1
    have hq := hq.2
    have ry := hq.1
    have hq := hq.2
    refine ⟨fun c => ?_, fun c => ?_⟩
    · have hq := hq.1 ((z_le rx ry).mp c)
      exact hq
    · have hq := hq.2 (fun h => c ((z_le rx ry).mpr h))
      exact hq)
  have hq := hq (by
    intro hv x2 x3 x4 t0 hq
    refine k137 (zS hv) (zI x2) (zI x3) (zI x4) (zI t0) ?_
    try simp only [z_m1, z_0, z_1, z_2, z_3, z_4, z_5, z_6, z_8, z_9, z_10, z_12, z_16, z_30, z_31, z_99, z_300, z_500, z_600, z_20000, zadd, zsub, zmul, zneg, zap]
    have rx := hq.1
    have hq := hq.2
    refine ⟨fun c => ?_, fun c => ?_⟩
    · have hq := hq.1 ((z_le rx ⟨by decide, by decide⟩).mp c)
      exact hq
    · have hq := hq.2 (fun h => c ((z_le rx ⟨by decide, by decide⟩).mpr h))
      refine ⟨zin hq.1.1 hq.1.2 (by decide), ?_⟩
      try simp only [zcl hq.1.1 (Int.lt_trans hq.1.2 (by decide))]
      have hq := hq.2
      intro g9 eg9
      rw [zset] at eg9
      subst eg9
      have hq := hq _ rfl
      generalize iset hv 15 (hv 0 24).toNat a1 = h3 at hq ⊢
      try simp only [z_m1, z_0, z_1, z_2, z_3, z_4, z_5, z_6, z_8, z_9, z_10, z_12, z_16, z_30, z_31, z_99, z_300, z_500, z_600, z_20000, zadd, zsub, zmul, zneg, zap]
      refine ⟨zin hq.1.1 hq.1.2 (by decide), ?_⟩
      try simp only [zcl hq.1.1 (Int.lt_trans hq.1.2 (by decide))]
      have hq := hq.2
      intro g9 eg9
      rw [zset] at eg9
      subst eg9
      have hq := hq _ rfl
      generalize iset h3 16 (h3 0 24).toNat x2 = h4 at hq ⊢
      try simp only [z_m1, z_0, z_1, z_2, z_3, z_4, z_5, z_6, z_8, z_9, z_10, z_12, z_16, z_30, z_31, z_99, z_300, z_500, z_600, z_20000, zadd, zsub, zmul, zneg, zap]
      refine ⟨zin hq.1.1 hq.1.2 (by decide), ?_⟩
      try simp only [zcl hq.1.1 (Int.lt_trans hq.1.2 (by decide))]
      have hq := hq.2
      intro g9 eg9
      rw [zset] at eg9
      subst eg9
      have hq := hq _ rfl
      generalize iset h4 17 (h4 0 24).toNat x4 = h5 at hq ⊢
      try simp only [z_m1, z_0, z_1, z_2, z_3, z_4, z_5, z_6, z_8, z_9, z_10, z_12, z_16, z_30, z_31, z_99, z_300, z_500, z_600, z_20000, zadd, zsub, zmul, zneg, zap]
      refine ⟨zin hq.1.1 hq.1.2 (by decide), ?_⟩
      try simp only [zcl hq.1.1 (Int.lt_trans hq.1.2 (by decide))]
      have hq := hq.2
      intro g9 eg9
      rw [zset] at eg9
      subst eg9
      have hq := hq _ rfl
      generalize iset h5 18 (h5 0 24).toNat t0 = h6 at hq ⊢
      try simp only [z_m1, z_0, z_1, z_2, z_3, z_4, z_5, z_6, z_8, z_9, z_10, z_12, z_16, z_30, z_31, z_99, z_300, z_500, z_600, z_20000, zadd, zsub, zmul, zneg, zap]
      intro g9 eg9
      rw [zset] at eg9
      subst eg9
      have hq := hq _ rfl
      generalize iset h6 0 24 ((h6 0 24) + (1 : Int)) = h7 at hq ⊢
      try simp only [z_m1, z_0, z_1, z_2, z_3, z_4, z_5, z_6, z_8, z_9, z_10, z_12, z_16, z_30, z_31, z_99, z_300, z_500, z_600, z_20000, zadd, zsub, zmul, zneg, zap]
      refine ⟨zin hq.1.1 hq.1.2 (by decide), ?_⟩
      try simp only [zcl hq.1.1 (Int.lt_trans hq.1.2 (by decide))]
      have hq := hq.2
      try simp only [z_m1, z_0, z_1, z_2, z_3, z_4, z_5, z_6, z_8, z_9, z_10, z_12, z_16, z_30, z_31, z_99, z_300, z_500, z_600, z_20000, zadd, zsub, zmul, zneg, zap]
      refine ⟨zin hq.1.1 hq.1.2 (by decide), ?_⟩
      try simp only [zcl hq.1.1 (Int.lt_trans hq.1.2 (by decide))]
      have hq := hq.2
      intro g9 eg9
      rw [zset] at eg9
      subst eg9
      have hq := hq _ rfl
      generalize iset h7 14 (((4 : Int) * x4) + x2).toNat ((h7 14 (((4 : Int) * x4) + x2).toNat) - t0) = h8 at hq ⊢
      try simp only [z_m1, z_0, z_1, z_2, z_3, z_4, z_5, z_6, z_8, z_9, z_10, z_12, z_16, z_30, z_31, z_99, z_300, z_500, z_600, z_20000, zadd, zsub, zmul, zneg, zap]
      refine ⟨zin hq.1.1 hq.1.2 (by decide), ?_⟩
      try simp only [zcl hq.1.1 (Int.lt_trans hq.1.2 (by decide))]
      have hq := hq.2
      try simp only [z_m1, z_0, z_1, z_2, z_3, z_4, z_5, z_6, z_8, z_9, z_10, z_12, z_16, z_30, z_31, z_99, z_300, z_500, z_600, z_20000, zadd, zsub, zmul, zneg, zap]
      refine ⟨zin hq.1.1 hq.1.2 (by decide), ?_⟩
      try simp only [zcl hq.1.1 (Int.lt_trans hq.1.2 (by decide))]
      have hq := hq.2
      intro g9 eg9
      rw [zset] at eg9
      subst eg9
      have hq := hq _ rfl
      generalize iset h8 14 (((4 : Int) * a1) + x2).toNat ((h8 14 (((4 : Int) * a1) + x2).toNat) + t0) = h9 at hq ⊢
      try simp only [z_m1, z_0, z_1, z_2, z_3, z_4, z_5, z_6, z_8, z_9, z_10, z_12, z_16, z_30, z_31, z_99, z_300, z_500, z_600, z_20000, zadd, zsub, zmul, zneg, zap]
      refine ⟨zin hq.1.1 hq.1.2 (by decide), ?_⟩
      try simp only [zcl hq.1.1 (Int.lt_trans hq.1.2 (by decide))]
      have hq := hq.2
      intro g9 eg9
      rw [zset] at eg9
      subst eg9
      have hq := hq _ rfl
      generalize iset h9 13 x4.toNat (2 : Int) = h10 at hq ⊢
      try simp only [z_m1, z_0, z_1, z_2, z_3, z_4, z_5, z_6, z_8, z_9, z_10, z_12, z_16, z_30, z_31, z_99, z_300, z_500, z_600, z_20000, zadd, zsub, zmul, zneg, zap]
      exact hq)
  try simp only [z_m1, z_0, z_1, z_2, z_3, z_4, z_5, z_6, z_8, z_9, z_10, z_12, z_16, z_30, z_31, z_99, z_300, z_500, z_600, z_20000, zadd, zsub, zmul, zneg, zap]
  exact hq
def Q_X5_serve (h : ISt) (a1 : Int) (a2 : Int) (r : Int) (h' : ISt) : Prop := ∀ V20 : ISt → Prop, ∀ V21 : ISt → Int → Prop, ∀ V45 : ISt → Int → Prop, (∀ hv : ISt, (V21 hv (0 : Int)) → V20 hv) → (∀ hv : ISt, ∀ t0 : Int, (inR t0 ∧ ((¬ t0 = (0 : Int) → (∃ r3 : Int, Q_X5_isOffered hv a1 a2 r3 ∧ (inR r3 ∧ ((¬ r3 = (0 : Int) → (V45 hv (0 : Int))) ∧ (r3 = (0 : Int) → (V45 hv (2 : Int))))))) ∧ (t0 = (0 : Int) → (V45 hv (1 : Int))))) → V21 hv t0) → (∀ hv : ISt, ∀ t0 : Int, (∃ (r4 : Int) (h5 : ISt), Q_X5_isFine hv t0 r4 h5 ∧ (inR r4 ∧ ((¬ r4 = (0 : Int) → (∃ r6 : Int, Q_X5_bestCopy h5 a2 r6 ∧ (∃ h8 : ISt, Q_X5_lends h5 r6 h8 ∧ ((0 ≤ r6 ∧ r6 < 16) ∧ (∀ h9 : ISt, h9 = iset h8 13 r6.toNat (1 : Int) → ((0 ≤ a1 ∧ a1 < 30) ∧ (∀ h10 : ISt, h10 = iset h9 7 a1.toNat r6 → (r = r6 ∧ h' = h10)))))))) ∧ (r4 = (0 : Int) → (r = (0 : Int) ∧ h' = h5))))) → V45 hv t0) → (∃ r1 : Int, Q_X5_isGroup h a1 r1 ∧ (inR r1 ∧ ((r1 = (0 : Int) → (V20 h)) ∧ (¬ r1 = (0 : Int) → (∃ r2 : Int, Q_X5_isTitle h a2 r2 ∧ (inR r2 ∧ ((r2 = (0 : Int) → (V20 h)) ∧ (¬ r2 = (0 : Int) → (V21 h (1 : Int))))))))))
set_option maxRecDepth 100000 in
set_option maxHeartbeats 4000000 in
theorem t_X5_serve (h : ISt) (a1 : Int) (a2 : Int) (r : Int) (h' : ISt) (hq : Q_X5_serve h a1 a2 r h') : P_X5_serve (zS h) (zI a1) (zI a2) (zI r) (zS h') := by
  intro V20 V21 V45 k20 k21 k45
  have hq := hq (fun hv => V20 (zS hv)) (fun hv t0 => V21 (zS hv) (zI t0)) (fun hv t0 => V45 (zS hv) (zI t0))
  have hq := hq (by
    intro hv hq
    refine k20 (zS hv) ?_
    try simp only [z_m1, z_0, z_1, z_2, z_3, z_4, z_5, z_6, z_8, z_9, z_10, z_12, z_16, z_30, z_31, z_99, z_300, z_500, z_600, z_20000, zadd, zsub, zmul, zneg, zap]
    exact hq)
  have hq := hq (by
    intro hv t0 hq
    refine k21 (zS hv) (zI t0) ?_
    try simp only [z_m1, z_0, z_1, z_2, z_3, z_4, z_5, z_6, z_8, z_9, z_10, z_12, z_16, z_30, z_31, z_99, z_300, z_500, z_600, z_20000, zadd, zsub, zmul, zneg, zap]
    have rx := hq.1
    have hq := hq.2
    refine ⟨fun c => ?_, fun c => ?_⟩
    · have hq := hq.1 (fun h => c ((z_eq rx ⟨by decide, by decide⟩).mpr h))
      obtain ⟨r3, hr3, hq⟩ := hq
      refine ⟨zI r3, t_X5_isOffered hv a1 a2 r3 hr3, ?_⟩
      try simp only [z_m1, z_0, z_1, z_2, z_3, z_4, z_5, z_6, z_8, z_9, z_10, z_12, z_16, z_30, z_31, z_99, z_300, z_500, z_600, z_20000, zadd, zsub, zmul, zneg, zap]
      have rx := hq.1
      have hq := hq.2
      refine ⟨fun c => ?_, fun c => ?_⟩
      · have hq := hq.1 (fun h => c ((z_eq rx ⟨by decide, by decide⟩).mpr h))
        exact hq
      · have hq := hq.2 ((z_eq rx ⟨by decide, by decide⟩).mp c)
        exact hq
    · have hq := hq.2 ((z_eq rx ⟨by decide, by decide⟩).mp c)
      exact hq)
  have hq := hq (by
    intro hv t0 hq
    refine k45 (zS hv) (zI t0) ?_
    try simp only [z_m1, z_0, z_1, z_2, z_3, z_4, z_5, z_6, z_8, z_9, z_10, z_12, z_16, z_30, z_31, z_99, z_300, z_500, z_600, z_20000, zadd, zsub, zmul, zneg, zap]
    obtain ⟨r4, h5, hh5, hq⟩ := hq
    refine ⟨zI r4, zS h5, t_X5_isFine hv t0 r4 h5 hh5, ?_⟩
    try simp only [z_m1, z_0, z_1, z_2, z_3, z_4, z_5, z_6, z_8, z_9, z_10, z_12, z_16, z_30, z_31, z_99, z_300, z_500, z_600, z_20000, zadd, zsub, zmul, zneg, zap]
    have rx := hq.1
    have hq := hq.2
    refine ⟨fun c => ?_, fun c => ?_⟩
    · have hq := hq.1 (fun h => c ((z_eq rx ⟨by decide, by decide⟩).mpr h))
      obtain ⟨r6, hr6, hq⟩ := hq
      refine ⟨zI r6, t_X5_bestCopy h5 a2 r6 hr6, ?_⟩
      try simp only [z_m1, z_0, z_1, z_2, z_3, z_4, z_5, z_6, z_8, z_9, z_10, z_12, z_16, z_30, z_31, z_99, z_300, z_500, z_600, z_20000, zadd, zsub, zmul, zneg, zap]
      obtain ⟨h8, hh8, hq⟩ := hq
      refine ⟨zS h8, t_X5_lends h5 r6 h8 hh8, ?_⟩
      try simp only [z_m1, z_0, z_1, z_2, z_3, z_4, z_5, z_6, z_8, z_9, z_10, z_12, z_16, z_30, z_31, z_99, z_300, z_500, z_600, z_20000, zadd, zsub, zmul, zneg, zap]
      refine ⟨zin hq.1.1 hq.1.2 (by decide), ?_⟩
      try simp only [zcl hq.1.1 (Int.lt_trans hq.1.2 (by decide))]
      have hq := hq.2
      intro g9 eg9
      rw [zset] at eg9
      subst eg9
      have hq := hq _ rfl
      generalize iset h8 13 r6.toNat (1 : Int) = h9 at hq ⊢
      try simp only [z_m1, z_0, z_1, z_2, z_3, z_4, z_5, z_6, z_8, z_9, z_10, z_12, z_16, z_30, z_31, z_99, z_300, z_500, z_600, z_20000, zadd, zsub, zmul, zneg, zap]
      refine ⟨zin hq.1.1 hq.1.2 (by decide), ?_⟩
      try simp only [zcl hq.1.1 (Int.lt_trans hq.1.2 (by decide))]
      have hq := hq.2
      intro g9 eg9
      rw [zset] at eg9
      subst eg9
      have hq := hq _ rfl
      generalize iset h9 7 a1.toNat r6 = h10 at hq ⊢
      try simp only [z_m1, z_0, z_1, z_2, z_3, z_4, z_5, z_6, z_8, z_9, z_10, z_12, z_16, z_30, z_31, z_99, z_300, z_500, z_600, z_20000, zadd, zsub, zmul, zneg, zap]
      exact ⟨congrArg zI hq.1, congrArg zS hq.2⟩
    · have hq := hq.2 ((z_eq rx ⟨by decide, by decide⟩).mp c)
      exact ⟨congrArg zI hq.1, congrArg zS hq.2⟩)
  try simp only [z_m1, z_0, z_1, z_2, z_3, z_4, z_5, z_6, z_8, z_9, z_10, z_12, z_16, z_30, z_31, z_99, z_300, z_500, z_600, z_20000, zadd, zsub, zmul, zneg, zap]
  obtain ⟨r1, hr1, hq⟩ := hq
  refine ⟨zI r1, t_X5_isGroup h a1 r1 hr1, ?_⟩
  try simp only [z_m1, z_0, z_1, z_2, z_3, z_4, z_5, z_6, z_8, z_9, z_10, z_12, z_16, z_30, z_31, z_99, z_300, z_500, z_600, z_20000, zadd, zsub, zmul, zneg, zap]
  have rx := hq.1
  have hq := hq.2
  refine ⟨fun c => ?_, fun c => ?_⟩
  · have hq := hq.1 ((z_eq rx ⟨by decide, by decide⟩).mp c)
    exact hq
  · have hq := hq.2 (fun h => c ((z_eq rx ⟨by decide, by decide⟩).mpr h))
    obtain ⟨r2, hr2, hq⟩ := hq
    refine ⟨zI r2, t_X5_isTitle h a2 r2 hr2, ?_⟩
    try simp only [z_m1, z_0, z_1, z_2, z_3, z_4, z_5, z_6, z_8, z_9, z_10, z_12, z_16, z_30, z_31, z_99, z_300, z_500, z_600, z_20000, zadd, zsub, zmul, zneg, zap]
    have rx := hq.1
    have hq := hq.2
    refine ⟨fun c => ?_, fun c => ?_⟩
    · have hq := hq.1 ((z_eq rx ⟨by decide, by decide⟩).mp c)
      exact hq
    · have hq := hq.2 (fun h => c ((z_eq rx ⟨by decide, by decide⟩).mpr h))
      exact hq
def Q_X5_closes (h : ISt) (a1 : Int) (r : Int) (h' : ISt) : Prop := ∀ V9 : ISt → Int → Int → Prop, ∀ V62 : ISt → Int → Int → Int → Prop, ∀ V137 : ISt → Int → Int → Int → Prop, (∀ hv : ISt, ∀ x2 x3 : Int, (inR x3 ∧ ((x3 < (0 : Int) → (r = x2 ∧ h' = hv)) ∧ (¬ x3 < (0 : Int) → ((0 ≤ x3 ∧ x3 < 64) ∧ (inR (hv 15 x3.toNat) ∧ inR a1 ∧ ((¬ (hv 15 x3.toNat) = a1 → (V9 hv x2 (x3 + (-1 : Int)))) ∧ ((hv 15 x3.toNat) = a1 → ((0 ≤ x3 ∧ x3 < 64) ∧ ((0 ≤ (((4 : Int) * a1) + (hv 16 x3.toNat)) ∧ (((4 : Int) * a1) + (hv 16 x3.toNat)) < 64) ∧ ((0 ≤ x3 ∧ x3 < 64) ∧ (inR (hv 18 x3.toNat) ∧ inR (hv 14 (((4 : Int) * a1) + (hv 16 x3.toNat)).toNat) ∧ (((hv 18 x3.toNat) ≤ (hv 14 (((4 : Int) * a1) + (hv 16 x3.toNat)).toNat) → ((0 ≤ x3 ∧ x3 < 64) ∧ (V62 hv x2 x3 (hv 18 x3.toNat)))) ∧ (¬ (hv 18 x3.toNat) ≤ (hv 14 (((4 : Int) * a1) + (hv 16 x3.toNat)).toNat) → (V62 hv x2 x3 (hv 14 (((4 : Int) * a1) + (hv 16 x3.toNat)).toNat))))))))))))))) → V9 hv x2 x3) → (∀ hv : ISt, ∀ x2 x3 t0 : Int, ((0 ≤ x3 ∧ x3 < 64) ∧ ((0 ≤ (((4 : Int) * a1) + (hv 16 x3.toNat)) ∧ (((4 : Int) * a1) + (hv 16 x3.toNat)) < 64) ∧ ((0 ≤ (((4 : Int) * a1) + (hv 16 x3.toNat)) ∧ (((4 : Int) * a1) + (hv 16 x3.toNat)) < 64) ∧ (∀ h1 : ISt, h1 = iset hv 14 (((4 : Int) * a1) + (hv 16 x3.toNat)).toNat ((hv 14 (((4 : Int) * a1) + (hv 16 x3.toNat)).toNat) - t0) → ((0 ≤ x3 ∧ x3 < 64) ∧ ((0 ≤ x3 ∧ x3 < 64) ∧ ((0 ≤ (((4 : Int) * (h1 17 x3.toNat)) + (h1 16 x3.toNat)) ∧ (((4 : Int) * (h1 17 x3.toNat)) + (h1 16 x3.toNat)) < 64) ∧ ((0 ≤ (((4 : Int) * (h1 17 x3.toNat)) + (h1 16 x3.toNat)) ∧ (((4 : Int) * (h1 17 x3.toNat)) + (h1 16 x3.toNat)) < 64) ∧ (∀ h2 : ISt, h2 = iset h1 14 (((4 : Int) * (h1 17 x3.toNat)) + (h1 16 x3.toNat)).toNat ((h1 14 (((4 : Int) * (h1 17 x3.toNat)) + (h1 16 x3.toNat)).toNat) + t0) → ((0 ≤ x3 ∧ x3 < 64) ∧ ((0 ≤ (h2 17 x3.toNat) ∧ (h2 17 x3.toNat) < 16) ∧ (∀ h3 : ISt, h3 = iset h2 13 (h2 17 x3.toNat).toNat (0 : Int) → (∀ h4 : ISt, h4 = iset h3 0 24 ((h3 0 24) - (1 : Int)) → (V137 h4 (x2 + (1 : Int)) x3 x3)))))))))))))) → V62 hv x2 x3 t0) → (∀ hv : ISt, ∀ x2 x3 x6 : Int, (inR x6 ∧ inR (hv 0 24) ∧ (((hv 0 24) ≤ x6 → (V9 hv x2 (x3 + (-1 : Int)))) ∧ (¬ (hv 0 24) ≤ x6 → ((0 ≤ (x6 + (1 : Int)) ∧ (x6 + (1 : Int)) < 64) ∧ ((0 ≤ x6 ∧ x6 < 64) ∧ (∀ h5 : ISt, h5 = iset hv 15 x6.toNat (hv 15 (x6 + (1 : Int)).toNat) → ((0 ≤ (x6 + (1 : Int)) ∧ (x6 + (1 : Int)) < 64) ∧ ((0 ≤ x6 ∧ x6 < 64) ∧ (∀ h6 : ISt, h6 = iset h5 16 x6.toNat (h5 16 (x6 + (1 : Int)).toNat) → ((0 ≤ (x6 + (1 : Int)) ∧ (x6 + (1 : Int)) < 64) ∧ ((0 ≤ x6 ∧ x6 < 64) ∧ (∀ h7 : ISt, h7 = iset h6 17 x6.toNat (h6 17 (x6 + (1 : Int)).toNat) → ((0 ≤ (x6 + (1 : Int)) ∧ (x6 + (1 : Int)) < 64) ∧ ((0 ≤ x6 ∧ x6 < 64) ∧ (∀ h8 : ISt, h8 = iset h7 18 x6.toNat (h7 18 (x6 + (1 : Int)).toNat) → (V137 h8 x2 x3 (x6 + (1 : Int)))))))))))))))))) → V137 hv x2 x3 x6) → (V9 h (0 : Int) ((h 0 24) - (1 : Int)))
set_option maxRecDepth 100000 in
set_option maxHeartbeats 4000000 in
theorem t_X5_closes (h : ISt) (a1 : Int) (r : Int) (h' : ISt) (hq : Q_X5_closes h a1 r h') : P_X5_closes (zS h) (zI a1) (zI r) (zS h') := by
  intro V9 V62 V137 k9 k62 k137
  have hq := hq (fun hv x2 x3 => V9 (zS hv) (zI x2) (zI x3)) (fun hv x2 x3 t0 => V62 (zS hv) (zI x2) (zI x3) (zI t0)) (fun hv x2 x3 x6 => V137 (zS hv) (zI x2) (zI x3) (zI x6))
  have hq := hq (by
    intro hv x2 x3 hq
    refine k9 (zS hv) (zI x2) (zI x3) ?_
    try simp only [z_m1, z_0, z_1, z_2, z_3, z_4, z_5, z_6, z_8, z_9, z_10, z_12, z_16, z_30, z_31, z_99, z_300, z_500, z_600, z_20000, zadd, zsub, zmul, zneg, zap]
    have rx := hq.1
    have hq := hq.2
    refine ⟨fun c => ?_, fun c => ?_⟩
    · have hq := hq.1 ((z_lt rx ⟨by decide, by decide⟩).mp c)
      exact ⟨congrArg zI hq.1, congrArg zS hq.2⟩
    · have hq := hq.2 (fun h => c ((z_lt rx ⟨by decide, by decide⟩).mpr h))
      refine ⟨zin hq.1.1 hq.1.2 (by decide), ?_⟩
      try simp only [zcl hq.1.1 (Int.lt_trans hq.1.2 (by decide))]
      have hq := hq.2
      try simp only [z_m1, z_0, z_1, z_2, z_3, z_4, z_5, z_6, z_8, z_9, z_10, z_12, z_16, z_30, z_31, z_99, z_300, z_500, z_600, z_20000, zadd, zsub, zmul, zneg, zap]
      have rx := hq.1
      have hq := hq.2
      have ry := hq.1
      have hq := hq.2
      refine ⟨fun c => ?_, fun c => ?_⟩
      · have hq := hq.1 (fun h => c ((z_eq rx ry).mpr h))
        exact hq
      · have hq := hq.2 ((z_eq rx ry).mp c)
        refine ⟨zin hq.1.1 hq.1.2 (by decide), ?_⟩
        try simp only [zcl hq.1.1 (Int.lt_trans hq.1.2 (by decide))]
        have hq := hq.2
        try simp only [z_m1, z_0, z_1, z_2, z_3, z_4, z_5, z_6, z_8, z_9, z_10, z_12, z_16, z_30, z_31, z_99, z_300, z_500, z_600, z_20000, zadd, zsub, zmul, zneg, zap]
        refine ⟨zin hq.1.1 hq.1.2 (by decide), ?_⟩
        try simp only [zcl hq.1.1 (Int.lt_trans hq.1.2 (by decide))]
        have hq := hq.2
        try simp only [z_m1, z_0, z_1, z_2, z_3, z_4, z_5, z_6, z_8, z_9, z_10, z_12, z_16, z_30, z_31, z_99, z_300, z_500, z_600, z_20000, zadd, zsub, zmul, zneg, zap]
        refine ⟨zin hq.1.1 hq.1.2 (by decide), ?_⟩
        try simp only [zcl hq.1.1 (Int.lt_trans hq.1.2 (by decide))]
        have hq := hq.2
        try simp only [z_m1, z_0, z_1, z_2, z_3, z_4, z_5, z_6, z_8, z_9, z_10, z_12, z_16, z_30, z_31, z_99, z_300, z_500, z_600, z_20000, zadd, zsub, zmul, zneg, zap]
        have rx := hq.1
        have hq := hq.2
        have ry := hq.1
        have hq := hq.2
        refine ⟨fun c => ?_, fun c => ?_⟩
        · have hq := hq.1 ((z_le rx ry).mp c)
          refine ⟨zin hq.1.1 hq.1.2 (by decide), ?_⟩
          try simp only [zcl hq.1.1 (Int.lt_trans hq.1.2 (by decide))]
          have hq := hq.2
          try simp only [z_m1, z_0, z_1, z_2, z_3, z_4, z_5, z_6, z_8, z_9, z_10, z_12, z_16, z_30, z_31, z_99, z_300, z_500, z_600, z_20000, zadd, zsub, zmul, zneg, zap]
          exact hq
        · have hq := hq.2 (fun h => c ((z_le rx ry).mpr h))
          exact hq)
  have hq := hq (by
    intro hv x2 x3 t0 hq
    refine k62 (zS hv) (zI x2) (zI x3) (zI t0) ?_
    try simp only [z_m1, z_0, z_1, z_2, z_3, z_4, z_5, z_6, z_8, z_9, z_10, z_12, z_16, z_30, z_31, z_99, z_300, z_500, z_600, z_20000, zadd, zsub, zmul, zneg, zap]
    refine ⟨zin hq.1.1 hq.1.2 (by decide), ?_⟩
    try simp only [zcl hq.1.1 (Int.lt_trans hq.1.2 (by decide))]
    have hq := hq.2
    try simp only [z_m1, z_0, z_1, z_2, z_3, z_4, z_5, z_6, z_8, z_9, z_10, z_12, z_16, z_30, z_31, z_99, z_300, z_500, z_600, z_20000, zadd, zsub, zmul, zneg, zap]
    refine ⟨zin hq.1.1 hq.1.2 (by decide), ?_⟩
    try simp only [zcl hq.1.1 (Int.lt_trans hq.1.2 (by decide))]
    have hq := hq.2
    try simp only [z_m1, z_0, z_1, z_2, z_3, z_4, z_5, z_6, z_8, z_9, z_10, z_12, z_16, z_30, z_31, z_99, z_300, z_500, z_600, z_20000, zadd, zsub, zmul, zneg, zap]
    refine ⟨zin hq.1.1 hq.1.2 (by decide), ?_⟩
    try simp only [zcl hq.1.1 (Int.lt_trans hq.1.2 (by decide))]
    have hq := hq.2
    intro g9 eg9
    rw [zset] at eg9
    subst eg9
    have hq := hq _ rfl
    generalize iset hv 14 (((4 : Int) * a1) + (hv 16 x3.toNat)).toNat ((hv 14 (((4 : Int) * a1) + (hv 16 x3.toNat)).toNat) - t0) = h1 at hq ⊢
    try simp only [z_m1, z_0, z_1, z_2, z_3, z_4, z_5, z_6, z_8, z_9, z_10, z_12, z_16, z_30, z_31, z_99, z_300, z_500, z_600, z_20000, zadd, zsub, zmul, zneg, zap]
    refine ⟨zin hq.1.1 hq.1.2 (by decide), ?_⟩
    try simp only [zcl hq.1.1 (Int.lt_trans hq.1.2 (by decide))]
    have hq := hq.2
    try simp only [z_m1, z_0, z_1, z_2, z_3, z_4, z_5, z_6, z_8, z_9, z_10, z_12, z_16, z_30, z_31, z_99, z_300, z_500, z_600, z_20000, zadd, zsub, zmul, zneg, zap]
    refine ⟨zin hq.1.1 hq.1.2 (by decide), ?_⟩
    try simp only [zcl hq.1.1 (Int.lt_trans hq.1.2 (by decide))]
    have hq := hq.2
    try simp only [z_m1, z_0, z_1, z_2, z_3, z_4, z_5, z_6, z_8, z_9, z_10, z_12, z_16, z_30, z_31, z_99, z_300, z_500, z_600, z_20000, zadd, zsub, zmul, zneg, zap]
    refine ⟨zin hq.1.1 hq.1.2 (by decide), ?_⟩
    try simp only [zcl hq.1.1 (Int.lt_trans hq.1.2 (by decide))]
    have hq := hq.2
    try simp only [z_m1, z_0, z_1, z_2, z_3, z_4, z_5, z_6, z_8, z_9, z_10, z_12, z_16, z_30, z_31, z_99, z_300, z_500, z_600, z_20000, zadd, zsub, zmul, zneg, zap]
    refine ⟨zin hq.1.1 hq.1.2 (by decide), ?_⟩
    try simp only [zcl hq.1.1 (Int.lt_trans hq.1.2 (by decide))]
    have hq := hq.2
    intro g9 eg9
    rw [zset] at eg9
    subst eg9
    have hq := hq _ rfl
    generalize iset h1 14 (((4 : Int) * (h1 17 x3.toNat)) + (h1 16 x3.toNat)).toNat ((h1 14 (((4 : Int) * (h1 17 x3.toNat)) + (h1 16 x3.toNat)).toNat) + t0) = h2 at hq ⊢
    try simp only [z_m1, z_0, z_1, z_2, z_3, z_4, z_5, z_6, z_8, z_9, z_10, z_12, z_16, z_30, z_31, z_99, z_300, z_500, z_600, z_20000, zadd, zsub, zmul, zneg, zap]
    refine ⟨zin hq.1.1 hq.1.2 (by decide), ?_⟩
    try simp only [zcl hq.1.1 (Int.lt_trans hq.1.2 (by decide))]
    have hq := hq.2
    try simp only [z_m1, z_0, z_1, z_2, z_3, z_4, z_5, z_6, z_8, z_9, z_10, z_12, z_16, z_30, z_31, z_99, z_300, z_500, z_600, z_20000, zadd, zsub, zmul, zneg, zap]
    refine ⟨zin hq.1.1 hq.1.2 (by decide), ?_⟩
    try simp only [zcl hq.1.1 (Int.lt_trans hq.1.2 (by decide))]
    have hq := hq.2
    intro g9 eg9
    rw [zset] at eg9
    subst eg9
    have hq := hq _ rfl
    generalize iset h2 13 (h2 17 x3.toNat).toNat (0 : Int) = h3 at hq ⊢
    try simp only [z_m1, z_0, z_1, z_2, z_3, z_4, z_5, z_6, z_8, z_9, z_10, z_12, z_16, z_30, z_31, z_99, z_300, z_500, z_600, z_20000, zadd, zsub, zmul, zneg, zap]
    intro g9 eg9
    rw [zset] at eg9
    subst eg9
    have hq := hq _ rfl
    generalize iset h3 0 24 ((h3 0 24) - (1 : Int)) = h4 at hq ⊢
    try simp only [z_m1, z_0, z_1, z_2, z_3, z_4, z_5, z_6, z_8, z_9, z_10, z_12, z_16, z_30, z_31, z_99, z_300, z_500, z_600, z_20000, zadd, zsub, zmul, zneg, zap]
    exact hq)
  have hq := hq (by
    intro hv x2 x3 x6 hq
    refine k137 (zS hv) (zI x2) (zI x3) (zI x6) ?_
    try simp only [z_m1, z_0, z_1, z_2, z_3, z_4, z_5, z_6, z_8, z_9, z_10, z_12, z_16, z_30, z_31, z_99, z_300, z_500, z_600, z_20000, zadd, zsub, zmul, zneg, zap]
    have rx := hq.1
    have hq := hq.2
    have ry := hq.1
    have hq := hq.2
    refine ⟨fun c => ?_, fun c => ?_⟩
    · have hq := hq.1 ((z_le ry rx).mp c)
      exact hq
    · have hq := hq.2 (fun h => c ((z_le ry rx).mpr h))
      refine ⟨zin hq.1.1 hq.1.2 (by decide), ?_⟩
      try simp only [zcl hq.1.1 (Int.lt_trans hq.1.2 (by decide))]
      have hq := hq.2
      try simp only [z_m1, z_0, z_1, z_2, z_3, z_4, z_5, z_6, z_8, z_9, z_10, z_12, z_16, z_30, z_31, z_99, z_300, z_500, z_600, z_20000, zadd, zsub, zmul, zneg, zap]
      refine ⟨zin hq.1.1 hq.1.2 (by decide), ?_⟩
      try simp only [zcl hq.1.1 (Int.lt_trans hq.1.2 (by decide))]
      have hq := hq.2
      intro g9 eg9
      rw [zset] at eg9
      subst eg9
      have hq := hq _ rfl
      generalize iset hv 15 x6.toNat (hv 15 (x6 + (1 : Int)).toNat) = h5 at hq ⊢
      try simp only [z_m1, z_0, z_1, z_2, z_3, z_4, z_5, z_6, z_8, z_9, z_10, z_12, z_16, z_30, z_31, z_99, z_300, z_500, z_600, z_20000, zadd, zsub, zmul, zneg, zap]
      refine ⟨zin hq.1.1 hq.1.2 (by decide), ?_⟩
      try simp only [zcl hq.1.1 (Int.lt_trans hq.1.2 (by decide))]
      have hq := hq.2
      try simp only [z_m1, z_0, z_1, z_2, z_3, z_4, z_5, z_6, z_8, z_9, z_10, z_12, z_16, z_30, z_31, z_99, z_300, z_500, z_600, z_20000, zadd, zsub, zmul, zneg, zap]
      refine ⟨zin hq.1.1 hq.1.2 (by decide), ?_⟩
      try simp only [zcl hq.1.1 (Int.lt_trans hq.1.2 (by decide))]
      have hq := hq.2
      intro g9 eg9
      rw [zset] at eg9
      subst eg9
      have hq := hq _ rfl
      generalize iset h5 16 x6.toNat (h5 16 (x6 + (1 : Int)).toNat) = h6 at hq ⊢
      try simp only [z_m1, z_0, z_1, z_2, z_3, z_4, z_5, z_6, z_8, z_9, z_10, z_12, z_16, z_30, z_31, z_99, z_300, z_500, z_600, z_20000, zadd, zsub, zmul, zneg, zap]
      refine ⟨zin hq.1.1 hq.1.2 (by decide), ?_⟩
      try simp only [zcl hq.1.1 (Int.lt_trans hq.1.2 (by decide))]
      have hq := hq.2
      try simp only [z_m1, z_0, z_1, z_2, z_3, z_4, z_5, z_6, z_8, z_9, z_10, z_12, z_16, z_30, z_31, z_99, z_300, z_500, z_600, z_20000, zadd, zsub, zmul, zneg, zap]
      refine ⟨zin hq.1.1 hq.1.2 (by decide), ?_⟩
      try simp only [zcl hq.1.1 (Int.lt_trans hq.1.2 (by decide))]
      have hq := hq.2
      intro g9 eg9
      rw [zset] at eg9
      subst eg9
      have hq := hq _ rfl
      generalize iset h6 17 x6.toNat (h6 17 (x6 + (1 : Int)).toNat) = h7 at hq ⊢
      try simp only [z_m1, z_0, z_1, z_2, z_3, z_4, z_5, z_6, z_8, z_9, z_10, z_12, z_16, z_30, z_31, z_99, z_300, z_500, z_600, z_20000, zadd, zsub, zmul, zneg, zap]
      refine ⟨zin hq.1.1 hq.1.2 (by decide), ?_⟩
      try simp only [zcl hq.1.1 (Int.lt_trans hq.1.2 (by decide))]
      have hq := hq.2
      try simp only [z_m1, z_0, z_1, z_2, z_3, z_4, z_5, z_6, z_8, z_9, z_10, z_12, z_16, z_30, z_31, z_99, z_300, z_500, z_600, z_20000, zadd, zsub, zmul, zneg, zap]
      refine ⟨zin hq.1.1 hq.1.2 (by decide), ?_⟩
      try simp only [zcl hq.1.1 (Int.lt_trans hq.1.2 (by decide))]
      have hq := hq.2
      intro g9 eg9
      rw [zset] at eg9
      subst eg9
      have hq := hq _ rfl
      generalize iset h7 18 x6.toNat (h7 18 (x6 + (1 : Int)).toNat) = h8 at hq ⊢
      try simp only [z_m1, z_0, z_1, z_2, z_3, z_4, z_5, z_6, z_8, z_9, z_10, z_12, z_16, z_30, z_31, z_99, z_300, z_500, z_600, z_20000, zadd, zsub, zmul, zneg, zap]
      exact hq)
  try simp only [z_m1, z_0, z_1, z_2, z_3, z_4, z_5, z_6, z_8, z_9, z_10, z_12, z_16, z_30, z_31, z_99, z_300, z_500, z_600, z_20000, zadd, zsub, zmul, zneg, zap]
  exact hq
def Q_X5_giveBack (h : ISt) (a1 : Int) (a2 : Int) (a3 : Int) (r : Int) (h' : ISt) : Prop := ∀ V19 : ISt → Prop, ∀ V20 : ISt → Int → Prop, ∀ V41 : ISt → Int → Prop, ∀ V42 : ISt → Int → Int → Prop, ∀ V72 : ISt → Int → Prop, ∀ V73 : ISt → Int → Int → Prop, ∀ V106 : ISt → Int → Prop, (∀ hv : ISt, (V20 hv (0 : Int)) → V19 hv) → (∀ hv : ISt, ∀ t0 : Int, (inR t0 ∧ ((t0 = (0 : Int) → (V41 hv t0)) ∧ (¬ t0 = (0 : Int) → ((0 ≤ a1 ∧ a1 < 30) ∧ (inR (hv 7 a1.toNat) ∧ (((hv 7 a1.toNat) = (-1 : Int) → (V41 hv t0)) ∧ (¬ (hv 7 a1.toNat) = (-1 : Int) → (V42 hv t0 (1 : Int))))))))) → V20 hv t0) → (∀ hv : ISt, ∀ x4 : Int, (V42 hv x4 (0 : Int)) → V41 hv x4) → (∀ hv : ISt, ∀ x4 t0 : Int, (inR t0 ∧ ((t0 = (0 : Int) → (V72 hv x4)) ∧ (¬ t0 = (0 : Int) → ((0 ≤ a1 ∧ a1 < 30) ∧ ((0 ≤ (((4 : Int) * (hv 7 a1.toNat)) + a2) ∧ (((4 : Int) * (hv 7 a1.toNat)) + a2) < 64) ∧ (inR (hv 14 (((4 : Int) * (hv 7 a1.toNat)) + a2).toNat) ∧ inR a3 ∧ (((hv 14 (((4 : Int) * (hv 7 a1.toNat)) + a2).toNat) < a3 → (V72 hv x4)) ∧ (¬ (hv 14 (((4 : Int) * (hv 7 a1.toNat)) + a2).toNat) < a3 → (V73 hv x4 (1 : Int)))))))))) → V42 hv x4 t0) → (∀ hv : ISt, ∀ x4 : Int, (V73 hv x4 (0 : Int)) → V72 hv x4) → (∀ hv : ISt, ∀ x4 t0 : Int, (inR x4 ∧ ((¬ x4 = (0 : Int) → (∃ r3 : Int, Q_X5_arePieces a3 r3 ∧ (inR r3 ∧ ((¬ r3 = (0 : Int) → (inR t0 ∧ ((¬ t0 = (0 : Int) → (V106 hv (0 : Int))) ∧ (t0 = (0 : Int) → (V106 hv (3 : Int)))))) ∧ (r3 = (0 : Int) → (V106 hv (2 : Int))))))) ∧ (x4 = (0 : Int) → (V106 hv (1 : Int))))) → V73 hv x4 t0) → (∀ hv : ISt, ∀ t0 : Int, (∃ (r4 : Int) (h5 : ISt), Q_X5_isFine hv t0 r4 h5 ∧ (inR r4 ∧ ((¬ r4 = (0 : Int) → ((0 ≤ a1 ∧ a1 < 30) ∧ ((0 ≤ (((4 : Int) * (h5 7 a1.toNat)) + a2) ∧ (((4 : Int) * (h5 7 a1.toNat)) + a2) < 64) ∧ ((0 ≤ (((4 : Int) * (h5 7 a1.toNat)) + a2) ∧ (((4 : Int) * (h5 7 a1.toNat)) + a2) < 64) ∧ (∀ h6 : ISt, h6 = iset h5 14 (((4 : Int) * (h5 7 a1.toNat)) + a2).toNat ((h5 14 (((4 : Int) * (h5 7 a1.toNat)) + a2).toNat) - a3) → ((0 ≤ a1 ∧ a1 < 30) ∧ (∀ h7 : ISt, h7 = iset h6 7 a1.toNat (-1 : Int) → ((0 ≤ (h5 7 a1.toNat) ∧ (h5 7 a1.toNat) < 16) ∧ (∀ h8 : ISt, h8 = iset h7 13 (h5 7 a1.toNat).toNat (0 : Int) → (∃ (r9 : Int) (h10 : ISt), Q_X5_closes h8 (h5 7 a1.toNat) r9 h10 ∧ (r = r9 ∧ h' = h10))))))))))) ∧ (r4 = (0 : Int) → (r = (0 : Int) ∧ h' = h5))))) → V106 hv t0) → (∃ r1 : Int, Q_X5_isGroup h a1 r1 ∧ (inR r1 ∧ ((r1 = (0 : Int) → (V19 h)) ∧ (¬ r1 = (0 : Int) → (∃ r2 : Int, Q_X5_isKind a2 r2 ∧ (inR r2 ∧ ((r2 = (0 : Int) → (V19 h)) ∧ (¬ r2 = (0 : Int) → (V20 h (1 : Int))))))))))
set_option maxRecDepth 100000 in
set_option maxHeartbeats 4000000 in
theorem t_X5_giveBack (h : ISt) (a1 : Int) (a2 : Int) (a3 : Int) (r : Int) (h' : ISt) (hq : Q_X5_giveBack h a1 a2 a3 r h') : P_X5_giveBack (zS h) (zI a1) (zI a2) (zI a3) (zI r) (zS h') := by
  intro V19 V20 V41 V42 V72 V73 V106 k19 k20 k41 k42 k72 k73 k106
  have hq := hq (fun hv => V19 (zS hv)) (fun hv t0 => V20 (zS hv) (zI t0)) (fun hv x4 => V41 (zS hv) (zI x4)) (fun hv x4 t0 => V42 (zS hv) (zI x4) (zI t0)) (fun hv x4 => V72 (zS hv) (zI x4)) (fun hv x4 t0 => V73 (zS hv) (zI x4) (zI t0)) (fun hv t0 => V106 (zS hv) (zI t0))
  have hq := hq (by
    intro hv hq
    refine k19 (zS hv) ?_
    try simp only [z_m1, z_0, z_1, z_2, z_3, z_4, z_5, z_6, z_8, z_9, z_10, z_12, z_16, z_30, z_31, z_99, z_300, z_500, z_600, z_20000, zadd, zsub, zmul, zneg, zap]
    exact hq)
  have hq := hq (by
    intro hv t0 hq
    refine k20 (zS hv) (zI t0) ?_
    try simp only [z_m1, z_0, z_1, z_2, z_3, z_4, z_5, z_6, z_8, z_9, z_10, z_12, z_16, z_30, z_31, z_99, z_300, z_500, z_600, z_20000, zadd, zsub, zmul, zneg, zap]
    have rx := hq.1
    have hq := hq.2
    refine ⟨fun c => ?_, fun c => ?_⟩
    · have hq := hq.1 ((z_eq rx ⟨by decide, by decide⟩).mp c)
      exact hq
    · have hq := hq.2 (fun h => c ((z_eq rx ⟨by decide, by decide⟩).mpr h))
      refine ⟨zin hq.1.1 hq.1.2 (by decide), ?_⟩
      try simp only [zcl hq.1.1 (Int.lt_trans hq.1.2 (by decide))]
      have hq := hq.2
      try simp only [z_m1, z_0, z_1, z_2, z_3, z_4, z_5, z_6, z_8, z_9, z_10, z_12, z_16, z_30, z_31, z_99, z_300, z_500, z_600, z_20000, zadd, zsub, zmul, zneg, zap]
      have rx := hq.1
      have hq := hq.2
      refine ⟨fun c => ?_, fun c => ?_⟩
      · have hq := hq.1 ((z_eq rx ⟨by decide, by decide⟩).mp c)
        exact hq
      · have hq := hq.2 (fun h => c ((z_eq rx ⟨by decide, by decide⟩).mpr h))
        exact hq)
  have hq := hq (by
    intro hv x4 hq
    refine k41 (zS hv) (zI x4) ?_
    try simp only [z_m1, z_0, z_1, z_2, z_3, z_4, z_5, z_6, z_8, z_9, z_10, z_12, z_16, z_30, z_31, z_99, z_300, z_500, z_600, z_20000, zadd, zsub, zmul, zneg, zap]
    exact hq)
  have hq := hq (by
    intro hv x4 t0 hq
    refine k42 (zS hv) (zI x4) (zI t0) ?_
    try simp only [z_m1, z_0, z_1, z_2, z_3, z_4, z_5, z_6, z_8, z_9, z_10, z_12, z_16, z_30, z_31, z_99, z_300, z_500, z_600, z_20000, zadd, zsub, zmul, zneg, zap]
    have rx := hq.1
    have hq := hq.2
    refine ⟨fun c => ?_, fun c => ?_⟩
    · have hq := hq.1 ((z_eq rx ⟨by decide, by decide⟩).mp c)
      exact hq
    · have hq := hq.2 (fun h => c ((z_eq rx ⟨by decide, by decide⟩).mpr h))
      refine ⟨zin hq.1.1 hq.1.2 (by decide), ?_⟩
      try simp only [zcl hq.1.1 (Int.lt_trans hq.1.2 (by decide))]
      have hq := hq.2
      try simp only [z_m1, z_0, z_1, z_2, z_3, z_4, z_5, z_6, z_8, z_9, z_10, z_12, z_16, z_30, z_31, z_99, z_300, z_500, z_600, z_20000, zadd, zsub, zmul, zneg, zap]
      refine ⟨zin hq.1.1 hq.1.2 (by decide), ?_⟩
      try simp only [zcl hq.1.1 (Int.lt_trans hq.1.2 (by decide))]
      have hq := hq.2
      try simp only [z_m1, z_0, z_1, z_2, z_3, z_4, z_5, z_6, z_8, z_9, z_10, z_12, z_16, z_30, z_31, z_99, z_300, z_500, z_600, z_20000, zadd, zsub, zmul, zneg, zap]
      have rx := hq.1
      have hq := hq.2
      have ry := hq.1
      have hq := hq.2
      refine ⟨fun c => ?_, fun c => ?_⟩
      · have hq := hq.1 ((z_lt rx ry).mp c)
        exact hq
      · have hq := hq.2 (fun h => c ((z_lt rx ry).mpr h))
        exact hq)
  have hq := hq (by
    intro hv x4 hq
    refine k72 (zS hv) (zI x4) ?_
    try simp only [z_m1, z_0, z_1, z_2, z_3, z_4, z_5, z_6, z_8, z_9, z_10, z_12, z_16, z_30, z_31, z_99, z_300, z_500, z_600, z_20000, zadd, zsub, zmul, zneg, zap]
    exact hq)
  have hq := hq (by
    intro hv x4 t0 hq
    refine k73 (zS hv) (zI x4) (zI t0) ?_
    try simp only [z_m1, z_0, z_1, z_2, z_3, z_4, z_5, z_6, z_8, z_9, z_10, z_12, z_16, z_30, z_31, z_99, z_300, z_500, z_600, z_20000, zadd, zsub, zmul, zneg, zap]
    have rx := hq.1
    have hq := hq.2
    refine ⟨fun c => ?_, fun c => ?_⟩
    · have hq := hq.1 (fun h => c ((z_eq rx ⟨by decide, by decide⟩).mpr h))
      obtain ⟨r3, hr3, hq⟩ := hq
      refine ⟨zI r3, t_X5_arePieces a3 r3 hr3, ?_⟩
      try simp only [z_m1, z_0, z_1, z_2, z_3, z_4, z_5, z_6, z_8, z_9, z_10, z_12, z_16, z_30, z_31, z_99, z_300, z_500, z_600, z_20000, zadd, zsub, zmul, zneg, zap]
      have rx := hq.1
      have hq := hq.2
      refine ⟨fun c => ?_, fun c => ?_⟩
      · have hq := hq.1 (fun h => c ((z_eq rx ⟨by decide, by decide⟩).mpr h))
        have rx := hq.1
        have hq := hq.2
        refine ⟨fun c => ?_, fun c => ?_⟩
        · have hq := hq.1 (fun h => c ((z_eq rx ⟨by decide, by decide⟩).mpr h))
          exact hq
        · have hq := hq.2 ((z_eq rx ⟨by decide, by decide⟩).mp c)
          exact hq
      · have hq := hq.2 ((z_eq rx ⟨by decide, by decide⟩).mp c)
        exact hq
    · have hq := hq.2 ((z_eq rx ⟨by decide, by decide⟩).mp c)
      exact hq)
  have hq := hq (by
    intro hv t0 hq
    refine k106 (zS hv) (zI t0) ?_
    try simp only [z_m1, z_0, z_1, z_2, z_3, z_4, z_5, z_6, z_8, z_9, z_10, z_12, z_16, z_30, z_31, z_99, z_300, z_500, z_600, z_20000, zadd, zsub, zmul, zneg, zap]
    obtain ⟨r4, h5, hh5, hq⟩ := hq
    refine ⟨zI r4, zS h5, t_X5_isFine hv t0 r4 h5 hh5, ?_⟩
    try simp only [z_m1, z_0, z_1, z_2, z_3, z_4, z_5, z_6, z_8, z_9, z_10, z_12, z_16, z_30, z_31, z_99, z_300, z_500, z_600, z_20000, zadd, zsub, zmul, zneg, zap]
    have rx := hq.1
    have hq := hq.2
    refine ⟨fun c => ?_, fun c => ?_⟩
    · have hq := hq.1 (fun h => c ((z_eq rx ⟨by decide, by decide⟩).mpr h))
      refine ⟨zin hq.1.1 hq.1.2 (by decide), ?_⟩
      try simp only [zcl hq.1.1 (Int.lt_trans hq.1.2 (by decide))]
      have hq := hq.2
      try simp only [z_m1, z_0, z_1, z_2, z_3, z_4, z_5, z_6, z_8, z_9, z_10, z_12, z_16, z_30, z_31, z_99, z_300, z_500, z_600, z_20000, zadd, zsub, zmul, zneg, zap]
      refine ⟨zin hq.1.1 hq.1.2 (by decide), ?_⟩
      try simp only [zcl hq.1.1 (Int.lt_trans hq.1.2 (by decide))]
      have hq := hq.2
      try simp only [z_m1, z_0, z_1, z_2, z_3, z_4, z_5, z_6, z_8, z_9, z_10, z_12, z_16, z_30, z_31, z_99, z_300, z_500, z_600, z_20000, zadd, zsub, zmul, zneg, zap]
      refine ⟨zin hq.1.1 hq.1.2 (by decide), ?_⟩
      try simp only [zcl hq.1.1 (Int.lt_trans hq.1.2 (by decide))]
      have hq := hq.2
      intro g9 eg9
      rw [zset] at eg9
      subst eg9
      have hq := hq _ rfl
      generalize iset h5 14 (((4 : Int) * (h5 7 a1.toNat)) + a2).toNat ((h5 14 (((4 : Int) * (h5 7 a1.toNat)) + a2).toNat) - a3) = h6 at hq ⊢
      try simp only [z_m1, z_0, z_1, z_2, z_3, z_4, z_5, z_6, z_8, z_9, z_10, z_12, z_16, z_30, z_31, z_99, z_300, z_500, z_600, z_20000, zadd, zsub, zmul, zneg, zap]
      refine ⟨zin hq.1.1 hq.1.2 (by decide), ?_⟩
      try simp only [zcl hq.1.1 (Int.lt_trans hq.1.2 (by decide))]
      have hq := hq.2
      intro g9 eg9
      rw [zset] at eg9
      subst eg9
      have hq := hq _ rfl
      generalize iset h6 7 a1.toNat (-1 : Int) = h7 at hq ⊢
      try simp only [z_m1, z_0, z_1, z_2, z_3, z_4, z_5, z_6, z_8, z_9, z_10, z_12, z_16, z_30, z_31, z_99, z_300, z_500, z_600, z_20000, zadd, zsub, zmul, zneg, zap]
      refine ⟨zin hq.1.1 hq.1.2 (by decide), ?_⟩
      try simp only [zcl hq.1.1 (Int.lt_trans hq.1.2 (by decide))]
      have hq := hq.2
      intro g9 eg9
      rw [zset] at eg9
      subst eg9
      have hq := hq _ rfl
      generalize iset h7 13 (h5 7 a1.toNat).toNat (0 : Int) = h8 at hq ⊢
      try simp only [z_m1, z_0, z_1, z_2, z_3, z_4, z_5, z_6, z_8, z_9, z_10, z_12, z_16, z_30, z_31, z_99, z_300, z_500, z_600, z_20000, zadd, zsub, zmul, zneg, zap]
      obtain ⟨r9, h10, hh10, hq⟩ := hq
      refine ⟨zI r9, zS h10, t_X5_closes h8 (h5 7 a1.toNat) r9 h10 hh10, ?_⟩
      try simp only [z_m1, z_0, z_1, z_2, z_3, z_4, z_5, z_6, z_8, z_9, z_10, z_12, z_16, z_30, z_31, z_99, z_300, z_500, z_600, z_20000, zadd, zsub, zmul, zneg, zap]
      exact ⟨congrArg zI hq.1, congrArg zS hq.2⟩
    · have hq := hq.2 ((z_eq rx ⟨by decide, by decide⟩).mp c)
      exact ⟨congrArg zI hq.1, congrArg zS hq.2⟩)
  try simp only [z_m1, z_0, z_1, z_2, z_3, z_4, z_5, z_6, z_8, z_9, z_10, z_12, z_16, z_30, z_31, z_99, z_300, z_500, z_600, z_20000, zadd, zsub, zmul, zneg, zap]
  obtain ⟨r1, hr1, hq⟩ := hq
  refine ⟨zI r1, t_X5_isGroup h a1 r1 hr1, ?_⟩
  try simp only [z_m1, z_0, z_1, z_2, z_3, z_4, z_5, z_6, z_8, z_9, z_10, z_12, z_16, z_30, z_31, z_99, z_300, z_500, z_600, z_20000, zadd, zsub, zmul, zneg, zap]
  have rx := hq.1
  have hq := hq.2
  refine ⟨fun c => ?_, fun c => ?_⟩
  · have hq := hq.1 ((z_eq rx ⟨by decide, by decide⟩).mp c)
    exact hq
  · have hq := hq.2 (fun h => c ((z_eq rx ⟨by decide, by decide⟩).mpr h))
    obtain ⟨r2, hr2, hq⟩ := hq
    refine ⟨zI r2, t_X5_isKind a2 r2 hr2, ?_⟩
    try simp only [z_m1, z_0, z_1, z_2, z_3, z_4, z_5, z_6, z_8, z_9, z_10, z_12, z_16, z_30, z_31, z_99, z_300, z_500, z_600, z_20000, zadd, zsub, zmul, zneg, zap]
    have rx := hq.1
    have hq := hq.2
    refine ⟨fun c => ?_, fun c => ?_⟩
    · have hq := hq.1 ((z_eq rx ⟨by decide, by decide⟩).mp c)
      exact hq
    · have hq := hq.2 (fun h => c ((z_eq rx ⟨by decide, by decide⟩).mpr h))
      exact hq
def Q_X5_found (h : ISt) (a1 : Int) (a2 : Int) (a3 : Int) (r : Int) (h' : ISt) : Prop := ∀ V19 : ISt → Prop, ∀ V20 : ISt → Int → Prop, ∀ V74 : ISt → Int → Prop, ∀ V75 : ISt → Int → Int → Prop, ∀ V111 : ISt → Int → Prop, (∀ hv : ISt, (V20 hv (0 : Int)) → V19 hv) → (∀ hv : ISt, ∀ t0 : Int, (inR t0 ∧ ((t0 = (0 : Int) → (V74 hv t0)) ∧ (¬ t0 = (0 : Int) → ((0 ≤ a1 ∧ a1 < 16) ∧ (inR (hv 13 a1.toNat) ∧ ((¬ (hv 13 a1.toNat) = (0 : Int) → (V74 hv t0)) ∧ ((hv 13 a1.toNat) = (0 : Int) → ((0 ≤ (((4 : Int) * a1) + a2) ∧ (((4 : Int) * a1) + a2) < 64) ∧ ((0 ≤ a1 ∧ a1 < 16) ∧ ((0 ≤ (((4 : Int) * (hv 12 a1.toNat)) + a2) ∧ (((4 : Int) * (hv 12 a1.toNat)) + a2) < 32) ∧ (inR (hv 14 (((4 : Int) * a1) + a2).toNat) ∧ inR a3 ∧ inR (hv 11 (((4 : Int) * (hv 12 a1.toNat)) + a2).toNat) ∧ (inR (icmp ((hv 14 (((4 : Int) * a1) + a2).toNat) + a3) (hv 11 (((4 : Int) * (hv 12 a1.toNat)) + a2).toNat)) ∧ (((0 : Int) < (icmp ((hv 14 (((4 : Int) * a1) + a2).toNat) + a3) (hv 11 (((4 : Int) * (hv 12 a1.toNat)) + a2).toNat)) → (V74 hv t0)) ∧ (¬ (0 : Int) < (icmp ((hv 14 (((4 : Int) * a1) + a2).toNat) + a3) (hv 11 (((4 : Int) * (hv 12 a1.toNat)) + a2).toNat)) → (V75 hv t0 (1 : Int)))))))))))))))) → V20 hv t0) → (∀ hv : ISt, ∀ x4 : Int, (V75 hv x4 (0 : Int)) → V74 hv x4) → (∀ hv : ISt, ∀ x4 t0 : Int, (inR x4 ∧ ((¬ x4 = (0 : Int) → (∃ r3 : Int, Q_X5_isIn a3 (1 : Int) (9 : Int) r3 ∧ (inR r3 ∧ ((¬ r3 = (0 : Int) → (inR t0 ∧ ((¬ t0 = (0 : Int) → (V111 hv (0 : Int))) ∧ (t0 = (0 : Int) → (V111 hv (3 : Int)))))) ∧ (r3 = (0 : Int) → (V111 hv (2 : Int))))))) ∧ (x4 = (0 : Int) → (V111 hv (1 : Int))))) → V75 hv x4 t0) → (∀ hv : ISt, ∀ t0 : Int, (∃ (r4 : Int) (h5 : ISt), Q_X5_isFine hv t0 r4 h5 ∧ (inR r4 ∧ ((¬ r4 = (0 : Int) → ((0 ≤ (((4 : Int) * a1) + a2) ∧ (((4 : Int) * a1) + a2) < 64) ∧ ((0 ≤ (((4 : Int) * a1) + a2) ∧ (((4 : Int) * a1) + a2) < 64) ∧ (∀ h6 : ISt, h6 = iset h5 14 (((4 : Int) * a1) + a2).toNat ((h5 14 (((4 : Int) * a1) + a2).toNat) + a3) → ((0 ≤ (((4 : Int) * a1) + a2) ∧ (((4 : Int) * a1) + a2) < 64) ∧ (r = (h6 14 (((4 : Int) * a1) + a2).toNat) ∧ h' = h6)))))) ∧ (r4 = (0 : Int) → (r = (0 : Int) ∧ h' = h5))))) → V111 hv t0) → (∃ r1 : Int, Q_X5_isCopy h a1 r1 ∧ (inR r1 ∧ ((r1 = (0 : Int) → (V19 h)) ∧ (¬ r1 = (0 : Int) → (∃ r2 : Int, Q_X5_isKind a2 r2 ∧ (inR r2 ∧ ((r2 = (0 : Int) → (V19 h)) ∧ (¬ r2 = (0 : Int) → (V20 h (1 : Int))))))))))
set_option maxRecDepth 100000 in
set_option maxHeartbeats 4000000 in
theorem t_X5_found (h : ISt) (a1 : Int) (a2 : Int) (a3 : Int) (r : Int) (h' : ISt) (hq : Q_X5_found h a1 a2 a3 r h') : P_X5_found (zS h) (zI a1) (zI a2) (zI a3) (zI r) (zS h') := by
  intro V19 V20 V74 V75 V111 k19 k20 k74 k75 k111
  have hq := hq (fun hv => V19 (zS hv)) (fun hv t0 => V20 (zS hv) (zI t0)) (fun hv x4 => V74 (zS hv) (zI x4)) (fun hv x4 t0 => V75 (zS hv) (zI x4) (zI t0)) (fun hv t0 => V111 (zS hv) (zI t0))
  have hq := hq (by
    intro hv hq
    refine k19 (zS hv) ?_
    try simp only [z_m1, z_0, z_1, z_2, z_3, z_4, z_5, z_6, z_8, z_9, z_10, z_12, z_16, z_30, z_31, z_99, z_300, z_500, z_600, z_20000, zadd, zsub, zmul, zneg, zap]
    exact hq)
  have hq := hq (by
    intro hv t0 hq
    refine k20 (zS hv) (zI t0) ?_
    try simp only [z_m1, z_0, z_1, z_2, z_3, z_4, z_5, z_6, z_8, z_9, z_10, z_12, z_16, z_30, z_31, z_99, z_300, z_500, z_600, z_20000, zadd, zsub, zmul, zneg, zap]
    have rx := hq.1
    have hq := hq.2
    refine ⟨fun c => ?_, fun c => ?_⟩
    · have hq := hq.1 ((z_eq rx ⟨by decide, by decide⟩).mp c)
      exact hq
    · have hq := hq.2 (fun h => c ((z_eq rx ⟨by decide, by decide⟩).mpr h))
      refine ⟨zin hq.1.1 hq.1.2 (by decide), ?_⟩
      try simp only [zcl hq.1.1 (Int.lt_trans hq.1.2 (by decide))]
      have hq := hq.2
      try simp only [z_m1, z_0, z_1, z_2, z_3, z_4, z_5, z_6, z_8, z_9, z_10, z_12, z_16, z_30, z_31, z_99, z_300, z_500, z_600, z_20000, zadd, zsub, zmul, zneg, zap]
      have rx := hq.1
      have hq := hq.2
      refine ⟨fun c => ?_, fun c => ?_⟩
      · have hq := hq.1 (fun h => c ((z_eq rx ⟨by decide, by decide⟩).mpr h))
        exact hq
      · have hq := hq.2 ((z_eq rx ⟨by decide, by decide⟩).mp c)
        refine ⟨zin hq.1.1 hq.1.2 (by decide), ?_⟩
        try simp only [zcl hq.1.1 (Int.lt_trans hq.1.2 (by decide))]
        have hq := hq.2
        try simp only [z_m1, z_0, z_1, z_2, z_3, z_4, z_5, z_6, z_8, z_9, z_10, z_12, z_16, z_30, z_31, z_99, z_300, z_500, z_600, z_20000, zadd, zsub, zmul, zneg, zap]
        refine ⟨zin hq.1.1 hq.1.2 (by decide), ?_⟩
        try simp only [zcl hq.1.1 (Int.lt_trans hq.1.2 (by decide))]
        have hq := hq.2
        try simp only [z_m1, z_0, z_1, z_2, z_3, z_4, z_5, z_6, z_8, z_9, z_10, z_12, z_16, z_30, z_31, z_99, z_300, z_500, z_600, z_20000, zadd, zsub, zmul, zneg, zap]
        refine ⟨zin hq.1.1 hq.1.2 (by decide), ?_⟩
        try simp only [zcl hq.1.1 (Int.lt_trans hq.1.2 (by decide))]
        have hq := hq.2
        try simp only [z_m1, z_0, z_1, z_2, z_3, z_4, z_5, z_6, z_8, z_9, z_10, z_12, z_16, z_30, z_31, z_99, z_300, z_500, z_600, z_20000, zadd, zsub, zmul, zneg, zap]
        simp only [zcmp hq.1 hq.2.1 hq.2.2.1]
        have hq := hq.2.2.2
        try simp only [z_m1, z_0, z_1, z_2, z_3, z_4, z_5, z_6, z_8, z_9, z_10, z_12, z_16, z_30, z_31, z_99, z_300, z_500, z_600, z_20000, zadd, zsub, zmul, zneg, zap]
        have rx := hq.1
        have hq := hq.2
        refine ⟨fun c => ?_, fun c => ?_⟩
        · have hq := hq.1 ((z_lt ⟨by decide, by decide⟩ rx).mp c)
          exact hq
        · have hq := hq.2 (fun h => c ((z_lt ⟨by decide, by decide⟩ rx).mpr h))
          exact hq)
  have hq := hq (by
    intro hv x4 hq
    refine k74 (zS hv) (zI x4) ?_
    try simp only [z_m1, z_0, z_1, z_2, z_3, z_4, z_5, z_6, z_8, z_9, z_10, z_12, z_16, z_30, z_31, z_99, z_300, z_500, z_600, z_20000, zadd, zsub, zmul, zneg, zap]
    exact hq)
  have hq := hq (by
    intro hv x4 t0 hq
    refine k75 (zS hv) (zI x4) (zI t0) ?_
    try simp only [z_m1, z_0, z_1, z_2, z_3, z_4, z_5, z_6, z_8, z_9, z_10, z_12, z_16, z_30, z_31, z_99, z_300, z_500, z_600, z_20000, zadd, zsub, zmul, zneg, zap]
    have rx := hq.1
    have hq := hq.2
    refine ⟨fun c => ?_, fun c => ?_⟩
    · have hq := hq.1 (fun h => c ((z_eq rx ⟨by decide, by decide⟩).mpr h))
      obtain ⟨r3, hr3, hq⟩ := hq
      refine ⟨zI r3, t_X5_isIn a3 (1 : Int) (9 : Int) r3 hr3, ?_⟩
      try simp only [z_m1, z_0, z_1, z_2, z_3, z_4, z_5, z_6, z_8, z_9, z_10, z_12, z_16, z_30, z_31, z_99, z_300, z_500, z_600, z_20000, zadd, zsub, zmul, zneg, zap]
      have rx := hq.1
      have hq := hq.2
      refine ⟨fun c => ?_, fun c => ?_⟩
      · have hq := hq.1 (fun h => c ((z_eq rx ⟨by decide, by decide⟩).mpr h))
        have rx := hq.1
        have hq := hq.2
        refine ⟨fun c => ?_, fun c => ?_⟩
        · have hq := hq.1 (fun h => c ((z_eq rx ⟨by decide, by decide⟩).mpr h))
          exact hq
        · have hq := hq.2 ((z_eq rx ⟨by decide, by decide⟩).mp c)
          exact hq
      · have hq := hq.2 ((z_eq rx ⟨by decide, by decide⟩).mp c)
        exact hq
    · have hq := hq.2 ((z_eq rx ⟨by decide, by decide⟩).mp c)
      exact hq)
  have hq := hq (by
    intro hv t0 hq
    refine k111 (zS hv) (zI t0) ?_
    try simp only [z_m1, z_0, z_1, z_2, z_3, z_4, z_5, z_6, z_8, z_9, z_10, z_12, z_16, z_30, z_31, z_99, z_300, z_500, z_600, z_20000, zadd, zsub, zmul, zneg, zap]
    obtain ⟨r4, h5, hh5, hq⟩ := hq
    refine ⟨zI r4, zS h5, t_X5_isFine hv t0 r4 h5 hh5, ?_⟩
    try simp only [z_m1, z_0, z_1, z_2, z_3, z_4, z_5, z_6, z_8, z_9, z_10, z_12, z_16, z_30, z_31, z_99, z_300, z_500, z_600, z_20000, zadd, zsub, zmul, zneg, zap]
    have rx := hq.1
    have hq := hq.2
    refine ⟨fun c => ?_, fun c => ?_⟩
    · have hq := hq.1 (fun h => c ((z_eq rx ⟨by decide, by decide⟩).mpr h))
      refine ⟨zin hq.1.1 hq.1.2 (by decide), ?_⟩
      try simp only [zcl hq.1.1 (Int.lt_trans hq.1.2 (by decide))]
      have hq := hq.2
      try simp only [z_m1, z_0, z_1, z_2, z_3, z_4, z_5, z_6, z_8, z_9, z_10, z_12, z_16, z_30, z_31, z_99, z_300, z_500, z_600, z_20000, zadd, zsub, zmul, zneg, zap]
      refine ⟨zin hq.1.1 hq.1.2 (by decide), ?_⟩
      try simp only [zcl hq.1.1 (Int.lt_trans hq.1.2 (by decide))]
      have hq := hq.2
      intro g9 eg9
      rw [zset] at eg9
      subst eg9
      have hq := hq _ rfl
      generalize iset h5 14 (((4 : Int) * a1) + a2).toNat ((h5 14 (((4 : Int) * a1) + a2).toNat) + a3) = h6 at hq ⊢
      try simp only [z_m1, z_0, z_1, z_2, z_3, z_4, z_5, z_6, z_8, z_9, z_10, z_12, z_16, z_30, z_31, z_99, z_300, z_500, z_600, z_20000, zadd, zsub, zmul, zneg, zap]
      refine ⟨zin hq.1.1 hq.1.2 (by decide), ?_⟩
      try simp only [zcl hq.1.1 (Int.lt_trans hq.1.2 (by decide))]
      have hq := hq.2
      try simp only [z_m1, z_0, z_1, z_2, z_3, z_4, z_5, z_6, z_8, z_9, z_10, z_12, z_16, z_30, z_31, z_99, z_300, z_500, z_600, z_20000, zadd, zsub, zmul, zneg, zap]
      exact ⟨congrArg zI hq.1, congrArg zS hq.2⟩
    · have hq := hq.2 ((z_eq rx ⟨by decide, by decide⟩).mp c)
      exact ⟨congrArg zI hq.1, congrArg zS hq.2⟩)
  try simp only [z_m1, z_0, z_1, z_2, z_3, z_4, z_5, z_6, z_8, z_9, z_10, z_12, z_16, z_30, z_31, z_99, z_300, z_500, z_600, z_20000, zadd, zsub, zmul, zneg, zap]
  obtain ⟨r1, hr1, hq⟩ := hq
  refine ⟨zI r1, t_X5_isCopy h a1 r1 hr1, ?_⟩
  try simp only [z_m1, z_0, z_1, z_2, z_3, z_4, z_5, z_6, z_8, z_9, z_10, z_12, z_16, z_30, z_31, z_99, z_300, z_500, z_600, z_20000, zadd, zsub, zmul, zneg, zap]
  have rx := hq.1
  have hq := hq.2
  refine ⟨fun c => ?_, fun c => ?_⟩
  · have hq := hq.1 ((z_eq rx ⟨by decide, by decide⟩).mp c)
    exact hq
  · have hq := hq.2 (fun h => c ((z_eq rx ⟨by decide, by decide⟩).mpr h))
    obtain ⟨r2, hr2, hq⟩ := hq
    refine ⟨zI r2, t_X5_isKind a2 r2 hr2, ?_⟩
    try simp only [z_m1, z_0, z_1, z_2, z_3, z_4, z_5, z_6, z_8, z_9, z_10, z_12, z_16, z_30, z_31, z_99, z_300, z_500, z_600, z_20000, zadd, zsub, zmul, zneg, zap]
    have rx := hq.1
    have hq := hq.2
    refine ⟨fun c => ?_, fun c => ?_⟩
    · have hq := hq.1 ((z_eq rx ⟨by decide, by decide⟩).mp c)
      exact hq
    · have hq := hq.2 (fun h => c ((z_eq rx ⟨by decide, by decide⟩).mpr h))
      exact hq
def Q_X5_pieces (h : ISt) (a1 : Int) (a2 : Int) (r : Int) (h' : ISt) : Prop := ∀ V20 : ISt → Prop, ∀ V21 : ISt → Int → Prop, (∀ hv : ISt, (V21 hv (1 : Int)) → V20 hv) → (∀ hv : ISt, ∀ t0 : Int, (∃ (r3 : Int) (h4 : ISt), Q_X5_isFine hv t0 r3 h4 ∧ (inR r3 ∧ ((r3 = (0 : Int) → (r = (0 : Int) ∧ h' = h4)) ∧ (¬ r3 = (0 : Int) → ((0 ≤ (((4 : Int) * a1) + a2) ∧ (((4 : Int) * a1) + a2) < 64) ∧ (r = (h4 14 (((4 : Int) * a1) + a2).toNat) ∧ h' = h4)))))) → V21 hv t0) → (∃ r1 : Int, Q_X5_isCopy h a1 r1 ∧ (inR r1 ∧ ((r1 = (0 : Int) → (V20 h)) ∧ (¬ r1 = (0 : Int) → (∃ r2 : Int, Q_X5_isKind a2 r2 ∧ (inR r2 ∧ ((r2 = (0 : Int) → (V20 h)) ∧ (¬ r2 = (0 : Int) → (V21 h (0 : Int))))))))))
set_option maxRecDepth 100000 in
set_option maxHeartbeats 4000000 in
theorem t_X5_pieces (h : ISt) (a1 : Int) (a2 : Int) (r : Int) (h' : ISt) (hq : Q_X5_pieces h a1 a2 r h') : P_X5_pieces (zS h) (zI a1) (zI a2) (zI r) (zS h') := by
  intro V20 V21 k20 k21
  have hq := hq (fun hv => V20 (zS hv)) (fun hv t0 => V21 (zS hv) (zI t0))
  have hq := hq (by
    intro hv hq
    refine k20 (zS hv) ?_
    try simp only [z_m1, z_0, z_1, z_2, z_3, z_4, z_5, z_6, z_8, z_9, z_10, z_12, z_16, z_30, z_31, z_99, z_300, z_500, z_600, z_20000, zadd, zsub, zmul, zneg, zap]
    exact hq)
  have hq := hq (by
    intro hv t0 hq
    refine k21 (zS hv) (zI t0) ?_
    try simp only [z_m1, z_0, z_1, z_2, z_3, z_4, z_5, z_6, z_8, z_9, z_10, z_12, z_16, z_30, z_31, z_99, z_300, z_500, z_600, z_20000, zadd, zsub, zmul, zneg, zap]
    obtain ⟨r3, h4, hh4, hq⟩ := hq
    refine ⟨zI r3, zS h4, t_X5_isFine hv t0 r3 h4 hh4, ?_⟩
    try simp only [z_m1, z_0, z_1, z_2, z_3, z_4, z_5, z_6, z_8, z_9, z_10, z_12, z_16, z_30, z_31, z_99, z_300, z_500, z_600, z_20000, zadd, zsub, zmul, zneg, zap]
    have rx := hq.1
    have hq := hq.2
    refine ⟨fun c => ?_, fun c => ?_⟩
    · have hq := hq.1 ((z_eq rx ⟨by decide, by decide⟩).mp c)
      exact ⟨congrArg zI hq.1, congrArg zS hq.2⟩
    · have hq := hq.2 (fun h => c ((z_eq rx ⟨by decide, by decide⟩).mpr h))
      refine ⟨zin hq.1.1 hq.1.2 (by decide), ?_⟩
      try simp only [zcl hq.1.1 (Int.lt_trans hq.1.2 (by decide))]
      have hq := hq.2
      try simp only [z_m1, z_0, z_1, z_2, z_3, z_4, z_5, z_6, z_8, z_9, z_10, z_12, z_16, z_30, z_31, z_99, z_300, z_500, z_600, z_20000, zadd, zsub, zmul, zneg, zap]
      exact ⟨congrArg zI hq.1, congrArg zS hq.2⟩)
  try simp only [z_m1, z_0, z_1, z_2, z_3, z_4, z_5, z_6, z_8, z_9, z_10, z_12, z_16, z_30, z_31, z_99, z_300, z_500, z_600, z_20000, zadd, zsub, zmul, zneg, zap]
  obtain ⟨r1, hr1, hq⟩ := hq
  refine ⟨zI r1, t_X5_isCopy h a1 r1 hr1, ?_⟩
  try simp only [z_m1, z_0, z_1, z_2, z_3, z_4, z_5, z_6, z_8, z_9, z_10, z_12, z_16, z_30, z_31, z_99, z_300, z_500, z_600, z_20000, zadd, zsub, zmul, zneg, zap]
  have rx := hq.1
  have hq := hq.2
  refine ⟨fun c => ?_, fun c => ?_⟩
  · have hq := hq.1 ((z_eq rx ⟨by decide, by decide⟩).mp c)
    exact hq
  · have hq := hq.2 (fun h => c ((z_eq rx ⟨by decide, by decide⟩).mpr h))
    obtain ⟨r2, hr2, hq⟩ := hq
    refine ⟨zI r2, t_X5_isKind a2 r2 hr2, ?_⟩
    try simp only [z_m1, z_0, z_1, z_2, z_3, z_4, z_5, z_6, z_8, z_9, z_10, z_12, z_16, z_30, z_31, z_99, z_300, z_500, z_600, z_20000, zadd, zsub, zmul, zneg, zap]
    have rx := hq.1
    have hq := hq.2
    refine ⟨fun c => ?_, fun c => ?_⟩
    · have hq := hq.1 ((z_eq rx ⟨by decide, by decide⟩).mp c)
      exact hq
    · have hq := hq.2 (fun h => c ((z_eq rx ⟨by decide, by decide⟩).mpr h))
      exact hq
def Q_X5_stateOf (h : ISt) (a1 : Int) (r : Int) (h' : ISt) : Prop := ∀ V14 : ISt → Int → Prop, (∀ hv : ISt, ∀ t0 : Int, (∃ (r2 : Int) (h3 : ISt), Q_X5_isFine hv t0 r2 h3 ∧ (inR r2 ∧ ((r2 = (0 : Int) → (r = (0 : Int) ∧ h' = h3)) ∧ (¬ r2 = (0 : Int) → ((0 ≤ a1 ∧ a1 < 16) ∧ (r = (h3 13 a1.toNat) ∧ h' = h3)))))) → V14 hv t0) → (∃ r1 : Int, Q_X5_isCopy h a1 r1 ∧ (inR r1 ∧ ((r1 = (0 : Int) → (V14 h (1 : Int))) ∧ (¬ r1 = (0 : Int) → (V14 h (0 : Int))))))
set_option maxRecDepth 100000 in
set_option maxHeartbeats 4000000 in
theorem t_X5_stateOf (h : ISt) (a1 : Int) (r : Int) (h' : ISt) (hq : Q_X5_stateOf h a1 r h') : P_X5_stateOf (zS h) (zI a1) (zI r) (zS h') := by
  intro V14 k14
  have hq := hq (fun hv t0 => V14 (zS hv) (zI t0))
  have hq := hq (by
    intro hv t0 hq
    refine k14 (zS hv) (zI t0) ?_
    try simp only [z_m1, z_0, z_1, z_2, z_3, z_4, z_5, z_6, z_8, z_9, z_10, z_12, z_16, z_30, z_31, z_99, z_300, z_500, z_600, z_20000, zadd, zsub, zmul, zneg, zap]
    obtain ⟨r2, h3, hh3, hq⟩ := hq
    refine ⟨zI r2, zS h3, t_X5_isFine hv t0 r2 h3 hh3, ?_⟩
    try simp only [z_m1, z_0, z_1, z_2, z_3, z_4, z_5, z_6, z_8, z_9, z_10, z_12, z_16, z_30, z_31, z_99, z_300, z_500, z_600, z_20000, zadd, zsub, zmul, zneg, zap]
    have rx := hq.1
    have hq := hq.2
    refine ⟨fun c => ?_, fun c => ?_⟩
    · have hq := hq.1 ((z_eq rx ⟨by decide, by decide⟩).mp c)
      exact ⟨congrArg zI hq.1, congrArg zS hq.2⟩
    · have hq := hq.2 (fun h => c ((z_eq rx ⟨by decide, by decide⟩).mpr h))
      refine ⟨zin hq.1.1 hq.1.2 (by decide), ?_⟩
      try simp only [zcl hq.1.1 (Int.lt_trans hq.1.2 (by decide))]
      have hq := hq.2
      try simp only [z_m1, z_0, z_1, z_2, z_3, z_4, z_5, z_6, z_8, z_9, z_10, z_12, z_16, z_30, z_31, z_99, z_300, z_500, z_600, z_20000, zadd, zsub, zmul, zneg, zap]
      exact ⟨congrArg zI hq.1, congrArg zS hq.2⟩)
  try simp only [z_m1, z_0, z_1, z_2, z_3, z_4, z_5, z_6, z_8, z_9, z_10, z_12, z_16, z_30, z_31, z_99, z_300, z_500, z_600, z_20000, zadd, zsub, zmul, zneg, zap]
  obtain ⟨r1, hr1, hq⟩ := hq
  refine ⟨zI r1, t_X5_isCopy h a1 r1 hr1, ?_⟩
  try simp only [z_m1, z_0, z_1, z_2, z_3, z_4, z_5, z_6, z_8, z_9, z_10, z_12, z_16, z_30, z_31, z_99, z_300, z_500, z_600, z_20000, zadd, zsub, zmul, zneg, zap]
  have rx := hq.1
  have hq := hq.2
  refine ⟨fun c => ?_, fun c => ?_⟩
  · have hq := hq.1 ((z_eq rx ⟨by decide, by decide⟩).mp c)
    exact hq
  · have hq := hq.2 (fun h => c ((z_eq rx ⟨by decide, by decide⟩).mpr h))
    exact hq
def Q_X5_lenders (h : ISt) (a1 : Int) (r : Int) (h' : ISt) : Prop := ∀ V14 : ISt → Int → Prop, (∀ hv : ISt, ∀ t0 : Int, (∃ (r2 : Int) (h3 : ISt), Q_X5_isFine hv t0 r2 h3 ∧ (inR r2 ∧ ((r2 = (0 : Int) → (r = (0 : Int) ∧ h' = h3)) ∧ (¬ r2 = (0 : Int) → (∃ r4 : Int, Q_X5_lendersOf h3 a1 r4 ∧ (r = r4 ∧ h' = h3)))))) → V14 hv t0) → (∃ r1 : Int, Q_X5_isCopy h a1 r1 ∧ (inR r1 ∧ ((r1 = (0 : Int) → (V14 h (1 : Int))) ∧ (¬ r1 = (0 : Int) → (V14 h (0 : Int))))))
set_option maxRecDepth 100000 in
set_option maxHeartbeats 4000000 in
theorem t_X5_lenders (h : ISt) (a1 : Int) (r : Int) (h' : ISt) (hq : Q_X5_lenders h a1 r h') : P_X5_lenders (zS h) (zI a1) (zI r) (zS h') := by
  intro V14 k14
  have hq := hq (fun hv t0 => V14 (zS hv) (zI t0))
  have hq := hq (by
    intro hv t0 hq
    refine k14 (zS hv) (zI t0) ?_
    try simp only [z_m1, z_0, z_1, z_2, z_3, z_4, z_5, z_6, z_8, z_9, z_10, z_12, z_16, z_30, z_31, z_99, z_300, z_500, z_600, z_20000, zadd, zsub, zmul, zneg, zap]
    obtain ⟨r2, h3, hh3, hq⟩ := hq
    refine ⟨zI r2, zS h3, t_X5_isFine hv t0 r2 h3 hh3, ?_⟩
    try simp only [z_m1, z_0, z_1, z_2, z_3, z_4, z_5, z_6, z_8, z_9, z_10, z_12, z_16, z_30, z_31, z_99, z_300, z_500, z_600, z_20000, zadd, zsub, zmul, zneg, zap]
    have rx := hq.1
    have hq := hq.2
    refine ⟨fun c => ?_, fun c => ?_⟩
    · have hq := hq.1 ((z_eq rx ⟨by decide, by decide⟩).mp c)
      exact ⟨congrArg zI hq.1, congrArg zS hq.2⟩
    · have hq := hq.2 (fun h => c ((z_eq rx ⟨by decide, by decide⟩).mpr h))
      obtain ⟨r4, hr4, hq⟩ := hq
      refine ⟨zI r4, t_X5_lendersOf h3 a1 r4 hr4, ?_⟩
      try simp only [z_m1, z_0, z_1, z_2, z_3, z_4, z_5, z_6, z_8, z_9, z_10, z_12, z_16, z_30, z_31, z_99, z_300, z_500, z_600, z_20000, zadd, zsub, zmul, zneg, zap]
      exact ⟨congrArg zI hq.1, congrArg zS hq.2⟩)
  try simp only [z_m1, z_0, z_1, z_2, z_3, z_4, z_5, z_6, z_8, z_9, z_10, z_12, z_16, z_30, z_31, z_99, z_300, z_500, z_600, z_20000, zadd, zsub, zmul, zneg, zap]
  obtain ⟨r1, hr1, hq⟩ := hq
  refine ⟨zI r1, t_X5_isCopy h a1 r1 hr1, ?_⟩
  try simp only [z_m1, z_0, z_1, z_2, z_3, z_4, z_5, z_6, z_8, z_9, z_10, z_12, z_16, z_30, z_31, z_99, z_300, z_500, z_600, z_20000, zadd, zsub, zmul, zneg, zap]
  have rx := hq.1
  have hq := hq.2
  refine ⟨fun c => ?_, fun c => ?_⟩
  · have hq := hq.1 ((z_eq rx ⟨by decide, by decide⟩).mp c)
    exact hq
  · have hq := hq.2 (fun h => c ((z_eq rx ⟨by decide, by decide⟩).mpr h))
    exact hq
def Q_X5_copyOf (h : ISt) (a1 : Int) (r : Int) (h' : ISt) : Prop := ∀ V14 : ISt → Int → Prop, (∀ hv : ISt, ∀ t0 : Int, (∃ (r2 : Int) (h3 : ISt), Q_X5_isFine hv t0 r2 h3 ∧ (inR r2 ∧ ((r2 = (0 : Int) → (r = (0 : Int) ∧ h' = h3)) ∧ (¬ r2 = (0 : Int) → ((0 ≤ a1 ∧ a1 < 30) ∧ (r = (h3 7 a1.toNat) ∧ h' = h3)))))) → V14 hv t0) → (∃ r1 : Int, Q_X5_isGroup h a1 r1 ∧ (inR r1 ∧ ((r1 = (0 : Int) → (V14 h (1 : Int))) ∧ (¬ r1 = (0 : Int) → (V14 h (0 : Int))))))
set_option maxRecDepth 100000 in
set_option maxHeartbeats 4000000 in
theorem t_X5_copyOf (h : ISt) (a1 : Int) (r : Int) (h' : ISt) (hq : Q_X5_copyOf h a1 r h') : P_X5_copyOf (zS h) (zI a1) (zI r) (zS h') := by
  intro V14 k14
  have hq := hq (fun hv t0 => V14 (zS hv) (zI t0))
  have hq := hq (by
    intro hv t0 hq
    refine k14 (zS hv) (zI t0) ?_
    try simp only [z_m1, z_0, z_1, z_2, z_3, z_4, z_5, z_6, z_8, z_9, z_10, z_12, z_16, z_30, z_31, z_99, z_300, z_500, z_600, z_20000, zadd, zsub, zmul, zneg, zap]
    obtain ⟨r2, h3, hh3, hq⟩ := hq
    refine ⟨zI r2, zS h3, t_X5_isFine hv t0 r2 h3 hh3, ?_⟩
    try simp only [z_m1, z_0, z_1, z_2, z_3, z_4, z_5, z_6, z_8, z_9, z_10, z_12, z_16, z_30, z_31, z_99, z_300, z_500, z_600, z_20000, zadd, zsub, zmul, zneg, zap]
    have rx := hq.1
    have hq := hq.2
    refine ⟨fun c => ?_, fun c => ?_⟩
    · have hq := hq.1 ((z_eq rx ⟨by decide, by decide⟩).mp c)
      exact ⟨congrArg zI hq.1, congrArg zS hq.2⟩
    · have hq := hq.2 (fun h => c ((z_eq rx ⟨by decide, by decide⟩).mpr h))
      refine ⟨zin hq.1.1 hq.1.2 (by decide), ?_⟩
      try simp only [zcl hq.1.1 (Int.lt_trans hq.1.2 (by decide))]
      have hq := hq.2
      try simp only [z_m1, z_0, z_1, z_2, z_3, z_4, z_5, z_6, z_8, z_9, z_10, z_12, z_16, z_30, z_31, z_99, z_300, z_500, z_600, z_20000, zadd, zsub, zmul, zneg, zap]
      exact ⟨congrArg zI hq.1, congrArg zS hq.2⟩)
  try simp only [z_m1, z_0, z_1, z_2, z_3, z_4, z_5, z_6, z_8, z_9, z_10, z_12, z_16, z_30, z_31, z_99, z_300, z_500, z_600, z_20000, zadd, zsub, zmul, zneg, zap]
  obtain ⟨r1, hr1, hq⟩ := hq
  refine ⟨zI r1, t_X5_isGroup h a1 r1 hr1, ?_⟩
  try simp only [z_m1, z_0, z_1, z_2, z_3, z_4, z_5, z_6, z_8, z_9, z_10, z_12, z_16, z_30, z_31, z_99, z_300, z_500, z_600, z_20000, zadd, zsub, zmul, zneg, zap]
  have rx := hq.1
  have hq := hq.2
  refine ⟨fun c => ?_, fun c => ?_⟩
  · have hq := hq.1 ((z_eq rx ⟨by decide, by decide⟩).mp c)
    exact hq
  · have hq := hq.2 (fun h => c ((z_eq rx ⟨by decide, by decide⟩).mpr h))
    exact hq
def Q_X5_lentTo (h : ISt) (a1 : Int) (r : Int) : Prop := ∀ V4 : Int → Int → Prop, (∀ x2 x3 : Int, (inR x3 ∧ inR (h 0 24) ∧ (((h 0 24) ≤ x3 → (r = x2)) ∧ (¬ (h 0 24) ≤ x3 → ((0 ≤ x3 ∧ x3 < 64) ∧ (inR (h 15 x3.toNat) ∧ inR a1 ∧ ((¬ (h 15 x3.toNat) = a1 → (V4 (x2 + (0 : Int)) (x3 + (1 : Int)))) ∧ ((h 15 x3.toNat) = a1 → ((0 ≤ x3 ∧ x3 < 64) ∧ (V4 (x2 + (h 18 x3.toNat)) (x3 + (1 : Int))))))))))) → V4 x2 x3) → (V4 (0 : Int) (0 : Int))
set_option maxRecDepth 100000 in
set_option maxHeartbeats 4000000 in
theorem t_X5_lentTo (h : ISt) (a1 : Int) (r : Int) (hq : Q_X5_lentTo h a1 r) : P_X5_lentTo (zS h) (zI a1) (zI r) := by
  intro V4 k4
  have hq := hq (fun x2 x3 => V4 (zI x2) (zI x3))
  have hq := hq (by
    intro x2 x3 hq
    refine k4 (zI x2) (zI x3) ?_
    try simp only [z_m1, z_0, z_1, z_2, z_3, z_4, z_5, z_6, z_8, z_9, z_10, z_12, z_16, z_30, z_31, z_99, z_300, z_500, z_600, z_20000, zadd, zsub, zmul, zneg, zap]
    have rx := hq.1
    have hq := hq.2
    have ry := hq.1
    have hq := hq.2
    refine ⟨fun c => ?_, fun c => ?_⟩
    · have hq := hq.1 ((z_le ry rx).mp c)
      exact congrArg zI hq
    · have hq := hq.2 (fun h => c ((z_le ry rx).mpr h))
      refine ⟨zin hq.1.1 hq.1.2 (by decide), ?_⟩
      try simp only [zcl hq.1.1 (Int.lt_trans hq.1.2 (by decide))]
      have hq := hq.2
      try simp only [z_m1, z_0, z_1, z_2, z_3, z_4, z_5, z_6, z_8, z_9, z_10, z_12, z_16, z_30, z_31, z_99, z_300, z_500, z_600, z_20000, zadd, zsub, zmul, zneg, zap]
      have rx := hq.1
      have hq := hq.2
      have ry := hq.1
      have hq := hq.2
      refine ⟨fun c => ?_, fun c => ?_⟩
      · have hq := hq.1 (fun h => c ((z_eq rx ry).mpr h))
        exact hq
      · have hq := hq.2 ((z_eq rx ry).mp c)
        refine ⟨zin hq.1.1 hq.1.2 (by decide), ?_⟩
        try simp only [zcl hq.1.1 (Int.lt_trans hq.1.2 (by decide))]
        have hq := hq.2
        try simp only [z_m1, z_0, z_1, z_2, z_3, z_4, z_5, z_6, z_8, z_9, z_10, z_12, z_16, z_30, z_31, z_99, z_300, z_500, z_600, z_20000, zadd, zsub, zmul, zneg, zap]
        exact hq)
  try simp only [z_m1, z_0, z_1, z_2, z_3, z_4, z_5, z_6, z_8, z_9, z_10, z_12, z_16, z_30, z_31, z_99, z_300, z_500, z_600, z_20000, zadd, zsub, zmul, zneg, zap]
  exact hq
def Q_X5_holds (h : ISt) (a1 : Int) (a2 : Int) (r : Int) : Prop := ((0 ≤ a2 ∧ a2 < 96) ∧ ((0 ≤ a2 ∧ a2 < 96) ∧ (inR (h 20 a2.toNat) ∧ (((h 20 a2.toNat) = (0 : Int) → ((0 ≤ a1 ∧ a1 < 30) ∧ (inR (h 3 a1.toNat) ∧ inR (h 21 a2.toNat) ∧ (((h 3 a1.toNat) < (h 21 a2.toNat) → (r = (0 : Int))) ∧ (¬ (h 3 a1.toNat) < (h 21 a2.toNat) → (r = (1 : Int))))))) ∧ (¬ (h 20 a2.toNat) = (0 : Int) → (((h 20 a2.toNat) = (1 : Int) → (∃ r1 : Int, Q_X5_leftOf h a1 r1 ∧ (inR r1 ∧ inR (h 21 a2.toNat) ∧ (((h 21 a2.toNat) ≤ r1 → (r = (0 : Int))) ∧ (¬ (h 21 a2.toNat) ≤ r1 → (r = (1 : Int))))))) ∧ (¬ (h 20 a2.toNat) = (1 : Int) → (((h 20 a2.toNat) = (2 : Int) → ((0 ≤ a1 ∧ a1 < 30) ∧ ((0 ≤ (h 3 a1.toNat) ∧ (h 3 a1.toNat) ≤ 2147483647) ∧ (0 < (h 21 a2.toNat) ∧ (h 21 a2.toNat) ≤ 2147483647) ∧ (inR ((h 3 a1.toNat) % (h 21 a2.toNat)) ∧ ((¬ ((h 3 a1.toNat) % (h 21 a2.toNat)) = (0 : Int) → (r = (0 : Int))) ∧ (((h 3 a1.toNat) % (h 21 a2.toNat)) = (0 : Int) → (r = (1 : Int)))))))) ∧ (¬ (h 20 a2.toNat) = (2 : Int) → ((0 ≤ a1 ∧ a1 < 30) ∧ (∃ r2 : Int, Q_X5_lentTo h (h 7 a1.toNat) r2 ∧ (inR r2 ∧ inR (h 21 a2.toNat) ∧ ((r2 < (h 21 a2.toNat) → (r = (0 : Int))) ∧ (¬ r2 < (h 21 a2.toNat) → (r = (1 : Int))))))))))))))))
set_option maxRecDepth 100000 in
set_option maxHeartbeats 4000000 in
theorem t_X5_holds (h : ISt) (a1 : Int) (a2 : Int) (r : Int) (hq : Q_X5_holds h a1 a2 r) : P_X5_holds (zS h) (zI a1) (zI a2) (zI r) := by
  unfold P_X5_holds
  unfold Q_X5_holds at hq
  try simp only [z_m1, z_0, z_1, z_2, z_3, z_4, z_5, z_6, z_8, z_9, z_10, z_12, z_16, z_30, z_31, z_99, z_300, z_500, z_600, z_20000, zadd, zsub, zmul, zneg, zap]
  refine ⟨zin hq.1.1 hq.1.2 (by decide), ?_⟩
  try simp only [zcl hq.1.1 (Int.lt_trans hq.1.2 (by decide))]
  have hq := hq.2
  try simp only [z_m1, z_0, z_1, z_2, z_3, z_4, z_5, z_6, z_8, z_9, z_10, z_12, z_16, z_30, z_31, z_99, z_300, z_500, z_600, z_20000, zadd, zsub, zmul, zneg, zap]
  refine ⟨zin hq.1.1 hq.1.2 (by decide), ?_⟩
  try simp only [zcl hq.1.1 (Int.lt_trans hq.1.2 (by decide))]
  have hq := hq.2
  try simp only [z_m1, z_0, z_1, z_2, z_3, z_4, z_5, z_6, z_8, z_9, z_10, z_12, z_16, z_30, z_31, z_99, z_300, z_500, z_600, z_20000, zadd, zsub, zmul, zneg, zap]
  have rx := hq.1
  have hq := hq.2
  refine ⟨fun c => ?_, fun c => ?_⟩
  · have hq := hq.1 ((z_eq rx ⟨by decide, by decide⟩).mp c)
    refine ⟨zin hq.1.1 hq.1.2 (by decide), ?_⟩
    try simp only [zcl hq.1.1 (Int.lt_trans hq.1.2 (by decide))]
    have hq := hq.2
    try simp only [z_m1, z_0, z_1, z_2, z_3, z_4, z_5, z_6, z_8, z_9, z_10, z_12, z_16, z_30, z_31, z_99, z_300, z_500, z_600, z_20000, zadd, zsub, zmul, zneg, zap]
    have rx := hq.1
    have hq := hq.2
    have ry := hq.1
    have hq := hq.2
    refine ⟨fun c => ?_, fun c => ?_⟩
    · have hq := hq.1 ((z_lt rx ry).mp c)
      exact congrArg zI hq
    · have hq := hq.2 (fun h => c ((z_lt rx ry).mpr h))
      exact congrArg zI hq
  have hq := hq.2 (fun h => c ((z_eq rx ⟨by decide, by decide⟩).mpr h))
  refine ⟨fun c => ?_, fun c => ?_⟩
  · have hq := hq.1 ((z_eq rx ⟨by decide, by decide⟩).mp c)
    obtain ⟨r1, hr1, hq⟩ := hq
    refine ⟨zI r1, t_X5_leftOf h a1 r1 hr1, ?_⟩
    try simp only [z_m1, z_0, z_1, z_2, z_3, z_4, z_5, z_6, z_8, z_9, z_10, z_12, z_16, z_30, z_31, z_99, z_300, z_500, z_600, z_20000, zadd, zsub, zmul, zneg, zap]
    have rx := hq.1
    have hq := hq.2
    have ry := hq.1
    have hq := hq.2
    refine ⟨fun c => ?_, fun c => ?_⟩
    · have hq := hq.1 ((z_le ry rx).mp c)
      exact congrArg zI hq
    · have hq := hq.2 (fun h => c ((z_le ry rx).mpr h))
      exact congrArg zI hq
  have hq := hq.2 (fun h => c ((z_eq rx ⟨by decide, by decide⟩).mpr h))
  refine ⟨fun c => ?_, fun c => ?_⟩
  · have hq := hq.1 ((z_eq rx ⟨by decide, by decide⟩).mp c)
    refine ⟨zin hq.1.1 hq.1.2 (by decide), ?_⟩
    try simp only [zcl hq.1.1 (Int.lt_trans hq.1.2 (by decide))]
    have hq := hq.2
    try simp only [z_m1, z_0, z_1, z_2, z_3, z_4, z_5, z_6, z_8, z_9, z_10, z_12, z_16, z_30, z_31, z_99, z_300, z_500, z_600, z_20000, zadd, zsub, zmul, zneg, zap]
    refine ⟨fun c0 => absurd ((z_eq (by have := hq.2.1; unfold inR; omega) ⟨by decide, by decide⟩).mp c0) (by have := hq.2.1; omega), ?_⟩
    try simp only [← zadd, ← zsub, ← zmul]
    simp only [zrem hq.1 hq.2.1]
    have hq := hq.2.2
    try simp only [z_m1, z_0, z_1, z_2, z_3, z_4, z_5, z_6, z_8, z_9, z_10, z_12, z_16, z_30, z_31, z_99, z_300, z_500, z_600, z_20000, zadd, zsub, zmul, zneg, zap]
    have rx := hq.1
    have hq := hq.2
    refine ⟨fun c => ?_, fun c => ?_⟩
    · have hq := hq.1 (fun h => c ((z_eq rx ⟨by decide, by decide⟩).mpr h))
      exact congrArg zI hq
    · have hq := hq.2 ((z_eq rx ⟨by decide, by decide⟩).mp c)
      exact congrArg zI hq
  have hq := hq.2 (fun h => c ((z_eq rx ⟨by decide, by decide⟩).mpr h))
  refine ⟨zin hq.1.1 hq.1.2 (by decide), ?_⟩
  try simp only [zcl hq.1.1 (Int.lt_trans hq.1.2 (by decide))]
  have hq := hq.2
  try simp only [z_m1, z_0, z_1, z_2, z_3, z_4, z_5, z_6, z_8, z_9, z_10, z_12, z_16, z_30, z_31, z_99, z_300, z_500, z_600, z_20000, zadd, zsub, zmul, zneg, zap]
  obtain ⟨r2, hr2, hq⟩ := hq
  refine ⟨zI r2, t_X5_lentTo h (h 7 a1.toNat) r2 hr2, ?_⟩
  try simp only [z_m1, z_0, z_1, z_2, z_3, z_4, z_5, z_6, z_8, z_9, z_10, z_12, z_16, z_30, z_31, z_99, z_300, z_500, z_600, z_20000, zadd, zsub, zmul, zneg, zap]
  have rx := hq.1
  have hq := hq.2
  have ry := hq.1
  have hq := hq.2
  refine ⟨fun c => ?_, fun c => ?_⟩
  · have hq := hq.1 ((z_lt rx ry).mp c)
    exact congrArg zI hq
  · have hq := hq.2 (fun h => c ((z_lt rx ry).mpr h))
    exact congrArg zI hq
def Q_X5_firstThat (h : ISt) (a1 : Int) (a2 : Int) (a3 : Int) (r : Int) : Prop := ∀ V3 : Int → Prop, (∀ x4 : Int, ((0 ≤ a2 ∧ a2 < 8) ∧ (inR x4 ∧ inR (h 23 a2.toNat) ∧ (((h 23 a2.toNat) ≤ x4 → (r = (-1 : Int))) ∧ (¬ (h 23 a2.toNat) ≤ x4 → ((0 ≤ (((12 : Int) * a2) + x4) ∧ (((12 : Int) * a2) + x4) < 96) ∧ (inR (h 19 (((12 : Int) * a2) + x4).toNat) ∧ inR a3 ∧ ((¬ (h 19 (((12 : Int) * a2) + x4).toNat) = a3 → (V3 (x4 + (1 : Int)))) ∧ ((h 19 (((12 : Int) * a2) + x4).toNat) = a3 → (∃ r1 : Int, Q_X5_holds h a1 (((12 : Int) * a2) + x4) r1 ∧ (inR r1 ∧ ((r1 = (0 : Int) → (V3 (x4 + (1 : Int)))) ∧ (¬ r1 = (0 : Int) → (r = x4))))))))))))) → V3 x4) → (V3 (0 : Int))
set_option maxRecDepth 100000 in
set_option maxHeartbeats 4000000 in
theorem t_X5_firstThat (h : ISt) (a1 : Int) (a2 : Int) (a3 : Int) (r : Int) (hq : Q_X5_firstThat h a1 a2 a3 r) : P_X5_firstThat (zS h) (zI a1) (zI a2) (zI a3) (zI r) := by
  intro V3 k3
  have hq := hq (fun x4 => V3 (zI x4))
  have hq := hq (by
    intro x4 hq
    refine k3 (zI x4) ?_
    try simp only [z_m1, z_0, z_1, z_2, z_3, z_4, z_5, z_6, z_8, z_9, z_10, z_12, z_16, z_30, z_31, z_99, z_300, z_500, z_600, z_20000, zadd, zsub, zmul, zneg, zap]
    refine ⟨zin hq.1.1 hq.1.2 (by decide), ?_⟩
    try simp only [zcl hq.1.1 (Int.lt_trans hq.1.2 (by decide))]
    have hq := hq.2
    try simp only [z_m1, z_0, z_1, z_2, z_3, z_4, z_5, z_6, z_8, z_9, z_10, z_12, z_16, z_30, z_31, z_99, z_300, z_500, z_600, z_20000, zadd, zsub, zmul, zneg, zap]
    have rx := hq.1
    have hq := hq.2
    have ry := hq.1
    have hq := hq.2
    refine ⟨fun c => ?_, fun c => ?_⟩
    · have hq := hq.1 ((z_le ry rx).mp c)
      exact congrArg zI hq
    · have hq := hq.2 (fun h => c ((z_le ry rx).mpr h))
      refine ⟨zin hq.1.1 hq.1.2 (by decide), ?_⟩
      try simp only [zcl hq.1.1 (Int.lt_trans hq.1.2 (by decide))]
      have hq := hq.2
      try simp only [z_m1, z_0, z_1, z_2, z_3, z_4, z_5, z_6, z_8, z_9, z_10, z_12, z_16, z_30, z_31, z_99, z_300, z_500, z_600, z_20000, zadd, zsub, zmul, zneg, zap]
      have rx := hq.1
      have hq := hq.2
      have ry := hq.1
      have hq := hq.2
      refine ⟨fun c => ?_, fun c => ?_⟩
      · have hq := hq.1 (fun h => c ((z_eq rx ry).mpr h))
        exact hq
      · have hq := hq.2 ((z_eq rx ry).mp c)
        obtain ⟨r1, hr1, hq⟩ := hq
        refine ⟨zI r1, t_X5_holds h a1 (((12 : Int) * a2) + x4) r1 hr1, ?_⟩
        try simp only [z_m1, z_0, z_1, z_2, z_3, z_4, z_5, z_6, z_8, z_9, z_10, z_12, z_16, z_30, z_31, z_99, z_300, z_500, z_600, z_20000, zadd, zsub, zmul, zneg, zap]
        have rx := hq.1
        have hq := hq.2
        refine ⟨fun c => ?_, fun c => ?_⟩
        · have hq := hq.1 ((z_eq rx ⟨by decide, by decide⟩).mp c)
          exact hq
        · have hq := hq.2 (fun h => c ((z_eq rx ⟨by decide, by decide⟩).mpr h))
          exact congrArg zI hq)
  try simp only [z_m1, z_0, z_1, z_2, z_3, z_4, z_5, z_6, z_8, z_9, z_10, z_12, z_16, z_30, z_31, z_99, z_300, z_500, z_600, z_20000, zadd, zsub, zmul, zneg, zap]
  exact hq
def Q_X5_rulingFor (h : ISt) (a1 : Int) (r : Int) : Prop := ∀ V23 : Int → Int → Int → Prop, (∀ x2 x3 x4 : Int, (inR x4 ∧ ((x4 = (-1 : Int) → (inR x3 ∧ ((¬ x3 = (-1 : Int) → ((0 ≤ (((12 : Int) * x2) + x3) ∧ (((12 : Int) * x2) + x3) < 96) ∧ (r = (h 22 (((12 : Int) * x2) + x3).toNat)))) ∧ (x3 = (-1 : Int) → (r = (-1 : Int)))))) ∧ (¬ x4 = (-1 : Int) → (∃ r2 : Int, Q_X5_firstThat h a1 x2 x4 r2 ∧ (V23 x2 x4 r2))))) → V23 x2 x3 x4) → ((0 ≤ a1 ∧ a1 < 30) ∧ ((0 ≤ (h 7 a1.toNat) ∧ (h 7 a1.toNat) < 16) ∧ (∃ r1 : Int, Q_X5_firstThat h a1 (h 12 (h 7 a1.toNat).toNat) (-1 : Int) r1 ∧ (V23 (h 12 (h 7 a1.toNat).toNat) (-1 : Int) r1))))
set_option maxRecDepth 100000 in
set_option maxHeartbeats 4000000 in
theorem t_X5_rulingFor (h : ISt) (a1 : Int) (r : Int) (hq : Q_X5_rulingFor h a1 r) : P_X5_rulingFor (zS h) (zI a1) (zI r) := by
  intro V23 k23
  have hq := hq (fun x2 x3 x4 => V23 (zI x2) (zI x3) (zI x4))
  have hq := hq (by
    intro x2 x3 x4 hq
    refine k23 (zI x2) (zI x3) (zI x4) ?_
    try simp only [z_m1, z_0, z_1, z_2, z_3, z_4, z_5, z_6, z_8, z_9, z_10, z_12, z_16, z_30, z_31, z_99, z_300, z_500, z_600, z_20000, zadd, zsub, zmul, zneg, zap]
    have rx := hq.1
    have hq := hq.2
    refine ⟨fun c => ?_, fun c => ?_⟩
    · have hq := hq.1 ((z_eq rx ⟨by decide, by decide⟩).mp c)
      have rx := hq.1
      have hq := hq.2
      refine ⟨fun c => ?_, fun c => ?_⟩
      · have hq := hq.1 (fun h => c ((z_eq rx ⟨by decide, by decide⟩).mpr h))
        refine ⟨zin hq.1.1 hq.1.2 (by decide), ?_⟩
        try simp only [zcl hq.1.1 (Int.lt_trans hq.1.2 (by decide))]
        have hq := hq.2
        try simp only [z_m1, z_0, z_1, z_2, z_3, z_4, z_5, z_6, z_8, z_9, z_10, z_12, z_16, z_30, z_31, z_99, z_300, z_500, z_600, z_20000, zadd, zsub, zmul, zneg, zap]
        exact congrArg zI hq
      · have hq := hq.2 ((z_eq rx ⟨by decide, by decide⟩).mp c)
        exact congrArg zI hq
    · have hq := hq.2 (fun h => c ((z_eq rx ⟨by decide, by decide⟩).mpr h))
      obtain ⟨r2, hr2, hq⟩ := hq
      refine ⟨zI r2, t_X5_firstThat h a1 x2 x4 r2 hr2, ?_⟩
      try simp only [z_m1, z_0, z_1, z_2, z_3, z_4, z_5, z_6, z_8, z_9, z_10, z_12, z_16, z_30, z_31, z_99, z_300, z_500, z_600, z_20000, zadd, zsub, zmul, zneg, zap]
      exact hq)
  try simp only [z_m1, z_0, z_1, z_2, z_3, z_4, z_5, z_6, z_8, z_9, z_10, z_12, z_16, z_30, z_31, z_99, z_300, z_500, z_600, z_20000, zadd, zsub, zmul, zneg, zap]
  refine ⟨zin hq.1.1 hq.1.2 (by decide), ?_⟩
  try simp only [zcl hq.1.1 (Int.lt_trans hq.1.2 (by decide))]
  have hq := hq.2
  try simp only [z_m1, z_0, z_1, z_2, z_3, z_4, z_5, z_6, z_8, z_9, z_10, z_12, z_16, z_30, z_31, z_99, z_300, z_500, z_600, z_20000, zadd, zsub, zmul, zneg, zap]
  refine ⟨zin hq.1.1 hq.1.2 (by decide), ?_⟩
  try simp only [zcl hq.1.1 (Int.lt_trans hq.1.2 (by decide))]
  have hq := hq.2
  try simp only [z_m1, z_0, z_1, z_2, z_3, z_4, z_5, z_6, z_8, z_9, z_10, z_12, z_16, z_30, z_31, z_99, z_300, z_500, z_600, z_20000, zadd, zsub, zmul, zneg, zap]
  obtain ⟨r1, hr1, hq⟩ := hq
  refine ⟨zI r1, t_X5_firstThat h a1 (h 12 (h 7 a1.toNat).toNat) (-1 : Int) r1 hr1, ?_⟩
  try simp only [z_m1, z_0, z_1, z_2, z_3, z_4, z_5, z_6, z_8, z_9, z_10, z_12, z_16, z_30, z_31, z_99, z_300, z_500, z_600, z_20000, zadd, zsub, zmul, zneg, zap]
  exact hq
def Q_X5_asks (h : ISt) (a1 : Int) (r : Int) (h' : ISt) : Prop := (∃ r1 : Int, Q_X5_isGroup h a1 r1 ∧ (inR r1 ∧ ((¬ r1 = (0 : Int) → ((0 ≤ a1 ∧ a1 < 30) ∧ (inR (h 7 a1.toNat) ∧ ((¬ (h 7 a1.toNat) = (-1 : Int) → (∃ (r2 : Int) (h3 : ISt), Q_X5_isFine h (0 : Int) r2 h3 ∧ ((r2 = 0 ∨ r2 = 1) ∧ (r = r2 ∧ h' = h3)))) ∧ ((h 7 a1.toNat) = (-1 : Int) → (∃ (r4 : Int) (h5 : ISt), Q_X5_isFine h (2 : Int) r4 h5 ∧ ((r4 = 0 ∨ r4 = 1) ∧ (r = r4 ∧ h' = h5)))))))) ∧ (r1 = (0 : Int) → (∃ (r6 : Int) (h7 : ISt), Q_X5_isFine h (1 : Int) r6 h7 ∧ ((r6 = 0 ∨ r6 = 1) ∧ (r = r6 ∧ h' = h7)))))))
set_option maxRecDepth 100000 in
set_option maxHeartbeats 4000000 in
theorem t_X5_asks (h : ISt) (a1 : Int) (r : Int) (h' : ISt) (hq : Q_X5_asks h a1 r h') : P_X5_asks (zS h) (zI a1) (zI r) (zS h') := by
  unfold P_X5_asks
  unfold Q_X5_asks at hq
  try simp only [z_m1, z_0, z_1, z_2, z_3, z_4, z_5, z_6, z_8, z_9, z_10, z_12, z_16, z_30, z_31, z_99, z_300, z_500, z_600, z_20000, zadd, zsub, zmul, zneg, zap]
  obtain ⟨r1, hr1, hq⟩ := hq
  refine ⟨zI r1, t_X5_isGroup h a1 r1 hr1, ?_⟩
  try simp only [z_m1, z_0, z_1, z_2, z_3, z_4, z_5, z_6, z_8, z_9, z_10, z_12, z_16, z_30, z_31, z_99, z_300, z_500, z_600, z_20000, zadd, zsub, zmul, zneg, zap]
  have rx := hq.1
  have hq := hq.2
  refine ⟨fun c => ?_, fun c => ?_⟩
  · have hq := hq.1 (fun h => c ((z_eq rx ⟨by decide, by decide⟩).mpr h))
    refine ⟨zin hq.1.1 hq.1.2 (by decide), ?_⟩
    try simp only [zcl hq.1.1 (Int.lt_trans hq.1.2 (by decide))]
    have hq := hq.2
    try simp only [z_m1, z_0, z_1, z_2, z_3, z_4, z_5, z_6, z_8, z_9, z_10, z_12, z_16, z_30, z_31, z_99, z_300, z_500, z_600, z_20000, zadd, zsub, zmul, zneg, zap]
    have rx := hq.1
    have hq := hq.2
    refine ⟨fun c => ?_, fun c => ?_⟩
    · have hq := hq.1 (fun h => c ((z_eq rx ⟨by decide, by decide⟩).mpr h))
      obtain ⟨r2, h3, hh3, hq⟩ := hq
      refine ⟨zI r2, zS h3, t_X5_isFine h (0 : Int) r2 h3 hh3, ?_⟩
      try simp only [z_m1, z_0, z_1, z_2, z_3, z_4, z_5, z_6, z_8, z_9, z_10, z_12, z_16, z_30, z_31, z_99, z_300, z_500, z_600, z_20000, zadd, zsub, zmul, zneg, zap]
      exact ⟨hq.1.imp (congrArg zI) (congrArg zI), ⟨congrArg zI hq.2.1, congrArg zS hq.2.2⟩⟩
    · have hq := hq.2 ((z_eq rx ⟨by decide, by decide⟩).mp c)
      obtain ⟨r4, h5, hh5, hq⟩ := hq
      refine ⟨zI r4, zS h5, t_X5_isFine h (2 : Int) r4 h5 hh5, ?_⟩
      try simp only [z_m1, z_0, z_1, z_2, z_3, z_4, z_5, z_6, z_8, z_9, z_10, z_12, z_16, z_30, z_31, z_99, z_300, z_500, z_600, z_20000, zadd, zsub, zmul, zneg, zap]
      exact ⟨hq.1.imp (congrArg zI) (congrArg zI), ⟨congrArg zI hq.2.1, congrArg zS hq.2.2⟩⟩
  · have hq := hq.2 ((z_eq rx ⟨by decide, by decide⟩).mp c)
    obtain ⟨r6, h7, hh7, hq⟩ := hq
    refine ⟨zI r6, zS h7, t_X5_isFine h (1 : Int) r6 h7 hh7, ?_⟩
    try simp only [z_m1, z_0, z_1, z_2, z_3, z_4, z_5, z_6, z_8, z_9, z_10, z_12, z_16, z_30, z_31, z_99, z_300, z_500, z_600, z_20000, zadd, zsub, zmul, zneg, zap]
    exact ⟨hq.1.imp (congrArg zI) (congrArg zI), ⟨congrArg zI hq.2.1, congrArg zS hq.2.2⟩⟩
def Q_X5_ruling (h : ISt) (a1 : Int) (r : Int) (h' : ISt) : Prop := (∃ (r1 : Int) (h2 : ISt), Q_X5_asks h a1 r1 h2 ∧ (inR r1 ∧ ((r1 = (0 : Int) → (r = (0 : Int) ∧ h' = h2)) ∧ (¬ r1 = (0 : Int) → (∃ r3 : Int, Q_X5_rulingFor h2 a1 r3 ∧ (r = r3 ∧ h' = h2))))))
set_option maxRecDepth 100000 in
set_option maxHeartbeats 4000000 in
theorem t_X5_ruling (h : ISt) (a1 : Int) (r : Int) (h' : ISt) (hq : Q_X5_ruling h a1 r h') : P_X5_ruling (zS h) (zI a1) (zI r) (zS h') := by
  unfold P_X5_ruling
  unfold Q_X5_ruling at hq
  try simp only [z_m1, z_0, z_1, z_2, z_3, z_4, z_5, z_6, z_8, z_9, z_10, z_12, z_16, z_30, z_31, z_99, z_300, z_500, z_600, z_20000, zadd, zsub, zmul, zneg, zap]
  obtain ⟨r1, h2, hh2, hq⟩ := hq
  refine ⟨zI r1, zS h2, t_X5_asks h a1 r1 h2 hh2, ?_⟩
  try simp only [z_m1, z_0, z_1, z_2, z_3, z_4, z_5, z_6, z_8, z_9, z_10, z_12, z_16, z_30, z_31, z_99, z_300, z_500, z_600, z_20000, zadd, zsub, zmul, zneg, zap]
  have rx := hq.1
  have hq := hq.2
  refine ⟨fun c => ?_, fun c => ?_⟩
  · have hq := hq.1 ((z_eq rx ⟨by decide, by decide⟩).mp c)
    exact ⟨congrArg zI hq.1, congrArg zS hq.2⟩
  · have hq := hq.2 (fun h => c ((z_eq rx ⟨by decide, by decide⟩).mpr h))
    obtain ⟨r3, hr3, hq⟩ := hq
    refine ⟨zI r3, t_X5_rulingFor h2 a1 r3 hr3, ?_⟩
    try simp only [z_m1, z_0, z_1, z_2, z_3, z_4, z_5, z_6, z_8, z_9, z_10, z_12, z_16, z_30, z_31, z_99, z_300, z_500, z_600, z_20000, zadd, zsub, zmul, zneg, zap]
    exact ⟨congrArg zI hq.1, congrArg zS hq.2⟩
def Q_X5_rulingFromBelow (h : ISt) (a1 : Int) (r : Int) (h' : ISt) : Prop := (∃ (r1 : Int) (h2 : ISt), Q_X5_asks h a1 r1 h2 ∧ (inR r1 ∧ ((r1 = (0 : Int) → (r = (0 : Int) ∧ h' = h2)) ∧ (¬ r1 = (0 : Int) → (∃ r3 : Int, Q_X5_rulingFor h2 a1 r3 ∧ (r = r3 ∧ h' = h2))))))
set_option maxRecDepth 100000 in
set_option maxHeartbeats 4000000 in
theorem t_X5_rulingFromBelow (h : ISt) (a1 : Int) (r : Int) (h' : ISt) (hq : Q_X5_rulingFromBelow h a1 r h') : P_X5_rulingFromBelow (zS h) (zI a1) (zI r) (zS h') := by
  unfold P_X5_rulingFromBelow
  unfold Q_X5_rulingFromBelow at hq
  try simp only [z_m1, z_0, z_1, z_2, z_3, z_4, z_5, z_6, z_8, z_9, z_10, z_12, z_16, z_30, z_31, z_99, z_300, z_500, z_600, z_20000, zadd, zsub, zmul, zneg, zap]
  obtain ⟨r1, h2, hh2, hq⟩ := hq
  refine ⟨zI r1, zS h2, t_X5_asks h a1 r1 h2 hh2, ?_⟩
  try simp only [z_m1, z_0, z_1, z_2, z_3, z_4, z_5, z_6, z_8, z_9, z_10, z_12, z_16, z_30, z_31, z_99, z_300, z_500, z_600, z_20000, zadd, zsub, zmul, zneg, zap]
  have rx := hq.1
  have hq := hq.2
  refine ⟨fun c => ?_, fun c => ?_⟩
  · have hq := hq.1 ((z_eq rx ⟨by decide, by decide⟩).mp c)
    exact ⟨congrArg zI hq.1, congrArg zS hq.2⟩
  · have hq := hq.2 (fun h => c ((z_eq rx ⟨by decide, by decide⟩).mpr h))
    obtain ⟨r3, hr3, hq⟩ := hq
    refine ⟨zI r3, t_X5_rulingFor h2 a1 r3 hr3, ?_⟩
    try simp only [z_m1, z_0, z_1, z_2, z_3, z_4, z_5, z_6, z_8, z_9, z_10, z_12, z_16, z_30, z_31, z_99, z_300, z_500, z_600, z_20000, zadd, zsub, zmul, zneg, zap]
    exact ⟨congrArg zI hq.1, congrArg zS hq.2⟩
def Q_X5_depth (h : ISt) (a1 : Int) (r : Int) (h' : ISt) : Prop := ∀ V14 : ISt → Int → Prop, ∀ V26 : ISt → Int → Int → Prop, ∀ V42 : ISt → Int → Int → Int → Int → Prop, (∀ hv : ISt, ∀ t0 : Int, (∃ (r2 : Int) (h3 : ISt), Q_X5_isFine hv t0 r2 h3 ∧ (inR r2 ∧ ((¬ r2 = (0 : Int) → (V26 h3 (0 : Int) (0 : Int))) ∧ (r2 = (0 : Int) → (r = (0 : Int) ∧ h' = h3))))) → V14 hv t0) → (∀ hv : ISt, ∀ x2 x3 : Int, ((0 ≤ a1 ∧ a1 < 8) ∧ (inR x3 ∧ inR (hv 23 a1.toNat) ∧ (((hv 23 a1.toNat) ≤ x3 → (r = x2 ∧ h' = hv)) ∧ (¬ (hv 23 a1.toNat) ≤ x3 → (V42 hv x2 x3 (0 : Int) x3))))) → V26 hv x2 x3) → (∀ hv : ISt, ∀ x2 x3 x4 x5 : Int, (inR x5 ∧ ((x5 = (-1 : Int) → (inR x4 ∧ inR x2 ∧ ((x4 ≤ x2 → (V26 hv x2 (x3 + (1 : Int)))) ∧ (¬ x4 ≤ x2 → (V26 hv x4 (x3 + (1 : Int))))))) ∧ (¬ x5 = (-1 : Int) → ((0 ≤ (((12 : Int) * a1) + x5) ∧ (((12 : Int) * a1) + x5) < 96) ∧ (V42 hv x2 x3 (x4 + (1 : Int)) (hv 19 (((12 : Int) * a1) + x5).toNat)))))) → V42 hv x2 x3 x4 x5) → (∃ r1 : Int, Q_X5_isTitle h a1 r1 ∧ (inR r1 ∧ ((r1 = (0 : Int) → (V14 h (1 : Int))) ∧ (¬ r1 = (0 : Int) → (V14 h (0 : Int))))))
set_option maxRecDepth 100000 in
set_option maxHeartbeats 4000000 in
theorem t_X5_depth (h : ISt) (a1 : Int) (r : Int) (h' : ISt) (hq : Q_X5_depth h a1 r h') : P_X5_depth (zS h) (zI a1) (zI r) (zS h') := by
  intro V14 V26 V42 k14 k26 k42
  have hq := hq (fun hv t0 => V14 (zS hv) (zI t0)) (fun hv x2 x3 => V26 (zS hv) (zI x2) (zI x3)) (fun hv x2 x3 x4 x5 => V42 (zS hv) (zI x2) (zI x3) (zI x4) (zI x5))
  have hq := hq (by
    intro hv t0 hq
    refine k14 (zS hv) (zI t0) ?_
    try simp only [z_m1, z_0, z_1, z_2, z_3, z_4, z_5, z_6, z_8, z_9, z_10, z_12, z_16, z_30, z_31, z_99, z_300, z_500, z_600, z_20000, zadd, zsub, zmul, zneg, zap]
    obtain ⟨r2, h3, hh3, hq⟩ := hq
    refine ⟨zI r2, zS h3, t_X5_isFine hv t0 r2 h3 hh3, ?_⟩
    try simp only [z_m1, z_0, z_1, z_2, z_3, z_4, z_5, z_6, z_8, z_9, z_10, z_12, z_16, z_30, z_31, z_99, z_300, z_500, z_600, z_20000, zadd, zsub, zmul, zneg, zap]
    have rx := hq.1
    have hq := hq.2
    refine ⟨fun c => ?_, fun c => ?_⟩
    · have hq := hq.1 (fun h => c ((z_eq rx ⟨by decide, by decide⟩).mpr h))
      exact hq
    · have hq := hq.2 ((z_eq rx ⟨by decide, by decide⟩).mp c)
      exact ⟨congrArg zI hq.1, congrArg zS hq.2⟩)
  have hq := hq (by
    intro hv x2 x3 hq
    refine k26 (zS hv) (zI x2) (zI x3) ?_
    try simp only [z_m1, z_0, z_1, z_2, z_3, z_4, z_5, z_6, z_8, z_9, z_10, z_12, z_16, z_30, z_31, z_99, z_300, z_500, z_600, z_20000, zadd, zsub, zmul, zneg, zap]
    refine ⟨zin hq.1.1 hq.1.2 (by decide), ?_⟩
    try simp only [zcl hq.1.1 (Int.lt_trans hq.1.2 (by decide))]
    have hq := hq.2
    try simp only [z_m1, z_0, z_1, z_2, z_3, z_4, z_5, z_6, z_8, z_9, z_10, z_12, z_16, z_30, z_31, z_99, z_300, z_500, z_600, z_20000, zadd, zsub, zmul, zneg, zap]
    have rx := hq.1
    have hq := hq.2
    have ry := hq.1
    have hq := hq.2
    refine ⟨fun c => ?_, fun c => ?_⟩
    · have hq := hq.1 ((z_le ry rx).mp c)
      exact ⟨congrArg zI hq.1, congrArg zS hq.2⟩
    · have hq := hq.2 (fun h => c ((z_le ry rx).mpr h))
      exact hq)
  have hq := hq (by
    intro hv x2 x3 x4 x5 hq
    refine k42 (zS hv) (zI x2) (zI x3) (zI x4) (zI x5) ?_
    try simp only [z_m1, z_0, z_1, z_2, z_3, z_4, z_5, z_6, z_8, z_9, z_10, z_12, z_16, z_30, z_31, z_99, z_300, z_500, z_600, z_20000, zadd, zsub, zmul, zneg, zap]
    have rx := hq.1
    have hq := hq.2
    refine ⟨fun c => ?_, fun c => ?_⟩
    · have hq := hq.1 ((z_eq rx ⟨by decide, by decide⟩).mp c)
      have rx := hq.1
      have hq := hq.2
      have ry := hq.1
      have hq := hq.2
      refine ⟨fun c => ?_, fun c => ?_⟩
      · have hq := hq.1 ((z_le rx ry).mp c)
        exact hq
      · have hq := hq.2 (fun h => c ((z_le rx ry).mpr h))
        exact hq
    · have hq := hq.2 (fun h => c ((z_eq rx ⟨by decide, by decide⟩).mpr h))
      refine ⟨zin hq.1.1 hq.1.2 (by decide), ?_⟩
      try simp only [zcl hq.1.1 (Int.lt_trans hq.1.2 (by decide))]
      have hq := hq.2
      try simp only [z_m1, z_0, z_1, z_2, z_3, z_4, z_5, z_6, z_8, z_9, z_10, z_12, z_16, z_30, z_31, z_99, z_300, z_500, z_600, z_20000, zadd, zsub, zmul, zneg, zap]
      exact hq)
  try simp only [z_m1, z_0, z_1, z_2, z_3, z_4, z_5, z_6, z_8, z_9, z_10, z_12, z_16, z_30, z_31, z_99, z_300, z_500, z_600, z_20000, zadd, zsub, zmul, zneg, zap]
  obtain ⟨r1, hr1, hq⟩ := hq
  refine ⟨zI r1, t_X5_isTitle h a1 r1 hr1, ?_⟩
  try simp only [z_m1, z_0, z_1, z_2, z_3, z_4, z_5, z_6, z_8, z_9, z_10, z_12, z_16, z_30, z_31, z_99, z_300, z_500, z_600, z_20000, zadd, zsub, zmul, zneg, zap]
  have rx := hq.1
  have hq := hq.2
  refine ⟨fun c => ?_, fun c => ?_⟩
  · have hq := hq.1 ((z_eq rx ⟨by decide, by decide⟩).mp c)
    exact hq
  · have hq := hq.2 (fun h => c ((z_eq rx ⟨by decide, by decide⟩).mpr h))
    exact hq
