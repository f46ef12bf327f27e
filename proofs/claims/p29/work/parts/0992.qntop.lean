def Qn_X4_pass (hh hs hr : ISt) (a1 : Int) (ok : Int → ISt → ISt → ISt → Prop) : Prop := ∀ V28 : Int → Prop, (∀ t0 : Int, (inR t0 ∧ ((¬ t0 = 0) ∧ (∀ h1 : ISt, h1 = iset hh 0 0 ((hh 0 0) + a1) → (ok (h1 0 0) h1 hs hr)))) → V28 t0) → (inR a1 ∧ ((¬ a1 < (1 : Int) ∧ a1 ≤ (500 : Int)) ∧ (inR ((hh 0 0) + a1) ∧ (((20000 : Int) < ((hh 0 0) + a1) → (V28 (0 : Int))) ∧ (¬ (20000 : Int) < ((hh 0 0) + a1) → (V28 (1 : Int)))))))
set_option maxRecDepth 100000 in
set_option maxHeartbeats 4000000 in
theorem tn_X4_pass (hh hs hr : ISt) (a1 : Int) (okI : Int → ISt → ISt → ISt → Prop) (ok : Int32 → St → St → St → Prop) (hk : ∀ r h1 h2 h3, okI r h1 h2 h3 → ok (zI r) (zS h1) (zS h2) (zS h3)) (hq : Qn_X4_pass hh hs hr a1 okI) : Pn_X4_pass (zS hh) (zS hs) (zS hr) (zI a1) ok := by
  intro V28 k28
  have hq := hq (fun t0 => V28 (zI t0))
  have hq := hq (by
    intro t0 hq
    refine k28 (zI t0) ?_
    try simp only [z_m1, z_0, z_1, z_2, z_3, z_4, z_5, z_6, z_8, z_9, z_10, z_12, z_16, z_30, z_31, z_99, z_300, z_500, z_600, z_20000, zadd, zsub, zmul, zneg, zap]
    have rg0 := hq.1
    have hq := hq.2
    have ci := not_congr (z_eq (a := t0) (b := 0) rg0 ⟨by decide, by decide⟩)
    refine ⟨(by first | exact ci.mpr hq.1 | exact absurd rfl hq.1), ?_⟩
    have hq := hq.2
    intro g9 eg9
    rw [zset] at eg9
    subst eg9
    have hq := hq _ rfl
    generalize iset hh 0 0 ((hh 0 0) + a1) = h1 at hq ⊢
    try simp only [z_m1, z_0, z_1, z_2, z_3, z_4, z_5, z_6, z_8, z_9, z_10, z_12, z_16, z_30, z_31, z_99, z_300, z_500, z_600, z_20000, zadd, zsub, zmul, zneg, zap]
    exact hk _ _ _ _ hq)
  try simp only [z_m1, z_0, z_1, z_2, z_3, z_4, z_5, z_6, z_8, z_9, z_10, z_12, z_16, z_30, z_31, z_99, z_300, z_500, z_600, z_20000, zadd, zsub, zmul, zneg, zap]
  have rg0 := hq.1
  have hq := hq.2
  have ci := and_congr (not_congr (z_lt (a := a1) (b := (1 : Int)) rg0 ⟨by decide, by decide⟩)) (z_le (a := a1) (b := (500 : Int)) rg0 ⟨by decide, by decide⟩)
  refine ⟨(by first | exact ci.mpr hq.1 | exact absurd rfl hq.1), ?_⟩
  have hq := hq.2
  have rx := hq.1
  have hq := hq.2
  refine ⟨fun c => ?_, fun c => ?_⟩
  · have hq := hq.1 ((z_lt ⟨by decide, by decide⟩ rx).mp c)
    exact hq
  · have hq := hq.2 (fun h => c ((z_lt ⟨by decide, by decide⟩ rx).mpr h))
    exact hq
def Qn_X4_addTable (hh hs hr : ISt) (a1 : Int) (ok : Int → ISt → ISt → ISt → Prop) : Prop := (inR a1 ∧ ((¬ a1 < (2 : Int) ∧ a1 ≤ (6 : Int)) ∧ (inR (hh 0 1) ∧ (((10 : Int) ≤ (hh 0 1) → (((¬ (0 : Int) = 0) ∧ (∃ (r1 : Int) (h2 : ISt), Q_X0_putTable hh a1 r1 h2 ∧ (ok r1 h2 hs hr))))) ∧ (¬ (10 : Int) ≤ (hh 0 1) → (((¬ (1 : Int) = 0) ∧ (∃ (r3 : Int) (h4 : ISt), Q_X0_putTable hh a1 r3 h4 ∧ (ok r3 h4 hs hr)))))))))
set_option maxRecDepth 100000 in
set_option maxHeartbeats 4000000 in
theorem tn_X4_addTable (hh hs hr : ISt) (a1 : Int) (okI : Int → ISt → ISt → ISt → Prop) (ok : Int32 → St → St → St → Prop) (hk : ∀ r h1 h2 h3, okI r h1 h2 h3 → ok (zI r) (zS h1) (zS h2) (zS h3)) (hq : Qn_X4_addTable hh hs hr a1 okI) : Pn_X4_addTable (zS hh) (zS hs) (zS hr) (zI a1) ok := by
  unfold Pn_X4_addTable
  unfold Qn_X4_addTable at hq
  try simp only [z_m1, z_0, z_1, z_2, z_3, z_4, z_5, z_6, z_8, z_9, z_10, z_12, z_16, z_30, z_31, z_99, z_300, z_500, z_600, z_20000, zadd, zsub, zmul, zneg, zap]
  have rg0 := hq.1
  have hq := hq.2
  have ci := and_congr (not_congr (z_lt (a := a1) (b := (2 : Int)) rg0 ⟨by decide, by decide⟩)) (z_le (a := a1) (b := (6 : Int)) rg0 ⟨by decide, by decide⟩)
  refine ⟨(by first | exact ci.mpr hq.1 | exact absurd rfl hq.1), ?_⟩
  have hq := hq.2
  have rx := hq.1
  have hq := hq.2
  refine ⟨fun c => ?_, fun c => ?_⟩
  · have hq := hq.1 ((z_le ⟨by decide, by decide⟩ rx).mp c)
    have ci := not_congr (z_eq (a := (0 : Int)) (b := 0) ⟨by decide, by decide⟩ ⟨by decide, by decide⟩)
    refine ⟨(by first | exact ci.mpr hq.1 | exact absurd rfl hq.1), ?_⟩
    have hq := hq.2
    obtain ⟨r1, h2, hh2, hq⟩ := hq
    refine ⟨zI r1, zS h2, t_X0_putTable hh a1 r1 h2 hh2, ?_⟩
    try simp only [z_m1, z_0, z_1, z_2, z_3, z_4, z_5, z_6, z_8, z_9, z_10, z_12, z_16, z_30, z_31, z_99, z_300, z_500, z_600, z_20000, zadd, zsub, zmul, zneg, zap]
    exact hk _ _ _ _ hq
  · have hq := hq.2 (fun h => c ((z_le ⟨by decide, by decide⟩ rx).mpr h))
    have ci := not_congr (z_eq (a := (1 : Int)) (b := 0) ⟨by decide, by decide⟩ ⟨by decide, by decide⟩)
    refine ⟨(by first | exact ci.mpr hq.1 | exact absurd rfl hq.1), ?_⟩
    have hq := hq.2
    obtain ⟨r3, h4, hh4, hq⟩ := hq
    refine ⟨zI r3, zS h4, t_X0_putTable hh a1 r3 h4 hh4, ?_⟩
    try simp only [z_m1, z_0, z_1, z_2, z_3, z_4, z_5, z_6, z_8, z_9, z_10, z_12, z_16, z_30, z_31, z_99, z_300, z_500, z_600, z_20000, zadd, zsub, zmul, zneg, zap]
    exact hk _ _ _ _ hq
def Qn_X4_addTitle (hh hs hr : ISt) (a1 : Int) (a2 : Int) (a3 : Int) (a4 : Int) (a5 : Int) (a6 : Int) (a7 : Int) (ok : Int → ISt → ISt → ISt → Prop) : Prop := ∀ V71 : Int → Prop, (∀ t0 : Int, (inR t0 ∧ ((¬ t0 = 0) ∧ (∃ (r1 : Int) (h2 : ISt), Q_X3_putTitle hs a1 a2 a3 r1 h2 ∧ (∃ h4 : ISt, Q_X3_setFull h2 r1 (0 : Int) a4 h4 ∧ (∃ h6 : ISt, Q_X3_setFull h4 r1 (1 : Int) a5 h6 ∧ (∃ h8 : ISt, Q_X3_setFull h6 r1 (2 : Int) a6 h8 ∧ (∃ h10 : ISt, Q_X3_setFull h8 r1 (3 : Int) a7 h10 ∧ (ok r1 hh h10 hr)))))))) → V71 t0) → (inR a1 ∧ ((¬ a1 < (1 : Int) ∧ a1 ≤ (12 : Int)) ∧ (inR a2 ∧ inR a1 ∧ ((¬ a2 < a1 ∧ a2 ≤ (12 : Int)) ∧ (inR a3 ∧ ((¬ a3 < (5 : Int) ∧ a3 ≤ (300 : Int)) ∧ (inR a4 ∧ ((¬ a4 < (0 : Int) ∧ a4 ≤ (9 : Int)) ∧ (inR a5 ∧ ((¬ a5 < (0 : Int) ∧ a5 ≤ (9 : Int)) ∧ (inR a6 ∧ ((¬ a6 < (0 : Int) ∧ a6 ≤ (9 : Int)) ∧ (inR a7 ∧ ((¬ a7 < (0 : Int) ∧ a7 ≤ (9 : Int)) ∧ (inR (hs 0 0) ∧ (((8 : Int) ≤ (hs 0 0) → (V71 (0 : Int))) ∧ (¬ (8 : Int) ≤ (hs 0 0) → (V71 (1 : Int)))))))))))))))))))
set_option maxRecDepth 100000 in
set_option maxHeartbeats 4000000 in
theorem tn_X4_addTitle (hh hs hr : ISt) (a1 : Int) (a2 : Int) (a3 : Int) (a4 : Int) (a5 : Int) (a6 : Int) (a7 : Int) (okI : Int → ISt → ISt → ISt → Prop) (ok : Int32 → St → St → St → Prop) (hk : ∀ r h1 h2 h3, okI r h1 h2 h3 → ok (zI r) (zS h1) (zS h2) (zS h3)) (hq : Qn_X4_addTitle hh hs hr a1 a2 a3 a4 a5 a6 a7 okI) : Pn_X4_addTitle (zS hh) (zS hs) (zS hr) (zI a1) (zI a2) (zI a3) (zI a4) (zI a5) (zI a6) (zI a7) ok := by
  intro V71 k71
  have hq := hq (fun t0 => V71 (zI t0))
  have hq := hq (by
    intro t0 hq
    refine k71 (zI t0) ?_
    try simp only [z_m1, z_0, z_1, z_2, z_3, z_4, z_5, z_6, z_8, z_9, z_10, z_12, z_16, z_30, z_31, z_99, z_300, z_500, z_600, z_20000, zadd, zsub, zmul, zneg, zap]
    have rg0 := hq.1
    have hq := hq.2
    have ci := not_congr (z_eq (a := t0) (b := 0) rg0 ⟨by decide, by decide⟩)
    refine ⟨(by first | exact ci.mpr hq.1 | exact absurd rfl hq.1), ?_⟩
    have hq := hq.2
    obtain ⟨r1, h2, hh2, hq⟩ := hq
    refine ⟨zI r1, zS h2, t_X3_putTitle hs a1 a2 a3 r1 h2 hh2, ?_⟩
    try simp only [z_m1, z_0, z_1, z_2, z_3, z_4, z_5, z_6, z_8, z_9, z_10, z_12, z_16, z_30, z_31, z_99, z_300, z_500, z_600, z_20000, zadd, zsub, zmul, zneg, zap]
    obtain ⟨h4, hh4, hq⟩ := hq
    refine ⟨zS h4, t_X3_setFull h2 r1 (0 : Int) a4 h4 hh4, ?_⟩
    try simp only [z_m1, z_0, z_1, z_2, z_3, z_4, z_5, z_6, z_8, z_9, z_10, z_12, z_16, z_30, z_31, z_99, z_300, z_500, z_600, z_20000, zadd, zsub, zmul, zneg, zap]
    obtain ⟨h6, hh6, hq⟩ := hq
    refine ⟨zS h6, t_X3_setFull h4 r1 (1 : Int) a5 h6 hh6, ?_⟩
    try simp only [z_m1, z_0, z_1, z_2, z_3, z_4, z_5, z_6, z_8, z_9, z_10, z_12, z_16, z_30, z_31, z_99, z_300, z_500, z_600, z_20000, zadd, zsub, zmul, zneg, zap]
    obtain ⟨h8, hh8, hq⟩ := hq
    refine ⟨zS h8, t_X3_setFull h6 r1 (2 : Int) a6 h8 hh8, ?_⟩
    try simp only [z_m1, z_0, z_1, z_2, z_3, z_4, z_5, z_6, z_8, z_9, z_10, z_12, z_16, z_30, z_31, z_99, z_300, z_500, z_600, z_20000, zadd, zsub, zmul, zneg, zap]
    obtain ⟨h10, hh10, hq⟩ := hq
    refine ⟨zS h10, t_X3_setFull h8 r1 (3 : Int) a7 h10 hh10, ?_⟩
    try simp only [z_m1, z_0, z_1, z_2, z_3, z_4, z_5, z_6, z_8, z_9, z_10, z_12, z_16, z_30, z_31, z_99, z_300, z_500, z_600, z_20000, zadd, zsub, zmul, zneg, zap]
    exact hk _ _ _ _ hq)
  try simp only [z_m1, z_0, z_1, z_2, z_3, z_4, z_5, z_6, z_8, z_9, z_10, z_12, z_16, z_30, z_31, z_99, z_300, z_500, z_600, z_20000, zadd, zsub, zmul, zneg, zap]
  have rg0 := hq.1
  have hq := hq.2
  have ci := and_congr (not_congr (z_lt (a := a1) (b := (1 : Int)) rg0 ⟨by decide, by decide⟩)) (z_le (a := a1) (b := (12 : Int)) rg0 ⟨by decide, by decide⟩)
  refine ⟨(by first | exact ci.mpr hq.1 | exact absurd rfl hq.1), ?_⟩
  have hq := hq.2
  have rg0 := hq.1
  have hq := hq.2
  have rg1 := hq.1
  have hq := hq.2
  have ci := and_congr (not_congr (z_lt (a := a2) (b := a1) rg0 rg1)) (z_le (a := a2) (b := (12 : Int)) rg0 ⟨by decide, by decide⟩)
  refine ⟨(by first | exact ci.mpr hq.1 | exact absurd rfl hq.1), ?_⟩
  have hq := hq.2
  have rg0 := hq.1
  have hq := hq.2
  have ci := and_congr (not_congr (z_lt (a := a3) (b := (5 : Int)) rg0 ⟨by decide, by decide⟩)) (z_le (a := a3) (b := (300 : Int)) rg0 ⟨by decide, by decide⟩)
  refine ⟨(by first | exact ci.mpr hq.1 | exact absurd rfl hq.1), ?_⟩
  have hq := hq.2
  have rg0 := hq.1
  have hq := hq.2
  have ci := and_congr (not_congr (z_lt (a := a4) (b := (0 : Int)) rg0 ⟨by decide, by decide⟩)) (z_le (a := a4) (b := (9 : Int)) rg0 ⟨by decide, by decide⟩)
  refine ⟨(by first | exact ci.mpr hq.1 | exact absurd rfl hq.1), ?_⟩
  have hq := hq.2
  have rg0 := hq.1
  have hq := hq.2
  have ci := and_congr (not_congr (z_lt (a := a5) (b := (0 : Int)) rg0 ⟨by decide, by decide⟩)) (z_le (a := a5) (b := (9 : Int)) rg0 ⟨by decide, by decide⟩)
  refine ⟨(by first | exact ci.mpr hq.1 | exact absurd rfl hq.1), ?_⟩
  have hq := hq.2
  have rg0 := hq.1
  have hq := hq.2
  have ci := and_congr (not_congr (z_lt (a := a6) (b := (0 : Int)) rg0 ⟨by decide, by decide⟩)) (z_le (a := a6) (b := (9 : Int)) rg0 ⟨by decide, by decide⟩)
  refine ⟨(by first | exact ci.mpr hq.1 | exact absurd rfl hq.1), ?_⟩
  have hq := hq.2
  have rg0 := hq.1
  have hq := hq.2
  have ci := and_congr (not_congr (z_lt (a := a7) (b := (0 : Int)) rg0 ⟨by decide, by decide⟩)) (z_le (a := a7) (b := (9 : Int)) rg0 ⟨by decide, by decide⟩)
  refine ⟨(by first | exact ci.mpr hq.1 | exact absurd rfl hq.1), ?_⟩
  have hq := hq.2
  have rx := hq.1
  have hq := hq.2
  refine ⟨fun c => ?_, fun c => ?_⟩
  · have hq := hq.1 ((z_le ⟨by decide, by decide⟩ rx).mp c)
    exact hq
  · have hq := hq.2 (fun h => c ((z_le ⟨by decide, by decide⟩ rx).mpr h))
    exact hq
def Qn_X4_addCopy (hh hs hr : ISt) (a1 : Int) (ok : Int → ISt → ISt → ISt → Prop) : Prop := (inR a1 ∧ inR (hs 0 0) ∧ ((¬ a1 < 0 ∧ a1 < (hs 0 0)) ∧ (inR (hs 0 1) ∧ (((16 : Int) ≤ (hs 0 1) → (((¬ (0 : Int) = 0) ∧ (∃ (r1 : Int) (h2 : ISt), Q_X3_putCopy hs a1 r1 h2 ∧ (ok r1 hh h2 hr))))) ∧ (¬ (16 : Int) ≤ (hs 0 1) → (((¬ (1 : Int) = 0) ∧ (∃ (r3 : Int) (h4 : ISt), Q_X3_putCopy hs a1 r3 h4 ∧ (ok r3 hh h4 hr)))))))))
set_option maxRecDepth 100000 in
set_option maxHeartbeats 4000000 in
theorem tn_X4_addCopy (hh hs hr : ISt) (a1 : Int) (okI : Int → ISt → ISt → ISt → Prop) (ok : Int32 → St → St → St → Prop) (hk : ∀ r h1 h2 h3, okI r h1 h2 h3 → ok (zI r) (zS h1) (zS h2) (zS h3)) (hq : Qn_X4_addCopy hh hs hr a1 okI) : Pn_X4_addCopy (zS hh) (zS hs) (zS hr) (zI a1) ok := by
  unfold Pn_X4_addCopy
  unfold Qn_X4_addCopy at hq
  try simp only [z_m1, z_0, z_1, z_2, z_3, z_4, z_5, z_6, z_8, z_9, z_10, z_12, z_16, z_30, z_31, z_99, z_300, z_500, z_600, z_20000, zadd, zsub, zmul, zneg, zap]
  have rg0 := hq.1
  have hq := hq.2
  have rg1 := hq.1
  have hq := hq.2
  have ci := and_congr (not_congr (z_lt (a := a1) (b := 0) rg0 ⟨by decide, by decide⟩)) (z_lt (a := a1) (b := (hs 0 0)) rg0 rg1)
  refine ⟨(by first | exact ci.mpr hq.1 | exact absurd rfl hq.1), ?_⟩
  have hq := hq.2
  have rx := hq.1
  have hq := hq.2
  refine ⟨fun c => ?_, fun c => ?_⟩
  · have hq := hq.1 ((z_le ⟨by decide, by decide⟩ rx).mp c)
    have ci := not_congr (z_eq (a := (0 : Int)) (b := 0) ⟨by decide, by decide⟩ ⟨by decide, by decide⟩)
    refine ⟨(by first | exact ci.mpr hq.1 | exact absurd rfl hq.1), ?_⟩
    have hq := hq.2
    obtain ⟨r1, h2, hh2, hq⟩ := hq
    refine ⟨zI r1, zS h2, t_X3_putCopy hs a1 r1 h2 hh2, ?_⟩
    try simp only [z_m1, z_0, z_1, z_2, z_3, z_4, z_5, z_6, z_8, z_9, z_10, z_12, z_16, z_30, z_31, z_99, z_300, z_500, z_600, z_20000, zadd, zsub, zmul, zneg, zap]
    exact hk _ _ _ _ hq
  · have hq := hq.2 (fun h => c ((z_le ⟨by decide, by decide⟩ rx).mpr h))
    have ci := not_congr (z_eq (a := (1 : Int)) (b := 0) ⟨by decide, by decide⟩ ⟨by decide, by decide⟩)
    refine ⟨(by first | exact ci.mpr hq.1 | exact absurd rfl hq.1), ?_⟩
    have hq := hq.2
    obtain ⟨r3, h4, hh4, hq⟩ := hq
    refine ⟨zI r3, zS h4, t_X3_putCopy hs a1 r3 h4 hh4, ?_⟩
    try simp only [z_m1, z_0, z_1, z_2, z_3, z_4, z_5, z_6, z_8, z_9, z_10, z_12, z_16, z_30, z_31, z_99, z_300, z_500, z_600, z_20000, zadd, zsub, zmul, zneg, zap]
    exact hk _ _ _ _ hq
def Qn_X4_addRule (hh hs hr : ISt) (a1 : Int) (a2 : Int) (a3 : Int) (a4 : Int) (a5 : Int) (ok : Int → ISt → ISt → ISt → Prop) : Prop := ∀ V28 : Prop, ∀ V69 : Int → Prop, ((inR a3 ∧ ((¬ a3 < (0 : Int) ∧ a3 ≤ (3 : Int)) ∧ (inR a4 ∧ ((¬ a4 < (1 : Int) ∧ a4 ≤ (300 : Int)) ∧ (inR a5 ∧ ((¬ a5 < (0 : Int) ∧ a5 ≤ (99 : Int)) ∧ (∃ r2 : Int, Q_X1_rulesOf hr a1 r2 ∧ (inR r2 ∧ (((12 : Int) ≤ r2 → (V69 (0 : Int))) ∧ (¬ (12 : Int) ≤ r2 → (V69 (1 : Int)))))))))))) → V28) → (∀ t0 : Int, (inR t0 ∧ ((¬ t0 = 0) ∧ (∃ (r3 : Int) (h4 : ISt), Q_X1_putRule hr a1 a2 a3 a4 a5 r3 h4 ∧ (ok r3 hh hs h4)))) → V69 t0) → (inR a1 ∧ inR (hs 0 0) ∧ ((¬ a1 < 0 ∧ a1 < (hs 0 0)) ∧ (inR a2 ∧ ((a2 = (-1 : Int) → (V28)) ∧ (¬ a2 = (-1 : Int) → (∃ r1 : Int, Q_X1_rulesOf hr a1 r1 ∧ (inR a2 ∧ inR r1 ∧ ((¬ a2 < 0 ∧ a2 < r1) ∧ (V28)))))))))
set_option maxRecDepth 100000 in
set_option maxHeartbeats 4000000 in
theorem tn_X4_addRule (hh hs hr : ISt) (a1 : Int) (a2 : Int) (a3 : Int) (a4 : Int) (a5 : Int) (okI : Int → ISt → ISt → ISt → Prop) (ok : Int32 → St → St → St → Prop) (hk : ∀ r h1 h2 h3, okI r h1 h2 h3 → ok (zI r) (zS h1) (zS h2) (zS h3)) (hq : Qn_X4_addRule hh hs hr a1 a2 a3 a4 a5 okI) : Pn_X4_addRule (zS hh) (zS hs) (zS hr) (zI a1) (zI a2) (zI a3) (zI a4) (zI a5) ok := by
  intro V28 V69 k28 k69
  have hq := hq V28 (fun t0 => V69 (zI t0))
  have hq := hq (by
    intro hq
    refine k28 ?_
    try simp only [z_m1, z_0, z_1, z_2, z_3, z_4, z_5, z_6, z_8, z_9, z_10, z_12, z_16, z_30, z_31, z_99, z_300, z_500, z_600, z_20000, zadd, zsub, zmul, zneg, zap]
    have rg0 := hq.1
    have hq := hq.2
    have ci := and_congr (not_congr (z_lt (a := a3) (b := (0 : Int)) rg0 ⟨by decide, by decide⟩)) (z_le (a := a3) (b := (3 : Int)) rg0 ⟨by decide, by decide⟩)
    refine ⟨(by first | exact ci.mpr hq.1 | exact absurd rfl hq.1), ?_⟩
    have hq := hq.2
    have rg0 := hq.1
    have hq := hq.2
    have ci := and_congr (not_congr (z_lt (a := a4) (b := (1 : Int)) rg0 ⟨by decide, by decide⟩)) (z_le (a := a4) (b := (300 : Int)) rg0 ⟨by decide, by decide⟩)
    refine ⟨(by first | exact ci.mpr hq.1 | exact absurd rfl hq.1), ?_⟩
    have hq := hq.2
    have rg0 := hq.1
    have hq := hq.2
    have ci := and_congr (not_congr (z_lt (a := a5) (b := (0 : Int)) rg0 ⟨by decide, by decide⟩)) (z_le (a := a5) (b := (99 : Int)) rg0 ⟨by decide, by decide⟩)
    refine ⟨(by first | exact ci.mpr hq.1 | exact absurd rfl hq.1), ?_⟩
    have hq := hq.2
    obtain ⟨r2, hr2, hq⟩ := hq
    refine ⟨zI r2, t_X1_rulesOf hr a1 r2 hr2, ?_⟩
    try simp only [z_m1, z_0, z_1, z_2, z_3, z_4, z_5, z_6, z_8, z_9, z_10, z_12, z_16, z_30, z_31, z_99, z_300, z_500, z_600, z_20000, zadd, zsub, zmul, zneg, zap]
    have rx := hq.1
    have hq := hq.2
    refine ⟨fun c => ?_, fun c => ?_⟩
    · have hq := hq.1 ((z_le ⟨by decide, by decide⟩ rx).mp c)
      exact hq
    · have hq := hq.2 (fun h => c ((z_le ⟨by decide, by decide⟩ rx).mpr h))
      exact hq)
  have hq := hq (by
    intro t0 hq
    refine k69 (zI t0) ?_
    try simp only [z_m1, z_0, z_1, z_2, z_3, z_4, z_5, z_6, z_8, z_9, z_10, z_12, z_16, z_30, z_31, z_99, z_300, z_500, z_600, z_20000, zadd, zsub, zmul, zneg, zap]
    have rg0 := hq.1
    have hq := hq.2
    have ci := not_congr (z_eq (a := t0) (b := 0) rg0 ⟨by decide, by decide⟩)
    refine ⟨(by first | exact ci.mpr hq.1 | exact absurd rfl hq.1), ?_⟩
    have hq := hq.2
    obtain ⟨r3, h4, hh4, hq⟩ := hq
    refine ⟨zI r3, zS h4, t_X1_putRule hr a1 a2 a3 a4 a5 r3 h4 hh4, ?_⟩
    try simp only [z_m1, z_0, z_1, z_2, z_3, z_4, z_5, z_6, z_8, z_9, z_10, z_12, z_16, z_30, z_31, z_99, z_300, z_500, z_600, z_20000, zadd, zsub, zmul, zneg, zap]
    exact hk _ _ _ _ hq)
  try simp only [z_m1, z_0, z_1, z_2, z_3, z_4, z_5, z_6, z_8, z_9, z_10, z_12, z_16, z_30, z_31, z_99, z_300, z_500, z_600, z_20000, zadd, zsub, zmul, zneg, zap]
  have rg0 := hq.1
  have hq := hq.2
  have rg1 := hq.1
  have hq := hq.2
  have ci := and_congr (not_congr (z_lt (a := a1) (b := 0) rg0 ⟨by decide, by decide⟩)) (z_lt (a := a1) (b := (hs 0 0)) rg0 rg1)
  refine ⟨(by first | exact ci.mpr hq.1 | exact absurd rfl hq.1), ?_⟩
  have hq := hq.2
  have rx := hq.1
  have hq := hq.2
  refine ⟨fun c => ?_, fun c => ?_⟩
  · have hq := hq.1 ((z_eq rx ⟨by decide, by decide⟩).mp c)
    exact hq
  · have hq := hq.2 (fun h => c ((z_eq rx ⟨by decide, by decide⟩).mpr h))
    obtain ⟨r1, hr1, hq⟩ := hq
    refine ⟨zI r1, t_X1_rulesOf hr a1 r1 hr1, ?_⟩
    try simp only [z_m1, z_0, z_1, z_2, z_3, z_4, z_5, z_6, z_8, z_9, z_10, z_12, z_16, z_30, z_31, z_99, z_300, z_500, z_600, z_20000, zadd, zsub, zmul, zneg, zap]
    have rg0 := hq.1
    have hq := hq.2
    have rg1 := hq.1
    have hq := hq.2
    have ci := and_congr (not_congr (z_lt (a := a2) (b := 0) rg0 ⟨by decide, by decide⟩)) (z_lt (a := a2) (b := r1) rg0 rg1)
    refine ⟨(by first | exact ci.mpr hq.1 | exact absurd rfl hq.1), ?_⟩
    have hq := hq.2
    exact hq
def Qn_X4_tableOf (hh hs hr : ISt) (a1 : Int) (r : Int) : Prop := (inR a1 ∧ inR (hh 0 2) ∧ ((¬ a1 < 0 ∧ a1 < (hh 0 2)) ∧ (∃ r1 : Int, Q_X0_firstTable hh a1 r1 ∧ (r = r1))))
set_option maxRecDepth 100000 in
set_option maxHeartbeats 4000000 in
theorem tn_X4_tableOf (hh hs hr : ISt) (a1 : Int) (r : Int) (hq : Qn_X4_tableOf hh hs hr a1 r) : Pn_X4_tableOf (zS hh) (zS hs) (zS hr) (zI a1) (zI r) := by
  unfold Pn_X4_tableOf
  unfold Qn_X4_tableOf at hq
  try simp only [z_m1, z_0, z_1, z_2, z_3, z_4, z_5, z_6, z_8, z_9, z_10, z_12, z_16, z_30, z_31, z_99, z_300, z_500, z_600, z_20000, zadd, zsub, zmul, zneg, zap]
  have rg0 := hq.1
  have hq := hq.2
  have rg1 := hq.1
  have hq := hq.2
  have ci := and_congr (not_congr (z_lt (a := a1) (b := 0) rg0 ⟨by decide, by decide⟩)) (z_lt (a := a1) (b := (hh 0 2)) rg0 rg1)
  refine ⟨(by first | exact ci.mpr hq.1 | exact absurd rfl hq.1), ?_⟩
  have hq := hq.2
  obtain ⟨r1, hr1, hq⟩ := hq
  refine ⟨zI r1, t_X0_firstTable hh a1 r1 hr1, ?_⟩
  try simp only [z_m1, z_0, z_1, z_2, z_3, z_4, z_5, z_6, z_8, z_9, z_10, z_12, z_16, z_30, z_31, z_99, z_300, z_500, z_600, z_20000, zadd, zsub, zmul, zneg, zap]
  exact congrArg zI hq
def Qn_X4_tablesOf (hh hs hr : ISt) (a1 : Int) (r : Int) : Prop := (inR a1 ∧ inR (hh 0 2) ∧ ((¬ a1 < 0 ∧ a1 < (hh 0 2)) ∧ (∃ r1 : Int, Q_X0_countTables hh a1 r1 ∧ (r = r1))))
set_option maxRecDepth 100000 in
set_option maxHeartbeats 4000000 in
theorem tn_X4_tablesOf (hh hs hr : ISt) (a1 : Int) (r : Int) (hq : Qn_X4_tablesOf hh hs hr a1 r) : Pn_X4_tablesOf (zS hh) (zS hs) (zS hr) (zI a1) (zI r) := by
  unfold Pn_X4_tablesOf
  unfold Qn_X4_tablesOf at hq
  try simp only [z_m1, z_0, z_1, z_2, z_3, z_4, z_5, z_6, z_8, z_9, z_10, z_12, z_16, z_30, z_31, z_99, z_300, z_500, z_600, z_20000, zadd, zsub, zmul, zneg, zap]
  have rg0 := hq.1
  have hq := hq.2
  have rg1 := hq.1
  have hq := hq.2
  have ci := and_congr (not_congr (z_lt (a := a1) (b := 0) rg0 ⟨by decide, by decide⟩)) (z_lt (a := a1) (b := (hh 0 2)) rg0 rg1)
  refine ⟨(by first | exact ci.mpr hq.1 | exact absurd rfl hq.1), ?_⟩
  have hq := hq.2
  obtain ⟨r1, hr1, hq⟩ := hq
  refine ⟨zI r1, t_X0_countTables hh a1 r1 hr1, ?_⟩
  try simp only [z_m1, z_0, z_1, z_2, z_3, z_4, z_5, z_6, z_8, z_9, z_10, z_12, z_16, z_30, z_31, z_99, z_300, z_500, z_600, z_20000, zadd, zsub, zmul, zneg, zap]
  exact congrArg zI hq
def Qn_X4_waste (hh hs hr : ISt) (a1 : Int) (r : Int) : Prop := (inR a1 ∧ ((¬ a1 < (1 : Int) ∧ a1 ≤ (12 : Int)) ∧ (∃ r1 : Int, Q_X0_leastWaste hh a1 r1 ∧ (r = r1))))
set_option maxRecDepth 100000 in
set_option maxHeartbeats 4000000 in
theorem tn_X4_waste (hh hs hr : ISt) (a1 : Int) (r : Int) (hq : Qn_X4_waste hh hs hr a1 r) : Pn_X4_waste (zS hh) (zS hs) (zS hr) (zI a1) (zI r) := by
  unfold Pn_X4_waste
  unfold Qn_X4_waste at hq
  try simp only [z_m1, z_0, z_1, z_2, z_3, z_4, z_5, z_6, z_8, z_9, z_10, z_12, z_16, z_30, z_31, z_99, z_300, z_500, z_600, z_20000, zadd, zsub, zmul, zneg, zap]
  have rg0 := hq.1
  have hq := hq.2
  have ci := and_congr (not_congr (z_lt (a := a1) (b := (1 : Int)) rg0 ⟨by decide, by decide⟩)) (z_le (a := a1) (b := (12 : Int)) rg0 ⟨by decide, by decide⟩)
  refine ⟨(by first | exact ci.mpr hq.1 | exact absurd rfl hq.1), ?_⟩
  have hq := hq.2
  obtain ⟨r1, hr1, hq⟩ := hq
  refine ⟨zI r1, t_X0_leastWaste hh a1 r1 hr1, ?_⟩
  try simp only [z_m1, z_0, z_1, z_2, z_3, z_4, z_5, z_6, z_8, z_9, z_10, z_12, z_16, z_30, z_31, z_99, z_300, z_500, z_600, z_20000, zadd, zsub, zmul, zneg, zap]
  exact congrArg zI hq
def Qn_X4_wasteByAll (hh hs hr : ISt) (a1 : Int) (r : Int) : Prop := (inR a1 ∧ ((¬ a1 < (1 : Int) ∧ a1 ≤ (12 : Int)) ∧ (∃ r1 : Int, Q_X0_leastWasteOfSets hh a1 r1 ∧ (r = r1))))
set_option maxRecDepth 100000 in
set_option maxHeartbeats 4000000 in
theorem tn_X4_wasteByAll (hh hs hr : ISt) (a1 : Int) (r : Int) (hq : Qn_X4_wasteByAll hh hs hr a1 r) : Pn_X4_wasteByAll (zS hh) (zS hs) (zS hr) (zI a1) (zI r) := by
  unfold Pn_X4_wasteByAll
  unfold Qn_X4_wasteByAll at hq
  try simp only [z_m1, z_0, z_1, z_2, z_3, z_4, z_5, z_6, z_8, z_9, z_10, z_12, z_16, z_30, z_31, z_99, z_300, z_500, z_600, z_20000, zadd, zsub, zmul, zneg, zap]
  have rg0 := hq.1
  have hq := hq.2
  have ci := and_congr (not_congr (z_lt (a := a1) (b := (1 : Int)) rg0 ⟨by decide, by decide⟩)) (z_le (a := a1) (b := (12 : Int)) rg0 ⟨by decide, by decide⟩)
  refine ⟨(by first | exact ci.mpr hq.1 | exact absurd rfl hq.1), ?_⟩
  have hq := hq.2
  obtain ⟨r1, hr1, hq⟩ := hq
  refine ⟨zI r1, t_X0_leastWasteOfSets hh a1 r1 hr1, ?_⟩
  try simp only [z_m1, z_0, z_1, z_2, z_3, z_4, z_5, z_6, z_8, z_9, z_10, z_12, z_16, z_30, z_31, z_99, z_300, z_500, z_600, z_20000, zadd, zsub, zmul, zneg, zap]
  exact congrArg zI hq
def Qn_X4_left (hh hs hr : ISt) (a1 : Int) (r : Int) : Prop := (inR a1 ∧ inR (hh 0 2) ∧ ((¬ a1 < 0 ∧ a1 < (hh 0 2)) ∧ (∃ r1 : Int, Q_X0_isSeated hh a1 r1 ∧ (inR r1 ∧ ((¬ r1 = 0) ∧ (∃ r2 : Int, Q_X0_minutesLeft hh a1 r2 ∧ (r = r2)))))))
set_option maxRecDepth 100000 in
set_option maxHeartbeats 4000000 in
theorem tn_X4_left (hh hs hr : ISt) (a1 : Int) (r : Int) (hq : Qn_X4_left hh hs hr a1 r) : Pn_X4_left (zS hh) (zS hs) (zS hr) (zI a1) (zI r) := by
  unfold Pn_X4_left
  unfold Qn_X4_left at hq
  try simp only [z_m1, z_0, z_1, z_2, z_3, z_4, z_5, z_6, z_8, z_9, z_10, z_12, z_16, z_30, z_31, z_99, z_300, z_500, z_600, z_20000, zadd, zsub, zmul, zneg, zap]
  have rg0 := hq.1
  have hq := hq.2
  have rg1 := hq.1
  have hq := hq.2
  have ci := and_congr (not_congr (z_lt (a := a1) (b := 0) rg0 ⟨by decide, by decide⟩)) (z_lt (a := a1) (b := (hh 0 2)) rg0 rg1)
  refine ⟨(by first | exact ci.mpr hq.1 | exact absurd rfl hq.1), ?_⟩
  have hq := hq.2
  obtain ⟨r1, hr1, hq⟩ := hq
  refine ⟨zI r1, t_X0_isSeated hh a1 r1 hr1, ?_⟩
  try simp only [z_m1, z_0, z_1, z_2, z_3, z_4, z_5, z_6, z_8, z_9, z_10, z_12, z_16, z_30, z_31, z_99, z_300, z_500, z_600, z_20000, zadd, zsub, zmul, zneg, zap]
  have rg0 := hq.1
  have hq := hq.2
  have ci := not_congr (z_eq (a := r1) (b := 0) rg0 ⟨by decide, by decide⟩)
  refine ⟨(by first | exact ci.mpr hq.1 | exact absurd rfl hq.1), ?_⟩
  have hq := hq.2
  obtain ⟨r2, hr2, hq⟩ := hq
  refine ⟨zI r2, t_X0_minutesLeft hh a1 r2 hr2, ?_⟩
  try simp only [z_m1, z_0, z_1, z_2, z_3, z_4, z_5, z_6, z_8, z_9, z_10, z_12, z_16, z_30, z_31, z_99, z_300, z_500, z_600, z_20000, zadd, zsub, zmul, zneg, zap]
  exact congrArg zI hq
def Qn_X4_offers (hh hs hr : ISt) (a1 : Int) (r : Int) : Prop := (inR a1 ∧ inR (hh 0 2) ∧ ((¬ a1 < 0 ∧ a1 < (hh 0 2)) ∧ (∃ r1 : Int, Q_X4_offeredTitles hh hs hr a1 r1 ∧ (∃ r2 : Int, Q_J6_bitCount_0f7a4 r1 r2 ∧ (r = r2)))))
set_option maxRecDepth 100000 in
set_option maxHeartbeats 4000000 in
theorem tn_X4_offers (hh hs hr : ISt) (a1 : Int) (r : Int) (hq : Qn_X4_offers hh hs hr a1 r) : Pn_X4_offers (zS hh) (zS hs) (zS hr) (zI a1) (zI r) := by
  unfold Pn_X4_offers
  unfold Qn_X4_offers at hq
  try simp only [z_m1, z_0, z_1, z_2, z_3, z_4, z_5, z_6, z_8, z_9, z_10, z_12, z_16, z_30, z_31, z_99, z_300, z_500, z_600, z_20000, zadd, zsub, zmul, zneg, zap]
  have rg0 := hq.1
  have hq := hq.2
  have rg1 := hq.1
  have hq := hq.2
  have ci := and_congr (not_congr (z_lt (a := a1) (b := 0) rg0 ⟨by decide, by decide⟩)) (z_lt (a := a1) (b := (hh 0 2)) rg0 rg1)
  refine ⟨(by first | exact ci.mpr hq.1 | exact absurd rfl hq.1), ?_⟩
  have hq := hq.2
  obtain ⟨r1, hr1, hq⟩ := hq
  refine ⟨zI r1, t_X4_offeredTitles hh hs hr a1 r1 hr1, ?_⟩
  try simp only [z_m1, z_0, z_1, z_2, z_3, z_4, z_5, z_6, z_8, z_9, z_10, z_12, z_16, z_30, z_31, z_99, z_300, z_500, z_600, z_20000, zadd, zsub, zmul, zneg, zap]
  obtain ⟨r2, hr2, hq⟩ := hq
  refine ⟨zI r2, t_J6_bitCount_0f7a4 r1 r2 hr2, ?_⟩
  try simp only [z_m1, z_0, z_1, z_2, z_3, z_4, z_5, z_6, z_8, z_9, z_10, z_12, z_16, z_30, z_31, z_99, z_300, z_500, z_600, z_20000, zadd, zsub, zmul, zneg, zap]
  exact congrArg zI hq
def Qn_X4_offerAt (hh hs hr : ISt) (a1 : Int) (a2 : Int) (r : Int) : Prop := (inR a1 ∧ inR (hh 0 2) ∧ ((¬ a1 < 0 ∧ a1 < (hh 0 2)) ∧ (∃ r1 : Int, Q_X4_offeredTitles hh hs hr a1 r1 ∧ (∃ r2 : Int, Q_J6_bitCount_0f7a4 r1 r2 ∧ (inR a2 ∧ inR r2 ∧ ((¬ a2 < 0 ∧ a2 < r2) ∧ (∃ r3 : Int, Q_X3_titleInPlace hs r1 a2 r3 ∧ (r = r3))))))))
set_option maxRecDepth 100000 in
set_option maxHeartbeats 4000000 in
theorem tn_X4_offerAt (hh hs hr : ISt) (a1 : Int) (a2 : Int) (r : Int) (hq : Qn_X4_offerAt hh hs hr a1 a2 r) : Pn_X4_offerAt (zS hh) (zS hs) (zS hr) (zI a1) (zI a2) (zI r) := by
  unfold Pn_X4_offerAt
  unfold Qn_X4_offerAt at hq
  try simp only [z_m1, z_0, z_1, z_2, z_3, z_4, z_5, z_6, z_8, z_9, z_10, z_12, z_16, z_30, z_31, z_99, z_300, z_500, z_600, z_20000, zadd, zsub, zmul, zneg, zap]
  have rg0 := hq.1
  have hq := hq.2
  have rg1 := hq.1
  have hq := hq.2
  have ci := and_congr (not_congr (z_lt (a := a1) (b := 0) rg0 ⟨by decide, by decide⟩)) (z_lt (a := a1) (b := (hh 0 2)) rg0 rg1)
  refine ⟨(by first | exact ci.mpr hq.1 | exact absurd rfl hq.1), ?_⟩
  have hq := hq.2
  obtain ⟨r1, hr1, hq⟩ := hq
  refine ⟨zI r1, t_X4_offeredTitles hh hs hr a1 r1 hr1, ?_⟩
  try simp only [z_m1, z_0, z_1, z_2, z_3, z_4, z_5, z_6, z_8, z_9, z_10, z_12, z_16, z_30, z_31, z_99, z_300, z_500, z_600, z_20000, zadd, zsub, zmul, zneg, zap]
  obtain ⟨r2, hr2, hq⟩ := hq
  refine ⟨zI r2, t_J6_bitCount_0f7a4 r1 r2 hr2, ?_⟩
  try simp only [z_m1, z_0, z_1, z_2, z_3, z_4, z_5, z_6, z_8, z_9, z_10, z_12, z_16, z_30, z_31, z_99, z_300, z_500, z_600, z_20000, zadd, zsub, zmul, zneg, zap]
  have rg0 := hq.1
  have hq := hq.2
  have rg1 := hq.1
  have hq := hq.2
  have ci := and_congr (not_congr (z_lt (a := a2) (b := 0) rg0 ⟨by decide, by decide⟩)) (z_lt (a := a2) (b := r2) rg0 rg1)
  refine ⟨(by first | exact ci.mpr hq.1 | exact absurd rfl hq.1), ?_⟩
  have hq := hq.2
  obtain ⟨r3, hr3, hq⟩ := hq
  refine ⟨zI r3, t_X3_titleInPlace hs r1 a2 r3 hr3, ?_⟩
  try simp only [z_m1, z_0, z_1, z_2, z_3, z_4, z_5, z_6, z_8, z_9, z_10, z_12, z_16, z_30, z_31, z_99, z_300, z_500, z_600, z_20000, zadd, zsub, zmul, zneg, zap]
  exact congrArg zI hq
def Qn_X4_pieces (hh hs hr : ISt) (a1 : Int) (a2 : Int) (r : Int) : Prop := (inR a1 ∧ inR (hs 0 1) ∧ ((¬ a1 < 0 ∧ a1 < (hs 0 1)) ∧ (inR a2 ∧ ((¬ a2 < 0 ∧ a2 < (4 : Int)) ∧ (∃ r1 : Int, Q_X3_count hs a1 a2 r1 ∧ (r = r1))))))
set_option maxRecDepth 100000 in
set_option maxHeartbeats 4000000 in
theorem tn_X4_pieces (hh hs hr : ISt) (a1 : Int) (a2 : Int) (r : Int) (hq : Qn_X4_pieces hh hs hr a1 a2 r) : Pn_X4_pieces (zS hh) (zS hs) (zS hr) (zI a1) (zI a2) (zI r) := by
  unfold Pn_X4_pieces
  unfold Qn_X4_pieces at hq
  try simp only [z_m1, z_0, z_1, z_2, z_3, z_4, z_5, z_6, z_8, z_9, z_10, z_12, z_16, z_30, z_31, z_99, z_300, z_500, z_600, z_20000, zadd, zsub, zmul, zneg, zap]
  have rg0 := hq.1
  have hq := hq.2
  have rg1 := hq.1
  have hq := hq.2
  have ci := and_congr (not_congr (z_lt (a := a1) (b := 0) rg0 ⟨by decide, by decide⟩)) (z_lt (a := a1) (b := (hs 0 1)) rg0 rg1)
  refine ⟨(by first | exact ci.mpr hq.1 | exact absurd rfl hq.1), ?_⟩
  have hq := hq.2
  have rg0 := hq.1
  have hq := hq.2
  have ci := and_congr (not_congr (z_lt (a := a2) (b := 0) rg0 ⟨by decide, by decide⟩)) (z_lt (a := a2) (b := (4 : Int)) rg0 ⟨by decide, by decide⟩)
  refine ⟨(by first | exact ci.mpr hq.1 | exact absurd rfl hq.1), ?_⟩
  have hq := hq.2
  obtain ⟨r1, hr1, hq⟩ := hq
  refine ⟨zI r1, t_X3_count hs a1 a2 r1 hr1, ?_⟩
  try simp only [z_m1, z_0, z_1, z_2, z_3, z_4, z_5, z_6, z_8, z_9, z_10, z_12, z_16, z_30, z_31, z_99, z_300, z_500, z_600, z_20000, zadd, zsub, zmul, zneg, zap]
  exact congrArg zI hq
def Qn_X4_stateOf (hh hs hr : ISt) (a1 : Int) (r : Int) : Prop := (inR a1 ∧ inR (hs 0 1) ∧ ((¬ a1 < 0 ∧ a1 < (hs 0 1)) ∧ (∃ r1 : Int, Q_X3_place hs a1 r1 ∧ (r = r1))))
set_option maxRecDepth 100000 in
set_option maxHeartbeats 4000000 in
theorem tn_X4_stateOf (hh hs hr : ISt) (a1 : Int) (r : Int) (hq : Qn_X4_stateOf hh hs hr a1 r) : Pn_X4_stateOf (zS hh) (zS hs) (zS hr) (zI a1) (zI r) := by
  unfold Pn_X4_stateOf
  unfold Qn_X4_stateOf at hq
  try simp only [z_m1, z_0, z_1, z_2, z_3, z_4, z_5, z_6, z_8, z_9, z_10, z_12, z_16, z_30, z_31, z_99, z_300, z_500, z_600, z_20000, zadd, zsub, zmul, zneg, zap]
  have rg0 := hq.1
  have hq := hq.2
  have rg1 := hq.1
  have hq := hq.2
  have ci := and_congr (not_congr (z_lt (a := a1) (b := 0) rg0 ⟨by decide, by decide⟩)) (z_lt (a := a1) (b := (hs 0 1)) rg0 rg1)
  refine ⟨(by first | exact ci.mpr hq.1 | exact absurd rfl hq.1), ?_⟩
  have hq := hq.2
  obtain ⟨r1, hr1, hq⟩ := hq
  refine ⟨zI r1, t_X3_place hs a1 r1 hr1, ?_⟩
  try simp only [z_m1, z_0, z_1, z_2, z_3, z_4, z_5, z_6, z_8, z_9, z_10, z_12, z_16, z_30, z_31, z_99, z_300, z_500, z_600, z_20000, zadd, zsub, zmul, zneg, zap]
  exact congrArg zI hq
def Qn_X4_lenders (hh hs hr : ISt) (a1 : Int) (r : Int) : Prop := (inR a1 ∧ inR (hs 0 1) ∧ ((¬ a1 < 0 ∧ a1 < (hs 0 1)) ∧ (∃ r1 : Int, Q_X3_countLenders hs a1 r1 ∧ (r = r1))))
set_option maxRecDepth 100000 in
set_option maxHeartbeats 4000000 in
theorem tn_X4_lenders (hh hs hr : ISt) (a1 : Int) (r : Int) (hq : Qn_X4_lenders hh hs hr a1 r) : Pn_X4_lenders (zS hh) (zS hs) (zS hr) (zI a1) (zI r) := by
  unfold Pn_X4_lenders
  unfold Qn_X4_lenders at hq
  try simp only [z_m1, z_0, z_1, z_2, z_3, z_4, z_5, z_6, z_8, z_9, z_10, z_12, z_16, z_30, z_31, z_99, z_300, z_500, z_600, z_20000, zadd, zsub, zmul, zneg, zap]
  have rg0 := hq.1
  have hq := hq.2
  have rg1 := hq.1
  have hq := hq.2
  have ci := and_congr (not_congr (z_lt (a := a1) (b := 0) rg0 ⟨by decide, by decide⟩)) (z_lt (a := a1) (b := (hs 0 1)) rg0 rg1)
  refine ⟨(by first | exact ci.mpr hq.1 | exact absurd rfl hq.1), ?_⟩
  have hq := hq.2
  obtain ⟨r1, hr1, hq⟩ := hq
  refine ⟨zI r1, t_X3_countLenders hs a1 r1 hr1, ?_⟩
  try simp only [z_m1, z_0, z_1, z_2, z_3, z_4, z_5, z_6, z_8, z_9, z_10, z_12, z_16, z_30, z_31, z_99, z_300, z_500, z_600, z_20000, zadd, zsub, zmul, zneg, zap]
  exact congrArg zI hq
def Qn_X4_copyOf (hh hs hr : ISt) (a1 : Int) (r : Int) : Prop := (inR a1 ∧ inR (hh 0 2) ∧ ((¬ a1 < 0 ∧ a1 < (hh 0 2)) ∧ (∃ r1 : Int, Q_X3_heldBy hs a1 r1 ∧ (r = r1))))
set_option maxRecDepth 100000 in
set_option maxHeartbeats 4000000 in
theorem tn_X4_copyOf (hh hs hr : ISt) (a1 : Int) (r : Int) (hq : Qn_X4_copyOf hh hs hr a1 r) : Pn_X4_copyOf (zS hh) (zS hs) (zS hr) (zI a1) (zI r) := by
  unfold Pn_X4_copyOf
  unfold Qn_X4_copyOf at hq
  try simp only [z_m1, z_0, z_1, z_2, z_3, z_4, z_5, z_6, z_8, z_9, z_10, z_12, z_16, z_30, z_31, z_99, z_300, z_500, z_600, z_20000, zadd, zsub, zmul, zneg, zap]
  have rg0 := hq.1
  have hq := hq.2
  have rg1 := hq.1
  have hq := hq.2
  have ci := and_congr (not_congr (z_lt (a := a1) (b := 0) rg0 ⟨by decide, by decide⟩)) (z_lt (a := a1) (b := (hh 0 2)) rg0 rg1)
  refine ⟨(by first | exact ci.mpr hq.1 | exact absurd rfl hq.1), ?_⟩
  have hq := hq.2
  obtain ⟨r1, hr1, hq⟩ := hq
  refine ⟨zI r1, t_X3_heldBy hs a1 r1 hr1, ?_⟩
  try simp only [z_m1, z_0, z_1, z_2, z_3, z_4, z_5, z_6, z_8, z_9, z_10, z_12, z_16, z_30, z_31, z_99, z_300, z_500, z_600, z_20000, zadd, zsub, zmul, zneg, zap]
  exact congrArg zI hq
def Qn_X4_depth (hh hs hr : ISt) (a1 : Int) (r : Int) : Prop := (inR a1 ∧ inR (hs 0 0) ∧ ((¬ a1 < 0 ∧ a1 < (hs 0 0)) ∧ (∃ r1 : Int, Q_X1_deepest hr a1 r1 ∧ (r = r1))))
set_option maxRecDepth 100000 in
set_option maxHeartbeats 4000000 in
theorem tn_X4_depth (hh hs hr : ISt) (a1 : Int) (r : Int) (hq : Qn_X4_depth hh hs hr a1 r) : Pn_X4_depth (zS hh) (zS hs) (zS hr) (zI a1) (zI r) := by
  unfold Pn_X4_depth
  unfold Qn_X4_depth at hq
  try simp only [z_m1, z_0, z_1, z_2, z_3, z_4, z_5, z_6, z_8, z_9, z_10, z_12, z_16, z_30, z_31, z_99, z_300, z_500, z_600, z_20000, zadd, zsub, zmul, zneg, zap]
  have rg0 := hq.1
  have hq := hq.2
  have rg1 := hq.1
  have hq := hq.2
  have ci := and_congr (not_congr (z_lt (a := a1) (b := 0) rg0 ⟨by decide, by decide⟩)) (z_lt (a := a1) (b := (hs 0 0)) rg0 rg1)
  refine ⟨(by first | exact ci.mpr hq.1 | exact absurd rfl hq.1), ?_⟩
  have hq := hq.2
  obtain ⟨r1, hr1, hq⟩ := hq
  refine ⟨zI r1, t_X1_deepest hr a1 r1 hr1, ?_⟩
  try simp only [z_m1, z_0, z_1, z_2, z_3, z_4, z_5, z_6, z_8, z_9, z_10, z_12, z_16, z_30, z_31, z_99, z_300, z_500, z_600, z_20000, zadd, zsub, zmul, zneg, zap]
  exact congrArg zI hq
