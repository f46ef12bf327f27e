def Q_X4_pass (hh hs hr : ISt) (a1 : Int) (ok : Int → ISt → ISt → ISt → Prop) (ex : String → Prop) : Prop := ∀ V28 : Int → Prop, (∀ t0 : Int, (inR t0 ∧ (((¬ t0 = 0) → (∀ h3 : ISt, h3 = iset hh 0 0 ((hh 0 0) + a1) → (ok (h3 0 0) h3 hs hr))) ∧ (¬ (¬ t0 = 0) → (ex E_s)))) → V28 t0) → (inR a1 ∧ (((¬ a1 < (1 : Int) ∧ a1 ≤ (500 : Int)) → (inR ((hh 0 0) + a1) ∧ (((20000 : Int) < ((hh 0 0) + a1) → (V28 (0 : Int))) ∧ (¬ (20000 : Int) < ((hh 0 0) + a1) → (V28 (1 : Int)))))) ∧ (¬ (¬ a1 < (1 : Int) ∧ a1 ≤ (500 : Int)) → (ex E_a))))
set_option maxRecDepth 100000 in
set_option maxHeartbeats 4000000 in
theorem t_X4_pass (hh hs hr : ISt) (a1 : Int) (ok : Int32 → St → St → St → Prop) (ex : String → Prop) (hq : Q_X4_pass hh hs hr a1 (fun r h' s' r' => ok (zI r) (zS h') (zS s') (zS r')) ex) : P_X4_pass (zS hh) (zS hs) (zS hr) (zI a1) ok ex := by
  intro V28 k28
  have hq := hq (fun t0 => V28 (zI t0))
  have hq := hq (by
    intro t0 hq
    refine k28 (zI t0) ?_
    try simp only [z_m1, z_0, z_1, z_2, z_3, z_4, z_5, z_6, z_8, z_9, z_10, z_12, z_16, z_30, z_31, z_99, z_300, z_500, z_600, z_20000, zadd, zsub, zmul, zneg, zap]
    have r0 := hq.1
    have hq := hq.2
    have ci := not_congr (z_eq (a := t0) (b := 0) r0 ⟨by decide, by decide⟩)
    refine ⟨fun c => ?_, fun c => ?_⟩
    · have hq := hq.1 (by first | exact ci.mp c | exact absurd trivial c)
      intro g9 eg9
      rw [zset] at eg9
      subst eg9
      have hq := hq _ rfl
      generalize iset hh 0 0 ((hh 0 0) + a1) = h3 at hq ⊢
      try simp only [z_m1, z_0, z_1, z_2, z_3, z_4, z_5, z_6, z_8, z_9, z_10, z_12, z_16, z_30, z_31, z_99, z_300, z_500, z_600, z_20000, zadd, zsub, zmul, zneg, zap]
      exact hq
    · first | exact hq.2 (fun h => c (ci.mpr h)) | exact hq.2 (fun h => h rfl))
  try simp only [z_m1, z_0, z_1, z_2, z_3, z_4, z_5, z_6, z_8, z_9, z_10, z_12, z_16, z_30, z_31, z_99, z_300, z_500, z_600, z_20000, zadd, zsub, zmul, zneg, zap]
  have r0 := hq.1
  have hq := hq.2
  have ci := and_congr (not_congr (z_lt (a := a1) (b := (1 : Int)) r0 ⟨by decide, by decide⟩)) (z_le (a := a1) (b := (500 : Int)) r0 ⟨by decide, by decide⟩)
  refine ⟨fun c => ?_, fun c => ?_⟩
  · have hq := hq.1 (by first | exact ci.mp c | exact absurd trivial c)
    have rx := hq.1
    have hq := hq.2
    refine ⟨fun c => ?_, fun c => ?_⟩
    · have hq := hq.1 ((z_lt ⟨by decide, by decide⟩ rx).mp c)
      exact hq
    · have hq := hq.2 (fun h => c ((z_lt ⟨by decide, by decide⟩ rx).mpr h))
      exact hq
  · first | exact hq.2 (fun h => c (ci.mpr h)) | exact hq.2 (fun h => h rfl)
def Q_X4_now (hh hs hr : ISt) (r : Int) : Prop := (r = (hh 0 0))
set_option maxRecDepth 100000 in
set_option maxHeartbeats 4000000 in
theorem t_X4_now (hh hs hr : ISt) (r : Int) (hq : Q_X4_now hh hs hr r) : P_X4_now (zS hh) (zS hs) (zS hr) (zI r) := by
  unfold P_X4_now
  unfold Q_X4_now at hq
  try simp only [z_m1, z_0, z_1, z_2, z_3, z_4, z_5, z_6, z_8, z_9, z_10, z_12, z_16, z_30, z_31, z_99, z_300, z_500, z_600, z_20000, zadd, zsub, zmul, zneg, zap]
  exact congrArg zI hq
def Q_X4_addTable (hh hs hr : ISt) (a1 : Int) (ok : Int → ISt → ISt → ISt → Prop) (ex : String → Prop) : Prop := (inR a1 ∧ (((¬ a1 < (2 : Int) ∧ a1 ≤ (6 : Int)) → (inR (hh 0 1) ∧ (((10 : Int) ≤ (hh 0 1) → ((((¬ (0 : Int) = 0) → (∃ (r3 : Int) (h4 : ISt), Q_X0_putTable hh a1 r3 h4 ∧ (ok r3 h4 hs hr))) ∧ (¬ (¬ (0 : Int) = 0) → (ex E_s))))) ∧ (¬ (10 : Int) ≤ (hh 0 1) → ((((¬ (1 : Int) = 0) → (∃ (r6 : Int) (h7 : ISt), Q_X0_putTable hh a1 r6 h7 ∧ (ok r6 h7 hs hr))) ∧ (¬ (¬ (1 : Int) = 0) → (ex E_s)))))))) ∧ (¬ (¬ a1 < (2 : Int) ∧ a1 ≤ (6 : Int)) → (ex E_a))))
set_option maxRecDepth 100000 in
set_option maxHeartbeats 4000000 in
theorem t_X4_addTable (hh hs hr : ISt) (a1 : Int) (ok : Int32 → St → St → St → Prop) (ex : String → Prop) (hq : Q_X4_addTable hh hs hr a1 (fun r h' s' r' => ok (zI r) (zS h') (zS s') (zS r')) ex) : P_X4_addTable (zS hh) (zS hs) (zS hr) (zI a1) ok ex := by
  unfold P_X4_addTable
  unfold Q_X4_addTable at hq
  try simp only [z_m1, z_0, z_1, z_2, z_3, z_4, z_5, z_6, z_8, z_9, z_10, z_12, z_16, z_30, z_31, z_99, z_300, z_500, z_600, z_20000, zadd, zsub, zmul, zneg, zap]
  have r0 := hq.1
  have hq := hq.2
  have ci := and_congr (not_congr (z_lt (a := a1) (b := (2 : Int)) r0 ⟨by decide, by decide⟩)) (z_le (a := a1) (b := (6 : Int)) r0 ⟨by decide, by decide⟩)
  refine ⟨fun c => ?_, fun c => ?_⟩
  · have hq := hq.1 (by first | exact ci.mp c | exact absurd trivial c)
    have rx := hq.1
    have hq := hq.2
    refine ⟨fun c => ?_, fun c => ?_⟩
    · have hq := hq.1 ((z_le ⟨by decide, by decide⟩ rx).mp c)
      have ci := not_congr (z_eq (a := (0 : Int)) (b := 0) ⟨by decide, by decide⟩ ⟨by decide, by decide⟩)
      refine ⟨fun c => ?_, fun c => ?_⟩
      · have hq := hq.1 (by first | exact ci.mp c | exact absurd trivial c)
        obtain ⟨r3, h4, hh4, hq⟩ := hq
        refine ⟨zI r3, zS h4, t_X0_putTable hh a1 r3 h4 hh4, ?_⟩
        try simp only [z_m1, z_0, z_1, z_2, z_3, z_4, z_5, z_6, z_8, z_9, z_10, z_12, z_16, z_30, z_31, z_99, z_300, z_500, z_600, z_20000, zadd, zsub, zmul, zneg, zap]
        exact hq
      · first | exact hq.2 (fun h => c (ci.mpr h)) | exact hq.2 (fun h => h rfl)
    · have hq := hq.2 (fun h => c ((z_le ⟨by decide, by decide⟩ rx).mpr h))
      have ci := not_congr (z_eq (a := (1 : Int)) (b := 0) ⟨by decide, by decide⟩ ⟨by decide, by decide⟩)
      refine ⟨fun c => ?_, fun c => ?_⟩
      · have hq := hq.1 (by first | exact ci.mp c | exact absurd trivial c)
        obtain ⟨r6, h7, hh7, hq⟩ := hq
        refine ⟨zI r6, zS h7, t_X0_putTable hh a1 r6 h7 hh7, ?_⟩
        try simp only [z_m1, z_0, z_1, z_2, z_3, z_4, z_5, z_6, z_8, z_9, z_10, z_12, z_16, z_30, z_31, z_99, z_300, z_500, z_600, z_20000, zadd, zsub, zmul, zneg, zap]
        exact hq
      · first | exact hq.2 (fun h => c (ci.mpr h)) | exact hq.2 (fun h => h rfl)
  · first | exact hq.2 (fun h => c (ci.mpr h)) | exact hq.2 (fun h => h rfl)
def Q_X4_addTitle (hh hs hr : ISt) (a1 : Int) (a2 : Int) (a3 : Int) (a4 : Int) (a5 : Int) (a6 : Int) (a7 : Int) (ok : Int → ISt → ISt → ISt → Prop) (ex : String → Prop) : Prop := ∀ V71 : Int → Prop, (∀ t0 : Int, (inR t0 ∧ (((¬ t0 = 0) → (∃ (r9 : Int) (h10 : ISt), Q_X3_putTitle hs a1 a2 a3 r9 h10 ∧ (∃ h12 : ISt, Q_X3_setFull h10 r9 (0 : Int) a4 h12 ∧ (∃ h14 : ISt, Q_X3_setFull h12 r9 (1 : Int) a5 h14 ∧ (∃ h16 : ISt, Q_X3_setFull h14 r9 (2 : Int) a6 h16 ∧ (∃ h18 : ISt, Q_X3_setFull h16 r9 (3 : Int) a7 h18 ∧ (ok r9 hh h18 hr))))))) ∧ (¬ (¬ t0 = 0) → (ex E_s)))) → V71 t0) → (inR a1 ∧ (((¬ a1 < (1 : Int) ∧ a1 ≤ (12 : Int)) → (inR a2 ∧ inR a1 ∧ (((¬ a2 < a1 ∧ a2 ≤ (12 : Int)) → (inR a3 ∧ (((¬ a3 < (5 : Int) ∧ a3 ≤ (300 : Int)) → (inR a4 ∧ (((¬ a4 < (0 : Int) ∧ a4 ≤ (9 : Int)) → (inR a5 ∧ (((¬ a5 < (0 : Int) ∧ a5 ≤ (9 : Int)) → (inR a6 ∧ (((¬ a6 < (0 : Int) ∧ a6 ≤ (9 : Int)) → (inR a7 ∧ (((¬ a7 < (0 : Int) ∧ a7 ≤ (9 : Int)) → (inR (hs 0 0) ∧ (((8 : Int) ≤ (hs 0 0) → (V71 (0 : Int))) ∧ (¬ (8 : Int) ≤ (hs 0 0) → (V71 (1 : Int)))))) ∧ (¬ (¬ a7 < (0 : Int) ∧ a7 ≤ (9 : Int)) → (ex E_a))))) ∧ (¬ (¬ a6 < (0 : Int) ∧ a6 ≤ (9 : Int)) → (ex E_a))))) ∧ (¬ (¬ a5 < (0 : Int) ∧ a5 ≤ (9 : Int)) → (ex E_a))))) ∧ (¬ (¬ a4 < (0 : Int) ∧ a4 ≤ (9 : Int)) → (ex E_a))))) ∧ (¬ (¬ a3 < (5 : Int) ∧ a3 ≤ (300 : Int)) → (ex E_a))))) ∧ (¬ (¬ a2 < a1 ∧ a2 ≤ (12 : Int)) → (ex E_a))))) ∧ (¬ (¬ a1 < (1 : Int) ∧ a1 ≤ (12 : Int)) → (ex E_a))))
set_option maxRecDepth 100000 in
set_option maxHeartbeats 4000000 in
theorem t_X4_addTitle (hh hs hr : ISt) (a1 : Int) (a2 : Int) (a3 : Int) (a4 : Int) (a5 : Int) (a6 : Int) (a7 : Int) (ok : Int32 → St → St → St → Prop) (ex : String → Prop) (hq : Q_X4_addTitle hh hs hr a1 a2 a3 a4 a5 a6 a7 (fun r h' s' r' => ok (zI r) (zS h') (zS s') (zS r')) ex) : P_X4_addTitle (zS hh) (zS hs) (zS hr) (zI a1) (zI a2) (zI a3) (zI a4) (zI a5) (zI a6) (zI a7) ok ex := by
  intro V71 k71
  have hq := hq (fun t0 => V71 (zI t0))
  have hq := hq (by
    intro t0 hq
    refine k71 (zI t0) ?_
    try simp only [z_m1, z_0, z_1, z_2, z_3, z_4, z_5, z_6, z_8, z_9, z_10, z_12, z_16, z_30, z_31, z_99, z_300, z_500, z_600, z_20000, zadd, zsub, zmul, zneg, zap]
    have r0 := hq.1
    have hq := hq.2
    have ci := not_congr (z_eq (a := t0) (b := 0) r0 ⟨by decide, by decide⟩)
    refine ⟨fun c => ?_, fun c => ?_⟩
    · have hq := hq.1 (by first | exact ci.mp c | exact absurd trivial c)
      obtain ⟨r9, h10, hh10, hq⟩ := hq
      refine ⟨zI r9, zS h10, t_X3_putTitle hs a1 a2 a3 r9 h10 hh10, ?_⟩
      try simp only [z_m1, z_0, z_1, z_2, z_3, z_4, z_5, z_6, z_8, z_9, z_10, z_12, z_16, z_30, z_31, z_99, z_300, z_500, z_600, z_20000, zadd, zsub, zmul, zneg, zap]
      obtain ⟨h12, hh12, hq⟩ := hq
      refine ⟨zS h12, t_X3_setFull h10 r9 (0 : Int) a4 h12 hh12, ?_⟩
      try simp only [z_m1, z_0, z_1, z_2, z_3, z_4, z_5, z_6, z_8, z_9, z_10, z_12, z_16, z_30, z_31, z_99, z_300, z_500, z_600, z_20000, zadd, zsub, zmul, zneg, zap]
      obtain ⟨h14, hh14, hq⟩ := hq
      refine ⟨zS h14, t_X3_setFull h12 r9 (1 : Int) a5 h14 hh14, ?_⟩
      try simp only [z_m1, z_0, z_1, z_2, z_3, z_4, z_5, z_6, z_8, z_9, z_10, z_12, z_16, z_30, z_31, z_99, z_300, z_500, z_600, z_20000, zadd, zsub, zmul, zneg, zap]
      obtain ⟨h16, hh16, hq⟩ := hq
      refine ⟨zS h16, t_X3_setFull h14 r9 (2 : Int) a6 h16 hh16, ?_⟩
      try simp only [z_m1, z_0, z_1, z_2, z_3, z_4, z_5, z_6, z_8, z_9, z_10, z_12, z_16, z_30, z_31, z_99, z_300, z_500, z_600, z_20000, zadd, zsub, zmul, zneg, zap]
      obtain ⟨h18, hh18, hq⟩ := hq
      refine ⟨zS h18, t_X3_setFull h16 r9 (3 : Int) a7 h18 hh18, ?_⟩
      try simp only [z_m1, z_0, z_1, z_2, z_3, z_4, z_5, z_6, z_8, z_9, z_10, z_12, z_16, z_30, z_31, z_99, z_300, z_500, z_600, z_20000, zadd, zsub, zmul, zneg, zap]
      exact hq
    · first | exact hq.2 (fun h => c (ci.mpr h)) | exact hq.2 (fun h => h rfl))
  try simp only [z_m1, z_0, z_1, z_2, z_3, z_4, z_5, z_6, z_8, z_9, z_10, z_12, z_16, z_30, z_31, z_99, z_300, z_500, z_600, z_20000, zadd, zsub, zmul, zneg, zap]
  have r0 := hq.1
  have hq := hq.2
  have ci := and_congr (not_congr (z_lt (a := a1) (b := (1 : Int)) r0 ⟨by decide, by decide⟩)) (z_le (a := a1) (b := (12 : Int)) r0 ⟨by decide, by decide⟩)
  refine ⟨fun c => ?_, fun c => ?_⟩
  · have hq := hq.1 (by first | exact ci.mp c | exact absurd trivial c)
    have r0 := hq.1
    have hq := hq.2
    have r1 := hq.1
    have hq := hq.2
    have ci := and_congr (not_congr (z_lt (a := a2) (b := a1) r0 r1)) (z_le (a := a2) (b := (12 : Int)) r0 ⟨by decide, by decide⟩)
    refine ⟨fun c => ?_, fun c => ?_⟩
    · have hq := hq.1 (by first | exact ci.mp c | exact absurd trivial c)
      have r0 := hq.1
      have hq := hq.2
      have ci := and_congr (not_congr (z_lt (a := a3) (b := (5 : Int)) r0 ⟨by decide, by decide⟩)) (z_le (a := a3) (b := (300 : Int)) r0 ⟨by decide, by decide⟩)
      refine ⟨fun c => ?_, fun c => ?_⟩
      · have hq := hq.1 (by first | exact ci.mp c | exact absurd trivial c)
        have r0 := hq.1
        have hq := hq.2
        have ci := and_congr (not_congr (z_lt (a := a4) (b := (0 : Int)) r0 ⟨by decide, by decide⟩)) (z_le (a := a4) (b := (9 : Int)) r0 ⟨by decide, by decide⟩)
        refine ⟨fun c => ?_, fun c => ?_⟩
        · have hq := hq.1 (by first | exact ci.mp c | exact absurd trivial c)
          have r0 := hq.1
          have hq := hq.2
          have ci := and_congr (not_congr (z_lt (a := a5) (b := (0 : Int)) r0 ⟨by decide, by decide⟩)) (z_le (a := a5) (b := (9 : Int)) r0 ⟨by decide, by decide⟩)
          refine ⟨fun c => ?_, fun c => ?_⟩
          · have hq := hq.1 (by first | exact ci.mp c | exact absurd trivial c)
            have r0 := hq.1
            have hq := hq.2
            have ci := and_congr (not_congr (z_lt (a := a6) (b := (0 : Int)) r0 ⟨by decide, by decide⟩)) (z_le (a := a6) (b := (9 : Int)) r0 ⟨by decide, by decide⟩)
            refine ⟨fun c => ?_, fun c => ?_⟩
            · have hq := hq.1 (by first | exact ci.mp c | exact absurd trivial c)
              have r0 := hq.1
              have hq := hq.2
              have ci := and_congr (not_congr (z_lt (a := a7) (b := (0 : Int)) r0 ⟨by decide, by decide⟩)) (z_le (a := a7) (b := (9 : Int)) r0 ⟨by decide, by decide⟩)
              refine ⟨fun c => ?_, fun c => ?_⟩
              · have hq := hq.1 (by first | exact ci.mp c | exact absurd trivial c)
                have rx := hq.1
                have hq := hq.2
                refine ⟨fun c => ?_, fun c => ?_⟩
                · have hq := hq.1 ((z_le ⟨by decide, by decide⟩ rx).mp c)
                  exact hq
                · have hq := hq.2 (fun h => c ((z_le ⟨by decide, by decide⟩ rx).mpr h))
                  exact hq
              · first | exact hq.2 (fun h => c (ci.mpr h)) | exact hq.2 (fun h => h rfl)
            · first | exact hq.2 (fun h => c (ci.mpr h)) | exact hq.2 (fun h => h rfl)
          · first | exact hq.2 (fun h => c (ci.mpr h)) | exact hq.2 (fun h => h rfl)
        · first | exact hq.2 (fun h => c (ci.mpr h)) | exact hq.2 (fun h => h rfl)
      · first | exact hq.2 (fun h => c (ci.mpr h)) | exact hq.2 (fun h => h rfl)
    · first | exact hq.2 (fun h => c (ci.mpr h)) | exact hq.2 (fun h => h rfl)
  · first | exact hq.2 (fun h => c (ci.mpr h)) | exact hq.2 (fun h => h rfl)
def Q_X4_addCopy (hh hs hr : ISt) (a1 : Int) (ok : Int → ISt → ISt → ISt → Prop) (ex : String → Prop) : Prop := (inR a1 ∧ inR (hs 0 0) ∧ (((¬ a1 < 0 ∧ a1 < (hs 0 0)) → (inR (hs 0 1) ∧ (((16 : Int) ≤ (hs 0 1) → ((((¬ (0 : Int) = 0) → (∃ (r3 : Int) (h4 : ISt), Q_X3_putCopy hs a1 r3 h4 ∧ (ok r3 hh h4 hr))) ∧ (¬ (¬ (0 : Int) = 0) → (ex E_s))))) ∧ (¬ (16 : Int) ≤ (hs 0 1) → ((((¬ (1 : Int) = 0) → (∃ (r6 : Int) (h7 : ISt), Q_X3_putCopy hs a1 r6 h7 ∧ (ok r6 hh h7 hr))) ∧ (¬ (¬ (1 : Int) = 0) → (ex E_s)))))))) ∧ (¬ (¬ a1 < 0 ∧ a1 < (hs 0 0)) → (ex E_i))))
set_option maxRecDepth 100000 in
set_option maxHeartbeats 4000000 in
theorem t_X4_addCopy (hh hs hr : ISt) (a1 : Int) (ok : Int32 → St → St → St → Prop) (ex : String → Prop) (hq : Q_X4_addCopy hh hs hr a1 (fun r h' s' r' => ok (zI r) (zS h') (zS s') (zS r')) ex) : P_X4_addCopy (zS hh) (zS hs) (zS hr) (zI a1) ok ex := by
  unfold P_X4_addCopy
  unfold Q_X4_addCopy at hq
  try simp only [z_m1, z_0, z_1, z_2, z_3, z_4, z_5, z_6, z_8, z_9, z_10, z_12, z_16, z_30, z_31, z_99, z_300, z_500, z_600, z_20000, zadd, zsub, zmul, zneg, zap]
  have r0 := hq.1
  have hq := hq.2
  have r1 := hq.1
  have hq := hq.2
  have ci := and_congr (not_congr (z_lt (a := a1) (b := 0) r0 ⟨by decide, by decide⟩)) (z_lt (a := a1) (b := (hs 0 0)) r0 r1)
  refine ⟨fun c => ?_, fun c => ?_⟩
  · have hq := hq.1 (by first | exact ci.mp c | exact absurd trivial c)
    have rx := hq.1
    have hq := hq.2
    refine ⟨fun c => ?_, fun c => ?_⟩
    · have hq := hq.1 ((z_le ⟨by decide, by decide⟩ rx).mp c)
      have ci := not_congr (z_eq (a := (0 : Int)) (b := 0) ⟨by decide, by decide⟩ ⟨by decide, by decide⟩)
      refine ⟨fun c => ?_, fun c => ?_⟩
      · have hq := hq.1 (by first | exact ci.mp c | exact absurd trivial c)
        obtain ⟨r3, h4, hh4, hq⟩ := hq
        refine ⟨zI r3, zS h4, t_X3_putCopy hs a1 r3 h4 hh4, ?_⟩
        try simp only [z_m1, z_0, z_1, z_2, z_3, z_4, z_5, z_6, z_8, z_9, z_10, z_12, z_16, z_30, z_31, z_99, z_300, z_500, z_600, z_20000, zadd, zsub, zmul, zneg, zap]
        exact hq
      · first | exact hq.2 (fun h => c (ci.mpr h)) | exact hq.2 (fun h => h rfl)
    · have hq := hq.2 (fun h => c ((z_le ⟨by decide, by decide⟩ rx).mpr h))
      have ci := not_congr (z_eq (a := (1 : Int)) (b := 0) ⟨by decide, by decide⟩ ⟨by decide, by decide⟩)
      refine ⟨fun c => ?_, fun c => ?_⟩
      · have hq := hq.1 (by first | exact ci.mp c | exact absurd trivial c)
        obtain ⟨r6, h7, hh7, hq⟩ := hq
        refine ⟨zI r6, zS h7, t_X3_putCopy hs a1 r6 h7 hh7, ?_⟩
        try simp only [z_m1, z_0, z_1, z_2, z_3, z_4, z_5, z_6, z_8, z_9, z_10, z_12, z_16, z_30, z_31, z_99, z_300, z_500, z_600, z_20000, zadd, zsub, zmul, zneg, zap]
        exact hq
      · first | exact hq.2 (fun h => c (ci.mpr h)) | exact hq.2 (fun h => h rfl)
  · first | exact hq.2 (fun h => c (ci.mpr h)) | exact hq.2 (fun h => h rfl)
def Q_X4_addRule (hh hs hr : ISt) (a1 : Int) (a2 : Int) (a3 : Int) (a4 : Int) (a5 : Int) (ok : Int → ISt → ISt → ISt → Prop) (ex : String → Prop) : Prop := ∀ V28 : Prop, ∀ V69 : Int → Prop, ((inR a3 ∧ (((¬ a3 < (0 : Int) ∧ a3 ≤ (3 : Int)) → (inR a4 ∧ (((¬ a4 < (1 : Int) ∧ a4 ≤ (300 : Int)) → (inR a5 ∧ (((¬ a5 < (0 : Int) ∧ a5 ≤ (99 : Int)) → (∃ r7 : Int, Q_X1_rulesOf hr a1 r7 ∧ (inR r7 ∧ (((12 : Int) ≤ r7 → (V69 (0 : Int))) ∧ (¬ (12 : Int) ≤ r7 → (V69 (1 : Int))))))) ∧ (¬ (¬ a5 < (0 : Int) ∧ a5 ≤ (99 : Int)) → (ex E_a))))) ∧ (¬ (¬ a4 < (1 : Int) ∧ a4 ≤ (300 : Int)) → (ex E_a))))) ∧ (¬ (¬ a3 < (0 : Int) ∧ a3 ≤ (3 : Int)) → (ex E_a)))) → V28) → (∀ t0 : Int, (inR t0 ∧ (((¬ t0 = 0) → (∃ (r9 : Int) (h10 : ISt), Q_X1_putRule hr a1 a2 a3 a4 a5 r9 h10 ∧ (ok r9 hh hs h10))) ∧ (¬ (¬ t0 = 0) → (ex E_s)))) → V69 t0) → (inR a1 ∧ inR (hs 0 0) ∧ (((¬ a1 < 0 ∧ a1 < (hs 0 0)) → (inR a2 ∧ ((a2 = (-1 : Int) → (V28)) ∧ (¬ a2 = (-1 : Int) → (∃ r2 : Int, Q_X1_rulesOf hr a1 r2 ∧ (inR a2 ∧ inR r2 ∧ (((¬ a2 < 0 ∧ a2 < r2) → (V28)) ∧ (¬ (¬ a2 < 0 ∧ a2 < r2) → (ex E_i))))))))) ∧ (¬ (¬ a1 < 0 ∧ a1 < (hs 0 0)) → (ex E_i))))
set_option maxRecDepth 100000 in
set_option maxHeartbeats 4000000 in
theorem t_X4_addRule (hh hs hr : ISt) (a1 : Int) (a2 : Int) (a3 : Int) (a4 : Int) (a5 : Int) (ok : Int32 → St → St → St → Prop) (ex : String → Prop) (hq : Q_X4_addRule hh hs hr a1 a2 a3 a4 a5 (fun r h' s' r' => ok (zI r) (zS h') (zS s') (zS r')) ex) : P_X4_addRule (zS hh) (zS hs) (zS hr) (zI a1) (zI a2) (zI a3) (zI a4) (zI a5) ok ex := by
  intro V28 V69 k28 k69
  have hq := hq V28 (fun t0 => V69 (zI t0))
  have hq := hq (by
    intro hq
    refine k28 ?_
    try simp only [z_m1, z_0, z_1, z_2, z_3, z_4, z_5, z_6, z_8, z_9, z_10, z_12, z_16, z_30, z_31, z_99, z_300, z_500, z_600, z_20000, zadd, zsub, zmul, zneg, zap]
    have r0 := hq.1
    have hq := hq.2
    have ci := and_congr (not_congr (z_lt (a := a3) (b := (0 : Int)) r0 ⟨by decide, by decide⟩)) (z_le (a := a3) (b := (3 : Int)) r0 ⟨by decide, by decide⟩)
    refine ⟨fun c => ?_, fun c => ?_⟩
    · have hq := hq.1 (by first | exact ci.mp c | exact absurd trivial c)
      have r0 := hq.1
      have hq := hq.2
      have ci := and_congr (not_congr (z_lt (a := a4) (b := (1 : Int)) r0 ⟨by decide, by decide⟩)) (z_le (a := a4) (b := (300 : Int)) r0 ⟨by decide, by decide⟩)
      refine ⟨fun c => ?_, fun c => ?_⟩
      · have hq := hq.1 (by first | exact ci.mp c | exact absurd trivial c)
        have r0 := hq.1
        have hq := hq.2
        have ci := and_congr (not_congr (z_lt (a := a5) (b := (0 : Int)) r0 ⟨by decide, by decide⟩)) (z_le (a := a5) (b := (99 : Int)) r0 ⟨by decide, by decide⟩)
        refine ⟨fun c => ?_, fun c => ?_⟩
        · have hq := hq.1 (by first | exact ci.mp c | exact absurd trivial c)
          obtain ⟨r7, hr7, hq⟩ := hq
          refine ⟨zI r7, t_X1_rulesOf hr a1 r7 hr7, ?_⟩
          try simp only [z_m1, z_0, z_1, z_2, z_3, z_4, z_5, z_6, z_8, z_9, z_10, z_12, z_16, z_30, z_31, z_99, z_300, z_500, z_600, z_20000, zadd, zsub, zmul, zneg, zap]
          have rx := hq.1
          have hq := hq.2
          refine ⟨fun c => ?_, fun c => ?_⟩
          · have hq := hq.1 ((z_le ⟨by decide, by decide⟩ rx).mp c)
            exact hq
          · have hq := hq.2 (fun h => c ((z_le ⟨by decide, by decide⟩ rx).mpr h))
            exact hq
        · first | exact hq.2 (fun h => c (ci.mpr h)) | exact hq.2 (fun h => h rfl)
      · first | exact hq.2 (fun h => c (ci.mpr h)) | exact hq.2 (fun h => h rfl)
    · first | exact hq.2 (fun h => c (ci.mpr h)) | exact hq.2 (fun h => h rfl))
  have hq := hq (by
    intro t0 hq
    refine k69 (zI t0) ?_
    try simp only [z_m1, z_0, z_1, z_2, z_3, z_4, z_5, z_6, z_8, z_9, z_10, z_12, z_16, z_30, z_31, z_99, z_300, z_500, z_600, z_20000, zadd, zsub, zmul, zneg, zap]
    have r0 := hq.1
    have hq := hq.2
    have ci := not_congr (z_eq (a := t0) (b := 0) r0 ⟨by decide, by decide⟩)
    refine ⟨fun c => ?_, fun c => ?_⟩
    · have hq := hq.1 (by first | exact ci.mp c | exact absurd trivial c)
      obtain ⟨r9, h10, hh10, hq⟩ := hq
      refine ⟨zI r9, zS h10, t_X1_putRule hr a1 a2 a3 a4 a5 r9 h10 hh10, ?_⟩
      try simp only [z_m1, z_0, z_1, z_2, z_3, z_4, z_5, z_6, z_8, z_9, z_10, z_12, z_16, z_30, z_31, z_99, z_300, z_500, z_600, z_20000, zadd, zsub, zmul, zneg, zap]
      exact hq
    · first | exact hq.2 (fun h => c (ci.mpr h)) | exact hq.2 (fun h => h rfl))
  try simp only [z_m1, z_0, z_1, z_2, z_3, z_4, z_5, z_6, z_8, z_9, z_10, z_12, z_16, z_30, z_31, z_99, z_300, z_500, z_600, z_20000, zadd, zsub, zmul, zneg, zap]
  have r0 := hq.1
  have hq := hq.2
  have r1 := hq.1
  have hq := hq.2
  have ci := and_congr (not_congr (z_lt (a := a1) (b := 0) r0 ⟨by decide, by decide⟩)) (z_lt (a := a1) (b := (hs 0 0)) r0 r1)
  refine ⟨fun c => ?_, fun c => ?_⟩
  · have hq := hq.1 (by first | exact ci.mp c | exact absurd trivial c)
    have rx := hq.1
    have hq := hq.2
    refine ⟨fun c => ?_, fun c => ?_⟩
    · have hq := hq.1 ((z_eq rx ⟨by decide, by decide⟩).mp c)
      exact hq
    · have hq := hq.2 (fun h => c ((z_eq rx ⟨by decide, by decide⟩).mpr h))
      obtain ⟨r2, hr2, hq⟩ := hq
      refine ⟨zI r2, t_X1_rulesOf hr a1 r2 hr2, ?_⟩
      try simp only [z_m1, z_0, z_1, z_2, z_3, z_4, z_5, z_6, z_8, z_9, z_10, z_12, z_16, z_30, z_31, z_99, z_300, z_500, z_600, z_20000, zadd, zsub, zmul, zneg, zap]
      have r0 := hq.1
      have hq := hq.2
      have r1 := hq.1
      have hq := hq.2
      have ci := and_congr (not_congr (z_lt (a := a2) (b := 0) r0 ⟨by decide, by decide⟩)) (z_lt (a := a2) (b := r2) r0 r1)
      refine ⟨fun c => ?_, fun c => ?_⟩
      · have hq := hq.1 (by first | exact ci.mp c | exact absurd trivial c)
        exact hq
      · first | exact hq.2 (fun h => c (ci.mpr h)) | exact hq.2 (fun h => h rfl)
  · first | exact hq.2 (fun h => c (ci.mpr h)) | exact hq.2 (fun h => h rfl)
def Q_X4_arrive (hh hs hr : ISt) (a1 : Int) (a2 : Int) (ok : Int → ISt → ISt → ISt → Prop) (ex : String → Prop) : Prop := (inR a1 ∧ (((¬ a1 < (1 : Int) ∧ a1 ≤ (12 : Int)) → (inR a2 ∧ (((¬ a2 < (10 : Int) ∧ a2 ≤ (600 : Int)) → (inR (hh 0 2) ∧ (((30 : Int) ≤ (hh 0 2) → ((((¬ (0 : Int) = 0) → (∃ (r4 : Int) (h5 : ISt), Q_X0_welcome hh a1 a2 r4 h5 ∧ (ok r4 h5 hs hr))) ∧ (¬ (¬ (0 : Int) = 0) → (ex E_s))))) ∧ (¬ (30 : Int) ≤ (hh 0 2) → ((((¬ (1 : Int) = 0) → (∃ (r7 : Int) (h8 : ISt), Q_X0_welcome hh a1 a2 r7 h8 ∧ (ok r7 h8 hs hr))) ∧ (¬ (¬ (1 : Int) = 0) → (ex E_s)))))))) ∧ (¬ (¬ a2 < (10 : Int) ∧ a2 ≤ (600 : Int)) → (ex E_a))))) ∧ (¬ (¬ a1 < (1 : Int) ∧ a1 ≤ (12 : Int)) → (ex E_a))))
set_option maxRecDepth 100000 in
set_option maxHeartbeats 4000000 in
theorem t_X4_arrive (hh hs hr : ISt) (a1 : Int) (a2 : Int) (ok : Int32 → St → St → St → Prop) (ex : String → Prop) (hq : Q_X4_arrive hh hs hr a1 a2 (fun r h' s' r' => ok (zI r) (zS h') (zS s') (zS r')) ex) : P_X4_arrive (zS hh) (zS hs) (zS hr) (zI a1) (zI a2) ok ex := by
  unfold P_X4_arrive
  unfold Q_X4_arrive at hq
  try simp only [z_m1, z_0, z_1, z_2, z_3, z_4, z_5, z_6, z_8, z_9, z_10, z_12, z_16, z_30, z_31, z_99, z_300, z_500, z_600, z_20000, zadd, zsub, zmul, zneg, zap]
  have r0 := hq.1
  have hq := hq.2
  have ci := and_congr (not_congr (z_lt (a := a1) (b := (1 : Int)) r0 ⟨by decide, by decide⟩)) (z_le (a := a1) (b := (12 : Int)) r0 ⟨by decide, by decide⟩)
  refine ⟨fun c => ?_, fun c => ?_⟩
  · have hq := hq.1 (by first | exact ci.mp c | exact absurd trivial c)
    have r0 := hq.1
    have hq := hq.2
    have ci := and_congr (not_congr (z_lt (a := a2) (b := (10 : Int)) r0 ⟨by decide, by decide⟩)) (z_le (a := a2) (b := (600 : Int)) r0 ⟨by decide, by decide⟩)
    refine ⟨fun c => ?_, fun c => ?_⟩
    · have hq := hq.1 (by first | exact ci.mp c | exact absurd trivial c)
      have rx := hq.1
      have hq := hq.2
      refine ⟨fun c => ?_, fun c => ?_⟩
      · have hq := hq.1 ((z_le ⟨by decide, by decide⟩ rx).mp c)
        have ci := not_congr (z_eq (a := (0 : Int)) (b := 0) ⟨by decide, by decide⟩ ⟨by decide, by decide⟩)
        refine ⟨fun c => ?_, fun c => ?_⟩
        · have hq := hq.1 (by first | exact ci.mp c | exact absurd trivial c)
          obtain ⟨r4, h5, hh5, hq⟩ := hq
          refine ⟨zI r4, zS h5, t_X0_welcome hh a1 a2 r4 h5 hh5, ?_⟩
          try simp only [z_m1, z_0, z_1, z_2, z_3, z_4, z_5, z_6, z_8, z_9, z_10, z_12, z_16, z_30, z_31, z_99, z_300, z_500, z_600, z_20000, zadd, zsub, zmul, zneg, zap]
          exact hq
        · first | exact hq.2 (fun h => c (ci.mpr h)) | exact hq.2 (fun h => h rfl)
      · have hq := hq.2 (fun h => c ((z_le ⟨by decide, by decide⟩ rx).mpr h))
        have ci := not_congr (z_eq (a := (1 : Int)) (b := 0) ⟨by decide, by decide⟩ ⟨by decide, by decide⟩)
        refine ⟨fun c => ?_, fun c => ?_⟩
        · have hq := hq.1 (by first | exact ci.mp c | exact absurd trivial c)
          obtain ⟨r7, h8, hh8, hq⟩ := hq
          refine ⟨zI r7, zS h8, t_X0_welcome hh a1 a2 r7 h8 hh8, ?_⟩
          try simp only [z_m1, z_0, z_1, z_2, z_3, z_4, z_5, z_6, z_8, z_9, z_10, z_12, z_16, z_30, z_31, z_99, z_300, z_500, z_600, z_20000, zadd, zsub, zmul, zneg, zap]
          exact hq
        · first | exact hq.2 (fun h => c (ci.mpr h)) | exact hq.2 (fun h => h rfl)
    · first | exact hq.2 (fun h => c (ci.mpr h)) | exact hq.2 (fun h => h rfl)
  · first | exact hq.2 (fun h => c (ci.mpr h)) | exact hq.2 (fun h => h rfl)
def Q_X4_leave (hh hs hr : ISt) (a1 : Int) (ok : Int → ISt → ISt → ISt → Prop) (ex : String → Prop) : Prop := (inR a1 ∧ inR (hh 0 2) ∧ (((¬ a1 < 0 ∧ a1 < (hh 0 2)) → (∃ r2 : Int, Q_X3_heldBy hs a1 r2 ∧ (inR r2 ∧ ((¬ r2 = (-1 : Int) → ((((¬ (0 : Int) = 0) → (∃ (r4 : Int) (h5 : ISt), Q_X0_dismiss hh a1 r4 h5 ∧ (ok r4 h5 hs hr))) ∧ (¬ (¬ (0 : Int) = 0) → (ex E_s))))) ∧ (r2 = (-1 : Int) → (∃ r6 : Int, Q_X0_isGone hh a1 r6 ∧ (inR r6 ∧ ((¬ r6 = (0 : Int) → ((((¬ (0 : Int) = 0) → (∃ (r8 : Int) (h9 : ISt), Q_X0_dismiss hh a1 r8 h9 ∧ (ok r8 h9 hs hr))) ∧ (¬ (¬ (0 : Int) = 0) → (ex E_s))))) ∧ (r6 = (0 : Int) → ((((¬ (1 : Int) = 0) → (∃ (r11 : Int) (h12 : ISt), Q_X0_dismiss hh a1 r11 h12 ∧ (ok r11 h12 hs hr))) ∧ (¬ (¬ (1 : Int) = 0) → (ex E_s))))))))))))) ∧ (¬ (¬ a1 < 0 ∧ a1 < (hh 0 2)) → (ex E_i))))
set_option maxRecDepth 100000 in
set_option maxHeartbeats 4000000 in
theorem t_X4_leave (hh hs hr : ISt) (a1 : Int) (ok : Int32 → St → St → St → Prop) (ex : String → Prop) (hq : Q_X4_leave hh hs hr a1 (fun r h' s' r' => ok (zI r) (zS h') (zS s') (zS r')) ex) : P_X4_leave (zS hh) (zS hs) (zS hr) (zI a1) ok ex := by
  unfold P_X4_leave
  unfold Q_X4_leave at hq
  try simp only [z_m1, z_0, z_1, z_2, z_3, z_4, z_5, z_6, z_8, z_9, z_10, z_12, z_16, z_30, z_31, z_99, z_300, z_500, z_600, z_20000, zadd, zsub, zmul, zneg, zap]
  have r0 := hq.1
  have hq := hq.2
  have r1 := hq.1
  have hq := hq.2
  have ci := and_congr (not_congr (z_lt (a := a1) (b := 0) r0 ⟨by decide, by decide⟩)) (z_lt (a := a1) (b := (hh 0 2)) r0 r1)
  refine ⟨fun c => ?_, fun c => ?_⟩
  · have hq := hq.1 (by first | exact ci.mp c | exact absurd trivial c)
    obtain ⟨r2, hr2, hq⟩ := hq
    refine ⟨zI r2, t_X3_heldBy hs a1 r2 hr2, ?_⟩
    try simp only [z_m1, z_0, z_1, z_2, z_3, z_4, z_5, z_6, z_8, z_9, z_10, z_12, z_16, z_30, z_31, z_99, z_300, z_500, z_600, z_20000, zadd, zsub, zmul, zneg, zap]
    have rx := hq.1
    have hq := hq.2
    refine ⟨fun c => ?_, fun c => ?_⟩
    · have hq := hq.1 (fun h => c ((z_eq rx ⟨by decide, by decide⟩).mpr h))
      have ci := not_congr (z_eq (a := (0 : Int)) (b := 0) ⟨by decide, by decide⟩ ⟨by decide, by decide⟩)
      refine ⟨fun c => ?_, fun c => ?_⟩
      · have hq := hq.1 (by first | exact ci.mp c | exact absurd trivial c)
        obtain ⟨r4, h5, hh5, hq⟩ := hq
        refine ⟨zI r4, zS h5, t_X0_dismiss hh a1 r4 h5 hh5, ?_⟩
        try simp only [z_m1, z_0, z_1, z_2, z_3, z_4, z_5, z_6, z_8, z_9, z_10, z_12, z_16, z_30, z_31, z_99, z_300, z_500, z_600, z_20000, zadd, zsub, zmul, zneg, zap]
        exact hq
      · first | exact hq.2 (fun h => c (ci.mpr h)) | exact hq.2 (fun h => h rfl)
    · have hq := hq.2 ((z_eq rx ⟨by decide, by decide⟩).mp c)
      obtain ⟨r6, hr6, hq⟩ := hq
      refine ⟨zI r6, t_X0_isGone hh a1 r6 hr6, ?_⟩
      try simp only [z_m1, z_0, z_1, z_2, z_3, z_4, z_5, z_6, z_8, z_9, z_10, z_12, z_16, z_30, z_31, z_99, z_300, z_500, z_600, z_20000, zadd, zsub, zmul, zneg, zap]
      have rx := hq.1
      have hq := hq.2
      refine ⟨fun c => ?_, fun c => ?_⟩
      · have hq := hq.1 (fun h => c ((z_eq rx ⟨by decide, by decide⟩).mpr h))
        have ci := not_congr (z_eq (a := (0 : Int)) (b := 0) ⟨by decide, by decide⟩ ⟨by decide, by decide⟩)
        refine ⟨fun c => ?_, fun c => ?_⟩
        · have hq := hq.1 (by first | exact ci.mp c | exact absurd trivial c)
          obtain ⟨r8, h9, hh9, hq⟩ := hq
          refine ⟨zI r8, zS h9, t_X0_dismiss hh a1 r8 h9 hh9, ?_⟩
          try simp only [z_m1, z_0, z_1, z_2, z_3, z_4, z_5, z_6, z_8, z_9, z_10, z_12, z_16, z_30, z_31, z_99, z_300, z_500, z_600, z_20000, zadd, zsub, zmul, zneg, zap]
          exact hq
        · first | exact hq.2 (fun h => c (ci.mpr h)) | exact hq.2 (fun h => h rfl)
      · have hq := hq.2 ((z_eq rx ⟨by decide, by decide⟩).mp c)
        have ci := not_congr (z_eq (a := (1 : Int)) (b := 0) ⟨by decide, by decide⟩ ⟨by decide, by decide⟩)
        refine ⟨fun c => ?_, fun c => ?_⟩
        · have hq := hq.1 (by first | exact ci.mp c | exact absurd trivial c)
          obtain ⟨r11, h12, hh12, hq⟩ := hq
          refine ⟨zI r11, zS h12, t_X0_dismiss hh a1 r11 h12 hh12, ?_⟩
          try simp only [z_m1, z_0, z_1, z_2, z_3, z_4, z_5, z_6, z_8, z_9, z_10, z_12, z_16, z_30, z_31, z_99, z_300, z_500, z_600, z_20000, zadd, zsub, zmul, zneg, zap]
          exact hq
        · first | exact hq.2 (fun h => c (ci.mpr h)) | exact hq.2 (fun h => h rfl)
  · first | exact hq.2 (fun h => c (ci.mpr h)) | exact hq.2 (fun h => h rfl)
def Q_X4_tableOf (hh hs hr : ISt) (a1 : Int) (ok : Int → ISt → ISt → ISt → Prop) (ex : String → Prop) : Prop := (inR a1 ∧ inR (hh 0 2) ∧ (((¬ a1 < 0 ∧ a1 < (hh 0 2)) → (∃ r2 : Int, Q_X0_firstTable hh a1 r2 ∧ (ok r2 hh hs hr))) ∧ (¬ (¬ a1 < 0 ∧ a1 < (hh 0 2)) → (ex E_i))))
set_option maxRecDepth 100000 in
set_option maxHeartbeats 4000000 in
theorem t_X4_tableOf (hh hs hr : ISt) (a1 : Int) (ok : Int32 → St → St → St → Prop) (ex : String → Prop) (hq : Q_X4_tableOf hh hs hr a1 (fun r h' s' r' => ok (zI r) (zS h') (zS s') (zS r')) ex) : P_X4_tableOf (zS hh) (zS hs) (zS hr) (zI a1) ok ex := by
  unfold P_X4_tableOf
  unfold Q_X4_tableOf at hq
  try simp only [z_m1, z_0, z_1, z_2, z_3, z_4, z_5, z_6, z_8, z_9, z_10, z_12, z_16, z_30, z_31, z_99, z_300, z_500, z_600, z_20000, zadd, zsub, zmul, zneg, zap]
  have r0 := hq.1
  have hq := hq.2
  have r1 := hq.1
  have hq := hq.2
  have ci := and_congr (not_congr (z_lt (a := a1) (b := 0) r0 ⟨by decide, by decide⟩)) (z_lt (a := a1) (b := (hh 0 2)) r0 r1)
  refine ⟨fun c => ?_, fun c => ?_⟩
  · have hq := hq.1 (by first | exact ci.mp c | exact absurd trivial c)
    obtain ⟨r2, hr2, hq⟩ := hq
    refine ⟨zI r2, t_X0_firstTable hh a1 r2 hr2, ?_⟩
    try simp only [z_m1, z_0, z_1, z_2, z_3, z_4, z_5, z_6, z_8, z_9, z_10, z_12, z_16, z_30, z_31, z_99, z_300, z_500, z_600, z_20000, zadd, zsub, zmul, zneg, zap]
    exact hq
  · first | exact hq.2 (fun h => c (ci.mpr h)) | exact hq.2 (fun h => h rfl)
def Q_X4_tablesOf (hh hs hr : ISt) (a1 : Int) (ok : Int → ISt → ISt → ISt → Prop) (ex : String → Prop) : Prop := (inR a1 ∧ inR (hh 0 2) ∧ (((¬ a1 < 0 ∧ a1 < (hh 0 2)) → (∃ r2 : Int, Q_X0_countTables hh a1 r2 ∧ (ok r2 hh hs hr))) ∧ (¬ (¬ a1 < 0 ∧ a1 < (hh 0 2)) → (ex E_i))))
set_option maxRecDepth 100000 in
set_option maxHeartbeats 4000000 in
theorem t_X4_tablesOf (hh hs hr : ISt) (a1 : Int) (ok : Int32 → St → St → St → Prop) (ex : String → Prop) (hq : Q_X4_tablesOf hh hs hr a1 (fun r h' s' r' => ok (zI r) (zS h') (zS s') (zS r')) ex) : P_X4_tablesOf (zS hh) (zS hs) (zS hr) (zI a1) ok ex := by
  unfold P_X4_tablesOf
  unfold Q_X4_tablesOf at hq
  try simp only [z_m1, z_0, z_1, z_2, z_3, z_4, z_5, z_6, z_8, z_9, z_10, z_12, z_16, z_30, z_31, z_99, z_300, z_500, z_600, z_20000, zadd, zsub, zmul, zneg, zap]
  have r0 := hq.1
  have hq := hq.2
  have r1 := hq.1
  have hq := hq.2
  have ci := and_congr (not_congr (z_lt (a := a1) (b := 0) r0 ⟨by decide, by decide⟩)) (z_lt (a := a1) (b := (hh 0 2)) r0 r1)
  refine ⟨fun c => ?_, fun c => ?_⟩
  · have hq := hq.1 (by first | exact ci.mp c | exact absurd trivial c)
    obtain ⟨r2, hr2, hq⟩ := hq
    refine ⟨zI r2, t_X0_countTables hh a1 r2 hr2, ?_⟩
    try simp only [z_m1, z_0, z_1, z_2, z_3, z_4, z_5, z_6, z_8, z_9, z_10, z_12, z_16, z_30, z_31, z_99, z_300, z_500, z_600, z_20000, zadd, zsub, zmul, zneg, zap]
    exact hq
  · first | exact hq.2 (fun h => c (ci.mpr h)) | exact hq.2 (fun h => h rfl)
def Q_X4_waiting (hh hs hr : ISt) (r : Int) : Prop := (∃ r1 : Int, Q_X0_countWaiting hh r1 ∧ (r = r1))
set_option maxRecDepth 100000 in
set_option maxHeartbeats 4000000 in
theorem t_X4_waiting (hh hs hr : ISt) (r : Int) (hq : Q_X4_waiting hh hs hr r) : P_X4_waiting (zS hh) (zS hs) (zS hr) (zI r) := by
  unfold P_X4_waiting
  unfold Q_X4_waiting at hq
  try simp only [z_m1, z_0, z_1, z_2, z_3, z_4, z_5, z_6, z_8, z_9, z_10, z_12, z_16, z_30, z_31, z_99, z_300, z_500, z_600, z_20000, zadd, zsub, zmul, zneg, zap]
  obtain ⟨r1, hr1, hq⟩ := hq
  refine ⟨zI r1, t_X0_countWaiting hh r1 hr1, ?_⟩
  try simp only [z_m1, z_0, z_1, z_2, z_3, z_4, z_5, z_6, z_8, z_9, z_10, z_12, z_16, z_30, z_31, z_99, z_300, z_500, z_600, z_20000, zadd, zsub, zmul, zneg, zap]
  exact congrArg zI hq
def Q_X4_waste (hh hs hr : ISt) (a1 : Int) (ok : Int → ISt → ISt → ISt → Prop) (ex : String → Prop) : Prop := (inR a1 ∧ (((¬ a1 < (1 : Int) ∧ a1 ≤ (12 : Int)) → (∃ r2 : Int, Q_X0_leastWaste hh a1 r2 ∧ (ok r2 hh hs hr))) ∧ (¬ (¬ a1 < (1 : Int) ∧ a1 ≤ (12 : Int)) → (ex E_a))))
set_option maxRecDepth 100000 in
set_option maxHeartbeats 4000000 in
theorem t_X4_waste (hh hs hr : ISt) (a1 : Int) (ok : Int32 → St → St → St → Prop) (ex : String → Prop) (hq : Q_X4_waste hh hs hr a1 (fun r h' s' r' => ok (zI r) (zS h') (zS s') (zS r')) ex) : P_X4_waste (zS hh) (zS hs) (zS hr) (zI a1) ok ex := by
  unfold P_X4_waste
  unfold Q_X4_waste at hq
  try simp only [z_m1, z_0, z_1, z_2, z_3, z_4, z_5, z_6, z_8, z_9, z_10, z_12, z_16, z_30, z_31, z_99, z_300, z_500, z_600, z_20000, zadd, zsub, zmul, zneg, zap]
  have r0 := hq.1
  have hq := hq.2
  have ci := and_congr (not_congr (z_lt (a := a1) (b := (1 : Int)) r0 ⟨by decide, by decide⟩)) (z_le (a := a1) (b := (12 : Int)) r0 ⟨by decide, by decide⟩)
  refine ⟨fun c => ?_, fun c => ?_⟩
  · have hq := hq.1 (by first | exact ci.mp c | exact absurd trivial c)
    obtain ⟨r2, hr2, hq⟩ := hq
    refine ⟨zI r2, t_X0_leastWaste hh a1 r2 hr2, ?_⟩
    try simp only [z_m1, z_0, z_1, z_2, z_3, z_4, z_5, z_6, z_8, z_9, z_10, z_12, z_16, z_30, z_31, z_99, z_300, z_500, z_600, z_20000, zadd, zsub, zmul, zneg, zap]
    exact hq
  · first | exact hq.2 (fun h => c (ci.mpr h)) | exact hq.2 (fun h => h rfl)
def Q_X4_wasteByAll (hh hs hr : ISt) (a1 : Int) (ok : Int → ISt → ISt → ISt → Prop) (ex : String → Prop) : Prop := (inR a1 ∧ (((¬ a1 < (1 : Int) ∧ a1 ≤ (12 : Int)) → (∃ r2 : Int, Q_X0_leastWasteOfSets hh a1 r2 ∧ (ok r2 hh hs hr))) ∧ (¬ (¬ a1 < (1 : Int) ∧ a1 ≤ (12 : Int)) → (ex E_a))))
set_option maxRecDepth 100000 in
set_option maxHeartbeats 4000000 in
theorem t_X4_wasteByAll (hh hs hr : ISt) (a1 : Int) (ok : Int32 → St → St → St → Prop) (ex : String → Prop) (hq : Q_X4_wasteByAll hh hs hr a1 (fun r h' s' r' => ok (zI r) (zS h') (zS s') (zS r')) ex) : P_X4_wasteByAll (zS hh) (zS hs) (zS hr) (zI a1) ok ex := by
  unfold P_X4_wasteByAll
  unfold Q_X4_wasteByAll at hq
  try simp only [z_m1, z_0, z_1, z_2, z_3, z_4, z_5, z_6, z_8, z_9, z_10, z_12, z_16, z_30, z_31, z_99, z_300, z_500, z_600, z_20000, zadd, zsub, zmul, zneg, zap]
  have r0 := hq.1
  have hq := hq.2
  have ci := and_congr (not_congr (z_lt (a := a1) (b := (1 : Int)) r0 ⟨by decide, by decide⟩)) (z_le (a := a1) (b := (12 : Int)) r0 ⟨by decide, by decide⟩)
  refine ⟨fun c => ?_, fun c => ?_⟩
  · have hq := hq.1 (by first | exact ci.mp c | exact absurd trivial c)
    obtain ⟨r2, hr2, hq⟩ := hq
    refine ⟨zI r2, t_X0_leastWasteOfSets hh a1 r2 hr2, ?_⟩
    try simp only [z_m1, z_0, z_1, z_2, z_3, z_4, z_5, z_6, z_8, z_9, z_10, z_12, z_16, z_30, z_31, z_99, z_300, z_500, z_600, z_20000, zadd, zsub, zmul, zneg, zap]
    exact hq
  · first | exact hq.2 (fun h => c (ci.mpr h)) | exact hq.2 (fun h => h rfl)
def Q_X4_left (hh hs hr : ISt) (a1 : Int) (ok : Int → ISt → ISt → ISt → Prop) (ex : String → Prop) : Prop := (inR a1 ∧ inR (hh 0 2) ∧ (((¬ a1 < 0 ∧ a1 < (hh 0 2)) → (∃ r2 : Int, Q_X0_isSeated hh a1 r2 ∧ (inR r2 ∧ (((¬ r2 = 0) → (∃ r4 : Int, Q_X0_minutesLeft hh a1 r4 ∧ (ok r4 hh hs hr))) ∧ (¬ (¬ r2 = 0) → (ex E_s)))))) ∧ (¬ (¬ a1 < 0 ∧ a1 < (hh 0 2)) → (ex E_i))))
set_option maxRecDepth 100000 in
set_option maxHeartbeats 4000000 in
theorem t_X4_left (hh hs hr : ISt) (a1 : Int) (ok : Int32 → St → St → St → Prop) (ex : String → Prop) (hq : Q_X4_left hh hs hr a1 (fun r h' s' r' => ok (zI r) (zS h') (zS s') (zS r')) ex) : P_X4_left (zS hh) (zS hs) (zS hr) (zI a1) ok ex := by
  unfold P_X4_left
  unfold Q_X4_left at hq
  try simp only [z_m1, z_0, z_1, z_2, z_3, z_4, z_5, z_6, z_8, z_9, z_10, z_12, z_16, z_30, z_31, z_99, z_300, z_500, z_600, z_20000, zadd, zsub, zmul, zneg, zap]
  have r0 := hq.1
  have hq := hq.2
  have r1 := hq.1
  have hq := hq.2
  have ci := and_congr (not_congr (z_lt (a := a1) (b := 0) r0 ⟨by decide, by decide⟩)) (z_lt (a := a1) (b := (hh 0 2)) r0 r1)
  refine ⟨fun c => ?_, fun c => ?_⟩
  · have hq := hq.1 (by first | exact ci.mp c | exact absurd trivial c)
    obtain ⟨r2, hr2, hq⟩ := hq
    refine ⟨zI r2, t_X0_isSeated hh a1 r2 hr2, ?_⟩
    try simp only [z_m1, z_0, z_1, z_2, z_3, z_4, z_5, z_6, z_8, z_9, z_10, z_12, z_16, z_30, z_31, z_99, z_300, z_500, z_600, z_20000, zadd, zsub, zmul, zneg, zap]
    have r0 := hq.1
    have hq := hq.2
    have ci := not_congr (z_eq (a := r2) (b := 0) r0 ⟨by decide, by decide⟩)
    refine ⟨fun c => ?_, fun c => ?_⟩
    · have hq := hq.1 (by first | exact ci.mp c | exact absurd trivial c)
      obtain ⟨r4, hr4, hq⟩ := hq
      refine ⟨zI r4, t_X0_minutesLeft hh a1 r4 hr4, ?_⟩
      try simp only [z_m1, z_0, z_1, z_2, z_3, z_4, z_5, z_6, z_8, z_9, z_10, z_12, z_16, z_30, z_31, z_99, z_300, z_500, z_600, z_20000, zadd, zsub, zmul, zneg, zap]
      exact hq
    · first | exact hq.2 (fun h => c (ci.mpr h)) | exact hq.2 (fun h => h rfl)
  · first | exact hq.2 (fun h => c (ci.mpr h)) | exact hq.2 (fun h => h rfl)
def Q_X4_isOffered (hh hs hr : ISt) (a1 : Int) (a2 : Int) (r : Int) : Prop := (∃ r1 : Int, Q_X0_isSeated hh a1 r1 ∧ (inR r1 ∧ ((r1 = (0 : Int) → (r = (0 : Int))) ∧ (¬ r1 = (0 : Int) → (∃ r2 : Int, Q_X3_heldBy hs a1 r2 ∧ (inR r2 ∧ ((¬ r2 = (-1 : Int) → (r = (0 : Int))) ∧ (r2 = (-1 : Int) → (inR a1 ∧ (∃ r4 : Int, Q_X0_minutesLeft hh a1 r4 ∧ (∃ r5 : Int, Q_X3_suits hs a2 (iat 30 (hh 3) a1) r4 r5 ∧ (inR r5 ∧ ((r5 = (0 : Int) → (r = (0 : Int))) ∧ (¬ r5 = (0 : Int) → (∃ r6 : Int, Q_X3_bestCopy hs a2 r6 ∧ (inR r6 ∧ ((r6 = (-1 : Int) → (r = (0 : Int))) ∧ (¬ r6 = (-1 : Int) → (r = (1 : Int))))))))))))))))))))
set_option maxRecDepth 100000 in
set_option maxHeartbeats 4000000 in
theorem t_X4_isOffered (hh hs hr : ISt) (a1 : Int) (a2 : Int) (r : Int) (hq : Q_X4_isOffered hh hs hr a1 a2 r) : P_X4_isOffered (zS hh) (zS hs) (zS hr) (zI a1) (zI a2) (zI r) := by
  unfold P_X4_isOffered
  unfold Q_X4_isOffered at hq
  try simp only [z_m1, z_0, z_1, z_2, z_3, z_4, z_5, z_6, z_8, z_9, z_10, z_12, z_16, z_30, z_31, z_99, z_300, z_500, z_600, z_20000, zadd, zsub, zmul, zneg, zap]
  obtain ⟨r1, hr1, hq⟩ := hq
  refine ⟨zI r1, t_X0_isSeated hh a1 r1 hr1, ?_⟩
  try simp only [z_m1, z_0, z_1, z_2, z_3, z_4, z_5, z_6, z_8, z_9, z_10, z_12, z_16, z_30, z_31, z_99, z_300, z_500, z_600, z_20000, zadd, zsub, zmul, zneg, zap]
  have rx := hq.1
  have hq := hq.2
  refine ⟨fun c => ?_, fun c => ?_⟩
  · have hq := hq.1 ((z_eq rx ⟨by decide, by decide⟩).mp c)
    exact congrArg zI hq
  · have hq := hq.2 (fun h => c ((z_eq rx ⟨by decide, by decide⟩).mpr h))
    obtain ⟨r2, hr2, hq⟩ := hq
    refine ⟨zI r2, t_X3_heldBy hs a1 r2 hr2, ?_⟩
    try simp only [z_m1, z_0, z_1, z_2, z_3, z_4, z_5, z_6, z_8, z_9, z_10, z_12, z_16, z_30, z_31, z_99, z_300, z_500, z_600, z_20000, zadd, zsub, zmul, zneg, zap]
    have rx := hq.1
    have hq := hq.2
    refine ⟨fun c => ?_, fun c => ?_⟩
    · have hq := hq.1 (fun h => c ((z_eq rx ⟨by decide, by decide⟩).mpr h))
      exact congrArg zI hq
    · have hq := hq.2 ((z_eq rx ⟨by decide, by decide⟩).mp c)
      try simp only [zat (N := 30) hq.1 (by decide)]
      have hq := hq.2
      try simp only [z_m1, z_0, z_1, z_2, z_3, z_4, z_5, z_6, z_8, z_9, z_10, z_12, z_16, z_30, z_31, z_99, z_300, z_500, z_600, z_20000, zadd, zsub, zmul, zneg, zap]
      obtain ⟨r4, hr4, hq⟩ := hq
      refine ⟨zI r4, t_X0_minutesLeft hh a1 r4 hr4, ?_⟩
      try simp only [z_m1, z_0, z_1, z_2, z_3, z_4, z_5, z_6, z_8, z_9, z_10, z_12, z_16, z_30, z_31, z_99, z_300, z_500, z_600, z_20000, zadd, zsub, zmul, zneg, zap]
      obtain ⟨r5, hr5, hq⟩ := hq
      refine ⟨zI r5, t_X3_suits hs a2 (iat 30 (hh 3) a1) r4 r5 hr5, ?_⟩
      try simp only [z_m1, z_0, z_1, z_2, z_3, z_4, z_5, z_6, z_8, z_9, z_10, z_12, z_16, z_30, z_31, z_99, z_300, z_500, z_600, z_20000, zadd, zsub, zmul, zneg, zap]
      have rx := hq.1
      have hq := hq.2
      refine ⟨fun c => ?_, fun c => ?_⟩
      · have hq := hq.1 ((z_eq rx ⟨by decide, by decide⟩).mp c)
        exact congrArg zI hq
      · have hq := hq.2 (fun h => c ((z_eq rx ⟨by decide, by decide⟩).mpr h))
        obtain ⟨r6, hr6, hq⟩ := hq
        refine ⟨zI r6, t_X3_bestCopy hs a2 r6 hr6, ?_⟩
        try simp only [z_m1, z_0, z_1, z_2, z_3, z_4, z_5, z_6, z_8, z_9, z_10, z_12, z_16, z_30, z_31, z_99, z_300, z_500, z_600, z_20000, zadd, zsub, zmul, zneg, zap]
        have rx := hq.1
        have hq := hq.2
        refine ⟨fun c => ?_, fun c => ?_⟩
        · have hq := hq.1 ((z_eq rx ⟨by decide, by decide⟩).mp c)
          exact congrArg zI hq
        · have hq := hq.2 (fun h => c ((z_eq rx ⟨by decide, by decide⟩).mpr h))
          exact congrArg zI hq
def Q_X4_offeredTitles (hh hs hr : ISt) (a1 : Int) (r : Int) : Prop := ∀ V4 : Int → Int → Prop, (∀ x2 x3 : Int, (inR x3 ∧ inR (hs 0 0) ∧ (((hs 0 0) ≤ x3 → (r = x2)) ∧ (¬ (hs 0 0) ≤ x3 → (∃ r1 : Int, Q_X4_isOffered hh hs hr a1 x3 r1 ∧ (inR r1 ∧ ((r1 = (0 : Int) → (V4 x2 (x3 + (1 : Int)))) ∧ (¬ r1 = (0 : Int) → ((0 ≤ x3 ∧ x3 < 31) ∧ ((0 ≤ x2) ∧ (0 ≤ (ishl1 x3)) ∧ (V4 (iior x2 (ishl1 x3)) (x3 + (1 : Int)))))))))))) → V4 x2 x3) → (V4 (0 : Int) (0 : Int))
set_option maxRecDepth 100000 in
set_option maxHeartbeats 4000000 in
theorem t_X4_offeredTitles (hh hs hr : ISt) (a1 : Int) (r : Int) (hq : Q_X4_offeredTitles hh hs hr a1 r) : P_X4_offeredTitles (zS hh) (zS hs) (zS hr) (zI a1) (zI r) := by
  intro V4 k4
  have hq := hq (fun x2 x3 => V4 (zI x2) (zI x3))
  have hq := hq (by
    intro x2 x3 hq
    refine k4 (zI x2) (zI x3) ?_
    try simp only [z_m1, z_0, z_1, z_2, z_3, z_4, z_5, z_6, z_8, z_9, z_10, z_12, z_16, z_30, z_31, z_99, z_300, z_500, z_600, z_20000, zadd, zsub, zmul, zneg, zap]
    have rx := hq.1
    have hq := hq.2
    have ry := hq.1
    have hq := hq.2
    refine ⟨fun c => ?_, fun c => ?_⟩
    · have hq := hq.1 ((z_le ry rx).mp c)
      exact congrArg zI hq
    · have hq := hq.2 (fun h => c ((z_le ry rx).mpr h))
      obtain ⟨r1, hr1, hq⟩ := hq
      refine ⟨zI r1, t_X4_isOffered hh hs hr a1 x3 r1 hr1, ?_⟩
      try simp only [z_m1, z_0, z_1, z_2, z_3, z_4, z_5, z_6, z_8, z_9, z_10, z_12, z_16, z_30, z_31, z_99, z_300, z_500, z_600, z_20000, zadd, zsub, zmul, zneg, zap]
      have rx := hq.1
      have hq := hq.2
      refine ⟨fun c => ?_, fun c => ?_⟩
      · have hq := hq.1 ((z_eq rx ⟨by decide, by decide⟩).mp c)
        exact hq
      · have hq := hq.2 (fun h => c ((z_eq rx ⟨by decide, by decide⟩).mpr h))
        simp only [zshl hq.1]
        have hq := hq.2
        try simp only [z_m1, z_0, z_1, z_2, z_3, z_4, z_5, z_6, z_8, z_9, z_10, z_12, z_16, z_30, z_31, z_99, z_300, z_500, z_600, z_20000, zadd, zsub, zmul, zneg, zap]
        simp only [zior hq.1 hq.2.1]
        have hq := hq.2.2
        try simp only [z_m1, z_0, z_1, z_2, z_3, z_4, z_5, z_6, z_8, z_9, z_10, z_12, z_16, z_30, z_31, z_99, z_300, z_500, z_600, z_20000, zadd, zsub, zmul, zneg, zap]
        exact hq)
  try simp only [z_m1, z_0, z_1, z_2, z_3, z_4, z_5, z_6, z_8, z_9, z_10, z_12, z_16, z_30, z_31, z_99, z_300, z_500, z_600, z_20000, zadd, zsub, zmul, zneg, zap]
  exact hq
def Q_X4_offers (hh hs hr : ISt) (a1 : Int) (ok : Int → ISt → ISt → ISt → Prop) (ex : String → Prop) : Prop := (inR a1 ∧ inR (hh 0 2) ∧ (((¬ a1 < 0 ∧ a1 < (hh 0 2)) → (∃ r2 : Int, Q_X4_offeredTitles hh hs hr a1 r2 ∧ (∃ r3 : Int, Q_J6_bitCount_0f7a4 r2 r3 ∧ (ok r3 hh hs hr)))) ∧ (¬ (¬ a1 < 0 ∧ a1 < (hh 0 2)) → (ex E_i))))
set_option maxRecDepth 100000 in
set_option maxHeartbeats 4000000 in
theorem t_X4_offers (hh hs hr : ISt) (a1 : Int) (ok : Int32 → St → St → St → Prop) (ex : String → Prop) (hq : Q_X4_offers hh hs hr a1 (fun r h' s' r' => ok (zI r) (zS h') (zS s') (zS r')) ex) : P_X4_offers (zS hh) (zS hs) (zS hr) (zI a1) ok ex := by
  unfold P_X4_offers
  unfold Q_X4_offers at hq
  try simp only [z_m1, z_0, z_1, z_2, z_3, z_4, z_5, z_6, z_8, z_9, z_10, z_12, z_16, z_30, z_31, z_99, z_300, z_500, z_600, z_20000, zadd, zsub, zmul, zneg, zap]
  have r0 := hq.1
  have hq := hq.2
  have r1 := hq.1
  have hq := hq.2
  have ci := and_congr (not_congr (z_lt (a := a1) (b := 0) r0 ⟨by decide, by decide⟩)) (z_lt (a := a1) (b := (hh 0 2)) r0 r1)
  refine ⟨fun c => ?_, fun c => ?_⟩
  · have hq := hq.1 (by first | exact ci.mp c | exact absurd trivial c)
    obtain ⟨r2, hr2, hq⟩ := hq
    refine ⟨zI r2, t_X4_offeredTitles hh hs hr a1 r2 hr2, ?_⟩
    try simp only [z_m1, z_0, z_1, z_2, z_3, z_4, z_5, z_6, z_8, z_9, z_10, z_12, z_16, z_30, z_31, z_99, z_300, z_500, z_600, z_20000, zadd, zsub, zmul, zneg, zap]
    obtain ⟨r3, hr3, hq⟩ := hq
    refine ⟨zI r3, t_J6_bitCount_0f7a4 r2 r3 hr3, ?_⟩
    try simp only [z_m1, z_0, z_1, z_2, z_3, z_4, z_5, z_6, z_8, z_9, z_10, z_12, z_16, z_30, z_31, z_99, z_300, z_500, z_600, z_20000, zadd, zsub, zmul, zneg, zap]
    exact hq
  · first | exact hq.2 (fun h => c (ci.mpr h)) | exact hq.2 (fun h => h rfl)
def Q_X4_offerAt (hh hs hr : ISt) (a1 : Int) (a2 : Int) (ok : Int → ISt → ISt → ISt → Prop) (ex : String → Prop) : Prop := (inR a1 ∧ inR (hh 0 2) ∧ (((¬ a1 < 0 ∧ a1 < (hh 0 2)) → (∃ r2 : Int, Q_X4_offeredTitles hh hs hr a1 r2 ∧ (∃ r3 : Int, Q_J6_bitCount_0f7a4 r2 r3 ∧ (inR a2 ∧ inR r3 ∧ (((¬ a2 < 0 ∧ a2 < r3) → (∃ r5 : Int, Q_X3_titleInPlace hs r2 a2 r5 ∧ (ok r5 hh hs hr))) ∧ (¬ (¬ a2 < 0 ∧ a2 < r3) → (ex E_i))))))) ∧ (¬ (¬ a1 < 0 ∧ a1 < (hh 0 2)) → (ex E_i))))
set_option maxRecDepth 100000 in
set_option maxHeartbeats 4000000 in
theorem t_X4_offerAt (hh hs hr : ISt) (a1 : Int) (a2 : Int) (ok : Int32 → St → St → St → Prop) (ex : String → Prop) (hq : Q_X4_offerAt hh hs hr a1 a2 (fun r h' s' r' => ok (zI r) (zS h') (zS s') (zS r')) ex) : P_X4_offerAt (zS hh) (zS hs) (zS hr) (zI a1) (zI a2) ok ex := by
  unfold P_X4_offerAt
  unfold Q_X4_offerAt at hq
  try simp only [z_m1, z_0, z_1, z_2, z_3, z_4, z_5, z_6, z_8, z_9, z_10, z_12, z_16, z_30, z_31, z_99, z_300, z_500, z_600, z_20000, zadd, zsub, zmul, zneg, zap]
  have r0 := hq.1
  have hq := hq.2
  have r1 := hq.1
  have hq := hq.2
  have ci := and_congr (not_congr (z_lt (a := a1) (b := 0) r0 ⟨by decide, by decide⟩)) (z_lt (a := a1) (b := (hh 0 2)) r0 r1)
  refine ⟨fun c => ?_, fun c => ?_⟩
  · have hq := hq.1 (by first | exact ci.mp c | exact absurd trivial c)
    obtain ⟨r2, hr2, hq⟩ := hq
    refine ⟨zI r2, t_X4_offeredTitles hh hs hr a1 r2 hr2, ?_⟩
    try simp only [z_m1, z_0, z_1, z_2, z_3, z_4, z_5, z_6, z_8, z_9, z_10, z_12, z_16, z_30, z_31, z_99, z_300, z_500, z_600, z_20000, zadd, zsub, zmul, zneg, zap]
    obtain ⟨r3, hr3, hq⟩ := hq
    refine ⟨zI r3, t_J6_bitCount_0f7a4 r2 r3 hr3, ?_⟩
    try simp only [z_m1, z_0, z_1, z_2, z_3, z_4, z_5, z_6, z_8, z_9, z_10, z_12, z_16, z_30, z_31, z_99, z_300, z_500, z_600, z_20000, zadd, zsub, zmul, zneg, zap]
    have r0 := hq.1
    have hq := hq.2
    have r1 := hq.1
    have hq := hq.2
    have ci := and_congr (not_congr (z_lt (a := a2) (b := 0) r0 ⟨by decide, by decide⟩)) (z_lt (a := a2) (b := r3) r0 r1)
    refine ⟨fun c => ?_, fun c => ?_⟩
    · have hq := hq.1 (by first | exact ci.mp c | exact absurd trivial c)
      obtain ⟨r5, hr5, hq⟩ := hq
      refine ⟨zI r5, t_X3_titleInPlace hs r2 a2 r5 hr5, ?_⟩
      try simp only [z_m1, z_0, z_1, z_2, z_3, z_4, z_5, z_6, z_8, z_9, z_10, z_12, z_16, z_30, z_31, z_99, z_300, z_500, z_600, z_20000, zadd, zsub, zmul, zneg, zap]
      exact hq
    · first | exact hq.2 (fun h => c (ci.mpr h)) | exact hq.2 (fun h => h rfl)
  · first | exact hq.2 (fun h => c (ci.mpr h)) | exact hq.2 (fun h => h rfl)
def Q_X4_serve (hh hs hr : ISt) (a1 : Int) (a2 : Int) (ok : Int → ISt → ISt → ISt → Prop) (ex : String → Prop) : Prop := (inR a1 ∧ inR (hh 0 2) ∧ (((¬ a1 < 0 ∧ a1 < (hh 0 2)) → (inR a2 ∧ inR (hs 0 0) ∧ (((¬ a2 < 0 ∧ a2 < (hs 0 0)) → (∃ r3 : Int, Q_X4_isOffered hh hs hr a1 a2 r3 ∧ (inR r3 ∧ (((¬ r3 = 0) → (∃ r5 : Int, Q_X3_bestCopy hs a2 r5 ∧ (∃ h7 : ISt, Q_X3_handOut hs r5 a1 h7 ∧ (ok r5 hh h7 hr)))) ∧ (¬ (¬ r3 = 0) → (ex E_s)))))) ∧ (¬ (¬ a2 < 0 ∧ a2 < (hs 0 0)) → (ex E_i))))) ∧ (¬ (¬ a1 < 0 ∧ a1 < (hh 0 2)) → (ex E_i))))
set_option maxRecDepth 100000 in
set_option maxHeartbeats 4000000 in
theorem t_X4_serve (hh hs hr : ISt) (a1 : Int) (a2 : Int) (ok : Int32 → St → St → St → Prop) (ex : String → Prop) (hq : Q_X4_serve hh hs hr a1 a2 (fun r h' s' r' => ok (zI r) (zS h') (zS s') (zS r')) ex) : P_X4_serve (zS hh) (zS hs) (zS hr) (zI a1) (zI a2) ok ex := by
  unfold P_X4_serve
  unfold Q_X4_serve at hq
  try simp only [z_m1, z_0, z_1, z_2, z_3, z_4, z_5, z_6, z_8, z_9, z_10, z_12, z_16, z_30, z_31, z_99, z_300, z_500, z_600, z_20000, zadd, zsub, zmul, zneg, zap]
  have r0 := hq.1
  have hq := hq.2
  have r1 := hq.1
  have hq := hq.2
  have ci := and_congr (not_congr (z_lt (a := a1) (b := 0) r0 ⟨by decide, by decide⟩)) (z_lt (a := a1) (b := (hh 0 2)) r0 r1)
  refine ⟨fun c => ?_, fun c => ?_⟩
  · have hq := hq.1 (by first | exact ci.mp c | exact absurd trivial c)
    have r0 := hq.1
    have hq := hq.2
    have r1 := hq.1
    have hq := hq.2
    have ci := and_congr (not_congr (z_lt (a := a2) (b := 0) r0 ⟨by decide, by decide⟩)) (z_lt (a := a2) (b := (hs 0 0)) r0 r1)
    refine ⟨fun c => ?_, fun c => ?_⟩
    · have hq := hq.1 (by first | exact ci.mp c | exact absurd trivial c)
      obtain ⟨r3, hr3, hq⟩ := hq
      refine ⟨zI r3, t_X4_isOffered hh hs hr a1 a2 r3 hr3, ?_⟩
      try simp only [z_m1, z_0, z_1, z_2, z_3, z_4, z_5, z_6, z_8, z_9, z_10, z_12, z_16, z_30, z_31, z_99, z_300, z_500, z_600, z_20000, zadd, zsub, zmul, zneg, zap]
      have r0 := hq.1
      have hq := hq.2
      have ci := not_congr (z_eq (a := r3) (b := 0) r0 ⟨by decide, by decide⟩)
      refine ⟨fun c => ?_, fun c => ?_⟩
      · have hq := hq.1 (by first | exact ci.mp c | exact absurd trivial c)
        obtain ⟨r5, hr5, hq⟩ := hq
        refine ⟨zI r5, t_X3_bestCopy hs a2 r5 hr5, ?_⟩
        try simp only [z_m1, z_0, z_1, z_2, z_3, z_4, z_5, z_6, z_8, z_9, z_10, z_12, z_16, z_30, z_31, z_99, z_300, z_500, z_600, z_20000, zadd, zsub, zmul, zneg, zap]
        obtain ⟨h7, hh7, hq⟩ := hq
        refine ⟨zS h7, t_X3_handOut hs r5 a1 h7 hh7, ?_⟩
        try simp only [z_m1, z_0, z_1, z_2, z_3, z_4, z_5, z_6, z_8, z_9, z_10, z_12, z_16, z_30, z_31, z_99, z_300, z_500, z_600, z_20000, zadd, zsub, zmul, zneg, zap]
        exact hq
      · first | exact hq.2 (fun h => c (ci.mpr h)) | exact hq.2 (fun h => h rfl)
    · first | exact hq.2 (fun h => c (ci.mpr h)) | exact hq.2 (fun h => h rfl)
  · first | exact hq.2 (fun h => c (ci.mpr h)) | exact hq.2 (fun h => h rfl)
def Q_X4_giveBack (hh hs hr : ISt) (a1 : Int) (a2 : Int) (a3 : Int) (ok : Int → ISt → ISt → ISt → Prop) (ex : String → Prop) : Prop := ∀ V57 : Int → Prop, ∀ V58 : Int → Int → Prop, (∀ x4 : Int, (V58 x4 (0 : Int)) → V57 x4) → (∀ x4 t0 : Int, (inR t0 ∧ (((¬ t0 = 0) → (∃ (r7 : Int) (h8 : ISt), Q_X3_takeBack hs x4 a2 a3 r7 h8 ∧ (ok r7 hh h8 hr))) ∧ (¬ (¬ t0 = 0) → (ex E_s)))) → V58 x4 t0) → (inR a1 ∧ inR (hh 0 2) ∧ (((¬ a1 < 0 ∧ a1 < (hh 0 2)) → (inR a2 ∧ (((¬ a2 < 0 ∧ a2 < (4 : Int)) → (inR a3 ∧ (((¬ a3 < (0 : Int) ∧ a3 ≤ (9 : Int)) → (∃ r4 : Int, Q_X3_heldBy hs a1 r4 ∧ (inR r4 ∧ ((r4 = (-1 : Int) → (V57 r4)) ∧ (¬ r4 = (-1 : Int) → (∃ r5 : Int, Q_X3_count hs r4 a2 r5 ∧ (inR r5 ∧ inR a3 ∧ ((r5 < a3 → (V57 r4)) ∧ (¬ r5 < a3 → (V58 r4 (1 : Int))))))))))) ∧ (¬ (¬ a3 < (0 : Int) ∧ a3 ≤ (9 : Int)) → (ex E_a))))) ∧ (¬ (¬ a2 < 0 ∧ a2 < (4 : Int)) → (ex E_i))))) ∧ (¬ (¬ a1 < 0 ∧ a1 < (hh 0 2)) → (ex E_i))))
set_option maxRecDepth 100000 in
set_option maxHeartbeats 4000000 in
theorem t_X4_giveBack (hh hs hr : ISt) (a1 : Int) (a2 : Int) (a3 : Int) (ok : Int32 → St → St → St → Prop) (ex : String → Prop) (hq : Q_X4_giveBack hh hs hr a1 a2 a3 (fun r h' s' r' => ok (zI r) (zS h') (zS s') (zS r')) ex) : P_X4_giveBack (zS hh) (zS hs) (zS hr) (zI a1) (zI a2) (zI a3) ok ex := by
  intro V57 V58 k57 k58
  have hq := hq (fun x4 => V57 (zI x4)) (fun x4 t0 => V58 (zI x4) (zI t0))
  have hq := hq (by
    intro x4 hq
    refine k57 (zI x4) ?_
    try simp only [z_m1, z_0, z_1, z_2, z_3, z_4, z_5, z_6, z_8, z_9, z_10, z_12, z_16, z_30, z_31, z_99, z_300, z_500, z_600, z_20000, zadd, zsub, zmul, zneg, zap]
    exact hq)
  have hq := hq (by
    intro x4 t0 hq
    refine k58 (zI x4) (zI t0) ?_
    try simp only [z_m1, z_0, z_1, z_2, z_3, z_4, z_5, z_6, z_8, z_9, z_10, z_12, z_16, z_30, z_31, z_99, z_300, z_500, z_600, z_20000, zadd, zsub, zmul, zneg, zap]
    have r0 := hq.1
    have hq := hq.2
    have ci := not_congr (z_eq (a := t0) (b := 0) r0 ⟨by decide, by decide⟩)
    refine ⟨fun c => ?_, fun c => ?_⟩
    · have hq := hq.1 (by first | exact ci.mp c | exact absurd trivial c)
      obtain ⟨r7, h8, hh8, hq⟩ := hq
      refine ⟨zI r7, zS h8, t_X3_takeBack hs x4 a2 a3 r7 h8 hh8, ?_⟩
      try simp only [z_m1, z_0, z_1, z_2, z_3, z_4, z_5, z_6, z_8, z_9, z_10, z_12, z_16, z_30, z_31, z_99, z_300, z_500, z_600, z_20000, zadd, zsub, zmul, zneg, zap]
      exact hq
    · first | exact hq.2 (fun h => c (ci.mpr h)) | exact hq.2 (fun h => h rfl))
  try simp only [z_m1, z_0, z_1, z_2, z_3, z_4, z_5, z_6, z_8, z_9, z_10, z_12, z_16, z_30, z_31, z_99, z_300, z_500, z_600, z_20000, zadd, zsub, zmul, zneg, zap]
  have r0 := hq.1
  have hq := hq.2
  have r1 := hq.1
  have hq := hq.2
  have ci := and_congr (not_congr (z_lt (a := a1) (b := 0) r0 ⟨by decide, by decide⟩)) (z_lt (a := a1) (b := (hh 0 2)) r0 r1)
  refine ⟨fun c => ?_, fun c => ?_⟩
  · have hq := hq.1 (by first | exact ci.mp c | exact absurd trivial c)
    have r0 := hq.1
    have hq := hq.2
    have ci := and_congr (not_congr (z_lt (a := a2) (b := 0) r0 ⟨by decide, by decide⟩)) (z_lt (a := a2) (b := (4 : Int)) r0 ⟨by decide, by decide⟩)
    refine ⟨fun c => ?_, fun c => ?_⟩
    · have hq := hq.1 (by first | exact ci.mp c | exact absurd trivial c)
      have r0 := hq.1
      have hq := hq.2
      have ci := and_congr (not_congr (z_lt (a := a3) (b := (0 : Int)) r0 ⟨by decide, by decide⟩)) (z_le (a := a3) (b := (9 : Int)) r0 ⟨by decide, by decide⟩)
      refine ⟨fun c => ?_, fun c => ?_⟩
      · have hq := hq.1 (by first | exact ci.mp c | exact absurd trivial c)
        obtain ⟨r4, hr4, hq⟩ := hq
        refine ⟨zI r4, t_X3_heldBy hs a1 r4 hr4, ?_⟩
        try simp only [z_m1, z_0, z_1, z_2, z_3, z_4, z_5, z_6, z_8, z_9, z_10, z_12, z_16, z_30, z_31, z_99, z_300, z_500, z_600, z_20000, zadd, zsub, zmul, zneg, zap]
        have rx := hq.1
        have hq := hq.2
        refine ⟨fun c => ?_, fun c => ?_⟩
        · have hq := hq.1 ((z_eq rx ⟨by decide, by decide⟩).mp c)
          exact hq
        · have hq := hq.2 (fun h => c ((z_eq rx ⟨by decide, by decide⟩).mpr h))
          obtain ⟨r5, hr5, hq⟩ := hq
          refine ⟨zI r5, t_X3_count hs r4 a2 r5 hr5, ?_⟩
          try simp only [z_m1, z_0, z_1, z_2, z_3, z_4, z_5, z_6, z_8, z_9, z_10, z_12, z_16, z_30, z_31, z_99, z_300, z_500, z_600, z_20000, zadd, zsub, zmul, zneg, zap]
          have rx := hq.1
          have hq := hq.2
          have ry := hq.1
          have hq := hq.2
          refine ⟨fun c => ?_, fun c => ?_⟩
          · have hq := hq.1 ((z_lt rx ry).mp c)
            exact hq
          · have hq := hq.2 (fun h => c ((z_lt rx ry).mpr h))
            exact hq
      · first | exact hq.2 (fun h => c (ci.mpr h)) | exact hq.2 (fun h => h rfl)
    · first | exact hq.2 (fun h => c (ci.mpr h)) | exact hq.2 (fun h => h rfl)
  · first | exact hq.2 (fun h => c (ci.mpr h)) | exact hq.2 (fun h => h rfl)
def Q_X4_found (hh hs hr : ISt) (a1 : Int) (a2 : Int) (a3 : Int) (ok : Int → ISt → ISt → ISt → Prop) (ex : String → Prop) : Prop := ∀ V51 : Prop, ∀ V52 : Int → Prop, ((V52 (0 : Int)) → V51) → (∀ t0 : Int, (inR t0 ∧ (((¬ t0 = 0) → (∃ h8 : ISt, Q_X3_change hs a1 a2 a3 h8 ∧ (∃ r9 : Int, Q_X3_count h8 a1 a2 r9 ∧ (ok r9 hh h8 hr)))) ∧ (¬ (¬ t0 = 0) → (ex E_s)))) → V52 t0) → (inR a1 ∧ inR (hs 0 1) ∧ (((¬ a1 < 0 ∧ a1 < (hs 0 1)) → (inR a2 ∧ (((¬ a2 < 0 ∧ a2 < (4 : Int)) → (inR a3 ∧ (((¬ a3 < (1 : Int) ∧ a3 ≤ (9 : Int)) → (∃ r4 : Int, Q_X3_place hs a1 r4 ∧ (inR r4 ∧ ((¬ r4 = (0 : Int) → (V51)) ∧ (r4 = (0 : Int) → (∃ r5 : Int, Q_X3_lack hs a1 a2 r5 ∧ (inR r5 ∧ inR a3 ∧ ((r5 < a3 → (V51)) ∧ (¬ r5 < a3 → (V52 (1 : Int))))))))))) ∧ (¬ (¬ a3 < (1 : Int) ∧ a3 ≤ (9 : Int)) → (ex E_a))))) ∧ (¬ (¬ a2 < 0 ∧ a2 < (4 : Int)) → (ex E_i))))) ∧ (¬ (¬ a1 < 0 ∧ a1 < (hs 0 1)) → (ex E_i))))
set_option maxRecDepth 100000 in
set_option maxHeartbeats 4000000 in
theorem t_X4_found (hh hs hr : ISt) (a1 : Int) (a2 : Int) (a3 : Int) (ok : Int32 → St → St → St → Prop) (ex : String → Prop) (hq : Q_X4_found hh hs hr a1 a2 a3 (fun r h' s' r' => ok (zI r) (zS h') (zS s') (zS r')) ex) : P_X4_found (zS hh) (zS hs) (zS hr) (zI a1) (zI a2) (zI a3) ok ex := by
  intro V51 V52 k51 k52
  have hq := hq V51 (fun t0 => V52 (zI t0))
  have hq := hq (by
    intro hq
    refine k51 ?_
    try simp only [z_m1, z_0, z_1, z_2, z_3, z_4, z_5, z_6, z_8, z_9, z_10, z_12, z_16, z_30, z_31, z_99, z_300, z_500, z_600, z_20000, zadd, zsub, zmul, zneg, zap]
    exact hq)
  have hq := hq (by
    intro t0 hq
    refine k52 (zI t0) ?_
    try simp only [z_m1, z_0, z_1, z_2, z_3, z_4, z_5, z_6, z_8, z_9, z_10, z_12, z_16, z_30, z_31, z_99, z_300, z_500, z_600, z_20000, zadd, zsub, zmul, zneg, zap]
    have r0 := hq.1
    have hq := hq.2
    have ci := not_congr (z_eq (a := t0) (b := 0) r0 ⟨by decide, by decide⟩)
    refine ⟨fun c => ?_, fun c => ?_⟩
    · have hq := hq.1 (by first | exact ci.mp c | exact absurd trivial c)
      obtain ⟨h8, hh8, hq⟩ := hq
      refine ⟨zS h8, t_X3_change hs a1 a2 a3 h8 hh8, ?_⟩
      try simp only [z_m1, z_0, z_1, z_2, z_3, z_4, z_5, z_6, z_8, z_9, z_10, z_12, z_16, z_30, z_31, z_99, z_300, z_500, z_600, z_20000, zadd, zsub, zmul, zneg, zap]
      obtain ⟨r9, hr9, hq⟩ := hq
      refine ⟨zI r9, t_X3_count h8 a1 a2 r9 hr9, ?_⟩
      try simp only [z_m1, z_0, z_1, z_2, z_3, z_4, z_5, z_6, z_8, z_9, z_10, z_12, z_16, z_30, z_31, z_99, z_300, z_500, z_600, z_20000, zadd, zsub, zmul, zneg, zap]
      exact hq
    · first | exact hq.2 (fun h => c (ci.mpr h)) | exact hq.2 (fun h => h rfl))
  try simp only [z_m1, z_0, z_1, z_2, z_3, z_4, z_5, z_6, z_8, z_9, z_10, z_12, z_16, z_30, z_31, z_99, z_300, z_500, z_600, z_20000, zadd, zsub, zmul, zneg, zap]
  have r0 := hq.1
  have hq := hq.2
  have r1 := hq.1
  have hq := hq.2
  have ci := and_congr (not_congr (z_lt (a := a1) (b := 0) r0 ⟨by decide, by decide⟩)) (z_lt (a := a1) (b := (hs 0 1)) r0 r1)
  refine ⟨fun c => ?_, fun c => ?_⟩
  · have hq := hq.1 (by first | exact ci.mp c | exact absurd trivial c)
    have r0 := hq.1
    have hq := hq.2
    have ci := and_congr (not_congr (z_lt (a := a2) (b := 0) r0 ⟨by decide, by decide⟩)) (z_lt (a := a2) (b := (4 : Int)) r0 ⟨by decide, by decide⟩)
    refine ⟨fun c => ?_, fun c => ?_⟩
    · have hq := hq.1 (by first | exact ci.mp c | exact absurd trivial c)
      have r0 := hq.1
      have hq := hq.2
      have ci := and_congr (not_congr (z_lt (a := a3) (b := (1 : Int)) r0 ⟨by decide, by decide⟩)) (z_le (a := a3) (b := (9 : Int)) r0 ⟨by decide, by decide⟩)
      refine ⟨fun c => ?_, fun c => ?_⟩
      · have hq := hq.1 (by first | exact ci.mp c | exact absurd trivial c)
        obtain ⟨r4, hr4, hq⟩ := hq
        refine ⟨zI r4, t_X3_place hs a1 r4 hr4, ?_⟩
        try simp only [z_m1, z_0, z_1, z_2, z_3, z_4, z_5, z_6, z_8, z_9, z_10, z_12, z_16, z_30, z_31, z_99, z_300, z_500, z_600, z_20000, zadd, zsub, zmul, zneg, zap]
        have rx := hq.1
        have hq := hq.2
        refine ⟨fun c => ?_, fun c => ?_⟩
        · have hq := hq.1 (fun h => c ((z_eq rx ⟨by decide, by decide⟩).mpr h))
          exact hq
        · have hq := hq.2 ((z_eq rx ⟨by decide, by decide⟩).mp c)
          obtain ⟨r5, hr5, hq⟩ := hq
          refine ⟨zI r5, t_X3_lack hs a1 a2 r5 hr5, ?_⟩
          try simp only [z_m1, z_0, z_1, z_2, z_3, z_4, z_5, z_6, z_8, z_9, z_10, z_12, z_16, z_30, z_31, z_99, z_300, z_500, z_600, z_20000, zadd, zsub, zmul, zneg, zap]
          have rx := hq.1
          have hq := hq.2
          have ry := hq.1
          have hq := hq.2
          refine ⟨fun c => ?_, fun c => ?_⟩
          · have hq := hq.1 ((z_lt rx ry).mp c)
            exact hq
          · have hq := hq.2 (fun h => c ((z_lt rx ry).mpr h))
            exact hq
      · first | exact hq.2 (fun h => c (ci.mpr h)) | exact hq.2 (fun h => h rfl)
    · first | exact hq.2 (fun h => c (ci.mpr h)) | exact hq.2 (fun h => h rfl)
  · first | exact hq.2 (fun h => c (ci.mpr h)) | exact hq.2 (fun h => h rfl)
def Q_X4_pieces (hh hs hr : ISt) (a1 : Int) (a2 : Int) (ok : Int → ISt → ISt → ISt → Prop) (ex : String → Prop) : Prop := (inR a1 ∧ inR (hs 0 1) ∧ (((¬ a1 < 0 ∧ a1 < (hs 0 1)) → (inR a2 ∧ (((¬ a2 < 0 ∧ a2 < (4 : Int)) → (∃ r3 : Int, Q_X3_count hs a1 a2 r3 ∧ (ok r3 hh hs hr))) ∧ (¬ (¬ a2 < 0 ∧ a2 < (4 : Int)) → (ex E_i))))) ∧ (¬ (¬ a1 < 0 ∧ a1 < (hs 0 1)) → (ex E_i))))
set_option maxRecDepth 100000 in
set_option maxHeartbeats 4000000 in
theorem t_X4_pieces (hh hs hr : ISt) (a1 : Int) (a2 : Int) (ok : Int32 → St → St → St → Prop) (ex : String → Prop) (hq : Q_X4_pieces hh hs hr a1 a2 (fun r h' s' r' => ok (zI r) (zS h') (zS s') (zS r')) ex) : P_X4_pieces (zS hh) (zS hs) (zS hr) (zI a1) (zI a2) ok ex := by
  unfold P_X4_pieces
  unfold Q_X4_pieces at hq
  try simp only [z_m1, z_0, z_1, z_2, z_3, z_4, z_5, z_6, z_8, z_9, z_10, z_12, z_16, z_30, z_31, z_99, z_300, z_500, z_600, z_20000, zadd, zsub, zmul, zneg, zap]
  have r0 := hq.1
  have hq := hq.2
  have r1 := hq.1
  have hq := hq.2
  have ci := and_congr (not_congr (z_lt (a := a1) (b := 0) r0 ⟨by decide, by decide⟩)) (z_lt (a := a1) (b := (hs 0 1)) r0 r1)
  refine ⟨fun c => ?_, fun c => ?_⟩
  · have hq := hq.1 (by first | exact ci.mp c | exact absurd trivial c)
    have r0 := hq.1
    have hq := hq.2
    have ci := and_congr (not_congr (z_lt (a := a2) (b := 0) r0 ⟨by decide, by decide⟩)) (z_lt (a := a2) (b := (4 : Int)) r0 ⟨by decide, by decide⟩)
    refine ⟨fun c => ?_, fun c => ?_⟩
    · have hq := hq.1 (by first | exact ci.mp c | exact absurd trivial c)
      obtain ⟨r3, hr3, hq⟩ := hq
      refine ⟨zI r3, t_X3_count hs a1 a2 r3 hr3, ?_⟩
      try simp only [z_m1, z_0, z_1, z_2, z_3, z_4, z_5, z_6, z_8, z_9, z_10, z_12, z_16, z_30, z_31, z_99, z_300, z_500, z_600, z_20000, zadd, zsub, zmul, zneg, zap]
      exact hq
    · first | exact hq.2 (fun h => c (ci.mpr h)) | exact hq.2 (fun h => h rfl)
  · first | exact hq.2 (fun h => c (ci.mpr h)) | exact hq.2 (fun h => h rfl)
def Q_X4_stateOf (hh hs hr : ISt) (a1 : Int) (ok : Int → ISt → ISt → ISt → Prop) (ex : String → Prop) : Prop := (inR a1 ∧ inR (hs 0 1) ∧ (((¬ a1 < 0 ∧ a1 < (hs 0 1)) → (∃ r2 : Int, Q_X3_place hs a1 r2 ∧ (ok r2 hh hs hr))) ∧ (¬ (¬ a1 < 0 ∧ a1 < (hs 0 1)) → (ex E_i))))
set_option maxRecDepth 100000 in
set_option maxHeartbeats 4000000 in
theorem t_X4_stateOf (hh hs hr : ISt) (a1 : Int) (ok : Int32 → St → St → St → Prop) (ex : String → Prop) (hq : Q_X4_stateOf hh hs hr a1 (fun r h' s' r' => ok (zI r) (zS h') (zS s') (zS r')) ex) : P_X4_stateOf (zS hh) (zS hs) (zS hr) (zI a1) ok ex := by
  unfold P_X4_stateOf
  unfold Q_X4_stateOf at hq
  try simp only [z_m1, z_0, z_1, z_2, z_3, z_4, z_5, z_6, z_8, z_9, z_10, z_12, z_16, z_30, z_31, z_99, z_300, z_500, z_600, z_20000, zadd, zsub, zmul, zneg, zap]
  have r0 := hq.1
  have hq := hq.2
  have r1 := hq.1
  have hq := hq.2
  have ci := and_congr (not_congr (z_lt (a := a1) (b := 0) r0 ⟨by decide, by decide⟩)) (z_lt (a := a1) (b := (hs 0 1)) r0 r1)
  refine ⟨fun c => ?_, fun c => ?_⟩
  · have hq := hq.1 (by first | exact ci.mp c | exact absurd trivial c)
    obtain ⟨r2, hr2, hq⟩ := hq
    refine ⟨zI r2, t_X3_place hs a1 r2 hr2, ?_⟩
    try simp only [z_m1, z_0, z_1, z_2, z_3, z_4, z_5, z_6, z_8, z_9, z_10, z_12, z_16, z_30, z_31, z_99, z_300, z_500, z_600, z_20000, zadd, zsub, zmul, zneg, zap]
    exact hq
  · first | exact hq.2 (fun h => c (ci.mpr h)) | exact hq.2 (fun h => h rfl)
def Q_X4_lenders (hh hs hr : ISt) (a1 : Int) (ok : Int → ISt → ISt → ISt → Prop) (ex : String → Prop) : Prop := (inR a1 ∧ inR (hs 0 1) ∧ (((¬ a1 < 0 ∧ a1 < (hs 0 1)) → (∃ r2 : Int, Q_X3_countLenders hs a1 r2 ∧ (ok r2 hh hs hr))) ∧ (¬ (¬ a1 < 0 ∧ a1 < (hs 0 1)) → (ex E_i))))
set_option maxRecDepth 100000 in
set_option maxHeartbeats 4000000 in
theorem t_X4_lenders (hh hs hr : ISt) (a1 : Int) (ok : Int32 → St → St → St → Prop) (ex : String → Prop) (hq : Q_X4_lenders hh hs hr a1 (fun r h' s' r' => ok (zI r) (zS h') (zS s') (zS r')) ex) : P_X4_lenders (zS hh) (zS hs) (zS hr) (zI a1) ok ex := by
  unfold P_X4_lenders
  unfold Q_X4_lenders at hq
  try simp only [z_m1, z_0, z_1, z_2, z_3, z_4, z_5, z_6, z_8, z_9, z_10, z_12, z_16, z_30, z_31, z_99, z_300, z_500, z_600, z_20000, zadd, zsub, zmul, zneg, zap]
  have r0 := hq.1
  have hq := hq.2
  have r1 := hq.1
  have hq := hq.2
  have ci := and_congr (not_congr (z_lt (a := a1) (b := 0) r0 ⟨by decide, by decide⟩)) (z_lt (a := a1) (b := (hs 0 1)) r0 r1)
  refine ⟨fun c => ?_, fun c => ?_⟩
  · have hq := hq.1 (by first | exact ci.mp c | exact absurd trivial c)
    obtain ⟨r2, hr2, hq⟩ := hq
    refine ⟨zI r2, t_X3_countLenders hs a1 r2 hr2, ?_⟩
    try simp only [z_m1, z_0, z_1, z_2, z_3, z_4, z_5, z_6, z_8, z_9, z_10, z_12, z_16, z_30, z_31, z_99, z_300, z_500, z_600, z_20000, zadd, zsub, zmul, zneg, zap]
    exact hq
  · first | exact hq.2 (fun h => c (ci.mpr h)) | exact hq.2 (fun h => h rfl)
def Q_X4_copyOf (hh hs hr : ISt) (a1 : Int) (ok : Int → ISt → ISt → ISt → Prop) (ex : String → Prop) : Prop := (inR a1 ∧ inR (hh 0 2) ∧ (((¬ a1 < 0 ∧ a1 < (hh 0 2)) → (∃ r2 : Int, Q_X3_heldBy hs a1 r2 ∧ (ok r2 hh hs hr))) ∧ (¬ (¬ a1 < 0 ∧ a1 < (hh 0 2)) → (ex E_i))))
set_option maxRecDepth 100000 in
set_option maxHeartbeats 4000000 in
theorem t_X4_copyOf (hh hs hr : ISt) (a1 : Int) (ok : Int32 → St → St → St → Prop) (ex : String → Prop) (hq : Q_X4_copyOf hh hs hr a1 (fun r h' s' r' => ok (zI r) (zS h') (zS s') (zS r')) ex) : P_X4_copyOf (zS hh) (zS hs) (zS hr) (zI a1) ok ex := by
  unfold P_X4_copyOf
  unfold Q_X4_copyOf at hq
  try simp only [z_m1, z_0, z_1, z_2, z_3, z_4, z_5, z_6, z_8, z_9, z_10, z_12, z_16, z_30, z_31, z_99, z_300, z_500, z_600, z_20000, zadd, zsub, zmul, zneg, zap]
  have r0 := hq.1
  have hq := hq.2
  have r1 := hq.1
  have hq := hq.2
  have ci := and_congr (not_congr (z_lt (a := a1) (b := 0) r0 ⟨by decide, by decide⟩)) (z_lt (a := a1) (b := (hh 0 2)) r0 r1)
  refine ⟨fun c => ?_, fun c => ?_⟩
  · have hq := hq.1 (by first | exact ci.mp c | exact absurd trivial c)
    obtain ⟨r2, hr2, hq⟩ := hq
    refine ⟨zI r2, t_X3_heldBy hs a1 r2 hr2, ?_⟩
    try simp only [z_m1, z_0, z_1, z_2, z_3, z_4, z_5, z_6, z_8, z_9, z_10, z_12, z_16, z_30, z_31, z_99, z_300, z_500, z_600, z_20000, zadd, zsub, zmul, zneg, zap]
    exact hq
  · first | exact hq.2 (fun h => c (ci.mpr h)) | exact hq.2 (fun h => h rfl)
def Q_X4_playedBy (hh hs hr : ISt) (a1 : Int) (r : Int) : Prop := (∃ r1 : Int, Q_X3_heldBy hs a1 r1 ∧ (inR r1 ∧ (r = (iat 16 (hs 5) r1))))
set_option maxRecDepth 100000 in
set_option maxHeartbeats 4000000 in
theorem t_X4_playedBy (hh hs hr : ISt) (a1 : Int) (r : Int) (hq : Q_X4_playedBy hh hs hr a1 r) : P_X4_playedBy (zS hh) (zS hs) (zS hr) (zI a1) (zI r) := by
  unfold P_X4_playedBy
  unfold Q_X4_playedBy at hq
  try simp only [z_m1, z_0, z_1, z_2, z_3, z_4, z_5, z_6, z_8, z_9, z_10, z_12, z_16, z_30, z_31, z_99, z_300, z_500, z_600, z_20000, zadd, zsub, zmul, zneg, zap]
  obtain ⟨r1, hr1, hq⟩ := hq
  refine ⟨zI r1, t_X3_heldBy hs a1 r1 hr1, ?_⟩
  try simp only [z_m1, z_0, z_1, z_2, z_3, z_4, z_5, z_6, z_8, z_9, z_10, z_12, z_16, z_30, z_31, z_99, z_300, z_500, z_600, z_20000, zadd, zsub, zmul, zneg, zap]
  try simp only [zat (N := 16) hq.1 (by decide)]
  have hq := hq.2
  try simp only [z_m1, z_0, z_1, z_2, z_3, z_4, z_5, z_6, z_8, z_9, z_10, z_12, z_16, z_30, z_31, z_99, z_300, z_500, z_600, z_20000, zadd, zsub, zmul, zneg, zap]
  exact congrArg zI hq
def Q_X4_holdingFor (hh hs hr : ISt) (a1 : Int) (r : Int) : Prop := (∃ r1 : Int, Q_X3_heldBy hs a1 r1 ∧ (∃ r2 : Int, Q_X3_piecesLentTo hs r1 r2 ∧ (∃ r3 : Int, Q_X4_playedBy hh hs hr a1 r3 ∧ (inR a1 ∧ (∃ r5 : Int, Q_X0_minutesLeft hh a1 r5 ∧ (∃ r6 : Int, Q_X1_holding hr r3 (iat 30 (hh 3) a1) r5 r2 r6 ∧ (r = r6)))))))
set_option maxRecDepth 100000 in
set_option maxHeartbeats 4000000 in
theorem t_X4_holdingFor (hh hs hr : ISt) (a1 : Int) (r : Int) (hq : Q_X4_holdingFor hh hs hr a1 r) : P_X4_holdingFor (zS hh) (zS hs) (zS hr) (zI a1) (zI r) := by
  unfold P_X4_holdingFor
  unfold Q_X4_holdingFor at hq
  try simp only [z_m1, z_0, z_1, z_2, z_3, z_4, z_5, z_6, z_8, z_9, z_10, z_12, z_16, z_30, z_31, z_99, z_300, z_500, z_600, z_20000, zadd, zsub, zmul, zneg, zap]
  obtain ⟨r1, hr1, hq⟩ := hq
  refine ⟨zI r1, t_X3_heldBy hs a1 r1 hr1, ?_⟩
  try simp only [z_m1, z_0, z_1, z_2, z_3, z_4, z_5, z_6, z_8, z_9, z_10, z_12, z_16, z_30, z_31, z_99, z_300, z_500, z_600, z_20000, zadd, zsub, zmul, zneg, zap]
  obtain ⟨r2, hr2, hq⟩ := hq
  refine ⟨zI r2, t_X3_piecesLentTo hs r1 r2 hr2, ?_⟩
  try simp only [z_m1, z_0, z_1, z_2, z_3, z_4, z_5, z_6, z_8, z_9, z_10, z_12, z_16, z_30, z_31, z_99, z_300, z_500, z_600, z_20000, zadd, zsub, zmul, zneg, zap]
  obtain ⟨r3, hr3, hq⟩ := hq
  refine ⟨zI r3, t_X4_playedBy hh hs hr a1 r3 hr3, ?_⟩
  try simp only [z_m1, z_0, z_1, z_2, z_3, z_4, z_5, z_6, z_8, z_9, z_10, z_12, z_16, z_30, z_31, z_99, z_300, z_500, z_600, z_20000, zadd, zsub, zmul, zneg, zap]
  try simp only [zat (N := 30) hq.1 (by decide)]
  have hq := hq.2
  try simp only [z_m1, z_0, z_1, z_2, z_3, z_4, z_5, z_6, z_8, z_9, z_10, z_12, z_16, z_30, z_31, z_99, z_300, z_500, z_600, z_20000, zadd, zsub, zmul, zneg, zap]
  obtain ⟨r5, hr5, hq⟩ := hq
  refine ⟨zI r5, t_X0_minutesLeft hh a1 r5 hr5, ?_⟩
  try simp only [z_m1, z_0, z_1, z_2, z_3, z_4, z_5, z_6, z_8, z_9, z_10, z_12, z_16, z_30, z_31, z_99, z_300, z_500, z_600, z_20000, zadd, zsub, zmul, zneg, zap]
  obtain ⟨r6, hr6, hq⟩ := hq
  refine ⟨zI r6, t_X1_holding hr r3 (iat 30 (hh 3) a1) r5 r2 r6 hr6, ?_⟩
  try simp only [z_m1, z_0, z_1, z_2, z_3, z_4, z_5, z_6, z_8, z_9, z_10, z_12, z_16, z_30, z_31, z_99, z_300, z_500, z_600, z_20000, zadd, zsub, zmul, zneg, zap]
  exact congrArg zI hq
def Q_X4_ruling (hh hs hr : ISt) (a1 : Int) (ok : Int → ISt → ISt → ISt → Prop) (ex : String → Prop) : Prop := ∀ V28 : Int → Prop, (∀ t0 : Int, (inR t0 ∧ (((¬ t0 = 0) → (∃ r4 : Int, Q_X4_playedBy hh hs hr a1 r4 ∧ (∃ r5 : Int, Q_X4_holdingFor hh hs hr a1 r5 ∧ (∃ r6 : Int, Q_X1_rulingGoingDown hr r4 r5 r6 ∧ (ok r6 hh hs hr))))) ∧ (¬ (¬ t0 = 0) → (ex E_s)))) → V28 t0) → (inR a1 ∧ inR (hh 0 2) ∧ (((¬ a1 < 0 ∧ a1 < (hh 0 2)) → (∃ r2 : Int, Q_X3_heldBy hs a1 r2 ∧ (inR r2 ∧ ((r2 = (-1 : Int) → (V28 (0 : Int))) ∧ (¬ r2 = (-1 : Int) → (V28 (1 : Int))))))) ∧ (¬ (¬ a1 < 0 ∧ a1 < (hh 0 2)) → (ex E_i))))
set_option maxRecDepth 100000 in
set_option maxHeartbeats 4000000 in
theorem t_X4_ruling (hh hs hr : ISt) (a1 : Int) (ok : Int32 → St → St → St → Prop) (ex : String → Prop) (hq : Q_X4_ruling hh hs hr a1 (fun r h' s' r' => ok (zI r) (zS h') (zS s') (zS r')) ex) : P_X4_ruling (zS hh) (zS hs) (zS hr) (zI a1) ok ex := by
  intro V28 k28
  have hq := hq (fun t0 => V28 (zI t0))
  have hq := hq (by
    intro t0 hq
    refine k28 (zI t0) ?_
    try simp only [z_m1, z_0, z_1, z_2, z_3, z_4, z_5, z_6, z_8, z_9, z_10, z_12, z_16, z_30, z_31, z_99, z_300, z_500, z_600, z_20000, zadd, zsub, zmul, zneg, zap]
    have r0 := hq.1
    have hq := hq.2
    have ci := not_congr (z_eq (a := t0) (b := 0) r0 ⟨by decide, by decide⟩)
    refine ⟨fun c => ?_, fun c => ?_⟩
    · have hq := hq.1 (by first | exact ci.mp c | exact absurd trivial c)
      obtain ⟨r4, hr4, hq⟩ := hq
      refine ⟨zI r4, t_X4_playedBy hh hs hr a1 r4 hr4, ?_⟩
      try simp only [z_m1, z_0, z_1, z_2, z_3, z_4, z_5, z_6, z_8, z_9, z_10, z_12, z_16, z_30, z_31, z_99, z_300, z_500, z_600, z_20000, zadd, zsub, zmul, zneg, zap]
      obtain ⟨r5, hr5, hq⟩ := hq
      refine ⟨zI r5, t_X4_holdingFor hh hs hr a1 r5 hr5, ?_⟩
      try simp only [z_m1, z_0, z_1, z_2, z_3, z_4, z_5, z_6, z_8, z_9, z_10, z_12, z_16, z_30, z_31, z_99, z_300, z_500, z_600, z_20000, zadd, zsub, zmul, zneg, zap]
      obtain ⟨r6, hr6, hq⟩ := hq
      refine ⟨zI r6, t_X1_rulingGoingDown hr r4 r5 r6 hr6, ?_⟩
      try simp only [z_m1, z_0, z_1, z_2, z_3, z_4, z_5, z_6, z_8, z_9, z_10, z_12, z_16, z_30, z_31, z_99, z_300, z_500, z_600, z_20000, zadd, zsub, zmul, zneg, zap]
      exact hq
    · first | exact hq.2 (fun h => c (ci.mpr h)) | exact hq.2 (fun h => h rfl))
  try simp only [z_m1, z_0, z_1, z_2, z_3, z_4, z_5, z_6, z_8, z_9, z_10, z_12, z_16, z_30, z_31, z_99, z_300, z_500, z_600, z_20000, zadd, zsub, zmul, zneg, zap]
  have r0 := hq.1
  have hq := hq.2
  have r1 := hq.1
  have hq := hq.2
  have ci := and_congr (not_congr (z_lt (a := a1) (b := 0) r0 ⟨by decide, by decide⟩)) (z_lt (a := a1) (b := (hh 0 2)) r0 r1)
  refine ⟨fun c => ?_, fun c => ?_⟩
  · have hq := hq.1 (by first | exact ci.mp c | exact absurd trivial c)
    obtain ⟨r2, hr2, hq⟩ := hq
    refine ⟨zI r2, t_X3_heldBy hs a1 r2 hr2, ?_⟩
    try simp only [z_m1, z_0, z_1, z_2, z_3, z_4, z_5, z_6, z_8, z_9, z_10, z_12, z_16, z_30, z_31, z_99, z_300, z_500, z_600, z_20000, zadd, zsub, zmul, zneg, zap]
    have rx := hq.1
    have hq := hq.2
    refine ⟨fun c => ?_, fun c => ?_⟩
    · have hq := hq.1 ((z_eq rx ⟨by decide, by decide⟩).mp c)
      exact hq
    · have hq := hq.2 (fun h => c ((z_eq rx ⟨by decide, by decide⟩).mpr h))
      exact hq
  · first | exact hq.2 (fun h => c (ci.mpr h)) | exact hq.2 (fun h => h rfl)
def Q_X4_rulingFromBelow (hh hs hr : ISt) (a1 : Int) (ok : Int → ISt → ISt → ISt → Prop) (ex : String → Prop) : Prop := ∀ V28 : Int → Prop, (∀ t0 : Int, (inR t0 ∧ (((¬ t0 = 0) → (∃ r4 : Int, Q_X4_playedBy hh hs hr a1 r4 ∧ (∃ r5 : Int, Q_X4_holdingFor hh hs hr a1 r5 ∧ (∃ r6 : Int, Q_X1_rulingGoingUp hr r4 r5 r6 ∧ (ok r6 hh hs hr))))) ∧ (¬ (¬ t0 = 0) → (ex E_s)))) → V28 t0) → (inR a1 ∧ inR (hh 0 2) ∧ (((¬ a1 < 0 ∧ a1 < (hh 0 2)) → (∃ r2 : Int, Q_X3_heldBy hs a1 r2 ∧ (inR r2 ∧ ((r2 = (-1 : Int) → (V28 (0 : Int))) ∧ (¬ r2 = (-1 : Int) → (V28 (1 : Int))))))) ∧ (¬ (¬ a1 < 0 ∧ a1 < (hh 0 2)) → (ex E_i))))
set_option maxRecDepth 100000 in
set_option maxHeartbeats 4000000 in
theorem t_X4_rulingFromBelow (hh hs hr : ISt) (a1 : Int) (ok : Int32 → St → St → St → Prop) (ex : String → Prop) (hq : Q_X4_rulingFromBelow hh hs hr a1 (fun r h' s' r' => ok (zI r) (zS h') (zS s') (zS r')) ex) : P_X4_rulingFromBelow (zS hh) (zS hs) (zS hr) (zI a1) ok ex := by
  intro V28 k28
  have hq := hq (fun t0 => V28 (zI t0))
  have hq := hq (by
    intro t0 hq
    refine k28 (zI t0) ?_
    try simp only [z_m1, z_0, z_1, z_2, z_3, z_4, z_5, z_6, z_8, z_9, z_10, z_12, z_16, z_30, z_31, z_99, z_300, z_500, z_600, z_20000, zadd, zsub, zmul, zneg, zap]
    have r0 := hq.1
    have hq := hq.2
    have ci := not_congr (z_eq (a := t0) (b := 0) r0 ⟨by decide, by decide⟩)
    refine ⟨fun c => ?_, fun c => ?_⟩
    · have hq := hq.1 (by first | exact ci.mp c | exact absurd trivial c)
      obtain ⟨r4, hr4, hq⟩ := hq
      refine ⟨zI r4, t_X4_playedBy hh hs hr a1 r4 hr4, ?_⟩
      try simp only [z_m1, z_0, z_1, z_2, z_3, z_4, z_5, z_6, z_8, z_9, z_10, z_12, z_16, z_30, z_31, z_99, z_300, z_500, z_600, z_20000, zadd, zsub, zmul, zneg, zap]
      obtain ⟨r5, hr5, hq⟩ := hq
      refine ⟨zI r5, t_X4_holdingFor hh hs hr a1 r5 hr5, ?_⟩
      try simp only [z_m1, z_0, z_1, z_2, z_3, z_4, z_5, z_6, z_8, z_9, z_10, z_12, z_16, z_30, z_31, z_99, z_300, z_500, z_600, z_20000, zadd, zsub, zmul, zneg, zap]
      obtain ⟨r6, hr6, hq⟩ := hq
      refine ⟨zI r6, t_X1_rulingGoingUp hr r4 r5 r6 hr6, ?_⟩
      try simp only [z_m1, z_0, z_1, z_2, z_3, z_4, z_5, z_6, z_8, z_9, z_10, z_12, z_16, z_30, z_31, z_99, z_300, z_500, z_600, z_20000, zadd, zsub, zmul, zneg, zap]
      exact hq
    · first | exact hq.2 (fun h => c (ci.mpr h)) | exact hq.2 (fun h => h rfl))
  try simp only [z_m1, z_0, z_1, z_2, z_3, z_4, z_5, z_6, z_8, z_9, z_10, z_12, z_16, z_30, z_31, z_99, z_300, z_500, z_600, z_20000, zadd, zsub, zmul, zneg, zap]
  have r0 := hq.1
  have hq := hq.2
  have r1 := hq.1
  have hq := hq.2
  have ci := and_congr (not_congr (z_lt (a := a1) (b := 0) r0 ⟨by decide, by decide⟩)) (z_lt (a := a1) (b := (hh 0 2)) r0 r1)
  refine ⟨fun c => ?_, fun c => ?_⟩
  · have hq := hq.1 (by first | exact ci.mp c | exact absurd trivial c)
    obtain ⟨r2, hr2, hq⟩ := hq
    refine ⟨zI r2, t_X3_heldBy hs a1 r2 hr2, ?_⟩
    try simp only [z_m1, z_0, z_1, z_2, z_3, z_4, z_5, z_6, z_8, z_9, z_10, z_12, z_16, z_30, z_31, z_99, z_300, z_500, z_600, z_20000, zadd, zsub, zmul, zneg, zap]
    have rx := hq.1
    have hq := hq.2
    refine ⟨fun c => ?_, fun c => ?_⟩
    · have hq := hq.1 ((z_eq rx ⟨by decide, by decide⟩).mp c)
      exact hq
    · have hq := hq.2 (fun h => c ((z_eq rx ⟨by decide, by decide⟩).mpr h))
      exact hq
  · first | exact hq.2 (fun h => c (ci.mpr h)) | exact hq.2 (fun h => h rfl)
def Q_X4_depth (hh hs hr : ISt) (a1 : Int) (ok : Int → ISt → ISt → ISt → Prop) (ex : String → Prop) : Prop := (inR a1 ∧ inR (hs 0 0) ∧ (((¬ a1 < 0 ∧ a1 < (hs 0 0)) → (∃ r2 : Int, Q_X1_deepest hr a1 r2 ∧ (ok r2 hh hs hr))) ∧ (¬ (¬ a1 < 0 ∧ a1 < (hs 0 0)) → (ex E_i))))
set_option maxRecDepth 100000 in
set_option maxHeartbeats 4000000 in
theorem t_X4_depth (hh hs hr : ISt) (a1 : Int) (ok : Int32 → St → St → St → Prop) (ex : String → Prop) (hq : Q_X4_depth hh hs hr a1 (fun r h' s' r' => ok (zI r) (zS h') (zS s') (zS r')) ex) : P_X4_depth (zS hh) (zS hs) (zS hr) (zI a1) ok ex := by
  unfold P_X4_depth
  unfold Q_X4_depth at hq
  try simp only [z_m1, z_0, z_1, z_2, z_3, z_4, z_5, z_6, z_8, z_9, z_10, z_12, z_16, z_30, z_31, z_99, z_300, z_500, z_600, z_20000, zadd, zsub, zmul, zneg, zap]
  have r0 := hq.1
  have hq := hq.2
  have r1 := hq.1
  have hq := hq.2
  have ci := and_congr (not_congr (z_lt (a := a1) (b := 0) r0 ⟨by decide, by decide⟩)) (z_lt (a := a1) (b := (hs 0 0)) r0 r1)
  refine ⟨fun c => ?_, fun c => ?_⟩
  · have hq := hq.1 (by first | exact ci.mp c | exact absurd trivial c)
    obtain ⟨r2, hr2, hq⟩ := hq
    refine ⟨zI r2, t_X1_deepest hr a1 r2 hr2, ?_⟩
    try simp only [z_m1, z_0, z_1, z_2, z_3, z_4, z_5, z_6, z_8, z_9, z_10, z_12, z_16, z_30, z_31, z_99, z_300, z_500, z_600, z_20000, zadd, zsub, zmul, zneg, zap]
    exact hq
  · first | exact hq.2 (fun h => c (ci.mpr h)) | exact hq.2 (fun h => h rfl)
