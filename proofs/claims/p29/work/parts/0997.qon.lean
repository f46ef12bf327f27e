set_option maxRecDepth 100000 in
set_option maxHeartbeats 4000000 in
theorem tm_X4_arrive (hh hs hr : ISt) (a1 : Int) (a2 : Int) (okI : Int → ISt → ISt → ISt → Prop) (exI : String → Prop) (ok : Int32 → St → St → St → Prop) (ex : String → Prop) (hk : ∀ r h1 h2 h3, okI r h1 h2 h3 → ok (zI r) (zS h1) (zS h2) (zS h3)) (hx : ∀ E, exI E → ex E) (hq : Q_X4_arrive hh hs hr a1 a2 okI exI) : P_X4_arrive (zS hh) (zS hs) (zS hr) (zI a1) (zI a2) ok ex := by
  unfold P_X4_arrive
  unfold Q_X4_arrive at hq
  try simp only [z_m1, z_0, z_1, z_2, z_3, z_4, z_5, z_6, z_8, z_9, z_10, z_12, z_16, z_30, z_31, z_99, z_300, z_500, z_600, z_20000, zadd, zsub, zmul, zneg, zap]
  have r0 := hq.1
  have hq := hq.2
  have ci := and_congr (not_congr (z_lt (a := a1) (b := (1 : Int)) r0 ⟨by decide, by decide⟩)) (z_le (a := a1) (b := (12 : Int)) r0 ⟨by decide, by decide⟩)
  refine ⟨fun c => ?_, fun c => ?_⟩
  · have hq := hq.1 (by first | exact ci.mp c | exact absurd trivial c)
    have r0 := hq.1
    have hq := hq.2
    have ci := and_congr (not_congr (z_lt (a := a2) (b := (10 : Int)) r0 ⟨by decide, by decide⟩)) (z_le (a := a2) (b := (600 : Int)) r0 ⟨by decide, by decide⟩)
    refine ⟨fun c => ?_, fun c => ?_⟩
    · have hq := hq.1 (by first | exact ci.mp c | exact absurd trivial c)
      have rx := hq.1
      have hq := hq.2
      refine ⟨fun c => ?_, fun c => ?_⟩
      · have hq := hq.1 ((z_le ⟨by decide, by decide⟩ rx).mp c)
        have ci := not_congr (z_eq (a := (0 : Int)) (b := 0) ⟨by decide, by decide⟩ ⟨by decide, by decide⟩)
        refine ⟨fun c => ?_, fun c => ?_⟩
        · have hq := hq.1 (by first | exact ci.mp c | exact absurd trivial c)
          obtain ⟨r4, h5, hh5, hq⟩ := hq
          refine ⟨zI r4, zS h5, t_X0_welcome hh a1 a2 r4 h5 hh5, ?_⟩
          try simp only [z_m1, z_0, z_1, z_2, z_3, z_4, z_5, z_6, z_8, z_9, z_10, z_12, z_16, z_30, z_31, z_99, z_300, z_500, z_600, z_20000, zadd, zsub, zmul, zneg, zap]
          exact hk _ _ _ _ hq
        · first | exact hx _ (hq.2 (fun h => c (ci.mpr h))) | exact hx _ (hq.2 (fun h => h rfl))
      · have hq := hq.2 (fun h => c ((z_le ⟨by decide, by decide⟩ rx).mpr h))
        have ci := not_congr (z_eq (a := (1 : Int)) (b := 0) ⟨by decide, by decide⟩ ⟨by decide, by decide⟩)
        refine ⟨fun c => ?_, fun c => ?_⟩
        · have hq := hq.1 (by first | exact ci.mp c | exact absurd trivial c)
          obtain ⟨r7, h8, hh8, hq⟩ := hq
          refine ⟨zI r7, zS h8, t_X0_welcome hh a1 a2 r7 h8 hh8, ?_⟩
          try simp only [z_m1, z_0, z_1, z_2, z_3, z_4, z_5, z_6, z_8, z_9, z_10, z_12, z_16, z_30, z_31, z_99, z_300, z_500, z_600, z_20000, zadd, zsub, zmul, zneg, zap]
          exact hk _ _ _ _ hq
        · first | exact hx _ (hq.2 (fun h => c (ci.mpr h))) | exact hx _ (hq.2 (fun h => h rfl))
    · first | exact hx _ (hq.2 (fun h => c (ci.mpr h))) | exact hx _ (hq.2 (fun h => h rfl))
  · first | exact hx _ (hq.2 (fun h => c (ci.mpr h))) | exact hx _ (hq.2 (fun h => h rfl))
set_option maxRecDepth 100000 in
set_option maxHeartbeats 4000000 in
theorem tm_X4_leave (hh hs hr : ISt) (a1 : Int) (okI : Int → ISt → ISt → ISt → Prop) (exI : String → Prop) (ok : Int32 → St → St → St → Prop) (ex : String → Prop) (hk : ∀ r h1 h2 h3, okI r h1 h2 h3 → ok (zI r) (zS h1) (zS h2) (zS h3)) (hx : ∀ E, exI E → ex E) (hq : Q_X4_leave hh hs hr a1 okI exI) : P_X4_leave (zS hh) (zS hs) (zS hr) (zI a1) ok ex := by
  unfold P_X4_leave
  unfold Q_X4_leave at hq
  try simp only [z_m1, z_0, z_1, z_2, z_3, z_4, z_5, z_6, z_8, z_9, z_10, z_12, z_16, z_30, z_31, z_99, z_300, z_500, z_600, z_20000, zadd, zsub, zmul, zneg, zap]
  have r0 := hq.1
  have hq := hq.2
  have r1 := hq.1
  have hq := hq.2
  have ci := and_congr (not_congr (z_lt (a := a1) (b := 0) r0 ⟨by decide, by decide⟩)) (z_lt (a := a1) (b := (hh 0 2)) r0 r1)
  refine ⟨fun c => ?_, fun c => ?_⟩
  · have hq := hq.1 (by first | exact ci.mp c | exact absurd trivial c)
    obtain ⟨r2, hr2, hq⟩ := hq
    refine ⟨zI r2, t_X3_heldBy hs a1 r2 hr2, ?_⟩
    try simp only [z_m1, z_0, z_1, z_2, z_3, z_4, z_5, z_6, z_8, z_9, z_10, z_12, z_16, z_30, z_31, z_99, z_300, z_500, z_600, z_20000, zadd, zsub, zmul, zneg, zap]
    have rx := hq.1
    have hq := hq.2
    refine ⟨fun c => ?_, fun c => ?_⟩
    · have hq := hq.1 (fun h => c ((z_eq rx ⟨by decide, by decide⟩).mpr h))
      have ci := not_congr (z_eq (a := (0 : Int)) (b := 0) ⟨by decide, by decide⟩ ⟨by decide, by decide⟩)
      refine ⟨fun c => ?_, fun c => ?_⟩
      · have hq := hq.1 (by first | exact ci.mp c | exact absurd trivial c)
        obtain ⟨r4, h5, hh5, hq⟩ := hq
        refine ⟨zI r4, zS h5, t_X0_dismiss hh a1 r4 h5 hh5, ?_⟩
        try simp only [z_m1, z_0, z_1, z_2, z_3, z_4, z_5, z_6, z_8, z_9, z_10, z_12, z_16, z_30, z_31, z_99, z_300, z_500, z_600, z_20000, zadd, zsub, zmul, zneg, zap]
        exact hk _ _ _ _ hq
      · first | exact hx _ (hq.2 (fun h => c (ci.mpr h))) | exact hx _ (hq.2 (fun h => h rfl))
    · have hq := hq.2 ((z_eq rx ⟨by decide, by decide⟩).mp c)
      obtain ⟨r6, hr6, hq⟩ := hq
      refine ⟨zI r6, t_X0_isGone hh a1 r6 hr6, ?_⟩
      try simp only [z_m1, z_0, z_1, z_2, z_3, z_4, z_5, z_6, z_8, z_9, z_10, z_12, z_16, z_30, z_31, z_99, z_300, z_500, z_600, z_20000, zadd, zsub, zmul, zneg, zap]
      have rx := hq.1
      have hq := hq.2
      refine ⟨fun c => ?_, fun c => ?_⟩
      · have hq := hq.1 (fun h => c ((z_eq rx ⟨by decide, by decide⟩).mpr h))
        have ci := not_congr (z_eq (a := (0 : Int)) (b := 0) ⟨by decide, by decide⟩ ⟨by decide, by decide⟩)
        refine ⟨fun c => ?_, fun c => ?_⟩
        · have hq := hq.1 (by first | exact ci.mp c | exact absurd trivial c)
          obtain ⟨r8, h9, hh9, hq⟩ := hq
          refine ⟨zI r8, zS h9, t_X0_dismiss hh a1 r8 h9 hh9, ?_⟩
          try simp only [z_m1, z_0, z_1, z_2, z_3, z_4, z_5, z_6, z_8, z_9, z_10, z_12, z_16, z_30, z_31, z_99, z_300, z_500, z_600, z_20000, zadd, zsub, zmul, zneg, zap]
          exact hk _ _ _ _ hq
        · first | exact hx _ (hq.2 (fun h => c (ci.mpr h))) | exact hx _ (hq.2 (fun h => h rfl))
      · have hq := hq.2 ((z_eq rx ⟨by decide, by decide⟩).mp c)
        have ci := not_congr (z_eq (a := (1 : Int)) (b := 0) ⟨by decide, by decide⟩ ⟨by decide, by decide⟩)
        refine ⟨fun c => ?_, fun c => ?_⟩
        · have hq := hq.1 (by first | exact ci.mp c | exact absurd trivial c)
          obtain ⟨r11, h12, hh12, hq⟩ := hq
          refine ⟨zI r11, zS h12, t_X0_dismiss hh a1 r11 h12 hh12, ?_⟩
          try simp only [z_m1, z_0, z_1, z_2, z_3, z_4, z_5, z_6, z_8, z_9, z_10, z_12, z_16, z_30, z_31, z_99, z_300, z_500, z_600, z_20000, zadd, zsub, zmul, zneg, zap]
          exact hk _ _ _ _ hq
        · first | exact hx _ (hq.2 (fun h => c (ci.mpr h))) | exact hx _ (hq.2 (fun h => h rfl))
  · first | exact hx _ (hq.2 (fun h => c (ci.mpr h))) | exact hx _ (hq.2 (fun h => h rfl))
set_option maxRecDepth 100000 in
set_option maxHeartbeats 4000000 in
theorem tm_X4_left (hh hs hr : ISt) (a1 : Int) (okI : Int → ISt → ISt → ISt → Prop) (exI : String → Prop) (ok : Int32 → St → St → St → Prop) (ex : String → Prop) (hk : ∀ r h1 h2 h3, okI r h1 h2 h3 → ok (zI r) (zS h1) (zS h2) (zS h3)) (hx : ∀ E, exI E → ex E) (hq : Q_X4_left hh hs hr a1 okI exI) : P_X4_left (zS hh) (zS hs) (zS hr) (zI a1) ok ex := by
  unfold P_X4_left
  unfold Q_X4_left at hq
  try simp only [z_m1, z_0, z_1, z_2, z_3, z_4, z_5, z_6, z_8, z_9, z_10, z_12, z_16, z_30, z_31, z_99, z_300, z_500, z_600, z_20000, zadd, zsub, zmul, zneg, zap]
  have r0 := hq.1
  have hq := hq.2
  have r1 := hq.1
  have hq := hq.2
  have ci := and_congr (not_congr (z_lt (a := a1) (b := 0) r0 ⟨by decide, by decide⟩)) (z_lt (a := a1) (b := (hh 0 2)) r0 r1)
  refine ⟨fun c => ?_, fun c => ?_⟩
  · have hq := hq.1 (by first | exact ci.mp c | exact absurd trivial c)
    obtain ⟨r2, hr2, hq⟩ := hq
    refine ⟨zI r2, t_X0_isSeated hh a1 r2 hr2, ?_⟩
    try simp only [z_m1, z_0, z_1, z_2, z_3, z_4, z_5, z_6, z_8, z_9, z_10, z_12, z_16, z_30, z_31, z_99, z_300, z_500, z_600, z_20000, zadd, zsub, zmul, zneg, zap]
    have r0 := hq.1
    have hq := hq.2
    have ci := not_congr (z_eq (a := r2) (b := 0) r0 ⟨by decide, by decide⟩)
    refine ⟨fun c => ?_, fun c => ?_⟩
    · have hq := hq.1 (by first | exact ci.mp c | exact absurd trivial c)
      obtain ⟨r4, hr4, hq⟩ := hq
      refine ⟨zI r4, t_X0_minutesLeft hh a1 r4 hr4, ?_⟩
      try simp only [z_m1, z_0, z_1, z_2, z_3, z_4, z_5, z_6, z_8, z_9, z_10, z_12, z_16, z_30, z_31, z_99, z_300, z_500, z_600, z_20000, zadd, zsub, zmul, zneg, zap]
      exact hk _ _ _ _ hq
    · first | exact hx _ (hq.2 (fun h => c (ci.mpr h))) | exact hx _ (hq.2 (fun h => h rfl))
  · first | exact hx _ (hq.2 (fun h => c (ci.mpr h))) | exact hx _ (hq.2 (fun h => h rfl))
set_option maxRecDepth 100000 in
set_option maxHeartbeats 4000000 in
theorem tm_X4_offerAt (hh hs hr : ISt) (a1 : Int) (a2 : Int) (okI : Int → ISt → ISt → ISt → Prop) (exI : String → Prop) (ok : Int32 → St → St → St → Prop) (ex : String → Prop) (hk : ∀ r h1 h2 h3, okI r h1 h2 h3 → ok (zI r) (zS h1) (zS h2) (zS h3)) (hx : ∀ E, exI E → ex E) (hq : Q_X4_offerAt hh hs hr a1 a2 okI exI) : P_X4_offerAt (zS hh) (zS hs) (zS hr) (zI a1) (zI a2) ok ex := by
  unfold P_X4_offerAt
  unfold Q_X4_offerAt at hq
  try simp only [z_m1, z_0, z_1, z_2, z_3, z_4, z_5, z_6, z_8, z_9, z_10, z_12, z_16, z_30, z_31, z_99, z_300, z_500, z_600, z_20000, zadd, zsub, zmul, zneg, zap]
  have r0 := hq.1
  have hq := hq.2
  have r1 := hq.1
  have hq := hq.2
  have ci := and_congr (not_congr (z_lt (a := a1) (b := 0) r0 ⟨by decide, by decide⟩)) (z_lt (a := a1) (b := (hh 0 2)) r0 r1)
  refine ⟨fun c => ?_, fun c => ?_⟩
  · have hq := hq.1 (by first | exact ci.mp c | exact absurd trivial c)
    obtain ⟨r2, hr2, hq⟩ := hq
    refine ⟨zI r2, t_X4_offeredTitles hh hs hr a1 r2 hr2, ?_⟩
    try simp only [z_m1, z_0, z_1, z_2, z_3, z_4, z_5, z_6, z_8, z_9, z_10, z_12, z_16, z_30, z_31, z_99, z_300, z_500, z_600, z_20000, zadd, zsub, zmul, zneg, zap]
    obtain ⟨r3, hr3, hq⟩ := hq
    refine ⟨zI r3, t_J6_bitCount_0f7a4 r2 r3 hr3, ?_⟩
    try simp only [z_m1, z_0, z_1, z_2, z_3, z_4, z_5, z_6, z_8, z_9, z_10, z_12, z_16, z_30, z_31, z_99, z_300, z_500, z_600, z_20000, zadd, zsub, zmul, zneg, zap]
    have r0 := hq.1
    have hq := hq.2
    have r1 := hq.1
    have hq := hq.2
    have ci := and_congr (not_congr (z_lt (a := a2) (b := 0) r0 ⟨by decide, by decide⟩)) (z_lt (a := a2) (b := r3) r0 r1)
    refine ⟨fun c => ?_, fun c => ?_⟩
    · have hq := hq.1 (by first | exact ci.mp c | exact absurd trivial c)
      obtain ⟨r5, hr5, hq⟩ := hq
      refine ⟨zI r5, t_X3_titleInPlace hs r2 a2 r5 hr5, ?_⟩
      try simp only [z_m1, z_0, z_1, z_2, z_3, z_4, z_5, z_6, z_8, z_9, z_10, z_12, z_16, z_30, z_31, z_99, z_300, z_500, z_600, z_20000, zadd, zsub, zmul, zneg, zap]
      exact hk _ _ _ _ hq
    · first | exact hx _ (hq.2 (fun h => c (ci.mpr h))) | exact hx _ (hq.2 (fun h => h rfl))
  · first | exact hx _ (hq.2 (fun h => c (ci.mpr h))) | exact hx _ (hq.2 (fun h => h rfl))
set_option maxRecDepth 100000 in
set_option maxHeartbeats 4000000 in
theorem tm_X4_serve (hh hs hr : ISt) (a1 : Int) (a2 : Int) (okI : Int → ISt → ISt → ISt → Prop) (exI : String → Prop) (ok : Int32 → St → St → St → Prop) (ex : String → Prop) (hk : ∀ r h1 h2 h3, okI r h1 h2 h3 → ok (zI r) (zS h1) (zS h2) (zS h3)) (hx : ∀ E, exI E → ex E) (hq : Q_X4_serve hh hs hr a1 a2 okI exI) : P_X4_serve (zS hh) (zS hs) (zS hr) (zI a1) (zI a2) ok ex := by
  unfold P_X4_serve
  unfold Q_X4_serve at hq
  try simp only [z_m1, z_0, z_1, z_2, z_3, z_4, z_5, z_6, z_8, z_9, z_10, z_12, z_16, z_30, z_31, z_99, z_300, z_500, z_600, z_20000, zadd, zsub, zmul, zneg, zap]
  have r0 := hq.1
  have hq := hq.2
  have r1 := hq.1
  have hq := hq.2
  have ci := and_congr (not_congr (z_lt (a := a1) (b := 0) r0 ⟨by decide, by decide⟩)) (z_lt (a := a1) (b := (hh 0 2)) r0 r1)
  refine ⟨fun c => ?_, fun c => ?_⟩
  · have hq := hq.1 (by first | exact ci.mp c | exact absurd trivial c)
    have r0 := hq.1
    have hq := hq.2
    have r1 := hq.1
    have hq := hq.2
    have ci := and_congr (not_congr (z_lt (a := a2) (b := 0) r0 ⟨by decide, by decide⟩)) (z_lt (a := a2) (b := (hs 0 0)) r0 r1)
    refine ⟨fun c => ?_, fun c => ?_⟩
    · have hq := hq.1 (by first | exact ci.mp c | exact absurd trivial c)
      obtain ⟨r3, hr3, hq⟩ := hq
      refine ⟨zI r3, t_X4_isOffered hh hs hr a1 a2 r3 hr3, ?_⟩
      try simp only [z_m1, z_0, z_1, z_2, z_3, z_4, z_5, z_6, z_8, z_9, z_10, z_12, z_16, z_30, z_31, z_99, z_300, z_500, z_600, z_20000, zadd, zsub, zmul, zneg, zap]
      have r0 := hq.1
      have hq := hq.2
      have ci := not_congr (z_eq (a := r3) (b := 0) r0 ⟨by decide, by decide⟩)
      refine ⟨fun c => ?_, fun c => ?_⟩
      · have hq := hq.1 (by first | exact ci.mp c | exact absurd trivial c)
        obtain ⟨r5, hr5, hq⟩ := hq
        refine ⟨zI r5, t_X3_bestCopy hs a2 r5 hr5, ?_⟩
        try simp only [z_m1, z_0, z_1, z_2, z_3, z_4, z_5, z_6, z_8, z_9, z_10, z_12, z_16, z_30, z_31, z_99, z_300, z_500, z_600, z_20000, zadd, zsub, zmul, zneg, zap]
        obtain ⟨h7, hh7, hq⟩ := hq
        refine ⟨zS h7, t_X3_handOut hs r5 a1 h7 hh7, ?_⟩
        try simp only [z_m1, z_0, z_1, z_2, z_3, z_4, z_5, z_6, z_8, z_9, z_10, z_12, z_16, z_30, z_31, z_99, z_300, z_500, z_600, z_20000, zadd, zsub, zmul, zneg, zap]
        exact hk _ _ _ _ hq
      · first | exact hx _ (hq.2 (fun h => c (ci.mpr h))) | exact hx _ (hq.2 (fun h => h rfl))
    · first | exact hx _ (hq.2 (fun h => c (ci.mpr h))) | exact hx _ (hq.2 (fun h => h rfl))
  · first | exact hx _ (hq.2 (fun h => c (ci.mpr h))) | exact hx _ (hq.2 (fun h => h rfl))
set_option maxRecDepth 100000 in
set_option maxHeartbeats 4000000 in
theorem tm_X4_giveBack (hh hs hr : ISt) (a1 : Int) (a2 : Int) (a3 : Int) (okI : Int → ISt → ISt → ISt → Prop) (exI : String → Prop) (ok : Int32 → St → St → St → Prop) (ex : String → Prop) (hk : ∀ r h1 h2 h3, okI r h1 h2 h3 → ok (zI r) (zS h1) (zS h2) (zS h3)) (hx : ∀ E, exI E → ex E) (hq : Q_X4_giveBack hh hs hr a1 a2 a3 okI exI) : P_X4_giveBack (zS hh) (zS hs) (zS hr) (zI a1) (zI a2) (zI a3) ok ex := by
  intro V57 V58 k57 k58
  have hq := hq (fun x4 => V57 (zI x4)) (fun x4 t0 => V58 (zI x4) (zI t0))
  have hq := hq (by
    intro x4 hq
    refine k57 (zI x4) ?_
    try simp only [z_m1, z_0, z_1, z_2, z_3, z_4, z_5, z_6, z_8, z_9, z_10, z_12, z_16, z_30, z_31, z_99, z_300, z_500, z_600, z_20000, zadd, zsub, zmul, zneg, zap]
    exact hq)
  have hq := hq (by
    intro x4 t0 hq
    refine k58 (zI x4) (zI t0) ?_
    try simp only [z_m1, z_0, z_1, z_2, z_3, z_4, z_5, z_6, z_8, z_9, z_10, z_12, z_16, z_30, z_31, z_99, z_300, z_500, z_600, z_20000, zadd, zsub, zmul, zneg, zap]
    have r0 := hq.1
    have hq := hq.2
    have ci := not_congr (z_eq (a := t0) (b := 0) r0 ⟨by decide, by decide⟩)
    refine ⟨fun c => ?_, fun c => ?_⟩
    · have hq := hq.1 (by first | exact ci.mp c | exact absurd trivial c)
      obtain ⟨r7, h8, hh8, hq⟩ := hq
      refine ⟨zI r7, zS h8, t_X3_takeBack hs x4 a2 a3 r7 h8 hh8, ?_⟩
      try simp only [z_m1, z_0, z_1, z_2, z_3, z_4, z_5, z_6, z_8, z_9, z_10, z_12, z_16, z_30, z_31, z_99, z_300, z_500, z_600, z_20000, zadd, zsub, zmul, zneg, zap]
      exact hk _ _ _ _ hq
    · first | exact hx _ (hq.2 (fun h => c (ci.mpr h))) | exact hx _ (hq.2 (fun h => h rfl)))
  try simp only [z_m1, z_0, z_1, z_2, z_3, z_4, z_5, z_6, z_8, z_9, z_10, z_12, z_16, z_30, z_31, z_99, z_300, z_500, z_600, z_20000, zadd, zsub, zmul, zneg, zap]
  have r0 := hq.1
  have hq := hq.2
  have r1 := hq.1
  have hq := hq.2
  have ci := and_congr (not_congr (z_lt (a := a1) (b := 0) r0 ⟨by decide, by decide⟩)) (z_lt (a := a1) (b := (hh 0 2)) r0 r1)
  refine ⟨fun c => ?_, fun c => ?_⟩
  · have hq := hq.1 (by first | exact ci.mp c | exact absurd trivial c)
    have r0 := hq.1
    have hq := hq.2
    have ci := and_congr (not_congr (z_lt (a := a2) (b := 0) r0 ⟨by decide, by decide⟩)) (z_lt (a := a2) (b := (4 : Int)) r0 ⟨by decide, by decide⟩)
    refine ⟨fun c => ?_, fun c => ?_⟩
    · have hq := hq.1 (by first | exact ci.mp c | exact absurd trivial c)
      have r0 := hq.1
      have hq := hq.2
      have ci := and_congr (not_congr (z_lt (a := a3) (b := (0 : Int)) r0 ⟨by decide, by decide⟩)) (z_le (a := a3) (b := (9 : Int)) r0 ⟨by decide, by decide⟩)
      refine ⟨fun c => ?_, fun c => ?_⟩
      · have hq := hq.1 (by first | exact ci.mp c | exact absurd trivial c)
        obtain ⟨r4, hr4, hq⟩ := hq
        refine ⟨zI r4, t_X3_heldBy hs a1 r4 hr4, ?_⟩
        try simp only [z_m1, z_0, z_1, z_2, z_3, z_4, z_5, z_6, z_8, z_9, z_10, z_12, z_16, z_30, z_31, z_99, z_300, z_500, z_600, z_20000, zadd, zsub, zmul, zneg, zap]
        have rx := hq.1
        have hq := hq.2
        refine ⟨fun c => ?_, fun c => ?_⟩
        · have hq := hq.1 ((z_eq rx ⟨by decide, by decide⟩).mp c)
          exact hq
        · have hq := hq.2 (fun h => c ((z_eq rx ⟨by decide, by decide⟩).mpr h))
          obtain ⟨r5, hr5, hq⟩ := hq
          refine ⟨zI r5, t_X3_count hs r4 a2 r5 hr5, ?_⟩
          try simp only [z_m1, z_0, z_1, z_2, z_3, z_4, z_5, z_6, z_8, z_9, z_10, z_12, z_16, z_30, z_31, z_99, z_300, z_500, z_600, z_20000, zadd, zsub, zmul, zneg, zap]
          have rx := hq.1
          have hq := hq.2
          have ry := hq.1
          have hq := hq.2
          refine ⟨fun c => ?_, fun c => ?_⟩
          · have hq := hq.1 ((z_lt rx ry).mp c)
            exact hq
          · have hq := hq.2 (fun h => c ((z_lt rx ry).mpr h))
            exact hq
      · first | exact hx _ (hq.2 (fun h => c (ci.mpr h))) | exact hx _ (hq.2 (fun h => h rfl))
    · first | exact hx _ (hq.2 (fun h => c (ci.mpr h))) | exact hx _ (hq.2 (fun h => h rfl))
  · first | exact hx _ (hq.2 (fun h => c (ci.mpr h))) | exact hx _ (hq.2 (fun h => h rfl))
set_option maxRecDepth 100000 in
set_option maxHeartbeats 4000000 in
theorem tm_X4_found (hh hs hr : ISt) (a1 : Int) (a2 : Int) (a3 : Int) (okI : Int → ISt → ISt → ISt → Prop) (exI : String → Prop) (ok : Int32 → St → St → St → Prop) (ex : String → Prop) (hk : ∀ r h1 h2 h3, okI r h1 h2 h3 → ok (zI r) (zS h1) (zS h2) (zS h3)) (hx : ∀ E, exI E → ex E) (hq : Q_X4_found hh hs hr a1 a2 a3 okI exI) : P_X4_found (zS hh) (zS hs) (zS hr) (zI a1) (zI a2) (zI a3) ok ex := by
  intro V51 V52 k51 k52
  have hq := hq V51 (fun t0 => V52 (zI t0))
  have hq := hq (by
    intro hq
    refine k51 ?_
    try simp only [z_m1, z_0, z_1, z_2, z_3, z_4, z_5, z_6, z_8, z_9, z_10, z_12, z_16, z_30, z_31, z_99, z_300, z_500, z_600, z_20000, zadd, zsub, zmul, zneg, zap]
    exact hq)
  have hq := hq (by
    intro t0 hq
    refine k52 (zI t0) ?_
    try simp only [z_m1, z_0, z_1, z_2, z_3, z_4, z_5, z_6, z_8, z_9, z_10, z_12, z_16, z_30, z_31, z_99, z_300, z_500, z_600, z_20000, zadd, zsub, zmul, zneg, zap]
    have r0 := hq.1
    have hq := hq.2
    have ci := not_congr (z_eq (a := t0) (b := 0) r0 ⟨by decide, by decide⟩)
    refine ⟨fun c => ?_, fun c => ?_⟩
    · have hq := hq.1 (by first | exact ci.mp c | exact absurd trivial c)
      obtain ⟨h8, hh8, hq⟩ := hq
      refine ⟨zS h8, t_X3_change hs a1 a2 a3 h8 hh8, ?_⟩
      try simp only [z_m1, z_0, z_1, z_2, z_3, z_4, z_5, z_6, z_8, z_9, z_10, z_12, z_16, z_30, z_31, z_99, z_300, z_500, z_600, z_20000, zadd, zsub, zmul, zneg, zap]
      obtain ⟨r9, hr9, hq⟩ := hq
      refine ⟨zI r9, t_X3_count h8 a1 a2 r9 hr9, ?_⟩
      try simp only [z_m1, z_0, z_1, z_2, z_3, z_4, z_5, z_6, z_8, z_9, z_10, z_12, z_16, z_30, z_31, z_99, z_300, z_500, z_600, z_20000, zadd, zsub, zmul, zneg, zap]
      exact hk _ _ _ _ hq
    · first | exact hx _ (hq.2 (fun h => c (ci.mpr h))) | exact hx _ (hq.2 (fun h => h rfl)))
  try simp only [z_m1, z_0, z_1, z_2, z_3, z_4, z_5, z_6, z_8, z_9, z_10, z_12, z_16, z_30, z_31, z_99, z_300, z_500, z_600, z_20000, zadd, zsub, zmul, zneg, zap]
  have r0 := hq.1
  have hq := hq.2
  have r1 := hq.1
  have hq := hq.2
  have ci := and_congr (not_congr (z_lt (a := a1) (b := 0) r0 ⟨by decide, by decide⟩)) (z_lt (a := a1) (b := (hs 0 1)) r0 r1)
  refine ⟨fun c => ?_, fun c => ?_⟩
  · have hq := hq.1 (by first | exact ci.mp c | exact absurd trivial c)
    have r0 := hq.1
    have hq := hq.2
    have ci := and_congr (not_congr (z_lt (a := a2) (b := 0) r0 ⟨by decide, by decide⟩)) (z_lt (a := a2) (b := (4 : Int)) r0 ⟨by decide, by decide⟩)
    refine ⟨fun c => ?_, fun c => ?_⟩
    · have hq := hq.1 (by first | exact ci.mp c | exact absurd trivial c)
      have r0 := hq.1
      have hq := hq.2
      have ci := and_congr (not_congr (z_lt (a := a3) (b := (1 : Int)) r0 ⟨by decide, by decide⟩)) (z_le (a := a3) (b := (9 : Int)) r0 ⟨by decide, by decide⟩)
      refine ⟨fun c => ?_, fun c => ?_⟩
      · have hq := hq.1 (by first | exact ci.mp c | exact absurd trivial c)
        obtain ⟨r4, hr4, hq⟩ := hq
        refine ⟨zI r4, t_X3_place hs a1 r4 hr4, ?_⟩
        try simp only [z_m1, z_0, z_1, z_2, z_3, z_4, z_5, z_6, z_8, z_9, z_10, z_12, z_16, z_30, z_31, z_99, z_300, z_500, z_600, z_20000, zadd, zsub, zmul, zneg, zap]
        have rx := hq.1
        have hq := hq.2
        refine ⟨fun c => ?_, fun c => ?_⟩
        · have hq := hq.1 (fun h => c ((z_eq rx ⟨by decide, by decide⟩).mpr h))
          exact hq
        · have hq := hq.2 ((z_eq rx ⟨by decide, by decide⟩).mp c)
          obtain ⟨r5, hr5, hq⟩ := hq
          refine ⟨zI r5, t_X3_lack hs a1 a2 r5 hr5, ?_⟩
          try simp only [z_m1, z_0, z_1, z_2, z_3, z_4, z_5, z_6, z_8, z_9, z_10, z_12, z_16, z_30, z_31, z_99, z_300, z_500, z_600, z_20000, zadd, zsub, zmul, zneg, zap]
          have rx := hq.1
          have hq := hq.2
          have ry := hq.1
          have hq := hq.2
          refine ⟨fun c => ?_, fun c => ?_⟩
          · have hq := hq.1 ((z_lt rx ry).mp c)
            exact hq
          · have hq := hq.2 (fun h => c ((z_lt rx ry).mpr h))
            exact hq
      · first | exact hx _ (hq.2 (fun h => c (ci.mpr h))) | exact hx _ (hq.2 (fun h => h rfl))
    · first | exact hx _ (hq.2 (fun h => c (ci.mpr h))) | exact hx _ (hq.2 (fun h => h rfl))
  · first | exact hx _ (hq.2 (fun h => c (ci.mpr h))) | exact hx _ (hq.2 (fun h => h rfl))
set_option maxRecDepth 100000 in
set_option maxHeartbeats 4000000 in
theorem tm_X4_ruling (hh hs hr : ISt) (a1 : Int) (okI : Int → ISt → ISt → ISt → Prop) (exI : String → Prop) (ok : Int32 → St → St → St → Prop) (ex : String → Prop) (hk : ∀ r h1 h2 h3, okI r h1 h2 h3 → ok (zI r) (zS h1) (zS h2) (zS h3)) (hx : ∀ E, exI E → ex E) (hq : Q_X4_ruling hh hs hr a1 okI exI) : P_X4_ruling (zS hh) (zS hs) (zS hr) (zI a1) ok ex := by
  intro V28 k28
  have hq := hq (fun t0 => V28 (zI t0))
  have hq := hq (by
    intro t0 hq
    refine k28 (zI t0) ?_
    try simp only [z_m1, z_0, z_1, z_2, z_3, z_4, z_5, z_6, z_8, z_9, z_10, z_12, z_16, z_30, z_31, z_99, z_300, z_500, z_600, z_20000, zadd, zsub, zmul, zneg, zap]
    have r0 := hq.1
    have hq := hq.2
    have ci := not_congr (z_eq (a := t0) (b := 0) r0 ⟨by decide, by decide⟩)
    refine ⟨fun c => ?_, fun c => ?_⟩
    · have hq := hq.1 (by first | exact ci.mp c | exact absurd trivial c)
      obtain ⟨r4, hr4, hq⟩ := hq
      refine ⟨zI r4, t_X4_playedBy hh hs hr a1 r4 hr4, ?_⟩
      try simp only [z_m1, z_0, z_1, z_2, z_3, z_4, z_5, z_6, z_8, z_9, z_10, z_12, z_16, z_30, z_31, z_99, z_300, z_500, z_600, z_20000, zadd, zsub, zmul, zneg, zap]
      obtain ⟨r5, hr5, hq⟩ := hq
      refine ⟨zI r5, t_X4_holdingFor hh hs hr a1 r5 hr5, ?_⟩
      try simp only [z_m1, z_0, z_1, z_2, z_3, z_4, z_5, z_6, z_8, z_9, z_10, z_12, z_16, z_30, z_31, z_99, z_300, z_500, z_600, z_20000, zadd, zsub, zmul, zneg, zap]
      obtain ⟨r6, hr6, hq⟩ := hq
      refine ⟨zI r6, t_X1_rulingGoingDown hr r4 r5 r6 hr6, ?_⟩
      try simp only [z_m1, z_0, z_1, z_2, z_3, z_4, z_5, z_6, z_8, z_9, z_10, z_12, z_16, z_30, z_31, z_99, z_300, z_500, z_600, z_20000, zadd, zsub, zmul, zneg, zap]
      exact hk _ _ _ _ hq
    · first | exact hx _ (hq.2 (fun h => c (ci.mpr h))) | exact hx _ (hq.2 (fun h => h rfl)))
  try simp only [z_m1, z_0, z_1, z_2, z_3, z_4, z_5, z_6, z_8, z_9, z_10, z_12, z_16, z_30, z_31, z_99, z_300, z_500, z_600, z_20000, zadd, zsub, zmul, zneg, zap]
  have r0 := hq.1
  have hq := hq.2
  have r1 := hq.1
  have hq := hq.2
  have ci := and_congr (not_congr (z_lt (a := a1) (b := 0) r0 ⟨by decide, by decide⟩)) (z_lt (a := a1) (b := (hh 0 2)) r0 r1)
  refine ⟨fun c => ?_, fun c => ?_⟩
  · have hq := hq.1 (by first | exact ci.mp c | exact absurd trivial c)
    obtain ⟨r2, hr2, hq⟩ := hq
    refine ⟨zI r2, t_X3_heldBy hs a1 r2 hr2, ?_⟩
    try simp only [z_m1, z_0, z_1, z_2, z_3, z_4, z_5, z_6, z_8, z_9, z_10, z_12, z_16, z_30, z_31, z_99, z_300, z_500, z_600, z_20000, zadd, zsub, zmul, zneg, zap]
    have rx := hq.1
    have hq := hq.2
    refine ⟨fun c => ?_, fun c => ?_⟩
    · have hq := hq.1 ((z_eq rx ⟨by decide, by decide⟩).mp c)
      exact hq
    · have hq := hq.2 (fun h => c ((z_eq rx ⟨by decide, by decide⟩).mpr h))
      exact hq
  · first | exact hx _ (hq.2 (fun h => c (ci.mpr h))) | exact hx _ (hq.2 (fun h => h rfl))
set_option maxRecDepth 100000 in
set_option maxHeartbeats 4000000 in
theorem tm_X4_rulingFromBelow (hh hs hr : ISt) (a1 : Int) (okI : Int → ISt → ISt → ISt → Prop) (exI : String → Prop) (ok : Int32 → St → St → St → Prop) (ex : String → Prop) (hk : ∀ r h1 h2 h3, okI r h1 h2 h3 → ok (zI r) (zS h1) (zS h2) (zS h3)) (hx : ∀ E, exI E → ex E) (hq : Q_X4_rulingFromBelow hh hs hr a1 okI exI) : P_X4_rulingFromBelow (zS hh) (zS hs) (zS hr) (zI a1) ok ex := by
  intro V28 k28
  have hq := hq (fun t0 => V28 (zI t0))
  have hq := hq (by
    intro t0 hq
    refine k28 (zI t0) ?_
    try simp only [z_m1, z_0, z_1, z_2, z_3, z_4, z_5, z_6, z_8, z_9, z_10, z_12, z_16, z_30, z_31, z_99, z_300, z_500, z_600, z_20000, zadd, zsub, zmul, zneg, zap]
    have r0 := hq.1
    have hq := hq.2
    have ci := not_congr (z_eq (a := t0) (b := 0) r0 ⟨by decide, by decide⟩)
    refine ⟨fun c => ?_, fun c => ?_⟩
    · have hq := hq.1 (by first | exact ci.mp c | exact absurd trivial c)
      obtain ⟨r4, hr4, hq⟩ := hq
      refine ⟨zI r4, t_X4_playedBy hh hs hr a1 r4 hr4, ?_⟩
      try simp only [z_m1, z_0, z_1, z_2, z_3, z_4, z_5, z_6, z_8, z_9, z_10, z_12, z_16, z_30, z_31, z_99, z_300, z_500, z_600, z_20000, zadd, zsub, zmul, zneg, zap]
      obtain ⟨r5, hr5, hq⟩ := hq
      refine ⟨zI r5, t_X4_holdingFor hh hs hr a1 r5 hr5, ?_⟩
      try simp only [z_m1, z_0, z_1, z_2, z_3, z_4, z_5, z_6, z_8, z_9, z_10, z_12, z_16, z_30, z_31, z_99, z_300, z_500, z_600, z_20000, zadd, zsub, zmul, zneg, zap]
      obtain ⟨r6, hr6, hq⟩ := hq
      refine ⟨zI r6, t_X1_rulingGoingUp hr r4 r5 r6 hr6, ?_⟩
      try simp only [z_m1, z_0, z_1, z_2, z_3, z_4, z_5, z_6, z_8, z_9, z_10, z_12, z_16, z_30, z_31, z_99, z_300, z_500, z_600, z_20000, zadd, zsub, zmul, zneg, zap]
      exact hk _ _ _ _ hq
    · first | exact hx _ (hq.2 (fun h => c (ci.mpr h))) | exact hx _ (hq.2 (fun h => h rfl)))
  try simp only [z_m1, z_0, z_1, z_2, z_3, z_4, z_5, z_6, z_8, z_9, z_10, z_12, z_16, z_30, z_31, z_99, z_300, z_500, z_600, z_20000, zadd, zsub, zmul, zneg, zap]
  have r0 := hq.1
  have hq := hq.2
  have r1 := hq.1
  have hq := hq.2
  have ci := and_congr (not_congr (z_lt (a := a1) (b := 0) r0 ⟨by decide, by decide⟩)) (z_lt (a := a1) (b := (hh 0 2)) r0 r1)
  refine ⟨fun c => ?_, fun c => ?_⟩
  · have hq := hq.1 (by first | exact ci.mp c | exact absurd trivial c)
    obtain ⟨r2, hr2, hq⟩ := hq
    refine ⟨zI r2, t_X3_heldBy hs a1 r2 hr2, ?_⟩
    try simp only [z_m1, z_0, z_1, z_2, z_3, z_4, z_5, z_6, z_8, z_9, z_10, z_12, z_16, z_30, z_31, z_99, z_300, z_500, z_600, z_20000, zadd, zsub, zmul, zneg, zap]
    have rx := hq.1
    have hq := hq.2
    refine ⟨fun c => ?_, fun c => ?_⟩
    · have hq := hq.1 ((z_eq rx ⟨by decide, by decide⟩).mp c)
      exact hq
    · have hq := hq.2 (fun h => c ((z_eq rx ⟨by decide, by decide⟩).mpr h))
      exact hq
  · first | exact hx _ (hq.2 (fun h => c (ci.mpr h))) | exact hx _ (hq.2 (fun h => h rfl))
def Q_L_asks (hh hs hr : ISt) (a1 a2 a3 a4 : Int) (ok : Int → ISt → ISt → ISt → Prop) (ex : String → Prop) : Prop := inR a1 ∧ ((¬ a1 = (0 : Int) → (inR a1 ∧ ((¬ a1 = (1 : Int) → (inR a1 ∧ ((¬ a1 = (2 : Int) → (inR a1 ∧ ((¬ a1 = (3 : Int) → (inR a1 ∧ ((¬ a1 = (4 : Int) → (inR a1 ∧ ((¬ a1 = (5 : Int) → (inR a1 ∧ ((¬ a1 = (6 : Int) → (inR a1 ∧ ((¬ a1 = (7 : Int) → (Q_X4_arrive hh hs hr a2 a3 ok ex)) ∧ (a1 = (7 : Int) → (Q_X4_offerAt hh hs hr a2 a3 ok ex))))) ∧ (a1 = (6 : Int) → (Q_X4_rulingFromBelow hh hs hr a2 ok ex))))) ∧ (a1 = (5 : Int) → (Q_X4_ruling hh hs hr a2 ok ex))))) ∧ (a1 = (4 : Int) → (Q_X4_found hh hs hr a2 a3 a4 ok ex))))) ∧ (a1 = (3 : Int) → (Q_X4_giveBack hh hs hr a2 a3 a4 ok ex))))) ∧ (a1 = (2 : Int) → (Q_X4_serve hh hs hr a2 a3 ok ex))))) ∧ (a1 = (1 : Int) → (Q_X4_left hh hs hr a2 ok ex))))) ∧ (a1 = (0 : Int) → (Q_X4_leave hh hs hr a2 ok ex)))
set_option maxRecDepth 100000 in
set_option maxHeartbeats 4000000 in
theorem tm_L_asks (hh hs hr : ISt) (a1 a2 a3 a4 : Int) (okI : Int → ISt → ISt → ISt → Prop) (exI : String → Prop) (ok : Int32 → St → St → St → Prop) (ex : String → Prop) (hk : ∀ r h1 h2 h3, okI r h1 h2 h3 → ok (zI r) (zS h1) (zS h2) (zS h3)) (hx : ∀ E, exI E → ex E) (hq : Q_L_asks hh hs hr a1 a2 a3 a4 okI exI) : P_L_asks (zS hh) (zS hs) (zS hr) (zI a1) (zI a2) (zI a3) (zI a4) ok ex := by
  unfold P_L_asks
  unfold Q_L_asks at hq
  try simp only [z_m1, z_0, z_1, z_2, z_3, z_4, z_5, z_6, z_8, z_9, z_10, z_12, z_16, z_30, z_31, z_99, z_300, z_500, z_600, z_20000, zadd, zsub, zmul, zneg, zap]
  have rx := hq.1
  have hq := hq.2
  refine ⟨fun c => ?_, fun c => ?_⟩
  · have hq := hq.1 (fun h => c ((z_eq rx ⟨by decide, by decide⟩).mpr h))
    have rx := hq.1
    have hq := hq.2
    refine ⟨fun c => ?_, fun c => ?_⟩
    · have hq := hq.1 (fun h => c ((z_eq rx ⟨by decide, by decide⟩).mpr h))
      have rx := hq.1
      have hq := hq.2
      refine ⟨fun c => ?_, fun c => ?_⟩
      · have hq := hq.1 (fun h => c ((z_eq rx ⟨by decide, by decide⟩).mpr h))
        have rx := hq.1
        have hq := hq.2
        refine ⟨fun c => ?_, fun c => ?_⟩
        · have hq := hq.1 (fun h => c ((z_eq rx ⟨by decide, by decide⟩).mpr h))
          have rx := hq.1
          have hq := hq.2
          refine ⟨fun c => ?_, fun c => ?_⟩
          · have hq := hq.1 (fun h => c ((z_eq rx ⟨by decide, by decide⟩).mpr h))
            have rx := hq.1
            have hq := hq.2
            refine ⟨fun c => ?_, fun c => ?_⟩
            · have hq := hq.1 (fun h => c ((z_eq rx ⟨by decide, by decide⟩).mpr h))
              have rx := hq.1
              have hq := hq.2
              refine ⟨fun c => ?_, fun c => ?_⟩
              · have hq := hq.1 (fun h => c ((z_eq rx ⟨by decide, by decide⟩).mpr h))
                have rx := hq.1
                have hq := hq.2
                refine ⟨fun c => ?_, fun c => ?_⟩
                · have hq := hq.1 (fun h => c ((z_eq rx ⟨by decide, by decide⟩).mpr h))
                  exact tm_X4_arrive hh hs hr a2 a3 okI exI ok ex hk hx hq
                · have hq := hq.2 ((z_eq rx ⟨by decide, by decide⟩).mp c)
                  exact tm_X4_offerAt hh hs hr a2 a3 okI exI ok ex hk hx hq
              · have hq := hq.2 ((z_eq rx ⟨by decide, by decide⟩).mp c)
                exact tm_X4_rulingFromBelow hh hs hr a2 okI exI ok ex hk hx hq
            · have hq := hq.2 ((z_eq rx ⟨by decide, by decide⟩).mp c)
              exact tm_X4_ruling hh hs hr a2 okI exI ok ex hk hx hq
          · have hq := hq.2 ((z_eq rx ⟨by decide, by decide⟩).mp c)
            exact tm_X4_found hh hs hr a2 a3 a4 okI exI ok ex hk hx hq
        · have hq := hq.2 ((z_eq rx ⟨by decide, by decide⟩).mp c)
          exact tm_X4_giveBack hh hs hr a2 a3 a4 okI exI ok ex hk hx hq
      · have hq := hq.2 ((z_eq rx ⟨by decide, by decide⟩).mp c)
        exact tm_X4_serve hh hs hr a2 a3 okI exI ok ex hk hx hq
    · have hq := hq.2 ((z_eq rx ⟨by decide, by decide⟩).mp c)
      exact tm_X4_left hh hs hr a2 okI exI ok ex hk hx hq
  · have hq := hq.2 ((z_eq rx ⟨by decide, by decide⟩).mp c)
    exact tm_X4_leave hh hs hr a2 okI exI ok ex hk hx hq
def Q_L_on (hh hs hr : ISt) (a1 a2 a3 a4 : Int) (post : Int → ISt → ISt → ISt → Prop) : Prop := Q_L_asks hh hs hr a1 a2 a3 a4 post (fun E => (E = E_i ∧ post (-11) hh hs hr) ∨ (E = E_s ∧ post (-13) hh hs hr))
theorem tm_L_on (hh hs hr : ISt) (a1 a2 a3 a4 : Int) (okI : Int → ISt → ISt → ISt → Prop) (ok : Int32 → St → St → St → Prop) (hk : ∀ r h1 h2 h3, okI r h1 h2 h3 → ok (zI r) (zS h1) (zS h2) (zS h3)) (hq : Q_L_on hh hs hr a1 a2 a3 a4 okI) : P_L_on (zS hh) (zS hs) (zS hr) (zI a1) (zI a2) (zI a3) (zI a4) ok := by
  refine tm_L_asks hh hs hr a1 a2 a3 a4 okI _ ok _ hk ?_ hq
  intro E hE
  rcases hE with ⟨e, h⟩ | ⟨e, h⟩
  · exact Or.inl ⟨e, hk _ _ _ _ h⟩
  · exact Or.inr ⟨e, hk _ _ _ _ h⟩
