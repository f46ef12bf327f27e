theorem q_holding {hr : ISt} {A N : Nat} {off : Nat → Int} {P L Z : Int} (ho : RulesOk hr A N) (hP : 1 ≤ P ∧ P ≤ 12) (hL : inR L) (hZ : inR Z) (hv : ∀ k : Nat, k < N → off k = hol (hr 3 (12 * A + k)) (hr 4 (12 * A + k)) P L Z ∧ (0 ≤ hr 3 (12 * A + k) ∧ hr 3 (12 * A + k) ≤ 3) ∧ (1 ≤ hr 4 (12 * A + k) ∧ hr 4 (12 * A + k) ≤ 300)) : Q_X1_holding hr A P L Z (oset off N) := by
  obtain ⟨e, bA, bN, _⟩ := ho
  intro V k
  have key : ∀ (j x : Nat), x + j = N → V (oset off x) x := by
    intro j
    induction j with
    | zero =>
      intro x hx
      have hx : x = N := hx
      refine k _ _ ⟨(by unfold inR; omega), ?_⟩
      rw [ina A bA, e]
      refine ⟨(by unfold inR; omega), (by unfold inR; omega), bt (by omega) ?_⟩
      rw [hx]
    | succ j ih =>
      intro x hx
      obtain ⟨v1, v2, v3⟩ := hv x (by omega)
      have z := ih (x + 1) (by omega)
      have hb := hol_b (hr 3 (12 * A + x)) (hr 4 (12 * A + x)) P L Z
      have st : oset off (x + 1) = if off x = 0 then oset off x else iior (oset off x) (ishl1 x) := rfl
      rw [st] at z
      have i3 : iat 96 (hr 3) ((A : Int) * 12 + x) = hr 3 (12 * A + x) := by
        rw [ia (by omega) (by omega)]
        exact congrArg (hr 3) (by omega)
      have i4 : iat 96 (hr 4) ((A : Int) * 12 + x) = hr 4 (12 * A + x) := by
        rw [ia (by omega) (by omega)]
        exact congrArg (hr 4) (by omega)
      refine k _ _ ⟨(by unfold inR; omega), ?_⟩
      rw [ina A bA, e, i3, i4]
      refine ⟨(by unfold inR; omega), (by unfold inR; omega), bf (by omega) ⟨(by unfold inR; omega), (by unfold inR; omega), _, q_hol3 v2.1 v2.2 v3.1 v3.2 hP hL hZ, by rw [← v1] at hb ⊢; unfold inR; omega, ?_, ?_⟩⟩
      · intro c
        rw [if_pos (v1.trans c)] at z
        exact z
      · intro c
        rw [if_neg (by rw [v1]; exact c)] at z
        exact ⟨by omega, (oset_b off x (by omega)).1, ishl_p x, z⟩
  exact key N 0 (by omega)
theorem q_hol5 {hh hs hr hm : ISt} (hR : RelI hh hs hr hm) {n C g A N x : Nat} (ho : CopyOk hs n) (hg : (g : Int) < hh 0 2) (e7 : hm 7 g = C) (hC : C < n) (h6 : hh 6 g = 1) (hA : RulesOk hr A N) (hx : x < N) :
    Q_X5_holds hm g (12 * (A : Int) + x) (hol (hr 3 (12 * A + x)) (hr 4 (12 * A + x)) (hh 3 g) (imax (hh 5 g - hh 0 0) 0) (tot (lrow hs C) (4 * n))) := by
  have lm := q_lentModel hR ho hC
  have lb := tot_b (4 * n) (lrow_b hR ho (C := C))
  have bn := ho.2.1
  obtain ⟨⟨⟨e01, b01, b01'⟩, h4, ⟨e10, b10, b10'⟩, hT, hT2, hT3, hG, hG0, hG3⟩, hS, hO, hL, ⟨hF1, hF2, hF3⟩, hSc⟩ := hR
  obtain ⟨e, bA, bN, _⟩ := hA
  obtain ⟨⟨p3, p3a, p3b⟩, ⟨p4, p4a, p4b⟩, p5, p6⟩ := hG g hg
  have p6 := p6 h6
  have q3 := hG3 g (by omega)
  obtain ⟨_, ⟨v1, v2, v3⟩, ⟨w1, w2, w3⟩, _⟩ := hF3 A x bA (by omega)
  have i : (12 * (A : Int) + x).toNat = 12 * A + x := by omega
  have pm : 0 ≤ hh 3 g % hr 4 (12 * A + x) ∧ hh 3 g % hr 4 (12 * A + x) < hr 4 (12 * A + x) := ⟨Int.emod_nonneg _ (by omega), Int.emod_lt_of_pos _ (by omega)⟩
  have lf : Q_X5_leftOf hm g (imax (hh 5 g - hh 0 0) 0) := by
    refine ⟨by omega, by omega, ?_⟩
    rw [Int.toNat_natCast]
    refine ⟨(by unfold inR; omega), ?_, ?_⟩
    · intro c
      unfold imax
      rw [if_neg (by omega)]
      omega
    · intro c
      unfold imax
      rw [if_pos (by omega)]
  have lr : inR (imax (hh 5 g - hh 0 0) 0) := by
    unfold imax inR
    split <;> omega
  unfold Q_X5_holds hol
  rw [i, v1, w1, Int.toNat_natCast, p3, e7]
  refine ⟨by omega, by omega, (by unfold inR; omega), ?_, ?_⟩
  · intro c
    rw [if_pos c]
    exact ⟨by omega, (by unfold inR; omega), (by unfold inR; omega), fun d => if_pos d, fun d => if_neg d⟩
  · intro c
    rw [if_neg c]
    refine ⟨?_, ?_⟩
    · intro d
      rw [if_pos d]
      exact ⟨_, lf, lr, (by unfold inR; omega), fun e => if_pos e, fun e => if_neg e⟩
    · intro d
      rw [if_neg d]
      refine ⟨?_, ?_⟩
      · intro e
        rw [if_pos e]
        exact ⟨by omega, by omega, by omega, by unfold inR; omega, fun f => if_neg f, fun f => if_pos f⟩
      · intro e
        rw [if_neg e]
        exact ⟨by omega, _, lm, (by unfold inR; omega), (by unfold inR; omega), fun f => if_pos f, fun f => if_neg f⟩
theorem rul_ex {hh hs hr hm : ISt} (hR : RelI hh hs hr hm) {g : Nat} (hg : (g : Int) < hh 0 2) (e7 : hm 7 g ≠ -1) :
    ∃ (A N : Nat) (pa off : Nat → Int), RuOk hr A N pa off ∧ Q_X4_playedBy hh hs hr g A ∧ Q_X4_holdingFor hh hs hr g (oset off N) ∧ Q_X5_rulingFor hm g (rul (fun k => hr 5 (12 * A + k)) (rch pa off N 12)) := by
  have hR0 := hR
  obtain ⟨n, ho, en19⟩ := copy_ok hR
  have ho' := ho
  obtain ⟨en, bn, hrg⟩ := ho'
  obtain ⟨⟨⟨e01, b01, b01'⟩, h4, ⟨e10, b10, b10'⟩, hT, hT2, hT3, hG, hG0, hG3⟩, ⟨⟨e15, b15, b15'⟩, ⟨e19, b19, b19'⟩, hS1, hS2, hS3, hS4, hS5, hS6, hS7⟩, ⟨hO1, hO2⟩, hL, ⟨hF1, hF2, hF3⟩, hSc⟩ := hR
  obtain ⟨u1, u2, u3, u4⟩ : 0 ≤ hm 7 g ∧ hm 7 g < hs 0 1 ∧ hs 6 (hm 7 g).toNat = g ∧ ∀ c : Nat, (c : Int) < hs 0 1 → hs 6 c = g → (c : Int) = hm 7 g := by
    rcases hO1 g hg with u | u
    · exact absurd u.1 e7
    · exact u
  obtain ⟨C, eC⟩ := nat_of u1
  rw [eC, Int.toNat_natCast] at u3
  have h6 : hh 6 g = 1 := by
    have z := hO2 C (by omega) (by omega)
    rw [u3, Int.toNat_natCast] at z
    exact z
  obtain ⟨⟨p1, p2, p3⟩, _⟩ := hS3 C (by omega)
  obtain ⟨A, eA⟩ := nat_of p2
  obtain ⟨N, hA, eM⟩ := rules_ok hR0 (show A < 8 by omega)
  have hA' := hA
  obtain ⟨e, bA, bN, hP⟩ := hA'
  obtain ⟨⟨g3, g3a, g3b⟩, ⟨g4, g4a, g4b⟩, g5, g6⟩ := hG g hg
  have g6 := g6 h6
  have gg := hG3 g (by omega)
  have lb := tot_b (4 * n) (lrow_b hR0 ho (C := C))
  have ru : RuOk hr A N (fun k => hr 2 (12 * A + k)) (fun k => hol (hr 3 (12 * A + k)) (hr 4 (12 * A + k)) (hh 3 g) (imax (hh 5 g - hh 0 0) 0) (tot (lrow hs C) (4 * n))) := ⟨hA, fun k hk => ⟨rfl, hP k hk⟩⟩
  have held : Q_X3_heldBy hs g C := by
    have z := q_held hR0 hg
    rw [eC] at z
    exact z
  have pl : Q_X4_playedBy hh hs hr g A := by
    refine ⟨C, held, (by unfold inR; omega), ?_⟩
    rw [ina C (by omega)]
    exact eA.symm
  refine ⟨A, N, _, _, ru, pl, ?_, ?_⟩
  · refine ⟨C, held, _, q_lentClass hR0 ho (by omega), A, pl, (by unfold inR; omega), imax (hh 5 g - hh 0 0) 0, ⟨(by unfold inR; omega), ?_⟩, _, ?_, rfl⟩
    · rw [ina g (by omega)]
      exact ⟨(by unfold inR; omega), rfl⟩
    · rw [ina g (by omega)]
      refine q_holding hA ⟨g3a, g3b⟩ ?_ (by unfold inR; omega) (fun k hk => ⟨rfl, ?_, ?_⟩)
      · unfold imax inR
        split <;> omega
      · exact (hF3 A k bA (by omega)).2.1.2
      · exact (hF3 A k bA (by omega)).2.2.1.2
  · -- the model
    have ft : ∀ p : Int, inR p → Q_X5_firstThat hm g A p (fhd (fun k => hr 2 (12 * A + k)) (fun k => hol (hr 3 (12 * A + k)) (hr 4 (12 * A + k)) (hh 3 g) (imax (hh 5 g - hh 0 0) 0) (tot (lrow hs C) (4 * n))) p N 0) := by
      intro p hp V k
      have key : ∀ (j x : Nat), x + j = N → fhd (fun k => hr 2 (12 * A + k)) (fun k => hol (hr 3 (12 * A + k)) (hr 4 (12 * A + k)) (hh 3 g) (imax (hh 5 g - hh 0 0) 0) (tot (lrow hs C) (4 * n))) p N 0 = fhd (fun k => hr 2 (12 * A + k)) (fun k => hol (hr 3 (12 * A + k)) (hr 4 (12 * A + k)) (hh 3 g) (imax (hh 5 g - hh 0 0) 0) (tot (lrow hs C) (4 * n))) p j x → V x := by
        intro j
        induction j with
        | zero =>
          intro x hx q
          refine k _ ⟨by omega, (by unfold inR; omega), ?_⟩
          rw [Int.toNat_natCast, eM]
          exact ⟨(by unfold inR; omega), bt (by omega) q⟩
        | succ j ih =>
          intro x hx q
          have q : fhd (fun k => hr 2 (12 * A + k)) (fun k => hol (hr 3 (12 * A + k)) (hr 4 (12 * A + k)) (hh 3 g) (imax (hh 5 g - hh 0 0) 0) (tot (lrow hs C) (4 * n))) p N 0 = if hr 2 (12 * A + x) = p ∧ hol (hr 3 (12 * A + x)) (hr 4 (12 * A + x)) (hh 3 g) (imax (hh 5 g - hh 0 0) 0) (tot (lrow hs C) (4 * n)) ≠ 0 then (x : Int) else fhd (fun k => hr 2 (12 * A + k)) (fun k => hol (hr 3 (12 * A + k)) (hr 4 (12 * A + k)) (hh 3 g) (imax (hh 5 g - hh 0 0) 0) (tot (lrow hs C) (4 * n))) p j (x + 1) := q
          have m19 := (hF3 A x bA (by omega)).1
          have hb := hol_b (hr 3 (12 * A + x)) (hr 4 (12 * A + x)) (hh 3 g) (imax (hh 5 g - hh 0 0) 0) (tot (lrow hs C) (4 * n))
          have i : (12 * (A : Int) + x).toNat = 12 * A + x := by omega
          refine k _ ⟨by omega, (by unfold inR; omega), ?_⟩
          rw [Int.toNat_natCast, eM]
          refine ⟨(by unfold inR; omega), bf (by omega) ⟨by omega, ?_⟩⟩
          rw [i, m19.1]
          refine ⟨(by unfold inR; omega), hp, ?_, ?_⟩
          · intro c
            rw [if_neg (fun u => c u.1)] at q
            exact ih (x + 1) (by omega) q
          · intro c
            refine ⟨_, q_hol5 hR0 ho hg eC (show C < n by omega) h6 hA (show x < N by omega), by unfold inR; omega, ?_, ?_⟩
            · intro d
              rw [if_neg (fun u => u.2 d)] at q
              exact ih (x + 1) (by omega) q
            · intro d
              rw [if_pos ⟨c, d⟩] at q
              exact q
      exact key N 0 (by omega) rfl
    intro V23 k23
    refine ⟨by omega, ?_⟩
    rw [Int.toNat_natCast, eC, Int.toNat_natCast, p1, eA]
    refine ⟨by omega, _, ft (-1) (by unfold inR; omega), ?_⟩
    have key : ∀ (j i : Nat), i + j = 12 → V23 A (rch (fun k => hr 2 (12 * A + k)) (fun k => hol (hr 3 (12 * A + k)) (hr 4 (12 * A + k)) (hh 3 g) (imax (hh 5 g - hh 0 0) 0) (tot (lrow hs C) (4 * n))) N i) (fhd (fun k => hr 2 (12 * A + k)) (fun k => hol (hr 3 (12 * A + k)) (hr 4 (12 * A + k)) (hh 3 g) (imax (hh 5 g - hh 0 0) 0) (tot (lrow hs C) (4 * n))) (rch (fun k => hr 2 (12 * A + k)) (fun k => hol (hr 3 (12 * A + k)) (hr 4 (12 * A + k)) (hh 3 g) (imax (hh 5 g - hh 0 0) 0) (tot (lrow hs C) (4 * n))) N i) N 0) := by
      intro j
      generalize (fun k => hr 2 (12 * A + k)) = pa at *
      generalize (fun k => hol (hr 3 (12 * A + k)) (hr 4 (12 * A + k)) (hh 3 g) (imax (hh 5 g - hh 0 0) 0) (tot (lrow hs C) (4 * n))) = off at *
      have stop : ∀ i : Nat, fhd pa off (rch pa off N i) N 0 = -1 → V23 A (rch pa off N i) (fhd pa off (rch pa off N i) N 0) := by
        intro i c
        have b := rch_b ru i
        have d := rch_end ru c
        refine k23 _ _ _ ⟨by rw [c]; exact (by unfold inR; omega), bt c ⟨(by unfold inR; omega), ?_, ?_⟩⟩
        · intro f
          obtain ⟨D, eD⟩ := nat_of (show 0 ≤ rch pa off N i by omega)
          have m22 := (hF3 A D bA (by omega)).2.2.2.1
          rw [← d, eD]
          refine ⟨by omega, ?_⟩
          unfold rul
          rw [if_neg (by omega), Int.toNat_natCast, show (12 * (A : Int) + D).toNat = 12 * A + D by omega]
          exact m22.symm
        · intro f
          rw [← d]
          unfold rul
          rw [if_pos f]
      induction j with
      | zero =>
        intro i hi
        have hi : i = 12 := hi
        subst hi
        exact stop 12 (rch_12 ru)
      | succ j ih =>
        intro i hi
        by_cases c : fhd pa off (rch pa off N i) N 0 = -1
        · exact stop i c
        · have z := ih (i + 1) (by omega)
          rw [rch_next c] at z
          have fb : inR (fhd pa off (rch pa off N i) N 0) := by
            rcases fhd_or pa off (rch pa off N i) N 0 with ⟨a, _⟩ | ⟨y, a, b1, b2, _⟩
            · exact absurd a c
            · rw [a]
              exact (by unfold inR; omega)
          exact k23 _ _ _ ⟨fb, bf c ⟨_, ft _ fb, z⟩⟩
    exact key 12 0 rfl
theorem asks_1 {hm : ISt} {g : Nat} (hg : (g : Int) < hm 0 10) (hb : hm 0 10 ≤ 30) (r7 : inR (hm 7 g)) (e7 : hm 7 g ≠ -1) : Q_X5_asks hm g 1 (iset hm 0 0 0) := by
  refine y1 (q_isGroup1 (by omega) hg hb) ⟨by omega, ?_⟩
  rw [Int.toNat_natCast]
  exact ⟨r7, nt e7 ⟨1, _, q_isFine0 hm, Or.inr rfl, rfl, rfl⟩⟩
theorem asks_2 {hm : ISt} {g : Nat} (hg : (g : Int) < hm 0 10) (hb : hm 0 10 ≤ 30) (e7 : hm 7 g = -1) : Q_X5_asks hm g 0 (iset hm 0 0 2) := by
  refine y1 (q_isGroup1 (by omega) hg hb) ⟨by omega, ?_⟩
  rw [Int.toNat_natCast]
  exact ⟨by rw [e7]; exact (by unfold inR; omega), nf e7 ⟨0, _, q_isFine1 hm (by unfold inR; omega) (by decide), Or.inl rfl, rfl, rfl⟩⟩
theorem asks_0 {hm : ISt} {a : Int} (ha : inR a) (h1 : ¬ (0 ≤ a ∧ a < hm 0 10)) (h2 : 0 ≤ hm 0 10 ∧ hm 0 10 ≤ 30) : Q_X5_asks hm a 0 (iset hm 0 0 1) :=
  y0 (q_isGroup0 ha h1 h2) ⟨0, _, q_isFine1 hm (by unfold inR; omega) (by decide), Or.inl rfl, rfl, rfl⟩
theorem held_r {hh hs hr hm : ISt} (hR : RelI hh hs hr hm) {g : Nat} (hg : (g : Int) < hh 0 2) : inR (hm 7 g) := by
  have b19 := hR.2.1.2.1
  rcases hR.2.2.1.1 g hg with u | u
  · unfold inR; omega
  · unfold inR; omega
theorem si_ruling : SimI_ruling RelI := by
  intro hh hs hr hm a1 ha hR
  have e10 := hR.1.2.2.1
  by_cases c1 : 0 ≤ a1 ∧ a1 < hh 0 2
  · obtain ⟨g, eg⟩ := nat_of c1.1
    subst eg
    have r7 := held_r hR c1.2
    by_cases c2 : hm 7 g = -1
    · refine ⟨0, iset hm 0 0 2, ⟨0, _, asks_2 (by omega) (by omega) c2, R0, bt rfl ⟨rfl, rfl⟩⟩, ?_⟩
      intro ok ex _ _ hex V k
      exact ⟨ha, (by unfold inR; omega), bt ⟨by omega, by omega⟩ ⟨_, q_held hR c1.2, r7, bt c2 (k _ ⟨R0, bf (by simp) (hex rfl (rel_thrown hR 2))⟩)⟩⟩
    · obtain ⟨A, N, pa, off, q1, q2, q3, q4⟩ := rul_ex (rel_thrown hR 0) c1.2 c2
      refine ⟨_, iset hm 0 0 0, ⟨1, _, asks_1 (by omega) (by omega) r7 c2, R1, bf n10 ⟨_, q4, rfl, rfl⟩⟩, ?_⟩
      intro ok ex hok _ _ V k
      exact ⟨ha, (by unfold inR; omega), bt ⟨by omega, by omega⟩ ⟨_, q_held hR c1.2, r7, bf c2 (k _ ⟨R1, bt n10 ⟨_, q2, _, q3, _, q_down q1, hok hh hs hr rfl (rel_thrown hR 0)⟩⟩)⟩⟩
  · refine ⟨0, iset hm 0 0 1, ⟨0, _, asks_0 ha (by omega) (by omega), R0, bt rfl ⟨rfl, rfl⟩⟩, ?_⟩
    intro ok ex _ hex _ V k
    exact ⟨ha, (by unfold inR; omega), bf (by omega) (hex rfl (rel_thrown hR 1))⟩
theorem si_rulingFromBelow : SimI_rulingFromBelow RelI := by
  intro hh hs hr hm a1 ha hR
  have e10 := hR.1.2.2.1
  by_cases c1 : 0 ≤ a1 ∧ a1 < hh 0 2
  · obtain ⟨g, eg⟩ := nat_of c1.1
    subst eg
    have r7 := held_r hR c1.2
    by_cases c2 : hm 7 g = -1
    · refine ⟨0, iset hm 0 0 2, ⟨0, _, asks_2 (by omega) (by omega) c2, R0, bt rfl ⟨rfl, rfl⟩⟩, ?_⟩
      intro ok ex _ _ hex V k
      exact ⟨ha, (by unfold inR; omega), bt ⟨by omega, by omega⟩ ⟨_, q_held hR c1.2, r7, bt c2 (k _ ⟨R0, bf (by simp) (hex rfl (rel_thrown hR 2))⟩)⟩⟩
    · obtain ⟨A, N, pa, off, q1, q2, q3, q4⟩ := rul_ex (rel_thrown hR 0) c1.2 c2
      refine ⟨_, iset hm 0 0 0, ⟨1, _, asks_1 (by omega) (by omega) r7 c2, R1, bf n10 ⟨_, q4, rfl, rfl⟩⟩, ?_⟩
      intro ok ex hok _ _ V k
      exact ⟨ha, (by unfold inR; omega), bt ⟨by omega, by omega⟩ ⟨_, q_held hR c1.2, r7, bf c2 (k _ ⟨R1, bt n10 ⟨_, q2, _, q3, _, q_up q1, hok hh hs hr rfl (rel_thrown hR 0)⟩⟩)⟩⟩
  · refine ⟨0, iset hm 0 0 1, ⟨0, _, asks_0 ha (by omega) (by omega), R0, bt rfl ⟨rfl, rfl⟩⟩, ?_⟩
    intro ok ex _ hex _ V k
    exact ⟨ha, (by unfold inR; omega), bf (by omega) (hex rfl (rel_thrown hR 1))⟩
