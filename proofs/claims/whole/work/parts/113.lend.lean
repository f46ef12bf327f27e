theorem ior_b {s : Int} {x : Nat} (h0 : 0 ≤ s) (h1 : s < 65536) (hx : x < 16) : 0 ≤ iior s (ishl1 x) ∧ iior s (ishl1 x) < 65536 := by
  have e : (ishl1 x).toNat = 2 ^ x := by
    unfold ishl1
    rw [Int.toNat_natCast, Int.toNat_natCast]
  have a : s.toNat < 2 ^ 16 := by omega
  have b : 2 ^ x < 2 ^ 16 := Nat.pow_lt_pow_right (by omega) hx
  have c := Nat.or_lt_two_pow a b
  unfold iior
  rw [e]
  have d : (2 : Nat) ^ 16 = 65536 := rfl
  omega
theorem ishl_p (x : Nat) : 0 ≤ ishl1 x := by
  exact Int.natCast_nonneg _
theorem ior_0 {s : Int} (h0 : 0 ≤ s) : iior s 0 = s := by
  have e : s.toNat ||| (0 : Int).toNat = s.toNat := Nat.or_zero _
  unfold iior
  rw [e]
  omega
theorem ishr_b {s : Int} (h0 : 0 ≤ s) (h1 : s < 65536) (x : Nat) : ishr s x = ((s.toNat / 2 ^ x : Nat) : Int) ∧ 0 ≤ ishr s x ∧ ishr s x < 65536 := by
  have e : ishr s x = ((s.toNat / 2 ^ x : Nat) : Int) := by
    unfold ishr
    rw [Int.toNat_natCast, Nat.shiftRight_eq_div_pow]
  have b : s.toNat / 2 ^ x ≤ s.toNat := Nat.div_le_self _ _
  rw [e]
  exact ⟨rfl, Int.natCast_nonneg _, Int.lt_of_le_of_lt (Int.ofNat_le.mpr b) (by omega)⟩
theorem q_cnt {s : Int} (h0 : 0 ≤ s) (h1 : s < 65536) : Q_X5_count s (bsum s.toNat 16 : Nat) := by
  intro V k
  have key : ∀ j x : Nat, x + j = 16 → V (bsum s.toNat x : Nat) x := by
    intro j
    induction j with
    | zero =>
      intro x hx
      have hx : x = 16 := hx
      subst hx
      exact k _ _ ⟨(by unfold inR; omega), bt (by omega) rfl⟩
    | succ j ih =>
      intro x hx
      have z := ih (x + 1) (by omega)
      obtain ⟨b1, b2, b3⟩ := ishr_b h0 h1 x
      refine k _ _ ⟨(by unfold inR; omega), bf (by omega) ⟨by omega, by omega, by omega, ?_⟩⟩
      have e : ((bsum s.toNat x : Nat) : Int) + ishr s x % 2 = ((bsum s.toNat (x + 1) : Nat) : Int) := by
        show _ = ((bsum s.toNat x + s.toNat / 2 ^ x % 2 : Nat) : Int)
        rw [b1]
        omega
      rw [e]
      exact z
  exact key 16 0 rfl
theorem bsum_b (n : Nat) : ∀ k, bsum n k ≤ k := by
  intro k
  induction k with
  | zero => exact Nat.le_refl 0
  | succ k ih =>
    unfold bsum
    omega
/-- the shelf's ranges -/
def CopyOk (h : ISt) (n : Nat) : Prop := h 0 1 = n ∧ n ≤ 16 ∧ ∀ c : Nat, c < n → (0 ≤ h 5 c ∧ h 5 c < 8) ∧ (-1 ≤ h 6 c ∧ h 6 c < 30) ∧ (-1 ≤ h 7 c ∧ h 7 c < 16)
theorem q_may1 {h : ISt} {n x C : Nat} (ho : CopyOk h n) (hx : x < n) (hC : C < n) (c : x ≠ C ∧ h 5 x = h 5 C ∧ h 6 x = -1 ∧ (h 7 x = -1 ∨ h 7 x = C)) : Q_X3_mayLend h x C 1 := by
  obtain ⟨e, b, hr⟩ := ho
  obtain ⟨x5, x6, x7⟩ := hr x hx
  obtain ⟨y5, y6, y7⟩ := hr C hC
  unfold Q_X3_mayLend
  rw [ina (f := h 5) x (by omega), ina (f := h 5) C (by omega), ina (f := h 6) x (by omega), ina (f := h 7) x (by omega)]
  refine ⟨(by unfold inR; omega), (by unfold inR; omega), bf (by omega) ⟨(by unfold inR; omega), (by unfold inR; omega), (by unfold inR; omega), (by unfold inR; omega), nf c.2.1 ⟨(by unfold inR; omega), (by unfold inR; omega), nf c.2.2.1 ⟨(by unfold inR; omega), (by unfold inR; omega), fun _ => rfl, fun d => ⟨(by unfold inR; omega), (by unfold inR; omega), (by unfold inR; omega), nf (c.2.2.2.resolve_left d) rfl⟩⟩⟩⟩⟩
theorem q_may0 {h : ISt} {n x C : Nat} (ho : CopyOk h n) (hx : x < n) (hC : C < n) (c : ¬ (x ≠ C ∧ h 5 x = h 5 C ∧ h 6 x = -1 ∧ (h 7 x = -1 ∨ h 7 x = C))) : Q_X3_mayLend h x C 0 := by
  obtain ⟨e, b, hr⟩ := ho
  obtain ⟨x5, x6, x7⟩ := hr x hx
  obtain ⟨y5, y6, y7⟩ := hr C hC
  unfold Q_X3_mayLend
  rw [ina (f := h 5) x (by omega), ina (f := h 5) C (by omega), ina (f := h 6) x (by omega), ina (f := h 7) x (by omega)]
  refine ⟨(by unfold inR; omega), (by unfold inR; omega), fun _ => rfl, fun d1 => ⟨(by unfold inR; omega), (by unfold inR; omega), (by unfold inR; omega), (by unfold inR; omega), fun _ => rfl, fun d2 => ⟨(by unfold inR; omega), (by unfold inR; omega), fun _ => rfl, fun d3 => ⟨(by unfold inR; omega), (by unfold inR; omega), fun d4 => absurd ⟨by omega, d2, d3, Or.inl d4⟩ c, fun d4 => ⟨(by unfold inR; omega), (by unfold inR; omega), (by unfold inR; omega), fun _ => rfl, fun d5 => absurd ⟨by omega, d2, d3, Or.inr d5⟩ c⟩⟩⟩⟩⟩
theorem copy_ok {hh hs hr hm : ISt} (hR : RelI hh hs hr hm) : ∃ n : Nat, CopyOk hs n ∧ hm 0 19 = n := by
  obtain ⟨⟨h1, h4, ⟨e10, b10, b10'⟩, hH⟩, ⟨⟨e15, b15, b15'⟩, ⟨e19, b19, b19'⟩, hS1, hS2, hS3, hS4, hS5, hS6, hS7⟩, hO, hL, hF⟩ := hR
  obtain ⟨n, en⟩ := nat_of b19
  refine ⟨n, ⟨en, by omega, fun c hc => ?_⟩, by omega⟩
  obtain ⟨p1, p2, p3, p4⟩ := hS3 c (by omega)
  omega
theorem whr_0 {s : ISt} {c : Nat} (h : s 6 c = -1) (h' : s 7 c = -1) : whr s c = 0 := by
  unfold whr
  rw [if_pos h, if_pos h']
theorem whr_n {s : ISt} {c : Nat} (h : whr s c = 0) : s 6 c = -1 ∧ s 7 c = -1 := by
  unfold whr at h
  by_cases d6 : s 6 c = -1
  · rw [if_pos d6] at h
    by_cases d7 : s 7 c = -1
    · exact ⟨d6, d7⟩
    · rw [if_neg d7] at h
      omega
  · rw [if_neg d6] at h
    omega
theorem whr_b (s : ISt) (c : Nat) : 0 ≤ whr s c ∧ whr s c ≤ 2 := by
  unfold whr
  split
  · split <;> omega
  · omega
def bc (r : Int) : Int := if r = -1 then -1 else (bsum r.toNat 16 : Nat)
theorem bv_tb (m k : Nat) : m / 2 ^ k % 2 = if m.testBit k = true then 1 else 0 := by
  have e := Nat.testBit_eq_decide_div_mod_eq (x := m) (i := k)
  by_cases c : m / 2 ^ k % 2 = 1
  · rw [e, c]
    rfl
  · rw [e, if_neg (by simp [c])]
    omega
theorem tb_or (s : Int) (x k : Nat) : (iior s (ishl1 x)).toNat.testBit k = (s.toNat.testBit k || decide (x = k)) := by
  have e : (ishl1 x).toNat = 2 ^ x := by
    unfold ishl1
    rw [Int.toNat_natCast, Int.toNat_natCast]
  unfold iior
  rw [e, Int.toNat_natCast, Nat.testBit_or, Nat.testBit_two_pow]
theorem bv_or (s : Int) (x k : Nat) : (iior s (ishl1 x)).toNat / 2 ^ k % 2 = if k = x then 1 else s.toNat / 2 ^ k % 2 := by
  rw [bv_tb, bv_tb, tb_or]
  by_cases c : x = k
  · subst c
    simp
  · have c' : k ≠ x := fun h => c h.symm
    simp [c, c']
theorem bsum_l (n C : Nat) (h : n.testBit C = false) : ∀ k, C < k → bsum n k + 1 ≤ k := by
  intro k
  induction k with
  | zero => intro h; omega
  | succ k ih =>
    intro hk
    have e : bsum n (k + 1) = bsum n k + n / 2 ^ k % 2 := rfl
    by_cases c : C = k
    · subst c
      have z := bv_tb n C
      rw [h] at z
      have := bsum_b n C
      simp at z
      omega
    · have := ih (by omega)
      omega
theorem makes_sim {hh hs hr hm : ISt} (hR : RelI hh hs hr hm) {n C : Nat} (ho : CopyOk hs n) (hC : C < n) (c6 : hs 6 C = -1) :
    ∀ (j K : Nat), K + j = 4 → ∀ s : Int, 0 ≤ s → s < 65536 → s.toNat.testBit C = false → ∃ rm : Int, -1 ≤ rm ∧ rm < 65536 ∧ (rm = -1 ∨ rm.toNat.testBit C = false) ∧ L_X5_makes_4 hm C rm s K ∧ L_X3_countLenders_14 hs C (bc rm) s K := by
  have ho' := ho
  obtain ⟨e, b, hrg⟩ := ho'
  obtain ⟨hH, ⟨⟨e15, b15, b15'⟩, ⟨e19, b19, b19'⟩, hS1, hS2, hS3, hS4, hS5, hS6, hS7⟩, hO, ⟨hL1, hL2, hL3, hL4, hL5, hL6⟩, hF⟩ := hR
  obtain ⟨⟨t1, t2, t3⟩, _⟩ := hS3 C (by omega)
  obtain ⟨A, eA⟩ := nat_of t2
  -- what a copy has of a kind
  have has : ∀ x k : Nat, x < n → k < 4 → 0 ≤ hs 9 (4 * x + k) ∧ hs 9 (4 * x + k) ≤ 9 := by
    intro x k hx hk
    have p := hS5 x k (by omega) hk
    obtain ⟨⟨q1, q2, q3⟩, _⟩ := hS3 x (by omega)
    have q := (hS2 (4 * (hs 5 x).toNat + k) (by omega)).2
    omega
  intro j
  induction j with
  | zero =>
    intro K hK s s0 s1 sb
    have hK : K = 4 := hK
    subst hK
    refine ⟨s, by omega, s1, Or.inr sb, ?_, ?_⟩
    · intro V4 V40 V104 V105 V129 k4 k40 k104 k105 k129
      exact k4 _ _ ⟨(by unfold inR; omega), bt (by omega) rfl⟩
    · intro V14 V30 k14 k30
      refine k14 _ _ ⟨(by unfold inR; omega), bt (by omega) ⟨_, ⟨s0, s1, rfl⟩, ?_⟩⟩
      unfold bc
      rw [if_neg (by omega)]
  | succ j ih =>
    intro K hK s s0 s1 sb
    have inner : ∀ (i x : Nat), x + i = n → ∀ (s lk lm : Int), 0 ≤ s → s < 65536 → s.toNat.testBit C = false → -9 ≤ lm → lm ≤ 9 → ((0 ≤ lm ∧ lk = lm) ∨ (lm ≤ 0 ∧ lk = 0)) → ∃ rm : Int, -1 ≤ rm ∧ rm < 65536 ∧ (rm = -1 ∨ rm.toNat.testBit C = false) ∧ L_X5_makes_40 hm C rm s K lm x ∧ L_X3_countLenders_30 hs C (bc rm) s K lk x := by
      intro i
      induction i with
      | zero =>
        intro x hx s lk lm s0 s1 sb m1 m2 lc
        have hx : x = n := hx
        subst hx
        by_cases c : lm ≤ 0
        · obtain ⟨rm, r0, r1, rb, q1, q2⟩ := ih (K + 1) (by omega) s s0 s1 sb
          refine ⟨rm, r0, r1, rb, ?_, ?_⟩
          · intro V4 V40 V104 V105 V129 k4 k40 k104 k105 k129
            exact k40 _ _ _ _ ⟨(by unfold inR; omega), (by unfold inR; omega), bt (by omega) ⟨(by unfold inR; omega), bt c (q1 V4 V40 V104 V105 V129 k4 k40 k104 k105 k129)⟩⟩
          · intro V14 V30 k14 k30
            exact k30 _ _ _ _ ⟨(by unfold inR; omega), (by unfold inR; omega), bt (by omega) ⟨(by unfold inR; omega), bt (by omega) (q2 V14 V30 k14 k30)⟩⟩
        · refine ⟨-1, by omega, by omega, Or.inl rfl, ?_, ?_⟩
          · intro V4 V40 V104 V105 V129 k4 k40 k104 k105 k129
            exact k40 _ _ _ _ ⟨(by unfold inR; omega), (by unfold inR; omega), bt (by omega) ⟨(by unfold inR; omega), bf c rfl⟩⟩
          · intro V14 V30 k14 k30
            exact k30 _ _ _ _ ⟨(by unfold inR; omega), (by unfold inR; omega), bt (by omega) ⟨(by unfold inR; omega), bf (by omega) rfl⟩⟩
      | succ i ih2 =>
        intro x hx s lk lm s0 s1 sb m1 m2 lc
        by_cases c : lm ≤ 0
        · obtain ⟨rm, r0, r1, rb, q1, q2⟩ := ih (K + 1) (by omega) s s0 s1 sb
          refine ⟨rm, r0, r1, rb, ?_, ?_⟩
          · intro V4 V40 V104 V105 V129 k4 k40 k104 k105 k129
            exact k40 _ _ _ _ ⟨(by unfold inR; omega), (by unfold inR; omega), bf (by omega) ⟨(by unfold inR; omega), bt c ⟨(by unfold inR; omega), bt c (q1 V4 V40 V104 V105 V129 k4 k40 k104 k105 k129)⟩⟩⟩
          · intro V14 V30 k14 k30
            exact k30 _ _ _ _ ⟨(by unfold inR; omega), (by unfold inR; omega), bf (by omega) ⟨(by unfold inR; omega), bt (by omega) ⟨(by unfold inR; omega), bt (by omega) (q2 V14 V30 k14 k30)⟩⟩⟩
        · have hx1 := has x K (by omega) (by omega)
          have m14 : hm 14 (4 * (x : Int) + K).toNat = hs 9 (4 * x + K) := by
            rw [show (4 * (x : Int) + K).toNat = 4 * x + K by omega]
            exact hS4 _ (by omega)
          obtain ⟨⟨p1, p2, p3⟩, p4, p5, p6⟩ := hS3 x (by omega)
          have wb := whr_b hs x
          by_cases d : x ≠ C ∧ hs 5 x = hs 5 C ∧ whr hs x = 0 ∧ 0 < hs 9 (4 * x + K)
          · obtain ⟨d1, d2, d3, d4⟩ := d
            have w := whr_n d3
            have ib := ior_b s0 s1 (show x < 16 by omega)
            obtain ⟨rm, r0, r1, rb, q1, q2⟩ := ih2 (x + 1) (by omega) (iior s (ishl1 x)) (lk - imin lk (hs 9 (4 * x + K))) (lm - hs 9 (4 * x + K)) ib.1 ib.2 (by rw [tb_or, sb]; simp [d1]) (by omega) (by omega) (by
              unfold imin
              split <;> omega)
            refine ⟨rm, r0, r1, rb, ?_, ?_⟩
            · intro V4 V40 V104 V105 V129 k4 k40 k104 k105 k129
              have z := q1 V4 V40 V104 V105 V129 k4 k40 k104 k105 k129
              have z129 : V129 s K x 1 (hs 9 (4 * x + K)) lm := k129 _ _ _ _ _ _ ⟨R1, bf n10 ⟨by omega, s0, ishl_p x, z⟩⟩
              have z105 : V105 s K lm x 1 := by
                refine k105 _ _ _ _ _ ⟨R1, bf n10 ⟨by omega, ?_⟩⟩
                rw [m14]
                exact z129
              refine k40 _ _ _ _ ⟨(by unfold inR; omega), (by unfold inR; omega), bf (by omega) ⟨(by unfold inR; omega), bf c ⟨(by unfold inR; omega), (by unfold inR; omega), bf (by omega) ⟨by omega, by omega, ?_⟩⟩⟩⟩
              rw [Int.toNat_natCast, Int.toNat_natCast, p1, t1, p6, m14]
              exact ⟨(by unfold inR; omega), (by unfold inR; omega), nf d2 ⟨by omega, (by unfold inR; omega), nf d3 ⟨by omega, (by unfold inR; omega), bf (by omega) z105⟩⟩⟩
            · intro V14 V30 k14 k30
              have z := q2 V14 V30 k14 k30
              refine k30 _ _ _ _ ⟨(by unfold inR; omega), (by unfold inR; omega), bf (by omega) ⟨(by unfold inR; omega), bf (by omega) ⟨1, q_may1 ho (by omega) hC ⟨d1, d2, w.1, Or.inl w.2⟩, R1, bf n10 ⟨_, q_count (by omega) (by omega), (by unfold inR; omega), bf (by omega) ⟨by omega, s0, ishl_p x, _, q_count (by omega) (by omega), (by unfold inR; omega), (by unfold inR; omega), z⟩⟩⟩⟩⟩
          · obtain ⟨rm, r0, r1, rb, q1, q2⟩ := ih2 (x + 1) (by omega) s lk lm s0 s1 sb m1 m2 lc
            refine ⟨rm, r0, r1, rb, ?_, ?_⟩
            · intro V4 V40 V104 V105 V129 k4 k40 k104 k105 k129
              have z := q1 V4 V40 V104 V105 V129 k4 k40 k104 k105 k129
              have z129 : V129 s K x 0 0 lm := by
                refine k129 _ _ _ _ _ _ ⟨R0, bt rfl ⟨s0, by omega, ?_⟩⟩
                rw [ior_0 s0, Int.sub_zero]
                exact z
              have z104 : V104 s K lm x := k104 _ _ _ _ (k105 _ _ _ _ _ ⟨R0, bt rfl z129⟩)
              refine k40 _ _ _ _ ⟨(by unfold inR; omega), (by unfold inR; omega), bf (by omega) ⟨(by unfold inR; omega), bf c ⟨(by unfold inR; omega), (by unfold inR; omega), fun _ => z104, fun u1 => ⟨by omega, by omega, ?_⟩⟩⟩⟩
              rw [Int.toNat_natCast, Int.toNat_natCast, p1, t1, p6, m14]
              exact ⟨(by unfold inR; omega), (by unfold inR; omega), fun _ => z104, fun u2 => ⟨by omega, (by unfold inR; omega), fun _ => z104, fun u3 => ⟨by omega, (by unfold inR; omega), fun _ => z104, fun u4 => absurd ⟨by omega, u2, u3, by omega⟩ d⟩⟩⟩
            · intro V14 V30 k14 k30
              have z := q2 V14 V30 k14 k30
              by_cases g : x ≠ C ∧ hs 5 x = hs 5 C ∧ hs 6 x = -1 ∧ (hs 7 x = -1 ∨ hs 7 x = C)
              · have g7 : hs 7 x = -1 := by
                  rcases g.2.2.2 with u | u
                  · exact u
                  · have v := (hL5 x (by omega) (by omega)).2.1
                    rw [u, Int.toNat_natCast] at v
                    exact absurd c6 v
                have w0 := whr_0 g.2.2.1 g7
                refine k30 _ _ _ _ ⟨(by unfold inR; omega), (by unfold inR; omega), bf (by omega) ⟨(by unfold inR; omega), bf (by omega) ⟨1, q_may1 ho (by omega) hC g, R1, bf n10 ⟨_, q_count (by omega) (by omega), (by unfold inR; omega), bt ?_ z⟩⟩⟩⟩
                have := fun u => d ⟨g.1, g.2.1, w0, u⟩
                omega
              · exact k30 _ _ _ _ ⟨(by unfold inR; omega), (by unfold inR; omega), bf (by omega) ⟨(by unfold inR; omega), bf (by omega) ⟨0, q_may0 ho (by omega) hC g, R0, bt rfl z⟩⟩⟩
    have f1 := has C K hC (by omega)
    have f2 := (hS2 (4 * A + K) (by omega)).2
    have f3 := hS5 C K (by omega) (by omega)
    have f4 : hs 4 (4 * (hs 5 C).toNat + K) = hs 4 (4 * A + K) := by
      rw [eA, Int.toNat_natCast]
    obtain ⟨rm, r0, r1, rb, q1, q2⟩ := inner n 0 (by omega) s (hs 4 (4 * A + K) - hs 9 (4 * C + K)) (hs 4 (4 * A + K) - hs 9 (4 * C + K)) s0 s1 sb (by omega) (by omega) (by omega)
    refine ⟨rm, r0, r1, rb, ?_, ?_⟩
    · intro V4 V40 V104 V105 V129 k4 k40 k104 k105 k129
      refine k4 _ _ ⟨(by unfold inR; omega), bf (by omega) ⟨by omega, ?_⟩⟩
      rw [Int.toNat_natCast, t1, eA]
      refine ⟨by omega, by omega, ?_⟩
      intro y ey
      have e11 : hm 11 (4 * (A : Int) + K).toNat = hs 4 (4 * A + K) := by
        rw [show (4 * (A : Int) + K).toNat = 4 * A + K by omega]
        exact (hS2 _ (by omega)).1
      have e14 : hm 14 (4 * (C : Int) + K).toNat = hs 9 (4 * C + K) := by
        rw [show (4 * (C : Int) + K).toNat = 4 * C + K by omega]
        exact hS4 _ (by omega)
      rw [e11, e14] at ey
      subst ey
      exact q1 V4 V40 V104 V105 V129 k4 k40 k104 k105 k129
    · intro V14 V30 k14 k30
      exact k14 _ _ ⟨(by unfold inR; omega), bf (by omega) ⟨_, q_lack (by omega) eA (by omega) (by omega), q2 V14 V30 k14 k30⟩⟩
theorem lenders_ex {hh hs hr hm : ISt} (hR : RelI hh hs hr hm) {n C : Nat} (ho : CopyOk hs n) (hC : C < n) : ∃ r : Int, -1 ≤ r ∧ r ≤ 15 ∧ (r ≠ -1 → whr hs C = 0) ∧ Q_X3_countLenders hs C r ∧ Q_X5_lendersOf hm C r := by
  have hR0 := hR
  have ho' := ho
  obtain ⟨e, b, hrg⟩ := ho'
  have pl := q_place hR (a := C) (by omega) (by omega)
  rw [Int.toNat_natCast] at pl
  have w6 := (hR.2.1.2.2.2.2.1 C (by omega)).2.2.2
  have wb := whr_b hs C
  by_cases c : whr hs C = 0
  · have w := whr_n c
    obtain ⟨rm, r0, r1, rb, q1, q2⟩ := makes_sim hR ho hC w.1 4 0 rfl 0 (by omega) (by omega) (by simp)
    refine ⟨bc rm, ?_, ?_, fun _ => c, ?_, ?_⟩
    · unfold bc
      split <;> omega
    · unfold bc
      by_cases d : rm = -1
      · rw [if_pos d]
        omega
      · have := bsum_l rm.toNat C (rb.resolve_left d) 16 (by omega)
        rw [if_neg d]
        omega
    · intro V14 V30 k14 k30
      exact ⟨_, pl, (by unfold inR; omega), bt c (q2 V14 V30 k14 k30)⟩
    · intro V18 k18
      refine ⟨by omega, ?_⟩
      rw [Int.toNat_natCast, w6]
      refine ⟨(by unfold inR; omega), nf c ⟨rm, q1, k18 _ ⟨(by unfold inR; omega), ?_, ?_⟩⟩⟩
      · intro d
        refine ⟨_, q_cnt (by omega) r1, ?_⟩
        unfold bc
        rw [if_neg d]
      · intro d
        unfold bc
        rw [if_pos d]
  · refine ⟨-1, by omega, by omega, fun h => absurd rfl h, ?_, ?_⟩
    · intro V14 V30 k14 k30
      exact ⟨_, pl, (by unfold inR; omega), bf c rfl⟩
    · intro V18 k18
      refine ⟨by omega, ?_⟩
      rw [Int.toNat_natCast, w6]
      exact ⟨(by unfold inR; omega), nt c (k18 _ ⟨(by unfold inR; omega), nf rfl rfl⟩)⟩
theorem si_lenders : SimI_lenders RelI := by
  intro hh hs hr hm a1 ha hR
  have hR0 := hR
  obtain ⟨n, ho, en⟩ := copy_ok hR
  have hn := ho.1
  have hb := ho.2.1
  by_cases c1 : 0 ≤ a1 ∧ a1 < hs 0 1
  · obtain ⟨C, eC⟩ := nat_of c1.1
    subst eC
    obtain ⟨r, r0, r1, r2, q1, q2⟩ := lenders_ex (rel_thrown hR 0) ho (show C < n by omega)
    refine ⟨r, iset hm 0 0 0, ?_, ?_⟩
    · intro V k
      exact w1 (q_isCopy1 (by omega) (by omega) (by omega)) (k _ _ (g0 ⟨_, q2, rfl, rfl⟩))
    · intro ok ex hok _
      exact ⟨ha, (by unfold inR; omega), bt ⟨by omega, by omega⟩ ⟨_, q1, hok hh hs hr rfl (rel_thrown hR0 0)⟩⟩
  · refine ⟨0, iset hm 0 0 1, ?_, ?_⟩
    · intro V k
      exact w0 (q_isCopy0 ha (by omega) (by omega)) (k _ _ (g1 (by unfold inR; omega) (by decide) ⟨rfl, rfl⟩))
    · intro ok ex _ hex
      exact ⟨ha, (by unfold inR; omega), bf (by omega) (hex rfl (rel_thrown hR0 1))⟩
