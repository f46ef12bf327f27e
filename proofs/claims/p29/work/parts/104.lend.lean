/-! LENDERS: who can lend, how many are needed, which titles are offered -/
def mayP (s : ISt) (o C : Nat) : Prop := o ≠ C ∧ s 5 o = s 5 C ∧ s 6 o = -1 ∧ (s 7 o = -1 ∨ s 7 o = C)
def avl (s : ISt) (C k : Nat) : Nat → Int
  | 0 => 0
  | j + 1 => avl s C k j + (if j ≠ C ∧ s 5 j = s 5 C ∧ s 6 j = -1 ∧ (s 7 j = -1 ∨ s 7 j = C) then s 9 (4 * j + k) else 0)
def lk (s : ISt) (C k : Nat) : Int := s 4 (4 * (s 5 C).toNat + k) - s 9 (4 * C + k)
def MaskOk (m : Int) (C n : Nat) : Prop := 0 ≤ m ∧ m < 65536 ∧ m.toNat.testBit C = false ∧ ∀ k : Nat, n ≤ k → m.toNat.testBit k = false
theorem bsum_n {m n : Nat} (h : ∀ k : Nat, n ≤ k → m.testBit k = false) : ∀ j : Nat, bsum m (n + j) = bsum m n := by
  intro j
  induction j with
  | zero => rfl
  | succ j ih =>
    show bsum m (n + j) + m / 2 ^ (n + j) % 2 = _
    rw [ih, bv_tb, h (n + j) (by omega)]
    rfl
theorem bsum_z {m : Nat} : ∀ k : Nat, bsum m k = 0 → ∀ j : Nat, j < k → m.testBit j = false := by
  intro k
  induction k with
  | zero => intro _ j hj; omega
  | succ k ih =>
    intro h j hj
    have h : bsum m k + m / 2 ^ k % 2 = 0 := h
    have b := bv_tb m k
    by_cases c : j = k
    · subst c
      cases d : m.testBit j
      · rfl
      · rw [d, if_pos rfl] at b
        omega
    · exact ih (by omega) j (by omega)
theorem mask_0 {m : Int} {C n : Nat} (hm : MaskOk m C n) (h : bsum m.toNat 16 = 0) : m = 0 := by
  have z := bsum_z 16 h
  have e : m.toNat = 0 := by
    apply Nat.eq_of_testBit_eq
    intro j
    rw [Nat.zero_testBit]
    by_cases c : j < 16
    · exact z j c
    · refine Nat.testBit_lt_two_pow ?_
      have : (2 : Nat) ^ 16 ≤ 2 ^ j := Nat.pow_le_pow_right (by omega) (by omega)
      have : (2 : Nat) ^ 16 = 65536 := rfl
      have := hm.2.1
      omega
  have := hm.1
  omega
theorem bsum_0 : ∀ k : Nat, bsum 0 k = 0 := by
  intro k
  induction k with
  | zero => rfl
  | succ k ih =>
    show bsum 0 k + 0 / 2 ^ k % 2 = 0
    rw [ih, Nat.zero_div]
theorem mask_or {m : Int} {C n x : Nat} (hm : MaskOk m C n) (hx : x < n) (hn : n ≤ 16) (hC : x ≠ C) : MaskOk (iior m (ishl1 x)) C n ∧ iior m (ishl1 x) ≠ 0 := by
  obtain ⟨m0, m1, m2, m3⟩ := hm
  have b := ior_b m0 m1 (by omega : x < 16)
  refine ⟨⟨b.1, b.2, ?_, fun k hk => ?_⟩, ?_⟩
  · rw [tb_or, m2, decide_eq_false hC]
    rfl
  · rw [tb_or, m3 k hk, decide_eq_false (by omega)]
    rfl
  · intro h
    have t := tb_or m x x
    rw [h, decide_eq_true rfl, Bool.or_true] at t
    have : (0 : Int).toNat.testBit x = false := Nat.zero_testBit x
    rw [this] at t
    cases t
theorem avl_mono {s : ISt} {A n C k : Nat} (hi : ShelfI s A n) (hk : k < 4) : ∀ i j : Nat, i + j ≤ n → avl s C k i ≤ avl s C k (i + j) := by
  obtain ⟨a1, a2, a3, a4, a5, a6, a7⟩ := hi
  intro i j
  induction j with
  | zero => intro _; exact Int.le_refl _
  | succ j ih =>
    intro h
    have z := ih (by omega)
    have b := a6 (i + j) k (by omega) hk
    show _ ≤ avl s C k (i + j) + (if _ then s 9 (4 * (i + j) + k) else 0)
    split <;> omega
theorem lk_b {s : ISt} {A n C k : Nat} (hi : ShelfI s A n) (hC : C < n) (hk : k < 4) : 0 ≤ lk s C k ∧ lk s C k ≤ 9 := by
  obtain ⟨a1, a2, a3, a4, a5, a6, a7⟩ := hi
  have b := a6 C k hC hk
  have b5 := a5 C hC
  have b4 := a4 (4 * (s 5 C).toNat + k) (by omega)
  unfold lk
  omega
theorem q_lk {s : ISt} {A n C k : Nat} (hi : ShelfI s A n) (hC : C < n) (hk : k < 4) : Q_X3_lack s C k (lk s C k) := by
  obtain ⟨a1, a2, a3, a4, a5, a6, a7⟩ := hi
  have b5 := a5 C hC
  obtain ⟨B, eB⟩ := nat_of b5.1.1
  have q := q_lack (h := s) (C := C) (A := B) (k := k) (by omega) eB (by omega) hk
  unfold lk
  rw [eB, Int.toNat_natCast]
  exact q
def Post14 (s : ISt) (C n : Nat) (m : Int) (K : Nat) (r : Int) : Prop := -1 ≤ r ∧ r < n ∧ (r ≠ -1 → ∀ k : Nat, K ≤ k → k < 4 → lk s C k ≤ avl s C k n) ∧ (r = 0 ↔ m = 0 ∧ ∀ k : Nat, K ≤ k → k < 4 → lk s C k = 0)
def Post30 (s : ISt) (C n : Nat) (m : Int) (K : Nat) (l : Int) (x : Nat) (r : Int) : Prop := -1 ≤ r ∧ r < n ∧ (r ≠ -1 → l ≤ avl s C K n - avl s C K x ∧ ∀ k : Nat, K < k → k < 4 → lk s C k ≤ avl s C k n) ∧ (r = 0 ↔ (m = 0 ∧ l ≤ 0) ∧ ∀ k : Nat, K < k → k < 4 → lk s C k = 0)
theorem cl_in {s : ISt} {A n C : Nat} (hi : ShelfI s A n) (hC : C < n) {K : Nat} (hK : K < 4) (out : ∀ m : Int, MaskOk m C n → ∃ r : Int, L_X3_countLenders_14 s C r m ((K : Int) + 1) ∧ Post14 s C n m (K + 1) r) :
    ∀ (j x : Nat), x + j = n → ∀ (m l : Int), MaskOk m C n → l ≤ 9 → -9 ≤ l → ∃ r : Int, L_X3_countLenders_30 s C r m K l x ∧ Post30 s C n m K l x r := by
  have ho := copy_ok hi
  have e01 := hi.2.1
  intro j
  have leave : ∀ (x : Nat), x ≤ n → ∀ (m l : Int), MaskOk m C n → l ≤ 0 → -9 ≤ l → ∃ r : Int, L_X3_countLenders_30 s C r m K l x ∧ Post30 s C n m K l x r := by
    intro x hx m l hm l0 l1
    obtain ⟨r, q1, q2, q3, q4, q5⟩ := out m hm
    refine ⟨r, fun V14 V30 k14 k30 => k30 _ _ _ _ ⟨(by unfold inR; omega), (by unfold inR; omega), ?_, fun c => ⟨(by unfold inR; omega), bt l0 ⟨(by unfold inR; omega), bt l0 (q1 V14 V30 k14 k30)⟩⟩⟩, q2, q3, fun c => ⟨?_, fun k h1 h2 => q4 c k (by omega) h2⟩, ?_⟩
    · intro c
      exact ⟨(by unfold inR; omega), bt l0 (q1 V14 V30 k14 k30)⟩
    · have := avl_mono (C := C) hi hK x (n - x) (by omega)
      rw [show x + (n - x) = n by omega] at this
      omega
    · rw [q5]
      constructor
      · intro ⟨h1, h2⟩
        exact ⟨⟨h1, l0⟩, fun k h3 h4 => h2 k (by omega) h4⟩
      · intro ⟨h1, h2⟩
        exact ⟨h1.1, fun k h3 h4 => h2 k (by omega) h4⟩
  induction j with
  | zero =>
    intro x hx m l hm l9 l1
    by_cases l0 : l ≤ 0
    · exact leave x (by omega) m l hm l0 l1
    · have hx : x = n := hx
      subst hx
      refine ⟨-1, fun V14 V30 k14 k30 => k30 _ _ _ _ ⟨(by unfold inR; omega), (by unfold inR; omega), bt (by omega) ⟨(by unfold inR; omega), bf l0 rfl⟩⟩, by omega, by omega, fun c => absurd rfl c, ?_⟩
      constructor
      · intro h; omega
      · intro h; omega
  | succ j ih =>
    intro x hx m l hm l9 l1
    by_cases l0 : l ≤ 0
    · exact leave x (by omega) m l hm l0 l1
    · have b9 := hi.2.2.2.2.2.1 x K (by omega) hK
      have b94 : s 9 (4 * x + K) ≤ 9 := by
        obtain ⟨a1, a2, a3, a4, a5, a6, a7⟩ := hi
        have := a5 x (by omega)
        have := a4 (4 * (s 5 x).toNat + K) (by omega)
        omega
      have qc : Q_X3_count s x K (s 9 (4 * x + K)) := q_count (by omega) hK
      by_cases c : x ≠ C ∧ s 5 x = s 5 C ∧ s 6 x = -1 ∧ (s 7 x = -1 ∨ s 7 x = C)
      · have av : avl s C K (x + 1) = avl s C K x + s 9 (4 * x + K) := by
          show avl s C K x + (if _ then _ else _) = _
          rw [if_pos c]
        by_cases d : s 9 (4 * x + K) ≤ 0
        · obtain ⟨r, q1, q2, q3, q4, q5⟩ := ih (x + 1) (by omega) m l hm l9 l1
          refine ⟨r, fun V14 V30 k14 k30 => k30 _ _ _ _ ⟨(by unfold inR; omega), (by unfold inR; omega), bf (by omega) ⟨(by unfold inR; omega), bf l0 ⟨1, q_may1 ho (by omega) hC c, R1, bf n10 ⟨_, qc, (by unfold inR; omega), bt d (q1 V14 V30 k14 k30)⟩⟩⟩⟩, q2, q3, fun e => ⟨?_, (q4 e).2⟩, q5⟩
          have := (q4 e).1
          omega
        · obtain ⟨mo, mz⟩ := mask_or hm (by omega : x < n) (by omega) c.1
          have im : 0 ≤ imin l (s 9 (4 * x + K)) ∧ imin l (s 9 (4 * x + K)) ≤ l ∧ imin l (s 9 (4 * x + K)) ≤ s 9 (4 * x + K) := by
            unfold imin
            split <;> omega
          obtain ⟨r, q1, q2, q3, q4, q5⟩ := ih (x + 1) (by omega) (iior m (ishl1 x)) (l - imin l (s 9 (4 * x + K))) mo (by omega) (by omega)
          refine ⟨r, fun V14 V30 k14 k30 => k30 _ _ _ _ ⟨(by unfold inR; omega), (by unfold inR; omega), bf (by omega) ⟨(by unfold inR; omega), bf l0 ⟨1, q_may1 ho (by omega) hC c, R1, bf n10 ⟨_, qc, (by unfold inR; omega), bf d ⟨⟨by omega, by omega⟩, hm.1, ishl_p x, _, qc, (by unfold inR; omega), (by unfold inR; omega), q1 V14 V30 k14 k30⟩⟩⟩⟩⟩, q2, q3, fun e => ⟨?_, (q4 e).2⟩, ?_⟩
          · have := (q4 e).1
            omega
          · rw [q5]
            constructor
            · intro h; exact absurd h.1.1 mz
            · intro h; exact absurd h.1.2 l0
      · have av : avl s C K (x + 1) = avl s C K x := by
          show avl s C K x + (if _ then _ else _) = _
          rw [if_neg c]
          omega
        obtain ⟨r, q1, q2, q3, q4, q5⟩ := ih (x + 1) (by omega) m l hm l9 l1
        refine ⟨r, fun V14 V30 k14 k30 => k30 _ _ _ _ ⟨(by unfold inR; omega), (by unfold inR; omega), bf (by omega) ⟨(by unfold inR; omega), bf l0 ⟨0, q_may0 ho (by omega) hC c, R0, bt rfl (q1 V14 V30 k14 k30)⟩⟩⟩, q2, q3, fun e => ⟨?_, (q4 e).2⟩, q5⟩
        have := (q4 e).1
        omega
theorem cl_out {s : ISt} {A n C : Nat} (hi : ShelfI s A n) (hC : C < n) : ∀ (i K : Nat), K + i = 4 → ∀ m : Int, MaskOk m C n → ∃ r : Int, L_X3_countLenders_14 s C r m K ∧ Post14 s C n m K r := by
  have e01 := hi.2.1
  intro i
  induction i with
  | zero =>
    intro K hK m hm
    have hK : K = 4 := hK
    subst hK
    have b1 := bsum_l m.toNat C hm.2.2.1 n hC
    have b2 := bsum_n (m := m.toNat) (n := n) hm.2.2.2 (16 - n)
    rw [show n + (16 - n) = 16 by omega] at b2
    refine ⟨(bsum m.toNat 16 : Nat), fun V14 V30 k14 k30 => k14 _ _ ⟨(by unfold inR; omega), bt (by omega) ⟨_, ⟨hm.1, hm.2.1, rfl⟩, rfl⟩⟩, by omega, by omega, fun _ k h1 h2 => absurd h1 (by omega), ?_⟩
    constructor
    · intro h
      exact ⟨mask_0 hm (by omega), fun k h1 h2 => absurd h1 (by omega)⟩
    · intro h
      rw [h.1]
      exact congrArg Int.ofNat (bsum_0 16)
  | succ i ih =>
    intro K hK m hm
    have lb := lk_b hi hC (by omega : K < 4)
    have e : ((K + 1 : Nat) : Int) = (K : Int) + 1 := by omega
    obtain ⟨r, q1, q2, q3, q4, q5⟩ := cl_in hi hC (by omega : K < 4) (fun m hm => by
      have z := ih (K + 1) (by omega) m hm
      rw [e] at z
      exact z) n 0 (by omega) m (lk s C K) hm (by omega) (by omega)
    refine ⟨r, fun V14 V30 k14 k30 => k14 _ _ ⟨(by unfold inR; omega), bf (by omega) ⟨_, q_lk hi hC (by omega), q1 V14 V30 k14 k30⟩⟩, q2, q3, ?_, ?_⟩
    · intro c k h1 h2
      by_cases d : k = K
      · subst d
        have z := (q4 c).1
        have : avl s C k 0 = 0 := rfl
        omega
      · exact (q4 c).2 k (by omega) h2
    · rw [q5]
      constructor
      · intro ⟨h1, h2⟩
        refine ⟨h1.1, fun k h3 h4 => ?_⟩
        by_cases d : k = K
        · subst d
          omega
        · exact h2 k (by omega) h4
      · intro ⟨h1, h2⟩
        have := h2 K (by omega) (by omega)
        exact ⟨⟨h1, by omega⟩, fun k h3 h4 => h2 k (by omega) h4⟩
/-- how many lenders a copy needs -/
theorem lenders_ex {s : ISt} {A n C : Nat} (hi : ShelfI s A n) (hC : C < n) : ∃ r : Int, Q_X3_countLenders s C r ∧ -1 ≤ r ∧ r < n ∧ (r ≠ -1 → whr s C = 0 ∧ ∀ k : Nat, k < 4 → lk s C k ≤ avl s C k n) ∧ (whr s C = 0 → (r = 0 ↔ ∀ k : Nat, k < 4 → lk s C k = 0)) := by
  have ho := copy_ok hi
  have wb := whr_b s C
  by_cases c : whr s C = 0
  · obtain ⟨r, q1, q2, q3, q4, q5⟩ := cl_out hi hC 4 0 rfl 0 ⟨by omega, by omega, Nat.zero_testBit _, fun k _ => Nat.zero_testBit _⟩
    refine ⟨r, fun V14 V30 k14 k30 => ⟨_, q_place ho hC, (by unfold inR; omega), bt c (q1 V14 V30 k14 k30)⟩, q2, q3, fun d => ⟨c, fun k hk => q4 d k (by omega) hk⟩, fun _ => ?_⟩
    rw [q5]
    constructor
    · intro h k hk
      exact h.2 k (by omega) hk
    · intro h
      exact ⟨rfl, fun k _ hk => h k hk⟩
  · exact ⟨-1, fun V14 V30 k14 k30 => ⟨_, q_place ho hC, (by unfold inR; omega), bf c rfl⟩, by omega, by omega, fun d => absurd rfl d, fun d => absurd d c⟩
