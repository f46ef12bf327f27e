/-- between: C is being made complete; the class looks at lender x of kind K next -/
def SvI (s0 m0 : ISt) (n C : Nat) (s m : ISt) (N K x : Nat) : Prop :=
  (∀ j, j ≠ 7 → j ≠ 8 → j ≠ 9 → s j = s0 j) ∧
  ((∀ j, j ≠ 0 → j ≠ 13 → j ≠ 14 → j ≠ 15 → j ≠ 16 → j ≠ 17 → j ≠ 18 → m j = m0 j) ∧ ∀ k, k ≠ 24 → m 0 k = m0 0 k) ∧
  (∀ i : Nat, i < 4 * n → m 14 i = s 9 i) ∧
  (∀ c k : Nat, c < n → k < 4 → 0 ≤ s 9 (4 * c + k) ∧ 0 ≤ s 8 (4 * c + k) ∧ s 9 (4 * c + k) + s 8 (4 * c + k) ≤ s0 4 (4 * (s0 5 c).toNat + k)) ∧
  (m 0 24 = N ∧ psum (s 8) 64 = N) ∧
  (∀ i : Nat, i < N → ∃ k d b : Nat, m 16 i = k ∧ m 17 i = d ∧ m 15 i = b ∧ k < 4 ∧ d < n ∧ b < n ∧ s 7 d = b ∧ s 8 (4 * d + k) = m 18 i ∧ 0 < m 18 i) ∧
  (∀ d k : Nat, d < n → k < 4 → 0 < s 8 (4 * d + k) → ∃ i : Nat, i < N ∧ m 17 i = d ∧ m 16 i = k) ∧
  (∀ i j : Nat, i < j → j < N → m 15 i = m 15 j → m 16 i < m 16 j ∨ (m 16 i = m 16 j ∧ m 17 i < m 17 j)) ∧
  (∀ d : Nat, d < n → s 7 d = s0 7 d ∨ (s 7 d = C ∧ s0 7 d = -1 ∧ d ≠ C ∧ s0 6 d = -1 ∧ s0 5 d = s0 5 C)) ∧
  (∀ d : Nat, d < n → s 7 d ≠ -1 → ∃ k : Nat, k < 4 ∧ 0 < s 8 (4 * d + k)) ∧
  (∀ d : Nat, d < n → m 13 d = whr s d) ∧
  (∀ i : Nat, 4 * n ≤ i → i < 64 → s 8 i = 0) ∧
  (∀ d k : Nat, d < n → k < 4 → s 7 d = -1 → s 8 (4 * d + k) = 0) ∧
  (∀ d k : Nat, d < n → k < 4 → s 7 d = C → (K < k ∨ (K = k ∧ x ≤ d)) → s 8 (4 * d + k) = 0) ∧
  (∀ d : Nat, n ≤ d → d < 16 → s 7 d = s0 7 d)
theorem sv_pos {s0 m0 : ISt} {n C : Nat} {s m : ISt} {N K x K' x' : Nat} (h : ∀ d k : Nat, d < n → (K' < k ∨ (K' = k ∧ x' ≤ d)) → (K < k ∨ (K = k ∧ x ≤ d))) (q : SvI s0 m0 n C s m N K x) : SvI s0 m0 n C s m N K' x' := by
  obtain ⟨i1, i2, i3, i4, i5, i6, i7, i8, i9, i10, i11, i12, i13, i14, i15⟩ := q
  exact ⟨i1, i2, i3, i4, i5, i6, i7, i8, i9, i10, i11, i12, i13, fun d k hd hk h7 hp => i14 d k hd hk h7 (h d k hd hp), i15⟩
def SvB (s0 m0 : ISt) (n C A : Nat) : Prop := CopyOk s0 n ∧ C < n ∧ s0 6 C = -1 ∧ s0 7 C = -1 ∧ s0 5 C = A ∧ A < 8 ∧ (∀ c k : Nat, c < n → k < 4 → s0 4 (4 * (s0 5 c).toNat + k) ≤ 9) ∧ (∀ d : Nat, d < n → s0 7 d ≠ C) ∧ m0 0 19 = n ∧ (∀ c : Nat, c < n → m0 12 c = s0 5 c) ∧ ∀ k : Nat, k < 4 → m0 11 (4 * A + k) = s0 4 (4 * A + k)
theorem sv_ok {s0 m0 : ISt} {n C A : Nat} (hb : SvB s0 m0 n C A) {s m : ISt} {N K x : Nat} (q : SvI s0 m0 n C s m N K x) : CopyOk s n := by
  obtain ⟨⟨en, bn, hrg⟩, hC, c6, c7, c5, bA, hW, hnb, b19, b12, b11⟩ := hb
  refine ⟨by rw [q.1 0 (by decide) (by decide) (by decide)]; exact en, bn, fun c hc => ?_⟩
  obtain ⟨h5, h6, h7⟩ := hrg c hc
  rw [q.1 5 (by decide) (by decide) (by decide), q.1 6 (by decide) (by decide) (by decide)]
  refine ⟨h5, h6, ?_⟩
  rcases q.2.2.2.2.2.2.2.2.1 c hc with u | u
  · omega
  · omega
theorem q_lendsTo1 {m : ISt} {x C N i : Nat} (bN : N ≤ 64) (e : m 0 24 = N) (hr : ∀ t : Nat, t < N → inR (m 17 t) ∧ inR (m 15 t)) (bx : x < 16) (bC : C < 16) (hi : i < N) (h1 : m 17 i = x) (h2 : m 15 i = C) : Q_X5_lendsTo m x C 1 := by
  intro V k
  have done : ∀ (j t : Nat), t + j = N → V 1 t := by
    intro j
    induction j with
    | zero =>
      intro t ht
      exact k _ _ ⟨(by unfold inR; omega), (by unfold inR; omega), bt (by omega) ⟨Or.inr rfl, rfl⟩⟩
    | succ j ih =>
      intro t ht
      exact k _ _ ⟨(by unfold inR; omega), (by unfold inR; omega), bf (by omega) ⟨R1, nt n10 (ih (t + 1) (by omega))⟩⟩
  have key : ∀ (j t : Nat), t + j = i → V 0 t := by
    intro j
    induction j with
    | zero =>
      intro t ht
      have ht : t = i := ht
      subst ht
      refine k _ _ ⟨(by unfold inR; omega), (by unfold inR; omega), bf (by omega) ⟨R0, nf rfl ⟨by omega, ?_⟩⟩⟩
      rw [Int.toNat_natCast, h1, h2]
      exact ⟨(by unfold inR; omega), (by unfold inR; omega), nf rfl ⟨by omega, (by unfold inR; omega), (by unfold inR; omega), nf rfl (done (N - (t + 1)) (t + 1) (by omega))⟩⟩
    | succ j ih =>
      intro t ht
      have r := hr t (by omega)
      have z0 := ih (t + 1) (by omega)
      have z1 := done (N - (t + 1)) (t + 1) (by omega)
      refine k _ _ ⟨(by unfold inR; omega), (by unfold inR; omega), bf (by omega) ⟨R0, nf rfl ⟨by omega, ?_⟩⟩⟩
      rw [Int.toNat_natCast]
      exact ⟨r.1, (by unfold inR; omega), fun _ => z0, fun _ => ⟨by omega, r.2, (by unfold inR; omega), fun _ => z0, fun _ => z1⟩⟩
  exact key i 0 (by omega)
theorem q_lendsTo0 {m : ISt} {x C N : Nat} (bN : N ≤ 64) (e : m 0 24 = N) (hr : ∀ t : Nat, t < N → inR (m 17 t) ∧ inR (m 15 t)) (bx : x < 16) (bC : C < 16) (h : ∀ t : Nat, t < N → ¬ (m 17 t = x ∧ m 15 t = C)) : Q_X5_lendsTo m x C 0 := by
  intro V k
  have key : ∀ (j t : Nat), t + j = N → V 0 t := by
    intro j
    induction j with
    | zero =>
      intro t ht
      exact k _ _ ⟨(by unfold inR; omega), (by unfold inR; omega), bt (by omega) ⟨Or.inl rfl, rfl⟩⟩
    | succ j ih =>
      intro t ht
      have r := hr t (by omega)
      have z0 := ih (t + 1) (by omega)
      have n := h t (by omega)
      refine k _ _ ⟨(by unfold inR; omega), (by unfold inR; omega), bf (by omega) ⟨R0, nf rfl ⟨by omega, ?_⟩⟩⟩
      rw [Int.toNat_natCast]
      exact ⟨r.1, (by unfold inR; omega), fun _ => z0, fun u => ⟨by omega, r.2, (by unfold inR; omega), fun _ => z0, fun v => absurd ⟨u, v⟩ n⟩⟩
  exact key N 0 (by omega)
def lentS (s : ISt) (C x K : Nat) (v : Int) : ISt := iset (iset (iset (iset s 7 x C) 8 (4 * x + K) v) 9 (4 * x + K) (s 9 (4 * x + K) + -v)) 9 (4 * C + K) (s 9 (4 * C + K) + v)
def lentM (m : ISt) (C x K N : Nat) (v : Int) : ISt := iset (iset (iset (iset (iset (iset (iset (iset m 15 N C) 16 N K) 17 N x) 18 N v) 0 24 (N + 1)) 14 (4 * x + K) (m 14 (4 * x + K) - v)) 14 (4 * C + K) (m 14 (4 * C + K) + v)) 13 x 2
theorem sv_step {s0 m0 : ISt} {n C A : Nat} (hb : SvB s0 m0 n C A) {s m : ISt} {N K x : Nat} (inv : SvI s0 m0 n C s m N K x) (hK : K < 4) (hx : x < n) (xC : x ≠ C) (h5 : s0 5 x = s0 5 C) (h6 : s0 6 x = -1) (h7 : s 7 x = -1 ∨ s 7 x = C) {v : Int} (v0 : 0 < v) (v1 : v ≤ s 9 (4 * x + K)) (v2 : v ≤ s0 4 (4 * A + K) - s 9 (4 * C + K)) :
    N < 64 ∧ SvI s0 m0 n C (lentS s C x K v) (lentM m C x K N v) (N + 1) K (x + 1) := by
  obtain ⟨⟨en, bn, hrg⟩, hC, c6, c7, c5, bA, hW, hnb, b19, b12, b11⟩ := hb
  obtain ⟨i1, ⟨i2, i2'⟩, i3, i4, ⟨i5, i5'⟩, i6, i7, i8, i9, i10, i11, i12, i13, i14, i15⟩ := inv
  have sC : s 7 C = -1 := by
    rcases i9 C hC with u | u
    · omega
    · omega
  have l0 : s 8 (4 * x + K) = 0 := by
    rcases h7 with u | u
    · exact i13 x K hx hK u
    · exact i14 x K hx hK u (Or.inr ⟨rfl, Nat.le_refl x⟩)
  have lC : s 8 (4 * C + K) = 0 := i13 C K hC hK sC
  have pl := psum_l (f := s 8) (k := 4 * x + K) (by omega) 64 (by omega)
  have ne : 4 * x + K ≠ 4 * C + K := by omega
  have x7 : s0 7 x = -1 := by
    rcases i9 x hx with u | u
    · have := hnb x hx
      omega
    · exact u.2.1
  refine ⟨by omega, ?_, ⟨?_, ?_⟩, ?_, ?_, ⟨?_, ?_⟩, ?_, ?_, ?_, ?_, ?_, ?_, ?_, ?_, ?_, ?_⟩
  · intro j j7 j8 j9
    show (if j = 9 then _ else if j = 9 then _ else if j = 8 then _ else if j = 7 then _ else s j) = s0 j
    rw [if_neg j9, if_neg j9, if_neg j8, if_neg j7]
    exact i1 j j7 j8 j9
  · intro j j0 j13 j14 j15 j16 j17 j18
    show (if j = 13 then _ else if j = 14 then _ else if j = 14 then _ else if j = 0 then _ else if j = 18 then _ else if j = 17 then _ else if j = 16 then _ else if j = 15 then _ else m j) = m0 j
    rw [if_neg j13, if_neg j14, if_neg j14, if_neg j0, if_neg j18, if_neg j17, if_neg j16, if_neg j15]
    exact i2 j j0 j13 j14 j15 j16 j17 j18
  · intro k hk
    show iupd (m 0) 24 (N + 1) k = m0 0 k
    rw [u_ne hk]
    exact i2' k hk
  · intro i hi
    show iupd (iupd (m 14) (4 * x + K) (m 14 (4 * x + K) - v)) (4 * C + K) (m 14 (4 * C + K) + v) i = iupd (iupd (s 9) (4 * x + K) (s 9 (4 * x + K) + -v)) (4 * C + K) (s 9 (4 * C + K) + v) i
    by_cases c : i = 4 * C + K
    · subst c
      rw [u_eq, u_eq, i3 _ hi]
    · rw [u_ne c, u_ne c]
      by_cases d : i = 4 * x + K
      · subst d
        rw [u_eq, u_eq, i3 _ hi]
        omega
      · rw [u_ne d, u_ne d]
        exact i3 i hi
  · intro c k hc hk
    show 0 ≤ iupd (iupd (s 9) (4 * x + K) (s 9 (4 * x + K) + -v)) (4 * C + K) (s 9 (4 * C + K) + v) (4 * c + k) ∧ 0 ≤ iupd (s 8) (4 * x + K) v (4 * c + k) ∧ iupd (iupd (s 9) (4 * x + K) (s 9 (4 * x + K) + -v)) (4 * C + K) (s 9 (4 * C + K) + v) (4 * c + k) + iupd (s 8) (4 * x + K) v (4 * c + k) ≤ s0 4 (4 * (s0 5 c).toNat + k)
    have w := i4 c k hc hk
    by_cases g : 4 * c + k = 4 * C + K
    · have g1 : c = C := by omega
      have g2 : k = K := by omega
      subst g1
      subst g2
      rw [u_eq, u_ne (Ne.symm ne), lC, c5, Int.toNat_natCast]
      omega
    · rw [u_ne g]
      by_cases g' : 4 * c + k = 4 * x + K
      · have g1 : c = x := by omega
        have g2 : k = K := by omega
        subst g1
        subst g2
        rw [u_eq, u_eq]
        omega
      · rw [u_ne g', u_ne g']
        exact w
  · show iupd (m 0) 24 (N + 1) 24 = ((N + 1 : Nat) : Int)
    rw [u_eq]
    omega
  · show psum (iupd (s 8) (4 * x + K) v) 64 = ((N + 1 : Nat) : Int)
    rw [psum_u _ _ _ 64 (by omega), if_neg (by omega), if_pos v0]
    omega
  · intro i hi
    show ∃ k d b : Nat, iupd (m 16) N K i = k ∧ iupd (m 17) N x i = d ∧ iupd (m 15) N C i = b ∧ k < 4 ∧ d < n ∧ b < n ∧ iupd (s 7) x C d = b ∧ iupd (s 8) (4 * x + K) v (4 * d + k) = iupd (m 18) N v i ∧ 0 < iupd (m 18) N v i
    by_cases c : i = N
    · subst c
      rw [u_eq, u_eq, u_eq, u_eq]
      exact ⟨K, x, C, rfl, rfl, rfl, hK, hx, hC, u_eq _ _ _, u_eq _ _ _, v0⟩
    · rw [u_ne c, u_ne c, u_ne c, u_ne c]
      obtain ⟨k2, d2, b2, g1, g2, g3, g4, g5, g6, g7, g8, g9⟩ := i6 i (by omega)
      refine ⟨k2, d2, b2, g1, g2, g3, g4, g5, g6, ?_, ?_, g9⟩
      · by_cases e : d2 = x
        · subst e
          rw [u_eq]
          rcases h7 with u | u
          · omega
          · omega
        · rw [u_ne e]
          exact g7
      · by_cases e : 4 * d2 + k2 = 4 * x + K
        · rw [e] at g8
          omega
        · rw [u_ne e]
          exact g8
  · intro d k hd hk hp
    have hp : 0 < iupd (s 8) (4 * x + K) v (4 * d + k) := hp
    show ∃ i : Nat, i < N + 1 ∧ iupd (m 17) N x i = d ∧ iupd (m 16) N K i = k
    by_cases e : 4 * d + k = 4 * x + K
    · refine ⟨N, by omega, ?_, ?_⟩
      · rw [u_eq]
        omega
      · rw [u_eq]
        omega
    · rw [u_ne e] at hp
      obtain ⟨i, a1, a2, a3⟩ := i7 d k hd hk hp
      exact ⟨i, by omega, by rw [u_ne (by omega)]; exact a2, by rw [u_ne (by omega)]; exact a3⟩
  · intro i j hij hj he
    have he : iupd (m 15) N C i = iupd (m 15) N C j := he
    show iupd (m 16) N K i < iupd (m 16) N K j ∨ (iupd (m 16) N K i = iupd (m 16) N K j ∧ iupd (m 17) N x i < iupd (m 17) N x j)
    by_cases c : j = N
    · subst c
      rw [u_eq, u_ne (by omega)] at he
      rw [u_eq, u_eq, u_ne (by omega), u_ne (by omega)]
      obtain ⟨k2, d2, b2, g1, g2, g3, g4, g5, g6, g7, g8, g9⟩ := i6 i (by omega)
      by_cases z : k2 < K ∨ (k2 = K ∧ d2 < x)
      · omega
      · have := i14 d2 k2 g5 g4 (by omega) (by omega)
        omega
    · rw [u_ne c, u_ne (by omega)] at he
      rw [u_ne c, u_ne c, u_ne (by omega), u_ne (by omega)]
      exact i8 i j hij (by omega) he
  · intro d hd
    show iupd (s 7) x C d = s0 7 d ∨ (iupd (s 7) x C d = C ∧ s0 7 d = -1 ∧ d ≠ C ∧ s0 6 d = -1 ∧ s0 5 d = s0 5 C)
    by_cases e : d = x
    · subst e
      rw [u_eq]
      exact Or.inr ⟨rfl, x7, xC, h6, h5⟩
    · rw [u_ne e]
      exact i9 d hd
  · intro d hd h
    have h : iupd (s 7) x C d ≠ -1 := h
    show ∃ k : Nat, k < 4 ∧ 0 < iupd (s 8) (4 * x + K) v (4 * d + k)
    by_cases e : d = x
    · subst e
      exact ⟨K, hK, by rw [u_eq]; exact v0⟩
    · rw [u_ne e] at h
      obtain ⟨k, a1, a2⟩ := i10 d hd h
      exact ⟨k, a1, by rw [u_ne (by omega)]; exact a2⟩
  · intro d hd
    show iupd (m 13) x 2 d = (if s 6 d = -1 then (if iupd (s 7) x C d = -1 then 0 else 2) else 1)
    by_cases e : d = x
    · subst e
      have s6 : s 6 d = -1 := by rw [i1 6 (by decide) (by decide) (by decide)]; exact h6
      rw [u_eq, u_eq, if_pos s6, if_neg (by omega)]
    · rw [u_ne e, u_ne e]
      exact i11 d hd
  · intro i h1 h2
    show iupd (s 8) (4 * x + K) v i = 0
    rw [u_ne (by omega)]
    exact i12 i h1 h2
  · intro d k hd hk h
    have h : iupd (s 7) x C d = -1 := h
    show iupd (s 8) (4 * x + K) v (4 * d + k) = 0
    by_cases e : d = x
    · subst e
      rw [u_eq] at h
      omega
    · rw [u_ne e] at h
      rw [u_ne (by omega)]
      exact i13 d k hd hk h
  · intro d k hd hk h hp
    have h : iupd (s 7) x C d = C := h
    show iupd (s 8) (4 * x + K) v (4 * d + k) = 0
    rw [u_ne (by omega)]
    by_cases e : d = x
    · subst e
      rcases h7 with u | u
      · exact i13 d k hd hk u
      · exact i14 d k hd hk u (by omega)
    · rw [u_ne e] at h
      exact i14 d k hd hk h (by omega)
  · intro d h1 h2
    show iupd (s 7) x C d = s0 7 d
    rw [u_ne (by omega)]
    exact i15 d h1 h2
