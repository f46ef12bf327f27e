/-- between: some of C's loans are closed already; K: the model looks below it -/
def ClI (s0 m0 : ISt) (n C : Nat) (s m : ISt) (N K : Nat) : Prop :=
  (∀ j, j ≠ 8 → j ≠ 9 → s j = s0 j) ∧
  ((∀ j, j ≠ 0 → j ≠ 13 → j ≠ 14 → j ≠ 15 → j ≠ 16 → j ≠ 17 → j ≠ 18 → m j = m0 j) ∧ ∀ k, k ≠ 24 → m 0 k = m0 0 k) ∧
  (∀ i : Nat, i < 4 * n → m 14 i = s 9 i) ∧
  (∀ c k : Nat, c < n → k < 4 → 0 ≤ s 9 (4 * c + k) ∧ 0 ≤ s 8 (4 * c + k) ∧ s 9 (4 * c + k) + s 8 (4 * c + k) ≤ s0 4 (4 * (s0 5 c).toNat + k)) ∧
  (m 0 24 = N ∧ psum (s 8) 64 = N) ∧
  (∀ i : Nat, i < N → ∃ k d b : Nat, m 16 i = k ∧ m 17 i = d ∧ m 15 i = b ∧ k < 4 ∧ d < n ∧ b < n ∧ s0 7 d = b ∧ s 8 (4 * d + k) = m 18 i ∧ 0 < m 18 i) ∧
  (∀ d k : Nat, d < n → k < 4 → 0 < s 8 (4 * d + k) → ∃ i : Nat, i < N ∧ m 17 i = d ∧ m 16 i = k) ∧
  (∀ i j : Nat, i < j → j < N → m 15 i = m 15 j → m 16 i < m 16 j ∨ (m 16 i = m 16 j ∧ m 17 i < m 17 j)) ∧
  (K ≤ N ∧ ∀ i : Nat, K ≤ i → i < N → m 15 i ≠ C) ∧
  (∀ d : Nat, d < n → (s0 7 d ≠ C → m 13 d = m0 13 d) ∧ (s0 7 d = C → m 13 d = 0 ∨ ∃ k : Nat, k < 4 ∧ 0 < s 8 (4 * d + k))) ∧
  (∀ i : Nat, 4 * n ≤ i → i < 64 → s 8 i = 0) ∧
  (∀ d k : Nat, d < n → k < 4 → s0 7 d ≠ C → s 8 (4 * d + k) = s0 8 (4 * d + k))
/-- what holds of the state before -/
def ClB (s0 : ISt) (n C : Nat) : Prop := CopyOk s0 n ∧ C < n ∧ s0 7 C ≠ C ∧ ∀ c k : Nat, c < n → k < 4 → s0 4 (4 * (s0 5 c).toNat + k) ≤ 9
theorem cl_step {s0 m0 : ISt} {n C : Nat} (hb : ClB s0 n C) {s m : ISt} {N K : Nat} (inv : ClI s0 m0 n C s m N K) {d k : Nat} (hd : d < n) (hk : k < 4) (h7 : s0 7 d = C) (hp : 0 < s 8 (4 * d + k))
    (hdone : ∀ d' k' : Nat, d' < n → k' < 4 → s0 7 d' = C → (k < k' ∨ (k = k' ∧ d < d')) → s 8 (4 * d' + k') = 0) (hL : ISt) (x2 : Int) :
    ∃ (i M : Nat) (hZ : ISt), N = M + 1 ∧ i < K ∧
      ClI s0 m0 n C (iset (iset (iset s 9 (4 * C + k) (s 9 (4 * C + k) - imin (s 8 (4 * d + k)) (s 9 (4 * C + k)))) 9 (4 * d + k) (s 9 (4 * d + k) + imin (s 8 (4 * d + k)) (s 9 (4 * C + k)))) 8 (4 * d + k) 0) hZ M i ∧
      ∀ (r : Int) (h' : ISt), L_X5_closes_9 hL C r h' hZ (x2 + 1) ((i : Int) - 1) → L_X5_closes_9 hL C r h' m x2 ((K : Int) - 1) := by
  obtain ⟨⟨en, bn, hrg⟩, hC, hCC, hW⟩ := hb
  obtain ⟨i1, ⟨i2, i2'⟩, i3, i4, ⟨i5, i5'⟩, i6, i7, i8, ⟨i9, i9'⟩, i10, i11, i12⟩ := inv
  have dC : d ≠ C := fun h => hCC (h ▸ h7)
  obtain ⟨i, hi, e17, e16⟩ := i7 d k hd hk hp
  obtain ⟨k1, d1, b1, f1, f2, f3, f4, f5, f6, f7, f8, f9⟩ := i6 i hi
  have ek : k1 = k := by omega
  have ed : d1 = d := by omega
  subst ek
  subst ed
  have e15 : m 15 i = C := by omega
  have pb := psum_b (s 8) 64
  have bN : N ≤ 64 := by omega
  obtain ⟨M, eM⟩ : ∃ M : Nat, N = M + 1 := ⟨N - 1, by omega⟩
  have hiK : i < K := by
    by_cases c : i < K
    · exact c
    · exact absurd e15 (i9' i (by omega) hi)
  have above : ∀ t : Nat, i < t → t < N → m 15 t ≠ C := by
    intro t h1 h2 h3
    by_cases c : K ≤ t
    · exact i9' t c h2 h3
    · obtain ⟨k2, d2, b2, g1, g2, g3, g4, g5, g6, g7, g8, g9⟩ := i6 t h2
      have o := i8 i t h1 h2 (by omega)
      have z := hdone d2 k2 g5 g4 (by omega) (by omega)
      omega
  have p14 : m 14 (4 * C + k1) = s 9 (4 * C + k1) := i3 _ (by omega)
  have w4 := i4 C k1 hC hk
  have w4' := hW C k1 hC hk
  have w5 := i4 d1 k1 hd hk
  have w5' := hW d1 k1 hd hk
  have ev : imin (m 18 i) (m 14 (4 * C + k1)) = imin (s 8 (4 * d1 + k1)) (s 9 (4 * C + k1)) := by rw [p14, f8]
  have vb : 0 ≤ imin (s 8 (4 * d1 + k1)) (s 9 (4 * C + k1)) ∧ imin (s 8 (4 * d1 + k1)) (s 9 (4 * C + k1)) ≤ s 8 (4 * d1 + k1) ∧ imin (s 8 (4 * d1 + k1)) (s 9 (4 * C + k1)) ≤ s 9 (4 * C + k1) := by
    unfold imin
    split <;> omega
  obtain ⟨hZ, ⟨z15, z16, z17, z18, zr⟩, z2⟩ := close_one (h0 := hL) (x2 := x2) (i := i) (N := M) (C := C) (d := d1) (k := k1) (m := m) (by omega) (by omega) (by omega) (by omega) hk (by omega) e15 e16 e17 (by unfold inR; omega) (by unfold inR; omega)
  rw [ev] at z15 z16 z17 z18 zr
  have ne : 4 * d1 + k1 ≠ 4 * C + k1 := by omega
  -- the rows of the loans, one out
  have row : ∀ t : Nat, t < M → ∃ t' : Nat, t' < N ∧ t' ≠ i ∧ (t < i → t' = t) ∧ (i ≤ t → t' = t + 1) ∧ hZ 15 t = m 15 t' ∧ hZ 16 t = m 16 t' ∧ hZ 17 t = m 17 t' ∧ hZ 18 t = m 18 t' := by
    intro t ht
    by_cases c : i ≤ t
    · have q : ∀ f : Nat → Int, shf f i M t = f (t + 1) := fun f => by
        unfold shf
        rw [if_pos ⟨c, ht⟩]
      exact ⟨t + 1, by omega, by omega, fun h => by omega, fun _ => rfl, (z15 t).trans (q _), (z16 t).trans (q _), (z17 t).trans (q _), (z18 t).trans (q _)⟩
    · have q : ∀ f : Nat → Int, shf f i M t = f t := fun f => by
        unfold shf
        rw [if_neg (by omega)]
      exact ⟨t, by omega, by omega, fun _ => rfl, fun h => absurd h c, (z15 t).trans (q _), (z16 t).trans (q _), (z17 t).trans (q _), (z18 t).trans (q _)⟩
  have z14 : hZ 14 = iupd (iupd (m 14) (4 * C + k1) (m 14 (4 * C + k1) - imin (s 8 (4 * d1 + k1)) (s 9 (4 * C + k1)))) (4 * d1 + k1) (iupd (m 14) (4 * C + k1) (m 14 (4 * C + k1) - imin (s 8 (4 * d1 + k1)) (s 9 (4 * C + k1))) (4 * d1 + k1) + imin (s 8 (4 * d1 + k1)) (s 9 (4 * C + k1))) := zr 14 (by decide) (by decide) (by decide) (by decide)
  have z13 : hZ 13 = iupd (m 13) d1 0 := zr 13 (by decide) (by decide) (by decide) (by decide)
  have z0 : hZ 0 = iupd (m 0) 24 M := zr 0 (by decide) (by decide) (by decide) (by decide)
  refine ⟨i, M, hZ, eM, hiK, ⟨?_, ⟨?_, ?_⟩, ?_, ?_, ⟨?_, ?_⟩, ?_, ?_, ?_, ⟨by omega, ?_⟩, ?_, ?_, ?_⟩, ?_⟩
  · intro j j1 j2
    show (if j = 8 then _ else if j = 9 then _ else if j = 9 then _ else s j) = s0 j
    rw [if_neg j1, if_neg j2, if_neg j2]
    exact i1 j j1 j2
  · intro j j0 j13 j14 j15 j16 j17 j18
    rw [zr j j15 j16 j17 j18]
    show (if j = 0 then _ else if j = 13 then _ else if j = 14 then _ else if j = 14 then _ else m j) = m0 j
    rw [if_neg j0, if_neg j13, if_neg j14, if_neg j14]
    exact i2 j j0 j13 j14 j15 j16 j17 j18
  · intro k' hk'
    rw [z0, u_ne hk']
    exact i2' k' hk'
  · intro t ht
    show hZ 14 t = iupd (iupd (s 9) (4 * C + k1) (s 9 (4 * C + k1) - imin (s 8 (4 * d1 + k1)) (s 9 (4 * C + k1)))) (4 * d1 + k1) (s 9 (4 * d1 + k1) + imin (s 8 (4 * d1 + k1)) (s 9 (4 * C + k1))) t
    rw [z14, u_ne ne]
    by_cases c : t = 4 * d1 + k1
    · subst c
      rw [u_eq, u_eq, i3 _ ht]
    · rw [u_ne c, u_ne c]
      by_cases c' : t = 4 * C + k1
      · subst c'
        rw [u_eq, u_eq, p14]
      · rw [u_ne c', u_ne c']
        exact i3 t ht
  · intro c k' hc hk'
    show 0 ≤ iupd (iupd (s 9) (4 * C + k1) (s 9 (4 * C + k1) - imin (s 8 (4 * d1 + k1)) (s 9 (4 * C + k1)))) (4 * d1 + k1) (s 9 (4 * d1 + k1) + imin (s 8 (4 * d1 + k1)) (s 9 (4 * C + k1))) (4 * c + k') ∧ 0 ≤ iupd (s 8) (4 * d1 + k1) 0 (4 * c + k') ∧ iupd (iupd (s 9) (4 * C + k1) (s 9 (4 * C + k1) - imin (s 8 (4 * d1 + k1)) (s 9 (4 * C + k1)))) (4 * d1 + k1) (s 9 (4 * d1 + k1) + imin (s 8 (4 * d1 + k1)) (s 9 (4 * C + k1))) (4 * c + k') + iupd (s 8) (4 * d1 + k1) 0 (4 * c + k') ≤ s0 4 (4 * (s0 5 c).toNat + k')
    have w := i4 c k' hc hk'
    by_cases g : 4 * c + k' = 4 * d1 + k1
    · have g1 : c = d1 := by omega
      have g2 : k' = k1 := by omega
      subst g1
      subst g2
      rw [u_eq, u_eq]
      omega
    · rw [u_ne g, u_ne g]
      by_cases g' : 4 * c + k' = 4 * C + k1
      · have g1 : c = C := by omega
        have g2 : k' = k1 := by omega
        subst g1
        subst g2
        rw [u_eq]
        omega
      · rw [u_ne g']
        exact w
  · rw [z0, u_eq]
  · show psum (iupd (s 8) (4 * d1 + k1) 0) 64 = M
    rw [psum_u _ _ _ 64 (by omega), if_pos hp, if_neg (by omega)]
    omega
  · intro t ht
    obtain ⟨t', t1, t2, t3, t4, r15, r16, r17, r18⟩ := row t ht
    obtain ⟨k2, d2, b2, g1, g2, g3, g4, g5, g6, g7, g8, g9⟩ := i6 t' t1
    refine ⟨k2, d2, b2, by omega, by omega, by omega, g4, g5, g6, g7, ?_, by omega⟩
    show iupd (s 8) (4 * d1 + k1) 0 (4 * d2 + k2) = hZ 18 t
    rw [r18]
    by_cases c : 4 * d2 + k2 = 4 * d1 + k1
    · exfalso
      have c1 : d2 = d1 := by omega
      have c2 : k2 = k1 := by omega
      subst c1
      subst c2
      by_cases q : t' < i
      · have := i8 t' i q hi (by omega)
        omega
      · have := i8 i t' (by omega) t1 (by omega)
        omega
    · rw [u_ne c]
      exact g8
  · intro d' k' hd' hk' hp'
    have hp' : 0 < iupd (s 8) (4 * d1 + k1) 0 (4 * d' + k') := hp'
    by_cases c : 4 * d' + k' = 4 * d1 + k1
    · rw [c, u_eq] at hp'
      omega
    · rw [u_ne c] at hp'
      obtain ⟨t', t1, t2, t3⟩ := i7 d' k' hd' hk' hp'
      have tn : t' ≠ i := by
        intro h
        subst h
        omega
      by_cases q : t' < i
      · obtain ⟨t'', a1, a2, a3, a4, r15, r16, r17, r18⟩ := row t' (by omega)
        have := a3 q
        subst this
        exact ⟨t'', by omega, by omega, by omega⟩
      · obtain ⟨t'', a1, a2, a3, a4, r15, r16, r17, r18⟩ := row (t' - 1) (by omega)
        have e : t'' = t' := by
          have := a4 (by omega)
          omega
        subst e
        exact ⟨t'' - 1, by omega, by omega, by omega⟩
  · intro a b hab hb' hq
    obtain ⟨a', a1, a2, a3, a4, ra15, ra16, ra17, ra18⟩ := row a (by omega)
    obtain ⟨b', b1', b2', b3', b4', rb15, rb16, rb17, rb18⟩ := row b hb'
    have o := i8 a' b' (by omega) (by omega) (by omega)
    omega
  · intro t h1 h2
    obtain ⟨t', t1, t2, t3, t4, r15, r16, r17, r18⟩ := row t h2
    have := t4 h1
    rw [r15]
    exact above t' (by omega) t1
  · intro d' hd'
    rw [z13]
    obtain ⟨q1, q2⟩ := i10 d' hd'
    by_cases c : d' = d1
    · subst c
      rw [u_eq]
      exact ⟨fun h => absurd h7 h, fun _ => Or.inl rfl⟩
    · rw [u_ne c]
      refine ⟨q1, fun h => ?_⟩
      rcases q2 h with u | ⟨k', u1, u2⟩
      · exact Or.inl u
      · refine Or.inr ⟨k', u1, ?_⟩
        show 0 < iupd (s 8) (4 * d1 + k1) 0 (4 * d' + k')
        rw [u_ne (by omega)]
        exact u2
  · intro t h1 h2
    show iupd (s 8) (4 * d1 + k1) 0 t = 0
    rw [u_ne (by omega)]
    exact i11 t h1 h2
  · intro d' k' hd' hk' hn
    show iupd (s 8) (4 * d1 + k1) 0 (4 * d' + k') = s0 8 (4 * d' + k')
    by_cases c : 4 * d' + k' = 4 * d1 + k1
    · have c1 : d' = d1 := by omega
      subst c1
      exact absurd h7 hn
    · rw [u_ne c]
      exact i12 d' k' hd' hk' hn
  · intro r h' q
    have q2 : L_X5_closes_9 hL C r h' m x2 i := z2 r h' q
    have e : (((i + 1 : Nat) : Int) - 1) = i := by omega
    refine close_skip (by omega) (K - (i + 1)) K (by omega) (by omega) (i := i + 1) (fun t h1 h2 => ⟨above t (by omega) (by omega), ?_⟩) ?_
    · obtain ⟨k2, d2, b2, g1, g2, g3, g4, g5, g6, g7, g8, g9⟩ := i6 t (by omega)
      unfold inR
      omega
    · rw [e]
      exact q2
