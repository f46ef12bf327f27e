theorem clb_of {hh hs hr hm : ISt} (hR : RelI hh hs hr hm) {n C : Nat} (ho : CopyOk hs n) (hC : C < n) (c6 : hs 6 C ≠ -1) : ClB hs n C := by
  obtain ⟨hH, ⟨⟨e15, b15, b15'⟩, ⟨e19, b19, b19'⟩, hS1, hS2, hS3, hS4, hS5, hS6, hS7⟩, hO, ⟨hL1, hL2, hL3, hL4, hL5, hL6⟩, hF⟩ := hR
  have en := ho.1
  refine ⟨ho, hC, fun h => ?_, fun c k hc hk => ?_⟩
  · exact c6 (hL5 C (by omega) (by omega)).1
  · obtain ⟨⟨p1, p2, p3⟩, _⟩ := hS3 c (by omega)
    exact (hS2 _ (by omega)).2.2
theorem back_rel {hh hs hr hm : ISt} (hR : RelI hh hs hr hm) {n C g k : Nat} {x : Int} (ho : CopyOk hs n) (hg : (g : Int) < hh 0 2) (e7 : hm 7 g = C) (hC : C < n) (hk : k < 4) (hx : 0 ≤ x ∧ x ≤ hs 9 (4 * C + k)) :
    ∃ (r : Int) (h' m' : ISt), Q_X3_takeBack hs C k x r h' ∧ Q_X5_closes (iset (iset (iset (iset hm 0 0 0) 14 (4 * C + k) (hm 14 (4 * C + k) - x)) 7 g (-1)) 13 C 0) C r m' ∧ RelI hh h' hr m' ∧ m' 0 0 = 0 := by
  have hR0 := hR
  obtain ⟨hH, ⟨⟨e15, b15, b15'⟩, ⟨e19, b19, b19'⟩, hS1, hS2, hS3, hS4, hS5, hS6, hS7⟩, ⟨hO1, hO2⟩, ⟨hL1, hL2, hL3, hL4, hL5, hL6⟩, hF, hSc⟩ := hR
  have ho' := ho
  obtain ⟨en, bn, hrg⟩ := ho'
  have g0 : hs 6 C = g := by
    rcases hO1 g hg with ⟨u, _⟩ | ⟨u1, u2, u3, u4⟩
    · omega
    · rw [e7, Int.toNat_natCast] at u3
      exact u3
  have c6 : hs 6 C ≠ -1 := by omega
  have hb := clb_of hR0 ho hC c6
  have C7 : hs 7 C = -1 := by
    by_cases h : hs 7 C = -1
    · exact h
    · exact absurd (hL5 C (by omega) h).1 c6
  have e9 := hS4 (4 * C + k) (by omega)
  have pb := psum_b (hs 8) 64
  obtain ⟨N, eN⟩ := nat_of pb.1
  have inv : ClI hs (iset (iset (iset (iset hm 0 0 0) 14 (4 * C + k) (hm 14 (4 * C + k) - x)) 7 g (-1)) 13 C 0) n C (iset hs 9 (4 * C + k) (hs 9 (4 * C + k) + -x)) (iset (iset (iset (iset hm 0 0 0) 14 (4 * C + k) (hm 14 (4 * C + k) - x)) 7 g (-1)) 13 C 0) N N := by
    refine ⟨?_, ⟨fun _ _ _ _ _ _ _ _ => rfl, fun _ _ => rfl⟩, ?_, ?_, ⟨hL1.trans eN, eN⟩, ?_, ?_, ?_, ⟨Nat.le_refl N, fun i h1 h2 => by omega⟩, ?_, ?_, fun _ _ _ _ _ => rfl⟩
    · intro j j1 j2
      show (if j = 9 then _ else hs j) = hs j
      rw [if_neg j2]
    · intro i hi
      show iupd (hm 14) (4 * C + k) (hm 14 (4 * C + k) - x) i = iupd (hs 9) (4 * C + k) (hs 9 (4 * C + k) + -x) i
      by_cases c : i = 4 * C + k
      · subst c
        rw [u_eq, u_eq, e9]
        omega
      · rw [u_ne c, u_ne c]
        exact hS4 i (by omega)
    · intro c k' hc hk'
      show 0 ≤ iupd (hs 9) (4 * C + k) (hs 9 (4 * C + k) + -x) (4 * c + k') ∧ 0 ≤ hs 8 (4 * c + k') ∧ iupd (hs 9) (4 * C + k) (hs 9 (4 * C + k) + -x) (4 * c + k') + hs 8 (4 * c + k') ≤ hs 4 (4 * (hs 5 c).toNat + k')
      have w := hS5 c k' (by omega) hk'
      by_cases q : 4 * c + k' = 4 * C + k
      · rw [q] at w ⊢
        rw [u_eq]
        omega
      · rw [u_ne q]
        exact w
    · intro i hi
      obtain ⟨q1, q2, q3, q4, q5, q6⟩ := hL2 i (by omega)
      refine ⟨(hm 16 i).toNat, (hm 17 i).toNat, (hm 15 i).toNat, ?_, ?_, ?_, by omega, by omega, by omega, ?_, ?_, ?_⟩
      · show hm 16 i = _
        omega
      · show hm 17 i = _
        omega
      · show hm 15 i = _
        omega
      · omega
      · exact q5
      · exact q6
    · intro d k' hd hk' hp
      obtain ⟨i, h1, h2, h3⟩ := hL3 d k' (by omega) hk' hp
      exact ⟨i, by omega, h2, h3⟩
    · intro i j hij hj he
      exact hL4 i j hij (by omega) he
    · intro d hd
      refine ⟨fun _ => rfl, fun h => Or.inr ?_⟩
      exact (hL5 d (by omega) (by omega)).2.2.2
    · intro i h1 h2
      exact hS7 i (by omega) h2
  obtain ⟨r, s', m', N', K', q1, q2, q3, q4⟩ := cl_all hb (iset hs 9 (4 * C + k) (hs 9 (4 * C + k) + -x)) (iset (iset (iset (iset hm 0 0 0) 14 (4 * C + k) (hm 14 (4 * C + k) - x)) 7 g (-1)) 13 C 0) 4 (Nat.le_refl 4) _ _ N N 0 inv (fun d' k' h1 h2 h3 h4 => by omega)
  obtain ⟨i1, ⟨i2, i2'⟩, i3, i4, ⟨i5, i5'⟩, i6, i7, i8, ⟨i9, i9'⟩, i10, i11, i12⟩ := q1
  have s0 : s' 0 = hs 0 := i1 0 (by decide) (by decide)
  have s1 : s' 1 = hs 1 := i1 1 (by decide) (by decide)
  have s2 : s' 2 = hs 2 := i1 2 (by decide) (by decide)
  have s3 : s' 3 = hs 3 := i1 3 (by decide) (by decide)
  have s4 : s' 4 = hs 4 := i1 4 (by decide) (by decide)
  have s5 : s' 5 = hs 5 := i1 5 (by decide) (by decide)
  have s6 : s' 6 = hs 6 := i1 6 (by decide) (by decide)
  have s7 : s' 7 = hs 7 := i1 7 (by decide) (by decide)
  have m2 : ∀ j, j ≠ 0 → j ≠ 7 → j ≠ 13 → j ≠ 14 → j ≠ 15 → j ≠ 16 → j ≠ 17 → j ≠ 18 → m' j = hm j := by
    intro j j0 j7 j13 j14 j15 j16 j17 j18
    rw [i2 j j0 j13 j14 j15 j16 j17 j18]
    show (if j = 13 then _ else if j = 7 then _ else if j = 14 then _ else if j = 0 then _ else hm j) = hm j
    rw [if_neg j13, if_neg j7, if_neg j14, if_neg j0]
  have m0 : ∀ k, k ≠ 24 → k ≠ 0 → m' 0 k = hm 0 k := by
    intro k k1 k2
    rw [i2' k k1]
    exact u_ne k2
  have m7 : m' 7 = iupd (hm 7) g (-1) := i2 7 (by decide) (by decide) (by decide) (by decide) (by decide) (by decide) (by decide)
  refine ⟨r, _, m', q_takeBack bn hC hk (by rw [s0]; exact en) (fun t ht => by rw [s7]; have := hrg t ht; unfold inR; omega) q3, ?_, ⟨?_, ⟨⟨?_, ?_, ?_⟩, ⟨?_, ?_, ?_⟩, ?_, ?_, ?_, ?_, ?_, ?_, ?_⟩, ⟨?_, ?_⟩, ⟨?_, ?_, ?_, ?_, ?_, ?_⟩, ?_, ?_⟩, i2' 0 (by decide)⟩
  · -- the model's call
    have e24 : (iset (iset (iset (iset hm 0 0 0) 14 (4 * C + k) (hm 14 (4 * C + k) - x)) 7 g (-1)) 13 C 0) 0 24 - 1 = (N : Int) - 1 := by
      show hm 0 24 - 1 = (N : Int) - 1
      omega
    intro V9 V62 V137 k9 k62 k137
    rw [e24]
    exact q4 V9 V62 V137 k9 k62 k137
  · exact hall_c (m0 1 (by decide) (by decide)) (m0 4 (by decide) (by decide)) (m0 10 (by decide) (by decide)) (m2 1 (by decide) (by decide) (by decide) (by decide) (by decide) (by decide) (by decide) (by decide)) (m2 2 (by decide) (by decide) (by decide) (by decide) (by decide) (by decide) (by decide) (by decide)) (m2 3 (by decide) (by decide) (by decide) (by decide) (by decide) (by decide) (by decide) (by decide)) (m2 4 (by decide) (by decide) (by decide) (by decide) (by decide) (by decide) (by decide) (by decide)) (m2 5 (by decide) (by decide) (by decide) (by decide) (by decide) (by decide) (by decide) (by decide)) (m2 6 (by decide) (by decide) (by decide) (by decide) (by decide) (by decide) (by decide) (by decide)) hH
  · show m' 0 15 = s' 0 0
    rw [m0 15 (by decide) (by decide), s0]
    exact e15
  · show 0 ≤ s' 0 0
    rw [s0]
    exact b15
  · show s' 0 0 ≤ 8
    rw [s0]
    exact b15'
  · show m' 0 19 = s' 0 1
    rw [m0 19 (by decide) (by decide), s0]
    exact e19
  · show 0 ≤ s' 0 1
    rw [s0]
    exact b19
  · show s' 0 1 ≤ 16
    rw [s0]
    exact b19'
  · intro t ht
    have ht : (t : Int) < s' 0 0 := ht
    rw [s0] at ht
    show (m' 8 t = s' 1 t ∧ 1 ≤ s' 1 t ∧ s' 1 t ≤ 12) ∧ (m' 9 t = s' 2 t ∧ 1 ≤ s' 2 t ∧ s' 2 t ≤ 12) ∧ (m' 10 t = s' 3 t ∧ 5 ≤ s' 3 t ∧ s' 3 t ≤ 300)
    rw [s1, s2, s3, m2 8 (by decide) (by decide) (by decide) (by decide) (by decide) (by decide) (by decide) (by decide), m2 9 (by decide) (by decide) (by decide) (by decide) (by decide) (by decide) (by decide) (by decide), m2 10 (by decide) (by decide) (by decide) (by decide) (by decide) (by decide) (by decide) (by decide)]
    exact hS1 t ht
  · intro i hi
    have hi : (i : Int) < 4 * s' 0 0 := hi
    rw [s0] at hi
    show m' 11 i = s' 4 i ∧ 0 ≤ s' 4 i ∧ s' 4 i ≤ 9
    rw [s4, m2 11 (by decide) (by decide) (by decide) (by decide) (by decide) (by decide) (by decide) (by decide)]
    exact hS2 i hi
  · intro c hc
    have hc : (c : Int) < s' 0 1 := hc
    rw [s0] at hc
    obtain ⟨p1, p2, p3, p4⟩ := hS3 c hc
    show (m' 12 c = s' 5 c ∧ 0 ≤ s' 5 c ∧ s' 5 c < s' 0 0) ∧ (-1 ≤ iupd (s' 6) C (-1) c ∧ iupd (s' 6) C (-1) c < hh 0 2) ∧ (-1 ≤ freed (s' 7) n C c ∧ freed (s' 7) n C c < s' 0 1) ∧ m' 13 c = (if iupd (s' 6) C (-1) c = -1 then (if freed (s' 7) n C c = -1 then 0 else 2) else 1)
    rw [s0, s5, s6, s7, m2 12 (by decide) (by decide) (by decide) (by decide) (by decide) (by decide) (by decide) (by decide)]
    refine ⟨p1, ?_, ?_, ?_⟩
    · by_cases d : c = C
      · subst d
        rw [u_eq]
        omega
      · rw [u_ne d]
        exact p2
    · unfold freed
      split <;> omega
    · obtain ⟨w1, w2⟩ := i10 c (by omega)
      by_cases d : c = C
      · subst d
        have f : freed (hs 7) n c c = -1 := by
          unfold freed
          rw [C7, if_neg (by omega)]
        rw [u_eq, if_pos rfl, f, if_pos rfl, w1 (by omega)]
        exact u_eq _ _ _
      · rw [u_ne d]
        by_cases e : hs 7 c = C
        · have f : freed (hs 7) n C c = -1 := by
            unfold freed
            rw [if_pos ⟨by omega, e⟩]
          have v := (hL5 c (by omega) (by omega)).1
          rw [f, v, if_pos rfl, if_pos rfl]
          rcases w2 e with u | ⟨k', u1, u2⟩
          · exact u
          · have := q2 c k' (by omega) u1 e
            omega
        · have f : freed (hs 7) n C c = hs 7 c := by
            unfold freed
            rw [if_neg (fun u => e u.2)]
          rw [f, w1 e]
          show iupd (hm 13) C 0 c = _
          rw [u_ne d]
          exact p4
  · intro i hi
    have hi : (i : Int) < 4 * s' 0 1 := hi
    rw [s0] at hi
    exact i3 i (by omega)
  · intro c k' hc hk'
    have hc : (c : Int) < s' 0 1 := hc
    rw [s0] at hc
    show 0 ≤ s' 9 (4 * c + k') ∧ 0 ≤ s' 8 (4 * c + k') ∧ s' 9 (4 * c + k') + s' 8 (4 * c + k') ≤ s' 4 (4 * (s' 5 c).toNat + k')
    rw [s4, s5]
    exact i4 c k' (by omega) hk'
  · intro c hc hc'
    have hc : s' 0 1 ≤ c := hc
    rw [s0] at hc
    show s' 5 c = -1 ∧ iupd (s' 6) C (-1) c = -1 ∧ freed (s' 7) n C c = -1
    have f : freed (s' 7) n C c = s' 7 c := by
      unfold freed
      rw [if_neg (by omega)]
    rw [f, s5, s6, s7, u_ne (by omega)]
    exact hS6 c hc hc'
  · intro i hi hi'
    have hi : 4 * s' 0 1 ≤ i := hi
    rw [s0] at hi
    exact i11 i (by omega) hi'
  · intro x' hx'
    show (m' 7 x' = -1 ∧ ∀ c : Nat, (c : Int) < s' 0 1 → iupd (s' 6) C (-1) c ≠ x') ∨ (0 ≤ m' 7 x' ∧ m' 7 x' < s' 0 1 ∧ iupd (s' 6) C (-1) (m' 7 x').toNat = x' ∧ ∀ c : Nat, (c : Int) < s' 0 1 → iupd (s' 6) C (-1) c = x' → (c : Int) = m' 7 x')
    rw [s0, s6, m7]
    by_cases d : x' = g
    · subst d
      rw [u_eq]
      refine Or.inl ⟨rfl, fun c hc => ?_⟩
      by_cases e : c = C
      · subst e
        rw [u_eq]
        omega
      · rw [u_ne e]
        intro h
        rcases hO1 x' hg with ⟨_, v⟩ | ⟨u1, u2, u3, u4⟩
        · exact v c hc h
        · have := u4 c hc h
          omega
    · rw [u_ne d]
      rcases hO1 x' hx' with ⟨u, v⟩ | ⟨u1, u2, u3, u4⟩
      · refine Or.inl ⟨u, fun c hc => ?_⟩
        by_cases e : c = C
        · subst e
          rw [u_eq]
          omega
        · rw [u_ne e]
          exact v c hc
      · have nC : (hm 7 x').toNat ≠ C := by
          intro h
          rw [h, g0] at u3
          omega
        refine Or.inr ⟨u1, u2, by rw [u_ne nC]; exact u3, fun c hc h => ?_⟩
        by_cases e : c = C
        · subst e
          rw [u_eq] at h
          omega
        · rw [u_ne e] at h
          exact u4 c hc h
  · intro c hc hc'
    have hc : (c : Int) < s' 0 1 := hc
    have hc' : iupd (s' 6) C (-1) c ≠ -1 := hc'
    show hh 6 (iupd (s' 6) C (-1) c).toNat = 1
    rw [s0] at hc
    rw [s6] at hc' ⊢
    by_cases e : c = C
    · subst e
      rw [u_eq] at hc'
      exact absurd rfl hc'
    · rw [u_ne e] at hc' ⊢
      exact hO2 c hc hc'
  · show m' 0 24 = psum (s' 8) 64
    omega
  · intro i hi
    obtain ⟨k2, d2, b2, g1, g2, g3, g4, g5, g6, g7, g8, g9⟩ := i6 i (by omega)
    have nb : b2 ≠ C := by
      intro h
      have := q2 d2 k2 g5 g4 (by omega)
      omega
    show (0 ≤ m' 16 i ∧ m' 16 i < 4) ∧ (0 ≤ m' 17 i ∧ m' 17 i < s' 0 1) ∧ (0 ≤ m' 15 i ∧ m' 15 i < s' 0 1) ∧ freed (s' 7) n C (m' 17 i).toNat = m' 15 i ∧ s' 8 (4 * (m' 17 i).toNat + (m' 16 i).toNat) = m' 18 i ∧ 0 < m' 18 i
    rw [s0, s7, g1, g2, g3, Int.toNat_natCast, Int.toNat_natCast]
    refine ⟨by omega, by omega, by omega, ?_, g8, g9⟩
    unfold freed
    rw [if_neg (by omega)]
    exact g7
  · intro d k' hd hk' hp
    have hd : (d : Int) < s' 0 1 := hd
    rw [s0] at hd
    obtain ⟨i, h1, h2, h3⟩ := i7 d k' (by omega) hk' hp
    exact ⟨i, by omega, h2, h3⟩
  · intro i j hij hj he
    exact i8 i j hij (by omega) he
  · intro d hd hp
    have hd : (d : Int) < s' 0 1 := hd
    have hp : freed (s' 7) n C d ≠ -1 := hp
    show iupd (s' 6) C (-1) d = -1 ∧ iupd (s' 6) C (-1) (freed (s' 7) n C d).toNat ≠ -1 ∧ s' 5 (freed (s' 7) n C d).toNat = s' 5 d ∧ ∃ k : Nat, k < 4 ∧ 0 < s' 8 (4 * d + k)
    rw [s0] at hd
    rw [s7] at hp
    have n1 : hs 7 d ≠ C := by
      intro h
      refine hp ?_
      unfold freed
      rw [if_pos ⟨by omega, h⟩]
    have f : freed (hs 7) n C d = hs 7 d := by
      unfold freed
      rw [if_neg (fun u => n1 u.2)]
    rw [f] at hp
    obtain ⟨w1, w2, w3, k', w4, w5⟩ := hL5 d hd hp
    have dC : d ≠ C := by
      intro h
      rw [h] at hp
      exact hp C7
    obtain ⟨p1, p2, p3, p4⟩ := hS3 d hd
    rw [s5, s6, s7, f, u_ne dC, u_ne (by omega)]
    exact ⟨w1, w2, w3, k', w4, by rw [i12 d k' (by omega) w4 n1]; exact w5⟩
  · intro d k' hd hk' hp
    have hd : (d : Int) < s' 0 1 := hd
    have hp : freed (s' 7) n C d = -1 := hp
    rw [s0] at hd
    rw [s7] at hp
    show s' 8 (4 * d + k') = 0
    by_cases h : hs 7 d = C
    · exact q2 d k' (by omega) hk' h
    · have f : freed (hs 7) n C d = hs 7 d := by
        unfold freed
        rw [if_neg (fun u => h u.2)]
      rw [f] at hp
      rw [i12 d k' (by omega) hk' h]
      exact hL6 d k' hd hk' hp
  · exact ref_c (show s' 0 0 = hs 0 0 by rw [s0]) (m2 19 (by decide) (by decide) (by decide) (by decide) (by decide) (by decide) (by decide) (by decide)) (m2 20 (by decide) (by decide) (by decide) (by decide) (by decide) (by decide) (by decide) (by decide)) (m2 21 (by decide) (by decide) (by decide) (by decide) (by decide) (by decide) (by decide) (by decide)) (m2 22 (by decide) (by decide) (by decide) (by decide) (by decide) (by decide) (by decide) (by decide)) (m2 23 (by decide) (by decide) (by decide) (by decide) (by decide) (by decide) (by decide) (by decide)) hF
  · show inR (m' 0 30) ∧ inR (m' 0 31)
    rw [m0 30 (by decide) (by decide), m0 31 (by decide) (by decide)]
    exact hSc
theorem si_giveBack : SimI_giveBack RelI := by
  intro hh hs hr hm a1 a2 a3 ha1 ha2 ha3 hR
  have hR0 := hR
  obtain ⟨n, ho, e19⟩ := copy_ok hR
  obtain ⟨⟨h1, h4, ⟨e10, b10, b10'⟩, hH⟩, ⟨⟨e15, b15, b15'⟩, ⟨e19', b19, b19'⟩, hS1, hS2, hS3, hS4, hS5, hS6, hS7⟩, ⟨hO1, hO2⟩, hL, hF⟩ := hR
  have en := ho.1
  by_cases c1 : 0 ≤ a1 ∧ a1 < hh 0 2
  · by_cases c2 : 0 ≤ a2 ∧ a2 < 4
    · obtain ⟨g, eg⟩ := nat_of c1.1
      subst eg
      obtain ⟨k, ek⟩ := nat_of c2.1
      subst ek
      have r7 : inR (hm 7 g) := by
        rcases hO1 g (by omega) with u | u
        · unfold inR; omega
        · unfold inR; omega
      by_cases c3 : 0 ≤ a3 ∧ a3 ≤ 9
      · by_cases c4 : hm 7 g = -1
        · refine ⟨0, iset hm 0 0 3, ?_, ?_⟩
          · intro V19 V20 V41 V42 V72 V73 V106 k19 k20 k41 k42 k72 k73 k106
            have z106 : V106 hm 3 := k106 _ _ (f1 (by unfold inR; omega) (by decide) ⟨rfl, rfl⟩)
            have z73 : V73 hm 1 0 := k73 _ _ _ ⟨R1, nt n10 (y1 (q_arePieces1 c3.1 c3.2) ⟨R0, nf rfl z106⟩)⟩
            have z42 : V42 hm 1 0 := k42 _ _ _ ⟨R0, bt rfl (k72 _ _ z73)⟩
            refine w1 (q_isGroup1 (by omega) (by omega) (by omega)) (w1 (q_isKind1 (by omega) (by omega)) (k20 _ _ ⟨R1, bf n10 ⟨by omega, ?_⟩⟩))
            rw [Int.toNat_natCast]
            exact ⟨r7, bt c4 (k41 _ _ z42)⟩
          · intro ok ex _ _ _ hex V57 V58 k57 k58
            have z : V58 (hm 7 g) 0 := k58 _ _ ⟨R0, bf (by simp) (hex rfl (rel_thrown hR0 3))⟩
            exact ⟨ha1, (by unfold inR; omega), bt ⟨by omega, by omega⟩ ⟨ha2, bt ⟨by omega, by omega⟩ ⟨ha3, bt ⟨by omega, by omega⟩ ⟨_, q_held hR0 (by omega), r7, bt c4 (k57 _ z)⟩⟩⟩⟩
        · have hc : 0 ≤ hm 7 g ∧ hm 7 g < hs 0 1 := by
            rcases hO1 g (by omega) with u | u
            · exact absurd u.1 c4
            · omega
          obtain ⟨C, eC⟩ := nat_of hc.1
          have w := hS5 C k (by omega) (by omega)
          obtain ⟨⟨p1, p2, p3⟩, _⟩ := hS3 C (by omega)
          have w2 := (hS2 (4 * (hs 5 C).toNat + k) (by omega)).2
          have e14 : hm 14 (4 * (C : Int) + k).toNat = hs 9 (4 * C + k) := by
            rw [show (4 * (C : Int) + k).toNat = 4 * C + k by omega]
            exact hS4 _ (by omega)
          by_cases c5 : hs 9 (4 * C + k) < a3
          · refine ⟨0, iset hm 0 0 3, ?_, ?_⟩
            · intro V19 V20 V41 V42 V72 V73 V106 k19 k20 k41 k42 k72 k73 k106
              have z106 : V106 hm 3 := k106 _ _ (f1 (by unfold inR; omega) (by decide) ⟨rfl, rfl⟩)
              have z73 : V73 hm 1 0 := k73 _ _ _ ⟨R1, nt n10 (y1 (q_arePieces1 c3.1 c3.2) ⟨R0, nf rfl z106⟩)⟩
              refine w1 (q_isGroup1 (by omega) (by omega) (by omega)) (w1 (q_isKind1 (by omega) (by omega)) (k20 _ _ ⟨R1, bf n10 ⟨by omega, ?_⟩⟩))
              rw [Int.toNat_natCast]
              refine ⟨r7, bf c4 (k42 _ _ _ ⟨R1, bf n10 ⟨by omega, ?_⟩⟩)⟩
              rw [Int.toNat_natCast, eC, e14]
              exact ⟨by omega, (by unfold inR; omega), ha3, bt c5 (k72 _ _ z73)⟩
            · intro ok ex _ _ _ hex V57 V58 k57 k58
              have z : V58 C 0 := k58 _ _ ⟨R0, bf (by simp) (hex rfl (rel_thrown hR0 3))⟩
              refine ⟨ha1, (by unfold inR; omega), bt ⟨by omega, by omega⟩ ⟨ha2, bt ⟨by omega, by omega⟩ ⟨ha3, bt ⟨by omega, by omega⟩ ⟨_, q_held hR0 (by omega), r7, bf c4 ?_⟩⟩⟩⟩
              rw [eC]
              exact ⟨_, q_count (by omega) (by omega), (by unfold inR; omega), ha3, bt c5 (k57 _ z)⟩
          · obtain ⟨r, h', m', t1, t2, t3, t4⟩ := back_rel hR0 ho (by omega) eC (by omega) (by omega) (k := k) (x := a3) (by omega)
            refine ⟨r, m', ?_, ?_⟩
            · intro V19 V20 V41 V42 V72 V73 V106 k19 k20 k41 k42 k72 k73 k106
              have z106 : V106 hm 0 := by
                refine k106 _ _ (f0 ⟨by omega, ?_⟩)
                have e7 : iset hm 0 0 0 7 (g : Int).toNat = C := by
                  rw [Int.toNat_natCast]
                  exact eC
                rw [e7]
                refine ⟨by omega, by omega, fs (4 * C + k) (by omega) (x' := hm 14 (4 * C + k) - a3) ?_ ⟨by omega, fs g rfl rfl ⟨by omega, fs C rfl rfl ⟨r, m', t2, rfl, rfl⟩⟩⟩⟩
                show hm 14 (4 * (C : Int) + k).toNat - a3 = _
                rw [e14, hS4 _ (by omega)]
              have z73 : V73 hm 1 1 := k73 _ _ _ ⟨R1, nt n10 (y1 (q_arePieces1 c3.1 c3.2) ⟨R1, nt n10 z106⟩)⟩
              refine w1 (q_isGroup1 (by omega) (by omega) (by omega)) (w1 (q_isKind1 (by omega) (by omega)) (k20 _ _ ⟨R1, bf n10 ⟨by omega, ?_⟩⟩))
              rw [Int.toNat_natCast]
              refine ⟨r7, bf c4 (k42 _ _ _ ⟨R1, bf n10 ⟨by omega, ?_⟩⟩)⟩
              rw [Int.toNat_natCast, eC, e14]
              exact ⟨by omega, (by unfold inR; omega), ha3, bf c5 z73⟩
            · intro ok ex hok _ _ _ V57 V58 k57 k58
              have z : V58 C 1 := k58 _ _ ⟨R1, bt n10 ⟨r, h', t1, hok hh h' hr t4 t3⟩⟩
              refine ⟨ha1, (by unfold inR; omega), bt ⟨by omega, by omega⟩ ⟨ha2, bt ⟨by omega, by omega⟩ ⟨ha3, bt ⟨by omega, by omega⟩ ⟨_, q_held hR0 (by omega), r7, bf c4 ?_⟩⟩⟩⟩
              rw [eC]
              exact ⟨_, q_count (by omega) (by omega), (by unfold inR; omega), ha3, bf c5 z⟩
      · refine ⟨0, iset hm 0 0 2, ?_, ?_⟩
        · intro V19 V20 V41 V42 V72 V73 V106 k19 k20 k41 k42 k72 k73 k106
          have z106 : V106 hm 2 := k106 _ _ (f1 (by unfold inR; omega) (by decide) ⟨rfl, rfl⟩)
          have z73 : ∀ t : Int, V73 hm 1 t := fun t => k73 _ _ _ ⟨R1, nt n10 (y0 (q_arePieces0 ha3 c3) z106)⟩
          have z72 : V72 hm 1 := k72 _ _ (z73 0)
          refine w1 (q_isGroup1 (by omega) (by omega) (by omega)) (w1 (q_isKind1 (by omega) (by omega)) (k20 _ _ ⟨R1, bf n10 ⟨by omega, ?_⟩⟩))
          rw [Int.toNat_natCast]
          refine ⟨r7, fun _ => k41 _ _ (k42 _ _ _ ⟨R0, bt rfl z72⟩), fun c4 => ?_⟩
          have hc : 0 ≤ hm 7 g ∧ hm 7 g < hs 0 1 := by
            rcases hO1 g (by omega) with u | u
            · exact absurd u.1 c4
            · omega
          obtain ⟨C, eC⟩ := nat_of hc.1
          have w := hS5 C k (by omega) (by omega)
          obtain ⟨⟨p1, p2, p3⟩, _⟩ := hS3 C (by omega)
          have w2 := (hS2 (4 * (hs 5 C).toNat + k) (by omega)).2
          have e14 : hm 14 (4 * (C : Int) + k).toNat = hs 9 (4 * C + k) := by
            rw [show (4 * (C : Int) + k).toNat = 4 * C + k by omega]
            exact hS4 _ (by omega)
          refine k42 _ _ _ ⟨R1, bf n10 ⟨by omega, ?_⟩⟩
          rw [Int.toNat_natCast, eC, e14]
          exact ⟨by omega, (by unfold inR; omega), ha3, fun _ => z72, fun _ => z73 1⟩
        · intro ok ex _ _ hex _ V57 V58 k57 k58
          exact ⟨ha1, (by unfold inR; omega), bt ⟨by omega, by omega⟩ ⟨ha2, bt ⟨by omega, by omega⟩ ⟨ha3, bf (by omega) (hex rfl (rel_thrown hR0 2))⟩⟩⟩
    · refine ⟨0, iset hm 0 0 1, ?_, ?_⟩
      · intro V19 V20 V41 V42 V72 V73 V106 k19 k20 k41 k42 k72 k73 k106
        have z106 : V106 hm 1 := k106 _ _ (f1 (by unfold inR; omega) (by decide) ⟨rfl, rfl⟩)
        have z73 : V73 hm 0 0 := k73 _ _ _ ⟨R0, nf rfl z106⟩
        have z42 : V42 hm 0 0 := k42 _ _ _ ⟨R0, bt rfl (k72 _ _ z73)⟩
        have z19 : V19 hm := k19 _ (k20 _ _ ⟨R0, bt rfl (k41 _ _ z42)⟩)
        exact w1 (q_isGroup1 (by omega) (by omega) (by omega)) (w0 (q_isKind0 ha2 c2) z19)
      · intro ok ex _ hex _ _ V57 V58 k57 k58
        exact ⟨ha1, (by unfold inR; omega), bt ⟨by omega, by omega⟩ ⟨ha2, bf (by omega) (hex rfl (rel_thrown hR0 1))⟩⟩
  · refine ⟨0, iset hm 0 0 1, ?_, ?_⟩
    · intro V19 V20 V41 V42 V72 V73 V106 k19 k20 k41 k42 k72 k73 k106
      have z106 : V106 hm 1 := k106 _ _ (f1 (by unfold inR; omega) (by decide) ⟨rfl, rfl⟩)
      have z73 : V73 hm 0 0 := k73 _ _ _ ⟨R0, nf rfl z106⟩
      have z42 : V42 hm 0 0 := k42 _ _ _ ⟨R0, bt rfl (k72 _ _ z73)⟩
      have z19 : V19 hm := k19 _ (k20 _ _ ⟨R0, bt rfl (k41 _ _ z42)⟩)
      exact w0 (q_isGroup0 ha1 (by omega) (by omega)) z19
    · intro ok ex _ hex _ _ V57 V58 k57 k58
      exact ⟨ha1, (by unfold inR; omega), bf (by omega) (hex rfl (rel_thrown hR0 1))⟩
