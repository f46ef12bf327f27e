theorem serve_rel {hh hs hr hm : ISt} (hR : RelI hh hs hr hm) {n C g : Nat} (ho : CopyOk hs n) (hg : (g : Int) < hh 0 2) (h6g : hh 6 g = 1) (e7 : hm 7 g = -1) (hC : C < n) (wC : whr hs C = 0) :
    ∃ (s' m' : ISt), Q_X3_handOut hs C g (iset s' 6 C g) ∧ Q_X5_lends (iset hm 0 0 0) C m' ∧ RelI hh (iset s' 6 C g) hr (iset (iset m' 13 C 1) 7 g C) ∧ m' 0 0 = 0 := by
  have hR0 := hR
  obtain ⟨hH, ⟨⟨e15, b15, b15'⟩, ⟨e19, b19, b19'⟩, hS1, hS2, hS3, hS4, hS5, hS6, hS7⟩, ⟨hO1, hO2⟩, ⟨hL1, hL2, hL3, hL4, hL5, hL6⟩, hF, hSc⟩ := hR
  have ho' := ho
  obtain ⟨en, bn, hrg⟩ := ho'
  have b10' := hH.2.2.1.2.2
  obtain ⟨c6, c7⟩ := whr_n wC
  obtain ⟨⟨p1, p2, p3⟩, _⟩ := hS3 C (by omega)
  obtain ⟨A, eA⟩ := nat_of p2
  have hnb : ∀ d : Nat, d < n → hs 7 d ≠ C := by
    intro d hd h
    have v := (hL5 d (by omega) (by omega)).2.1
    rw [h, Int.toNat_natCast] at v
    exact v c6
  have free : ∀ c : Nat, (c : Int) < hs 0 1 → hs 6 c ≠ g := by
    rcases hO1 g hg with u | u
    · exact u.2
    · omega
  have hb : SvB hs (iset hm 0 0 0) n C A := by
    refine ⟨ho, hC, c6, c7, eA, by omega, fun c k hc hk => ?_, hnb, (show hm 0 19 = n by omega), fun c hc => (hS3 c (by omega)).1.1, fun k hk => (hS2 _ (by omega)).1⟩
    obtain ⟨⟨p1, p2, p3⟩, _⟩ := hS3 c (by omega)
    exact (hS2 _ (by omega)).2.2
  have pb := psum_b (hs 8) 64
  obtain ⟨N, eN⟩ := nat_of pb.1
  have inv : SvI hs (iset hm 0 0 0) n C hs (iset hm 0 0 0) N 0 0 := by
    refine ⟨fun _ _ _ _ => rfl, ⟨fun _ _ _ _ _ _ _ _ => rfl, fun _ _ => rfl⟩, fun i hi => hS4 i (by omega), fun c k hc hk => hS5 c k (by omega) hk, ⟨hL1.trans eN, eN⟩, ?_, ?_, fun i j hij hj he => hL4 i j hij (by omega) he, fun d hd => Or.inl rfl, fun d hd h => (hL5 d (by omega) h).2.2.2, fun d hd => (hS3 d (by omega)).2.2.2, fun i h1 h2 => hS7 i (by omega) h2, fun d k hd hk h => hL6 d k (by omega) hk h, fun d k hd hk h => absurd h (hnb d hd), fun _ _ _ => rfl⟩
    · intro i hi
      obtain ⟨q1, q2, q3, q4, q5, q6⟩ := hL2 i (by omega)
      refine ⟨(hm 16 i).toNat, (hm 17 i).toNat, (hm 15 i).toNat, ?_, ?_, ?_, by omega, by omega, by omega, ?_, q5, q6⟩
      · show hm 16 i = _
        omega
      · show hm 17 i = _
        omega
      · show hm 15 i = _
        omega
      · omega
    · intro d k' hd hk' hp
      obtain ⟨i, h1, h2, h3⟩ := hL3 d k' (by omega) hk' hp
      exact ⟨i, by omega, h2, h3⟩
  obtain ⟨s', m', N', q1, q2, q3⟩ := sv_all hb hs (iset hm 0 0 0) (g := g) (by unfold inR; omega) 4 0 rfl _ _ N inv
  obtain ⟨i1, ⟨i2, i2'⟩, i3, i4, ⟨i5, i5'⟩, i6, i7, i8, i9, i10, i11, i12, i13, i14, i15⟩ := q1
  have s0 : s' 0 = hs 0 := i1 0 (by decide) (by decide) (by decide)
  have s1 : s' 1 = hs 1 := i1 1 (by decide) (by decide) (by decide)
  have s2 : s' 2 = hs 2 := i1 2 (by decide) (by decide) (by decide)
  have s3 : s' 3 = hs 3 := i1 3 (by decide) (by decide) (by decide)
  have s4 : s' 4 = hs 4 := i1 4 (by decide) (by decide) (by decide)
  have s5 : s' 5 = hs 5 := i1 5 (by decide) (by decide) (by decide)
  have s6 : s' 6 = hs 6 := i1 6 (by decide) (by decide) (by decide)
  have m2 : ∀ j, j ≠ 0 → j ≠ 13 → j ≠ 14 → j ≠ 15 → j ≠ 16 → j ≠ 17 → j ≠ 18 → m' j = hm j := by
    intro j j0 j13 j14 j15 j16 j17 j18
    rw [i2 j j0 j13 j14 j15 j16 j17 j18]
    show (if j = 0 then _ else hm j) = hm j
    rw [if_neg j0]
  have m0 : ∀ k, k ≠ 24 → k ≠ 0 → m' 0 k = hm 0 k := by
    intro k k1 k2
    rw [i2' k k1]
    exact u_ne k2
  have m7 : m' 7 = hm 7 := m2 7 (by decide) (by decide) (by decide) (by decide) (by decide) (by decide) (by decide)
  have C7 : s' 7 C = -1 := by
    rcases i9 C hC with u | u
    · omega
    · omega
  refine ⟨s', m', ?_, ?_, ⟨?_, ⟨⟨?_, ?_, ?_⟩, ⟨?_, ?_, ?_⟩, ?_, ?_, ?_, ?_, ?_, ?_, ?_⟩, ⟨?_, ?_⟩, ⟨?_, ?_, ?_, ?_, ?_, ?_⟩, ?_, ?_⟩, i2' 0 (by decide)⟩
  · intro V2 V10 k2 k10
    exact q2 V2 V10 k2 k10
  · intro V2 V37 V97 V98 V125 V137 k2 k37 k97 k98 k125 k137
    exact q3 V2 V37 V97 V98 V125 V137 k2 k37 k97 k98 k125 k137
  · exact hall_c (m := hm) (m' := iset (iset m' 13 C 1) 7 g C) (m0 1 (by decide) (by decide)) (m0 4 (by decide) (by decide)) (m0 10 (by decide) (by decide)) (m2 1 (by decide) (by decide) (by decide) (by decide) (by decide) (by decide) (by decide)) (m2 2 (by decide) (by decide) (by decide) (by decide) (by decide) (by decide) (by decide)) (m2 3 (by decide) (by decide) (by decide) (by decide) (by decide) (by decide) (by decide)) (m2 4 (by decide) (by decide) (by decide) (by decide) (by decide) (by decide) (by decide)) (m2 5 (by decide) (by decide) (by decide) (by decide) (by decide) (by decide) (by decide)) (m2 6 (by decide) (by decide) (by decide) (by decide) (by decide) (by decide) (by decide)) hH
  · show m' 0 15 = s' 0 0
    rw [m0 15 (by decide) (by decide), s0]
    exact e15
  · show 0 ≤ s' 0 0
    rw [s0]
    exact b15
  · show s' 0 0 ≤ 8
    rw [s0]
    exact b15'
  · show m' 0 19 = s' 0 1
    rw [m0 19 (by decide) (by decide), s0]
    exact e19
  · show 0 ≤ s' 0 1
    rw [s0]
    exact b19
  · show s' 0 1 ≤ 16
    rw [s0]
    exact b19'
  · intro t ht
    have ht : (t : Int) < s' 0 0 := ht
    rw [s0] at ht
    show (m' 8 t = s' 1 t ∧ 1 ≤ s' 1 t ∧ s' 1 t ≤ 12) ∧ (m' 9 t = s' 2 t ∧ 1 ≤ s' 2 t ∧ s' 2 t ≤ 12) ∧ (m' 10 t = s' 3 t ∧ 5 ≤ s' 3 t ∧ s' 3 t ≤ 300)
    rw [s1, s2, s3, m2 8 (by decide) (by decide) (by decide) (by decide) (by decide) (by decide) (by decide), m2 9 (by decide) (by decide) (by decide) (by decide) (by decide) (by decide) (by decide), m2 10 (by decide) (by decide) (by decide) (by decide) (by decide) (by decide) (by decide)]
    exact hS1 t ht
  · intro i hi
    have hi : (i : Int) < 4 * s' 0 0 := hi
    rw [s0] at hi
    show m' 11 i = s' 4 i ∧ 0 ≤ s' 4 i ∧ s' 4 i ≤ 9
    rw [s4, m2 11 (by decide) (by decide) (by decide) (by decide) (by decide) (by decide) (by decide)]
    exact hS2 i hi
  · intro c hc
    have hc : (c : Int) < s' 0 1 := hc
    rw [s0] at hc
    obtain ⟨p1, p2, p3, p4⟩ := hS3 c hc
    show (m' 12 c = s' 5 c ∧ 0 ≤ s' 5 c ∧ s' 5 c < s' 0 0) ∧ (-1 ≤ iupd (s' 6) C g c ∧ iupd (s' 6) C g c < hh 0 2) ∧ (-1 ≤ s' 7 c ∧ s' 7 c < s' 0 1) ∧ iupd (m' 13) C 1 c = (if iupd (s' 6) C g c = -1 then (if s' 7 c = -1 then 0 else 2) else 1)
    rw [s0, s5, s6, m2 12 (by decide) (by decide) (by decide) (by decide) (by decide) (by decide) (by decide)]
    refine ⟨p1, ?_, ?_, ?_⟩
    · by_cases d : c = C
      · subst d
        rw [u_eq]
        omega
      · rw [u_ne d]
        exact p2
    · rcases i9 c (by omega) with u | u
      · omega
      · omega
    · by_cases d : c = C
      · subst d
        rw [u_eq, u_eq, if_neg (by omega)]
      · rw [u_ne d, u_ne d, i11 c (by omega)]
        unfold whr
        rw [s6]
  · intro i hi
    have hi : (i : Int) < 4 * s' 0 1 := hi
    rw [s0] at hi
    exact i3 i (by omega)
  · intro c k' hc hk'
    have hc : (c : Int) < s' 0 1 := hc
    rw [s0] at hc
    show 0 ≤ s' 9 (4 * c + k') ∧ 0 ≤ s' 8 (4 * c + k') ∧ s' 9 (4 * c + k') + s' 8 (4 * c + k') ≤ s' 4 (4 * (s' 5 c).toNat + k')
    rw [s4, s5]
    exact i4 c k' (by omega) hk'
  · intro c hc hc'
    have hc : s' 0 1 ≤ c := hc
    rw [s0] at hc
    show s' 5 c = -1 ∧ iupd (s' 6) C g c = -1 ∧ s' 7 c = -1
    rw [s5, s6, u_ne (by omega), i15 c (by omega) hc']
    exact hS6 c hc hc'
  · intro i hi hi'
    have hi : 4 * s' 0 1 ≤ i := hi
    rw [s0] at hi
    exact i12 i (by omega) hi'
  · intro x' hx'
    show (iupd (m' 7) g C x' = -1 ∧ ∀ c : Nat, (c : Int) < s' 0 1 → iupd (s' 6) C g c ≠ x') ∨ (0 ≤ iupd (m' 7) g C x' ∧ iupd (m' 7) g C x' < s' 0 1 ∧ iupd (s' 6) C g (iupd (m' 7) g C x').toNat = x' ∧ ∀ c : Nat, (c : Int) < s' 0 1 → iupd (s' 6) C g c = x' → (c : Int) = iupd (m' 7) g C x')
    rw [s0, s6, m7]
    by_cases d : x' = g
    · subst d
      rw [u_eq, Int.toNat_natCast, u_eq]
      refine Or.inr ⟨by omega, by omega, rfl, fun c hc h => ?_⟩
      by_cases e : c = C
      · rw [e]
      · rw [u_ne e] at h
        exact absurd h (free c hc)
    · rw [u_ne d]
      rcases hO1 x' hx' with ⟨u, v⟩ | ⟨u1, u2, u3, u4⟩
      · refine Or.inl ⟨u, fun c hc => ?_⟩
        by_cases e : c = C
        · subst e
          rw [u_eq]
          omega
        · rw [u_ne e]
          exact v c hc
      · have nC : (hm 7 x').toNat ≠ C := by
          intro h
          rw [h] at u3
          omega
        refine Or.inr ⟨u1, u2, by rw [u_ne nC]; exact u3, fun c hc h => ?_⟩
        by_cases e : c = C
        · subst e
          rw [u_eq] at h
          omega
        · rw [u_ne e] at h
          exact u4 c hc h
  · intro c hc hc'
    have hc : (c : Int) < s' 0 1 := hc
    have hc' : iupd (s' 6) C g c ≠ -1 := hc'
    show hh 6 (iupd (s' 6) C g c).toNat = 1
    rw [s0] at hc
    rw [s6] at hc' ⊢
    by_cases e : c = C
    · subst e
      rw [u_eq, Int.toNat_natCast]
      exact h6g
    · rw [u_ne e] at hc' ⊢
      exact hO2 c hc hc'
  · show m' 0 24 = psum (s' 8) 64
    omega
  · intro i hi
    have hi : (i : Int) < m' 0 24 := hi
    obtain ⟨k2, d2, b2, g1, g2, g3, g4, g5, g6, g7, g8, g9⟩ := i6 i (by omega)
    show (0 ≤ m' 16 i ∧ m' 16 i < 4) ∧ (0 ≤ m' 17 i ∧ m' 17 i < s' 0 1) ∧ (0 ≤ m' 15 i ∧ m' 15 i < s' 0 1) ∧ s' 7 (m' 17 i).toNat = m' 15 i ∧ s' 8 (4 * (m' 17 i).toNat + (m' 16 i).toNat) = m' 18 i ∧ 0 < m' 18 i
    rw [s0, g1, g2, g3, Int.toNat_natCast, Int.toNat_natCast]
    exact ⟨by omega, by omega, by omega, g7, g8, g9⟩
  · intro d k' hd hk' hp
    have hd : (d : Int) < s' 0 1 := hd
    rw [s0] at hd
    obtain ⟨i, h1, h2, h3⟩ := i7 d k' (by omega) hk' hp
    exact ⟨i, (show (i : Int) < m' 0 24 by omega), h2, h3⟩
  · intro i j hij hj he
    have hj : (j : Int) < m' 0 24 := hj
    exact i8 i j hij (by omega) he
  · intro d hd hp
    have hd : (d : Int) < s' 0 1 := hd
    have hp : s' 7 d ≠ -1 := hp
    show iupd (s' 6) C g d = -1 ∧ iupd (s' 6) C g (s' 7 d).toNat ≠ -1 ∧ s' 5 (s' 7 d).toNat = s' 5 d ∧ ∃ k : Nat, k < 4 ∧ 0 < s' 8 (4 * d + k)
    rw [s0] at hd
    have dC : d ≠ C := by
      intro h
      rw [h] at hp
      exact hp C7
    rw [s5, s6, u_ne dC]
    rcases i9 d (by omega) with u | ⟨u1, u2, u3, u4, u5⟩
    · rw [u] at hp ⊢
      obtain ⟨w1, w2, w3, _⟩ := hL5 d hd hp
      refine ⟨w1, ?_, w3, i10 d (by omega) (by omega)⟩
      by_cases e : (hs 7 d).toNat = C
      · rw [e, u_eq]
        omega
      · rw [u_ne e]
        exact w2
    · refine ⟨u4, ?_, ?_, i10 d (by omega) hp⟩
      · rw [u1, Int.toNat_natCast, u_eq]
        omega
      · rw [u1, Int.toNat_natCast]
        exact u5.symm
  · intro d k' hd hk' hp
    have hd : (d : Int) < s' 0 1 := hd
    rw [s0] at hd
    exact i13 d k' (by omega) hk' hp
  · exact ref_c (m := hm) (m' := iset (iset m' 13 C 1) 7 g C) (show s' 0 0 = hs 0 0 by rw [s0]) (m2 19 (by decide) (by decide) (by decide) (by decide) (by decide) (by decide) (by decide)) (m2 20 (by decide) (by decide) (by decide) (by decide) (by decide) (by decide) (by decide)) (m2 21 (by decide) (by decide) (by decide) (by decide) (by decide) (by decide) (by decide)) (m2 22 (by decide) (by decide) (by decide) (by decide) (by decide) (by decide) (by decide)) (m2 23 (by decide) (by decide) (by decide) (by decide) (by decide) (by decide) (by decide)) hF
  · show inR (m' 0 30) ∧ inR (m' 0 31)
    rw [m0 30 (by decide) (by decide), m0 31 (by decide) (by decide)]
    exact hSc
theorem si_serve : SimI_serve RelI := by
  intro hh hs hr hm a1 a2 ha1 ha2 hR
  have hR0 := hR
  have e10 := hR.1.2.2.1
  have e15 := hR.2.1.1
  have e19 := hR.2.1.2.1
  have hS3 := hR.2.1.2.2.2.2.1
  by_cases c1 : 0 ≤ a1 ∧ a1 < hh 0 2
  · by_cases c2 : 0 ≤ a2 ∧ a2 < hs 0 0
    · obtain ⟨g, eg⟩ := nat_of c1.1
      subst eg
      obtain ⟨t, et⟩ := nat_of c2.1
      subst et
      obtain ⟨n, ho, en19⟩ := copy_ok hR
      have en := ho.1
      obtain ⟨ln, hl⟩ := ln_ex hR ho
      obtain ⟨r, r01, o4, o5, oo⟩ := offered_ex hR ho hl (show (g : Int) < hh 0 2 by omega) (t := t) (by omega)
      by_cases c3 : r = 1
      · obtain ⟨f1', f2', f3'⟩ := oo c3
        subst c3
        have bb := bst_b (hs 5) ln t n
        obtain ⟨u1, u2, u3, u4⟩ := bb.resolve_left f3'
        obtain ⟨C, eC⟩ := nat_of u1
        rw [eC, Int.toNat_natCast] at u3 u4
        have wC := (hl C (by omega)).2.2.1 u4
        obtain ⟨s', m', t1, t2, t3, t4⟩ := serve_rel hR0 ho (by omega) f1' f2' (show C < n by omega) wC
        have b3 := q_best3 ho hl (t := t) (by unfold inR; omega)
        have b5 := q_best5 (hm := hm) ho.2.1 (by omega) (fun c hc => ⟨(hS3 c (by omega)).1.1, by have := (ho.2.2 c hc).1; unfold inR; omega⟩) hl (t := t) (by unfold inR; omega)
        rw [eC] at b3 b5
        refine ⟨C, iset (iset m' 13 C 1) 7 g C, ?_, ?_⟩
        · intro V20 V21 V45 k20 k21 k45
          refine w1 (q_isGroup1 (by omega) (by omega) (by omega)) (w1 (q_isTitle1 (by omega) (by omega) (by omega)) (k21 _ _ ⟨R1, nt n10 ⟨_, o5, R1, nt n10 (k45 _ _ (f0 ⟨C, b5, m', t2, by omega, fs C rfl rfl ⟨by omega, fs g rfl rfl ⟨rfl, rfl⟩⟩⟩))⟩⟩))
        · intro ok ex hok _ _
          exact ⟨ha1, (by unfold inR; omega), bt ⟨by omega, by omega⟩ ⟨ha2, (by unfold inR; omega), bt ⟨by omega, by omega⟩ ⟨_, o4, R1, bt n10 ⟨C, b3, _, t1, hok hh _ hr t4 t3⟩⟩⟩⟩
      · have r0 : r = 0 := r01.resolve_right c3
        subst r0
        refine ⟨0, iset hm 0 0 2, ?_, ?_⟩
        · intro V20 V21 V45 k20 k21 k45
          exact w1 (q_isGroup1 (by omega) (by omega) (by omega)) (w1 (q_isTitle1 (by omega) (by omega) (by omega)) (k21 _ _ ⟨R1, nt n10 ⟨_, o5, R0, nf rfl (k45 _ _ (f1 (by unfold inR; omega) (by decide) ⟨rfl, rfl⟩))⟩⟩))
        · intro ok ex _ _ hex
          exact ⟨ha1, (by unfold inR; omega), bt ⟨by omega, by omega⟩ ⟨ha2, (by unfold inR; omega), bt ⟨by omega, by omega⟩ ⟨_, o4, R0, bf (by simp) (hex rfl (rel_thrown hR0 2))⟩⟩⟩
    · refine ⟨0, iset hm 0 0 1, ?_, ?_⟩
      · intro V20 V21 V45 k20 k21 k45
        exact w1 (q_isGroup1 (by omega) (by omega) (by omega)) (w0 (q_isTitle0 ha2 (by omega) (by omega)) (k20 _ (k21 _ _ ⟨R0, nf rfl (k45 _ _ (f1 (by unfold inR; omega) (by decide) ⟨rfl, rfl⟩))⟩)))
      · intro ok ex _ hex _
        exact ⟨ha1, (by unfold inR; omega), bt ⟨by omega, by omega⟩ ⟨ha2, (by unfold inR; omega), bf (by omega) (hex rfl (rel_thrown hR0 1))⟩⟩
  · refine ⟨0, iset hm 0 0 1, ?_, ?_⟩
    · intro V20 V21 V45 k20 k21 k45
      exact w0 (q_isGroup0 ha1 (by omega) (by omega)) (k20 _ (k21 _ _ ⟨R0, nf rfl (k45 _ _ (f1 (by unfold inR; omega) (by decide) ⟨rfl, rfl⟩))⟩))
    · intro ok ex _ hex _
      exact ⟨ha1, (by unfold inR; omega), bf (by omega) (hex rfl (rel_thrown hR0 1))⟩
