theorem q_putCopy {h : ISt} {N A : Nat} (e : h 0 1 = N) (b : N < 16) (bA : A < 8) : Q_X3_putCopy h A N (iset (iset (iset (iset (iset (iset h 0 1 (N + 1)) 5 N A) 9 (4 * N) (h 4 (4 * A))) 9 (4 * N + 1) (h 4 (4 * A + 1))) 9 (4 * N + 2) (h 4 (4 * A + 2))) 9 (4 * N + 3) (h 4 (4 * A + 3))) := by
  intro V k
  refine fa ⟨(by unfold inR; omega), fp N e b rfl ?_⟩
  rw [e]
  refine k _ _ _ ⟨R0, bf (by omega) ⟨(by unfold inR; omega), (by unfold inR; omega), fp (4 * N) (by omega) (by omega) (x' := h 4 (4 * A)) ?_ ?_⟩⟩
  · show iat 32 (h 4) _ = _
    rw [ia (by omega) (by omega)]
    congr 1
    omega
  refine k _ _ _ ⟨(by unfold inR; omega), bf (by omega) ⟨(by unfold inR; omega), (by unfold inR; omega), fp (4 * N + 1) (by omega) (by omega) (x' := h 4 (4 * A + 1)) ?_ ?_⟩⟩
  · show iat 32 (h 4) _ = _
    rw [ia (by omega) (by omega)]
    congr 1
    omega
  refine k _ _ _ ⟨(by unfold inR; omega), bf (by omega) ⟨(by unfold inR; omega), (by unfold inR; omega), fp (4 * N + 2) (by omega) (by omega) (x' := h 4 (4 * A + 2)) ?_ ?_⟩⟩
  · show iat 32 (h 4) _ = _
    rw [ia (by omega) (by omega)]
    congr 1
    omega
  refine k _ _ _ ⟨(by unfold inR; omega), bf (by omega) ⟨(by unfold inR; omega), (by unfold inR; omega), fp (4 * N + 3) (by omega) (by omega) (x' := h 4 (4 * A + 3)) ?_ ?_⟩⟩
  · show iat 32 (h 4) _ = _
    rw [ia (by omega) (by omega)]
    congr 1
    omega
  exact k _ _ _ ⟨(by unfold inR; omega), bt (by omega) ⟨rfl, rfl⟩⟩
theorem si_addCopy : SimI_addCopy RelI := by
  intro hh hs hr hm a1 ha hR
  have hR0 := hR
  obtain ⟨hH, ⟨⟨e15, b15, b15'⟩, ⟨e19, b19, b19'⟩, hS1, hS2, hS3, hS4, hS5, hS6, hS7⟩, ⟨hO1, hO2⟩, ⟨hL1, hL2, hL3, hL4, hL5, hL6⟩, hF⟩ := hR
  by_cases c1 : 0 ≤ a1 ∧ a1 < hs 0 0
  · by_cases c2 : hs 0 1 = 16
    · refine ⟨0, iset hm 0 0 2, ?_, ?_⟩
      · intro V V' k k'
        exact y1 (q_isTitle1 (by omega) (by omega) (by omega)) ⟨(by unfold inR; omega), nf (by omega) (k _ _ (f1 (by unfold inR; omega) (by decide) ⟨rfl, rfl⟩))⟩
      · intro ok ex _ _ hex
        exact ⟨ha, (by unfold inR; omega), bt ⟨by omega, by omega⟩ ⟨(by unfold inR; omega), bt (by omega) (bf (by simp) (hex rfl (rel_thrown hR0 2)))⟩⟩
    · obtain ⟨N, eN⟩ := nat_of b19
      obtain ⟨A, eA⟩ := nat_of c1.1
      subst eA
      have eM : hm 0 19 = N := by omega
      refine ⟨N, iset (iset (iset (iset (iset (iset (iset (iset hm 0 0 0) 12 N A) 13 N 0) 14 (4 * N) (hm 11 (4 * A))) 14 (4 * N + 1) (hm 11 (4 * A + 1))) 14 (4 * N + 2) (hm 11 (4 * A + 2))) 14 (4 * N + 3) (hm 11 (4 * A + 3))) 0 19 (hm 0 19 + 1), ?_, ?_⟩
      · intro V V' k k'
        refine y1 (q_isTitle1 (by omega) (by omega) (by omega)) ⟨(by unfold inR; omega), nt (by omega) (k _ _ (f0 ⟨?_, fs N (show hm 0 19 = N from eM) rfl ⟨?_, fs N (show hm 0 19 = N from eM) rfl ?_⟩⟩))⟩
        · show 0 ≤ hm 0 19 ∧ hm 0 19 < 16
          omega
        · show 0 ≤ hm 0 19 ∧ hm 0 19 < 16
          omega
        refine k' _ _ ⟨R0, bf (by omega) ⟨by omega, ?_, fs (4 * N) (show 4 * hm 0 19 + 0 = ((4 * N : Nat) : Int) by omega) (x' := hm 11 (4 * A)) ?_ ?_⟩⟩
        · show 0 ≤ 4 * hm 0 19 + 0 ∧ 4 * hm 0 19 + 0 < 64
          omega
        · show hm 11 _ = _
          exact congrArg (hm 11) (by omega)
        refine k' _ _ ⟨(by unfold inR; omega), bf (by omega) ⟨by omega, ?_, fs (4 * N + 1) (show 4 * hm 0 19 + (0 + 1) = ((4 * N + 1 : Nat) : Int) by omega) (x' := hm 11 (4 * A + 1)) ?_ ?_⟩⟩
        · show 0 ≤ 4 * hm 0 19 + (0 + 1) ∧ 4 * hm 0 19 + (0 + 1) < 64
          omega
        · show hm 11 _ = _
          exact congrArg (hm 11) (by omega)
        refine k' _ _ ⟨(by unfold inR; omega), bf (by omega) ⟨by omega, ?_, fs (4 * N + 2) (show 4 * hm 0 19 + (0 + 1 + 1) = ((4 * N + 2 : Nat) : Int) by omega) (x' := hm 11 (4 * A + 2)) ?_ ?_⟩⟩
        · show 0 ≤ 4 * hm 0 19 + (0 + 1 + 1) ∧ 4 * hm 0 19 + (0 + 1 + 1) < 64
          omega
        · show hm 11 _ = _
          exact congrArg (hm 11) (by omega)
        refine k' _ _ ⟨(by unfold inR; omega), bf (by omega) ⟨by omega, ?_, fs (4 * N + 3) (show 4 * hm 0 19 + (0 + 1 + 1 + 1) = ((4 * N + 3 : Nat) : Int) by omega) (x' := hm 11 (4 * A + 3)) ?_ ?_⟩⟩
        · show 0 ≤ 4 * hm 0 19 + (0 + 1 + 1 + 1) ∧ 4 * hm 0 19 + (0 + 1 + 1 + 1) < 64
          omega
        · show hm 11 _ = _
          exact congrArg (hm 11) (by omega)
        refine k' _ _ ⟨(by unfold inR; omega), bt (by omega) (fa ⟨?_, rfl⟩)⟩
        show (N : Int) = hm 0 19 + 1 - 1
        omega
      · intro ok ex hok _ _
        refine ⟨ha, (by unfold inR; omega), bt ⟨by omega, by omega⟩ ⟨(by unfold inR; omega), bf (by omega) (bt n10 ⟨_, _, q_putCopy eN (by omega) (by omega), hok hh _ hr rfl ⟨hH, ⟨⟨e15, b15, b15'⟩, ⟨?_, ?_, ?_⟩, hS1, hS2, ?_, ?_, ?_, ?_, ?_⟩, ⟨?_, ?_⟩, ⟨hL1, ?_, ?_, hL4, ?_, ?_⟩, hF⟩⟩)⟩⟩
        · show hm 0 19 + 1 = (N : Int) + 1
          omega
        · show (0 : Int) ≤ (N : Int) + 1
          omega
        · show (N : Int) + 1 ≤ 16
          omega
        · intro c hc
          have hc : (c : Int) < (N : Int) + 1 := hc
          show (iupd (hm 12) N A c = iupd (hs 5) N A c ∧ 0 ≤ iupd (hs 5) N A c ∧ iupd (hs 5) N A c < hs 0 0) ∧ (-1 ≤ hs 6 c ∧ hs 6 c < hh 0 2) ∧ (-1 ≤ hs 7 c ∧ hs 7 c < (N : Int) + 1) ∧ iupd (hm 13) N 0 c = whr hs c
          by_cases d : c = N
          · subst d
            obtain ⟨q5, q6, q7⟩ := hS6 c (by omega) (by omega)
            rw [u_eq, u_eq, u_eq]
            have b10 := hH.2.2.1.2.1
            have b10' := hH.2.2.1.1
            refine ⟨⟨rfl, by omega, by omega⟩, ⟨by omega, by omega⟩, ⟨by omega, by omega⟩, ?_⟩
            unfold whr
            rw [if_pos q6, if_pos q7]
          · rw [u_ne d, u_ne d, u_ne d]
            obtain ⟨q1, q2, q3, q4⟩ := hS3 c (by omega)
            exact ⟨q1, q2, ⟨q3.1, by omega⟩, q4⟩
        · intro i hi
          have hi : (i : Int) < 4 * ((N : Int) + 1) := hi
          have w : ∀ k : Nat, k < 4 → hm 11 (4 * A + k) = hs 4 (4 * A + k) := fun k hk => (hS2 _ (by omega)).1
          show u4 (hm 14) (4 * N) (hm 11 (4 * A + 0)) (hm 11 (4 * A + 1)) (hm 11 (4 * A + 2)) (hm 11 (4 * A + 3)) i = u4 (hs 9) (4 * N) (hs 4 (4 * A + 0)) (hs 4 (4 * A + 1)) (hs 4 (4 * A + 2)) (hs 4 (4 * A + 3)) i
          rw [w 0 (by omega), w 1 (by omega), w 2 (by omega), w 3 (by omega)]
          rcases u4_or (4 * N) i (by omega) (hs 4 (4 * A + 0)) (hs 4 (4 * A + 1)) (hs 4 (4 * A + 2)) (hs 4 (4 * A + 3)) with ⟨c, q⟩ | ⟨c, q⟩ | ⟨c, q⟩ | ⟨c, q⟩ | ⟨c, q⟩
          · rw [q, q]
            exact hS4 i (by omega)
          all_goals rw [q, q]
        · intro c k hc hk
          have hc : (c : Int) < (N : Int) + 1 := hc
          show 0 ≤ u4 (hs 9) (4 * N) (hs 4 (4 * A + 0)) (hs 4 (4 * A + 1)) (hs 4 (4 * A + 2)) (hs 4 (4 * A + 3)) (4 * c + k) ∧ 0 ≤ hs 8 (4 * c + k) ∧ u4 (hs 9) (4 * N) (hs 4 (4 * A + 0)) (hs 4 (4 * A + 1)) (hs 4 (4 * A + 2)) (hs 4 (4 * A + 3)) (4 * c + k) + hs 8 (4 * c + k) ≤ hs 4 (4 * (iupd (hs 5) N A c).toNat + k)
          by_cases d : c = N
          · subst d
            have z := hS7 (4 * c + k) (by omega) (by omega)
            have p := (hS2 (4 * A + k) (by omega)).2
            rw [u_eq, z, Int.toNat_natCast]
            rcases u4_or (4 * c) (4 * c + k) (by omega) (hs 4 (4 * A + 0)) (hs 4 (4 * A + 1)) (hs 4 (4 * A + 2)) (hs 4 (4 * A + 3)) with ⟨g, q⟩ | ⟨g, q⟩ | ⟨g, q⟩ | ⟨g, q⟩ | ⟨g, q⟩
            · omega
            · have : k = 0 := by omega
              subst this
              rw [q]
              omega
            · have : k = 1 := by omega
              subst this
              rw [q]
              omega
            · have : k = 2 := by omega
              subst this
              rw [q]
              omega
            · have : k = 3 := by omega
              subst this
              rw [q]
              omega
          · rw [u_ne d, u4_ne (Or.inl (by omega))]
            exact hS5 c k (by omega) hk
        · intro c hc hc'
          have hc : (N : Int) + 1 ≤ c := hc
          show iupd (hs 5) N A c = -1 ∧ hs 6 c = -1 ∧ hs 7 c = -1
          rw [u_ne (by omega)]
          exact hS6 c (by omega) hc'
        · intro i hi hi'
          have hi : 4 * ((N : Int) + 1) ≤ i := hi
          exact hS7 i (by omega) hi'
        · intro g hg
          show (hm 7 g = -1 ∧ ∀ c : Nat, (c : Int) < (N : Int) + 1 → hs 6 c ≠ g) ∨ (0 ≤ hm 7 g ∧ hm 7 g < (N : Int) + 1 ∧ hs 6 (hm 7 g).toNat = g ∧ ∀ c : Nat, (c : Int) < (N : Int) + 1 → hs 6 c = g → (c : Int) = hm 7 g)
          have z := (hS6 N (by omega) (by omega)).2.1
          rcases hO1 g hg with ⟨p, q⟩ | ⟨p1, p2, p3, p4⟩
          · refine Or.inl ⟨p, fun c hc => ?_⟩
            by_cases d : c = N
            · subst d
              omega
            · exact q c (by omega)
          · refine Or.inr ⟨p1, by omega, p3, fun c hc hc' => ?_⟩
            by_cases d : c = N
            · subst d
              omega
            · exact p4 c (by omega) hc'
        · intro c hc hc'
          have hc : (c : Int) < (N : Int) + 1 := hc
          have hc' : hs 6 c ≠ -1 := hc'
          have z := (hS6 N (by omega) (by omega)).2.1
          by_cases d : c = N
          · subst d
            omega
          · exact hO2 c (by omega) hc'
        · intro i hi
          obtain ⟨q1, q2, q3, q4⟩ := hL2 i hi
          exact ⟨q1, ⟨q2.1, show hm 17 i < (N : Int) + 1 by omega⟩, ⟨q3.1, show hm 15 i < (N : Int) + 1 by omega⟩, q4⟩
        · intro d k hd hk hp
          have hd : (d : Int) < (N : Int) + 1 := hd
          have hp : 0 < hs 8 (4 * d + k) := hp
          by_cases f : d = N
          · subst f
            have z := hS7 (4 * d + k) (by omega) (by omega)
            omega
          · exact hL3 d k (by omega) hk hp
        · intro d hd hp
          have hd : (d : Int) < (N : Int) + 1 := hd
          have hp : hs 7 d ≠ -1 := hp
          have z := (hS6 N (by omega) (by omega)).2.2
          by_cases f : d = N
          · subst f
            omega
          · obtain ⟨q1, q2, q3, q4⟩ := hL5 d (by omega) hp
            obtain ⟨p1, p2, p3, p4⟩ := hS3 d (by omega)
            refine ⟨q1, q2, ?_, q4⟩
            show iupd (hs 5) N A (hs 7 d).toNat = iupd (hs 5) N A d
            rw [u_ne f, u_ne (by omega)]
            exact q3
        · intro d k hd hk hp
          have hd : (d : Int) < (N : Int) + 1 := hd
          by_cases f : d = N
          · subst f
            exact hS7 (4 * d + k) (by omega) (by omega)
          · exact hL6 d k (by omega) hk hp
  · refine ⟨0, iset hm 0 0 1, ?_, ?_⟩
    · intro V V' k k'
      exact y0 (q_isTitle0 ha (by omega) (by omega)) (k _ _ (f1 (by unfold inR; omega) (by decide) ⟨rfl, rfl⟩))
    · intro ok ex _ hex _
      exact ⟨ha, (by unfold inR; omega), bf (by omega) (hex rfl (rel_thrown hR0 1))⟩
