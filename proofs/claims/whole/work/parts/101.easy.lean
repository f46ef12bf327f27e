theorem si_pass : SimI_pass RelI := by
  intro hh hs hr hm a1 ha hR
  have hR0 := hR
  obtain ⟨⟨⟨e1, b1, b1'⟩, hH⟩, hS, hO, hL, hF⟩ := hR
  by_cases c1 : 1 ≤ a1 ∧ a1 ≤ 500
  · by_cases c2 : hh 0 0 + a1 ≤ 20000
    · refine ⟨hm 0 1 + a1, iset (iset hm 0 0 0) 0 1 (hm 0 1 + a1), ?_, ?_⟩
      · intro V k
        exact y1 (q_isIn1 ha (by unfold inR; omega) (by unfold inR; omega) c1) ⟨(by unfold inR; omega), bt (by omega) (k _ _ (f0 (fa ⟨rfl, rfl⟩)))⟩
      · intro ok ex hok _ _ V k
        refine ⟨ha, bt ⟨by omega, by omega⟩ ⟨(by unfold inR; omega), bf (by omega) (k _ ⟨R1, bt n10 (fa ?_)⟩)⟩⟩
        have h := hok (iset hh 0 0 (hh 0 0 + a1)) hs hr rfl ⟨⟨⟨show hm 0 1 + a1 = hh 0 0 + a1 by omega, show 0 ≤ hh 0 0 + a1 by omega, show hh 0 0 + a1 ≤ 20000 by omega⟩, hH⟩, hS, hO, hL, hF⟩
        rw [e1] at h
        exact h
    · refine ⟨0, iset hm 0 0 2, ?_, ?_⟩
      · intro V k
        exact y1 (q_isIn1 ha (by unfold inR; omega) (by unfold inR; omega) c1) ⟨(by unfold inR; omega), bf (by omega) (k _ _ (f1 (by unfold inR; omega) (by decide) ⟨rfl, rfl⟩))⟩
      · intro ok ex _ _ hex V k
        exact ⟨ha, bt ⟨by omega, by omega⟩ ⟨(by unfold inR; omega), bt (by omega) (k _ ⟨R0, bf (by simp) (hex rfl (rel_thrown hR0 2))⟩)⟩⟩
  · refine ⟨0, iset hm 0 0 1, ?_, ?_⟩
    · intro V k
      exact y0 (q_isIn0 ha (by unfold inR; omega) (by unfold inR; omega) c1) (k _ _ (f1 (by unfold inR; omega) (by decide) ⟨rfl, rfl⟩))
    · intro ok ex _ hex _ V k
      exact ⟨ha, bf (by omega) (hex rfl (rel_thrown hR0 1))⟩
theorem si_now : SimI_now RelI := by
  intro hh hs hr hm hR
  exact ⟨hh 0 0, iset hm 0 0 0, fa ⟨hR.1.1.1.symm, rfl⟩, rfl, rel_thrown hR 0⟩
theorem si_left : SimI_left RelI := by
  intro hh hs hr hm a1 ha hR
  have hR0 := hR
  obtain ⟨⟨⟨e1, b1, b1'⟩, ht, ⟨e10, b10, b10'⟩, hH1, hH2, hH3, hG, hG0, hG3⟩, hS, hO, hL, hF⟩ := hR
  by_cases c1 : 0 ≤ a1 ∧ a1 < hh 0 2
  · obtain ⟨⟨p3, p3a, p3b⟩, ⟨p4, p4a, p4b⟩, ⟨p5, p5a, p5b⟩, p6⟩ := hG a1.toNat (by omega)
    obtain ⟨q1, q2⟩ := hG3 a1.toNat (by omega)
    have i6 : iat 30 (hh 6) a1 = hh 6 a1.toNat := ia (by omega) (by omega)
    have i5 : iat 30 (hh 5) a1 = hh 5 a1.toNat := ia (by omega) (by omega)
    by_cases c2 : hh 6 a1.toNat = 1
    · have p6 := p6 c2
      refine ⟨imax (hh 5 a1.toNat - hh 0 0) 0, iset hm 0 0 0, ?_, ?_⟩
      · intro V k
        refine y1 (q_isGroup1 (by omega) (by omega) (by omega)) ⟨by omega, (by unfold inR; omega), bt (by omega) (k _ _ (g0 ⟨imax (hh 5 a1.toNat - hh 0 0) 0, ?_, rfl, rfl⟩))⟩
        refine ⟨by omega, by omega, ?_, ?_⟩
        · show inR (hm 6 a1.toNat + hm 4 a1.toNat - hm 0 1)
          unfold inR
          omega
        · show (0 ≤ hm 6 a1.toNat + hm 4 a1.toNat - hm 0 1 → imax (hh 5 a1.toNat - hh 0 0) 0 = hm 6 a1.toNat + hm 4 a1.toNat - hm 0 1) ∧ (¬ 0 ≤ hm 6 a1.toNat + hm 4 a1.toNat - hm 0 1 → imax (hh 5 a1.toNat - hh 0 0) 0 = 0)
          unfold imax
          constructor
          · intro c
            rw [if_neg (by omega)]
            omega
          · intro c
            rw [if_pos (by omega)]
      · intro ok ex hok _ _
        refine ⟨ha, (by unfold inR; omega), bt ⟨by omega, by omega⟩ ⟨1, ⟨ha, ?_, ?_⟩, R1, bt n10 ⟨_, ⟨ha, ?_, rfl⟩, ?_⟩⟩⟩
        · rw [i6]; unfold inR; omega
        · rw [i6]; exact nf c2 rfl
        · rw [i5]; unfold inR; omega
        · rw [i5]; exact hok hh hs hr rfl (rel_thrown hR0 0)
    · refine ⟨0, iset hm 0 0 2, ?_, ?_⟩
      · intro V k
        exact y1 (q_isGroup1 (by omega) (by omega) (by omega)) ⟨by omega, (by unfold inR; omega), bf (by omega) (k _ _ (g1 (by unfold inR; omega) (by decide) ⟨rfl, rfl⟩))⟩
      · intro ok ex _ _ hex
        refine ⟨ha, (by unfold inR; omega), bt ⟨by omega, by omega⟩ ⟨0, ⟨ha, ?_, ?_⟩, R0, bf (by simp) (hex rfl (rel_thrown hR0 2))⟩⟩
        · rw [i6]; unfold inR; omega
        · rw [i6]; exact nt c2 rfl
  · refine ⟨0, iset hm 0 0 1, ?_, ?_⟩
    · intro V k
      exact y0 (q_isGroup0 ha (by omega) (by omega)) (k _ _ (g1 (by unfold inR; omega) (by decide) ⟨rfl, rfl⟩))
    · intro ok ex _ hex _
      exact ⟨ha, (by unfold inR; omega), bf (by omega) (hex rfl (rel_thrown hR0 1))⟩
theorem si_pieces : SimI_pieces RelI := by
  intro hh hs hr hm a1 a2 ha ha2 hR
  have hR0 := hR
  obtain ⟨hH, ⟨h15, ⟨e19, b19, b19'⟩, hS1, hS2, hS3, hS4, hS5⟩, hO, hL, hF⟩ := hR
  by_cases c1 : 0 ≤ a1 ∧ a1 < hs 0 1
  · by_cases c2 : 0 ≤ a2 ∧ a2 < 4
    · have e : hm 14 (4 * a1 + a2).toNat = hs 9 (4 * a1 + a2).toNat := hS4 _ (by omega)
      have i : iat 64 (hs 9) (a1 * 4 + a2) = hs 9 (4 * a1 + a2).toNat := by
        rw [ia (by omega) (by omega), Int.mul_comm]
      refine ⟨hs 9 (4 * a1 + a2).toNat, iset hm 0 0 0, ?_, ?_⟩
      · intro V V' k k'
        exact w1 (q_isCopy1 (by omega) (by omega) (by omega)) (w1 (q_isKind1 (by omega) (by omega)) (k' _ _ (g0 ⟨by omega, e.symm, rfl⟩)))
      · intro ok ex hok _
        exact ⟨ha, (by unfold inR; omega), bt ⟨by omega, by omega⟩ ⟨ha2, bt ⟨by omega, by omega⟩ ⟨_, ⟨(by unfold inR; omega), i.symm⟩, hok hh hs hr rfl (rel_thrown hR0 0)⟩⟩⟩
    · refine ⟨0, iset hm 0 0 1, ?_, ?_⟩
      · intro V V' k k'
        exact w1 (q_isCopy1 (by omega) (by omega) (by omega)) (w0 (q_isKind0 ha2 (by omega)) (k _ (k' _ _ (g1 (by unfold inR; omega) (by decide) ⟨rfl, rfl⟩))))
      · intro ok ex _ hex
        exact ⟨ha, (by unfold inR; omega), bt ⟨by omega, by omega⟩ ⟨ha2, bf (by omega) (hex rfl (rel_thrown hR0 1))⟩⟩
  · refine ⟨0, iset hm 0 0 1, ?_, ?_⟩
    · intro V V' k k'
      exact w0 (q_isCopy0 ha (by omega) (by omega)) (k _ (k' _ _ (g1 (by unfold inR; omega) (by decide) ⟨rfl, rfl⟩)))
    · intro ok ex _ hex
      exact ⟨ha, (by unfold inR; omega), bf (by omega) (hex rfl (rel_thrown hR0 1))⟩
theorem q_place {hh hs hr hm : ISt} (hR : RelI hh hs hr hm) {a : Int} (h0 : 0 ≤ a) (h1 : a < hs 0 1) : Q_X3_place hs a (whr hs a.toNat) := by
  obtain ⟨⟨_, _, ⟨e10, b10, b10'⟩, _⟩, ⟨h15, ⟨e19, b19, b19'⟩, hS1, hS2, hS3, hS4, hS5⟩, hO, hL, hF⟩ := hR
  obtain ⟨k1, ⟨k2, k2'⟩, ⟨k3, k3'⟩, k4⟩ := hS3 a.toNat (by omega)
  unfold Q_X3_place
  rw [ia (by omega) (by omega), ia (by omega) (by omega)]
  refine ⟨(by unfold inR; omega), (by unfold inR; omega), ?_, ?_⟩
  · intro c
    refine ⟨(by unfold inR; omega), (by unfold inR; omega), ?_, ?_⟩
    · intro c'
      unfold whr
      rw [if_pos c, if_pos c']
    · intro c'
      unfold whr
      rw [if_pos c, if_neg c']
  · intro c
    unfold whr
    rw [if_neg c]
theorem si_stateOf : SimI_stateOf RelI := by
  intro hh hs hr hm a1 ha hR
  have hR0 := hR
  obtain ⟨hH, ⟨h15, ⟨e19, b19, b19'⟩, hS1, hS2, hS3, hS4, hS5⟩, hO, hL, hF⟩ := hR
  by_cases c1 : 0 ≤ a1 ∧ a1 < hs 0 1
  · obtain ⟨k1, k2, k3, k4⟩ := hS3 a1.toNat (by omega)
    refine ⟨whr hs a1.toNat, iset hm 0 0 0, ?_, ?_⟩
    · intro V k
      exact w1 (q_isCopy1 (by omega) (by omega) (by omega)) (k _ _ (g0 ⟨by omega, k4.symm, rfl⟩))
    · intro ok ex hok _
      exact ⟨ha, (by unfold inR; omega), bt ⟨by omega, by omega⟩ ⟨_, q_place hR0 (by omega) (by omega), hok hh hs hr rfl (rel_thrown hR0 0)⟩⟩
  · refine ⟨0, iset hm 0 0 1, ?_, ?_⟩
    · intro V k
      exact w0 (q_isCopy0 ha (by omega) (by omega)) (k _ _ (g1 (by unfold inR; omega) (by decide) ⟨rfl, rfl⟩))
    · intro ok ex _ hex
      exact ⟨ha, (by unfold inR; omega), bf (by omega) (hex rfl (rel_thrown hR0 1))⟩
