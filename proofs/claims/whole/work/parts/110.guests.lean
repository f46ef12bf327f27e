theorem iset_id (h : ISt) (j k : Nat) : iset h j k (h j k) = h := by
  funext i t
  unfold iset iupd
  by_cases c : i = j
  · subst c
    rw [if_pos rfl]
    by_cases d : t = k
    · subst d
      rw [if_pos rfl]
    · rw [if_neg d]
  · rw [if_neg c]
theorem si_arrive : SimI_arrive RelI := by
  intro hh hs hr hm a1 a2 ha1 ha2 hR
  have hR0 := hR
  obtain ⟨⟨⟨e01, b01, b01'⟩, ⟨e04, b4, b4'⟩, ⟨e10, b10, b10'⟩, hT, hT2, hT3, hG, hG0, hG3⟩, ⟨h15, h19, hS1, hS2, hS3, hS4, hS5, hS6, hS7⟩, ⟨hO1, hO2⟩, hL, hF, hSc⟩ := hR
  by_cases c1 : 1 ≤ a1 ∧ a1 ≤ 12
  · by_cases c2 : 10 ≤ a2 ∧ a2 ≤ 600
    · by_cases c3 : hh 0 2 = 30
      · refine ⟨0, iset hm 0 0 2, ?_, ?_⟩
        · intro V23 V41 k23 k41
          exact w1 (q_isIn1 ha1 (by unfold inR; omega) (by unfold inR; omega) c1) (y1 (q_isIn1 ha2 (by unfold inR; omega) (by unfold inR; omega) c2) ⟨(by unfold inR; omega), nf (by omega) (k41 _ _ (f1 (by unfold inR; omega) (by decide) ⟨rfl, rfl⟩))⟩)
        · intro ok ex _ _ hex
          exact ⟨ha1, bt ⟨by omega, by omega⟩ ⟨ha2, bt ⟨by omega, by omega⟩ ⟨(by unfold inR; omega), bt (by omega) (bf (by simp) (hex rfl (rel_thrown hR0 2)))⟩⟩⟩
      · obtain ⟨g, eg⟩ := nat_of b10
        have em : hm 0 10 = g := by omega
        have gb : g < 30 := by omega
        -- both, with the new group waiting
        have hR1 : RelI (iset (iset (iset hh 0 2 (hh 0 2 + 1)) 3 g a1) 4 g a2) hs hr (iset (iset (iset (iset (iset hm 0 0 0) 3 g a1) 4 g a2) 7 g (-1)) 0 10 (hm 0 10 + 1)) := by
          refine ⟨⟨⟨e01, b01, b01'⟩, ⟨e04, b4, b4'⟩, ⟨?_, ?_, ?_⟩, hT, hT2, hT3, ?_, ?_, hG3⟩, ⟨h15, h19, hS1, hS2, ?_, hS4, hS5, hS6, hS7⟩, ⟨?_, hO2⟩, hL, hF, hSc⟩
          · show hm 0 10 + 1 = hh 0 2 + 1
            omega
          · show 0 ≤ hh 0 2 + 1
            omega
          · show hh 0 2 + 1 ≤ 30
            omega
          · intro x hx
            have hx : (x : Int) < hh 0 2 + 1 := hx
            show (iupd (hm 3) g a1 x = iupd (hh 3) g a1 x ∧ 1 ≤ iupd (hh 3) g a1 x ∧ iupd (hh 3) g a1 x ≤ 12) ∧ (iupd (hm 4) g a2 x = iupd (hh 4) g a2 x ∧ 10 ≤ iupd (hh 4) g a2 x ∧ iupd (hh 4) g a2 x ≤ 600) ∧ (hm 5 x = hh 6 x ∧ 0 ≤ hh 6 x ∧ hh 6 x ≤ 2) ∧ (hh 6 x = 1 → hh 5 x = hm 6 x + iupd (hh 4) g a2 x)
            by_cases d : x = g
            · subst d
              have z := hG0 x (by omega) gb
              rw [u_eq, u_eq, u_eq, u_eq]
              omega
            · rw [u_ne d, u_ne d, u_ne d, u_ne d]
              exact hG x (by omega)
          · intro x hx hx'
            have hx : hh 0 2 + 1 ≤ x := hx
            exact hG0 x (by omega) hx'
          · intro x hx
            obtain ⟨p1, p2, p3⟩ := hS3 x hx
            exact ⟨p1, ⟨p2.1, show hs 6 x < hh 0 2 + 1 by omega⟩, p3⟩
          · intro x hx
            have hx : (x : Int) < hh 0 2 + 1 := hx
            show (iupd (hm 7) g (-1) x = -1 ∧ ∀ c : Nat, (c : Int) < hs 0 1 → hs 6 c ≠ x) ∨ (0 ≤ iupd (hm 7) g (-1) x ∧ iupd (hm 7) g (-1) x < hs 0 1 ∧ hs 6 (iupd (hm 7) g (-1) x).toNat = x ∧ ∀ c : Nat, (c : Int) < hs 0 1 → hs 6 c = x → (c : Int) = iupd (hm 7) g (-1) x)
            by_cases d : x = g
            · subst d
              rw [u_eq]
              refine Or.inl ⟨rfl, fun c hc => ?_⟩
              have := (hS3 c hc).2.1
              omega
            · rw [u_ne d]
              exact hO1 x (by omega)
        have z6 : hh 6 g = 0 := (hG0 g (by omega) gb).1
        obtain ⟨r, h', m', s1, s2, s3, s4, s5, s6⟩ := seat_rel hR1 (g := g) (show (g : Int) < hh 0 2 + 1 by omega) z6
        have ms : ∀ v : Int, (r = 0 → v = 0) → (r = 1 → v = 1) → m' 5 g = v := by
          intro v v0 v1
          have q := ((s3.1.2.2.2.2.2.2.1 g (by rw [s5]; show (g : Int) < hh 0 2 + 1; omega)).2.2.1).1
          rcases s6 with ⟨u1, u2⟩ | ⟨u1, u2⟩
          · rw [q, u2, v0 u1]
          · rw [q, u2, v1 u1]
        have fin : ∀ V41 : ISt → Int → Prop, (∀ hv : ISt, ∀ t0 : Int, (∃ (r3 : Int) (h4 : ISt), Q_X5_isFine hv t0 r3 h4 ∧ (inR r3 ∧ ((¬ r3 = (0 : Int) → ((0 ≤ (h4 0 10) ∧ (h4 0 10) < 30) ∧ (∀ h5 : ISt, h5 = iset h4 3 (h4 0 10).toNat a1 → ((0 ≤ (h4 0 10) ∧ (h4 0 10) < 30) ∧ (∀ h6 : ISt, h6 = iset h5 4 (h4 0 10).toNat a2 → ((0 ≤ (h4 0 10) ∧ (h4 0 10) < 30) ∧ (∀ h7 : ISt, h7 = iset h6 7 (h4 0 10).toNat (-1 : Int) → (∀ h8 : ISt, h8 = iset h7 0 10 ((h7 0 10) + (1 : Int)) → (∃ (r9 : Int) (h10 : ISt), Q_X5_sits h8 (h4 0 10) r9 h10 ∧ (inR r9 ∧ ((r9 = (0 : Int) → ((0 ≤ (h4 0 10) ∧ (h4 0 10) < 30) ∧ (∀ h11 : ISt, h11 = iset h10 5 (h4 0 10).toNat (0 : Int) → ((g : Int) = (h4 0 10) ∧ m' = h11)))) ∧ (¬ r9 = (0 : Int) → ((0 ≤ (h4 0 10) ∧ (h4 0 10) < 30) ∧ (∀ h12 : ISt, h12 = iset h10 5 (h4 0 10).toNat (1 : Int) → ((g : Int) = (h4 0 10) ∧ m' = h12))))))))))))))) ∧ (r3 = (0 : Int) → ((g : Int) = (0 : Int) ∧ m' = h4))))) → V41 hv t0) → V41 hm 0 := by
          intro V41 k41
          refine k41 _ _ (f0 ?_)
          have b : 0 ≤ hm 0 10 ∧ hm 0 10 < 30 := by omega
          refine ⟨b, fs g em rfl ⟨b, fs g em rfl ⟨b, fs g em rfl (fa ?_)⟩⟩⟩
          have s2' : Q_X5_sits (iset (iset (iset (iset (iset hm 0 0 0) 3 g a1) 4 g a2) 7 g (-1)) 0 10 (hm 0 10 + 1)) (hm 0 10) r m' := by
            rw [em]
            rw [em] at s2
            exact s2
          refine ⟨r, m', s2', ?_, ?_, ?_⟩
          · rcases s6 with ⟨u1, u2⟩ | ⟨u1, u2⟩
            · rw [u1]; exact R0
            · rw [u1]; exact R1
          · intro c
            refine ⟨b, fs g em rfl ⟨em.symm, ?_⟩⟩
            rw [← ms 0 (fun _ => rfl) (fun c' => by omega), iset_id]
          · intro c
            refine ⟨b, fs g em rfl ⟨em.symm, ?_⟩⟩
            rw [← ms 1 (fun c' => absurd c' c) (fun _ => rfl), iset_id]
        refine ⟨g, m', ?_, ?_⟩
        · intro V23 V41 k23 k41
          exact w1 (q_isIn1 ha1 (by unfold inR; omega) (by unfold inR; omega) c1) (y1 (q_isIn1 ha2 (by unfold inR; omega) (by unfold inR; omega) c2) ⟨(by unfold inR; omega), nt (by omega) (fin V41 k41)⟩)
        · intro ok ex hok _ _
          refine ⟨ha1, bt ⟨by omega, by omega⟩ ⟨ha2, bt ⟨by omega, by omega⟩ ⟨(by unfold inR; omega), bf (by omega) (bt n10 ⟨g, h', ?_, hok h' hs hr s4 s3⟩)⟩⟩⟩
          refine fa ⟨(by unfold inR; omega), fp g eg gb rfl ⟨(by unfold inR; omega), fp g eg gb rfl ⟨r, h', ?_, eg.symm, rfl⟩⟩⟩
          rw [eg] at s1 ⊢
          exact s1
    · refine ⟨0, iset hm 0 0 1, ?_, ?_⟩
      · intro V23 V41 k23 k41
        exact w1 (q_isIn1 ha1 (by unfold inR; omega) (by unfold inR; omega) c1) (y0 (q_isIn0 ha2 (by unfold inR; omega) (by unfold inR; omega) c2) (k23 _ (k41 _ _ (f1 (by unfold inR; omega) (by decide) ⟨rfl, rfl⟩))))
      · intro ok ex _ hex _
        exact ⟨ha1, bt ⟨by omega, by omega⟩ ⟨ha2, bf (by omega) (hex rfl (rel_thrown hR0 1))⟩⟩
  · refine ⟨0, iset hm 0 0 1, ?_, ?_⟩
    · intro V23 V41 k23 k41
      exact w0 (q_isIn0 ha1 (by unfold inR; omega) (by unfold inR; omega) c1) (k23 _ (k41 _ _ (f1 (by unfold inR; omega) (by decide) ⟨rfl, rfl⟩)))
    · intro ok ex _ hex _
      exact ⟨ha1, bf (by omega) (hex rfl (rel_thrown hR0 1))⟩
/-- tables below x freed of a group -/
def freed (g : Nat → Int) (x : Nat) (a : Int) : Nat → Int := fun t => if t < x ∧ g t = a then -1 else g t
theorem freed_0 (h : ISt) (a : Int) : frow h 2 (freed (h 2) 0 a) = h := by
  funext i t
  unfold frow freed
  by_cases c : i = 2
  · subst c
    rw [if_pos rfl, if_neg (by omega)]
  · rw [if_neg c]
theorem freed_s (h : ISt) (g : Nat → Int) (x : Nat) (a : Int) (hx : g x = a) : iset (frow h 2 (freed g x a)) 2 x (-1) = frow h 2 (freed g (x + 1) a) := by
  funext i t
  unfold iset frow freed iupd
  by_cases c : i = 2
  · subst c
    simp only [if_true]
    by_cases d : t = x
    · subst d
      rw [if_pos rfl, if_pos ⟨by omega, hx⟩]
    · rw [if_neg d]
      by_cases e : t < x ∧ g t = a
      · rw [if_pos e, if_pos ⟨by omega, e.2⟩]
      · rw [if_neg e, if_neg (by omega)]
  · simp only [c, if_false]
theorem freed_n (h : ISt) (g : Nat → Int) (x : Nat) (a : Int) (hx : g x ≠ a) : frow h 2 (freed g x a) = frow h 2 (freed g (x + 1) a) := by
  funext i t
  unfold frow freed
  by_cases c : i = 2
  · subst c
    simp only [if_true]
    by_cases d : t = x
    · subst d
      rw [if_neg (by omega), if_neg (fun z => hx z.2)]
    · by_cases e : t < x ∧ g t = a
      · rw [if_pos e, if_pos ⟨by omega, e.2⟩]
      · rw [if_neg e, if_neg (by omega)]
  · simp only [c, if_false]
theorem freed_at (g : Nat → Int) (x : Nat) (a : Int) : freed g x a x = g x := by
  unfold freed
  rw [if_neg (by omega)]
/-- seating those who wait -/
theorem seats_rel {hs hr : ISt} {r0 : Int} : ∀ (J x : Nat) (hh hm : ISt) (s : Int), RelI hh hs hr hm → hm 0 0 = 0 → ((x + J : Nat) : Int) = hh 0 2 →
    ∃ (r : Int) (h' m' : ISt), RelI h' hs hr m' ∧ m' 0 0 = 0 ∧
      (∀ V4 : ISt → Int → Int → Prop, (∀ hv : ISt, ∀ x1 x2 : Int, (inR x2 ∧ inR (hv 0 2) ∧ (((hv 0 2) ≤ x2 → (r = x1 ∧ h' = hv)) ∧ (¬ (hv 0 2) ≤ x2 → (inR x2 ∧ (inR (iat 30 (hv 6) x2) ∧ ((¬ (iat 30 (hv 6) x2) = (0 : Int) → (V4 hv x1 (x2 + (1 : Int)))) ∧ ((iat 30 (hv 6) x2) = (0 : Int) → (∃ (r2 : Int) (h3 : ISt), Q_X0_seatIfPossible hv x2 r2 h3 ∧ (inR r2 ∧ ((r2 = (0 : Int) → (V4 h3 x1 (x2 + (1 : Int)))) ∧ (¬ r2 = (0 : Int) → (V4 h3 (x1 + (1 : Int)) (x2 + (1 : Int)))))))))))))) → V4 hv x1 x2) → V4 hh s x) ∧
      (∀ V102 : ISt → Int → Int → Prop, (∀ hv : ISt, ∀ x3 x4 : Int, (inR x4 ∧ inR (hv 0 10) ∧ (((hv 0 10) ≤ x4 → (r = x3 ∧ m' = hv)) ∧ (¬ (hv 0 10) ≤ x4 → ((0 ≤ x4 ∧ x4 < 30) ∧ (inR (hv 5 x4.toNat) ∧ ((¬ (hv 5 x4.toNat) = (0 : Int) → (V102 hv (x3 + (0 : Int)) (x4 + (1 : Int)))) ∧ ((hv 5 x4.toNat) = (0 : Int) → (∃ (r7 : Int) (h8 : ISt), Q_X5_sits hv x4 r7 h8 ∧ (inR r7 ∧ ((r7 = (0 : Int) → (V102 h8 (x3 + (0 : Int)) (x4 + (1 : Int)))) ∧ (¬ r7 = (0 : Int) → (V102 h8 (x3 + (1 : Int)) (x4 + (1 : Int)))))))))))))) → V102 hv x3 x4) → V102 hm s x) := by
  intro J
  induction J with
  | zero =>
    intro x hh hm s hR hz hx
    obtain ⟨e10, b10, b10'⟩ := hR.1.2.2.1
    refine ⟨s, hh, hm, hR, hz, ?_, ?_⟩
    · intro V4 k4
      exact k4 _ _ _ ⟨(by unfold inR; omega), (by unfold inR; omega), bt (by omega) ⟨rfl, rfl⟩⟩
    · intro V k
      exact k _ _ _ ⟨(by unfold inR; omega), (by unfold inR; omega), bt (by omega) ⟨rfl, rfl⟩⟩
  | succ J ih =>
    intro x hh hm s hR hz hx
    obtain ⟨e10, b10, b10'⟩ := hR.1.2.2.1
    obtain ⟨p3, p4, ⟨p5, p5a, p5b⟩, p6⟩ := hR.1.2.2.2.2.2.2.1 x (by omega)
    by_cases c : hh 6 x = 0
    · obtain ⟨r1, h1, m1, s1, s2, s3, s4, s5, s6⟩ := seat_rel hR (g := x) (by omega) c
      have rb : inR r1 := by unfold inR; omega
      obtain ⟨r, h', m', q1, q2, q3, q4⟩ := ih (x + 1) h1 m1 (if r1 = 0 then s else s + 1) s3 (by omega) (by omega)
      refine ⟨r, h', m', q1, q2, ?_, ?_⟩
      · intro V4 k4
        have z := q3 V4 k4
        refine k4 _ _ _ ⟨(by unfold inR; omega), (by unfold inR; omega), bf (by omega) ⟨(by unfold inR; omega), ?_⟩⟩
        rw [ina x (by omega)]
        refine ⟨(by unfold inR; omega), nf c ⟨r1, h1, s1, rb, ?_, ?_⟩⟩
        · intro d
          rw [if_pos d] at z
          exact z
        · intro d
          rw [if_neg d] at z
          exact z
      · intro V k
        have z := q4 V k
        refine k _ _ _ ⟨(by unfold inR; omega), (by unfold inR; omega), bf (by omega) ⟨by omega, ?_⟩⟩
        rw [Int.toNat_natCast]
        refine ⟨(by unfold inR; omega), nf (by omega) ⟨r1, m1, s2, rb, ?_, ?_⟩⟩
        · intro d
          rw [if_pos d] at z
          rw [Int.add_zero]
          exact z
        · intro d
          rw [if_neg d] at z
          exact z
    · obtain ⟨r, h', m', q1, q2, q3, q4⟩ := ih (x + 1) hh hm s hR hz (by omega)
      refine ⟨r, h', m', q1, q2, ?_, ?_⟩
      · intro V4 k4
        have z := q3 V4 k4
        refine k4 _ _ _ ⟨(by unfold inR; omega), (by unfold inR; omega), bf (by omega) ⟨(by unfold inR; omega), ?_⟩⟩
        rw [ina x (by omega)]
        exact ⟨(by unfold inR; omega), nt c z⟩
      · intro V k
        have z := q4 V k
        refine k _ _ _ ⟨(by unfold inR; omega), (by unfold inR; omega), bf (by omega) ⟨by omega, ?_⟩⟩
        rw [Int.toNat_natCast, Int.add_zero]
        exact ⟨(by unfold inR; omega), nt (by omega) z⟩
theorem si_leave : SimI_leave RelI := by
  intro hh hs hr hm a1 ha hR
  have hR0 := hR
  obtain ⟨⟨⟨e01, b01, b01'⟩, ⟨e04, b4, b4'⟩, ⟨e10, b10, b10'⟩, hT, hT2, hT3, hG, hG0, hG3⟩, hS, ⟨hO1, hO2⟩, hL, hF, hSc⟩ := hR
  by_cases c1 : 0 ≤ a1 ∧ a1 < hh 0 2
  · obtain ⟨g, eg⟩ := nat_of c1.1
    subst eg
    obtain ⟨p3, p4, ⟨p5, p5a, p5b⟩, p6⟩ := hG g (by omega)
    have b19 := hS.2.1.2.2
    have r7 : inR (hm 7 g) := by
      rcases hO1 g (by omega) with u | u
      · unfold inR; omega
      · unfold inR; omega
    by_cases c2 : hm 7 g = -1 ∧ hh 6 g ≠ 2
    · obtain ⟨c2, c3⟩ := c2
      have free : ∀ c : Nat, (c : Int) < hs 0 1 → hs 6 c ≠ g := by
        rcases hO1 g (by omega) with u | u
        · exact u.2
        · omega
      obtain ⟨n, en⟩ := nat_of b4
      have hR1 : RelI (frow (iset hh 6 g 2) 2 (freed (hh 2) n g)) hs hr (frow (iset (iset hm 0 0 0) 5 g 2) 2 (freed (hm 2) n g)) := by
        refine ⟨⟨⟨e01, b01, b01'⟩, ⟨e04, b4, b4'⟩, ⟨e10, b10, b10'⟩, ?_, ?_, ?_, ?_, ?_, hG3⟩, hS, ⟨hO1, ?_⟩, hL, hF, hSc⟩
        · intro t ht
          show -1 ≤ freed (hh 2) n g t ∧ freed (hh 2) n g t < 30
          have := hT t ht
          unfold freed
          split <;> omega
        · intro t ht
          have ht : (t : Int) < hh 0 1 := ht
          show freed (hm 2) n g t = freed (hh 2) n g t ∧ hm 1 t = hh 1 t ∧ 2 ≤ hh 1 t ∧ hh 1 t ≤ 6
          have z := hT2 t ht
          refine ⟨?_, z.2⟩
          unfold freed
          rw [z.1]
        · intro t ht ht'
          have ht : hh 0 1 ≤ t := ht
          show freed (hh 2) n g t = -1
          unfold freed
          rw [if_neg (by omega)]
          exact hT3 t ht ht'
        · intro x hx
          have hx : (x : Int) < hh 0 2 := hx
          obtain ⟨q3, q4, q5, q6⟩ := hG x hx
          show (hm 3 x = hh 3 x ∧ 1 ≤ hh 3 x ∧ hh 3 x ≤ 12) ∧ (hm 4 x = hh 4 x ∧ 10 ≤ hh 4 x ∧ hh 4 x ≤ 600) ∧ (iupd (hm 5) g 2 x = iupd (hh 6) g 2 x ∧ 0 ≤ iupd (hh 6) g 2 x ∧ iupd (hh 6) g 2 x ≤ 2) ∧ (iupd (hh 6) g 2 x = 1 → hh 5 x = hm 6 x + hh 4 x)
          by_cases d : x = g
          · subst d
            rw [u_eq, u_eq]
            exact ⟨q3, q4, ⟨rfl, by omega, by omega⟩, fun c => by omega⟩
          · rw [u_ne d, u_ne d]
            exact ⟨q3, q4, q5, q6⟩
        · intro x hx hx'
          have hx : hh 0 2 ≤ x := hx
          show iupd (hh 6) g 2 x = 0 ∧ iupd (hm 5) g 2 x = 0
          rw [u_ne (by omega), u_ne (by omega)]
          exact hG0 x hx hx'
        · intro x hx hx'
          show iupd (hh 6) g 2 (hs 6 x).toNat = 1
          have z := free x hx
          have z2 := (hS.2.2.2.2.1 x hx).2.1
          have hx' : hs 6 x ≠ -1 := hx'
          rw [u_ne (by omega)]
          exact hO2 x hx hx'
      obtain ⟨N, eN⟩ := nat_of b10
      obtain ⟨r, h', m', s1, s2, s3, s4⟩ := seats_rel (r0 := 0) N 0 _ _ 0 hR1 rfl (show ((0 + N : Nat) : Int) = hh 0 2 by omega)
      refine ⟨r, m', ?_, ?_⟩
      · intro V40 V57 V102 k40 k57 k102
        refine y1 (q_isGroup1 (by omega) (by omega) (by omega)) ⟨by omega, ?_⟩
        rw [Int.toNat_natCast]
        refine ⟨r7, nf c2 ⟨by omega, (by unfold inR; omega), nt (by omega) (k40 _ _ (f0 ⟨by omega, fs g rfl rfl ?_⟩))⟩⟩
        have key : ∀ (J x : Nat), x + J = n → V57 (frow (iset (iset hm 0 0 0) 5 g 2) 2 (freed (hm 2) x g)) x := by
          intro J
          induction J with
          | zero =>
            intro x hx
            have hx : x = n := hx
            subst hx
            exact k57 _ _ ⟨(by unfold inR; omega), (show inR (hm 0 4) by unfold inR; omega), bt (show hm 0 4 ≤ x by omega) (s4 V102 k102)⟩
          | succ J ih =>
            intro x hx
            have z := ih (x + 1) (by omega)
            have z2 := hT x (by omega)
            have z3 := (hT2 x (by omega)).1
            refine k57 _ _ ⟨(by unfold inR; omega), (show inR (hm 0 4) by unfold inR; omega), bf (show ¬ hm 0 4 ≤ x by omega) ⟨by omega, ?_⟩⟩
            rw [Int.toNat_natCast]
            have e : frow (iset (iset hm 0 0 0) 5 g 2) 2 (freed (hm 2) x g) 2 x = hm 2 x := freed_at _ _ _
            rw [e]
            refine ⟨(by unfold inR; omega), (by unfold inR; omega), ?_, ?_⟩
            · intro c
              refine ⟨by omega, by omega, fa ?_⟩
              have e2 : iset (frow (iset (iset hm 0 0 0) 5 g 2) 2 (freed (hm 2) x g)) 2 x (hm 2 x) = frow (iset (iset hm 0 0 0) 5 g 2) 2 (freed (hm 2) x g) := by
                conv => lhs; rw [← e]
                exact iset_id _ _ _
              rw [e2, freed_n _ _ _ _ c]
              exact z
            · intro c
              refine ⟨by omega, fa ?_⟩
              rw [freed_s _ _ _ _ c]
              exact z
        have z := key n 0 (by omega)
        have e : frow (iset (iset hm 0 0 0) 5 g 2) 2 (freed (hm 2) 0 g) = iset (iset hm 0 0 0) 5 g 2 := freed_0 (iset (iset hm 0 0 0) 5 g 2) g
        rw [e] at z
        exact z
      · intro ok ex hok _ _
        refine ⟨ha, (by unfold inR; omega), bt ⟨by omega, by omega⟩ ⟨hm 7 g, q_held hR0 (by omega), r7, nf c2 ⟨0, ⟨(by unfold inR; omega), ?_, ?_⟩, R0, nf rfl (bt n10 ⟨r, h', ?_, hok h' hs hr s2 s1⟩)⟩⟩⟩
        · rw [ina g (by omega)]
          exact (by unfold inR; omega)
        · rw [ina g (by omega)]
          exact nt c3 rfl
        intro V k
        refine ⟨(by unfold inR; omega), fp g rfl (by omega) rfl ?_⟩
        have key : ∀ (J x : Nat), x + J = n → V (frow (iset hh 6 g 2) 2 (freed (hh 2) x g)) x := by
          intro J
          induction J with
          | zero =>
            intro x hx
            have hx : x = n := hx
            subst hx
            exact k _ _ ⟨(by unfold inR; omega), (show inR (hh 0 1) by unfold inR; omega), bt (show hh 0 1 ≤ x by omega) ⟨r, h', s3, rfl, rfl⟩⟩
          | succ J ih =>
            intro x hx
            have z := ih (x + 1) (by omega)
            have z2 := hT x (by omega)
            refine k _ _ ⟨(by unfold inR; omega), (show inR (hh 0 1) by unfold inR; omega), bf (show ¬ hh 0 1 ≤ x by omega) ⟨(by unfold inR; omega), ?_⟩⟩
            rw [ina x (by omega)]
            have e : frow (iset hh 6 g 2) 2 (freed (hh 2) x g) 2 x = hh 2 x := freed_at _ _ _
            rw [e]
            refine ⟨(by unfold inR; omega), (by unfold inR; omega), ?_, ?_⟩
            · intro c
              rw [freed_n _ _ _ _ c]
              exact z
            · intro c
              refine ⟨(by unfold inR; omega), fp x rfl (by omega) rfl ?_⟩
              rw [freed_s _ _ _ _ c]
              exact z
        have z := key n 0 (by omega)
        have e : frow (iset hh 6 g 2) 2 (freed (hh 2) 0 g) = iset hh 6 g 2 := freed_0 (iset hh 6 g 2) g
        rw [e] at z
        exact z
    · refine ⟨0, iset hm 0 0 2, ?_, ?_⟩
      · intro V40 V57 V102 k40 k57 k102
        have z : V40 hm 2 := k40 _ _ (f1 (by unfold inR; omega) (by decide) ⟨rfl, rfl⟩)
        refine y1 (q_isGroup1 (by omega) (by omega) (by omega)) ⟨by omega, ?_⟩
        rw [Int.toNat_natCast]
        exact ⟨r7, fun _ => z, fun d => ⟨by omega, (by unfold inR; omega), fun d2 => absurd ⟨d, by omega⟩ c2, fun _ => z⟩⟩
      · intro ok ex _ _ hex
        have z : ex E_s := hex rfl (rel_thrown hR0 2)
        refine ⟨ha, (by unfold inR; omega), bt ⟨by omega, by omega⟩ ⟨hm 7 g, q_held hR0 (by omega), r7, fun _ => bf (by simp) z, fun d => ⟨1, ⟨(by unfold inR; omega), ?_, ?_⟩, R1, nt n10 (bf (by simp) z)⟩⟩⟩
        · rw [ina g (by omega)]
          exact (by unfold inR; omega)
        · rw [ina g (by omega)]
          exact nf (by omega) rfl
  · refine ⟨0, iset hm 0 0 1, ?_, ?_⟩
    · intro V40 V57 V102 k40 k57 k102
      exact y0 (q_isGroup0 ha (by omega) (by omega)) (k40 _ _ (f1 (by unfold inR; omega) (by decide) ⟨rfl, rfl⟩))
    · intro ok ex _ hex _
      exact ⟨ha, (by unfold inR; omega), bf (by omega) (hex rfl (rel_thrown hR0 1))⟩
