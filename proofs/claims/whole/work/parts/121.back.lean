theorem cl_all {s0 m0 : ISt} {n C : Nat} (hb : ClB s0 n C) (hA hL : ISt) : ∀ (a : Nat), a ≤ 4 → ∀ (s m : ISt) (N K : Nat) (cnt : Int), ClI s0 m0 n C s m N K → (∀ d' k' : Nat, d' < n → k' < 4 → s0 7 d' = C → a ≤ k' → s 8 (4 * d' + k') = 0) →
    ∃ (r : Int) (s' m' : ISt) (N' K' : Nat), ClI s0 m0 n C s' m' N' K' ∧ (∀ d' k' : Nat, d' < n → k' < 4 → s0 7 d' = C → s' 8 (4 * d' + k') = 0) ∧ L_X3_closeLoans_4 hA C r s' s cnt ((a : Int) - 1) ∧ L_X5_closes_9 hL C r m' m cnt ((K : Int) - 1) := by
  have hb' := hb
  obtain ⟨⟨en, bn, hrg⟩, hC, hCC, hW⟩ := hb'
  intro a
  induction a with
  | zero =>
    intro ha s m N K cnt inv hdone
    have inv' := inv
    obtain ⟨i1, ⟨i2, i2'⟩, i3, i4, ⟨i5, i5'⟩, i6, i7, i8, ⟨i9, i9'⟩, i10, i11, i12⟩ := inv'
    have pb := psum_b (s 8) 64
    refine ⟨cnt, s, m, N, K, inv, fun d' k' h1 h2 h3 => hdone d' k' h1 h2 h3 (by omega), ?_, ?_⟩
    · intro V4 V16 k4 k16
      exact k4 _ _ _ ⟨(by unfold inR; omega), bt (by omega) ⟨rfl, rfl⟩⟩
    · refine close_skip (by omega) K K (by omega) (by omega) (i := 0) (fun t h1 h2 => ?_) ?_
      · obtain ⟨k2, d2, b2, g1, g2, g3, g4, g5, g6, g7, g8, g9⟩ := i6 t (by omega)
        refine ⟨fun h => ?_, by unfold inR; omega⟩
        have := hdone d2 k2 g5 g4 (by omega) (by omega)
        omega
      · intro V9 V62 V137 k9 k62 k137
        exact k9 _ _ _ ⟨(by unfold inR; omega), bt (by omega) ⟨rfl, rfl⟩⟩
  | succ a ih =>
    intro ha s m N K cnt inv hdone
    have inner : ∀ (b : Nat), b ≤ n → ∀ (s m : ISt) (N K : Nat) (cnt : Int), ClI s0 m0 n C s m N K → (∀ d' k' : Nat, d' < n → k' < 4 → s0 7 d' = C → (a < k' ∨ (a = k' ∧ b ≤ d')) → s 8 (4 * d' + k') = 0) →
        ∃ (r : Int) (s' m' : ISt) (N' K' : Nat), ClI s0 m0 n C s' m' N' K' ∧ (∀ d' k' : Nat, d' < n → k' < 4 → s0 7 d' = C → s' 8 (4 * d' + k') = 0) ∧ L_X3_closeLoans_16 hA C r s' s cnt a ((b : Int) - 1) ∧ L_X5_closes_9 hL C r m' m cnt ((K : Int) - 1) := by
      intro b
      induction b with
      | zero =>
        intro hbn s m N K cnt inv hdone
        obtain ⟨r, s', m', N', K', q1, q2, q3, q4⟩ := ih (by omega) s m N K cnt inv (fun d' k' h1 h2 h3 h4 => hdone d' k' h1 h2 h3 (by omega))
        refine ⟨r, s', m', N', K', q1, q2, ?_, q4⟩
        intro V4 V16 k4 k16
        exact k16 _ _ _ _ ⟨(by unfold inR; omega), bt (by omega) (q3 V4 V16 k4 k16)⟩
      | succ b ih2 =>
        intro hbn s m N K cnt inv hdone
        have inv' := inv
        obtain ⟨i1, ⟨i2, i2'⟩, i3, i4, ⟨i5, i5'⟩, i6, i7, i8, ⟨i9, i9'⟩, i10, i11, i12⟩ := inv'
        have s7 : s 7 = s0 7 := i1 7 (by decide) (by decide)
        have s4b := i4 b a (by omega) (by omega)
        have s4b' := hW b a (by omega) (by omega)
        have s4c := i4 C a hC (by omega)
        have s4c' := hW C a hC (by omega)
        obtain ⟨x5, x6, x7⟩ := hrg b (by omega)
        have eb : ((b + 1 : Nat) : Int) - 1 = b := by omega
        have i7a : iat 16 (s 7) b = s0 7 b := by rw [ina b (by omega), s7]
        have i8a : iat 64 (s 8) ((b : Int) * 4 + a) = s 8 (4 * b + a) := by
          rw [ia (by omega) (by omega)]
          exact congrArg (s 8) (by omega)
        by_cases c : s0 7 b = C ∧ 0 < s 8 (4 * b + a)
        · obtain ⟨i, M, hZ, c1, c2, c3, c4⟩ := cl_step hb inv (d := b) (k := a) (by omega) (by omega) c.1 c.2 (fun d' k' h1 h2 h3 h4 => hdone d' k' h1 h2 h3 (by omega)) hL cnt
          obtain ⟨r, s', m', N', K', q1, q2, q3, q4⟩ := ih2 (by omega) _ _ _ _ (cnt + 1) c3 (by
            intro d' k' h1 h2 h3 h4
            show iupd (s 8) (4 * b + a) 0 (4 * d' + k') = 0
            by_cases g : 4 * d' + k' = 4 * b + a
            · rw [g, u_eq]
            · rw [u_ne g]
              exact hdone d' k' h1 h2 h3 (by omega))
          refine ⟨r, s', m', N', K', q1, q2, ?_, c4 _ _ q4⟩
          intro V4 V16 k4 k16
          have z := q3 V4 V16 k4 k16
          have bC : b ≠ C := fun h => hCC (h ▸ c.1)
          rw [eb]
          refine k16 _ _ _ _ ⟨(by unfold inR; omega), bf (by omega) ⟨(by unfold inR; omega), (by unfold inR; omega), ?_⟩⟩
          rw [i7a, i8a]
          refine ⟨(by unfold inR; omega), (by unfold inR; omega), nf c.1 ⟨(by unfold inR; omega), bf (by omega) ⟨_, q_count (by omega) (by omega), (by unfold inR; omega), (by unfold inR; omega), ?_⟩⟩⟩
          intro y4 e4
          refine ⟨_, q_change (by omega) (by omega), _, q_change (by omega) (by omega), (by unfold inR; omega), fp (4 * b + a) (by omega) (by omega) rfl ?_⟩
          have e9 : iset s 9 (4 * C + a) (s 9 (4 * C + a) + -y4) 9 (4 * b + a) = s 9 (4 * b + a) := u_ne (by omega)
          rw [e9, e4]
          exact z
        · obtain ⟨r, s', m', N', K', q1, q2, q3, q4⟩ := ih2 (by omega) s m N K cnt inv (by
            intro d' k' h1 h2 h3 h4
            by_cases g : k' = a ∧ d' = b
            · obtain ⟨g1, g2⟩ := g
              subst g1
              subst g2
              have : ¬ 0 < s 8 (4 * d' + k') := fun h => c ⟨h3, h⟩
              omega
            · exact hdone d' k' h1 h2 h3 (by omega))
          refine ⟨r, s', m', N', K', q1, q2, ?_, q4⟩
          intro V4 V16 k4 k16
          have z := q3 V4 V16 k4 k16
          rw [eb]
          refine k16 _ _ _ _ ⟨(by unfold inR; omega), bf (by omega) ⟨(by unfold inR; omega), (by unfold inR; omega), ?_⟩⟩
          rw [i7a, i8a]
          exact ⟨(by unfold inR; omega), (by unfold inR; omega), fun _ => z, fun h => ⟨(by unfold inR; omega), fun _ => z, fun h' => absurd ⟨h, by omega⟩ c⟩⟩
    obtain ⟨r, s', m', N', K', q1, q2, q3, q4⟩ := inner n (Nat.le_refl n) s m N K cnt inv (fun d' k' h1 h2 h3 h4 => hdone d' k' h1 h2 h3 (by omega))
    refine ⟨r, s', m', N', K', q1, q2, ?_, q4⟩
    intro V4 V16 k4 k16
    have z := q3 V4 V16 k4 k16
    have e01 : s 0 1 = n := by rw [inv.1 0 (by decide) (by decide)]; exact en
    have eb : ((a + 1 : Nat) : Int) - 1 = a := by omega
    rw [eb]
    refine k4 _ _ _ ⟨(by unfold inR; omega), bf (by omega) ?_⟩
    rw [e01]
    exact z
/-- borrowers below x forgotten -/
theorem forg_0 (h : ISt) (a : Int) : frow h 7 (freed (h 7) 0 a) = h := by
  funext i t
  unfold frow freed
  by_cases c : i = 7
  · subst c
    rw [if_pos rfl, if_neg (by omega)]
  · rw [if_neg c]
theorem forg_s (h : ISt) (g : Nat → Int) (x : Nat) (a : Int) (hx : g x = a) : iset (frow h 7 (freed g x a)) 7 x (-1) = frow h 7 (freed g (x + 1) a) := by
  funext i t
  unfold iset frow freed iupd
  by_cases c : i = 7
  · subst c
    simp only [if_true]
    by_cases d : t = x
    · subst d
      rw [if_pos rfl, if_pos ⟨by omega, hx⟩]
    · rw [if_neg d]
      by_cases e : t < x ∧ g t = a
      · rw [if_pos e, if_pos ⟨by omega, e.2⟩]
      · rw [if_neg e, if_neg (by omega)]
  · simp only [c, if_false]
theorem forg_n (h : ISt) (g : Nat → Int) (x : Nat) (a : Int) (hx : g x ≠ a) : frow h 7 (freed g x a) = frow h 7 (freed g (x + 1) a) := by
  funext i t
  unfold frow freed
  by_cases c : i = 7
  · subst c
    simp only [if_true]
    by_cases d : t = x
    · subst d
      rw [if_neg (by omega), if_neg (fun z => hx z.2)]
    · by_cases e : t < x ∧ g t = a
      · rw [if_pos e, if_pos ⟨by omega, e.2⟩]
      · rw [if_neg e, if_neg (by omega)]
  · simp only [c, if_false]
theorem q_takeBack {h s' : ISt} {n C k : Nat} {x r : Int} (bn : n ≤ 16) (hC : C < n) (hk : k < 4) (e01 : s' 0 1 = n) (hr7 : ∀ t : Nat, t < n → inR (s' 7 t)) (q : Q_X3_closeLoans (iset h 9 (4 * C + k) (h 9 (4 * C + k) + -x)) C r s') : Q_X3_takeBack h C k x r (iset (frow s' 7 (freed (s' 7) n C)) 6 C (-1)) := by
  intro V kk
  refine ⟨_, q_change (by omega) hk, r, s', q, ?_⟩
  have key : ∀ (J y : Nat), y + J = n → V (frow s' 7 (freed (s' 7) y C)) r y := by
    intro J
    induction J with
    | zero =>
      intro y hy
      have hy : y = n := hy
      subst hy
      exact kk _ _ _ ⟨(by unfold inR; omega), (show inR (s' 0 1) by rw [e01]; unfold inR; omega), bt (show s' 0 1 ≤ y by omega) ⟨(by unfold inR; omega), fp C rfl (by omega) rfl ⟨rfl, rfl⟩⟩⟩
    | succ J ih =>
      intro y hy
      have z := ih (y + 1) (by omega)
      refine kk _ _ _ ⟨(by unfold inR; omega), (show inR (s' 0 1) by rw [e01]; unfold inR; omega), bf (show ¬ s' 0 1 ≤ y by omega) ⟨(by unfold inR; omega), ?_⟩⟩
      rw [ina y (by omega)]
      have e : frow s' 7 (freed (s' 7) y C) 7 y = s' 7 y := freed_at _ _ _
      rw [e]
      refine ⟨hr7 y (by omega), (by unfold inR; omega), ?_, ?_⟩
      · intro c
        rw [forg_n _ _ _ _ c]
        exact z
      · intro c
        refine ⟨(by unfold inR; omega), fp y rfl (by omega) rfl ?_⟩
        rw [forg_s _ _ _ _ c]
        exact z
  have z := key n 0 (by omega)
  rw [forg_0] at z
  exact z
theorem hall_c {h m m' : ISt} (e1 : m' 0 1 = m 0 1) (e4 : m' 0 4 = m 0 4) (e10 : m' 0 10 = m 0 10) (r1 : m' 1 = m 1) (r2 : m' 2 = m 2) (r3 : m' 3 = m 3) (r4 : m' 4 = m 4) (r5 : m' 5 = m 5) (r6 : m' 6 = m 6) (q : HallR h m) : HallR h m' := by
  unfold HallR at *
  rw [e1, e4, e10, r1, r2, r3, r4, r5, r6]
  exact q
theorem ref_c {r m m' s s' : ISt} (e : s' 0 0 = s 0 0) (r1 : m' 19 = m 19) (r2 : m' 20 = m 20) (r3 : m' 21 = m 21) (r4 : m' 22 = m 22) (r5 : m' 23 = m 23) (q : RefR r m s) : RefR r m' s' := by
  unfold RefR at *
  rw [e, r1, r2, r3, r4, r5]
  exact q
