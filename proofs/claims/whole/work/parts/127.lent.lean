def tot (f : Nat → Int) : Nat → Int
  | 0 => 0
  | n + 1 => tot f n + f n
theorem tot_n (f : Nat → Int) (k : Nat) (x : Int) : ∀ n : Nat, n ≤ k → tot (iupd f k x) n = tot f n := by
  intro n
  induction n with
  | zero => intro _; rfl
  | succ n ih =>
    intro h
    unfold tot
    rw [ih (by omega), u_ne (by omega)]
theorem tot_u (f : Nat → Int) (k : Nat) (x : Int) : ∀ n : Nat, k < n → tot (iupd f k x) n = tot f n - f k + x := by
  intro n
  induction n with
  | zero => intro h; omega
  | succ n ih =>
    intro h
    unfold tot
    by_cases c : k = n
    · subst c
      rw [tot_n f k x k (Nat.le_refl k), u_eq]
      omega
    · rw [ih (by omega), u_ne (fun h => c h.symm)]
      omega
theorem tot_c {f g : Nat → Int} : ∀ n : Nat, (∀ p, p < n → f p = g p) → tot f n = tot g n := by
  intro n
  induction n with
  | zero => intro _; rfl
  | succ n ih =>
    intro h
    unfold tot
    rw [ih (fun p hp => h p (by omega)), h n (by omega)]
theorem tot_z {f : Nat → Int} (a : Nat) : ∀ j : Nat, (∀ p, a ≤ p → p < a + j → f p = 0) → tot f (a + j) = tot f a := by
  intro j
  induction j with
  | zero => intro _; rfl
  | succ j ih =>
    intro h
    show tot f (a + j) + f (a + j) = tot f a
    rw [ih (fun p h1 h2 => h p h1 (by omega)), h (a + j) (by omega) (by omega)]
    omega
theorem tot_b {f : Nat → Int} : ∀ n : Nat, (∀ p, p < n → 0 ≤ f p ∧ f p ≤ 9) → 0 ≤ tot f n ∧ tot f n ≤ 9 * n := by
  intro n
  induction n with
  | zero => intro _; exact ⟨Int.le_refl 0, Int.le_refl 0⟩
  | succ n ih =>
    intro h
    have a := ih (fun p hp => h p (by omega))
    have b := h n (by omega)
    unfold tot
    omega
/-- what is lent to C, by lender and kind -/
def lrow (s : ISt) (C : Nat) (p : Nat) : Int := if s 7 (p / 4) = C then s 8 p else 0
theorem lrow_b {hh hs hr hm : ISt} (hR : RelI hh hs hr hm) {n C : Nat} (ho : CopyOk hs n) : ∀ p : Nat, p < 4 * n → 0 ≤ lrow hs C p ∧ lrow hs C p ≤ 9 := by
  intro p hp
  obtain ⟨hH, ⟨⟨e15, b15, b15'⟩, ⟨e19, b19, b19'⟩, hS1, hS2, hS3, hS4, hS5, hS6, hS7⟩, hO, hL, hF⟩ := hR
  have en := ho.1
  have q := hS5 (p / 4) (p % 4) (by omega) (by omega)
  have e : 4 * (p / 4) + p % 4 = p := by omega
  rw [e] at q
  obtain ⟨⟨p1, p2, p3⟩, _⟩ := hS3 (p / 4) (by omega)
  have q2 := hS2 (4 * (hs 5 (p / 4)).toNat + p % 4) (by omega)
  unfold lrow
  split <;> omega
theorem q_lentClass {hh hs hr hm : ISt} (hR : RelI hh hs hr hm) {n C : Nat} (ho : CopyOk hs n) (hC : C < n) : Q_X3_piecesLentTo hs C (tot (lrow hs C) (4 * n)) := by
  have ho' := ho
  obtain ⟨en, bn, hrg⟩ := ho'
  intro V4 V15 k4 k15
  have key : ∀ (j d : Nat), d + j = n → V4 (tot (lrow hs C) (4 * d)) d := by
    intro j
    induction j with
    | zero =>
      intro d hd
      have hd : d = n := hd
      subst hd
      exact k4 _ _ ⟨(by unfold inR; omega), (by unfold inR; omega), bt (by omega) rfl⟩
    | succ j ih =>
      intro d hd
      have z := ih (d + 1) (by omega)
      have r := hrg d (by omega)
      have i7 : iat 16 (hs 7) d = hs 7 d := ina d (by omega)
      refine k4 _ _ ⟨(by unfold inR; omega), (by unfold inR; omega), bf (by omega) ?_⟩
      by_cases c : hs 7 d = C
      · have inner : ∀ (i k : Nat), k + i = 4 → V15 (tot (lrow hs C) (4 * d + k)) d k := by
          intro i
          induction i with
          | zero =>
            intro k hk
            have hk : k = 4 := hk
            subst hk
            exact k15 _ _ _ ⟨(by unfold inR; omega), bt (by omega) z⟩
          | succ i ih2 =>
            intro k hk
            have y := ih2 (k + 1) (by omega)
            refine k15 _ _ _ ⟨(by unfold inR; omega), bf (by omega) ⟨(by unfold inR; omega), ?_⟩⟩
            rw [i7]
            refine ⟨(by unfold inR; omega), (by unfold inR; omega), nf c ⟨(by unfold inR; omega), ?_⟩⟩
            have e : tot (lrow hs C) (4 * d + k) + iat 64 (hs 8) ((d : Int) * 4 + k) = tot (lrow hs C) (4 * d + (k + 1)) := by
              show _ = tot (lrow hs C) (4 * d + k) + lrow hs C (4 * d + k)
              have e1 : iat 64 (hs 8) ((d : Int) * 4 + k) = hs 8 (4 * d + k) := by
                rw [ia (by omega) (by omega)]
                exact congrArg (hs 8) (by omega)
              have e2 : lrow hs C (4 * d + k) = hs 8 (4 * d + k) := by
                unfold lrow
                rw [show (4 * d + k) / 4 = d by omega, if_pos c]
              rw [e1, e2]
            rw [e]
            exact y
        exact inner 4 0 rfl
      · have e : tot (lrow hs C) (4 * (d + 1)) = tot (lrow hs C) (4 * d) := by
          refine tot_z (4 * d) 4 (fun p h1 h2 => ?_)
          unfold lrow
          rw [show p / 4 = d by omega, if_neg c]
        rw [e] at z
        refine k15 _ _ _ ⟨R0, bf (by omega) ⟨(by unfold inR; omega), ?_⟩⟩
        rw [i7]
        exact ⟨(by unfold inR; omega), (by unfold inR; omega), nt c z⟩
  exact key n 0 (by omega)
/-- the loans to C, one by one, laid into a row -/
theorem q_lentModel {hh hs hr hm : ISt} (hR : RelI hh hs hr hm) {n C : Nat} (ho : CopyOk hs n) (hC : C < n) : Q_X5_lentTo hm C (tot (lrow hs C) (4 * n)) := by
  have ho' := ho
  obtain ⟨en, bn, hrg⟩ := ho'
  have lb := lrow_b hR ho (C := C)
  obtain ⟨hH, ⟨⟨e15, b15, b15'⟩, ⟨e19, b19, b19'⟩, hS1, hS2, hS3, hS4, hS5, hS6, hS7⟩, hO, ⟨hL1, hL2, hL3, hL4, hL5, hL6⟩, hF⟩ := hR
  have pb := psum_b (hs 8) 64
  obtain ⟨N, eN⟩ := nat_of pb.1
  have e24 : hm 0 24 = N := by omega
  intro V k
  -- the row, up to loan x
  have key : ∀ (j x : Nat), x + j = N → ∀ G : Nat → Int, (∀ p : Nat, p < 4 * n → (G p = lrow hs C p ∧ ∃ i : Nat, i < x ∧ 4 * (hm 17 i).toNat + (hm 16 i).toNat = p ∧ hm 15 i = C) ∨ (G p = 0 ∧ ∀ i : Nat, i < x → 4 * (hm 17 i).toNat + (hm 16 i).toNat = p → hm 15 i ≠ C)) → V (tot G (4 * n)) x := by
    intro j
    induction j with
    | zero =>
      intro x hx G hG
      have hx : x = N := hx
      refine k _ _ ⟨(by unfold inR; omega), (by unfold inR; omega), bt (by omega) (tot_c (4 * n) (fun p hp => ?_))⟩
      rcases hG p hp with ⟨u, _⟩ | ⟨u, v⟩
      · exact u.symm
      · rw [u]
        by_cases c : hs 7 (p / 4) = C
        · have e : 4 * (p / 4) + p % 4 = p := by omega
          have w := hS5 (p / 4) (p % 4) (by omega) (by omega)
          rw [e] at w
          have l : lrow hs C p = hs 8 p := by
            unfold lrow
            rw [if_pos c]
          rw [l]
          by_cases d : 0 < hs 8 p
          · obtain ⟨i, a1, a2, a3⟩ := hL3 (p / 4) (p % 4) (by omega) (by omega) (by rw [e]; exact d)
            have b := (hL2 i a1).2.2.2.1
            have f : hm 15 i = C := by
              rw [← b, a2, Int.toNat_natCast]
              exact c
            exact absurd f (v i (by omega) (by omega))
          · omega
        · unfold lrow
          rw [if_neg c]
    | succ j ih =>
      intro x hx G hG
      obtain ⟨q1, q2, q3, q4, q5, q6⟩ := hL2 x (by omega)
      refine k _ _ ⟨(by unfold inR; omega), (by unfold inR; omega), bf (by omega) ⟨by omega, ?_⟩⟩
      rw [Int.toNat_natCast]
      refine ⟨(by unfold inR; omega), (by unfold inR; omega), ?_, ?_⟩
      · intro c
        rw [Int.add_zero]
        refine ih (x + 1) (by omega) G (fun p hp => ?_)
        rcases hG p hp with ⟨u, i, v1, v2, v3⟩ | ⟨u, v⟩
        · exact Or.inl ⟨u, i, by omega, v2, v3⟩
        · refine Or.inr ⟨u, fun i hi h => ?_⟩
          by_cases d : i = x
          · subst d
            exact c
          · exact v i (by omega) h
      · intro c
        refine ⟨by omega, ?_⟩
        have bp : 4 * (hm 17 x).toNat + (hm 16 x).toNat < 4 * n := by omega
        have g0 : G (4 * (hm 17 x).toNat + (hm 16 x).toNat) = 0 := by
          rcases hG _ bp with ⟨u, i, v1, v2, v3⟩ | ⟨u, v⟩
          · obtain ⟨r1, r2, r3, r4, r5, r6⟩ := hL2 i (by omega)
            have o := hL4 i x v1 (by omega) (by omega)
            omega
          · exact u
        have z := ih (x + 1) (by omega) (iupd G (4 * (hm 17 x).toNat + (hm 16 x).toNat) (hm 18 x)) (fun p hp => by
          by_cases d : p = 4 * (hm 17 x).toNat + (hm 16 x).toNat
          · refine Or.inl ⟨?_, x, by omega, d.symm, c⟩
            rw [d, u_eq]
            unfold lrow
            rw [show (4 * (hm 17 x).toNat + (hm 16 x).toNat) / 4 = (hm 17 x).toNat by omega, q4, if_pos c]
            exact q5.symm
          · rw [u_ne d]
            rcases hG p hp with ⟨u, i, v1, v2, v3⟩ | ⟨u, v⟩
            · exact Or.inl ⟨u, i, by omega, v2, v3⟩
            · refine Or.inr ⟨u, fun i hi h => ?_⟩
              by_cases e : i = x
              · subst e
                exact absurd h.symm d
              · exact v i (by omega) h)
        rw [tot_u _ _ _ _ bp, g0] at z
        have e : tot G (4 * n) - 0 + hm 18 x = tot G (4 * n) + hm 18 x := by omega
        rw [e] at z
        exact z
  have z := key N 0 (by omega) (fun _ => 0) (fun p hp => Or.inr ⟨rfl, fun i hi => by omega⟩)
  have e : tot (fun _ => 0) (4 * n) = 0 := by
    have := tot_z (f := fun _ => 0) 0 (4 * n) (fun p h1 h2 => rfl)
    rw [Nat.zero_add] at this
    exact this
  rw [e] at z
  exact z
/-- whether a rule's test holds -/
def hol (te va P L Z : Int) : Int := if te = 0 then (if P < va then 0 else 1) else if te = 1 then (if va ≤ L then 0 else 1) else if te = 2 then (if P % va = 0 then 1 else 0) else (if Z < va then 0 else 1)
theorem hol_b (te va P L Z : Int) : hol te va P L Z = 0 ∨ hol te va P L Z = 1 := by
  unfold hol
  split
  · split <;> omega
  · split
    · split <;> omega
    · split
      · split <;> omega
      · split <;> omega
theorem q_hol3 {te va P L Z : Int} (h0 : 0 ≤ te) (h1 : te ≤ 3) (h2 : 1 ≤ va) (h3 : va ≤ 300) (hP : 1 ≤ P ∧ P ≤ 12) (hL : inR L) (hZ : inR Z) : Q_X1_holds te va P L Z (hol te va P L Z) := by
  have pm : 0 ≤ P % va ∧ P % va < va := ⟨Int.emod_nonneg _ (by omega), Int.emod_lt_of_pos _ (by omega)⟩
  unfold Q_X1_holds hol
  refine ⟨(by unfold inR; omega), ?_, ?_⟩
  · intro c
    rw [if_pos c]
    exact ⟨(by unfold inR; omega), (by unfold inR; omega), fun d => if_pos d, fun d => if_neg d⟩
  · intro c
    rw [if_neg c]
    refine ⟨?_, ?_⟩
    · intro d
      rw [if_pos d]
      exact ⟨hL, (by unfold inR; omega), fun e => if_pos e, fun e => if_neg e⟩
    · intro d
      rw [if_neg d]
      refine ⟨?_, ?_⟩
      · intro e
        rw [if_pos e]
        exact ⟨(by unfold inR; omega), bf (by omega) ⟨by omega, by omega, by unfold inR; omega, fun f => if_neg f, fun f => if_pos f⟩⟩
      · intro e
        rw [if_neg e]
        exact bt (by omega) ⟨hZ, (by unfold inR; omega), fun f => if_pos f, fun f => if_neg f⟩
