/-- what finding leaves behind -/
def stf (h : ISt) (w f m : Int) : ISt := fun i => if i = 0 then (fun k => if k = 32 then w else if k = 30 then f else if k = 31 then m else h 0 k) else h i
theorem stf_0 (h : ISt) : iset h 0 32 (-1) = stf h (-1) (h 0 30) (h 0 31) := by
  funext i k
  unfold iset stf iupd
  by_cases c : i = 0
  · subst c
    simp only [if_true]
    by_cases c1 : k = 32
    · simp only [c1, if_true]
    · by_cases c2 : k = 30
      · subst c2
        rfl
      · by_cases c3 : k = 31
        · subst c3
          rfl
        · simp only [c1, c2, c3, if_false]
  · simp only [c, if_false]
theorem stf_s (h : ISt) (w f m w' f' m' : Int) : iset (iset (iset (stf h w f m) 0 32 w') 0 30 f') 0 31 m' = stf h w' f' m' := by
  funext i k
  unfold iset stf iupd
  by_cases c : i = 0
  · subst c
    simp only [if_true]
    by_cases c3 : k = 31
    · subst c3
      rfl
    · by_cases c2 : k = 30
      · subst c2
        rfl
      · by_cases c1 : k = 32
        · subst c1
          rfl
        · simp only [c1, c2, c3, if_false]
  · simp only [c, if_false]
/-- the best of what was looked at -/
def Got (h : ISt) (n : Nat) (p : Int) (D : Nat → Nat → Prop) (w f m : Int) : Prop :=
  (w = -1 ∧ f = h 0 30 ∧ m = h 0 31 ∧ ∀ w' m' f', D m' f' → ¬ Fit h n p w' m' f') ∨
  (∃ f0 m0 : Nat, f = f0 ∧ m = m0 ∧ D m0 f0 ∧ Fit h n p w m0 f0 ∧ ∀ w' m' f', D m' f' → Fit h n p w' m' f' → Le3 w m0 f0 w' m' f')
theorem got_c {h : ISt} {n : Nat} {p : Int} {D E : Nat → Nat → Prop} {w f m : Int} (h1 : ∀ m' f', D m' f' → E m' f') (h2 : ∀ w' m' f', E m' f' → Fit h n p w' m' f' → D m' f') (g : Got h n p D w f m) : Got h n p E w f m := by
  rcases g with ⟨a, b, c, d⟩ | ⟨f0, m0, a, b, c, d, e⟩
  · exact Or.inl ⟨a, b, c, fun w' m' f' he hf => d w' m' f' (h2 _ _ _ he hf) hf⟩
  · exact Or.inr ⟨f0, m0, a, b, h1 _ _ c, d, fun w' m' f' he hf => e w' m' f' (h2 _ _ _ he hf) hf⟩
theorem q_finds {h : ISt} {n : Nat} (e4 : h 0 4 = n) (b : n ≤ 10) (hT : ∀ t : Nat, t < n → inR (h 2 t)) (hs : ∀ t : Nat, t < n → 2 ≤ h 1 t ∧ h 1 t ≤ 6) (r30 : inR (h 0 30)) (r31 : inR (h 0 31)) {p : Int} (hp : 1 ≤ p ∧ p ≤ 12) {w f m : Int} {r : Int}
    (hr : ∀ w' f' m', Got h n p (fun _ _ => True) w' f' m' → w' = w ∧ f' = f ∧ m' = m) (hw : (w = -1 ∧ r = 0) ∨ (0 ≤ w ∧ r = 1)) (hw' : inR w) : Q_X5_finds h p r (stf h w f m) := by
  intro V7 V20 V96 V100 V101 k7 k20 k96 k100 k101
  refine fa ?_
  rw [stf_0]
  have key : ∀ (J f0 : Nat), f0 + J = n → ∀ w1 f1 m1 : Int, inR w1 → inR m1 → Got h n p (fun m' f' => f' < f0) w1 f1 m1 → V7 (stf h w1 f1 m1) f0 := by
    intro J
    induction J with
    | zero =>
      intro f0 hf w1 f1 m1 rw1 rm1 g
      obtain ⟨q1, q2, q3⟩ := hr w1 f1 m1 (got_c (fun _ _ _ => trivial) (fun w' m' f' _ q => by have := q.2.1; have := q.1; show f' < f0; omega) g)
      subst q1
      subst q2
      subst q3
      refine k7 _ _ ⟨(by unfold inR; omega), (show inR (h 0 4) by unfold inR; omega), bt (show h 0 4 ≤ f0 by omega) ⟨(show inR w1 from rw1), ?_, ?_⟩⟩
      · intro c
        have c : w1 = -1 := c
        exact ⟨by omega, rfl⟩
      · intro c
        have c : ¬ w1 = -1 := c
        exact ⟨by omega, rfl⟩
    | succ J ih =>
      intro f0 hf w1 f1 m1 rw1 rm1 g
      refine k7 _ _ ⟨(by unfold inR; omega), (show inR (h 0 4) by unfold inR; omega), bf (show ¬ h 0 4 ≤ f0 by omega) ?_⟩
      have inner : ∀ (i l : Nat), f0 + l + i = n → (∀ t : Nat, f0 ≤ t → t < f0 + l → h 2 t = -1) → ∀ w1 f1 m1 : Int, inR w1 → inR m1 → Got h n p (fun m' f' => f' < f0 ∨ (f' = f0 ∧ m' ≤ l)) w1 f1 m1 → ∀ x3 x4 : Int, x3 = ssum (h 1) f0 l - l + 1 → x4 = ((f0 + l : Nat) : Int) → V20 (stf h w1 f1 m1) f0 x3 x4 := by
        intro i
        induction i with
        | zero =>
          intro l hl fr w1 f1 m1 rw1 rm1 g x3 x4 e3 e5
          subst e5
          refine k20 _ _ _ _ ⟨(by unfold inR; omega), (show inR (h 0 4) by unfold inR; omega), bt (show h 0 4 ≤ ((f0 + l : Nat) : Int) by omega) (ih (f0 + 1) (by omega) w1 f1 m1 rw1 rm1 (got_c (fun m' f' c => by omega) (fun w' m' f' c q => by have := q.2.1; omega) g))⟩
        | succ i ih2 =>
          intro l hl fr w1 f1 m1 rw1 rm1 g x3 x4 e3 e5
          subst e5
          have s1 := hs (f0 + l) (by omega)
          have sb := ssum_b hs f0 l (by omega)
          refine k20 _ _ _ _ ⟨(by unfold inR; omega), (show inR (h 0 4) by unfold inR; omega), bf (show ¬ h 0 4 ≤ ((f0 + l : Nat) : Int) by omega) ⟨by omega, ?_⟩⟩
          show inR (h 2 ((f0 + l : Nat) : Int).toNat) ∧ ((¬ h 2 ((f0 + l : Nat) : Int).toNat = -1 → V7 (stf h w1 f1 m1) (((f0 + 1 : Nat)) : Int)) ∧ (h 2 ((f0 + l : Nat) : Int).toNat = -1 → _))
          rw [Int.toNat_natCast]
          refine ⟨hT _ (by omega), ?_, ?_⟩
          · intro c
            refine ih (f0 + 1) (by omega) w1 f1 m1 rw1 rm1 (got_c (fun m' f' c => by omega) (fun w' m' f' c' q => ?_) g)
            by_cases d : f' = f0 ∧ l < m'
            · exact absurd (q.2.2.1 (f0 + l) (by omega) (by omega)) c
            · omega
          · intro c
            have fr' : ∀ t : Nat, f0 ≤ t → t < f0 + (l + 1) → h 2 t = -1 := by
              intro t ht ht'
              by_cases d : t = f0 + l
              · subst d
                exact c
              · exact fr t ht (by omega)
            have h1e : stf h w1 f1 m1 1 (f0 + l) = h 1 (f0 + l) := rfl
            rw [h1e]
            have e4' : x3 + (h 1 (f0 + l) - 1) = ssum (h 1) f0 (l + 1) - ((l + 1 : Nat) : Int) + 1 := by
              show _ = ssum (h 1) f0 l + h 1 (f0 + l) - ((l + 1 : Nat) : Int) + 1
              omega
            have sb' := ssum_b hs f0 (l + 1) (by omega)
            rw [e4']
            -- what comes next, kept or taken
            have keep : (∀ w0, Fit h n p w0 (l + 1) f0 → Le3 w1 m1.toNat f1.toNat w0 (l + 1) f0 ∧ 0 ≤ w1 ∧ 0 ≤ m1 ∧ 0 ≤ f1) → V20 (stf h w1 f1 m1) f0 (ssum (h 1) f0 (l + 1) - ((l + 1 : Nat) : Int) + 1) (((f0 + l : Nat) : Int) + 1) := by
              intro kk
              refine ih2 (l + 1) (by omega) fr' w1 f1 m1 rw1 rm1 ?_ _ _ rfl (by omega)
              rcases g with ⟨a, b1, c1, d⟩ | ⟨f2, m2, a, b1, c1, d, e⟩
              · refine Or.inl ⟨a, b1, c1, fun w' m' f' hd q => ?_⟩
                by_cases z : f' = f0 ∧ m' = l + 1
                · obtain ⟨z1, z2⟩ := z
                  subst z1
                  subst z2
                  have := (kk w' q).2.1
                  omega
                · exact d w' m' f' (by omega) q
              · refine Or.inr ⟨f2, m2, a, b1, by omega, d, fun w' m' f' hd q => ?_⟩
                by_cases z : f' = f0 ∧ m' = l + 1
                · obtain ⟨z1, z2⟩ := z
                  subst z1
                  subst z2
                  have k0 := (kk w' q).1
                  subst a
                  subst b1
                  exact k0
                · exact e w' m' f' (by omega) q
            have take : ∀ w0 : Int, w0 = ssum (h 1) f0 (l + 1) - ((l + 1 : Nat) : Int) + 1 - p → 0 ≤ w0 → (w1 = -1 ∨ w0 < w1 ∨ (w0 = w1 ∧ ((l + 1 : Nat) : Int) < m1)) → V20 (stf h w0 f0 ((l + 1 : Nat) : Int)) f0 (ssum (h 1) f0 (l + 1) - ((l + 1 : Nat) : Int) + 1) (((f0 + l : Nat) : Int) + 1) := by
              intro w0 e0 p0 better
              refine ih2 (l + 1) (by omega) fr' w0 f0 _ (by unfold inR; omega) (by unfold inR; omega) ?_ _ _ rfl (by omega)
              refine Or.inr ⟨f0, l + 1, rfl, rfl, by omega, ⟨by omega, by omega, fr', e0, p0⟩, fun w' m' f' hd q => ?_⟩
              by_cases z : f' = f0 ∧ m' = l + 1
              · obtain ⟨z1, z2⟩ := z
                subst z1
                subst z2
                have := q.2.2.2.1
                unfold Le3
                omega
              · rcases g with ⟨a, b1, c1, d⟩ | ⟨f2, m2, a, b1, c1, d, e⟩
                · exact absurd q (d w' m' f' (by omega))
                · have z3 := e w' m' f' (by omega) q
                  have z4 := d.2.2.2.2
                  unfold Le3 at z3 ⊢
                  omega
            have V1 : ∀ w0 : Int, w0 = ssum (h 1) f0 (l + 1) - ((l + 1 : Nat) : Int) + 1 - p → (0 ≤ w0 → (w1 = -1 ∨ w0 < w1 ∨ (w0 = w1 ∧ ((l + 1 : Nat) : Int) < m1))) → V96 (stf h w1 f1 m1) f0 (ssum (h 1) f0 (l + 1) - ((l + 1 : Nat) : Int) + 1) ((f0 + l : Nat) : Int) w0 := by
              intro w0 e0 better
              refine k96 _ _ _ _ _ (k101 _ _ _ _ _ _ ⟨(by unfold inR; omega), ?_, ?_⟩)
              · intro c0
                exact keep (fun w' q => by have := q.2.2.2.1; have := q.2.2.2.2; omega)
              · intro c0
                refine ⟨R1, bf n10 (fa (fa (fa ?_)))⟩
                rw [stf_s]
                have z := take w0 e0 (by omega) (better (by omega))
                have e6 : ((f0 + l : Nat) : Int) + 1 - f0 = ((l + 1 : Nat) : Int) := by omega
                rw [e6]
                exact z
            have V0 : ∀ w0 : Int, w0 = ssum (h 1) f0 (l + 1) - ((l + 1 : Nat) : Int) + 1 - p → ¬ (w1 = -1 ∨ w0 < w1 ∨ (w0 = w1 ∧ ((l + 1 : Nat) : Int) < m1)) → V100 (stf h w1 f1 m1) f0 (ssum (h 1) f0 (l + 1) - ((l + 1 : Nat) : Int) + 1) ((f0 + l : Nat) : Int) w0 := by
              intro w0 e0 better
              have kp : V20 (stf h w1 f1 m1) f0 (ssum (h 1) f0 (l + 1) - ((l + 1 : Nat) : Int) + 1) (((f0 + l : Nat) : Int) + 1) := by
                refine keep (fun w' q => ?_)
                have q1 := q.2.2.2.1
                rcases g with ⟨a, b1, c1, d⟩ | ⟨f2, m2, a, b1, c1, d, e⟩
                · omega
                · have z4 := d.2.2.2.2
                  unfold Le3
                  omega
              exact k100 _ _ _ _ _ (k101 _ _ _ _ _ _ ⟨(by unfold inR; omega), fun _ => kp, fun _ => ⟨R0, bt rfl kp⟩⟩)
            refine ⟨by omega, (show inR w1 from rw1), ?_, ?_⟩
            · intro d
              have d : w1 = -1 := d
              exact V1 _ rfl (fun _ => Or.inl d)
            · intro d
              have d : ¬ w1 = -1 := d
              refine ⟨(by unfold inR; omega), (show inR w1 from rw1), ?_, ?_⟩
              · intro d2
                have d2 : ssum (h 1) f0 (l + 1) - ((l + 1 : Nat) : Int) + 1 - p < w1 := d2
                exact V1 _ rfl (fun _ => Or.inr (Or.inl d2))
              · intro d2
                have d2 : ¬ ssum (h 1) f0 (l + 1) - ((l + 1 : Nat) : Int) + 1 - p < w1 := d2
                refine ⟨(by unfold inR; omega), (show inR w1 from rw1), ?_, ?_⟩
                · intro d3
                  have d3 : ¬ ssum (h 1) f0 (l + 1) - ((l + 1 : Nat) : Int) + 1 - p = w1 := d3
                  exact V0 _ rfl (by omega)
                · intro d3
                  have d3 : ssum (h 1) f0 (l + 1) - ((l + 1 : Nat) : Int) + 1 - p = w1 := d3
                  refine ⟨(by unfold inR; omega), (show inR m1 from rm1), ?_, ?_⟩
                  · intro d4
                    have d4 : m1 ≤ ((f0 + l : Nat) : Int) + 1 - f0 := d4
                    exact V0 _ rfl (by omega)
                  · intro d4
                    have d4 : ¬ m1 ≤ ((f0 + l : Nat) : Int) + 1 - f0 := d4
                    exact V1 _ rfl (fun _ => Or.inr (Or.inr (by omega)))
      refine inner (J + 1) 0 (by omega) (fun t h1 h2 => by omega) w1 f1 m1 rw1 rm1 (got_c (fun m' f' c => Or.inl c) (fun w' m' f' c q => ?_) g) 1 _ ?_ rfl
      · have := q.1
        show f' < f0
        omega
      · show (1 : Int) = 0 - ((0 : Nat) : Int) + 1
        omega
  exact key n 0 (by omega) _ _ _ (by unfold inR; omega) r31 (Or.inl ⟨rfl, rfl, rfl, fun w' m' f' c => absurd c (by omega)⟩)
