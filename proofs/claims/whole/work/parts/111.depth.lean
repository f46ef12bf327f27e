/-- how deep a rule lies: the rules from it up -/
def dep (f : Nat → Int) (p : Nat) : Nat → Int → Int
  | 0, _ => 0
  | j + 1, x => if x = -1 then 0 else 1 + dep f p j (f (p + x.toNat))
def mxd (f : Nat → Int) (p : Nat) : Nat → Nat → Int → Int
  | 0, _, s => s
  | j + 1, x, s => mxd f p j (x + 1) (imax s (dep f p 12 x))
theorem dep_b (f : Nat → Int) (p : Nat) : ∀ (j : Nat) (x : Int), 0 ≤ dep f p j x ∧ dep f p j x ≤ j := by
  intro j
  induction j with
  | zero => intro x; exact ⟨Int.le_refl 0, Int.le_refl 0⟩
  | succ j ih =>
    intro x
    unfold dep
    have := ih (f (p + x.toNat))
    split <;> omega
/-- one title's rules: parents before children -/
def RulesOk (h : ISt) (A N : Nat) : Prop := h 1 A = N ∧ A < 8 ∧ N ≤ 12 ∧ ∀ k : Nat, k < N → -1 ≤ h 2 (12 * A + k) ∧ h 2 (12 * A + k) < k
theorem rules_ok {hh hs hr hm : ISt} (hR : RelI hh hs hr hm) {A : Nat} (b : A < 8) : ∃ N : Nat, RulesOk hr A N ∧ hm 23 A = N := by
  obtain ⟨hF1, hF2, hF3⟩ := hR.2.2.2.2.1
  obtain ⟨r1, r2, r3⟩ := hF1 A b
  obtain ⟨N, eN⟩ := nat_of r2
  exact ⟨N, ⟨eN, b, by omega, fun k hk => (hF3 A k b (by omega)).1.2⟩, by omega⟩
theorem q_parentOf {h : ISt} {A N k : Nat} (ho : RulesOk h A N) (hk : k < 12) : Q_X1_parentOf h A k (h 2 (12 * A + k)) := by
  have := ho.2.1
  refine ⟨(by unfold inR; omega), ?_⟩
  rw [ia (by omega) (by omega)]
  exact congrArg (h 2) (by omega)
theorem q_levelOf {h : ISt} {A N k : Nat} (ho : RulesOk h A N) (hk : k < N) : Q_X1_levelOf h A k (dep (h 2) (12 * A) 12 k) := by
  obtain ⟨e, bA, bN, hP⟩ := ho
  intro V kk
  have key : ∀ (j : Nat) (x3 x4 : Int), -1 ≤ x4 → x4 < N → x4 < j → 0 ≤ x3 → x3 + j ≤ 12 → dep (h 2) (12 * A) 12 k = x3 + dep (h 2) (12 * A) j x4 → V x3 x4 := by
    intro j
    induction j with
    | zero =>
      intro x3 x4 h1 h2 h3 h4 h5 q
      exact kk _ _ ⟨(by unfold inR; omega), bt (by omega) (q.trans (Int.add_zero x3))⟩
    | succ j ih =>
      intro x3 x4 h1 h2 h3 h4 h5 q
      have q : dep (h 2) (12 * A) 12 k = x3 + (if x4 = -1 then 0 else 1 + dep (h 2) (12 * A) j (h 2 (12 * A + x4.toNat))) := q
      by_cases c : x4 = -1
      · rw [if_pos c] at q
        exact kk _ _ ⟨(by unfold inR; omega), bt c (q.trans (Int.add_zero x3))⟩
      · rw [if_neg c] at q
        obtain ⟨y, ey⟩ := nat_of (show 0 ≤ x4 by omega)
        subst ey
        rw [Int.toNat_natCast] at q
        have p := hP y (by omega)
        exact kk _ _ ⟨(by unfold inR; omega), bf c ⟨(by unfold inR; omega), bf (by omega) ⟨_, q_parentOf ⟨e, bA, bN, hP⟩ (by omega), ih _ _ p.1 (by omega) (by omega) (by omega) (by omega) (by omega)⟩⟩⟩
  exact key 12 0 k (by omega) (by omega) (by omega) (by omega) (by omega) (Int.zero_add _).symm
theorem q_deepest {h : ISt} {A N : Nat} (ho : RulesOk h A N) : Q_X1_deepest h A (mxd (h 2) (12 * A) N 0 0) := by
  have ho' := ho
  obtain ⟨e, bA, bN, hP⟩ := ho'
  intro V kk
  have key : ∀ (j x : Nat) (s : Int), x + j = N → 0 ≤ s → s ≤ 12 → mxd (h 2) (12 * A) N 0 0 = mxd (h 2) (12 * A) j x s → V s x := by
    intro j
    induction j with
    | zero =>
      intro x s hx h1 h2 q
      refine kk _ _ ⟨(by unfold inR; omega), ?_⟩
      rw [ina A (by omega), e]
      exact ⟨(by unfold inR; omega), (by unfold inR; omega), bt (by omega) q⟩
    | succ j ih =>
      intro x s hx h1 h2 q
      have d := dep_b (h 2) (12 * A) 12 x
      refine kk _ _ ⟨(by unfold inR; omega), ?_⟩
      rw [ina A (by omega), e]
      refine ⟨(by unfold inR; omega), (by unfold inR; omega), bf (by omega) ⟨_, q_levelOf ho (by omega), (by unfold inR; omega), (by unfold inR; omega), ih (x + 1) _ (by omega) ?_ ?_ q⟩⟩
      · unfold imax
        split <;> omega
      · unfold imax
        split <;> omega
  exact key N 0 0 (by omega) (by omega) (by omega) rfl
theorem si_depth : SimI_depth RelI := by
  intro hh hs hr hm a1 ha hR
  have hR0 := hR
  obtain ⟨hH, ⟨⟨e15, b15, b15'⟩, hS⟩, hO, hL, ⟨hF1, hF2, hF3⟩, hSc⟩ := hR
  by_cases c1 : 0 ≤ a1 ∧ a1 < hs 0 0
  · obtain ⟨A, eA⟩ := nat_of c1.1
    subst eA
    obtain ⟨N, ho, eM⟩ := rules_ok hR0 (show A < 8 by omega)
    have ho' := ho
    obtain ⟨e, bA, bN, hP⟩ := ho'
    refine ⟨mxd (hr 2) (12 * A) N 0 0, iset hm 0 0 0, ?_, ?_⟩
    · intro V14 V26 V42 k14 k26 k42
      refine w1 (q_isTitle1 (by omega) (by omega) (by omega)) (k14 _ _ (f0 ?_))
      have key : ∀ (j x : Nat) (s : Int), x + j = N → 0 ≤ s → s ≤ 12 → mxd (hr 2) (12 * A) N 0 0 = mxd (hr 2) (12 * A) j x s → V26 (iset hm 0 0 0) s x := by
        intro j
        induction j with
        | zero =>
          intro x s hx h1 h2 q
          refine k26 _ _ _ ⟨by omega, (by unfold inR; omega), ?_⟩
          rw [Int.toNat_natCast]
          exact ⟨(show inR (hm 23 A) by rw [eM]; unfold inR; omega), bt (show hm 23 A ≤ x by omega) ⟨q, rfl⟩⟩
        | succ j ih =>
          intro x s hx h1 h2 q
          have d := dep_b (hr 2) (12 * A) 12 x
          have go : ∀ (i : Nat) (x4 x5 : Int), -1 ≤ x5 → x5 < N → x5 < i → 0 ≤ x4 → x4 + i ≤ 12 → dep (hr 2) (12 * A) 12 x = x4 + dep (hr 2) (12 * A) i x5 → V42 (iset hm 0 0 0) s x x4 x5 := by
            intro i
            have last : ∀ x4 x5 : Int, x5 = -1 → dep (hr 2) (12 * A) 12 x = x4 → V42 (iset hm 0 0 0) s x x4 x5 := by
              intro x4 x5 c q4
              have q : mxd (hr 2) (12 * A) N 0 0 = mxd (hr 2) (12 * A) j (x + 1) (imax s (dep (hr 2) (12 * A) 12 x)) := q
              rw [q4] at q
              rw [q4] at d
              refine k42 _ _ _ _ _ ⟨(by unfold inR; omega), bt c ⟨(by unfold inR; omega), (by unfold inR; omega), ?_, ?_⟩⟩
              · intro c2
                refine ih (x + 1) s (by omega) h1 h2 ?_
                unfold imax at q
                by_cases c3 : s < x4
                · omega
                · rw [if_neg c3] at q
                  exact q
              · intro c2
                refine ih (x + 1) x4 (by omega) (by omega) (by omega) ?_
                unfold imax at q
                rw [if_pos (by omega)] at q
                exact q
            induction i with
            | zero =>
              intro x4 x5 g1 g2 g3 g4 g5 q4
              exact last x4 x5 (by omega) (q4.trans (Int.add_zero x4))
            | succ i ih2 =>
              intro x4 x5 g1 g2 g3 g4 g5 q4
              have q4 : dep (hr 2) (12 * A) 12 x = x4 + (if x5 = -1 then 0 else 1 + dep (hr 2) (12 * A) i (hr 2 (12 * A + x5.toNat))) := q4
              by_cases c : x5 = -1
              · rw [if_pos c] at q4
                exact last x4 x5 c (q4.trans (Int.add_zero x4))
              · rw [if_neg c] at q4
                obtain ⟨y, ey⟩ := nat_of (show 0 ≤ x5 by omega)
                subst ey
                rw [Int.toNat_natCast] at q4
                have p := hP y (by omega)
                have m19 := (hF3 A y (by omega) (by omega)).1.1
                have i19 : (12 * (A : Int) + y).toNat = 12 * A + y := by omega
                refine k42 _ _ _ _ _ ⟨(by unfold inR; omega), bf c ⟨by omega, ?_⟩⟩
                have e19 : iset hm 0 0 0 19 (12 * (A : Int) + y).toNat = hr 2 (12 * A + y) := by
                  rw [i19]
                  exact m19
                rw [e19]
                exact ih2 _ _ p.1 (by omega) (by omega) (by omega) (by omega) (by omega)
          refine k26 _ _ _ ⟨by omega, (by unfold inR; omega), ?_⟩
          rw [Int.toNat_natCast]
          exact ⟨(show inR (hm 23 A) by rw [eM]; unfold inR; omega), bf (show ¬ hm 23 A ≤ x by omega) (go 12 0 x (by omega) (by omega) (by omega) (by omega) (by omega) (Int.zero_add _).symm)⟩
      exact key N 0 0 (by omega) (by omega) (by omega) rfl
    · intro ok ex hok _
      exact ⟨ha, (by unfold inR; omega), bt ⟨by omega, by omega⟩ ⟨_, q_deepest ho, hok hh hs hr rfl (rel_thrown hR0 0)⟩⟩
  · refine ⟨0, iset hm 0 0 1, ?_, ?_⟩
    · intro V14 V26 V42 k14 k26 k42
      exact w0 (q_isTitle0 ha (by omega) (by omega)) (k14 _ _ (f1 (by unfold inR; omega) (by decide) ⟨rfl, rfl⟩))
    · intro ok ex _ hex
      exact ⟨ha, (by unfold inR; omega), bf (by omega) (hex rfl (rel_thrown hR0 1))⟩
