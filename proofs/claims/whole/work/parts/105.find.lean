theorem si_found : SimI_found RelI := by
  intro hh hs hr hm a1 a2 a3 ha1 ha2 ha3 hR
  have hR0 := hR
  obtain ⟨hH, ⟨⟨e15, b15, b15'⟩, ⟨e19, b19, b19'⟩, hS1, hS2, hS3, hS4, hS5, hS6, hS7⟩, hO, ⟨hL1, hL2, hL3, hL4, hL5, hL6⟩, hF⟩ := hR
  by_cases c1 : 0 ≤ a1 ∧ a1 < hs 0 1
  · obtain ⟨C, eC⟩ := nat_of c1.1
    subst eC
    obtain ⟨⟨s1, s2, s3⟩, ⟨s4, s4'⟩, ⟨s5, s5'⟩, s6⟩ := hS3 C (by omega)
    obtain ⟨A, eA⟩ := nat_of s2
    have b10' := hH.2.2.1.2.2
    by_cases c2 : 0 ≤ a2 ∧ a2 < 4
    · obtain ⟨K, eK⟩ := nat_of c2.1
      subst eK
      have f5 := hS5 C K (by omega) (by omega)
      rw [eA, Int.toNat_natCast] at f5
      have f2 := (hS2 (4 * A + K) (by omega))
      have f4 := hS4 (4 * C + K) (by omega)
      have i14 : (4 * (C : Int) + K).toNat = 4 * C + K := by omega
      have i11 : (4 * hm 12 (C : Int).toNat + K).toNat = 4 * A + K := by
        rw [Int.toNat_natCast]
        omega
      by_cases c3 : 1 ≤ a3 ∧ a3 ≤ 9
      · have pl := q_place hR0 (a := C) (by omega) (by omega)
        rw [Int.toNat_natCast] at pl
        by_cases c4 : whr hs C = 0 ∧ hs 9 (4 * C + K) + a3 ≤ hs 4 (4 * A + K)
        · refine ⟨hs 9 (4 * C + K) + a3, iset (iset hm 0 0 0) 14 (4 * C + K) (hm 14 (4 * C + K) + a3), ?_, ?_⟩
          · intro V19 V20 V74 V75 V111 k19 k20 k74 k75 k111
            refine w1 (q_isCopy1 (by omega) (by omega) (by omega)) (w1 (q_isKind1 (by omega) (by omega)) (k20 _ _ ⟨R1, bf n10 ⟨by omega, ?_, nf ?_ ⟨by omega, by omega, ?_, ?_⟩⟩⟩))
            · rw [Int.toNat_natCast, s6, c4.1]
              exact R0
            · rw [Int.toNat_natCast, s6, c4.1]
            · rw [Int.toNat_natCast, s1, eA]
              omega
            · rw [i14, i11, f4, f2.1]
              refine ⟨(by unfold inR; omega), (by unfold inR; omega), (by unfold inR; omega), ?_, bf ?_ (k75 _ _ _ ⟨R1, nt n10 (y1 (q_isIn1 ha3 (by unfold inR; omega) (by unfold inR; omega) c3) ⟨R1, nt n10 (k111 _ _ (f0 ?_))⟩)⟩)⟩
              · unfold icmp inR
                split
                · omega
                · split
                  · omega
                  · omega
              · unfold icmp
                rw [if_neg (by omega)]
                split
                · omega
                · omega
              · refine ⟨by omega, by omega, fs (4 * C + K) (by omega) (x' := hm 14 (4 * C + K) + a3) ?_ ⟨by omega, ?_, rfl⟩⟩
                · show hm 14 (4 * (C : Int) + K).toNat + a3 = _
                  rw [i14]
                · show _ = iupd (hm 14) (4 * C + K) (hm 14 (4 * C + K) + a3) (4 * (C : Int) + K).toNat
                  rw [i14, u_eq, f4]
          · intro ok ex hok _ _ _ V51 V52 k51 k52
            refine ⟨ha1, (by unfold inR; omega), bt ⟨by omega, by omega⟩ ⟨ha2, bt ⟨by omega, by omega⟩ ⟨ha3, bt ⟨by omega, by omega⟩ ⟨_, pl, ?_, nf c4.1 ⟨_, q_lack (by omega) eA (by omega) (by omega), (by unfold inR; omega), ha3, bf (by omega) (k52 _ ⟨R1, bt n10 ⟨_, q_change (by omega) (by omega), _, q_count (by omega) (by omega), ?_⟩⟩)⟩⟩⟩⟩⟩
            · rw [c4.1]
              exact R0
            · have b7 : hs 7 C = -1 := by
                have w := c4.1
                unfold whr at w
                by_cases d6 : hs 6 C = -1
                · rw [if_pos d6] at w
                  by_cases d7 : hs 7 C = -1
                  · exact d7
                  · rw [if_neg d7] at w
                    omega
                · rw [if_neg d6] at w
                  omega
              have l0 := hL6 C K (by omega) (by omega) b7
              have h := hok hh (iset hs 9 (4 * C + K) (hs 9 (4 * C + K) + a3)) hr rfl ⟨hH, ⟨⟨e15, b15, b15'⟩, ⟨e19, b19, b19'⟩, hS1, hS2, hS3, ?_, ?_, hS6, hS7⟩, hO, ⟨hL1, hL2, hL3, hL4, hL5, hL6⟩, hF⟩
              · have e : iset hs 9 (4 * C + K) (hs 9 (4 * C + K) + a3) 9 (4 * C + K) = hs 9 (4 * C + K) + a3 := u_eq _ _ _
                rw [e]
                exact h
              · intro i hi
                show iupd (hm 14) (4 * C + K) (hm 14 (4 * C + K) + a3) i = iupd (hs 9) (4 * C + K) (hs 9 (4 * C + K) + a3) i
                by_cases d : i = 4 * C + K
                · subst d
                  rw [u_eq, u_eq, f4]
                · rw [u_ne d, u_ne d]
                  exact hS4 i hi
              · intro c k hc hk
                show 0 ≤ iupd (hs 9) (4 * C + K) (hs 9 (4 * C + K) + a3) (4 * c + k) ∧ 0 ≤ hs 8 (4 * c + k) ∧ iupd (hs 9) (4 * C + K) (hs 9 (4 * C + K) + a3) (4 * c + k) + hs 8 (4 * c + k) ≤ hs 4 (4 * (hs 5 c).toNat + k)
                by_cases d : 4 * c + k = 4 * C + K
                · have d1 : c = C := by omega
                  have d2 : k = K := by omega
                  subst d1
                  subst d2
                  rw [u_eq, eA, Int.toNat_natCast, l0]
                  omega
                · rw [u_ne d]
                  exact hS5 c k hc hk
        · refine ⟨0, iset hm 0 0 3, ?_, ?_⟩
          · intro V19 V20 V74 V75 V111 k19 k20 k74 k75 k111
            have z75 : V75 hm 1 0 := k75 _ _ _ ⟨R1, nt n10 (y1 (q_isIn1 ha3 (by unfold inR; omega) (by unfold inR; omega) c3) ⟨R0, nf rfl (k111 _ _ (f1 (by unfold inR; omega) (by decide) ⟨rfl, rfl⟩))⟩)⟩
            have z74 : V74 hm 1 := k74 _ _ z75
            refine w1 (q_isCopy1 (by omega) (by omega) (by omega)) (w1 (q_isKind1 (by omega) (by omega)) (k20 _ _ ⟨R1, bf n10 ⟨by omega, ?_, fun _ => z74, fun w => ⟨by omega, by omega, ?_, ?_⟩⟩⟩))
            · rw [Int.toNat_natCast, s6]
              unfold whr inR
              split
              · split
                · omega
                · omega
              · omega
            · rw [Int.toNat_natCast, s1, eA]
              omega
            · rw [Int.toNat_natCast, s6] at w
              rw [i14, i11, f4, f2.1]
              refine ⟨(by unfold inR; omega), (by unfold inR; omega), (by unfold inR; omega), ?_, bt ?_ z74⟩
              · unfold icmp inR
                split
                · omega
                · split
                  · omega
                  · omega
              · unfold icmp
                rw [if_pos (by omega)]
                omega
          · intro ok ex _ _ _ hex V51 V52 k51 k52
            have z : V51 := k51 (k52 _ ⟨R0, bf (by simp) (hex rfl (rel_thrown hR0 3))⟩)
            refine ⟨ha1, (by unfold inR; omega), bt ⟨by omega, by omega⟩ ⟨ha2, bt ⟨by omega, by omega⟩ ⟨ha3, bt ⟨by omega, by omega⟩ ⟨_, pl, ?_, fun _ => z, fun w => ⟨_, q_lack (by omega) eA (by omega) (by omega), (by unfold inR; omega), ha3, fun _ => z, fun w' => absurd ⟨w, by omega⟩ c4⟩⟩⟩⟩⟩
            unfold whr inR
            split
            · split
              · omega
              · omega
            · omega
      · refine ⟨0, iset hm 0 0 2, ?_, ?_⟩
        · intro V19 V20 V74 V75 V111 k19 k20 k74 k75 k111
          have z75 : ∀ t : Int, V75 hm 1 t := fun t => k75 _ _ _ ⟨R1, nt n10 (y0 (q_isIn0 ha3 (by unfold inR; omega) (by unfold inR; omega) c3) (k111 _ _ (f1 (by unfold inR; omega) (by decide) ⟨rfl, rfl⟩)))⟩
          have z74 : V74 hm 1 := k74 _ _ (z75 0)
          refine w1 (q_isCopy1 (by omega) (by omega) (by omega)) (w1 (q_isKind1 (by omega) (by omega)) (k20 _ _ ⟨R1, bf n10 ⟨by omega, ?_, fun _ => z74, fun w => ⟨by omega, by omega, ?_, ?_⟩⟩⟩))
          · rw [Int.toNat_natCast, s6]
            unfold whr inR
            split
            · split
              · omega
              · omega
            · omega
          · rw [Int.toNat_natCast, s1, eA]
            omega
          · rw [i14, i11, f4, f2.1]
            refine ⟨(by unfold inR; omega), ha3, (by unfold inR; omega), ?_, fun _ => z74, fun _ => z75 1⟩
            unfold icmp inR
            split
            · omega
            · split
              · omega
              · omega
        · intro ok ex _ _ hex _ V51 V52 k51 k52
          exact ⟨ha1, (by unfold inR; omega), bt ⟨by omega, by omega⟩ ⟨ha2, bt ⟨by omega, by omega⟩ ⟨ha3, bf (by omega) (hex rfl (rel_thrown hR0 2))⟩⟩⟩
    · refine ⟨0, iset hm 0 0 1, ?_, ?_⟩
      · intro V19 V20 V74 V75 V111 k19 k20 k74 k75 k111
        have z75 : V75 hm 0 0 := k75 _ _ _ ⟨R0, nf rfl (k111 _ _ (f1 (by unfold inR; omega) (by decide) ⟨rfl, rfl⟩))⟩
        have z19 : V19 hm := k19 _ (k20 _ _ ⟨R0, bt rfl (k74 _ _ z75)⟩)
        exact w1 (q_isCopy1 (by omega) (by omega) (by omega)) (w0 (q_isKind0 ha2 (by omega)) z19)
      · intro ok ex _ hex _ _ V51 V52 k51 k52
        exact ⟨ha1, (by unfold inR; omega), bt ⟨by omega, by omega⟩ ⟨ha2, bf (by omega) (hex rfl (rel_thrown hR0 1))⟩⟩
  · refine ⟨0, iset hm 0 0 1, ?_, ?_⟩
    · intro V19 V20 V74 V75 V111 k19 k20 k74 k75 k111
      have z75 : V75 hm 0 0 := k75 _ _ _ ⟨R0, nf rfl (k111 _ _ (f1 (by unfold inR; omega) (by decide) ⟨rfl, rfl⟩))⟩
      have z19 : V19 hm := k19 _ (k20 _ _ ⟨R0, bt rfl (k74 _ _ z75)⟩)
      exact w0 (q_isCopy0 ha1 (by omega) (by omega)) z19
    · intro ok ex _ hex _ _ V51 V52 k51 k52
      exact ⟨ha1, (by unfold inR; omega), bf (by omega) (hex rfl (rel_thrown hR0 1))⟩
/-- the first place that holds a number, from x on; none -/
def fnd (f : Nat → Int) (a : Int) : Nat → Nat → Int
  | 0, _ => -1
  | j + 1, x => if f x = a then (x : Int) else fnd f a j (x + 1)
/-- how many places hold a number, from x on -/
def cnt (f : Nat → Int) (a : Int) : Nat → Nat → Int
  | 0, _ => 0
  | j + 1, x => (if f x = a then 1 else 0) + cnt f a j (x + 1)
theorem fnd_e {f g : Nat → Int} {a : Int} {n : Nat} (h : ∀ x, x < n → f x = g x) : ∀ j x, x + j ≤ n → fnd f a j x = fnd g a j x := by
  intro j
  induction j with
  | zero => intros; rfl
  | succ j ih =>
    intro x hx
    unfold fnd
    rw [h x (by omega), ih (x + 1) (by omega)]
theorem cnt_e {f g : Nat → Int} {a : Int} {n : Nat} (h : ∀ x, x < n → f x = g x) : ∀ j x, x + j ≤ n → cnt f a j x = cnt g a j x := by
  intro j
  induction j with
  | zero => intros; rfl
  | succ j ih =>
    intro x hx
    unfold cnt
    rw [h x (by omega), ih (x + 1) (by omega)]
theorem q_firstTable {h : ISt} {a : Int} (ha : inR a) {n : Nat} (e : h 0 1 = n) (b : n ≤ 10) (hT : ∀ t : Nat, t < 10 → -1 ≤ h 2 t ∧ h 2 t < 30) : Q_X0_firstTable h a (fnd (h 2) a n 0) := by
  intro V k
  have key : ∀ j x : Nat, x + j = n → fnd (h 2) a n 0 = fnd (h 2) a j x → V x := by
    intro j
    induction j with
    | zero =>
      intro x hx hq
      exact k _ ⟨(by unfold inR; omega), (by unfold inR; omega), bt (by omega) hq⟩
    | succ j ih =>
      intro x hx hq
      have t := hT x (by omega)
      have hq : fnd (h 2) a n 0 = if h 2 x = a then (x : Int) else fnd (h 2) a j (x + 1) := hq
      refine k _ ⟨(by unfold inR; omega), (by unfold inR; omega), bf (by omega) ⟨(by unfold inR; omega), ?_⟩⟩
      rw [ina x (by omega)]
      refine ⟨(by unfold inR; omega), ha, ?_, ?_⟩
      · intro c
        rw [if_neg c] at hq
        exact ih (x + 1) (by omega) hq
      · intro c
        rw [if_pos c] at hq
        exact hq
  exact key n 0 (by omega) rfl
theorem q_heldBy {h : ISt} {a : Int} (ha : inR a) {n : Nat} (e : h 0 1 = n) (b : n ≤ 16) (hT : ∀ t : Nat, t < n → inR (h 6 t)) : Q_X3_heldBy h a (fnd (h 6) a n 0) := by
  intro V k
  have key : ∀ j x : Nat, x + j = n → fnd (h 6) a n 0 = fnd (h 6) a j x → V x := by
    intro j
    induction j with
    | zero =>
      intro x hx hq
      exact k _ ⟨(by unfold inR; omega), (by unfold inR; omega), bt (by omega) hq⟩
    | succ j ih =>
      intro x hx hq
      have t := hT x (by omega)
      have hq : fnd (h 6) a n 0 = if h 6 x = a then (x : Int) else fnd (h 6) a j (x + 1) := hq
      refine k _ ⟨(by unfold inR; omega), (by unfold inR; omega), bf (by omega) ⟨(by unfold inR; omega), ?_⟩⟩
      rw [ina x (by omega)]
      refine ⟨t, ha, ?_, ?_⟩
      · intro c
        rw [if_neg c] at hq
        exact ih (x + 1) (by omega) hq
      · intro c
        rw [if_pos c] at hq
        exact hq
  exact key n 0 (by omega) rfl
theorem q_countTables {h : ISt} {a : Int} (ha : inR a) {n : Nat} (e : h 0 1 = n) (b : n ≤ 10) (hT : ∀ t : Nat, t < 10 → -1 ≤ h 2 t ∧ h 2 t < 30) : Q_X0_countTables h a (cnt (h 2) a n 0) := by
  intro V k
  have key : ∀ (j x : Nat) (s : Int), x + j = n → cnt (h 2) a n 0 = s + cnt (h 2) a j x → V s x := by
    intro j
    induction j with
    | zero =>
      intro x s hx hq
      exact k _ _ ⟨(by unfold inR; omega), (by unfold inR; omega), bt (by omega) (hq.trans (Int.add_zero s))⟩
    | succ j ih =>
      intro x s hx hq
      have t := hT x (by omega)
      have hq : cnt (h 2) a n 0 = s + ((if h 2 x = a then 1 else 0) + cnt (h 2) a j (x + 1)) := hq
      refine k _ _ ⟨(by unfold inR; omega), (by unfold inR; omega), bf (by omega) ⟨(by unfold inR; omega), ?_⟩⟩
      rw [ina x (by omega)]
      refine ⟨(by unfold inR; omega), ha, ?_, ?_⟩
      · intro c
        rw [if_neg c] at hq
        exact ih (x + 1) s (by omega) (by omega)
      · intro c
        rw [if_pos c] at hq
        exact ih (x + 1) (s + 1) (by omega) (by omega)
  exact key n 0 0 (by omega) (by omega)
theorem q_countWaiting {h : ISt} {n : Nat} (e : h 0 2 = n) (b : n ≤ 30) (hT : ∀ t : Nat, t < n → inR (h 6 t)) : Q_X0_countWaiting h (cnt (h 6) 0 n 0) := by
  intro V k
  have key : ∀ (j x : Nat) (s : Int), x + j = n → cnt (h 6) 0 n 0 = s + cnt (h 6) 0 j x → V s x := by
    intro j
    induction j with
    | zero =>
      intro x s hx hq
      exact k _ _ ⟨(by unfold inR; omega), (by unfold inR; omega), bt (by omega) (hq.trans (Int.add_zero s))⟩
    | succ j ih =>
      intro x s hx hq
      have t := hT x (by omega)
      have hq : cnt (h 6) 0 n 0 = s + ((if h 6 x = 0 then 1 else 0) + cnt (h 6) 0 j (x + 1)) := hq
      refine k _ _ ⟨(by unfold inR; omega), (by unfold inR; omega), bf (by omega) ⟨(by unfold inR; omega), ?_⟩⟩
      rw [ina x (by omega)]
      refine ⟨t, ?_, ?_⟩
      · intro c
        rw [if_neg c] at hq
        exact ih (x + 1) s (by omega) (by omega)
      · intro c
        rw [if_pos c] at hq
        exact ih (x + 1) (s + 1) (by omega) (by omega)
  exact key n 0 0 (by omega) (by omega)
theorem si_tableOf : SimI_tableOf RelI := by
  intro hh hs hr hm a1 ha hR
  have hR0 := hR
  obtain ⟨⟨h1, ⟨e4, b4, b4'⟩, ⟨e10, b10, b10'⟩, hT, hT2, hT3, hG, hG0, hG3⟩, hS, hO, hL, hF⟩ := hR
  by_cases c1 : 0 ≤ a1 ∧ a1 < hh 0 2
  · obtain ⟨n, en⟩ := nat_of b4
    refine ⟨fnd (hh 2) a1 n 0, iset hm 0 0 0, ?_, ?_⟩
    · intro V k
      refine w1 (q_isGroup1 (by omega) (by omega) (by omega)) (f0 ?_)
      have key : ∀ j x : Nat, x + j = n → fnd (hh 2) a1 n 0 = fnd (hh 2) a1 j x → V (iset hm 0 0 0) x := by
        intro j
        induction j with
        | zero =>
          intro x hx hq
          exact k _ _ ⟨(by unfold inR; omega), (show inR (hm 0 4) by unfold inR; omega), bt (show hm 0 4 ≤ x by omega) ⟨hq, rfl⟩⟩
        | succ j ih =>
          intro x hx hq
          have t := hT x (by omega)
          have t2 := (hT2 x (by omega)).1
          have hq : fnd (hh 2) a1 n 0 = if hh 2 x = a1 then (x : Int) else fnd (hh 2) a1 j (x + 1) := hq
          refine k _ _ ⟨(by unfold inR; omega), (show inR (hm 0 4) by unfold inR; omega), bf (show ¬ hm 0 4 ≤ x by omega) ⟨by omega, ?_⟩⟩
          show inR (hm 2 (x : Int).toNat) ∧ inR a1 ∧ ((¬ hm 2 (x : Int).toNat = a1 → _) ∧ (hm 2 (x : Int).toNat = a1 → _))
          rw [Int.toNat_natCast, t2]
          refine ⟨(by unfold inR; omega), ha, ?_, ?_⟩
          · intro c
            rw [if_neg c] at hq
            exact ih (x + 1) (by omega) hq
          · intro c
            rw [if_pos c] at hq
            exact ⟨hq, rfl⟩
      exact key n 0 (by omega) rfl
    · intro ok ex hok _
      exact ⟨ha, (by unfold inR; omega), bt ⟨by omega, by omega⟩ ⟨_, q_firstTable ha en (by omega) hT, hok hh hs hr rfl (rel_thrown hR0 0)⟩⟩
  · refine ⟨0, iset hm 0 0 1, ?_, ?_⟩
    · intro V k
      exact w0 (q_isGroup0 ha (by omega) (by omega)) (f1 (by unfold inR; omega) (by decide) ⟨rfl, rfl⟩)
    · intro ok ex _ hex
      exact ⟨ha, (by unfold inR; omega), bf (by omega) (hex rfl (rel_thrown hR0 1))⟩
theorem si_tablesOf : SimI_tablesOf RelI := by
  intro hh hs hr hm a1 ha hR
  have hR0 := hR
  obtain ⟨⟨h1, ⟨e4, b4, b4'⟩, ⟨e10, b10, b10'⟩, hT, hT2, hT3, hG, hG0, hG3⟩, hS, hO, hL, hF⟩ := hR
  by_cases c1 : 0 ≤ a1 ∧ a1 < hh 0 2
  · obtain ⟨n, en⟩ := nat_of b4
    refine ⟨cnt (hh 2) a1 n 0, iset hm 0 0 0, ?_, ?_⟩
    · intro V V' k k'
      refine w1 (q_isGroup1 (by omega) (by omega) (by omega)) (k _ _ (f0 ?_))
      have key : ∀ (j x : Nat) (s : Int), x + j = n → cnt (hh 2) a1 n 0 = s + cnt (hh 2) a1 j x → V' (iset hm 0 0 0) s x := by
        intro j
        induction j with
        | zero =>
          intro x s hx hq
          exact k' _ _ _ ⟨(by unfold inR; omega), (show inR (hm 0 4) by unfold inR; omega), bt (show hm 0 4 ≤ x by omega) ⟨hq.trans (Int.add_zero s), rfl⟩⟩
        | succ j ih =>
          intro x s hx hq
          have t := hT x (by omega)
          have t2 := (hT2 x (by omega)).1
          have hq : cnt (hh 2) a1 n 0 = s + ((if hh 2 x = a1 then 1 else 0) + cnt (hh 2) a1 j (x + 1)) := hq
          refine k' _ _ _ ⟨(by unfold inR; omega), (show inR (hm 0 4) by unfold inR; omega), bf (show ¬ hm 0 4 ≤ x by omega) ⟨by omega, ?_⟩⟩
          show inR (hm 2 (x : Int).toNat) ∧ inR a1 ∧ ((¬ hm 2 (x : Int).toNat = a1 → _) ∧ (hm 2 (x : Int).toNat = a1 → _))
          rw [Int.toNat_natCast, t2]
          refine ⟨(by unfold inR; omega), ha, ?_, ?_⟩
          · intro c
            rw [if_neg c] at hq
            exact ih (x + 1) (s + 0) (by omega) (by omega)
          · intro c
            rw [if_pos c] at hq
            exact ih (x + 1) (s + 1) (by omega) (by omega)
      exact key n 0 0 (by omega) (by omega)
    · intro ok ex hok _
      exact ⟨ha, (by unfold inR; omega), bt ⟨by omega, by omega⟩ ⟨_, q_countTables ha en (by omega) hT, hok hh hs hr rfl (rel_thrown hR0 0)⟩⟩
  · refine ⟨0, iset hm 0 0 1, ?_, ?_⟩
    · intro V V' k k'
      exact w0 (q_isGroup0 ha (by omega) (by omega)) (k _ _ (f1 (by unfold inR; omega) (by decide) ⟨rfl, rfl⟩))
    · intro ok ex _ hex
      exact ⟨ha, (by unfold inR; omega), bf (by omega) (hex rfl (rel_thrown hR0 1))⟩
theorem si_waiting : SimI_waiting RelI := by
  intro hh hs hr hm hR
  have hR0 := hR
  obtain ⟨⟨h1, ⟨e4, b4, b4'⟩, ⟨e10, b10, b10'⟩, hT, hT2, hT3, hG, hG0, hG3⟩, hS, hO, hL, hF⟩ := hR
  obtain ⟨n, en⟩ := nat_of b10
  have i6 : ∀ t : Nat, t < n → inR (hh 6 t) := by
    intro t ht
    obtain ⟨p1, p2, p3, p4⟩ := hG t (by omega)
    exact (by unfold inR; omega)
  refine ⟨cnt (hh 6) 0 n 0, iset hm 0 0 0, ?_, ⟨_, q_countWaiting en (by omega) i6, rfl⟩, rel_thrown hR0 0⟩
  intro V k
  refine fa ?_
  have key : ∀ (j x : Nat) (s : Int), x + j = n → cnt (hh 6) 0 n 0 = s + cnt (hh 6) 0 j x → V (iset hm 0 0 0) s x := by
    intro j
    induction j with
    | zero =>
      intro x s hx hq
      exact k _ _ _ ⟨(by unfold inR; omega), (show inR (hm 0 10) by unfold inR; omega), bt (show hm 0 10 ≤ x by omega) ⟨hq.trans (Int.add_zero s), rfl⟩⟩
    | succ j ih =>
      intro x s hx hq
      obtain ⟨p1, p2, p3, p4⟩ := hG x (by omega)
      have hq : cnt (hh 6) 0 n 0 = s + ((if hh 6 x = 0 then 1 else 0) + cnt (hh 6) 0 j (x + 1)) := hq
      refine k _ _ _ ⟨(by unfold inR; omega), (show inR (hm 0 10) by unfold inR; omega), bf (show ¬ hm 0 10 ≤ x by omega) ⟨by omega, ?_⟩⟩
      show inR (hm 5 (x : Int).toNat) ∧ ((¬ hm 5 (x : Int).toNat = 0 → _) ∧ (hm 5 (x : Int).toNat = 0 → _))
      rw [Int.toNat_natCast, p3.1]
      refine ⟨(by unfold inR; omega), ?_, ?_⟩
      · intro c
        rw [if_neg c] at hq
        exact ih (x + 1) (s + 0) (by omega) (by omega)
      · intro c
        rw [if_pos c] at hq
        exact ih (x + 1) (s + 1) (by omega) (by omega)
  exact key n 0 0 (by omega) (by omega)
/-- finding: what it found -/
theorem fnd_or (f : Nat → Int) (a : Int) : ∀ j x : Nat, (fnd f a j x = -1 ∧ ∀ y : Nat, x ≤ y → y < x + j → f y ≠ a) ∨ ∃ y : Nat, fnd f a j x = y ∧ x ≤ y ∧ y < x + j ∧ f y = a := by
  intro j
  induction j with
  | zero => intro x; exact Or.inl ⟨rfl, fun y h h' => by omega⟩
  | succ j ih =>
    intro x
    show ((if f x = a then (x : Int) else fnd f a j (x + 1)) = -1 ∧ _) ∨ ∃ y : Nat, (if f x = a then (x : Int) else fnd f a j (x + 1)) = y ∧ _
    by_cases c : f x = a
    · rw [if_pos c]
      exact Or.inr ⟨x, rfl, by omega, by omega, c⟩
    · rw [if_neg c]
      rcases ih (x + 1) with ⟨p, q⟩ | ⟨y, p, q1, q2, q3⟩
      · refine Or.inl ⟨p, fun y h h' => ?_⟩
        by_cases d : y = x
        · subst d
          exact c
        · exact q y (by omega) (by omega)
      · exact Or.inr ⟨y, p, by omega, by omega, q3⟩
theorem held_eq {hh hs hr hm : ISt} (hR : RelI hh hs hr hm) {g : Nat} (hg : (g : Int) < hh 0 2) {n : Nat} (e : hs 0 1 = n) : fnd (hs 6) g n 0 = hm 7 g := by
  obtain ⟨hH, hS, ⟨hO1, hO2⟩, hL, hF⟩ := hR
  rcases fnd_or (hs 6) g n 0 with ⟨p, q⟩ | ⟨y, p, q1, q2, q3⟩
  · rcases hO1 g hg with ⟨u, v⟩ | ⟨u1, u2, u3, u4⟩
    · rw [p, u]
    · exact absurd u3 (q (hm 7 g).toNat (by omega) (by omega))
  · rcases hO1 g hg with ⟨u, v⟩ | ⟨u1, u2, u3, u4⟩
    · exact absurd q3 (v y (by omega))
    · rw [p]
      exact u4 y (by omega) q3
theorem q_held {hh hs hr hm : ISt} (hR : RelI hh hs hr hm) {g : Nat} (hg : (g : Int) < hh 0 2) : Q_X3_heldBy hs g (hm 7 g) := by
  have hR0 := hR
  obtain ⟨⟨h1, h4, ⟨e10, b10, b10'⟩, hH⟩, ⟨⟨e15, b15, b15'⟩, ⟨e19, b19, b19'⟩, hS1, hS2, hS3, hS4, hS5, hS6, hS7⟩, hO, hL, hF⟩ := hR
  obtain ⟨n, en⟩ := nat_of b19
  rw [← held_eq hR0 hg en]
  exact q_heldBy (by unfold inR; omega) en (by omega) (fun t ht => by
    obtain ⟨p1, p2, p3⟩ := hS3 t (by omega)
    exact (by unfold inR; omega))
theorem si_copyOf : SimI_copyOf RelI := by
  intro hh hs hr hm a1 ha hR
  have hR0 := hR
  obtain ⟨⟨h1, h4, ⟨e10, b10, b10'⟩, hH⟩, hS, hO, hL, hF⟩ := hR
  by_cases c1 : 0 ≤ a1 ∧ a1 < hh 0 2
  · obtain ⟨g, eg⟩ := nat_of c1.1
    subst eg
    refine ⟨hm 7 g, iset hm 0 0 0, ?_, ?_⟩
    · intro V k
      exact w1 (q_isGroup1 (by omega) (by omega) (by omega)) (k _ _ (g0 ⟨by omega, rfl, rfl⟩))
    · intro ok ex hok _
      exact ⟨ha, (by unfold inR; omega), bt ⟨by omega, by omega⟩ ⟨_, q_held hR0 (by omega), hok hh hs hr rfl (rel_thrown hR0 0)⟩⟩
  · refine ⟨0, iset hm 0 0 1, ?_, ?_⟩
    · intro V k
      exact w0 (q_isGroup0 ha (by omega) (by omega)) (k _ _ (g1 (by unfold inR; omega) (by decide) ⟨rfl, rfl⟩))
    · intro ok ex _ hex
      exact ⟨ha, (by unfold inR; omega), bf (by omega) (hex rfl (rel_thrown hR0 1))⟩
