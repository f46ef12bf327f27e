/-- the first rule below a parent whose test holds, from x on -/
def fhd (pa off : Nat → Int) (p : Int) : Nat → Nat → Int
  | 0, _ => -1
  | j + 1, x => if pa x = p ∧ off x ≠ 0 then (x : Int) else fhd pa off p j (x + 1)
theorem fhd_or (pa off : Nat → Int) (p : Int) : ∀ j x : Nat, (fhd pa off p j x = -1 ∧ ∀ y : Nat, x ≤ y → y < x + j → ¬ (pa y = p ∧ off y ≠ 0)) ∨ ∃ y : Nat, fhd pa off p j x = y ∧ x ≤ y ∧ y < x + j ∧ pa y = p ∧ off y ≠ 0 ∧ ∀ z : Nat, x ≤ z → z < y → ¬ (pa z = p ∧ off z ≠ 0) := by
  intro j
  induction j with
  | zero => intro x; exact Or.inl ⟨rfl, fun y h h' => by omega⟩
  | succ j ih =>
    intro x
    unfold fhd
    by_cases c : pa x = p ∧ off x ≠ 0
    · rw [if_pos c]
      exact Or.inr ⟨x, rfl, by omega, by omega, c.1, c.2, fun z h h' => by omega⟩
    · rw [if_neg c]
      rcases ih (x + 1) with ⟨a, b⟩ | ⟨y, a, b1, b2, b3, b4, b5⟩
      · refine Or.inl ⟨a, fun y h h' => ?_⟩
        by_cases d : y = x
        · subst d
          exact c
        · exact b y (by omega) (by omega)
      · refine Or.inr ⟨y, a, by omega, by omega, b3, b4, fun z h h' => ?_⟩
        by_cases d : z = x
        · subst d
          exact c
        · exact b5 z (by omega) h'
/-- a title's rules, and which tests hold -/
def RuOk (hr : ISt) (A N : Nat) (pa off : Nat → Int) : Prop := RulesOk hr A N ∧ (∀ k : Nat, k < N → pa k = hr 2 (12 * A + k) ∧ -1 ≤ pa k ∧ pa k < k)
def rch (pa off : Nat → Int) (N : Nat) : Nat → Int
  | 0 => -1
  | i + 1 => if fhd pa off (rch pa off N i) N 0 = -1 then rch pa off N i else fhd pa off (rch pa off N i) N 0
theorem q_firstHold {hr : ISt} {A N : Nat} {pa off : Nat → Int} (ho : RuOk hr A N pa off) {p : Int} (hp : inR p) : Q_X1_firstHolding hr A p (oset off N) (fhd pa off p N 0) := by
  have ⟨⟨e, bA, bN, _⟩, hP⟩ := ho
  obtain ⟨b1, b2, b3⟩ := oset_b off N (by omega)
  intro V k
  have key : ∀ (j x : Nat), x + j = N → fhd pa off p N 0 = fhd pa off p j x → V x := by
    intro j
    induction j with
    | zero =>
      intro x hx q
      refine k _ ⟨(by unfold inR; omega), ?_⟩
      rw [ina A bA, e]
      exact ⟨(by unfold inR; omega), (by unfold inR; omega), bt (by omega) q⟩
    | succ j ih =>
      intro x hx q
      have q : fhd pa off p N 0 = if pa x = p ∧ off x ≠ 0 then (x : Int) else fhd pa off p j (x + 1) := q
      obtain ⟨h1, h2, h3⟩ := hP x (by omega)
      have cq := q_has b1 b2 (show x < 32 by omega)
      rw [b3 x] at cq
      have po := q_parentOf ho.1 (k := x) (by omega)
      rw [← h1] at po
      refine k _ ⟨(by unfold inR; omega), ?_⟩
      rw [ina A bA, e]
      refine ⟨(by unfold inR; omega), (by unfold inR; omega), bf (by omega) ⟨_, po, (by unfold inR; omega), hp, ?_, ?_⟩⟩
      · intro c
        rw [if_neg (fun u => c u.1)] at q
        exact ih (x + 1) (by omega) q
      · intro c
        refine ⟨_, cq, ?_⟩
        by_cases d : off x = 0
        · rw [if_neg (fun u => u.2 d)] at q
          rw [if_neg (fun u => u.2 d)]
          exact ⟨R0, bt rfl (ih (x + 1) (by omega) q)⟩
        · rw [if_pos ⟨c, d⟩] at q
          rw [if_pos ⟨by omega, d⟩]
          exact ⟨R1, bf n10 q⟩
  exact key N 0 (by omega) rfl
theorem rch_stay {pa off : Nat → Int} {N i : Nat} (h : fhd pa off (rch pa off N i) N 0 = -1) : ∀ j : Nat, rch pa off N (i + j) = rch pa off N i := by
  intro j
  induction j with
  | zero => rfl
  | succ j ih =>
    show (if fhd pa off (rch pa off N (i + j)) N 0 = -1 then rch pa off N (i + j) else fhd pa off (rch pa off N (i + j)) N 0) = rch pa off N i
    rw [ih, if_pos h]
theorem rch_next {pa off : Nat → Int} {N i : Nat} (h : fhd pa off (rch pa off N i) N 0 ≠ -1) : rch pa off N (i + 1) = fhd pa off (rch pa off N i) N 0 := by
  show (if fhd pa off (rch pa off N i) N 0 = -1 then rch pa off N i else fhd pa off (rch pa off N i) N 0) = _
  rw [if_neg h]
theorem rch_b {hr : ISt} {A N : Nat} {pa off : Nat → Int} (ho : RuOk hr A N pa off) : ∀ i : Nat, -1 ≤ rch pa off N i ∧ rch pa off N i < N ∧ ((i : Int) - 1 ≤ rch pa off N i ∨ fhd pa off (rch pa off N i) N 0 = -1) := by
  intro i
  induction i with
  | zero => exact ⟨Int.le_refl _, (show (-1 : Int) < N by omega), Or.inl (show ((0 : Nat) : Int) - 1 ≤ -1 by omega)⟩
  | succ i ih =>
    by_cases c : fhd pa off (rch pa off N i) N 0 = -1
    · have e := rch_stay c 1
      rw [e]
      exact ⟨ih.1, ih.2.1, Or.inr c⟩
    · rw [rch_next c]
      have z := ih.2.2.resolve_right c
      rcases fhd_or pa off (rch pa off N i) N 0 with ⟨a, _⟩ | ⟨y, a, b1, b2, b3, b4, b5⟩
      · exact absurd a c
      · have h := ho.2 y (by omega)
        rw [a]
        exact ⟨by omega, by omega, Or.inl (by omega)⟩
theorem rch_12 {hr : ISt} {A N : Nat} {pa off : Nat → Int} (ho : RuOk hr A N pa off) : fhd pa off (rch pa off N 12) N 0 = -1 := by
  have b := rch_b ho 12
  rcases b.2.2 with c | c
  · rcases fhd_or pa off (rch pa off N 12) N 0 with ⟨a, _⟩ | ⟨y, a, b1, b2, b3, b4, b5⟩
    · exact a
    · have h := ho.2 y (by omega)
      have := ho.1.2.2.1
      omega
  · exact c
theorem rch_end {hr : ISt} {A N : Nat} {pa off : Nat → Int} (ho : RuOk hr A N pa off) {i : Nat} (h : fhd pa off (rch pa off N i) N 0 = -1) : rch pa off N i = rch pa off N 12 := by
  by_cases c : i ≤ 12
  · have e := rch_stay h (12 - i)
    rw [show i + (12 - i) = 12 by omega] at e
    exact e.symm
  · have e := rch_stay (rch_12 ho) (i - 12)
    rw [show 12 + (i - 12) = i by omega] at e
    exact e
/-- the ruling of a rule, none for none -/
def rul (ru : Nat → Int) (D : Int) : Int := if D = -1 then -1 else ru D.toNat
theorem q_down {hr : ISt} {A N : Nat} {pa off : Nat → Int} (ho : RuOk hr A N pa off) : Q_X1_rulingGoingDown hr A (oset off N) (rul (fun k => hr 5 (12 * A + k)) (rch pa off N 12)) := by
  have bA := ho.1.2.1
  have bN := ho.1.2.2.1
  intro V5 V39 k5 k39
  have b12 := rch_b ho 12
  have z39 : V39 (rch pa off N 12) := by
    refine k39 _ ⟨(by unfold inR; omega), ?_, ?_⟩
    · intro c
      unfold rul
      rw [if_neg c, ia (by omega) (by omega)]
      exact ⟨(by unfold inR; omega), congrArg (hr 5) (by omega)⟩
    · intro c
      unfold rul
      rw [if_pos c]
  have key : ∀ (j i : Nat), i + j = 12 → V5 (rch pa off N i) i := by
    intro j
    induction j with
    | zero =>
      intro i hi
      have hi : i = 12 := hi
      subst hi
      exact k5 _ _ ⟨(by unfold inR; omega), bt (by omega) z39⟩
    | succ j ih =>
      intro i hi
      have b := rch_b ho i
      have z := ih (i + 1) (by omega)
      refine k5 _ _ ⟨(by unfold inR; omega), bf (by omega) ⟨_, q_firstHold ho (by unfold inR; omega), ?_, ?_, ?_⟩⟩
      · rcases fhd_or pa off (rch pa off N i) N 0 with ⟨a, _⟩ | ⟨y, a, b1, b2, b3, b4, b5⟩
        · rw [a]
          exact (by unfold inR; omega)
        · rw [a]
          exact (by unfold inR; omega)
      · intro c
        rw [rch_next c] at z
        exact z
      · intro c
        rw [rch_end ho c]
        exact z39
  exact key 12 0 rfl
theorem q_among {hr : ISt} {A N : Nat} {pa off : Nat → Int} (ho : RuOk hr A N pa off) {p : Int} (hp : inR p) {b : Nat} (hb : b ≤ N) : ∃ r : Int, Q_X1_holdsAmong hr A p b (oset off N) r ∧ ((r = 1 ∧ ∃ k : Nat, k < b ∧ pa k = p ∧ off k ≠ 0) ∨ (r = 0 ∧ ∀ k : Nat, k < b → ¬ (pa k = p ∧ off k ≠ 0))) := by
  have ⟨⟨e, bA, bN, _⟩, hP⟩ := ho
  obtain ⟨b1, b2, b3⟩ := oset_b off N (by omega)
  have step : ∀ (r : Int) (V : Int → Prop), (∀ x5 : Int, (inR x5 ∧ inR (b : Int) ∧ (((b : Int) ≤ x5 → (r = (0 : Int))) ∧ (¬ (b : Int) ≤ x5 → (∃ r1 : Int, Q_X1_parentOf hr A x5 r1 ∧ (inR r1 ∧ inR p ∧ ((¬ r1 = p → (V (x5 + (1 : Int)))) ∧ (r1 = p → (∃ r2 : Int, Q_X4_contains (oset off N) x5 r2 ∧ (inR r2 ∧ ((r2 = (0 : Int) → (V (x5 + (1 : Int)))) ∧ (¬ r2 = (0 : Int) → (r = (1 : Int))))))))))))) → V x5) → ∀ x : Nat, x < b → (¬ (pa x = p ∧ off x ≠ 0) → V ((x : Int) + 1)) → ((pa x = p ∧ off x ≠ 0) → r = 1) → V x := by
    intro r V k x hx h1 h2
    obtain ⟨p1, p2, p3⟩ := hP x (by omega)
    have cq := q_has b1 b2 (show x < 32 by omega)
    rw [b3 x] at cq
    have po := q_parentOf ho.1 (k := x) (by omega)
    rw [← p1] at po
    refine k _ ⟨(by unfold inR; omega), (by unfold inR; omega), bf (by omega) ⟨_, po, (by unfold inR; omega), hp, fun c => h1 (fun u => c u.1), fun c => ⟨_, cq, ?_⟩⟩⟩
    by_cases d : off x = 0
    · rw [if_neg (fun u => u.2 d)]
      exact ⟨R0, bt rfl (h1 (fun u => u.2 d))⟩
    · rw [if_pos ⟨by omega, d⟩]
      exact ⟨R1, bf n10 (h2 ⟨c, d⟩)⟩
  by_cases c : ∃ k : Nat, k < b ∧ pa k = p ∧ off k ≠ 0
  · refine ⟨1, ?_, Or.inl ⟨rfl, c⟩⟩
    obtain ⟨k0, c1, c2⟩ := c
    intro V k
    have key : ∀ (j x : Nat), x + j = k0 → V x := by
      intro j
      induction j with
      | zero =>
        intro x hx
        have hx : x = k0 := hx
        subst hx
        exact step 1 V k x c1 (fun u => absurd c2 u) (fun _ => rfl)
      | succ j ih =>
        intro x hx
        exact step 1 V k x (by omega) (fun _ => ih (x + 1) (by omega)) (fun _ => rfl)
    exact key k0 0 (by omega)
  · refine ⟨0, ?_, Or.inr ⟨rfl, fun k hk u => c ⟨k, hk, u⟩⟩⟩
    intro V k
    have key : ∀ (j x : Nat), x + j = b → V x := by
      intro j
      induction j with
      | zero =>
        intro x hx
        exact k _ ⟨(by unfold inR; omega), (by unfold inR; omega), bt (by omega) rfl⟩
      | succ j ih =>
        intro x hx
        exact step 0 V k x (by omega) (fun _ => ih (x + 1) (by omega)) (fun u => absurd ⟨x, by omega, u⟩ c)
    exact key b 0 (by omega)
theorem rch_from {pa off : Nat → Int} {N a : Nat} : ∀ i : Nat, rch pa off N i = a → ∃ i' : Nat, fhd pa off (rch pa off N i') N 0 = a := by
  intro i
  induction i with
  | zero =>
    intro h
    have h : (-1 : Int) = a := h
    omega
  | succ i ih =>
    intro h
    by_cases c : fhd pa off (rch pa off N i) N 0 = -1
    · have e := rch_stay c 1
      rw [e] at h
      exact ih h
    · rw [rch_next c] at h
      exact ⟨i, h⟩
/-- up the chain: yes, if and only if the way down leads there -/
theorem up_ex {hr : ISt} {A N : Nat} {pa off : Nat → Int} (ho : RuOk hr A N pa off) (a0 : Int) : ∀ (j l : Nat) (a : Int), l + j = 12 → -1 ≤ a → a < N → a < j → ∃ r : Int, L_X1_decides_26 hr A a0 (oset off N) r a l ∧ (r = 0 ∨ r = 1) ∧ (r = 1 ↔ ∃ i : Nat, rch pa off N i = a) := by
  have ⟨⟨e, bA, bN, _⟩, hP⟩ := ho
  obtain ⟨b1, b2, b3⟩ := oset_b off N (by omega)
  intro j
  induction j with
  | zero =>
    intro l a hl h0 h1 h2
    refine ⟨1, ?_, Or.inr rfl, ⟨fun _ => ⟨0, (show (-1 : Int) = a by omega)⟩, fun _ => rfl⟩⟩
    intro V k
    exact k _ _ ⟨(by unfold inR; omega), bt (by omega) rfl⟩
  | succ j ih =>
    intro l a hl h0 h1 h2
    by_cases c : a = -1
    · refine ⟨1, ?_, Or.inr rfl, ⟨fun _ => ⟨0, c.symm⟩, fun _ => rfl⟩⟩
      intro V k
      exact k _ _ ⟨(by unfold inR; omega), bf (by omega) ⟨(by unfold inR; omega), bt c rfl⟩⟩
    · obtain ⟨x, ex⟩ := nat_of (show 0 ≤ a by omega)
      subst ex
      obtain ⟨p1, p2, p3⟩ := hP x (by omega)
      have cq := q_has b1 b2 (show x < 32 by omega)
      rw [b3 x] at cq
      have po := q_parentOf ho.1 (k := x) (by omega)
      rw [← p1] at po
      obtain ⟨rA, qA, hA⟩ := q_among ho (p := pa x) (by unfold inR; omega) (show x ≤ N by omega)
      obtain ⟨r, q1, q2, q3⟩ := ih (l + 1) (pa x) (by omega) p2 (by omega) (by omega)
      by_cases d : off x = 0
      · refine ⟨0, ?_, Or.inl rfl, ⟨fun h => by omega, fun ⟨i, hi⟩ => ?_⟩⟩
        · rw [if_neg (fun u => u.2 d)] at cq
          intro V k
          exact k _ _ ⟨(by unfold inR; omega), bf (by omega) ⟨(by unfold inR; omega), bf c ⟨_, po, _, cq, R0, bt rfl rfl⟩⟩⟩
        · obtain ⟨i', hi'⟩ := rch_from i hi
          rcases fhd_or pa off (rch pa off N i') N 0 with ⟨u, _⟩ | ⟨y, u, u1, u2, u3, u4, u5⟩
          · omega
          · have : y = x := by omega
            subst this
            exact absurd d u4
      · rw [if_pos ⟨by omega, d⟩] at cq
        rcases hA with ⟨e1, k0, e2, e3, e4⟩ | ⟨e1, e2⟩
        · subst e1
          refine ⟨0, ?_, Or.inl rfl, ⟨fun h => by omega, fun ⟨i, hi⟩ => ?_⟩⟩
          · intro V k
            exact k _ _ ⟨(by unfold inR; omega), bf (by omega) ⟨(by unfold inR; omega), bf c ⟨_, po, _, cq, R1, bf n10 ⟨1, qA, R1, bf n10 rfl⟩⟩⟩⟩
          · obtain ⟨i', hi'⟩ := rch_from i hi
            rcases fhd_or pa off (rch pa off N i') N 0 with ⟨u, _⟩ | ⟨y, u, u1, u2, u3, u4, u5⟩
            · omega
            · have : y = x := by omega
              subst this
              exact absurd ⟨by omega, e4⟩ (u5 k0 (by omega) e2)
        · subst e1
          refine ⟨r, ?_, q2, ⟨fun h => ?_, fun ⟨i, hi⟩ => q3.mpr ?_⟩⟩
          · intro V k
            have z := q1 V k
            exact k _ _ ⟨(by unfold inR; omega), bf (by omega) ⟨(by unfold inR; omega), bf c ⟨_, po, _, cq, R1, bf n10 ⟨0, qA, R0, bt rfl z⟩⟩⟩⟩
          · obtain ⟨i, hi⟩ := q3.mp h
            refine ⟨i + 1, ?_⟩
            have f : fhd pa off (rch pa off N i) N 0 = x := by
              rcases fhd_or pa off (rch pa off N i) N 0 with ⟨u, v⟩ | ⟨y, u, u1, u2, u3, u4, u5⟩
              · exact absurd ⟨hi.symm, d⟩ (v x (by omega) (by omega))
              · by_cases w : y < x
                · exact absurd ⟨by omega, u4⟩ (e2 y w)
                · by_cases w2 : x < y
                  · exact absurd ⟨hi.symm, d⟩ (u5 x (by omega) w2)
                  · omega
            rw [rch_next (by omega), f]
          · obtain ⟨i', hi'⟩ := rch_from i hi
            rcases fhd_or pa off (rch pa off N i') N 0 with ⟨u, _⟩ | ⟨y, u, u1, u2, u3, u4, u5⟩
            · omega
            · have : y = x := by omega
              subst this
              exact ⟨i', u3.symm⟩
theorem q_decides {hr : ISt} {A N : Nat} {pa off : Nat → Int} (ho : RuOk hr A N pa off) {x : Nat} (hx : x < N) : ∃ r : Int, Q_X1_decides hr A x (oset off N) r ∧ (r = 0 ∨ r = 1) ∧ (r = 1 ↔ rch pa off N 12 = x) := by
  have ⟨⟨e, bA, bN, _⟩, hP⟩ := ho
  obtain ⟨rA, qA, hA⟩ := q_among ho (p := x) (by unfold inR; omega) (Nat.le_refl N)
  rcases hA with ⟨e1, k0, e2, e3, e4⟩ | ⟨e1, e2⟩
  · subst e1
    refine ⟨0, ?_, Or.inl rfl, ⟨fun h => by omega, fun h => ?_⟩⟩
    · intro V k
      rw [ina A bA, e]
      exact ⟨(by unfold inR; omega), 1, qA, R1, bf n10 rfl⟩
    · have t := rch_12 ho
      rw [h] at t
      rcases fhd_or pa off (x : Int) N 0 with ⟨u, v⟩ | ⟨y, u, _⟩
      · exact absurd ⟨e3, e4⟩ (v k0 (by omega) (by omega))
      · omega
  · subst e1
    obtain ⟨r, q1, q2, q3⟩ := up_ex ho x 12 0 x rfl (by omega) (by omega) (by omega)
    refine ⟨r, ?_, q2, ⟨fun h => ?_, fun h => q3.mpr ⟨12, h⟩⟩⟩
    · intro V k
      rw [ina A bA, e]
      exact ⟨(by unfold inR; omega), 0, qA, R0, bt rfl (q1 V k)⟩
    · obtain ⟨i, hi⟩ := q3.mp h
      rw [← rch_end ho (i := i) ?_]
      · exact hi
      · rw [hi]
        rcases fhd_or pa off (x : Int) N 0 with ⟨u, v⟩ | ⟨y, u, u1, u2, u3, u4, u5⟩
        · exact u
        · exact absurd ⟨u3, u4⟩ (e2 y (by omega))
theorem q_up {hr : ISt} {A N : Nat} {pa off : Nat → Int} (ho : RuOk hr A N pa off) : Q_X1_rulingGoingUp hr A (oset off N) (rul (fun k => hr 5 (12 * A + k)) (rch pa off N 12)) := by
  have ⟨⟨e, bA, bN, _⟩, hP⟩ := ho
  have b12 := rch_b ho 12
  intro V k
  have key : ∀ (j x : Nat), x + j = N → (∀ y : Nat, y < x → rch pa off N 12 ≠ y) → V x := by
    intro j
    induction j with
    | zero =>
      intro x hx hn
      refine k _ ⟨(by unfold inR; omega), ?_⟩
      rw [ina A bA, e]
      refine ⟨(by unfold inR; omega), (by unfold inR; omega), bt (by omega) ?_⟩
      have d : rch pa off N 12 = -1 := by
        by_cases c : rch pa off N 12 = -1
        · exact c
        · exact absurd (show rch pa off N 12 = ((rch pa off N 12).toNat : Int) by omega) (hn _ (by omega))
      unfold rul
      rw [if_pos d]
    | succ j ih =>
      intro x hx hn
      obtain ⟨r, q1, q2, q3⟩ := q_decides ho (show x < N by omega)
      refine k _ ⟨(by unfold inR; omega), ?_⟩
      rw [ina A bA, e]
      refine ⟨(by unfold inR; omega), (by unfold inR; omega), bf (by omega) ⟨r, q1, by unfold inR; omega, ?_, ?_⟩⟩
      · intro c
        refine ih (x + 1) (by omega) (fun y hy => ?_)
        by_cases d : y = x
        · subst d
          intro h
          have := q3.mpr h
          omega
        · exact hn y (by omega)
      · intro c
        have d := q3.mp (by omega)
        unfold rul
        rw [if_neg (by omega), d, Int.toNat_natCast, ia (by omega) (by omega)]
        exact ⟨(by unfold inR; omega), congrArg (hr 5) (by omega)⟩
  exact key N 0 (by omega) (fun y hy => by omega)
