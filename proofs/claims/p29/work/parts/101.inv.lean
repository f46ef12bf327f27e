/-! WHAT HOLDS OF THE HALL, THE SHELF, THE RULE BOOKS, AND OF THE LAW'S ROWS -/
def HallI (h : ISt) (T G : Nat) : Prop :=
  (0 ≤ h 0 0 ∧ h 0 0 ≤ 20000) ∧ (h 0 1 = T ∧ T ≤ 10) ∧ (h 0 2 = G ∧ G ≤ 30) ∧
  (∀ t : Nat, t < 10 → -1 ≤ h 2 t ∧ h 2 t < 30) ∧ (∀ t : Nat, t < T → 2 ≤ h 1 t ∧ h 1 t ≤ 6) ∧
  (∀ t : Nat, T ≤ t → t < 10 → h 2 t = -1) ∧
  (∀ g : Nat, g < G → (1 ≤ h 3 g ∧ h 3 g ≤ 12) ∧ (10 ≤ h 4 g ∧ h 4 g ≤ 600) ∧ (0 ≤ h 6 g ∧ h 6 g ≤ 2)) ∧
  (∀ g : Nat, g < 30 → 0 ≤ h 5 g ∧ h 5 g ≤ 20600) ∧
  (∀ g : Nat, G ≤ g → g < 30 → h 6 g = 0) ∧
  (∀ g : Nat, g < 30 → h 6 g ≠ 1 → ∀ t : Nat, t < 10 → h 2 t ≠ g) ∧
  (∀ g : Nat, g < G → h 6 g = 1 → ∃ f m : Nat, 1 ≤ m ∧ f + m ≤ T ∧ (∀ t : Nat, t < T → (h 2 t = g ↔ f ≤ t ∧ t < f + m)) ∧ h 3 g ≤ ssum (h 1) f m - m + 1)
def ShelfI (s : ISt) (A n : Nat) : Prop :=
  (s 0 0 = A ∧ A ≤ 8) ∧ (s 0 1 = n ∧ n ≤ 16) ∧
  (∀ t : Nat, t < A → (1 ≤ s 1 t ∧ s 1 t ≤ 12) ∧ (1 ≤ s 2 t ∧ s 2 t ≤ 12) ∧ (5 ≤ s 3 t ∧ s 3 t ≤ 300)) ∧
  (∀ i : Nat, i < 4 * A → 0 ≤ s 4 i ∧ s 4 i ≤ 9) ∧
  (∀ c : Nat, c < n → (0 ≤ s 5 c ∧ s 5 c < A) ∧ (-1 ≤ s 6 c ∧ s 6 c < 30) ∧ (-1 ≤ s 7 c ∧ s 7 c < n)) ∧
  (∀ c k : Nat, c < n → k < 4 → 0 ≤ s 9 (4 * c + k) ∧ 0 ≤ s 8 (4 * c + k) ∧ s 9 (4 * c + k) + s 8 (4 * c + k) ≤ s 4 (4 * (s 5 c).toNat + k)) ∧
  (∀ c : Nat, n ≤ c → c < 16 → s 5 c = -1 ∧ s 6 c = -1 ∧ s 7 c = -1) ∧
  (∀ i : Nat, 4 * n ≤ i → i < 64 → s 8 i = 0) ∧
  (∀ c d : Nat, c < n → d < n → s 6 c = s 6 d → s 6 c ≠ -1 → c = d) ∧
  (∀ c : Nat, c < n → s 6 c ≠ -1 → s 7 c = -1 ∧ ∀ k : Nat, k < 4 → s 9 (4 * c + k) = s 4 (4 * (s 5 c).toNat + k)) ∧
  (∀ d : Nat, d < n → s 7 d ≠ -1 → s 6 (s 7 d).toNat ≠ -1) ∧
  (∀ d k : Nat, d < n → k < 4 → s 7 d = -1 → s 8 (4 * d + k) = 0)
/-- who has a copy sits -/
def SitsI (h s : ISt) (n : Nat) : Prop := ∀ c : Nat, c < n → s 6 c ≠ -1 → h 6 (s 6 c).toNat = 1
def BooksI (r : ISt) (A : Nat) : Prop :=
  (∀ t : Nat, t < 8 → 0 ≤ r 1 t ∧ r 1 t ≤ 12) ∧ (∀ t : Nat, A ≤ t → t < 8 → r 1 t = 0) ∧
  (∀ t k : Nat, t < 8 → (k : Int) < r 1 t → (-1 ≤ r 2 (12 * t + k) ∧ r 2 (12 * t + k) < k) ∧ (0 ≤ r 3 (12 * t + k) ∧ r 3 (12 * t + k) ≤ 3) ∧ (1 ≤ r 4 (12 * t + k) ∧ r 4 (12 * t + k) ≤ 300) ∧ (0 ≤ r 5 (12 * t + k) ∧ r 5 (12 * t + k) ≤ 99))
/-- the law's own rows -/
def RowsH (h a : ISt) (T G : Nat) : Prop := (∀ t : Nat, t < T → a 0 t = h 1 t) ∧ (∀ g : Nat, g < G → a 1 g = h 3 g) ∧ (∀ g : Nat, g < 30 → a 2 g = if h 6 g = 2 then 1 else 0)
def RowsS (s a : ISt) (A n : Nat) : Prop := (∀ c : Nat, c < n → a 3 c = s 5 c) ∧ (∀ i : Nat, i < 4 * A → a 4 i = s 4 i) ∧ (∀ t : Nat, t < A → a 5 (3 * t) = s 1 t ∧ a 5 (3 * t + 1) = s 2 t ∧ a 5 (3 * t + 2) = s 3 t)
def RowsR (r a : ISt) : Prop := ∀ t : Nat, t < 8 → a 6 t = r 1 t
theorem hall_ok {h : ISt} {T G : Nat} (hi : HallI h T G) : HallOk h T := ⟨hi.2.1.1, hi.2.1.2, hi.2.2.2.1, hi.2.2.2.2.1⟩
theorem copy_ok {s : ISt} {A n : Nat} (hi : ShelfI s A n) : CopyOk s n := by
  obtain ⟨a1, a2, a3, a4, a5, a6, a7, a8, a9, a10, a11, a12⟩ := hi
  refine ⟨a2.1, a2.2, fun c hc => ?_⟩
  have := a5 c hc
  omega
theorem rules_ok {r : ISt} {A t : Nat} (hi : BooksI r A) (ht : t < 8) : ∃ N : Nat, r 1 t = N ∧ RulesOk r t N := by
  obtain ⟨b1, b2, b3⟩ := hi
  obtain ⟨N, e⟩ := nat_of (b1 t ht).1
  have := b1 t ht
  exact ⟨N, e, e, ht, by omega, fun k hk => (b3 t k ht (by omega)).1⟩
theorem q_place {s : ISt} {n : Nat} (ho : CopyOk s n) {c : Nat} (hc : c < n) : Q_X3_place s c (whr s c) := by
  obtain ⟨e, b, hr⟩ := ho
  have k := hr c hc
  unfold Q_X3_place
  rw [ina c (by omega), ina c (by omega)]
  refine ⟨(by unfold inR; omega), (by unfold inR; omega), ?_, ?_⟩
  · intro c1
    refine ⟨(by unfold inR; omega), (by unfold inR; omega), ?_, ?_⟩
    · intro c2
      unfold whr
      rw [if_pos c1, if_pos c2]
    · intro c2
      unfold whr
      rw [if_pos c1, if_neg c2]
  · intro c1
    unfold whr
    rw [if_neg c1]
theorem q_rulesOf {r : ISt} {t : Nat} (ht : t < 8) : Q_X1_rulesOf r t (r 1 t) := by
  refine ⟨(by unfold inR; omega), ?_⟩
  rw [ina t ht]
noncomputable def b01 (p : Prop) : Int := @ite Int p (Classical.propDecidable p) 1 0
theorem b01_t {p : Prop} (h : p) : b01 p = 1 := if_pos h
theorem b01_f {p : Prop} (h : ¬ p) : b01 p = 0 := if_neg h
theorem b01_or (p : Prop) : (p ∧ b01 p = 1) ∨ (¬ p ∧ b01 p = 0) := by
  by_cases h : p
  · exact Or.inl ⟨h, b01_t h⟩
  · exact Or.inr ⟨h, b01_f h⟩
theorem q_isSeated {h : ISt} {T G g : Nat} (hi : HallI h T G) (hg : g < G) : Q_X0_isSeated h g (b01 (h 6 g = 1)) := by
  obtain ⟨a1, a2, a3, a4, a5, a6, a7, a8⟩ := hi
  have := a7 g hg
  unfold Q_X0_isSeated
  rw [ina g (by omega)]
  exact ⟨(by unfold inR; omega), (by unfold inR; omega), fun c => b01_f c, fun c => b01_t c⟩
theorem q_isGone {h : ISt} {T G g : Nat} (hi : HallI h T G) (hg : g < G) : Q_X0_isGone h g (b01 (h 6 g = 2)) := by
  obtain ⟨a1, a2, a3, a4, a5, a6, a7, a8⟩ := hi
  have := a7 g hg
  unfold Q_X0_isGone
  rw [ina g (by omega)]
  exact ⟨(by unfold inR; omega), (by unfold inR; omega), fun c => b01_f c, fun c => b01_t c⟩
def leftI (h : ISt) (g : Nat) : Int := imax (h 5 g - h 0 0) 0
theorem left_b {h : ISt} {T G g : Nat} (hi : HallI h T G) (hg : g < 30) : 0 ≤ leftI h g ∧ leftI h g ≤ 20600 := by
  obtain ⟨a1, a2, a3, a4, a5, a6, a7, a8, a9⟩ := hi
  have := a8 g hg
  unfold leftI imax
  split <;> omega
theorem q_minutesLeft {h : ISt} {T G g : Nat} (hi : HallI h T G) (hg : g < 30) : Q_X0_minutesLeft h g (leftI h g) := by
  obtain ⟨a1, a2, a3, a4, a5, a6, a7, a8, a9⟩ := hi
  have := a8 g hg
  unfold Q_X0_minutesLeft leftI
  rw [ina g (by omega)]
  exact ⟨(by unfold inR; omega), (by unfold inR; omega), rfl⟩
theorem q_suits {s : ISt} {A n t : Nat} (hi : ShelfI s A n) (ht : t < A) {P L : Int} (hP : inR P) (hL : inR L) : Q_X3_suits s t P L (b01 (s 1 t ≤ P ∧ P ≤ s 2 t ∧ s 3 t ≤ L)) := by
  obtain ⟨a1, a2, a3, a4⟩ := hi
  have := a3 t ht
  unfold Q_X3_suits
  rw [ina t (by omega), ina t (by omega), ina t (by omega)]
  refine ⟨(by unfold inR; omega), hP, (by unfold inR; omega), fun c => b01_f (by omega), fun c => ⟨(by unfold inR; omega), hP, (by unfold inR; omega), fun c => b01_f (by omega), fun c => ⟨(by unfold inR; omega), hL, (by unfold inR; omega), fun c => b01_f (by omega), fun c => b01_t (by omega)⟩⟩⟩
theorem hs6 {s : ISt} {A n : Nat} (hi : ShelfI s A n) : ∀ t : Nat, t < n → inR (s 6 t) := by
  obtain ⟨a1, a2, a3, a4, a5, a6⟩ := hi
  intro t ht
  have := a5 t ht
  exact (by unfold inR; omega)
/-- the copy that a group has -/
def held (s : ISt) (n : Nat) (g : Nat) : Int := fnd (s 6) g n 0
theorem held_or {s : ISt} {A n : Nat} (hi : ShelfI s A n) (g : Nat) : (held s n g = -1 ∧ ∀ c : Nat, c < n → s 6 c ≠ g) ∨ ∃ c : Nat, held s n g = c ∧ c < n ∧ s 6 c = g ∧ ∀ d : Nat, d < n → s 6 d = g → d = c := by
  obtain ⟨a1, a2, a3, a4, a5, a6, a7, a8, a9, a10⟩ := hi
  rcases fnd_or (s 6) g n 0 with ⟨h1, h2⟩ | ⟨c, h1, h2, h3, h4⟩
  · exact Or.inl ⟨h1, fun c hc => h2 c (by omega) (by omega)⟩
  · exact Or.inr ⟨c, h1, by omega, h4, fun d hd hd' => a9 d c hd (by omega) (by omega) (by omega)⟩
theorem q_held {s : ISt} {A n : Nat} (hi : ShelfI s A n) {g : Nat} (hg : g < 30) : Q_X3_heldBy s g (held s n g) := q_heldBy (by unfold inR; omega) hi.2.1.1 hi.2.1.2 (hs6 hi)
theorem held_eq {s : ISt} {A n : Nat} (hi : ShelfI s A n) {g c : Nat} (hc : c < n) (h : s 6 c = g) : held s n g = c := by
  rcases held_or hi g with ⟨_, h2⟩ | ⟨d, h1, h2, h3, h4⟩
  · exact absurd h (h2 c hc)
  · rw [h1, h4 c hc h]
