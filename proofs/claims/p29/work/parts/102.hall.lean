/-! THE HALL: rows of tables, what is wasted, who is seated -/
theorem cnt_none {f : Nat → Int} {a : Int} : ∀ j x : Nat, (∀ y : Nat, x ≤ y → y < x + j → f y ≠ a) → cnt f a j x = 0 := by
  intro j
  induction j with
  | zero => intro x _; rfl
  | succ j ih =>
    intro x h
    show (if f x = a then 1 else 0) + cnt f a j (x + 1) = 0
    rw [if_neg (h x (by omega) (by omega)), ih (x + 1) (fun y h1 h2 => h y (by omega) (by omega))]
    rfl
theorem cnt_all {f : Nat → Int} {a : Int} : ∀ j x : Nat, (∀ y : Nat, x ≤ y → y < x + j → f y = a) → cnt f a j x = j := by
  intro j
  induction j with
  | zero => intro x _; rfl
  | succ j ih =>
    intro x h
    show (if f x = a then 1 else 0) + cnt f a j (x + 1) = _
    rw [if_pos (h x (by omega) (by omega)), ih (x + 1) (fun y h1 h2 => h y (by omega) (by omega))]
    omega
theorem cnt_app (f : Nat → Int) (a : Int) (j : Nat) : ∀ i x : Nat, cnt f a (i + j) x = cnt f a i x + cnt f a j (x + i) := by
  intro i
  induction i with
  | zero =>
    intro x
    rw [Nat.zero_add]
    show _ = 0 + cnt f a j x
    omega
  | succ i ih =>
    intro x
    have e : i + 1 + j = (i + j) + 1 := by omega
    rw [e]
    show (if f x = a then 1 else 0) + cnt f a (i + j) (x + 1) = ((if f x = a then 1 else 0) + cnt f a i (x + 1)) + cnt f a j (x + (i + 1))
    rw [ih (x + 1), show x + 1 + i = x + (i + 1) by omega]
    omega
theorem fnd_first {f : Nat → Int} {a : Int} (j : Nat) : ∀ i x : Nat, (∀ y : Nat, x ≤ y → y < x + i → f y ≠ a) → f (x + i) = a → fnd f a (i + 1 + j) x = ((x + i : Nat) : Int) := by
  intro i
  induction i with
  | zero =>
    intro x _ h
    rw [show 0 + 1 + j = j + 1 by omega]
    show (if f x = a then (x : Int) else fnd f a j (x + 1)) = _
    have h : f x = a := h
    rw [if_pos h]
    rfl
  | succ i ih =>
    intro x h1 h2
    rw [show i + 1 + 1 + j = (i + 1 + j) + 1 by omega]
    show (if f x = a then (x : Int) else fnd f a (i + 1 + j) (x + 1)) = _
    rw [if_neg (h1 x (by omega) (by omega)), ih (x + 1) (fun y a b => h1 y (by omega) (by omega)) (by rw [show x + 1 + i = x + (i + 1) by omega]; exact h2), show x + 1 + i = x + (i + 1) by omega]
theorem cnt_in {f : Nat → Int} {a v : Int} {g : Nat} : ∀ j x : Nat, x ≤ g → g < x + j → cnt (iupd f g v) a j x = cnt f a j x - (if f g = a then 1 else 0) + (if v = a then 1 else 0) := by
  intro j
  induction j with
  | zero => intro x h1 h2; omega
  | succ j ih =>
    intro x h1 h2
    show (if iupd f g v x = a then 1 else 0) + cnt (iupd f g v) a j (x + 1) = ((if f x = a then 1 else 0) + cnt f a j (x + 1)) - _ + _
    by_cases c : x = g
    · subst c
      have e : cnt (iupd f x v) a j (x + 1) = cnt f a j (x + 1) := by
        have : ∀ j y : Nat, x < y → cnt (iupd f x v) a j y = cnt f a j y := by
          intro j
          induction j with
          | zero => intro y _; rfl
          | succ j ih =>
            intro y hy
            show (if iupd f x v y = a then 1 else 0) + cnt (iupd f x v) a j (y + 1) = (if f y = a then 1 else 0) + cnt f a j (y + 1)
            rw [ih (y + 1) (by omega), u_ne (by omega)]
        exact this j (x + 1) (by omega)
      rw [e, u_eq]
      omega
    · rw [u_ne c, ih (x + 1) (by omega) (by omega)]
      omega
theorem row_sits {h : ISt} {T G g : Nat} (hi : HallI h T G) (hg : g < G) (hs : h 6 g = 1) : ∃ f m : Nat, fnd (h 2) g T 0 = f ∧ cnt (h 2) g T 0 = m ∧ 1 ≤ m ∧ f + m ≤ T ∧ (∀ t : Nat, t < T → (h 2 t = g ↔ f ≤ t ∧ t < f + m)) ∧ h 3 g ≤ ssum (h 1) f m - m + 1 := by
  obtain ⟨a1, a2, a3, a4, a5, a6, a7, a8, a9, a10, a11⟩ := hi
  obtain ⟨f, m, h1, h2, h3, h4⟩ := a11 g hg hs
  refine ⟨f, m, ?_, ?_, h1, h2, h3, h4⟩
  · have e := fnd_first (f := h 2) (a := g) (T - (f + 1)) f 0 (fun y _ hy => by
      intro c
      have := (h3 y (by omega)).mp c
      omega) (by rw [Nat.zero_add]; exact (h3 f (by omega)).mpr (by omega))
    rw [show f + 1 + (T - (f + 1)) = T by omega, Nat.zero_add] at e
    exact e
  · have e1 := cnt_app (h 2) g (T - f) f 0
    have e2 := cnt_app (h 2) g (T - f - m) m (0 + f)
    rw [show f + (T - f) = T by omega] at e1
    rw [show m + (T - f - m) = T - f by omega] at e2
    have z1 : cnt (h 2) g f 0 = 0 := cnt_none f 0 (fun y _ hy c => by have := (h3 y (by omega)).mp c; omega)
    have z2 : cnt (h 2) g m (0 + f) = m := cnt_all m (0 + f) (fun y h5 h6 => (h3 y (by omega)).mpr (by omega))
    have z3 : cnt (h 2) g (T - f - m) (0 + f + m) = 0 := cnt_none _ _ (fun y h5 h6 c => by have := (h3 y (by omega)).mp c; omega)
    omega
theorem row_none {h : ISt} {T G g : Nat} (hi : HallI h T G) (hg : g < 30) (hs : h 6 g ≠ 1) : fnd (h 2) g T 0 = -1 ∧ cnt (h 2) g T 0 = 0 := by
  obtain ⟨a1, a2, a3, a4, a5, a6, a7, a8, a9, a10, a11⟩ := hi
  have z := a10 g hg hs
  refine ⟨?_, cnt_none T 0 (fun y _ hy => z y (by omega))⟩
  rcases fnd_or (h 2) g T 0 with ⟨h1, _⟩ | ⟨y, _, _, h3, h4⟩
  · exact h1
  · exact absurd h4 (z y (by omega))
theorem q_tableOf {h : ISt} {T G g : Nat} (hi : HallI h T G) (hg : g < 30) : Q_X0_firstTable h g (fnd (h 2) g T 0) := q_firstTable (by unfold inR; omega) hi.2.1.1 hi.2.1.2 hi.2.2.2.1
theorem q_tablesOf {h : ISt} {T G g : Nat} (hi : HallI h T G) (hg : g < 30) : Q_X0_countTables h g (cnt (h 2) g T 0) := q_countTables (by unfold inR; omega) hi.2.1.1 hi.2.1.2 hi.2.2.2.1
theorem q_waits {h : ISt} {T G : Nat} (hi : HallI h T G) : Q_X0_countWaiting h (cnt (h 6) 0 G 0) := by
  obtain ⟨a1, a2, a3, a4, a5, a6, a7, a8⟩ := hi
  exact q_countWaiting a3.1 a3.2 (fun t ht => by have := a7 t ht; exact (by unfold inR; omega))
theorem cnt_b (f : Nat → Int) (a : Int) : ∀ j x : Nat, 0 ≤ cnt f a j x ∧ cnt f a j x ≤ j := by
  intro j
  induction j with
  | zero => intro x; exact ⟨by show (0 : Int) ≤ 0; omega, by show (0 : Int) ≤ _; omega⟩
  | succ j ih =>
    intro x
    have := ih (x + 1)
    show 0 ≤ (if f x = a then 1 else 0) + cnt f a j (x + 1) ∧ (if f x = a then 1 else 0) + cnt f a j (x + 1) ≤ _
    split <;> omega
/-- what is wasted -/
def Wst (h : ISt) (T : Nat) (p r : Int) : Prop := IsLeast (fun w => ∃ m f, Fit h T p w m f) r
theorem wst_ex (h : ISt) {T : Nat} (b : T ≤ 10) (p : Int) : ∃ r : Int, Wst h T p r ∧ ((r = -1 ∧ ∀ w m f, ¬ Fit h T p w m f) ∨ ∃ m f, Best h T p r m f) := by
  rcases best_ex h T b p with c | ⟨w, m, f, c⟩
  · exact ⟨-1, Or.inl ⟨rfl, fun w ⟨m, f, z⟩ => c w m f z⟩, Or.inl ⟨rfl, c⟩⟩
  · exact ⟨w, best_least c, Or.inr ⟨m, f, c⟩⟩
theorem wst_b {h : ISt} {T G : Nat} (hi : HallI h T G) {p r : Int} (hp : 1 ≤ p) (q : Wst h T p r) : -1 ≤ r ∧ r ≤ 100 := by
  rcases q with ⟨e, _⟩ | ⟨⟨m, f, z⟩, _⟩
  · omega
  · have := fit_b (hall_ok hi) hp z
    omega
theorem wst_u {h : ISt} {T : Nat} {p r q : Int} (a : Wst h T p r) (b : Wst h T p q) : r = q := least_u (fun w ⟨m, f, z⟩ => z.2.2.2.2) a b
theorem fit_less {h : ISt} {T : Nat} {p w : Int} {m f : Nat} (z : Fit h T (p + 1) w m f) : Fit h T p (w + 1) m f := ⟨z.1, z.2.1, z.2.2.1, by have := z.2.2.2.1; omega, by have := z.2.2.2.2; omega⟩
theorem wst_less {h : ISt} {T : Nat} {p r q : Int} (a : Wst h T p r) (b : Wst h T (p + 1) q) (hq : q ≠ -1) : 0 ≤ r ∧ r ≤ q + 1 := by
  rcases b with ⟨e, _⟩ | ⟨⟨m, f, z⟩, _⟩
  · exact absurd e hq
  · have z1 := fit_less z
    rcases a with ⟨_, n⟩ | ⟨⟨m', f', z'⟩, l⟩
    · exact absurd ⟨m, f, z1⟩ (n _)
    · exact ⟨z'.2.2.2.2, l _ ⟨m, f, z1⟩⟩
theorem q_isWaste {hh hs hr ha : ISt} {T G : Nat} (hi : HallI hh T G) {p : Int} (hp : 1 ≤ p ∧ p ≤ 12) : Q_L_isWaste hh hs hr ha p 1 := by
  obtain ⟨r, hr1, _⟩ := wst_ex hh hi.2.1.2 p
  have rb := wst_b hi hp.1 hr1
  have qw : Q_X0_leastWaste hh p r := q_leastWaste (hall_ok hi) hp hr1
  have qs : Q_X0_leastWasteOfSets hh p r := q_sets (hall_ok hi) hp hr1
  intro V23 k23
  have fin : ∀ t : Int, -1 ≤ t → t ≤ 100 → (t = -1 ∨ (0 ≤ r ∧ r ≤ t + 1)) → V23 r t := by
    intro t t1 t2 t3
    refine k23 _ _ ⟨r, ⟨(by unfold inR; omega), ⟨by omega, by omega⟩, r, qs, rfl⟩, (by unfold inR; omega), (by unfold inR; omega), nf rfl ⟨(by unfold inR; omega), fun _ => rfl, fun c => ⟨(by unfold inR; omega), bf (by omega) ⟨(by unfold inR; omega), (by unfold inR; omega), bf (by omega) rfl⟩⟩⟩⟩
  refine ⟨r, ⟨(by unfold inR; omega), ⟨by omega, by omega⟩, r, qw, rfl⟩, (by unfold inR; omega), fun c => ?_, fun _ => fin (-1) (by omega) (by omega) (Or.inl rfl)⟩
  obtain ⟨q, hq1, _⟩ := wst_ex hh hi.2.1.2 (p + 1)
  have qb := wst_b hi (by omega) hq1
  refine ⟨q, ⟨(by unfold inR; omega), ⟨by omega, by omega⟩, q, q_leastWaste (hall_ok hi) (by omega) hq1, rfl⟩, fin q (by omega) (by omega) ?_⟩
  by_cases c1 : q = -1
  · exact Or.inl c1
  · exact Or.inr (wst_less hr1 hq1 c1)
/-- a group is seated -/
theorem seated_2 (h : ISt) (g f m t : Nat) : seated h g f m 2 t = if f ≤ t ∧ t < f + m then (g : Int) else h 2 t := rfl
theorem seated_6 (h : ISt) (g f m : Nat) : seated h g f m 6 = iupd (h 6) g 1 := rfl
theorem seated_5 (h : ISt) (g f m : Nat) : seated h g f m 5 = iupd (h 5) g (h 0 0 + h 4 g) := rfl
theorem seated_i {h : ISt} {T G g : Nat} (hi : HallI h T G) (hg : g < G) (h6 : h 6 g = 0) {w : Int} {m f : Nat} (z : Fit h T (h 3 g) w m f) : HallI (seated h g f m) T G := by
  obtain ⟨a1, a2, a3, a4, a5, a6, a7, a8, a9, a10, a11⟩ := hi
  obtain ⟨z1, z2, z3, z4, z5⟩ := z
  have b7 := a7 g hg
  refine ⟨a1, a2, a3, ?_, a5, ?_, ?_, ?_, ?_, ?_, ?_⟩
  · intro t ht
    rw [seated_2]
    have := a4 t ht
    split <;> omega
  · intro t h1 h2
    rw [seated_2, if_neg (by omega)]
    exact a6 t h1 h2
  · intro x hx
    have := a7 x hx
    refine ⟨this.1, this.2.1, ?_⟩
    rw [seated_6]
    unfold iupd
    split <;> omega
  · intro x hx
    have := a8 x hx
    rw [seated_5]
    unfold iupd
    split <;> omega
  · intro x h1 h2
    rw [seated_6, u_ne (by omega)]
    exact a9 x h1 h2
  · intro x hx c t ht
    rw [seated_6] at c
    by_cases e : x = g
    · rw [e, u_eq] at c
      omega
    · rw [u_ne e] at c
      rw [seated_2]
      have := a10 x hx c t ht
      split <;> omega
  · intro x hx c
    rw [seated_6] at c
    by_cases e : x = g
    · subst e
      refine ⟨f, m, z1, z2, fun t ht => ?_, ?_⟩
      · rw [seated_2]
        have := a10 x (by omega) (by omega) t (by omega)
        split
        · omega
        · constructor
          · intro q; exact absurd q this
          · intro q; omega
      · show h 3 x ≤ ssum (h 1) f m - m + 1
        omega
    · rw [u_ne e] at c
      obtain ⟨f', m', q1, q2, q3, q4⟩ := a11 x hx c
      refine ⟨f', m', q1, q2, fun t ht => ?_, q4⟩
      rw [seated_2]
      have q := q3 t ht
      split
      · have := z3 t (by omega) (by omega)
        constructor
        · intro q; omega
        · intro y
          have := q.mpr y
          omega
      · exact q
theorem wait_seated {h : ISt} {T G g : Nat} (hg : g < G) (h6 : h 6 g = 0) (f m : Nat) : cnt (seated h g f m 6) 0 G 0 = cnt (h 6) 0 G 0 - 1 := by
  rw [seated_6, cnt_in G 0 (by omega) (by omega), if_pos h6, if_neg (by omega)]
  omega
/-- one group is tried -/
theorem sip_ex {h : ISt} {T G g : Nat} (hi : HallI h T G) (hg : g < G) (h6 : h 6 g = 0) : ∃ (r : Int) (h' : ISt), Q_X0_seatIfPossible h g r h' ∧ HallI h' T G ∧ (∀ x : Nat, x ≠ g → h' 6 x = h 6 x) ∧ (h' 0 = h 0 ∧ h' 1 = h 1 ∧ h' 3 = h 3 ∧ h' 4 = h 4) ∧
    ((r = 0 ∧ h' = h ∧ Wst h T (h 3 g) (-1)) ∨ (r = 1 ∧ h' 6 g = 1 ∧ cnt (h' 6) 0 G 0 = cnt (h 6) 0 G 0 - 1 ∧ ∃ (w : Int) (f m : Nat), Wst h T (h 3 g) w ∧ 0 ≤ w ∧ 1 ≤ m ∧ f + m ≤ T ∧ (∀ t : Nat, t < T → (h' 2 t = g ↔ f ≤ t ∧ t < f + m)) ∧ ssum (h 1) f m - m + 1 = h 3 g + w)) := by
  have b3 := (hi.2.2.2.2.2.2.1 g hg).1
  obtain ⟨r, hr, c | ⟨m, f, c⟩⟩ := wst_ex h hi.2.1.2 (h 3 g)
  · rw [c.1] at hr
    exact ⟨0, h, q_sip0 (hall_ok hi) (by have := hi.2.2.1; omega) b3 c.2, hi, fun _ _ => rfl, ⟨rfl, rfl, rfl, rfl⟩, Or.inl ⟨rfl, rfl, hr⟩⟩
  · have hs := seated_i hi hg h6 c.1
    refine ⟨1, _, q_sip1 (hall_ok hi) (by have := hi.2.2.1; omega) b3 c, hs, fun x hx => by rw [seated_6, u_ne hx], ⟨rfl, rfl, rfl, rfl⟩, Or.inr ⟨rfl, by rw [seated_6, u_eq], wait_seated (T := T) hg h6 f m, r, f, m, hr, c.1.2.2.2.2, c.1.1, c.1.2.1, fun t ht => ?_, ?_⟩⟩
    · obtain ⟨a1, a2, a3, a4, a5, a6, a7, a8, a9, a10, a11⟩ := hi
      rw [seated_2]
      have := a10 g (by omega) (by omega) t (by omega)
      split
      · omega
      · constructor
        · intro q; exact absurd q this
        · intro q; omega
    · have := c.1.2.2.2.1
      omega
