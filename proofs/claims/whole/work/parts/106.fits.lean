/-- the sum of so many numbers from a place on -/
def ssum (s : Nat → Int) (f : Nat) : Nat → Int
  | 0 => 0
  | l + 1 => ssum s f l + s (f + l)
/-- a row of free tables, and what it wastes -/
def Fit (h : ISt) (n : Nat) (p w : Int) (m f : Nat) : Prop := 1 ≤ m ∧ f + m ≤ n ∧ (∀ t : Nat, f ≤ t → t < f + m → h 2 t = -1) ∧ w = ssum (h 1) f m - m + 1 - p ∧ 0 ≤ w
def IsLeast (S : Int → Prop) (r : Int) : Prop := (r = -1 ∧ ∀ w, ¬ S w) ∨ (S r ∧ ∀ w, S w → r ≤ w)
theorem least_nat (P : Nat → Prop) : ∀ n : Nat, P n → ∃ k, P k ∧ ∀ j, P j → k ≤ j := by
  intro n
  induction n using Nat.strongRecOn with
  | ind n ih =>
    intro hn
    by_cases c : ∃ j, j < n ∧ P j
    · obtain ⟨j, hj, pj⟩ := c
      exact ih j hj pj
    · refine ⟨n, hn, fun j pj => ?_⟩
      by_cases d : j < n
      · exact absurd ⟨j, d, pj⟩ c
      · omega
theorem least_u {S : Int → Prop} (h0 : ∀ w, S w → 0 ≤ w) {r q : Int} (a : IsLeast S r) (b : IsLeast S q) : r = q := by
  rcases a with ⟨a1, a2⟩ | ⟨a1, a2⟩
  · rcases b with ⟨b1, b2⟩ | ⟨b1, b2⟩
    · omega
    · exact absurd b1 (a2 q)
  · rcases b with ⟨b1, b2⟩ | ⟨b1, b2⟩
    · exact absurd a1 (b2 r)
    · have := a2 q b1
      have := b2 r a1
      omega
def Le3 (w : Int) (m f : Nat) (w' : Int) (m' f' : Nat) : Prop := w < w' ∨ (w = w' ∧ (m < m' ∨ (m = m' ∧ f ≤ f')))
def Best (h : ISt) (n : Nat) (p w : Int) (m f : Nat) : Prop := Fit h n p w m f ∧ ∀ w' m' f', Fit h n p w' m' f' → Le3 w m f w' m' f'
theorem best_ex (h : ISt) (n : Nat) (b : n ≤ 10) (p : Int) : (∀ w m f, ¬ Fit h n p w m f) ∨ ∃ w m f, Best h n p w m f := by
  by_cases c : ∃ w m f, Fit h n p w m f
  · obtain ⟨w, m, f, hw⟩ := c
    obtain ⟨k, ⟨w1, m1, f1, q1, e1⟩, k2⟩ := least_nat (fun k => ∃ w m f, Fit h n p w m f ∧ (k : Int) = w * 400 + m * 20 + f) (w * 400 + m * 20 + f).toNat ⟨w, m, f, hw, by have := hw.2.2.2.2; omega⟩
    refine Or.inr ⟨w1, m1, f1, q1, fun w' m' f' q' => ?_⟩
    have z := k2 (w' * 400 + m' * 20 + f').toNat ⟨w', m', f', q', by have := q'.2.2.2.2; omega⟩
    have u1 := q1.2.1
    have u2 := q'.2.1
    have u3 := q1.2.2.2.2
    have u4 := q'.2.2.2.2
    unfold Le3
    omega
  · exact Or.inl fun w m f hw => c ⟨w, m, f, hw⟩
theorem best_least {h : ISt} {n : Nat} {p w : Int} {m f : Nat} (q : Best h n p w m f) : IsLeast (fun w => ∃ m f, Fit h n p w m f) w := by
  refine Or.inr ⟨⟨m, f, q.1⟩, ?_⟩
  rintro w' ⟨m', f', q'⟩
  have := q.2 _ _ _ q'
  unfold Le3 at this
  omega
/-- what wasteAt answers -/
def IsW (h : ISt) (n : Nat) (p : Int) (m f : Nat) (r : Int) : Prop := (r = -1 ∧ ∀ w, ¬ Fit h n p w m f) ∨ Fit h n p r m f
def HallOk (h : ISt) (n : Nat) : Prop := h 0 1 = n ∧ n ≤ 10 ∧ (∀ t : Nat, t < 10 → -1 ≤ h 2 t ∧ h 2 t < 30) ∧ (∀ t : Nat, t < n → 2 ≤ h 1 t ∧ h 1 t ≤ 6)
theorem ssum_b {s : Nat → Int} {n : Nat} (hs : ∀ t : Nat, t < n → 2 ≤ s t ∧ s t ≤ 6) (f : Nat) : ∀ l : Nat, f + l ≤ n → 2 * (l : Int) ≤ ssum s f l ∧ ssum s f l ≤ 6 * l := by
  intro l
  induction l with
  | zero => intro _; exact ⟨by unfold ssum; omega, by unfold ssum; omega⟩
  | succ l ih =>
    intro hl
    have a := ih (by omega)
    have b := hs (f + l) (by omega)
    unfold ssum
    omega
theorem q_wasteAt {h : ISt} {n : Nat} (ho : HallOk h n) {p : Int} (hp : 1 ≤ p ∧ p ≤ 12) {m f : Nat} (hm : 1 ≤ m) (hf : f + m ≤ n) : ∃ r : Int, Q_X0_wasteAt h f m p r ∧ IsW h n p m f r := by
  obtain ⟨e, b, hT, hs⟩ := ho
  by_cases c : ∃ t : Nat, f ≤ t ∧ t < f + m ∧ h 2 t ≠ -1
  · obtain ⟨t0, h0, h1, h2⟩ := c
    refine ⟨-1, ?_, Or.inl ⟨rfl, fun w q => h2 (q.2.2.1 t0 h0 h1)⟩⟩
    intro V k
    have key : ∀ (j x : Nat), x + j = t0 → f ≤ x → ∀ s : Int, V s x := by
      intro j
      induction j with
      | zero =>
        intro x hx hx' s
        have t := hT x (by omega)
        have hx : x = t0 := hx
        refine k _ _ ⟨(by unfold inR; omega), (by unfold inR; omega), bf (by omega) ⟨(by unfold inR; omega), ?_⟩⟩
        rw [ina x (by omega)]
        subst hx
        exact ⟨(by unfold inR; omega), fun c => absurd c h2, fun _ => rfl⟩
      | succ j ih =>
        intro x hx hx' s
        have t := hT x (by omega)
        refine k _ _ ⟨(by unfold inR; omega), (by unfold inR; omega), bf (by omega) ⟨(by unfold inR; omega), ?_⟩⟩
        rw [ina x (by omega)]
        exact ⟨(by unfold inR; omega), fun c => ⟨(by unfold inR; omega), ih (x + 1) (by omega) (by omega) _⟩, fun _ => rfl⟩
    exact key (t0 - f) f (by omega) (by omega) _
  · have fr : ∀ t : Nat, f ≤ t → t < f + m → h 2 t = -1 := by
      intro t ht ht'
      by_cases d : h 2 t = -1
      · exact d
      · exact absurd ⟨t, ht, ht', d⟩ c
    have bb := ssum_b hs f m hf
    have main : ∀ r : Int, (p ≤ 1 - (m : Int) + ssum (h 1) f m → r = 1 - (m : Int) + ssum (h 1) f m - p) → (¬ p ≤ 1 - (m : Int) + ssum (h 1) f m → r = -1) → Q_X0_wasteAt h f m p r := by
      intro r k1 k2 V k
      have key : ∀ (j i : Nat), i + j = m → V (1 - (m : Int) + ssum (h 1) f i) ((f + i : Nat) : Int) := by
        intro j
        induction j with
        | zero =>
          intro i hi
          have hi : i = m := hi
          subst hi
          exact k _ _ ⟨(by unfold inR; omega), (by unfold inR; omega), bt (by omega) ⟨(by unfold inR; omega), (by unfold inR; omega), k1, k2⟩⟩
        | succ j ih =>
          intro i hi
          have z := ih (i + 1) (by omega)
          refine k _ _ ⟨(by unfold inR; omega), (by unfold inR; omega), bf (by omega) ⟨(by unfold inR; omega), ?_⟩⟩
          rw [ina (f := h 2) (f + i) (by omega), ina (f := h 1) (f + i) (by omega), fr (f + i) (by omega) (by omega)]
          refine ⟨(by unfold inR; omega), bt rfl ⟨(by unfold inR; omega), ?_⟩⟩
          have e2 : 1 - (m : Int) + ssum (h 1) f i + h 1 (f + i) = 1 - (m : Int) + ssum (h 1) f (i + 1) := by
            show _ = 1 - (m : Int) + (ssum (h 1) f i + h 1 (f + i))
            omega
          rw [e2]
          exact z
      have z := key m 0 (by omega)
      have e3 : 1 - (m : Int) + ssum (h 1) f 0 = 1 - m := Int.add_zero _
      rw [e3] at z
      exact z
    by_cases d : p ≤ 1 - (m : Int) + ssum (h 1) f m
    · exact ⟨_, main _ (fun _ => rfl) (fun c => absurd d c), Or.inr ⟨hm, hf, fr, by omega, by omega⟩⟩
    · refine ⟨-1, main _ (fun c => absurd c d) (fun _ => rfl), Or.inl ⟨rfl, fun w q => ?_⟩⟩
      have q1 := q.2.2.2.1
      have q2 := q.2.2.2.2
      omega
theorem q_lesser {a b : Int} (ha : -1 ≤ a ∧ a ≤ 100) (hb : -1 ≤ b ∧ b ≤ 100) : ∃ r : Int, Q_X0_lesser a b r ∧ ((a = -1 ∧ r = b) ∨ (b = -1 ∧ r = a) ∨ (0 ≤ a ∧ 0 ≤ b ∧ r ≤ a ∧ r ≤ b ∧ (r = a ∨ r = b))) := by
  by_cases c : a = -1
  · refine ⟨b, ⟨(by unfold inR; omega), bt c ⟨(by unfold inR; omega), (by unfold inR; omega), ?_⟩⟩, Or.inl ⟨c, rfl⟩⟩
    unfold imax
    split
    · rfl
    · omega
  · by_cases d : b = -1
    · refine ⟨a, ⟨(by unfold inR; omega), bf c ⟨(by unfold inR; omega), nf d ⟨(by unfold inR; omega), (by unfold inR; omega), ?_⟩⟩⟩, Or.inr (Or.inl ⟨d, rfl⟩)⟩
      unfold imax
      rw [if_neg (by omega)]
    · refine ⟨imin a b, ⟨(by unfold inR; omega), bf c ⟨(by unfold inR; omega), nt d ⟨(by unfold inR; omega), (by unfold inR; omega), rfl⟩⟩⟩, Or.inr (Or.inr ⟨by omega, by omega, ?_, ?_, ?_⟩)⟩
      · unfold imin
        split <;> omega
      · unfold imin
        split <;> omega
      · unfold imin
        split <;> omega
theorem fit_b {h : ISt} {n : Nat} (ho : HallOk h n) {p : Int} (hp : 1 ≤ p) {w : Int} {m f : Nat} (q : Fit h n p w m f) : 0 ≤ w ∧ w ≤ 100 := by
  obtain ⟨e, b, hT, hs⟩ := ho
  obtain ⟨q1, q2, q3, q4, q5⟩ := q
  have bb := ssum_b hs f m q2
  omega
theorem isw_b {h : ISt} {n : Nat} (ho : HallOk h n) {p : Int} (hp : 1 ≤ p) {r : Int} {m f : Nat} (q : IsW h n p m f r) : -1 ≤ r ∧ r ≤ 100 := by
  rcases q with q | q
  · omega
  · have := fit_b ho hp q
    omega
/-- the least so far, and one more -/
theorem least_more {S T : Int → Prop} {a b r : Int} (hS : IsLeast S a) (hT : IsLeast T b) (h0 : ∀ w, S w → 0 ≤ w) (h1 : ∀ w, T w → 0 ≤ w) (q : (a = -1 ∧ r = b) ∨ (b = -1 ∧ r = a) ∨ (0 ≤ a ∧ 0 ≤ b ∧ r ≤ a ∧ r ≤ b ∧ (r = a ∨ r = b))) : IsLeast (fun w => S w ∨ T w) r := by
  rcases hS with ⟨s1, s2⟩ | ⟨s1, s2⟩
  · rcases hT with ⟨t1, t2⟩ | ⟨t1, t2⟩
    · exact Or.inl ⟨by omega, fun w hw => hw.elim (s2 w) (t2 w)⟩
    · have z := h1 _ t1
      have e : r = b := by omega
      subst e
      exact Or.inr ⟨Or.inr t1, fun w hw => hw.elim (fun c => absurd c (s2 w)) (t2 w)⟩
  · have y := h0 _ s1
    rcases hT with ⟨t1, t2⟩ | ⟨t1, t2⟩
    · have e : r = a := by omega
      subst e
      exact Or.inr ⟨Or.inl s1, fun w hw => hw.elim (s2 w) (fun c => absurd c (t2 w))⟩
    · have z := h1 _ t1
      have l1 : r ≤ a := by omega
      have l2 : r ≤ b := by omega
      refine Or.inr ⟨?_, fun w hw => hw.elim (fun c => by have := s2 w c; omega) (fun c => by have := t2 w c; omega)⟩
      have e : r = a ∨ r = b := by omega
      rcases e with e | e
      · subst e
        exact Or.inl s1
      · subst e
        exact Or.inr t1
theorem least_c {S T : Int → Prop} {a : Int} (h : ∀ w, S w ↔ T w) (hS : IsLeast S a) : IsLeast T a := by
  rcases hS with ⟨s1, s2⟩ | ⟨s1, s2⟩
  · exact Or.inl ⟨s1, fun w hw => s2 w ((h w).mpr hw)⟩
  · exact Or.inr ⟨(h a).mp s1, fun w hw => s2 w ((h w).mpr hw)⟩
theorem q_leastWaste {h : ISt} {n : Nat} (ho : HallOk h n) {p : Int} (hp : 1 ≤ p ∧ p ≤ 12) {r : Int} (hr : IsLeast (fun w => ∃ m f, Fit h n p w m f) r) : Q_X0_leastWaste h p r := by
  have ho' := ho
  obtain ⟨e, b, hT, hs⟩ := ho'
  intro V4 V15 k4 k15
  have key : ∀ (J m : Nat), 1 ≤ m → m + J = n + 1 → ∀ x2 : Int, IsLeast (fun w => ∃ m' f, m' < m ∧ Fit h n p w m' f) x2 → V4 x2 m := by
    intro J
    induction J with
    | zero =>
      intro m hm hj x2 hx
      refine k4 _ _ ⟨(by unfold inR; omega), (by unfold inR; omega), bt (by omega) ?_⟩
      refine least_u (S := fun w => ∃ m f, Fit h n p w m f) (fun w ⟨m', f', q⟩ => q.2.2.2.2) hr (least_c (fun w => ⟨fun ⟨m', f', _, q⟩ => ⟨m', f', q⟩, fun ⟨m', f', q⟩ => ⟨m', f', ?_, q⟩⟩) hx)
      have := q.2.1
      omega
    | succ J ih =>
      intro m hm hj x2 hx
      refine k4 _ _ ⟨(by unfold inR; omega), (by unfold inR; omega), bf (by omega) ?_⟩
      have inner : ∀ (i f : Nat), f + i = n + 1 - m → ∀ x2 : Int, IsLeast (fun w => ∃ m' f', (m' < m ∨ (m' = m ∧ f' < f)) ∧ Fit h n p w m' f') x2 → V15 x2 m f := by
        intro i
        induction i with
        | zero =>
          intro f hf x2 hx
          refine k15 _ _ _ ⟨(by unfold inR; omega), (by unfold inR; omega), bt (by omega) (ih (m + 1) (by omega) (by omega) x2 (least_c (fun w => ⟨?_, ?_⟩) hx))⟩
          · rintro ⟨m', f', c, q⟩
            exact ⟨m', f', by omega, q⟩
          · rintro ⟨m', f', c, q⟩
            have := q.2.1
            exact ⟨m', f', by omega, q⟩
        | succ i ih2 =>
          intro f hf x2 hx
          obtain ⟨r1, w1, w2⟩ := q_wasteAt ho hp hm (show f + m ≤ n by omega)
          have bx : -1 ≤ x2 ∧ x2 ≤ 100 := by
            rcases hx with ⟨s1, s2⟩ | ⟨⟨m', f', s1, s3⟩, s2⟩
            · omega
            · have := fit_b ho hp.1 s3
              omega
          obtain ⟨r2, l1, l2⟩ := q_lesser bx (isw_b ho hp.1 w2)
          refine k15 _ _ _ ⟨(by unfold inR; omega), (by unfold inR; omega), bf (by omega) ⟨r1, w1, r2, l1, ih2 (f + 1) (by omega) r2 ?_⟩⟩
          have w3 : IsLeast (fun w => Fit h n p w m f) r1 := by
            rcases w2 with ⟨u1, u2⟩ | u
            · exact Or.inl ⟨u1, u2⟩
            · refine Or.inr ⟨u, fun w hw => ?_⟩
              have a1 := u.2.2.2.1
              have a2 := hw.2.2.2.1
              omega
          refine least_c (fun w => ⟨?_, ?_⟩) (least_more hx w3 (fun w ⟨m', f', _, q⟩ => q.2.2.2.2) (fun w q => q.2.2.2.2) l2)
          · rintro (⟨m', f', c, q⟩ | q)
            · exact ⟨m', f', by omega, q⟩
            · exact ⟨m, f, by omega, q⟩
          · rintro ⟨m', f', c, q⟩
            by_cases d : m' = m ∧ f' = f
            · obtain ⟨d1, d2⟩ := d
              subst d1
              subst d2
              exact Or.inr q
            · exact Or.inl ⟨m', f', by omega, q⟩
      refine inner (n + 1 - m) 0 (by omega) x2 (least_c (fun w => ⟨?_, ?_⟩) hx)
      · rintro ⟨m', f', c, q⟩
        exact ⟨m', f', by omega, q⟩
      · rintro ⟨m', f', c, q⟩
        exact ⟨m', f', by omega, q⟩
  refine key n 1 (by omega) (by omega) (-1) (Or.inl ⟨rfl, ?_⟩)
  rintro w ⟨m', f', c, q⟩
  have := q.1
  omega
