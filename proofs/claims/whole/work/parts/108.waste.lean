theorem got_none {h : ISt} {n : Nat} {p : Int} (c : ∀ w m f, ¬ Fit h n p w m f) {w' f' m' : Int} (g : Got h n p (fun _ _ => True) w' f' m') : w' = -1 ∧ f' = h 0 30 ∧ m' = h 0 31 := by
  rcases g with ⟨a, b, c1, d⟩ | ⟨f0, m0, a, b, c1, d, e⟩
  · exact ⟨a, b, c1⟩
  · exact absurd d (c _ _ _)
theorem got_best {h : ISt} {n : Nat} {p : Int} {w : Int} {m f : Nat} (c : Best h n p w m f) {w' f' m' : Int} (g : Got h n p (fun _ _ => True) w' f' m') : w' = w ∧ f' = f ∧ m' = m := by
  rcases g with ⟨a, b, c1, d⟩ | ⟨f0, m0, a, b, c1, d, e⟩
  · exact absurd c.1 (d _ _ _ trivial)
  · have u1 := c.2 _ _ _ d
    have u2 := e _ _ _ trivial c.1
    unfold Le3 at u1 u2
    omega
/-- the model's hall, as the class's -/
theorem fit_e {h m : ISt} {n : Nat} (e2 : ∀ t : Nat, t < n → m 2 t = h 2 t) (e1 : ∀ t : Nat, t < n → m 1 t = h 1 t) (p w : Int) (k f : Nat) : Fit m n p w k f ↔ Fit h n p w k f := by
  have es : ∀ l : Nat, f + l ≤ n → ssum (m 1) f l = ssum (h 1) f l := by
    intro l
    induction l with
    | zero => intro _; rfl
    | succ l ih =>
      intro hl
      unfold ssum
      rw [ih (by omega), e1 (f + l) (by omega)]
  constructor
  · rintro ⟨q1, q2, q3, q4, q5⟩
    exact ⟨q1, q2, fun t h1 h2 => (e2 t (by omega)).symm.trans (q3 t h1 h2), by rw [← es k q2]; exact q4, q5⟩
  · rintro ⟨q1, q2, q3, q4, q5⟩
    exact ⟨q1, q2, fun t h1 h2 => (e2 t (by omega)).trans (q3 t h1 h2), by rw [es k q2]; exact q4, q5⟩
/-- slots 30 and 31 can be anything that an int holds: kept with the relation -/
def ScrR (m : ISt) : Prop := inR (m 0 30) ∧ inR (m 0 31)
/-- finding, once and for all: nothing, or the best -/
theorem finds_ex {h m : ISt} {n : Nat} (ho : HallOk h n) (e4 : m 0 4 = n) (e2 : ∀ t : Nat, t < n → m 2 t = h 2 t) (e1 : ∀ t : Nat, t < n → m 1 t = h 1 t) (hsc : ScrR m) {p : Int} (hp : 1 ≤ p ∧ p ≤ 12) :
    ((∀ w k f, ¬ Fit h n p w k f) ∧ Q_X5_finds m p 0 (stf m (-1) (m 0 30) (m 0 31))) ∨ (∃ (w : Int) (k f : Nat), Best h n p w k f ∧ Q_X5_finds m p 1 (stf m w f k)) := by
  obtain ⟨e, b, hT, hs⟩ := ho
  have i2 : ∀ t : Nat, t < n → inR (m 2 t) := fun t ht => by
    have := hT t (by omega)
    have := e2 t ht
    unfold inR
    omega
  have s2 : ∀ t : Nat, t < n → 2 ≤ m 1 t ∧ m 1 t ≤ 6 := fun t ht => by
    have := hs t ht
    have := e1 t ht
    omega
  rcases best_ex h n b p with c | ⟨w, k, f, c⟩
  · exact Or.inl ⟨c, q_finds e4 b i2 s2 hsc.1 hsc.2 hp (fun w' f' m' g => got_none (fun w k f q => c w k f ((fit_e e2 e1 _ _ _ _).mp q)) g) (Or.inl ⟨rfl, rfl⟩) (by unfold inR; omega)⟩
  · have c' : Best m n p w k f := ⟨(fit_e e2 e1 _ _ _ _).mpr c.1, fun w' k' f' q => c.2 _ _ _ ((fit_e e2 e1 _ _ _ _).mp q)⟩
    have fb := fit_b ⟨e, b, hT, hs⟩ hp.1 c.1
    exact Or.inr ⟨w, k, f, c, q_finds e4 b i2 s2 hsc.1 hsc.2 hp (fun w' f' m' g => got_best c' g) (Or.inr ⟨fb.1, rfl⟩) (by unfold inR; omega)⟩
