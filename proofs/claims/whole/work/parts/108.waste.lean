theorem got_none {h : ISt} {n : Nat} {p : Int} (c : ∀ w m f, ¬ Fit h n p w m f) {w' f' m' : Int} (g : Got h n p (fun _ _ => True) w' f' m') : w' = -1 ∧ f' = h 0 30 ∧ m' = h 0 31 := by
  rcases g with ⟨a, b, c1, d⟩ | ⟨f0, m0, a, b, c1, d, e⟩
  · exact ⟨a, b, c1⟩
  · exact absurd d (c _ _ _)
theorem got_best {h : ISt} {n : Nat} {p : Int} {w : Int} {m f : Nat} (c : Best h n p w m f) {w' f' m' : Int} (g : Got h n p (fun _ _ => True) w' f' m') : w' = w ∧ f' = f ∧ m' = m := by
  rcases g with ⟨a, b, c1, d⟩ | ⟨f0, m0, a, b, c1, d, e⟩
  · exact absurd c.1 (d _ _ _ trivial)
  · have u1 := c.2 _ _ _ d
    have u2 := e _ _ _ trivial c.1
    unfold Le3 at u1 u2
    omega
/-- the model's hall, as the class's -/
theorem fit_e {h m : ISt} {n : Nat} (e2 : ∀ t : Nat, t < n → m 2 t = h 2 t) (e1 : ∀ t : Nat, t < n → m 1 t = h 1 t) (p w : Int) (k f : Nat) : Fit m n p w k f ↔ Fit h n p w k f := by
  have es : ∀ l : Nat, f + l ≤ n → ssum (m 1) f l = ssum (h 1) f l := by
    intro l
    induction l with
    | zero => intro _; rfl
    | succ l ih =>
      intro hl
      unfold ssum
      rw [ih (by omega), e1 (f + l) (by omega)]
  constructor
  · rintro ⟨q1, q2, q3, q4, q5⟩
    exact ⟨q1, q2, fun t h1 h2 => (e2 t (by omega)).symm.trans (q3 t h1 h2), by rw [← es k q2]; exact q4, q5⟩
  · rintro ⟨q1, q2, q3, q4, q5⟩
    exact ⟨q1, q2, fun t h1 h2 => (e2 t (by omega)).trans (q3 t h1 h2), by rw [es k q2]; exact q4, q5⟩
/-- finding, once and for all: nothing, or the best -/
theorem finds_ex {h m : ISt} {n : Nat} (ho : HallOk h n) (e4 : m 0 4 = n) (e2 : ∀ t : Nat, t < n → m 2 t = h 2 t) (e1 : ∀ t : Nat, t < n → m 1 t = h 1 t) (hsc : ScrR m) {p : Int} (hp : 1 ≤ p ∧ p ≤ 12) :
    ((∀ w k f, ¬ Fit h n p w k f) ∧ Q_X5_finds m p 0 (stf m (-1) (m 0 30) (m 0 31))) ∨ (∃ (w : Int) (k f : Nat), Best h n p w k f ∧ Q_X5_finds m p 1 (stf m w f k)) := by
  obtain ⟨e, b, hT, hs⟩ := ho
  have i2 : ∀ t : Nat, t < n → inR (m 2 t) := fun t ht => by
    have := hT t (by omega)
    have := e2 t ht
    unfold inR
    omega
  have s2 : ∀ t : Nat, t < n → 2 ≤ m 1 t ∧ m 1 t ≤ 6 := fun t ht => by
    have := hs t ht
    have := e1 t ht
    omega
  rcases best_ex h n b p with c | ⟨w, k, f, c⟩
  · exact Or.inl ⟨c, q_finds e4 b i2 s2 hsc.1 hsc.2 hp (fun w' f' m' g => got_none (fun w k f q => c w k f ((fit_e e2 e1 _ _ _ _).mp q)) g) (Or.inl ⟨rfl, rfl⟩) (by unfold inR; omega)⟩
  · have c' : Best m n p w k f := ⟨(fit_e e2 e1 _ _ _ _).mpr c.1, fun w' k' f' q => c.2 _ _ _ ((fit_e e2 e1 _ _ _ _).mp q)⟩
    have fb := fit_b ⟨e, b, hT, hs⟩ hp.1 c.1
    exact Or.inr ⟨w, k, f, c, q_finds e4 b i2 s2 hsc.1 hsc.2 hp (fun w' f' m' g => got_best c' g) (Or.inr ⟨fb.1, rfl⟩) (by unfold inR; omega)⟩
theorem hall_ok {hh hs hr hm : ISt} (hR : RelI hh hs hr hm) : ∃ n : Nat, HallOk hh n ∧ hm 0 4 = n ∧ (∀ t : Nat, t < n → hm 2 t = hh 2 t) ∧ (∀ t : Nat, t < n → hm 1 t = hh 1 t) := by
  obtain ⟨⟨h1, ⟨e4, b4, b4'⟩, h10, hT, hT2, hT3, hG, hG0, hG3⟩, hS, hO, hL, hF⟩ := hR
  obtain ⟨n, en⟩ := nat_of b4
  refine ⟨n, ⟨en, by omega, hT, fun t ht => ?_⟩, by omega, fun t ht => (hT2 t (by omega)).1, fun t ht => (hT2 t (by omega)).2.1⟩
  exact (hT2 t (by omega)).2.2
theorem rel_stf {hh hs hr hm : ISt} (hR : RelI hh hs hr hm) (w : Int) {f m : Int} (rf : inR f) (rm : inR m) : RelI hh hs hr (stf hm w f m) :=
  ⟨hR.1, hR.2.1, hR.2.2.1, hR.2.2.2.1, hR.2.2.2.2.1, rf, rm⟩
theorem waste_model {hh hs hr hm : ISt} (hR : RelI hh hs hr hm) {p : Int} (hp : 1 ≤ p ∧ p ≤ 12) {n : Nat} (ho : HallOk hh n) : ∃ (r : Int) (hm' : ISt), Q_X5_wasteNow hm p r hm' ∧ IsLeast (fun w => ∃ m f, Fit hh n p w m f) r ∧ hm' 0 0 = 0 ∧ RelI hh hs hr hm' := by
  obtain ⟨n', ho', e4, e2, e1⟩ := hall_ok hR
  have en : n' = n := by
    have := ho.1
    have := ho'.1
    omega
  subst en
  have sc := hR.2.2.2.2.2
  rcases finds_ex (m := iset hm 0 0 0) ho e4 e2 e1 sc hp with ⟨c, q⟩ | ⟨w, k, f, c, q⟩
  · refine ⟨-1, _, ?_, Or.inl ⟨rfl, fun w ⟨m, f, hw⟩ => c w m f hw⟩, rfl, rel_stf (rel_thrown hR 0) (-1) sc.1 sc.2⟩
    intro V k
    exact w1 (q_isIn1 (by unfold inR; omega) (by unfold inR; omega) (by unfold inR; omega) hp) (k _ _ (g0 ⟨0, _, q, R0, bt rfl ⟨R0, bt (Int.le_refl 0) ⟨rfl, rfl⟩⟩⟩))
  · have := c.1.2.1
    have := ho.2.1
    refine ⟨w, _, ?_, best_least c, rfl, rel_stf (rel_thrown hR 0) w (f := f) (m := k) (by unfold inR; omega) (by unfold inR; omega)⟩
    intro V kk
    exact w1 (q_isIn1 (by unfold inR; omega) (by unfold inR; omega) (by unfold inR; omega) hp) (kk _ _ (g0 ⟨1, _, q, R1, bf n10 ⟨rfl, rfl⟩⟩))
theorem si_waste : SimI_waste RelI := by
  intro hh hs hr hm a1 ha hR
  by_cases c1 : 1 ≤ a1 ∧ a1 ≤ 12
  · obtain ⟨n, ho, _⟩ := hall_ok hR
    obtain ⟨r, hm', q, l, z, hR'⟩ := waste_model hR c1 ho
    refine ⟨r, hm', ⟨r, hm', q, rfl, rfl⟩, ?_⟩
    intro ok ex hok _
    exact ⟨ha, bt ⟨by omega, by omega⟩ ⟨r, q_leastWaste ho c1 l, hok hh hs hr z hR'⟩⟩
  · refine ⟨0, iset hm 0 0 1, ⟨0, iset hm 0 0 1, ?_, rfl, rfl⟩, ?_⟩
    · intro V k
      exact w0 (q_isIn0 ha (by unfold inR; omega) (by unfold inR; omega) c1) (k _ _ (g1 (by unfold inR; omega) (by decide) ⟨(show inR 1 from R1), bf (show ¬ (1 : Int) ≤ 0 by decide) ⟨rfl, rfl⟩⟩))
    · intro ok ex _ hex
      exact ⟨ha, bf (by omega) (hex rfl (rel_thrown hR 1))⟩
