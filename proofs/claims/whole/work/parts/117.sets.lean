def bitv (s : Int) (t : Nat) : Nat := s.toNat / 2 ^ t % 2
theorem bitv_b (s : Int) (t : Nat) : bitv s t = 0 ∨ bitv s t = 1 := by
  unfold bitv
  omega
theorem set_ex {h : ISt} {n : Nat} (ho : HallOk h n) {p : Int} (hp : 1 ≤ p ∧ p ≤ 12) {s : Int} (s0 : 0 ≤ s) (s1 : s < 65536) (some : ∃ t : Nat, t < n ∧ bitv s t = 1) :
    ∀ (j x : Nat), x + j = n → ∀ last mg : Int, ((last = -1 ∧ mg = 1 ∧ ∀ t : Nat, t < x → bitv s t = 0) ∨ (∃ f l : Nat, last = (f : Int) + l - 1 ∧ 1 ≤ l ∧ f + l ≤ x ∧ (∀ t : Nat, t < x → (bitv s t = 1 ↔ f ≤ t ∧ t < f + l)) ∧ (∀ t : Nat, f ≤ t → t < f + l → h 2 t = -1) ∧ mg = ssum (h 1) f l - l + 1)) →
    ∃ r : Int, L_X0_wasteOfSet_8 h s p r last mg x ∧ (r = -1 ∨ ∃ m f, Fit h n p r m f) ∧ ∀ w m f, Fit h n p w m f → (∀ t : Nat, t < n → (bitv s t = 1 ↔ f ≤ t ∧ t < f + m)) → r = w := by
  have ho' := ho
  obtain ⟨e, b, hT, hs⟩ := ho'
  intro j
  induction j with
  | zero =>
    intro x hx last mg inv
    have hx : x = n := hx
    subst hx
    rcases inv with ⟨i1, i2, i3⟩ | ⟨f, l, i1, i2, i3, i4, i5, i6⟩
    · obtain ⟨t, t1, t2⟩ := some
      have := i3 t t1
      omega
    · have sb := ssum_b hs f l i3
      by_cases c : p ≤ mg
      · refine ⟨mg - p, ?_, Or.inr ⟨l, f, i2, i3, i5, by omega, by omega⟩, ?_⟩
        · intro V8 V43 V44 k8 k43 k44
          exact k8 _ _ _ ⟨(by unfold inR; omega), (by unfold inR; omega), bt (by omega) ⟨(by unfold inR; omega), (by unfold inR; omega), bt c rfl⟩⟩
        · intro w m f' q hb
          have z1 := (i4 f (by omega)).mpr ⟨by omega, by omega⟩
          have z2 := (i4 (f + l - 1) (by omega)).mpr ⟨by omega, by omega⟩
          have q1 := q.1
          have q2 := q.2.1
          have z3 := (hb f' (by omega)).mpr ⟨by omega, by omega⟩
          have z4 := (hb (f' + m - 1) (by omega)).mpr ⟨by omega, by omega⟩
          have y1 := (hb f (by omega)).mp z1
          have y2 := (hb (f + l - 1) (by omega)).mp z2
          have y3 := (i4 f' (by omega)).mp z3
          have y4 := (i4 (f' + m - 1) (by omega)).mp z4
          have ef : f' = f := by omega
          have em : m = l := by omega
          subst ef
          subst em
          have := q.2.2.2.1
          omega
      · refine ⟨-1, ?_, Or.inl rfl, ?_⟩
        · intro V8 V43 V44 k8 k43 k44
          exact k8 _ _ _ ⟨(by unfold inR; omega), (by unfold inR; omega), bt (by omega) ⟨(by unfold inR; omega), (by unfold inR; omega), bf c rfl⟩⟩
        · intro w m f' q hb
          have z1 := (i4 f (by omega)).mpr ⟨by omega, by omega⟩
          have z2 := (i4 (f + l - 1) (by omega)).mpr ⟨by omega, by omega⟩
          have q1 := q.1
          have q2 := q.2.1
          have z3 := (hb f' (by omega)).mpr ⟨by omega, by omega⟩
          have z4 := (hb (f' + m - 1) (by omega)).mpr ⟨by omega, by omega⟩
          have y1 := (hb f (by omega)).mp z1
          have y2 := (hb (f + l - 1) (by omega)).mp z2
          have y3 := (i4 f' (by omega)).mp z3
          have y4 := (i4 (f' + m - 1) (by omega)).mp z4
          have ef : f' = f := by omega
          have em : m = l := by omega
          subst ef
          subst em
          have := q.2.2.2.1
          have := q.2.2.2.2
          omega
  | succ j ih =>
    intro x hx last mg inv
    have cq := q_has s0 s1 (show x < 32 by omega)
    have lb : inR last ∧ -1 ≤ last ∧ last ≤ 20 := by
      rcases inv with ⟨i1, i2, i3⟩ | ⟨f, l, i1, i2, i3, i4, i5, i6⟩
      · exact ⟨(by unfold inR; omega), by omega, by omega⟩
      · exact ⟨(by unfold inR; omega), by omega, by omega⟩
    have tx := hT x (by omega)
    have sx := hs x (by omega)
    rcases bitv_b s x with c | c
    · -- not in the set
      have c' : s.toNat / 2 ^ x % 2 = 0 := c
      obtain ⟨r, q1, q2, q3⟩ := ih (x + 1) (by omega) last mg (by
        rcases inv with ⟨i1, i2, i3⟩ | ⟨f, l, i1, i2, i3, i4, i5, i6⟩
        · refine Or.inl ⟨i1, i2, fun t ht => ?_⟩
          by_cases d : t = x
          · subst d
            exact c
          · exact i3 t (by omega)
        · refine Or.inr ⟨f, l, i1, i2, by omega, fun t ht => ?_, i5, i6⟩
          by_cases d : t = x
          · subst d
            omega
          · exact i4 t (by omega))
      refine ⟨r, ?_, q2, q3⟩
      intro V8 V43 V44 k8 k43 k44
      refine k8 _ _ _ ⟨(by unfold inR; omega), (by unfold inR; omega), bf (by omega) ⟨_, cq, ?_⟩⟩
      rw [c']
      exact ⟨R0, bt rfl (q1 V8 V43 V44 k8 k43 k44)⟩
    · have c' : s.toNat / 2 ^ x % 2 = 1 := c
      -- next to the last one, or the first
      by_cases d : last = -1 ∨ last = (x : Int) - 1
      · by_cases g : h 2 x = -1
        · obtain ⟨r, q1, q2, q3⟩ := ih (x + 1) (by omega) x (mg + (h 1 x - 1)) (by
            rcases inv with ⟨i1, i2, i3⟩ | ⟨f, l, i1, i2, i3, i4, i5, i6⟩
            · refine Or.inr ⟨x, 1, by omega, by omega, by omega, fun t ht => ?_, fun t h1 h2 => ?_, ?_⟩
              · by_cases u : t = x
                · subst u
                  omega
                · have := i3 t (by omega)
                  omega
              · have u : t = x := by omega
                subst u
                exact g
              · have e1 : ssum (h 1) x 1 = 0 + h 1 (x + 0) := rfl
                rw [e1, Nat.add_zero]
                omega
            · have fl : f + l = x := by omega
              refine Or.inr ⟨f, l + 1, by omega, by omega, by omega, fun t ht => ?_, fun t h1 h2 => ?_, ?_⟩
              · by_cases u : t = x
                · subst u
                  omega
                · have := i4 t (by omega)
                  omega
              · by_cases u : t = x
                · subst u
                  exact g
                · exact i5 t h1 (by omega)
              · have e1 : ssum (h 1) f (l + 1) = ssum (h 1) f l + h 1 (f + l) := rfl
                rw [e1, fl]
                omega)
          refine ⟨r, ?_, q2, q3⟩
          intro V8 V43 V44 k8 k43 k44
          have z := q1 V8 V43 V44 k8 k43 k44
          have z43 : V43 mg x := by
            refine k43 _ _ (k44 _ _ _ ⟨R0, nf rfl ⟨(by unfold inR; omega), ?_⟩⟩)
            rw [ina (f := h 2) x (by omega), ina (f := h 1) x (by omega)]
            exact ⟨(by unfold inR; omega), bt g ⟨(by unfold inR; omega), z⟩⟩
          refine k8 _ _ _ ⟨(by unfold inR; omega), (by unfold inR; omega), bf (by omega) ⟨_, cq, ?_⟩⟩
          rw [c']
          exact ⟨R1, bf n10 ⟨lb.1, fun _ => z43, fun u => ⟨lb.1, (by unfold inR; omega), fun _ => z43, fun v => absurd d (by omega)⟩⟩⟩
        · refine ⟨-1, ?_, Or.inl rfl, ?_⟩
          · intro V8 V43 V44 k8 k43 k44
            have z43 : V43 mg x := by
              refine k43 _ _ (k44 _ _ _ ⟨R0, nf rfl ⟨(by unfold inR; omega), ?_⟩⟩)
              rw [ina (f := h 2) x (by omega)]
              exact ⟨(by unfold inR; omega), bf g rfl⟩
            refine k8 _ _ _ ⟨(by unfold inR; omega), (by unfold inR; omega), bf (by omega) ⟨_, cq, ?_⟩⟩
            rw [c']
            exact ⟨R1, bf n10 ⟨lb.1, fun _ => z43, fun u => ⟨lb.1, (by unfold inR; omega), fun _ => z43, fun v => absurd d (by omega)⟩⟩⟩
          · intro w m f' q hb
            have y := (hb x (by omega)).mp c
            exact absurd (q.2.2.1 x y.1 y.2) g
      · refine ⟨-1, ?_, Or.inl rfl, ?_⟩
        · intro V8 V43 V44 k8 k43 k44
          refine k8 _ _ _ ⟨(by unfold inR; omega), (by unfold inR; omega), bf (by omega) ⟨_, cq, ?_⟩⟩
          rw [c']
          exact ⟨R1, bf n10 ⟨lb.1, bf (by omega) ⟨lb.1, (by unfold inR; omega), bf (by omega) (k44 _ _ _ ⟨R1, nt n10 rfl⟩)⟩⟩⟩
        · intro w m f' q hb
          rcases inv with ⟨i1, i2, i3⟩ | ⟨f, l, i1, i2, i3, i4, i5, i6⟩
          · omega
          · have y := (hb x (by omega)).mp c
            have z1 := (i4 f (by omega)).mpr ⟨by omega, by omega⟩
            have y1 := (hb f (by omega)).mp z1
            have z2 := (hb (f + l) (by omega)).mpr ⟨by omega, by omega⟩
            have y2 := (i4 (f + l) (by omega)).mp z2
            omega
theorem some_bit {n : Nat} {s : Int} (s0 : 1 ≤ s) (s1 : s < ((2 ^ n : Nat) : Int)) : ∃ t : Nat, t < n ∧ bitv s t = 1 := by
  by_cases c : ∃ t : Nat, t < n ∧ bitv s t = 1
  · exact c
  · have z : s.toNat = 0 := by
      refine Nat.eq_of_testBit_eq fun i => ?_
      rw [Nat.zero_testBit]
      by_cases d : i < n
      · have e := bv_tb s.toNat i
        have f : bitv s i = 0 := (bitv_b s i).resolve_right (fun u => c ⟨i, d, u⟩)
        unfold bitv at f
        rw [f] at e
        by_cases g : s.toNat.testBit i = true
        · rw [if_pos g] at e
          omega
        · exact Bool.not_eq_true _ ▸ g
      · have h1 : s.toNat < 2 ^ n := by omega
        have h2 : 2 ^ n ≤ 2 ^ i := Nat.pow_le_pow_right (by omega) (by omega)
        exact Nat.testBit_lt_two_pow (by omega)
    omega
theorem set_of (n f m : Nat) (b : n ≤ 10) (hm : 1 ≤ m) (hf : f + m ≤ n) : ∃ s : Nat, 1 ≤ s ∧ s < 2 ^ n ∧ ∀ t : Nat, t < n → (bitv s t = 1 ↔ f ≤ t ∧ t < f + m) := by
  obtain ⟨b1, b2, b3⟩ := oset_b (fun t => if f ≤ t ∧ t < f + m then 1 else 0) n (by omega)
  have bb : ∀ t : Nat, (oset (fun t => if f ≤ t ∧ t < f + m then 1 else 0) n).toNat / 2 ^ t % 2 = if f ≤ t ∧ t < f + m then 1 else 0 := by
    intro t
    rw [b3 t]
    by_cases c : f ≤ t ∧ t < f + m
    · have g : t < n ∧ (if f ≤ t ∧ t < f + m then (1 : Int) else 0) ≠ 0 := ⟨by omega, by rw [if_pos c]; omega⟩
      rw [if_pos g, if_pos c]
    · have g : ¬ (t < n ∧ (if f ≤ t ∧ t < f + m then (1 : Int) else 0) ≠ 0) := fun u => u.2 (if_neg c)
      rw [if_neg g, if_neg c]
  refine ⟨(oset (fun t => if f ≤ t ∧ t < f + m then 1 else 0) n).toNat, ?_, ?_, ?_⟩
  · by_cases c : (oset (fun t => if f ≤ t ∧ t < f + m then 1 else 0) n).toNat = 0
    · have z := bb f
      rw [c, if_pos ⟨by omega, by omega⟩, Nat.zero_div] at z
      omega
    · omega
  · refine Nat.lt_pow_two_of_testBit _ fun i hi => ?_
    have e := bv_tb (oset (fun t => if f ≤ t ∧ t < f + m then 1 else 0) n).toNat i
    rw [bb i, if_neg (by omega)] at e
    by_cases g : (oset (fun t => if f ≤ t ∧ t < f + m then 1 else 0) n).toNat.testBit i = true
    · rw [if_pos g] at e
      omega
    · exact Bool.not_eq_true _ ▸ g
  · intro t ht
    unfold bitv
    rw [Int.toNat_natCast, bb t]
    by_cases c : f ≤ t ∧ t < f + m
    · rw [if_pos c]
      exact ⟨fun _ => c, fun _ => rfl⟩
    · rw [if_neg c]
      exact ⟨fun u => absurd u (by omega), fun u => absurd u c⟩
theorem q_sets {h : ISt} {n : Nat} (ho : HallOk h n) {p : Int} (hp : 1 ≤ p ∧ p ≤ 12) {r : Int} (hr : IsLeast (fun w => ∃ m f, Fit h n p w m f) r) : Q_X0_leastWasteOfSets h p r := by
  have ho' := ho
  obtain ⟨e, b, hT, hs⟩ := ho'
  have pn : 2 ^ n ≤ 2 ^ 10 := Nat.pow_le_pow_right (by omega) b
  have pn' : 2 ^ n ≤ 1024 := pn
  have wex : ∀ s : Nat, ∃ w : Int, 1 ≤ s → s < 2 ^ n → Q_X0_wasteOfSet h s p w ∧ (w = -1 ∨ ∃ m f, Fit h n p w m f) ∧ ∀ w' m f, Fit h n p w' m f → (∀ t : Nat, t < n → (bitv s t = 1 ↔ f ≤ t ∧ t < f + m)) → w = w' := by
    intro s
    by_cases c : 1 ≤ s ∧ s < 2 ^ n
    · obtain ⟨w, q1, q2, q3⟩ := set_ex ho hp (s := s) (by omega) (by omega) (some_bit (by omega) (by omega)) n 0 (by omega) (-1) 1 (Or.inl ⟨rfl, rfl, fun t ht => by omega⟩)
      exact ⟨w, fun _ _ => ⟨q1, q2, q3⟩⟩
    · exact ⟨0, fun h1 h2 => absurd ⟨h1, h2⟩ c⟩
  have W : ∃ W : Nat → Int, ∀ s : Nat, 1 ≤ s → s < 2 ^ n → Q_X0_wasteOfSet h s p (W s) ∧ (W s = -1 ∨ ∃ m f, Fit h n p (W s) m f) ∧ ∀ w' m f, Fit h n p w' m f → (∀ t : Nat, t < n → (bitv s t = 1 ↔ f ≤ t ∧ t < f + m)) → W s = w' := ⟨fun s => Classical.choose (wex s), fun s => Classical.choose_spec (wex s)⟩
  obtain ⟨W, hW⟩ := W
  have wb : ∀ s : Nat, 1 ≤ s → s < 2 ^ n → -1 ≤ W s ∧ W s ≤ 100 := by
    intro s h1 h2
    rcases (hW s h1 h2).2.1 with u | ⟨m, f, u⟩
    · omega
    · have := fit_b ho hp.1 u
      omega
  have i1 : ishl1 (h 0 1) = ((2 ^ n : Nat) : Int) := by
    rw [e]
    unfold ishl1
    rw [Int.toNat_natCast]
  intro V4 k4
  have key : ∀ (j s : Nat), 1 ≤ s → s + j = 2 ^ n → ∀ x2 : Int, IsLeast (fun w => 0 ≤ w ∧ ∃ s' : Nat, 1 ≤ s' ∧ s' < s ∧ W s' = w) x2 → V4 x2 s := by
    intro j
    induction j with
    | zero =>
      intro s h1 h2 x2 hx
      have h2 : s = 2 ^ n := h2
      refine k4 _ _ ⟨by omega, (by unfold inR; omega), ?_⟩
      rw [i1]
      refine ⟨(by unfold inR; omega), bt (by omega) ?_⟩
      refine least_u (S := fun w => ∃ m f, Fit h n p w m f) (fun w ⟨m', f', q⟩ => q.2.2.2.2) hr (least_c (fun w => ⟨?_, ?_⟩) hx)
      · rintro ⟨w0, s', g1, g2, g3⟩
        rcases (hW s' g1 (by omega)).2.1 with u | ⟨m, f, u⟩
        · omega
        · rw [g3] at u
          exact ⟨m, f, u⟩
      · rintro ⟨m, f, q⟩
        obtain ⟨s', g1, g2, g3⟩ := set_of n f m b q.1 q.2.1
        exact ⟨q.2.2.2.2, s', g1, by omega, (hW s' g1 g2).2.2 w m f q g3⟩
    | succ j ih =>
      intro s h1 h2 x2 hx
      have h3 : s < 2 ^ n := by omega
      have bx : -1 ≤ x2 ∧ x2 ≤ 100 := by
        rcases hx with ⟨u1, u2⟩ | ⟨⟨u1, s', g1, g2, g3⟩, u2⟩
        · omega
        · have := wb s' g1 (by omega)
          omega
      obtain ⟨r2, l1, l2⟩ := q_lesser bx (wb s h1 h3)
      refine k4 _ _ ⟨by omega, (by unfold inR; omega), ?_⟩
      rw [i1]
      refine ⟨(by unfold inR; omega), bf (by omega) ⟨_, (hW s h1 h3).1, r2, l1, ih (s + 1) (by omega) (by omega) r2 ?_⟩⟩
      have one : IsLeast (fun w => 0 ≤ w ∧ W s = w) (W s) := by
        have := wb s h1 h3
        by_cases c : W s = -1
        · exact Or.inl ⟨c, fun w u => by omega⟩
        · exact Or.inr ⟨⟨by omega, rfl⟩, fun w u => by omega⟩
      refine least_c (fun w => ⟨?_, ?_⟩) (least_more hx one (fun w u => u.1) (fun w u => u.1) l2)
      · rintro (⟨w0, s', g1, g2, g3⟩ | ⟨w0, g⟩)
        · exact ⟨w0, s', g1, by omega, g3⟩
        · exact ⟨w0, s, h1, by omega, g⟩
      · rintro ⟨w0, s', g1, g2, g3⟩
        by_cases d : s' = s
        · subst d
          exact Or.inr ⟨w0, g3⟩
        · exact Or.inl ⟨w0, s', g1, by omega, g3⟩
  have one := Nat.one_le_two_pow (n := n)
  refine key (2 ^ n - 1) 1 (by omega) (by omega) (-1) (Or.inl ⟨rfl, ?_⟩)
  rintro w ⟨w0, s', g1, g2, g3⟩
  omega
theorem si_wasteByAll : SimI_wasteByAll RelI := by
  intro hh hs hr hm a1 ha hR
  by_cases c1 : 1 ≤ a1 ∧ a1 ≤ 12
  · obtain ⟨n, ho, _⟩ := hall_ok hR
    obtain ⟨r, hm', q, l, z, hR'⟩ := waste_model hR c1 ho
    refine ⟨r, hm', ⟨r, hm', q, rfl, rfl⟩, ?_⟩
    intro ok ex hok _
    exact ⟨ha, bt ⟨by omega, by omega⟩ ⟨r, q_sets ho c1 l, hok hh hs hr z hR'⟩⟩
  · refine ⟨0, iset hm 0 0 1, ⟨0, iset hm 0 0 1, ?_, rfl, rfl⟩, ?_⟩
    · intro V k
      exact w0 (q_isIn0 ha (by unfold inR; omega) (by unfold inR; omega) c1) (k _ _ (g1 (by unfold inR; omega) (by decide) ⟨(show inR 1 from R1), bf (show ¬ (1 : Int) ≤ 0 by decide) ⟨rfl, rfl⟩⟩))
    · intro ok ex _ hex
      exact ⟨ha, bf (by omega) (hex rfl (rel_thrown hR 1))⟩
