/-! OFFERS: the best copy, the titles that are offered, their order -/
def LnOk (s : ISt) (n : Nat) (ln : Nat → Int) : Prop := ∀ c : Nat, c < n → -1 ≤ ln c ∧ ln c ≤ 15 ∧ (ln c ≠ -1 → whr s c = 0 ∧ ∀ k : Nat, k < 4 → lk s c k ≤ avl s c k n) ∧ Q_X3_countLenders s c (ln c) ∧ ln c < n ∧ (whr s c = 0 → (ln c = 0 ↔ ∀ k : Nat, k < 4 → lk s c k = 0))
theorem ln_ex {s : ISt} {A n : Nat} (hi : ShelfI s A n) : ∃ ln : Nat → Int, LnOk s n ln := by
  have h : ∀ c : Nat, ∃ r : Int, c < n → -1 ≤ r ∧ r ≤ 15 ∧ (r ≠ -1 → whr s c = 0 ∧ ∀ k : Nat, k < 4 → lk s c k ≤ avl s c k n) ∧ Q_X3_countLenders s c r ∧ r < n ∧ (whr s c = 0 → (r = 0 ↔ ∀ k : Nat, k < 4 → lk s c k = 0)) := by
    intro c
    by_cases hc : c < n
    · obtain ⟨r, q1, q2, q3, q4, q5⟩ := lenders_ex hi hc
      have := hi.2.1.2
      exact ⟨r, fun _ => ⟨q2, by omega, q4, q1, q3, q5⟩⟩
    · exact ⟨0, fun h => absurd h hc⟩
  exact ⟨fun c => Classical.choose (h c), fun c hc => Classical.choose_spec (h c) hc⟩
theorem q_best3 {hs : ISt} {n : Nat} (ho : CopyOk hs n) {ln : Nat → Int} (hl : LnOk hs n ln) {t : Int} (ht : inR t) : Q_X3_bestCopy hs t (bst (hs 5) ln t n) := by
  obtain ⟨e, b, hr⟩ := ho
  intro V8 V40 k8 k40
  have key : ∀ (j x : Nat), x + j = n → ∀ f : Int, ((bst (hs 5) ln t x = -1 ∧ f = 16) ∨ (0 ≤ bst (hs 5) ln t x ∧ f = ln (bst (hs 5) ln t x).toNat)) → V8 (bst (hs 5) ln t x) f x := by
    intro j
    induction j with
    | zero =>
      intro x hx f hf
      have hx : x = n := hx
      subst hx
      exact k8 _ _ _ ⟨(by unfold inR; omega), (by unfold inR; omega), bt (by omega) rfl⟩
    | succ j ih =>
      intro x hx f hf
      obtain ⟨x5, x6, x7⟩ := hr x (by omega)
      obtain ⟨l1, l2, l3, l4, l5⟩ := hl x (by omega)
      have bb := bst_b (hs 5) ln t x
      have fb : inR f ∧ (f = 16 ∨ f ≤ 15) := by
        rcases hf with u | ⟨u1, u2⟩
        · exact ⟨(by unfold inR; omega), Or.inl u.2⟩
        · have := hl (bst (hs 5) ln t x).toNat (by omega)
          exact ⟨(by unfold inR; omega), Or.inr (by omega)⟩
      have st : bst (hs 5) ln t (x + 1) = if hs 5 x = t ∧ ln x ≠ -1 ∧ (bst (hs 5) ln t x = -1 ∨ ln x < ln (bst (hs 5) ln t x).toNat) then (x : Int) else bst (hs 5) ln t x := rfl
      have same : (¬ (hs 5 x = t ∧ ln x ≠ -1 ∧ (bst (hs 5) ln t x = -1 ∨ ln x < ln (bst (hs 5) ln t x).toNat))) → V8 (bst (hs 5) ln t x) f ((x : Int) + 1) := by
        intro c
        have z := ih (x + 1) (by omega) f (by rw [st, if_neg c]; exact hf)
        rw [st, if_neg c] at z
        exact z
      refine k8 _ _ _ ⟨(by unfold inR; omega), (by unfold inR; omega), bf (by omega) ⟨(by unfold inR; omega), ?_⟩⟩
      rw [ina x (by omega)]
      refine ⟨(by unfold inR; omega), ht, ?_, ?_⟩
      · intro c
        exact k40 _ _ _ _ ⟨(by unfold inR; omega), bt rfl (same (fun d => c d.1))⟩
      · intro c
        refine ⟨_, l4, k40 _ _ _ _ ⟨(by unfold inR; omega), ?_, ?_⟩⟩
        · intro d
          exact same (fun z => z.2.1 d)
        · intro d
          refine ⟨(by unfold inR; omega), fb.1, ?_, ?_⟩
          · intro g
            refine same (fun z => ?_)
            rcases z.2.2 with u | u
            · omega
            · omega
          · intro g
            have cc : hs 5 x = t ∧ ln x ≠ -1 ∧ (bst (hs 5) ln t x = -1 ∨ ln x < ln (bst (hs 5) ln t x).toNat) := ⟨c, d, by omega⟩
            have z := ih (x + 1) (by omega) (ln x) (by rw [st, if_pos cc, Int.toNat_natCast]; exact Or.inr ⟨by omega, rfl⟩)
            rw [st, if_pos cc] at z
            exact z
  exact key n 0 (by omega) 16 (Or.inl ⟨rfl, rfl⟩)
theorem bst_some {ti ln : Nat → Int} {t : Int} : ∀ x : Nat, (∃ c : Nat, c < x ∧ ti c = t ∧ ln c ≠ -1) → bst ti ln t x ≠ -1 := by
  intro x
  induction x with
  | zero => intro ⟨c, h, _⟩; omega
  | succ x ih =>
    intro ⟨c, h1, h2, h3⟩
    show (if ti x = t ∧ ln x ≠ -1 ∧ (bst ti ln t x = -1 ∨ ln x < ln (bst ti ln t x).toNat) then (x : Int) else bst ti ln t x) ≠ -1
    by_cases d : bst ti ln t x = -1
    · have e : c = x := by
        by_cases e : c = x
        · exact e
        · exact absurd d (ih ⟨c, by omega, h2, h3⟩)
      subst e
      rw [if_pos ⟨h2, h3, Or.inl d⟩]
      omega
    · split
      · omega
      · exact d
/-- a title is offered to a group -/
def Off (h s : ISt) (n : Nat) (ln : Nat → Int) (g t : Nat) : Prop := h 6 g = 1 ∧ held s n g = -1 ∧ (s 1 t ≤ h 3 g ∧ h 3 g ≤ s 2 t ∧ s 3 t ≤ leftI h g) ∧ bst (s 5) ln t n ≠ -1
noncomputable def offF (h s : ISt) (n : Nat) (ln : Nat → Int) (g : Nat) : Nat → Int := fun t => b01 (Off h s n ln g t)
def OffOk (hh hs hr : ISt) (g T : Nat) (off : Nat → Int) : Prop := ∀ t : Nat, t < T → (off t = 0 ∨ off t = 1) ∧ Q_X4_isOffered hh hs hr g t (off t) ∧ True
theorem off_1 {h s : ISt} {n : Nat} {ln : Nat → Int} {g t : Nat} : offF h s n ln g t ≠ 0 ↔ Off h s n ln g t := by
  unfold offF
  rcases b01_or (Off h s n ln g t) with ⟨a, b⟩ | ⟨a, b⟩
  · rw [b]
    exact ⟨fun _ => a, fun _ => n10⟩
  · rw [b]
    exact ⟨fun c => absurd rfl c, fun c => absurd c a⟩
theorem q_isOffered {hh hs hr : ISt} {T G A n : Nat} (hi : HallI hh T G) (si : ShelfI hs A n) {ln : Nat → Int} (hl : LnOk hs n ln) {g t : Nat} (hg : g < G) (ht : t < A) : Q_X4_isOffered hh hs hr g t (offF hh hs n ln g t) := by
  have bG := hi.2.2.1
  have bA := si.1
  have bn := si.2.1
  have b3 := (hi.2.2.2.2.2.2.1 g hg).1
  have lb := left_b hi (by omega : g < 30)
  have bb := bst_b (hs 5) ln t n
  have i3 : iat 30 (hh 3) g = hh 3 g := ina g (by omega)
  unfold offF
  by_cases c1 : hh 6 g = 1
  · refine ⟨1, by have z := q_isSeated hi hg; rw [b01_t c1] at z; exact z, R1, fun d => absurd d n10, fun _ => ?_⟩
    refine ⟨held hs n g, q_held si (by omega), ?_, ?_, ?_⟩
    · rcases held_or si g with ⟨e, _⟩ | ⟨c, e, _⟩
      · rw [e]; exact (by unfold inR; omega)
      · rw [e]; exact (by unfold inR; omega)
    · intro c2
      exact b01_f (fun o => c2 o.2.1)
    · intro c2
      refine ⟨(by unfold inR; omega), leftI hh g, q_minutesLeft hi (by omega), b01 (hs 1 t ≤ hh 3 g ∧ hh 3 g ≤ hs 2 t ∧ hs 3 t ≤ leftI hh g), ?_, ?_⟩
      · rw [i3]
        exact q_suits si ht (by unfold inR; omega) (by unfold inR; omega)
      · rcases b01_or (hs 1 t ≤ hh 3 g ∧ hh 3 g ≤ hs 2 t ∧ hs 3 t ≤ leftI hh g) with ⟨c3, e⟩ | ⟨c3, e⟩
        · rw [e]
          refine ⟨R1, fun d => absurd d n10, fun _ => ⟨bst (hs 5) ln t n, q_best3 (copy_ok si) hl (by unfold inR; omega), (by unfold inR; omega), fun d => b01_f (fun o => o.2.2.2 d), fun d => b01_t ⟨c1, c2, c3, d⟩⟩⟩
        · rw [e]
          exact ⟨R0, fun _ => b01_f (fun o => c3 o.2.2.1), fun d => absurd rfl d⟩
  · exact ⟨0, by have z := q_isSeated hi hg; rw [b01_f c1] at z; exact z, R0, fun _ => b01_f (fun o => c1 o.1), fun d => absurd rfl d⟩
theorem off_ok {hh hs hr : ISt} {T G A n : Nat} (hi : HallI hh T G) (si : ShelfI hs A n) {ln : Nat → Int} (hl : LnOk hs n ln) {g : Nat} (hg : g < G) : OffOk hh hs hr g A (offF hh hs n ln g) := by
  intro t ht
  refine ⟨?_, q_isOffered hi si hl hg ht, trivial⟩
  unfold offF
  rcases b01_or (Off hh hs n ln g t) with ⟨_, e⟩ | ⟨_, e⟩
  · exact Or.inr e
  · exact Or.inl e
theorem q_titles {hh hs hr : ISt} {g T : Nat} {off : Nat → Int} (eT : hs 0 0 = T) (bT : T ≤ 8) (ho : OffOk hh hs hr g T off) : Q_X4_offeredTitles hh hs hr g (oset off T) := by
  intro V k
  have key : ∀ (j x : Nat), x + j = T → V (oset off x) x := by
    intro j
    induction j with
    | zero =>
      intro x hx
      have hx : x = T := hx
      subst hx
      exact k _ _ ⟨(by unfold inR; omega), (by unfold inR; omega), bt (by omega) rfl⟩
    | succ j ih =>
      intro x hx
      obtain ⟨o1, o2, o3⟩ := ho x (by omega)
      have z := ih (x + 1) (by omega)
      have st : oset off (x + 1) = if off x = 0 then oset off x else iior (oset off x) (ishl1 x) := rfl
      rw [st] at z
      refine k _ _ ⟨(by unfold inR; omega), (by unfold inR; omega), bf (by omega) ⟨_, o2, (by unfold inR; omega), ?_, ?_⟩⟩
      · intro c
        rw [if_pos c] at z
        exact z
      · intro c
        rw [if_neg c] at z
        exact ⟨by omega, (oset_b off x (by omega)).1, ishl_p x, z⟩
  exact key T 0 (by omega)
/-- how many are offered -/
def nof (off : Nat → Int) (A : Nat) : Int := tot (fun x => if off x ≠ 0 then 1 else 0) A
theorem nof_b (off : Nat → Int) : ∀ A : Nat, 0 ≤ nof off A ∧ nof off A ≤ A := by
  intro A
  induction A with
  | zero => exact ⟨by show (0 : Int) ≤ 0; omega, by show (0 : Int) ≤ _; omega⟩
  | succ A ih =>
    have e : nof off (A + 1) = nof off A + (if off A ≠ 0 then 1 else 0) := rfl
    rw [e]
    split <;> omega
theorem nof_0 {off : Nat → Int} : ∀ A : Nat, (∀ t : Nat, t < A → off t = 0) → nof off A = 0 := by
  intro A
  induction A with
  | zero => intro _; rfl
  | succ A ih =>
    intro h
    have e : nof off (A + 1) = nof off A + (if off A ≠ 0 then 1 else 0) := rfl
    rw [e, ih (fun t ht => h t (by omega)), if_neg (fun c => c (h A (by omega)))]
    rfl
theorem nof_bits (off : Nat → Int) {A : Nat} (hA : A ≤ 16) : ((bsum (oset off A).toNat 16 : Nat) : Int) = nof off A := by
  have ob := (oset_b off A hA).2.2
  have h1 : ∀ j : Nat, j ≤ A → ((bsum (oset off A).toNat j : Nat) : Int) = nof off j := by
    intro j
    induction j with
    | zero => intro _; rfl
    | succ j ih =>
      intro hj
      have e : nof off (j + 1) = nof off j + (if off j ≠ 0 then 1 else 0) := rfl
      have e2 : bsum (oset off A).toNat (j + 1) = bsum (oset off A).toNat j + (oset off A).toNat / 2 ^ j % 2 := rfl
      have z := ih (by omega)
      have o := ob j
      rw [e, e2, o]
      by_cases c : off j ≠ 0
      · rw [if_pos ⟨by omega, c⟩, if_pos c]
        omega
      · rw [if_neg (fun d => c d.2), if_neg c]
        omega
  have h2 : ∀ j : Nat, bsum (oset off A).toNat (A + j) = bsum (oset off A).toNat A := by
    intro j
    induction j with
    | zero => rfl
    | succ j ih =>
      show bsum (oset off A).toNat (A + j) + (oset off A).toNat / 2 ^ (A + j) % 2 = _
      rw [ih, ob (A + j), if_neg (by omega)]
      rfl
  have z := h2 (16 - A)
  rw [show A + (16 - A) = 16 by omega] at z
  rw [z]
  exact h1 A (Nat.le_refl _)
theorem q_offers {hh hs hr : ISt} {T G A n : Nat} (hi : HallI hh T G) (si : ShelfI hs A n) {ln : Nat → Int} (hl : LnOk hs n ln) {g : Nat} (hg : g < G) : Qn_X4_offers hh hs hr g (nof (offF hh hs n ln g) A) := by
  have bG := hi.2.2.1
  have bA := si.1
  have ob := oset_b (offF hh hs n ln g) A (by omega)
  refine ⟨(by unfold inR; omega), (by unfold inR; omega), ⟨by omega, by omega⟩, _, q_titles si.1.1 si.1.2 (off_ok hi si hl hg), _, ⟨ob.1, ob.2.1, rfl⟩, ?_⟩
  exact (nof_bits _ (by omega)).symm
theorem ahd_tot (off mi : Nat → Int) (t : Nat) : ∀ x : Nat, ahd off mi t x = tot (fun x => if off x ≠ 0 ∧ (mi t < mi x ∨ (mi x = mi t ∧ x < t)) then 1 else 0) x := by
  intro x
  induction x with
  | zero => rfl
  | succ x ih =>
    show ahd off mi t x + _ = tot _ x + _
    rw [ih]
theorem tot_one {f g : Nat → Int} {t : Nat} : ∀ n : Nat, t < n → (∀ x : Nat, x < n → x ≠ t → f x = g x) → f t = g t + 1 → tot f n = tot g n + 1 := by
  intro n
  induction n with
  | zero => intro h; omega
  | succ n ih =>
    intro h1 h2 h3
    show tot f n + f n = tot g n + g n + 1
    by_cases c : t = n
    · subst c
      rw [tot_c t (fun p hp => h2 p (by omega) (by omega)), h3]
      omega
    · rw [ih (by omega) (fun x hx hn => h2 x (by omega) hn) h3, h2 n (by omega) (by omega)]
      omega
/-- of those that have what is asked, one is ahead of all others -/
theorem bef_min {mi : Nat → Int} {P : Nat → Prop} : ∀ n : Nat, (∃ t : Nat, t < n ∧ P t) → ∃ t : Nat, t < n ∧ P t ∧ ∀ u : Nat, u < n → P u → u ≠ t → bef mi t u := by
  intro n
  induction n with
  | zero => intro ⟨t, h, _⟩; omega
  | succ n ih =>
    intro ⟨t0, h0, p0⟩
    by_cases c : ∃ t : Nat, t < n ∧ P t
    · obtain ⟨t, h1, h2, h3⟩ := ih c
      by_cases d : P n ∧ bef mi n t
      · refine ⟨n, by omega, d.1, fun u hu pu ne => ?_⟩
        by_cases e : u = t
        · rw [e]; exact d.2
        · have b := h3 u (by omega) pu e
          have b2 := d.2
          unfold bef at b b2 ⊢
          omega
      · refine ⟨t, by omega, h2, fun u hu pu ne => ?_⟩
        by_cases e : u = n
        · subst e
          rcases bef_t mi t u (fun x => ne x.symm) with b | b
          · exact b
          · exact absurd ⟨pu, b⟩ d
        · exact h3 u (by omega) pu ne
    · have e : t0 = n := by
        by_cases e : t0 = n
        · exact e
        · exact absurd ⟨t0, by omega, p0⟩ c
      subst e
      refine ⟨t0, by omega, p0, fun u hu pu ne => absurd ⟨u, by omega, pu⟩ c⟩
/-- there is a title in each place -/
theorem place_ex {off mi : Nat → Int} {A : Nat} : ∀ p : Nat, (p : Int) < nof off A → ∃ t : Nat, t < A ∧ off t ≠ 0 ∧ ahd off mi t A = p := by
  intro p
  induction p with
  | zero =>
    intro h
    by_cases c : ∃ t : Nat, t < A ∧ off t ≠ 0
    · obtain ⟨t, h1, h2, h3⟩ := bef_min (mi := mi) (P := fun t => off t ≠ 0) A c
      refine ⟨t, h1, h2, ?_⟩
      rw [ahd_tot]
      have e : tot (fun x => if off x ≠ 0 ∧ (mi t < mi x ∨ (mi x = mi t ∧ x < t)) then (1 : Int) else 0) A = tot (fun _ => 0) A := by
        refine tot_c A (fun x hx => if_neg (fun d => ?_))
        by_cases e : x = t
        · subst e
          omega
        · have b := h3 x hx d.1 e
          unfold bef at b
          omega
      rw [e]
      have z : ∀ k : Nat, tot (fun _ => (0 : Int)) k = 0 := by
        intro k
        induction k with
        | zero => rfl
        | succ k ih =>
          show tot (fun _ => (0 : Int)) k + 0 = 0
          rw [ih]
          rfl
      rw [z]
      rfl
    · have := nof_0 (off := off) A (fun t ht => by
        by_cases d : off t = 0
        · exact d
        · exact absurd ⟨t, ht, d⟩ c)
      omega
  | succ p ih =>
    intro h
    obtain ⟨t, h1, h2, h3⟩ := ih (by omega)
    by_cases c : ∃ u : Nat, u < A ∧ (off u ≠ 0 ∧ bef mi t u)
    · obtain ⟨u, u1, u2, u3⟩ := bef_min (mi := mi) (P := fun u => off u ≠ 0 ∧ bef mi t u) A c
      refine ⟨u, u1, u2.1, ?_⟩
      rw [ahd_tot] at h3 ⊢
      have e := tot_one (t := t) (f := fun x => if off x ≠ 0 ∧ (mi u < mi x ∨ (mi x = mi u ∧ x < u)) then (1 : Int) else 0) (g := fun x => if off x ≠ 0 ∧ (mi t < mi x ∨ (mi x = mi t ∧ x < t)) then (1 : Int) else 0) A h1 (fun x hx ne => ?_) ?_
      · rw [e, h3]
        omega
      · show (if _ then (1 : Int) else 0) = if _ then 1 else 0
        by_cases d : off x ≠ 0
        · have tu := u2.2
          unfold bef at tu
          by_cases f1 : mi t < mi x ∨ (mi x = mi t ∧ x < t)
          · rw [if_pos ⟨d, by omega⟩, if_pos ⟨d, f1⟩]
          · by_cases e : x = u
            · subst e
              rw [if_neg (by omega), if_neg (fun z => f1 z.2)]
            · have b := u3 x hx ⟨d, by unfold bef; omega⟩ e
              unfold bef at b
              rw [if_neg (by omega), if_neg (fun z => f1 z.2)]
        · rw [if_neg (fun z => d z.1), if_neg (fun z => d z.1)]
      · show (if _ then (1 : Int) else 0) = (if _ then 1 else 0) + 1
        have tu := u2.2
        unfold bef at tu
        rw [if_pos ⟨h2, by omega⟩, if_neg (by omega)]
        rfl
    · have e := tot_one (t := t) (f := fun x => if off x ≠ 0 then (1 : Int) else 0) (g := fun x => if off x ≠ 0 ∧ (mi t < mi x ∨ (mi x = mi t ∧ x < t)) then (1 : Int) else 0) A h1 (fun x hx ne => ?_) ?_
      · rw [ahd_tot] at h3
        have : nof off A = tot (fun x => if off x ≠ 0 then (1 : Int) else 0) A := rfl
        omega
      · show (if _ then (1 : Int) else 0) = if _ then 1 else 0
        by_cases d : off x ≠ 0
        · rcases bef_t mi x t ne with b | b
          · unfold bef at b
            rw [if_pos d, if_pos ⟨d, by omega⟩]
          · exact absurd ⟨x, hx, d, b⟩ c
        · rw [if_neg d, if_neg (fun z => d z.1)]
      · show (if _ then (1 : Int) else 0) = (if _ then 1 else 0) + 1
        rw [if_pos h2, if_neg (by omega)]
        rfl
theorem tip_or (off mi : Nat → Int) (T : Nat) (p : Int) : ∀ j x : Nat, (tip off mi T p j x = -1 ∧ ∀ y : Nat, x ≤ y → y < x + j → ¬ (off y ≠ 0 ∧ ahd off mi y T = p)) ∨ ∃ y : Nat, tip off mi T p j x = y ∧ x ≤ y ∧ y < x + j ∧ off y ≠ 0 ∧ ahd off mi y T = p := by
  intro j
  induction j with
  | zero => intro x; exact Or.inl ⟨rfl, fun y h1 h2 => absurd h1 (by omega)⟩
  | succ j ih =>
    intro x
    have e : tip off mi T p (j + 1) x = if off x ≠ 0 ∧ ahd off mi x T = p then (x : Int) else tip off mi T p j (x + 1) := rfl
    by_cases c : off x ≠ 0 ∧ ahd off mi x T = p
    · rw [if_pos c] at e
      exact Or.inr ⟨x, e, by omega, by omega, c.1, c.2⟩
    · rw [if_neg c] at e
      rcases ih (x + 1) with ⟨h1, h2⟩ | ⟨y, h1, h2, h3, h4⟩
      · refine Or.inl ⟨by rw [e, h1], fun y h3 h4 => ?_⟩
        by_cases d : y = x
        · subst d; exact c
        · exact h2 y (by omega) (by omega)
      · exact Or.inr ⟨y, by rw [e, h1], by omega, by omega, h4⟩
theorem hs3 {s : ISt} {A n : Nat} (si : ShelfI s A n) : ∀ x : Nat, x < A → 0 ≤ s 3 x ∧ s 3 x ≤ 300 := fun x hx => by
  have := (si.2.2.1 x hx).2.2
  omega
/-- the title in a place -/
theorem offerAt_ex {hh hs hr : ISt} {T G A n : Nat} (hi : HallI hh T G) (si : ShelfI hs A n) {ln : Nat → Int} (hl : LnOk hs n ln) {g p : Nat} (hg : g < G) (hp : (p : Int) < nof (offF hh hs n ln g) A) : ∃ t : Nat, Qn_X4_offerAt hh hs hr g p t ∧ t < A ∧ Off hh hs n ln g t ∧ ahd (offF hh hs n ln g) (hs 3) t A = p := by
  have bG := hi.2.2.1
  have bA := si.1
  have nb := nof_b (offF hh hs n ln g) A
  have ob := oset_b (offF hh hs n ln g) A (by omega)
  obtain ⟨t, t1, t2, t3⟩ := place_ex (off := offF hh hs n ln g) (mi := hs 3) p hp
  rcases tip_or (offF hh hs n ln g) (hs 3) A p A 0 with ⟨_, h2⟩ | ⟨y, h1, h2, h3, h4, h5⟩
  · exact absurd ⟨t2, t3⟩ (h2 t (by omega) (by omega))
  · refine ⟨y, ⟨(by unfold inR; omega), (by unfold inR; omega), ⟨by omega, by omega⟩, _, q_titles si.1.1 si.1.2 (off_ok hi si hl hg), _, ⟨ob.1, ob.2.1, rfl⟩, (by unfold inR; omega), ?_, ?_, _, q_tip (by unfold inR; omega) si.1.1 si.1.2 (hs3 si), h1.symm⟩, by omega, off_1.mp h4, h5⟩
    · rw [nof_bits _ (by omega)]
      exact (by unfold inR; omega)
    · rw [nof_bits _ (by omega)]
      omega
theorem off_order {off mi : Nat → Int} {A t u : Nat} (h1 : off t ≠ 0) (h2 : off u ≠ 0) (hu : u < A) (h : ahd off mi t A < ahd off mi u A) : bef mi t u := by
  by_cases e : t = u
  · subst e; omega
  · rcases bef_t mi t u e with b | b
    · exact b
    · have := (ahd_lt off mi b h2 A).1
      omega
