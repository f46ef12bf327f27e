theorem off_thrown {hm : ISt} {g t r : Int} (h : Q_X5_isOffered hm g t r) : Q_X5_isOffered (iset hm 0 0 0) g t r := h
def OffOk (hh hs hr hm : ISt) (g T : Nat) (off : Nat → Int) : Prop := ∀ t : Nat, t < T → (off t = 0 ∨ off t = 1) ∧ Q_X4_isOffered hh hs hr g t (off t) ∧ Q_X5_isOffered hm g t (off t)
theorem off_ex {hh hs hr hm : ISt} (hR : RelI hh hs hr hm) {g T : Nat} (hg : (g : Int) < hh 0 2) (eT : hs 0 0 = T) : ∃ off : Nat → Int, OffOk hh hs hr hm g T off := by
  obtain ⟨n, ho, _⟩ := copy_ok hR
  obtain ⟨ln, hl⟩ := ln_ex hR ho
  have h : ∀ t : Nat, ∃ r : Int, t < T → (r = 0 ∨ r = 1) ∧ Q_X4_isOffered hh hs hr g t r ∧ Q_X5_isOffered hm g t r := by
    intro t
    by_cases d : t < T
    · obtain ⟨r, h1, h2, h3, _⟩ := offered_ex hR ho hl hg (t := t) (by omega)
      exact ⟨r, fun _ => ⟨h1, h2, h3⟩⟩
    · exact ⟨0, fun h => absurd h d⟩
  exact ⟨fun t => Classical.choose (h t), fun t ht => Classical.choose_spec (h t) ht⟩
/-- the set of what is offered -/
def oset (off : Nat → Int) : Nat → Int
  | 0 => 0
  | x + 1 => if off x = 0 then oset off x else iior (oset off x) (ishl1 x)
theorem oset_b (off : Nat → Int) : ∀ x : Nat, x ≤ 16 → 0 ≤ oset off x ∧ oset off x < 65536 ∧ ∀ k : Nat, (oset off x).toNat / 2 ^ k % 2 = if k < x ∧ off k ≠ 0 then 1 else 0 := by
  intro x
  induction x with
  | zero =>
    intro _
    refine ⟨Int.le_refl 0, (show (0 : Int) < 65536 by decide), fun k => ?_⟩
    rw [if_neg (by omega)]
    show 0 / 2 ^ k % 2 = 0
    rw [Nat.zero_div]
  | succ x ih =>
    intro hx
    obtain ⟨h1, h2, h3⟩ := ih (by omega)
    unfold oset
    by_cases c : off x = 0
    · rw [if_pos c]
      refine ⟨h1, h2, fun k => ?_⟩
      rw [h3]
      by_cases d : k = x
      · subst d
        rw [if_neg (by omega), if_neg (fun z => z.2 c)]
      · by_cases e : k < x ∧ off k ≠ 0
        · rw [if_pos e, if_pos ⟨by omega, e.2⟩]
        · rw [if_neg e, if_neg (fun z => e ⟨by omega, z.2⟩)]
    · rw [if_neg c]
      have b := ior_b h1 h2 (show x < 16 by omega)
      refine ⟨b.1, b.2, fun k => ?_⟩
      rw [bv_or, h3]
      by_cases d : k = x
      · subst d
        rw [if_pos rfl, if_pos ⟨by omega, c⟩]
      · rw [if_neg d]
        by_cases e : k < x ∧ off k ≠ 0
        · rw [if_pos e, if_pos ⟨by omega, e.2⟩]
        · rw [if_neg e, if_neg (fun z => e ⟨by omega, z.2⟩)]
theorem q_has {s : Int} (h0 : 0 ≤ s) (h1 : s < 65536) {x : Nat} (hx : x < 32) : Q_X4_contains s x ((s.toNat / 2 ^ x % 2 : Nat) : Int) := by
  obtain ⟨b1, b2, b3⟩ := ishr_b h0 h1 x
  have e : ishr s x % 2 = ((s.toNat / 2 ^ x % 2 : Nat) : Int) := by
    rw [b1]
    omega
  refine ⟨by omega, by omega, by omega, ?_⟩
  rw [e]
  refine ⟨(by unfold inR; omega), fun c => c, fun c => by omega⟩
theorem q_titles {hh hs hr hm : ISt} {g T : Nat} {off : Nat → Int} (eT : hs 0 0 = T) (bT : T ≤ 8) (ho : OffOk hh hs hr hm g T off) : Q_X4_offeredTitles hh hs hr g (oset off T) := by
  intro V k
  have key : ∀ (j x : Nat), x + j = T → V (oset off x) x := by
    intro j
    induction j with
    | zero =>
      intro x hx
      have hx : x = T := hx
      subst hx
      exact k _ _ ⟨(by unfold inR; omega), (by unfold inR; omega), bt (by omega) rfl⟩
    | succ j ih =>
      intro x hx
      obtain ⟨o1, o2, o3⟩ := ho x (by omega)
      have z := ih (x + 1) (by omega)
      have st : oset off (x + 1) = if off x = 0 then oset off x else iior (oset off x) (ishl1 x) := rfl
      rw [st] at z
      refine k _ _ ⟨(by unfold inR; omega), (by unfold inR; omega), bf (by omega) ⟨_, o2, (by unfold inR; omega), ?_, ?_⟩⟩
      · intro c
        rw [if_pos c] at z
        exact z
      · intro c
        rw [if_neg c] at z
        exact ⟨by omega, (oset_b off x (by omega)).1, ishl_p x, z⟩
  exact key T 0 (by omega)
theorem q_offersTo {hh hs hr hm : ISt} {g T : Nat} {off : Nat → Int} (e15 : hm 0 15 = T) (bT : T ≤ 8) (ho : OffOk hh hs hr hm g T off) : Q_X5_offersTo hm g (bsum (oset off T).toNat 16 : Nat) := by
  have ob := (oset_b off T (by omega)).2.2
  have tail : ∀ (j x : Nat), x + j = 16 → T ≤ x → bsum (oset off T).toNat x = bsum (oset off T).toNat 16 := by
    intro j
    induction j with
    | zero =>
      intro x hx _
      have hx : x = 16 := hx
      rw [hx]
    | succ j ih =>
      intro x hx ht
      have z := ih (x + 1) (by omega) (by omega)
      have e : bsum (oset off T).toNat (x + 1) = bsum (oset off T).toNat x + (oset off T).toNat / 2 ^ x % 2 := rfl
      rw [ob x, if_neg (by omega)] at e
      omega
  intro V k
  have key : ∀ (j x : Nat), x + j = T → V (bsum (oset off T).toNat x : Nat) x := by
    intro j
    induction j with
    | zero =>
      intro x hx
      have hx : x = T := hx
      subst hx
      refine k _ _ ⟨(by unfold inR; omega), (by unfold inR; omega), bt (by omega) ?_⟩
      rw [tail (16 - x) x (by omega) (by omega)]
    | succ j ih =>
      intro x hx
      obtain ⟨o1, o2, o3⟩ := ho x (by omega)
      have z := ih (x + 1) (by omega)
      have e : bsum (oset off T).toNat (x + 1) = bsum (oset off T).toNat x + (oset off T).toNat / 2 ^ x % 2 := rfl
      rw [ob x] at e
      refine k _ _ ⟨(by unfold inR; omega), (by unfold inR; omega), bf (by omega) ⟨_, o3, (by unfold inR; omega), ?_, ?_⟩⟩
      · intro c
        rw [if_neg (fun z => z.2 c)] at e
        have e2 : ((bsum (oset off T).toNat x : Nat) : Int) + 0 = ((bsum (oset off T).toNat (x + 1) : Nat) : Int) := by omega
        rw [e2]
        exact z
      · intro c
        rw [if_pos ⟨by omega, c⟩] at e
        have e2 : ((bsum (oset off T).toNat x : Nat) : Int) + 1 = ((bsum (oset off T).toNat (x + 1) : Nat) : Int) := by omega
        rw [e2]
        exact z
  exact key T 0 (by omega)
theorem si_offers : SimI_offers RelI := by
  intro hh hs hr hm a1 ha hR
  have hR0 := hR
  have e10 := hR.1.2.2.1
  have e15 := hR.2.1.1
  by_cases c1 : 0 ≤ a1 ∧ a1 < hh 0 2
  · obtain ⟨g, eg⟩ := nat_of c1.1
    subst eg
    obtain ⟨T, eT⟩ := nat_of e15.2.1
    obtain ⟨off, ho⟩ := off_ex (rel_thrown hR 0) c1.2 eT
    have ob := oset_b off T (by omega)
    refine ⟨(bsum (oset off T).toNat 16 : Nat), iset hm 0 0 0, ?_, ?_⟩
    · intro V k
      exact w1 (q_isGroup1 (by omega) (by omega) (by omega)) (k _ _ (g0 ⟨_, q_offersTo (show hm 0 15 = T by omega) (by omega) ho, rfl, rfl⟩))
    · intro ok ex hok _
      exact ⟨ha, (by unfold inR; omega), bt ⟨by omega, by omega⟩ ⟨_, q_titles eT (by omega) ho, _, ⟨ob.1, ob.2.1, rfl⟩, hok hh hs hr rfl (rel_thrown hR0 0)⟩⟩
  · refine ⟨0, iset hm 0 0 1, ?_, ?_⟩
    · intro V k
      exact w0 (q_isGroup0 ha (by omega) (by omega)) (k _ _ (g1 (by unfold inR; omega) (by decide) ⟨rfl, rfl⟩))
    · intro ok ex _ hex
      exact ⟨ha, (by unfold inR; omega), bf (by omega) (hex rfl (rel_thrown hR0 1))⟩
/-- the titles that come ahead of one -/
def bef (mi : Nat → Int) (e t : Nat) : Prop := mi t < mi e ∨ (mi e = mi t ∧ e < t)
theorem bef_t (mi : Nat → Int) (x y : Nat) (h : x ≠ y) : bef mi x y ∨ bef mi y x := by
  unfold bef
  omega
/-- how many of the offered, from x on, come ahead of t: by a decision of each -/
def ahd (off mi : Nat → Int) (t : Nat) : Nat → Int
  | 0 => 0
  | x + 1 => ahd off mi t x + (if off x ≠ 0 ∧ (mi t < mi x ∨ (mi x = mi t ∧ x < t)) then 1 else 0)
theorem ahd_b (off mi : Nat → Int) (t : Nat) : ∀ x : Nat, 0 ≤ ahd off mi t x ∧ ahd off mi t x ≤ x := by
  intro x
  induction x with
  | zero => exact ⟨Int.le_refl 0, Int.le_refl 0⟩
  | succ x ih =>
    unfold ahd
    split <;> omega
theorem ahd_lt (off mi : Nat → Int) {t u : Nat} (h : bef mi t u) (ot : off t ≠ 0) : ∀ x : Nat, ahd off mi t x ≤ ahd off mi u x ∧ (t < x → ahd off mi t x < ahd off mi u x) := by
  unfold bef at h
  intro x
  induction x with
  | zero => exact ⟨Int.le_refl 0, fun h => by omega⟩
  | succ x ih =>
    unfold ahd
    by_cases d : x = t
    · subst d
      rw [if_neg (fun z => by omega), if_pos ⟨ot, by omega⟩]
      omega
    · by_cases c : off x ≠ 0 ∧ (mi t < mi x ∨ (mi x = mi t ∧ x < t))
      · rw [if_pos c, if_pos ⟨c.1, by omega⟩]
        omega
      · rw [if_neg c]
        split <;> omega
theorem q_ahead5 {hh hs hr hm : ISt} {g T t : Nat} {off : Nat → Int} (e15 : hm 0 15 = T) (bT : T ≤ 8) (hM : ∀ x : Nat, x < T → hm 10 x = hs 3 x ∧ inR (hs 3 x)) (ho : OffOk hh hs hr hm g T off) (ht : t < T) : Q_X5_ahead hm g t (ahd off (hs 3) t T) := by
  intro V5 V52 V56 V57 k5 k52 k56 k57
  have key : ∀ (j x : Nat), x + j = T → V5 (ahd off (hs 3) t x) x := by
    intro j
    induction j with
    | zero =>
      intro x hx
      have hx : x = T := hx
      subst hx
      exact k5 _ _ ⟨(by unfold inR; omega), (by unfold inR; omega), bt (by omega) rfl⟩
    | succ j ih =>
      intro x hx
      obtain ⟨o1, o2, o3⟩ := ho x (by omega)
      obtain ⟨m1, m2⟩ := hM x (by omega)
      obtain ⟨m3, m4⟩ := hM t ht
      have z := ih (x + 1) (by omega)
      have st : ahd off (hs 3) t (x + 1) = ahd off (hs 3) t x + (if off x ≠ 0 ∧ (hs 3 t < hs 3 x ∨ (hs 3 x = hs 3 t ∧ x < t)) then 1 else 0) := rfl
      rw [st] at z
      have z52 : (hs 3 t < hs 3 x ∨ (hs 3 x = hs 3 t ∧ x < t)) → V52 (ahd off (hs 3) t x) x := by
        intro c
        refine k52 _ _ (k57 _ _ _ ⟨R1, bf n10 ⟨_, o3, (by unfold inR; omega), ?_, ?_⟩⟩)
        · intro d
          rw [if_neg (fun u => u.1 d)] at z
          exact z
        · intro d
          rw [if_pos ⟨d, c⟩] at z
          exact z
      have z56 : ¬ (hs 3 t < hs 3 x ∨ (hs 3 x = hs 3 t ∧ x < t)) → V56 (ahd off (hs 3) t x) x := by
        intro c
        rw [if_neg (fun u => c u.2)] at z
        exact k56 _ _ (k57 _ _ _ ⟨R0, bt rfl z⟩)
      refine k5 _ _ ⟨(by unfold inR; omega), (by unfold inR; omega), bf (by omega) ⟨by omega, by omega, ?_⟩⟩
      rw [Int.toNat_natCast, Int.toNat_natCast, m1, m3]
      refine ⟨m2, m4, fun c => z52 (Or.inl c), fun c => ⟨by omega, by omega, m2, m4, fun d => z56 (by omega), fun d => ⟨(by unfold inR; omega), (by unfold inR; omega), fun e => z56 (by omega), fun e => z52 (Or.inr ⟨d, by omega⟩)⟩⟩⟩
  exact key T 0 (by omega)
theorem q_ahead3 {hs : ISt} {T t : Nat} {off : Nat → Int} (eT : hs 0 0 = T) (bT : T ≤ 8) (hM : ∀ x : Nat, x < T → 0 ≤ hs 3 x ∧ hs 3 x ≤ 300) (ht : t < T) : Q_X3_countAhead hs (oset off T) t (ahd off (hs 3) t T) := by
  obtain ⟨b1, b2, b3⟩ := oset_b off T (by omega)
  intro V5 k5
  have key : ∀ (j x : Nat), x + j = T → V5 (ahd off (hs 3) t x) x := by
    intro j
    induction j with
    | zero =>
      intro x hx
      have hx : x = T := hx
      subst hx
      exact k5 _ _ ⟨(by unfold inR; omega), (by unfold inR; omega), bt (by omega) rfl⟩
    | succ j ih =>
      intro x hx
      have m1 := hM x (by omega)
      have m3 := hM t ht
      have z := ih (x + 1) (by omega)
      have st : ahd off (hs 3) t (x + 1) = ahd off (hs 3) t x + (if off x ≠ 0 ∧ (hs 3 t < hs 3 x ∨ (hs 3 x = hs 3 t ∧ x < t)) then 1 else 0) := rfl
      rw [st] at z
      have cq := q_has b1 b2 (show x < 32 by omega)
      rw [b3 x] at cq
      have yes : off x ≠ 0 ∧ (hs 3 t < hs 3 x ∨ (hs 3 x = hs 3 t ∧ x < t)) → V5 (ahd off (hs 3) t x + 1) ((x : Int) + 1) := by
        intro c
        rw [if_pos c] at z
        exact z
      have no : ¬ (off x ≠ 0 ∧ (hs 3 t < hs 3 x ∨ (hs 3 x = hs 3 t ∧ x < t))) → V5 (ahd off (hs 3) t x) ((x : Int) + 1) := by
        intro c
        rw [if_neg c, Int.add_zero] at z
        exact z
      refine k5 _ _ ⟨(by unfold inR; omega), (by unfold inR; omega), bf (by omega) ⟨(by unfold inR; omega), (by unfold inR; omega), _, cq, ?_⟩⟩
      rw [ina x (by omega), ina t (by omega)]
      by_cases c : off x = 0
      · rw [if_neg (fun u => u.2 c)]
        exact ⟨R0, bt rfl (no (fun u => u.1 c))⟩
      · rw [if_pos ⟨by omega, c⟩]
        exact ⟨R1, bf n10 ⟨(by unfold inR; omega), fun d => yes ⟨c, by omega⟩, fun d => ⟨(by unfold inR; omega), fun e => no (by omega), fun e => ⟨(by unfold inR; omega), (by unfold inR; omega), fun f => no (by omega), fun f => yes ⟨c, by omega⟩⟩⟩⟩⟩
  exact key T 0 (by omega)
/-- the title in a place: the first, from x on -/
def tip (off mi : Nat → Int) (T : Nat) (p : Int) : Nat → Nat → Int
  | 0, _ => -1
  | j + 1, x => if off x ≠ 0 ∧ ahd off mi x T = p then (x : Int) else tip off mi T p j (x + 1)
theorem tip_n (off mi : Nat → Int) (T : Nat) (p : Int) : ∀ j x : Nat, (∀ y : Nat, x ≤ y → y < x + j → ¬ (off y ≠ 0 ∧ ahd off mi y T = p)) → tip off mi T p j x = -1 := by
  intro j
  induction j with
  | zero => intros; rfl
  | succ j ih =>
    intro x h
    unfold tip
    rw [if_neg (h x (by omega) (by omega)), ih (x + 1) (fun y h1 h2 => h y (by omega) (by omega))]
theorem q_tip {hs : ISt} {T : Nat} {off : Nat → Int} {p : Int} (hp : inR p) (eT : hs 0 0 = T) (bT : T ≤ 8) (hM : ∀ x : Nat, x < T → 0 ≤ hs 3 x ∧ hs 3 x ≤ 300) : Q_X3_titleInPlace hs (oset off T) p (tip off (hs 3) T p T 0) := by
  obtain ⟨b1, b2, b3⟩ := oset_b off T (by omega)
  intro V k
  have key : ∀ (j x : Nat), x + j = T → tip off (hs 3) T p T 0 = tip off (hs 3) T p j x → V x := by
    intro j
    induction j with
    | zero =>
      intro x hx q
      exact k _ ⟨(by unfold inR; omega), (by unfold inR; omega), bt (by omega) q⟩
    | succ j ih =>
      intro x hx q
      have q : tip off (hs 3) T p T 0 = if off x ≠ 0 ∧ ahd off (hs 3) x T = p then (x : Int) else tip off (hs 3) T p j (x + 1) := q
      have cq := q_has b1 b2 (show x < 32 by omega)
      rw [b3 x] at cq
      have ab := ahd_b off (hs 3) x T
      refine k _ ⟨(by unfold inR; omega), (by unfold inR; omega), bf (by omega) ⟨_, cq, ?_⟩⟩
      by_cases c : off x = 0
      · rw [if_neg (fun u => u.2 c)]
        rw [if_neg (fun u => u.1 c)] at q
        exact ⟨R0, bt rfl (ih (x + 1) (by omega) q)⟩
      · rw [if_pos ⟨by omega, c⟩]
        refine ⟨R1, bf n10 ⟨_, q_ahead3 eT bT hM (show x < T by omega), (by unfold inR; omega), hp, ?_, ?_⟩⟩
        · intro d
          rw [if_neg (fun u => d u.2)] at q
          exact ih (x + 1) (by omega) q
        · intro d
          rw [if_pos ⟨c, d⟩] at q
          exact q
  exact key T 0 (by omega) rfl
theorem si_offerAt : SimI_offerAt RelI := by
  intro hh hs hr hm a1 a2 ha ha2 hR
  have hR0 := hR
  have e10 := hR.1.2.2.1
  have e15 := hR.2.1.1
  have hS1 := hR.2.1.2.2.1
  by_cases c1 : 0 ≤ a1 ∧ a1 < hh 0 2
  · obtain ⟨g, eg⟩ := nat_of c1.1
    subst eg
    obtain ⟨T, eT⟩ := nat_of e15.2.1
    obtain ⟨off, ho⟩ := off_ex hR c1.2 eT
    have ob := oset_b off T (by omega)
    have bb := bsum_b (oset off T).toNat 16
    have hM : ∀ x : Nat, x < T → 0 ≤ hs 3 x ∧ hs 3 x ≤ 300 := fun x hx => by
      have := hS1 x (by omega)
      omega
    have hM5 : ∀ x : Nat, x < T → hm 10 x = hs 3 x ∧ inR (hs 3 x) := fun x hx => by
      have := hS1 x (by omega)
      unfold inR
      omega
    have ho0 : OffOk hh hs hr (iset hm 0 0 0) g T off := fun t ht => ⟨(ho t ht).1, (ho t ht).2.1, off_thrown (ho t ht).2.2⟩
    by_cases c2 : 0 ≤ a2 ∧ a2 < (bsum (oset off T).toNat 16 : Nat)
    · refine ⟨tip off (hs 3) T a2 T 0, iset hm 0 0 0, ?_, ?_⟩
      · intro V30 V31 V45 k30 k31 k45
        refine w1 (q_isGroup1 (by omega) (by omega) (by omega)) ⟨_, q_offersTo (show hm 0 15 = T by omega) (by omega) ho, w1 (q_isIn1 ha2 (by unfold inR; omega) (by unfold inR; omega) (by omega)) (k31 _ _ (f0 ?_))⟩
        -- found so far: the last that fits, which is the only one
        have key : ∀ (j x : Nat), x + j = T → ∀ f : Int, ((f = -1 ∧ (∀ y : Nat, y < x → ¬ (off y ≠ 0 ∧ ahd off (hs 3) y T = a2)) ∧ tip off (hs 3) T a2 T 0 = tip off (hs 3) T a2 j x) ∨ (∃ y : Nat, f = y ∧ y < x ∧ off y ≠ 0 ∧ ahd off (hs 3) y T = a2 ∧ tip off (hs 3) T a2 T 0 = y)) → V45 (iset hm 0 0 0) f x := by
          intro j
          induction j with
          | zero =>
            intro x hx f hf
            refine k45 _ _ _ ⟨(by unfold inR; omega), (show inR (hm 0 15) by unfold inR; omega), bt (show hm 0 15 ≤ x by omega) ⟨?_, rfl⟩⟩
            rcases hf with ⟨f1, f2, f3⟩ | ⟨y, f1, f2, f3, f4, f5⟩
            · rw [f1, f3]
              rfl
            · rw [f1, f5]
          | succ j ih =>
            intro x hx f hf
            obtain ⟨o1, o2, o3⟩ := ho0 x (by omega)
            have ab := ahd_b off (hs 3) x T
            have keep : ¬ (off x ≠ 0 ∧ ahd off (hs 3) x T = a2) → V45 (iset hm 0 0 0) f ((x : Int) + 1) := by
              intro c
              refine ih (x + 1) (by omega) f ?_
              rcases hf with ⟨f1, f2, f3⟩ | ⟨y, f1, f2, f3, f4, f5⟩
              · refine Or.inl ⟨f1, ?_, ?_⟩
                · intro y hy
                  by_cases d : y = x
                  · subst d
                    exact c
                  · exact f2 y (by omega)
                · have f3 : tip off (hs 3) T a2 T 0 = if off x ≠ 0 ∧ ahd off (hs 3) x T = a2 then (x : Int) else tip off (hs 3) T a2 j (x + 1) := f3
                  rw [if_neg c] at f3
                  exact f3
              · exact Or.inr ⟨y, f1, by omega, f3, f4, f5⟩
            refine k45 _ _ _ ⟨(by unfold inR; omega), (show inR (hm 0 15) by unfold inR; omega), bf (show ¬ hm 0 15 ≤ x by omega) ⟨_, o3, (by unfold inR; omega), ?_, ?_⟩⟩
            · intro c
              exact keep (fun u => u.1 c)
            · intro c
              refine ⟨_, q_ahead5 (show hm 0 15 = T by omega) (by omega) hM5 ho0 (show x < T by omega), (by unfold inR; omega), ha2, ?_, ?_⟩
              · intro d
                exact keep (fun u => d u.2)
              · intro d
                refine ih (x + 1) (by omega) x (Or.inr ⟨x, rfl, by omega, c, d, ?_⟩)
                rcases hf with ⟨f1, f2, f3⟩ | ⟨y, f1, f2, f3, f4, f5⟩
                · have f3 : tip off (hs 3) T a2 T 0 = if off x ≠ 0 ∧ ahd off (hs 3) x T = a2 then (x : Int) else tip off (hs 3) T a2 j (x + 1) := f3
                  rw [if_pos ⟨c, d⟩] at f3
                  exact f3
                · rcases bef_t (hs 3) x y (by omega) with u | u
                  · have := (ahd_lt off (hs 3) u c T).2 (by omega)
                    omega
                  · have := (ahd_lt off (hs 3) u f3 T).2 (by omega)
                    omega
        exact key T 0 (by omega) (-1) (Or.inl ⟨rfl, fun y hy => by omega, rfl⟩)
      · intro ok ex hok _
        exact ⟨ha, (by unfold inR; omega), bt ⟨by omega, by omega⟩ ⟨_, q_titles eT (by omega) ho, _, ⟨ob.1, ob.2.1, rfl⟩, ha2, (by unfold inR; omega), bt ⟨by omega, by omega⟩ ⟨_, q_tip ha2 eT (by omega) hM, hok hh hs hr rfl (rel_thrown hR0 0)⟩⟩⟩
    · refine ⟨0, iset hm 0 0 1, ?_, ?_⟩
      · intro V30 V31 V45 k30 k31 k45
        exact w1 (q_isGroup1 (by omega) (by omega) (by omega)) ⟨_, q_offersTo (show hm 0 15 = T by omega) (by omega) ho, w0 (q_isIn0 ha2 (by unfold inR; omega) (by unfold inR; omega) (by omega)) (k30 _ (k31 _ _ (f1 (by unfold inR; omega) (by decide) ⟨rfl, rfl⟩)))⟩
      · intro ok ex _ hex
        exact ⟨ha, (by unfold inR; omega), bt ⟨by omega, by omega⟩ ⟨_, q_titles eT (by omega) ho, _, ⟨ob.1, ob.2.1, rfl⟩, ha2, (by unfold inR; omega), bf (by omega) (hex rfl (rel_thrown hR0 1))⟩⟩
  · refine ⟨0, iset hm 0 0 1, ?_, ?_⟩
    · intro V30 V31 V45 k30 k31 k45
      exact w0 (q_isGroup0 ha (by omega) (by omega)) (k30 _ (k31 _ _ (f1 (by unfold inR; omega) (by decide) ⟨rfl, rfl⟩)))
    · intro ok ex _ hex
      exact ⟨ha, (by unfold inR; omega), bf (by omega) (hex rfl (rel_thrown hR0 1))⟩
