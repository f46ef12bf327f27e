/-- the copy served next, by how many lenders each needs -/
def bst (ti ln : Nat → Int) (t : Int) : Nat → Int
  | 0 => -1
  | x + 1 => if ti x = t ∧ ln x ≠ -1 ∧ (bst ti ln t x = -1 ∨ ln x < ln (bst ti ln t x).toNat) then (x : Int) else bst ti ln t x
theorem bst_b (ti ln : Nat → Int) (t : Int) : ∀ x : Nat, bst ti ln t x = -1 ∨ (0 ≤ bst ti ln t x ∧ bst ti ln t x < x ∧ ti (bst ti ln t x).toNat = t ∧ ln (bst ti ln t x).toNat ≠ -1) := by
  intro x
  induction x with
  | zero => exact Or.inl rfl
  | succ x ih =>
    unfold bst
    split
    · rename_i c
      refine Or.inr ⟨by omega, by omega, ?_, ?_⟩
      · rw [Int.toNat_natCast]
        exact c.1
      · rw [Int.toNat_natCast]
        exact c.2.1
    · rcases ih with u | ⟨u1, u2, u3⟩
      · exact Or.inl u
      · exact Or.inr ⟨u1, by omega, u3⟩
def LnOk (hs hm : ISt) (n : Nat) (ln : Nat → Int) : Prop := ∀ c : Nat, c < n → -1 ≤ ln c ∧ ln c ≤ 15 ∧ (ln c ≠ -1 → whr hs c = 0) ∧ Q_X3_countLenders hs c (ln c) ∧ Q_X5_lendersOf hm c (ln c)
theorem ln_ex {hh hs hr hm : ISt} (hR : RelI hh hs hr hm) {n : Nat} (ho : CopyOk hs n) : ∃ ln : Nat → Int, LnOk hs hm n ln := by
  have h : ∀ c : Nat, ∃ r : Int, c < n → -1 ≤ r ∧ r ≤ 15 ∧ (r ≠ -1 → whr hs c = 0) ∧ Q_X3_countLenders hs c r ∧ Q_X5_lendersOf hm c r := by
    intro c
    by_cases d : c < n
    · obtain ⟨r, h⟩ := lenders_ex hR ho d
      exact ⟨r, fun _ => h⟩
    · exact ⟨0, fun h => absurd h d⟩
  exact ⟨fun c => Classical.choose (h c), fun c hc => Classical.choose_spec (h c) hc⟩
theorem q_best3 {hs hm : ISt} {n : Nat} (ho : CopyOk hs n) {ln : Nat → Int} (hl : LnOk hs hm n ln) {t : Int} (ht : inR t) : Q_X3_bestCopy hs t (bst (hs 5) ln t n) := by
  obtain ⟨e, b, hr⟩ := ho
  intro V8 V40 k8 k40
  have key : ∀ (j x : Nat), x + j = n → ∀ f : Int, ((bst (hs 5) ln t x = -1 ∧ f = 16) ∨ (0 ≤ bst (hs 5) ln t x ∧ f = ln (bst (hs 5) ln t x).toNat)) → V8 (bst (hs 5) ln t x) f x := by
    intro j
    induction j with
    | zero =>
      intro x hx f hf
      have hx : x = n := hx
      subst hx
      exact k8 _ _ _ ⟨(by unfold inR; omega), (by unfold inR; omega), bt (by omega) rfl⟩
    | succ j ih =>
      intro x hx f hf
      obtain ⟨x5, x6, x7⟩ := hr x (by omega)
      obtain ⟨l1, l2, l3, l4, l5⟩ := hl x (by omega)
      have bb := bst_b (hs 5) ln t x
      have fb : inR f ∧ (f = 16 ∨ f ≤ 15) := by
        rcases hf with u | ⟨u1, u2⟩
        · exact ⟨(by unfold inR; omega), Or.inl u.2⟩
        · have := hl (bst (hs 5) ln t x).toNat (by omega)
          exact ⟨(by unfold inR; omega), Or.inr (by omega)⟩
      have st : bst (hs 5) ln t (x + 1) = if hs 5 x = t ∧ ln x ≠ -1 ∧ (bst (hs 5) ln t x = -1 ∨ ln x < ln (bst (hs 5) ln t x).toNat) then (x : Int) else bst (hs 5) ln t x := rfl
      have same : (¬ (hs 5 x = t ∧ ln x ≠ -1 ∧ (bst (hs 5) ln t x = -1 ∨ ln x < ln (bst (hs 5) ln t x).toNat))) → V8 (bst (hs 5) ln t x) f ((x : Int) + 1) := by
        intro c
        have z := ih (x + 1) (by omega) f (by rw [st, if_neg c]; exact hf)
        rw [st, if_neg c] at z
        exact z
      refine k8 _ _ _ ⟨(by unfold inR; omega), (by unfold inR; omega), bf (by omega) ⟨(by unfold inR; omega), ?_⟩⟩
      rw [ina x (by omega)]
      refine ⟨(by unfold inR; omega), ht, ?_, ?_⟩
      · intro c
        exact k40 _ _ _ _ ⟨(by unfold inR; omega), bt rfl (same (fun d => c d.1))⟩
      · intro c
        refine ⟨_, l4, k40 _ _ _ _ ⟨(by unfold inR; omega), ?_, ?_⟩⟩
        · intro d
          exact same (fun z => z.2.1 d)
        · intro d
          refine ⟨(by unfold inR; omega), fb.1, ?_, ?_⟩
          · intro g
            refine same (fun z => ?_)
            rcases z.2.2 with u | u
            · omega
            · omega
          · intro g
            have cc : hs 5 x = t ∧ ln x ≠ -1 ∧ (bst (hs 5) ln t x = -1 ∨ ln x < ln (bst (hs 5) ln t x).toNat) := ⟨c, d, by omega⟩
            have z := ih (x + 1) (by omega) (ln x) (by rw [st, if_pos cc, Int.toNat_natCast]; exact Or.inr ⟨by omega, rfl⟩)
            rw [st, if_pos cc] at z
            exact z
  exact key n 0 (by omega) 16 (Or.inl ⟨rfl, rfl⟩)
theorem q_best5 {hs hm : ISt} {n : Nat} (b : n ≤ 16) (e19 : hm 0 19 = n) (e12 : ∀ c : Nat, c < n → hm 12 c = hs 5 c ∧ inR (hs 5 c)) {ln : Nat → Int} (hl : LnOk hs hm n ln) {t : Int} (ht : inR t) : Q_X5_bestCopy hm t (bst (hs 5) ln t n) := by
  intro V4 V31 k4 k31
  have key : ∀ (j x : Nat), x + j = n → V4 (bst (hs 5) ln t x) x := by
    intro j
    induction j with
    | zero =>
      intro x hx
      have hx : x = n := hx
      subst hx
      exact k4 _ _ ⟨(by unfold inR; omega), (by unfold inR; omega), bt (by omega) rfl⟩
    | succ j ih =>
      intro x hx
      obtain ⟨l1, l2, l3, l4, l5⟩ := hl x (by omega)
      obtain ⟨m1, m2⟩ := e12 x (by omega)
      have bb := bst_b (hs 5) ln t x
      have st : bst (hs 5) ln t (x + 1) = if hs 5 x = t ∧ ln x ≠ -1 ∧ (bst (hs 5) ln t x = -1 ∨ ln x < ln (bst (hs 5) ln t x).toNat) then (x : Int) else bst (hs 5) ln t x := rfl
      have z := ih (x + 1) (by omega)
      have same : (¬ (hs 5 x = t ∧ ln x ≠ -1 ∧ (bst (hs 5) ln t x = -1 ∨ ln x < ln (bst (hs 5) ln t x).toNat))) → V4 (bst (hs 5) ln t x) ((x : Int) + 1) := by
        intro c
        rw [st, if_neg c] at z
        exact z
      have take : (hs 5 x = t ∧ ln x ≠ -1 ∧ (bst (hs 5) ln t x = -1 ∨ ln x < ln (bst (hs 5) ln t x).toNat)) → V4 x ((x : Int) + 1) := by
        intro c
        rw [st, if_pos c] at z
        exact z
      refine k4 _ _ ⟨(by unfold inR; omega), (by unfold inR; omega), bf (by omega) ⟨by omega, ?_⟩⟩
      rw [Int.toNat_natCast, m1]
      refine ⟨m2, ht, ?_, ?_⟩
      · intro c
        exact k31 _ _ _ ⟨(by unfold inR; omega), bt rfl (same (fun d => c d.1))⟩
      · intro c
        refine ⟨_, l5, k31 _ _ _ ⟨(by unfold inR; omega), ?_, ?_⟩⟩
        · intro d
          exact same (fun z => z.2.1 d)
        · intro d
          refine ⟨(by unfold inR; omega), ?_, ?_⟩
          · intro g
            exact take ⟨c, d, Or.inl g⟩
          · intro g
            rcases bb with u | ⟨u1, u2, u3, u4⟩
            · exact absurd u g
            · obtain ⟨y, ey⟩ := nat_of u1
              rw [ey, Int.toNat_natCast] at u3 u4
              rw [ey] at u2
              have hy := hl y (by omega)
              rw [ey] at same ⊢
              rw [ey, Int.toNat_natCast] at take
              rw [Int.toNat_natCast] at same
              refine ⟨ln y, hy.2.2.2.2, (by unfold inR; omega), (by unfold inR; omega), ?_, ?_⟩
              · intro g2
                refine same (fun z => ?_)
                rcases z.2.2 with v | v
                · omega
                · omega
              · intro g2
                exact take ⟨c, d, Or.inr (by omega)⟩
  exact key n 0 (by omega)
/-- what is offered to a group -/
theorem offered_ex {hh hs hr hm : ISt} (hR : RelI hh hs hr hm) {n : Nat} (ho : CopyOk hs n) {ln : Nat → Int} (hl : LnOk hs hm n ln) {g t : Nat} (hg : (g : Int) < hh 0 2) (ht : (t : Int) < hs 0 0) :
    ∃ r : Int, (r = 0 ∨ r = 1) ∧ Q_X4_isOffered hh hs hr g t r ∧ Q_X5_isOffered hm g t r ∧ (r = 1 → hh 6 g = 1 ∧ hm 7 g = -1 ∧ bst (hs 5) ln t n ≠ -1) := by
  have hR0 := hR
  obtain ⟨⟨⟨e01, b01, b01'⟩, ⟨e04, b4, b4'⟩, ⟨e10, b10, b10'⟩, hT, hT2, hT3, hG, hG0, hG3⟩, ⟨⟨e15, b15, b15'⟩, ⟨e19, b19, b19'⟩, hS1, hS2, hS3, hS4, hS5, hS6, hS7⟩, ⟨hO1, hO2⟩, hL, hF⟩ := hR
  obtain ⟨⟨p3, p3a, p3b⟩, ⟨p4, p4a, p4b⟩, ⟨p5, p5a, p5b⟩, p6⟩ := hG g hg
  obtain ⟨s1, s2⟩ := hG3 g (by omega)
  obtain ⟨⟨t1, t1a, t1b⟩, ⟨t2, t2a, t2b⟩, ⟨t3, t3a, t3b⟩⟩ := hS1 t ht
  have q3 := q_best3 ho hl (t := t) (by unfold inR; omega)
  have en := ho.1
  have bn := ho.2.1
  have q5 := q_best5 (hm := hm) bn (by omega) (fun c hc => ⟨(hS3 c (by omega)).1.1, by have := (ho.2.2 c hc).1; unfold inR; omega⟩) hl (t := t) (by unfold inR; omega)
  have bb := bst_b (hs 5) ln t n
  have rb : inR (bst (hs 5) ln t n) := by unfold inR; omega
  have r7 : inR (hm 7 g) := by
    rcases hO1 g hg with u | u
    · unfold inR; omega
    · unfold inR; omega
  have i6 : iat 30 (hh 6) g = hh 6 g := ina g (by omega)
  have i5 : iat 30 (hh 5) g = hh 5 g := ina g (by omega)
  have i3 : iat 30 (hh 3) g = hh 3 g := ina g (by omega)
  have seat1 : hh 6 g = 1 → Q_X0_isSeated hh g 1 := fun c => ⟨(by unfold inR; omega), by rw [i6]; unfold inR; omega, by rw [i6]; exact nf c rfl⟩
  have seat0 : hh 6 g ≠ 1 → Q_X0_isSeated hh g 0 := fun c => ⟨(by unfold inR; omega), by rw [i6]; unfold inR; omega, by rw [i6]; exact nt c rfl⟩
  by_cases c1 : hh 6 g = 1
  · have p6 := p6 c1
    by_cases c2 : hm 7 g = -1
    · -- the minutes left
      have lf : Q_X5_leftOf hm g (imax (hh 5 g - hh 0 0) 0) := by
        refine ⟨by omega, by omega, ?_⟩
        rw [Int.toNat_natCast]
        refine ⟨(by unfold inR; omega), ?_, ?_⟩
        · intro c
          unfold imax
          rw [if_neg (by omega)]
          omega
        · intro c
          unfold imax
          rw [if_pos (by omega)]
      have ml : Q_X0_minutesLeft hh g (imax (hh 5 g - hh 0 0) 0) := by
        refine ⟨(by unfold inR; omega), ?_⟩
        rw [i5]
        exact ⟨(by unfold inR; omega), rfl⟩
      have lb : inR (imax (hh 5 g - hh 0 0) 0) := by
        unfold imax inR
        split <;> omega
      have j1 : iat 8 (hs 1) t = hs 1 t := ina t (by omega)
      have j2 : iat 8 (hs 2) t = hs 2 t := ina t (by omega)
      have j3 : iat 8 (hs 3) t = hs 3 t := ina t (by omega)
      by_cases c3 : hs 1 t ≤ hh 3 g ∧ hh 3 g ≤ hs 2 t
      · by_cases c4 : imax (hh 5 g - hh 0 0) 0 < hs 3 t
        · refine ⟨0, Or.inl rfl, ?_, ?_, fun c => by omega⟩
          · refine ⟨1, seat1 c1, R1, bf n10 ⟨_, q_held hR0 hg, r7, nf c2 ⟨(by unfold inR; omega), _, ml, 0, ?_, R0, bt rfl rfl⟩⟩⟩
            unfold Q_X3_suits
            rw [i3, j1, j2, j3]
            exact ⟨(by unfold inR; omega), (by unfold inR; omega), (by unfold inR; omega), bf (by omega) ⟨(by unfold inR; omega), (by unfold inR; omega), (by unfold inR; omega), bf (by omega) ⟨(by unfold inR; omega), lb, (by unfold inR; omega), bt c4 rfl⟩⟩⟩
          · intro V48 V49 k48 k49
            refine ⟨by omega, ?_⟩
            rw [Int.toNat_natCast, Int.toNat_natCast, p5]
            refine ⟨(by unfold inR; omega), nf c1 ⟨by omega, r7, nf c2 ⟨by omega, by omega, by omega, 1, q_isIn1 (by unfold inR; omega) (by unfold inR; omega) (by unfold inR; omega) (by omega), R1, bf n10 (k49 _ ⟨R1, bf n10 ⟨_, lf, by omega, lb, ?_⟩⟩)⟩⟩⟩
            rw [Int.toNat_natCast, t3]
            exact ⟨(by unfold inR; omega), bt c4 rfl⟩
        · by_cases c5 : bst (hs 5) ln t n = -1
          · refine ⟨0, Or.inl rfl, ?_, ?_, fun c => by omega⟩
            · refine ⟨1, seat1 c1, R1, bf n10 ⟨_, q_held hR0 hg, r7, nf c2 ⟨(by unfold inR; omega), _, ml, 1, ?_, R1, bf n10 ⟨_, q3, rb, bt c5 rfl⟩⟩⟩⟩
              unfold Q_X3_suits
              rw [i3, j1, j2, j3]
              exact ⟨(by unfold inR; omega), (by unfold inR; omega), (by unfold inR; omega), bf (by omega) ⟨(by unfold inR; omega), (by unfold inR; omega), (by unfold inR; omega), bf (by omega) ⟨(by unfold inR; omega), lb, (by unfold inR; omega), bf c4 rfl⟩⟩⟩
            · intro V48 V49 k48 k49
              refine ⟨by omega, ?_⟩
              rw [Int.toNat_natCast, Int.toNat_natCast, p5]
              refine ⟨(by unfold inR; omega), nf c1 ⟨by omega, r7, nf c2 ⟨by omega, by omega, by omega, 1, q_isIn1 (by unfold inR; omega) (by unfold inR; omega) (by unfold inR; omega) (by omega), R1, bf n10 (k49 _ ⟨R1, bf n10 ⟨_, lf, by omega, lb, ?_⟩⟩)⟩⟩⟩
              rw [Int.toNat_natCast, t3]
              exact ⟨(by unfold inR; omega), bf c4 ⟨_, q5, rb, bt c5 rfl⟩⟩
          · refine ⟨1, Or.inr rfl, ?_, ?_, fun c => ⟨c1, c2, c5⟩⟩
            · refine ⟨1, seat1 c1, R1, bf n10 ⟨_, q_held hR0 hg, r7, nf c2 ⟨(by unfold inR; omega), _, ml, 1, ?_, R1, bf n10 ⟨_, q3, rb, bf c5 rfl⟩⟩⟩⟩
              unfold Q_X3_suits
              rw [i3, j1, j2, j3]
              exact ⟨(by unfold inR; omega), (by unfold inR; omega), (by unfold inR; omega), bf (by omega) ⟨(by unfold inR; omega), (by unfold inR; omega), (by unfold inR; omega), bf (by omega) ⟨(by unfold inR; omega), lb, (by unfold inR; omega), bf c4 rfl⟩⟩⟩
            · intro V48 V49 k48 k49
              refine ⟨by omega, ?_⟩
              rw [Int.toNat_natCast, Int.toNat_natCast, p5]
              refine ⟨(by unfold inR; omega), nf c1 ⟨by omega, r7, nf c2 ⟨by omega, by omega, by omega, 1, q_isIn1 (by unfold inR; omega) (by unfold inR; omega) (by unfold inR; omega) (by omega), R1, bf n10 (k49 _ ⟨R1, bf n10 ⟨_, lf, by omega, lb, ?_⟩⟩)⟩⟩⟩
              rw [Int.toNat_natCast, t3]
              exact ⟨(by unfold inR; omega), bf c4 ⟨_, q5, rb, bf c5 rfl⟩⟩
      · refine ⟨0, Or.inl rfl, ?_, ?_, fun c => by omega⟩
        · refine ⟨1, seat1 c1, R1, bf n10 ⟨_, q_held hR0 hg, r7, nf c2 ⟨(by unfold inR; omega), _, ml, 0, ?_, R0, bt rfl rfl⟩⟩⟩
          unfold Q_X3_suits
          rw [i3, j1, j2, j3]
          exact ⟨(by unfold inR; omega), (by unfold inR; omega), (by unfold inR; omega), fun _ => rfl, fun d1 => ⟨(by unfold inR; omega), (by unfold inR; omega), (by unfold inR; omega), fun _ => rfl, fun d2 => absurd ⟨by omega, by omega⟩ c3⟩⟩
        · intro V48 V49 k48 k49
          refine ⟨by omega, ?_⟩
          rw [Int.toNat_natCast, Int.toNat_natCast, p5]
          exact ⟨(by unfold inR; omega), nf c1 ⟨by omega, r7, nf c2 ⟨by omega, by omega, by omega, 0, q_isIn0 (by unfold inR; omega) (by unfold inR; omega) (by unfold inR; omega) (by omega), R0, bt rfl (k48 (k49 _ ⟨R0, bt rfl rfl⟩))⟩⟩⟩
    · refine ⟨0, Or.inl rfl, ⟨1, seat1 c1, R1, bf n10 ⟨_, q_held hR0 hg, r7, nt c2 rfl⟩⟩, ?_, fun c => by omega⟩
      intro V48 V49 k48 k49
      refine ⟨by omega, ?_⟩
      rw [Int.toNat_natCast, p5]
      exact ⟨(by unfold inR; omega), nf c1 ⟨by omega, r7, nt c2 (k48 (k49 _ ⟨R0, bt rfl rfl⟩))⟩⟩
  · refine ⟨0, Or.inl rfl, ⟨0, seat0 c1, R0, bt rfl rfl⟩, ?_, fun c => by omega⟩
    intro V48 V49 k48 k49
    refine ⟨by omega, ?_⟩
    rw [Int.toNat_natCast, p5]
    exact ⟨(by unfold inR; omega), nt c1 (k48 (k49 _ ⟨R0, bt rfl rfl⟩))⟩
