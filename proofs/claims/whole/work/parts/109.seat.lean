def frow (h : ISt) (j : Nat) (F : Nat → Int) : ISt := fun i => if i = j then F else h i
def ifill (g : Nat → Int) (a b : Nat) (x : Int) : Nat → Int := fun t => if a ≤ t ∧ t < b then x else g t
theorem ifill_0 (h : ISt) (a : Nat) (x : Int) : frow h 2 (ifill (h 2) a a x) = h := by
  funext i t
  unfold frow ifill
  by_cases c : i = 2
  · subst c
    rw [if_pos rfl, if_neg (by omega)]
  · rw [if_neg c]
theorem ifill_s (h : ISt) (g : Nat → Int) (a b : Nat) (x : Int) (hab : a ≤ b) : iset (frow h 2 (ifill g a b x)) 2 b x = frow h 2 (ifill g a (b + 1) x) := by
  funext i t
  unfold iset frow ifill iupd
  by_cases c : i = 2
  · subst c
    simp only [if_true]
    by_cases d : t = b
    · subst d
      rw [if_pos rfl, if_pos ⟨hab, by omega⟩]
    · rw [if_neg d]
      by_cases e : a ≤ t ∧ t < b
      · rw [if_pos e, if_pos ⟨e.1, by omega⟩]
      · rw [if_neg e, if_neg (by omega)]
  · simp only [c, if_false]
def seated (h : ISt) (a f m : Nat) : ISt := iset (iset (frow h 2 (ifill (h 2) f (f + m) a)) 6 a 1) 5 a (h 0 0 + h 4 a)
theorem q_seat {h : ISt} {a f m : Nat} (ha : a < 30) (hf : f + m ≤ 10) : Q_X0_seat h a f m (seated h a f m) := by
  intro V k
  have key : ∀ (j i : Nat), i + j = m → V (frow h 2 (ifill (h 2) f (f + i) a)) ((f + i : Nat) : Int) := by
    intro j
    induction j with
    | zero =>
      intro i hi
      have hi : i = m := hi
      subst hi
      refine k _ _ ⟨(by unfold inR; omega), (by unfold inR; omega), bt (by omega) ⟨(by unfold inR; omega), fp a rfl ha rfl ⟨(by unfold inR; omega), (by unfold inR; omega), fp a rfl ha ?_ rfl⟩⟩⟩
      rw [ina a ha]
      rfl
    | succ j ih =>
      intro i hi
      have z := ih (i + 1) (by omega)
      refine k _ _ ⟨(by unfold inR; omega), (by unfold inR; omega), bf (by omega) ⟨(by unfold inR; omega), fp (f + i) rfl (by omega) rfl ?_⟩⟩
      rw [ifill_s _ _ _ _ _ (by omega)]
      exact z
  have z := key m 0 (by omega)
  have e : frow h 2 (ifill (h 2) f (f + 0) a) = h := ifill_0 h f a
  rw [e] at z
  exact z
theorem q_sip0 {h : ISt} {n : Nat} (ho : HallOk h n) {a : Nat} (ha : a < 30) (hp : 1 ≤ h 3 a ∧ h 3 a ≤ 12) (c : ∀ w m f, ¬ Fit h n (h 3 a) w m f) : Q_X0_seatIfPossible h a 0 h := by
  intro V22 V33 k22 k33
  rw [ina a ha]
  exact ⟨(by unfold inR; omega), -1, q_leastWaste ho hp (Or.inl ⟨rfl, fun w ⟨m, f, q⟩ => c w m f q⟩), (by unfold inR; omega), nf rfl ⟨rfl, rfl⟩⟩
theorem q_sip1 {h : ISt} {n : Nat} (ho : HallOk h n) {a : Nat} (ha : a < 30) (hp : 1 ≤ h 3 a ∧ h 3 a ≤ 12) {w : Int} {m f : Nat} (c : Best h n (h 3 a) w m f) : Q_X0_seatIfPossible h a 1 (seated h a f m) := by
  have ho' := ho
  obtain ⟨e, b, hT, hs⟩ := ho'
  have wb := fit_b ho hp.1 c.1
  intro V22 V33 k22 k33
  rw [ina a ha]
  refine ⟨(by unfold inR; omega), w, q_leastWaste ho hp (best_least c), (by unfold inR; omega), nt (by omega) ?_⟩
  have mb := c.1.2.1
  have m1 := c.1.1
  have key : ∀ (J k : Nat), 1 ≤ k → k + J = m → V22 h w k := by
    intro J
    induction J with
    | zero =>
      intro k hk hj
      have hj : k = m := hj
      subst hj
      refine k22 _ _ _ ⟨(by unfold inR; omega), (by unfold inR; omega), bf (by omega) ?_⟩
      have inner : ∀ (i g : Nat), g + i = f → V33 h w k g := by
        intro i
        induction i with
        | zero =>
          intro g hg
          have hg : g = f := hg
          subst hg
          obtain ⟨r, q1, q2⟩ := q_wasteAt ho hp hk mb
          have er : r = w := by
            rcases q2 with ⟨u, v⟩ | u
            · exact absurd c.1 (v w)
            · have a1 := u.2.2.2.1
              have a2 := c.1.2.2.2.1
              omega
          subst er
          refine k33 _ _ _ _ ⟨(by unfold inR; omega), (by unfold inR; omega), bf (by omega) ⟨(by unfold inR; omega), r, ?_, (by unfold inR; omega), (by unfold inR; omega), nf rfl ⟨_, q_seat ha (by omega), rfl, rfl⟩⟩⟩
          rw [ina a ha]
          exact q1
        | succ i ih2 =>
          intro g hg
          obtain ⟨r, q1, q2⟩ := q_wasteAt ho hp hk (show g + k ≤ n by omega)
          have rb := isw_b ho hp.1 q2
          have er : r ≠ w := by
            intro er
            subst er
            rcases q2 with ⟨u, v⟩ | u
            · omega
            · have := c.2 _ _ _ u
              unfold Le3 at this
              omega
          refine k33 _ _ _ _ ⟨(by unfold inR; omega), (by unfold inR; omega), bf (by omega) ⟨(by unfold inR; omega), r, ?_, (by unfold inR; omega), (by unfold inR; omega), nt er (ih2 (g + 1) (by omega))⟩⟩
          rw [ina a ha]
          exact q1
      exact inner f 0 (by omega)
    | succ J ih =>
      intro k hk hj
      refine k22 _ _ _ ⟨(by unfold inR; omega), (by unfold inR; omega), bf (by omega) ?_⟩
      have inner : ∀ (i g : Nat), g + i = n + 1 - k → V33 h w k g := by
        intro i
        induction i with
        | zero =>
          intro g hg
          exact k33 _ _ _ _ ⟨(by unfold inR; omega), (by unfold inR; omega), bt (by omega) (ih (k + 1) (by omega) (by omega))⟩
        | succ i ih2 =>
          intro g hg
          obtain ⟨r, q1, q2⟩ := q_wasteAt ho hp hk (show g + k ≤ n by omega)
          have rb := isw_b ho hp.1 q2
          have er : r ≠ w := by
            intro er
            subst er
            rcases q2 with ⟨u, v⟩ | u
            · omega
            · have := c.2 _ _ _ u
              unfold Le3 at this
              omega
          refine k33 _ _ _ _ ⟨(by unfold inR; omega), (by unfold inR; omega), bf (by omega) ⟨(by unfold inR; omega), r, ?_, (by unfold inR; omega), (by unfold inR; omega), nt er (ih2 (g + 1) (by omega))⟩⟩
          rw [ina a ha]
          exact q1
      exact inner (n + 1 - k) 0 (by omega)
  exact key (m - 1) 1 (by omega) (by omega)
def sat (m : ISt) (a : Nat) (w : Int) (f k : Nat) : ISt := iset (iset (frow (stf m w f k) 2 (ifill (m 2) f (f + k) a)) 5 a 1) 6 a (m 0 1)
theorem q_sits1 {m : ISt} {a : Nat} (ha : a < 30) {w : Int} {f k : Nat} (hf : f + k ≤ 10) (q : Q_X5_finds m (m 3 a) 1 (stf m w f k)) : Q_X5_sits m a 1 (sat m a w f k) := by
  intro V kk
  refine ⟨by omega, ?_⟩
  rw [Int.toNat_natCast]
  refine ⟨1, _, q, R1, nt n10 ?_⟩
  have key : ∀ (j i : Nat), i + j = k → V (frow (stf m w f k) 2 (ifill (m 2) f (f + i) a)) ((f + i : Nat) : Int) := by
    intro j
    induction j with
    | zero =>
      intro i hi
      have hi : i = k := hi
      refine kk _ _ ⟨(by unfold inR; omega), (show inR ((f : Int) + k) by unfold inR; omega), bt (show (f : Int) + k ≤ ((f + i : Nat) : Int) by omega) ⟨by omega, fs a rfl rfl ⟨by omega, fs a rfl rfl ⟨rfl, ?_⟩⟩⟩⟩
      rw [hi]
      rfl
    | succ j ih =>
      intro i hi
      have z := ih (i + 1) (by omega)
      refine kk _ _ ⟨(by unfold inR; omega), (show inR ((f : Int) + k) by unfold inR; omega), bf (show ¬ (f : Int) + k ≤ ((f + i : Nat) : Int) by omega) ⟨by omega, fs (f + i) rfl rfl ?_⟩⟩
      rw [ifill_s _ _ _ _ _ (by omega)]
      exact z
  have z := key k 0 (by omega)
  have e : frow (stf m w f k) 2 (ifill (m 2) f (f + 0) a) = stf m w f k := ifill_0 (stf m w f k) f a
  rw [e] at z
  exact z
theorem q_sits0 {m : ISt} {a : Nat} (ha : a < 30) {m' : ISt} (q : Q_X5_finds m (m 3 a) 0 m') : Q_X5_sits m a 0 m' := by
  intro V kk
  refine ⟨by omega, ?_⟩
  rw [Int.toNat_natCast]
  exact ⟨0, _, q, R0, nf rfl ⟨rfl, rfl⟩⟩
theorem seat_rel {hh hs hr hm : ISt} (hR : RelI hh hs hr hm) {g : Nat} (hg : (g : Int) < hh 0 2) (h6 : hh 6 g = 0) :
    ∃ (r : Int) (h' m' : ISt), Q_X0_seatIfPossible hh g r h' ∧ Q_X5_sits hm g r m' ∧ RelI h' hs hr m' ∧ m' 0 0 = hm 0 0 ∧ h' 0 2 = hh 0 2 ∧ ((r = 0 ∧ h' 6 g = 0) ∨ (r = 1 ∧ h' 6 g = 1)) := by
  obtain ⟨n, ho, e4, e2, e1⟩ := hall_ok hR
  have hR0 := hR
  obtain ⟨⟨⟨e01, b01, b01'⟩, ⟨e04, b4, b4'⟩, ⟨e10, b10, b10'⟩, hT, hT2, hT3, hG, hG0, hG3⟩, hS, ⟨hO1, hO2⟩, hL, hF, hSc⟩ := hR
  obtain ⟨⟨p3, p3a, p3b⟩, p4, p5, p6⟩ := hG g hg
  have hp : 1 ≤ hh 3 g ∧ hh 3 g ≤ 12 := ⟨p3a, p3b⟩
  have en := ho.1
  have bn := ho.2.1
  rcases finds_ex (m := hm) ho e4 e2 e1 hSc hp with ⟨c, q⟩ | ⟨w, k, f, c, q⟩
  · rw [← p3] at q
    exact ⟨0, hh, _, q_sip0 ho (by omega) hp c, q_sits0 (by omega) q, rel_stf hR0 (-1) hSc.1 hSc.2, rfl, rfl, Or.inl ⟨rfl, h6⟩⟩
  · rw [← p3] at q
    have mb := c.1.2.1
    refine ⟨1, seated hh g f k, sat hm g w f k, q_sip1 ho (by omega) hp c, q_sits1 (by omega) (by omega) q, ⟨⟨⟨e01, b01, b01'⟩, ⟨e04, b4, b4'⟩, ⟨e10, b10, b10'⟩, ?_, ?_, ?_, ?_, ?_, ?_⟩, hS, ⟨hO1, ?_⟩, hL, hF, (show inR (f : Int) by unfold inR; omega), (show inR (k : Int) by unfold inR; omega)⟩, rfl, rfl, Or.inr ⟨rfl, u_eq _ _ _⟩⟩
    · intro t ht
      show -1 ≤ ifill (hh 2) f (f + k) g t ∧ ifill (hh 2) f (f + k) g t < 30
      have := hT t ht
      unfold ifill
      split <;> omega
    · intro t ht
      have ht : (t : Int) < hh 0 1 := ht
      show ifill (hm 2) f (f + k) g t = ifill (hh 2) f (f + k) g t ∧ hm 1 t = hh 1 t ∧ 2 ≤ hh 1 t ∧ hh 1 t ≤ 6
      have := hT2 t ht
      refine ⟨?_, this.2⟩
      unfold ifill
      split
      · rfl
      · exact this.1
    · intro t ht ht'
      have ht : hh 0 1 ≤ t := ht
      show ifill (hh 2) f (f + k) g t = -1
      unfold ifill
      rw [if_neg (by omega)]
      exact hT3 t ht ht'
    · intro x hx
      have hx : (x : Int) < hh 0 2 := hx
      obtain ⟨q3, q4, q5, q6⟩ := hG x hx
      show (hm 3 x = hh 3 x ∧ 1 ≤ hh 3 x ∧ hh 3 x ≤ 12) ∧ (hm 4 x = hh 4 x ∧ 10 ≤ hh 4 x ∧ hh 4 x ≤ 600) ∧ (iupd (hm 5) g 1 x = iupd (hh 6) g 1 x ∧ 0 ≤ iupd (hh 6) g 1 x ∧ iupd (hh 6) g 1 x ≤ 2) ∧ (iupd (hh 6) g 1 x = 1 → iupd (hh 5) g (hh 0 0 + hh 4 g) x = iupd (hm 6) g (hm 0 1) x + hh 4 x)
      by_cases d : x = g
      · subst d
        rw [u_eq, u_eq, u_eq, u_eq]
        exact ⟨q3, q4, ⟨rfl, by omega, by omega⟩, fun _ => by omega⟩
      · rw [u_ne d, u_ne d, u_ne d, u_ne d]
        exact ⟨q3, q4, q5, q6⟩
    · intro x hx hx'
      have hx : hh 0 2 ≤ x := hx
      show iupd (hh 6) g 1 x = 0 ∧ iupd (hm 5) g 1 x = 0
      rw [u_ne (by omega), u_ne (by omega)]
      exact hG0 x hx hx'
    · intro x hx
      show 0 ≤ iupd (hm 6) g (hm 0 1) x ∧ iupd (hm 6) g (hm 0 1) x ≤ 20000
      by_cases d : x = g
      · subst d
        rw [u_eq]
        omega
      · rw [u_ne d]
        exact hG3 x hx
    · intro x hx hx'
      show iupd (hh 6) g 1 (hs 6 x).toNat = 1
      by_cases d : (hs 6 x).toNat = g
      · rw [d, u_eq]
      · rw [u_ne d]
        exact hO2 x hx hx'
