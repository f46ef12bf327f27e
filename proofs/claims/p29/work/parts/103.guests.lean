/-! GUESTS: who comes, who leaves -/
def L_X0_seatWaiting_4 (h : ISt) (r : Int) (h' : ISt) (q0 : ISt) (q1 : Int) (q2 : Int) : Prop := ∀ V4 : ISt → Int → Int → Prop, (∀ hv : ISt, ∀ x1 x2 : Int, (inR x2 ∧ inR (hv 0 2) ∧ (((hv 0 2) ≤ x2 → (r = x1 ∧ h' = hv)) ∧ (¬ (hv 0 2) ≤ x2 → (inR x2 ∧ (inR (iat 30 (hv 6) x2) ∧ ((¬ (iat 30 (hv 6) x2) = (0 : Int) → (V4 hv x1 (x2 + (1 : Int)))) ∧ ((iat 30 (hv 6) x2) = (0 : Int) → (∃ (r2 : Int) (h3 : ISt), Q_X0_seatIfPossible hv x2 r2 h3 ∧ (inR r2 ∧ ((r2 = (0 : Int) → (V4 h3 x1 (x2 + (1 : Int)))) ∧ (¬ r2 = (0 : Int) → (V4 h3 (x1 + (1 : Int)) (x2 + (1 : Int)))))))))))))) → V4 hv x1 x2) → V4 q0 q1 q2
theorem fit_same {h k : ISt} (e1 : k 1 = h 1) (e2 : k 2 = h 2) {T : Nat} {p w : Int} {m f : Nat} : Fit k T p w m f ↔ Fit h T p w m f := by
  unfold Fit
  rw [e1, e2]
theorem wst_same {h k : ISt} (e1 : k 1 = h 1) (e2 : k 2 = h 2) {T : Nat} {p r : Int} (q : Wst k T p r) : Wst h T p r := by
  unfold Wst Fit at q ⊢
  rw [e1, e2] at q
  exact q
theorem cnt_last (f : Nat → Int) (a : Int) (n : Nat) : cnt f a (n + 1) 0 = cnt f a n 0 + (if f n = a then 1 else 0) := by
  rw [cnt_app f a 1 n 0, Nat.zero_add]
  show _ + ((if f n = a then 1 else 0) + 0) = _
  omega
def came (h : ISt) (G : Nat) (p mi : Int) : ISt := iset (iset (iset h 0 2 ((G : Int) + 1)) 3 G p) 4 G mi
theorem came_i {h : ISt} {T G : Nat} (hi : HallI h T G) (hG : G < 30) {p mi : Int} (hp : 1 ≤ p ∧ p ≤ 12) (hm : 10 ≤ mi ∧ mi ≤ 600) : HallI (came h G p mi) T (G + 1) := by
  obtain ⟨a1, a2, a3, a4, a5, a6, a7, a8, a9, a10, a11⟩ := hi
  have g0 := a9 G (by omega) hG
  refine ⟨a1, a2, ⟨?_, by omega⟩, a4, a5, a6, ?_, a8, fun x h1 h2 => a9 x (by omega) h2, a10, ?_⟩
  · show (G : Int) + 1 = ((G + 1 : Nat) : Int)
    omega
  · intro x hx
    show (1 ≤ iupd (h 3) G p x ∧ iupd (h 3) G p x ≤ 12) ∧ (10 ≤ iupd (h 4) G mi x ∧ iupd (h 4) G mi x ≤ 600) ∧ (0 ≤ h 6 x ∧ h 6 x ≤ 2)
    by_cases c : x = G
    · subst c
      rw [u_eq, u_eq]
      omega
    · rw [u_ne c, u_ne c]
      exact a7 x (by omega)
  · intro x hx c
    have c : h 6 x = 1 := c
    by_cases e : x = G
    · subst e
      omega
    · obtain ⟨f, m, q1, q2, q3, q4⟩ := a11 x (by omega) c
      refine ⟨f, m, q1, q2, q3, ?_⟩
      show iupd (h 3) G p x ≤ _
      rw [u_ne e]
      exact q4
theorem welcome_ex {h : ISt} {T G : Nat} (hi : HallI h T G) (hG : G < 30) {p mi : Int} (hp : 1 ≤ p ∧ p ≤ 12) (hm : 10 ≤ mi ∧ mi ≤ 600) : ∃ h' : ISt, Q_X0_welcome h p mi G h' ∧ HallI h' T (G + 1) ∧ (∀ x : Nat, x ≠ G → h' 6 x = h 6 x) ∧ h' 1 = h 1 ∧ h' 3 = iupd (h 3) G p ∧ h' 0 0 = h 0 0 ∧
    ∃ r : Int, Wst h T p r ∧ ((r = -1 ∧ h' 6 G = 0 ∧ cnt (h' 6) 0 (G + 1) 0 = cnt (h 6) 0 G 0 + 1) ∨ (0 ≤ r ∧ h' 6 G = 1 ∧ cnt (h' 6) 0 (G + 1) 0 = cnt (h 6) 0 G 0 ∧ ∃ f m : Nat, 1 ≤ m ∧ f + m ≤ T ∧ (∀ t : Nat, t < T → (h' 2 t = G ↔ f ≤ t ∧ t < f + m)) ∧ ssum (h 1) f m - m + 1 = p + r)) := by
  have hc := came_i hi hG hp hm
  have g0 : h 6 G = 0 := hi.2.2.2.2.2.2.2.2.1 G (by omega) hG
  have c0 : came h G p mi 6 G = 0 := g0
  have e02 : h 0 2 = G := hi.2.2.1.1
  have c3 : came h G p mi 3 G = p := by
    show iupd (h 3) G p G = p
    exact u_eq _ _ _
  have cl : cnt (came h G p mi 6) 0 (G + 1) 0 = cnt (h 6) 0 G 0 + 1 := by
    show cnt (h 6) 0 (G + 1) 0 = _
    rw [cnt_last, if_pos g0]
  obtain ⟨r, h', q1, q2, q3, ⟨k0, k1, k3, k4⟩, q5⟩ := sip_ex hc (by omega : G < G + 1) c0
  have qw : Q_X0_welcome h p mi G h' := by
    refine fa ⟨(by unfold inR; omega), fp G e02 hG rfl ⟨(by unfold inR; omega), fp G e02 hG rfl ?_⟩⟩
    rw [e02]
    exact ⟨r, h', q1, rfl, rfl⟩
  refine ⟨h', qw, q2, q3, k1, k3, congrFun k0 0, ?_⟩
  rw [c3] at q5
  rcases q5 with ⟨_, e, w⟩ | ⟨_, s1, s2, w, f, m, w1, w2, w3, w4, w5, w6⟩
  · exact ⟨-1, wst_same (k := came h G p mi) (h := h) rfl rfl w, Or.inl ⟨rfl, by rw [e]; exact c0, by rw [e]; exact cl⟩⟩
  · exact ⟨w, wst_same (k := came h G p mi) (h := h) rfl rfl w1, Or.inr ⟨w2, s1, by omega, f, m, w3, w4, w5, w6⟩⟩
theorem sw_ex {h0 : ISt} {T G : Nat} : ∀ (j x : Nat) (hv : ISt) (x1 : Int), x + j = G → HallI hv T G → ∃ (r : Int) (h' : ISt), L_X0_seatWaiting_4 h0 r h' hv x1 x ∧ HallI h' T G ∧ (h' 0 = hv 0 ∧ h' 1 = hv 1 ∧ h' 3 = hv 3 ∧ h' 4 = hv 4) ∧ (∀ y : Nat, h' 6 y = hv 6 y ∨ (hv 6 y = 0 ∧ h' 6 y = 1)) ∧ cnt (h' 6) 0 G 0 = cnt (hv 6) 0 G 0 - (r - x1) ∧ x1 ≤ r := by
  intro j
  induction j with
  | zero =>
    intro x hv x1 hx hi
    have hx : x = G := hx
    subst hx
    have b := hi.2.2.1
    refine ⟨x1, hv, fun V k => k _ _ _ ⟨(by unfold inR; omega), (by unfold inR; omega), bt (by omega) ⟨rfl, rfl⟩⟩, hi, ⟨rfl, rfl, rfl, rfl⟩, fun _ => Or.inl rfl, by omega, by omega⟩
  | succ j ih =>
    intro x hv x1 hx hi
    have b := hi.2.2.1
    have b6 := (hi.2.2.2.2.2.2.1 x (by omega)).2.2
    by_cases c : hv 6 x = 0
    · obtain ⟨r, h1, q1, q2, q3, ⟨k0, k1, k3, k4⟩, q5⟩ := sip_ex hi (by omega : x < G) c
      have q6 : ∀ y : Nat, h1 6 y = hv 6 y ∨ (hv 6 y = 0 ∧ h1 6 y = 1) := by
        intro y
        by_cases e : y = x
        · subst e
          rcases q5 with ⟨_, e, _⟩ | ⟨_, s1, _⟩
          · exact Or.inl (by rw [e])
          · exact Or.inr ⟨c, s1⟩
        · exact Or.inl (q3 y e)
      have fin : ∀ x1' : Int, x1 ≤ x1' → cnt (h1 6) 0 G 0 = cnt (hv 6) 0 G 0 - (x1' - x1) → (∀ (r' : Int) (h' : ISt), L_X0_seatWaiting_4 h0 r' h' h1 x1' ((x + 1 : Nat) : Int) → L_X0_seatWaiting_4 h0 r' h' hv x1 x) → ∃ (r : Int) (h' : ISt), L_X0_seatWaiting_4 h0 r h' hv x1 x ∧ HallI h' T G ∧ (h' 0 = hv 0 ∧ h' 1 = hv 1 ∧ h' 3 = hv 3 ∧ h' 4 = hv 4) ∧ (∀ y : Nat, h' 6 y = hv 6 y ∨ (hv 6 y = 0 ∧ h' 6 y = 1)) ∧ cnt (h' 6) 0 G 0 = cnt (hv 6) 0 G 0 - (r - x1) ∧ x1 ≤ r := by
        intro x1' l1 l2 l3
        obtain ⟨r', h', z1, z2, ⟨y0, y1, y3, y4⟩, z4, z5, z6⟩ := ih (x + 1) h1 x1' (by omega) q2
        refine ⟨r', h', l3 r' h' z1, z2, ⟨y0.trans k0, y1.trans k1, y3.trans k3, y4.trans k4⟩, fun y => ?_, by omega, by omega⟩
        have u := z4 y
        have v := q6 y
        omega
      rcases q5 with ⟨r0, e, _⟩ | ⟨r1, s1, s2, _⟩
      · subst r0
        refine fin x1 (by omega) (by rw [e]; omega) (fun r' h' hL V k => k _ _ _ ⟨(by unfold inR; omega), (by unfold inR; omega), bf (by omega) ⟨(by unfold inR; omega), ?_⟩⟩)
        rw [ina x (by omega)]
        exact ⟨(by unfold inR; omega), nf c ⟨0, h1, q1, R0, fun _ => hL V k, fun d => absurd rfl d⟩⟩
      · subst r1
        refine fin (x1 + 1) (by omega) (by omega) (fun r' h' hL V k => k _ _ _ ⟨(by unfold inR; omega), (by unfold inR; omega), bf (by omega) ⟨(by unfold inR; omega), ?_⟩⟩)
        rw [ina x (by omega)]
        exact ⟨(by unfold inR; omega), nf c ⟨1, h1, q1, R1, fun d => absurd d n10, fun _ => hL V k⟩⟩
    · obtain ⟨r', h', z1, z2, z3, z4, z5, z6⟩ := ih (x + 1) hv x1 (by omega) hi
      refine ⟨r', h', fun V k => k _ _ _ ⟨(by unfold inR; omega), (by unfold inR; omega), bf (by omega) ⟨(by unfold inR; omega), ?_⟩⟩, z2, z3, z4, z5, z6⟩
      rw [ina x (by omega)]
      exact ⟨(by unfold inR; omega), nt c (z1 V k)⟩
def left (h : ISt) (T g : Nat) : ISt := frow (iset h 6 g 2) 2 (freed (h 2) T g)
theorem left_i {h : ISt} {T G g : Nat} (hi : HallI h T G) (hg : g < G) : HallI (left h T g) T G := by
  obtain ⟨a1, a2, a3, a4, a5, a6, a7, a8, a9, a10, a11⟩ := hi
  have f2 : ∀ t : Nat, left h T g 2 t = if t < T ∧ h 2 t = g then -1 else h 2 t := fun _ => rfl
  have f6 : left h T g 6 = iupd (h 6) g 2 := rfl
  refine ⟨a1, a2, a3, ?_, a5, ?_, ?_, a8, ?_, ?_, ?_⟩
  · intro t ht
    rw [f2]
    have := a4 t ht
    split <;> omega
  · intro t h1 h2
    rw [f2, if_neg (by omega)]
    exact a6 t h1 h2
  · intro x hx
    have := a7 x hx
    refine ⟨this.1, this.2.1, ?_⟩
    rw [f6]
    unfold iupd
    split <;> omega
  · intro x h1 h2
    rw [f6, u_ne (by omega)]
    exact a9 x h1 h2
  · intro x hx c t ht
    rw [f2]
    rw [f6] at c
    by_cases e : x = g
    · subst e
      by_cases d : t < T
      · split <;> omega
      · have := a6 t (by omega) ht
        split <;> omega
    · rw [u_ne e] at c
      have := a10 x hx c t ht
      split <;> omega
  · intro x hx c
    rw [f6] at c
    by_cases e : x = g
    · rw [e, u_eq] at c
      omega
    · rw [u_ne e] at c
      obtain ⟨f, m, q1, q2, q3, q4⟩ := a11 x hx c
      refine ⟨f, m, q1, q2, fun t ht => ?_, q4⟩
      have q := q3 t ht
      rw [f2]
      split
      · constructor
        · intro y; omega
        · intro y
          have := q.mpr y
          omega
      · exact q
theorem dismiss_ex {h : ISt} {T G g : Nat} (hi : HallI h T G) (hg : g < G) : ∃ (r : Int) (h' : ISt), Q_X0_dismiss h g r h' ∧ HallI h' T G ∧ (h' 0 = h 0 ∧ h' 1 = h 1 ∧ h' 3 = h 3 ∧ h' 4 = h 4) ∧ h' 6 g = 2 ∧ (∀ y : Nat, y ≠ g → h' 6 y = h 6 y ∨ (h 6 y = 0 ∧ h' 6 y = 1)) ∧ 0 ≤ r ∧ r ≤ 30 ∧ cnt (h' 6) 0 G 0 = cnt (h 6) 0 G 0 - r - (if h 6 g = 0 then 1 else 0) := by
  have hl := left_i hi hg
  obtain ⟨a1, a2, a3, a4, a5, a6, a7, a8⟩ := id hi
  have f6 : left h T g 6 = iupd (h 6) g 2 := rfl
  obtain ⟨r, h', q1, q2, q3, q4, q5, q6⟩ := sw_ex (h0 := left h T g) G 0 (left h T g) 0 (by omega) hl
  have cl : cnt (left h T g 6) 0 G 0 = cnt (h 6) 0 G 0 - (if h 6 g = 0 then 1 else 0) := by
    rw [f6, cnt_in G 0 (by omega) (by omega), if_neg (show ¬ (2 : Int) = 0 by omega)]
    omega
  have g2 : h' 6 g = 2 := by
    have := q4 g
    rw [f6, u_eq] at this
    omega
  refine ⟨r, h', ?_, q2, q3, g2, ?_, q6, ?_, by omega⟩
  · intro V k
    refine ⟨(by unfold inR; omega), fp g rfl (by omega) rfl ?_⟩
    have key : ∀ (j x : Nat), x + j = T → V (frow (iset h 6 g 2) 2 (freed (h 2) x g)) x := by
      intro j
      induction j with
      | zero =>
        intro x hx
        have hx : x = T := hx
        subst hx
        refine k _ _ ⟨(by unfold inR; omega), ?_, bt ?_ ⟨r, h', q1, rfl, rfl⟩⟩
        · show inR (h 0 1)
          exact (by unfold inR; omega)
        · show h 0 1 ≤ (x : Int)
          omega
      | succ j ih =>
        intro x hx
        have z := ih (x + 1) (by omega)
        have fx : iat 10 (frow (iset h 6 g 2) 2 (freed (h 2) x g) 2) x = h 2 x := by
          rw [ina x (by omega)]
          show freed (h 2) x g x = h 2 x
          exact freed_at _ _ _
        have b := a4 x (by omega)
        refine k _ _ ⟨(by unfold inR; omega), ?_, bf ?_ ⟨(by unfold inR; omega), ?_⟩⟩
        · show inR (h 0 1)
          exact (by unfold inR; omega)
        · show ¬ h 0 1 ≤ (x : Int)
          omega
        · rw [fx]
          refine ⟨(by unfold inR; omega), (by unfold inR; omega), ?_, ?_⟩
          · intro c
            rw [freed_n _ _ _ _ c]
            exact z
          · intro c
            refine ⟨(by unfold inR; omega), fp x rfl (by omega) rfl ?_⟩
            rw [freed_s _ _ _ _ c]
            exact z
    have z := key T 0 (by omega)
    have e : frow (iset h 6 g 2) 2 (freed (h 2) 0 g) = iset h 6 g 2 := freed_0 (iset h 6 g 2) g
    rw [e] at z
    exact z
  · intro y hy
    have := q4 y
    rw [f6, u_ne hy] at this
    exact this
  · have c1 := cnt_b (h' 6) 0 G 0
    have c2 := cnt_b (h 6) 0 G 0
    have : 0 ≤ (if h 6 g = 0 then (1 : Int) else 0) := by split <;> omega
    omega
