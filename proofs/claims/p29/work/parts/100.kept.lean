/-! WHAT IS SAID OF THE CLASS ALONE: numbers, finding, fitting, seating, lending, rules -/
/-- where a copy is -/
def whr (s : ISt) (c : Nat) : Int := if s 6 c = -1 then (if s 7 c = -1 then 0 else 2) else 1
theorem R0 : inR 0 := by unfold inR; omega
theorem R1 : inR 1 := by unfold inR; omega
theorem n10 : ¬ (1 : Int) = 0 := by decide
theorem fa {a : ISt} {P : ISt → Prop} (h : P a) : ∀ x : ISt, x = a → P x := by
  intro x e
  subst e
  exact h
theorem y1 {Q A B : Int → Prop} (q : Q 1) (h : A 1) : ∃ r : Int, Q r ∧ (inR r ∧ ((¬ r = 0 → A r) ∧ (r = 0 → B r))) := ⟨1, q, R1, fun _ => h, fun c => absurd c n10⟩
theorem y0 {Q A B : Int → Prop} (q : Q 0) (h : B 0) : ∃ r : Int, Q r ∧ (inR r ∧ ((¬ r = 0 → A r) ∧ (r = 0 → B r))) := ⟨0, q, R0, fun c => absurd rfl c, fun _ => h⟩
theorem w1 {Q A B : Int → Prop} (q : Q 1) (h : B 1) : ∃ r : Int, Q r ∧ (inR r ∧ ((r = 0 → A r) ∧ (¬ r = 0 → B r))) := ⟨1, q, R1, fun c => absurd c n10, fun _ => h⟩
theorem w0 {Q A B : Int → Prop} (q : Q 0) (h : A 0) : ∃ r : Int, Q r ∧ (inR r ∧ ((r = 0 → A r) ∧ (¬ r = 0 → B r))) := ⟨0, q, R0, fun _ => h, fun c => absurd rfl c⟩
theorem bt {C A B : Prop} (c : C) (a : A) : (C → A) ∧ (¬ C → B) := ⟨fun _ => a, fun n => absurd c n⟩
theorem bf {C A B : Prop} (c : ¬ C) (b : B) : (C → A) ∧ (¬ C → B) := ⟨fun n => absurd n c, fun _ => b⟩
theorem nt {C A B : Prop} (c : ¬ C) (a : A) : (¬ C → A) ∧ (C → B) := ⟨fun _ => a, fun n => absurd n c⟩
theorem nf {C A B : Prop} (c : C) (b : B) : (¬ C → A) ∧ (C → B) := ⟨fun n => absurd c n, fun _ => b⟩
theorem ia {N : Nat} {f : Nat → Int} {x : Int} (h0 : 0 ≤ x) (h1 : x < N) : iat N f x = f x.toNat := by
  unfold iat
  rw [if_pos ⟨h0, h1⟩]
theorem io {N : Nat} {f : Nat → Int} {x : Int} (h : ¬ (0 ≤ x ∧ x < N)) : iat N f x = -1 := by
  unfold iat
  rw [if_neg h]
theorem ina {N : Nat} {f : Nat → Int} (x : Nat) (h1 : x < N) : iat N f (x : Int) = f x := by
  unfold iat
  rw [if_pos ⟨by omega, by omega⟩]
  rfl
theorem fp {h : ISt} {j N : Nat} {i x x' : Int} {P : ISt → Prop} (k : Nat) (hk : i = (k : Int)) (h1 : k < N) (hx : x = x') (p : P (iset h j k x')) : ∀ h2 : ISt, h2 = iput h j N i x → P h2 := by
  intro h2 e
  subst e
  subst hx
  have q : iput h j N i x = iset h j k x := by
    unfold iput iset iputf
    rw [if_pos ⟨by omega, by omega⟩, hk]
    rfl
  rw [q]
  exact p
theorem fs {h : ISt} {j : Nat} {i x x' : Int} {P : ISt → Prop} (k : Nat) (hk : i = (k : Int)) (hx : x = x') (p : P (iset h j k x')) : ∀ h2 : ISt, h2 = iset h j i.toNat x → P h2 := by
  intro h2 e
  subst e
  subst hx
  subst hk
  exact p
theorem u_eq (f : Nat → Int) (k : Nat) (x : Int) : iupd f k x k = x := by
  unfold iupd
  rw [if_pos rfl]
theorem u_ne {f : Nat → Int} {k n : Nat} {x : Int} (h : n ≠ k) : iupd f k x n = f n := by
  unfold iupd
  rw [if_neg h]
def u4 (f : Nat → Int) (p : Nat) (x0 x1 x2 x3 : Int) : Nat → Int := iupd (iupd (iupd (iupd f p x0) (p + 1) x1) (p + 2) x2) (p + 3) x3
theorem u4_ne {f : Nat → Int} {p : Nat} {x0 x1 x2 x3 : Int} {i : Nat} (h : i < p ∨ p + 3 < i) : u4 f p x0 x1 x2 x3 i = f i := by
  unfold u4
  rw [u_ne (by omega), u_ne (by omega), u_ne (by omega), u_ne (by omega)]
theorem u4_or (p i : Nat) (hi : i < p + 4) (x0 x1 x2 x3 : Int) : (i < p ∧ ∀ f, u4 f p x0 x1 x2 x3 i = f i) ∨ (i = p ∧ ∀ f, u4 f p x0 x1 x2 x3 i = x0) ∨ (i = p + 1 ∧ ∀ f, u4 f p x0 x1 x2 x3 i = x1) ∨ (i = p + 2 ∧ ∀ f, u4 f p x0 x1 x2 x3 i = x2) ∨ (i = p + 3 ∧ ∀ f, u4 f p x0 x1 x2 x3 i = x3) := by
  have c : i < p ∨ i = p ∨ i = p + 1 ∨ i = p + 2 ∨ i = p + 3 := by omega
  rcases c with c | c | c | c | c
  · exact Or.inl ⟨c, fun f => u4_ne (Or.inl c)⟩
  · subst c
    exact Or.inr (Or.inl ⟨rfl, fun f => by unfold u4; rw [u_ne (by omega), u_ne (by omega), u_ne (by omega), u_eq]⟩)
  · subst c
    exact Or.inr (Or.inr (Or.inl ⟨rfl, fun f => by unfold u4; rw [u_ne (by omega), u_ne (by omega), u_eq]⟩))
  · subst c
    exact Or.inr (Or.inr (Or.inr (Or.inl ⟨rfl, fun f => by unfold u4; rw [u_ne (by omega), u_eq]⟩)))
  · subst c
    exact Or.inr (Or.inr (Or.inr (Or.inr ⟨rfl, fun f => by unfold u4; rw [u_eq]⟩)))
theorem nat_of {a : Int} (h : 0 ≤ a) : ∃ n : Nat, a = n := ⟨a.toNat, by omega⟩
theorem q_putTitle {h : ISt} {a1 a2 a3 : Int} {N : Nat} (e : h 0 0 = N) (b : N < 8) : Q_X3_putTitle h a1 a2 a3 N (iset (iset (iset (iset h 1 N a1) 2 N a2) 3 N a3) 0 0 (N + 1)) := by
  refine ⟨(by unfold inR; omega), fp N e b rfl ⟨?_, fp N (show h 0 0 = N from e) b rfl ⟨?_, fp N (show h 0 0 = N from e) b rfl (fa ⟨?_, ?_⟩)⟩⟩⟩
  · show inR (h 0 0)
    unfold inR
    omega
  · show inR (h 0 0)
    unfold inR
    omega
  · show (N : Int) = h 0 0 + 1 - 1
    omega
  · show _ = iset _ 0 0 (h 0 0 + 1)
    rw [e]
theorem q_setFull {h : ISt} {a3 : Int} {N k : Nat} (b : N < 8) (bk : k < 4) : Q_X3_setFull h N k a3 (iset h 4 (4 * N + k) a3) :=
  ⟨(by unfold inR; omega), fp (4 * N + k) (by omega) (by omega) rfl rfl⟩
theorem q_putCopy {h : ISt} {N A : Nat} (e : h 0 1 = N) (b : N < 16) (bA : A < 8) : Q_X3_putCopy h A N (iset (iset (iset (iset (iset (iset h 0 1 (N + 1)) 5 N A) 9 (4 * N) (h 4 (4 * A))) 9 (4 * N + 1) (h 4 (4 * A + 1))) 9 (4 * N + 2) (h 4 (4 * A + 2))) 9 (4 * N + 3) (h 4 (4 * A + 3))) := by
  intro V k
  refine fa ⟨(by unfold inR; omega), fp N e b rfl ?_⟩
  rw [e]
  refine k _ _ _ ⟨R0, bf (by omega) ⟨(by unfold inR; omega), (by unfold inR; omega), fp (4 * N) (by omega) (by omega) (x' := h 4 (4 * A)) ?_ ?_⟩⟩
  · show iat 32 (h 4) _ = _
    rw [ia (by omega) (by omega)]
    congr 1
    omega
  refine k _ _ _ ⟨(by unfold inR; omega), bf (by omega) ⟨(by unfold inR; omega), (by unfold inR; omega), fp (4 * N + 1) (by omega) (by omega) (x' := h 4 (4 * A + 1)) ?_ ?_⟩⟩
  · show iat 32 (h 4) _ = _
    rw [ia (by omega) (by omega)]
    congr 1
    omega
  refine k _ _ _ ⟨(by unfold inR; omega), bf (by omega) ⟨(by unfold inR; omega), (by unfold inR; omega), fp (4 * N + 2) (by omega) (by omega) (x' := h 4 (4 * A + 2)) ?_ ?_⟩⟩
  · show iat 32 (h 4) _ = _
    rw [ia (by omega) (by omega)]
    congr 1
    omega
  refine k _ _ _ ⟨(by unfold inR; omega), bf (by omega) ⟨(by unfold inR; omega), (by unfold inR; omega), fp (4 * N + 3) (by omega) (by omega) (x' := h 4 (4 * A + 3)) ?_ ?_⟩⟩
  · show iat 32 (h 4) _ = _
    rw [ia (by omega) (by omega)]
    congr 1
    omega
  exact k _ _ _ ⟨(by unfold inR; omega), bt (by omega) ⟨rfl, rfl⟩⟩
theorem q_putRule {h : ISt} {a2 a3 a4 a5 : Int} {A N : Nat} (b : A < 8) (e : h 1 A = N) (bN : N < 12) : Q_X1_putRule h A a2 a3 a4 a5 N (iset (iset (iset (iset (iset h 2 (12 * A + N) a2) 3 (12 * A + N) a3) 4 (12 * A + N) a4) 5 (12 * A + N) a5) 1 A (N + 1)) := by
  unfold Q_X1_putRule
  rw [ina A b, e]
  exact ⟨(by unfold inR; omega), (by unfold inR; omega), fp (12 * A + N) (by omega) (by omega) rfl ⟨(by unfold inR; omega), fp (12 * A + N) (by omega) (by omega) rfl ⟨(by unfold inR; omega), fp (12 * A + N) (by omega) (by omega) rfl ⟨(by unfold inR; omega), fp (12 * A + N) (by omega) (by omega) rfl ⟨(by unfold inR; omega), fp A rfl b rfl ⟨rfl, rfl⟩⟩⟩⟩⟩⟩
theorem q_count {h : ISt} {C k : Nat} (b : C < 16) (bk : k < 4) : Q_X3_count h C k (h 9 (4 * C + k)) := by
  refine ⟨(by unfold inR; omega), ?_⟩
  rw [ia (by omega) (by omega)]
  exact congrArg (h 9) (by omega)
theorem q_lack {h : ISt} {C A k : Nat} (b : C < 16) (e : h 5 C = A) (bA : A < 8) (bk : k < 4) : Q_X3_lack h C k (h 4 (4 * A + k) - h 9 (4 * C + k)) := by
  unfold Q_X3_lack
  rw [ina C b, e]
  refine ⟨(by unfold inR; omega), (by unfold inR; omega), (by unfold inR; omega), ?_⟩
  rw [ia (f := h 4) (by omega) (by omega), ia (f := h 9) (by omega) (by omega)]
  have e1 : (((A : Int) * 4 + k).toNat) = 4 * A + k := by omega
  have e2 : (((C : Int) * 4 + k).toNat) = 4 * C + k := by omega
  rw [e1, e2]
theorem q_change {h : ISt} {C k : Nat} {x : Int} (b : C < 16) (bk : k < 4) : Q_X3_change h C k x (iset h 9 (4 * C + k) (h 9 (4 * C + k) + x)) :=
  ⟨_, q_count b bk, (by unfold inR; omega), fp (4 * C + k) (by omega) (by omega) rfl rfl⟩
/-- the first place that holds a number, from x on; none -/
def fnd (f : Nat → Int) (a : Int) : Nat → Nat → Int
  | 0, _ => -1
  | j + 1, x => if f x = a then (x : Int) else fnd f a j (x + 1)
/-- how many places hold a number, from x on -/
def cnt (f : Nat → Int) (a : Int) : Nat → Nat → Int
  | 0, _ => 0
  | j + 1, x => (if f x = a then 1 else 0) + cnt f a j (x + 1)
theorem fnd_e {f g : Nat → Int} {a : Int} {n : Nat} (h : ∀ x, x < n → f x = g x) : ∀ j x, x + j ≤ n → fnd f a j x = fnd g a j x := by
  intro j
  induction j with
  | zero => intros; rfl
  | succ j ih =>
    intro x hx
    unfold fnd
    rw [h x (by omega), ih (x + 1) (by omega)]
theorem cnt_e {f g : Nat → Int} {a : Int} {n : Nat} (h : ∀ x, x < n → f x = g x) : ∀ j x, x + j ≤ n → cnt f a j x = cnt g a j x := by
  intro j
  induction j with
  | zero => intros; rfl
  | succ j ih =>
    intro x hx
    unfold cnt
    rw [h x (by omega), ih (x + 1) (by omega)]
theorem q_firstTable {h : ISt} {a : Int} (ha : inR a) {n : Nat} (e : h 0 1 = n) (b : n ≤ 10) (hT : ∀ t : Nat, t < 10 → -1 ≤ h 2 t ∧ h 2 t < 30) : Q_X0_firstTable h a (fnd (h 2) a n 0) := by
  intro V k
  have key : ∀ j x : Nat, x + j = n → fnd (h 2) a n 0 = fnd (h 2) a j x → V x := by
    intro j
    induction j with
    | zero =>
      intro x hx hq
      exact k _ ⟨(by unfold inR; omega), (by unfold inR; omega), bt (by omega) hq⟩
    | succ j ih =>
      intro x hx hq
      have t := hT x (by omega)
      have hq : fnd (h 2) a n 0 = if h 2 x = a then (x : Int) else fnd (h 2) a j (x + 1) := hq
      refine k _ ⟨(by unfold inR; omega), (by unfold inR; omega), bf (by omega) ⟨(by unfold inR; omega), ?_⟩⟩
      rw [ina x (by omega)]
      refine ⟨(by unfold inR; omega), ha, ?_, ?_⟩
      · intro c
        rw [if_neg c] at hq
        exact ih (x + 1) (by omega) hq
      · intro c
        rw [if_pos c] at hq
        exact hq
  exact key n 0 (by omega) rfl
theorem q_heldBy {h : ISt} {a : Int} (ha : inR a) {n : Nat} (e : h 0 1 = n) (b : n ≤ 16) (hT : ∀ t : Nat, t < n → inR (h 6 t)) : Q_X3_heldBy h a (fnd (h 6) a n 0) := by
  intro V k
  have key : ∀ j x : Nat, x + j = n → fnd (h 6) a n 0 = fnd (h 6) a j x → V x := by
    intro j
    induction j with
    | zero =>
      intro x hx hq
      exact k _ ⟨(by unfold inR; omega), (by unfold inR; omega), bt (by omega) hq⟩
    | succ j ih =>
      intro x hx hq
      have t := hT x (by omega)
      have hq : fnd (h 6) a n 0 = if h 6 x = a then (x : Int) else fnd (h 6) a j (x + 1) := hq
      refine k _ ⟨(by unfold inR; omega), (by unfold inR; omega), bf (by omega) ⟨(by unfold inR; omega), ?_⟩⟩
      rw [ina x (by omega)]
      refine ⟨t, ha, ?_, ?_⟩
      · intro c
        rw [if_neg c] at hq
        exact ih (x + 1) (by omega) hq
      · intro c
        rw [if_pos c] at hq
        exact hq
  exact key n 0 (by omega) rfl
theorem q_countTables {h : ISt} {a : Int} (ha : inR a) {n : Nat} (e : h 0 1 = n) (b : n ≤ 10) (hT : ∀ t : Nat, t < 10 → -1 ≤ h 2 t ∧ h 2 t < 30) : Q_X0_countTables h a (cnt (h 2) a n 0) := by
  intro V k
  have key : ∀ (j x : Nat) (s : Int), x + j = n → cnt (h 2) a n 0 = s + cnt (h 2) a j x → V s x := by
    intro j
    induction j with
    | zero =>
      intro x s hx hq
      exact k _ _ ⟨(by unfold inR; omega), (by unfold inR; omega), bt (by omega) (hq.trans (Int.add_zero s))⟩
    | succ j ih =>
      intro x s hx hq
      have t := hT x (by omega)
      have hq : cnt (h 2) a n 0 = s + ((if h 2 x = a then 1 else 0) + cnt (h 2) a j (x + 1)) := hq
      refine k _ _ ⟨(by unfold inR; omega), (by unfold inR; omega), bf (by omega) ⟨(by unfold inR; omega), ?_⟩⟩
      rw [ina x (by omega)]
      refine ⟨(by unfold inR; omega), ha, ?_, ?_⟩
      · intro c
        rw [if_neg c] at hq
        exact ih (x + 1) s (by omega) (by omega)
      · intro c
        rw [if_pos c] at hq
        exact ih (x + 1) (s + 1) (by omega) (by omega)
  exact key n 0 0 (by omega) (by omega)
theorem q_countWaiting {h : ISt} {n : Nat} (e : h 0 2 = n) (b : n ≤ 30) (hT : ∀ t : Nat, t < n → inR (h 6 t)) : Q_X0_countWaiting h (cnt (h 6) 0 n 0) := by
  intro V k
  have key : ∀ (j x : Nat) (s : Int), x + j = n → cnt (h 6) 0 n 0 = s + cnt (h 6) 0 j x → V s x := by
    intro j
    induction j with
    | zero =>
      intro x s hx hq
      exact k _ _ ⟨(by unfold inR; omega), (by unfold inR; omega), bt (by omega) (hq.trans (Int.add_zero s))⟩
    | succ j ih =>
      intro x s hx hq
      have t := hT x (by omega)
      have hq : cnt (h 6) 0 n 0 = s + ((if h 6 x = 0 then 1 else 0) + cnt (h 6) 0 j (x + 1)) := hq
      refine k _ _ ⟨(by unfold inR; omega), (by unfold inR; omega), bf (by omega) ⟨(by unfold inR; omega), ?_⟩⟩
      rw [ina x (by omega)]
      refine ⟨t, ?_, ?_⟩
      · intro c
        rw [if_neg c] at hq
        exact ih (x + 1) s (by omega) (by omega)
      · intro c
        rw [if_pos c] at hq
        exact ih (x + 1) (s + 1) (by omega) (by omega)
  exact key n 0 0 (by omega) (by omega)
/-- finding: what it found -/
theorem fnd_or (f : Nat → Int) (a : Int) : ∀ j x : Nat, (fnd f a j x = -1 ∧ ∀ y : Nat, x ≤ y → y < x + j → f y ≠ a) ∨ ∃ y : Nat, fnd f a j x = y ∧ x ≤ y ∧ y < x + j ∧ f y = a := by
  intro j
  induction j with
  | zero => intro x; exact Or.inl ⟨rfl, fun y h h' => by omega⟩
  | succ j ih =>
    intro x
    show ((if f x = a then (x : Int) else fnd f a j (x + 1)) = -1 ∧ _) ∨ ∃ y : Nat, (if f x = a then (x : Int) else fnd f a j (x + 1)) = y ∧ _
    by_cases c : f x = a
    · rw [if_pos c]
      exact Or.inr ⟨x, rfl, by omega, by omega, c⟩
    · rw [if_neg c]
      rcases ih (x + 1) with ⟨p, q⟩ | ⟨y, p, q1, q2, q3⟩
      · refine Or.inl ⟨p, fun y h h' => ?_⟩
        by_cases d : y = x
        · subst d
          exact c
        · exact q y (by omega) (by omega)
      · exact Or.inr ⟨y, p, by omega, by omega, q3⟩
/-- the sum of so many numbers from a place on -/
def ssum (s : Nat → Int) (f : Nat) : Nat → Int
  | 0 => 0
  | l + 1 => ssum s f l + s (f + l)
/-- a row of free tables, and what it wastes -/
def Fit (h : ISt) (n : Nat) (p w : Int) (m f : Nat) : Prop := 1 ≤ m ∧ f + m ≤ n ∧ (∀ t : Nat, f ≤ t → t < f + m → h 2 t = -1) ∧ w = ssum (h 1) f m - m + 1 - p ∧ 0 ≤ w
def IsLeast (S : Int → Prop) (r : Int) : Prop := (r = -1 ∧ ∀ w, ¬ S w) ∨ (S r ∧ ∀ w, S w → r ≤ w)
theorem least_nat (P : Nat → Prop) : ∀ n : Nat, P n → ∃ k, P k ∧ ∀ j, P j → k ≤ j := by
  intro n
  induction n using Nat.strongRecOn with
  | ind n ih =>
    intro hn
    by_cases c : ∃ j, j < n ∧ P j
    · obtain ⟨j, hj, pj⟩ := c
      exact ih j hj pj
    · refine ⟨n, hn, fun j pj => ?_⟩
      by_cases d : j < n
      · exact absurd ⟨j, d, pj⟩ c
      · omega
theorem least_u {S : Int → Prop} (h0 : ∀ w, S w → 0 ≤ w) {r q : Int} (a : IsLeast S r) (b : IsLeast S q) : r = q := by
  rcases a with ⟨a1, a2⟩ | ⟨a1, a2⟩
  · rcases b with ⟨b1, b2⟩ | ⟨b1, b2⟩
    · omega
    · exact absurd b1 (a2 q)
  · rcases b with ⟨b1, b2⟩ | ⟨b1, b2⟩
    · exact absurd a1 (b2 r)
    · have := a2 q b1
      have := b2 r a1
      omega
def Le3 (w : Int) (m f : Nat) (w' : Int) (m' f' : Nat) : Prop := w < w' ∨ (w = w' ∧ (m < m' ∨ (m = m' ∧ f ≤ f')))
def Best (h : ISt) (n : Nat) (p w : Int) (m f : Nat) : Prop := Fit h n p w m f ∧ ∀ w' m' f', Fit h n p w' m' f' → Le3 w m f w' m' f'
theorem best_ex (h : ISt) (n : Nat) (b : n ≤ 10) (p : Int) : (∀ w m f, ¬ Fit h n p w m f) ∨ ∃ w m f, Best h n p w m f := by
  by_cases c : ∃ w m f, Fit h n p w m f
  · obtain ⟨w, m, f, hw⟩ := c
    obtain ⟨k, ⟨w1, m1, f1, q1, e1⟩, k2⟩ := least_nat (fun k => ∃ w m f, Fit h n p w m f ∧ (k : Int) = w * 400 + m * 20 + f) (w * 400 + m * 20 + f).toNat ⟨w, m, f, hw, by have := hw.2.2.2.2; omega⟩
    refine Or.inr ⟨w1, m1, f1, q1, fun w' m' f' q' => ?_⟩
    have z := k2 (w' * 400 + m' * 20 + f').toNat ⟨w', m', f', q', by have := q'.2.2.2.2; omega⟩
    have u1 := q1.2.1
    have u2 := q'.2.1
    have u3 := q1.2.2.2.2
    have u4 := q'.2.2.2.2
    unfold Le3
    omega
  · exact Or.inl fun w m f hw => c ⟨w, m, f, hw⟩
theorem best_least {h : ISt} {n : Nat} {p w : Int} {m f : Nat} (q : Best h n p w m f) : IsLeast (fun w => ∃ m f, Fit h n p w m f) w := by
  refine Or.inr ⟨⟨m, f, q.1⟩, ?_⟩
  rintro w' ⟨m', f', q'⟩
  have := q.2 _ _ _ q'
  unfold Le3 at this
  omega
/-- what wasteAt answers -/
def IsW (h : ISt) (n : Nat) (p : Int) (m f : Nat) (r : Int) : Prop := (r = -1 ∧ ∀ w, ¬ Fit h n p w m f) ∨ Fit h n p r m f
def HallOk (h : ISt) (n : Nat) : Prop := h 0 1 = n ∧ n ≤ 10 ∧ (∀ t : Nat, t < 10 → -1 ≤ h 2 t ∧ h 2 t < 30) ∧ (∀ t : Nat, t < n → 2 ≤ h 1 t ∧ h 1 t ≤ 6)
theorem ssum_b {s : Nat → Int} {n : Nat} (hs : ∀ t : Nat, t < n → 2 ≤ s t ∧ s t ≤ 6) (f : Nat) : ∀ l : Nat, f + l ≤ n → 2 * (l : Int) ≤ ssum s f l ∧ ssum s f l ≤ 6 * l := by
  intro l
  induction l with
  | zero => intro _; exact ⟨by unfold ssum; omega, by unfold ssum; omega⟩
  | succ l ih =>
    intro hl
    have a := ih (by omega)
    have b := hs (f + l) (by omega)
    unfold ssum
    omega
theorem q_wasteAt {h : ISt} {n : Nat} (ho : HallOk h n) {p : Int} (hp : 1 ≤ p ∧ p ≤ 12) {m f : Nat} (hm : 1 ≤ m) (hf : f + m ≤ n) : ∃ r : Int, Q_X0_wasteAt h f m p r ∧ IsW h n p m f r := by
  obtain ⟨e, b, hT, hs⟩ := ho
  by_cases c : ∃ t : Nat, f ≤ t ∧ t < f + m ∧ h 2 t ≠ -1
  · obtain ⟨t0, h0, h1, h2⟩ := c
    refine ⟨-1, ?_, Or.inl ⟨rfl, fun w q => h2 (q.2.2.1 t0 h0 h1)⟩⟩
    intro V k
    have key : ∀ (j x : Nat), x + j = t0 → f ≤ x → ∀ s : Int, V s x := by
      intro j
      induction j with
      | zero =>
        intro x hx hx' s
        have t := hT x (by omega)
        have hx : x = t0 := hx
        refine k _ _ ⟨(by unfold inR; omega), (by unfold inR; omega), bf (by omega) ⟨(by unfold inR; omega), ?_⟩⟩
        rw [ina x (by omega)]
        subst hx
        exact ⟨(by unfold inR; omega), fun c => absurd c h2, fun _ => rfl⟩
      | succ j ih =>
        intro x hx hx' s
        have t := hT x (by omega)
        refine k _ _ ⟨(by unfold inR; omega), (by unfold inR; omega), bf (by omega) ⟨(by unfold inR; omega), ?_⟩⟩
        rw [ina x (by omega)]
        exact ⟨(by unfold inR; omega), fun c => ⟨(by unfold inR; omega), ih (x + 1) (by omega) (by omega) _⟩, fun _ => rfl⟩
    exact key (t0 - f) f (by omega) (by omega) _
  · have fr : ∀ t : Nat, f ≤ t → t < f + m → h 2 t = -1 := by
      intro t ht ht'
      by_cases d : h 2 t = -1
      · exact d
      · exact absurd ⟨t, ht, ht', d⟩ c
    have bb := ssum_b hs f m hf
    have main : ∀ r : Int, (p ≤ 1 - (m : Int) + ssum (h 1) f m → r = 1 - (m : Int) + ssum (h 1) f m - p) → (¬ p ≤ 1 - (m : Int) + ssum (h 1) f m → r = -1) → Q_X0_wasteAt h f m p r := by
      intro r k1 k2 V k
      have key : ∀ (j i : Nat), i + j = m → V (1 - (m : Int) + ssum (h 1) f i) ((f + i : Nat) : Int) := by
        intro j
        induction j with
        | zero =>
          intro i hi
          have hi : i = m := hi
          subst hi
          exact k _ _ ⟨(by unfold inR; omega), (by unfold inR; omega), bt (by omega) ⟨(by unfold inR; omega), (by unfold inR; omega), k1, k2⟩⟩
        | succ j ih =>
          intro i hi
          have z := ih (i + 1) (by omega)
          refine k _ _ ⟨(by unfold inR; omega), (by unfold inR; omega), bf (by omega) ⟨(by unfold inR; omega), ?_⟩⟩
          rw [ina (f := h 2) (f + i) (by omega), ina (f := h 1) (f + i) (by omega), fr (f + i) (by omega) (by omega)]
          refine ⟨(by unfold inR; omega), bt rfl ⟨(by unfold inR; omega), ?_⟩⟩
          have e2 : 1 - (m : Int) + ssum (h 1) f i + h 1 (f + i) = 1 - (m : Int) + ssum (h 1) f (i + 1) := by
            show _ = 1 - (m : Int) + (ssum (h 1) f i + h 1 (f + i))
            omega
          rw [e2]
          exact z
      have z := key m 0 (by omega)
      have e3 : 1 - (m : Int) + ssum (h 1) f 0 = 1 - m := Int.add_zero _
      rw [e3] at z
      exact z
    by_cases d : p ≤ 1 - (m : Int) + ssum (h 1) f m
    · exact ⟨_, main _ (fun _ => rfl) (fun c => absurd d c), Or.inr ⟨hm, hf, fr, by omega, by omega⟩⟩
    · refine ⟨-1, main _ (fun c => absurd c d) (fun _ => rfl), Or.inl ⟨rfl, fun w q => ?_⟩⟩
      have q1 := q.2.2.2.1
      have q2 := q.2.2.2.2
      omega
theorem q_lesser {a b : Int} (ha : -1 ≤ a ∧ a ≤ 100) (hb : -1 ≤ b ∧ b ≤ 100) : ∃ r : Int, Q_X0_lesser a b r ∧ ((a = -1 ∧ r = b) ∨ (b = -1 ∧ r = a) ∨ (0 ≤ a ∧ 0 ≤ b ∧ r ≤ a ∧ r ≤ b ∧ (r = a ∨ r = b))) := by
  by_cases c : a = -1
  · refine ⟨b, ⟨(by unfold inR; omega), bt c ⟨(by unfold inR; omega), (by unfold inR; omega), ?_⟩⟩, Or.inl ⟨c, rfl⟩⟩
    unfold imax
    split
    · rfl
    · omega
  · by_cases d : b = -1
    · refine ⟨a, ⟨(by unfold inR; omega), bf c ⟨(by unfold inR; omega), nf d ⟨(by unfold inR; omega), (by unfold inR; omega), ?_⟩⟩⟩, Or.inr (Or.inl ⟨d, rfl⟩)⟩
      unfold imax
      rw [if_neg (by omega)]
    · refine ⟨imin a b, ⟨(by unfold inR; omega), bf c ⟨(by unfold inR; omega), nt d ⟨(by unfold inR; omega), (by unfold inR; omega), rfl⟩⟩⟩, Or.inr (Or.inr ⟨by omega, by omega, ?_, ?_, ?_⟩)⟩
      · unfold imin
        split <;> omega
      · unfold imin
        split <;> omega
      · unfold imin
        split <;> omega
theorem fit_b {h : ISt} {n : Nat} (ho : HallOk h n) {p : Int} (hp : 1 ≤ p) {w : Int} {m f : Nat} (q : Fit h n p w m f) : 0 ≤ w ∧ w ≤ 100 := by
  obtain ⟨e, b, hT, hs⟩ := ho
  obtain ⟨q1, q2, q3, q4, q5⟩ := q
  have bb := ssum_b hs f m q2
  omega
theorem isw_b {h : ISt} {n : Nat} (ho : HallOk h n) {p : Int} (hp : 1 ≤ p) {r : Int} {m f : Nat} (q : IsW h n p m f r) : -1 ≤ r ∧ r ≤ 100 := by
  rcases q with q | q
  · omega
  · have := fit_b ho hp q
    omega
/-- the least so far, and one more -/
theorem least_more {S T : Int → Prop} {a b r : Int} (hS : IsLeast S a) (hT : IsLeast T b) (h0 : ∀ w, S w → 0 ≤ w) (h1 : ∀ w, T w → 0 ≤ w) (q : (a = -1 ∧ r = b) ∨ (b = -1 ∧ r = a) ∨ (0 ≤ a ∧ 0 ≤ b ∧ r ≤ a ∧ r ≤ b ∧ (r = a ∨ r = b))) : IsLeast (fun w => S w ∨ T w) r := by
  rcases hS with ⟨s1, s2⟩ | ⟨s1, s2⟩
  · rcases hT with ⟨t1, t2⟩ | ⟨t1, t2⟩
    · exact Or.inl ⟨by omega, fun w hw => hw.elim (s2 w) (t2 w)⟩
    · have z := h1 _ t1
      have e : r = b := by omega
      subst e
      exact Or.inr ⟨Or.inr t1, fun w hw => hw.elim (fun c => absurd c (s2 w)) (t2 w)⟩
  · have y := h0 _ s1
    rcases hT with ⟨t1, t2⟩ | ⟨t1, t2⟩
    · have e : r = a := by omega
      subst e
      exact Or.inr ⟨Or.inl s1, fun w hw => hw.elim (s2 w) (fun c => absurd c (t2 w))⟩
    · have z := h1 _ t1
      have l1 : r ≤ a := by omega
      have l2 : r ≤ b := by omega
      refine Or.inr ⟨?_, fun w hw => hw.elim (fun c => by have := s2 w c; omega) (fun c => by have := t2 w c; omega)⟩
      have e : r = a ∨ r = b := by omega
      rcases e with e | e
      · subst e
        exact Or.inl s1
      · subst e
        exact Or.inr t1
theorem least_c {S T : Int → Prop} {a : Int} (h : ∀ w, S w ↔ T w) (hS : IsLeast S a) : IsLeast T a := by
  rcases hS with ⟨s1, s2⟩ | ⟨s1, s2⟩
  · exact Or.inl ⟨s1, fun w hw => s2 w ((h w).mpr hw)⟩
  · exact Or.inr ⟨(h a).mp s1, fun w hw => s2 w ((h w).mpr hw)⟩
theorem q_leastWaste {h : ISt} {n : Nat} (ho : HallOk h n) {p : Int} (hp : 1 ≤ p ∧ p ≤ 12) {r : Int} (hr : IsLeast (fun w => ∃ m f, Fit h n p w m f) r) : Q_X0_leastWaste h p r := by
  have ho' := ho
  obtain ⟨e, b, hT, hs⟩ := ho'
  intro V4 V15 k4 k15
  have key : ∀ (J m : Nat), 1 ≤ m → m + J = n + 1 → ∀ x2 : Int, IsLeast (fun w => ∃ m' f, m' < m ∧ Fit h n p w m' f) x2 → V4 x2 m := by
    intro J
    induction J with
    | zero =>
      intro m hm hj x2 hx
      refine k4 _ _ ⟨(by unfold inR; omega), (by unfold inR; omega), bt (by omega) ?_⟩
      refine least_u (S := fun w => ∃ m f, Fit h n p w m f) (fun w ⟨m', f', q⟩ => q.2.2.2.2) hr (least_c (fun w => ⟨fun ⟨m', f', _, q⟩ => ⟨m', f', q⟩, fun ⟨m', f', q⟩ => ⟨m', f', ?_, q⟩⟩) hx)
      have := q.2.1
      omega
    | succ J ih =>
      intro m hm hj x2 hx
      refine k4 _ _ ⟨(by unfold inR; omega), (by unfold inR; omega), bf (by omega) ?_⟩
      have inner : ∀ (i f : Nat), f + i = n + 1 - m → ∀ x2 : Int, IsLeast (fun w => ∃ m' f', (m' < m ∨ (m' = m ∧ f' < f)) ∧ Fit h n p w m' f') x2 → V15 x2 m f := by
        intro i
        induction i with
        | zero =>
          intro f hf x2 hx
          refine k15 _ _ _ ⟨(by unfold inR; omega), (by unfold inR; omega), bt (by omega) (ih (m + 1) (by omega) (by omega) x2 (least_c (fun w => ⟨?_, ?_⟩) hx))⟩
          · rintro ⟨m', f', c, q⟩
            exact ⟨m', f', by omega, q⟩
          · rintro ⟨m', f', c, q⟩
            have := q.2.1
            exact ⟨m', f', by omega, q⟩
        | succ i ih2 =>
          intro f hf x2 hx
          obtain ⟨r1, w1, w2⟩ := q_wasteAt ho hp hm (show f + m ≤ n by omega)
          have bx : -1 ≤ x2 ∧ x2 ≤ 100 := by
            rcases hx with ⟨s1, s2⟩ | ⟨⟨m', f', s1, s3⟩, s2⟩
            · omega
            · have := fit_b ho hp.1 s3
              omega
          obtain ⟨r2, l1, l2⟩ := q_lesser bx (isw_b ho hp.1 w2)
          refine k15 _ _ _ ⟨(by unfold inR; omega), (by unfold inR; omega), bf (by omega) ⟨r1, w1, r2, l1, ih2 (f + 1) (by omega) r2 ?_⟩⟩
          have w3 : IsLeast (fun w => Fit h n p w m f) r1 := by
            rcases w2 with ⟨u1, u2⟩ | u
            · exact Or.inl ⟨u1, u2⟩
            · refine Or.inr ⟨u, fun w hw => ?_⟩
              have a1 := u.2.2.2.1
              have a2 := hw.2.2.2.1
              omega
          refine least_c (fun w => ⟨?_, ?_⟩) (least_more hx w3 (fun w ⟨m', f', _, q⟩ => q.2.2.2.2) (fun w q => q.2.2.2.2) l2)
          · rintro (⟨m', f', c, q⟩ | q)
            · exact ⟨m', f', by omega, q⟩
            · exact ⟨m, f, by omega, q⟩
          · rintro ⟨m', f', c, q⟩
            by_cases d : m' = m ∧ f' = f
            · obtain ⟨d1, d2⟩ := d
              subst d1
              subst d2
              exact Or.inr q
            · exact Or.inl ⟨m', f', by omega, q⟩
      refine inner (n + 1 - m) 0 (by omega) x2 (least_c (fun w => ⟨?_, ?_⟩) hx)
      · rintro ⟨m', f', c, q⟩
        exact ⟨m', f', by omega, q⟩
      · rintro ⟨m', f', c, q⟩
        exact ⟨m', f', by omega, q⟩
  refine key n 1 (by omega) (by omega) (-1) (Or.inl ⟨rfl, ?_⟩)
  rintro w ⟨m', f', c, q⟩
  have := q.1
  omega
/-- what finding leaves behind -/
def stf (h : ISt) (w f m : Int) : ISt := fun i => if i = 0 then (fun k => if k = 32 then w else if k = 30 then f else if k = 31 then m else h 0 k) else h i
theorem stf_0 (h : ISt) : iset h 0 32 (-1) = stf h (-1) (h 0 30) (h 0 31) := by
  funext i k
  unfold iset stf iupd
  by_cases c : i = 0
  · subst c
    simp only [if_true]
    by_cases c1 : k = 32
    · simp only [c1, if_true]
    · by_cases c2 : k = 30
      · subst c2
        rfl
      · by_cases c3 : k = 31
        · subst c3
          rfl
        · simp only [c1, c2, c3, if_false]
  · simp only [c, if_false]
theorem stf_s (h : ISt) (w f m w' f' m' : Int) : iset (iset (iset (stf h w f m) 0 32 w') 0 30 f') 0 31 m' = stf h w' f' m' := by
  funext i k
  unfold iset stf iupd
  by_cases c : i = 0
  · subst c
    simp only [if_true]
    by_cases c3 : k = 31
    · subst c3
      rfl
    · by_cases c2 : k = 30
      · subst c2
        rfl
      · by_cases c1 : k = 32
        · subst c1
          rfl
        · simp only [c1, c2, c3, if_false]
  · simp only [c, if_false]
/-- the model's hall, as the class's -/
theorem fit_e {h m : ISt} {n : Nat} (e2 : ∀ t : Nat, t < n → m 2 t = h 2 t) (e1 : ∀ t : Nat, t < n → m 1 t = h 1 t) (p w : Int) (k f : Nat) : Fit m n p w k f ↔ Fit h n p w k f := by
  have es : ∀ l : Nat, f + l ≤ n → ssum (m 1) f l = ssum (h 1) f l := by
    intro l
    induction l with
    | zero => intro _; rfl
    | succ l ih =>
      intro hl
      unfold ssum
      rw [ih (by omega), e1 (f + l) (by omega)]
  constructor
  · rintro ⟨q1, q2, q3, q4, q5⟩
    exact ⟨q1, q2, fun t h1 h2 => (e2 t (by omega)).symm.trans (q3 t h1 h2), by rw [← es k q2]; exact q4, q5⟩
  · rintro ⟨q1, q2, q3, q4, q5⟩
    exact ⟨q1, q2, fun t h1 h2 => (e2 t (by omega)).trans (q3 t h1 h2), by rw [es k q2]; exact q4, q5⟩
def frow (h : ISt) (j : Nat) (F : Nat → Int) : ISt := fun i => if i = j then F else h i
def ifill (g : Nat → Int) (a b : Nat) (x : Int) : Nat → Int := fun t => if a ≤ t ∧ t < b then x else g t
theorem ifill_0 (h : ISt) (a : Nat) (x : Int) : frow h 2 (ifill (h 2) a a x) = h := by
  funext i t
  unfold frow ifill
  by_cases c : i = 2
  · subst c
    rw [if_pos rfl, if_neg (by omega)]
  · rw [if_neg c]
theorem ifill_s (h : ISt) (g : Nat → Int) (a b : Nat) (x : Int) (hab : a ≤ b) : iset (frow h 2 (ifill g a b x)) 2 b x = frow h 2 (ifill g a (b + 1) x) := by
  funext i t
  unfold iset frow ifill iupd
  by_cases c : i = 2
  · subst c
    simp only [if_true]
    by_cases d : t = b
    · subst d
      rw [if_pos rfl, if_pos ⟨hab, by omega⟩]
    · rw [if_neg d]
      by_cases e : a ≤ t ∧ t < b
      · rw [if_pos e, if_pos ⟨e.1, by omega⟩]
      · rw [if_neg e, if_neg (by omega)]
  · simp only [c, if_false]
def seated (h : ISt) (a f m : Nat) : ISt := iset (iset (frow h 2 (ifill (h 2) f (f + m) a)) 6 a 1) 5 a (h 0 0 + h 4 a)
theorem q_seat {h : ISt} {a f m : Nat} (ha : a < 30) (hf : f + m ≤ 10) : Q_X0_seat h a f m (seated h a f m) := by
  intro V k
  have key : ∀ (j i : Nat), i + j = m → V (frow h 2 (ifill (h 2) f (f + i) a)) ((f + i : Nat) : Int) := by
    intro j
    induction j with
    | zero =>
      intro i hi
      have hi : i = m := hi
      subst hi
      refine k _ _ ⟨(by unfold inR; omega), (by unfold inR; omega), bt (by omega) ⟨(by unfold inR; omega), fp a rfl ha rfl ⟨(by unfold inR; omega), (by unfold inR; omega), fp a rfl ha ?_ rfl⟩⟩⟩
      rw [ina a ha]
      rfl
    | succ j ih =>
      intro i hi
      have z := ih (i + 1) (by omega)
      refine k _ _ ⟨(by unfold inR; omega), (by unfold inR; omega), bf (by omega) ⟨(by unfold inR; omega), fp (f + i) rfl (by omega) rfl ?_⟩⟩
      rw [ifill_s _ _ _ _ _ (by omega)]
      exact z
  have z := key m 0 (by omega)
  have e : frow h 2 (ifill (h 2) f (f + 0) a) = h := ifill_0 h f a
  rw [e] at z
  exact z
theorem q_sip0 {h : ISt} {n : Nat} (ho : HallOk h n) {a : Nat} (ha : a < 30) (hp : 1 ≤ h 3 a ∧ h 3 a ≤ 12) (c : ∀ w m f, ¬ Fit h n (h 3 a) w m f) : Q_X0_seatIfPossible h a 0 h := by
  intro V22 V33 k22 k33
  rw [ina a ha]
  exact ⟨(by unfold inR; omega), -1, q_leastWaste ho hp (Or.inl ⟨rfl, fun w ⟨m, f, q⟩ => c w m f q⟩), (by unfold inR; omega), nf rfl ⟨rfl, rfl⟩⟩
theorem q_sip1 {h : ISt} {n : Nat} (ho : HallOk h n) {a : Nat} (ha : a < 30) (hp : 1 ≤ h 3 a ∧ h 3 a ≤ 12) {w : Int} {m f : Nat} (c : Best h n (h 3 a) w m f) : Q_X0_seatIfPossible h a 1 (seated h a f m) := by
  have ho' := ho
  obtain ⟨e, b, hT, hs⟩ := ho'
  have wb := fit_b ho hp.1 c.1
  intro V22 V33 k22 k33
  rw [ina a ha]
  refine ⟨(by unfold inR; omega), w, q_leastWaste ho hp (best_least c), (by unfold inR; omega), nt (by omega) ?_⟩
  have mb := c.1.2.1
  have m1 := c.1.1
  have key : ∀ (J k : Nat), 1 ≤ k → k + J = m → V22 h w k := by
    intro J
    induction J with
    | zero =>
      intro k hk hj
      have hj : k = m := hj
      subst hj
      refine k22 _ _ _ ⟨(by unfold inR; omega), (by unfold inR; omega), bf (by omega) ?_⟩
      have inner : ∀ (i g : Nat), g + i = f → V33 h w k g := by
        intro i
        induction i with
        | zero =>
          intro g hg
          have hg : g = f := hg
          subst hg
          obtain ⟨r, q1, q2⟩ := q_wasteAt ho hp hk mb
          have er : r = w := by
            rcases q2 with ⟨u, v⟩ | u
            · exact absurd c.1 (v w)
            · have a1 := u.2.2.2.1
              have a2 := c.1.2.2.2.1
              omega
          subst er
          refine k33 _ _ _ _ ⟨(by unfold inR; omega), (by unfold inR; omega), bf (by omega) ⟨(by unfold inR; omega), r, ?_, (by unfold inR; omega), (by unfold inR; omega), nf rfl ⟨_, q_seat ha (by omega), rfl, rfl⟩⟩⟩
          rw [ina a ha]
          exact q1
        | succ i ih2 =>
          intro g hg
          obtain ⟨r, q1, q2⟩ := q_wasteAt ho hp hk (show g + k ≤ n by omega)
          have rb := isw_b ho hp.1 q2
          have er : r ≠ w := by
            intro er
            subst er
            rcases q2 with ⟨u, v⟩ | u
            · omega
            · have := c.2 _ _ _ u
              unfold Le3 at this
              omega
          refine k33 _ _ _ _ ⟨(by unfold inR; omega), (by unfold inR; omega), bf (by omega) ⟨(by unfold inR; omega), r, ?_, (by unfold inR; omega), (by unfold inR; omega), nt er (ih2 (g + 1) (by omega))⟩⟩
          rw [ina a ha]
          exact q1
      exact inner f 0 (by omega)
    | succ J ih =>
      intro k hk hj
      refine k22 _ _ _ ⟨(by unfold inR; omega), (by unfold inR; omega), bf (by omega) ?_⟩
      have inner : ∀ (i g : Nat), g + i = n + 1 - k → V33 h w k g := by
        intro i
        induction i with
        | zero =>
          intro g hg
          exact k33 _ _ _ _ ⟨(by unfold inR; omega), (by unfold inR; omega), bt (by omega) (ih (k + 1) (by omega) (by omega))⟩
        | succ i ih2 =>
          intro g hg
          obtain ⟨r, q1, q2⟩ := q_wasteAt ho hp hk (show g + k ≤ n by omega)
          have rb := isw_b ho hp.1 q2
          have er : r ≠ w := by
            intro er
            subst er
            rcases q2 with ⟨u, v⟩ | u
            · omega
            · have := c.2 _ _ _ u
              unfold Le3 at this
              omega
          refine k33 _ _ _ _ ⟨(by unfold inR; omega), (by unfold inR; omega), bf (by omega) ⟨(by unfold inR; omega), r, ?_, (by unfold inR; omega), (by unfold inR; omega), nt er (ih2 (g + 1) (by omega))⟩⟩
          rw [ina a ha]
          exact q1
      exact inner (n + 1 - k) 0 (by omega)
  exact key (m - 1) 1 (by omega) (by omega)
def sat (m : ISt) (a : Nat) (w : Int) (f k : Nat) : ISt := iset (iset (frow (stf m w f k) 2 (ifill (m 2) f (f + k) a)) 5 a 1) 6 a (m 0 1)
theorem iset_id (h : ISt) (j k : Nat) : iset h j k (h j k) = h := by
  funext i t
  unfold iset iupd
  by_cases c : i = j
  · subst c
    rw [if_pos rfl]
    by_cases d : t = k
    · subst d
      rw [if_pos rfl]
    · rw [if_neg d]
  · rw [if_neg c]
/-- tables below x freed of a group -/
def freed (g : Nat → Int) (x : Nat) (a : Int) : Nat → Int := fun t => if t < x ∧ g t = a then -1 else g t
theorem freed_0 (h : ISt) (a : Int) : frow h 2 (freed (h 2) 0 a) = h := by
  funext i t
  unfold frow freed
  by_cases c : i = 2
  · subst c
    rw [if_pos rfl, if_neg (by omega)]
  · rw [if_neg c]
theorem freed_s (h : ISt) (g : Nat → Int) (x : Nat) (a : Int) (hx : g x = a) : iset (frow h 2 (freed g x a)) 2 x (-1) = frow h 2 (freed g (x + 1) a) := by
  funext i t
  unfold iset frow freed iupd
  by_cases c : i = 2
  · subst c
    simp only [if_true]
    by_cases d : t = x
    · subst d
      rw [if_pos rfl, if_pos ⟨by omega, hx⟩]
    · rw [if_neg d]
      by_cases e : t < x ∧ g t = a
      · rw [if_pos e, if_pos ⟨by omega, e.2⟩]
      · rw [if_neg e, if_neg (by omega)]
  · simp only [c, if_false]
theorem freed_n (h : ISt) (g : Nat → Int) (x : Nat) (a : Int) (hx : g x ≠ a) : frow h 2 (freed g x a) = frow h 2 (freed g (x + 1) a) := by
  funext i t
  unfold frow freed
  by_cases c : i = 2
  · subst c
    simp only [if_true]
    by_cases d : t = x
    · subst d
      rw [if_neg (by omega), if_neg (fun z => hx z.2)]
    · by_cases e : t < x ∧ g t = a
      · rw [if_pos e, if_pos ⟨by omega, e.2⟩]
      · rw [if_neg e, if_neg (by omega)]
  · simp only [c, if_false]
theorem freed_at (g : Nat → Int) (x : Nat) (a : Int) : freed g x a x = g x := by
  unfold freed
  rw [if_neg (by omega)]
/-- how deep a rule lies: the rules from it up -/
def dep (f : Nat → Int) (p : Nat) : Nat → Int → Int
  | 0, _ => 0
  | j + 1, x => if x = -1 then 0 else 1 + dep f p j (f (p + x.toNat))
def mxd (f : Nat → Int) (p : Nat) : Nat → Nat → Int → Int
  | 0, _, s => s
  | j + 1, x, s => mxd f p j (x + 1) (imax s (dep f p 12 x))
theorem dep_b (f : Nat → Int) (p : Nat) : ∀ (j : Nat) (x : Int), 0 ≤ dep f p j x ∧ dep f p j x ≤ j := by
  intro j
  induction j with
  | zero => intro x; exact ⟨Int.le_refl 0, Int.le_refl 0⟩
  | succ j ih =>
    intro x
    unfold dep
    have := ih (f (p + x.toNat))
    split <;> omega
/-- one title's rules: parents before children -/
def RulesOk (h : ISt) (A N : Nat) : Prop := h 1 A = N ∧ A < 8 ∧ N ≤ 12 ∧ ∀ k : Nat, k < N → -1 ≤ h 2 (12 * A + k) ∧ h 2 (12 * A + k) < k
theorem q_parentOf {h : ISt} {A N k : Nat} (ho : RulesOk h A N) (hk : k < 12) : Q_X1_parentOf h A k (h 2 (12 * A + k)) := by
  have := ho.2.1
  refine ⟨(by unfold inR; omega), ?_⟩
  rw [ia (by omega) (by omega)]
  exact congrArg (h 2) (by omega)
theorem q_levelOf {h : ISt} {A N k : Nat} (ho : RulesOk h A N) (hk : k < N) : Q_X1_levelOf h A k (dep (h 2) (12 * A) 12 k) := by
  obtain ⟨e, bA, bN, hP⟩ := ho
  intro V kk
  have key : ∀ (j : Nat) (x3 x4 : Int), -1 ≤ x4 → x4 < N → x4 < j → 0 ≤ x3 → x3 + j ≤ 12 → dep (h 2) (12 * A) 12 k = x3 + dep (h 2) (12 * A) j x4 → V x3 x4 := by
    intro j
    induction j with
    | zero =>
      intro x3 x4 h1 h2 h3 h4 h5 q
      exact kk _ _ ⟨(by unfold inR; omega), bt (by omega) (q.trans (Int.add_zero x3))⟩
    | succ j ih =>
      intro x3 x4 h1 h2 h3 h4 h5 q
      have q : dep (h 2) (12 * A) 12 k = x3 + (if x4 = -1 then 0 else 1 + dep (h 2) (12 * A) j (h 2 (12 * A + x4.toNat))) := q
      by_cases c : x4 = -1
      · rw [if_pos c] at q
        exact kk _ _ ⟨(by unfold inR; omega), bt c (q.trans (Int.add_zero x3))⟩
      · rw [if_neg c] at q
        obtain ⟨y, ey⟩ := nat_of (show 0 ≤ x4 by omega)
        subst ey
        rw [Int.toNat_natCast] at q
        have p := hP y (by omega)
        exact kk _ _ ⟨(by unfold inR; omega), bf c ⟨(by unfold inR; omega), bf (by omega) ⟨_, q_parentOf ⟨e, bA, bN, hP⟩ (by omega), ih _ _ p.1 (by omega) (by omega) (by omega) (by omega) (by omega)⟩⟩⟩
  exact key 12 0 k (by omega) (by omega) (by omega) (by omega) (by omega) (Int.zero_add _).symm
theorem q_deepest {h : ISt} {A N : Nat} (ho : RulesOk h A N) : Q_X1_deepest h A (mxd (h 2) (12 * A) N 0 0) := by
  have ho' := ho
  obtain ⟨e, bA, bN, hP⟩ := ho'
  intro V kk
  have key : ∀ (j x : Nat) (s : Int), x + j = N → 0 ≤ s → s ≤ 12 → mxd (h 2) (12 * A) N 0 0 = mxd (h 2) (12 * A) j x s → V s x := by
    intro j
    induction j with
    | zero =>
      intro x s hx h1 h2 q
      refine kk _ _ ⟨(by unfold inR; omega), ?_⟩
      rw [ina A (by omega), e]
      exact ⟨(by unfold inR; omega), (by unfold inR; omega), bt (by omega) q⟩
    | succ j ih =>
      intro x s hx h1 h2 q
      have d := dep_b (h 2) (12 * A) 12 x
      refine kk _ _ ⟨(by unfold inR; omega), ?_⟩
      rw [ina A (by omega), e]
      refine ⟨(by unfold inR; omega), (by unfold inR; omega), bf (by omega) ⟨_, q_levelOf ho (by omega), (by unfold inR; omega), (by unfold inR; omega), ih (x + 1) _ (by omega) ?_ ?_ q⟩⟩
      · unfold imax
        split <;> omega
      · unfold imax
        split <;> omega
  exact key N 0 0 (by omega) (by omega) (by omega) rfl
def L_X3_countLenders_14 (h : ISt) (a1 : Int) (r : Int) (q0 : Int) (q1 : Int) : Prop := ∀ V14 : Int → Int → Prop, ∀ V30 : Int → Int → Int → Int → Prop, (∀ x2 x3 : Int, (inR x3 ∧ (((4 : Int) ≤ x3 → (∃ r2 : Int, Q_J6_bitCount_0f7a4 x2 r2 ∧ (r = r2))) ∧ (¬ (4 : Int) ≤ x3 → (∃ r3 : Int, Q_X3_lack h a1 x3 r3 ∧ (V30 x2 x3 r3 (0 : Int)))))) → V14 x2 x3) → (∀ x2 x3 x4 x5 : Int, (inR x5 ∧ inR (h 0 1) ∧ (((h 0 1) ≤ x5 → (inR x4 ∧ ((x4 ≤ (0 : Int) → (V14 x2 (x3 + (1 : Int)))) ∧ (¬ x4 ≤ (0 : Int) → (r = (-1 : Int)))))) ∧ (¬ (h 0 1) ≤ x5 → (inR x4 ∧ ((x4 ≤ (0 : Int) → (inR x4 ∧ ((x4 ≤ (0 : Int) → (V14 x2 (x3 + (1 : Int)))) ∧ (¬ x4 ≤ (0 : Int) → (r = (-1 : Int)))))) ∧ (¬ x4 ≤ (0 : Int) → (∃ r4 : Int, Q_X3_mayLend h x5 a1 r4 ∧ (inR r4 ∧ ((r4 = (0 : Int) → (V30 x2 x3 x4 (x5 + (1 : Int)))) ∧ (¬ r4 = (0 : Int) → (∃ r5 : Int, Q_X3_count h x5 x3 r5 ∧ (inR r5 ∧ ((r5 ≤ (0 : Int) → (V30 x2 x3 x4 (x5 + (1 : Int)))) ∧ (¬ r5 ≤ (0 : Int) → ((0 ≤ x5 ∧ x5 < 31) ∧ ((0 ≤ x2) ∧ (0 ≤ (ishl1 x5)) ∧ (∃ r6 : Int, Q_X3_count h x5 x3 r6 ∧ (inR x4 ∧ inR r6 ∧ (V30 (iior x2 (ishl1 x5)) x3 (x4 - (imin x4 r6)) (x5 + (1 : Int))))))))))))))))))))) → V30 x2 x3 x4 x5) → V14 q0 q1
def L_X3_countLenders_30 (h : ISt) (a1 : Int) (r : Int) (q0 : Int) (q1 : Int) (q2 : Int) (q3 : Int) : Prop := ∀ V14 : Int → Int → Prop, ∀ V30 : Int → Int → Int → Int → Prop, (∀ x2 x3 : Int, (inR x3 ∧ (((4 : Int) ≤ x3 → (∃ r2 : Int, Q_J6_bitCount_0f7a4 x2 r2 ∧ (r = r2))) ∧ (¬ (4 : Int) ≤ x3 → (∃ r3 : Int, Q_X3_lack h a1 x3 r3 ∧ (V30 x2 x3 r3 (0 : Int)))))) → V14 x2 x3) → (∀ x2 x3 x4 x5 : Int, (inR x5 ∧ inR (h 0 1) ∧ (((h 0 1) ≤ x5 → (inR x4 ∧ ((x4 ≤ (0 : Int) → (V14 x2 (x3 + (1 : Int)))) ∧ (¬ x4 ≤ (0 : Int) → (r = (-1 : Int)))))) ∧ (¬ (h 0 1) ≤ x5 → (inR x4 ∧ ((x4 ≤ (0 : Int) → (inR x4 ∧ ((x4 ≤ (0 : Int) → (V14 x2 (x3 + (1 : Int)))) ∧ (¬ x4 ≤ (0 : Int) → (r = (-1 : Int)))))) ∧ (¬ x4 ≤ (0 : Int) → (∃ r4 : Int, Q_X3_mayLend h x5 a1 r4 ∧ (inR r4 ∧ ((r4 = (0 : Int) → (V30 x2 x3 x4 (x5 + (1 : Int)))) ∧ (¬ r4 = (0 : Int) → (∃ r5 : Int, Q_X3_count h x5 x3 r5 ∧ (inR r5 ∧ ((r5 ≤ (0 : Int) → (V30 x2 x3 x4 (x5 + (1 : Int)))) ∧ (¬ r5 ≤ (0 : Int) → ((0 ≤ x5 ∧ x5 < 31) ∧ ((0 ≤ x2) ∧ (0 ≤ (ishl1 x5)) ∧ (∃ r6 : Int, Q_X3_count h x5 x3 r6 ∧ (inR x4 ∧ inR r6 ∧ (V30 (iior x2 (ishl1 x5)) x3 (x4 - (imin x4 r6)) (x5 + (1 : Int))))))))))))))))))))) → V30 x2 x3 x4 x5) → V30 q0 q1 q2 q3
theorem ior_b {s : Int} {x : Nat} (h0 : 0 ≤ s) (h1 : s < 65536) (hx : x < 16) : 0 ≤ iior s (ishl1 x) ∧ iior s (ishl1 x) < 65536 := by
  have e : (ishl1 x).toNat = 2 ^ x := by
    unfold ishl1
    rw [Int.toNat_natCast, Int.toNat_natCast]
  have a : s.toNat < 2 ^ 16 := by omega
  have b : 2 ^ x < 2 ^ 16 := Nat.pow_lt_pow_right (by omega) hx
  have c := Nat.or_lt_two_pow a b
  unfold iior
  rw [e]
  have d : (2 : Nat) ^ 16 = 65536 := rfl
  omega
theorem ishl_p (x : Nat) : 0 ≤ ishl1 x := by
  exact Int.natCast_nonneg _
theorem ior_0 {s : Int} (h0 : 0 ≤ s) : iior s 0 = s := by
  have e : s.toNat ||| (0 : Int).toNat = s.toNat := Nat.or_zero _
  unfold iior
  rw [e]
  omega
theorem ishr_b {s : Int} (h0 : 0 ≤ s) (h1 : s < 65536) (x : Nat) : ishr s x = ((s.toNat / 2 ^ x : Nat) : Int) ∧ 0 ≤ ishr s x ∧ ishr s x < 65536 := by
  have e : ishr s x = ((s.toNat / 2 ^ x : Nat) : Int) := by
    unfold ishr
    rw [Int.toNat_natCast, Nat.shiftRight_eq_div_pow]
  have b : s.toNat / 2 ^ x ≤ s.toNat := Nat.div_le_self _ _
  rw [e]
  exact ⟨rfl, Int.natCast_nonneg _, Int.lt_of_le_of_lt (Int.ofNat_le.mpr b) (by omega)⟩
theorem bsum_b (n : Nat) : ∀ k, bsum n k ≤ k := by
  intro k
  induction k with
  | zero => exact Nat.le_refl 0
  | succ k ih =>
    unfold bsum
    omega
/-- the shelf's ranges -/
def CopyOk (h : ISt) (n : Nat) : Prop := h 0 1 = n ∧ n ≤ 16 ∧ ∀ c : Nat, c < n → (0 ≤ h 5 c ∧ h 5 c < 8) ∧ (-1 ≤ h 6 c ∧ h 6 c < 30) ∧ (-1 ≤ h 7 c ∧ h 7 c < 16)
theorem q_may1 {h : ISt} {n x C : Nat} (ho : CopyOk h n) (hx : x < n) (hC : C < n) (c : x ≠ C ∧ h 5 x = h 5 C ∧ h 6 x = -1 ∧ (h 7 x = -1 ∨ h 7 x = C)) : Q_X3_mayLend h x C 1 := by
  obtain ⟨e, b, hr⟩ := ho
  obtain ⟨x5, x6, x7⟩ := hr x hx
  obtain ⟨y5, y6, y7⟩ := hr C hC
  unfold Q_X3_mayLend
  rw [ina (f := h 5) x (by omega), ina (f := h 5) C (by omega), ina (f := h 6) x (by omega), ina (f := h 7) x (by omega)]
  refine ⟨(by unfold inR; omega), (by unfold inR; omega), bf (by omega) ⟨(by unfold inR; omega), (by unfold inR; omega), (by unfold inR; omega), (by unfold inR; omega), nf c.2.1 ⟨(by unfold inR; omega), (by unfold inR; omega), nf c.2.2.1 ⟨(by unfold inR; omega), (by unfold inR; omega), fun _ => rfl, fun d => ⟨(by unfold inR; omega), (by unfold inR; omega), (by unfold inR; omega), nf (c.2.2.2.resolve_left d) rfl⟩⟩⟩⟩⟩
theorem q_may0 {h : ISt} {n x C : Nat} (ho : CopyOk h n) (hx : x < n) (hC : C < n) (c : ¬ (x ≠ C ∧ h 5 x = h 5 C ∧ h 6 x = -1 ∧ (h 7 x = -1 ∨ h 7 x = C))) : Q_X3_mayLend h x C 0 := by
  obtain ⟨e, b, hr⟩ := ho
  obtain ⟨x5, x6, x7⟩ := hr x hx
  obtain ⟨y5, y6, y7⟩ := hr C hC
  unfold Q_X3_mayLend
  rw [ina (f := h 5) x (by omega), ina (f := h 5) C (by omega), ina (f := h 6) x (by omega), ina (f := h 7) x (by omega)]
  refine ⟨(by unfold inR; omega), (by unfold inR; omega), fun _ => rfl, fun d1 => ⟨(by unfold inR; omega), (by unfold inR; omega), (by unfold inR; omega), (by unfold inR; omega), fun _ => rfl, fun d2 => ⟨(by unfold inR; omega), (by unfold inR; omega), fun _ => rfl, fun d3 => ⟨(by unfold inR; omega), (by unfold inR; omega), fun d4 => absurd ⟨by omega, d2, d3, Or.inl d4⟩ c, fun d4 => ⟨(by unfold inR; omega), (by unfold inR; omega), (by unfold inR; omega), fun _ => rfl, fun d5 => absurd ⟨by omega, d2, d3, Or.inr d5⟩ c⟩⟩⟩⟩⟩
theorem whr_0 {s : ISt} {c : Nat} (h : s 6 c = -1) (h' : s 7 c = -1) : whr s c = 0 := by
  unfold whr
  rw [if_pos h, if_pos h']
theorem whr_n {s : ISt} {c : Nat} (h : whr s c = 0) : s 6 c = -1 ∧ s 7 c = -1 := by
  unfold whr at h
  by_cases d6 : s 6 c = -1
  · rw [if_pos d6] at h
    by_cases d7 : s 7 c = -1
    · exact ⟨d6, d7⟩
    · rw [if_neg d7] at h
      omega
  · rw [if_neg d6] at h
    omega
theorem whr_b (s : ISt) (c : Nat) : 0 ≤ whr s c ∧ whr s c ≤ 2 := by
  unfold whr
  split
  · split <;> omega
  · omega
def bc (r : Int) : Int := if r = -1 then -1 else (bsum r.toNat 16 : Nat)
theorem bv_tb (m k : Nat) : m / 2 ^ k % 2 = if m.testBit k = true then 1 else 0 := by
  have e := Nat.testBit_eq_decide_div_mod_eq (x := m) (i := k)
  by_cases c : m / 2 ^ k % 2 = 1
  · rw [e, c]
    rfl
  · rw [e, if_neg (by simp [c])]
    omega
theorem tb_or (s : Int) (x k : Nat) : (iior s (ishl1 x)).toNat.testBit k = (s.toNat.testBit k || decide (x = k)) := by
  have e : (ishl1 x).toNat = 2 ^ x := by
    unfold ishl1
    rw [Int.toNat_natCast, Int.toNat_natCast]
  unfold iior
  rw [e, Int.toNat_natCast, Nat.testBit_or, Nat.testBit_two_pow]
theorem bv_or (s : Int) (x k : Nat) : (iior s (ishl1 x)).toNat / 2 ^ k % 2 = if k = x then 1 else s.toNat / 2 ^ k % 2 := by
  rw [bv_tb, bv_tb, tb_or]
  by_cases c : x = k
  · subst c
    simp
  · have c' : k ≠ x := fun h => c h.symm
    simp [c, c']
theorem bsum_l (n C : Nat) (h : n.testBit C = false) : ∀ k, C < k → bsum n k + 1 ≤ k := by
  intro k
  induction k with
  | zero => intro h; omega
  | succ k ih =>
    intro hk
    have e : bsum n (k + 1) = bsum n k + n / 2 ^ k % 2 := rfl
    by_cases c : C = k
    · subst c
      have z := bv_tb n C
      rw [h] at z
      have := bsum_b n C
      simp at z
      omega
    · have := ih (by omega)
      omega
/-- the copy served next, by how many lenders each needs -/
def bst (ti ln : Nat → Int) (t : Int) : Nat → Int
  | 0 => -1
  | x + 1 => if ti x = t ∧ ln x ≠ -1 ∧ (bst ti ln t x = -1 ∨ ln x < ln (bst ti ln t x).toNat) then (x : Int) else bst ti ln t x
theorem bst_b (ti ln : Nat → Int) (t : Int) : ∀ x : Nat, bst ti ln t x = -1 ∨ (0 ≤ bst ti ln t x ∧ bst ti ln t x < x ∧ ti (bst ti ln t x).toNat = t ∧ ln (bst ti ln t x).toNat ≠ -1) := by
  intro x
  induction x with
  | zero => exact Or.inl rfl
  | succ x ih =>
    unfold bst
    split
    · rename_i c
      refine Or.inr ⟨by omega, by omega, ?_, ?_⟩
      · rw [Int.toNat_natCast]
        exact c.1
      · rw [Int.toNat_natCast]
        exact c.2.1
    · rcases ih with u | ⟨u1, u2, u3⟩
      · exact Or.inl u
      · exact Or.inr ⟨u1, by omega, u3⟩
/-- the set of what is offered -/
def oset (off : Nat → Int) : Nat → Int
  | 0 => 0
  | x + 1 => if off x = 0 then oset off x else iior (oset off x) (ishl1 x)
theorem oset_b (off : Nat → Int) : ∀ x : Nat, x ≤ 16 → 0 ≤ oset off x ∧ oset off x < 65536 ∧ ∀ k : Nat, (oset off x).toNat / 2 ^ k % 2 = if k < x ∧ off k ≠ 0 then 1 else 0 := by
  intro x
  induction x with
  | zero =>
    intro _
    refine ⟨Int.le_refl 0, (show (0 : Int) < 65536 by decide), fun k => ?_⟩
    rw [if_neg (by omega)]
    show 0 / 2 ^ k % 2 = 0
    rw [Nat.zero_div]
  | succ x ih =>
    intro hx
    obtain ⟨h1, h2, h3⟩ := ih (by omega)
    unfold oset
    by_cases c : off x = 0
    · rw [if_pos c]
      refine ⟨h1, h2, fun k => ?_⟩
      rw [h3]
      by_cases d : k = x
      · subst d
        rw [if_neg (by omega), if_neg (fun z => z.2 c)]
      · by_cases e : k < x ∧ off k ≠ 0
        · rw [if_pos e, if_pos ⟨by omega, e.2⟩]
        · rw [if_neg e, if_neg (fun z => e ⟨by omega, z.2⟩)]
    · rw [if_neg c]
      have b := ior_b h1 h2 (show x < 16 by omega)
      refine ⟨b.1, b.2, fun k => ?_⟩
      rw [bv_or, h3]
      by_cases d : k = x
      · subst d
        rw [if_pos rfl, if_pos ⟨by omega, c⟩]
      · rw [if_neg d]
        by_cases e : k < x ∧ off k ≠ 0
        · rw [if_pos e, if_pos ⟨by omega, e.2⟩]
        · rw [if_neg e, if_neg (fun z => e ⟨by omega, z.2⟩)]
theorem q_has {s : Int} (h0 : 0 ≤ s) (h1 : s < 65536) {x : Nat} (hx : x < 32) : Q_X4_contains s x ((s.toNat / 2 ^ x % 2 : Nat) : Int) := by
  obtain ⟨b1, b2, b3⟩ := ishr_b h0 h1 x
  have e : ishr s x % 2 = ((s.toNat / 2 ^ x % 2 : Nat) : Int) := by
    rw [b1]
    omega
  refine ⟨by omega, by omega, by omega, ?_⟩
  rw [e]
  refine ⟨(by unfold inR; omega), fun c => c, fun c => by omega⟩
/-- the titles that come ahead of one -/
def bef (mi : Nat → Int) (e t : Nat) : Prop := mi t < mi e ∨ (mi e = mi t ∧ e < t)
theorem bef_t (mi : Nat → Int) (x y : Nat) (h : x ≠ y) : bef mi x y ∨ bef mi y x := by
  unfold bef
  omega
/-- how many of the offered, from x on, come ahead of t: by a decision of each -/
def ahd (off mi : Nat → Int) (t : Nat) : Nat → Int
  | 0 => 0
  | x + 1 => ahd off mi t x + (if off x ≠ 0 ∧ (mi t < mi x ∨ (mi x = mi t ∧ x < t)) then 1 else 0)
theorem ahd_b (off mi : Nat → Int) (t : Nat) : ∀ x : Nat, 0 ≤ ahd off mi t x ∧ ahd off mi t x ≤ x := by
  intro x
  induction x with
  | zero => exact ⟨Int.le_refl 0, Int.le_refl 0⟩
  | succ x ih =>
    unfold ahd
    split <;> omega
theorem ahd_lt (off mi : Nat → Int) {t u : Nat} (h : bef mi t u) (ot : off t ≠ 0) : ∀ x : Nat, ahd off mi t x ≤ ahd off mi u x ∧ (t < x → ahd off mi t x < ahd off mi u x) := by
  unfold bef at h
  intro x
  induction x with
  | zero => exact ⟨Int.le_refl 0, fun h => by omega⟩
  | succ x ih =>
    unfold ahd
    by_cases d : x = t
    · subst d
      rw [if_neg (fun z => by omega), if_pos ⟨ot, by omega⟩]
      omega
    · by_cases c : off x ≠ 0 ∧ (mi t < mi x ∨ (mi x = mi t ∧ x < t))
      · rw [if_pos c, if_pos ⟨c.1, by omega⟩]
        omega
      · rw [if_neg c]
        split <;> omega
theorem q_ahead3 {hs : ISt} {T t : Nat} {off : Nat → Int} (eT : hs 0 0 = T) (bT : T ≤ 8) (hM : ∀ x : Nat, x < T → 0 ≤ hs 3 x ∧ hs 3 x ≤ 300) (ht : t < T) : Q_X3_countAhead hs (oset off T) t (ahd off (hs 3) t T) := by
  obtain ⟨b1, b2, b3⟩ := oset_b off T (by omega)
  intro V5 k5
  have key : ∀ (j x : Nat), x + j = T → V5 (ahd off (hs 3) t x) x := by
    intro j
    induction j with
    | zero =>
      intro x hx
      have hx : x = T := hx
      subst hx
      exact k5 _ _ ⟨(by unfold inR; omega), (by unfold inR; omega), bt (by omega) rfl⟩
    | succ j ih =>
      intro x hx
      have m1 := hM x (by omega)
      have m3 := hM t ht
      have z := ih (x + 1) (by omega)
      have st : ahd off (hs 3) t (x + 1) = ahd off (hs 3) t x + (if off x ≠ 0 ∧ (hs 3 t < hs 3 x ∨ (hs 3 x = hs 3 t ∧ x < t)) then 1 else 0) := rfl
      rw [st] at z
      have cq := q_has b1 b2 (show x < 32 by omega)
      rw [b3 x] at cq
      have yes : off x ≠ 0 ∧ (hs 3 t < hs 3 x ∨ (hs 3 x = hs 3 t ∧ x < t)) → V5 (ahd off (hs 3) t x + 1) ((x : Int) + 1) := by
        intro c
        rw [if_pos c] at z
        exact z
      have no : ¬ (off x ≠ 0 ∧ (hs 3 t < hs 3 x ∨ (hs 3 x = hs 3 t ∧ x < t))) → V5 (ahd off (hs 3) t x) ((x : Int) + 1) := by
        intro c
        rw [if_neg c, Int.add_zero] at z
        exact z
      refine k5 _ _ ⟨(by unfold inR; omega), (by unfold inR; omega), bf (by omega) ⟨(by unfold inR; omega), (by unfold inR; omega), _, cq, ?_⟩⟩
      rw [ina x (by omega), ina t (by omega)]
      by_cases c : off x = 0
      · rw [if_neg (fun u => u.2 c)]
        exact ⟨R0, bt rfl (no (fun u => u.1 c))⟩
      · rw [if_pos ⟨by omega, c⟩]
        exact ⟨R1, bf n10 ⟨(by unfold inR; omega), fun d => yes ⟨c, by omega⟩, fun d => ⟨(by unfold inR; omega), fun e => no (by omega), fun e => ⟨(by unfold inR; omega), (by unfold inR; omega), fun f => no (by omega), fun f => yes ⟨c, by omega⟩⟩⟩⟩⟩
  exact key T 0 (by omega)
/-- the title in a place: the first, from x on -/
def tip (off mi : Nat → Int) (T : Nat) (p : Int) : Nat → Nat → Int
  | 0, _ => -1
  | j + 1, x => if off x ≠ 0 ∧ ahd off mi x T = p then (x : Int) else tip off mi T p j (x + 1)
theorem tip_n (off mi : Nat → Int) (T : Nat) (p : Int) : ∀ j x : Nat, (∀ y : Nat, x ≤ y → y < x + j → ¬ (off y ≠ 0 ∧ ahd off mi y T = p)) → tip off mi T p j x = -1 := by
  intro j
  induction j with
  | zero => intros; rfl
  | succ j ih =>
    intro x h
    unfold tip
    rw [if_neg (h x (by omega) (by omega)), ih (x + 1) (fun y h1 h2 => h y (by omega) (by omega))]
theorem q_tip {hs : ISt} {T : Nat} {off : Nat → Int} {p : Int} (hp : inR p) (eT : hs 0 0 = T) (bT : T ≤ 8) (hM : ∀ x : Nat, x < T → 0 ≤ hs 3 x ∧ hs 3 x ≤ 300) : Q_X3_titleInPlace hs (oset off T) p (tip off (hs 3) T p T 0) := by
  obtain ⟨b1, b2, b3⟩ := oset_b off T (by omega)
  intro V k
  have key : ∀ (j x : Nat), x + j = T → tip off (hs 3) T p T 0 = tip off (hs 3) T p j x → V x := by
    intro j
    induction j with
    | zero =>
      intro x hx q
      exact k _ ⟨(by unfold inR; omega), (by unfold inR; omega), bt (by omega) q⟩
    | succ j ih =>
      intro x hx q
      have q : tip off (hs 3) T p T 0 = if off x ≠ 0 ∧ ahd off (hs 3) x T = p then (x : Int) else tip off (hs 3) T p j (x + 1) := q
      have cq := q_has b1 b2 (show x < 32 by omega)
      rw [b3 x] at cq
      have ab := ahd_b off (hs 3) x T
      refine k _ ⟨(by unfold inR; omega), (by unfold inR; omega), bf (by omega) ⟨_, cq, ?_⟩⟩
      by_cases c : off x = 0
      · rw [if_neg (fun u => u.2 c)]
        rw [if_neg (fun u => u.1 c)] at q
        exact ⟨R0, bt rfl (ih (x + 1) (by omega) q)⟩
      · rw [if_pos ⟨by omega, c⟩]
        refine ⟨R1, bf n10 ⟨_, q_ahead3 eT bT hM (show x < T by omega), (by unfold inR; omega), hp, ?_, ?_⟩⟩
        · intro d
          rw [if_neg (fun u => d u.2)] at q
          exact ih (x + 1) (by omega) q
        · intro d
          rw [if_pos ⟨c, d⟩] at q
          exact q
  exact key T 0 (by omega) rfl
def L_X0_wasteOfSet_8 (h : ISt) (a1 : Int) (a2 : Int) (r : Int) (q0 : Int) (q1 : Int) (q2 : Int) : Prop := ∀ V8 : Int → Int → Int → Prop, ∀ V43 : Int → Int → Prop, ∀ V44 : Int → Int → Int → Prop, (∀ x3 x4 x5 : Int, (inR x5 ∧ inR (h 0 1) ∧ (((h 0 1) ≤ x5 → (inR x4 ∧ inR a2 ∧ ((a2 ≤ x4 → (r = (x4 - a2))) ∧ (¬ a2 ≤ x4 → (r = (-1 : Int)))))) ∧ (¬ (h 0 1) ≤ x5 → (∃ r1 : Int, Q_X4_contains a1 x5 r1 ∧ (inR r1 ∧ ((r1 = (0 : Int) → (V8 x3 x4 (x5 + (1 : Int)))) ∧ (¬ r1 = (0 : Int) → (inR x3 ∧ ((x3 = (-1 : Int) → (V43 x4 x5)) ∧ (¬ x3 = (-1 : Int) → (inR x3 ∧ inR (x5 - (1 : Int)) ∧ ((x3 = (x5 - (1 : Int)) → (V43 x4 x5)) ∧ (¬ x3 = (x5 - (1 : Int)) → (V44 x4 x5 (1 : Int))))))))))))))) → V8 x3 x4 x5) → (∀ x4 x5 : Int, (V44 x4 x5 (0 : Int)) → V43 x4 x5) → (∀ x4 x5 t0 : Int, (inR t0 ∧ ((¬ t0 = (0 : Int) → (r = (-1 : Int))) ∧ (t0 = (0 : Int) → (inR x5 ∧ (inR (iat 10 (h 2) x5) ∧ (((iat 10 (h 2) x5) = (-1 : Int) → (inR x5 ∧ (V8 x5 (x4 + ((iat 10 (h 1) x5) - (1 : Int))) (x5 + (1 : Int))))) ∧ (¬ (iat 10 (h 2) x5) = (-1 : Int) → (r = (-1 : Int))))))))) → V44 x4 x5 t0) → V8 q0 q1 q2
def bitv (s : Int) (t : Nat) : Nat := s.toNat / 2 ^ t % 2
theorem bitv_b (s : Int) (t : Nat) : bitv s t = 0 ∨ bitv s t = 1 := by
  unfold bitv
  omega
theorem set_ex {h : ISt} {n : Nat} (ho : HallOk h n) {p : Int} (hp : 1 ≤ p ∧ p ≤ 12) {s : Int} (s0 : 0 ≤ s) (s1 : s < 65536) (some : ∃ t : Nat, t < n ∧ bitv s t = 1) :
    ∀ (j x : Nat), x + j = n → ∀ last mg : Int, ((last = -1 ∧ mg = 1 ∧ ∀ t : Nat, t < x → bitv s t = 0) ∨ (∃ f l : Nat, last = (f : Int) + l - 1 ∧ 1 ≤ l ∧ f + l ≤ x ∧ (∀ t : Nat, t < x → (bitv s t = 1 ↔ f ≤ t ∧ t < f + l)) ∧ (∀ t : Nat, f ≤ t → t < f + l → h 2 t = -1) ∧ mg = ssum (h 1) f l - l + 1)) →
    ∃ r : Int, L_X0_wasteOfSet_8 h s p r last mg x ∧ (r = -1 ∨ ∃ m f, Fit h n p r m f) ∧ ∀ w m f, Fit h n p w m f → (∀ t : Nat, t < n → (bitv s t = 1 ↔ f ≤ t ∧ t < f + m)) → r = w := by
  have ho' := ho
  obtain ⟨e, b, hT, hs⟩ := ho'
  intro j
  induction j with
  | zero =>
    intro x hx last mg inv
    have hx : x = n := hx
    subst hx
    rcases inv with ⟨i1, i2, i3⟩ | ⟨f, l, i1, i2, i3, i4, i5, i6⟩
    · obtain ⟨t, t1, t2⟩ := some
      have := i3 t t1
      omega
    · have sb := ssum_b hs f l i3
      by_cases c : p ≤ mg
      · refine ⟨mg - p, ?_, Or.inr ⟨l, f, i2, i3, i5, by omega, by omega⟩, ?_⟩
        · intro V8 V43 V44 k8 k43 k44
          exact k8 _ _ _ ⟨(by unfold inR; omega), (by unfold inR; omega), bt (by omega) ⟨(by unfold inR; omega), (by unfold inR; omega), bt c rfl⟩⟩
        · intro w m f' q hb
          have z1 := (i4 f (by omega)).mpr ⟨by omega, by omega⟩
          have z2 := (i4 (f + l - 1) (by omega)).mpr ⟨by omega, by omega⟩
          have q1 := q.1
          have q2 := q.2.1
          have z3 := (hb f' (by omega)).mpr ⟨by omega, by omega⟩
          have z4 := (hb (f' + m - 1) (by omega)).mpr ⟨by omega, by omega⟩
          have y1 := (hb f (by omega)).mp z1
          have y2 := (hb (f + l - 1) (by omega)).mp z2
          have y3 := (i4 f' (by omega)).mp z3
          have y4 := (i4 (f' + m - 1) (by omega)).mp z4
          have ef : f' = f := by omega
          have em : m = l := by omega
          subst ef
          subst em
          have := q.2.2.2.1
          omega
      · refine ⟨-1, ?_, Or.inl rfl, ?_⟩
        · intro V8 V43 V44 k8 k43 k44
          exact k8 _ _ _ ⟨(by unfold inR; omega), (by unfold inR; omega), bt (by omega) ⟨(by unfold inR; omega), (by unfold inR; omega), bf c rfl⟩⟩
        · intro w m f' q hb
          have z1 := (i4 f (by omega)).mpr ⟨by omega, by omega⟩
          have z2 := (i4 (f + l - 1) (by omega)).mpr ⟨by omega, by omega⟩
          have q1 := q.1
          have q2 := q.2.1
          have z3 := (hb f' (by omega)).mpr ⟨by omega, by omega⟩
          have z4 := (hb (f' + m - 1) (by omega)).mpr ⟨by omega, by omega⟩
          have y1 := (hb f (by omega)).mp z1
          have y2 := (hb (f + l - 1) (by omega)).mp z2
          have y3 := (i4 f' (by omega)).mp z3
          have y4 := (i4 (f' + m - 1) (by omega)).mp z4
          have ef : f' = f := by omega
          have em : m = l := by omega
          subst ef
          subst em
          have := q.2.2.2.1
          have := q.2.2.2.2
          omega
  | succ j ih =>
    intro x hx last mg inv
    have cq := q_has s0 s1 (show x < 32 by omega)
    have lb : inR last ∧ -1 ≤ last ∧ last ≤ 20 := by
      rcases inv with ⟨i1, i2, i3⟩ | ⟨f, l, i1, i2, i3, i4, i5, i6⟩
      · exact ⟨(by unfold inR; omega), by omega, by omega⟩
      · exact ⟨(by unfold inR; omega), by omega, by omega⟩
    have tx := hT x (by omega)
    have sx := hs x (by omega)
    rcases bitv_b s x with c | c
    · -- not in the set
      have c' : s.toNat / 2 ^ x % 2 = 0 := c
      obtain ⟨r, q1, q2, q3⟩ := ih (x + 1) (by omega) last mg (by
        rcases inv with ⟨i1, i2, i3⟩ | ⟨f, l, i1, i2, i3, i4, i5, i6⟩
        · refine Or.inl ⟨i1, i2, fun t ht => ?_⟩
          by_cases d : t = x
          · subst d
            exact c
          · exact i3 t (by omega)
        · refine Or.inr ⟨f, l, i1, i2, by omega, fun t ht => ?_, i5, i6⟩
          by_cases d : t = x
          · subst d
            omega
          · exact i4 t (by omega))
      refine ⟨r, ?_, q2, q3⟩
      intro V8 V43 V44 k8 k43 k44
      refine k8 _ _ _ ⟨(by unfold inR; omega), (by unfold inR; omega), bf (by omega) ⟨_, cq, ?_⟩⟩
      rw [c']
      exact ⟨R0, bt rfl (q1 V8 V43 V44 k8 k43 k44)⟩
    · have c' : s.toNat / 2 ^ x % 2 = 1 := c
      -- next to the last one, or the first
      by_cases d : last = -1 ∨ last = (x : Int) - 1
      · by_cases g : h 2 x = -1
        · obtain ⟨r, q1, q2, q3⟩ := ih (x + 1) (by omega) x (mg + (h 1 x - 1)) (by
            rcases inv with ⟨i1, i2, i3⟩ | ⟨f, l, i1, i2, i3, i4, i5, i6⟩
            · refine Or.inr ⟨x, 1, by omega, by omega, by omega, fun t ht => ?_, fun t h1 h2 => ?_, ?_⟩
              · by_cases u : t = x
                · subst u
                  omega
                · have := i3 t (by omega)
                  omega
              · have u : t = x := by omega
                subst u
                exact g
              · have e1 : ssum (h 1) x 1 = 0 + h 1 (x + 0) := rfl
                rw [e1, Nat.add_zero]
                omega
            · have fl : f + l = x := by omega
              refine Or.inr ⟨f, l + 1, by omega, by omega, by omega, fun t ht => ?_, fun t h1 h2 => ?_, ?_⟩
              · by_cases u : t = x
                · subst u
                  omega
                · have := i4 t (by omega)
                  omega
              · by_cases u : t = x
                · subst u
                  exact g
                · exact i5 t h1 (by omega)
              · have e1 : ssum (h 1) f (l + 1) = ssum (h 1) f l + h 1 (f + l) := rfl
                rw [e1, fl]
                omega)
          refine ⟨r, ?_, q2, q3⟩
          intro V8 V43 V44 k8 k43 k44
          have z := q1 V8 V43 V44 k8 k43 k44
          have z43 : V43 mg x := by
            refine k43 _ _ (k44 _ _ _ ⟨R0, nf rfl ⟨(by unfold inR; omega), ?_⟩⟩)
            rw [ina (f := h 2) x (by omega), ina (f := h 1) x (by omega)]
            exact ⟨(by unfold inR; omega), bt g ⟨(by unfold inR; omega), z⟩⟩
          refine k8 _ _ _ ⟨(by unfold inR; omega), (by unfold inR; omega), bf (by omega) ⟨_, cq, ?_⟩⟩
          rw [c']
          exact ⟨R1, bf n10 ⟨lb.1, fun _ => z43, fun u => ⟨lb.1, (by unfold inR; omega), fun _ => z43, fun v => absurd d (by omega)⟩⟩⟩
        · refine ⟨-1, ?_, Or.inl rfl, ?_⟩
          · intro V8 V43 V44 k8 k43 k44
            have z43 : V43 mg x := by
              refine k43 _ _ (k44 _ _ _ ⟨R0, nf rfl ⟨(by unfold inR; omega), ?_⟩⟩)
              rw [ina (f := h 2) x (by omega)]
              exact ⟨(by unfold inR; omega), bf g rfl⟩
            refine k8 _ _ _ ⟨(by unfold inR; omega), (by unfold inR; omega), bf (by omega) ⟨_, cq, ?_⟩⟩
            rw [c']
            exact ⟨R1, bf n10 ⟨lb.1, fun _ => z43, fun u => ⟨lb.1, (by unfold inR; omega), fun _ => z43, fun v => absurd d (by omega)⟩⟩⟩
          · intro w m f' q hb
            have y := (hb x (by omega)).mp c
            exact absurd (q.2.2.1 x y.1 y.2) g
      · refine ⟨-1, ?_, Or.inl rfl, ?_⟩
        · intro V8 V43 V44 k8 k43 k44
          refine k8 _ _ _ ⟨(by unfold inR; omega), (by unfold inR; omega), bf (by omega) ⟨_, cq, ?_⟩⟩
          rw [c']
          exact ⟨R1, bf n10 ⟨lb.1, bf (by omega) ⟨lb.1, (by unfold inR; omega), bf (by omega) (k44 _ _ _ ⟨R1, nt n10 rfl⟩)⟩⟩⟩
        · intro w m f' q hb
          rcases inv with ⟨i1, i2, i3⟩ | ⟨f, l, i1, i2, i3, i4, i5, i6⟩
          · omega
          · have y := (hb x (by omega)).mp c
            have z1 := (i4 f (by omega)).mpr ⟨by omega, by omega⟩
            have y1 := (hb f (by omega)).mp z1
            have z2 := (hb (f + l) (by omega)).mpr ⟨by omega, by omega⟩
            have y2 := (i4 (f + l) (by omega)).mp z2
            omega
theorem some_bit {n : Nat} {s : Int} (s0 : 1 ≤ s) (s1 : s < ((2 ^ n : Nat) : Int)) : ∃ t : Nat, t < n ∧ bitv s t = 1 := by
  by_cases c : ∃ t : Nat, t < n ∧ bitv s t = 1
  · exact c
  · have z : s.toNat = 0 := by
      refine Nat.eq_of_testBit_eq fun i => ?_
      rw [Nat.zero_testBit]
      by_cases d : i < n
      · have e := bv_tb s.toNat i
        have f : bitv s i = 0 := (bitv_b s i).resolve_right (fun u => c ⟨i, d, u⟩)
        unfold bitv at f
        rw [f] at e
        by_cases g : s.toNat.testBit i = true
        · rw [if_pos g] at e
          omega
        · exact Bool.not_eq_true _ ▸ g
      · have h1 : s.toNat < 2 ^ n := by omega
        have h2 : 2 ^ n ≤ 2 ^ i := Nat.pow_le_pow_right (by omega) (by omega)
        exact Nat.testBit_lt_two_pow (by omega)
    omega
theorem set_of (n f m : Nat) (b : n ≤ 10) (hm : 1 ≤ m) (hf : f + m ≤ n) : ∃ s : Nat, 1 ≤ s ∧ s < 2 ^ n ∧ ∀ t : Nat, t < n → (bitv s t = 1 ↔ f ≤ t ∧ t < f + m) := by
  obtain ⟨b1, b2, b3⟩ := oset_b (fun t => if f ≤ t ∧ t < f + m then 1 else 0) n (by omega)
  have bb : ∀ t : Nat, (oset (fun t => if f ≤ t ∧ t < f + m then 1 else 0) n).toNat / 2 ^ t % 2 = if f ≤ t ∧ t < f + m then 1 else 0 := by
    intro t
    rw [b3 t]
    by_cases c : f ≤ t ∧ t < f + m
    · have g : t < n ∧ (if f ≤ t ∧ t < f + m then (1 : Int) else 0) ≠ 0 := ⟨by omega, by rw [if_pos c]; omega⟩
      rw [if_pos g, if_pos c]
    · have g : ¬ (t < n ∧ (if f ≤ t ∧ t < f + m then (1 : Int) else 0) ≠ 0) := fun u => u.2 (if_neg c)
      rw [if_neg g, if_neg c]
  refine ⟨(oset (fun t => if f ≤ t ∧ t < f + m then 1 else 0) n).toNat, ?_, ?_, ?_⟩
  · by_cases c : (oset (fun t => if f ≤ t ∧ t < f + m then 1 else 0) n).toNat = 0
    · have z := bb f
      rw [c, if_pos ⟨by omega, by omega⟩, Nat.zero_div] at z
      omega
    · omega
  · refine Nat.lt_pow_two_of_testBit _ fun i hi => ?_
    have e := bv_tb (oset (fun t => if f ≤ t ∧ t < f + m then 1 else 0) n).toNat i
    rw [bb i, if_neg (by omega)] at e
    by_cases g : (oset (fun t => if f ≤ t ∧ t < f + m then 1 else 0) n).toNat.testBit i = true
    · rw [if_pos g] at e
      omega
    · exact Bool.not_eq_true _ ▸ g
  · intro t ht
    unfold bitv
    rw [Int.toNat_natCast, bb t]
    by_cases c : f ≤ t ∧ t < f + m
    · rw [if_pos c]
      exact ⟨fun _ => c, fun _ => rfl⟩
    · rw [if_neg c]
      exact ⟨fun u => absurd u (by omega), fun u => absurd u c⟩
theorem q_sets {h : ISt} {n : Nat} (ho : HallOk h n) {p : Int} (hp : 1 ≤ p ∧ p ≤ 12) {r : Int} (hr : IsLeast (fun w => ∃ m f, Fit h n p w m f) r) : Q_X0_leastWasteOfSets h p r := by
  have ho' := ho
  obtain ⟨e, b, hT, hs⟩ := ho'
  have pn : 2 ^ n ≤ 2 ^ 10 := Nat.pow_le_pow_right (by omega) b
  have pn' : 2 ^ n ≤ 1024 := pn
  have wex : ∀ s : Nat, ∃ w : Int, 1 ≤ s → s < 2 ^ n → Q_X0_wasteOfSet h s p w ∧ (w = -1 ∨ ∃ m f, Fit h n p w m f) ∧ ∀ w' m f, Fit h n p w' m f → (∀ t : Nat, t < n → (bitv s t = 1 ↔ f ≤ t ∧ t < f + m)) → w = w' := by
    intro s
    by_cases c : 1 ≤ s ∧ s < 2 ^ n
    · obtain ⟨w, q1, q2, q3⟩ := set_ex ho hp (s := s) (by omega) (by omega) (some_bit (by omega) (by omega)) n 0 (by omega) (-1) 1 (Or.inl ⟨rfl, rfl, fun t ht => by omega⟩)
      exact ⟨w, fun _ _ => ⟨q1, q2, q3⟩⟩
    · exact ⟨0, fun h1 h2 => absurd ⟨h1, h2⟩ c⟩
  have W : ∃ W : Nat → Int, ∀ s : Nat, 1 ≤ s → s < 2 ^ n → Q_X0_wasteOfSet h s p (W s) ∧ (W s = -1 ∨ ∃ m f, Fit h n p (W s) m f) ∧ ∀ w' m f, Fit h n p w' m f → (∀ t : Nat, t < n → (bitv s t = 1 ↔ f ≤ t ∧ t < f + m)) → W s = w' := ⟨fun s => Classical.choose (wex s), fun s => Classical.choose_spec (wex s)⟩
  obtain ⟨W, hW⟩ := W
  have wb : ∀ s : Nat, 1 ≤ s → s < 2 ^ n → -1 ≤ W s ∧ W s ≤ 100 := by
    intro s h1 h2
    rcases (hW s h1 h2).2.1 with u | ⟨m, f, u⟩
    · omega
    · have := fit_b ho hp.1 u
      omega
  have i1 : ishl1 (h 0 1) = ((2 ^ n : Nat) : Int) := by
    rw [e]
    unfold ishl1
    rw [Int.toNat_natCast]
  intro V4 k4
  have key : ∀ (j s : Nat), 1 ≤ s → s + j = 2 ^ n → ∀ x2 : Int, IsLeast (fun w => 0 ≤ w ∧ ∃ s' : Nat, 1 ≤ s' ∧ s' < s ∧ W s' = w) x2 → V4 x2 s := by
    intro j
    induction j with
    | zero =>
      intro s h1 h2 x2 hx
      have h2 : s = 2 ^ n := h2
      refine k4 _ _ ⟨by omega, (by unfold inR; omega), ?_⟩
      rw [i1]
      refine ⟨(by unfold inR; omega), bt (by omega) ?_⟩
      refine least_u (S := fun w => ∃ m f, Fit h n p w m f) (fun w ⟨m', f', q⟩ => q.2.2.2.2) hr (least_c (fun w => ⟨?_, ?_⟩) hx)
      · rintro ⟨w0, s', g1, g2, g3⟩
        rcases (hW s' g1 (by omega)).2.1 with u | ⟨m, f, u⟩
        · omega
        · rw [g3] at u
          exact ⟨m, f, u⟩
      · rintro ⟨m, f, q⟩
        obtain ⟨s', g1, g2, g3⟩ := set_of n f m b q.1 q.2.1
        exact ⟨q.2.2.2.2, s', g1, by omega, (hW s' g1 g2).2.2 w m f q g3⟩
    | succ j ih =>
      intro s h1 h2 x2 hx
      have h3 : s < 2 ^ n := by omega
      have bx : -1 ≤ x2 ∧ x2 ≤ 100 := by
        rcases hx with ⟨u1, u2⟩ | ⟨⟨u1, s', g1, g2, g3⟩, u2⟩
        · omega
        · have := wb s' g1 (by omega)
          omega
      obtain ⟨r2, l1, l2⟩ := q_lesser bx (wb s h1 h3)
      refine k4 _ _ ⟨by omega, (by unfold inR; omega), ?_⟩
      rw [i1]
      refine ⟨(by unfold inR; omega), bf (by omega) ⟨_, (hW s h1 h3).1, r2, l1, ih (s + 1) (by omega) (by omega) r2 ?_⟩⟩
      have one : IsLeast (fun w => 0 ≤ w ∧ W s = w) (W s) := by
        have := wb s h1 h3
        by_cases c : W s = -1
        · exact Or.inl ⟨c, fun w u => by omega⟩
        · exact Or.inr ⟨⟨by omega, rfl⟩, fun w u => by omega⟩
      refine least_c (fun w => ⟨?_, ?_⟩) (least_more hx one (fun w u => u.1) (fun w u => u.1) l2)
      · rintro (⟨w0, s', g1, g2, g3⟩ | ⟨w0, g⟩)
        · exact ⟨w0, s', g1, by omega, g3⟩
        · exact ⟨w0, s, h1, by omega, g⟩
      · rintro ⟨w0, s', g1, g2, g3⟩
        by_cases d : s' = s
        · subst d
          exact Or.inr ⟨w0, g3⟩
        · exact Or.inl ⟨w0, s', g1, by omega, g3⟩
  have one := Nat.one_le_two_pow (n := n)
  refine key (2 ^ n - 1) 1 (by omega) (by omega) (-1) (Or.inl ⟨rfl, ?_⟩)
  rintro w ⟨w0, s', g1, g2, g3⟩
  omega
def L_X3_closeLoans_4 (h : ISt) (a1 : Int) (r : Int) (h' : ISt) (q0 : ISt) (q1 : Int) (q2 : Int) : Prop := ∀ V4 : ISt → Int → Int → Prop, ∀ V16 : ISt → Int → Int → Int → Prop, (∀ hv : ISt, ∀ x2 x3 : Int, (inR x3 ∧ ((x3 < (0 : Int) → (r = x2 ∧ h' = hv)) ∧ (¬ x3 < (0 : Int) → (V16 hv x2 x3 ((hv 0 1) - (1 : Int)))))) → V4 hv x2 x3) → (∀ hv : ISt, ∀ x2 x3 x4 : Int, (inR x4 ∧ ((x4 < (0 : Int) → (V4 hv x2 (x3 + (-1 : Int)))) ∧ (¬ x4 < (0 : Int) → (inR ((x4 * (4 : Int)) + x3) ∧ (inR x4 ∧ (inR (iat 16 (hv 7) x4) ∧ inR a1 ∧ ((¬ (iat 16 (hv 7) x4) = a1 → (V16 hv x2 x3 (x4 + (-1 : Int)))) ∧ ((iat 16 (hv 7) x4) = a1 → (inR (iat 64 (hv 8) ((x4 * (4 : Int)) + x3)) ∧ (((iat 64 (hv 8) ((x4 * (4 : Int)) + x3)) ≤ (0 : Int) → (V16 hv x2 x3 (x4 + (-1 : Int)))) ∧ (¬ (iat 64 (hv 8) ((x4 * (4 : Int)) + x3)) ≤ (0 : Int) → (∃ r3 : Int, Q_X3_count hv a1 x3 r3 ∧ (inR (iat 64 (hv 8) ((x4 * (4 : Int)) + x3)) ∧ inR r3 ∧ (∀ y4 : Int, y4 = imin (iat 64 (hv 8) ((x4 * (4 : Int)) + x3)) r3 → (∃ h6 : ISt, Q_X3_change hv a1 x3 (-y4) h6 ∧ (∃ h8 : ISt, Q_X3_change h6 x4 x3 y4 h8 ∧ (inR ((x4 * (4 : Int)) + x3) ∧ (∀ h10 : ISt, h10 = iput h8 8 64 ((x4 * (4 : Int)) + x3) (0 : Int) → (V16 h10 (x2 + (1 : Int)) x3 (x4 + (-1 : Int))))))))))))))))))))) → V16 hv x2 x3 x4) → V4 q0 q1 q2
def L_X3_closeLoans_16 (h : ISt) (a1 : Int) (r : Int) (h' : ISt) (q0 : ISt) (q1 : Int) (q2 : Int) (q3 : Int) : Prop := ∀ V4 : ISt → Int → Int → Prop, ∀ V16 : ISt → Int → Int → Int → Prop, (∀ hv : ISt, ∀ x2 x3 : Int, (inR x3 ∧ ((x3 < (0 : Int) → (r = x2 ∧ h' = hv)) ∧ (¬ x3 < (0 : Int) → (V16 hv x2 x3 ((hv 0 1) - (1 : Int)))))) → V4 hv x2 x3) → (∀ hv : ISt, ∀ x2 x3 x4 : Int, (inR x4 ∧ ((x4 < (0 : Int) → (V4 hv x2 (x3 + (-1 : Int)))) ∧ (¬ x4 < (0 : Int) → (inR ((x4 * (4 : Int)) + x3) ∧ (inR x4 ∧ (inR (iat 16 (hv 7) x4) ∧ inR a1 ∧ ((¬ (iat 16 (hv 7) x4) = a1 → (V16 hv x2 x3 (x4 + (-1 : Int)))) ∧ ((iat 16 (hv 7) x4) = a1 → (inR (iat 64 (hv 8) ((x4 * (4 : Int)) + x3)) ∧ (((iat 64 (hv 8) ((x4 * (4 : Int)) + x3)) ≤ (0 : Int) → (V16 hv x2 x3 (x4 + (-1 : Int)))) ∧ (¬ (iat 64 (hv 8) ((x4 * (4 : Int)) + x3)) ≤ (0 : Int) → (∃ r3 : Int, Q_X3_count hv a1 x3 r3 ∧ (inR (iat 64 (hv 8) ((x4 * (4 : Int)) + x3)) ∧ inR r3 ∧ (∀ y4 : Int, y4 = imin (iat 64 (hv 8) ((x4 * (4 : Int)) + x3)) r3 → (∃ h6 : ISt, Q_X3_change hv a1 x3 (-y4) h6 ∧ (∃ h8 : ISt, Q_X3_change h6 x4 x3 y4 h8 ∧ (inR ((x4 * (4 : Int)) + x3) ∧ (∀ h10 : ISt, h10 = iput h8 8 64 ((x4 * (4 : Int)) + x3) (0 : Int) → (V16 h10 (x2 + (1 : Int)) x3 (x4 + (-1 : Int))))))))))))))))))))) → V16 hv x2 x3 x4) → V16 q0 q1 q2 q3
/-- borrowers below x forgotten -/
theorem forg_0 (h : ISt) (a : Int) : frow h 7 (freed (h 7) 0 a) = h := by
  funext i t
  unfold frow freed
  by_cases c : i = 7
  · subst c
    rw [if_pos rfl, if_neg (by omega)]
  · rw [if_neg c]
theorem forg_s (h : ISt) (g : Nat → Int) (x : Nat) (a : Int) (hx : g x = a) : iset (frow h 7 (freed g x a)) 7 x (-1) = frow h 7 (freed g (x + 1) a) := by
  funext i t
  unfold iset frow freed iupd
  by_cases c : i = 7
  · subst c
    simp only [if_true]
    by_cases d : t = x
    · subst d
      rw [if_pos rfl, if_pos ⟨by omega, hx⟩]
    · rw [if_neg d]
      by_cases e : t < x ∧ g t = a
      · rw [if_pos e, if_pos ⟨by omega, e.2⟩]
      · rw [if_neg e, if_neg (by omega)]
  · simp only [c, if_false]
theorem forg_n (h : ISt) (g : Nat → Int) (x : Nat) (a : Int) (hx : g x ≠ a) : frow h 7 (freed g x a) = frow h 7 (freed g (x + 1) a) := by
  funext i t
  unfold frow freed
  by_cases c : i = 7
  · subst c
    simp only [if_true]
    by_cases d : t = x
    · subst d
      rw [if_neg (by omega), if_neg (fun z => hx z.2)]
    · by_cases e : t < x ∧ g t = a
      · rw [if_pos e, if_pos ⟨by omega, e.2⟩]
      · rw [if_neg e, if_neg (by omega)]
  · simp only [c, if_false]
theorem q_takeBack {h s' : ISt} {n C k : Nat} {x r : Int} (bn : n ≤ 16) (hC : C < n) (hk : k < 4) (e01 : s' 0 1 = n) (hr7 : ∀ t : Nat, t < n → inR (s' 7 t)) (q : Q_X3_closeLoans (iset h 9 (4 * C + k) (h 9 (4 * C + k) + -x)) C r s') : Q_X3_takeBack h C k x r (iset (frow s' 7 (freed (s' 7) n C)) 6 C (-1)) := by
  intro V kk
  refine ⟨_, q_change (by omega) hk, r, s', q, ?_⟩
  have key : ∀ (J y : Nat), y + J = n → V (frow s' 7 (freed (s' 7) y C)) r y := by
    intro J
    induction J with
    | zero =>
      intro y hy
      have hy : y = n := hy
      subst hy
      exact kk _ _ _ ⟨(by unfold inR; omega), (show inR (s' 0 1) by rw [e01]; unfold inR; omega), bt (show s' 0 1 ≤ y by omega) ⟨(by unfold inR; omega), fp C rfl (by omega) rfl ⟨rfl, rfl⟩⟩⟩
    | succ J ih =>
      intro y hy
      have z := ih (y + 1) (by omega)
      refine kk _ _ _ ⟨(by unfold inR; omega), (show inR (s' 0 1) by rw [e01]; unfold inR; omega), bf (show ¬ s' 0 1 ≤ y by omega) ⟨(by unfold inR; omega), ?_⟩⟩
      rw [ina y (by omega)]
      have e : frow s' 7 (freed (s' 7) y C) 7 y = s' 7 y := freed_at _ _ _
      rw [e]
      refine ⟨hr7 y (by omega), (by unfold inR; omega), ?_, ?_⟩
      · intro c
        rw [forg_n _ _ _ _ c]
        exact z
      · intro c
        refine ⟨(by unfold inR; omega), fp y rfl (by omega) rfl ?_⟩
        rw [forg_s _ _ _ _ c]
        exact z
  have z := key n 0 (by omega)
  rw [forg_0] at z
  exact z
def L_X3_handOut_2 (h : ISt) (a1 : Int) (a2 : Int) (h' : ISt) (q0 : ISt) (q1 : Int) : Prop := ∀ V2 : ISt → Int → Prop, ∀ V10 : ISt → Int → Int → Prop, (∀ hv : ISt, ∀ x3 : Int, (inR x3 ∧ (((4 : Int) ≤ x3 → (inR a1 ∧ (∀ h2 : ISt, h2 = iput hv 6 16 a1 a2 → (h' = h2)))) ∧ (¬ (4 : Int) ≤ x3 → (V10 hv x3 (0 : Int))))) → V2 hv x3) → (∀ hv : ISt, ∀ x3 x4 : Int, (inR x4 ∧ inR (hv 0 1) ∧ (((hv 0 1) ≤ x4 → (V2 hv (x3 + (1 : Int)))) ∧ (¬ (hv 0 1) ≤ x4 → (∃ r3 : Int, Q_X3_lack hv a1 x3 r3 ∧ (∃ r4 : Int, Q_X3_count hv x4 x3 r4 ∧ (inR r3 ∧ inR r4 ∧ (∃ r5 : Int, Q_X3_mayLend hv x4 a1 r5 ∧ (inR r5 ∧ ((r5 = (0 : Int) → (V10 hv x3 (x4 + (1 : Int)))) ∧ (¬ r5 = (0 : Int) → (inR (imin r3 r4) ∧ (((imin r3 r4) ≤ (0 : Int) → (V10 hv x3 (x4 + (1 : Int)))) ∧ (¬ (imin r3 r4) ≤ (0 : Int) → (∃ h7 : ISt, Q_X3_lend hv x4 a1 x3 (imin r3 r4) h7 ∧ (V10 h7 x3 (x4 + (1 : Int))))))))))))))))) → V10 hv x3 x4) → V2 q0 q1
def L_X3_handOut_10 (h : ISt) (a1 : Int) (a2 : Int) (h' : ISt) (q0 : ISt) (q1 : Int) (q2 : Int) : Prop := ∀ V2 : ISt → Int → Prop, ∀ V10 : ISt → Int → Int → Prop, (∀ hv : ISt, ∀ x3 : Int, (inR x3 ∧ (((4 : Int) ≤ x3 → (inR a1 ∧ (∀ h2 : ISt, h2 = iput hv 6 16 a1 a2 → (h' = h2)))) ∧ (¬ (4 : Int) ≤ x3 → (V10 hv x3 (0 : Int))))) → V2 hv x3) → (∀ hv : ISt, ∀ x3 x4 : Int, (inR x4 ∧ inR (hv 0 1) ∧ (((hv 0 1) ≤ x4 → (V2 hv (x3 + (1 : Int)))) ∧ (¬ (hv 0 1) ≤ x4 → (∃ r3 : Int, Q_X3_lack hv a1 x3 r3 ∧ (∃ r4 : Int, Q_X3_count hv x4 x3 r4 ∧ (inR r3 ∧ inR r4 ∧ (∃ r5 : Int, Q_X3_mayLend hv x4 a1 r5 ∧ (inR r5 ∧ ((r5 = (0 : Int) → (V10 hv x3 (x4 + (1 : Int)))) ∧ (¬ r5 = (0 : Int) → (inR (imin r3 r4) ∧ (((imin r3 r4) ≤ (0 : Int) → (V10 hv x3 (x4 + (1 : Int)))) ∧ (¬ (imin r3 r4) ≤ (0 : Int) → (∃ h7 : ISt, Q_X3_lend hv x4 a1 x3 (imin r3 r4) h7 ∧ (V10 h7 x3 (x4 + (1 : Int))))))))))))))))) → V10 hv x3 x4) → V10 q0 q1 q2
def lentS (s : ISt) (C x K : Nat) (v : Int) : ISt := iset (iset (iset (iset s 7 x C) 8 (4 * x + K) v) 9 (4 * x + K) (s 9 (4 * x + K) + -v)) 9 (4 * C + K) (s 9 (4 * C + K) + v)
theorem q_lend {h : ISt} {n x C K : Nat} {v : Int} (bn : n ≤ 16) (hx : x < n) (hC : C < n) (hK : K < 4) (ne : x ≠ C) : Q_X3_lend h x C K v (lentS h C x K v) := by
  refine ⟨(by unfold inR; omega), fp x rfl (by omega) rfl ⟨(by unfold inR; omega), fp (4 * x + K) (by omega) (by omega) rfl ⟨_, q_change (by omega) hK, _, q_change (by omega) hK, ?_⟩⟩⟩
  have e : iset (iset (iset h 7 x C) 8 (4 * x + K) v) 9 (4 * x + K) (iset (iset h 7 x C) 8 (4 * x + K) v 9 (4 * x + K) + -v) 9 (4 * C + K) = h 9 (4 * C + K) := u_ne (by omega)
  rw [e]
  rfl
/-- nothing lacking: the class goes through the rest for nothing -/
theorem hand_idle {hA s h' : ISt} {n C A K : Nat} {g : Int} (ho : CopyOk s n) (hC : C < n) (eA : s 5 C = A) (bA : A < 8) (hK : K < 4) (full : s 4 (4 * A + K) = s 9 (4 * C + K)) (b9 : ∀ c : Nat, c < n → 0 ≤ s 9 (4 * c + K) ∧ s 9 (4 * c + K) ≤ 9) (q : L_X3_handOut_2 hA C g h' s ((K : Int) + 1)) : ∀ (i x : Nat), x + i = n → L_X3_handOut_10 hA C g h' s K x := by
  have ho' := ho
  obtain ⟨en, bn, hrg⟩ := ho'
  intro i
  induction i with
  | zero =>
    intro x hx V2 V10 k2 k10
    exact k10 _ _ _ ⟨(by unfold inR; omega), (by unfold inR; omega), bt (by omega) (q V2 V10 k2 k10)⟩
  | succ i ih =>
    intro x hx V2 V10 k2 k10
    have z := ih (x + 1) (by omega) V2 V10 k2 k10
    have b := b9 x (by omega)
    have im : imin (s 4 (4 * A + K) - s 9 (4 * C + K)) (s 9 (4 * x + K)) = 0 := by
      unfold imin
      split <;> omega
    refine k10 _ _ _ ⟨(by unfold inR; omega), (by unfold inR; omega), bf (by omega) ⟨_, q_lack (by omega) eA bA hK, _, q_count (by omega) hK, (by unfold inR; omega), (by unfold inR; omega), ?_⟩⟩
    by_cases c : x ≠ C ∧ s 5 x = s 5 C ∧ s 6 x = -1 ∧ (s 7 x = -1 ∨ s 7 x = C)
    · refine ⟨1, q_may1 ho (by omega) hC c, R1, bf n10 ⟨by rw [im]; exact R0, bt (by omega) z⟩⟩
    · exact ⟨0, q_may0 ho (by omega) hC c, R0, bt rfl z⟩
def tot (f : Nat → Int) : Nat → Int
  | 0 => 0
  | n + 1 => tot f n + f n
theorem tot_n (f : Nat → Int) (k : Nat) (x : Int) : ∀ n : Nat, n ≤ k → tot (iupd f k x) n = tot f n := by
  intro n
  induction n with
  | zero => intro _; rfl
  | succ n ih =>
    intro h
    unfold tot
    rw [ih (by omega), u_ne (by omega)]
theorem tot_u (f : Nat → Int) (k : Nat) (x : Int) : ∀ n : Nat, k < n → tot (iupd f k x) n = tot f n - f k + x := by
  intro n
  induction n with
  | zero => intro h; omega
  | succ n ih =>
    intro h
    unfold tot
    by_cases c : k = n
    · subst c
      rw [tot_n f k x k (Nat.le_refl k), u_eq]
      omega
    · rw [ih (by omega), u_ne (fun h => c h.symm)]
      omega
theorem tot_c {f g : Nat → Int} : ∀ n : Nat, (∀ p, p < n → f p = g p) → tot f n = tot g n := by
  intro n
  induction n with
  | zero => intro _; rfl
  | succ n ih =>
    intro h
    unfold tot
    rw [ih (fun p hp => h p (by omega)), h n (by omega)]
theorem tot_z {f : Nat → Int} (a : Nat) : ∀ j : Nat, (∀ p, a ≤ p → p < a + j → f p = 0) → tot f (a + j) = tot f a := by
  intro j
  induction j with
  | zero => intro _; rfl
  | succ j ih =>
    intro h
    show tot f (a + j) + f (a + j) = tot f a
    rw [ih (fun p h1 h2 => h p h1 (by omega)), h (a + j) (by omega) (by omega)]
    omega
theorem tot_b {f : Nat → Int} : ∀ n : Nat, (∀ p, p < n → 0 ≤ f p ∧ f p ≤ 9) → 0 ≤ tot f n ∧ tot f n ≤ 9 * n := by
  intro n
  induction n with
  | zero => intro _; exact ⟨Int.le_refl 0, Int.le_refl 0⟩
  | succ n ih =>
    intro h
    have a := ih (fun p hp => h p (by omega))
    have b := h n (by omega)
    unfold tot
    omega
/-- what is lent to C, by lender and kind -/
def lrow (s : ISt) (C : Nat) (p : Nat) : Int := if s 7 (p / 4) = C then s 8 p else 0
/-- whether a rule's test holds -/
def hol (te va P L Z : Int) : Int := if te = 0 then (if P < va then 0 else 1) else if te = 1 then (if va ≤ L then 0 else 1) else if te = 2 then (if P % va = 0 then 1 else 0) else (if Z < va then 0 else 1)
theorem hol_b (te va P L Z : Int) : hol te va P L Z = 0 ∨ hol te va P L Z = 1 := by
  unfold hol
  split
  · split <;> omega
  · split
    · split <;> omega
    · split
      · split <;> omega
      · split <;> omega
theorem q_hol3 {te va P L Z : Int} (h0 : 0 ≤ te) (h1 : te ≤ 3) (h2 : 1 ≤ va) (h3 : va ≤ 300) (hP : 1 ≤ P ∧ P ≤ 12) (hL : inR L) (hZ : inR Z) : Q_X1_holds te va P L Z (hol te va P L Z) := by
  have pm : 0 ≤ P % va ∧ P % va < va := ⟨Int.emod_nonneg _ (by omega), Int.emod_lt_of_pos _ (by omega)⟩
  unfold Q_X1_holds hol
  refine ⟨(by unfold inR; omega), ?_, ?_⟩
  · intro c
    rw [if_pos c]
    exact ⟨(by unfold inR; omega), (by unfold inR; omega), fun d => if_pos d, fun d => if_neg d⟩
  · intro c
    rw [if_neg c]
    refine ⟨?_, ?_⟩
    · intro d
      rw [if_pos d]
      exact ⟨hL, (by unfold inR; omega), fun e => if_pos e, fun e => if_neg e⟩
    · intro d
      rw [if_neg d]
      refine ⟨?_, ?_⟩
      · intro e
        rw [if_pos e]
        exact ⟨(by unfold inR; omega), bf (by omega) ⟨by omega, by omega, by unfold inR; omega, fun f => if_neg f, fun f => if_pos f⟩⟩
      · intro e
        rw [if_neg e]
        exact bt (by omega) ⟨hZ, (by unfold inR; omega), fun f => if_pos f, fun f => if_neg f⟩
def L_X1_decides_26 (h : ISt) (a1 : Int) (a2 : Int) (a3 : Int) (r : Int) (q0 : Int) (q1 : Int) : Prop := ∀ V26 : Int → Int → Prop, (∀ x4 x5 : Int, (inR x5 ∧ (((12 : Int) ≤ x5 → (r = (1 : Int))) ∧ (¬ (12 : Int) ≤ x5 → (inR x4 ∧ ((x4 = (-1 : Int) → (r = (1 : Int))) ∧ (¬ x4 = (-1 : Int) → (∃ r3 : Int, Q_X1_parentOf h a1 x4 r3 ∧ (∃ r4 : Int, Q_X4_contains a3 x4 r4 ∧ (inR r4 ∧ ((r4 = (0 : Int) → (r = (0 : Int))) ∧ (¬ r4 = (0 : Int) → (∃ r5 : Int, Q_X1_holdsAmong h a1 r3 x4 a3 r5 ∧ (inR r5 ∧ ((r5 = (0 : Int) → (V26 r3 (x5 + (1 : Int)))) ∧ (¬ r5 = (0 : Int) → (r = (0 : Int))))))))))))))))) → V26 x4 x5) → V26 q0 q1
/-- the first rule below a parent whose test holds, from x on -/
def fhd (pa off : Nat → Int) (p : Int) : Nat → Nat → Int
  | 0, _ => -1
  | j + 1, x => if pa x = p ∧ off x ≠ 0 then (x : Int) else fhd pa off p j (x + 1)
theorem fhd_or (pa off : Nat → Int) (p : Int) : ∀ j x : Nat, (fhd pa off p j x = -1 ∧ ∀ y : Nat, x ≤ y → y < x + j → ¬ (pa y = p ∧ off y ≠ 0)) ∨ ∃ y : Nat, fhd pa off p j x = y ∧ x ≤ y ∧ y < x + j ∧ pa y = p ∧ off y ≠ 0 ∧ ∀ z : Nat, x ≤ z → z < y → ¬ (pa z = p ∧ off z ≠ 0) := by
  intro j
  induction j with
  | zero => intro x; exact Or.inl ⟨rfl, fun y h h' => by omega⟩
  | succ j ih =>
    intro x
    unfold fhd
    by_cases c : pa x = p ∧ off x ≠ 0
    · rw [if_pos c]
      exact Or.inr ⟨x, rfl, by omega, by omega, c.1, c.2, fun z h h' => by omega⟩
    · rw [if_neg c]
      rcases ih (x + 1) with ⟨a, b⟩ | ⟨y, a, b1, b2, b3, b4, b5⟩
      · refine Or.inl ⟨a, fun y h h' => ?_⟩
        by_cases d : y = x
        · subst d
          exact c
        · exact b y (by omega) (by omega)
      · refine Or.inr ⟨y, a, by omega, by omega, b3, b4, fun z h h' => ?_⟩
        by_cases d : z = x
        · subst d
          exact c
        · exact b5 z (by omega) h'
/-- a title's rules, and which tests hold -/
def RuOk (hr : ISt) (A N : Nat) (pa off : Nat → Int) : Prop := RulesOk hr A N ∧ (∀ k : Nat, k < N → pa k = hr 2 (12 * A + k) ∧ -1 ≤ pa k ∧ pa k < k)
def rch (pa off : Nat → Int) (N : Nat) : Nat → Int
  | 0 => -1
  | i + 1 => if fhd pa off (rch pa off N i) N 0 = -1 then rch pa off N i else fhd pa off (rch pa off N i) N 0
theorem q_firstHold {hr : ISt} {A N : Nat} {pa off : Nat → Int} (ho : RuOk hr A N pa off) {p : Int} (hp : inR p) : Q_X1_firstHolding hr A p (oset off N) (fhd pa off p N 0) := by
  have ⟨⟨e, bA, bN, _⟩, hP⟩ := ho
  obtain ⟨b1, b2, b3⟩ := oset_b off N (by omega)
  intro V k
  have key : ∀ (j x : Nat), x + j = N → fhd pa off p N 0 = fhd pa off p j x → V x := by
    intro j
    induction j with
    | zero =>
      intro x hx q
      refine k _ ⟨(by unfold inR; omega), ?_⟩
      rw [ina A bA, e]
      exact ⟨(by unfold inR; omega), (by unfold inR; omega), bt (by omega) q⟩
    | succ j ih =>
      intro x hx q
      have q : fhd pa off p N 0 = if pa x = p ∧ off x ≠ 0 then (x : Int) else fhd pa off p j (x + 1) := q
      obtain ⟨h1, h2, h3⟩ := hP x (by omega)
      have cq := q_has b1 b2 (show x < 32 by omega)
      rw [b3 x] at cq
      have po := q_parentOf ho.1 (k := x) (by omega)
      rw [← h1] at po
      refine k _ ⟨(by unfold inR; omega), ?_⟩
      rw [ina A bA, e]
      refine ⟨(by unfold inR; omega), (by unfold inR; omega), bf (by omega) ⟨_, po, (by unfold inR; omega), hp, ?_, ?_⟩⟩
      · intro c
        rw [if_neg (fun u => c u.1)] at q
        exact ih (x + 1) (by omega) q
      · intro c
        refine ⟨_, cq, ?_⟩
        by_cases d : off x = 0
        · rw [if_neg (fun u => u.2 d)] at q
          rw [if_neg (fun u => u.2 d)]
          exact ⟨R0, bt rfl (ih (x + 1) (by omega) q)⟩
        · rw [if_pos ⟨c, d⟩] at q
          rw [if_pos ⟨by omega, d⟩]
          exact ⟨R1, bf n10 q⟩
  exact key N 0 (by omega) rfl
theorem rch_stay {pa off : Nat → Int} {N i : Nat} (h : fhd pa off (rch pa off N i) N 0 = -1) : ∀ j : Nat, rch pa off N (i + j) = rch pa off N i := by
  intro j
  induction j with
  | zero => rfl
  | succ j ih =>
    show (if fhd pa off (rch pa off N (i + j)) N 0 = -1 then rch pa off N (i + j) else fhd pa off (rch pa off N (i + j)) N 0) = rch pa off N i
    rw [ih, if_pos h]
theorem rch_next {pa off : Nat → Int} {N i : Nat} (h : fhd pa off (rch pa off N i) N 0 ≠ -1) : rch pa off N (i + 1) = fhd pa off (rch pa off N i) N 0 := by
  show (if fhd pa off (rch pa off N i) N 0 = -1 then rch pa off N i else fhd pa off (rch pa off N i) N 0) = _
  rw [if_neg h]
theorem rch_b {hr : ISt} {A N : Nat} {pa off : Nat → Int} (ho : RuOk hr A N pa off) : ∀ i : Nat, -1 ≤ rch pa off N i ∧ rch pa off N i < N ∧ ((i : Int) - 1 ≤ rch pa off N i ∨ fhd pa off (rch pa off N i) N 0 = -1) := by
  intro i
  induction i with
  | zero => exact ⟨Int.le_refl _, (show (-1 : Int) < N by omega), Or.inl (show ((0 : Nat) : Int) - 1 ≤ -1 by omega)⟩
  | succ i ih =>
    by_cases c : fhd pa off (rch pa off N i) N 0 = -1
    · have e := rch_stay c 1
      rw [e]
      exact ⟨ih.1, ih.2.1, Or.inr c⟩
    · rw [rch_next c]
      have z := ih.2.2.resolve_right c
      rcases fhd_or pa off (rch pa off N i) N 0 with ⟨a, _⟩ | ⟨y, a, b1, b2, b3, b4, b5⟩
      · exact absurd a c
      · have h := ho.2 y (by omega)
        rw [a]
        exact ⟨by omega, by omega, Or.inl (by omega)⟩
theorem rch_12 {hr : ISt} {A N : Nat} {pa off : Nat → Int} (ho : RuOk hr A N pa off) : fhd pa off (rch pa off N 12) N 0 = -1 := by
  have b := rch_b ho 12
  rcases b.2.2 with c | c
  · rcases fhd_or pa off (rch pa off N 12) N 0 with ⟨a, _⟩ | ⟨y, a, b1, b2, b3, b4, b5⟩
    · exact a
    · have h := ho.2 y (by omega)
      have := ho.1.2.2.1
      omega
  · exact c
theorem rch_end {hr : ISt} {A N : Nat} {pa off : Nat → Int} (ho : RuOk hr A N pa off) {i : Nat} (h : fhd pa off (rch pa off N i) N 0 = -1) : rch pa off N i = rch pa off N 12 := by
  by_cases c : i ≤ 12
  · have e := rch_stay h (12 - i)
    rw [show i + (12 - i) = 12 by omega] at e
    exact e.symm
  · have e := rch_stay (rch_12 ho) (i - 12)
    rw [show 12 + (i - 12) = i by omega] at e
    exact e
/-- the ruling of a rule, none for none -/
def rul (ru : Nat → Int) (D : Int) : Int := if D = -1 then -1 else ru D.toNat
theorem q_down {hr : ISt} {A N : Nat} {pa off : Nat → Int} (ho : RuOk hr A N pa off) : Q_X1_rulingGoingDown hr A (oset off N) (rul (fun k => hr 5 (12 * A + k)) (rch pa off N 12)) := by
  have bA := ho.1.2.1
  have bN := ho.1.2.2.1
  intro V5 V39 k5 k39
  have b12 := rch_b ho 12
  have z39 : V39 (rch pa off N 12) := by
    refine k39 _ ⟨(by unfold inR; omega), ?_, ?_⟩
    · intro c
      unfold rul
      rw [if_neg c, ia (by omega) (by omega)]
      exact ⟨(by unfold inR; omega), congrArg (hr 5) (by omega)⟩
    · intro c
      unfold rul
      rw [if_pos c]
  have key : ∀ (j i : Nat), i + j = 12 → V5 (rch pa off N i) i := by
    intro j
    induction j with
    | zero =>
      intro i hi
      have hi : i = 12 := hi
      subst hi
      exact k5 _ _ ⟨(by unfold inR; omega), bt (by omega) z39⟩
    | succ j ih =>
      intro i hi
      have b := rch_b ho i
      have z := ih (i + 1) (by omega)
      refine k5 _ _ ⟨(by unfold inR; omega), bf (by omega) ⟨_, q_firstHold ho (by unfold inR; omega), ?_, ?_, ?_⟩⟩
      · rcases fhd_or pa off (rch pa off N i) N 0 with ⟨a, _⟩ | ⟨y, a, b1, b2, b3, b4, b5⟩
        · rw [a]
          exact (by unfold inR; omega)
        · rw [a]
          exact (by unfold inR; omega)
      · intro c
        rw [rch_next c] at z
        exact z
      · intro c
        rw [rch_end ho c]
        exact z39
  exact key 12 0 rfl
theorem q_among {hr : ISt} {A N : Nat} {pa off : Nat → Int} (ho : RuOk hr A N pa off) {p : Int} (hp : inR p) {b : Nat} (hb : b ≤ N) : ∃ r : Int, Q_X1_holdsAmong hr A p b (oset off N) r ∧ ((r = 1 ∧ ∃ k : Nat, k < b ∧ pa k = p ∧ off k ≠ 0) ∨ (r = 0 ∧ ∀ k : Nat, k < b → ¬ (pa k = p ∧ off k ≠ 0))) := by
  have ⟨⟨e, bA, bN, _⟩, hP⟩ := ho
  obtain ⟨b1, b2, b3⟩ := oset_b off N (by omega)
  have step : ∀ (r : Int) (V : Int → Prop), (∀ x5 : Int, (inR x5 ∧ inR (b : Int) ∧ (((b : Int) ≤ x5 → (r = (0 : Int))) ∧ (¬ (b : Int) ≤ x5 → (∃ r1 : Int, Q_X1_parentOf hr A x5 r1 ∧ (inR r1 ∧ inR p ∧ ((¬ r1 = p → (V (x5 + (1 : Int)))) ∧ (r1 = p → (∃ r2 : Int, Q_X4_contains (oset off N) x5 r2 ∧ (inR r2 ∧ ((r2 = (0 : Int) → (V (x5 + (1 : Int)))) ∧ (¬ r2 = (0 : Int) → (r = (1 : Int))))))))))))) → V x5) → ∀ x : Nat, x < b → (¬ (pa x = p ∧ off x ≠ 0) → V ((x : Int) + 1)) → ((pa x = p ∧ off x ≠ 0) → r = 1) → V x := by
    intro r V k x hx h1 h2
    obtain ⟨p1, p2, p3⟩ := hP x (by omega)
    have cq := q_has b1 b2 (show x < 32 by omega)
    rw [b3 x] at cq
    have po := q_parentOf ho.1 (k := x) (by omega)
    rw [← p1] at po
    refine k _ ⟨(by unfold inR; omega), (by unfold inR; omega), bf (by omega) ⟨_, po, (by unfold inR; omega), hp, fun c => h1 (fun u => c u.1), fun c => ⟨_, cq, ?_⟩⟩⟩
    by_cases d : off x = 0
    · rw [if_neg (fun u => u.2 d)]
      exact ⟨R0, bt rfl (h1 (fun u => u.2 d))⟩
    · rw [if_pos ⟨by omega, d⟩]
      exact ⟨R1, bf n10 (h2 ⟨c, d⟩)⟩
  by_cases c : ∃ k : Nat, k < b ∧ pa k = p ∧ off k ≠ 0
  · refine ⟨1, ?_, Or.inl ⟨rfl, c⟩⟩
    obtain ⟨k0, c1, c2⟩ := c
    intro V k
    have key : ∀ (j x : Nat), x + j = k0 → V x := by
      intro j
      induction j with
      | zero =>
        intro x hx
        have hx : x = k0 := hx
        subst hx
        exact step 1 V k x c1 (fun u => absurd c2 u) (fun _ => rfl)
      | succ j ih =>
        intro x hx
        exact step 1 V k x (by omega) (fun _ => ih (x + 1) (by omega)) (fun _ => rfl)
    exact key k0 0 (by omega)
  · refine ⟨0, ?_, Or.inr ⟨rfl, fun k hk u => c ⟨k, hk, u⟩⟩⟩
    intro V k
    have key : ∀ (j x : Nat), x + j = b → V x := by
      intro j
      induction j with
      | zero =>
        intro x hx
        exact k _ ⟨(by unfold inR; omega), (by unfold inR; omega), bt (by omega) rfl⟩
      | succ j ih =>
        intro x hx
        exact step 0 V k x (by omega) (fun _ => ih (x + 1) (by omega)) (fun u => absurd ⟨x, by omega, u⟩ c)
    exact key b 0 (by omega)
theorem rch_from {pa off : Nat → Int} {N a : Nat} : ∀ i : Nat, rch pa off N i = a → ∃ i' : Nat, fhd pa off (rch pa off N i') N 0 = a := by
  intro i
  induction i with
  | zero =>
    intro h
    have h : (-1 : Int) = a := h
    omega
  | succ i ih =>
    intro h
    by_cases c : fhd pa off (rch pa off N i) N 0 = -1
    · have e := rch_stay c 1
      rw [e] at h
      exact ih h
    · rw [rch_next c] at h
      exact ⟨i, h⟩
/-- up the chain: yes, if and only if the way down leads there -/
theorem up_ex {hr : ISt} {A N : Nat} {pa off : Nat → Int} (ho : RuOk hr A N pa off) (a0 : Int) : ∀ (j l : Nat) (a : Int), l + j = 12 → -1 ≤ a → a < N → a < j → ∃ r : Int, L_X1_decides_26 hr A a0 (oset off N) r a l ∧ (r = 0 ∨ r = 1) ∧ (r = 1 ↔ ∃ i : Nat, rch pa off N i = a) := by
  have ⟨⟨e, bA, bN, _⟩, hP⟩ := ho
  obtain ⟨b1, b2, b3⟩ := oset_b off N (by omega)
  intro j
  induction j with
  | zero =>
    intro l a hl h0 h1 h2
    refine ⟨1, ?_, Or.inr rfl, ⟨fun _ => ⟨0, (show (-1 : Int) = a by omega)⟩, fun _ => rfl⟩⟩
    intro V k
    exact k _ _ ⟨(by unfold inR; omega), bt (by omega) rfl⟩
  | succ j ih =>
    intro l a hl h0 h1 h2
    by_cases c : a = -1
    · refine ⟨1, ?_, Or.inr rfl, ⟨fun _ => ⟨0, c.symm⟩, fun _ => rfl⟩⟩
      intro V k
      exact k _ _ ⟨(by unfold inR; omega), bf (by omega) ⟨(by unfold inR; omega), bt c rfl⟩⟩
    · obtain ⟨x, ex⟩ := nat_of (show 0 ≤ a by omega)
      subst ex
      obtain ⟨p1, p2, p3⟩ := hP x (by omega)
      have cq := q_has b1 b2 (show x < 32 by omega)
      rw [b3 x] at cq
      have po := q_parentOf ho.1 (k := x) (by omega)
      rw [← p1] at po
      obtain ⟨rA, qA, hA⟩ := q_among ho (p := pa x) (by unfold inR; omega) (show x ≤ N by omega)
      obtain ⟨r, q1, q2, q3⟩ := ih (l + 1) (pa x) (by omega) p2 (by omega) (by omega)
      by_cases d : off x = 0
      · refine ⟨0, ?_, Or.inl rfl, ⟨fun h => by omega, fun ⟨i, hi⟩ => ?_⟩⟩
        · rw [if_neg (fun u => u.2 d)] at cq
          intro V k
          exact k _ _ ⟨(by unfold inR; omega), bf (by omega) ⟨(by unfold inR; omega), bf c ⟨_, po, _, cq, R0, bt rfl rfl⟩⟩⟩
        · obtain ⟨i', hi'⟩ := rch_from i hi
          rcases fhd_or pa off (rch pa off N i') N 0 with ⟨u, _⟩ | ⟨y, u, u1, u2, u3, u4, u5⟩
          · omega
          · have : y = x := by omega
            subst this
            exact absurd d u4
      · rw [if_pos ⟨by omega, d⟩] at cq
        rcases hA with ⟨e1, k0, e2, e3, e4⟩ | ⟨e1, e2⟩
        · subst e1
          refine ⟨0, ?_, Or.inl rfl, ⟨fun h => by omega, fun ⟨i, hi⟩ => ?_⟩⟩
          · intro V k
            exact k _ _ ⟨(by unfold inR; omega), bf (by omega) ⟨(by unfold inR; omega), bf c ⟨_, po, _, cq, R1, bf n10 ⟨1, qA, R1, bf n10 rfl⟩⟩⟩⟩
          · obtain ⟨i', hi'⟩ := rch_from i hi
            rcases fhd_or pa off (rch pa off N i') N 0 with ⟨u, _⟩ | ⟨y, u, u1, u2, u3, u4, u5⟩
            · omega
            · have : y = x := by omega
              subst this
              exact absurd ⟨by omega, e4⟩ (u5 k0 (by omega) e2)
        · subst e1
          refine ⟨r, ?_, q2, ⟨fun h => ?_, fun ⟨i, hi⟩ => q3.mpr ?_⟩⟩
          · intro V k
            have z := q1 V k
            exact k _ _ ⟨(by unfold inR; omega), bf (by omega) ⟨(by unfold inR; omega), bf c ⟨_, po, _, cq, R1, bf n10 ⟨0, qA, R0, bt rfl z⟩⟩⟩⟩
          · obtain ⟨i, hi⟩ := q3.mp h
            refine ⟨i + 1, ?_⟩
            have f : fhd pa off (rch pa off N i) N 0 = x := by
              rcases fhd_or pa off (rch pa off N i) N 0 with ⟨u, v⟩ | ⟨y, u, u1, u2, u3, u4, u5⟩
              · exact absurd ⟨hi.symm, d⟩ (v x (by omega) (by omega))
              · by_cases w : y < x
                · exact absurd ⟨by omega, u4⟩ (e2 y w)
                · by_cases w2 : x < y
                  · exact absurd ⟨hi.symm, d⟩ (u5 x (by omega) w2)
                  · omega
            rw [rch_next (by omega), f]
          · obtain ⟨i', hi'⟩ := rch_from i hi
            rcases fhd_or pa off (rch pa off N i') N 0 with ⟨u, _⟩ | ⟨y, u, u1, u2, u3, u4, u5⟩
            · omega
            · have : y = x := by omega
              subst this
              exact ⟨i', u3.symm⟩
theorem q_decides {hr : ISt} {A N : Nat} {pa off : Nat → Int} (ho : RuOk hr A N pa off) {x : Nat} (hx : x < N) : ∃ r : Int, Q_X1_decides hr A x (oset off N) r ∧ (r = 0 ∨ r = 1) ∧ (r = 1 ↔ rch pa off N 12 = x) := by
  have ⟨⟨e, bA, bN, _⟩, hP⟩ := ho
  obtain ⟨rA, qA, hA⟩ := q_among ho (p := x) (by unfold inR; omega) (Nat.le_refl N)
  rcases hA with ⟨e1, k0, e2, e3, e4⟩ | ⟨e1, e2⟩
  · subst e1
    refine ⟨0, ?_, Or.inl rfl, ⟨fun h => by omega, fun h => ?_⟩⟩
    · intro V k
      rw [ina A bA, e]
      exact ⟨(by unfold inR; omega), 1, qA, R1, bf n10 rfl⟩
    · have t := rch_12 ho
      rw [h] at t
      rcases fhd_or pa off (x : Int) N 0 with ⟨u, v⟩ | ⟨y, u, _⟩
      · exact absurd ⟨e3, e4⟩ (v k0 (by omega) (by omega))
      · omega
  · subst e1
    obtain ⟨r, q1, q2, q3⟩ := up_ex ho x 12 0 x rfl (by omega) (by omega) (by omega)
    refine ⟨r, ?_, q2, ⟨fun h => ?_, fun h => q3.mpr ⟨12, h⟩⟩⟩
    · intro V k
      rw [ina A bA, e]
      exact ⟨(by unfold inR; omega), 0, qA, R0, bt rfl (q1 V k)⟩
    · obtain ⟨i, hi⟩ := q3.mp h
      rw [← rch_end ho (i := i) ?_]
      · exact hi
      · rw [hi]
        rcases fhd_or pa off (x : Int) N 0 with ⟨u, v⟩ | ⟨y, u, u1, u2, u3, u4, u5⟩
        · exact u
        · exact absurd ⟨u3, u4⟩ (e2 y (by omega))
theorem q_up {hr : ISt} {A N : Nat} {pa off : Nat → Int} (ho : RuOk hr A N pa off) : Q_X1_rulingGoingUp hr A (oset off N) (rul (fun k => hr 5 (12 * A + k)) (rch pa off N 12)) := by
  have ⟨⟨e, bA, bN, _⟩, hP⟩ := ho
  have b12 := rch_b ho 12
  intro V k
  have key : ∀ (j x : Nat), x + j = N → (∀ y : Nat, y < x → rch pa off N 12 ≠ y) → V x := by
    intro j
    induction j with
    | zero =>
      intro x hx hn
      refine k _ ⟨(by unfold inR; omega), ?_⟩
      rw [ina A bA, e]
      refine ⟨(by unfold inR; omega), (by unfold inR; omega), bt (by omega) ?_⟩
      have d : rch pa off N 12 = -1 := by
        by_cases c : rch pa off N 12 = -1
        · exact c
        · exact absurd (show rch pa off N 12 = ((rch pa off N 12).toNat : Int) by omega) (hn _ (by omega))
      unfold rul
      rw [if_pos d]
    | succ j ih =>
      intro x hx hn
      obtain ⟨r, q1, q2, q3⟩ := q_decides ho (show x < N by omega)
      refine k _ ⟨(by unfold inR; omega), ?_⟩
      rw [ina A bA, e]
      refine ⟨(by unfold inR; omega), (by unfold inR; omega), bf (by omega) ⟨r, q1, by unfold inR; omega, ?_, ?_⟩⟩
      · intro c
        refine ih (x + 1) (by omega) (fun y hy => ?_)
        by_cases d : y = x
        · subst d
          intro h
          have := q3.mpr h
          omega
        · exact hn y (by omega)
      · intro c
        have d := q3.mp (by omega)
        unfold rul
        rw [if_neg (by omega), d, Int.toNat_natCast, ia (by omega) (by omega)]
        exact ⟨(by unfold inR; omega), congrArg (hr 5) (by omega)⟩
  exact key N 0 (by omega) (fun y hy => by omega)
theorem q_holding {hr : ISt} {A N : Nat} {off : Nat → Int} {P L Z : Int} (ho : RulesOk hr A N) (hP : 1 ≤ P ∧ P ≤ 12) (hL : inR L) (hZ : inR Z) (hv : ∀ k : Nat, k < N → off k = hol (hr 3 (12 * A + k)) (hr 4 (12 * A + k)) P L Z ∧ (0 ≤ hr 3 (12 * A + k) ∧ hr 3 (12 * A + k) ≤ 3) ∧ (1 ≤ hr 4 (12 * A + k) ∧ hr 4 (12 * A + k) ≤ 300)) : Q_X1_holding hr A P L Z (oset off N) := by
  obtain ⟨e, bA, bN, _⟩ := ho
  intro V k
  have key : ∀ (j x : Nat), x + j = N → V (oset off x) x := by
    intro j
    induction j with
    | zero =>
      intro x hx
      have hx : x = N := hx
      refine k _ _ ⟨(by unfold inR; omega), ?_⟩
      rw [ina A bA, e]
      refine ⟨(by unfold inR; omega), (by unfold inR; omega), bt (by omega) ?_⟩
      rw [hx]
    | succ j ih =>
      intro x hx
      obtain ⟨v1, v2, v3⟩ := hv x (by omega)
      have z := ih (x + 1) (by omega)
      have hb := hol_b (hr 3 (12 * A + x)) (hr 4 (12 * A + x)) P L Z
      have st : oset off (x + 1) = if off x = 0 then oset off x else iior (oset off x) (ishl1 x) := rfl
      rw [st] at z
      have i3 : iat 96 (hr 3) ((A : Int) * 12 + x) = hr 3 (12 * A + x) := by
        rw [ia (by omega) (by omega)]
        exact congrArg (hr 3) (by omega)
      have i4 : iat 96 (hr 4) ((A : Int) * 12 + x) = hr 4 (12 * A + x) := by
        rw [ia (by omega) (by omega)]
        exact congrArg (hr 4) (by omega)
      refine k _ _ ⟨(by unfold inR; omega), ?_⟩
      rw [ina A bA, e, i3, i4]
      refine ⟨(by unfold inR; omega), (by unfold inR; omega), bf (by omega) ⟨(by unfold inR; omega), (by unfold inR; omega), _, q_hol3 v2.1 v2.2 v3.1 v3.2 hP hL hZ, by rw [← v1] at hb ⊢; unfold inR; omega, ?_, ?_⟩⟩
      · intro c
        rw [if_pos (v1.trans c)] at z
        exact z
      · intro c
        rw [if_neg (by rw [v1]; exact c)] at z
        exact ⟨by omega, (oset_b off x (by omega)).1, ishl_p x, z⟩
  exact key N 0 (by omega)
