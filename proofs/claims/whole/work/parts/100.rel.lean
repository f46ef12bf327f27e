/-! THE RELATION between the class and the reference -/
def HallR (h m : ISt) : Prop :=
  (m 0 1 = h 0 0 ∧ 0 ≤ h 0 0 ∧ h 0 0 ≤ 20000) ∧ (m 0 4 = h 0 1 ∧ 0 ≤ h 0 1 ∧ h 0 1 ≤ 10) ∧ (m 0 10 = h 0 2 ∧ 0 ≤ h 0 2 ∧ h 0 2 ≤ 30) ∧
  (∀ t : Nat, t < 10 → -1 ≤ h 2 t ∧ h 2 t < 30) ∧
  (∀ t : Nat, (t : Int) < h 0 1 → m 2 t = h 2 t ∧ m 1 t = h 1 t ∧ 2 ≤ h 1 t ∧ h 1 t ≤ 6) ∧
  (∀ t : Nat, h 0 1 ≤ t → t < 10 → h 2 t = -1) ∧
  (∀ g : Nat, (g : Int) < h 0 2 → (m 3 g = h 3 g ∧ 1 ≤ h 3 g ∧ h 3 g ≤ 12) ∧ (m 4 g = h 4 g ∧ 10 ≤ h 4 g ∧ h 4 g ≤ 600) ∧ (m 5 g = h 6 g ∧ 0 ≤ h 6 g ∧ h 6 g ≤ 2) ∧ (h 6 g = 1 → h 5 g = m 6 g + h 4 g)) ∧
  (∀ g : Nat, h 0 2 ≤ g → g < 30 → h 6 g = 0 ∧ m 5 g = 0) ∧
  (∀ g : Nat, g < 30 → 0 ≤ m 6 g ∧ m 6 g ≤ 20000)
/-- where a copy is -/
def whr (s : ISt) (c : Nat) : Int := if s 6 c = -1 then (if s 7 c = -1 then 0 else 2) else 1
def ShelfR (s m h : ISt) : Prop :=
  (m 0 15 = s 0 0 ∧ 0 ≤ s 0 0 ∧ s 0 0 ≤ 8) ∧ (m 0 19 = s 0 1 ∧ 0 ≤ s 0 1 ∧ s 0 1 ≤ 16) ∧
  (∀ t : Nat, (t : Int) < s 0 0 → (m 8 t = s 1 t ∧ 1 ≤ s 1 t ∧ s 1 t ≤ 12) ∧ (m 9 t = s 2 t ∧ 1 ≤ s 2 t ∧ s 2 t ≤ 12) ∧ (m 10 t = s 3 t ∧ 5 ≤ s 3 t ∧ s 3 t ≤ 300)) ∧
  (∀ i : Nat, (i : Int) < 4 * s 0 0 → m 11 i = s 4 i ∧ 0 ≤ s 4 i ∧ s 4 i ≤ 9) ∧
  (∀ c : Nat, (c : Int) < s 0 1 → (m 12 c = s 5 c ∧ 0 ≤ s 5 c ∧ s 5 c < s 0 0) ∧ (-1 ≤ s 6 c ∧ s 6 c < h 0 2) ∧ (-1 ≤ s 7 c ∧ s 7 c < s 0 1) ∧ m 13 c = whr s c) ∧
  (∀ i : Nat, (i : Int) < 4 * s 0 1 → m 14 i = s 9 i) ∧
  (∀ c k : Nat, (c : Int) < s 0 1 → k < 4 → 0 ≤ s 9 (4 * c + k) ∧ 0 ≤ s 8 (4 * c + k) ∧ s 9 (4 * c + k) + s 8 (4 * c + k) ≤ s 4 (4 * (s 5 c).toNat + k)) ∧
  (∀ c : Nat, s 0 1 ≤ c → c < 16 → s 5 c = -1 ∧ s 6 c = -1 ∧ s 7 c = -1) ∧
  (∀ i : Nat, 4 * s 0 1 ≤ i → i < 64 → s 8 i = 0)
/-- who has which copy -/
def HoldR (s m h : ISt) : Prop :=
  (∀ g : Nat, (g : Int) < h 0 2 → (m 7 g = -1 ∧ ∀ c : Nat, (c : Int) < s 0 1 → s 6 c ≠ g) ∨ (0 ≤ m 7 g ∧ m 7 g < s 0 1 ∧ s 6 (m 7 g).toNat = g ∧ ∀ c : Nat, (c : Int) < s 0 1 → s 6 c = g → (c : Int) = m 7 g)) ∧
  (∀ c : Nat, (c : Int) < s 0 1 → s 6 c ≠ -1 → h 6 (s 6 c).toNat = 1)
/-- how many stand above zero -/
def psum (f : Nat → Int) : Nat → Int
  | 0 => 0
  | n + 1 => psum f n + (if 0 < f n then 1 else 0)
/-- the loans: in one row there, with the lenders here -/
def LoanR (s m : ISt) : Prop :=
  (m 0 24 = psum (s 8) 64) ∧
  (∀ i : Nat, (i : Int) < m 0 24 → (0 ≤ m 16 i ∧ m 16 i < 4) ∧ (0 ≤ m 17 i ∧ m 17 i < s 0 1) ∧ (0 ≤ m 15 i ∧ m 15 i < s 0 1) ∧ s 7 (m 17 i).toNat = m 15 i ∧ s 8 (4 * (m 17 i).toNat + (m 16 i).toNat) = m 18 i ∧ 0 < m 18 i) ∧
  (∀ d k : Nat, (d : Int) < s 0 1 → k < 4 → 0 < s 8 (4 * d + k) → ∃ i : Nat, (i : Int) < m 0 24 ∧ m 17 i = d ∧ m 16 i = k) ∧
  (∀ i j : Nat, i < j → (j : Int) < m 0 24 → m 15 i = m 15 j → m 16 i < m 16 j ∨ (m 16 i = m 16 j ∧ m 17 i < m 17 j)) ∧
  (∀ d : Nat, (d : Int) < s 0 1 → s 7 d ≠ -1 → s 6 d = -1 ∧ s 6 (s 7 d).toNat ≠ -1 ∧ s 5 (s 7 d).toNat = s 5 d ∧ ∃ k : Nat, k < 4 ∧ 0 < s 8 (4 * d + k)) ∧
  (∀ d k : Nat, (d : Int) < s 0 1 → k < 4 → s 7 d = -1 → s 8 (4 * d + k) = 0)
def RefR (r m s : ISt) : Prop :=
  (∀ t : Nat, t < 8 → m 23 t = r 1 t ∧ 0 ≤ r 1 t ∧ r 1 t ≤ 12) ∧
  (∀ t : Nat, s 0 0 ≤ t → t < 8 → r 1 t = 0) ∧
  (∀ t k : Nat, t < 8 → (k : Int) < r 1 t → (m 19 (12 * t + k) = r 2 (12 * t + k) ∧ -1 ≤ r 2 (12 * t + k) ∧ r 2 (12 * t + k) < k) ∧ (m 20 (12 * t + k) = r 3 (12 * t + k) ∧ 0 ≤ r 3 (12 * t + k) ∧ r 3 (12 * t + k) ≤ 3) ∧ (m 21 (12 * t + k) = r 4 (12 * t + k) ∧ 1 ≤ r 4 (12 * t + k) ∧ r 4 (12 * t + k) ≤ 300) ∧ (m 22 (12 * t + k) = r 5 (12 * t + k) ∧ 0 ≤ r 5 (12 * t + k) ∧ r 5 (12 * t + k) ≤ 99))
/-- slots 30 and 31 can be anything that an int holds -/
def ScrR (m : ISt) : Prop := inR (m 0 30) ∧ inR (m 0 31)
def RelI (hh hs hr hm : ISt) : Prop := HallR hh hm ∧ ShelfR hs hm hh ∧ HoldR hs hm hh ∧ LoanR hs hm ∧ RefR hr hm hs ∧ ScrR hm
theorem rel_thrown {hh hs hr hm : ISt} (h : RelI hh hs hr hm) (a : Int) : RelI hh hs hr (iset hm 0 0 a) := h
theorem q_isIn1 {a b c : Int} (ha : inR a) (hb : inR b) (hc : inR c) (h : b ≤ a ∧ a ≤ c) : Q_X5_isIn a b c 1 :=
  ⟨ha, hb, fun c1 => absurd c1 (by omega), fun _ => ⟨ha, hc, fun c2 => absurd c2 (by omega), fun _ => rfl⟩⟩
theorem q_isIn0 {a b c : Int} (ha : inR a) (hb : inR b) (hc : inR c) (h : ¬ (b ≤ a ∧ a ≤ c)) : Q_X5_isIn a b c 0 :=
  ⟨ha, hb, fun _ => rfl, fun c1 => ⟨ha, hc, fun _ => rfl, fun c2 => absurd (⟨by omega, by omega⟩ : b ≤ a ∧ a ≤ c) h⟩⟩
theorem q_isFine0 (h : ISt) : Q_X5_isFine h 0 1 (iset h 0 0 0) := by
  intro h1 e
  subst e
  exact ⟨by unfold inR; omega, fun c => absurd rfl c, fun _ => ⟨rfl, rfl⟩⟩
theorem q_isFine1 (h : ISt) {a : Int} (ha : inR a) (h0 : a ≠ 0) : Q_X5_isFine h a 0 (iset h 0 0 a) := by
  intro h1 e
  subst e
  exact ⟨ha, fun _ => ⟨rfl, rfl⟩, fun c => absurd c h0⟩
theorem q_isGroup1 {h : ISt} {a : Int} (h0 : 0 ≤ a) (h1 : a < h 0 10) (h2 : h 0 10 ≤ 30) : Q_X5_isGroup h a 1 :=
  ⟨1, q_isIn1 (by unfold inR; omega) (by unfold inR; omega) (by unfold inR; omega) ⟨h0, by omega⟩, Or.inr rfl, rfl⟩
theorem q_isGroup0 {h : ISt} {a : Int} (ha : inR a) (h1 : ¬ (0 ≤ a ∧ a < h 0 10)) (h2 : 0 ≤ h 0 10 ∧ h 0 10 ≤ 30) : Q_X5_isGroup h a 0 :=
  ⟨0, q_isIn0 ha (by unfold inR; omega) (by unfold inR; omega) (by omega), Or.inl rfl, rfl⟩
theorem q_isTitle1 {h : ISt} {a : Int} (h0 : 0 ≤ a) (h1 : a < h 0 15) (h2 : h 0 15 ≤ 8) : Q_X5_isTitle h a 1 :=
  ⟨1, q_isIn1 (by unfold inR; omega) (by unfold inR; omega) (by unfold inR; omega) ⟨h0, by omega⟩, Or.inr rfl, rfl⟩
theorem q_isTitle0 {h : ISt} {a : Int} (ha : inR a) (h1 : ¬ (0 ≤ a ∧ a < h 0 15)) (h2 : 0 ≤ h 0 15 ∧ h 0 15 ≤ 8) : Q_X5_isTitle h a 0 :=
  ⟨0, q_isIn0 ha (by unfold inR; omega) (by unfold inR; omega) (by omega), Or.inl rfl, rfl⟩
theorem q_isCopy1 {h : ISt} {a : Int} (h0 : 0 ≤ a) (h1 : a < h 0 19) (h2 : h 0 19 ≤ 16) : Q_X5_isCopy h a 1 :=
  ⟨1, q_isIn1 (by unfold inR; omega) (by unfold inR; omega) (by unfold inR; omega) ⟨h0, by omega⟩, Or.inr rfl, rfl⟩
theorem q_isCopy0 {h : ISt} {a : Int} (ha : inR a) (h1 : ¬ (0 ≤ a ∧ a < h 0 19)) (h2 : 0 ≤ h 0 19 ∧ h 0 19 ≤ 16) : Q_X5_isCopy h a 0 :=
  ⟨0, q_isIn0 ha (by unfold inR; omega) (by unfold inR; omega) (by omega), Or.inl rfl, rfl⟩
theorem q_isKind1 {a : Int} (h0 : 0 ≤ a) (h1 : a < 4) : Q_X5_isKind a 1 :=
  ⟨1, q_isIn1 (by unfold inR; omega) (by unfold inR; omega) (by unfold inR; omega) ⟨h0, by omega⟩, Or.inr rfl, rfl⟩
theorem q_isKind0 {a : Int} (ha : inR a) (h1 : ¬ (0 ≤ a ∧ a < 4)) : Q_X5_isKind a 0 :=
  ⟨0, q_isIn0 ha (by unfold inR; omega) (by unfold inR; omega) (by omega), Or.inl rfl, rfl⟩
theorem q_arePieces1 {a : Int} (h0 : 0 ≤ a) (h1 : a ≤ 9) : Q_X5_arePieces a 1 :=
  ⟨1, q_isIn1 (by unfold inR; omega) (by unfold inR; omega) (by unfold inR; omega) ⟨h0, h1⟩, Or.inr rfl, rfl⟩
theorem q_arePieces0 {a : Int} (ha : inR a) (h1 : ¬ (0 ≤ a ∧ a ≤ 9)) : Q_X5_arePieces a 0 :=
  ⟨0, q_isIn0 ha (by unfold inR; omega) (by unfold inR; omega) h1, Or.inl rfl, rfl⟩
theorem R0 : inR 0 := by unfold inR; omega
theorem R1 : inR 1 := by unfold inR; omega
theorem n10 : ¬ (1 : Int) = 0 := by decide
/-! steps of the walks -/
theorem fa {a : ISt} {P : ISt → Prop} (h : P a) : ∀ x : ISt, x = a → P x := by
  intro x e
  subst e
  exact h
theorem y1 {Q A B : Int → Prop} (q : Q 1) (h : A 1) : ∃ r : Int, Q r ∧ (inR r ∧ ((¬ r = 0 → A r) ∧ (r = 0 → B r))) := ⟨1, q, R1, fun _ => h, fun c => absurd c n10⟩
theorem y0 {Q A B : Int → Prop} (q : Q 0) (h : B 0) : ∃ r : Int, Q r ∧ (inR r ∧ ((¬ r = 0 → A r) ∧ (r = 0 → B r))) := ⟨0, q, R0, fun c => absurd rfl c, fun _ => h⟩
theorem w1 {Q A B : Int → Prop} (q : Q 1) (h : B 1) : ∃ r : Int, Q r ∧ (inR r ∧ ((r = 0 → A r) ∧ (¬ r = 0 → B r))) := ⟨1, q, R1, fun c => absurd c n10, fun _ => h⟩
theorem w0 {Q A B : Int → Prop} (q : Q 0) (h : A 0) : ∃ r : Int, Q r ∧ (inR r ∧ ((r = 0 → A r) ∧ (¬ r = 0 → B r))) := ⟨0, q, R0, fun _ => h, fun c => absurd rfl c⟩
theorem f0 {hv : ISt} {A B : Int → ISt → Prop} (h : A 1 (iset hv 0 0 0)) : ∃ (r : Int) (h3 : ISt), Q_X5_isFine hv 0 r h3 ∧ (inR r ∧ ((¬ r = 0 → A r h3) ∧ (r = 0 → B r h3))) := ⟨1, _, q_isFine0 hv, R1, fun _ => h, fun c => absurd c n10⟩
theorem f1 {hv : ISt} {t : Int} {A B : Int → ISt → Prop} (ht : inR t) (h0 : t ≠ 0) (h : B 0 (iset hv 0 0 t)) : ∃ (r : Int) (h3 : ISt), Q_X5_isFine hv t r h3 ∧ (inR r ∧ ((¬ r = 0 → A r h3) ∧ (r = 0 → B r h3))) := ⟨0, _, q_isFine1 hv ht h0, R0, fun c => absurd rfl c, fun _ => h⟩
theorem g0 {hv : ISt} {A B : Int → ISt → Prop} (h : B 1 (iset hv 0 0 0)) : ∃ (r : Int) (h3 : ISt), Q_X5_isFine hv 0 r h3 ∧ (inR r ∧ ((r = 0 → A r h3) ∧ (¬ r = 0 → B r h3))) := ⟨1, _, q_isFine0 hv, R1, fun c => absurd c n10, fun _ => h⟩
theorem g1 {hv : ISt} {t : Int} {A B : Int → ISt → Prop} (ht : inR t) (h0 : t ≠ 0) (h : A 0 (iset hv 0 0 t)) : ∃ (r : Int) (h3 : ISt), Q_X5_isFine hv t r h3 ∧ (inR r ∧ ((r = 0 → A r h3) ∧ (¬ r = 0 → B r h3))) := ⟨0, _, q_isFine1 hv ht h0, R0, fun _ => h, fun c => absurd rfl c⟩
theorem bt {C A B : Prop} (c : C) (a : A) : (C → A) ∧ (¬ C → B) := ⟨fun _ => a, fun n => absurd c n⟩
theorem bf {C A B : Prop} (c : ¬ C) (b : B) : (C → A) ∧ (¬ C → B) := ⟨fun n => absurd n c, fun _ => b⟩
theorem nt {C A B : Prop} (c : ¬ C) (a : A) : (¬ C → A) ∧ (C → B) := ⟨fun _ => a, fun n => absurd n c⟩
theorem nf {C A B : Prop} (c : C) (b : B) : (¬ C → A) ∧ (C → B) := ⟨fun n => absurd c n, fun _ => b⟩
theorem ia {N : Nat} {f : Nat → Int} {x : Int} (h0 : 0 ≤ x) (h1 : x < N) : iat N f x = f x.toNat := by
  unfold iat
  rw [if_pos ⟨h0, h1⟩]
theorem io {N : Nat} {f : Nat → Int} {x : Int} (h : ¬ (0 ≤ x ∧ x < N)) : iat N f x = -1 := by
  unfold iat
  rw [if_neg h]
theorem ina {N : Nat} {f : Nat → Int} (x : Nat) (h1 : x < N) : iat N f (x : Int) = f x := by
  unfold iat
  rw [if_pos ⟨by omega, by omega⟩]
  rfl
