/-! LOANS: all that are made when a copy is handed out, all that are closed when it comes back -/
def col (f : Nat → Int) (k : Nat) : Nat → Int
  | 0 => 0
  | n + 1 => col f k n + f (4 * n + k)
theorem col_u {f : Nat → Int} {x K k : Nat} {v : Int} (hK : K < 4) (hk : k < 4) : ∀ n : Nat, col (iupd f (4 * x + K) v) k n = col f k n + (if k = K ∧ x < n then v - f (4 * x + K) else 0) := by
  intro n
  induction n with
  | zero =>
    rw [if_neg (by omega)]
    rfl
  | succ n ih =>
    show col (iupd f (4 * x + K) v) k n + iupd f (4 * x + K) v (4 * n + k) = (col f k n + f (4 * n + k)) + _
    rw [ih]
    by_cases c : 4 * n + k = 4 * x + K
    · have h1 : k = K := by omega
      have h2 : n = x := by omega
      subst h1
      subst h2
      rw [u_eq, if_neg (by omega), if_pos (by omega)]
      omega
    · rw [u_ne c]
      by_cases d : k = K ∧ x < n
      · rw [if_pos d, if_pos (by omega)]
        omega
      · rw [if_neg d, if_neg (by omega)]
        omega
theorem col_e {f g : Nat → Int} {k : Nat} : ∀ n : Nat, (∀ y : Nat, y < n → f (4 * y + k) = g (4 * y + k)) → col f k n = col g k n := by
  intro n
  induction n with
  | zero => intro _; rfl
  | succ n ih =>
    intro h
    show col f k n + f (4 * n + k) = col g k n + g (4 * n + k)
    rw [ih (fun y hy => h y (by omega)), h n (by omega)]
/-- handing out: where the loops stand -/
def HoI (s : ISt) (C n K x : Nat) (hv : ISt) : Prop :=
  (∀ j : Nat, j ≠ 7 → j ≠ 8 → j ≠ 9 → hv j = s j) ∧
  (∀ y : Nat, hv 7 y = s 7 y ∨ ((y < n ∧ y ≠ C ∧ s 5 y = s 5 C ∧ s 6 y = -1 ∧ s 7 y = -1) ∧ hv 7 y = C)) ∧
  (∀ y k : Nat, y < n → k < 4 → 0 ≤ hv 9 (4 * y + k) ∧ 0 ≤ hv 8 (4 * y + k) ∧ hv 9 (4 * y + k) + hv 8 (4 * y + k) ≤ s 4 (4 * (s 5 y).toNat + k)) ∧
  (∀ y k : Nat, y < n → k < 4 → hv 7 y = -1 → hv 8 (4 * y + k) = 0) ∧
  (∀ i : Nat, 4 * n ≤ i → hv 8 i = s 8 i) ∧
  (∀ y k : Nat, y < n → k < 4 → (K < k ∨ (k = K ∧ x ≤ y)) → hv 8 (4 * y + k) = s 8 (4 * y + k) ∧ (y ≠ C → hv 9 (4 * y + k) = s 9 (4 * y + k))) ∧
  (∀ k : Nat, K < k → k < 4 → hv 9 (4 * C + k) = s 9 (4 * C + k)) ∧
  (∀ k : Nat, k < K → k < 4 → hv 9 (4 * C + k) = s 4 (4 * (s 5 C).toNat + k)) ∧
  (K < 4 → s 4 (4 * (s 5 C).toNat + K) - hv 9 (4 * C + K) ≤ avl s C K n - avl s C K x) ∧
  (∀ k : Nat, k < 4 → col (hv 9) k n = col (s 9) k n) ∧
  (∀ y k : Nat, y < n → k < 4 → y ≠ C → hv 7 y = s 7 y → hv 9 (4 * y + k) = s 9 (4 * y + k))
theorem ho_copy {s hv : ISt} {A n C K x : Nat} (si : ShelfI s A n) (hC : C < n) (q : HoI s C n K x hv) : CopyOk hv n := by
  obtain ⟨q1, q2, q3⟩ := q
  obtain ⟨a1, a2, a3, a4, a5, a6⟩ := si
  refine ⟨?_, a2.2, fun c hc => ?_⟩
  · rw [q1 0 (by omega) (by omega) (by omega)]
    exact a2.1
  · rw [q1 5 (by omega) (by omega) (by omega), q1 6 (by omega) (by omega) (by omega)]
    have := a5 c hc
    have := q2 c
    omega
theorem ho_may {s hv : ISt} {A n C K x y : Nat} (si : ShelfI s A n) (hC : C < n) (s6 : s 6 C = -1) (q : HoI s C n K x hv) (hy : y < n) : (y ≠ C ∧ hv 5 y = hv 5 C ∧ hv 6 y = -1 ∧ (hv 7 y = -1 ∨ hv 7 y = C)) ↔ (y ≠ C ∧ s 5 y = s 5 C ∧ s 6 y = -1 ∧ s 7 y = -1) := by
  obtain ⟨q1, q2, q3⟩ := q
  obtain ⟨a1, a2, a3, a4, a5, a6, a7, a8, a9, a10, a11, a12⟩ := si
  rw [q1 5 (by omega) (by omega) (by omega), q1 6 (by omega) (by omega) (by omega)]
  have z := q2 y
  have b := a11 y hy
  have nc : s 7 y ≠ C := by
    intro c
    have b := b (by omega)
    rw [c, Int.toNat_natCast] at b
    exact b s6
  constructor
  · intro ⟨h1, h2, h3, h4⟩
    refine ⟨h1, h2, h3, ?_⟩
    rcases z with z | z
    · omega
    · exact z.1.2.2.2.2
  · intro ⟨h1, h2, h3, h4⟩
    refine ⟨h1, h2, h3, ?_⟩
    omega
theorem avl_s {s : ISt} {C K x : Nat} (h : x ≠ C ∧ s 5 x = s 5 C ∧ s 6 x = -1 ∧ s 7 x = -1) : avl s C K (x + 1) = avl s C K x + s 9 (4 * x + K) := by
  show avl s C K x + (if _ then _ else _) = _
  rw [if_pos ⟨h.1, h.2.1, h.2.2.1, Or.inl h.2.2.2⟩]
theorem avl_n {s : ISt} {A n C K x : Nat} (si : ShelfI s A n) (hx : x < n) (s6 : s 6 C = -1) (h : ¬ (x ≠ C ∧ s 5 x = s 5 C ∧ s 6 x = -1 ∧ s 7 x = -1)) : avl s C K (x + 1) = avl s C K x := by
  obtain ⟨a1, a2, a3, a4, a5, a6, a7, a8, a9, a10, a11, a12⟩ := si
  show avl s C K x + (if _ then _ else _) = _
  rw [if_neg (fun c => ?_)]
  · omega
  · refine h ⟨c.1, c.2.1, c.2.2.1, ?_⟩
    rcases c.2.2.2 with d | d
    · exact d
    · have b := a11 x hx (by omega)
      rw [d, Int.toNat_natCast] at b
      exact absurd s6 b
theorem ho_lend {s hv : ISt} {A n C K x : Nat} (si : ShelfI s A n) (hC : C < n) (q : HoI s C n K x hv) (s7 : s 7 C = -1) (hK : K < 4) (hx : x < n) (hm : x ≠ C ∧ s 5 x = s 5 C ∧ s 6 x = -1 ∧ s 7 x = -1) {v : Int} (v0 : 0 < v) (v1 : v ≤ hv 9 (4 * x + K)) (v2 : v ≤ s 4 (4 * (s 5 C).toNat + K) - hv 9 (4 * C + K)) (v3 : s 4 (4 * (s 5 C).toNat + K) - hv 9 (4 * C + K) - v ≤ avl s C K n - avl s C K (x + 1)) : HoI s C n K (x + 1) (lentS hv C x K v) := by
  obtain ⟨q1, q2, q3, q4, q5, q6, q7, q8, q9, q10, q11⟩ := q
  have e7 : lentS hv C x K v 7 = iupd (hv 7) x C := rfl
  have e8 : lentS hv C x K v 8 = iupd (hv 8) (4 * x + K) v := rfl
  have e9 : lentS hv C x K v 9 = iupd (iupd (hv 9) (4 * x + K) (hv 9 (4 * x + K) + -v)) (4 * C + K) (hv 9 (4 * C + K) + v) := rfl
  have u6 := q6 x K hx hK (by omega)
  have s8 : s 8 (4 * x + K) = 0 := si.2.2.2.2.2.2.2.2.2.2.2 x K hx hK hm.2.2.2
  have ne : 4 * C + K ≠ 4 * x + K := by omega
  refine ⟨?_, ?_, ?_, ?_, ?_, ?_, ?_, ?_, ?_, ?_, ?_⟩
  · intro j h7 h8 h9
    rw [← q1 j h7 h8 h9]
    show (if j = 9 then _ else if j = 9 then _ else if j = 8 then _ else if j = 7 then _ else hv j) = hv j
    rw [if_neg h9, if_neg h9, if_neg h8, if_neg h7]
  · intro y
    rw [e7]
    by_cases c : y = x
    · subst c
      rw [u_eq]
      exact Or.inr ⟨⟨hx, hm⟩, rfl⟩
    · rw [u_ne c]
      exact q2 y
  · intro y k hy hk
    have b := q3 y k hy hk
    rw [e8, e9]
    by_cases c1 : 4 * y + k = 4 * C + K
    · have d1 : y = C := by omega
      have d2 : k = K := by omega
      subst d1
      subst d2
      rw [u_eq, u_ne ne]
      have z : hv 8 (4 * y + k) = 0 := by
        have w := q2 y
        exact q4 y k hy hk (by omega)
      omega
    · by_cases c2 : 4 * y + k = 4 * x + K
      · have d1 : y = x := by omega
        have d2 : k = K := by omega
        subst d1
        subst d2
        rw [u_ne c1, u_eq, u_eq]
        omega
      · rw [u_ne c1, u_ne c2, u_ne c2]
        exact b
  · intro y k hy hk c
    rw [e7] at c
    rw [e8]
    by_cases d : y = x
    · subst d
      rw [u_eq] at c
      omega
    · rw [u_ne d] at c
      rw [u_ne (by omega)]
      exact q4 y k hy hk c
  · intro i hi
    rw [e8, u_ne (by omega)]
    exact q5 i hi
  · intro y k hy hk c
    have z := q6 y k hy hk (by omega)
    rw [e8, e9, u_ne (by omega)]
    refine ⟨z.1, fun d => ?_⟩
    rw [u_ne (by omega), u_ne (by omega)]
    exact z.2 d
  · intro k h1 h2
    rw [e9, u_ne (by omega), u_ne (by omega)]
    exact q7 k h1 h2
  · intro k h1 h2
    rw [e9, u_ne (by omega), u_ne (by omega)]
    exact q8 k h1 h2
  · intro _
    rw [e9, u_eq]
    omega
  · intro k hk
    rw [e9, col_u hK hk, col_u hK hk, q10 k hk, u_ne ne]
    by_cases c : k = K
    · rw [if_pos ⟨c, hx⟩, if_pos ⟨c, hC⟩]
      omega
    · rw [if_neg (fun d => c d.1), if_neg (fun d => c d.1)]
      omega
  · intro y k hy hk yC c
    rw [e7] at c
    by_cases d : y = x
    · subst d
      rw [u_eq] at c
      omega
    · rw [u_ne d] at c
      rw [e9, u_ne (by omega), u_ne (by omega)]
      exact q11 y k hy hk yC c
theorem ho_skip {s hv : ISt} {n C K x : Nat} (q : HoI s C n K x hv) (h : K < 4 → s 4 (4 * (s 5 C).toNat + K) - hv 9 (4 * C + K) ≤ avl s C K n - avl s C K (x + 1)) : HoI s C n K (x + 1) hv := by
  obtain ⟨q1, q2, q3, q4, q5, q6, q7, q8, q9, q10⟩ := q
  exact ⟨q1, q2, q3, q4, q5, fun y k hy hk c => q6 y k hy hk (by omega), q7, q8, fun h' => h h', q10⟩
theorem ho_kind {s hv : ISt} {n C K : Nat} (q : HoI s C n K n hv) (hC : C < n) (hK : K < 4) (av : K + 1 < 4 → lk s C (K + 1) ≤ avl s C (K + 1) n) : HoI s C n (K + 1) 0 hv := by
  obtain ⟨q1, q2, q3, q4, q5, q6, q7, q8, q9, q10⟩ := q
  refine ⟨q1, q2, q3, q4, q5, fun y k hy hk c => q6 y k hy hk (by omega), fun k h1 h2 => q7 k (by omega) h2, ?_, ?_, q10⟩
  · intro k h1 h2
    by_cases c : k = K
    · subst c
      have a := q9 hK
      have b := q3 C k hC hK
      omega
    · exact q8 k (by omega) h2
  · intro h
    have a := av h
    unfold lk at a
    rw [q7 (K + 1) (by omega) h]
    have : avl s C (K + 1) 0 = 0 := rfl
    omega
theorem ho_in {s : ISt} {A n C : Nat} {g : Int} {hA : ISt} (si : ShelfI s A n) (hC : C < n) (s6 : s 6 C = -1) (s7 : s 7 C = -1) {K : Nat} (hK : K < 4) (av : K + 1 < 4 → lk s C (K + 1) ≤ avl s C (K + 1) n)
    (out : ∀ hv : ISt, HoI s C n (K + 1) 0 hv → ∃ h' : ISt, L_X3_handOut_2 hA C g h' hv ((K : Int) + 1) ∧ ∃ hz : ISt, HoI s C n 4 0 hz ∧ h' = iset hz 6 C g) :
    ∀ (j x : Nat), x + j = n → ∀ hv : ISt, HoI s C n K x hv → ∃ h' : ISt, L_X3_handOut_10 hA C g h' hv K x ∧ ∃ hz : ISt, HoI s C n 4 0 hz ∧ h' = iset hz 6 C g := by
  intro j
  induction j with
  | zero =>
    intro x hx hv q
    have hx : x = n := hx
    subst hx
    have co := ho_copy si hC q
    obtain ⟨h', p1, p2⟩ := out hv (ho_kind q hC hK av)
    have e1 := co.1
    have b1 := co.2.1
    exact ⟨h', fun V2 V10 k2 k10 => k10 _ _ _ ⟨(by unfold inR; omega), (by unfold inR; omega), bt (by omega) (p1 V2 V10 k2 k10)⟩, p2⟩
  | succ j ih =>
    intro x hx hv q
    have co := ho_copy si hC q
    have e1 := co.1
    have b1 := co.2.1
    have q1 := q.1
    have e4 := q1 4 (by omega) (by omega) (by omega)
    have e5 := q1 5 (by omega) (by omega) (by omega)
    have b5 := si.2.2.2.2.1 C hC
    obtain ⟨B, eB⟩ := nat_of b5.1.1
    have ql : Q_X3_lack hv C K (s 4 (4 * (s 5 C).toNat + K) - hv 9 (4 * C + K)) := by
      have z := q_lack (h := hv) (C := C) (A := B) (k := K) (by omega) (by rw [e5]; exact eB) (by have := si.1; omega) hK
      rw [e4] at z
      rw [eB, Int.toNat_natCast]
      exact z
    have qc : Q_X3_count hv x K (hv 9 (4 * x + K)) := q_count (by omega) hK
    have bx := q.2.2.1 x K (by omega) hK
    have bC := q.2.2.1 C K hC hK
    have b4 := si.2.2.2.1 (4 * (s 5 C).toNat + K) (by omega)
    have b4x := si.2.2.2.1 (4 * (s 5 x).toNat + K) (by have := si.2.2.2.2.1 x (by omega); omega)
    have qr := q.2.2.2.2.2.2.2.2.1 hK
    have im : imin (s 4 (4 * (s 5 C).toNat + K) - hv 9 (4 * C + K)) (hv 9 (4 * x + K)) ≤ s 4 (4 * (s 5 C).toNat + K) - hv 9 (4 * C + K) ∧ imin (s 4 (4 * (s 5 C).toNat + K) - hv 9 (4 * C + K)) (hv 9 (4 * x + K)) ≤ hv 9 (4 * x + K) ∧ 0 ≤ imin (s 4 (4 * (s 5 C).toNat + K) - hv 9 (4 * C + K)) (hv 9 (4 * x + K)) ∧ (imin (s 4 (4 * (s 5 C).toNat + K) - hv 9 (4 * C + K)) (hv 9 (4 * x + K)) = s 4 (4 * (s 5 C).toNat + K) - hv 9 (4 * C + K) ∨ imin (s 4 (4 * (s 5 C).toNat + K) - hv 9 (4 * C + K)) (hv 9 (4 * x + K)) = hv 9 (4 * x + K)) := by
      unfold imin
      split <;> omega
    have am := avl_mono (C := C) si hK (x + 1) (n - (x + 1)) (by omega)
    rw [show x + 1 + (n - (x + 1)) = n by omega] at am
    have hm := ho_may si hC s6 q (by omega : x < n)
    by_cases c : x ≠ C ∧ s 5 x = s 5 C ∧ s 6 x = -1 ∧ s 7 x = -1
    · have as := avl_s (K := K) c
      have u9 := (q.2.2.2.2.2.1 x K (by omega) hK (by omega)).2 c.1
      by_cases d : imin (s 4 (4 * (s 5 C).toNat + K) - hv 9 (4 * C + K)) (hv 9 (4 * x + K)) ≤ 0
      · obtain ⟨h', p1, p2⟩ := ih (x + 1) (by omega) hv (ho_skip q (fun _ => by omega))
        exact ⟨h', fun V2 V10 k2 k10 => k10 _ _ _ ⟨(by unfold inR; omega), (by unfold inR; omega), bf (by omega) ⟨_, ql, _, qc, (by unfold inR; omega), (by unfold inR; omega), 1, q_may1 co (by omega) hC (hm.mpr c), R1, bf n10 ⟨(by unfold inR; omega), bt d (p1 V2 V10 k2 k10)⟩⟩⟩, p2⟩
      · obtain ⟨h', p1, p2⟩ := ih (x + 1) (by omega) _ (ho_lend si hC q s7 hK (by omega) c (v := imin (s 4 (4 * (s 5 C).toNat + K) - hv 9 (4 * C + K)) (hv 9 (4 * x + K))) (by omega) (by omega) (by omega) (by omega))
        exact ⟨h', fun V2 V10 k2 k10 => k10 _ _ _ ⟨(by unfold inR; omega), (by unfold inR; omega), bf (by omega) ⟨_, ql, _, qc, (by unfold inR; omega), (by unfold inR; omega), 1, q_may1 co (by omega) hC (hm.mpr c), R1, bf n10 ⟨(by unfold inR; omega), bf d ⟨_, q_lend b1 (by omega) hC hK c.1, p1 V2 V10 k2 k10⟩⟩⟩⟩, p2⟩
    · have an := avl_n (K := K) si (by omega : x < n) s6 c
      obtain ⟨h', p1, p2⟩ := ih (x + 1) (by omega) hv (ho_skip q (fun _ => by omega))
      exact ⟨h', fun V2 V10 k2 k10 => k10 _ _ _ ⟨(by unfold inR; omega), (by unfold inR; omega), bf (by omega) ⟨_, ql, _, qc, (by unfold inR; omega), (by unfold inR; omega), 0, q_may0 co (by omega) hC (fun z => c (hm.mp z)), R0, bt rfl (p1 V2 V10 k2 k10)⟩⟩, p2⟩
theorem ho_out {s : ISt} {A n C : Nat} {g : Int} {hA : ISt} (si : ShelfI s A n) (hC : C < n) (s6 : s 6 C = -1) (s7 : s 7 C = -1) (av : ∀ k : Nat, k < 4 → lk s C k ≤ avl s C k n) : ∀ (i K : Nat), K + i = 4 → ∀ hv : ISt, HoI s C n K 0 hv → ∃ h' : ISt, L_X3_handOut_2 hA C g h' hv K ∧ ∃ hz : ISt, HoI s C n 4 0 hz ∧ h' = iset hz 6 C g := by
  intro i
  induction i with
  | zero =>
    intro K hK hv q
    have hK : K = 4 := hK
    subst hK
    refine ⟨_, fun V2 V10 k2 k10 => k2 _ _ ⟨(by unfold inR; omega), bt (by omega) ⟨by have := si.2.1; exact (by unfold inR; omega), fp C rfl (by have := si.2.1; omega) rfl rfl⟩⟩, hv, q, rfl⟩
  | succ i ih =>
    intro K hK hv q
    have e : ((K + 1 : Nat) : Int) = (K : Int) + 1 := by omega
    obtain ⟨h', p1, p2⟩ := ho_in (g := g) (hA := hA) si hC s6 s7 (by omega : K < 4) (fun h => av (K + 1) h) (fun hv q => by
      have z := ih (K + 1) (by omega) hv q
      rw [e] at z
      exact z) n 0 (by omega) hv q
    exact ⟨h', fun V2 V10 k2 k10 => k2 _ _ ⟨(by unfold inR; omega), bf (by omega) (p1 V2 V10 k2 k10)⟩, p2⟩
/-- a copy is handed out -/
theorem hand_ex {s : ISt} {A n C g : Nat} (si : ShelfI s A n) (hC : C < n) (hw : whr s C = 0) (av : ∀ k : Nat, k < 4 → lk s C k ≤ avl s C k n) (hg : g < 30) (hh : ∀ c : Nat, c < n → s 6 c ≠ g) : ∃ s' : ISt, Q_X3_handOut s C g s' ∧ ShelfI s' A n ∧ (s' 0 = s 0 ∧ s' 1 = s 1 ∧ s' 2 = s 2 ∧ s' 3 = s 3 ∧ s' 4 = s 4 ∧ s' 5 = s 5) ∧ s' 6 = iupd (s 6) C g ∧ (∀ k : Nat, k < 4 → col (s' 9) k n = col (s 9) k n) := by
  obtain ⟨s6, s7⟩ := whr_n hw
  have q0 : HoI s C n 0 0 s := by
    obtain ⟨a1, a2, a3, a4, a5, a6, a7, a8, a9, a10, a11, a12⟩ := si
    refine ⟨fun _ _ _ _ => rfl, fun _ => Or.inl rfl, a6, a12, fun _ _ => rfl, fun _ _ _ _ _ => ⟨rfl, fun _ => rfl⟩, fun _ _ _ => rfl, fun k h => absurd h (by omega), fun _ => ?_, fun _ _ => rfl, fun _ _ _ _ _ _ => rfl⟩
    have := av 0 (by omega)
    unfold lk at this
    have z : avl s C 0 0 = 0 := rfl
    omega
  obtain ⟨s', p1, hz, q, e⟩ := ho_out (g := (g : Int)) (hA := s) si hC s6 s7 av 4 0 rfl s q0
  refine ⟨s', p1, ?_⟩
  obtain ⟨q1, q2, q3, q4, q5, q6, q7, q8, q9, q10, q11⟩ := q
  obtain ⟨a1, a2, a3, a4, a5, a6, a7, a8, a9, a10, a11, a12⟩ := si
  have z0 := q1 0 (by omega) (by omega) (by omega)
  have z1 := q1 1 (by omega) (by omega) (by omega)
  have z2 := q1 2 (by omega) (by omega) (by omega)
  have z3 := q1 3 (by omega) (by omega) (by omega)
  have z4 := q1 4 (by omega) (by omega) (by omega)
  have z5 := q1 5 (by omega) (by omega) (by omega)
  have z6 := q1 6 (by omega) (by omega) (by omega)
  subst e
  have e6 : iset hz 6 C g 6 = iupd (s 6) C g := by
    show iupd (hz 6) C g = _
    rw [z6]
  refine ⟨?_, ⟨z0, z1, z2, z3, z4, z5⟩, e6, q10⟩
  have e0 : iset hz 6 C g 0 = s 0 := z0
  have e1 : iset hz 6 C g 1 = s 1 := z1
  have e2 : iset hz 6 C g 2 = s 2 := z2
  have e3 : iset hz 6 C g 3 = s 3 := z3
  have e4 : iset hz 6 C g 4 = s 4 := z4
  have e5 : iset hz 6 C g 5 = s 5 := z5
  have e7 : iset hz 6 C g 7 = hz 7 := rfl
  have e8 : iset hz 6 C g 8 = hz 8 := rfl
  have e9 : iset hz 6 C g 9 = hz 9 := rfl
  unfold ShelfI
  rw [e0, e1, e2, e3, e4, e5, e6, e7, e8, e9]
  have n7 : ∀ d : Nat, d < n → s 7 d ≠ C := by
    intro d hd c
    have b := a11 d hd (by omega)
    rw [c, Int.toNat_natCast] at b
    exact b s6
  have h7C : hz 7 C = -1 := by
    have := q2 C
    omega
  refine ⟨a1, a2, a3, a4, ?_, q3, ?_, ?_, ?_, ?_, ?_, q4⟩
  · intro c hc
    have b := a5 c hc
    have z := q2 c
    refine ⟨b.1, ?_, by omega⟩
    unfold iupd
    split <;> omega
  · intro c h1 h2
    have b := a7 c h1 h2
    have z := q2 c
    rw [u_ne (by omega)]
    omega
  · intro i h1 h2
    rw [q5 i h1]
    exact a8 i h1 h2
  · intro c d hc hd h1 h2
    by_cases c1 : c = C
    · by_cases d1 : d = C
      · omega
      · rw [c1, u_eq, u_ne d1] at h1
        exact absurd h1.symm (hh d hd)
    · by_cases d1 : d = C
      · rw [d1, u_eq, u_ne c1] at h1
        exact absurd h1 (hh c hc)
      · rw [u_ne c1, u_ne d1] at h1
        rw [u_ne c1] at h2
        exact a9 c d hc hd h1 h2
  · intro c hc h1
    by_cases c1 : c = C
    · subst c1
      exact ⟨h7C, fun k hk => q8 k hk hk⟩
    · rw [u_ne c1] at h1
      obtain ⟨b1, b2⟩ := a10 c hc h1
      have z := q2 c
      have h7 : hz 7 c = -1 := by omega
      refine ⟨h7, fun k hk => ?_⟩
      rw [q11 c k hc hk c1 (by omega)]
      exact b2 k hk
  · intro d hd h1
    have z := q2 d
    rcases z with z | z
    · have b := a11 d hd (by omega)
      rw [z]
      by_cases e : (s 7 d).toNat = C
      · have := a5 d hd
        have := n7 d hd
        omega
      · rw [u_ne e]
        exact b
    · rw [z.2, Int.toNat_natCast, u_eq]
      omega
/-- closing: where the loops stand -/
def ClI (s : ISt) (C n K j : Nat) (x : Int) (hv : ISt) : Prop :=
  (∀ i : Nat, i ≠ 8 → i ≠ 9 → hv i = s i) ∧
  (∀ y k : Nat, y < n → k < 4 → 0 ≤ hv 9 (4 * y + k) ∧ 0 ≤ hv 8 (4 * y + k) ∧ hv 9 (4 * y + k) + hv 8 (4 * y + k) ≤ s 4 (4 * (s 5 y).toNat + k)) ∧
  (∀ y k : Nat, y < n → k < 4 → s 7 y ≠ C → hv 8 (4 * y + k) = s 8 (4 * y + k) ∧ (y ≠ C → hv 9 (4 * y + k) = s 9 (4 * y + k))) ∧
  (∀ y k : Nat, y < n → k < 4 → s 7 y = C → (K ≤ k ∨ (k + 1 = K ∧ j ≤ y)) → hv 8 (4 * y + k) = 0) ∧
  (∀ k : Nat, k < 4 → hv 9 (4 * C + k) ≤ s 9 (4 * C + k)) ∧
  (∀ i : Nat, 4 * n ≤ i → hv 8 i = s 8 i) ∧
  (∀ k : Nat, k < 4 → col (hv 9) k n = col (s 9) k n) ∧
  (0 ≤ x ∧ x ≤ 16 * (4 - (K : Int)) + ((n : Int) - j))
def closeS (hv : ISt) (C y K : Nat) (v : Int) : ISt := iset (iset (iset hv 9 (4 * C + K) (hv 9 (4 * C + K) + -v)) 9 (4 * y + K) (iset hv 9 (4 * C + K) (hv 9 (4 * C + K) + -v) 9 (4 * y + K) + v)) 8 (4 * y + K) 0
theorem cl_one {s hv : ISt} {n C K y : Nat} {x : Int} (hC : C < n) (sC : s 7 C ≠ C) (q : ClI s C n (K + 1) (y + 1) x hv) (hK : K < 4) (hy : y < n) (h7 : s 7 y = C) {v : Int} (v0 : 0 ≤ v) (v1 : v ≤ hv 8 (4 * y + K)) (v2 : v ≤ hv 9 (4 * C + K)) : ClI s C n (K + 1) y (x + 1) (closeS hv C y K v) := by
  obtain ⟨q1, q2, q3, q4, q5, q6, q7, q8⟩ := q
  have yC : y ≠ C := by
    intro e
    rw [e] at h7
    exact sC h7
  have ne : 4 * y + K ≠ 4 * C + K := by omega
  have e8 : closeS hv C y K v 8 = iupd (hv 8) (4 * y + K) 0 := rfl
  have e9 : closeS hv C y K v 9 = iupd (iupd (hv 9) (4 * C + K) (hv 9 (4 * C + K) + -v)) (4 * y + K) (hv 9 (4 * y + K) + v) := by
    show iupd (iupd (hv 9) (4 * C + K) (hv 9 (4 * C + K) + -v)) (4 * y + K) (iupd (hv 9) (4 * C + K) (hv 9 (4 * C + K) + -v) (4 * y + K) + v) = _
    rw [u_ne ne]
  refine ⟨?_, ?_, ?_, ?_, ?_, ?_, ?_, by omega⟩
  · intro i h8 h9
    rw [← q1 i h8 h9]
    show (if i = 8 then _ else if i = 9 then _ else if i = 9 then _ else hv i) = hv i
    rw [if_neg h8, if_neg h9, if_neg h9]
  · intro z k hz hk
    have b := q2 z k hz hk
    rw [e8, e9]
    by_cases c1 : 4 * z + k = 4 * y + K
    · rw [c1, u_eq, u_eq]
      rw [c1] at b
      omega
    · rw [u_ne c1, u_ne c1]
      by_cases c2 : 4 * z + k = 4 * C + K
      · rw [c2, u_eq]
        rw [c2] at b
        omega
      · rw [u_ne c2]
        exact b
  · intro z k hz hk h
    have b := q3 z k hz hk h
    have nz : z ≠ y := by
      intro e
      rw [e] at h
      exact h h7
    rw [e8, e9, u_ne (by omega)]
    refine ⟨b.1, fun d => ?_⟩
    rw [u_ne (by omega), u_ne (by omega)]
    exact b.2 d
  · intro z k hz hk h c
    rw [e8]
    by_cases d : 4 * z + k = 4 * y + K
    · rw [d, u_eq]
    · rw [u_ne d]
      exact q4 z k hz hk h (by omega)
  · intro k hk
    have b := q5 k hk
    rw [e9, u_ne (by omega)]
    by_cases d : k = K
    · subst d
      rw [u_eq]
      omega
    · rw [u_ne (by omega)]
      exact b
  · intro i hi
    rw [e8, u_ne (by omega)]
    exact q6 i hi
  · intro k hk
    rw [e9, col_u hK hk, col_u hK hk, q7 k hk, u_ne ne]
    by_cases c : k = K
    · rw [if_pos ⟨c, hC⟩, if_pos ⟨c, hy⟩]
      omega
    · rw [if_neg (fun d => c d.1), if_neg (fun d => c d.1)]
      omega
theorem cl_skip {s hv : ISt} {n C K y : Nat} {x : Int} (q : ClI s C n (K + 1) (y + 1) x hv) (hK : K < 4) (h : s 7 y = C → hv 8 (4 * y + K) = 0) : ClI s C n (K + 1) y x hv := by
  obtain ⟨q1, q2, q3, q4, q5, q6, q7, q8⟩ := q
  refine ⟨q1, q2, q3, fun z k hz hk h7 c => ?_, q5, q6, q7, by omega⟩
  by_cases d : k = K ∧ z = y
  · obtain ⟨d1, d2⟩ := d
    subst d1
    subst d2
    exact h h7
  · exact q4 z k hz hk h7 (by omega)
theorem cl_kind {s hv : ISt} {n C K : Nat} {x : Int} (q : ClI s C n (K + 1) 0 x hv) (hn : n ≤ 16) : ClI s C n K n x hv := by
  obtain ⟨q1, q2, q3, q4, q5, q6, q7, q8⟩ := q
  exact ⟨q1, q2, q3, fun z k hz hk h7 c => q4 z k hz hk h7 (by omega), q5, q6, q7, by omega⟩
def ClB (s : ISt) (C n A : Nat) : Prop := s 0 1 = n ∧ n ≤ 16 ∧ A ≤ 8 ∧ (∀ y : Nat, y < n → (0 ≤ s 5 y ∧ s 5 y < A) ∧ (-1 ≤ s 7 y ∧ s 7 y < n)) ∧ (∀ i : Nat, i < 4 * A → s 4 i ≤ 9)
theorem cl_in2 {s : ISt} {A n C : Nat} {hA : ISt} (hb : ClB s C n A) (hC : C < n) (sC : s 7 C ≠ C) {K : Nat} (hK : K < 4)
    (out : ∀ (x : Int) (hv : ISt), ClI s C n K n x hv → ∃ (r : Int) (h' : ISt), L_X3_closeLoans_4 hA C r h' hv x ((K : Int) - 1) ∧ ClI s C n 0 n r h') :
    ∀ (j : Nat), j ≤ n → ∀ (x : Int) (hv : ISt), ClI s C n (K + 1) j x hv → ∃ (r : Int) (h' : ISt), L_X3_closeLoans_16 hA C r h' hv x K ((j : Int) - 1) ∧ ClI s C n 0 n r h' := by
  obtain ⟨b1, b2, b3, b5, b4⟩ := hb
  intro j
  induction j with
  | zero =>
    intro _ x hv q
    obtain ⟨r, h', p1, p2⟩ := out x hv (cl_kind q b2)
    exact ⟨r, h', fun V4 V16 k4 k16 => k16 _ _ _ _ ⟨(by unfold inR; omega), bt (by omega) (p1 V4 V16 k4 k16)⟩, p2⟩
  | succ j ih =>
    intro hj x hv q
    have e : ((j + 1 : Nat) : Int) - 1 = j := by omega
    have e' : (j : Int) + -1 = (j : Int) - 1 := by omega
    rw [e]
    obtain ⟨q1, q2, q3, q4, q5, q6, q7, q8⟩ := id q
    have z7 := q1 7 (by omega) (by omega)
    have bj := b5 j (by omega)
    have bC := b5 C hC
    have r1 := q2 j K (by omega) hK
    have r2 := q2 C K hC hK
    have w1 := b4 (4 * (s 5 j).toNat + K) (by omega)
    have w2 := b4 (4 * (s 5 C).toNat + K) (by omega)
    have i7 : iat 16 (hv 7) j = s 7 j := by rw [ina j (by omega), z7]
    have i8 : iat 64 (hv 8) ((j : Int) * 4 + K) = hv 8 (4 * j + K) := by
      rw [ia (by omega) (by omega)]
      exact congrArg (hv 8) (by omega)
    have skip : (s 7 j = C → hv 8 (4 * j + K) = 0) → (∀ (r : Int) (h' : ISt), L_X3_closeLoans_16 hA C r h' hv x K ((j : Int) - 1) → L_X3_closeLoans_16 hA C r h' hv x K j) → ∃ (r : Int) (h' : ISt), L_X3_closeLoans_16 hA C r h' hv x K j ∧ ClI s C n 0 n r h' := by
      intro h1 h2
      obtain ⟨r, h', p1, p2⟩ := ih (by omega) x hv (cl_skip q hK h1)
      exact ⟨r, h', h2 r h' p1, p2⟩
    by_cases c : s 7 j = C
    · by_cases d : hv 8 (4 * j + K) ≤ 0
      · refine skip (fun _ => by omega) (fun r h' hL V4 V16 k4 k16 => k16 _ _ _ _ ⟨(by unfold inR; omega), bf (by omega) ⟨(by unfold inR; omega), (by unfold inR; omega), ?_⟩⟩)
        rw [i7, i8, e']
        exact ⟨(by unfold inR; omega), (by unfold inR; omega), nf c ⟨(by unfold inR; omega), bt d (hL V4 V16 k4 k16)⟩⟩
      · have im : 0 ≤ imin (hv 8 (4 * j + K)) (hv 9 (4 * C + K)) ∧ imin (hv 8 (4 * j + K)) (hv 9 (4 * C + K)) ≤ hv 8 (4 * j + K) ∧ imin (hv 8 (4 * j + K)) (hv 9 (4 * C + K)) ≤ hv 9 (4 * C + K) := by
          unfold imin
          split <;> omega
        obtain ⟨r, h', p1, p2⟩ := ih (by omega) (x + 1) _ (cl_one hC sC q hK (by omega) c im.1 im.2.1 im.2.2)
        refine ⟨r, h', fun V4 V16 k4 k16 => k16 _ _ _ _ ⟨(by unfold inR; omega), bf (by omega) ⟨(by unfold inR; omega), (by unfold inR; omega), ?_⟩⟩, p2⟩
        rw [i7, i8, e']
        refine ⟨(by unfold inR; omega), (by unfold inR; omega), nf c ⟨(by unfold inR; omega), bf d ⟨_, q_count (by omega) hK, (by unfold inR; omega), (by unfold inR; omega), ?_⟩⟩⟩
        intro y4 ey
        subst ey
        refine ⟨_, q_change (by omega) hK, _, q_change (by omega) hK, (by unfold inR; omega), fp (4 * j + K) (by omega) (by omega) rfl (p1 V4 V16 k4 k16)⟩
    · refine skip (fun h => absurd h c) (fun r h' hL V4 V16 k4 k16 => k16 _ _ _ _ ⟨(by unfold inR; omega), bf (by omega) ⟨(by unfold inR; omega), (by unfold inR; omega), ?_⟩⟩)
      rw [i7, e']
      exact ⟨(by unfold inR; omega), (by unfold inR; omega), nt c (hL V4 V16 k4 k16)⟩
theorem cl_out2 {s : ISt} {A n C : Nat} {hA : ISt} (hb : ClB s C n A) (hC : C < n) (sC : s 7 C ≠ C) : ∀ (K : Nat), K ≤ 4 → ∀ (x : Int) (hv : ISt), ClI s C n K n x hv → ∃ (r : Int) (h' : ISt), L_X3_closeLoans_4 hA C r h' hv x ((K : Int) - 1) ∧ ClI s C n 0 n r h' := by
  intro K
  induction K with
  | zero =>
    intro _ x hv q
    exact ⟨x, hv, fun V4 V16 k4 k16 => k4 _ _ _ ⟨(by unfold inR; omega), bt (by omega) ⟨rfl, rfl⟩⟩, q⟩
  | succ K ih =>
    intro hK x hv q
    have e : ((K + 1 : Nat) : Int) - 1 = K := by omega
    rw [e]
    obtain ⟨r, h', p1, p2⟩ := cl_in2 (hA := hA) hb hC sC (by omega : K < 4) (fun x hv q => ih (by omega) x hv q) n (Nat.le_refl _) x hv q
    have e1 : hv 0 1 = n := by
      rw [q.1 0 (by omega) (by omega)]
      exact hb.1
    refine ⟨r, h', fun V4 V16 k4 k16 => k4 _ _ _ ⟨(by unfold inR; omega), bf (by omega) ?_⟩, p2⟩
    rw [e1]
    exact p1 V4 V16 k4 k16
/-- a copy comes back -/
theorem back_ex {s : ISt} {A n C K : Nat} {l : Int} (si : ShelfI s A n) (hC : C < n) (s6 : s 6 C ≠ -1) (hK : K < 4) (hl : 0 ≤ l) (hl2 : l ≤ s 9 (4 * C + K)) : ∃ (r : Int) (s' : ISt), Q_X3_takeBack s C K l r s' ∧ ShelfI s' A n ∧ (s' 0 = s 0 ∧ s' 1 = s 1 ∧ s' 2 = s 2 ∧ s' 3 = s 3 ∧ s' 4 = s 4 ∧ s' 5 = s 5) ∧ s' 6 = iupd (s 6) C (-1) ∧ s' 7 C = -1 ∧ (0 ≤ r ∧ r ≤ 80) ∧ col (s' 9) K n = col (s 9) K n - l ∧ s' 9 (4 * C + K) ≤ s 9 (4 * C + K) - l := by
  obtain ⟨a1, a2, a3, a4, a5, a6, a7, a8, a9, a10, a11, a12⟩ := id si
  have s7 := (a10 C hC s6).1
  obtain ⟨u, eu⟩ : ∃ u : ISt, u = iset s 9 (4 * C + K) (s 9 (4 * C + K) + -l) := ⟨_, rfl⟩
  have u9 : u 9 = iupd (s 9) (4 * C + K) (s 9 (4 * C + K) + -l) := by rw [eu]; rfl
  have uo : ∀ i : Nat, i ≠ 9 → u i = s i := by
    intro i hi
    rw [eu]
    show (if i = 9 then _ else s i) = s i
    rw [if_neg hi]
  have q0 : ClI u C n 4 n 0 u := by
    refine ⟨fun _ _ _ => rfl, ?_, fun _ _ _ _ _ => ⟨rfl, fun _ => rfl⟩, fun y k hy hk h c => absurd c (by omega), fun k _ => Int.le_refl _, fun _ _ => rfl, fun _ _ => rfl, by omega⟩
    intro y k hy hk
    have b := a6 y k hy hk
    rw [u9, uo 8 (by omega), uo 4 (by omega), uo 5 (by omega)]
    by_cases c : 4 * y + k = 4 * C + K
    · rw [c, u_eq]
      rw [c] at b
      omega
    · rw [u_ne c]
      exact b
  have hb : ClB u C n A := by
    unfold ClB
    rw [uo 0 (by omega), uo 5 (by omega), uo 7 (by omega), uo 4 (by omega)]
    exact ⟨a2.1, a2.2, a1.2, fun y hy => ⟨(a5 y hy).1, (a5 y hy).2.2⟩, fun i hi => (a4 i hi).2⟩
  obtain ⟨r, v, p1, p2⟩ := cl_out2 (hA := u) hb hC (by rw [uo 7 (by omega), s7]; omega) 4 (Nat.le_refl _) 0 u q0
  obtain ⟨q1, q2, q3, q4, q5, q6, q7, q8⟩ := p2
  have v0 : ∀ i : Nat, i ≠ 8 → i ≠ 9 → v i = s i := fun i h8 h9 => by rw [q1 i h8 h9, uo i h9]
  have vcl : Q_X3_closeLoans (iset s 9 (4 * C + K) (s 9 (4 * C + K) + -l)) C r v := by
    rw [← eu]
    exact p1
  refine ⟨r, _, q_takeBack a2.2 hC hK (by rw [v0 0 (by omega) (by omega)]; exact a2.1) (fun t ht => by rw [v0 7 (by omega) (by omega)]; have := a5 t ht; exact (by unfold inR; omega)) vcl, ?_⟩
  obtain ⟨w, ew⟩ : ∃ w : ISt, w = iset (frow v 7 (freed (v 7) n C)) 6 C (-1) := ⟨_, rfl⟩
  rw [← ew]
  have w0 : w 0 = s 0 := by rw [ew]; exact v0 0 (by omega) (by omega)
  have w1 : w 1 = s 1 := by rw [ew]; exact v0 1 (by omega) (by omega)
  have w2 : w 2 = s 2 := by rw [ew]; exact v0 2 (by omega) (by omega)
  have w3 : w 3 = s 3 := by rw [ew]; exact v0 3 (by omega) (by omega)
  have w4 : w 4 = s 4 := by rw [ew]; exact v0 4 (by omega) (by omega)
  have w5 : w 5 = s 5 := by rw [ew]; exact v0 5 (by omega) (by omega)
  have w6 : w 6 = iupd (s 6) C (-1) := by
    rw [ew]
    show iupd (v 6) C (-1) = _
    rw [v0 6 (by omega) (by omega)]
  have w7 : ∀ y : Nat, w 7 y = if y < n ∧ s 7 y = C then -1 else s 7 y := by
    intro y
    rw [ew]
    show freed (v 7) n C y = _
    unfold freed
    rw [v0 7 (by omega) (by omega)]
  have w8 : w 8 = v 8 := by rw [ew]; rfl
  have w9 : w 9 = v 9 := by rw [ew]; rfl
  have x5 : u 5 = s 5 := uo 5 (by omega)
  have x4 : u 4 = s 4 := uo 4 (by omega)
  have x7 : u 7 = s 7 := uo 7 (by omega)
  have x8 : u 8 = s 8 := uo 8 (by omega)
  rw [x5, x4] at q2
  rw [x7, x8] at q3
  rw [x7] at q4
  rw [x8] at q6
  refine ⟨?_, ⟨w0, w1, w2, w3, w4, w5⟩, w6, ?_, ⟨q8.1, by omega⟩, ?_, ?_⟩
  · unfold ShelfI
    rw [w0, w1, w2, w3, w4, w5, w6, w8, w9]
    refine ⟨a1, a2, a3, a4, ?_, q2, ?_, ?_, ?_, ?_, ?_, ?_⟩
    · intro c hc
      have b := a5 c hc
      refine ⟨b.1, ?_, ?_⟩
      · unfold iupd
        split <;> omega
      · rw [w7]
        split <;> omega
    · intro c h1 h2
      have b := a7 c h1 h2
      rw [w7, if_neg (by omega), u_ne (by omega)]
      exact b
    · intro i h1 h2
      rw [q6 i h1]
      exact a8 i h1 h2
    · intro c d hc hd h1 h2
      by_cases c1 : c = C
      · rw [c1, u_eq] at h2
        exact absurd rfl h2
      · rw [u_ne c1] at h1 h2
        by_cases d1 : d = C
        · rw [d1, u_eq] at h1
          exact absurd h1 h2
        · rw [u_ne d1] at h1
          exact a9 c d hc hd h1 h2
    · intro c hc h1
      by_cases c1 : c = C
      · rw [c1, u_eq] at h1
        exact absurd rfl h1
      · rw [u_ne c1] at h1
        obtain ⟨g1, g2⟩ := a10 c hc h1
        rw [w7, if_neg (by omega)]
        refine ⟨g1, fun k hk => ?_⟩
        rw [(q3 c k hc hk (by omega)).2 c1, u9, u_ne (by omega)]
        exact g2 k hk
    · intro d hd h1
      rw [w7] at h1
      rw [w7]
      by_cases c1 : d < n ∧ s 7 d = C
      · rw [if_pos c1] at h1
        exact absurd rfl h1
      · rw [if_neg c1] at h1
        rw [if_neg c1, u_ne]
        · exact a11 d hd h1
        · have := a5 d hd
          omega
    · intro d k hd hk h1
      rw [w7] at h1
      by_cases c1 : s 7 d = C
      · exact q4 d k hd hk c1 (by omega)
      · rw [if_neg (fun z => c1 z.2)] at h1
        rw [(q3 d k hd hk c1).1]
        exact a12 d k hd hk h1
  · rw [w7, if_neg (by omega)]
    exact s7
  · rw [w9, q7 K hK, u9, col_u hK hK, if_pos ⟨rfl, hC⟩]
    omega
  · rw [w9]
    have := q5 K hK
    rw [u9, u_eq] at this
    omega
