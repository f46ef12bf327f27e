/-! CALLS: what holds goes on holding -/
theorem ssum_e {s s' : Nat → Int} {f : Nat} : ∀ m : Nat, (∀ t : Nat, f ≤ t → t < f + m → s' t = s t) → ssum s' f m = ssum s f m := by
  intro m
  induction m with
  | zero => intro _; rfl
  | succ m ih =>
    intro h
    show ssum s' f m + s' (f + m) = ssum s f m + s (f + m)
    rw [ih (fun t h1 h2 => h t h1 (by omega)), h (f + m) (by omega) (by omega)]
def tabled (h : ISt) (T : Nat) (a : Int) : ISt := iset (iset h 1 T a) 0 1 ((T : Int) + 1)
theorem tabled_i {h : ISt} {T G : Nat} (hi : HallI h T G) (hT : T < 10) {a : Int} (ha : 2 ≤ a ∧ a ≤ 6) : HallI (tabled h T a) (T + 1) G := by
  obtain ⟨a1, a2, a3, a4, a5, a6, a7, a8, a9, a10, a11⟩ := hi
  refine ⟨a1, ⟨?_, by omega⟩, a3, a4, ?_, fun t h1 h2 => a6 t (by omega) h2, a7, a8, a9, a10, ?_⟩
  · show (T : Int) + 1 = ((T + 1 : Nat) : Int)
    omega
  · intro t ht
    show 2 ≤ iupd (h 1) T a t ∧ iupd (h 1) T a t ≤ 6
    by_cases c : t = T
    · subst c
      rw [u_eq]
      exact ha
    · rw [u_ne c]
      exact a5 t (by omega)
  · intro g hg c
    obtain ⟨f, m, q1, q2, q3, q4⟩ := a11 g hg c
    refine ⟨f, m, q1, by omega, fun t ht => ?_, ?_⟩
    · show h 2 t = g ↔ _
      by_cases d : t = T
      · subst d
        have := a6 t (by omega) hT
        constructor
        · intro y; omega
        · intro y; omega
      · exact q3 t (by omega)
    · show h 3 g ≤ ssum (iupd (h 1) T a) f m - m + 1
      rw [ssum_e m (fun t h1 h2 => u_ne (by omega))]
      exact q4
theorem n_addTable {hh hs hr : ISt} {T G : Nat} (hi : HallI hh T G) (hT : T < 10) {a : Int} (ha : 2 ≤ a ∧ a ≤ 6) {ok : Int → ISt → ISt → ISt → Prop} (h : ok T (tabled hh T a) hs hr) : Qn_X4_addTable hh hs hr a ok := by
  have e := hi.2.1.1
  refine ⟨(by unfold inR; omega), ⟨by omega, by omega⟩, (by unfold inR; omega), bf (by omega) ⟨n10, T, tabled hh T a, ⟨(by unfold inR; omega), fp T e hT rfl (fa ⟨?_, ?_⟩)⟩, h⟩⟩
  · show (T : Int) = hh 0 1 + 1 - 1
    omega
  · show tabled hh T a = iset (iset hh 1 T a) 0 1 (hh 0 1 + 1)
    rw [e]
    rfl
/-- a title more -/
def titled (s : ISt) (A : Nat) (a1 a2 a3 a4 a5 a6 a7 : Int) : ISt := iset (iset (iset (iset (iset (iset (iset (iset s 1 A a1) 2 A a2) 3 A a3) 0 0 ((A : Int) + 1)) 4 (4 * A + 0) a4) 4 (4 * A + 1) a5) 4 (4 * A + 2) a6) 4 (4 * A + 3) a7
theorem titled_4 (s : ISt) (A : Nat) (a1 a2 a3 a4 a5 a6 a7 : Int) : titled s A a1 a2 a3 a4 a5 a6 a7 4 = u4 (s 4) (4 * A) a4 a5 a6 a7 := rfl
theorem titled_i {s : ISt} {A n : Nat} (si : ShelfI s A n) (hA : A < 8) {a1 a2 a3 a4 a5 a6 a7 : Int} (b1 : 1 ≤ a1 ∧ a1 ≤ 12) (b2 : 1 ≤ a2 ∧ a2 ≤ 12) (b3 : 5 ≤ a3 ∧ a3 ≤ 300) (b4 : 0 ≤ a4 ∧ a4 ≤ 9) (b5 : 0 ≤ a5 ∧ a5 ≤ 9) (b6 : 0 ≤ a6 ∧ a6 ≤ 9) (b7 : 0 ≤ a7 ∧ a7 ≤ 9) : ShelfI (titled s A a1 a2 a3 a4 a5 a6 a7) (A + 1) n := by
  obtain ⟨c1, c2, c3, c4, c5, c6, c7, c8, c9, c10, c11, c12⟩ := si
  have old : ∀ c k : Nat, c < n → k < 4 → u4 (s 4) (4 * A) a4 a5 a6 a7 (4 * (s 5 c).toNat + k) = s 4 (4 * (s 5 c).toNat + k) := by
    intro c k hc hk
    have := (c5 c hc).1
    exact u4_ne (by omega)
  refine ⟨⟨?_, by omega⟩, c2, ?_, ?_, ?_, ?_, c7, c8, c9, ?_, c11, c12⟩
  · show (A : Int) + 1 = ((A + 1 : Nat) : Int)
    omega
  · intro t ht
    show (1 ≤ iupd (s 1) A a1 t ∧ iupd (s 1) A a1 t ≤ 12) ∧ (1 ≤ iupd (s 2) A a2 t ∧ iupd (s 2) A a2 t ≤ 12) ∧ (5 ≤ iupd (s 3) A a3 t ∧ iupd (s 3) A a3 t ≤ 300)
    by_cases c : t = A
    · subst c
      rw [u_eq, u_eq, u_eq]
      exact ⟨b1, b2, b3⟩
    · rw [u_ne c, u_ne c, u_ne c]
      exact c3 t (by omega)
  · intro i hi
    rw [titled_4]
    rcases u4_or (4 * A) i (by omega) a4 a5 a6 a7 with ⟨h, e⟩ | ⟨h, e⟩ | ⟨h, e⟩ | ⟨h, e⟩ | ⟨h, e⟩
    · rw [e]; exact c4 i h
    · rw [e]; exact b4
    · rw [e]; exact b5
    · rw [e]; exact b6
    · rw [e]; exact b7
  · intro c hc
    have := c5 c hc
    exact ⟨⟨this.1.1, Int.lt_trans this.1.2 (by omega)⟩, this.2⟩
  · intro c k hc hk
    rw [titled_4]
    show 0 ≤ s 9 (4 * c + k) ∧ 0 ≤ s 8 (4 * c + k) ∧ s 9 (4 * c + k) + s 8 (4 * c + k) ≤ u4 (s 4) (4 * A) a4 a5 a6 a7 (4 * (s 5 c).toNat + k)
    rw [old c k hc hk]
    exact c6 c k hc hk
  · intro c hc h
    refine ⟨(c10 c hc h).1, fun k hk => ?_⟩
    rw [titled_4]
    show s 9 (4 * c + k) = u4 (s 4) (4 * A) a4 a5 a6 a7 (4 * (s 5 c).toNat + k)
    rw [old c k hc hk]
    exact (c10 c hc h).2 k hk
theorem n_addTitle {hh hs hr : ISt} {A n : Nat} (si : ShelfI hs A n) (hA : A < 8) {a1 a2 a3 a4 a5 a6 a7 : Int} (b1 : 1 ≤ a1 ∧ a1 ≤ 12) (b2 : a1 ≤ a2 ∧ a2 ≤ 12) (b3 : 5 ≤ a3 ∧ a3 ≤ 300) (b4 : 0 ≤ a4 ∧ a4 ≤ 9) (b5 : 0 ≤ a5 ∧ a5 ≤ 9) (b6 : 0 ≤ a6 ∧ a6 ≤ 9) (b7 : 0 ≤ a7 ∧ a7 ≤ 9) {ok : Int → ISt → ISt → ISt → Prop} (h : ok A hh (titled hs A a1 a2 a3 a4 a5 a6 a7) hr) : Qn_X4_addTitle hh hs hr a1 a2 a3 a4 a5 a6 a7 ok := by
  have e := si.1.1
  intro V k
  refine ⟨(by unfold inR; omega), ⟨by omega, by omega⟩, (by unfold inR; omega), (by unfold inR; omega), ⟨by omega, by omega⟩, (by unfold inR; omega), ⟨by omega, by omega⟩, (by unfold inR; omega), ⟨by omega, by omega⟩, (by unfold inR; omega), ⟨by omega, by omega⟩, (by unfold inR; omega), ⟨by omega, by omega⟩, (by unfold inR; omega), ⟨by omega, by omega⟩, (by unfold inR; omega), bf (by omega) (k 1 ⟨R1, n10, A, _, q_putTitle e hA, _, q_setFull (k := 0) hA (by omega), _, q_setFull (k := 1) hA (by omega), _, q_setFull (k := 2) hA (by omega), _, q_setFull (k := 3) hA (by omega), h⟩)⟩
/-- a copy more -/
def copied (s : ISt) (n t : Nat) : ISt := iset (iset (iset (iset (iset (iset s 0 1 ((n : Int) + 1)) 5 n t) 9 (4 * n) (s 4 (4 * t))) 9 (4 * n + 1) (s 4 (4 * t + 1))) 9 (4 * n + 2) (s 4 (4 * t + 2))) 9 (4 * n + 3) (s 4 (4 * t + 3))
theorem copied_9 (s : ISt) (n t : Nat) : copied s n t 9 = u4 (s 9) (4 * n) (s 4 (4 * t)) (s 4 (4 * t + 1)) (s 4 (4 * t + 2)) (s 4 (4 * t + 3)) := rfl
theorem copied_new (s : ISt) (n t k : Nat) (hk : k < 4) : copied s n t 9 (4 * n + k) = s 4 (4 * t + k) := by
  rw [copied_9]
  rcases u4_or (4 * n) (4 * n + k) (by omega) (s 4 (4 * t)) (s 4 (4 * t + 1)) (s 4 (4 * t + 2)) (s 4 (4 * t + 3)) with ⟨h, e⟩ | ⟨h, e⟩ | ⟨h, e⟩ | ⟨h, e⟩ | ⟨h, e⟩
  · omega
  · rw [e, show k = 0 by omega]; rfl
  · rw [e, show k = 1 by omega]
  · rw [e, show k = 2 by omega]
  · rw [e, show k = 3 by omega]
theorem copied_old (s : ISt) (n t i : Nat) (hi : i < 4 * n) : copied s n t 9 i = s 9 i := by
  rw [copied_9, u4_ne (by omega)]
theorem copied_i {s : ISt} {A n t : Nat} (si : ShelfI s A n) (hn : n < 16) (ht : t < A) : ShelfI (copied s n t) A (n + 1) := by
  obtain ⟨c1, c2, c3, c4, c5, c6, c7, c8, c9, c10, c11, c12⟩ := si
  have new := c7 n (by omega) hn
  have e5 : copied s n t 5 = iupd (s 5) n t := rfl
  refine ⟨c1, ⟨?_, by omega⟩, c3, c4, ?_, ?_, ?_, fun i h1 h2 => c8 i (by omega) h2, ?_, ?_, ?_, ?_⟩
  · show (n : Int) + 1 = ((n + 1 : Nat) : Int)
    omega
  · intro c hc
    rw [e5]
    show (0 ≤ iupd (s 5) n t c ∧ iupd (s 5) n t c < A) ∧ (-1 ≤ s 6 c ∧ s 6 c < 30) ∧ (-1 ≤ s 7 c ∧ s 7 c < (n + 1 : Nat))
    by_cases d : c = n
    · subst d
      rw [u_eq]
      omega
    · rw [u_ne d]
      have := c5 c (by omega)
      omega
  · intro c k hc hk
    rw [e5]
    show 0 ≤ copied s n t 9 (4 * c + k) ∧ 0 ≤ s 8 (4 * c + k) ∧ copied s n t 9 (4 * c + k) + s 8 (4 * c + k) ≤ s 4 (4 * (iupd (s 5) n t c).toNat + k)
    by_cases d : c = n
    · subst d
      rw [u_eq, copied_new _ _ _ _ hk, Int.toNat_natCast, c8 (4 * c + k) (by omega) (by omega)]
      have := c4 (4 * t + k) (by omega)
      omega
    · rw [u_ne d, copied_old _ _ _ _ (by omega)]
      exact c6 c k (by omega) hk
  · intro c h1 h2
    rw [e5, u_ne (by omega)]
    exact c7 c (by omega) h2
  · intro c d hc hd h1 h2
    have h1 : s 6 c = s 6 d := h1
    have h2 : s 6 c ≠ -1 := h2
    by_cases e : c = n
    · subst e
      omega
    · by_cases f : d = n
      · subst f
        omega
      · exact c9 c d (by omega) (by omega) h1 h2
  · intro c hc h
    have h : s 6 c ≠ -1 := h
    have d : c ≠ n := by
      intro e
      subst e
      omega
    have z := c10 c (by omega) h
    refine ⟨z.1, fun k hk => ?_⟩
    rw [e5, u_ne d, copied_old _ _ _ _ (by omega)]
    exact z.2 k hk
  · intro d hd h
    have h : s 7 d ≠ -1 := h
    have e : d ≠ n := by
      intro e
      subst e
      omega
    exact c11 d (by omega) h
  · intro d k hd hk h
    have h : s 7 d = -1 := h
    show s 8 (4 * d + k) = 0
    by_cases e : d = n
    · subst e
      exact c8 _ (by omega) (by omega)
    · exact c12 d k (by omega) hk h
theorem n_addCopy {hh hs hr : ISt} {A n t : Nat} (si : ShelfI hs A n) (hn : n < 16) (ht : t < A) {ok : Int → ISt → ISt → ISt → Prop} (h : ok n hh (copied hs n t) hr) : Qn_X4_addCopy hh hs hr t ok := by
  have e := si.1
  have e1 := si.2.1.1
  exact ⟨(by unfold inR; omega), (by unfold inR; omega), ⟨by omega, by omega⟩, (by unfold inR; omega), bf (by omega) ⟨n10, n, _, q_putCopy e1 hn (by omega), h⟩⟩
/-- a rule more -/
def ruled (r : ISt) (t N : Nat) (a2 a3 a4 a5 : Int) : ISt := iset (iset (iset (iset (iset r 2 (12 * t + N) a2) 3 (12 * t + N) a3) 4 (12 * t + N) a4) 5 (12 * t + N) a5) 1 t ((N : Int) + 1)
theorem ruled_i {r : ISt} {A t N : Nat} (bi : BooksI r A) (ht : t < A) (hA : A ≤ 8) (eN : r 1 t = N) (hN : N < 12) {a2 a3 a4 a5 : Int} (b2 : -1 ≤ a2 ∧ a2 < N) (b3 : 0 ≤ a3 ∧ a3 ≤ 3) (b4 : 1 ≤ a4 ∧ a4 ≤ 300) (b5 : 0 ≤ a5 ∧ a5 ≤ 99) : BooksI (ruled r t N a2 a3 a4 a5) A := by
  obtain ⟨c1, c2, c3⟩ := bi
  have e1 : ruled r t N a2 a3 a4 a5 1 = iupd (r 1) t ((N : Int) + 1) := rfl
  have e2 : ruled r t N a2 a3 a4 a5 2 = iupd (r 2) (12 * t + N) a2 := rfl
  have e3 : ruled r t N a2 a3 a4 a5 3 = iupd (r 3) (12 * t + N) a3 := rfl
  have e4 : ruled r t N a2 a3 a4 a5 4 = iupd (r 4) (12 * t + N) a4 := rfl
  have e5 : ruled r t N a2 a3 a4 a5 5 = iupd (r 5) (12 * t + N) a5 := rfl
  unfold BooksI
  rw [e1, e2, e3, e4, e5]
  refine ⟨?_, ?_, ?_⟩
  · intro u hu
    by_cases c : u = t
    · subst c
      rw [u_eq]
      omega
    · rw [u_ne c]
      exact c1 u hu
  · intro u h1 h2
    rw [u_ne (by omega)]
    exact c2 u h1 h2
  · intro u k hu hk
    by_cases c : 12 * u + k = 12 * t + N
    · by_cases d : u = t
      · subst d
        have : k = N := by omega
        subst this
        rw [u_eq, u_eq, u_eq, u_eq]
        exact ⟨b2, b3, b4, b5⟩
      · rw [u_ne d] at hk
        have := c1 u hu
        omega
    · rw [u_ne c, u_ne c, u_ne c, u_ne c]
      by_cases d : u = t
      · subst d
        rw [u_eq] at hk
        exact c3 u k hu (by omega)
      · rw [u_ne d] at hk
        exact c3 u k hu hk
theorem n_addRule {hh hs hr : ISt} {A n t N : Nat} (si : ShelfI hs A n) (bi : BooksI hr A) (ht : t < A) (eN : hr 1 t = N) (hN : N < 12) {a2 a3 a4 a5 : Int} (b2 : -1 ≤ a2 ∧ a2 < N) (b3 : 0 ≤ a3 ∧ a3 ≤ 3) (b4 : 1 ≤ a4 ∧ a4 ≤ 300) (b5 : 0 ≤ a5 ∧ a5 ≤ 99) {ok : Int → ISt → ISt → ISt → Prop} (h : ok N hh hs (ruled hr t N a2 a3 a4 a5)) : Qn_X4_addRule hh hs hr t a2 a3 a4 a5 ok := by
  have e := si.1
  have qr : Q_X1_rulesOf hr t (hr 1 t) := q_rulesOf (by omega)
  intro V28 V69 k28 k69
  have z : V28 := k28 ⟨(by unfold inR; omega), ⟨by omega, by omega⟩, (by unfold inR; omega), ⟨by omega, by omega⟩, (by unfold inR; omega), ⟨by omega, by omega⟩, _, qr, (by unfold inR; omega), bf (by omega) (k69 1 ⟨R1, n10, N, _, q_putRule (by omega) eN hN, h⟩)⟩
  exact ⟨(by unfold inR; omega), (by unfold inR; omega), ⟨by omega, by omega⟩, (by unfold inR; omega), fun _ => z, fun c => ⟨_, qr, (by unfold inR; omega), (by unfold inR; omega), ⟨by omega, by omega⟩, z⟩⟩
theorem dpt_more {r : ISt} {A t N : Nat} (bi : BooksI r A) (ht : t < 8) (eN : r 1 t = N) {a2 a3 a4 a5 : Int} (b2 : -1 ≤ a2 ∧ a2 < N) : dpt r t ≤ dpt (ruled r t N a2 a3 a4 a5) t ∧ dpt (ruled r t N a2 a3 a4 a5) t ≤ dpt r t + 1 ∧ (if a2 < 0 then (1 : Int) else 2) ≤ dpt (ruled r t N a2 a3 a4 a5) t := by
  have z := depth_more (f := r 2) (p := 12 * t) (N := N) (u := a2) (fun k hk => (bi.2.2 t k ht (by omega)).1) b2.1 b2.2
  have e : dpt (ruled r t N a2 a3 a4 a5) t = mxd (iupd (r 2) (12 * t + N) a2) (12 * t) (N + 1) 0 0 := by
    unfold dpt
    show mxd (iupd (r 2) (12 * t + N) a2) (12 * t) (iupd (r 1) t ((N : Int) + 1) t).toNat 0 0 = _
    rw [u_eq, show ((N : Int) + 1).toNat = N + 1 by omega]
  have e' : dpt r t = mxd (r 2) (12 * t) N 0 0 := by
    unfold dpt
    rw [eN, Int.toNat_natCast]
  rw [e, e']
  exact z
theorem dpt_b (r : ISt) (t : Nat) : 0 ≤ dpt r t ∧ dpt r t ≤ 12 := mxd_b _ _ _
/-- minutes pass -/
def later (h : ISt) (m : Int) : ISt := iset h 0 0 (h 0 0 + m)
theorem later_i {h : ISt} {T G : Nat} (hi : HallI h T G) {m : Int} (hm : 0 ≤ m) (hb : h 0 0 + m ≤ 20000) : HallI (later h m) T G := by
  obtain ⟨a1, a2, a3, a4, a5, a6, a7, a8, a9, a10, a11⟩ := hi
  refine ⟨?_, a2, a3, a4, a5, a6, a7, a8, a9, a10, a11⟩
  show 0 ≤ h 0 0 + m ∧ h 0 0 + m ≤ 20000
  omega
theorem n_pass {hh hs hr : ISt} {T G : Nat} (hi : HallI hh T G) {m : Int} (hm : 1 ≤ m ∧ m ≤ 500) (hb : hh 0 0 + m ≤ 20000) {ok : Int → ISt → ISt → ISt → Prop} (h : ok (hh 0 0 + m) (later hh m) hs hr) : Qn_X4_pass hh hs hr m ok := by
  have := hi.1
  intro V k
  exact ⟨(by unfold inR; omega), ⟨by omega, by omega⟩, (by unfold inR; omega), bf (by omega) (k 1 ⟨R1, n10, fa h⟩)⟩
/-- a group comes -/
theorem on_arrive {hh hs hr : ISt} {T G : Nat} (hi : HallI hh T G) (hG : G < 30) {p mi : Int} (hp : 1 ≤ p ∧ p ≤ 12) (hm : 10 ≤ mi ∧ mi ≤ 600) {post : Int → ISt → ISt → ISt → Prop} {h' : ISt} (q : Q_X0_welcome hh p mi G h') (h : post G h' hs hr) : Q_L_on hh hs hr 8 p mi 0 post := by
  have := hi.2.2.1
  exact on_8 ⟨(by unfold inR; omega), bt ⟨by omega, by omega⟩ ⟨(by unfold inR; omega), bt ⟨by omega, by omega⟩ ⟨(by unfold inR; omega), bf (by omega) ⟨fun _ => ⟨_, _, q, h⟩, fun d => absurd n10 d⟩⟩⟩⟩
/-- a group leaves, or can't -/
theorem on_leave {hh hs hr : ISt} {T G A n g : Nat} (hi : HallI hh T G) (si : ShelfI hs A n) (hg : g < G) {post : Int → ISt → ISt → ISt → Prop} {r : Int} {h' : ISt} (q : Q_X0_dismiss hh g r h') (h1 : held hs n g = -1 → hh 6 g ≠ 2 → post r h' hs hr) (h2 : held hs n g ≠ -1 ∨ hh 6 g = 2 → post (-13) hh hs hr) : Q_L_on hh hs hr 0 g 0 0 post := by
  have bG := hi.2.2.1
  have bn := si.2.1
  have hb : inR (held hs n g) := by
    rcases held_or si g with ⟨e, _⟩ | ⟨c, e, _⟩
    · rw [e]; exact (by unfold inR; omega)
    · rw [e]; exact (by unfold inR; omega)
  refine on_0 ⟨(by unfold inR; omega), (by unfold inR; omega), bt ⟨by omega, by omega⟩ ⟨_, q_held si (by omega), hb, fun c => ⟨fun d => absurd rfl d, fun _ => Or.inr ⟨rfl, h2 (Or.inl c)⟩⟩, fun c => ?_⟩⟩
  have z := q_isGone hi hg
  rcases b01_or (hh 6 g = 2) with ⟨d, e⟩ | ⟨d, e⟩
  · rw [e] at z
    exact ⟨1, z, R1, fun _ => ⟨fun d => absurd rfl d, fun _ => Or.inr ⟨rfl, h2 (Or.inr d)⟩⟩, fun d => absurd d n10⟩
  · rw [e] at z
    exact ⟨0, z, R0, fun d => absurd rfl d, fun _ => ⟨fun _ => ⟨r, h', q, h1 c d⟩, fun d => absurd n10 d⟩⟩
/-- a title is served, or can't be -/
theorem on_serve {hh hs hr : ISt} {T G A n g t : Nat} (hi : HallI hh T G) (si : ShelfI hs A n) {ln : Nat → Int} (hl : LnOk hs n ln) (hg : g < G) (ht : t < A) {post : Int → ISt → ISt → ISt → Prop} {s' : ISt} (h1 : Off hh hs n ln g t → Q_X3_handOut hs (bst (hs 5) ln t n) g s' ∧ post (bst (hs 5) ln t n) hh s' hr) (h2 : ¬ Off hh hs n ln g t → post (-13) hh hs hr) : Q_L_on hh hs hr 2 g t 0 post := by
  have bG := hi.2.2.1
  have bA := si.1
  have z := q_isOffered (hr := hr) hi si hl hg ht
  refine on_2 ⟨(by unfold inR; omega), (by unfold inR; omega), bt ⟨by omega, by omega⟩ ⟨(by unfold inR; omega), (by unfold inR; omega), bt ⟨by omega, by omega⟩ ⟨_, z, ?_, fun c => ?_, fun c => ?_⟩⟩⟩
  · rcases b01_or (Off hh hs n ln g t) with ⟨_, e⟩ | ⟨_, e⟩
    · unfold offF; rw [e]; exact R1
    · unfold offF; rw [e]; exact R0
  · have o := off_1.mp c
    exact ⟨_, q_best3 (copy_ok si) hl (by unfold inR; omega), s', (h1 o).1, (h1 o).2⟩
  · exact Or.inr ⟨rfl, h2 (fun o => c (off_1.mpr o))⟩
/-- a copy comes back, or can't -/
theorem on_back {hh hs hr : ISt} {T G A n g k : Nat} (hi : HallI hh T G) (si : ShelfI hs A n) (hg : g < G) (hk : k < 4) {l : Int} (hl : 0 ≤ l ∧ l ≤ 9) {post : Int → ISt → ISt → ISt → Prop} (h1 : ∀ c : Nat, held hs n g = c → c < n → l ≤ hs 9 (4 * c + k) → ∃ (r : Int) (s' : ISt), Q_X3_takeBack hs c k l r s' ∧ post r hh s' hr) (h2 : held hs n g = -1 → post (-13) hh hs hr) (h3 : ∀ c : Nat, held hs n g = c → c < n → hs 9 (4 * c + k) < l → post (-13) hh hs hr) : Q_L_on hh hs hr 3 g k l post := by
  have bG := hi.2.2.1
  have bn := si.2.1
  refine on_3 (fun V57 V58 k57 k58 => ⟨(by unfold inR; omega), (by unfold inR; omega), bt ⟨by omega, by omega⟩ ⟨(by unfold inR; omega), bt ⟨by omega, by omega⟩ ⟨(by unfold inR; omega), bt ⟨by omega, by omega⟩ ⟨_, q_held si (by omega), ?_⟩⟩⟩⟩)
  have no : ∀ x : Int, post (-13) hh hs hr → V57 x := fun x hp => k57 _ (k58 _ _ ⟨R0, fun d => absurd rfl d, fun _ => Or.inr ⟨rfl, hp⟩⟩)
  rcases held_or si g with ⟨e, _⟩ | ⟨c, e, hc, h6, _⟩
  · rw [e]
    exact ⟨(by unfold inR; omega), bt rfl (no _ (h2 e))⟩
  · have b9 := si.2.2.2.2.2.1 c k hc hk
    have b5 := si.2.2.2.2.1 c hc
    have b4 := si.2.2.2.1 (4 * (hs 5 c).toNat + k) (by omega)
    rw [e]
    refine ⟨(by unfold inR; omega), bf (by omega) ⟨_, q_count (by omega) hk, (by unfold inR; omega), (by unfold inR; omega), fun d => no _ (h3 c e hc d), fun d => k58 _ _ ⟨R1, fun _ => ?_, fun d => absurd n10 d⟩⟩⟩
    exact h1 c e hc (by omega)
/-- pieces are found, or don't fit -/
def foundS (s : ISt) (c k : Nat) (m : Int) : ISt := iset s 9 (4 * c + k) (s 9 (4 * c + k) + m)
theorem found_i {s : ISt} {A n c k : Nat} (si : ShelfI s A n) (hc : c < n) (hk : k < 4) (hw : whr s c = 0) {m : Int} (hm : 0 ≤ m) (hb : m ≤ lk s c k) : ShelfI (foundS s c k m) A n := by
  obtain ⟨c1, c2, c3, c4, c5, c6, c7, c8, c9, c10, c11, c12⟩ := si
  obtain ⟨w6, w7⟩ := whr_n hw
  have e9 : foundS s c k m 9 = iupd (s 9) (4 * c + k) (s 9 (4 * c + k) + m) := rfl
  refine ⟨c1, c2, c3, c4, c5, ?_, c7, c8, c9, ?_, c11, c12⟩
  · intro d j hd hj
    rw [e9]
    show 0 ≤ iupd (s 9) (4 * c + k) (s 9 (4 * c + k) + m) (4 * d + j) ∧ 0 ≤ s 8 (4 * d + j) ∧ iupd (s 9) (4 * c + k) (s 9 (4 * c + k) + m) (4 * d + j) + s 8 (4 * d + j) ≤ s 4 (4 * (s 5 d).toNat + j)
    have b := c6 d j hd hj
    by_cases e : 4 * d + j = 4 * c + k
    · have e1 : d = c := by omega
      have e2 : j = k := by omega
      subst e1
      subst e2
      rw [u_eq, c12 d j hd hj w7]
      unfold lk at hb
      omega
    · rw [u_ne e]
      exact b
  · intro d hd h
    have h : s 6 d ≠ -1 := h
    have z := c10 d hd h
    have ne : d ≠ c := by
      intro e
      subst e
      exact h w6
    refine ⟨z.1, fun j hj => ?_⟩
    rw [e9, u_ne (by omega)]
    exact z.2 j hj
theorem on_found {hh hs hr : ISt} {A n c k : Nat} (si : ShelfI hs A n) (hc : c < n) (hk : k < 4) {m : Int} (hm : 1 ≤ m ∧ m ≤ 9) {post : Int → ISt → ISt → ISt → Prop} (h1 : whr hs c = 0 → m ≤ lk hs c k → post (hs 9 (4 * c + k) + m) hh (foundS hs c k m) hr) (h2 : ¬ (whr hs c = 0 ∧ m ≤ lk hs c k) → post (-13) hh hs hr) : Q_L_on hh hs hr 4 c k m post := by
  have bn := si.2.1
  have wb := whr_b hs c
  have lb := lk_b si hc hk
  refine on_4 (fun V51 V52 k51 k52 => ⟨(by unfold inR; omega), (by unfold inR; omega), bt ⟨by omega, by omega⟩ ⟨(by unfold inR; omega), bt ⟨by omega, by omega⟩ ⟨(by unfold inR; omega), bt ⟨by omega, by omega⟩ ⟨_, q_place (copy_ok si) hc, (by unfold inR; omega), fun d => ?_, fun d => ?_⟩⟩⟩⟩)
  · exact k51 (k52 0 ⟨R0, fun d => absurd rfl d, fun _ => Or.inr ⟨rfl, h2 (fun z => d z.1)⟩⟩)
  · refine ⟨_, q_lk si hc hk, (by unfold inR; omega), (by unfold inR; omega), fun e => ?_, fun e => ?_⟩
    · exact k51 (k52 0 ⟨R0, fun d => absurd rfl d, fun _ => Or.inr ⟨rfl, h2 (fun z => by omega)⟩⟩)
    · refine k52 1 ⟨R1, fun _ => ⟨_, q_change (by omega) hk, hs 9 (4 * c + k) + m, ?_, h1 d (by omega)⟩, fun d => absurd n10 d⟩
      have z := q_count (h := foundS hs c k m) (C := c) (k := k) (by omega) hk
      have e9 : foundS hs c k m 9 (4 * c + k) = hs 9 (4 * c + k) + m := u_eq _ _ _
      rw [e9] at z
      exact z
