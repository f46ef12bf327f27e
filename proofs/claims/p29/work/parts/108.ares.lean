/-! THE LAW'S CHECKS: they hold -/
theorem n_tableOf {hh hs hr : ISt} {T G g : Nat} (hi : HallI hh T G) (hg : g < G) : Qn_X4_tableOf hh hs hr g (fnd (hh 2) g T 0) := by
  have := hi.2.2.1
  exact ⟨(by unfold inR; omega), (by unfold inR; omega), ⟨by omega, by omega⟩, _, q_tableOf hi (by omega), rfl⟩
theorem n_tablesOf {hh hs hr : ISt} {T G g : Nat} (hi : HallI hh T G) (hg : g < G) : Qn_X4_tablesOf hh hs hr g (cnt (hh 2) g T 0) := by
  have := hi.2.2.1
  exact ⟨(by unfold inR; omega), (by unfold inR; omega), ⟨by omega, by omega⟩, _, q_tablesOf hi (by omega), rfl⟩
theorem n_waiting {hh hs hr : ISt} {T G : Nat} (hi : HallI hh T G) : Q_X4_waiting hh hs hr (cnt (hh 6) 0 G 0) := ⟨_, q_waits hi, rfl⟩
theorem n_copyOf {hh hs hr : ISt} {T G A n g : Nat} (hi : HallI hh T G) (si : ShelfI hs A n) (hg : g < G) : Qn_X4_copyOf hh hs hr g (held hs n g) := by
  have := hi.2.2.1
  exact ⟨(by unfold inR; omega), (by unfold inR; omega), ⟨by omega, by omega⟩, _, q_held si (by omega), rfl⟩
theorem n_stateOf {hh hs hr : ISt} {A n c : Nat} (si : ShelfI hs A n) (hc : c < n) : Qn_X4_stateOf hh hs hr c (whr hs c) := by
  have := si.2.1
  exact ⟨(by unfold inR; omega), (by unfold inR; omega), ⟨by omega, by omega⟩, _, q_place (copy_ok si) hc, rfl⟩
theorem n_pieces {hh hs hr : ISt} {A n c k : Nat} (si : ShelfI hs A n) (hc : c < n) (hk : k < 4) : Qn_X4_pieces hh hs hr c k (hs 9 (4 * c + k)) := by
  have := si.2.1
  exact ⟨(by unfold inR; omega), (by unfold inR; omega), ⟨by omega, by omega⟩, (by unfold inR; omega), ⟨by omega, by omega⟩, _, q_count (by omega) hk, rfl⟩
theorem n_lenders {hh hs hr : ISt} {A n c : Nat} (si : ShelfI hs A n) {ln : Nat → Int} (hl : LnOk hs n ln) (hc : c < n) : Qn_X4_lenders hh hs hr c (ln c) := by
  have := si.2.1
  exact ⟨(by unfold inR; omega), (by unfold inR; omega), ⟨by omega, by omega⟩, _, (hl c hc).2.2.2.1, rfl⟩
theorem n_left {hh hs hr : ISt} {T G g : Nat} (hi : HallI hh T G) (hg : g < G) (h6 : hh 6 g = 1) : Qn_X4_left hh hs hr g (leftI hh g) := by
  have := hi.2.2.1
  exact ⟨(by unfold inR; omega), (by unfold inR; omega), ⟨by omega, by omega⟩, 1, by have z := q_isSeated hi hg; rw [b01_t h6] at z; exact z, R1, n10, _, q_minutesLeft hi (by omega), rfl⟩
theorem n_waste {hh hs hr : ISt} {T G : Nat} (hi : HallI hh T G) {p r : Int} (hp : 1 ≤ p ∧ p ≤ 12) (q : Wst hh T p r) : Qn_X4_waste hh hs hr p r :=
  ⟨(by unfold inR; omega), ⟨by omega, by omega⟩, _, q_leastWaste (hall_ok hi) hp q, rfl⟩
theorem on_left {hh hs hr : ISt} {T G g : Nat} (hi : HallI hh T G) (hg : g < G) {post : Int → ISt → ISt → ISt → Prop} (h : post (if hh 6 g = 1 then leftI hh g else -13) hh hs hr) : Q_L_on hh hs hr 1 g 0 0 post := by
  have := hi.2.2.1
  refine on_1 ⟨(by unfold inR; omega), (by unfold inR; omega), bt ⟨by omega, by omega⟩ ?_⟩
  by_cases c : hh 6 g = 1
  · rw [if_pos c] at h
    exact ⟨1, by have z := q_isSeated hi hg; rw [b01_t c] at z; exact z, R1, fun _ => ⟨_, q_minutesLeft hi (by omega), h⟩, fun d => absurd n10 d⟩
  · rw [if_neg c] at h
    exact ⟨0, by have z := q_isSeated hi hg; rw [b01_f c] at z; exact z, R0, fun d => absurd rfl d, fun _ => Or.inr ⟨rfl, h⟩⟩
theorem q_pieces {hh hs hr ha : ISt} {A n k : Nat} (si : ShelfI hs A n) (hk : k < 4) : Q_L_pieces hh hs hr ha n k (col (hs 9) k n) := by
  have b := si.2.1
  intro V k5
  have key : ∀ (j x : Nat), x + j = n → V (col (hs 9) k x) x := by
    intro j
    induction j with
    | zero =>
      intro x hx
      have hx : x = n := hx
      subst hx
      exact k5 _ _ ⟨(by unfold inR; omega), (by unfold inR; omega), bt (by omega) rfl⟩
    | succ j ih =>
      intro x hx
      exact k5 _ _ ⟨(by unfold inR; omega), (by unfold inR; omega), bf (by omega) ⟨_, n_pieces si (by omega) hk, ih (x + 1) (by omega)⟩⟩
  exact key n 0 (by omega)
/-- a set of numbers below sixteen -/
def Tk (m : Int) (P : Nat → Prop) : Prop := 0 ≤ m ∧ m < 65536 ∧ ∀ t : Nat, t < 16 → (m.toNat.testBit t = true ↔ P t)
theorem tk_0 {P : Nat → Prop} (h : ∀ t : Nat, t < 16 → ¬ P t) : Tk 0 P := ⟨by omega, by omega, fun t ht => ⟨fun e => (by rw [show ((0 : Int).toNat) = 0 from rfl, Nat.zero_testBit] at e; exact absurd e (by decide)), fun p => absurd p (h t ht)⟩⟩
theorem tk_or {m : Int} {P Q : Nat → Prop} {x : Nat} (h : Tk m P) (hx : x < 16) (hq : ∀ t : Nat, t < 16 → (Q t ↔ P t ∨ t = x)) : Tk (iior m (ishl1 x)) Q := by
  obtain ⟨h0, h1, h2⟩ := h
  have b := ior_b h0 h1 hx
  refine ⟨b.1, b.2, fun t ht => ?_⟩
  rw [tb_or, hq t ht, ← h2 t ht, Bool.or_eq_true, decide_eq_true_iff]
  constructor
  · intro h
    rcases h with h | h
    · exact Or.inl h
    · exact Or.inr h.symm
  · intro h
    rcases h with h | h
    · exact Or.inl h
    · exact Or.inr h.symm
theorem tk_c {m : Int} {P Q : Nat → Prop} (h : Tk m P) (hq : ∀ t : Nat, t < 16 → (Q t ↔ P t)) : Tk m Q := ⟨h.1, h.2.1, fun t ht => by rw [hq t ht]; exact h.2.2 t ht⟩
theorem tk_bit {m : Int} {P : Nat → Prop} (h : Tk m P) {t : Nat} (ht : t < 16) : (0 ≤ ishr m t ∧ ishr m t < 65536) ∧ ((P t ∧ ishr m t % 2 = 1) ∨ (¬ P t ∧ ishr m t % 2 = 0)) := by
  obtain ⟨h0, h1, h2⟩ := h
  obtain ⟨e, b1, b2⟩ := ishr_b h0 h1 t
  refine ⟨⟨b1, b2⟩, ?_⟩
  have z := bv_tb m.toNat t
  by_cases c : m.toNat.testBit t = true
  · rw [if_pos c] at z
    exact Or.inl ⟨(h2 t ht).mp c, by rw [e]; omega⟩
  · rw [if_neg c] at z
    exact Or.inr ⟨fun p => c ((h2 t ht).mpr p), by rw [e]; omega⟩
theorem offers_0 {hh hs : ISt} {A n g : Nat} {ln : Nat → Int} (h : hh 6 g ≠ 1 ∨ held hs n g ≠ -1) : nof (offF hh hs n ln g) A = 0 := by
  refine nof_0 A (fun t _ => ?_)
  by_cases c : offF hh hs n ln g t = 0
  · exact c
  · have o := off_1.mp c
    rcases h with h | h
    · exact absurd o.1 h
    · exact absurd o.2.1 h
theorem not_seated_held {hh hs : ISt} {A n g : Nat} (si : ShelfI hs A n) (sv : SitsI hh hs n) (h : hh 6 g ≠ 1) : held hs n g = -1 := by
  rcases held_or si g with ⟨e, _⟩ | ⟨c, _, h2, h3, _⟩
  · exact e
  · have z := sv c h2 (by omega)
    rw [h3, Int.toNat_natCast] at z
    exact absurd z h
theorem q_areTables {hh hs hr ha : ISt} {T G A n : Nat} (hi : HallI hh T G) (si : ShelfI hs A n) (sv : SitsI hh hs n) (ra : RowsH hh ha T G) {post : Int → ISt → ISt → ISt → Prop} (hp : post 1 hh hs hr) : Q_L_areTables hh hs hr ha G post := by
  obtain ⟨ln, hl⟩ := ln_ex si
  have bG := hi.2.2.1
  have bT := hi.2.1
  have bA := si.1
  have bn := si.2.1
  obtain ⟨r0, r1, r2⟩ := ra
  intro V12 V50 V79 V80 V124 V125 V143 V153 V177 V187 V204 V244 k12 k50 k79 k80 k124 k125 k143 k153 k177 k187 k204 k244
  have key : ∀ (j g : Nat), g + j = G → ∀ m : Int, Tk m (fun t => t < T ∧ 0 ≤ hh 2 t ∧ hh 2 t < g) → V12 g hh hs hr m (cnt (hh 6) 0 g 0) 1 g := by
    intro j
    induction j with
    | zero =>
      intro g hg m hm
      have hg : g = G := hg
      subst hg
      have cb := cnt_b (hh 6) 0 g 0
      refine k12 _ _ _ _ _ _ _ _ ⟨(by unfold inR; omega), (by unfold inR; omega), bt (by omega) (k244 _ _ _ _ _ _ ⟨R1, bf n10 ⟨by omega, _, n_waiting hi, (by unfold inR; omega), (by unfold inR; omega), nf rfl ⟨by omega, hp⟩⟩⟩)⟩
    | succ j ih =>
      intro g hg m hm
      have b7 := hi.2.2.2.2.2.2.1 g (by omega)
      have cb := cnt_b (hh 6) 0 g 0
      have cl := cnt_last (hh 6) 0 g
      have lb := left_b hi (by omega : g < 30)
      have a2 := r2 g (by omega)
      have e1 : ((g + 1 : Nat) : Int) = (g : Int) + 1 := by omega
      have i2 : ((g : Int)).toNat = g := Int.toNat_natCast g
      refine k12 _ _ _ _ _ _ _ _ ⟨(by unfold inR; omega), (by unfold inR; omega), bf (by omega) ⟨R1, bf n10 ⟨by omega, _, n_tableOf hi (by omega), by omega, _, n_tablesOf hi (by omega), ?_⟩⟩⟩
      by_cases c : hh 6 g = 1
      · obtain ⟨f, w, q1, q2, q3, q4, q5, q6⟩ := row_sits hi (by omega : g < G) c
        have sb := ssum_b (s := hh 1) (n := T) hi.2.2.2.2.1 f w q4
        rw [if_neg (by omega)] at cl
        rw [q1, q2]
        have after : ∀ m' : Int, Tk m' (fun t => t < T ∧ 0 ≤ hh 2 t ∧ hh 2 t < (g + 1 : Nat)) → V50 g hh hs hr m' (cnt (hh 6) 0 g 0) 1 g f w ((1 : Int) - w + ssum (hh 1) f w) ((f + w : Nat) : Int) := by
          intro m' hm'
          have z := ih (g + 1) (by omega) m' hm'
          rw [cl, e1] at z
          refine k50 _ _ _ _ _ _ _ _ _ _ _ _ ⟨(by unfold inR; omega), (by unfold inR; omega), bt (by omega) ⟨(by unfold inR; omega), bt (by omega) (k124 _ _ _ _ _ _ _ _ _ _ _ (k125 _ _ _ _ _ _ _ _ _ _ _ _ ⟨R1, bf n10 ⟨(by unfold inR; omega), bt (by omega) (k143 _ _ _ _ _ _ _ _ _ _ _ ⟨(by unfold inR; omega), nt (by omega) (k153 _ _ _ _ _ _ _ _ _ _ _ ⟨R0, R0, nf rfl ⟨(by unfold inR; omega), bf (by omega) ⟨⟨by omega, by omega⟩, ?_⟩⟩⟩)⟩)⟩⟩))⟩⟩
          rw [i2, r1 g (by omega), a2, if_neg (by omega)]
          refine ⟨(by unfold inR; omega), (by unfold inR; omega), bf (by omega) ⟨⟨by omega, by omega⟩, R0, nf rfl (k177 _ _ _ _ _ _ _ _ ⟨(by unfold inR; omega), bf (by omega) (k187 _ _ _ _ _ _ _ _ _ ⟨by omega, on_left hi (by omega) ?_⟩)⟩)⟩⟩
          rw [if_pos c]
          refine ⟨(by unfold inR; omega), bf (by omega) (k204 _ _ _ _ _ _ _ _ _ _ ⟨R1, R1, nf rfl ⟨(by unfold inR; omega), bt (by omega) z⟩⟩)⟩
        have inner : ∀ (i x : Nat), x + i = w → ∀ m' : Int, Tk m' (fun t => (t < T ∧ 0 ≤ hh 2 t ∧ hh 2 t < g) ∨ (f ≤ t ∧ t < f + x)) → V50 g hh hs hr m' (cnt (hh 6) 0 g 0) 1 g f w ((1 : Int) - w + ssum (hh 1) f x) ((f + x : Nat) : Int) := by
          intro i
          induction i with
          | zero =>
            intro x hx m' hm'
            have hx : x = w := hx
            subst hx
            refine after m' (tk_c hm' (fun t ht => ?_))
            constructor
            · intro ⟨h1, h2, h3⟩
              have := q5 t h1
              omega
            · intro h
              rcases h with ⟨h1, h2, h3⟩ | h
              · exact ⟨h1, h2, by omega⟩
              · have := (q5 t (by omega)).mpr h
                exact ⟨by omega, by omega, by omega⟩
          | succ i ih2 =>
            intro x hx m' hm'
            have sx := ssum_b (s := hh 1) (n := T) hi.2.2.2.2.1 f x (by omega)
            have tq := (q5 (f + x) (by omega)).mpr (by omega)
            obtain ⟨tb, tz⟩ := tk_bit hm' (by omega : f + x < 16)
            have hm2 := tk_or (Q := fun t => (t < T ∧ 0 ≤ hh 2 t ∧ hh 2 t < g) ∨ (f ≤ t ∧ t < f + (x + 1))) hm' (by omega : f + x < 16) (fun t ht => by omega)
            have z := ih2 (x + 1) (by omega) _ hm2
            have zb : ishr m' ((f + x : Nat) : Int) % 2 = 0 := by
              rcases tz with tz | tz
              · have := tz.1
                omega
              · exact tz.2
            have es : (1 : Int) - w + ssum (hh 1) f (x + 1) = ((1 : Int) - w + ssum (hh 1) f x) + hh 1 (f + x) := by
              show _ + (ssum (hh 1) f x + hh 1 (f + x)) = _
              omega
            have ex : ((f + (x + 1) : Nat) : Int) = ((f + x : Nat) : Int) + 1 := by omega
            rw [es, ex] at z
            refine k50 _ _ _ _ _ _ _ _ _ _ _ _ ⟨(by unfold inR; omega), (by unfold inR; omega), bf (by omega) ⟨R1, bf n10 ⟨⟨hm'.1, by have := hm'.2.1; omega⟩, ⟨by omega, by omega⟩, ⟨tb.1, by omega⟩, (by unfold inR; omega), nf zb (k80 _ _ _ _ _ _ _ _ _ _ _ _ ⟨⟨by omega, by omega⟩, hm'.1, ishl_p _, ⟨by omega, by omega⟩, ?_⟩)⟩⟩⟩
            rw [Int.toNat_natCast, r0 (f + x) (by omega)]
            exact z
        have z := inner w 0 (by omega) m (tk_c hm (fun t ht => by omega))
        have e0 : (1 : Int) - w + ssum (hh 1) f 0 = 1 - w := by
          show (1 : Int) - w + 0 = _
          omega
        rw [e0] at z
        exact z
      · obtain ⟨q1, q2⟩ := row_none hi (by omega : g < 30) c
        have hn := not_seated_held si sv c
        have o0 := offers_0 (A := A) (hs := hs) (n := n) (ln := ln) (Or.inl c)
        have qo := q_offers (hr := hr) hi si hl (by omega : g < G)
        rw [o0] at qo
        rw [q1, q2]
        have hm2 : Tk m (fun t => t < T ∧ 0 ≤ hh 2 t ∧ hh 2 t < (g + 1 : Nat)) := tk_c hm (fun t ht => by
          by_cases d : t < T
          · have := hi.2.2.2.2.2.2.2.2.2.1 g (by omega) c t (by omega)
            omega
          · omega)
        have z := ih (g + 1) (by omega) m hm2
        rw [e1] at z
        have fin : ∀ (u : Int), cnt (hh 6) 0 (g + 1) 0 = cnt (hh 6) 0 g 0 + u → inR u → V125 g hh hs hr m 1 g (-1) 0 ((1 : Int) - 0) u (cnt (hh 6) 0 g 0) := by
          intro u hu ru
          rw [hu] at z
          refine k125 _ _ _ _ _ _ _ _ _ _ _ _ ⟨R1, bf n10 ⟨(by unfold inR; omega), bf (by omega) (k143 _ _ _ _ _ _ _ _ _ _ _ ⟨R0, nf rfl (k153 _ _ _ _ _ _ _ _ _ _ _ ⟨R1, R1, nf rfl ⟨(by unfold inR; omega), bt (by omega) (k177 _ _ _ _ _ _ _ _ ⟨(by unfold inR; omega), bt (by omega) (k187 _ _ _ _ _ _ _ _ _ ⟨by omega, on_left hi (by omega) ?_⟩)⟩)⟩⟩)⟩)⟩⟩
          rw [if_neg c]
          refine ⟨(by unfold inR; omega), bt (by omega) (k204 _ _ _ _ _ _ _ _ _ _ ⟨R0, R0, nf rfl ⟨(by unfold inR; omega), bf (by omega) ⟨by omega, _, n_copyOf hi si (by omega), by rw [hn]; exact (by unfold inR; omega), nf hn ⟨by omega, _, qo, R0, nf rfl z⟩⟩⟩⟩)⟩
        refine k50 _ _ _ _ _ _ _ _ _ _ _ _ ⟨(by unfold inR; omega), (by unfold inR; omega), bt (by omega) ⟨(by unfold inR; omega), bf (by omega) ⟨⟨by omega, by omega⟩, ?_⟩⟩⟩
        rw [i2, a2]
        by_cases d : hh 6 g = 2
        · rw [if_pos d]
          refine ⟨R1, nt n10 (k124 _ _ _ _ _ _ _ _ _ _ _ (fin 0 ?_ R0))⟩
          rw [cl, if_neg (by omega)]
        · rw [if_neg d]
          refine ⟨R0, nf rfl (fin 1 ?_ R1)⟩
          rw [cl, if_pos (by omega)]
  exact key G 0 (by omega) 0 (tk_0 (fun t _ h => by omega))
theorem q_areCopies {hh hs hr ha : ISt} {T G A n : Nat} (hi : HallI hh T G) (si : ShelfI hs A n) (sv : SitsI hh hs n) (ra : RowsS hs ha A n) : Q_L_areCopies hh hs hr ha n G 1 := by
  obtain ⟨ln, hl⟩ := ln_ex si
  have bG := hi.2.2.1
  have bA := si.1
  have bn := si.2.1
  obtain ⟨r0, r1, r2⟩ := ra
  have inG : ∀ c : Nat, c < n → hs 6 c ≠ -1 → 0 ≤ hs 6 c ∧ hs 6 c < G := by
    intro c hc h
    have b := si.2.2.2.2.1 c hc
    have z := sv c hc h
    refine ⟨by omega, ?_⟩
    by_cases d : hs 6 c < G
    · exact d
    · have := hi.2.2.2.2.2.2.2.2.1 (hs 6 c).toNat (by omega) (by omega)
      omega
  intro V9 V55 V59 V60 V90 V123 V164 V165 V222 V238 V252 V263 V283 k9 k55 k59 k60 k90 k123 k164 k165 k222 k238 k252 k263 k283
  have second : ∀ m : Int, Tk m (fun t => t < n ∧ hs 6 t ≠ -1) → ∀ (j c : Nat), c + j = n → V90 m 1 c := by
    intro m hm j
    induction j with
    | zero =>
      intro c hc
      have hc : c = n := hc
      subst hc
      exact k90 _ _ _ ⟨(by unfold inR; omega), (by unfold inR; omega), bt (by omega) ⟨Or.inr rfl, rfl⟩⟩
    | succ j ih =>
      intro c hc
      have z := ih (c + 1) (by omega)
      have e1 : ((c + 1 : Nat) : Int) = (c : Int) + 1 := by omega
      rw [e1] at z
      have l := hl c (by omega)
      have wb := whr_b hs c
      have b5 := si.2.2.2.2.1 c (by omega)
      obtain ⟨B, eB⟩ := nat_of b5.1.1
      have a3 : ha 3 (c : Int).toNat = B := by rw [Int.toNat_natCast, r0 c (by omega), eB]
      obtain ⟨tb, tz⟩ := tk_bit hm (by omega : c < 16)
      have wf : (hs 6 c ≠ -1 ∧ whr hs c = 1) ∨ (hs 6 c = -1 ∧ whr hs c ≠ 1) := by
        unfold whr
        by_cases d : hs 6 c = -1
        · refine Or.inr ⟨d, ?_⟩
          rw [if_pos d]
          split <;> omega
        · exact Or.inl ⟨d, by rw [if_neg d]⟩
      have fin : V283 m c (ln c) := k283 _ _ _ ⟨(by unfold inR; omega), (by unfold inR; omega), bf (by omega) z⟩
      have kinds : ∀ (i x : Nat), x + i = 4 → V123 m 1 c (whr hs c) (ln c) (b01 (∀ k : Nat, k < x → hs 9 (4 * c + k) = hs 4 (4 * B + k))) x := by
        intro i
        induction i with
        | zero =>
          intro x hx
          have hx : x = 4 := hx
          subst hx
          have lk0 : (∀ k : Nat, k < 4 → lk hs c k = 0) ↔ (∀ k : Nat, k < 4 → hs 9 (4 * c + k) = hs 4 (4 * B + k)) := by
            unfold lk
            rw [eB, Int.toNat_natCast]
            constructor
            · intro h k hk
              have := h k hk
              omega
            · intro h k hk
              have := h k hk
              omega
          have v263 : V263 m c (whr hs c) (ln c) (b01 (∀ k : Nat, k < 4 → hs 9 (4 * c + k) = hs 4 (4 * B + k))) := by
            refine k263 _ _ _ _ _ ⟨(by unfold inR; omega), fun _ => fin, fun d => ⟨(by unfold inR; omega), fun e => ⟨?_, ?_⟩, fun e => ⟨?_, ?_⟩⟩⟩
            · rcases b01_or (∀ k : Nat, k < 4 → hs 9 (4 * c + k) = hs 4 (4 * B + k)) with ⟨_, e⟩ | ⟨_, e⟩
              · rw [e]; exact R1
              · rw [e]; exact R0
            · rw [b01_f (fun q => e ((l.2.2.2.2.2 d).mpr (lk0.mpr q)))]
              exact nf rfl fin
            · rcases b01_or (∀ k : Nat, k < 4 → hs 9 (4 * c + k) = hs 4 (4 * B + k)) with ⟨_, e⟩ | ⟨_, e⟩
              · rw [e]; exact R1
              · rw [e]; exact R0
            · rw [b01_t (lk0.mp ((l.2.2.2.2.2 d).mp e))]
              exact nf rfl fin
          have v252 : V252 m c (whr hs c) (ln c) (b01 (∀ k : Nat, k < 4 → hs 9 (4 * c + k) = hs 4 (4 * B + k))) := by
            refine k252 _ _ _ _ _ ⟨(by unfold inR; omega), fun _ => v263, fun d => ⟨(by unfold inR; omega), nf ?_ v263⟩⟩
            by_cases e : ln c = -1
            · exact e
            · exact absurd (l.2.2.1 e).1 d
          have s222 : ∀ t : Int, ((whr hs c = 1 ∧ t = 1) ∨ (whr hs c ≠ 1 ∧ t = 0)) → V222 m c (whr hs c) (ln c) (b01 (∀ k : Nat, k < 4 → hs 9 (4 * c + k) = hs 4 (4 * B + k))) t := by
            intro t ht
            have v238 : V238 m c (whr hs c) (ln c) (b01 (∀ k : Nat, k < 4 → hs 9 (4 * c + k) = hs 4 (4 * B + k))) t t := by
              refine k238 _ _ _ _ _ _ _ ⟨by rcases ht with h | h <;> rw [h.2] <;> exact (by unfold inR; omega), by rcases ht with h | h <;> rw [h.2] <;> exact (by unfold inR; omega), nf rfl ⟨(by unfold inR; omega), fun _ => v252, fun d => ?_⟩⟩
              rcases wf with w | w
              · have g := (si.2.2.2.2.2.2.2.2.2.1 c (by omega) w.1).2
                rw [eB, Int.toNat_natCast] at g
                have bt1 : b01 (∀ k : Nat, k < 4 → hs 9 (4 * c + k) = hs 4 (4 * B + k)) = 1 := b01_t g
                exact ⟨by rw [bt1]; exact R1, fun e => by rw [bt1] at e; omega, fun _ => v252⟩
              · exact absurd d w.2
            refine k222 _ _ _ _ _ _ ⟨⟨hm.1, by have := hm.2.1; omega⟩, ⟨by omega, by omega⟩, ⟨tb.1, by omega⟩, (by unfold inR; omega), fun d => ?_, fun d => ?_⟩
            · have e : t = 0 := by
                rcases tz with y | y
                · exact absurd y.2 d
                · rcases ht with h | h
                  · rcases wf with w | w
                    · exact absurd ⟨by omega, w.1⟩ y.1
                    · omega
                  · exact h.2
              rw [e] at v238 ⊢
              exact v238
            · have e : t = 1 := by
                rcases tz with y | y
                · rcases ht with h | h
                  · exact h.2
                  · rcases wf with w | w
                    · omega
                    · exact absurd w.1 y.1.2
                · omega
              rw [e] at v238 ⊢
              exact v238
          refine k123 _ _ _ _ _ _ _ ⟨(by unfold inR; omega), bt (by omega) ⟨R1, bf n10 ⟨(by unfold inR; omega), fun d => s222 0 (Or.inr ⟨d, rfl⟩), fun d => s222 1 (Or.inl ⟨d, rfl⟩)⟩⟩⟩
        | succ i ih2 =>
          intro x hx
          have y := ih2 (x + 1) (by omega)
          have e2 : ((x + 1 : Nat) : Int) = (x : Int) + 1 := by omega
          rw [e2] at y
          have b6 := si.2.2.2.2.2.1 c x (by omega) (by omega)
          have b4 := si.2.2.2.1 (4 * B + x) (by omega)
          rw [eB, Int.toNat_natCast] at b6
          have ix : ((4 : Int) * (B : Int) + x).toNat = 4 * B + x := by omega
          have a4 : ha 4 (4 * B + x) = hs 4 (4 * B + x) := r1 _ (by omega)
          have go : ∀ t : Int, t = b01 (∀ k : Nat, k < x + 1 → hs 9 (4 * c + k) = hs 4 (4 * B + k)) → V165 m 1 c (whr hs c) (ln c) x (hs 9 (4 * c + x)) t := by
            intro t ht
            subst ht
            refine k165 _ _ _ _ _ _ _ _ ⟨R1, bf n10 ⟨(by unfold inR; omega), bf (by omega) ⟨⟨by omega, by omega⟩, ?_⟩⟩⟩
            rw [a3, ix, a4]
            exact ⟨⟨by omega, by omega⟩, (by unfold inR; omega), (by unfold inR; omega), bf (by omega) y⟩
          refine k123 _ _ _ _ _ _ _ ⟨(by unfold inR; omega), bf (by omega) ⟨_, n_pieces si (by omega) (by omega), ?_, fun d => ?_, fun d => ⟨⟨by omega, by omega⟩, ?_⟩⟩⟩
          · rcases b01_or (∀ k : Nat, k < x → hs 9 (4 * c + k) = hs 4 (4 * B + k)) with ⟨_, e⟩ | ⟨_, e⟩
            · rw [e]; exact R1
            · rw [e]; exact R0
          · refine k164 _ _ _ _ _ _ _ (go 0 (b01_f (fun q => ?_)).symm)
            rw [b01_t (fun k hk => q k (by omega))] at d
            omega
          · have old : ∀ k : Nat, k < x → hs 9 (4 * c + k) = hs 4 (4 * B + k) := by
              rcases b01_or (∀ k : Nat, k < x → hs 9 (4 * c + k) = hs 4 (4 * B + k)) with ⟨q, _⟩ | ⟨_, e⟩
              · exact q
              · exact absurd e d
            rw [a3, ix, a4]
            refine ⟨⟨by omega, by omega⟩, (by unfold inR; omega), (by unfold inR; omega), fun e => k164 _ _ _ _ _ _ _ (go 0 (b01_f (fun q => e (q x (by omega)))).symm), fun e => go 1 (b01_t (fun k hk => ?_)).symm⟩
            by_cases f : k = x
            · rw [f]; exact e
            · exact old k (by omega)
      have z0 := kinds 4 0 rfl
      rw [b01_t (fun k hk => absurd hk (by omega))] at z0
      exact k90 _ _ _ ⟨(by unfold inR; omega), (by unfold inR; omega), bf (by omega) ⟨R1, bf n10 ⟨_, n_stateOf si (by omega), _, n_lenders si hl (by omega), z0⟩⟩⟩
  have first : ∀ (j g : Nat), g + j = G → ∀ m : Int, Tk m (fun t => t < n ∧ 0 ≤ hs 6 t ∧ hs 6 t < g) → V9 m 1 g := by
    intro j
    induction j with
    | zero =>
      intro g hg m hm
      have hg : g = G := hg
      subst hg
      refine k9 _ _ _ ⟨(by unfold inR; omega), (by unfold inR; omega), bt (by omega) (second m (tk_c hm (fun t ht => ?_)) n 0 (by omega))⟩
      constructor
      · intro ⟨h1, h2⟩
        exact ⟨h1, inG t h1 h2⟩
      · intro h
        exact ⟨h.1, by omega⟩
    | succ j ih =>
      intro g hg m hm
      have e1 : ((g + 1 : Nat) : Int) = (g : Int) + 1 := by omega
      refine k9 _ _ _ ⟨(by unfold inR; omega), (by unfold inR; omega), bf (by omega) ⟨R1, bf n10 ⟨_, n_copyOf hi si (by omega), ?_⟩⟩⟩
      rcases held_or si g with ⟨e, h2⟩ | ⟨c, e, hc, h6, _⟩
      · rw [e]
        have z := ih (g + 1) (by omega) m (tk_c hm (fun t ht => by
          by_cases d : t < n
          · have := h2 t d
            omega
          · omega))
        rw [e1] at z
        refine ⟨(by unfold inR; omega), bt rfl (k55 _ _ _ (k60 _ _ _ _ ⟨(by unfold inR; omega), nf rfl ⟨hm.1, by omega, ?_⟩⟩))⟩
        rw [ior_0 hm.1]
        exact z
      · rw [e]
        have b5 := si.2.2.2.2.1 c hc
        obtain ⟨tb, tz⟩ := tk_bit hm (by omega : c < 16)
        have zb : ishr m (c : Int) % 2 = 0 := by
          rcases tz with y | y
          · have := y.1
            omega
          · exact y.2
        have w1 : whr hs c = 1 := by
          unfold whr
          rw [if_neg (by omega)]
        have z := ih (g + 1) (by omega) _ (tk_or (Q := fun t => t < n ∧ 0 ≤ hs 6 t ∧ hs 6 t < (g + 1 : Nat)) hm (by omega : c < 16) (fun t ht => by
          constructor
          · intro ⟨h1, h2, h3⟩
            by_cases d : t = c
            · exact Or.inr d
            · refine Or.inl ⟨h1, h2, ?_⟩
              by_cases d2 : hs 6 t = g
              · exact absurd (si.2.2.2.2.2.2.2.2.1 t c h1 hc (by omega) (by omega)) d
              · omega
          · intro h
            rcases h with h | h
            · exact ⟨h.1, h.2.1, by omega⟩
            · subst h
              exact ⟨hc, by omega, by omega⟩))
        rw [e1] at z
        refine ⟨(by unfold inR; omega), bf (by omega) ⟨⟨hm.1, by have := hm.2.1; omega⟩, ⟨by omega, by omega⟩, ⟨tb.1, by omega⟩, (by unfold inR; omega), nf zb ⟨_, n_stateOf si hc, by rw [w1]; exact R1, nf w1 (k55 _ _ _ (k60 _ _ _ _ ⟨(by unfold inR; omega), nt (by omega) ⟨⟨by omega, by omega⟩, hm.1, ishl_p _, z⟩⟩))⟩⟩⟩
  exact first G 0 (by omega) 0 (tk_0 (fun t _ h => by omega))
theorem on_offerAt_no {hh hs hr : ISt} {T G A n : Nat} (hi : HallI hh T G) (si : ShelfI hs A n) {ln : Nat → Int} (hl : LnOk hs n ln) {g : Nat} (hg : g < G) {p : Int} (hp : p = -1 ∨ p = nof (offF hh hs n ln g) A) {post : Int → ISt → ISt → ISt → Prop} (h : post (-11) hh hs hr) : Q_L_on hh hs hr 7 g p 0 post := by
  have bG := hi.2.2.1
  have bA := si.1
  have nb := nof_b (offF hh hs n ln g) A
  have ob := oset_b (offF hh hs n ln g) A (by omega)
  refine on_7 ⟨(by unfold inR; omega), (by unfold inR; omega), bt ⟨by omega, by omega⟩ ⟨_, q_titles si.1.1 si.1.2 (off_ok hi si hl hg), _, ⟨ob.1, ob.2.1, rfl⟩, ?_⟩⟩
  rw [nof_bits _ (by omega)]
  exact ⟨(by unfold inR; omega), (by unfold inR; omega), bf (by omega) (Or.inl ⟨rfl, h⟩)⟩
theorem q_areOffers {hh hs hr ha : ISt} {T G A n g : Nat} (hi : HallI hh T G) (si : ShelfI hs A n) (ra : RowsS hs ha A n) (hg : g < G) {post : Int → ISt → ISt → ISt → Prop} (hp : post 1 hh hs hr) : Q_L_areOffers hh hs hr ha g (hh 3 g) n post := by
  obtain ⟨ln, hl⟩ := ln_ex si
  have bG := hi.2.2.1
  have bA := si.1
  have bn := si.2.1
  obtain ⟨r0, r1, r2⟩ := ra
  have b3 := (hi.2.2.2.2.2.2.1 g hg).1
  have lb := left_b hi (by omega : g < 30)
  obtain ⟨N, eN⟩ : ∃ N : Int, N = nof (offF hh hs n ln g) A := ⟨_, rfl⟩
  have nb := nof_b (offF hh hs n ln g) A
  have qo := q_offers (hr := hr) hi si hl hg
  rw [← eN] at nb qo
  intro V54 V91 V193 V197 k54 k91 k193 k197
  have key : ∀ (j p : Nat), (p : Int) + j = N → ∀ (be la : Int), ((p = 0 ∧ be = 999 ∧ la = -1) ∨ ∃ t' : Nat, t' < A ∧ Off hh hs n ln g t' ∧ ahd (offF hh hs n ln g) (hs 3) t' A = (p : Int) - 1 ∧ be = hs 3 t' ∧ la = t') → V54 2 hh hs hr N be la 1 p := by
    intro j
    induction j with
    | zero =>
      intro p h be la _
      exact k54 _ _ _ _ _ _ _ _ _ ⟨(by unfold inR; omega), (by unfold inR; omega), bt (by omega) ⟨by omega, Or.inr rfl, hp⟩⟩
    | succ j ih =>
      intro p h be la hb
      obtain ⟨t, t1, t2, t3, t4⟩ := offerAt_ex (hr := hr) hi si hl hg (p := p) (by omega)
      have st := si.2.2.1 t t2
      obtain ⟨a0, a1, a2⟩ := r2 t t2
      have i0 : ((3 : Int) * (t : Int)).toNat = 3 * t := by omega
      have i1 : ((3 : Int) * (t : Int) + 1).toNat = 3 * t + 1 := by omega
      have i2 : ((3 : Int) * (t : Int) + 2).toNat = 3 * t + 2 := by omega
      have e1 : ((p + 1 : Nat) : Int) = (p : Int) + 1 := by omega
      have z := ih (p + 1) (by omega) (hs 3 t) t (Or.inr ⟨t, t2, t3, by omega, rfl, rfl⟩)
      rw [e1] at z
      have ok : hs 3 t < be ∨ (hs 3 t = be ∧ la < (t : Int)) := by
        rcases hb with ⟨_, b1, _⟩ | ⟨t', u1, u2, u3, u4, u5⟩
        · left; omega
        · have o := off_order (off := offF hh hs n ln g) (mi := hs 3) (off_1.mpr u2) (off_1.mpr t3) t2 (by omega)
          unfold bef at o
          omega
      have bbe : inR be ∧ inR la := by
        rcases hb with ⟨_, b1, b2⟩ | ⟨t', u1, u2, u3, u4, u5⟩
        · exact ⟨(by unfold inR; omega), (by unfold inR; omega)⟩
        · have := si.2.2.1 t' u1
          exact ⟨(by unfold inR; omega), (by unfold inR; omega)⟩
      clear hb
      have someone : ∃ c : Nat, c < n ∧ hs 5 c = t ∧ 0 ≤ ln c := by
        have bb := bst_b (hs 5) ln t n
        rcases bb with bb | bb
        · exact absurd bb t3.2.2.2
        · have := (hl (bst (hs 5) ln t n).toNat (by omega)).1
          exact ⟨(bst (hs 5) ln t n).toNat, by omega, bb.2.2.1, by omega⟩
      have inner : ∀ (i c : Nat), c + i = n → V91 2 hh hs hr N be la p t (hs 3 t) (b01 (∃ d : Nat, d < c ∧ hs 5 d = t ∧ 0 ≤ ln d)) c := by
        intro i
        induction i with
        | zero =>
          intro c hc
          have hc : c = n := hc
          subst hc
          rw [b01_t someone]
          clear someone
          refine k91 _ _ _ _ _ _ _ _ _ _ _ _ ⟨(by unfold inR; omega), (by unfold inR; omega), bt (by omega) ⟨R1, bf n10 ⟨⟨by omega, by omega⟩, ?_⟩⟩⟩
          rw [i0, i1, a0, a1]
          obtain ⟨o1, o2, o3, o4⟩ := t3
          have v193 : V193 2 hh hs hr N p t (hs 3 t) := k193 _ _ _ _ _ _ _ _ z
          refine ⟨(by unfold inR; omega), (by unfold inR; omega), bf (by omega) ⟨⟨by omega, by omega⟩, (by unfold inR; omega), (by unfold inR; omega), bf (by omega) ⟨by omega, _, n_left hi hg o1, (by unfold inR; omega), (by unfold inR; omega), bf (by omega) ⟨(by unfold inR; omega), bbe.1, fun _ => v193, fun d => ⟨(by unfold inR; omega), bbe.1, nf (by omega) ⟨(by unfold inR; omega), bbe.2, bf (by omega) v193⟩⟩⟩⟩⟩⟩
        | succ i ih2 =>
          intro c hc
          have y := ih2 (c + 1) (by omega)
          have e2 : ((c + 1 : Nat) : Int) = (c : Int) + 1 := by omega
          rw [e2] at y
          have l := hl c (by omega)
          have b5 := si.2.2.2.2.1 c (by omega)
          have a3 : ha 3 (c : Int).toNat = hs 5 c := by rw [Int.toNat_natCast, r0 c (by omega)]
          refine k91 _ _ _ _ _ _ _ _ _ _ _ _ ⟨(by unfold inR; omega), (by unfold inR; omega), bf (by omega) ⟨?_, fun d => ?_, fun d => ⟨⟨by omega, by omega⟩, ?_⟩⟩⟩
          · rcases b01_or (∃ d : Nat, d < c ∧ hs 5 d = t ∧ 0 ≤ ln d) with ⟨_, e⟩ | ⟨_, e⟩
            · rw [e]; exact R1
            · rw [e]; exact R0
          · rcases b01_or (∃ d : Nat, d < c ∧ hs 5 d = t ∧ 0 ≤ ln d) with ⟨⟨u, u1, u2⟩, _⟩ | ⟨_, e⟩
            · rw [b01_t ⟨u, by omega, u2⟩] at y
              exact y
            · exact absurd e d
          · have none : ¬ ∃ d : Nat, d < c ∧ hs 5 d = t ∧ 0 ≤ ln d := by
              intro q
              rw [b01_t q] at d
              omega
            have no : (¬ (hs 5 c = t ∧ 0 ≤ ln c)) → V91 2 hh hs hr N be la p t (hs 3 t) 0 ((c : Int) + 1) := by
              intro q
              rw [b01_f (fun ⟨u, u1, u2⟩ => by
                by_cases w : u = c
                · subst w; exact q u2
                · exact none ⟨u, by omega, u2⟩)] at y
              exact y
            rw [a3]
            refine ⟨(by unfold inR; omega), (by unfold inR; omega), fun e => no (fun q => e q.1), fun e => ⟨by omega, _, n_lenders si hl (by omega), (by unfold inR; omega), fun f => no (fun q => by omega), fun f => ?_⟩⟩
            rw [b01_t ⟨c, by omega, e, by omega⟩] at y
            exact y
      have z0 := inner n 0 (by omega)
      rw [b01_f (fun ⟨u, u1, _⟩ => by omega)] at z0
      refine k54 _ _ _ _ _ _ _ _ _ ⟨(by unfold inR; omega), (by unfold inR; omega), bf (by omega) ⟨R1, bf n10 ⟨by omega, _, t1, ⟨by omega, by omega⟩, ?_⟩⟩⟩
      rw [i2, a2]
      exact z0
  have start : V54 2 hh hs hr N 999 (-1) 1 0 := key N.toNat 0 (by omega) 999 (-1) (Or.inl ⟨rfl, rfl, rfl⟩)
  refine ⟨by omega, _, qo, by omega, on_offerAt_no hi si hl hg (Or.inr eN) ⟨(by unfold inR; omega), nf rfl ⟨by omega, on_offerAt_no hi si hl hg (Or.inl rfl) ⟨(by unfold inR; omega), nf rfl start⟩⟩⟩⟩
