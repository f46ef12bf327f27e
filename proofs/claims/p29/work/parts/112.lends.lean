/-! THE LAW'S DEEDS: titles are served, copies come back, pieces are found -/
set_option maxHeartbeats 4000000 in
theorem br_serve {V1290 : Nat → ISt → ISt → ISt → ISt → Int → Int → Int → Int → Int → Int → Int → Int → Int → Int → Int → Int → Int → Prop} {V1489 : Nat → ISt → ISt → ISt → ISt → Int → Int → Int → Int → Int → Int → Int → Int → Int → Int → Int → Int → Prop} {V1358 : Nat → ISt → ISt → ISt → ISt → Int → Int → Int → Int → Int → Int → Int → Int → Int → Int → Int → Int → Int → Int → Prop} {V1461 : Nat → ISt → ISt → ISt → ISt → Int → Int → Int → Int → Int → Int → Int → Int → Int → Int → Prop} {V1770 : Nat → ISt → ISt → ISt → ISt → Int → Int → Int → Int → Int → Int → Int → Int → Prop} (k1290 : ∀ (k : Nat) (hh hs hr ha : ISt) (x9 x10 x11 x12 x13 x14 x15 x17 x18 x19 x20 x21 x22 : Int), (inR x18 ∧ (((12 : Int) ≤ x18 → (V1489 k hh hs hr ha x9 x10 x11 x12 x13 x14 x15 x17 x18 x19 x21 x22)) ∧ (¬ (12 : Int) ≤ x18 → (inR x10 ∧ ((x10 ≤ (0 : Int) → (V1489 k hh hs hr ha x9 x10 x11 x12 x13 x14 x15 x17 x18 x19 x21 x22)) ∧ (¬ x10 ≤ (0 : Int) → (inR x11 ∧ ((x11 ≤ (0 : Int) → (V1489 k hh hs hr ha x9 x10 x11 x12 x13 x14 x15 x17 x18 x19 x21 x22)) ∧ (¬ x11 ≤ (0 : Int) → (k ≤ 10000 ∧ ∃ r119 : Int, Q_L_pieces hh hs hr ha x12 x22 r119 ∧ (k + 1 ≤ 10000 ∧ Q_L_on hh hs hr (2 : Int) x19 x20 (0 : Int) (fun (r120 : Int) (hh121 hs122 hr123 : ISt) => inR r120 ∧ ((¬ r120 = (-13 : Int) → ((0 ≤ r120 ∧ r120 < 16) ∧ (inR (ha 3 r120.toNat) ∧ inR x20 ∧ ((¬ (ha 3 r120.toNat) = x20 → (V1461 (k + 1) hh121 hs122 hr123 ha x9 x10 x11 x12 (0 : Int) x14 x15 x17 x22 r119)) ∧ ((ha 3 r120.toNat) = x20 → (k + 1 ≤ 10000 ∧ ∃ r124 : Int, Qn_X4_copyOf hh121 hs122 hr123 x19 r124 ∧ (inR r124 ∧ inR r120 ∧ ((¬ r124 = r120 → (V1461 (k + 1) hh121 hs122 hr123 ha x9 x10 x11 x12 (0 : Int) x14 x15 x17 x22 r119)) ∧ (r124 = r120 → (k + 1 ≤ 10000 ∧ ∃ r125 : Int, Qn_X4_stateOf hh121 hs122 hr123 r120 r125 ∧ (inR r125 ∧ ((¬ r125 = (1 : Int) → (V1461 (k + 1) hh121 hs122 hr123 ha x9 x10 x11 x12 (0 : Int) x14 x15 x17 x22 r119)) ∧ (r125 = (1 : Int) → (k + 1 ≤ 10000 ∧ ∃ r126 : Int, Qn_X4_offers hh121 hs122 hr123 x19 r126 ∧ (inR r126 ∧ ((¬ r126 = (0 : Int) → (V1461 (k + 1) hh121 hs122 hr123 ha x9 x10 x11 x12 (0 : Int) x14 x15 x17 x22 r119)) ∧ (r126 = (0 : Int) → (k + 1 + 1 ≤ 10000 ∧ Q_L_on hh121 hs122 hr123 (2 : Int) x19 x20 (0 : Int) (fun (r127 : Int) (hh128 hs129 hr130 : ISt) => inR r127 ∧ ((¬ r127 = (-13 : Int) → (V1461 (k + 1 + 1) hh128 hs129 hr130 ha x9 x10 x11 x12 (0 : Int) x14 x15 x17 x22 r119)) ∧ (r127 = (-13 : Int) → (V1461 (k + 1 + 1) hh128 hs129 hr130 ha x9 x10 x11 x12 (1 : Int) x14 x15 x17 x22 r119)))))))))))))))))))))) ∧ (r120 = (-13 : Int) → ((0 ≤ x15 ∧ x15 ≤ 2147483647) ∧ (0 < (4 : Int) ∧ (4 : Int) ≤ 2147483647) ∧ (∀ z131 : Int, 0 ≤ z131 → z131 < (4 : Int) → z131 ≤ x15 → (inR z131 ∧ ((¬ z131 = (0 : Int) → (V1358 (k + 1) hh121 hs122 hr123 ha x9 x10 x11 x12 x13 x14 x15 x17 x19 x20 x22 r119 (0 : Int) (0 : Int))) ∧ (z131 = (0 : Int) → (k + 1 ≤ 10000 ∧ ∃ r132 : Int, Qn_X4_offers hh121 hs122 hr123 x19 r132 ∧ (V1358 (k + 1) hh121 hs122 hr123 ha x9 x10 x11 x12 x13 x14 x15 x17 x19 x20 x22 r119 r132 (0 : Int)))))))))))))))))))))) → V1290 k hh hs hr ha x9 x10 x11 x12 x13 x14 x15 x17 x18 x19 x20 x21 x22) (k1358 : ∀ (k : Nat) (hh hs hr ha : ISt) (x9 x10 x11 x12 x13 x14 x15 x17 x19 x20 x22 x23 x25 x26 : Int), (inR x26 ∧ inR x25 ∧ ((x25 ≤ x26 → (V1461 k hh hs hr ha x9 x10 x11 x12 x13 x14 x15 x17 x22 x23)) ∧ (¬ x25 ≤ x26 → (inR x13 ∧ ((x13 = (0 : Int) → (V1358 k hh hs hr ha x9 x10 x11 x12 (0 : Int) x14 x15 x17 x19 x20 x22 x23 x25 (x26 + (1 : Int)))) ∧ (¬ x13 = (0 : Int) → (k ≤ 10000 ∧ ∃ r141 : Int, Qn_X4_offerAt hh hs hr x19 x26 r141 ∧ (inR r141 ∧ inR x20 ∧ ((r141 = x20 → (V1358 k hh hs hr ha x9 x10 x11 x12 (0 : Int) x14 x15 x17 x19 x20 x22 x23 x25 (x26 + (1 : Int)))) ∧ (¬ r141 = x20 → (V1358 k hh hs hr ha x9 x10 x11 x12 (1 : Int) x14 x15 x17 x19 x20 x22 x23 x25 (x26 + (1 : Int))))))))))))) → V1358 k hh hs hr ha x9 x10 x11 x12 x13 x14 x15 x17 x19 x20 x22 x23 x25 x26) (k1461 : ∀ (k : Nat) (hh hs hr ha : ISt) (x9 x10 x11 x12 x13 x14 x15 x17 x22 x23 : Int), (inR x13 ∧ ((x13 = (0 : Int) → (V1770 k hh hs hr ha x9 x10 x11 x12 (0 : Int) x14 x15 x17)) ∧ (¬ x13 = (0 : Int) → (k ≤ 10000 ∧ ∃ r140 : Int, Q_L_pieces hh hs hr ha x12 x22 r140 ∧ (inR r140 ∧ inR x23 ∧ ((¬ r140 = x23 → (V1770 k hh hs hr ha x9 x10 x11 x12 (0 : Int) x14 x15 x17)) ∧ (r140 = x23 → (V1770 k hh hs hr ha x9 x10 x11 x12 (1 : Int) x14 x15 x17)))))))) → V1461 k hh hs hr ha x9 x10 x11 x12 x13 x14 x15 x17 x22 x23) {k0 u : Nat} {x14 y : Int} (hE : EndV V1770 k0 x14 y u) (hk0 : k0 ≤ 9000) (hu : u ≤ 209) {k : Nat} {hh hs hr ha : ISt} {T A n G : Nat} (L : LawI hh hs hr ha T A n G) (hk : k ≤ k0) (E : Early u hh T A n) (u4 : 4 ≤ u) {d g t c z : Int} (hd : Deed u d) (hg : Pick g G) (ht : Pick t A) (hz : 0 ≤ z ∧ z < 4)
    (h1489 : V1489 k hh hs hr ha T G A n 1 x14 u y d g c z) : V1290 k hh hs hr ha T G A n 1 x14 u y d g t c z := by
  obtain ⟨li, ls, lt, lb, lh, lss, lr⟩ := L
  have bG := li.2.2.1
  have bA := ls.1
  have bn := ls.2.1
  have bd : 0 ≤ d ∧ d ≤ 15 := ⟨hd.1, hd.2.1⟩
  obtain ⟨K, eK⟩ := nat_of hz.1
  subst eK
  have hK : K < 4 := by omega
  have cbd : ∀ s : ISt, ShelfI s A n → 0 ≤ col (s 9) K n ∧ col (s 9) K n ≤ 9 * n := by
    intro s si
    have q : ∀ x : Nat, x ≤ n → 0 ≤ col (s 9) K x ∧ col (s 9) K x ≤ 9 * x := by
      intro x
      induction x with
      | zero => intro _; exact ⟨by show (0 : Int) ≤ 0; omega, by show (0 : Int) ≤ _; omega⟩
      | succ x ih =>
        intro hx
        have i := ih (by omega)
        have b := si.2.2.2.2.2.1 x K (by omega) hK
        have b5 := si.2.2.2.2.1 x (by omega)
        have b4 := si.2.2.2.1 (4 * (s 5 x).toNat + K) (by have := si.1; omega)
        show 0 ≤ col (s 9) K x + s 9 (4 * x + K) ∧ col (s 9) K x + s 9 (4 * x + K) ≤ _
        omega
    exact q n (Nat.le_refl _)
  refine k1290 _ _ _ _ _ _ _ _ _ _ _ _ _ _ _ _ _ _ ⟨(by unfold inR; omega), fun _ => h1489, fun _ => ⟨(by unfold inR; omega), fun _ => h1489, fun cG => ⟨(by unfold inR; omega), fun _ => h1489, fun cA => ⟨by omega, _, q_pieces ls hK, by omega, ?_⟩⟩⟩⟩
  obtain ⟨g', eg⟩ := nat_of hg.1
  subst eg
  have gG : g' < G := by
    have := hg.2
    omega
  obtain ⟨t', et⟩ := nat_of ht.1
  subst et
  have tA : t' < A := by
    have := ht.2
    omega
  obtain ⟨ln, hl⟩ := ln_ex ls
  have c0 := cbd hs ls
  -- how it ends
  have fin : ∀ (k' : Nat) (s' : ISt), k' ≤ k + 2 → ShelfI s' A n → SitsI hh s' n → RowsS s' ha A n → col (s' 9) K n = col (hs 9) K n → V1461 k' hh s' hr ha T G A n 1 x14 u y K (col (hs 9) K n) := by
    intro k' s' hk' si sv rs e
    refine k1461 _ _ _ _ _ _ _ _ _ _ _ _ _ _ _ ⟨R1, bf n10 ⟨by omega, _, q_pieces si hK, ?_, (by unfold inR; omega), nf e (hE k' hh s' hr ha T A n G ⟨li, si, sv, lb, lh, rs, lr⟩ (by omega) (E.more (by omega) (by omega) (by omega) (fun h => by omega) (by omega)))⟩⟩
    rw [e]
    exact (by unfold inR; omega)
  by_cases o : Off hh hs n ln g' t'
  · obtain ⟨o1, o2, o3, o4⟩ := id o
    have bb := bst_b (hs 5) ln t' n
    have bb := bb.resolve_left o4
    obtain ⟨C, eC⟩ := nat_of bb.1
    have bb2 := bb.2
    rw [eC, Int.toNat_natCast] at bb2
    have hC : C < n := by omega
    have lc := (hl C hC).2.2.1 bb2.2.2
    have free : ∀ c : Nat, c < n → hs 6 c ≠ g' := by
      rcases held_or ls g' with ⟨_, h2⟩ | ⟨c, e, _⟩
      · exact h2
      · omega
    obtain ⟨s', p1, p2, ⟨p30, p31, p32, p33, p34, p35⟩, p4, p5⟩ := hand_ex (g := g') ls hC lc.1 lc.2 (by omega) free
    have s6 : s' 6 C = g' := by rw [p4, u_eq]
    have hd' : held s' n g' = C := held_eq p2 hC s6
    have w1 : whr s' C = 1 := by
      unfold whr
      rw [if_neg (by omega)]
    obtain ⟨ln', hl'⟩ := ln_ex p2
    have qo := q_offers (hr := hr) li p2 hl' gG
    rw [offers_0 (Or.inr (by omega))] at qo
    have nc := n_copyOf (hr := hr) li p2 gG
    rw [hd'] at nc
    have ns := n_stateOf (hh := hh) (hr := hr) p2 hC
    rw [w1] at ns
    have sv' : SitsI hh s' n := by
      intro x hx h
      rw [p4] at h ⊢
      by_cases e : x = C
      · rw [e, u_eq, Int.toNat_natCast]
        exact o1
      · rw [u_ne e] at h ⊢
        exact lt x hx h
    refine on_serve (s' := s') li ls hl gG tA (fun _ => ⟨by rw [eC]; exact p1, ?_⟩) (fun h => absurd o h)
    rw [eC]
    refine ⟨(by unfold inR; omega), nt (by omega) ⟨⟨by omega, by omega⟩, ?_⟩⟩
    rw [Int.toNat_natCast, lss.1 C hC]
    have b5 := ls.2.2.2.2.1 C hC
    refine ⟨(by unfold inR; omega), (by unfold inR; omega), nf bb2.2.1 ⟨by omega, _, nc, (by unfold inR; omega), (by unfold inR; omega), nf rfl ⟨by omega, _, ns, R1, nf rfl ⟨by omega, _, qo, R0, nf rfl ⟨by omega, ?_⟩⟩⟩⟩⟩
    refine on_serve (s' := s') li p2 hl' gG tA (fun h => absurd h.2.1 (by omega)) (fun _ => ⟨(by unfold inR; omega), nf rfl (fin (k + 1 + 1) s' (by omega) p2 sv' (rowsS_c lss rfl rfl rfl p31 p32 p33 p34 p35) (p5 K hK))⟩)
  · refine on_serve (s' := hs) li ls hl gG tA (fun h => absurd h o) (fun _ => ⟨(by unfold inR; omega), nf rfl ⟨⟨by omega, by omega⟩, ⟨by omega, by omega⟩, ?_⟩⟩)
    have nb := nof_b (offF hh hs n ln g') A
    obtain ⟨M, eM⟩ := nat_of nb.1
    have loop : ∀ (N : Nat), N ≤ M → ∀ (j p : Nat), p + j = N → V1358 (k + 1) hh hs hr ha T G A n 1 x14 u y g' t' K (col (hs 9) K n) N p := by
      intro N hN j
      induction j with
      | zero =>
        intro p hp
        have hp : p = N := hp
        subst hp
        exact k1358 _ _ _ _ _ _ _ _ _ _ _ _ _ _ _ _ _ _ _ ⟨(by unfold inR; omega), (by unfold inR; omega), bt (by omega) (fin (k + 1) hs (by omega) ls lt lss rfl)⟩
      | succ j ih =>
        intro p hp
        have zz := ih (p + 1) (by omega)
        rw [show ((p + 1 : Nat) : Int) = (p : Int) + 1 by omega] at zz
        obtain ⟨t1, q1, q2, q3, q4⟩ := offerAt_ex (hr := hr) li ls hl gG (p := p) (by omega)
        have ne : (t1 : Int) ≠ (t' : Int) := by
          intro e
          have e : t1 = t' := by omega
          rw [e] at q3
          exact o q3
        exact k1358 _ _ _ _ _ _ _ _ _ _ _ _ _ _ _ _ _ _ _ ⟨(by unfold inR; omega), (by unfold inR; omega), bf (by omega) ⟨R1, bf n10 ⟨by omega, _, q1, (by unfold inR; omega), (by unfold inR; omega), bf ne zz⟩⟩⟩
    intro z131 a131 b131 c131
    have qo := q_offers (hr := hr) li ls hl gG
    rw [eM] at qo
    refine ⟨(by unfold inR; omega), fun _ => ?_, fun _ => ⟨by omega, _, qo, ?_⟩⟩
    · exact loop 0 (by omega) 0 0 rfl
    · exact loop M (Nat.le_refl _) M 0 (by omega)
set_option maxHeartbeats 4000000 in
theorem br_back {V1489 : Nat → ISt → ISt → ISt → ISt → Int → Int → Int → Int → Int → Int → Int → Int → Int → Int → Int → Int → Prop} {V1672 : Nat → ISt → ISt → ISt → ISt → Int → Int → Int → Int → Int → Int → Int → Int → Int → Int → Int → Prop} {V1522 : Nat → ISt → ISt → ISt → ISt → Int → Int → Int → Int → Int → Int → Int → Int → Int → Int → Prop} {V1559 : Nat → ISt → ISt → ISt → ISt → Int → Int → Int → Int → Int → Int → Int → Int → Int → Int → Int → Int → Int → Prop} {V1770 : Nat → ISt → ISt → ISt → ISt → Int → Int → Int → Int → Int → Int → Int → Int → Prop} (k1489 : ∀ (k : Nat) (hh hs hr ha : ISt) (x9 x10 x11 x12 x13 x14 x15 x17 x18 x19 x21 x22 : Int), (inR x18 ∧ (((14 : Int) ≤ x18 → (V1672 k hh hs hr ha x9 x10 x11 x12 x13 x14 x15 x17 x18 x21 x22)) ∧ (¬ (14 : Int) ≤ x18 → (inR x10 ∧ ((x10 ≤ (0 : Int) → (V1672 k hh hs hr ha x9 x10 x11 x12 x13 x14 x15 x17 x18 x21 x22)) ∧ (¬ x10 ≤ (0 : Int) → ((0 ≤ x17 ∧ x17 ≤ 2147483647) ∧ (0 ≤ (8 : Int) ∧ (8 : Int) < 32) ∧ (∀ z136 : Int, 0 ≤ z136 → z136 ≤ x17 → (∀ z137 : Int, 0 ≤ z137 → z137 ≤ 1 → (inR z137 ∧ ((¬ z137 = (0 : Int) → ((0 ≤ x17 ∧ x17 ≤ 2147483647) ∧ (0 ≤ (9 : Int) ∧ (9 : Int) < 32) ∧ (∀ z138 : Int, 0 ≤ z138 → z138 ≤ x17 → ((0 ≤ z138 ∧ z138 ≤ 2147483647) ∧ (0 < (4 : Int) ∧ (4 : Int) ≤ 2147483647) ∧ (∀ z139 : Int, 0 ≤ z139 → z139 < (4 : Int) → z139 ≤ z138 → (V1522 k hh hs hr ha x9 x10 x11 x12 x14 x15 x17 x19 x22 z139)))))) ∧ (z137 = (0 : Int) → (V1522 k hh hs hr ha x9 x10 x11 x12 x14 x15 x17 x19 x22 (0 : Int)))))))))))))) → V1489 k hh hs hr ha x9 x10 x11 x12 x13 x14 x15 x17 x18 x19 x21 x22) (k1522 : ∀ (k : Nat) (hh hs hr ha : ISt) (x9 x10 x11 x12 x14 x15 x17 x19 x22 t0 : Int), (k ≤ 10000 ∧ ∃ r156 : Int, Qn_X4_copyOf hh hs hr x19 r156 ∧ (k ≤ 10000 ∧ ∃ r157 : Int, Q_L_pieces hh hs hr ha x12 x22 r157 ∧ (inR r156 ∧ (((0 : Int) ≤ r156 → (k ≤ 10000 ∧ ∃ r158 : Int, Qn_X4_pieces hh hs hr r156 x22 r158 ∧ (V1559 k hh hs hr ha x9 x10 x11 x12 x14 x15 x17 x19 r156 x22 t0 r157 r158))) ∧ (¬ (0 : Int) ≤ r156 → (V1559 k hh hs hr ha x9 x10 x11 x12 x14 x15 x17 x19 r156 x22 t0 r157 (0 : Int))))))) → V1522 k hh hs hr ha x9 x10 x11 x12 x14 x15 x17 x19 x22 t0) (k1559 : ∀ (k : Nat) (hh hs hr ha : ISt) (x9 x10 x11 x12 x14 x15 x17 x19 x21 x22 x23 x24 t0 : Int), (k + 1 ≤ 10000 ∧ Q_L_on hh hs hr (3 : Int) x19 x22 x23 (fun (r159 : Int) (hh160 hs161 hr162 : ISt) => inR r159 ∧ ((¬ r159 = (-13 : Int) → (inR x21 ∧ ((x21 < (0 : Int) → (V1770 (k + 1) hh160 hs161 hr162 ha x9 x10 x11 x12 (0 : Int) x14 x15 x17)) ∧ (¬ x21 < (0 : Int) → (inR r159 ∧ ((r159 < (0 : Int) → (V1770 (k + 1) hh160 hs161 hr162 ha x9 x10 x11 x12 (0 : Int) x14 x15 x17)) ∧ (¬ r159 < (0 : Int) → (k + 1 ≤ 10000 ∧ ∃ r163 : Int, Qn_X4_copyOf hh160 hs161 hr162 x19 r163 ∧ (inR r163 ∧ ((¬ r163 = (-1 : Int) → (V1770 (k + 1) hh160 hs161 hr162 ha x9 x10 x11 x12 (0 : Int) x14 x15 x17)) ∧ (r163 = (-1 : Int) → (k + 1 ≤ 10000 ∧ ∃ r164 : Int, Qn_X4_stateOf hh160 hs161 hr162 x21 r164 ∧ (inR r164 ∧ ((¬ r164 = (0 : Int) → (V1770 (k + 1) hh160 hs161 hr162 ha x9 x10 x11 x12 (0 : Int) x14 x15 x17)) ∧ (r164 = (0 : Int) → (k + 1 ≤ 10000 ∧ ∃ r165 : Int, Q_L_pieces hh160 hs161 hr162 ha x12 x22 r165 ∧ (inR r165 ∧ inR (x24 - x23) ∧ ((¬ r165 = (x24 - x23) → (V1770 (k + 1) hh160 hs161 hr162 ha x9 x10 x11 x12 (0 : Int) x14 x15 x17)) ∧ (r165 = (x24 - x23) → (k + 1 ≤ 10000 ∧ ∃ r166 : Int, Qn_X4_pieces hh160 hs161 hr162 x21 x22 r166 ∧ (inR r166 ∧ inR (t0 - x23) ∧ (((t0 - x23) < r166 → (V1770 (k + 1) hh160 hs161 hr162 ha x9 x10 x11 x12 (0 : Int) x14 x15 x17)) ∧ (¬ (t0 - x23) < r166 → (V1770 (k + 1) hh160 hs161 hr162 ha x9 x10 x11 x12 (1 : Int) x14 x15 x17)))))))))))))))))))))))) ∧ (r159 = (-13 : Int) → (inR x21 ∧ ((x21 < (0 : Int) → (V1770 (k + 1) hh160 hs161 hr162 ha x9 x10 x11 x12 (1 : Int) x14 x15 x17)) ∧ (¬ x21 < (0 : Int) → (inR t0 ∧ inR x23 ∧ ((x23 ≤ t0 → (V1770 (k + 1) hh160 hs161 hr162 ha x9 x10 x11 x12 (0 : Int) x14 x15 x17)) ∧ (¬ x23 ≤ t0 → (V1770 (k + 1) hh160 hs161 hr162 ha x9 x10 x11 x12 (1 : Int) x14 x15 x17))))))))))) → V1559 k hh hs hr ha x9 x10 x11 x12 x14 x15 x17 x19 x21 x22 x23 x24 t0) {k0 u : Nat} {x14 y : Int} (hE : EndV V1770 k0 x14 y u) (hk0 : k0 ≤ 9000) (hy : 0 ≤ y ∧ y ≤ 268435455) {k : Nat} {hh hs hr ha : ISt} {T A n G : Nat} (L : LawI hh hs hr ha T A n G) (hk : k ≤ k0) (E : Early u hh T A n) (u4 : 4 ≤ u) {d g c z : Int} (hd : Deed u d) (hg : Pick g G) (hz : 0 ≤ z ∧ z < 4)
    (h1672 : V1672 k hh hs hr ha T G A n 1 x14 u y d c z) : V1489 k hh hs hr ha T G A n 1 x14 u y d g c z := by
  obtain ⟨li, ls, lt, lb, lh, lss, lr⟩ := L
  have bG := li.2.2.1
  have bA := ls.1
  have bn := ls.2.1
  have bd : 0 ≤ d ∧ d ≤ 15 := ⟨hd.1, hd.2.1⟩
  obtain ⟨K, eK⟩ := nat_of hz.1
  subst eK
  have hK : K < 4 := by omega
  have cbd : 0 ≤ col (hs 9) K n ∧ col (hs 9) K n ≤ 9 * n := by
    have q : ∀ x : Nat, x ≤ n → 0 ≤ col (hs 9) K x ∧ col (hs 9) K x ≤ 9 * x := by
      intro x
      induction x with
      | zero => intro _; exact ⟨by show (0 : Int) ≤ 0; omega, by show (0 : Int) ≤ _; omega⟩
      | succ x ih =>
        intro hx
        have i := ih (by omega)
        have b := ls.2.2.2.2.2.1 x K (by omega) hK
        have b5 := ls.2.2.2.2.1 x (by omega)
        have b4 := ls.2.2.2.1 (4 * (hs 5 x).toNat + K) (by omega)
        show 0 ≤ col (hs 9) K x + hs 9 (4 * x + K) ∧ col (hs 9) K x + hs 9 (4 * x + K) ≤ _
        omega
    exact q n (Nat.le_refl _)
  refine k1489 _ _ _ _ _ _ _ _ _ _ _ _ _ _ _ _ _ ⟨(by unfold inR; omega), fun _ => h1672, fun _ => ⟨(by unfold inR; omega), fun _ => h1672, fun cG => ?_⟩⟩
  obtain ⟨g', eg⟩ := nat_of hg.1
  subst eg
  have gG : g' < G := by
    have := hg.2
    omega
  have same : V1770 (k + 1) hh hs hr ha T G A n 1 x14 u y := hE (k + 1) hh hs hr ha T A n G ⟨li, ls, lt, lb, lh, lss, lr⟩ (by omega) (E.more (by omega) (by omega) (by omega) (fun h => by omega) (by omega))
  have body : ∀ l : Int, 0 ≤ l → l < 4 → V1522 k hh hs hr ha T G A n x14 u y g' K l := by
    intro l l0 l4
    refine k1522 _ _ _ _ _ _ _ _ _ _ _ _ _ _ _ ⟨by omega, _, n_copyOf li ls gG, by omega, _, q_pieces ls hK, ?_⟩
    rcases held_or ls g' with ⟨e, h2⟩ | ⟨C, e, hC, h6, hu⟩
    · rw [e]
      refine ⟨(by unfold inR; omega), bf (by omega) (k1559 _ _ _ _ _ _ _ _ _ _ _ _ _ _ _ _ _ _ ⟨by omega, on_back li ls gG hK (by omega) (fun c ec _ _ => absurd ec (by omega)) (fun _ => ⟨(by unfold inR; omega), nf rfl ⟨(by unfold inR; omega), bt (by omega) same⟩⟩) (fun c ec _ _ => absurd ec (by omega))⟩)⟩
    · have b9 := ls.2.2.2.2.2.1 C K hC hK
      have b5 := ls.2.2.2.2.1 C hC
      have b4 := ls.2.2.2.1 (4 * (hs 5 C).toNat + K) (by omega)
      rw [e]
      refine ⟨(by unfold inR; omega), bt (by omega) ⟨by omega, _, n_pieces ls hC hK, k1559 _ _ _ _ _ _ _ _ _ _ _ _ _ _ _ _ _ _ ⟨by omega, on_back li ls gG hK (by omega) (fun c ec hc hle => ?_) (fun h => absurd h (by omega)) (fun c ec hc hlt => ?_)⟩⟩⟩
      · have ec : c = C := by omega
        subst ec
        obtain ⟨r, s', p1, p2, ⟨p30, p31, p32, p33, p34, p35⟩, p4, p5, p6, p7, p8⟩ := back_ex ls hc (by omega) hK l0 hle
        have hn : held s' n g' = -1 := by
          rcases held_or p2 g' with ⟨w, _⟩ | ⟨x, w1, w2, w3, _⟩
          · exact w
          · rw [p4] at w3
            by_cases f : x = c
            · rw [f, u_eq] at w3
              omega
            · rw [u_ne f] at w3
              exact absurd (hu x w2 w3) f
        have w0 : whr s' c = 0 := whr_0 (by rw [p4, u_eq]) p5
        have nc := n_copyOf (hr := hr) li p2 gG
        rw [hn] at nc
        have ns := n_stateOf (hh := hh) (hr := hr) p2 hc
        rw [w0] at ns
        have q9 := p2.2.2.2.2.2.1 c K hc hK
        have sv' : SitsI hh s' n := by
          intro x hx h
          rw [p4] at h ⊢
          by_cases f : x = c
          · rw [f, u_eq] at h
            omega
          · rw [u_ne f] at h ⊢
            exact lt x hx h
        refine ⟨r, s', p1, (by unfold inR; omega), nt (by omega) ⟨(by unfold inR; omega), bf (by omega) ⟨(by unfold inR; omega), bf (by omega) ⟨by omega, _, nc, (by unfold inR; omega), nf rfl ⟨by omega, _, ns, R0, nf rfl ⟨by omega, _, q_pieces p2 hK, by rw [p7]; exact (by unfold inR; omega), (by unfold inR; omega), nf p7 ⟨by omega, _, n_pieces p2 hc hK, (by unfold inR; omega), (by unfold inR; omega), bf (by omega) ?_⟩⟩⟩⟩⟩⟩⟩
        exact hE (k + 1) hh s' hr ha T A n G ⟨li, p2, sv', lb, lh, rowsS_c lss rfl rfl rfl p31 p32 p33 p34 p35, lr⟩ (by omega) (E.more (by omega) (by omega) (by omega) (fun h => by omega) (by omega))
      · have ec : c = C := by omega
        subst ec
        exact ⟨(by unfold inR; omega), nf rfl ⟨(by unfold inR; omega), bf (by omega) ⟨(by unfold inR; omega), (by unfold inR; omega), bf (by omega) same⟩⟩⟩
  refine ⟨⟨by omega, by omega⟩, ⟨by omega, by omega⟩, fun z136 a136 b136 z137 a137 b137 => ⟨(by unfold inR; omega), fun _ => ⟨⟨by omega, by omega⟩, ⟨by omega, by omega⟩, fun z138 a138 b138 => ⟨⟨by omega, by omega⟩, ⟨by omega, by omega⟩, fun z139 a139 b139 c139 => body z139 a139 b139⟩⟩, fun _ => body 0 (by omega) (by omega)⟩⟩
set_option maxHeartbeats 4000000 in
theorem br_found {V1672 : Nat → ISt → ISt → ISt → ISt → Int → Int → Int → Int → Int → Int → Int → Int → Int → Int → Int → Prop} {V1770 : Nat → ISt → ISt → ISt → ISt → Int → Int → Int → Int → Int → Int → Int → Int → Prop} (k1672 : ∀ (k : Nat) (hh hs hr ha : ISt) (x9 x10 x11 x12 x13 x14 x15 x17 x18 x21 x22 : Int), (inR x18 ∧ ((¬ x18 = (14 : Int) → (V1770 k hh hs hr ha x9 x10 x11 x12 x13 x14 x15 x17)) ∧ (x18 = (14 : Int) → (inR x12 ∧ ((x12 ≤ (0 : Int) → (V1770 k hh hs hr ha x9 x10 x11 x12 x13 x14 x15 x17)) ∧ (¬ x12 ≤ (0 : Int) → ((0 ≤ x17 ∧ x17 ≤ 2147483647) ∧ (0 ≤ (8 : Int) ∧ (8 : Int) < 32) ∧ (∀ z148 : Int, 0 ≤ z148 → z148 ≤ x17 → ((0 ≤ z148 ∧ z148 ≤ 2147483647) ∧ (0 < (3 : Int) ∧ (3 : Int) ≤ 2147483647) ∧ (∀ z149 : Int, 0 ≤ z149 → z149 < (3 : Int) → z149 ≤ z148 → (k ≤ 10000 ∧ ∃ r150 : Int, Qn_X4_pieces hh hs hr x21 x22 r150 ∧ (k + 1 ≤ 10000 ∧ Q_L_on hh hs hr (4 : Int) x21 x22 ((1 : Int) + z149) (fun (r151 : Int) (hh152 hs153 hr154 : ISt) => k + 1 ≤ 10000 ∧ ∃ r155 : Int, Qn_X4_stateOf hh152 hs153 hr154 x21 r155 ∧ (inR r155 ∧ ((¬ r155 = (0 : Int) → (inR r151 ∧ ((¬ r151 = (-13 : Int) → (V1770 (k + 1) hh152 hs153 hr154 ha x9 x10 x11 x12 (0 : Int) x14 x15 x17)) ∧ (r151 = (-13 : Int) → (V1770 (k + 1) hh152 hs153 hr154 ha x9 x10 x11 x12 (1 : Int) x14 x15 x17))))) ∧ (r155 = (0 : Int) → ((0 ≤ x21 ∧ x21 < 16) ∧ ((0 ≤ (((4 : Int) * (ha 3 x21.toNat)) + x22) ∧ (((4 : Int) * (ha 3 x21.toNat)) + x22) < 32) ∧ (inR (r150 + ((1 : Int) + z149)) ∧ inR (ha 4 (((4 : Int) * (ha 3 x21.toNat)) + x22).toNat) ∧ (((ha 4 (((4 : Int) * (ha 3 x21.toNat)) + x22).toNat) < (r150 + ((1 : Int) + z149)) → (inR r151 ∧ ((¬ r151 = (-13 : Int) → (V1770 (k + 1) hh152 hs153 hr154 ha x9 x10 x11 x12 (0 : Int) x14 x15 x17)) ∧ (r151 = (-13 : Int) → (V1770 (k + 1) hh152 hs153 hr154 ha x9 x10 x11 x12 (1 : Int) x14 x15 x17))))) ∧ (¬ (ha 4 (((4 : Int) * (ha 3 x21.toNat)) + x22).toNat) < (r150 + ((1 : Int) + z149)) → (inR r151 ∧ inR (r150 + ((1 : Int) + z149)) ∧ ((¬ r151 = (r150 + ((1 : Int) + z149)) → (V1770 (k + 1) hh152 hs153 hr154 ha x9 x10 x11 x12 (0 : Int) x14 x15 x17)) ∧ (r151 = (r150 + ((1 : Int) + z149)) → (V1770 (k + 1) hh152 hs153 hr154 ha x9 x10 x11 x12 (1 : Int) x14 x15 x17))))))))))))))))))))))))) → V1672 k hh hs hr ha x9 x10 x11 x12 x13 x14 x15 x17 x18 x21 x22) {k0 u : Nat} {x14 y : Int} (hE : EndV V1770 k0 x14 y u) (hk0 : k0 ≤ 9000) (hy : 0 ≤ y ∧ y ≤ 268435455) {k : Nat} {hh hs hr ha : ISt} {T A n G : Nat} (L : LawI hh hs hr ha T A n G) (hk : k ≤ k0) (E : Early u hh T A n) (u4 : 4 ≤ u) {d c z : Int} (hd : Deed u d) (hc : Pick c n) (hz : 0 ≤ z ∧ z < 4) : V1672 k hh hs hr ha T G A n 1 x14 u y d c z := by
  obtain ⟨li, ls, lt, lb, lh, lss, lr⟩ := id L
  have bA := ls.1
  have bn := ls.2.1
  have bd : 0 ≤ d ∧ d ≤ 15 := ⟨hd.1, hd.2.1⟩
  obtain ⟨K, eK⟩ := nat_of hz.1
  subst eK
  have hK : K < 4 := by omega
  have more : Early (u + 1) hh T A n := E.more (by omega) (by omega) (by omega) (fun h => by omega) (by omega)
  have same : V1770 k hh hs hr ha T G A n 1 x14 u y := hE k hh hs hr ha T A n G L (by omega) more
  have same1 : V1770 (k + 1) hh hs hr ha T G A n 1 x14 u y := hE (k + 1) hh hs hr ha T A n G L (by omega) more
  refine k1672 _ _ _ _ _ _ _ _ _ _ _ _ _ _ _ _ ⟨(by unfold inR; omega), fun _ => same, fun _ => ⟨(by unfold inR; omega), fun _ => same, fun cn => ⟨⟨by omega, by omega⟩, ⟨by omega, by omega⟩, fun z148 a148 b148 => ⟨⟨by omega, by omega⟩, ⟨by omega, by omega⟩, fun z149 a149 b149 c149 => ?_⟩⟩⟩⟩
  obtain ⟨C, eC⟩ := nat_of hc.1
  subst eC
  have hC : C < n := by
    have := hc.2
    omega
  have iC : (C : Int).toNat = C := Int.toNat_natCast C
  have b9 := ls.2.2.2.2.2.1 C K hC hK
  have b5 := ls.2.2.2.2.1 C hC
  obtain ⟨B, eB⟩ := nat_of b5.1.1
  have b4 := ls.2.2.2.1 (4 * B + K) (by omega)
  rw [eB, Int.toNat_natCast] at b9
  have lb2 := lk_b ls hC hK
  have wb := whr_b hs C
  have elk : lk hs C K = hs 4 (4 * B + K) - hs 9 (4 * C + K) := by
    unfold lk
    rw [eB, Int.toNat_natCast]
  have a3 : ha 3 C = B := by rw [lss.1 C hC, eB]
  have iK : ((4 : Int) * (B : Int) + (K : Int)).toNat = 4 * B + K := by omega
  have a4 : ha 4 (4 * B + K) = hs 4 (4 * B + K) := lss.2.1 _ (by omega)
  refine ⟨by omega, _, n_pieces ls hC hK, by omega, on_found ls hC hK (by omega) (fun w0 hm => ?_) (fun no => ?_)⟩
  · have p2 := found_i ls hC hK w0 (m := 1 + z149) (by omega) hm
    have ns := n_stateOf (hh := hh) (hr := hr) p2 hC
    have w1 : whr (foundS hs C K (1 + z149)) C = 0 := w0
    rw [w1] at ns
    refine ⟨by omega, _, ns, R0, nf rfl ⟨⟨by omega, by omega⟩, ?_⟩⟩
    rw [iC, a3, iK, a4]
    refine ⟨⟨by omega, by omega⟩, (by unfold inR; omega), (by unfold inR; omega), bf (by omega) ⟨(by unfold inR; omega), (by unfold inR; omega), nf rfl ?_⟩⟩
    exact hE (k + 1) hh _ hr ha T A n G ⟨li, p2, lt, lb, lh, rowsS_c lss rfl rfl rfl rfl rfl rfl rfl rfl, lr⟩ (by omega) more
  · refine ⟨by omega, _, n_stateOf ls hC, (by unfold inR; omega), fun _ => ⟨(by unfold inR; omega), nf rfl same1⟩, fun w0 => ⟨⟨by omega, by omega⟩, ?_⟩⟩
    rw [iC, a3, iK, a4]
    refine ⟨⟨by omega, by omega⟩, (by unfold inR; omega), (by unfold inR; omega), bt ?_ ⟨(by unfold inR; omega), nf rfl same1⟩⟩
    by_cases f : 1 + z149 ≤ lk hs C K
    · exact absurd ⟨w0, f⟩ no
    · omega
