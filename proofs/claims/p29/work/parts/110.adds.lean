/-! THE LAW'S DEEDS: tables, titles, copies -/
def LawI (hh hs hr ha : ISt) (T A n G : Nat) : Prop := HallI hh T G ∧ ShelfI hs A n ∧ SitsI hh hs n ∧ BooksI hr A ∧ RowsH hh ha T G ∧ RowsS hs ha A n ∧ RowsR hr ha
def Early (u : Nat) (hh : ISt) (T A n : Nat) : Prop := T ≤ u ∧ A ≤ u ∧ n ≤ u ∧ (4 ≤ u → 1 ≤ A) ∧ hh 0 0 ≤ 30 * (u : Int)
theorem Early.more {u : Nat} {hh hh' : ISt} {T A n T' A' n' : Nat} (h : Early u hh T A n) (h1 : T' ≤ T + 1) (h2 : A ≤ A' ∧ A' ≤ A + 1) (h3 : n' ≤ n + 1) (h4 : u = 3 → A' = A + 1) (h5 : hh' 0 0 ≤ hh 0 0 + 30) : Early (u + 1) hh' T' A' n' := by
  obtain ⟨e1, e2, e3, e4, e5⟩ := h
  refine ⟨by omega, by omega, by omega, fun _ => ?_, by omega⟩
  by_cases c : u = 3
  · have := h4 c
    omega
  · have := e4 (by omega)
    omega
/-- which deed a turn does -/
def Deed (u : Nat) (d : Int) : Prop := 0 ≤ d ∧ d ≤ 15 ∧ (u < 3 → d = 0) ∧ (3 ≤ u → u < 5 → d = 1) ∧ (5 ≤ u → u < 9 → d = 2) ∧ (9 ≤ u → u < 11 → d = 4)
def Pick (x : Int) (N : Nat) : Prop := 0 ≤ x ∧ (x < N ∨ (N = 0 ∧ x = 0))
def EndV (V : Nat → ISt → ISt → ISt → ISt → Int → Int → Int → Int → Int → Int → Int → Int → Prop) (k0 : Nat) (x14 y : Int) (u : Nat) : Prop := ∀ (k : Nat) (hh hs hr ha : ISt) (T A n G : Nat), LawI hh hs hr ha T A n G → k ≤ k0 + 3 → Early (u + 1) hh T A n → V k hh hs hr ha T G A n 1 x14 u y
theorem rowsH_c {h h' a a' : ISt} {T G : Nat} (r : RowsH h a T G) (e0 : a' 0 = a 0) (e1 : a' 1 = a 1) (e2 : a' 2 = a 2) (f1 : h' 1 = h 1) (f3 : h' 3 = h 3) (f6 : h' 6 = h 6) : RowsH h' a' T G := by
  unfold RowsH
  rw [e0, e1, e2, f1, f3, f6]
  exact r
theorem rowsS_c {s s' a a' : ISt} {A n : Nat} (r : RowsS s a A n) (e3 : a' 3 = a 3) (e4 : a' 4 = a 4) (e5 : a' 5 = a 5) (f1 : s' 1 = s 1) (f2 : s' 2 = s 2) (f3 : s' 3 = s 3) (f4 : s' 4 = s 4) (f5 : s' 5 = s 5) : RowsS s' a' A n := by
  unfold RowsS
  rw [e3, e4, e5, f1, f2, f3, f4, f5]
  exact r
set_option maxHeartbeats 4000000 in
theorem br_table {V266 : Nat → ISt → ISt → ISt → ISt → Int → Int → Int → Int → Int → Int → Int → Int → Int → Int → Int → Int → Prop} {V339 : Nat → ISt → ISt → ISt → ISt → Int → Int → Int → Int → Int → Int → Int → Int → Int → Int → Int → Int → Int → Prop} {V330 : Nat → ISt → ISt → ISt → ISt → Int → Int → Int → Int → Int → Int → Int → Prop} {V331 : Nat → ISt → ISt → ISt → ISt → Int → Int → Int → Int → Int → Int → Int → Int → Prop} {V1770 : Nat → ISt → ISt → ISt → ISt → Int → Int → Int → Int → Int → Int → Int → Int → Prop} (k266 : ∀ (k : Nat) (hh hs hr ha : ISt) (x9 x10 x11 x12 x13 x14 x15 x17 x18 x19 x20 t0 : Int), ((0 ≤ x17 ∧ x17 ≤ 2147483647) ∧ (0 ≤ (5 : Int) ∧ (5 : Int) < 32) ∧ (∀ z10 : Int, 0 ≤ z10 → z10 ≤ x17 → ((0 ≤ z10 ∧ z10 ≤ 2147483647) ∧ (0 < (4 : Int) ∧ (4 : Int) ≤ 2147483647) ∧ (∀ z11 : Int, 0 ≤ z11 → z11 < (4 : Int) → z11 ≤ z10 → (inR x18 ∧ ((¬ x18 = (0 : Int) → (V339 k hh hs hr ha x9 x10 x11 x12 x13 x14 x15 x17 x18 x19 x20 t0 z11)) ∧ (x18 = (0 : Int) → (inR x9 ∧ (((10 : Int) ≤ x9 → (V339 k hh hs hr ha x9 x10 x11 x12 x13 x14 x15 x17 x18 x19 x20 t0 z11)) ∧ (¬ (10 : Int) ≤ x9 → ((0 ≤ x17 ∧ x17 ≤ 2147483647) ∧ (0 < (5 : Int) ∧ (5 : Int) ≤ 2147483647) ∧ (∀ z12 : Int, 0 ≤ z12 → z12 < (5 : Int) → z12 ≤ x17 → ((0 ≤ x9 ∧ x9 < 10) ∧ (∀ h13 : ISt, h13 = iset ha 0 x9.toNat ((2 : Int) + z12) → (k ≤ 10000 ∧ ∃ r14 : Int, Q_X4_waiting hh hs hr r14 ∧ ((0 ≤ x9 ∧ x9 < 10) ∧ (k ≤ 10000 ∧ Qn_X4_addTable hh hs hr (h13 0 x9.toNat) (fun (r15 : Int) (hh16 hs17 hr18 : ISt) => inR r15 ∧ inR x9 ∧ ((¬ r15 = x9 → (V330 k hh16 hs17 hr18 h13 x9 x10 x11 x12 x14 x15 x17)) ∧ (r15 = x9 → (k ≤ 10000 ∧ ∃ r19 : Int, Q_X4_waiting hh16 hs17 hr18 r19 ∧ (inR r19 ∧ inR r14 ∧ ((¬ r19 = r14 → (V330 k hh16 hs17 hr18 h13 x9 x10 x11 x12 x14 x15 x17)) ∧ (r19 = r14 → (V331 k hh16 hs17 hr18 h13 x9 x10 x11 x12 x14 x15 x17 (1 : Int)))))))))))))))))))))))))) → V266 k hh hs hr ha x9 x10 x11 x12 x13 x14 x15 x17 x18 x19 x20 t0) (k331 : ∀ (k : Nat) (hh hs hr ha : ISt) (x9 x10 x11 x12 x14 x15 x17 t0 : Int), (V1770 k hh hs hr ha (x9 + (1 : Int)) x10 x11 x12 t0 x14 x15 x17) → V331 k hh hs hr ha x9 x10 x11 x12 x14 x15 x17 t0) {k0 u : Nat} {x14 y : Int} (hE : EndV V1770 k0 x14 y u) (hk0 : k0 ≤ 9000) (hy : 0 ≤ y ∧ y ≤ 268435455) {k : Nat} {hh hs hr ha : ISt} {T A n G : Nat} (L : LawI hh hs hr ha T A n G) (hk : k ≤ k0) (E : Early u hh T A n) {d g t c : Int} (hd : Deed u d)
    (h339 : d ≠ 0 ∨ 10 ≤ T → ∀ z : Int, 0 ≤ z → z < 4 → V339 k hh hs hr ha T G A n 1 x14 u y d g t c z) : V266 k hh hs hr ha T G A n 1 x14 u y d g t c := by
  obtain ⟨li, ls, lt, lb, lh, lss, lr⟩ := L
  have bT := li.2.1
  have bG := li.2.2.1
  have bd : 0 ≤ d ∧ d ≤ 15 := ⟨hd.1, hd.2.1⟩
  have iT : (T : Int).toNat = T := Int.toNat_natCast T
  have cb := cnt_b (hh 6) 0 G 0
  refine k266 _ _ _ _ _ _ _ _ _ _ _ _ _ _ _ _ _ ⟨⟨by omega, by omega⟩, ⟨by omega, by omega⟩, fun z10 a10 b10 => ⟨⟨by omega, by omega⟩, ⟨by omega, by omega⟩, fun z11 a11 b11 c11 => ⟨(by unfold inR; omega), fun c => h339 (Or.inl c) z11 a11 b11, fun c => ⟨(by unfold inR; omega), fun c2 => h339 (Or.inr (by omega)) z11 a11 b11, fun c2 => ⟨⟨by omega, by omega⟩, ⟨by omega, by omega⟩, fun z12 a12 b12 c12 => ⟨⟨by omega, by omega⟩, fa ?_⟩⟩⟩⟩⟩⟩
  rw [iT]
  have hv : iset ha 0 T ((2 : Int) + z12) 0 T = 2 + z12 := u_eq _ _ _
  refine ⟨by omega, _, n_waiting li, ⟨by omega, by omega⟩, by omega, ?_⟩
  rw [hv]
  have lj := tabled_i li (by omega : T < 10) (a := 2 + z12) (by omega)
  have nw : Q_X4_waiting (tabled hh T (2 + z12)) hs hr (cnt (hh 6) 0 G 0) := n_waiting lj
  refine n_addTable li (by omega) (by omega) ⟨(by unfold inR; omega), (by unfold inR; omega), nf rfl ⟨by omega, _, nw, (by unfold inR; omega), (by unfold inR; omega), nf rfl (k331 _ _ _ _ _ _ _ _ _ _ _ _ _ ?_)⟩⟩
  have z := hE k (tabled hh T (2 + z12)) hs hr (iset ha 0 T (2 + z12)) (T + 1) A n G ⟨lj, ls, lt, lb, ⟨?_, lh.2.1, lh.2.2⟩, lss, lr⟩ (by omega) (E.more (by omega) (by omega) (by omega) (fun h => by have := hd.2.2.2.1; omega) (show hh 0 0 ≤ hh 0 0 + 30 by omega))
  · rw [show ((T + 1 : Nat) : Int) = (T : Int) + 1 by omega] at z
    exact z
  · intro x hx
    show iupd (ha 0) T (2 + z12) x = iupd (hh 1) T (2 + z12) x
    by_cases e : x = T
    · rw [e, u_eq, u_eq]
    · rw [u_ne e, u_ne e]
      exact lh.1 x (by omega)
set_option maxHeartbeats 4000000 in
theorem br_title {V339 : Nat → ISt → ISt → ISt → ISt → Int → Int → Int → Int → Int → Int → Int → Int → Int → Int → Int → Int → Int → Prop} {V549 : Nat → ISt → ISt → ISt → ISt → Int → Int → Int → Int → Int → Int → Int → Int → Int → Int → Int → Int → Int → Prop} {V421 : Nat → ISt → ISt → ISt → ISt → Int → Int → Int → Int → Int → Int → Int → Int → Prop} {V1770 : Nat → ISt → ISt → ISt → ISt → Int → Int → Int → Int → Int → Int → Int → Int → Prop} (k339 : ∀ (k : Nat) (hh hs hr ha : ISt) (x9 x10 x11 x12 x13 x14 x15 x17 x18 x19 x20 x21 x22 : Int), (inR x18 ∧ ((¬ x18 = (1 : Int) → (V549 k hh hs hr ha x9 x10 x11 x12 x13 x14 x15 x17 x18 x19 x20 x21 x22)) ∧ (x18 = (1 : Int) → (inR x11 ∧ (((8 : Int) ≤ x11 → (V549 k hh hs hr ha x9 x10 x11 x12 x13 x14 x15 x17 x18 x19 x20 x21 x22)) ∧ (¬ (8 : Int) ≤ x11 → ((0 ≤ x17 ∧ x17 ≤ 2147483647) ∧ (0 < (4 : Int) ∧ (4 : Int) ≤ 2147483647) ∧ (∀ z20 : Int, 0 ≤ z20 → z20 < (4 : Int) → z20 ≤ x17 → ((0 ≤ ((3 : Int) * x11) ∧ ((3 : Int) * x11) < 24) ∧ (∀ h21 : ISt, h21 = iset ha 5 ((3 : Int) * x11).toNat ((1 : Int) + z20) → ((0 ≤ ((3 : Int) * x11) ∧ ((3 : Int) * x11) < 24) ∧ ((0 ≤ x17 ∧ x17 ≤ 2147483647) ∧ (0 ≤ (2 : Int) ∧ (2 : Int) < 32) ∧ (∀ z22 : Int, 0 ≤ z22 → z22 ≤ x17 → ((0 ≤ ((3 : Int) * x11) ∧ ((3 : Int) * x11) < 24) ∧ ((0 ≤ z22 ∧ z22 ≤ 2147483647) ∧ (0 < ((13 : Int) - (h21 5 ((3 : Int) * x11).toNat)) ∧ ((13 : Int) - (h21 5 ((3 : Int) * x11).toNat)) ≤ 2147483647) ∧ (∀ z23 : Int, 0 ≤ z23 → z23 < ((13 : Int) - (h21 5 ((3 : Int) * x11).toNat)) → z23 ≤ z22 → ((0 ≤ (((3 : Int) * x11) + (1 : Int)) ∧ (((3 : Int) * x11) + (1 : Int)) < 24) ∧ (∀ h24 : ISt, h24 = iset h21 5 (((3 : Int) * x11) + (1 : Int)).toNat ((h21 5 ((3 : Int) * x11).toNat) + z23) → ((0 ≤ x17 ∧ x17 ≤ 2147483647) ∧ (0 ≤ (6 : Int) ∧ (6 : Int) < 32) ∧ (∀ z25 : Int, 0 ≤ z25 → z25 ≤ x17 → (∀ z26 : Int, 0 ≤ z26 → z26 ≤ 3 → ((0 ≤ (((3 : Int) * x11) + (2 : Int)) ∧ (((3 : Int) * x11) + (2 : Int)) < 24) ∧ (∀ h27 : ISt, h27 = iset h24 5 (((3 : Int) * x11) + (2 : Int)).toNat ((5 : Int) + (z26 * (15 : Int))) → (V421 k hh hs hr h27 x9 x10 x11 x12 x14 x15 x17 (0 : Int))))))))))))))))))))))))) → V339 k hh hs hr ha x9 x10 x11 x12 x13 x14 x15 x17 x18 x19 x20 x21 x22) (k421 : ∀ (k : Nat) (hh hs hr ha : ISt) (x9 x10 x11 x12 x14 x15 x17 x23 : Int), (inR x23 ∧ (((4 : Int) ≤ x23 → ((0 ≤ ((3 : Int) * x11) ∧ ((3 : Int) * x11) < 24) ∧ ((0 ≤ (((3 : Int) * x11) + (1 : Int)) ∧ (((3 : Int) * x11) + (1 : Int)) < 24) ∧ ((0 ≤ (((3 : Int) * x11) + (2 : Int)) ∧ (((3 : Int) * x11) + (2 : Int)) < 24) ∧ ((0 ≤ ((4 : Int) * x11) ∧ ((4 : Int) * x11) < 32) ∧ ((0 ≤ (((4 : Int) * x11) + (1 : Int)) ∧ (((4 : Int) * x11) + (1 : Int)) < 32) ∧ ((0 ≤ (((4 : Int) * x11) + (2 : Int)) ∧ (((4 : Int) * x11) + (2 : Int)) < 32) ∧ ((0 ≤ (((4 : Int) * x11) + (3 : Int)) ∧ (((4 : Int) * x11) + (3 : Int)) < 32) ∧ (k ≤ 10000 ∧ Qn_X4_addTitle hh hs hr (ha 5 ((3 : Int) * x11).toNat) (ha 5 (((3 : Int) * x11) + (1 : Int)).toNat) (ha 5 (((3 : Int) * x11) + (2 : Int)).toNat) (ha 4 ((4 : Int) * x11).toNat) (ha 4 (((4 : Int) * x11) + (1 : Int)).toNat) (ha 4 (((4 : Int) * x11) + (2 : Int)).toNat) (ha 4 (((4 : Int) * x11) + (3 : Int)).toNat) (fun (r35 : Int) (hh36 hs37 hr38 : ISt) => inR r35 ∧ inR x11 ∧ ((¬ r35 = x11 → (V1770 k hh36 hs37 hr38 ha x9 x10 (x11 + (1 : Int)) x12 (0 : Int) x14 x15 x17)) ∧ (r35 = x11 → (k ≤ 10000 ∧ ∃ r39 : Int, Qn_X4_depth hh36 hs37 hr38 x11 r39 ∧ (inR r39 ∧ ((¬ r39 = (0 : Int) → (V1770 k hh36 hs37 hr38 ha x9 x10 (x11 + (1 : Int)) x12 (0 : Int) x14 x15 x17)) ∧ (r39 = (0 : Int) → (V1770 k hh36 hs37 hr38 ha x9 x10 (x11 + (1 : Int)) x12 (1 : Int) x14 x15 x17))))))))))))))))) ∧ (¬ (4 : Int) ≤ x23 → ((0 ≤ x17 ∧ x17 ≤ 2147483647) ∧ (0 ≤ ((8 : Int) + ((3 : Int) * x23)) ∧ ((8 : Int) + ((3 : Int) * x23)) < 32) ∧ (∀ z40 : Int, 0 ≤ z40 → z40 ≤ x17 → (∀ z41 : Int, 0 ≤ z41 → z41 ≤ 7 → ((0 ≤ z41 ∧ z41 ≤ 2147483647) ∧ (0 < (6 : Int) ∧ (6 : Int) ≤ 2147483647) ∧ (∀ z42 : Int, 0 ≤ z42 → z42 < (6 : Int) → z42 ≤ z41 → ((0 ≤ (((4 : Int) * x11) + x23) ∧ (((4 : Int) * x11) + x23) < 32) ∧ (∀ h43 : ISt, h43 = iset ha 4 (((4 : Int) * x11) + x23).toNat z42 → (V421 k hh hs hr h43 x9 x10 x11 x12 x14 x15 x17 (x23 + (1 : Int))))))))))))) → V421 k hh hs hr ha x9 x10 x11 x12 x14 x15 x17 x23) {k0 u : Nat} {x14 y : Int} (hE : EndV V1770 k0 x14 y u) (hk0 : k0 ≤ 9000) (hy : 0 ≤ y ∧ y ≤ 268435455) {k : Nat} {hh hs hr ha : ISt} {T A n G : Nat} (L : LawI hh hs hr ha T A n G) (hk : k ≤ k0) (E : Early u hh T A n) {d g t c z : Int} (hd : Deed u d)
    (h549 : d ≠ 1 ∨ 8 ≤ A → V549 k hh hs hr ha T G A n 1 x14 u y d g t c z) : V339 k hh hs hr ha T G A n 1 x14 u y d g t c z := by
  obtain ⟨li, ls, lt, lb, lh, lss, lr⟩ := L
  have bA := ls.1
  have bd : 0 ≤ d ∧ d ≤ 15 := ⟨hd.1, hd.2.1⟩
  have i0 : ((3 : Int) * (A : Int)).toNat = 3 * A := by omega
  have i1 : ((3 : Int) * (A : Int) + 1).toNat = 3 * A + 1 := by omega
  have i2 : ((3 : Int) * (A : Int) + 2).toNat = 3 * A + 2 := by omega
  refine k339 _ _ _ _ _ _ _ _ _ _ _ _ _ _ _ _ _ _ ⟨(by unfold inR; omega), fun c => h549 (Or.inl c), fun c => ⟨(by unfold inR; omega), fun c2 => h549 (Or.inr (by omega)), fun c2 => ⟨⟨by omega, by omega⟩, ⟨by omega, by omega⟩, fun z20 a20 b20 c20 => ⟨⟨by omega, by omega⟩, ?_⟩⟩⟩⟩
  rw [i0, i1, i2]
  refine fa ⟨⟨by omega, by omega⟩, ⟨by omega, by omega⟩, ⟨by omega, by omega⟩, fun z22 a22 b22 => ⟨⟨by omega, by omega⟩, ⟨by omega, by omega⟩, ?_⟩⟩
  have hv1 : iset ha 5 (3 * A) ((1 : Int) + z20) 5 (3 * A) = 1 + z20 := u_eq _ _ _
  rw [hv1]
  refine ⟨⟨by omega, by omega⟩, fun z23 a23 b23 c23 => ⟨⟨by omega, by omega⟩, fa ⟨⟨by omega, by omega⟩, ⟨by omega, by omega⟩, fun z25 a25 b25 z26 a26 b26 => ⟨⟨by omega, by omega⟩, fa ?_⟩⟩⟩⟩
  obtain ⟨hb, ehb⟩ : ∃ hb : ISt, hb = iset (iset (iset ha 5 (3 * A) ((1 : Int) + z20)) 5 (3 * A + 1) ((1 : Int) + z20 + z23)) 5 (3 * A + 2) ((5 : Int) + z26 * 15) := ⟨_, rfl⟩
  rw [← ehb]
  have hb5 : hb 5 = iupd (iupd (iupd (ha 5) (3 * A) ((1 : Int) + z20)) (3 * A + 1) ((1 : Int) + z20 + z23)) (3 * A + 2) ((5 : Int) + z26 * 15) := by rw [ehb]; rfl
  have hbo : ∀ j : Nat, j ≠ 5 → hb j = ha j := by
    intro j hj
    rw [ehb]
    show (if j = 5 then _ else if j = 5 then _ else if j = 5 then _ else ha j) = ha j
    rw [if_neg hj, if_neg hj, if_neg hj]
  have v50 : hb 5 (3 * A) = 1 + z20 := by rw [hb5, u_ne (by omega), u_ne (by omega), u_eq]
  have v51 : hb 5 (3 * A + 1) = 1 + z20 + z23 := by rw [hb5, u_ne (by omega), u_eq]
  have v52 : hb 5 (3 * A + 2) = 5 + z26 * 15 := by rw [hb5, u_eq]
  have loop : ∀ (j x : Nat), x + j = 4 → ∀ h' : ISt, (∀ i : Nat, i ≠ 4 → h' i = hb i) → (∀ i : Nat, i < 4 * A → h' 4 i = ha 4 i) → (∀ i : Nat, i < x → 0 ≤ h' 4 (4 * A + i) ∧ h' 4 (4 * A + i) ≤ 9) → V421 k hh hs hr h' T G A n x14 u y x := by
    intro j
    induction j with
    | zero =>
      intro x hx h' e1 e2 e3
      have hx : x = 4 := hx
      subst hx
      have w0 := e3 0 (by omega)
      have w1 := e3 1 (by omega)
      have w2 := e3 2 (by omega)
      have w3 := e3 3 (by omega)
      have j0 : ((4 : Int) * (A : Int)).toNat = 4 * A + 0 := by omega
      have j1 : ((4 : Int) * (A : Int) + 1).toNat = 4 * A + 1 := by omega
      have j2 : ((4 : Int) * (A : Int) + 2).toNat = 4 * A + 2 := by omega
      have j3 : ((4 : Int) * (A : Int) + 3).toNat = 4 * A + 3 := by omega
      have h5 := e1 5 (by omega)
      refine k421 _ _ _ _ _ _ _ _ _ _ _ _ _ ⟨(by unfold inR; omega), bt (by omega) ⟨⟨by omega, by omega⟩, ⟨by omega, by omega⟩, ⟨by omega, by omega⟩, ⟨by omega, by omega⟩, ⟨by omega, by omega⟩, ⟨by omega, by omega⟩, ⟨by omega, by omega⟩, by omega, ?_⟩⟩
      rw [i0, i1, i2, j0, j1, j2, j3, h5, v50, v51, v52]
      have sj := titled_i ls (by omega : A < 8) (a1 := 1 + z20) (a2 := 1 + z20 + z23) (a3 := 5 + z26 * 15) (by omega) (by omega) (by omega) w0 w1 w2 w3
      have e0 : titled hs A (1 + z20) (1 + z20 + z23) (5 + z26 * 15) (h' 4 (4 * A + 0)) (h' 4 (4 * A + 1)) (h' 4 (4 * A + 2)) (h' 4 (4 * A + 3)) 0 0 = ((A + 1 : Nat) : Int) := sj.1.1
      have d0 : dpt hr A = 0 := by
        unfold dpt
        rw [lb.2.1 A (Nat.le_refl _) (by omega)]
        rfl
      have lb' : BooksI hr (A + 1) := ⟨lb.1, fun t h1 h2 => lb.2.1 t (by omega) h2, lb.2.2⟩
      have qd := q_dpt (hh := hh) (t := A) e0 (by omega) lb' (by omega)
      rw [d0] at qd
      refine n_addTitle ls (by omega) (by omega) (by omega) (by omega) w0 w1 w2 w3 ⟨(by unfold inR; omega), (by unfold inR; omega), nf rfl ⟨by omega, 0, qd, R0, nf rfl ?_⟩⟩
      have zz := hE k hh _ hr h' T (A + 1) n G ⟨li, sj, lt, lb', ?_, ?_, ?_⟩ (by omega) (E.more (by omega) (by omega) (by omega) (fun _ => rfl) (by omega))
      · rw [show ((A + 1 : Nat) : Int) = (A : Int) + 1 by omega] at zz
        exact zz
      · exact rowsH_c lh (by rw [e1 0 (by omega), hbo 0 (by omega)]) (by rw [e1 1 (by omega), hbo 1 (by omega)]) (by rw [e1 2 (by omega), hbo 2 (by omega)]) rfl rfl rfl
      · refine ⟨fun c hc => ?_, fun i hi => ?_, fun t ht => ?_⟩
        · rw [e1 3 (by omega), hbo 3 (by omega)]
          exact lss.1 c hc
        · rw [titled_4]
          rcases u4_or (4 * A) i (by omega) (h' 4 (4 * A + 0)) (h' 4 (4 * A + 1)) (h' 4 (4 * A + 2)) (h' 4 (4 * A + 3)) with ⟨h, e⟩ | ⟨h, e⟩ | ⟨h, e⟩ | ⟨h, e⟩ | ⟨h, e⟩
          · rw [e, e2 i h]; exact lss.2.1 i h
          · rw [e, h]; rfl
          · rw [e, h]
          · rw [e, h]
          · rw [e, h]
        · rw [h5]
          show hb 5 (3 * t) = iupd (hs 1) A (1 + z20) t ∧ hb 5 (3 * t + 1) = iupd (hs 2) A (1 + z20 + z23) t ∧ hb 5 (3 * t + 2) = iupd (hs 3) A (5 + z26 * 15) t
          by_cases e : t = A
          · rw [e, u_eq, u_eq, u_eq]
            exact ⟨v50, v51, v52⟩
          · have q := lss.2.2 t (by omega)
            rw [u_ne e, u_ne e, u_ne e, hb5, u_ne (by omega), u_ne (by omega), u_ne (by omega), u_ne (by omega), u_ne (by omega), u_ne (by omega), u_ne (by omega), u_ne (by omega), u_ne (by omega)]
            exact q
      · intro t ht
        rw [e1 6 (by omega), hbo 6 (by omega)]
        exact lr t ht
    | succ j ih =>
      intro x hx h' e1 e2 e3
      refine k421 _ _ _ _ _ _ _ _ _ _ _ _ _ ⟨(by unfold inR; omega), bf (by omega) ⟨⟨by omega, by omega⟩, ⟨by omega, by omega⟩, fun z40 a40 b40 z41 a41 b41 => ⟨⟨by omega, by omega⟩, ⟨by omega, by omega⟩, fun z42 a42 b42 c42 => ⟨⟨by omega, by omega⟩, fa ?_⟩⟩⟩⟩
      have jx : ((4 : Int) * (A : Int) + (x : Int)).toNat = 4 * A + x := by omega
      rw [jx]
      have zz := ih (x + 1) (by omega) (iset h' 4 (4 * A + x) z42) (fun i hi => ?_) (fun i hi => ?_) (fun i hi => ?_)
      · rw [show ((x + 1 : Nat) : Int) = (x : Int) + 1 by omega] at zz
        exact zz
      · rw [← e1 i hi]
        show (if i = 4 then _ else h' i) = h' i
        rw [if_neg hi]
      · show iupd (h' 4) (4 * A + x) z42 i = ha 4 i
        rw [u_ne (by omega)]
        exact e2 i hi
      · show 0 ≤ iupd (h' 4) (4 * A + x) z42 (4 * A + i) ∧ iupd (h' 4) (4 * A + x) z42 (4 * A + i) ≤ 9
        by_cases e : i = x
        · rw [e, u_eq]
          omega
        · rw [u_ne (by omega)]
          exact e3 i (by omega)
  exact loop 4 0 rfl hb (fun _ _ => rfl) (fun i _ => by rw [hbo 4 (by omega)]) (fun i hi => absurd hi (by omega))
set_option maxHeartbeats 4000000 in
theorem br_copy {V549 : Nat → ISt → ISt → ISt → ISt → Int → Int → Int → Int → Int → Int → Int → Int → Int → Int → Int → Int → Int → Prop} {V611 : Nat → ISt → ISt → ISt → ISt → Int → Int → Int → Int → Int → Int → Int → Int → Int → Int → Int → Int → Int → Prop} {V1770 : Nat → ISt → ISt → ISt → ISt → Int → Int → Int → Int → Int → Int → Int → Int → Prop} (k549 : ∀ (k : Nat) (hh hs hr ha : ISt) (x9 x10 x11 x12 x13 x14 x15 x17 x18 x19 x20 x21 x22 : Int), (inR x18 ∧ ((¬ x18 = (2 : Int) → (V611 k hh hs hr ha x9 x10 x11 x12 x13 x14 x15 x17 x18 x19 x20 x21 x22)) ∧ (x18 = (2 : Int) → (inR x12 ∧ (((16 : Int) ≤ x12 → (V611 k hh hs hr ha x9 x10 x11 x12 x13 x14 x15 x17 x18 x19 x20 x21 x22)) ∧ (¬ (16 : Int) ≤ x12 → ((0 ≤ x12 ∧ x12 < 16) ∧ (∀ h28 : ISt, h28 = iset ha 3 x12.toNat x20 → (k ≤ 10000 ∧ Qn_X4_addCopy hh hs hr x20 (fun (r29 : Int) (hh30 hs31 hr32 : ISt) => inR r29 ∧ inR x12 ∧ ((¬ r29 = x12 → (V1770 k hh30 hs31 hr32 h28 x9 x10 x11 (x12 + (1 : Int)) (0 : Int) x14 x15 x17)) ∧ (r29 = x12 → (k ≤ 10000 ∧ ∃ r33 : Int, Qn_X4_stateOf hh30 hs31 hr32 x12 r33 ∧ (inR r33 ∧ ((¬ r33 = (0 : Int) → (V1770 k hh30 hs31 hr32 h28 x9 x10 x11 (x12 + (1 : Int)) (0 : Int) x14 x15 x17)) ∧ (r33 = (0 : Int) → (k ≤ 10000 ∧ ∃ r34 : Int, Qn_X4_lenders hh30 hs31 hr32 x12 r34 ∧ (inR r34 ∧ ((¬ r34 = (0 : Int) → (V1770 k hh30 hs31 hr32 h28 x9 x10 x11 (x12 + (1 : Int)) (0 : Int) x14 x15 x17)) ∧ (r34 = (0 : Int) → (V1770 k hh30 hs31 hr32 h28 x9 x10 x11 (x12 + (1 : Int)) (1 : Int) x14 x15 x17))))))))))))))))))))) → V549 k hh hs hr ha x9 x10 x11 x12 x13 x14 x15 x17 x18 x19 x20 x21 x22) {k0 u : Nat} {x14 y : Int} (hE : EndV V1770 k0 x14 y u) (hk0 : k0 ≤ 9000) {k : Nat} {hh hs hr ha : ISt} {T A n G : Nat} (L : LawI hh hs hr ha T A n G) (hk : k ≤ k0) (E : Early u hh T A n) {d g t c z : Int} (hd : Deed u d) (ht : Pick t A)
    (h611 : d ≠ 2 ∨ 16 ≤ n → V611 k hh hs hr ha T G A n 1 x14 u y d g t c z) : V549 k hh hs hr ha T G A n 1 x14 u y d g t c z := by
  obtain ⟨li, ls, lt, lb, lh, lss, lr⟩ := L
  have bA := ls.1
  have bn := ls.2.1
  have bd : 0 ≤ d ∧ d ≤ 15 := ⟨hd.1, hd.2.1⟩
  have iN : (n : Int).toNat = n := Int.toNat_natCast n
  refine k549 _ _ _ _ _ _ _ _ _ _ _ _ _ _ _ _ _ _ ⟨(by unfold inR; omega), fun c => h611 (Or.inl c), fun c => ⟨(by unfold inR; omega), fun c2 => h611 (Or.inr (by omega)), fun c2 => ⟨⟨by omega, by omega⟩, fa ?_⟩⟩⟩
  rw [iN]
  have u5 : 5 ≤ u := by
    have := hd.2.2.1
    have := hd.2.2.2.1
    omega
  have A1 := E.2.2.2.1 (by omega)
  obtain ⟨t', et⟩ := nat_of ht.1
  subst et
  have tA : t' < A := by
    have := ht.2
    omega
  have sj := copied_i ls (by omega : n < 16) tA
  obtain ⟨ln, hl⟩ := ln_ex sj
  have new := ls.2.2.2.2.2.2.1 n (Nat.le_refl _) (by omega)
  have w0 : whr (copied hs n t') n = 0 := whr_0 new.2.1 new.2.2
  have lk0 : ∀ j : Nat, j < 4 → lk (copied hs n t') n j = 0 := by
    intro j hj
    have e5 : copied hs n t' 5 n = t' := u_eq _ _ _
    unfold lk
    rw [e5, Int.toNat_natCast, copied_new _ _ _ _ hj]
    show hs 4 (4 * t' + j) - hs 4 (4 * t' + j) = 0
    omega
  have l0 : ln n = 0 := ((hl n (by omega)).2.2.2.2.2 w0).mpr lk0
  have qs := n_stateOf (hh := hh) (hr := hr) sj (by omega : n < n + 1)
  have ql := n_lenders (hh := hh) (hr := hr) sj hl (by omega : n < n + 1)
  rw [w0] at qs
  rw [l0] at ql
  refine ⟨by omega, n_addCopy ls (by omega) tA ⟨(by unfold inR; omega), (by unfold inR; omega), nf rfl ⟨by omega, 0, qs, R0, nf rfl ⟨by omega, 0, ql, R0, nf rfl ?_⟩⟩⟩⟩
  have zz := hE k hh (copied hs n t') hr (iset ha 3 n t') T A (n + 1) G ⟨li, sj, ?_, lb, lh, ⟨?_, lss.2.1, lss.2.2⟩, lr⟩ (by omega) (E.more (by omega) (by omega) (by omega) (fun _ => by omega) (by omega))
  · rw [show ((n + 1 : Nat) : Int) = (n : Int) + 1 by omega] at zz
    exact zz
  · intro x hx h
    have h : hs 6 x ≠ -1 := h
    show hh 6 (hs 6 x).toNat = 1
    by_cases e : x = n
    · subst e
      omega
    · exact lt x (by omega) h
  · intro x hx
    show iupd (ha 3) n t' x = iupd (hs 5) n t' x
    by_cases e : x = n
    · rw [e, u_eq, u_eq]
    · rw [u_ne e, u_ne e]
      exact lss.1 x (by omega)
set_option maxHeartbeats 4000000 in
theorem br_rule {V611 : Nat → ISt → ISt → ISt → ISt → Int → Int → Int → Int → Int → Int → Int → Int → Int → Int → Int → Int → Int → Prop} {V771 : Nat → ISt → ISt → ISt → ISt → Int → Int → Int → Int → Int → Int → Int → Int → Int → Int → Int → Int → Int → Prop} {V644 : Nat → ISt → ISt → ISt → ISt → Int → Int → Int → Int → Int → Int → Int → Int → Prop} {V658 : Nat → ISt → ISt → ISt → ISt → Int → Int → Int → Int → Int → Int → Int → Int → Int → Prop} {V749 : Nat → ISt → ISt → ISt → ISt → Int → Int → Int → Int → Int → Int → Int → Int → Int → Int → Prop} {V756 : Nat → ISt → ISt → ISt → ISt → Int → Int → Int → Int → Int → Int → Int → Int → Prop} {V757 : Nat → ISt → ISt → ISt → ISt → Int → Int → Int → Int → Int → Int → Int → Int → Int → Prop} {V1770 : Nat → ISt → ISt → ISt → ISt → Int → Int → Int → Int → Int → Int → Int → Int → Prop} (k611 : ∀ (k : Nat) (hh hs hr ha : ISt) (x9 x10 x11 x12 x13 x14 x15 x17 x18 x19 x20 x21 x22 : Int), (inR x18 ∧ (((4 : Int) ≤ x18 → (V771 k hh hs hr ha x9 x10 x11 x12 x13 x14 x15 x17 x18 x19 x20 x21 x22)) ∧ (¬ (4 : Int) ≤ x18 → ((0 ≤ x20 ∧ x20 < 8) ∧ (inR (ha 6 x20.toNat) ∧ (((12 : Int) ≤ (ha 6 x20.toNat) → (V771 k hh hs hr ha x9 x10 x11 x12 x13 x14 x15 x17 x18 x19 x20 x21 x22)) ∧ (¬ (12 : Int) ≤ (ha 6 x20.toNat) → ((0 ≤ x20 ∧ x20 < 8) ∧ (inR (ha 6 x20.toNat) ∧ (((ha 6 x20.toNat) = (0 : Int) → (V644 k hh hs hr ha x9 x10 x11 x12 x14 x15 x17 x20)) ∧ (¬ (ha 6 x20.toNat) = (0 : Int) → ((0 ≤ x17 ∧ x17 ≤ 2147483647) ∧ (0 ≤ (3 : Int) ∧ (3 : Int) < 32) ∧ (∀ z49 : Int, 0 ≤ z49 → z49 ≤ x17 → (∀ z50 : Int, 0 ≤ z50 → z50 ≤ 3 → (inR z50 ∧ ((¬ z50 = (0 : Int) → ((0 ≤ x17 ∧ x17 ≤ 2147483647) ∧ (0 ≤ (5 : Int) ∧ (5 : Int) < 32) ∧ (∀ z51 : Int, 0 ≤ z51 → z51 ≤ x17 → ((0 ≤ x20 ∧ x20 < 8) ∧ ((0 ≤ z51 ∧ z51 ≤ 2147483647) ∧ (0 < (ha 6 x20.toNat) ∧ (ha 6 x20.toNat) ≤ 2147483647) ∧ (∀ z52 : Int, 0 ≤ z52 → z52 < (ha 6 x20.toNat) → z52 ≤ z51 → (V658 k hh hs hr ha x9 x10 x11 x12 x14 x15 x17 x20 z52))))))) ∧ (z50 = (0 : Int) → (V644 k hh hs hr ha x9 x10 x11 x12 x14 x15 x17 x20)))))))))))))))))) → V611 k hh hs hr ha x9 x10 x11 x12 x13 x14 x15 x17 x18 x19 x20 x21 x22) (k644 : ∀ (k : Nat) (hh hs hr ha : ISt) (x9 x10 x11 x12 x14 x15 x17 x20 : Int), (V658 k hh hs hr ha x9 x10 x11 x12 x14 x15 x17 x20 (-1 : Int)) → V644 k hh hs hr ha x9 x10 x11 x12 x14 x15 x17 x20) (k658 : ∀ (k : Nat) (hh hs hr ha : ISt) (x9 x10 x11 x12 x14 x15 x17 x20 t0 : Int), (k ≤ 10000 ∧ ∃ r57 : Int, Qn_X4_depth hh hs hr x20 r57 ∧ ((0 ≤ x17 ∧ x17 ≤ 2147483647) ∧ (0 ≤ (9 : Int) ∧ (9 : Int) < 32) ∧ (∀ z58 : Int, 0 ≤ z58 → z58 ≤ x17 → (∀ z59 : Int, 0 ≤ z59 → z59 ≤ 3 → ((0 ≤ x17 ∧ x17 ≤ 2147483647) ∧ (0 ≤ (11 : Int) ∧ (11 : Int) < 32) ∧ (∀ z60 : Int, 0 ≤ z60 → z60 ≤ x17 → ((0 ≤ z60 ∧ z60 ≤ 2147483647) ∧ (0 < (40 : Int) ∧ (40 : Int) ≤ 2147483647) ∧ (∀ z61 : Int, 0 ≤ z61 → z61 < (40 : Int) → z61 ≤ z60 → ((0 ≤ x17 ∧ x17 ≤ 2147483647) ∧ (0 ≤ (18 : Int) ∧ (18 : Int) < 32) ∧ (∀ z62 : Int, 0 ≤ z62 → z62 ≤ x17 → ((0 ≤ z62 ∧ z62 ≤ 2147483647) ∧ (0 < (100 : Int) ∧ (100 : Int) ≤ 2147483647) ∧ (∀ z63 : Int, 0 ≤ z63 → z63 < (100 : Int) → z63 ≤ z62 → (k ≤ 10000 ∧ Qn_X4_addRule hh hs hr x20 t0 z59 ((1 : Int) + z61) z63 (fun (r64 : Int) (hh65 hs66 hr67 : ISt) => (0 ≤ x20 ∧ x20 < 8) ∧ (inR r64 ∧ inR (ha 6 x20.toNat) ∧ ((¬ r64 = (ha 6 x20.toNat) → (V756 k hh65 hs66 hr67 ha x9 x10 x11 x12 x14 x15 x17 x20)) ∧ (r64 = (ha 6 x20.toNat) → (k ≤ 10000 ∧ ∃ r68 : Int, Qn_X4_depth hh65 hs66 hr67 x20 r68 ∧ (inR r68 ∧ inR r57 ∧ ((r68 < r57 → (V756 k hh65 hs66 hr67 ha x9 x10 x11 x12 x14 x15 x17 x20)) ∧ (¬ r68 < r57 → (k ≤ 10000 ∧ ∃ r69 : Int, Qn_X4_depth hh65 hs66 hr67 x20 r69 ∧ (inR r69 ∧ inR (r57 + (1 : Int)) ∧ (((r57 + (1 : Int)) < r69 → (V756 k hh65 hs66 hr67 ha x9 x10 x11 x12 x14 x15 x17 x20)) ∧ (¬ (r57 + (1 : Int)) < r69 → (k ≤ 10000 ∧ ∃ r70 : Int, Qn_X4_depth hh65 hs66 hr67 x20 r70 ∧ (inR t0 ∧ (((0 : Int) ≤ t0 → (V749 k hh65 hs66 hr67 ha x9 x10 x11 x12 x14 x15 x17 x20 (2 : Int) r70)) ∧ (¬ (0 : Int) ≤ t0 → (V749 k hh65 hs66 hr67 ha x9 x10 x11 x12 x14 x15 x17 x20 (1 : Int) r70)))))))))))))))))))))))))))))) → V658 k hh hs hr ha x9 x10 x11 x12 x14 x15 x17 x20 t0) (k749 : ∀ (k : Nat) (hh hs hr ha : ISt) (x9 x10 x11 x12 x14 x15 x17 x20 t0 t1 : Int), (inR t1 ∧ inR t0 ∧ ((t1 < t0 → (V756 k hh hs hr ha x9 x10 x11 x12 x14 x15 x17 x20)) ∧ (¬ t1 < t0 → (V757 k hh hs hr ha x9 x10 x11 x12 x14 x15 x17 x20 (1 : Int))))) → V749 k hh hs hr ha x9 x10 x11 x12 x14 x15 x17 x20 t0 t1) (k757 : ∀ (k : Nat) (hh hs hr ha : ISt) (x9 x10 x11 x12 x14 x15 x17 x20 t0 : Int), ((0 ≤ x20 ∧ x20 < 8) ∧ ((0 ≤ x20 ∧ x20 < 8) ∧ (∀ h113 : ISt, h113 = iset ha 6 x20.toNat ((ha 6 x20.toNat) + (1 : Int)) → (V1770 k hh hs hr h113 x9 x10 x11 x12 t0 x14 x15 x17)))) → V757 k hh hs hr ha x9 x10 x11 x12 x14 x15 x17 x20 t0) {k0 u : Nat} {x14 y : Int} (hE : EndV V1770 k0 x14 y u) (hk0 : k0 ≤ 9000) (hy : 0 ≤ y ∧ y ≤ 268435455) {k : Nat} {hh hs hr ha : ISt} {T A n G : Nat} (L : LawI hh hs hr ha T A n G) (hk : k ≤ k0) (E : Early u hh T A n) {d g t c z : Int} (hd : Deed u d) (ht : Pick t A) (hdn : (d = 0 → 10 ≤ T) ∧ (d = 1 → 8 ≤ A) ∧ (d = 2 → 16 ≤ n))
    (h771 : V771 k hh hs hr ha T G A n 1 x14 u y d g t c z) : V611 k hh hs hr ha T G A n 1 x14 u y d g t c z := by
  obtain ⟨li, ls, lt, lb, lh, lss, lr⟩ := L
  have bA := ls.1
  have bd : 0 ≤ d ∧ d ≤ 15 := ⟨hd.1, hd.2.1⟩
  refine k611 _ _ _ _ _ _ _ _ _ _ _ _ _ _ _ _ _ _ ⟨(by unfold inR; omega), fun _ => h771, fun c => ?_⟩
  have u4 : 4 ≤ u := by
    have e := E
    have f := hd
    unfold Early at e
    unfold Deed at f
    omega
  have A1 := E.2.2.2.1 u4
  obtain ⟨t', et⟩ := nat_of ht.1
  subst et
  have tA : t' < A := by
    have := ht.2
    omega
  obtain ⟨N, eN, hR⟩ := rules_ok lb (by omega : t' < 8)
  have bN := hR.2.2.1
  have it : (t' : Int).toNat = t' := Int.toNat_natCast t'
  have a6 : ha 6 t' = N := by rw [lr t' (by omega), eN]
  rw [it, a6]
  refine ⟨⟨by omega, by omega⟩, (by unfold inR; omega), fun _ => h771, fun c2 => ?_⟩
  have body : ∀ up : Int, -1 ≤ up → up < N → V658 k hh hs hr ha T G A n x14 u y t' up := by
    intro up u0 u1
    have db := dpt_b hr t'
    have qd := q_dpt (hh := hh) (t := t') ls.1.1 bA.2 lb tA
    refine k658 _ _ _ _ _ _ _ _ _ _ _ _ _ _ ⟨by omega, _, qd, ⟨by omega, by omega⟩, ⟨by omega, by omega⟩, fun z58 a58 b58 z59 a59 b59 => ⟨⟨by omega, by omega⟩, ⟨by omega, by omega⟩, fun z60 a60 b60 => ⟨⟨by omega, by omega⟩, ⟨by omega, by omega⟩, fun z61 a61 b61 c61 => ⟨⟨by omega, by omega⟩, ⟨by omega, by omega⟩, fun z62 a62 b62 => ⟨⟨by omega, by omega⟩, ⟨by omega, by omega⟩, fun z63 a63 b63 c63 => ⟨by omega, ?_⟩⟩⟩⟩⟩⟩
    have lb' := ruled_i lb tA bA.2 eN (by omega) (a2 := up) (a3 := z59) (a4 := 1 + z61) (a5 := z63) ⟨u0, u1⟩ (by omega) (by omega) (by omega)
    have db' := dpt_b (ruled hr t' N up z59 (1 + z61) z63) t'
    have dm := dpt_more lb (by omega : t' < 8) eN (a2 := up) (a3 := z59) (a4 := 1 + z61) (a5 := z63) ⟨u0, u1⟩
    have qd' := q_dpt (hh := hh) (t := t') ls.1.1 bA.2 lb' tA
    refine n_addRule ls lb tA eN (by omega) ⟨u0, u1⟩ (by omega) (by omega) (by omega) ?_
    rw [it, a6]
    have fin : V757 k hh hs (ruled hr t' N up z59 (1 + z61) z63) ha T G A n x14 u y t' 1 := by
      refine k757 _ _ _ _ _ _ _ _ _ _ _ _ _ _ ⟨⟨by omega, by omega⟩, ⟨by omega, by omega⟩, fa ?_⟩
      rw [it, a6]
      refine hE k hh hs _ _ T A n G ⟨li, ls, lt, lb', lh, lss, fun x hx => ?_⟩ (by omega) (E.more (by omega) (by omega) (by omega) (fun h => by omega) (by omega))
      show iupd (ha 6) t' ((N : Int) + 1) x = iupd (hr 1) t' ((N : Int) + 1) x
      by_cases e : x = t'
      · rw [e, u_eq, u_eq]
      · rw [u_ne e, u_ne e]
        exact lr x hx
    refine ⟨⟨by omega, by omega⟩, (by unfold inR; omega), (by unfold inR; omega), nf rfl ⟨by omega, _, qd', (by unfold inR; omega), (by unfold inR; omega), bf (by omega) ⟨by omega, _, qd', (by unfold inR; omega), (by unfold inR; omega), bf (by omega) ⟨by omega, _, qd', (by unfold inR; omega), fun c => ?_, fun c => ?_⟩⟩⟩⟩
    · rw [if_neg (by omega)] at dm
      exact k749 _ _ _ _ _ _ _ _ _ _ _ _ _ _ _ ⟨(by unfold inR; omega), (by unfold inR; omega), bf (by omega) fin⟩
    · rw [if_pos (by omega)] at dm
      exact k749 _ _ _ _ _ _ _ _ _ _ _ _ _ _ _ ⟨(by unfold inR; omega), (by unfold inR; omega), bf (by omega) fin⟩
  have none : V644 k hh hs hr ha T G A n x14 u y t' := k644 _ _ _ _ _ _ _ _ _ _ _ _ _ (body (-1) (by omega) (by omega))
  refine ⟨⟨by omega, by omega⟩, (by unfold inR; omega), fun _ => none, fun c3 => ⟨⟨by omega, by omega⟩, ⟨by omega, by omega⟩, fun z49 a49 b49 z50 a50 b50 => ⟨(by unfold inR; omega), fun _ => ⟨⟨by omega, by omega⟩, ⟨by omega, by omega⟩, fun z51 a51 b51 => ⟨⟨by omega, by omega⟩, ⟨by omega, by omega⟩, ⟨by omega, by omega⟩, fun z52 a52 b52 c52 => body z52 (by omega) b52⟩⟩, fun _ => none⟩⟩⟩
